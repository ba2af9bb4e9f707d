set_option maxHeartbeats 4000000 in
set_option maxRecDepth 100000 in
theorem c_X7_in (l : Launch) (D : va_G) (cyI cyZ : ClassId) (N : Nat) (x0 : Int32) (x1 : Int32) (x2 : Int32) {r0 : Int32}  (hF : p_X7_in N x0 x1 x2 = some (r0)) : Met l yX7_in wsX7_in ({ frames := 0, cells := 0, slots := 0, locals := 0 }) (x_PR D cyI cyZ [.int x0, .int x1, .int x2] []) (x_QR r0) 0 0 (fun _ => False) := by
  refine Met.ofW (cc := cX7_in) (maxL := 3) (ret := (some .boolean)) (by decide) rfl ?_
  intro p e s m args below meth c s₁ B hml hv
  obtain ⟨rfl, hP, hK⟩ := hv
  have hx := B.exec
  have hb := B.bytes
  have hr := B.returns
  have hts := atoms_spec (ws := wsX7_in) B.pre
  have hown : s.vm.findClass RX7 = some m.cls := findClass_of_methodNamed B.named
  have hlocks := B.notSynchronized
  have hS : va_S (fun _ => False) s.heap s.heap [] := va_S.rf
  have hP : va_P D vwCl [] s.heap := hP
  have hl := lv_entry ([.int x0, .int x1, .int x2]) (n := 3) (Nat.le_of_ble_eq_true rfl)
  rw [lg_entry_eq]
  generalize (lg_sl ([.int x0, .int x1, .int x2]) ++ List.replicate (3 - (lg_sl ([.int x0, .int x1, .int x2])).length) Slot.unset).toArray = ls at hl ⊢
  have hl : lv_has ls 3 [(0, .int x0), (1, .int x1), (2, .int x2)] := hl
  unfold p_X7_in at hF
  refine lv_iload_n hx hb dX7_in_0 rfl (lv_at hl 0 rfl) ?_
  refine lv_iload_n hx hb dX7_in_1 rfl (lv_at hl 1 rfl) ?_
  refine lv_icmp_lt (tgt := 14) hx hb dX7_in_2 (by decide) (fun hc => ?_) (fun hc => ?_)
  · have hF := k_if_t hF hc
    refine lv_iconst (v := (0 : Int32)) hx hb dX7_in_14 (by decide) ?_
    exact W.zret hx hb hr rfl (fun t ht hW => ⟨⟨_, (), rfl, Option.some.inj hF, trivial⟩, hS.F ht⟩) hS.2.2 dX7_in_15
  · have hF := k_if_f hF hc
    refine lv_iload_n hx hb dX7_in_5 rfl (lv_at hl 0 rfl) ?_
    refine lv_iload_n hx hb dX7_in_6 rfl (lv_at hl 2 rfl) ?_
    refine lv_icmp_gt (tgt := 14) hx hb dX7_in_7 (by decide) (fun hc => ?_) (fun hc => ?_)
    · have hF := k_if_t hF hc
      refine lv_iconst (v := (0 : Int32)) hx hb dX7_in_14 (by decide) ?_
      exact W.zret hx hb hr rfl (fun t ht hW => ⟨⟨_, (), rfl, Option.some.inj hF, trivial⟩, hS.F ht⟩) hS.2.2 dX7_in_15
    · have hF := k_if_f hF hc
      refine lv_iconst (v := (1 : Int32)) hx hb dX7_in_10 (by decide) ?_
      refine lv_goto (tgt := 15) hx hb dX7_in_11 (by decide) ?_
      exact W.zret hx hb hr rfl (fun t ht hW => ⟨⟨_, (), rfl, Option.some.inj hF, trivial⟩, hS.F ht⟩) hS.2.2 dX7_in_15
set_option maxHeartbeats 4000000 in
set_option maxRecDepth 100000 in
theorem c_X7_isSetting (l : Launch) (D : va_G) (cyI cyZ : ClassId) (N : Nat) (x0 : Int32) (x1 : Int32) {r0 : Int32}  (hF : p_X7_isSetting N x0 x1 = some (r0)) : Met l yX7_isSetting wsX7_isSetting ({ frames := 1, cells := 0, slots := 0, locals := 22 }) (x_PR D cyI cyZ [.int x0, .int x1] []) (x_QR r0) 0 0 (fun _ => False) := by
  refine Met.ofW (cc := cX7_isSetting) (maxL := 2) (ret := (some .boolean)) (by decide) rfl ?_
  intro p e s m args below meth c s₁ B hml hv
  obtain ⟨rfl, hP, hK⟩ := hv
  have hx := B.exec
  have hb := B.bytes
  have hr := B.returns
  have hts := atoms_spec (ws := wsX7_isSetting) B.pre
  have hown : s.vm.findClass RX7 = some m.cls := findClass_of_methodNamed B.named
  have hlocks := B.notSynchronized
  have hS : va_S (fun _ => False) s.heap s.heap [] := va_S.rf
  have hP : va_P D vwCl [] s.heap := hP
  have hl := lv_entry ([.int x0, .int x1]) (n := 2) (Nat.le_of_ble_eq_true rfl)
  rw [lg_entry_eq]
  generalize (lg_sl ([.int x0, .int x1]) ++ List.replicate (2 - (lg_sl ([.int x0, .int x1])).length) Slot.unset).toArray = ls at hl ⊢
  have hl : lv_has ls 2 [(0, .int x0), (1, .int x1)] := hl
  unfold p_X7_isSetting at hF
  refine lv_iload_n hx hb dX7_isSetting_0 rfl (lv_at hl 0 rfl) ?_
  by_cases h0 : x0 = (0 : Int32)
  · have hF := k_if_t hF h0
    refine lv_tableIn (tgt := 28) (off := 27) hx hb dX7_isSetting_1 (by rw [h0]; decide) (by rw [h0]; decide) (by rw [h0]; decide) (by decide) ?_
    refine lv_iload_n hx hb dX7_isSetting_28 rfl (lv_at hl 1 rfl) ?_
    refine lv_iconst (v := (0 : Int32)) hx hb dX7_isSetting_29 (by decide) ?_
    refine lv_bipush (v := (30 : Int32)) hx hb dX7_isSetting_30 (by decide) ?_
    obtain ⟨r32, hC, hF⟩ := k_c1_ex hF
    refine x_SR (As := [.int x1, .int (0 : Int32), .int (30 : Int32)]) (rest := []) ⟨hx, hb, hml, hown, hts⟩ (c_X7_in l D cyI cyZ N x1 (0 : Int32) (30 : Int32) hC) (va_cwS 3 hts gX7_isSetting_X7_in rfl rfl rfl (by decide +kernel) ⟨Nat.le_of_ble_eq_true rfl, Nat.le_of_ble_eq_true rfl⟩) hK hP hS [] rfl rfl hl.1 rfl (Nat.le_of_ble_eq_true rfl) ⟨Nat.zero_le _, Nat.zero_le _⟩ dX7_isSetting_32 (fun H locs hP hS => ?_)
    obtain ⟨hbit, hF⟩ := k_bit_ex hF
    exact W.zret hx hb hr (congrArg Value.int hbit) (fun t ht hW => ⟨⟨_, (), rfl, Option.some.inj hF, trivial⟩, hS.F ht⟩) hS.2.2 dX7_isSetting_35
  · have hF := k_if_f hF h0
    by_cases h1 : x0 = (1 : Int32)
    · have hF := k_if_t hF h1
      refine lv_tableIn (tgt := 28) (off := 27) hx hb dX7_isSetting_1 (by rw [h1]; decide) (by rw [h1]; decide) (by rw [h1]; decide) (by decide) ?_
      refine lv_iload_n hx hb dX7_isSetting_28 rfl (lv_at hl 1 rfl) ?_
      refine lv_iconst (v := (0 : Int32)) hx hb dX7_isSetting_29 (by decide) ?_
      refine lv_bipush (v := (30 : Int32)) hx hb dX7_isSetting_30 (by decide) ?_
      obtain ⟨r32, hC, hF⟩ := k_c1_ex hF
      refine x_SR (As := [.int x1, .int (0 : Int32), .int (30 : Int32)]) (rest := []) ⟨hx, hb, hml, hown, hts⟩ (c_X7_in l D cyI cyZ N x1 (0 : Int32) (30 : Int32) hC) (va_cwS 3 hts gX7_isSetting_X7_in rfl rfl rfl (by decide +kernel) ⟨Nat.le_of_ble_eq_true rfl, Nat.le_of_ble_eq_true rfl⟩) hK hP hS [] rfl rfl hl.1 rfl (Nat.le_of_ble_eq_true rfl) ⟨Nat.zero_le _, Nat.zero_le _⟩ dX7_isSetting_32 (fun H locs hP hS => ?_)
      obtain ⟨hbit, hF⟩ := k_bit_ex hF
      exact W.zret hx hb hr (congrArg Value.int hbit) (fun t ht hW => ⟨⟨_, (), rfl, Option.some.inj hF, trivial⟩, hS.F ht⟩) hS.2.2 dX7_isSetting_35
    · have hF := k_if_f hF h1
      by_cases h2 : x0 = (2 : Int32)
      · have hF := k_if_t hF h2
        refine lv_tableIn (tgt := 36) (off := 35) hx hb dX7_isSetting_1 (by rw [h2]; decide) (by rw [h2]; decide) (by rw [h2]; decide) (by decide) ?_
        refine lv_iload_n hx hb dX7_isSetting_36 rfl (lv_at hl 1 rfl) ?_
        refine lv_iconst (v := (1 : Int32)) hx hb dX7_isSetting_37 (by decide) ?_
        refine lv_bipush (v := (99 : Int32)) hx hb dX7_isSetting_38 (by decide) ?_
        obtain ⟨r40, hC, hF⟩ := k_c1_ex hF
        refine x_SR (As := [.int x1, .int (1 : Int32), .int (99 : Int32)]) (rest := []) ⟨hx, hb, hml, hown, hts⟩ (c_X7_in l D cyI cyZ N x1 (1 : Int32) (99 : Int32) hC) (va_cwS 3 hts gX7_isSetting_X7_in rfl rfl rfl (by decide +kernel) ⟨Nat.le_of_ble_eq_true rfl, Nat.le_of_ble_eq_true rfl⟩) hK hP hS [] rfl rfl hl.1 rfl (Nat.le_of_ble_eq_true rfl) ⟨Nat.zero_le _, Nat.zero_le _⟩ dX7_isSetting_40 (fun H locs hP hS => ?_)
        obtain ⟨hbit, hF⟩ := k_bit_ex hF
        exact W.zret hx hb hr (congrArg Value.int hbit) (fun t ht hW => ⟨⟨_, (), rfl, Option.some.inj hF, trivial⟩, hS.F ht⟩) hS.2.2 dX7_isSetting_43
      · have hF := k_if_f hF h2
        have q0 := lv_neT (k := (0 : Int32)) (a := 0) h0 (by decide)
        have q1 := lv_neT (k := (1 : Int32)) (a := 1) h1 (by decide)
        have q2 := lv_neT (k := (2 : Int32)) (a := 2) h2 (by decide)
        refine lv_tableOut (tgt := 44) hx hb dX7_isSetting_1 (by omega) (by decide) ?_
        refine lv_iconst (v := (0 : Int32)) hx hb dX7_isSetting_44 (by decide) ?_
        exact W.zret hx hb hr rfl (fun t ht hW => ⟨⟨_, (), rfl, Option.some.inj hF, trivial⟩, hS.F ht⟩) hS.2.2 dX7_isSetting_45
set_option maxHeartbeats 4000000 in
set_option maxRecDepth 100000 in
theorem c_X7_lays_zN_zQ (l : Launch) (D : va_G) (cyI cyZ : ClassId) (bN bQ : Nat) (sz : Nat) (N : Nat) (x1 : Int32) (x3 : Int32) (un : (Nat → Int32)) (uq : (Nat → Int32)) {uq' : (Nat → Int32)} (hF : p_X7_lays_zN_zQ N x1 x3 un uq = some (uq')) : Met l yX7_lays wsX7_lays ({ frames := 0, cells := 0, slots := 0, locals := 0 }) (x_PM D cyI cyZ [.ref bN, .int x1, .ref bQ, .int x3] [(bN, .inl (cyI, 225, .inl un)), (bQ, .inl (cyI, 1350, .inl uq))] sz) (x_QV D (va_A [(bN, .inl (cyI, 225, .inl un)), (bQ, .inl (cyI, 1350, .inl uq))] sz) [(bN, .inl (cyI, 225, .inl un)), (bQ, .inl (cyI, 1350, .inl uq'))]) 0 0 (va_A [(bN, .inl (cyI, 225, .inl un)), (bQ, .inl (cyI, 1350, .inl uq))] sz) := by
  refine Met.ofW (cc := cX7_lays) (maxL := 5) (ret := none) (by decide) rfl ?_
  intro p e s m args below meth c s₁ B hml hv
  obtain ⟨rfl, hsz, hP, hK, hD0⟩ := hv
  have hx := B.exec
  have hb := B.bytes
  have hr := B.returns
  have hts := atoms_spec (ws := wsX7_lays) B.pre
  have hown : s.vm.findClass RX7 = some m.cls := findClass_of_methodNamed B.named
  have hlocks := B.notSynchronized
  subst hsz
  have hD := hD0.self (sz := s.heap.size)
  generalize hAe : va_A [(bN, .inl (cyI, 225, .inl un)), (bQ, .inl (cyI, 1350, .inl uq))] s.heap.size = A at hD ⊢
  have hA : ∀ q : Nat, s.heap.size ≤ q → A q := fun q h => by rw [← hAe]; exact Or.inr h
  have hS : va_S A s.heap s.heap [] := va_S.rf
  have hP : va_P D vwCl [(bN, .inl (cyI, 225, .inl un)), (bQ, .inl (cyI, 1350, .inl uq))] s.heap := hP
  have hl := lv_entry ([.ref bN, .int x1, .ref bQ, .int x3]) (n := 5) (Nat.le_of_ble_eq_true rfl)
  rw [lg_entry_eq]
  generalize (lg_sl ([.ref bN, .int x1, .ref bQ, .int x3]) ++ List.replicate (5 - (lg_sl ([.ref bN, .int x1, .ref bQ, .int x3])).length) Slot.unset).toArray = ls at hl ⊢
  have hl : lv_has ls 5 [(0, .ref bN), (1, .int x1), (2, .ref bQ), (3, .int x3)] := hl
  refine x_gen (fun G hG => ?_)
  have blk_3 : ∀ (n_3 : Nat) (x1 : Int32) (x3 : Int32) (x4 : Int32) (uq : (Nat → Int32)), f_X7_lays_zN_zQ_3 N n_3 x1 x3 x4 un uq = some (uq') → ∀ (H : Heap) (locs : List Loc) (ls : Array Slot), va_P D vwCl [(bN, .inl (cyI, 225, .inl un)), (bQ, .inl (cyI, 1350, .inl uq))] H → va_D A [(bN, .inl (cyI, 225, .inl un)), (bQ, .inl (cyI, 1350, .inl uq))] → va_S A s.heap H locs → lv_has ls 5 [(0, .ref bN), (1, .int x1), (2, .ref bQ), (3, .int x3), (4, .int x4)] → G H locs (F0 m 3 ls []) := by
    intro n_3
    induction n_3 with
    | zero => intro x1 x3 x4 uq hF; exact (k_none hF).elim
    | succ n_3 ih_3 =>
      intro x1 x3 x4 uq hF H locs ls hP hD hS hl
      replace hF : b_X7_lays_zN_zQ_3 N (f_X7_lays_zN_zQ_3 N n_3) x1 x3 x4 un uq = some (uq') := hF
      unfold b_X7_lays_zN_zQ_3 at hF
      refine (hG _ _ _).2 ?_
      refine lv_iload hx hb dX7_lays_3 (lv_at hl 4 rfl) ?_
      refine lv_sipush (v := (225 : Int32)) hx hb dX7_lays_5 (by decide) ?_
      refine lv_icmp_ge (tgt := 29) hx hb dX7_lays_8 (by decide) (fun hc => ?_) (fun hc => ?_)
      · have hF := k_if_t hF hc
        have e0 := k_inj1 hF
        have hP9 : va_P D vwCl [(bN, .inl (cyI, 225, .inl un)), (bQ, .inl (cyI, 1350, .inl uq'))] H := by rw [← e0]; exact hP
        exact W.vret hx hb hr (fun t ht hW => ⟨⟨(), rfl, trivial, x_ret hP9 ht⟩, hS.F ht⟩) hS.2.2 dX7_lays_29
      · have hF := k_if_f hF hc
        refine lv_aload_n hx hb dX7_lays_11 rfl (lv_at hl 2 rfl) ?_
        refine lv_iload_n hx hb dX7_lays_12 rfl (lv_at hl 3 rfl) ?_
        refine lv_iload hx hb dX7_lays_13 (lv_at hl 4 rfl) ?_
        refine lv_iadd hx hb dX7_lays_15 ?_
        refine lv_aload_n hx hb dX7_lays_16 rfl (lv_at hl 0 rfl) ?_
        refine lv_iload_n hx hb dX7_lays_17 rfl (lv_at hl 1 rfl) ?_
        refine lv_iload hx hb dX7_lays_18 (lv_at hl 4 rfl) ?_
        refine lv_iadd hx hb dX7_lays_20 ?_
        obtain ⟨r21, hin, hn, hF⟩ := k_ld_ex hF
        refine x_iald hx hb hK hP 0 rfl hin hn dX7_lays_21 ?_
        obtain ⟨uq_22, hin, hn, hF⟩ := k_st_ex hF
        refine x_iast hx hb hK hP hD hS 1 rfl hin hn dX7_lays_22 (fun H locs hP hD hS => ?_)
        have hP : va_P D vwCl [(bN, .inl (cyI, 225, .inl un)), (bQ, .inl (cyI, 1350, .inl uq_22))] H := hP
        have hD : va_D A [(bN, .inl (cyI, 225, .inl un)), (bQ, .inl (cyI, 1350, .inl uq_22))] := hD
        obtain ⟨x4_23, hn, hF⟩ := k_let_ex hF
        refine lv_iinc (v := x4_23) (lv' := [(4, .int x4_23), (0, .ref bN), (1, .int x1), (2, .ref bQ), (3, .int x3)]) hx hb dX7_lays_23 hl (k := 4) rfl (by rw [hn]; rfl) (by decide) rfl (fun ls hl => ?_)
        refine lv_goto (tgt := 3) hx hb dX7_lays_26 (by decide) ?_
        exact (hG _ _ _).1 (ih_3 x1 x3 x4_23 uq_22 hF _ _ _ hP hD hS (lv_sub hl [1, 2, 3, 4, 0] rfl))
  refine (hG _ _ _).2 ?_
  unfold p_X7_lays_zN_zQ at hF
  refine lv_iconst (v := (0 : Int32)) hx hb dX7_lays_0 (by decide) ?_
  refine lv_istore (lv' := [(4, .int (0 : Int32)), (0, .ref bN), (1, .int x1), (2, .ref bQ), (3, .int x3)]) hx hb dX7_lays_1 hl (by decide) rfl (fun ls hl => ?_)
  exact (hG _ _ _).1 (blk_3 N x1 x3 (0 : Int32) uq hF _ _ _ hP hD hS (lv_sub hl [1, 2, 3, 4, 0] rfl))
theorem mm_X7_records_1 : Cond.fieldLink RX7 29 "RollerMeshModel" "states" "I" ∈ wsX7_records := List.mem_of_getElem? (i := 1) rfl
theorem mm_X7_records_2 : Cond.fieldLink RX7 13 "RollerMeshModel" "past" "[I" ∈ wsX7_records := List.mem_of_getElem? (i := 2) rfl
theorem mm_X7_records_3 : Cond.fieldLink RX7 7 "RollerMeshModel" "now" "[I" ∈ wsX7_records := List.mem_of_getElem? (i := 3) rfl
theorem mi_X7_records_X7 : ∀ w ∈ wsX70, w ∈ wsX7_records := fun _ h => List.mem_cons_of_mem _ (List.mem_append_right _ h)
set_option maxHeartbeats 4000000 in
set_option maxRecDepth 100000 in
theorem c_X7_records (l : Launch) (D : va_G) (cyI cyZ : ClassId) (bM bN bQ bS bH bP bT : Nat) (sz : Nat) (N : Nat) (us : Int32) (up : Int32) (ue : Int32) (ut : Int32) (um : Int32) (un : (Nat → Int32)) (uq : (Nat → Int32)) {us' : Int32} {uq' : (Nat → Int32)} (hF : p_X7_records N us up ue ut um un uq = some (us', uq')) : Met l yX7_records wsX7_records ({ frames := 1, cells := 0, slots := 0, locals := 24 }) (x_PM D cyI cyZ [.ref bM] [(bM, .inr (7, [.ref bN, .ref bQ, .int us, .ref bS, .ref bH, .ref bP, .int up, .int ue, .int ut, .ref bT, .int um])), (bN, .inl (cyI, 225, .inl un)), (bQ, .inl (cyI, 1350, .inl uq))] sz) (x_QV D (va_A [(bM, .inr (7, [.ref bN, .ref bQ, .int us, .ref bS, .ref bH, .ref bP, .int up, .int ue, .int ut, .ref bT, .int um])), (bN, .inl (cyI, 225, .inl un)), (bQ, .inl (cyI, 1350, .inl uq))] sz) [(bM, .inr (7, [.ref bN, .ref bQ, .int us', .ref bS, .ref bH, .ref bP, .int up, .int ue, .int ut, .ref bT, .int um])), (bN, .inl (cyI, 225, .inl un)), (bQ, .inl (cyI, 1350, .inl uq'))]) 0 0 (va_A [(bM, .inr (7, [.ref bN, .ref bQ, .int us, .ref bS, .ref bH, .ref bP, .int up, .int ue, .int ut, .ref bT, .int um])), (bN, .inl (cyI, 225, .inl un)), (bQ, .inl (cyI, 1350, .inl uq))] sz) := by
  refine Met.ofW (cc := cX7_records) (maxL := 2) (ret := none) (by decide) rfl ?_
  intro p e s m args below meth c s₁ B hml hv
  obtain ⟨rfl, hsz, hP, hK, hD0⟩ := hv
  have hx := B.exec
  have hb := B.bytes
  have hr := B.returns
  have hts := atoms_spec (ws := wsX7_records) B.pre
  have hown : s.vm.findClass RX7 = some m.cls := findClass_of_methodNamed B.named
  have hlocks := B.notSynchronized
  subst hsz
  have hD := hD0.self (sz := s.heap.size)
  generalize hAe : va_A [(bM, .inr (7, [.ref bN, .ref bQ, .int us, .ref bS, .ref bH, .ref bP, .int up, .int ue, .int ut, .ref bT, .int um])), (bN, .inl (cyI, 225, .inl un)), (bQ, .inl (cyI, 1350, .inl uq))] s.heap.size = A at hD ⊢
  have hA : ∀ q : Nat, s.heap.size ≤ q → A q := fun q h => by rw [← hAe]; exact Or.inr h
  have hS : va_S A s.heap s.heap [] := va_S.rf
  have hP : va_P D vwCl [(bM, .inr (7, [.ref bN, .ref bQ, .int us, .ref bS, .ref bH, .ref bP, .int up, .int ue, .int ut, .ref bT, .int um])), (bN, .inl (cyI, 225, .inl un)), (bQ, .inl (cyI, 1350, .inl uq))] s.heap := hP
  have hl := lv_entry ([.ref bM]) (n := 2) (Nat.le_of_ble_eq_true rfl)
  rw [lg_entry_eq]
  generalize (lg_sl ([.ref bM]) ++ List.replicate (2 - (lg_sl ([.ref bM])).length) Slot.unset).toArray = ls at hl ⊢
  have hl : lv_has ls 2 [(0, .ref bM)] := hl
  refine x_gen (fun G hG => ?_)
  have blk_11 : ∀ (n_11 : Nat) (x1 : Int32) (us : Int32) (uq : (Nat → Int32)), f_X7_records_11 N n_11 x1 us up ue ut um un uq = some (us', uq') → ∀ (H : Heap) (locs : List Loc) (ls : Array Slot), va_P D vwCl [(bM, .inr (7, [.ref bN, .ref bQ, .int us, .ref bS, .ref bH, .ref bP, .int up, .int ue, .int ut, .ref bT, .int um])), (bN, .inl (cyI, 225, .inl un)), (bQ, .inl (cyI, 1350, .inl uq))] H → va_D A [(bM, .inr (7, [.ref bN, .ref bQ, .int us, .ref bS, .ref bH, .ref bP, .int up, .int ue, .int ut, .ref bT, .int um])), (bN, .inl (cyI, 225, .inl un)), (bQ, .inl (cyI, 1350, .inl uq))] → va_S A s.heap H locs → lv_has ls 2 [(0, .ref bM), (1, .int x1)] → G H locs (F0 m 11 ls []) := by
    intro n_11
    induction n_11 with
    | zero => intro x1 us uq hF; exact (k_none hF).elim
    | succ n_11 ih_11 =>
      intro x1 us uq hF H locs ls hP hD hS hl
      replace hF : b_X7_records_11 N (f_X7_records_11 N n_11) x1 us up ue ut um un uq = some (us', uq') := hF
      unfold b_X7_records_11 at hF
      refine (hG _ _ _).2 ?_
      refine lv_iload_n hx hb dX7_records_11 rfl (lv_at hl 1 rfl) ?_
      refine lv_sipush (v := (1125 : Int32)) hx hb dX7_records_12 (by decide) ?_
      refine lv_icmp_ge (tgt := 40) hx hb dX7_records_15 (by decide) (fun hc => ?_) (fun hc => ?_)
      · have hF := k_if_t hF hc
        refine lv_aload_n hx hb dX7_records_40 rfl (lv_at hl 0 rfl) ?_
        refine lv_dup hx hb dX7_records_41 rfl ?_
        refine va_get (D := D) (ci := 7) (v := .int us) (C := RX7) (T := TX7) (N := 11) hx hb hts mi_X7_records_X7 hown hK.1 hP 0 rfl rfl 2 (by decide) (hts _ mm_X7_records_1) (fun _ h9 => h9) rfl dX7_records_42 ?_
        refine lv_iconst (v := (1 : Int32)) hx hb dX7_records_45 (by decide) ?_
        refine lv_isub hx hb dX7_records_46 ?_
        obtain ⟨us_47, hn, hF⟩ := k_let_ex hF
        refine x_nm hn ?_
        refine va_put (D := D) (ci := 7) (v := .int us_47) (ty := .int) (C := RX7) (T := TX7) (N := 11) hx hb hts mi_X7_records_X7 tyX7 tyX7_ok nmX7 hown hK.1 hP hD hS 0 rfl rfl 2 (by decide) (hts _ mm_X7_records_1) (fun _ h9 => h9) rfl (by decide +kernel) rfl rfl (Nat.le_of_ble_eq_true rfl) dX7_records_47 (fun H locs hP hD hS => ?_)
        have hP : va_P D vwCl [(bM, .inr (7, [.ref bN, .ref bQ, .int us_47, .ref bS, .ref bH, .ref bP, .int up, .int ue, .int ut, .ref bT, .int um])), (bN, .inl (cyI, 225, .inl un)), (bQ, .inl (cyI, 1350, .inl uq))] H := hP
        have hD : va_D A [(bM, .inr (7, [.ref bN, .ref bQ, .int us_47, .ref bS, .ref bH, .ref bP, .int up, .int ue, .int ut, .ref bT, .int um])), (bN, .inl (cyI, 225, .inl un)), (bQ, .inl (cyI, 1350, .inl uq))] := hD
        refine lv_aload_n hx hb dX7_records_50 rfl (lv_at hl 0 rfl) ?_
        refine va_get (D := D) (ci := 7) (v := .ref bN) (C := RX7) (T := TX7) (N := 11) hx hb hts mi_X7_records_X7 hown hK.1 hP 0 rfl rfl 0 (by decide) (hts _ mm_X7_records_3) (fun _ h9 => h9) rfl dX7_records_51 ?_
        refine lv_iconst (v := (0 : Int32)) hx hb dX7_records_54 (by decide) ?_
        refine lv_aload_n hx hb dX7_records_55 rfl (lv_at hl 0 rfl) ?_
        refine va_get (D := D) (ci := 7) (v := .ref bQ) (C := RX7) (T := TX7) (N := 11) hx hb hts mi_X7_records_X7 hown hK.1 hP 0 rfl rfl 1 (by decide) (hts _ mm_X7_records_2) (fun _ h9 => h9) rfl dX7_records_56 ?_
        refine lv_sipush (v := (225 : Int32)) hx hb dX7_records_59 (by decide) ?_
        refine lv_aload_n hx hb dX7_records_62 rfl (lv_at hl 0 rfl) ?_
        refine va_get (D := D) (ci := 7) (v := .int us_47) (C := RX7) (T := TX7) (N := 11) hx hb hts mi_X7_records_X7 hown hK.1 hP 0 rfl rfl 2 (by decide) (hts _ mm_X7_records_1) (fun _ h9 => h9) rfl dX7_records_63 ?_
        refine lv_imul hx hb dX7_records_66 ?_
        obtain ⟨uq_67, hC, hF⟩ := k_c1_ex hF
        refine x_SV (As := [.ref bN, .int (0 : Int32), .ref bQ, .int ((225 : Int32) * us_47)]) (rest := []) ⟨hx, hb, hml, hown, hts⟩ (c_X7_lays_zN_zQ l D cyI cyZ bN bQ H.size N (0 : Int32) ((225 : Int32) * us_47) un uq hC) (va_cwS 4 hts gX7_records_X7_lays rfl rfl rfl (by decide +kernel) ⟨Nat.le_of_ble_eq_true rfl, Nat.le_of_ble_eq_true rfl⟩) hK hP hD hS hA [1, 2] rfl rfl rfl rfl hl.1 rfl (Nat.le_of_ble_eq_true rfl) ⟨Nat.zero_le _, Nat.zero_le _⟩ dX7_records_67 (fun H locs hP hD hS => ?_)
        have hP : va_P D vwCl [(bM, .inr (7, [.ref bN, .ref bQ, .int us_47, .ref bS, .ref bH, .ref bP, .int up, .int ue, .int ut, .ref bT, .int um])), (bN, .inl (cyI, 225, .inl un)), (bQ, .inl (cyI, 1350, .inl uq_67))] H := hP
        have hD : va_D A [(bM, .inr (7, [.ref bN, .ref bQ, .int us_47, .ref bS, .ref bH, .ref bP, .int up, .int ue, .int ut, .ref bT, .int um])), (bN, .inl (cyI, 225, .inl un)), (bQ, .inl (cyI, 1350, .inl uq_67))] := hD
        refine lv_aload_n hx hb dX7_records_70 rfl (lv_at hl 0 rfl) ?_
        refine lv_dup hx hb dX7_records_71 rfl ?_
        refine va_get (D := D) (ci := 7) (v := .int us_47) (C := RX7) (T := TX7) (N := 11) hx hb hts mi_X7_records_X7 hown hK.1 hP 0 rfl rfl 2 (by decide) (hts _ mm_X7_records_1) (fun _ h9 => h9) rfl dX7_records_72 ?_
        refine lv_iconst (v := (1 : Int32)) hx hb dX7_records_75 (by decide) ?_
        refine lv_iadd hx hb dX7_records_76 ?_
        obtain ⟨us_77, hn, hF⟩ := k_let_ex hF
        refine x_nm hn ?_
        refine va_put (D := D) (ci := 7) (v := .int us_77) (ty := .int) (C := RX7) (T := TX7) (N := 11) hx hb hts mi_X7_records_X7 tyX7 tyX7_ok nmX7 hown hK.1 hP hD hS 0 rfl rfl 2 (by decide) (hts _ mm_X7_records_1) (fun _ h9 => h9) rfl (by decide +kernel) rfl rfl (Nat.le_of_ble_eq_true rfl) dX7_records_77 (fun H locs hP hD hS => ?_)
        have hP : va_P D vwCl [(bM, .inr (7, [.ref bN, .ref bQ, .int us_77, .ref bS, .ref bH, .ref bP, .int up, .int ue, .int ut, .ref bT, .int um])), (bN, .inl (cyI, 225, .inl un)), (bQ, .inl (cyI, 1350, .inl uq_67))] H := hP
        have hD : va_D A [(bM, .inr (7, [.ref bN, .ref bQ, .int us_77, .ref bS, .ref bH, .ref bP, .int up, .int ue, .int ut, .ref bT, .int um])), (bN, .inl (cyI, 225, .inl un)), (bQ, .inl (cyI, 1350, .inl uq_67))] := hD
        obtain ⟨e0, e1⟩ := k_inj2 hF
        have hP9 : va_P D vwCl [(bM, .inr (7, [.ref bN, .ref bQ, .int us', .ref bS, .ref bH, .ref bP, .int up, .int ue, .int ut, .ref bT, .int um])), (bN, .inl (cyI, 225, .inl un)), (bQ, .inl (cyI, 1350, .inl uq'))] H := by rw [← e0, ← e1]; exact hP
        exact W.vret hx hb hr (fun t ht hW => ⟨⟨(), rfl, trivial, x_ret hP9 ht⟩, hS.F ht⟩) hS.2.2 dX7_records_80
      · have hF := k_if_f hF hc
        refine lv_aload_n hx hb dX7_records_18 rfl (lv_at hl 0 rfl) ?_
        refine va_get (D := D) (ci := 7) (v := .ref bQ) (C := RX7) (T := TX7) (N := 11) hx hb hts mi_X7_records_X7 hown hK.1 hP 0 rfl rfl 1 (by decide) (hts _ mm_X7_records_2) (fun _ h9 => h9) rfl dX7_records_19 ?_
        refine lv_iload_n hx hb dX7_records_22 rfl (lv_at hl 1 rfl) ?_
        refine lv_aload_n hx hb dX7_records_23 rfl (lv_at hl 0 rfl) ?_
        refine va_get (D := D) (ci := 7) (v := .ref bQ) (C := RX7) (T := TX7) (N := 11) hx hb hts mi_X7_records_X7 hown hK.1 hP 0 rfl rfl 1 (by decide) (hts _ mm_X7_records_2) (fun _ h9 => h9) rfl dX7_records_24 ?_
        refine lv_iload_n hx hb dX7_records_27 rfl (lv_at hl 1 rfl) ?_
        refine lv_sipush (v := (225 : Int32)) hx hb dX7_records_28 (by decide) ?_
        refine lv_iadd hx hb dX7_records_31 ?_
        obtain ⟨r32, hin, hn, hF⟩ := k_ld_ex hF
        refine x_iald hx hb hK hP 2 rfl hin hn dX7_records_32 ?_
        obtain ⟨uq_33, hin, hn, hF⟩ := k_st_ex hF
        refine x_iast hx hb hK hP hD hS 2 rfl hin hn dX7_records_33 (fun H locs hP hD hS => ?_)
        have hP : va_P D vwCl [(bM, .inr (7, [.ref bN, .ref bQ, .int us, .ref bS, .ref bH, .ref bP, .int up, .int ue, .int ut, .ref bT, .int um])), (bN, .inl (cyI, 225, .inl un)), (bQ, .inl (cyI, 1350, .inl uq_33))] H := hP
        have hD : va_D A [(bM, .inr (7, [.ref bN, .ref bQ, .int us, .ref bS, .ref bH, .ref bP, .int up, .int ue, .int ut, .ref bT, .int um])), (bN, .inl (cyI, 225, .inl un)), (bQ, .inl (cyI, 1350, .inl uq_33))] := hD
        obtain ⟨x1_34, hn, hF⟩ := k_let_ex hF
        refine lv_iinc (v := x1_34) (lv' := [(1, .int x1_34), (0, .ref bM)]) hx hb dX7_records_34 hl (k := 1) rfl (by rw [hn]; rfl) (by decide) rfl (fun ls hl => ?_)
        refine lv_goto (tgt := 11) hx hb dX7_records_37 (by decide) ?_
        exact (hG _ _ _).1 (ih_11 x1_34 us uq_33 hF _ _ _ hP hD hS (lv_sub hl [1, 0] rfl))
  refine (hG _ _ _).2 ?_
  unfold p_X7_records at hF
  refine lv_aload_n hx hb dX7_records_0 rfl (lv_at hl 0 rfl) ?_
  refine va_get (D := D) (ci := 7) (v := .int us) (C := RX7) (T := TX7) (N := 11) hx hb hts mi_X7_records_X7 hown hK.1 hP 0 rfl rfl 2 (by decide) (hts _ mm_X7_records_1) (fun _ h9 => h9) rfl dX7_records_1 ?_
  refine lv_bipush (v := (6 : Int32)) hx hb dX7_records_4 (by decide) ?_
  refine lv_icmp_ne (tgt := 50) hx hb dX7_records_6 (by decide) (fun hc => ?_) (fun hc => ?_)
  · have hF := k_if_f hF hc
    refine lv_aload_n hx hb dX7_records_50 rfl (lv_at hl 0 rfl) ?_
    refine va_get (D := D) (ci := 7) (v := .ref bN) (C := RX7) (T := TX7) (N := 11) hx hb hts mi_X7_records_X7 hown hK.1 hP 0 rfl rfl 0 (by decide) (hts _ mm_X7_records_3) (fun _ h9 => h9) rfl dX7_records_51 ?_
    refine lv_iconst (v := (0 : Int32)) hx hb dX7_records_54 (by decide) ?_
    refine lv_aload_n hx hb dX7_records_55 rfl (lv_at hl 0 rfl) ?_
    refine va_get (D := D) (ci := 7) (v := .ref bQ) (C := RX7) (T := TX7) (N := 11) hx hb hts mi_X7_records_X7 hown hK.1 hP 0 rfl rfl 1 (by decide) (hts _ mm_X7_records_2) (fun _ h9 => h9) rfl dX7_records_56 ?_
    refine lv_sipush (v := (225 : Int32)) hx hb dX7_records_59 (by decide) ?_
    refine lv_aload_n hx hb dX7_records_62 rfl (lv_at hl 0 rfl) ?_
    refine va_get (D := D) (ci := 7) (v := .int us) (C := RX7) (T := TX7) (N := 11) hx hb hts mi_X7_records_X7 hown hK.1 hP 0 rfl rfl 2 (by decide) (hts _ mm_X7_records_1) (fun _ h9 => h9) rfl dX7_records_63 ?_
    refine lv_imul hx hb dX7_records_66 ?_
    obtain ⟨uq_67, hC, hF⟩ := k_c1_ex hF
    refine x_SV (As := [.ref bN, .int (0 : Int32), .ref bQ, .int ((225 : Int32) * us)]) (rest := []) ⟨hx, hb, hml, hown, hts⟩ (c_X7_lays_zN_zQ l D cyI cyZ bN bQ s.heap.size N (0 : Int32) ((225 : Int32) * us) un uq hC) (va_cwS 4 hts gX7_records_X7_lays rfl rfl rfl (by decide +kernel) ⟨Nat.le_of_ble_eq_true rfl, Nat.le_of_ble_eq_true rfl⟩) hK hP hD hS hA [1, 2] rfl rfl rfl rfl hl.1 rfl (Nat.le_of_ble_eq_true rfl) ⟨Nat.zero_le _, Nat.zero_le _⟩ dX7_records_67 (fun H locs hP hD hS => ?_)
    have hP : va_P D vwCl [(bM, .inr (7, [.ref bN, .ref bQ, .int us, .ref bS, .ref bH, .ref bP, .int up, .int ue, .int ut, .ref bT, .int um])), (bN, .inl (cyI, 225, .inl un)), (bQ, .inl (cyI, 1350, .inl uq_67))] H := hP
    have hD : va_D A [(bM, .inr (7, [.ref bN, .ref bQ, .int us, .ref bS, .ref bH, .ref bP, .int up, .int ue, .int ut, .ref bT, .int um])), (bN, .inl (cyI, 225, .inl un)), (bQ, .inl (cyI, 1350, .inl uq_67))] := hD
    refine lv_aload_n hx hb dX7_records_70 rfl (lv_at hl 0 rfl) ?_
    refine lv_dup hx hb dX7_records_71 rfl ?_
    refine va_get (D := D) (ci := 7) (v := .int us) (C := RX7) (T := TX7) (N := 11) hx hb hts mi_X7_records_X7 hown hK.1 hP 0 rfl rfl 2 (by decide) (hts _ mm_X7_records_1) (fun _ h9 => h9) rfl dX7_records_72 ?_
    refine lv_iconst (v := (1 : Int32)) hx hb dX7_records_75 (by decide) ?_
    refine lv_iadd hx hb dX7_records_76 ?_
    obtain ⟨us_77, hn, hF⟩ := k_let_ex hF
    refine x_nm hn ?_
    refine va_put (D := D) (ci := 7) (v := .int us_77) (ty := .int) (C := RX7) (T := TX7) (N := 11) hx hb hts mi_X7_records_X7 tyX7 tyX7_ok nmX7 hown hK.1 hP hD hS 0 rfl rfl 2 (by decide) (hts _ mm_X7_records_1) (fun _ h9 => h9) rfl (by decide +kernel) rfl rfl (Nat.le_of_ble_eq_true rfl) dX7_records_77 (fun H locs hP hD hS => ?_)
    have hP : va_P D vwCl [(bM, .inr (7, [.ref bN, .ref bQ, .int us_77, .ref bS, .ref bH, .ref bP, .int up, .int ue, .int ut, .ref bT, .int um])), (bN, .inl (cyI, 225, .inl un)), (bQ, .inl (cyI, 1350, .inl uq_67))] H := hP
    have hD : va_D A [(bM, .inr (7, [.ref bN, .ref bQ, .int us_77, .ref bS, .ref bH, .ref bP, .int up, .int ue, .int ut, .ref bT, .int um])), (bN, .inl (cyI, 225, .inl un)), (bQ, .inl (cyI, 1350, .inl uq_67))] := hD
    obtain ⟨e0, e1⟩ := k_inj2 hF
    have hP9 : va_P D vwCl [(bM, .inr (7, [.ref bN, .ref bQ, .int us', .ref bS, .ref bH, .ref bP, .int up, .int ue, .int ut, .ref bT, .int um])), (bN, .inl (cyI, 225, .inl un)), (bQ, .inl (cyI, 1350, .inl uq'))] H := by rw [← e0, ← e1]; exact hP
    exact W.vret hx hb hr (fun t ht hW => ⟨⟨(), rfl, trivial, x_ret hP9 ht⟩, hS.F ht⟩) hS.2.2 dX7_records_80
  · have hF := k_if_t hF hc
    refine lv_iconst (v := (0 : Int32)) hx hb dX7_records_9 (by decide) ?_
    refine lv_istore_n (lv' := [(1, .int (0 : Int32)), (0, .ref bM)]) hx hb dX7_records_10 rfl hl (by decide) rfl (fun ls hl => ?_)
    exact (hG _ _ _).1 (blk_11 N (0 : Int32) us uq hF _ _ _ hP hD hS (lv_sub hl [1, 0] rfl))
theorem mm_X7_set_1 : Cond.fieldLink RX7 7 "RollerMeshModel" "now" "[I" ∈ wsX7_set := List.mem_of_getElem? (i := 1) rfl
theorem mi_X7_set_X7 : ∀ w ∈ wsX70, w ∈ wsX7_set := fun _ h => List.mem_cons_of_mem _ (List.mem_append_right _ h)
set_option maxHeartbeats 4000000 in
set_option maxRecDepth 100000 in
theorem c_X7_set (l : Launch) (D : va_G) (cyI cyZ : ClassId) (bM bN bQ bS bH bP bT : Nat) (sz : Nat) (N : Nat) (x1 : Int32) (x2 : Int32) (us : Int32) (up : Int32) (ue : Int32) (ut : Int32) (um : Int32) (un : (Nat → Int32)) (uq : (Nat → Int32)) {r0 : Int32} {us' : Int32} {un' : (Nat → Int32)} {uq' : (Nat → Int32)} (hF : p_X7_set N x1 x2 us up ue ut um un uq = some (r0, us', un', uq')) : Met l yX7_set wsX7_set ({ frames := 2, cells := 0, slots := 0, locals := 45 }) (x_PM D cyI cyZ [.ref bM, .int x1, .int x2] [(bM, .inr (7, [.ref bN, .ref bQ, .int us, .ref bS, .ref bH, .ref bP, .int up, .int ue, .int ut, .ref bT, .int um])), (bN, .inl (cyI, 225, .inl un)), (bQ, .inl (cyI, 1350, .inl uq))] sz) (x_QM D r0 (va_A [(bM, .inr (7, [.ref bN, .ref bQ, .int us, .ref bS, .ref bH, .ref bP, .int up, .int ue, .int ut, .ref bT, .int um])), (bN, .inl (cyI, 225, .inl un)), (bQ, .inl (cyI, 1350, .inl uq))] sz) [(bM, .inr (7, [.ref bN, .ref bQ, .int us', .ref bS, .ref bH, .ref bP, .int up, .int ue, .int ut, .ref bT, .int um])), (bN, .inl (cyI, 225, .inl un')), (bQ, .inl (cyI, 1350, .inl uq'))]) 0 0 (va_A [(bM, .inr (7, [.ref bN, .ref bQ, .int us, .ref bS, .ref bH, .ref bP, .int up, .int ue, .int ut, .ref bT, .int um])), (bN, .inl (cyI, 225, .inl un)), (bQ, .inl (cyI, 1350, .inl uq))] sz) := by
  refine Met.ofW (cc := cX7_set) (maxL := 4) (ret := (some .int)) (by decide) rfl ?_
  intro p e s m args below meth c s₁ B hml hv
  obtain ⟨rfl, hsz, hP, hK, hD0⟩ := hv
  have hx := B.exec
  have hb := B.bytes
  have hr := B.returns
  have hts := atoms_spec (ws := wsX7_set) B.pre
  have hown : s.vm.findClass RX7 = some m.cls := findClass_of_methodNamed B.named
  have hlocks := B.notSynchronized
  subst hsz
  have hD := hD0.self (sz := s.heap.size)
  generalize hAe : va_A [(bM, .inr (7, [.ref bN, .ref bQ, .int us, .ref bS, .ref bH, .ref bP, .int up, .int ue, .int ut, .ref bT, .int um])), (bN, .inl (cyI, 225, .inl un)), (bQ, .inl (cyI, 1350, .inl uq))] s.heap.size = A at hD ⊢
  have hA : ∀ q : Nat, s.heap.size ≤ q → A q := fun q h => by rw [← hAe]; exact Or.inr h
  have hS : va_S A s.heap s.heap [] := va_S.rf
  have hP : va_P D vwCl [(bM, .inr (7, [.ref bN, .ref bQ, .int us, .ref bS, .ref bH, .ref bP, .int up, .int ue, .int ut, .ref bT, .int um])), (bN, .inl (cyI, 225, .inl un)), (bQ, .inl (cyI, 1350, .inl uq))] s.heap := hP
  have hl := lv_entry ([.ref bM, .int x1, .int x2]) (n := 4) (Nat.le_of_ble_eq_true rfl)
  rw [lg_entry_eq]
  generalize (lg_sl ([.ref bM, .int x1, .int x2]) ++ List.replicate (4 - (lg_sl ([.ref bM, .int x1, .int x2])).length) Slot.unset).toArray = ls at hl ⊢
  have hl : lv_has ls 4 [(0, .ref bM), (1, .int x1), (2, .int x2)] := hl
  unfold p_X7_set at hF
  refine lv_iload_n hx hb dX7_set_0 rfl (lv_at hl 1 rfl) ?_
  refine lv_iload_n hx hb dX7_set_1 rfl (lv_at hl 2 rfl) ?_
  obtain ⟨r2, hC, hF⟩ := k_c1_ex hF
  refine x_SR (As := [.int x1, .int x2]) (rest := []) ⟨hx, hb, hml, hown, hts⟩ (c_X7_isSetting l D cyI cyZ N x1 x2 hC) (va_cwS 2 hts gX7_set_X7_isSetting rfl rfl rfl (by decide +kernel) ⟨Nat.le_of_ble_eq_true rfl, Nat.le_of_ble_eq_true rfl⟩) hK hP hS [] rfl rfl hl.1 rfl (Nat.le_of_ble_eq_true rfl) ⟨Nat.zero_le _, Nat.zero_le _⟩ dX7_set_2 (fun H locs hP hS => ?_)
  refine lv_if_ne (tgt := 11) hx hb dX7_set_5 (by decide) (fun hc => ?_) (fun hc => ?_)
  · have hF := k_if_f hF hc
    refine lv_aload_n hx hb dX7_set_11 rfl (lv_at hl 0 rfl) ?_
    obtain ⟨us_12, uq_12, hC, hF⟩ := k_c2_ex hF
    refine x_VV (As := []) (rest := []) ⟨hx, hb, hml, hown, hts⟩ (c_X7_records l D cyI cyZ bM bN bQ bS bH bP bT H.size N us up ue ut um un uq hC) (cwV 0 hts gX7_set_X7_records rfl rfl rfl (by decide +kernel) ⟨Nat.le_of_ble_eq_true rfl, Nat.le_of_ble_eq_true rfl⟩) hK hP hD hS hA [0, 1, 2] rfl rfl rfl 0 rfl rfl rfl rfl hl.1 rfl (Nat.le_of_ble_eq_true rfl) ⟨Nat.zero_le _, Nat.zero_le _⟩ dX7_set_12 (fun H locs hP hD hS => ?_)
    have hP : va_P D vwCl [(bM, .inr (7, [.ref bN, .ref bQ, .int us_12, .ref bS, .ref bH, .ref bP, .int up, .int ue, .int ut, .ref bT, .int um])), (bN, .inl (cyI, 225, .inl un)), (bQ, .inl (cyI, 1350, .inl uq_12))] H := hP
    have hD : va_D A [(bM, .inr (7, [.ref bN, .ref bQ, .int us_12, .ref bS, .ref bH, .ref bP, .int up, .int ue, .int ut, .ref bT, .int um])), (bN, .inl (cyI, 225, .inl un)), (bQ, .inl (cyI, 1350, .inl uq_12))] := hD
    refine lv_aload_n hx hb dX7_set_15 rfl (lv_at hl 0 rfl) ?_
    refine va_get (D := D) (ci := 7) (v := .ref bN) (C := RX7) (T := TX7) (N := 11) hx hb hts mi_X7_set_X7 hown hK.1 hP 0 rfl rfl 0 (by decide) (hts _ mm_X7_set_1) (fun _ h9 => h9) rfl dX7_set_16 ?_
    refine lv_iconst (v := (0 : Int32)) hx hb dX7_set_19 (by decide) ?_
    refine lv_iload_n hx hb dX7_set_20 rfl (lv_at hl 1 rfl) ?_
    refine lv_iadd hx hb dX7_set_21 ?_
    obtain ⟨r22, hin, hn, hF⟩ := k_ld_ex hF
    refine x_iald hx hb hK hP 1 rfl hin hn dX7_set_22 ?_
    refine lv_istore_n (lv' := [(3, .int r22), (0, .ref bM), (1, .int x1), (2, .int x2)]) hx hb dX7_set_23 rfl hl (by decide) rfl (fun ls hl => ?_)
    refine lv_aload_n hx hb dX7_set_24 rfl (lv_at hl 1 rfl) ?_
    refine va_get (D := D) (ci := 7) (v := .ref bN) (C := RX7) (T := TX7) (N := 11) hx hb hts mi_X7_set_X7 hown hK.1 hP 0 rfl rfl 0 (by decide) (hts _ mm_X7_set_1) (fun _ h9 => h9) rfl dX7_set_25 ?_
    refine lv_iconst (v := (0 : Int32)) hx hb dX7_set_28 (by decide) ?_
    refine lv_iload_n hx hb dX7_set_29 rfl (lv_at hl 2 rfl) ?_
    refine lv_iadd hx hb dX7_set_30 ?_
    refine lv_iload_n hx hb dX7_set_31 rfl (lv_at hl 3 rfl) ?_
    obtain ⟨un_32, hin, hn, hF⟩ := k_st_ex hF
    refine x_iast hx hb hK hP hD hS 1 rfl hin hn dX7_set_32 (fun H locs hP hD hS => ?_)
    have hP : va_P D vwCl [(bM, .inr (7, [.ref bN, .ref bQ, .int us_12, .ref bS, .ref bH, .ref bP, .int up, .int ue, .int ut, .ref bT, .int um])), (bN, .inl (cyI, 225, .inl un_32)), (bQ, .inl (cyI, 1350, .inl uq_12))] H := hP
    have hD : va_D A [(bM, .inr (7, [.ref bN, .ref bQ, .int us_12, .ref bS, .ref bH, .ref bP, .int up, .int ue, .int ut, .ref bT, .int um])), (bN, .inl (cyI, 225, .inl un_32)), (bQ, .inl (cyI, 1350, .inl uq_12))] := hD
    refine lv_iload_n hx hb dX7_set_33 rfl (lv_at hl 0 rfl) ?_
    obtain ⟨e0, e1, e2, e3⟩ := k_inj4 hF
    have hP9 : va_P D vwCl [(bM, .inr (7, [.ref bN, .ref bQ, .int us', .ref bS, .ref bH, .ref bP, .int up, .int ue, .int ut, .ref bT, .int um])), (bN, .inl (cyI, 225, .inl un')), (bQ, .inl (cyI, 1350, .inl uq'))] H := by rw [← e1, ← e2, ← e3]; exact hP
    exact W.iret hx hb hr (fun t ht hW => ⟨⟨_, (), rfl, e0, x_ret hP9 ht⟩, hS.F ht⟩) hS.2.2 dX7_set_34
  · have hF := k_if_t hF hc
    refine lv_bipush (v := (-2 : Int32)) hx hb dX7_set_8 (by decide) ?_
    obtain ⟨e0, e1, e2, e3⟩ := k_inj4 hF
    have hP9 : va_P D vwCl [(bM, .inr (7, [.ref bN, .ref bQ, .int us', .ref bS, .ref bH, .ref bP, .int up, .int ue, .int ut, .ref bT, .int um])), (bN, .inl (cyI, 225, .inl un')), (bQ, .inl (cyI, 1350, .inl uq'))] H := by rw [← e1, ← e2, ← e3]; exact hP
    exact W.iret hx hb hr (fun t ht hW => ⟨⟨_, (), rfl, e0, x_ret hP9 ht⟩, hS.F ht⟩) hS.2.2 dX7_set_10
set_option maxHeartbeats 4000000 in
set_option maxRecDepth 100000 in
theorem c_X7_isHeight (l : Launch) (D : va_G) (cyI cyZ : ClassId) (N : Nat) (x0 : Int32) {r0 : Int32}  (hF : p_X7_isHeight N x0 = some (r0)) : Met l yX7_isHeight wsX7_isHeight ({ frames := 1, cells := 0, slots := 0, locals := 22 }) (x_PR D cyI cyZ [.int x0] []) (x_QR r0) 0 0 (fun _ => False) := by
  refine Met.ofW (cc := cX7_isHeight) (maxL := 1) (ret := (some .boolean)) (by decide) rfl ?_
  intro p e s m args below meth c s₁ B hml hv
  obtain ⟨rfl, hP, hK⟩ := hv
  have hx := B.exec
  have hb := B.bytes
  have hr := B.returns
  have hts := atoms_spec (ws := wsX7_isHeight) B.pre
  have hown : s.vm.findClass RX7 = some m.cls := findClass_of_methodNamed B.named
  have hlocks := B.notSynchronized
  have hS : va_S (fun _ => False) s.heap s.heap [] := va_S.rf
  have hP : va_P D vwCl [] s.heap := hP
  have hl := lv_entry ([.int x0]) (n := 1) (Nat.le_of_ble_eq_true rfl)
  rw [lg_entry_eq]
  generalize (lg_sl ([.int x0]) ++ List.replicate (1 - (lg_sl ([.int x0])).length) Slot.unset).toArray = ls at hl ⊢
  have hl : lv_has ls 1 [(0, .int x0)] := hl
  unfold p_X7_isHeight at hF
  refine lv_iload_n hx hb dX7_isHeight_0 rfl (lv_at hl 0 rfl) ?_
  refine lv_bipush (v := (-9 : Int32)) hx hb dX7_isHeight_1 (by decide) ?_
  refine lv_bipush (v := (9 : Int32)) hx hb dX7_isHeight_3 (by decide) ?_
  obtain ⟨r5, hC, hF⟩ := k_c1_ex hF
  refine x_SR (As := [.int x0, .int (-9 : Int32), .int (9 : Int32)]) (rest := []) ⟨hx, hb, hml, hown, hts⟩ (c_X7_in l D cyI cyZ N x0 (-9 : Int32) (9 : Int32) hC) (va_cwS 3 hts gX7_isHeight_X7_in rfl rfl rfl (by decide +kernel) ⟨Nat.le_of_ble_eq_true rfl, Nat.le_of_ble_eq_true rfl⟩) hK hP hS [] rfl rfl hl.1 rfl (Nat.le_of_ble_eq_true rfl) ⟨Nat.zero_le _, Nat.zero_le _⟩ dX7_isHeight_5 (fun H locs hP hS => ?_)
  obtain ⟨hbit, hF⟩ := k_bit_ex hF
  exact W.zret hx hb hr (congrArg Value.int hbit) (fun t ht hW => ⟨⟨_, (), rfl, Option.some.inj hF, trivial⟩, hS.F ht⟩) hS.2.2 dX7_isHeight_8
theorem mm_X7_comes_1 : Cond.fieldLink RX7 7 "RollerMeshModel" "now" "[I" ∈ wsX7_comes := List.mem_of_getElem? (i := 1) rfl
theorem mi_X7_comes_X7 : ∀ w ∈ wsX70, w ∈ wsX7_comes := fun _ h => List.mem_cons_of_mem _ (List.mem_append_right _ h)
set_option maxHeartbeats 4000000 in
set_option maxRecDepth 100000 in
theorem c_X7_comes (l : Launch) (D : va_G) (cyI cyZ : ClassId) (bM bN bQ bS bH bP bT : Nat) (sz : Nat) (N : Nat) (x1 : Int32) (us : Int32) (up : Int32) (ue : Int32) (ut : Int32) (um : Int32) (un : (Nat → Int32)) {r0 : Int32} {un' : (Nat → Int32)} (hF : p_X7_comes N x1 us up ue ut um un = some (r0, un')) : Met l yX7_comes wsX7_comes ({ frames := 0, cells := 0, slots := 0, locals := 0 }) (x_PM D cyI cyZ [.ref bM, .int x1] [(bM, .inr (7, [.ref bN, .ref bQ, .int us, .ref bS, .ref bH, .ref bP, .int up, .int ue, .int ut, .ref bT, .int um])), (bN, .inl (cyI, 225, .inl un))] sz) (x_QM D r0 (va_A [(bM, .inr (7, [.ref bN, .ref bQ, .int us, .ref bS, .ref bH, .ref bP, .int up, .int ue, .int ut, .ref bT, .int um])), (bN, .inl (cyI, 225, .inl un))] sz) [(bM, .inr (7, [.ref bN, .ref bQ, .int us, .ref bS, .ref bH, .ref bP, .int up, .int ue, .int ut, .ref bT, .int um])), (bN, .inl (cyI, 225, .inl un'))]) 0 0 (va_A [(bM, .inr (7, [.ref bN, .ref bQ, .int us, .ref bS, .ref bH, .ref bP, .int up, .int ue, .int ut, .ref bT, .int um])), (bN, .inl (cyI, 225, .inl un))] sz) := by
  refine Met.ofW (cc := cX7_comes) (maxL := 4) (ret := (some .int)) (by decide) rfl ?_
  intro p e s m args below meth c s₁ B hml hv
  obtain ⟨rfl, hsz, hP, hK, hD0⟩ := hv
  have hx := B.exec
  have hb := B.bytes
  have hr := B.returns
  have hts := atoms_spec (ws := wsX7_comes) B.pre
  have hown : s.vm.findClass RX7 = some m.cls := findClass_of_methodNamed B.named
  have hlocks := B.notSynchronized
  subst hsz
  have hD := hD0.self (sz := s.heap.size)
  generalize hAe : va_A [(bM, .inr (7, [.ref bN, .ref bQ, .int us, .ref bS, .ref bH, .ref bP, .int up, .int ue, .int ut, .ref bT, .int um])), (bN, .inl (cyI, 225, .inl un))] s.heap.size = A at hD ⊢
  have hA : ∀ q : Nat, s.heap.size ≤ q → A q := fun q h => by rw [← hAe]; exact Or.inr h
  have hS : va_S A s.heap s.heap [] := va_S.rf
  have hP : va_P D vwCl [(bM, .inr (7, [.ref bN, .ref bQ, .int us, .ref bS, .ref bH, .ref bP, .int up, .int ue, .int ut, .ref bT, .int um])), (bN, .inl (cyI, 225, .inl un))] s.heap := hP
  have hl := lv_entry ([.ref bM, .int x1]) (n := 4) (Nat.le_of_ble_eq_true rfl)
  rw [lg_entry_eq]
  generalize (lg_sl ([.ref bM, .int x1]) ++ List.replicate (4 - (lg_sl ([.ref bM, .int x1])).length) Slot.unset).toArray = ls at hl ⊢
  have hl : lv_has ls 4 [(0, .ref bM), (1, .int x1)] := hl
  refine x_gen (fun G hG => ?_)
  have blk_15 : ∀ (n_15 : Nat) (x1 : Int32) (x2 : Int32) (x3 : Int32) (un : (Nat → Int32)), f_X7_comes_15 N n_15 x1 x2 x3 us up ue ut um un = some (r0, un') → ∀ (H : Heap) (locs : List Loc) (ls : Array Slot), va_P D vwCl [(bM, .inr (7, [.ref bN, .ref bQ, .int us, .ref bS, .ref bH, .ref bP, .int up, .int ue, .int ut, .ref bT, .int um])), (bN, .inl (cyI, 225, .inl un))] H → va_D A [(bM, .inr (7, [.ref bN, .ref bQ, .int us, .ref bS, .ref bH, .ref bP, .int up, .int ue, .int ut, .ref bT, .int um])), (bN, .inl (cyI, 225, .inl un))] → va_S A s.heap H locs → lv_has ls 4 [(0, .ref bM), (1, .int x1), (2, .int x2), (3, .int x3)] → G H locs (F0 m 15 ls []) := by
    intro n_15
    induction n_15 with
    | zero => intro x1 x2 x3 un hF; exact (k_none hF).elim
    | succ n_15 ih_15 =>
      intro x1 x2 x3 un hF H locs ls hP hD hS hl
      replace hF : b_X7_comes_15 N (f_X7_comes_15 N n_15) x1 x2 x3 us up ue ut um un = some (r0, un') := hF
      unfold b_X7_comes_15 at hF
      refine (hG _ _ _).2 ?_
      refine lv_iload_n hx hb dX7_comes_15 rfl (lv_at hl 3 rfl) ?_
      refine lv_bipush (v := (27 : Int32)) hx hb dX7_comes_16 (by decide) ?_
      refine lv_icmp_ge (tgt := 36) hx hb dX7_comes_18 (by decide) (fun hc => ?_) (fun hc => ?_)
      · have hF := k_if_t hF hc
        refine lv_aload_n hx hb dX7_comes_36 rfl (lv_at hl 0 rfl) ?_
        refine va_get (D := D) (ci := 7) (v := .ref bN) (C := RX7) (T := TX7) (N := 11) hx hb hts mi_X7_comes_X7 hown hK.1 hP 0 rfl rfl 0 (by decide) (hts _ mm_X7_comes_1) (fun _ h9 => h9) rfl dX7_comes_37 ?_
        refine lv_iload_n hx hb dX7_comes_40 rfl (lv_at hl 2 rfl) ?_
        refine lv_iconst (v := (0 : Int32)) hx hb dX7_comes_41 (by decide) ?_
        refine lv_iadd hx hb dX7_comes_42 ?_
        refine lv_iload_n hx hb dX7_comes_43 rfl (lv_at hl 1 rfl) ?_
        obtain ⟨un_44, hin, hn, hF⟩ := k_st_ex hF
        refine x_iast hx hb hK hP hD hS 1 rfl hin hn dX7_comes_44 (fun H locs hP hD hS => ?_)
        have hP : va_P D vwCl [(bM, .inr (7, [.ref bN, .ref bQ, .int us, .ref bS, .ref bH, .ref bP, .int up, .int ue, .int ut, .ref bT, .int um])), (bN, .inl (cyI, 225, .inl un_44))] H := hP
        have hD : va_D A [(bM, .inr (7, [.ref bN, .ref bQ, .int us, .ref bS, .ref bH, .ref bP, .int up, .int ue, .int ut, .ref bT, .int um])), (bN, .inl (cyI, 225, .inl un_44))] := hD
        refine lv_aload_n hx hb dX7_comes_45 rfl (lv_at hl 0 rfl) ?_
        refine va_get (D := D) (ci := 7) (v := .ref bN) (C := RX7) (T := TX7) (N := 11) hx hb hts mi_X7_comes_X7 hown hK.1 hP 0 rfl rfl 0 (by decide) (hts _ mm_X7_comes_1) (fun _ h9 => h9) rfl dX7_comes_46 ?_
        refine lv_iconst (v := (3 : Int32)) hx hb dX7_comes_49 (by decide) ?_
        refine lv_dup2_11 hx hb dX7_comes_50 rfl rfl ?_
        obtain ⟨r51, hin, hn, hF⟩ := k_ld_ex hF
        refine x_iald hx hb hK hP 1 rfl hin hn dX7_comes_51 ?_
        refine lv_iconst (v := (1 : Int32)) hx hb dX7_comes_52 (by decide) ?_
        refine lv_iadd hx hb dX7_comes_53 ?_
        obtain ⟨un_54, hin, hn, hF⟩ := k_st_ex hF
        refine x_iast hx hb hK hP hD hS 1 rfl hin hn dX7_comes_54 (fun H locs hP hD hS => ?_)
        have hP : va_P D vwCl [(bM, .inr (7, [.ref bN, .ref bQ, .int us, .ref bS, .ref bH, .ref bP, .int up, .int ue, .int ut, .ref bT, .int um])), (bN, .inl (cyI, 225, .inl un_54))] H := hP
        have hD : va_D A [(bM, .inr (7, [.ref bN, .ref bQ, .int us, .ref bS, .ref bH, .ref bP, .int up, .int ue, .int ut, .ref bT, .int um])), (bN, .inl (cyI, 225, .inl un_54))] := hD
        refine lv_aload_n hx hb dX7_comes_55 rfl (lv_at hl 0 rfl) ?_
        refine va_get (D := D) (ci := 7) (v := .ref bN) (C := RX7) (T := TX7) (N := 11) hx hb hts mi_X7_comes_X7 hown hK.1 hP 0 rfl rfl 0 (by decide) (hts _ mm_X7_comes_1) (fun _ h9 => h9) rfl dX7_comes_56 ?_
        refine lv_iconst (v := (3 : Int32)) hx hb dX7_comes_59 (by decide) ?_
        obtain ⟨r60, hin, hn, hF⟩ := k_ld_ex hF
        refine x_iald hx hb hK hP 1 rfl hin hn dX7_comes_60 ?_
        refine lv_iconst (v := (1 : Int32)) hx hb dX7_comes_61 (by decide) ?_
        refine lv_isub hx hb dX7_comes_62 ?_
        obtain ⟨e0, e1⟩ := k_inj2 hF
        have hP9 : va_P D vwCl [(bM, .inr (7, [.ref bN, .ref bQ, .int us, .ref bS, .ref bH, .ref bP, .int up, .int ue, .int ut, .ref bT, .int um])), (bN, .inl (cyI, 225, .inl un'))] H := by rw [← e1]; exact hP
        exact W.iret hx hb hr (fun t ht hW => ⟨⟨_, (), rfl, e0, x_ret hP9 ht⟩, hS.F ht⟩) hS.2.2 dX7_comes_63
      · have hF := k_if_f hF hc
        refine lv_aload_n hx hb dX7_comes_21 rfl (lv_at hl 0 rfl) ?_
        refine va_get (D := D) (ci := 7) (v := .ref bN) (C := RX7) (T := TX7) (N := 11) hx hb hts mi_X7_comes_X7 hown hK.1 hP 0 rfl rfl 0 (by decide) (hts _ mm_X7_comes_1) (fun _ h9 => h9) rfl dX7_comes_22 ?_
        refine lv_iload_n hx hb dX7_comes_25 rfl (lv_at hl 2 rfl) ?_
        refine lv_iload_n hx hb dX7_comes_26 rfl (lv_at hl 3 rfl) ?_
        refine lv_iadd hx hb dX7_comes_27 ?_
        refine lv_iconst (v := (0 : Int32)) hx hb dX7_comes_28 (by decide) ?_
        obtain ⟨un_29, hin, hn, hF⟩ := k_st_ex hF
        refine x_iast hx hb hK hP hD hS 1 rfl hin hn dX7_comes_29 (fun H locs hP hD hS => ?_)
        have hP : va_P D vwCl [(bM, .inr (7, [.ref bN, .ref bQ, .int us, .ref bS, .ref bH, .ref bP, .int up, .int ue, .int ut, .ref bT, .int um])), (bN, .inl (cyI, 225, .inl un_29))] H := hP
        have hD : va_D A [(bM, .inr (7, [.ref bN, .ref bQ, .int us, .ref bS, .ref bH, .ref bP, .int up, .int ue, .int ut, .ref bT, .int um])), (bN, .inl (cyI, 225, .inl un_29))] := hD
        obtain ⟨x3_30, hn, hF⟩ := k_let_ex hF
        refine lv_iinc (v := x3_30) (lv' := [(3, .int x3_30), (0, .ref bM), (1, .int x1), (2, .int x2)]) hx hb dX7_comes_30 hl (k := 3) rfl (by rw [hn]; rfl) (by decide) rfl (fun ls hl => ?_)
        refine lv_goto (tgt := 15) hx hb dX7_comes_33 (by decide) ?_
        exact (hG _ _ _).1 (ih_15 x1 x2 x3_30 un_29 hF _ _ _ hP hD hS (lv_sub hl [1, 2, 3, 0] rfl))
  refine (hG _ _ _).2 ?_
  unfold p_X7_comes at hF
  refine lv_bipush (v := (9 : Int32)) hx hb dX7_comes_0 (by decide) ?_
  refine lv_bipush (v := (27 : Int32)) hx hb dX7_comes_2 (by decide) ?_
  refine lv_aload_n hx hb dX7_comes_4 rfl (lv_at hl 0 rfl) ?_
  refine va_get (D := D) (ci := 7) (v := .ref bN) (C := RX7) (T := TX7) (N := 11) hx hb hts mi_X7_comes_X7 hown hK.1 hP 0 rfl rfl 0 (by decide) (hts _ mm_X7_comes_1) (fun _ h9 => h9) rfl dX7_comes_5 ?_
  refine lv_iconst (v := (3 : Int32)) hx hb dX7_comes_8 (by decide) ?_
  obtain ⟨r9, hin, hn, hF⟩ := k_ld_ex hF
  refine x_iald hx hb hK hP 1 rfl hin hn dX7_comes_9 ?_
  refine lv_imul hx hb dX7_comes_10 ?_
  refine lv_iadd hx hb dX7_comes_11 ?_
  obtain ⟨x2_12, hn, hF⟩ := k_let_ex hF
  refine x_nm hn ?_
  refine lv_istore_n (lv' := [(2, .int x2_12), (0, .ref bM), (1, .int x1)]) hx hb dX7_comes_12 rfl hl (by decide) rfl (fun ls hl => ?_)
  refine lv_iconst (v := (0 : Int32)) hx hb dX7_comes_13 (by decide) ?_
  refine lv_istore_n (lv' := [(3, .int (0 : Int32)), (2, .int x2_12), (0, .ref bM), (1, .int x1)]) hx hb dX7_comes_14 rfl hl (by decide) rfl (fun ls hl => ?_)
  exact (hG _ _ _).1 (blk_15 N x1 x2_12 (0 : Int32) un hF _ _ _ hP hD hS (lv_sub hl [2, 3, 1, 0] rfl))
theorem mm_X7_roller_1 : Cond.fieldLink RX7 7 "RollerMeshModel" "now" "[I" ∈ wsX7_roller := List.mem_of_getElem? (i := 1) rfl
theorem mi_X7_roller_X7 : ∀ w ∈ wsX70, w ∈ wsX7_roller := fun _ h => List.mem_cons_of_mem _ (List.mem_append_right _ h)
set_option maxHeartbeats 4000000 in
set_option maxRecDepth 100000 in
theorem c_X7_roller (l : Launch) (D : va_G) (cyI cyZ : ClassId) (bM bN bQ bS bH bP bT : Nat) (sz : Nat) (N : Nat) (x1 : Int32) (x2 : Int32) (us : Int32) (up : Int32) (ue : Int32) (ut : Int32) (um : Int32) (un : (Nat → Int32)) (uq : (Nat → Int32)) {r0 : Int32} {us' : Int32} {un' : (Nat → Int32)} {uq' : (Nat → Int32)} (hF : p_X7_roller N x1 x2 us up ue ut um un uq = some (r0, us', un', uq')) : Met l yX7_roller wsX7_roller ({ frames := 2, cells := 0, slots := 0, locals := 45 }) (x_PM D cyI cyZ [.ref bM, .int x1, .int x2] [(bM, .inr (7, [.ref bN, .ref bQ, .int us, .ref bS, .ref bH, .ref bP, .int up, .int ue, .int ut, .ref bT, .int um])), (bN, .inl (cyI, 225, .inl un)), (bQ, .inl (cyI, 1350, .inl uq))] sz) (x_QM D r0 (va_A [(bM, .inr (7, [.ref bN, .ref bQ, .int us, .ref bS, .ref bH, .ref bP, .int up, .int ue, .int ut, .ref bT, .int um])), (bN, .inl (cyI, 225, .inl un)), (bQ, .inl (cyI, 1350, .inl uq))] sz) [(bM, .inr (7, [.ref bN, .ref bQ, .int us', .ref bS, .ref bH, .ref bP, .int up, .int ue, .int ut, .ref bT, .int um])), (bN, .inl (cyI, 225, .inl un')), (bQ, .inl (cyI, 1350, .inl uq'))]) 0 0 (va_A [(bM, .inr (7, [.ref bN, .ref bQ, .int us, .ref bS, .ref bH, .ref bP, .int up, .int ue, .int ut, .ref bT, .int um])), (bN, .inl (cyI, 225, .inl un)), (bQ, .inl (cyI, 1350, .inl uq))] sz) := by
  refine Met.ofW (cc := cX7_roller) (maxL := 5) (ret := (some .int)) (by decide) rfl ?_
  intro p e s m args below meth c s₁ B hml hv
  obtain ⟨rfl, hsz, hP, hK, hD0⟩ := hv
  have hx := B.exec
  have hb := B.bytes
  have hr := B.returns
  have hts := atoms_spec (ws := wsX7_roller) B.pre
  have hown : s.vm.findClass RX7 = some m.cls := findClass_of_methodNamed B.named
  have hlocks := B.notSynchronized
  subst hsz
  have hD := hD0.self (sz := s.heap.size)
  generalize hAe : va_A [(bM, .inr (7, [.ref bN, .ref bQ, .int us, .ref bS, .ref bH, .ref bP, .int up, .int ue, .int ut, .ref bT, .int um])), (bN, .inl (cyI, 225, .inl un)), (bQ, .inl (cyI, 1350, .inl uq))] s.heap.size = A at hD ⊢
  have hA : ∀ q : Nat, s.heap.size ≤ q → A q := fun q h => by rw [← hAe]; exact Or.inr h
  have hS : va_S A s.heap s.heap [] := va_S.rf
  have hP : va_P D vwCl [(bM, .inr (7, [.ref bN, .ref bQ, .int us, .ref bS, .ref bH, .ref bP, .int up, .int ue, .int ut, .ref bT, .int um])), (bN, .inl (cyI, 225, .inl un)), (bQ, .inl (cyI, 1350, .inl uq))] s.heap := hP
  have hl := lv_entry ([.ref bM, .int x1, .int x2]) (n := 5) (Nat.le_of_ble_eq_true rfl)
  rw [lg_entry_eq]
  generalize (lg_sl ([.ref bM, .int x1, .int x2]) ++ List.replicate (5 - (lg_sl ([.ref bM, .int x1, .int x2])).length) Slot.unset).toArray = ls at hl ⊢
  have hl : lv_has ls 5 [(0, .ref bM), (1, .int x1), (2, .int x2)] := hl
  refine x_gen (fun G hG => ?_)
  have blk_47 : ∀ (n_47 : Nat) (x1 : Int32) (x2 : Int32) (x3 : Int32) (x4 : Int32) (us : Int32) (un : (Nat → Int32)) (uq : (Nat → Int32)), f_X7_roller_47 N n_47 x1 x2 x3 x4 us up ue ut um un uq = some (r0, us', un', uq') → ∀ (H : Heap) (locs : List Loc) (ls : Array Slot), va_P D vwCl [(bM, .inr (7, [.ref bN, .ref bQ, .int us, .ref bS, .ref bH, .ref bP, .int up, .int ue, .int ut, .ref bT, .int um])), (bN, .inl (cyI, 225, .inl un)), (bQ, .inl (cyI, 1350, .inl uq))] H → va_D A [(bM, .inr (7, [.ref bN, .ref bQ, .int us, .ref bS, .ref bH, .ref bP, .int up, .int ue, .int ut, .ref bT, .int um])), (bN, .inl (cyI, 225, .inl un)), (bQ, .inl (cyI, 1350, .inl uq))] → va_S A s.heap H locs → lv_has ls 5 [(0, .ref bM), (1, .int x1), (2, .int x2), (3, .int x3), (4, .int x4)] → G H locs (F0 m 47 ls []) := by
    intro n_47
    induction n_47 with
    | zero => intro x1 x2 x3 x4 us un uq hF; exact (k_none hF).elim
    | succ n_47 ih_47 =>
      intro x1 x2 x3 x4 us un uq hF H locs ls hP hD hS hl
      replace hF : b_X7_roller_47 N (f_X7_roller_47 N n_47) x1 x2 x3 x4 us up ue ut um un uq = some (r0, us', un', uq') := hF
      unfold b_X7_roller_47 at hF
      refine (hG _ _ _).2 ?_
      refine lv_iload hx hb dX7_roller_47 (lv_at hl 4 rfl) ?_
      refine lv_iload_n hx hb dX7_roller_49 rfl (lv_at hl 1 rfl) ?_
      refine lv_icmp_ge (tgt := 77) hx hb dX7_roller_50 (by decide) (fun hc => ?_) (fun hc => ?_)
      · have hF := k_if_t hF hc
        refine lv_iload_n hx hb dX7_roller_77 rfl (lv_at hl 3 rfl) ?_
        obtain ⟨e0, e1, e2, e3⟩ := k_inj4 hF
        have hP9 : va_P D vwCl [(bM, .inr (7, [.ref bN, .ref bQ, .int us', .ref bS, .ref bH, .ref bP, .int up, .int ue, .int ut, .ref bT, .int um])), (bN, .inl (cyI, 225, .inl un')), (bQ, .inl (cyI, 1350, .inl uq'))] H := by rw [← e1, ← e2, ← e3]; exact hP
        exact W.iret hx hb hr (fun t ht hW => ⟨⟨_, (), rfl, e0, x_ret hP9 ht⟩, hS.F ht⟩) hS.2.2 dX7_roller_78
      · have hF := k_if_f hF hc
        refine lv_aload_n hx hb dX7_roller_53 rfl (lv_at hl 0 rfl) ?_
        refine va_get (D := D) (ci := 7) (v := .ref bN) (C := RX7) (T := TX7) (N := 11) hx hb hts mi_X7_roller_X7 hown hK.1 hP 0 rfl rfl 0 (by decide) (hts _ mm_X7_roller_1) (fun _ h9 => h9) rfl dX7_roller_54 ?_
        refine lv_bipush (v := (9 : Int32)) hx hb dX7_roller_57 (by decide) ?_
        refine lv_bipush (v := (27 : Int32)) hx hb dX7_roller_59 (by decide) ?_
        refine lv_iload_n hx hb dX7_roller_61 rfl (lv_at hl 3 rfl) ?_
        refine lv_imul hx hb dX7_roller_62 ?_
        refine lv_iadd hx hb dX7_roller_63 ?_
        refine lv_iconst (v := (3 : Int32)) hx hb dX7_roller_64 (by decide) ?_
        refine lv_iadd hx hb dX7_roller_65 ?_
        refine lv_iload hx hb dX7_roller_66 (lv_at hl 4 rfl) ?_
        refine lv_iadd hx hb dX7_roller_68 ?_
        refine lv_iload_n hx hb dX7_roller_69 rfl (lv_at hl 2 rfl) ?_
        obtain ⟨un_70, hin, hn, hF⟩ := k_st_ex hF
        refine x_iast hx hb hK hP hD hS 1 rfl hin hn dX7_roller_70 (fun H locs hP hD hS => ?_)
        have hP : va_P D vwCl [(bM, .inr (7, [.ref bN, .ref bQ, .int us, .ref bS, .ref bH, .ref bP, .int up, .int ue, .int ut, .ref bT, .int um])), (bN, .inl (cyI, 225, .inl un_70)), (bQ, .inl (cyI, 1350, .inl uq))] H := hP
        have hD : va_D A [(bM, .inr (7, [.ref bN, .ref bQ, .int us, .ref bS, .ref bH, .ref bP, .int up, .int ue, .int ut, .ref bT, .int um])), (bN, .inl (cyI, 225, .inl un_70)), (bQ, .inl (cyI, 1350, .inl uq))] := hD
        obtain ⟨x4_71, hn, hF⟩ := k_let_ex hF
        refine lv_iinc (v := x4_71) (lv' := [(4, .int x4_71), (0, .ref bM), (1, .int x1), (2, .int x2), (3, .int x3)]) hx hb dX7_roller_71 hl (k := 4) rfl (by rw [hn]; rfl) (by decide) rfl (fun ls hl => ?_)
        refine lv_goto (tgt := 47) hx hb dX7_roller_74 (by decide) ?_
        exact (hG _ _ _).1 (ih_47 x1 x2 x3 x4_71 us un_70 uq hF _ _ _ hP hD hS (lv_sub hl [1, 2, 3, 4, 0] rfl))
  refine (hG _ _ _).2 ?_
  unfold p_X7_roller at hF
  refine lv_iload_n hx hb dX7_roller_0 rfl (lv_at hl 1 rfl) ?_
  refine lv_iconst (v := (2 : Int32)) hx hb dX7_roller_1 (by decide) ?_
  refine lv_bipush (v := (24 : Int32)) hx hb dX7_roller_2 (by decide) ?_
  obtain ⟨r4, hC, hF⟩ := k_c1_ex hF
  refine x_SR (As := [.int x1, .int (2 : Int32), .int (24 : Int32)]) (rest := []) ⟨hx, hb, hml, hown, hts⟩ (c_X7_in l D cyI cyZ N x1 (2 : Int32) (24 : Int32) hC) (va_cwS 3 hts gX7_roller_X7_in rfl rfl rfl (by decide +kernel) ⟨Nat.le_of_ble_eq_true rfl, Nat.le_of_ble_eq_true rfl⟩) hK hP hS [] rfl rfl hl.1 rfl (Nat.le_of_ble_eq_true rfl) ⟨Nat.zero_le _, Nat.zero_le _⟩ dX7_roller_4 (fun H locs hP hS => ?_)
  refine lv_if_eq (tgt := 17) hx hb dX7_roller_7 (by decide) (fun hc => ?_) (fun hc => ?_)
  · have hF := k_if_t hF hc
    refine lv_bipush (v := (-2 : Int32)) hx hb dX7_roller_17 (by decide) ?_
    obtain ⟨e0, e1, e2, e3⟩ := k_inj4 hF
    have hP9 : va_P D vwCl [(bM, .inr (7, [.ref bN, .ref bQ, .int us', .ref bS, .ref bH, .ref bP, .int up, .int ue, .int ut, .ref bT, .int um])), (bN, .inl (cyI, 225, .inl un')), (bQ, .inl (cyI, 1350, .inl uq'))] H := by rw [← e1, ← e2, ← e3]; exact hP
    exact W.iret hx hb hr (fun t ht hW => ⟨⟨_, (), rfl, e0, x_ret hP9 ht⟩, hS.F ht⟩) hS.2.2 dX7_roller_19
  · have hF := k_if_f hF hc
    refine lv_iload_n hx hb dX7_roller_10 rfl (lv_at hl 2 rfl) ?_
    obtain ⟨r11, hC, hF⟩ := k_c1_ex hF
    refine x_SR (As := [.int x2]) (rest := []) ⟨hx, hb, hml, hown, hts⟩ (c_X7_isHeight l D cyI cyZ N x2 hC) (va_cwS 1 hts gX7_roller_X7_isHeight rfl rfl rfl (by decide +kernel) ⟨Nat.le_of_ble_eq_true rfl, Nat.le_of_ble_eq_true rfl⟩) hK hP hS [] rfl rfl hl.1 rfl (Nat.le_of_ble_eq_true rfl) ⟨Nat.zero_le _, Nat.zero_le _⟩ dX7_roller_11 (fun H locs hP hS => ?_)
    refine lv_if_ne (tgt := 20) hx hb dX7_roller_14 (by decide) (fun hc => ?_) (fun hc => ?_)
    · have hF := k_if_f hF hc
      refine lv_aload_n hx hb dX7_roller_20 rfl (lv_at hl 0 rfl) ?_
      refine va_get (D := D) (ci := 7) (v := .ref bN) (C := RX7) (T := TX7) (N := 11) hx hb hts mi_X7_roller_X7 hown hK.1 hP 0 rfl rfl 0 (by decide) (hts _ mm_X7_roller_1) (fun _ h9 => h9) rfl dX7_roller_21 ?_
      refine lv_iconst (v := (3 : Int32)) hx hb dX7_roller_24 (by decide) ?_
      obtain ⟨r25, hin, hn, hF⟩ := k_ld_ex hF
      refine x_iald hx hb hK hP 1 rfl hin hn dX7_roller_25 ?_
      refine lv_bipush (v := (8 : Int32)) hx hb dX7_roller_26 (by decide) ?_
      refine lv_icmp_ne (tgt := 34) hx hb dX7_roller_28 (by decide) (fun hc => ?_) (fun hc => ?_)
      · have hF := k_if_f hF hc
        refine lv_aload_n hx hb dX7_roller_34 rfl (lv_at hl 0 rfl) ?_
        obtain ⟨us_35, uq_35, hC, hF⟩ := k_c2_ex hF
        refine x_VV (As := []) (rest := []) ⟨hx, hb, hml, hown, hts⟩ (c_X7_records l D cyI cyZ bM bN bQ bS bH bP bT H.size N us up ue ut um un uq hC) (cwV 0 hts gX7_roller_X7_records rfl rfl rfl (by decide +kernel) ⟨Nat.le_of_ble_eq_true rfl, Nat.le_of_ble_eq_true rfl⟩) hK hP hD hS hA [0, 1, 2] rfl rfl rfl 0 rfl rfl rfl rfl hl.1 rfl (Nat.le_of_ble_eq_true rfl) ⟨Nat.zero_le _, Nat.zero_le _⟩ dX7_roller_35 (fun H locs hP hD hS => ?_)
        have hP : va_P D vwCl [(bM, .inr (7, [.ref bN, .ref bQ, .int us_35, .ref bS, .ref bH, .ref bP, .int up, .int ue, .int ut, .ref bT, .int um])), (bN, .inl (cyI, 225, .inl un)), (bQ, .inl (cyI, 1350, .inl uq_35))] H := hP
        have hD : va_D A [(bM, .inr (7, [.ref bN, .ref bQ, .int us_35, .ref bS, .ref bH, .ref bP, .int up, .int ue, .int ut, .ref bT, .int um])), (bN, .inl (cyI, 225, .inl un)), (bQ, .inl (cyI, 1350, .inl uq_35))] := hD
        refine lv_aload_n hx hb dX7_roller_38 rfl (lv_at hl 0 rfl) ?_
        refine lv_iload_n hx hb dX7_roller_39 rfl (lv_at hl 1 rfl) ?_
        obtain ⟨r40, un_40, hC, hF⟩ := k_c2_ex hF
        refine x_VM (As := [.int x1]) (rest := []) ⟨hx, hb, hml, hown, hts⟩ (c_X7_comes l D cyI cyZ bM bN bQ bS bH bP bT H.size N x1 us_35 up ue ut um un hC) (cwV 1 hts gX7_roller_X7_comes rfl rfl rfl (by decide +kernel) ⟨Nat.le_of_ble_eq_true rfl, Nat.le_of_ble_eq_true rfl⟩) hK hP hD hS hA [0, 1] rfl rfl rfl 0 rfl rfl rfl rfl hl.1 rfl (Nat.le_of_ble_eq_true rfl) ⟨Nat.zero_le _, Nat.zero_le _⟩ dX7_roller_40 (fun H locs hP hD hS => ?_)
        have hP : va_P D vwCl [(bM, .inr (7, [.ref bN, .ref bQ, .int us_35, .ref bS, .ref bH, .ref bP, .int up, .int ue, .int ut, .ref bT, .int um])), (bN, .inl (cyI, 225, .inl un_40)), (bQ, .inl (cyI, 1350, .inl uq_35))] H := hP
        have hD : va_D A [(bM, .inr (7, [.ref bN, .ref bQ, .int us_35, .ref bS, .ref bH, .ref bP, .int up, .int ue, .int ut, .ref bT, .int um])), (bN, .inl (cyI, 225, .inl un_40)), (bQ, .inl (cyI, 1350, .inl uq_35))] := hD
        refine lv_istore_n (lv' := [(3, .int r40), (0, .ref bM), (1, .int x1), (2, .int x2)]) hx hb dX7_roller_43 rfl hl (by decide) rfl (fun ls hl => ?_)
        refine lv_iconst (v := (0 : Int32)) hx hb dX7_roller_44 (by decide) ?_
        refine lv_istore (lv' := [(4, .int (0 : Int32)), (3, .int r40), (0, .ref bM), (1, .int x1), (2, .int x2)]) hx hb dX7_roller_45 hl (by decide) rfl (fun ls hl => ?_)
        exact (hG _ _ _).1 (blk_47 N x1 x2 r40 (0 : Int32) us_35 un_40 uq_35 hF _ _ _ hP hD hS (lv_sub hl [2, 3, 4, 1, 0] rfl))
      · have hF := k_if_t hF hc
        refine lv_bipush (v := (-4 : Int32)) hx hb dX7_roller_31 (by decide) ?_
        obtain ⟨e0, e1, e2, e3⟩ := k_inj4 hF
        have hP9 : va_P D vwCl [(bM, .inr (7, [.ref bN, .ref bQ, .int us', .ref bS, .ref bH, .ref bP, .int up, .int ue, .int ut, .ref bT, .int um])), (bN, .inl (cyI, 225, .inl un')), (bQ, .inl (cyI, 1350, .inl uq'))] H := by rw [← e1, ← e2, ← e3]; exact hP
        exact W.iret hx hb hr (fun t ht hW => ⟨⟨_, (), rfl, e0, x_ret hP9 ht⟩, hS.F ht⟩) hS.2.2 dX7_roller_33
    · have hF := k_if_t hF hc
      refine lv_bipush (v := (-2 : Int32)) hx hb dX7_roller_17 (by decide) ?_
      obtain ⟨e0, e1, e2, e3⟩ := k_inj4 hF
      have hP9 : va_P D vwCl [(bM, .inr (7, [.ref bN, .ref bQ, .int us', .ref bS, .ref bH, .ref bP, .int up, .int ue, .int ut, .ref bT, .int um])), (bN, .inl (cyI, 225, .inl un')), (bQ, .inl (cyI, 1350, .inl uq'))] H := by rw [← e1, ← e2, ← e3]; exact hP
      exact W.iret hx hb hr (fun t ht hW => ⟨⟨_, (), rfl, e0, x_ret hP9 ht⟩, hS.F ht⟩) hS.2.2 dX7_roller_19
theorem mm_X7_isRoller_1 : Cond.fieldLink RX7 7 "RollerMeshModel" "now" "[I" ∈ wsX7_isRoller := List.mem_of_getElem? (i := 1) rfl
theorem mi_X7_isRoller_X7 : ∀ w ∈ wsX70, w ∈ wsX7_isRoller := fun _ h => List.mem_cons_of_mem _ (List.mem_append_right _ h)
set_option maxHeartbeats 4000000 in
set_option maxRecDepth 100000 in
theorem c_X7_isRoller (l : Launch) (D : va_G) (cyI cyZ : ClassId) (bM bN bQ bS bH bP bT : Nat) (N : Nat) (x1 : Int32) (us : Int32) (up : Int32) (ue : Int32) (ut : Int32) (um : Int32) (un : (Nat → Int32)) {r0 : Int32}  (hF : p_X7_isRoller N x1 us up ue ut um un = some (r0)) : Met l yX7_isRoller wsX7_isRoller ({ frames := 1, cells := 0, slots := 0, locals := 22 }) (x_PR D cyI cyZ [.ref bM, .int x1] [(bM, .inr (7, [.ref bN, .ref bQ, .int us, .ref bS, .ref bH, .ref bP, .int up, .int ue, .int ut, .ref bT, .int um])), (bN, .inl (cyI, 225, .inl un))]) (x_QR r0) 0 0 (fun _ => False) := by
  refine Met.ofW (cc := cX7_isRoller) (maxL := 2) (ret := (some .boolean)) (by decide) rfl ?_
  intro p e s m args below meth c s₁ B hml hv
  obtain ⟨rfl, hP, hK⟩ := hv
  have hx := B.exec
  have hb := B.bytes
  have hr := B.returns
  have hts := atoms_spec (ws := wsX7_isRoller) B.pre
  have hown : s.vm.findClass RX7 = some m.cls := findClass_of_methodNamed B.named
  have hlocks := B.notSynchronized
  have hS : va_S (fun _ => False) s.heap s.heap [] := va_S.rf
  have hP : va_P D vwCl [(bM, .inr (7, [.ref bN, .ref bQ, .int us, .ref bS, .ref bH, .ref bP, .int up, .int ue, .int ut, .ref bT, .int um])), (bN, .inl (cyI, 225, .inl un))] s.heap := hP
  have hl := lv_entry ([.ref bM, .int x1]) (n := 2) (Nat.le_of_ble_eq_true rfl)
  rw [lg_entry_eq]
  generalize (lg_sl ([.ref bM, .int x1]) ++ List.replicate (2 - (lg_sl ([.ref bM, .int x1])).length) Slot.unset).toArray = ls at hl ⊢
  have hl : lv_has ls 2 [(0, .ref bM), (1, .int x1)] := hl
  unfold p_X7_isRoller at hF
  refine lv_iload_n hx hb dX7_isRoller_0 rfl (lv_at hl 1 rfl) ?_
  refine lv_iconst (v := (0 : Int32)) hx hb dX7_isRoller_1 (by decide) ?_
  refine lv_aload_n hx hb dX7_isRoller_2 rfl (lv_at hl 0 rfl) ?_
  refine va_get (D := D) (ci := 7) (v := .ref bN) (C := RX7) (T := TX7) (N := 11) hx hb hts mi_X7_isRoller_X7 hown hK.1 hP 0 rfl rfl 0 (by decide) (hts _ mm_X7_isRoller_1) (fun _ h9 => h9) rfl dX7_isRoller_3 ?_
  refine lv_iconst (v := (3 : Int32)) hx hb dX7_isRoller_6 (by decide) ?_
  obtain ⟨r7, hin, hn, hF⟩ := k_ld_ex hF
  refine x_iald hx hb hK hP 1 rfl hin hn dX7_isRoller_7 ?_
  refine lv_iconst (v := (1 : Int32)) hx hb dX7_isRoller_8 (by decide) ?_
  refine lv_isub hx hb dX7_isRoller_9 ?_
  obtain ⟨r10, hC, hF⟩ := k_c1_ex hF
  refine x_SR (As := [.int x1, .int (0 : Int32), .int (r7 - (1 : Int32))]) (rest := []) ⟨hx, hb, hml, hown, hts⟩ (c_X7_in l D cyI cyZ N x1 (0 : Int32) (r7 - (1 : Int32)) hC) (va_cwS 3 hts gX7_isRoller_X7_in rfl rfl rfl (by decide +kernel) ⟨Nat.le_of_ble_eq_true rfl, Nat.le_of_ble_eq_true rfl⟩) hK hP hS [] rfl rfl hl.1 rfl (Nat.le_of_ble_eq_true rfl) ⟨Nat.zero_le _, Nat.zero_le _⟩ dX7_isRoller_10 (fun H locs hP hS => ?_)
  obtain ⟨hbit, hF⟩ := k_bit_ex hF
  exact W.zret hx hb hr (congrArg Value.int hbit) (fun t ht hW => ⟨⟨_, (), rfl, Option.some.inj hF, trivial⟩, hS.F ht⟩) hS.2.2 dX7_isRoller_13
theorem mm_X7_ofR_1 : Cond.fieldLink RX7 7 "RollerMeshModel" "now" "[I" ∈ wsX7_ofR := List.mem_of_getElem? (i := 1) rfl
theorem mi_X7_ofR_X7 : ∀ w ∈ wsX70, w ∈ wsX7_ofR := fun _ h => List.mem_cons_of_mem _ (List.mem_append_right _ h)
set_option maxHeartbeats 4000000 in
set_option maxRecDepth 100000 in
theorem c_X7_ofR (l : Launch) (D : va_G) (cyI cyZ : ClassId) (bM bN bQ bS bH bP bT : Nat) (N : Nat) (x1 : Int32) (x2 : Int32) (us : Int32) (up : Int32) (ue : Int32) (ut : Int32) (um : Int32) (un : (Nat → Int32)) {r0 : Int32}  (hF : p_X7_ofR N x1 x2 us up ue ut um un = some (r0)) : Met l yX7_ofR wsX7_ofR ({ frames := 0, cells := 0, slots := 0, locals := 0 }) (x_PR D cyI cyZ [.ref bM, .int x1, .int x2] [(bM, .inr (7, [.ref bN, .ref bQ, .int us, .ref bS, .ref bH, .ref bP, .int up, .int ue, .int ut, .ref bT, .int um])), (bN, .inl (cyI, 225, .inl un))]) (x_QR r0) 0 0 (fun _ => False) := by
  refine Met.ofW (cc := cX7_ofR) (maxL := 3) (ret := (some .int)) (by decide) rfl ?_
  intro p e s m args below meth c s₁ B hml hv
  obtain ⟨rfl, hP, hK⟩ := hv
  have hx := B.exec
  have hb := B.bytes
  have hr := B.returns
  have hts := atoms_spec (ws := wsX7_ofR) B.pre
  have hown : s.vm.findClass RX7 = some m.cls := findClass_of_methodNamed B.named
  have hlocks := B.notSynchronized
  have hS : va_S (fun _ => False) s.heap s.heap [] := va_S.rf
  have hP : va_P D vwCl [(bM, .inr (7, [.ref bN, .ref bQ, .int us, .ref bS, .ref bH, .ref bP, .int up, .int ue, .int ut, .ref bT, .int um])), (bN, .inl (cyI, 225, .inl un))] s.heap := hP
  have hl := lv_entry ([.ref bM, .int x1, .int x2]) (n := 3) (Nat.le_of_ble_eq_true rfl)
  rw [lg_entry_eq]
  generalize (lg_sl ([.ref bM, .int x1, .int x2]) ++ List.replicate (3 - (lg_sl ([.ref bM, .int x1, .int x2])).length) Slot.unset).toArray = ls at hl ⊢
  have hl : lv_has ls 3 [(0, .ref bM), (1, .int x1), (2, .int x2)] := hl
  unfold p_X7_ofR at hF
  refine lv_aload_n hx hb dX7_ofR_0 rfl (lv_at hl 0 rfl) ?_
  refine va_get (D := D) (ci := 7) (v := .ref bN) (C := RX7) (T := TX7) (N := 11) hx hb hts mi_X7_ofR_X7 hown hK.1 hP 0 rfl rfl 0 (by decide) (hts _ mm_X7_ofR_1) (fun _ h9 => h9) rfl dX7_ofR_1 ?_
  refine lv_bipush (v := (9 : Int32)) hx hb dX7_ofR_4 (by decide) ?_
  refine lv_bipush (v := (27 : Int32)) hx hb dX7_ofR_6 (by decide) ?_
  refine lv_iload_n hx hb dX7_ofR_8 rfl (lv_at hl 1 rfl) ?_
  refine lv_imul hx hb dX7_ofR_9 ?_
  refine lv_iadd hx hb dX7_ofR_10 ?_
  refine lv_iload_n hx hb dX7_ofR_11 rfl (lv_at hl 2 rfl) ?_
  refine lv_iadd hx hb dX7_ofR_12 ?_
  obtain ⟨r13, hin, hn, hF⟩ := k_ld_ex hF
  refine x_iald hx hb hK hP 1 rfl hin hn dX7_ofR_13 ?_
  exact W.iret hx hb hr (fun t ht hW => ⟨⟨_, (), rfl, Option.some.inj hF, trivial⟩, hS.F ht⟩) hS.2.2 dX7_ofR_14
set_option maxHeartbeats 4000000 in
set_option maxRecDepth 100000 in
theorem c_X7_isTooth (l : Launch) (D : va_G) (cyI cyZ : ClassId) (bM bN bQ bS bH bP bT : Nat) (N : Nat) (x1 : Int32) (x2 : Int32) (us : Int32) (up : Int32) (ue : Int32) (ut : Int32) (um : Int32) (un : (Nat → Int32)) {r0 : Int32}  (hF : p_X7_isTooth N x1 x2 us up ue ut um un = some (r0)) : Met l yX7_isTooth wsX7_isTooth ({ frames := 2, cells := 0, slots := 0, locals := 43 }) (x_PR D cyI cyZ [.ref bM, .int x1, .int x2] [(bM, .inr (7, [.ref bN, .ref bQ, .int us, .ref bS, .ref bH, .ref bP, .int up, .int ue, .int ut, .ref bT, .int um])), (bN, .inl (cyI, 225, .inl un))]) (x_QR r0) 0 0 (fun _ => False) := by
  refine Met.ofW (cc := cX7_isTooth) (maxL := 3) (ret := (some .boolean)) (by decide) rfl ?_
  intro p e s m args below meth c s₁ B hml hv
  obtain ⟨rfl, hP, hK⟩ := hv
  have hx := B.exec
  have hb := B.bytes
  have hr := B.returns
  have hts := atoms_spec (ws := wsX7_isTooth) B.pre
  have hown : s.vm.findClass RX7 = some m.cls := findClass_of_methodNamed B.named
  have hlocks := B.notSynchronized
  have hS : va_S (fun _ => False) s.heap s.heap [] := va_S.rf
  have hP : va_P D vwCl [(bM, .inr (7, [.ref bN, .ref bQ, .int us, .ref bS, .ref bH, .ref bP, .int up, .int ue, .int ut, .ref bT, .int um])), (bN, .inl (cyI, 225, .inl un))] s.heap := hP
  have hl := lv_entry ([.ref bM, .int x1, .int x2]) (n := 3) (Nat.le_of_ble_eq_true rfl)
  rw [lg_entry_eq]
  generalize (lg_sl ([.ref bM, .int x1, .int x2]) ++ List.replicate (3 - (lg_sl ([.ref bM, .int x1, .int x2])).length) Slot.unset).toArray = ls at hl ⊢
  have hl : lv_has ls 3 [(0, .ref bM), (1, .int x1), (2, .int x2)] := hl
  unfold p_X7_isTooth at hF
  refine lv_aload_n hx hb dX7_isTooth_0 rfl (lv_at hl 0 rfl) ?_
  refine lv_iload_n hx hb dX7_isTooth_1 rfl (lv_at hl 1 rfl) ?_
  obtain ⟨r2, hC, hF⟩ := k_c1_ex hF
  refine x_VR (As := [.int x1]) (rest := []) ⟨hx, hb, hml, hown, hts⟩ (c_X7_isRoller l D cyI cyZ bM bN bQ bS bH bP bT N x1 us up ue ut um un hC) (cwV 1 hts gX7_isTooth_X7_isRoller rfl rfl rfl (by decide +kernel) ⟨Nat.le_of_ble_eq_true rfl, Nat.le_of_ble_eq_true rfl⟩) hK hP hS [0, 1] rfl 0 rfl rfl rfl rfl hl.1 rfl (Nat.le_of_ble_eq_true rfl) ⟨Nat.zero_le _, Nat.zero_le _⟩ dX7_isTooth_2 (fun H locs hP hS => ?_)
  refine lv_if_eq (tgt := 28) hx hb dX7_isTooth_5 (by decide) (fun hc => ?_) (fun hc => ?_)
  · have hF := k_if_t hF hc
    refine lv_iconst (v := (0 : Int32)) hx hb dX7_isTooth_28 (by decide) ?_
    exact W.zret hx hb hr rfl (fun t ht hW => ⟨⟨_, (), rfl, Option.some.inj hF, trivial⟩, hS.F ht⟩) hS.2.2 dX7_isTooth_29
  · have hF := k_if_f hF hc
    refine lv_iload_n hx hb dX7_isTooth_8 rfl (lv_at hl 2 rfl) ?_
    refine lv_iconst (v := (0 : Int32)) hx hb dX7_isTooth_9 (by decide) ?_
    refine lv_aload_n hx hb dX7_isTooth_10 rfl (lv_at hl 0 rfl) ?_
    refine lv_iload_n hx hb dX7_isTooth_11 rfl (lv_at hl 1 rfl) ?_
    refine lv_iconst (v := (0 : Int32)) hx hb dX7_isTooth_12 (by decide) ?_
    obtain ⟨r13, hC, hF⟩ := k_c1_ex hF
    refine x_VR (As := [.int x1, .int (0 : Int32)]) (rest := [.int (0 : Int32), .int x2]) ⟨hx, hb, hml, hown, hts⟩ (c_X7_ofR l D cyI cyZ bM bN bQ bS bH bP bT N x1 (0 : Int32) us up ue ut um un hC) (cwV 2 hts gX7_isTooth_X7_ofR rfl rfl rfl (by decide +kernel) ⟨Nat.le_of_ble_eq_true rfl, Nat.le_of_ble_eq_true rfl⟩) hK hP hS [0, 1] rfl 0 rfl rfl rfl rfl hl.1 rfl (Nat.le_of_ble_eq_true rfl) ⟨Nat.zero_le _, Nat.zero_le _⟩ dX7_isTooth_13 (fun H locs hP hS => ?_)
    refine lv_iconst (v := (1 : Int32)) hx hb dX7_isTooth_16 (by decide) ?_
    refine lv_isub hx hb dX7_isTooth_17 ?_
    obtain ⟨r18, hC, hF⟩ := k_c1_ex hF
    refine x_SR (As := [.int x2, .int (0 : Int32), .int (r13 - (1 : Int32))]) (rest := []) ⟨hx, hb, hml, hown, hts⟩ (c_X7_in l D cyI cyZ N x2 (0 : Int32) (r13 - (1 : Int32)) hC) (va_cwS 3 hts gX7_isTooth_X7_in rfl rfl rfl (by decide +kernel) ⟨Nat.le_of_ble_eq_true rfl, Nat.le_of_ble_eq_true rfl⟩) hK hP hS [] rfl rfl hl.1 rfl (Nat.le_of_ble_eq_true rfl) ⟨Nat.zero_le _, Nat.zero_le _⟩ dX7_isTooth_18 (fun H locs hP hS => ?_)
    refine lv_if_eq (tgt := 28) hx hb dX7_isTooth_21 (by decide) (fun hc => ?_) (fun hc => ?_)
    · have hF := k_if_t hF hc
      refine lv_iconst (v := (0 : Int32)) hx hb dX7_isTooth_28 (by decide) ?_
      exact W.zret hx hb hr rfl (fun t ht hW => ⟨⟨_, (), rfl, Option.some.inj hF, trivial⟩, hS.F ht⟩) hS.2.2 dX7_isTooth_29
    · have hF := k_if_f hF hc
      refine lv_iconst (v := (1 : Int32)) hx hb dX7_isTooth_24 (by decide) ?_
      refine lv_goto (tgt := 29) hx hb dX7_isTooth_25 (by decide) ?_
      exact W.zret hx hb hr rfl (fun t ht hW => ⟨⟨_, (), rfl, Option.some.inj hF, trivial⟩, hS.F ht⟩) hS.2.2 dX7_isTooth_29
set_option maxHeartbeats 4000000 in
set_option maxRecDepth 100000 in
theorem c_X7_fileError (l : Launch) (D : va_G) (cyI cyZ : ClassId) (bM bN bQ bS bH bP bT : Nat) (N : Nat) (x1 : Int32) (x2 : Int32) (x3 : Int32) (us : Int32) (up : Int32) (ue : Int32) (ut : Int32) (um : Int32) (un : (Nat → Int32)) {r0 : Int32}  (hF : p_X7_fileError N x1 x2 x3 us up ue ut um un = some (r0)) : Met l yX7_fileError wsX7_fileError ({ frames := 3, cells := 0, slots := 0, locals := 65 }) (x_PR D cyI cyZ [.ref bM, .int x1, .int x2, .int x3] [(bM, .inr (7, [.ref bN, .ref bQ, .int us, .ref bS, .ref bH, .ref bP, .int up, .int ue, .int ut, .ref bT, .int um])), (bN, .inl (cyI, 225, .inl un))]) (x_QR r0) 0 0 (fun _ => False) := by
  refine Met.ofW (cc := cX7_fileError) (maxL := 4) (ret := (some .int)) (by decide) rfl ?_
  intro p e s m args below meth c s₁ B hml hv
  obtain ⟨rfl, hP, hK⟩ := hv
  have hx := B.exec
  have hb := B.bytes
  have hr := B.returns
  have hts := atoms_spec (ws := wsX7_fileError) B.pre
  have hown : s.vm.findClass RX7 = some m.cls := findClass_of_methodNamed B.named
  have hlocks := B.notSynchronized
  have hS : va_S (fun _ => False) s.heap s.heap [] := va_S.rf
  have hP : va_P D vwCl [(bM, .inr (7, [.ref bN, .ref bQ, .int us, .ref bS, .ref bH, .ref bP, .int up, .int ue, .int ut, .ref bT, .int um])), (bN, .inl (cyI, 225, .inl un))] s.heap := hP
  have hl := lv_entry ([.ref bM, .int x1, .int x2, .int x3]) (n := 4) (Nat.le_of_ble_eq_true rfl)
  rw [lg_entry_eq]
  generalize (lg_sl ([.ref bM, .int x1, .int x2, .int x3]) ++ List.replicate (4 - (lg_sl ([.ref bM, .int x1, .int x2, .int x3])).length) Slot.unset).toArray = ls at hl ⊢
  have hl : lv_has ls 4 [(0, .ref bM), (1, .int x1), (2, .int x2), (3, .int x3)] := hl
  unfold p_X7_fileError at hF
  refine lv_aload_n hx hb dX7_fileError_0 rfl (lv_at hl 0 rfl) ?_
  refine lv_iload_n hx hb dX7_fileError_1 rfl (lv_at hl 1 rfl) ?_
  refine lv_iload_n hx hb dX7_fileError_2 rfl (lv_at hl 2 rfl) ?_
  obtain ⟨r3, hC, hF⟩ := k_c1_ex hF
  refine x_VR (As := [.int x1, .int x2]) (rest := []) ⟨hx, hb, hml, hown, hts⟩ (c_X7_isTooth l D cyI cyZ bM bN bQ bS bH bP bT N x1 x2 us up ue ut um un hC) (cwV 2 hts gX7_fileError_X7_isTooth rfl rfl rfl (by decide +kernel) ⟨Nat.le_of_ble_eq_true rfl, Nat.le_of_ble_eq_true rfl⟩) hK hP hS [0, 1] rfl 0 rfl rfl rfl rfl hl.1 rfl (Nat.le_of_ble_eq_true rfl) ⟨Nat.zero_le _, Nat.zero_le _⟩ dX7_fileError_3 (fun H locs hP hS => ?_)
  refine lv_if_ne (tgt := 13) hx hb dX7_fileError_6 (by decide) (fun hc => ?_) (fun hc => ?_)
  · have hF := k_if_f hF hc
    refine lv_iload_n hx hb dX7_fileError_13 rfl (lv_at hl 3 rfl) ?_
    obtain ⟨r14, hC, hF⟩ := k_c1_ex hF
    refine x_SR (As := [.int x3]) (rest := []) ⟨hx, hb, hml, hown, hts⟩ (c_X7_isHeight l D cyI cyZ N x3 hC) (va_cwS 1 hts gX7_fileError_X7_isHeight rfl rfl rfl (by decide +kernel) ⟨Nat.le_of_ble_eq_true rfl, Nat.le_of_ble_eq_true rfl⟩) hK hP hS [] rfl rfl hl.1 rfl (Nat.le_of_ble_eq_true rfl) ⟨Nat.zero_le _, Nat.zero_le _⟩ dX7_fileError_14 (fun H locs hP hS => ?_)
    refine lv_if_eq (tgt := 24) hx hb dX7_fileError_17 (by decide) (fun hc => ?_) (fun hc => ?_)
    · have hF := k_if_t hF hc
      refine lv_bipush (v := (-2 : Int32)) hx hb dX7_fileError_24 (by decide) ?_
      exact W.iret hx hb hr (fun t ht hW => ⟨⟨_, (), rfl, Option.some.inj hF, trivial⟩, hS.F ht⟩) hS.2.2 dX7_fileError_26
    · have hF := k_if_f hF hc
      refine lv_iconst (v := (0 : Int32)) hx hb dX7_fileError_20 (by decide) ?_
      refine lv_goto (tgt := 26) hx hb dX7_fileError_21 (by decide) ?_
      exact W.iret hx hb hr (fun t ht hW => ⟨⟨_, (), rfl, Option.some.inj hF, trivial⟩, hS.F ht⟩) hS.2.2 dX7_fileError_26
  · have hF := k_if_t hF hc
    refine lv_iconst (v := (-1 : Int32)) hx hb dX7_fileError_9 (by decide) ?_
    refine lv_goto (tgt := 26) hx hb dX7_fileError_10 (by decide) ?_
    exact W.iret hx hb hr (fun t ht hW => ⟨⟨_, (), rfl, Option.some.inj hF, trivial⟩, hS.F ht⟩) hS.2.2 dX7_fileError_26
theorem mm_X7_files_1 : Cond.fieldLink RX7 7 "RollerMeshModel" "now" "[I" ∈ wsX7_files := List.mem_of_getElem? (i := 1) rfl
theorem mi_X7_files_X7 : ∀ w ∈ wsX70, w ∈ wsX7_files := fun _ h => List.mem_cons_of_mem _ (List.mem_append_right _ h)
set_option maxHeartbeats 4000000 in
set_option maxRecDepth 100000 in
theorem c_X7_files (l : Launch) (D : va_G) (cyI cyZ : ClassId) (bM bN bQ bS bH bP bT : Nat) (sz : Nat) (N : Nat) (x1 : Int32) (x2 : Int32) (x3 : Int32) (us : Int32) (up : Int32) (ue : Int32) (ut : Int32) (um : Int32) (un : (Nat → Int32)) {r0 : Int32} {un' : (Nat → Int32)} (hF : p_X7_files N x1 x2 x3 us up ue ut um un = some (r0, un')) : Met l yX7_files wsX7_files ({ frames := 0, cells := 0, slots := 0, locals := 0 }) (x_PM D cyI cyZ [.ref bM, .int x1, .int x2, .int x3] [(bM, .inr (7, [.ref bN, .ref bQ, .int us, .ref bS, .ref bH, .ref bP, .int up, .int ue, .int ut, .ref bT, .int um])), (bN, .inl (cyI, 225, .inl un))] sz) (x_QM D r0 (va_A [(bM, .inr (7, [.ref bN, .ref bQ, .int us, .ref bS, .ref bH, .ref bP, .int up, .int ue, .int ut, .ref bT, .int um])), (bN, .inl (cyI, 225, .inl un))] sz) [(bM, .inr (7, [.ref bN, .ref bQ, .int us, .ref bS, .ref bH, .ref bP, .int up, .int ue, .int ut, .ref bT, .int um])), (bN, .inl (cyI, 225, .inl un'))]) 0 0 (va_A [(bM, .inr (7, [.ref bN, .ref bQ, .int us, .ref bS, .ref bH, .ref bP, .int up, .int ue, .int ut, .ref bT, .int um])), (bN, .inl (cyI, 225, .inl un))] sz) := by
  refine Met.ofW (cc := cX7_files) (maxL := 6) (ret := (some .int)) (by decide) rfl ?_
  intro p e s m args below meth c s₁ B hml hv
  obtain ⟨rfl, hsz, hP, hK, hD0⟩ := hv
  have hx := B.exec
  have hb := B.bytes
  have hr := B.returns
  have hts := atoms_spec (ws := wsX7_files) B.pre
  have hown : s.vm.findClass RX7 = some m.cls := findClass_of_methodNamed B.named
  have hlocks := B.notSynchronized
  subst hsz
  have hD := hD0.self (sz := s.heap.size)
  generalize hAe : va_A [(bM, .inr (7, [.ref bN, .ref bQ, .int us, .ref bS, .ref bH, .ref bP, .int up, .int ue, .int ut, .ref bT, .int um])), (bN, .inl (cyI, 225, .inl un))] s.heap.size = A at hD ⊢
  have hA : ∀ q : Nat, s.heap.size ≤ q → A q := fun q h => by rw [← hAe]; exact Or.inr h
  have hS : va_S A s.heap s.heap [] := va_S.rf
  have hP : va_P D vwCl [(bM, .inr (7, [.ref bN, .ref bQ, .int us, .ref bS, .ref bH, .ref bP, .int up, .int ue, .int ut, .ref bT, .int um])), (bN, .inl (cyI, 225, .inl un))] s.heap := hP
  have hl := lv_entry ([.ref bM, .int x1, .int x2, .int x3]) (n := 6) (Nat.le_of_ble_eq_true rfl)
  rw [lg_entry_eq]
  generalize (lg_sl ([.ref bM, .int x1, .int x2, .int x3]) ++ List.replicate (6 - (lg_sl ([.ref bM, .int x1, .int x2, .int x3])).length) Slot.unset).toArray = ls at hl ⊢
  have hl : lv_has ls 6 [(0, .ref bM), (1, .int x1), (2, .int x2), (3, .int x3)] := hl
  unfold p_X7_files at hF
  refine lv_bipush (v := (9 : Int32)) hx hb dX7_files_0 (by decide) ?_
  refine lv_bipush (v := (27 : Int32)) hx hb dX7_files_2 (by decide) ?_
  refine lv_iload_n hx hb dX7_files_4 rfl (lv_at hl 1 rfl) ?_
  refine lv_imul hx hb dX7_files_5 ?_
  refine lv_iadd hx hb dX7_files_6 ?_
  refine lv_iconst (v := (3 : Int32)) hx hb dX7_files_7 (by decide) ?_
  refine lv_iadd hx hb dX7_files_8 ?_
  refine lv_iload_n hx hb dX7_files_9 rfl (lv_at hl 2 rfl) ?_
  refine lv_iadd hx hb dX7_files_10 ?_
  obtain ⟨x4_11, hn, hF⟩ := k_let_ex hF
  refine x_nm hn ?_
  refine lv_istore (lv' := [(4, .int x4_11), (0, .ref bM), (1, .int x1), (2, .int x2), (3, .int x3)]) hx hb dX7_files_11 hl (by decide) rfl (fun ls hl => ?_)
  refine lv_aload_n hx hb dX7_files_13 rfl (lv_at hl 1 rfl) ?_
  refine va_get (D := D) (ci := 7) (v := .ref bN) (C := RX7) (T := TX7) (N := 11) hx hb hts mi_X7_files_X7 hown hK.1 hP 0 rfl rfl 0 (by decide) (hts _ mm_X7_files_1) (fun _ h9 => h9) rfl dX7_files_14 ?_
  refine lv_iload hx hb dX7_files_17 (lv_at hl 0 rfl) ?_
  obtain ⟨r19, hin, hn, hF⟩ := k_ld_ex hF
  refine x_iald hx hb hK hP 1 rfl hin hn dX7_files_19 ?_
  refine lv_istore (lv' := [(5, .int r19), (4, .int x4_11), (0, .ref bM), (1, .int x1), (2, .int x2), (3, .int x3)]) hx hb dX7_files_20 hl (by decide) rfl (fun ls hl => ?_)
  refine lv_aload_n hx hb dX7_files_22 rfl (lv_at hl 2 rfl) ?_
  refine va_get (D := D) (ci := 7) (v := .ref bN) (C := RX7) (T := TX7) (N := 11) hx hb hts mi_X7_files_X7 hown hK.1 hP 0 rfl rfl 0 (by decide) (hts _ mm_X7_files_1) (fun _ h9 => h9) rfl dX7_files_23 ?_
  refine lv_iload hx hb dX7_files_26 (lv_at hl 1 rfl) ?_
  refine lv_iload_n hx hb dX7_files_28 rfl (lv_at hl 5 rfl) ?_
  obtain ⟨un_29, hin, hn, hF⟩ := k_st_ex hF
  refine x_iast hx hb hK hP hD hS 1 rfl hin hn dX7_files_29 (fun H locs hP hD hS => ?_)
  have hP : va_P D vwCl [(bM, .inr (7, [.ref bN, .ref bQ, .int us, .ref bS, .ref bH, .ref bP, .int up, .int ue, .int ut, .ref bT, .int um])), (bN, .inl (cyI, 225, .inl un_29))] H := hP
  have hD : va_D A [(bM, .inr (7, [.ref bN, .ref bQ, .int us, .ref bS, .ref bH, .ref bP, .int up, .int ue, .int ut, .ref bT, .int um])), (bN, .inl (cyI, 225, .inl un_29))] := hD
  refine lv_iload hx hb dX7_files_30 (lv_at hl 0 rfl) ?_
  refine lv_bipush (v := (9 : Int32)) hx hb dX7_files_32 (by decide) ?_
  refine lv_iadd hx hb dX7_files_34 ?_
  obtain ⟨e0, e1⟩ := k_inj2 hF
  have hP9 : va_P D vwCl [(bM, .inr (7, [.ref bN, .ref bQ, .int us, .ref bS, .ref bH, .ref bP, .int up, .int ue, .int ut, .ref bT, .int um])), (bN, .inl (cyI, 225, .inl un'))] H := by rw [← e1]; exact hP
  exact W.iret hx hb hr (fun t ht hW => ⟨⟨_, (), rfl, e0, x_ret hP9 ht⟩, hS.F ht⟩) hS.2.2 dX7_files_35
set_option maxHeartbeats 4000000 in
set_option maxRecDepth 100000 in
theorem c_X7_file (l : Launch) (D : va_G) (cyI cyZ : ClassId) (bM bN bQ bS bH bP bT : Nat) (sz : Nat) (N : Nat) (x1 : Int32) (x2 : Int32) (x3 : Int32) (us : Int32) (up : Int32) (ue : Int32) (ut : Int32) (um : Int32) (un : (Nat → Int32)) (uq : (Nat → Int32)) {r0 : Int32} {us' : Int32} {un' : (Nat → Int32)} {uq' : (Nat → Int32)} (hF : p_X7_file N x1 x2 x3 us up ue ut um un uq = some (r0, us', un', uq')) : Met l yX7_file wsX7_file ({ frames := 4, cells := 0, slots := 0, locals := 88 }) (x_PM D cyI cyZ [.ref bM, .int x1, .int x2, .int x3] [(bM, .inr (7, [.ref bN, .ref bQ, .int us, .ref bS, .ref bH, .ref bP, .int up, .int ue, .int ut, .ref bT, .int um])), (bN, .inl (cyI, 225, .inl un)), (bQ, .inl (cyI, 1350, .inl uq))] sz) (x_QM D r0 (va_A [(bM, .inr (7, [.ref bN, .ref bQ, .int us, .ref bS, .ref bH, .ref bP, .int up, .int ue, .int ut, .ref bT, .int um])), (bN, .inl (cyI, 225, .inl un)), (bQ, .inl (cyI, 1350, .inl uq))] sz) [(bM, .inr (7, [.ref bN, .ref bQ, .int us', .ref bS, .ref bH, .ref bP, .int up, .int ue, .int ut, .ref bT, .int um])), (bN, .inl (cyI, 225, .inl un')), (bQ, .inl (cyI, 1350, .inl uq'))]) 0 0 (va_A [(bM, .inr (7, [.ref bN, .ref bQ, .int us, .ref bS, .ref bH, .ref bP, .int up, .int ue, .int ut, .ref bT, .int um])), (bN, .inl (cyI, 225, .inl un)), (bQ, .inl (cyI, 1350, .inl uq))] sz) := by
  refine Met.ofW (cc := cX7_file) (maxL := 5) (ret := (some .int)) (by decide) rfl ?_
  intro p e s m args below meth c s₁ B hml hv
  obtain ⟨rfl, hsz, hP, hK, hD0⟩ := hv
  have hx := B.exec
  have hb := B.bytes
  have hr := B.returns
  have hts := atoms_spec (ws := wsX7_file) B.pre
  have hown : s.vm.findClass RX7 = some m.cls := findClass_of_methodNamed B.named
  have hlocks := B.notSynchronized
  subst hsz
  have hD := hD0.self (sz := s.heap.size)
  generalize hAe : va_A [(bM, .inr (7, [.ref bN, .ref bQ, .int us, .ref bS, .ref bH, .ref bP, .int up, .int ue, .int ut, .ref bT, .int um])), (bN, .inl (cyI, 225, .inl un)), (bQ, .inl (cyI, 1350, .inl uq))] s.heap.size = A at hD ⊢
  have hA : ∀ q : Nat, s.heap.size ≤ q → A q := fun q h => by rw [← hAe]; exact Or.inr h
  have hS : va_S A s.heap s.heap [] := va_S.rf
  have hP : va_P D vwCl [(bM, .inr (7, [.ref bN, .ref bQ, .int us, .ref bS, .ref bH, .ref bP, .int up, .int ue, .int ut, .ref bT, .int um])), (bN, .inl (cyI, 225, .inl un)), (bQ, .inl (cyI, 1350, .inl uq))] s.heap := hP
  have hl := lv_entry ([.ref bM, .int x1, .int x2, .int x3]) (n := 5) (Nat.le_of_ble_eq_true rfl)
  rw [lg_entry_eq]
  generalize (lg_sl ([.ref bM, .int x1, .int x2, .int x3]) ++ List.replicate (5 - (lg_sl ([.ref bM, .int x1, .int x2, .int x3])).length) Slot.unset).toArray = ls at hl ⊢
  have hl : lv_has ls 5 [(0, .ref bM), (1, .int x1), (2, .int x2), (3, .int x3)] := hl
  unfold p_X7_file at hF
  refine lv_aload_n hx hb dX7_file_0 rfl (lv_at hl 0 rfl) ?_
  refine lv_iload_n hx hb dX7_file_1 rfl (lv_at hl 1 rfl) ?_
  refine lv_iload_n hx hb dX7_file_2 rfl (lv_at hl 2 rfl) ?_
  refine lv_iload_n hx hb dX7_file_3 rfl (lv_at hl 3 rfl) ?_
  obtain ⟨r4, hC, hF⟩ := k_c1_ex hF
  refine x_VR (As := [.int x1, .int x2, .int x3]) (rest := []) ⟨hx, hb, hml, hown, hts⟩ (c_X7_fileError l D cyI cyZ bM bN bQ bS bH bP bT N x1 x2 x3 us up ue ut um un hC) (cwV 3 hts gX7_file_X7_fileError rfl rfl rfl (by decide +kernel) ⟨Nat.le_of_ble_eq_true rfl, Nat.le_of_ble_eq_true rfl⟩) hK hP hS [0, 1] rfl 0 rfl rfl rfl rfl hl.1 rfl (Nat.le_of_ble_eq_true rfl) ⟨Nat.zero_le _, Nat.zero_le _⟩ dX7_file_4 (fun H locs hP hS => ?_)
  refine lv_istore (lv' := [(4, .int r4), (0, .ref bM), (1, .int x1), (2, .int x2), (3, .int x3)]) hx hb dX7_file_7 hl (by decide) rfl (fun ls hl => ?_)
  refine lv_iload hx hb dX7_file_9 (lv_at hl 0 rfl) ?_
  refine lv_if_ge (tgt := 17) hx hb dX7_file_11 (by decide) (fun hc => ?_) (fun hc => ?_)
  · have hF := k_if_t hF hc
    refine lv_aload_n hx hb dX7_file_17 rfl (lv_at hl 1 rfl) ?_
    obtain ⟨us_18, uq_18, hC, hF⟩ := k_c2_ex hF
    refine x_VV (As := []) (rest := []) ⟨hx, hb, hml, hown, hts⟩ (c_X7_records l D cyI cyZ bM bN bQ bS bH bP bT H.size N us up ue ut um un uq hC) (cwV 0 hts gX7_file_X7_records rfl rfl rfl (by decide +kernel) ⟨Nat.le_of_ble_eq_true rfl, Nat.le_of_ble_eq_true rfl⟩) hK hP hD hS hA [0, 1, 2] rfl rfl rfl 0 rfl rfl rfl rfl hl.1 rfl (Nat.le_of_ble_eq_true rfl) ⟨Nat.zero_le _, Nat.zero_le _⟩ dX7_file_18 (fun H locs hP hD hS => ?_)
    have hP : va_P D vwCl [(bM, .inr (7, [.ref bN, .ref bQ, .int us_18, .ref bS, .ref bH, .ref bP, .int up, .int ue, .int ut, .ref bT, .int um])), (bN, .inl (cyI, 225, .inl un)), (bQ, .inl (cyI, 1350, .inl uq_18))] H := hP
    have hD : va_D A [(bM, .inr (7, [.ref bN, .ref bQ, .int us_18, .ref bS, .ref bH, .ref bP, .int up, .int ue, .int ut, .ref bT, .int um])), (bN, .inl (cyI, 225, .inl un)), (bQ, .inl (cyI, 1350, .inl uq_18))] := hD
    refine lv_aload_n hx hb dX7_file_21 rfl (lv_at hl 1 rfl) ?_
    refine lv_iload_n hx hb dX7_file_22 rfl (lv_at hl 2 rfl) ?_
    refine lv_iload_n hx hb dX7_file_23 rfl (lv_at hl 3 rfl) ?_
    refine lv_iload_n hx hb dX7_file_24 rfl (lv_at hl 4 rfl) ?_
    obtain ⟨r25, un_25, hC, hF⟩ := k_c2_ex hF
    refine x_VM (As := [.int x1, .int x2, .int x3]) (rest := []) ⟨hx, hb, hml, hown, hts⟩ (c_X7_files l D cyI cyZ bM bN bQ bS bH bP bT H.size N x1 x2 x3 us_18 up ue ut um un hC) (cwV 3 hts gX7_file_X7_files rfl rfl rfl (by decide +kernel) ⟨Nat.le_of_ble_eq_true rfl, Nat.le_of_ble_eq_true rfl⟩) hK hP hD hS hA [0, 1] rfl rfl rfl 0 rfl rfl rfl rfl hl.1 rfl (Nat.le_of_ble_eq_true rfl) ⟨Nat.zero_le _, Nat.zero_le _⟩ dX7_file_25 (fun H locs hP hD hS => ?_)
    have hP : va_P D vwCl [(bM, .inr (7, [.ref bN, .ref bQ, .int us_18, .ref bS, .ref bH, .ref bP, .int up, .int ue, .int ut, .ref bT, .int um])), (bN, .inl (cyI, 225, .inl un_25)), (bQ, .inl (cyI, 1350, .inl uq_18))] H := hP
    have hD : va_D A [(bM, .inr (7, [.ref bN, .ref bQ, .int us_18, .ref bS, .ref bH, .ref bP, .int up, .int ue, .int ut, .ref bT, .int um])), (bN, .inl (cyI, 225, .inl un_25)), (bQ, .inl (cyI, 1350, .inl uq_18))] := hD
    obtain ⟨e0, e1, e2, e3⟩ := k_inj4 hF
    have hP9 : va_P D vwCl [(bM, .inr (7, [.ref bN, .ref bQ, .int us', .ref bS, .ref bH, .ref bP, .int up, .int ue, .int ut, .ref bT, .int um])), (bN, .inl (cyI, 225, .inl un')), (bQ, .inl (cyI, 1350, .inl uq'))] H := by rw [← e1, ← e2, ← e3]; exact hP
    exact W.iret hx hb hr (fun t ht hW => ⟨⟨_, (), rfl, e0, x_ret hP9 ht⟩, hS.F ht⟩) hS.2.2 dX7_file_28
  · have hF := k_if_f hF hc
    refine lv_iload hx hb dX7_file_14 (lv_at hl 0 rfl) ?_
    obtain ⟨e0, e1, e2, e3⟩ := k_inj4 hF
    have hP9 : va_P D vwCl [(bM, .inr (7, [.ref bN, .ref bQ, .int us', .ref bS, .ref bH, .ref bP, .int up, .int ue, .int ut, .ref bT, .int um])), (bN, .inl (cyI, 225, .inl un')), (bQ, .inl (cyI, 1350, .inl uq'))] H := by rw [← e1, ← e2, ← e3]; exact hP
    exact W.iret hx hb hr (fun t ht hW => ⟨⟨_, (), rfl, e0, x_ret hP9 ht⟩, hS.F ht⟩) hS.2.2 dX7_file_16
theorem mm_X7_melts_1 : Cond.fieldLink RX7 7 "RollerMeshModel" "now" "[I" ∈ wsX7_melts := List.mem_of_getElem? (i := 1) rfl
theorem mi_X7_melts_X7 : ∀ w ∈ wsX70, w ∈ wsX7_melts := fun _ h => List.mem_cons_of_mem _ (List.mem_append_right _ h)
set_option maxHeartbeats 4000000 in
set_option maxRecDepth 100000 in
theorem c_X7_melts (l : Launch) (D : va_G) (cyI cyZ : ClassId) (bM bN bQ bS bH bP bT : Nat) (sz : Nat) (N : Nat) (x1 : Int32) (us : Int32) (up : Int32) (ue : Int32) (ut : Int32) (um : Int32) (un : (Nat → Int32)) {r0 : Int32} {un' : (Nat → Int32)} (hF : p_X7_melts N x1 us up ue ut um un = some (r0, un')) : Met l yX7_melts wsX7_melts ({ frames := 0, cells := 0, slots := 0, locals := 0 }) (x_PM D cyI cyZ [.ref bM, .int x1] [(bM, .inr (7, [.ref bN, .ref bQ, .int us, .ref bS, .ref bH, .ref bP, .int up, .int ue, .int ut, .ref bT, .int um])), (bN, .inl (cyI, 225, .inl un))] sz) (x_QM D r0 (va_A [(bM, .inr (7, [.ref bN, .ref bQ, .int us, .ref bS, .ref bH, .ref bP, .int up, .int ue, .int ut, .ref bT, .int um])), (bN, .inl (cyI, 225, .inl un))] sz) [(bM, .inr (7, [.ref bN, .ref bQ, .int us, .ref bS, .ref bH, .ref bP, .int up, .int ue, .int ut, .ref bT, .int um])), (bN, .inl (cyI, 225, .inl un'))]) 0 0 (va_A [(bM, .inr (7, [.ref bN, .ref bQ, .int us, .ref bS, .ref bH, .ref bP, .int up, .int ue, .int ut, .ref bT, .int um])), (bN, .inl (cyI, 225, .inl un))] sz) := by
  refine Met.ofW (cc := cX7_melts) (maxL := 3) (ret := (some .int)) (by decide) rfl ?_
  intro p e s m args below meth c s₁ B hml hv
  obtain ⟨rfl, hsz, hP, hK, hD0⟩ := hv
  have hx := B.exec
  have hb := B.bytes
  have hr := B.returns
  have hts := atoms_spec (ws := wsX7_melts) B.pre
  have hown : s.vm.findClass RX7 = some m.cls := findClass_of_methodNamed B.named
  have hlocks := B.notSynchronized
  subst hsz
  have hD := hD0.self (sz := s.heap.size)
  generalize hAe : va_A [(bM, .inr (7, [.ref bN, .ref bQ, .int us, .ref bS, .ref bH, .ref bP, .int up, .int ue, .int ut, .ref bT, .int um])), (bN, .inl (cyI, 225, .inl un))] s.heap.size = A at hD ⊢
  have hA : ∀ q : Nat, s.heap.size ≤ q → A q := fun q h => by rw [← hAe]; exact Or.inr h
  have hS : va_S A s.heap s.heap [] := va_S.rf
  have hP : va_P D vwCl [(bM, .inr (7, [.ref bN, .ref bQ, .int us, .ref bS, .ref bH, .ref bP, .int up, .int ue, .int ut, .ref bT, .int um])), (bN, .inl (cyI, 225, .inl un))] s.heap := hP
  have hl := lv_entry ([.ref bM, .int x1]) (n := 3) (Nat.le_of_ble_eq_true rfl)
  rw [lg_entry_eq]
  generalize (lg_sl ([.ref bM, .int x1]) ++ List.replicate (3 - (lg_sl ([.ref bM, .int x1])).length) Slot.unset).toArray = ls at hl ⊢
  have hl : lv_has ls 3 [(0, .ref bM), (1, .int x1)] := hl
  refine x_gen (fun G hG => ?_)
  have blk_18 : ∀ (n_18 : Nat) (x2 : Int32) (un : (Nat → Int32)), f_X7_melts_18 N n_18 x2 us up ue ut um un = some (r0, un') → ∀ (H : Heap) (locs : List Loc) (ls : Array Slot), va_P D vwCl [(bM, .inr (7, [.ref bN, .ref bQ, .int us, .ref bS, .ref bH, .ref bP, .int up, .int ue, .int ut, .ref bT, .int um])), (bN, .inl (cyI, 225, .inl un))] H → va_D A [(bM, .inr (7, [.ref bN, .ref bQ, .int us, .ref bS, .ref bH, .ref bP, .int up, .int ue, .int ut, .ref bT, .int um])), (bN, .inl (cyI, 225, .inl un))] → va_S A s.heap H locs → lv_has ls 3 [(0, .ref bM), (2, .int x2)] → G H locs (F0 m 18 ls []) := by
    intro n_18
    induction n_18 with
    | zero => intro x2 un hF; exact (k_none hF).elim
    | succ n_18 ih_18 =>
      intro x2 un hF H locs ls hP hD hS hl
      replace hF : b_X7_melts_18 N (f_X7_melts_18 N n_18) x2 us up ue ut um un = some (r0, un') := hF
      unfold b_X7_melts_18 at hF
      refine (hG _ _ _).2 ?_
      refine lv_iload_n hx hb dX7_melts_18 rfl (lv_at hl 1 rfl) ?_
      refine lv_bipush (v := (9 : Int32)) hx hb dX7_melts_19 (by decide) ?_
      refine lv_bipush (v := (27 : Int32)) hx hb dX7_melts_21 (by decide) ?_
      refine lv_aload_n hx hb dX7_melts_23 rfl (lv_at hl 0 rfl) ?_
      refine va_get (D := D) (ci := 7) (v := .ref bN) (C := RX7) (T := TX7) (N := 11) hx hb hts mi_X7_melts_X7 hown hK.1 hP 0 rfl rfl 0 (by decide) (hts _ mm_X7_melts_1) (fun _ h9 => h9) rfl dX7_melts_24 ?_
      refine lv_iconst (v := (3 : Int32)) hx hb dX7_melts_27 (by decide) ?_
      obtain ⟨r28, hin, hn, hF⟩ := k_ld_ex hF
      refine x_iald hx hb hK hP 1 rfl hin hn dX7_melts_28 ?_
      refine lv_imul hx hb dX7_melts_29 ?_
      refine lv_iadd hx hb dX7_melts_30 ?_
      refine lv_icmp_ge (tgt := 55) hx hb dX7_melts_31 (by decide) (fun hc => ?_) (fun hc => ?_)
      · have hF := k_if_t hF hc
        refine lv_aload_n hx hb dX7_melts_55 rfl (lv_at hl 0 rfl) ?_
        refine va_get (D := D) (ci := 7) (v := .ref bN) (C := RX7) (T := TX7) (N := 11) hx hb hts mi_X7_melts_X7 hown hK.1 hP 0 rfl rfl 0 (by decide) (hts _ mm_X7_melts_1) (fun _ h9 => h9) rfl dX7_melts_56 ?_
        refine lv_iconst (v := (3 : Int32)) hx hb dX7_melts_59 (by decide) ?_
        obtain ⟨r60, hin, hn, hF⟩ := k_ld_ex hF
        refine x_iald hx hb hK hP 1 rfl hin hn dX7_melts_60 ?_
        obtain ⟨e0, e1⟩ := k_inj2 hF
        have hP9 : va_P D vwCl [(bM, .inr (7, [.ref bN, .ref bQ, .int us, .ref bS, .ref bH, .ref bP, .int up, .int ue, .int ut, .ref bT, .int um])), (bN, .inl (cyI, 225, .inl un'))] H := by rw [← e1]; exact hP
        exact W.iret hx hb hr (fun t ht hW => ⟨⟨_, (), rfl, e0, x_ret hP9 ht⟩, hS.F ht⟩) hS.2.2 dX7_melts_61
      · have hF := k_if_f hF hc
        refine lv_aload_n hx hb dX7_melts_34 rfl (lv_at hl 0 rfl) ?_
        refine va_get (D := D) (ci := 7) (v := .ref bN) (C := RX7) (T := TX7) (N := 11) hx hb hts mi_X7_melts_X7 hown hK.1 hP 0 rfl rfl 0 (by decide) (hts _ mm_X7_melts_1) (fun _ h9 => h9) rfl dX7_melts_35 ?_
        refine lv_iload_n hx hb dX7_melts_38 rfl (lv_at hl 1 rfl) ?_
        refine lv_aload_n hx hb dX7_melts_39 rfl (lv_at hl 0 rfl) ?_
        refine va_get (D := D) (ci := 7) (v := .ref bN) (C := RX7) (T := TX7) (N := 11) hx hb hts mi_X7_melts_X7 hown hK.1 hP 0 rfl rfl 0 (by decide) (hts _ mm_X7_melts_1) (fun _ h9 => h9) rfl dX7_melts_40 ?_
        refine lv_iload_n hx hb dX7_melts_43 rfl (lv_at hl 1 rfl) ?_
        refine lv_bipush (v := (27 : Int32)) hx hb dX7_melts_44 (by decide) ?_
        refine lv_iadd hx hb dX7_melts_46 ?_
        obtain ⟨r47, hin, hn, hF⟩ := k_ld_ex hF
        refine x_iald hx hb hK hP 1 rfl hin hn dX7_melts_47 ?_
        obtain ⟨un_48, hin, hn, hF⟩ := k_st_ex hF
        refine x_iast hx hb hK hP hD hS 1 rfl hin hn dX7_melts_48 (fun H locs hP hD hS => ?_)
        have hP : va_P D vwCl [(bM, .inr (7, [.ref bN, .ref bQ, .int us, .ref bS, .ref bH, .ref bP, .int up, .int ue, .int ut, .ref bT, .int um])), (bN, .inl (cyI, 225, .inl un_48))] H := hP
        have hD : va_D A [(bM, .inr (7, [.ref bN, .ref bQ, .int us, .ref bS, .ref bH, .ref bP, .int up, .int ue, .int ut, .ref bT, .int um])), (bN, .inl (cyI, 225, .inl un_48))] := hD
        obtain ⟨x2_49, hn, hF⟩ := k_let_ex hF
        refine lv_iinc (v := x2_49) (lv' := [(2, .int x2_49), (0, .ref bM)]) hx hb dX7_melts_49 hl (k := 1) rfl (by rw [hn]; rfl) (by decide) rfl (fun ls hl => ?_)
        refine lv_goto (tgt := 18) hx hb dX7_melts_52 (by decide) ?_
        exact (hG _ _ _).1 (ih_18 x2_49 un_48 hF _ _ _ hP hD hS (lv_sub hl [1, 0] rfl))
  refine (hG _ _ _).2 ?_
  unfold p_X7_melts at hF
  refine lv_aload_n hx hb dX7_melts_0 rfl (lv_at hl 0 rfl) ?_
  refine va_get (D := D) (ci := 7) (v := .ref bN) (C := RX7) (T := TX7) (N := 11) hx hb hts mi_X7_melts_X7 hown hK.1 hP 0 rfl rfl 0 (by decide) (hts _ mm_X7_melts_1) (fun _ h9 => h9) rfl dX7_melts_1 ?_
  refine lv_iconst (v := (3 : Int32)) hx hb dX7_melts_4 (by decide) ?_
  refine lv_dup2_11 hx hb dX7_melts_5 rfl rfl ?_
  obtain ⟨r6, hin, hn, hF⟩ := k_ld_ex hF
  refine x_iald hx hb hK hP 1 rfl hin hn dX7_melts_6 ?_
  refine lv_iconst (v := (1 : Int32)) hx hb dX7_melts_7 (by decide) ?_
  refine lv_isub hx hb dX7_melts_8 ?_
  obtain ⟨un_9, hin, hn, hF⟩ := k_st_ex hF
  refine x_iast hx hb hK hP hD hS 1 rfl hin hn dX7_melts_9 (fun H locs hP hD hS => ?_)
  have hP : va_P D vwCl [(bM, .inr (7, [.ref bN, .ref bQ, .int us, .ref bS, .ref bH, .ref bP, .int up, .int ue, .int ut, .ref bT, .int um])), (bN, .inl (cyI, 225, .inl un_9))] H := hP
  have hD : va_D A [(bM, .inr (7, [.ref bN, .ref bQ, .int us, .ref bS, .ref bH, .ref bP, .int up, .int ue, .int ut, .ref bT, .int um])), (bN, .inl (cyI, 225, .inl un_9))] := hD
  refine lv_bipush (v := (9 : Int32)) hx hb dX7_melts_10 (by decide) ?_
  refine lv_bipush (v := (27 : Int32)) hx hb dX7_melts_12 (by decide) ?_
  refine lv_iload_n hx hb dX7_melts_14 rfl (lv_at hl 1 rfl) ?_
  refine lv_imul hx hb dX7_melts_15 ?_
  refine lv_iadd hx hb dX7_melts_16 ?_
  obtain ⟨x2_17, hn, hF⟩ := k_let_ex hF
  refine x_nm hn ?_
  refine lv_istore_n (lv' := [(2, .int x2_17), (0, .ref bM), (1, .int x1)]) hx hb dX7_melts_17 rfl hl (by decide) rfl (fun ls hl => ?_)
  exact (hG _ _ _).1 (blk_18 N x2_17 un_9 hF _ _ _ hP hD hS (lv_sub hl [1, 0] rfl))
set_option maxHeartbeats 4000000 in
set_option maxRecDepth 100000 in
theorem c_X7_melt (l : Launch) (D : va_G) (cyI cyZ : ClassId) (bM bN bQ bS bH bP bT : Nat) (sz : Nat) (N : Nat) (x1 : Int32) (us : Int32) (up : Int32) (ue : Int32) (ut : Int32) (um : Int32) (un : (Nat → Int32)) (uq : (Nat → Int32)) {r0 : Int32} {us' : Int32} {un' : (Nat → Int32)} {uq' : (Nat → Int32)} (hF : p_X7_melt N x1 us up ue ut um un uq = some (r0, us', un', uq')) : Met l yX7_melt wsX7_melt ({ frames := 2, cells := 0, slots := 0, locals := 45 }) (x_PM D cyI cyZ [.ref bM, .int x1] [(bM, .inr (7, [.ref bN, .ref bQ, .int us, .ref bS, .ref bH, .ref bP, .int up, .int ue, .int ut, .ref bT, .int um])), (bN, .inl (cyI, 225, .inl un)), (bQ, .inl (cyI, 1350, .inl uq))] sz) (x_QM D r0 (va_A [(bM, .inr (7, [.ref bN, .ref bQ, .int us, .ref bS, .ref bH, .ref bP, .int up, .int ue, .int ut, .ref bT, .int um])), (bN, .inl (cyI, 225, .inl un)), (bQ, .inl (cyI, 1350, .inl uq))] sz) [(bM, .inr (7, [.ref bN, .ref bQ, .int us', .ref bS, .ref bH, .ref bP, .int up, .int ue, .int ut, .ref bT, .int um])), (bN, .inl (cyI, 225, .inl un')), (bQ, .inl (cyI, 1350, .inl uq'))]) 0 0 (va_A [(bM, .inr (7, [.ref bN, .ref bQ, .int us, .ref bS, .ref bH, .ref bP, .int up, .int ue, .int ut, .ref bT, .int um])), (bN, .inl (cyI, 225, .inl un)), (bQ, .inl (cyI, 1350, .inl uq))] sz) := by
  refine Met.ofW (cc := cX7_melt) (maxL := 2) (ret := (some .int)) (by decide) rfl ?_
  intro p e s m args below meth c s₁ B hml hv
  obtain ⟨rfl, hsz, hP, hK, hD0⟩ := hv
  have hx := B.exec
  have hb := B.bytes
  have hr := B.returns
  have hts := atoms_spec (ws := wsX7_melt) B.pre
  have hown : s.vm.findClass RX7 = some m.cls := findClass_of_methodNamed B.named
  have hlocks := B.notSynchronized
  subst hsz
  have hD := hD0.self (sz := s.heap.size)
  generalize hAe : va_A [(bM, .inr (7, [.ref bN, .ref bQ, .int us, .ref bS, .ref bH, .ref bP, .int up, .int ue, .int ut, .ref bT, .int um])), (bN, .inl (cyI, 225, .inl un)), (bQ, .inl (cyI, 1350, .inl uq))] s.heap.size = A at hD ⊢
  have hA : ∀ q : Nat, s.heap.size ≤ q → A q := fun q h => by rw [← hAe]; exact Or.inr h
  have hS : va_S A s.heap s.heap [] := va_S.rf
  have hP : va_P D vwCl [(bM, .inr (7, [.ref bN, .ref bQ, .int us, .ref bS, .ref bH, .ref bP, .int up, .int ue, .int ut, .ref bT, .int um])), (bN, .inl (cyI, 225, .inl un)), (bQ, .inl (cyI, 1350, .inl uq))] s.heap := hP
  have hl := lv_entry ([.ref bM, .int x1]) (n := 2) (Nat.le_of_ble_eq_true rfl)
  rw [lg_entry_eq]
  generalize (lg_sl ([.ref bM, .int x1]) ++ List.replicate (2 - (lg_sl ([.ref bM, .int x1])).length) Slot.unset).toArray = ls at hl ⊢
  have hl : lv_has ls 2 [(0, .ref bM), (1, .int x1)] := hl
  unfold p_X7_melt at hF
  refine lv_aload_n hx hb dX7_melt_0 rfl (lv_at hl 0 rfl) ?_
  refine lv_iload_n hx hb dX7_melt_1 rfl (lv_at hl 1 rfl) ?_
  obtain ⟨r2, hC, hF⟩ := k_c1_ex hF
  refine x_VR (As := [.int x1]) (rest := []) ⟨hx, hb, hml, hown, hts⟩ (c_X7_isRoller l D cyI cyZ bM bN bQ bS bH bP bT N x1 us up ue ut um un hC) (cwV 1 hts gX7_melt_X7_isRoller rfl rfl rfl (by decide +kernel) ⟨Nat.le_of_ble_eq_true rfl, Nat.le_of_ble_eq_true rfl⟩) hK hP hS [0, 1] rfl 0 rfl rfl rfl rfl hl.1 rfl (Nat.le_of_ble_eq_true rfl) ⟨Nat.zero_le _, Nat.zero_le _⟩ dX7_melt_2 (fun H locs hP hS => ?_)
  refine lv_if_ne (tgt := 10) hx hb dX7_melt_5 (by decide) (fun hc => ?_) (fun hc => ?_)
  · have hF := k_if_f hF hc
    refine lv_aload_n hx hb dX7_melt_10 rfl (lv_at hl 0 rfl) ?_
    obtain ⟨us_11, uq_11, hC, hF⟩ := k_c2_ex hF
    refine x_VV (As := []) (rest := []) ⟨hx, hb, hml, hown, hts⟩ (c_X7_records l D cyI cyZ bM bN bQ bS bH bP bT H.size N us up ue ut um un uq hC) (cwV 0 hts gX7_melt_X7_records rfl rfl rfl (by decide +kernel) ⟨Nat.le_of_ble_eq_true rfl, Nat.le_of_ble_eq_true rfl⟩) hK hP hD hS hA [0, 1, 2] rfl rfl rfl 0 rfl rfl rfl rfl hl.1 rfl (Nat.le_of_ble_eq_true rfl) ⟨Nat.zero_le _, Nat.zero_le _⟩ dX7_melt_11 (fun H locs hP hD hS => ?_)
    have hP : va_P D vwCl [(bM, .inr (7, [.ref bN, .ref bQ, .int us_11, .ref bS, .ref bH, .ref bP, .int up, .int ue, .int ut, .ref bT, .int um])), (bN, .inl (cyI, 225, .inl un)), (bQ, .inl (cyI, 1350, .inl uq_11))] H := hP
    have hD : va_D A [(bM, .inr (7, [.ref bN, .ref bQ, .int us_11, .ref bS, .ref bH, .ref bP, .int up, .int ue, .int ut, .ref bT, .int um])), (bN, .inl (cyI, 225, .inl un)), (bQ, .inl (cyI, 1350, .inl uq_11))] := hD
    refine lv_aload_n hx hb dX7_melt_14 rfl (lv_at hl 0 rfl) ?_
    refine lv_iload_n hx hb dX7_melt_15 rfl (lv_at hl 1 rfl) ?_
    obtain ⟨r16, un_16, hC, hF⟩ := k_c2_ex hF
    refine x_VM (As := [.int x1]) (rest := []) ⟨hx, hb, hml, hown, hts⟩ (c_X7_melts l D cyI cyZ bM bN bQ bS bH bP bT H.size N x1 us_11 up ue ut um un hC) (cwV 1 hts gX7_melt_X7_melts rfl rfl rfl (by decide +kernel) ⟨Nat.le_of_ble_eq_true rfl, Nat.le_of_ble_eq_true rfl⟩) hK hP hD hS hA [0, 1] rfl rfl rfl 0 rfl rfl rfl rfl hl.1 rfl (Nat.le_of_ble_eq_true rfl) ⟨Nat.zero_le _, Nat.zero_le _⟩ dX7_melt_16 (fun H locs hP hD hS => ?_)
    have hP : va_P D vwCl [(bM, .inr (7, [.ref bN, .ref bQ, .int us_11, .ref bS, .ref bH, .ref bP, .int up, .int ue, .int ut, .ref bT, .int um])), (bN, .inl (cyI, 225, .inl un_16)), (bQ, .inl (cyI, 1350, .inl uq_11))] H := hP
    have hD : va_D A [(bM, .inr (7, [.ref bN, .ref bQ, .int us_11, .ref bS, .ref bH, .ref bP, .int up, .int ue, .int ut, .ref bT, .int um])), (bN, .inl (cyI, 225, .inl un_16)), (bQ, .inl (cyI, 1350, .inl uq_11))] := hD
    obtain ⟨e0, e1, e2, e3⟩ := k_inj4 hF
    have hP9 : va_P D vwCl [(bM, .inr (7, [.ref bN, .ref bQ, .int us', .ref bS, .ref bH, .ref bP, .int up, .int ue, .int ut, .ref bT, .int um])), (bN, .inl (cyI, 225, .inl un')), (bQ, .inl (cyI, 1350, .inl uq'))] H := by rw [← e1, ← e2, ← e3]; exact hP
    exact W.iret hx hb hr (fun t ht hW => ⟨⟨_, (), rfl, e0, x_ret hP9 ht⟩, hS.F ht⟩) hS.2.2 dX7_melt_19
  · have hF := k_if_t hF hc
    refine lv_iconst (v := (-1 : Int32)) hx hb dX7_melt_8 (by decide) ?_
    obtain ⟨e0, e1, e2, e3⟩ := k_inj4 hF
    have hP9 : va_P D vwCl [(bM, .inr (7, [.ref bN, .ref bQ, .int us', .ref bS, .ref bH, .ref bP, .int up, .int ue, .int ut, .ref bT, .int um])), (bN, .inl (cyI, 225, .inl un')), (bQ, .inl (cyI, 1350, .inl uq'))] H := by rw [← e1, ← e2, ← e3]; exact hP
    exact W.iret hx hb hr (fun t ht hW => ⟨⟨_, (), rfl, e0, x_ret hP9 ht⟩, hS.F ht⟩) hS.2.2 dX7_melt_9
theorem mm_X7_card_1 : Cond.fieldLink RX7 7 "RollerMeshModel" "now" "[I" ∈ wsX7_card := List.mem_of_getElem? (i := 1) rfl
theorem mi_X7_card_X7 : ∀ w ∈ wsX70, w ∈ wsX7_card := fun _ h => List.mem_cons_of_mem _ (List.mem_append_right _ h)
set_option maxHeartbeats 4000000 in
set_option maxRecDepth 100000 in
theorem c_X7_card (l : Launch) (D : va_G) (cyI cyZ : ClassId) (bM bN bQ bS bH bP bT : Nat) (sz : Nat) (N : Nat) (x1 : Int32) (x2 : Int32) (us : Int32) (up : Int32) (ue : Int32) (ut : Int32) (um : Int32) (un : (Nat → Int32)) (uq : (Nat → Int32)) {r0 : Int32} {us' : Int32} {un' : (Nat → Int32)} {uq' : (Nat → Int32)} (hF : p_X7_card N x1 x2 us up ue ut um un uq = some (r0, us', un', uq')) : Met l yX7_card wsX7_card ({ frames := 2, cells := 0, slots := 0, locals := 45 }) (x_PM D cyI cyZ [.ref bM, .int x1, .int x2] [(bM, .inr (7, [.ref bN, .ref bQ, .int us, .ref bS, .ref bH, .ref bP, .int up, .int ue, .int ut, .ref bT, .int um])), (bN, .inl (cyI, 225, .inl un)), (bQ, .inl (cyI, 1350, .inl uq))] sz) (x_QM D r0 (va_A [(bM, .inr (7, [.ref bN, .ref bQ, .int us, .ref bS, .ref bH, .ref bP, .int up, .int ue, .int ut, .ref bT, .int um])), (bN, .inl (cyI, 225, .inl un)), (bQ, .inl (cyI, 1350, .inl uq))] sz) [(bM, .inr (7, [.ref bN, .ref bQ, .int us', .ref bS, .ref bH, .ref bP, .int up, .int ue, .int ut, .ref bT, .int um])), (bN, .inl (cyI, 225, .inl un')), (bQ, .inl (cyI, 1350, .inl uq'))]) 0 0 (va_A [(bM, .inr (7, [.ref bN, .ref bQ, .int us, .ref bS, .ref bH, .ref bP, .int up, .int ue, .int ut, .ref bT, .int um])), (bN, .inl (cyI, 225, .inl un)), (bQ, .inl (cyI, 1350, .inl uq))] sz) := by
  refine Met.ofW (cc := cX7_card) (maxL := 4) (ret := (some .int)) (by decide) rfl ?_
  intro p e s m args below meth c s₁ B hml hv
  obtain ⟨rfl, hsz, hP, hK, hD0⟩ := hv
  have hx := B.exec
  have hb := B.bytes
  have hr := B.returns
  have hts := atoms_spec (ws := wsX7_card) B.pre
  have hown : s.vm.findClass RX7 = some m.cls := findClass_of_methodNamed B.named
  have hlocks := B.notSynchronized
  subst hsz
  have hD := hD0.self (sz := s.heap.size)
  generalize hAe : va_A [(bM, .inr (7, [.ref bN, .ref bQ, .int us, .ref bS, .ref bH, .ref bP, .int up, .int ue, .int ut, .ref bT, .int um])), (bN, .inl (cyI, 225, .inl un)), (bQ, .inl (cyI, 1350, .inl uq))] s.heap.size = A at hD ⊢
  have hA : ∀ q : Nat, s.heap.size ≤ q → A q := fun q h => by rw [← hAe]; exact Or.inr h
  have hS : va_S A s.heap s.heap [] := va_S.rf
  have hP : va_P D vwCl [(bM, .inr (7, [.ref bN, .ref bQ, .int us, .ref bS, .ref bH, .ref bP, .int up, .int ue, .int ut, .ref bT, .int um])), (bN, .inl (cyI, 225, .inl un)), (bQ, .inl (cyI, 1350, .inl uq))] s.heap := hP
  have hl := lv_entry ([.ref bM, .int x1, .int x2]) (n := 4) (Nat.le_of_ble_eq_true rfl)
  rw [lg_entry_eq]
  generalize (lg_sl ([.ref bM, .int x1, .int x2]) ++ List.replicate (4 - (lg_sl ([.ref bM, .int x1, .int x2])).length) Slot.unset).toArray = ls at hl ⊢
  have hl : lv_has ls 4 [(0, .ref bM), (1, .int x1), (2, .int x2)] := hl
  unfold p_X7_card at hF
  refine lv_iload_n hx hb dX7_card_0 rfl (lv_at hl 1 rfl) ?_
  refine lv_iconst (v := (1 : Int32)) hx hb dX7_card_1 (by decide) ?_
  refine lv_bipush (v := (30 : Int32)) hx hb dX7_card_2 (by decide) ?_
  obtain ⟨r4, hC, hF⟩ := k_c1_ex hF
  refine x_SR (As := [.int x1, .int (1 : Int32), .int (30 : Int32)]) (rest := []) ⟨hx, hb, hml, hown, hts⟩ (c_X7_in l D cyI cyZ N x1 (1 : Int32) (30 : Int32) hC) (va_cwS 3 hts gX7_card_X7_in rfl rfl rfl (by decide +kernel) ⟨Nat.le_of_ble_eq_true rfl, Nat.le_of_ble_eq_true rfl⟩) hK hP hS [] rfl rfl hl.1 rfl (Nat.le_of_ble_eq_true rfl) ⟨Nat.zero_le _, Nat.zero_le _⟩ dX7_card_4 (fun H locs hP hS => ?_)
  refine lv_if_eq (tgt := 20) hx hb dX7_card_7 (by decide) (fun hc => ?_) (fun hc => ?_)
  · have hF := k_if_t hF hc
    refine lv_bipush (v := (-2 : Int32)) hx hb dX7_card_20 (by decide) ?_
    obtain ⟨e0, e1, e2, e3⟩ := k_inj4 hF
    have hP9 : va_P D vwCl [(bM, .inr (7, [.ref bN, .ref bQ, .int us', .ref bS, .ref bH, .ref bP, .int up, .int ue, .int ut, .ref bT, .int um])), (bN, .inl (cyI, 225, .inl un')), (bQ, .inl (cyI, 1350, .inl uq'))] H := by rw [← e1, ← e2, ← e3]; exact hP
    exact W.iret hx hb hr (fun t ht hW => ⟨⟨_, (), rfl, e0, x_ret hP9 ht⟩, hS.F ht⟩) hS.2.2 dX7_card_22
  · have hF := k_if_f hF hc
    refine lv_iload_n hx hb dX7_card_10 rfl (lv_at hl 2 rfl) ?_
    refine lv_iconst (v := (0 : Int32)) hx hb dX7_card_11 (by decide) ?_
    refine lv_bipush (v := (30 : Int32)) hx hb dX7_card_12 (by decide) ?_
    obtain ⟨r14, hC, hF⟩ := k_c1_ex hF
    refine x_SR (As := [.int x2, .int (0 : Int32), .int (30 : Int32)]) (rest := []) ⟨hx, hb, hml, hown, hts⟩ (c_X7_in l D cyI cyZ N x2 (0 : Int32) (30 : Int32) hC) (va_cwS 3 hts gX7_card_X7_in rfl rfl rfl (by decide +kernel) ⟨Nat.le_of_ble_eq_true rfl, Nat.le_of_ble_eq_true rfl⟩) hK hP hS [] rfl rfl hl.1 rfl (Nat.le_of_ble_eq_true rfl) ⟨Nat.zero_le _, Nat.zero_le _⟩ dX7_card_14 (fun H locs hP hS => ?_)
    refine lv_if_ne (tgt := 23) hx hb dX7_card_17 (by decide) (fun hc => ?_) (fun hc => ?_)
    · have hF := k_if_f hF hc
      refine lv_aload_n hx hb dX7_card_23 rfl (lv_at hl 0 rfl) ?_
      obtain ⟨us_24, uq_24, hC, hF⟩ := k_c2_ex hF
      refine x_VV (As := []) (rest := []) ⟨hx, hb, hml, hown, hts⟩ (c_X7_records l D cyI cyZ bM bN bQ bS bH bP bT H.size N us up ue ut um un uq hC) (cwV 0 hts gX7_card_X7_records rfl rfl rfl (by decide +kernel) ⟨Nat.le_of_ble_eq_true rfl, Nat.le_of_ble_eq_true rfl⟩) hK hP hD hS hA [0, 1, 2] rfl rfl rfl 0 rfl rfl rfl rfl hl.1 rfl (Nat.le_of_ble_eq_true rfl) ⟨Nat.zero_le _, Nat.zero_le _⟩ dX7_card_24 (fun H locs hP hD hS => ?_)
      have hP : va_P D vwCl [(bM, .inr (7, [.ref bN, .ref bQ, .int us_24, .ref bS, .ref bH, .ref bP, .int up, .int ue, .int ut, .ref bT, .int um])), (bN, .inl (cyI, 225, .inl un)), (bQ, .inl (cyI, 1350, .inl uq_24))] H := hP
      have hD : va_D A [(bM, .inr (7, [.ref bN, .ref bQ, .int us_24, .ref bS, .ref bH, .ref bP, .int up, .int ue, .int ut, .ref bT, .int um])), (bN, .inl (cyI, 225, .inl un)), (bQ, .inl (cyI, 1350, .inl uq_24))] := hD
      refine lv_aload_n hx hb dX7_card_27 rfl (lv_at hl 0 rfl) ?_
      refine va_get (D := D) (ci := 7) (v := .ref bN) (C := RX7) (T := TX7) (N := 11) hx hb hts mi_X7_card_X7 hown hK.1 hP 0 rfl rfl 0 (by decide) (hts _ mm_X7_card_1) (fun _ h9 => h9) rfl dX7_card_28 ?_
      refine lv_iconst (v := (4 : Int32)) hx hb dX7_card_31 (by decide) ?_
      obtain ⟨r32, hin, hn, hF⟩ := k_ld_ex hF
      refine x_iald hx hb hK hP 1 rfl hin hn dX7_card_32 ?_
      refine lv_istore_n (lv' := [(3, .int r32), (0, .ref bM), (1, .int x1), (2, .int x2)]) hx hb dX7_card_33 rfl hl (by decide) rfl (fun ls hl => ?_)
      refine lv_aload_n hx hb dX7_card_34 rfl (lv_at hl 1 rfl) ?_
      refine va_get (D := D) (ci := 7) (v := .ref bN) (C := RX7) (T := TX7) (N := 11) hx hb hts mi_X7_card_X7 hown hK.1 hP 0 rfl rfl 0 (by decide) (hts _ mm_X7_card_1) (fun _ h9 => h9) rfl dX7_card_35 ?_
      refine lv_iconst (v := (4 : Int32)) hx hb dX7_card_38 (by decide) ?_
      refine lv_iload_n hx hb dX7_card_39 rfl (lv_at hl 2 rfl) ?_
      obtain ⟨un_40, hin, hn, hF⟩ := k_st_ex hF
      refine x_iast hx hb hK hP hD hS 1 rfl hin hn dX7_card_40 (fun H locs hP hD hS => ?_)
      have hP : va_P D vwCl [(bM, .inr (7, [.ref bN, .ref bQ, .int us_24, .ref bS, .ref bH, .ref bP, .int up, .int ue, .int ut, .ref bT, .int um])), (bN, .inl (cyI, 225, .inl un_40)), (bQ, .inl (cyI, 1350, .inl uq_24))] H := hP
      have hD : va_D A [(bM, .inr (7, [.ref bN, .ref bQ, .int us_24, .ref bS, .ref bH, .ref bP, .int up, .int ue, .int ut, .ref bT, .int um])), (bN, .inl (cyI, 225, .inl un_40)), (bQ, .inl (cyI, 1350, .inl uq_24))] := hD
      refine lv_aload_n hx hb dX7_card_41 rfl (lv_at hl 1 rfl) ?_
      refine va_get (D := D) (ci := 7) (v := .ref bN) (C := RX7) (T := TX7) (N := 11) hx hb hts mi_X7_card_X7 hown hK.1 hP 0 rfl rfl 0 (by decide) (hts _ mm_X7_card_1) (fun _ h9 => h9) rfl dX7_card_42 ?_
      refine lv_iconst (v := (5 : Int32)) hx hb dX7_card_45 (by decide) ?_
      refine lv_iload_n hx hb dX7_card_46 rfl (lv_at hl 3 rfl) ?_
      obtain ⟨un_47, hin, hn, hF⟩ := k_st_ex hF
      refine x_iast hx hb hK hP hD hS 1 rfl hin hn dX7_card_47 (fun H locs hP hD hS => ?_)
      have hP : va_P D vwCl [(bM, .inr (7, [.ref bN, .ref bQ, .int us_24, .ref bS, .ref bH, .ref bP, .int up, .int ue, .int ut, .ref bT, .int um])), (bN, .inl (cyI, 225, .inl un_47)), (bQ, .inl (cyI, 1350, .inl uq_24))] H := hP
      have hD : va_D A [(bM, .inr (7, [.ref bN, .ref bQ, .int us_24, .ref bS, .ref bH, .ref bP, .int up, .int ue, .int ut, .ref bT, .int um])), (bN, .inl (cyI, 225, .inl un_47)), (bQ, .inl (cyI, 1350, .inl uq_24))] := hD
      refine lv_iload_n hx hb dX7_card_48 rfl (lv_at hl 0 rfl) ?_
      obtain ⟨e0, e1, e2, e3⟩ := k_inj4 hF
      have hP9 : va_P D vwCl [(bM, .inr (7, [.ref bN, .ref bQ, .int us', .ref bS, .ref bH, .ref bP, .int up, .int ue, .int ut, .ref bT, .int um])), (bN, .inl (cyI, 225, .inl un')), (bQ, .inl (cyI, 1350, .inl uq'))] H := by rw [← e1, ← e2, ← e3]; exact hP
      exact W.iret hx hb hr (fun t ht hW => ⟨⟨_, (), rfl, e0, x_ret hP9 ht⟩, hS.F ht⟩) hS.2.2 dX7_card_49
    · have hF := k_if_t hF hc
      refine lv_bipush (v := (-2 : Int32)) hx hb dX7_card_20 (by decide) ?_
      obtain ⟨e0, e1, e2, e3⟩ := k_inj4 hF
      have hP9 : va_P D vwCl [(bM, .inr (7, [.ref bN, .ref bQ, .int us', .ref bS, .ref bH, .ref bP, .int up, .int ue, .int ut, .ref bT, .int um])), (bN, .inl (cyI, 225, .inl un')), (bQ, .inl (cyI, 1350, .inl uq'))] H := by rw [← e1, ← e2, ← e3]; exact hP
      exact W.iret hx hb hr (fun t ht hW => ⟨⟨_, (), rfl, e0, x_ret hP9 ht⟩, hS.F ht⟩) hS.2.2 dX7_card_22
set_option maxHeartbeats 4000000 in
set_option maxRecDepth 100000 in
theorem c_X7_pairError (l : Launch) (D : va_G) (cyI cyZ : ClassId) (bM bN bQ bS bH bP bT : Nat) (N : Nat) (x1 : Int32) (x2 : Int32) (x3 : Int32) (x4 : Int32) (us : Int32) (up : Int32) (ue : Int32) (ut : Int32) (um : Int32) (un : (Nat → Int32)) {r0 : Int32}  (hF : p_X7_pairError N x1 x2 x3 x4 us up ue ut um un = some (r0)) : Met l yX7_pairError wsX7_pairError ({ frames := 2, cells := 0, slots := 0, locals := 43 }) (x_PR D cyI cyZ [.ref bM, .int x1, .int x2, .int x3, .int x4] [(bM, .inr (7, [.ref bN, .ref bQ, .int us, .ref bS, .ref bH, .ref bP, .int up, .int ue, .int ut, .ref bT, .int um])), (bN, .inl (cyI, 225, .inl un))]) (x_QR r0) 0 0 (fun _ => False) := by
  refine Met.ofW (cc := cX7_pairError) (maxL := 5) (ret := (some .int)) (by decide) rfl ?_
  intro p e s m args below meth c s₁ B hml hv
  obtain ⟨rfl, hP, hK⟩ := hv
  have hx := B.exec
  have hb := B.bytes
  have hr := B.returns
  have hts := atoms_spec (ws := wsX7_pairError) B.pre
  have hown : s.vm.findClass RX7 = some m.cls := findClass_of_methodNamed B.named
  have hlocks := B.notSynchronized
  have hS : va_S (fun _ => False) s.heap s.heap [] := va_S.rf
  have hP : va_P D vwCl [(bM, .inr (7, [.ref bN, .ref bQ, .int us, .ref bS, .ref bH, .ref bP, .int up, .int ue, .int ut, .ref bT, .int um])), (bN, .inl (cyI, 225, .inl un))] s.heap := hP
  have hl := lv_entry ([.ref bM, .int x1, .int x2, .int x3, .int x4]) (n := 5) (Nat.le_of_ble_eq_true rfl)
  rw [lg_entry_eq]
  generalize (lg_sl ([.ref bM, .int x1, .int x2, .int x3, .int x4]) ++ List.replicate (5 - (lg_sl ([.ref bM, .int x1, .int x2, .int x3, .int x4])).length) Slot.unset).toArray = ls at hl ⊢
  have hl : lv_has ls 5 [(0, .ref bM), (1, .int x1), (2, .int x2), (3, .int x3), (4, .int x4)] := hl
  unfold p_X7_pairError at hF
  refine lv_aload_n hx hb dX7_pairError_0 rfl (lv_at hl 0 rfl) ?_
  refine lv_iload_n hx hb dX7_pairError_1 rfl (lv_at hl 1 rfl) ?_
  obtain ⟨r2, hC, hF⟩ := k_c1_ex hF
  refine x_VR (As := [.int x1]) (rest := []) ⟨hx, hb, hml, hown, hts⟩ (c_X7_isRoller l D cyI cyZ bM bN bQ bS bH bP bT N x1 us up ue ut um un hC) (cwV 1 hts gX7_pairError_X7_isRoller rfl rfl rfl (by decide +kernel) ⟨Nat.le_of_ble_eq_true rfl, Nat.le_of_ble_eq_true rfl⟩) hK hP hS [0, 1] rfl 0 rfl rfl rfl rfl hl.1 rfl (Nat.le_of_ble_eq_true rfl) ⟨Nat.zero_le _, Nat.zero_le _⟩ dX7_pairError_2 (fun H locs hP hS => ?_)
  refine lv_if_eq (tgt := 16) hx hb dX7_pairError_5 (by decide) (fun hc => ?_) (fun hc => ?_)
  · have hF := k_if_t hF hc
    refine lv_iconst (v := (-1 : Int32)) hx hb dX7_pairError_16 (by decide) ?_
    exact W.iret hx hb hr (fun t ht hW => ⟨⟨_, (), rfl, Option.some.inj hF, trivial⟩, hS.F ht⟩) hS.2.2 dX7_pairError_17
  · have hF := k_if_f hF hc
    refine lv_aload_n hx hb dX7_pairError_8 rfl (lv_at hl 0 rfl) ?_
    refine lv_iload_n hx hb dX7_pairError_9 rfl (lv_at hl 2 rfl) ?_
    obtain ⟨r10, hC, hF⟩ := k_c1_ex hF
    refine x_VR (As := [.int x2]) (rest := []) ⟨hx, hb, hml, hown, hts⟩ (c_X7_isRoller l D cyI cyZ bM bN bQ bS bH bP bT N x2 us up ue ut um un hC) (cwV 1 hts gX7_pairError_X7_isRoller rfl rfl rfl (by decide +kernel) ⟨Nat.le_of_ble_eq_true rfl, Nat.le_of_ble_eq_true rfl⟩) hK hP hS [0, 1] rfl 0 rfl rfl rfl rfl hl.1 rfl (Nat.le_of_ble_eq_true rfl) ⟨Nat.zero_le _, Nat.zero_le _⟩ dX7_pairError_10 (fun H locs hP hS => ?_)
    refine lv_if_ne (tgt := 18) hx hb dX7_pairError_13 (by decide) (fun hc => ?_) (fun hc => ?_)
    · have hF := k_if_f hF hc
      refine lv_iload_n hx hb dX7_pairError_18 rfl (lv_at hl 1 rfl) ?_
      refine lv_iload_n hx hb dX7_pairError_19 rfl (lv_at hl 2 rfl) ?_
      refine lv_icmp_eq (tgt := 44) hx hb dX7_pairError_20 (by decide) (fun hc => ?_) (fun hc => ?_)
      · have hF := k_if_t hF hc
        refine lv_bipush (v := (-2 : Int32)) hx hb dX7_pairError_44 (by decide) ?_
        refine lv_goto (tgt := 50) hx hb dX7_pairError_46 (by decide) ?_
        exact W.iret hx hb hr (fun t ht hW => ⟨⟨_, (), rfl, Option.some.inj hF, trivial⟩, hS.F ht⟩) hS.2.2 dX7_pairError_50
      · have hF := k_if_f hF hc
        refine lv_iload_n hx hb dX7_pairError_23 rfl (lv_at hl 3 rfl) ?_
        refine lv_iconst (v := (0 : Int32)) hx hb dX7_pairError_24 (by decide) ?_
        refine lv_bipush (v := (23 : Int32)) hx hb dX7_pairError_25 (by decide) ?_
        obtain ⟨r27, hC, hF⟩ := k_c1_ex hF
        refine x_SR (As := [.int x3, .int (0 : Int32), .int (23 : Int32)]) (rest := []) ⟨hx, hb, hml, hown, hts⟩ (c_X7_in l D cyI cyZ N x3 (0 : Int32) (23 : Int32) hC) (va_cwS 3 hts gX7_pairError_X7_in rfl rfl rfl (by decide +kernel) ⟨Nat.le_of_ble_eq_true rfl, Nat.le_of_ble_eq_true rfl⟩) hK hP hS [] rfl rfl hl.1 rfl (Nat.le_of_ble_eq_true rfl) ⟨Nat.zero_le _, Nat.zero_le _⟩ dX7_pairError_27 (fun H locs hP hS => ?_)
        refine lv_if_eq (tgt := 44) hx hb dX7_pairError_30 (by decide) (fun hc => ?_) (fun hc => ?_)
        · have hF := k_if_t hF hc
          refine lv_bipush (v := (-2 : Int32)) hx hb dX7_pairError_44 (by decide) ?_
          refine lv_goto (tgt := 50) hx hb dX7_pairError_46 (by decide) ?_
          exact W.iret hx hb hr (fun t ht hW => ⟨⟨_, (), rfl, Option.some.inj hF, trivial⟩, hS.F ht⟩) hS.2.2 dX7_pairError_50
        · have hF := k_if_f hF hc
          refine lv_iload hx hb dX7_pairError_33 (lv_at hl 4 rfl) ?_
          refine lv_iconst (v := (0 : Int32)) hx hb dX7_pairError_35 (by decide) ?_
          refine lv_bipush (v := (30 : Int32)) hx hb dX7_pairError_36 (by decide) ?_
          obtain ⟨r38, hC, hF⟩ := k_c1_ex hF
          refine x_SR (As := [.int x4, .int (0 : Int32), .int (30 : Int32)]) (rest := []) ⟨hx, hb, hml, hown, hts⟩ (c_X7_in l D cyI cyZ N x4 (0 : Int32) (30 : Int32) hC) (va_cwS 3 hts gX7_pairError_X7_in rfl rfl rfl (by decide +kernel) ⟨Nat.le_of_ble_eq_true rfl, Nat.le_of_ble_eq_true rfl⟩) hK hP hS [] rfl rfl hl.1 rfl (Nat.le_of_ble_eq_true rfl) ⟨Nat.zero_le _, Nat.zero_le _⟩ dX7_pairError_38 (fun H locs hP hS => ?_)
          refine lv_if_ne (tgt := 49) hx hb dX7_pairError_41 (by decide) (fun hc => ?_) (fun hc => ?_)
          · have hF := k_if_f hF hc
            refine lv_iconst (v := (0 : Int32)) hx hb dX7_pairError_49 (by decide) ?_
            exact W.iret hx hb hr (fun t ht hW => ⟨⟨_, (), rfl, Option.some.inj hF, trivial⟩, hS.F ht⟩) hS.2.2 dX7_pairError_50
          · have hF := k_if_t hF hc
            refine lv_bipush (v := (-2 : Int32)) hx hb dX7_pairError_44 (by decide) ?_
            refine lv_goto (tgt := 50) hx hb dX7_pairError_46 (by decide) ?_
            exact W.iret hx hb hr (fun t ht hW => ⟨⟨_, (), rfl, Option.some.inj hF, trivial⟩, hS.F ht⟩) hS.2.2 dX7_pairError_50
    · have hF := k_if_t hF hc
      refine lv_iconst (v := (-1 : Int32)) hx hb dX7_pairError_16 (by decide) ?_
      exact W.iret hx hb hr (fun t ht hW => ⟨⟨_, (), rfl, Option.some.inj hF, trivial⟩, hS.F ht⟩) hS.2.2 dX7_pairError_17
set_option maxHeartbeats 4000000 in
set_option maxRecDepth 100000 in
theorem c_X7_turn (l : Launch) (D : va_G) (cyI cyZ : ClassId) (bM bN bQ bS bH bP bT : Nat) (N : Nat) (x1 : Int32) (x2 : Int32) (us : Int32) (up : Int32) (ue : Int32) (ut : Int32) (um : Int32) (un : (Nat → Int32)) {r0 : Int32}  (hF : p_X7_turn N x1 x2 us up ue ut um un = some (r0)) : Met l yX7_turn wsX7_turn ({ frames := 1, cells := 0, slots := 0, locals := 22 }) (x_PR D cyI cyZ [.ref bM, .int x1, .int x2] [(bM, .inr (7, [.ref bN, .ref bQ, .int us, .ref bS, .ref bH, .ref bP, .int up, .int ue, .int ut, .ref bT, .int um])), (bN, .inl (cyI, 225, .inl un))]) (x_QR r0) 0 0 (fun _ => False) := by
  refine Met.ofW (cc := cX7_turn) (maxL := 4) (ret := (some .int)) (by decide) rfl ?_
  intro p e s m args below meth c s₁ B hml hv
  obtain ⟨rfl, hP, hK⟩ := hv
  have hx := B.exec
  have hb := B.bytes
  have hr := B.returns
  have hts := atoms_spec (ws := wsX7_turn) B.pre
  have hown : s.vm.findClass RX7 = some m.cls := findClass_of_methodNamed B.named
  have hlocks := B.notSynchronized
  have hS : va_S (fun _ => False) s.heap s.heap [] := va_S.rf
  have hP : va_P D vwCl [(bM, .inr (7, [.ref bN, .ref bQ, .int us, .ref bS, .ref bH, .ref bP, .int up, .int ue, .int ut, .ref bT, .int um])), (bN, .inl (cyI, 225, .inl un))] s.heap := hP
  have hl := lv_entry ([.ref bM, .int x1, .int x2]) (n := 4) (Nat.le_of_ble_eq_true rfl)
  rw [lg_entry_eq]
  generalize (lg_sl ([.ref bM, .int x1, .int x2]) ++ List.replicate (4 - (lg_sl ([.ref bM, .int x1, .int x2])).length) Slot.unset).toArray = ls at hl ⊢
  have hl : lv_has ls 4 [(0, .ref bM), (1, .int x1), (2, .int x2)] := hl
  refine x_gen (fun G hG => ?_)
  have blk_7 : ∀ (n_7 : Nat) (x1 : Int32) (x2 : Int32) (x3 : Int32), f_X7_turn_7 N n_7 x1 x2 x3 us up ue ut um un = some (r0) → ∀ (H : Heap) (locs : List Loc) (ls : Array Slot), va_P D vwCl [(bM, .inr (7, [.ref bN, .ref bQ, .int us, .ref bS, .ref bH, .ref bP, .int up, .int ue, .int ut, .ref bT, .int um])), (bN, .inl (cyI, 225, .inl un))] H → va_S (fun _ => False) s.heap H locs → lv_has ls 4 [(0, .ref bM), (1, .int x1), (2, .int x2), (3, .int x3)] → G H locs (F0 m 7 ls []) := by
    intro n_7
    induction n_7 with
    | zero => intro x1 x2 x3 hF; exact (k_none hF).elim
    | succ n_7 ih_7 =>
      intro x1 x2 x3 hF H locs ls hP hS hl
      replace hF : b_X7_turn_7 N (f_X7_turn_7 N n_7) x1 x2 x3 us up ue ut um un = some (r0) := hF
      unfold b_X7_turn_7 at hF
      refine (hG _ _ _).2 ?_
      refine lv_iload_n hx hb dX7_turn_7 rfl (lv_at hl 3 rfl) ?_
      refine lv_aload_n hx hb dX7_turn_8 rfl (lv_at hl 0 rfl) ?_
      refine lv_iload_n hx hb dX7_turn_9 rfl (lv_at hl 2 rfl) ?_
      refine lv_iconst (v := (0 : Int32)) hx hb dX7_turn_10 (by decide) ?_
      obtain ⟨r11, hC, hF⟩ := k_c1_ex hF
      refine x_VR (As := [.int x2, .int (0 : Int32)]) (rest := [.int x3]) ⟨hx, hb, hml, hown, hts⟩ (c_X7_ofR l D cyI cyZ bM bN bQ bS bH bP bT N x2 (0 : Int32) us up ue ut um un hC) (cwV 2 hts gX7_turn_X7_ofR rfl rfl rfl (by decide +kernel) ⟨Nat.le_of_ble_eq_true rfl, Nat.le_of_ble_eq_true rfl⟩) hK hP hS [0, 1] rfl 0 rfl rfl rfl rfl hl.1 rfl (Nat.le_of_ble_eq_true rfl) ⟨Nat.zero_le _, Nat.zero_le _⟩ dX7_turn_11 (fun H locs hP hS => ?_)
      obtain ⟨hz, hF⟩ := k_nz_ex hF
      refine lv_irem hx hb dX7_turn_14 hz ?_
      refine lv_if_eq (tgt := 30) hx hb dX7_turn_15 (by decide) (fun hc => ?_) (fun hc => ?_)
      · have hF := k_if_t hF hc
        refine lv_iload_n hx hb dX7_turn_30 rfl (lv_at hl 3 rfl) ?_
        exact W.iret hx hb hr (fun t ht hW => ⟨⟨_, (), rfl, Option.some.inj hF, trivial⟩, hS.F ht⟩) hS.2.2 dX7_turn_31
      · have hF := k_if_f hF hc
        refine lv_iload_n hx hb dX7_turn_18 rfl (lv_at hl 3 rfl) ?_
        refine lv_aload_n hx hb dX7_turn_19 rfl (lv_at hl 0 rfl) ?_
        refine lv_iload_n hx hb dX7_turn_20 rfl (lv_at hl 1 rfl) ?_
        refine lv_iconst (v := (0 : Int32)) hx hb dX7_turn_21 (by decide) ?_
        obtain ⟨r22, hC, hF⟩ := k_c1_ex hF
        refine x_VR (As := [.int x1, .int (0 : Int32)]) (rest := [.int x3]) ⟨hx, hb, hml, hown, hts⟩ (c_X7_ofR l D cyI cyZ bM bN bQ bS bH bP bT N x1 (0 : Int32) us up ue ut um un hC) (cwV 2 hts gX7_turn_X7_ofR rfl rfl rfl (by decide +kernel) ⟨Nat.le_of_ble_eq_true rfl, Nat.le_of_ble_eq_true rfl⟩) hK hP hS [0, 1] rfl 0 rfl rfl rfl rfl hl.1 rfl (Nat.le_of_ble_eq_true rfl) ⟨Nat.zero_le _, Nat.zero_le _⟩ dX7_turn_22 (fun H locs hP hS => ?_)
        refine lv_iadd hx hb dX7_turn_25 ?_
        obtain ⟨x3_26, hn, hF⟩ := k_let_ex hF
        refine x_nm hn ?_
        refine lv_istore_n (lv' := [(3, .int x3_26), (0, .ref bM), (1, .int x1), (2, .int x2)]) hx hb dX7_turn_26 rfl hl (by decide) rfl (fun ls hl => ?_)
        refine lv_goto (tgt := 7) hx hb dX7_turn_27 (by decide) ?_
        exact (hG _ _ _).1 (ih_7 x1 x2 x3_26 hF _ _ _ hP hS (lv_sub hl [1, 2, 3, 0] rfl))
  refine (hG _ _ _).2 ?_
  unfold p_X7_turn at hF
  refine lv_aload_n hx hb dX7_turn_0 rfl (lv_at hl 0 rfl) ?_
  refine lv_iload_n hx hb dX7_turn_1 rfl (lv_at hl 1 rfl) ?_
  refine lv_iconst (v := (0 : Int32)) hx hb dX7_turn_2 (by decide) ?_
  obtain ⟨r3, hC, hF⟩ := k_c1_ex hF
  refine x_VR (As := [.int x1, .int (0 : Int32)]) (rest := []) ⟨hx, hb, hml, hown, hts⟩ (c_X7_ofR l D cyI cyZ bM bN bQ bS bH bP bT N x1 (0 : Int32) us up ue ut um un hC) (cwV 2 hts gX7_turn_X7_ofR rfl rfl rfl (by decide +kernel) ⟨Nat.le_of_ble_eq_true rfl, Nat.le_of_ble_eq_true rfl⟩) hK hP hS [0, 1] rfl 0 rfl rfl rfl rfl hl.1 rfl (Nat.le_of_ble_eq_true rfl) ⟨Nat.zero_le _, Nat.zero_le _⟩ dX7_turn_3 (fun H locs hP hS => ?_)
  refine lv_istore_n (lv' := [(3, .int r3), (0, .ref bM), (1, .int x1), (2, .int x2)]) hx hb dX7_turn_6 rfl hl (by decide) rfl (fun ls hl => ?_)
  exact (hG _ _ _).1 (blk_7 N x1 x2 r3 hF _ _ _ hP hS (lv_sub hl [1, 2, 3, 0] rfl))
set_option maxHeartbeats 4000000 in
set_option maxRecDepth 100000 in
theorem c_X7_press (l : Launch) (D : va_G) (cyI cyZ : ClassId) (bM bN bQ bS bH bP bT : Nat) (N : Nat) (x1 : Int32) (x2 : Int32) (x3 : Int32) (x4 : Int32) (us : Int32) (up : Int32) (ue : Int32) (ut : Int32) (um : Int32) (un : (Nat → Int32)) {r0 : Int32}  (hF : p_X7_press N x1 x2 x3 x4 us up ue ut um un = some (r0)) : Met l yX7_press wsX7_press ({ frames := 1, cells := 0, slots := 0, locals := 22 }) (x_PR D cyI cyZ [.ref bM, .int x1, .int x2, .int x3, .int x4] [(bM, .inr (7, [.ref bN, .ref bQ, .int us, .ref bS, .ref bH, .ref bP, .int up, .int ue, .int ut, .ref bT, .int um])), (bN, .inl (cyI, 225, .inl un))]) (x_QR r0) 0 0 (fun _ => False) := by
  refine Met.ofW (cc := cX7_press) (maxL := 6) (ret := (some .int)) (by decide) rfl ?_
  intro p e s m args below meth c s₁ B hml hv
  obtain ⟨rfl, hP, hK⟩ := hv
  have hx := B.exec
  have hb := B.bytes
  have hr := B.returns
  have hts := atoms_spec (ws := wsX7_press) B.pre
  have hown : s.vm.findClass RX7 = some m.cls := findClass_of_methodNamed B.named
  have hlocks := B.notSynchronized
  have hS : va_S (fun _ => False) s.heap s.heap [] := va_S.rf
  have hP : va_P D vwCl [(bM, .inr (7, [.ref bN, .ref bQ, .int us, .ref bS, .ref bH, .ref bP, .int up, .int ue, .int ut, .ref bT, .int um])), (bN, .inl (cyI, 225, .inl un))] s.heap := hP
  have hl := lv_entry ([.ref bM, .int x1, .int x2, .int x3, .int x4]) (n := 6) (Nat.le_of_ble_eq_true rfl)
  rw [lg_entry_eq]
  generalize (lg_sl ([.ref bM, .int x1, .int x2, .int x3, .int x4]) ++ List.replicate (6 - (lg_sl ([.ref bM, .int x1, .int x2, .int x3, .int x4])).length) Slot.unset).toArray = ls at hl ⊢
  have hl : lv_has ls 6 [(0, .ref bM), (1, .int x1), (2, .int x2), (3, .int x3), (4, .int x4)] := hl
  unfold p_X7_press at hF
  refine lv_aload_n hx hb dX7_press_0 rfl (lv_at hl 0 rfl) ?_
  refine lv_iload_n hx hb dX7_press_1 rfl (lv_at hl 1 rfl) ?_
  refine lv_iconst (v := (3 : Int32)) hx hb dX7_press_2 (by decide) ?_
  refine lv_iload hx hb dX7_press_3 (lv_at hl 4 rfl) ?_
  refine lv_aload_n hx hb dX7_press_5 rfl (lv_at hl 0 rfl) ?_
  refine lv_iload_n hx hb dX7_press_6 rfl (lv_at hl 1 rfl) ?_
  refine lv_iconst (v := (0 : Int32)) hx hb dX7_press_7 (by decide) ?_
  obtain ⟨r8, hC, hF⟩ := k_c1_ex hF
  refine x_VR (As := [.int x1, .int (0 : Int32)]) (rest := [.int x4, .int (3 : Int32), .int x1, .ref bM]) ⟨hx, hb, hml, hown, hts⟩ (c_X7_ofR l D cyI cyZ bM bN bQ bS bH bP bT N x1 (0 : Int32) us up ue ut um un hC) (cwV 2 hts gX7_press_X7_ofR rfl rfl rfl (by decide +kernel) ⟨Nat.le_of_ble_eq_true rfl, Nat.le_of_ble_eq_true rfl⟩) hK hP hS [0, 1] rfl 0 rfl rfl rfl rfl hl.1 rfl (Nat.le_of_ble_eq_true rfl) ⟨Nat.zero_le _, Nat.zero_le _⟩ dX7_press_8 (fun H locs hP hS => ?_)
  obtain ⟨hz, hF⟩ := k_nz_ex hF
  refine lv_irem hx hb dX7_press_11 hz ?_
  refine lv_iadd hx hb dX7_press_12 ?_
  obtain ⟨r13, hC, hF⟩ := k_c1_ex hF
  refine x_VR (As := [.int x1, .int ((3 : Int32) + (x4 - x4 / r8 * r8))]) (rest := []) ⟨hx, hb, hml, hown, hts⟩ (c_X7_ofR l D cyI cyZ bM bN bQ bS bH bP bT N x1 ((3 : Int32) + (x4 - x4 / r8 * r8)) us up ue ut um un hC) (cwV 2 hts gX7_press_X7_ofR rfl rfl rfl (by decide +kernel) ⟨Nat.le_of_ble_eq_true rfl, Nat.le_of_ble_eq_true rfl⟩) hK hP hS [0, 1] rfl 0 rfl rfl rfl rfl hl.1 rfl (Nat.le_of_ble_eq_true rfl) ⟨Nat.zero_le _, Nat.zero_le _⟩ dX7_press_13 (fun H locs hP hS => ?_)
  refine lv_istore (lv' := [(5, .int r13), (0, .ref bM), (1, .int x1), (2, .int x2), (3, .int x3), (4, .int x4)]) hx hb dX7_press_16 hl (by decide) rfl (fun ls hl => ?_)
  refine lv_iload hx hb dX7_press_18 (lv_at hl 0 rfl) ?_
  refine lv_ineg hx hb dX7_press_20 ?_
  refine lv_aload_n hx hb dX7_press_21 rfl (lv_at hl 1 rfl) ?_
  refine lv_iload_n hx hb dX7_press_22 rfl (lv_at hl 3 rfl) ?_
  refine lv_iconst (v := (3 : Int32)) hx hb dX7_press_23 (by decide) ?_
  refine lv_iload hx hb dX7_press_24 (lv_at hl 5 rfl) ?_
  refine lv_iload_n hx hb dX7_press_26 rfl (lv_at hl 4 rfl) ?_
  refine lv_iadd hx hb dX7_press_27 ?_
  refine lv_aload_n hx hb dX7_press_28 rfl (lv_at hl 1 rfl) ?_
  refine lv_iload_n hx hb dX7_press_29 rfl (lv_at hl 3 rfl) ?_
  refine lv_iconst (v := (0 : Int32)) hx hb dX7_press_30 (by decide) ?_
  obtain ⟨r31, hC, hF⟩ := k_c1_ex hF
  refine x_VR (As := [.int x2, .int (0 : Int32)]) (rest := [.int (x4 + x3), .int (3 : Int32), .int x2, .ref bM, .int (-r13)]) ⟨hx, hb, hml, hown, hts⟩ (c_X7_ofR l D cyI cyZ bM bN bQ bS bH bP bT N x2 (0 : Int32) us up ue ut um un hC) (cwV 2 hts gX7_press_X7_ofR rfl rfl rfl (by decide +kernel) ⟨Nat.le_of_ble_eq_true rfl, Nat.le_of_ble_eq_true rfl⟩) hK hP hS [0, 1] rfl 0 rfl rfl rfl rfl hl.1 rfl (Nat.le_of_ble_eq_true rfl) ⟨Nat.zero_le _, Nat.zero_le _⟩ dX7_press_31 (fun H locs hP hS => ?_)
  obtain ⟨hz, hF⟩ := k_nz_ex hF
  refine lv_irem hx hb dX7_press_34 hz ?_
  refine lv_iadd hx hb dX7_press_35 ?_
  obtain ⟨r36, hC, hF⟩ := k_c1_ex hF
  refine x_VR (As := [.int x2, .int ((3 : Int32) + ((x4 + x3) - (x4 + x3) / r31 * r31))]) (rest := [.int (-r13)]) ⟨hx, hb, hml, hown, hts⟩ (c_X7_ofR l D cyI cyZ bM bN bQ bS bH bP bT N x2 ((3 : Int32) + ((x4 + x3) - (x4 + x3) / r31 * r31)) us up ue ut um un hC) (cwV 2 hts gX7_press_X7_ofR rfl rfl rfl (by decide +kernel) ⟨Nat.le_of_ble_eq_true rfl, Nat.le_of_ble_eq_true rfl⟩) hK hP hS [0, 1] rfl 0 rfl rfl rfl rfl hl.1 rfl (Nat.le_of_ble_eq_true rfl) ⟨Nat.zero_le _, Nat.zero_le _⟩ dX7_press_36 (fun H locs hP hS => ?_)
  refine lv_isub hx hb dX7_press_39 ?_
  exact W.iret hx hb hr (fun t ht hW => ⟨⟨_, (), rfl, Option.some.inj hF, trivial⟩, hS.F ht⟩) hS.2.2 dX7_press_40
set_option maxHeartbeats 4000000 in
set_option maxRecDepth 100000 in
theorem c_X7_apart (l : Launch) (D : va_G) (cyI cyZ : ClassId) (N : Nat) (x0 : Int32) (x1 : Int32) {r0 : Int32}  (hF : p_X7_apart N x0 x1 = some (r0)) : Met l yX7_apart wsX7_apart ({ frames := 0, cells := 0, slots := 0, locals := 0 }) (x_PR D cyI cyZ [.int x0, .int x1] []) (x_QR r0) 0 0 (fun _ => False) := by
  refine Met.ofW (cc := cX7_apart) (maxL := 2) (ret := (some .int)) (by decide) rfl ?_
  intro p e s m args below meth c s₁ B hml hv
  obtain ⟨rfl, hP, hK⟩ := hv
  have hx := B.exec
  have hb := B.bytes
  have hr := B.returns
  have hts := atoms_spec (ws := wsX7_apart) B.pre
  have hown : s.vm.findClass RX7 = some m.cls := findClass_of_methodNamed B.named
  have hlocks := B.notSynchronized
  have hS : va_S (fun _ => False) s.heap s.heap [] := va_S.rf
  have hP : va_P D vwCl [] s.heap := hP
  have hl := lv_entry ([.int x0, .int x1]) (n := 2) (Nat.le_of_ble_eq_true rfl)
  rw [lg_entry_eq]
  generalize (lg_sl ([.int x0, .int x1]) ++ List.replicate (2 - (lg_sl ([.int x0, .int x1])).length) Slot.unset).toArray = ls at hl ⊢
  have hl : lv_has ls 2 [(0, .int x0), (1, .int x1)] := hl
  unfold p_X7_apart at hF
  refine lv_iload_n hx hb dX7_apart_0 rfl (lv_at hl 0 rfl) ?_
  refine lv_iload_n hx hb dX7_apart_1 rfl (lv_at hl 1 rfl) ?_
  refine lv_icmp_ge (tgt := 11) hx hb dX7_apart_2 (by decide) (fun hc => ?_) (fun hc => ?_)
  · have hF := k_if_t hF hc
    refine lv_iload_n hx hb dX7_apart_11 rfl (lv_at hl 0 rfl) ?_
    refine lv_iload_n hx hb dX7_apart_12 rfl (lv_at hl 1 rfl) ?_
    refine lv_isub hx hb dX7_apart_13 ?_
    exact W.iret hx hb hr (fun t ht hW => ⟨⟨_, (), rfl, Option.some.inj hF, trivial⟩, hS.F ht⟩) hS.2.2 dX7_apart_14
  · have hF := k_if_f hF hc
    refine lv_iload_n hx hb dX7_apart_5 rfl (lv_at hl 1 rfl) ?_
    refine lv_iload_n hx hb dX7_apart_6 rfl (lv_at hl 0 rfl) ?_
    refine lv_isub hx hb dX7_apart_7 ?_
    refine lv_goto (tgt := 14) hx hb dX7_apart_8 (by decide) ?_
    exact W.iret hx hb hr (fun t ht hW => ⟨⟨_, (), rfl, Option.some.inj hF, trivial⟩, hS.F ht⟩) hS.2.2 dX7_apart_14
theorem mm_X7_against_1 : Cond.fieldLink RX7 7 "RollerMeshModel" "now" "[I" ∈ wsX7_against := List.mem_of_getElem? (i := 1) rfl
theorem mi_X7_against_X7 : ∀ w ∈ wsX70, w ∈ wsX7_against := fun _ h => List.mem_cons_of_mem _ (List.mem_append_right _ h)
set_option maxHeartbeats 4000000 in
set_option maxRecDepth 100000 in
theorem c_X7_against (l : Launch) (D : va_G) (cyI cyZ : ClassId) (bM bN bQ bS bH bP bT : Nat) (N : Nat) (x1 : Int32) (x2 : Int32) (x3 : Int32) (x4 : Int32) (us : Int32) (up : Int32) (ue : Int32) (ut : Int32) (um : Int32) (un : (Nat → Int32)) {r0 : Int32}  (hF : p_X7_against N x1 x2 x3 x4 us up ue ut um un = some (r0)) : Met l yX7_against wsX7_against ({ frames := 2, cells := 0, slots := 0, locals := 47 }) (x_PR D cyI cyZ [.ref bM, .int x1, .int x2, .int x3, .int x4] [(bM, .inr (7, [.ref bN, .ref bQ, .int us, .ref bS, .ref bH, .ref bP, .int up, .int ue, .int ut, .ref bT, .int um])), (bN, .inl (cyI, 225, .inl un))]) (x_QR r0) 0 0 (fun _ => False) := by
  refine Met.ofW (cc := cX7_against) (maxL := 9) (ret := (some .int)) (by decide) rfl ?_
  intro p e s m args below meth c s₁ B hml hv
  obtain ⟨rfl, hP, hK⟩ := hv
  have hx := B.exec
  have hb := B.bytes
  have hr := B.returns
  have hts := atoms_spec (ws := wsX7_against) B.pre
  have hown : s.vm.findClass RX7 = some m.cls := findClass_of_methodNamed B.named
  have hlocks := B.notSynchronized
  have hS : va_S (fun _ => False) s.heap s.heap [] := va_S.rf
  have hP : va_P D vwCl [(bM, .inr (7, [.ref bN, .ref bQ, .int us, .ref bS, .ref bH, .ref bP, .int up, .int ue, .int ut, .ref bT, .int um])), (bN, .inl (cyI, 225, .inl un))] s.heap := hP
  have hl := lv_entry ([.ref bM, .int x1, .int x2, .int x3, .int x4]) (n := 9) (Nat.le_of_ble_eq_true rfl)
  rw [lg_entry_eq]
  generalize (lg_sl ([.ref bM, .int x1, .int x2, .int x3, .int x4]) ++ List.replicate (9 - (lg_sl ([.ref bM, .int x1, .int x2, .int x3, .int x4])).length) Slot.unset).toArray = ls at hl ⊢
  have hl : lv_has ls 9 [(0, .ref bM), (1, .int x1), (2, .int x2), (3, .int x3), (4, .int x4)] := hl
  refine x_gen (fun G hG => ?_)
  have blk_24 : ∀ (n_24 : Nat) (x1 : Int32) (x2 : Int32) (x3 : Int32) (x4 : Int32) (x5 : Int32) (x6 : Int32) (x7 : Int32), f_X7_against_24 N n_24 x1 x2 x3 x4 x5 x6 x7 us up ue ut um un = some (r0) → ∀ (H : Heap) (locs : List Loc) (ls : Array Slot), va_P D vwCl [(bM, .inr (7, [.ref bN, .ref bQ, .int us, .ref bS, .ref bH, .ref bP, .int up, .int ue, .int ut, .ref bT, .int um])), (bN, .inl (cyI, 225, .inl un))] H → va_S (fun _ => False) s.heap H locs → lv_has ls 9 [(0, .ref bM), (1, .int x1), (2, .int x2), (3, .int x3), (4, .int x4), (5, .int x5), (6, .int x6), (7, .int x7)] → G H locs (F0 m 24 ls []) := by
    intro n_24
    induction n_24 with
    | zero => intro x1 x2 x3 x4 x5 x6 x7 hF; exact (k_none hF).elim
    | succ n_24 ih_24 =>
      intro x1 x2 x3 x4 x5 x6 x7 hF H locs ls hP hS hl
      replace hF : b_X7_against_24 N (f_X7_against_24 N n_24) x1 x2 x3 x4 x5 x6 x7 us up ue ut um un = some (r0) := hF
      unfold b_X7_against_24 at hF
      refine (hG _ _ _).2 ?_
      refine lv_iload hx hb dX7_against_24 (lv_at hl 7 rfl) ?_
      refine lv_iload hx hb dX7_against_26 (lv_at hl 5 rfl) ?_
      refine lv_icmp_ge (tgt := 91) hx hb dX7_against_28 (by decide) (fun hc => ?_) (fun hc => ?_)
      · have hF := k_if_t hF hc
        refine lv_bipush (v := (-6 : Int32)) hx hb dX7_against_91 (by decide) ?_
        exact W.iret hx hb hr (fun t ht hW => ⟨⟨_, (), rfl, Option.some.inj hF, trivial⟩, hS.F ht⟩) hS.2.2 dX7_against_93
      · have hF := k_if_f hF hc
        refine lv_aload_n hx hb dX7_against_31 rfl (lv_at hl 0 rfl) ?_
        refine lv_iload_n hx hb dX7_against_32 rfl (lv_at hl 1 rfl) ?_
        refine lv_iload_n hx hb dX7_against_33 rfl (lv_at hl 2 rfl) ?_
        refine lv_iload_n hx hb dX7_against_34 rfl (lv_at hl 3 rfl) ?_
        refine lv_iload hx hb dX7_against_35 (lv_at hl 7 rfl) ?_
        obtain ⟨r37, hC, hF⟩ := k_c1_ex hF
        refine x_VR (As := [.int x1, .int x2, .int x3, .int x7]) (rest := []) ⟨hx, hb, hml, hown, hts⟩ (c_X7_press l D cyI cyZ bM bN bQ bS bH bP bT N x1 x2 x3 x7 us up ue ut um un hC) (cwV 4 hts gX7_against_X7_press rfl rfl rfl (by decide +kernel) ⟨Nat.le_of_ble_eq_true rfl, Nat.le_of_ble_eq_true rfl⟩) hK hP hS [0, 1] rfl 0 rfl rfl rfl rfl hl.1 rfl (Nat.le_of_ble_eq_true rfl) ⟨Nat.zero_le _, Nat.zero_le _⟩ dX7_against_37 (fun H locs hP hS => ?_)
        refine lv_istore (lv' := [(8, .int r37), (0, .ref bM), (1, .int x1), (2, .int x2), (3, .int x3), (4, .int x4), (5, .int x5), (6, .int x6), (7, .int x7)]) hx hb dX7_against_40 hl (by decide) rfl (fun ls hl => ?_)
        refine lv_iload hx hb dX7_against_42 (lv_at hl 0 rfl) ?_
        refine lv_iload hx hb dX7_against_44 (lv_at hl 5 rfl) ?_
        refine lv_iadd hx hb dX7_against_46 ?_
        refine lv_iconst (v := (1 : Int32)) hx hb dX7_against_47 (by decide) ?_
        refine lv_icmp_ge (tgt := 58) hx hb dX7_against_48 (by decide) (fun hc => ?_) (fun hc => ?_)
        · have hF := k_if_t hF hc
          refine lv_iload hx hb dX7_against_58 (lv_at hl 0 rfl) ?_
          refine lv_iload hx hb dX7_against_60 (lv_at hl 7 rfl) ?_
          obtain ⟨r62, hC, hF⟩ := k_c1_ex hF
          refine x_SR (As := [.int r37, .int x6]) (rest := []) ⟨hx, hb, hml, hown, hts⟩ (c_X7_apart l D cyI cyZ N r37 x6 hC) (va_cwS 2 hts gX7_against_X7_apart rfl rfl rfl (by decide +kernel) ⟨Nat.le_of_ble_eq_true rfl, Nat.le_of_ble_eq_true rfl⟩) hK hP hS [] rfl rfl hl.1 rfl (Nat.le_of_ble_eq_true rfl) ⟨Nat.zero_le _, Nat.zero_le _⟩ dX7_against_62 (fun H locs hP hS => ?_)
          refine lv_aload_n hx hb dX7_against_65 rfl (lv_at hl 1 rfl) ?_
          refine va_get (D := D) (ci := 7) (v := .ref bN) (C := RX7) (T := TX7) (N := 11) hx hb hts mi_X7_against_X7 hown hK.1 hP 0 rfl rfl 0 (by decide) (hts _ mm_X7_against_1) (fun _ h9 => h9) rfl dX7_against_66 ?_
          refine lv_iconst (v := (0 : Int32)) hx hb dX7_against_69 (by decide) ?_
          obtain ⟨r70, hin, hn, hF⟩ := k_ld_ex hF
          refine x_iald hx hb hK hP 1 rfl hin hn dX7_against_70 ?_
          refine lv_icmp_le (tgt := 81) hx hb dX7_against_71 (by decide) (fun hc => ?_) (fun hc => ?_)
          · have hF := k_if_t hF hc
            refine lv_iload hx hb dX7_against_81 (lv_at hl 0 rfl) ?_
            refine lv_istore (lv' := [(6, .int r37), (8, .int r37), (0, .ref bM), (1, .int x1), (2, .int x2), (3, .int x3), (4, .int x4), (5, .int x5), (7, .int x7)]) hx hb dX7_against_83 hl (by decide) rfl (fun ls hl => ?_)
            obtain ⟨x7_85, hn, hF⟩ := k_let_ex hF
            refine lv_iinc (v := x7_85) (lv' := [(7, .int x7_85), (6, .int r37), (8, .int r37), (0, .ref bM), (1, .int x1), (2, .int x2), (3, .int x3), (4, .int x4), (5, .int x5)]) hx hb dX7_against_85 hl (k := 8) rfl (by rw [hn]; rfl) (by decide) rfl (fun ls hl => ?_)
            refine lv_goto (tgt := 24) hx hb dX7_against_88 (by decide) ?_
            exact (hG _ _ _).1 (ih_24 x1 x2 x3 x4 x5 r37 x7_85 hF _ _ _ hP hS (lv_sub hl [3, 4, 5, 6, 7, 8, 1, 0] rfl))
          · have hF := k_if_f hF hc
            refine lv_iconst (v := (4 : Int32)) hx hb dX7_against_74 (by decide) ?_
            refine lv_iload hx hb dX7_against_75 (lv_at hl 8 rfl) ?_
            refine lv_imul hx hb dX7_against_77 ?_
            refine lv_iconst (v := (2 : Int32)) hx hb dX7_against_78 (by decide) ?_
            refine lv_iadd hx hb dX7_against_79 ?_
            exact W.iret hx hb hr (fun t ht hW => ⟨⟨_, (), rfl, Option.some.inj hF, trivial⟩, hS.F ht⟩) hS.2.2 dX7_against_80
        · have hF := k_if_f hF hc
          refine lv_iconst (v := (4 : Int32)) hx hb dX7_against_51 (by decide) ?_
          refine lv_iload hx hb dX7_against_52 (lv_at hl 8 rfl) ?_
          refine lv_imul hx hb dX7_against_54 ?_
          refine lv_iconst (v := (1 : Int32)) hx hb dX7_against_55 (by decide) ?_
          refine lv_iadd hx hb dX7_against_56 ?_
          exact W.iret hx hb hr (fun t ht hW => ⟨⟨_, (), rfl, Option.some.inj hF, trivial⟩, hS.F ht⟩) hS.2.2 dX7_against_57
  refine (hG _ _ _).2 ?_
  unfold p_X7_against at hF
  refine lv_aload_n hx hb dX7_against_0 rfl (lv_at hl 0 rfl) ?_
  refine lv_iload_n hx hb dX7_against_1 rfl (lv_at hl 1 rfl) ?_
  refine lv_iload_n hx hb dX7_against_2 rfl (lv_at hl 2 rfl) ?_
  obtain ⟨r3, hC, hF⟩ := k_c1_ex hF
  refine x_VR (As := [.int x1, .int x2]) (rest := []) ⟨hx, hb, hml, hown, hts⟩ (c_X7_turn l D cyI cyZ bM bN bQ bS bH bP bT N x1 x2 us up ue ut um un hC) (cwV 2 hts gX7_against_X7_turn rfl rfl rfl (by decide +kernel) ⟨Nat.le_of_ble_eq_true rfl, Nat.le_of_ble_eq_true rfl⟩) hK hP hS [0, 1] rfl 0 rfl rfl rfl rfl hl.1 rfl (Nat.le_of_ble_eq_true rfl) ⟨Nat.zero_le _, Nat.zero_le _⟩ dX7_against_3 (fun H locs hP hS => ?_)
  refine lv_istore (lv' := [(5, .int r3), (0, .ref bM), (1, .int x1), (2, .int x2), (3, .int x3), (4, .int x4)]) hx hb dX7_against_6 hl (by decide) rfl (fun ls hl => ?_)
  refine lv_aload_n hx hb dX7_against_8 rfl (lv_at hl 1 rfl) ?_
  refine lv_iload_n hx hb dX7_against_9 rfl (lv_at hl 2 rfl) ?_
  refine lv_iload_n hx hb dX7_against_10 rfl (lv_at hl 3 rfl) ?_
  refine lv_iload_n hx hb dX7_against_11 rfl (lv_at hl 4 rfl) ?_
  refine lv_iload hx hb dX7_against_12 (lv_at hl 0 rfl) ?_
  refine lv_iconst (v := (1 : Int32)) hx hb dX7_against_14 (by decide) ?_
  refine lv_isub hx hb dX7_against_15 ?_
  obtain ⟨r16, hC, hF⟩ := k_c1_ex hF
  refine x_VR (As := [.int x1, .int x2, .int x3, .int (r3 - (1 : Int32))]) (rest := []) ⟨hx, hb, hml, hown, hts⟩ (c_X7_press l D cyI cyZ bM bN bQ bS bH bP bT N x1 x2 x3 (r3 - (1 : Int32)) us up ue ut um un hC) (cwV 4 hts gX7_against_X7_press rfl rfl rfl (by decide +kernel) ⟨Nat.le_of_ble_eq_true rfl, Nat.le_of_ble_eq_true rfl⟩) hK hP hS [0, 1] rfl 0 rfl rfl rfl rfl hl.1 rfl (Nat.le_of_ble_eq_true rfl) ⟨Nat.zero_le _, Nat.zero_le _⟩ dX7_against_16 (fun H locs hP hS => ?_)
  refine lv_istore (lv' := [(6, .int r16), (5, .int r3), (0, .ref bM), (1, .int x1), (2, .int x2), (3, .int x3), (4, .int x4)]) hx hb dX7_against_19 hl (by decide) rfl (fun ls hl => ?_)
  refine lv_iconst (v := (0 : Int32)) hx hb dX7_against_21 (by decide) ?_
  refine lv_istore (lv' := [(7, .int (0 : Int32)), (6, .int r16), (5, .int r3), (0, .ref bM), (1, .int x1), (2, .int x2), (3, .int x3), (4, .int x4)]) hx hb dX7_against_22 hl (by decide) rfl (fun ls hl => ?_)
  exact (hG _ _ _).1 (blk_24 N x1 x2 x3 x4 r3 r16 (0 : Int32) hF _ _ _ hP hS (lv_sub hl [3, 4, 5, 6, 7, 2, 1, 0] rfl))
set_option maxHeartbeats 4000000 in
set_option maxRecDepth 100000 in
theorem c_X7_runError (l : Launch) (D : va_G) (cyI cyZ : ClassId) (bM bN bQ bS bH bP bT : Nat) (N : Nat) (x1 : Int32) (x2 : Int32) (x3 : Int32) (x4 : Int32) (x5 : Int32) (x6 : Int32) (us : Int32) (up : Int32) (ue : Int32) (ut : Int32) (um : Int32) (un : (Nat → Int32)) {r0 : Int32}  (hF : p_X7_runError N x1 x2 x3 x4 x5 x6 us up ue ut um un = some (r0)) : Met l yX7_runError wsX7_runError ({ frames := 3, cells := 0, slots := 0, locals := 75 }) (x_PR D cyI cyZ [.ref bM, .int x1, .int x2, .int x3, .int x4, .int x5, .int x6] [(bM, .inr (7, [.ref bN, .ref bQ, .int us, .ref bS, .ref bH, .ref bP, .int up, .int ue, .int ut, .ref bT, .int um])), (bN, .inl (cyI, 225, .inl un))]) (x_QR r0) 0 0 (fun _ => False) := by
  refine Met.ofW (cc := cX7_runError) (maxL := 8) (ret := (some .int)) (by decide) rfl ?_
  intro p e s m args below meth c s₁ B hml hv
  obtain ⟨rfl, hP, hK⟩ := hv
  have hx := B.exec
  have hb := B.bytes
  have hr := B.returns
  have hts := atoms_spec (ws := wsX7_runError) B.pre
  have hown : s.vm.findClass RX7 = some m.cls := findClass_of_methodNamed B.named
  have hlocks := B.notSynchronized
  have hS : va_S (fun _ => False) s.heap s.heap [] := va_S.rf
  have hP : va_P D vwCl [(bM, .inr (7, [.ref bN, .ref bQ, .int us, .ref bS, .ref bH, .ref bP, .int up, .int ue, .int ut, .ref bT, .int um])), (bN, .inl (cyI, 225, .inl un))] s.heap := hP
  have hl := lv_entry ([.ref bM, .int x1, .int x2, .int x3, .int x4, .int x5, .int x6]) (n := 8) (Nat.le_of_ble_eq_true rfl)
  rw [lg_entry_eq]
  generalize (lg_sl ([.ref bM, .int x1, .int x2, .int x3, .int x4, .int x5, .int x6]) ++ List.replicate (8 - (lg_sl ([.ref bM, .int x1, .int x2, .int x3, .int x4, .int x5, .int x6])).length) Slot.unset).toArray = ls at hl ⊢
  have hl : lv_has ls 8 [(0, .ref bM), (1, .int x1), (2, .int x2), (3, .int x3), (4, .int x4), (5, .int x5), (6, .int x6)] := hl
  unfold p_X7_runError at hF
  refine lv_aload_n hx hb dX7_runError_0 rfl (lv_at hl 0 rfl) ?_
  refine lv_iload_n hx hb dX7_runError_1 rfl (lv_at hl 1 rfl) ?_
  refine lv_iload_n hx hb dX7_runError_2 rfl (lv_at hl 2 rfl) ?_
  refine lv_iload_n hx hb dX7_runError_3 rfl (lv_at hl 3 rfl) ?_
  refine lv_iload hx hb dX7_runError_4 (lv_at hl 4 rfl) ?_
  obtain ⟨r6, hC, hF⟩ := k_c1_ex hF
  refine x_VR (As := [.int x1, .int x2, .int x3, .int x4]) (rest := []) ⟨hx, hb, hml, hown, hts⟩ (c_X7_pairError l D cyI cyZ bM bN bQ bS bH bP bT N x1 x2 x3 x4 us up ue ut um un hC) (cwV 4 hts gX7_runError_X7_pairError rfl rfl rfl (by decide +kernel) ⟨Nat.le_of_ble_eq_true rfl, Nat.le_of_ble_eq_true rfl⟩) hK hP hS [0, 1] rfl 0 rfl rfl rfl rfl hl.1 rfl (Nat.le_of_ble_eq_true rfl) ⟨Nat.zero_le _, Nat.zero_le _⟩ dX7_runError_6 (fun H locs hP hS => ?_)
  refine lv_istore (lv' := [(7, .int r6), (0, .ref bM), (1, .int x1), (2, .int x2), (3, .int x3), (4, .int x4), (5, .int x5), (6, .int x6)]) hx hb dX7_runError_9 hl (by decide) rfl (fun ls hl => ?_)
  refine lv_iload hx hb dX7_runError_11 (lv_at hl 0 rfl) ?_
  refine lv_if_ge (tgt := 19) hx hb dX7_runError_13 (by decide) (fun hc => ?_) (fun hc => ?_)
  · have hF := k_if_t hF hc
    refine lv_iload hx hb dX7_runError_19 (lv_at hl 6 rfl) ?_
    refine lv_iconst (v := (1 : Int32)) hx hb dX7_runError_21 (by decide) ?_
    refine lv_bipush (v := (99 : Int32)) hx hb dX7_runError_22 (by decide) ?_
    obtain ⟨r24, hC, hF⟩ := k_c1_ex hF
    refine x_SR (As := [.int x5, .int (1 : Int32), .int (99 : Int32)]) (rest := []) ⟨hx, hb, hml, hown, hts⟩ (c_X7_in l D cyI cyZ N x5 (1 : Int32) (99 : Int32) hC) (va_cwS 3 hts gX7_runError_X7_in rfl rfl rfl (by decide +kernel) ⟨Nat.le_of_ble_eq_true rfl, Nat.le_of_ble_eq_true rfl⟩) hK hP hS [] rfl rfl hl.1 rfl (Nat.le_of_ble_eq_true rfl) ⟨Nat.zero_le _, Nat.zero_le _⟩ dX7_runError_24 (fun H locs hP hS => ?_)
    refine lv_if_eq (tgt := 41) hx hb dX7_runError_27 (by decide) (fun hc => ?_) (fun hc => ?_)
    · have hF := k_if_t hF hc
      refine lv_bipush (v := (-2 : Int32)) hx hb dX7_runError_41 (by decide) ?_
      exact W.iret hx hb hr (fun t ht hW => ⟨⟨_, (), rfl, Option.some.inj hF, trivial⟩, hS.F ht⟩) hS.2.2 dX7_runError_43
    · have hF := k_if_f hF hc
      refine lv_iload hx hb dX7_runError_30 (lv_at hl 7 rfl) ?_
      refine lv_iconst (v := (1 : Int32)) hx hb dX7_runError_32 (by decide) ?_
      refine lv_bipush (v := (99 : Int32)) hx hb dX7_runError_33 (by decide) ?_
      obtain ⟨r35, hC, hF⟩ := k_c1_ex hF
      refine x_SR (As := [.int x6, .int (1 : Int32), .int (99 : Int32)]) (rest := []) ⟨hx, hb, hml, hown, hts⟩ (c_X7_in l D cyI cyZ N x6 (1 : Int32) (99 : Int32) hC) (va_cwS 3 hts gX7_runError_X7_in rfl rfl rfl (by decide +kernel) ⟨Nat.le_of_ble_eq_true rfl, Nat.le_of_ble_eq_true rfl⟩) hK hP hS [] rfl rfl hl.1 rfl (Nat.le_of_ble_eq_true rfl) ⟨Nat.zero_le _, Nat.zero_le _⟩ dX7_runError_35 (fun H locs hP hS => ?_)
      refine lv_if_ne (tgt := 44) hx hb dX7_runError_38 (by decide) (fun hc => ?_) (fun hc => ?_)
      · have hF := k_if_f hF hc
        refine lv_aload_n hx hb dX7_runError_44 rfl (lv_at hl 1 rfl) ?_
        refine lv_iload_n hx hb dX7_runError_45 rfl (lv_at hl 2 rfl) ?_
        refine lv_iload_n hx hb dX7_runError_46 rfl (lv_at hl 3 rfl) ?_
        refine lv_iload_n hx hb dX7_runError_47 rfl (lv_at hl 4 rfl) ?_
        refine lv_iload hx hb dX7_runError_48 (lv_at hl 5 rfl) ?_
        obtain ⟨r50, hC, hF⟩ := k_c1_ex hF
        refine x_VR (As := [.int x1, .int x2, .int x3, .int x4]) (rest := []) ⟨hx, hb, hml, hown, hts⟩ (c_X7_against l D cyI cyZ bM bN bQ bS bH bP bT N x1 x2 x3 x4 us up ue ut um un hC) (cwV 4 hts gX7_runError_X7_against rfl rfl rfl (by decide +kernel) ⟨Nat.le_of_ble_eq_true rfl, Nat.le_of_ble_eq_true rfl⟩) hK hP hS [0, 1] rfl 0 rfl rfl rfl rfl hl.1 rfl (Nat.le_of_ble_eq_true rfl) ⟨Nat.zero_le _, Nat.zero_le _⟩ dX7_runError_50 (fun H locs hP hS => ?_)
        refine lv_bipush (v := (-6 : Int32)) hx hb dX7_runError_53 (by decide) ?_
        refine lv_icmp_ne (tgt := 62) hx hb dX7_runError_55 (by decide) (fun hc => ?_) (fun hc => ?_)
        · have hF := k_if_f hF hc
          refine lv_bipush (v := (-5 : Int32)) hx hb dX7_runError_62 (by decide) ?_
          exact W.iret hx hb hr (fun t ht hW => ⟨⟨_, (), rfl, Option.some.inj hF, trivial⟩, hS.F ht⟩) hS.2.2 dX7_runError_64
        · have hF := k_if_t hF hc
          refine lv_iconst (v := (0 : Int32)) hx hb dX7_runError_58 (by decide) ?_
          refine lv_goto (tgt := 64) hx hb dX7_runError_59 (by decide) ?_
          exact W.iret hx hb hr (fun t ht hW => ⟨⟨_, (), rfl, Option.some.inj hF, trivial⟩, hS.F ht⟩) hS.2.2 dX7_runError_64
      · have hF := k_if_t hF hc
        refine lv_bipush (v := (-2 : Int32)) hx hb dX7_runError_41 (by decide) ?_
        exact W.iret hx hb hr (fun t ht hW => ⟨⟨_, (), rfl, Option.some.inj hF, trivial⟩, hS.F ht⟩) hS.2.2 dX7_runError_43
  · have hF := k_if_f hF hc
    refine lv_iload hx hb dX7_runError_16 (lv_at hl 0 rfl) ?_
    exact W.iret hx hb hr (fun t ht hW => ⟨⟨_, (), rfl, Option.some.inj hF, trivial⟩, hS.F ht⟩) hS.2.2 dX7_runError_18
theorem mm_X7_tears_1 : Cond.fieldLink RX7 62 "RollerMeshModel" "pressed" "I" ∈ wsX7_tears := List.mem_of_getElem? (i := 1) rfl
theorem mm_X7_tears_2 : Cond.fieldLink RX7 7 "RollerMeshModel" "now" "[I" ∈ wsX7_tears := List.mem_of_getElem? (i := 2) rfl
theorem mi_X7_tears_X7 : ∀ w ∈ wsX70, w ∈ wsX7_tears := fun _ h => List.mem_cons_of_mem _ (List.mem_append_right _ h)
set_option maxHeartbeats 4000000 in
set_option maxRecDepth 100000 in
theorem c_X7_tears (l : Launch) (D : va_G) (cyI cyZ : ClassId) (bM bN bQ bS bH bP bT : Nat) (sz : Nat) (N : Nat) (x1 : Int32) (x2 : Int32) (us : Int32) (up : Int32) (ue : Int32) (ut : Int32) (um : Int32) (un : (Nat → Int32)) {r0 : Int32} {ue' : Int32} (hF : p_X7_tears N x1 x2 us up ue ut um un = some (r0, ue')) : Met l yX7_tears wsX7_tears ({ frames := 1, cells := 0, slots := 0, locals := 21 }) (x_PM D cyI cyZ [.ref bM, .int x1, .int x2] [(bM, .inr (7, [.ref bN, .ref bQ, .int us, .ref bS, .ref bH, .ref bP, .int up, .int ue, .int ut, .ref bT, .int um])), (bN, .inl (cyI, 225, .inl un))] sz) (x_QM D r0 (va_A [(bM, .inr (7, [.ref bN, .ref bQ, .int us, .ref bS, .ref bH, .ref bP, .int up, .int ue, .int ut, .ref bT, .int um])), (bN, .inl (cyI, 225, .inl un))] sz) [(bM, .inr (7, [.ref bN, .ref bQ, .int us, .ref bS, .ref bH, .ref bP, .int up, .int ue', .int ut, .ref bT, .int um])), (bN, .inl (cyI, 225, .inl un))]) 0 0 (va_A [(bM, .inr (7, [.ref bN, .ref bQ, .int us, .ref bS, .ref bH, .ref bP, .int up, .int ue, .int ut, .ref bT, .int um])), (bN, .inl (cyI, 225, .inl un))] sz) := by
  refine Met.ofW (cc := cX7_tears) (maxL := 5) (ret := (some .boolean)) (by decide) rfl ?_
  intro p e s m args below meth c s₁ B hml hv
  obtain ⟨rfl, hsz, hP, hK, hD0⟩ := hv
  have hx := B.exec
  have hb := B.bytes
  have hr := B.returns
  have hts := atoms_spec (ws := wsX7_tears) B.pre
  have hown : s.vm.findClass RX7 = some m.cls := findClass_of_methodNamed B.named
  have hlocks := B.notSynchronized
  subst hsz
  have hD := hD0.self (sz := s.heap.size)
  generalize hAe : va_A [(bM, .inr (7, [.ref bN, .ref bQ, .int us, .ref bS, .ref bH, .ref bP, .int up, .int ue, .int ut, .ref bT, .int um])), (bN, .inl (cyI, 225, .inl un))] s.heap.size = A at hD ⊢
  have hA : ∀ q : Nat, s.heap.size ≤ q → A q := fun q h => by rw [← hAe]; exact Or.inr h
  have hS : va_S A s.heap s.heap [] := va_S.rf
  have hP : va_P D vwCl [(bM, .inr (7, [.ref bN, .ref bQ, .int us, .ref bS, .ref bH, .ref bP, .int up, .int ue, .int ut, .ref bT, .int um])), (bN, .inl (cyI, 225, .inl un))] s.heap := hP
  have hl := lv_entry ([.ref bM, .int x1, .int x2]) (n := 5) (Nat.le_of_ble_eq_true rfl)
  rw [lg_entry_eq]
  generalize (lg_sl ([.ref bM, .int x1, .int x2]) ++ List.replicate (5 - (lg_sl ([.ref bM, .int x1, .int x2])).length) Slot.unset).toArray = ls at hl ⊢
  have hl : lv_has ls 5 [(0, .ref bM), (1, .int x1), (2, .int x2)] := hl
  refine x_gen (fun G hG => ?_)
  have blk_12 : ∀ (t0 : Int32) (ue : Int32), b_X7_tears_12 N t0 us up ue ut um un = some (r0, ue') → ∀ (H : Heap) (locs : List Loc) (ls : Array Slot), va_P D vwCl [(bM, .inr (7, [.ref bN, .ref bQ, .int us, .ref bS, .ref bH, .ref bP, .int up, .int ue, .int ut, .ref bT, .int um])), (bN, .inl (cyI, 225, .inl un))] H → va_D A [(bM, .inr (7, [.ref bN, .ref bQ, .int us, .ref bS, .ref bH, .ref bP, .int up, .int ue, .int ut, .ref bT, .int um])), (bN, .inl (cyI, 225, .inl un))] → va_S A s.heap H locs → lv_has ls 5 [(0, .ref bM)] → G H locs (F0 m 12 ls [.int t0]) := by
    intro t0 ue hF H locs ls hP hD hS hl
    unfold b_X7_tears_12 at hF
    refine (hG _ _ _).2 ?_
    refine lv_istore_n (lv' := [(3, .int t0), (0, .ref bM)]) hx hb dX7_tears_12 rfl hl (by decide) rfl (fun ls hl => ?_)
    refine lv_aload_n hx hb dX7_tears_13 rfl (lv_at hl 1 rfl) ?_
    refine va_get (D := D) (ci := 7) (v := .int ue) (C := RX7) (T := TX7) (N := 11) hx hb hts mi_X7_tears_X7 hown hK.1 hP 0 rfl rfl 7 (by decide) (hts _ mm_X7_tears_1) (fun _ h9 => h9) rfl dX7_tears_14 ?_
    refine lv_bipush (v := (-6 : Int32)) hx hb dX7_tears_17 (by decide) ?_
    refine lv_icmp_eq (tgt := 43) hx hb dX7_tears_19 (by decide) (fun hc => ?_) (fun hc => ?_)
    · have hF := k_if_t hF hc
      refine lv_iconst (v := (0 : Int32)) hx hb dX7_tears_43 (by decide) ?_
      refine lv_istore (lv' := [(4, .int (0 : Int32)), (3, .int t0), (0, .ref bM)]) hx hb dX7_tears_44 hl (by decide) rfl (fun ls hl => ?_)
      refine lv_aload_n hx hb dX7_tears_46 rfl (lv_at hl 2 rfl) ?_
      refine lv_iload_n hx hb dX7_tears_47 rfl (lv_at hl 1 rfl) ?_
      refine va_put (D := D) (ci := 7) (v := .int t0) (ty := .int) (C := RX7) (T := TX7) (N := 11) hx hb hts mi_X7_tears_X7 tyX7 tyX7_ok nmX7 hown hK.1 hP hD hS 0 rfl rfl 7 (by decide) (hts _ mm_X7_tears_1) (fun _ h9 => h9) rfl (by decide +kernel) rfl rfl (Nat.le_of_ble_eq_true rfl) dX7_tears_48 (fun H locs hP hD hS => ?_)
      have hP : va_P D vwCl [(bM, .inr (7, [.ref bN, .ref bQ, .int us, .ref bS, .ref bH, .ref bP, .int up, .int t0, .int ut, .ref bT, .int um])), (bN, .inl (cyI, 225, .inl un))] H := hP
      have hD : va_D A [(bM, .inr (7, [.ref bN, .ref bQ, .int us, .ref bS, .ref bH, .ref bP, .int up, .int t0, .int ut, .ref bT, .int um])), (bN, .inl (cyI, 225, .inl un))] := hD
      refine lv_iload_n hx hb dX7_tears_51 rfl (lv_at hl 1 rfl) ?_
      refine lv_aload_n hx hb dX7_tears_52 rfl (lv_at hl 2 rfl) ?_
      refine va_get (D := D) (ci := 7) (v := .ref bN) (C := RX7) (T := TX7) (N := 11) hx hb hts mi_X7_tears_X7 hown hK.1 hP 0 rfl rfl 0 (by decide) (hts _ mm_X7_tears_2) (fun _ h9 => h9) rfl dX7_tears_53 ?_
      refine lv_iconst (v := (5 : Int32)) hx hb dX7_tears_56 (by decide) ?_
      obtain ⟨r57, hin, hn, hF⟩ := k_ld_ex hF
      refine x_iald hx hb hK hP 1 rfl hin hn dX7_tears_57 ?_
      refine lv_icmp_gt (tgt := 66) hx hb dX7_tears_58 (by decide) (fun hc => ?_) (fun hc => ?_)
      · have hF := k_if_t hF hc
        refine lv_iconst (v := (1 : Int32)) hx hb dX7_tears_66 (by decide) ?_
        refine lv_goto (tgt := 71) hx hb dX7_tears_67 (by decide) ?_
        obtain ⟨e0, e1⟩ := k_inj2 hF
        have hP9 : va_P D vwCl [(bM, .inr (7, [.ref bN, .ref bQ, .int us, .ref bS, .ref bH, .ref bP, .int up, .int ue', .int ut, .ref bT, .int um])), (bN, .inl (cyI, 225, .inl un))] H := by rw [← e1]; exact hP
        exact W.zret hx hb hr rfl (fun t ht hW => ⟨⟨_, (), rfl, e0, x_ret hP9 ht⟩, hS.F ht⟩) hS.2.2 dX7_tears_71
      · have hF := k_if_f hF hc
        refine lv_iload hx hb dX7_tears_61 (lv_at hl 0 rfl) ?_
        refine lv_if_eq (tgt := 70) hx hb dX7_tears_63 (by decide) (fun _ => ?_) (fun hc => absurd hc (by decide))
        refine lv_iconst (v := (0 : Int32)) hx hb dX7_tears_70 (by decide) ?_
        obtain ⟨e0, e1⟩ := k_inj2 hF
        have hP9 : va_P D vwCl [(bM, .inr (7, [.ref bN, .ref bQ, .int us, .ref bS, .ref bH, .ref bP, .int up, .int ue', .int ut, .ref bT, .int um])), (bN, .inl (cyI, 225, .inl un))] H := by rw [← e1]; exact hP
        exact W.zret hx hb hr rfl (fun t ht hW => ⟨⟨_, (), rfl, e0, x_ret hP9 ht⟩, hS.F ht⟩) hS.2.2 dX7_tears_71
    · have hF := k_if_f hF hc
      refine lv_iload_n hx hb dX7_tears_22 rfl (lv_at hl 0 rfl) ?_
      refine lv_aload_n hx hb dX7_tears_23 rfl (lv_at hl 1 rfl) ?_
      refine va_get (D := D) (ci := 7) (v := .int ue) (C := RX7) (T := TX7) (N := 11) hx hb hts mi_X7_tears_X7 hown hK.1 hP 0 rfl rfl 7 (by decide) (hts _ mm_X7_tears_1) (fun _ h9 => h9) rfl dX7_tears_24 ?_
      obtain ⟨r27, hC, hF⟩ := k_c1_ex hF
      refine x_SR (As := [.int t0, .int ue]) (rest := []) ⟨hx, hb, hml, hown, hts⟩ (c_X7_apart l D cyI cyZ N t0 ue hC) (va_cwS 2 hts gX7_tears_X7_apart rfl rfl rfl (by decide +kernel) ⟨Nat.le_of_ble_eq_true rfl, Nat.le_of_ble_eq_true rfl⟩) hK hP hS [] rfl rfl hl.1 rfl (Nat.le_of_ble_eq_true rfl) ⟨Nat.zero_le _, Nat.zero_le _⟩ dX7_tears_27 (fun H locs hP hS => ?_)
      refine lv_aload_n hx hb dX7_tears_30 rfl (lv_at hl 1 rfl) ?_
      refine va_get (D := D) (ci := 7) (v := .ref bN) (C := RX7) (T := TX7) (N := 11) hx hb hts mi_X7_tears_X7 hown hK.1 hP 0 rfl rfl 0 (by decide) (hts _ mm_X7_tears_2) (fun _ h9 => h9) rfl dX7_tears_31 ?_
      refine lv_iconst (v := (1 : Int32)) hx hb dX7_tears_34 (by decide) ?_
      obtain ⟨r35, hin, hn, hF⟩ := k_ld_ex hF
      refine x_iald hx hb hK hP 1 rfl hin hn dX7_tears_35 ?_
      refine lv_icmp_le (tgt := 43) hx hb dX7_tears_36 (by decide) (fun hc => ?_) (fun hc => ?_)
      · have hF := k_if_t hF hc
        refine lv_iconst (v := (0 : Int32)) hx hb dX7_tears_43 (by decide) ?_
        refine lv_istore (lv' := [(4, .int (0 : Int32)), (3, .int t0), (0, .ref bM)]) hx hb dX7_tears_44 hl (by decide) rfl (fun ls hl => ?_)
        refine lv_aload_n hx hb dX7_tears_46 rfl (lv_at hl 2 rfl) ?_
        refine lv_iload_n hx hb dX7_tears_47 rfl (lv_at hl 1 rfl) ?_
        refine va_put (D := D) (ci := 7) (v := .int t0) (ty := .int) (C := RX7) (T := TX7) (N := 11) hx hb hts mi_X7_tears_X7 tyX7 tyX7_ok nmX7 hown hK.1 hP hD hS 0 rfl rfl 7 (by decide) (hts _ mm_X7_tears_1) (fun _ h9 => h9) rfl (by decide +kernel) rfl rfl (Nat.le_of_ble_eq_true rfl) dX7_tears_48 (fun H locs hP hD hS => ?_)
        have hP : va_P D vwCl [(bM, .inr (7, [.ref bN, .ref bQ, .int us, .ref bS, .ref bH, .ref bP, .int up, .int t0, .int ut, .ref bT, .int um])), (bN, .inl (cyI, 225, .inl un))] H := hP
        have hD : va_D A [(bM, .inr (7, [.ref bN, .ref bQ, .int us, .ref bS, .ref bH, .ref bP, .int up, .int t0, .int ut, .ref bT, .int um])), (bN, .inl (cyI, 225, .inl un))] := hD
        refine lv_iload_n hx hb dX7_tears_51 rfl (lv_at hl 1 rfl) ?_
        refine lv_aload_n hx hb dX7_tears_52 rfl (lv_at hl 2 rfl) ?_
        refine va_get (D := D) (ci := 7) (v := .ref bN) (C := RX7) (T := TX7) (N := 11) hx hb hts mi_X7_tears_X7 hown hK.1 hP 0 rfl rfl 0 (by decide) (hts _ mm_X7_tears_2) (fun _ h9 => h9) rfl dX7_tears_53 ?_
        refine lv_iconst (v := (5 : Int32)) hx hb dX7_tears_56 (by decide) ?_
        obtain ⟨r57, hin, hn, hF⟩ := k_ld_ex hF
        refine x_iald hx hb hK hP 1 rfl hin hn dX7_tears_57 ?_
        refine lv_icmp_gt (tgt := 66) hx hb dX7_tears_58 (by decide) (fun hc => ?_) (fun hc => ?_)
        · have hF := k_if_t hF hc
          refine lv_iconst (v := (1 : Int32)) hx hb dX7_tears_66 (by decide) ?_
          refine lv_goto (tgt := 71) hx hb dX7_tears_67 (by decide) ?_
          obtain ⟨e0, e1⟩ := k_inj2 hF
          have hP9 : va_P D vwCl [(bM, .inr (7, [.ref bN, .ref bQ, .int us, .ref bS, .ref bH, .ref bP, .int up, .int ue', .int ut, .ref bT, .int um])), (bN, .inl (cyI, 225, .inl un))] H := by rw [← e1]; exact hP
          exact W.zret hx hb hr rfl (fun t ht hW => ⟨⟨_, (), rfl, e0, x_ret hP9 ht⟩, hS.F ht⟩) hS.2.2 dX7_tears_71
        · have hF := k_if_f hF hc
          refine lv_iload hx hb dX7_tears_61 (lv_at hl 0 rfl) ?_
          refine lv_if_eq (tgt := 70) hx hb dX7_tears_63 (by decide) (fun _ => ?_) (fun hc => absurd hc (by decide))
          refine lv_iconst (v := (0 : Int32)) hx hb dX7_tears_70 (by decide) ?_
          obtain ⟨e0, e1⟩ := k_inj2 hF
          have hP9 : va_P D vwCl [(bM, .inr (7, [.ref bN, .ref bQ, .int us, .ref bS, .ref bH, .ref bP, .int up, .int ue', .int ut, .ref bT, .int um])), (bN, .inl (cyI, 225, .inl un))] H := by rw [← e1]; exact hP
          exact W.zret hx hb hr rfl (fun t ht hW => ⟨⟨_, (), rfl, e0, x_ret hP9 ht⟩, hS.F ht⟩) hS.2.2 dX7_tears_71
      · have hF := k_if_f hF hc
        refine lv_iconst (v := (1 : Int32)) hx hb dX7_tears_39 (by decide) ?_
        refine lv_goto (tgt := 44) hx hb dX7_tears_40 (by decide) ?_
        refine lv_istore (lv' := [(4, .int (1 : Int32)), (3, .int t0), (0, .ref bM)]) hx hb dX7_tears_44 hl (by decide) rfl (fun ls hl => ?_)
        refine lv_aload_n hx hb dX7_tears_46 rfl (lv_at hl 2 rfl) ?_
        refine lv_iload_n hx hb dX7_tears_47 rfl (lv_at hl 1 rfl) ?_
        refine va_put (D := D) (ci := 7) (v := .int t0) (ty := .int) (C := RX7) (T := TX7) (N := 11) hx hb hts mi_X7_tears_X7 tyX7 tyX7_ok nmX7 hown hK.1 hP hD hS 0 rfl rfl 7 (by decide) (hts _ mm_X7_tears_1) (fun _ h9 => h9) rfl (by decide +kernel) rfl rfl (Nat.le_of_ble_eq_true rfl) dX7_tears_48 (fun H locs hP hD hS => ?_)
        have hP : va_P D vwCl [(bM, .inr (7, [.ref bN, .ref bQ, .int us, .ref bS, .ref bH, .ref bP, .int up, .int t0, .int ut, .ref bT, .int um])), (bN, .inl (cyI, 225, .inl un))] H := hP
        have hD : va_D A [(bM, .inr (7, [.ref bN, .ref bQ, .int us, .ref bS, .ref bH, .ref bP, .int up, .int t0, .int ut, .ref bT, .int um])), (bN, .inl (cyI, 225, .inl un))] := hD
        refine lv_iload_n hx hb dX7_tears_51 rfl (lv_at hl 1 rfl) ?_
        refine lv_aload_n hx hb dX7_tears_52 rfl (lv_at hl 2 rfl) ?_
        refine va_get (D := D) (ci := 7) (v := .ref bN) (C := RX7) (T := TX7) (N := 11) hx hb hts mi_X7_tears_X7 hown hK.1 hP 0 rfl rfl 0 (by decide) (hts _ mm_X7_tears_2) (fun _ h9 => h9) rfl dX7_tears_53 ?_
        refine lv_iconst (v := (5 : Int32)) hx hb dX7_tears_56 (by decide) ?_
        obtain ⟨r57, hin, hn, hF⟩ := k_ld_ex hF
        refine x_iald hx hb hK hP 1 rfl hin hn dX7_tears_57 ?_
        refine lv_icmp_gt (tgt := 66) hx hb dX7_tears_58 (by decide) (fun hc => ?_) (fun hc => ?_)
        · have hF := k_if_t hF hc
          refine lv_iconst (v := (1 : Int32)) hx hb dX7_tears_66 (by decide) ?_
          refine lv_goto (tgt := 71) hx hb dX7_tears_67 (by decide) ?_
          obtain ⟨e0, e1⟩ := k_inj2 hF
          have hP9 : va_P D vwCl [(bM, .inr (7, [.ref bN, .ref bQ, .int us, .ref bS, .ref bH, .ref bP, .int up, .int ue', .int ut, .ref bT, .int um])), (bN, .inl (cyI, 225, .inl un))] H := by rw [← e1]; exact hP
          exact W.zret hx hb hr rfl (fun t ht hW => ⟨⟨_, (), rfl, e0, x_ret hP9 ht⟩, hS.F ht⟩) hS.2.2 dX7_tears_71
        · have hF := k_if_f hF hc
          refine lv_iload hx hb dX7_tears_61 (lv_at hl 0 rfl) ?_
          refine lv_if_eq (tgt := 70) hx hb dX7_tears_63 (by decide) (fun hc => absurd hc (by decide)) (fun _ => ?_)
          refine lv_iconst (v := (1 : Int32)) hx hb dX7_tears_66 (by decide) ?_
          refine lv_goto (tgt := 71) hx hb dX7_tears_67 (by decide) ?_
          obtain ⟨e0, e1⟩ := k_inj2 hF
          have hP9 : va_P D vwCl [(bM, .inr (7, [.ref bN, .ref bQ, .int us, .ref bS, .ref bH, .ref bP, .int up, .int ue', .int ut, .ref bT, .int um])), (bN, .inl (cyI, 225, .inl un))] H := by rw [← e1]; exact hP
          exact W.zret hx hb hr rfl (fun t ht hW => ⟨⟨_, (), rfl, e0, x_ret hP9 ht⟩, hS.F ht⟩) hS.2.2 dX7_tears_71
  refine (hG _ _ _).2 ?_
  unfold p_X7_tears at hF
  refine lv_iload_n hx hb dX7_tears_0 rfl (lv_at hl 1 rfl) ?_
  refine lv_iload_n hx hb dX7_tears_1 rfl (lv_at hl 2 rfl) ?_
  refine lv_icmp_le (tgt := 11) hx hb dX7_tears_2 (by decide) (fun hc => ?_) (fun hc => ?_)
  · have hF := k_if_t hF hc
    refine lv_iconst (v := (0 : Int32)) hx hb dX7_tears_11 (by decide) ?_
    exact (hG _ _ _).1 (blk_12 (0 : Int32) ue hF _ _ _ hP hD hS (lv_sub hl [0] rfl))
  · have hF := k_if_f hF hc
    refine lv_iload_n hx hb dX7_tears_5 rfl (lv_at hl 1 rfl) ?_
    refine lv_iload_n hx hb dX7_tears_6 rfl (lv_at hl 2 rfl) ?_
    refine lv_isub hx hb dX7_tears_7 ?_
    refine lv_goto (tgt := 12) hx hb dX7_tears_8 (by decide) ?_
    exact (hG _ _ _).1 (blk_12 (x1 - x2) ue hF _ _ _ hP hD hS (lv_sub hl [0] rfl))
theorem mm_X7_counts_1 : Cond.fieldLink RX7 7 "RollerMeshModel" "now" "[I" ∈ wsX7_counts := List.mem_of_getElem? (i := 1) rfl
theorem mi_X7_counts_X7 : ∀ w ∈ wsX70, w ∈ wsX7_counts := fun _ h => List.mem_cons_of_mem _ (List.mem_append_right _ h)
set_option maxHeartbeats 4000000 in
set_option maxRecDepth 100000 in
theorem c_X7_counts (l : Launch) (D : va_G) (cyI cyZ : ClassId) (bM bN bQ bS bH bP bT : Nat) (sz : Nat) (N : Nat) (x1 : Int32) (x2 : Int32) (us : Int32) (up : Int32) (ue : Int32) (ut : Int32) (um : Int32) (un : (Nat → Int32)) {un' : (Nat → Int32)} (hF : p_X7_counts N x1 x2 us up ue ut um un = some (un')) : Met l yX7_counts wsX7_counts ({ frames := 0, cells := 0, slots := 0, locals := 0 }) (x_PM D cyI cyZ [.ref bM, .int x1, .int x2] [(bM, .inr (7, [.ref bN, .ref bQ, .int us, .ref bS, .ref bH, .ref bP, .int up, .int ue, .int ut, .ref bT, .int um])), (bN, .inl (cyI, 225, .inl un))] sz) (x_QV D (va_A [(bM, .inr (7, [.ref bN, .ref bQ, .int us, .ref bS, .ref bH, .ref bP, .int up, .int ue, .int ut, .ref bT, .int um])), (bN, .inl (cyI, 225, .inl un))] sz) [(bM, .inr (7, [.ref bN, .ref bQ, .int us, .ref bS, .ref bH, .ref bP, .int up, .int ue, .int ut, .ref bT, .int um])), (bN, .inl (cyI, 225, .inl un'))]) 0 0 (va_A [(bM, .inr (7, [.ref bN, .ref bQ, .int us, .ref bS, .ref bH, .ref bP, .int up, .int ue, .int ut, .ref bT, .int um])), (bN, .inl (cyI, 225, .inl un))] sz) := by
  refine Met.ofW (cc := cX7_counts) (maxL := 5) (ret := none) (by decide) rfl ?_
  intro p e s m args below meth c s₁ B hml hv
  obtain ⟨rfl, hsz, hP, hK, hD0⟩ := hv
  have hx := B.exec
  have hb := B.bytes
  have hr := B.returns
  have hts := atoms_spec (ws := wsX7_counts) B.pre
  have hown : s.vm.findClass RX7 = some m.cls := findClass_of_methodNamed B.named
  have hlocks := B.notSynchronized
  subst hsz
  have hD := hD0.self (sz := s.heap.size)
  generalize hAe : va_A [(bM, .inr (7, [.ref bN, .ref bQ, .int us, .ref bS, .ref bH, .ref bP, .int up, .int ue, .int ut, .ref bT, .int um])), (bN, .inl (cyI, 225, .inl un))] s.heap.size = A at hD ⊢
  have hA : ∀ q : Nat, s.heap.size ≤ q → A q := fun q h => by rw [← hAe]; exact Or.inr h
  have hS : va_S A s.heap s.heap [] := va_S.rf
  have hP : va_P D vwCl [(bM, .inr (7, [.ref bN, .ref bQ, .int us, .ref bS, .ref bH, .ref bP, .int up, .int ue, .int ut, .ref bT, .int um])), (bN, .inl (cyI, 225, .inl un))] s.heap := hP
  have hl := lv_entry ([.ref bM, .int x1, .int x2]) (n := 5) (Nat.le_of_ble_eq_true rfl)
  rw [lg_entry_eq]
  generalize (lg_sl ([.ref bM, .int x1, .int x2]) ++ List.replicate (5 - (lg_sl ([.ref bM, .int x1, .int x2])).length) Slot.unset).toArray = ls at hl ⊢
  have hl : lv_has ls 5 [(0, .ref bM), (1, .int x1), (2, .int x2)] := hl
  refine x_gen (fun G hG => ?_)
  have blk_71 : ∀ (n_71 : Nat) (x3 : Int32) (x4 : Int32) (un : (Nat → Int32)), f_X7_counts_71 N n_71 x3 x4 us up ue ut um un = some (un') → ∀ (H : Heap) (locs : List Loc) (ls : Array Slot), va_P D vwCl [(bM, .inr (7, [.ref bN, .ref bQ, .int us, .ref bS, .ref bH, .ref bP, .int up, .int ue, .int ut, .ref bT, .int um])), (bN, .inl (cyI, 225, .inl un))] H → va_D A [(bM, .inr (7, [.ref bN, .ref bQ, .int us, .ref bS, .ref bH, .ref bP, .int up, .int ue, .int ut, .ref bT, .int um])), (bN, .inl (cyI, 225, .inl un))] → va_S A s.heap H locs → lv_has ls 5 [(0, .ref bM), (3, .int x3), (4, .int x4)] → G H locs (F0 m 71 ls []) := by
    intro n_71
    induction n_71 with
    | zero => intro x3 x4 un hF; exact (k_none hF).elim
    | succ n_71 ih_71 =>
      intro x3 x4 un hF H locs ls hP hD hS hl
      replace hF : b_X7_counts_71 N (f_X7_counts_71 N n_71) x3 x4 us up ue ut um un = some (un') := hF
      unfold b_X7_counts_71 at hF
      refine (hG _ _ _).2 ?_
      refine lv_iload hx hb dX7_counts_71 (lv_at hl 2 rfl) ?_
      refine lv_aload_n hx hb dX7_counts_73 rfl (lv_at hl 0 rfl) ?_
      refine va_get (D := D) (ci := 7) (v := .ref bN) (C := RX7) (T := TX7) (N := 11) hx hb hts mi_X7_counts_X7 hown hK.1 hP 0 rfl rfl 0 (by decide) (hts _ mm_X7_counts_1) (fun _ h9 => h9) rfl dX7_counts_74 ?_
      refine lv_iload_n hx hb dX7_counts_77 rfl (lv_at hl 1 rfl) ?_
      refine lv_iconst (v := (0 : Int32)) hx hb dX7_counts_78 (by decide) ?_
      refine lv_iadd hx hb dX7_counts_79 ?_
      obtain ⟨r80, hin, hn, hF⟩ := k_ld_ex hF
      refine x_iald hx hb hK hP 1 rfl hin hn dX7_counts_80 ?_
      refine lv_icmp_ge (tgt := 123) hx hb dX7_counts_81 (by decide) (fun hc => ?_) (fun hc => ?_)
      · have hF := k_if_t hF hc
        have e0 := k_inj1 hF
        have hP9 : va_P D vwCl [(bM, .inr (7, [.ref bN, .ref bQ, .int us, .ref bS, .ref bH, .ref bP, .int up, .int ue, .int ut, .ref bT, .int um])), (bN, .inl (cyI, 225, .inl un'))] H := by rw [← e0]; exact hP
        exact W.vret hx hb hr (fun t ht hW => ⟨⟨(), rfl, trivial, x_ret hP9 ht⟩, hS.F ht⟩) hS.2.2 dX7_counts_123
      · have hF := k_if_f hF hc
        refine lv_aload_n hx hb dX7_counts_84 rfl (lv_at hl 0 rfl) ?_
        refine va_get (D := D) (ci := 7) (v := .ref bN) (C := RX7) (T := TX7) (N := 11) hx hb hts mi_X7_counts_X7 hown hK.1 hP 0 rfl rfl 0 (by decide) (hts _ mm_X7_counts_1) (fun _ h9 => h9) rfl dX7_counts_85 ?_
        refine lv_iload_n hx hb dX7_counts_88 rfl (lv_at hl 1 rfl) ?_
        refine lv_iconst (v := (3 : Int32)) hx hb dX7_counts_89 (by decide) ?_
        refine lv_iadd hx hb dX7_counts_90 ?_
        refine lv_iload hx hb dX7_counts_91 (lv_at hl 2 rfl) ?_
        refine lv_iadd hx hb dX7_counts_93 ?_
        refine lv_dup2_11 hx hb dX7_counts_94 rfl rfl ?_
        obtain ⟨r95, hin, hn, hF⟩ := k_ld_ex hF
        refine x_iald hx hb hK hP 1 rfl hin hn dX7_counts_95 ?_
        refine lv_aload_n hx hb dX7_counts_96 rfl (lv_at hl 0 rfl) ?_
        refine va_get (D := D) (ci := 7) (v := .ref bN) (C := RX7) (T := TX7) (N := 11) hx hb hts mi_X7_counts_X7 hown hK.1 hP 0 rfl rfl 0 (by decide) (hts _ mm_X7_counts_1) (fun _ h9 => h9) rfl dX7_counts_97 ?_
        refine lv_iload_n hx hb dX7_counts_100 rfl (lv_at hl 1 rfl) ?_
        refine lv_iconst (v := (3 : Int32)) hx hb dX7_counts_101 (by decide) ?_
        refine lv_iadd hx hb dX7_counts_102 ?_
        refine lv_iload hx hb dX7_counts_103 (lv_at hl 2 rfl) ?_
        refine lv_iadd hx hb dX7_counts_105 ?_
        obtain ⟨r106, hin, hn, hF⟩ := k_ld_ex hF
        refine x_iald hx hb hK hP 1 rfl hin hn dX7_counts_106 ?_
        refine lv_if_le (tgt := 114) hx hb dX7_counts_107 (by decide) (fun hc => ?_) (fun hc => ?_)
        · have hF := k_if_t hF hc
          refine lv_iconst (v := (0 : Int32)) hx hb dX7_counts_114 (by decide) ?_
          refine lv_isub hx hb dX7_counts_115 ?_
          obtain ⟨un_116, hin, hn, hF⟩ := k_st_ex hF
          refine x_iast hx hb hK hP hD hS 1 rfl hin hn dX7_counts_116 (fun H locs hP hD hS => ?_)
          have hP : va_P D vwCl [(bM, .inr (7, [.ref bN, .ref bQ, .int us, .ref bS, .ref bH, .ref bP, .int up, .int ue, .int ut, .ref bT, .int um])), (bN, .inl (cyI, 225, .inl un_116))] H := hP
          have hD : va_D A [(bM, .inr (7, [.ref bN, .ref bQ, .int us, .ref bS, .ref bH, .ref bP, .int up, .int ue, .int ut, .ref bT, .int um])), (bN, .inl (cyI, 225, .inl un_116))] := hD
          obtain ⟨x4_117, hn, hF⟩ := k_let_ex hF
          refine lv_iinc (v := x4_117) (lv' := [(4, .int x4_117), (0, .ref bM), (3, .int x3)]) hx hb dX7_counts_117 hl (k := 2) rfl (by rw [hn]; rfl) (by decide) rfl (fun ls hl => ?_)
          refine lv_goto (tgt := 71) hx hb dX7_counts_120 (by decide) ?_
          exact (hG _ _ _).1 (ih_71 x3 x4_117 un_116 hF _ _ _ hP hD hS (lv_sub hl [1, 2, 0] rfl))
        · have hF := k_if_f hF hc
          refine lv_iconst (v := (1 : Int32)) hx hb dX7_counts_110 (by decide) ?_
          refine lv_goto (tgt := 115) hx hb dX7_counts_111 (by decide) ?_
          refine lv_isub hx hb dX7_counts_115 ?_
          obtain ⟨un_116, hin, hn, hF⟩ := k_st_ex hF
          refine x_iast hx hb hK hP hD hS 1 rfl hin hn dX7_counts_116 (fun H locs hP hD hS => ?_)
          have hP : va_P D vwCl [(bM, .inr (7, [.ref bN, .ref bQ, .int us, .ref bS, .ref bH, .ref bP, .int up, .int ue, .int ut, .ref bT, .int um])), (bN, .inl (cyI, 225, .inl un_116))] H := hP
          have hD : va_D A [(bM, .inr (7, [.ref bN, .ref bQ, .int us, .ref bS, .ref bH, .ref bP, .int up, .int ue, .int ut, .ref bT, .int um])), (bN, .inl (cyI, 225, .inl un_116))] := hD
          obtain ⟨x4_117, hn, hF⟩ := k_let_ex hF
          refine lv_iinc (v := x4_117) (lv' := [(4, .int x4_117), (0, .ref bM), (3, .int x3)]) hx hb dX7_counts_117 hl (k := 2) rfl (by rw [hn]; rfl) (by decide) rfl (fun ls hl => ?_)
          refine lv_goto (tgt := 71) hx hb dX7_counts_120 (by decide) ?_
          exact (hG _ _ _).1 (ih_71 x3 x4_117 un_116 hF _ _ _ hP hD hS (lv_sub hl [1, 2, 0] rfl))
  refine (hG _ _ _).2 ?_
  unfold p_X7_counts at hF
  refine lv_bipush (v := (9 : Int32)) hx hb dX7_counts_0 (by decide) ?_
  refine lv_bipush (v := (27 : Int32)) hx hb dX7_counts_2 (by decide) ?_
  refine lv_iload_n hx hb dX7_counts_4 rfl (lv_at hl 1 rfl) ?_
  refine lv_imul hx hb dX7_counts_5 ?_
  refine lv_iadd hx hb dX7_counts_6 ?_
  obtain ⟨x3_7, hn, hF⟩ := k_let_ex hF
  refine x_nm hn ?_
  refine lv_istore_n (lv' := [(3, .int x3_7), (0, .ref bM), (1, .int x1), (2, .int x2)]) hx hb dX7_counts_7 rfl hl (by decide) rfl (fun ls hl => ?_)
  refine lv_aload_n hx hb dX7_counts_8 rfl (lv_at hl 1 rfl) ?_
  refine va_get (D := D) (ci := 7) (v := .ref bN) (C := RX7) (T := TX7) (N := 11) hx hb hts mi_X7_counts_X7 hown hK.1 hP 0 rfl rfl 0 (by decide) (hts _ mm_X7_counts_1) (fun _ h9 => h9) rfl dX7_counts_9 ?_
  refine lv_iload_n hx hb dX7_counts_12 rfl (lv_at hl 0 rfl) ?_
  refine lv_iconst (v := (1 : Int32)) hx hb dX7_counts_13 (by decide) ?_
  refine lv_iadd hx hb dX7_counts_14 ?_
  refine lv_dup2_11 hx hb dX7_counts_15 rfl rfl ?_
  obtain ⟨r16, hin, hn, hF⟩ := k_ld_ex hF
  refine x_iald hx hb hK hP 1 rfl hin hn dX7_counts_16 ?_
  refine lv_iload_n hx hb dX7_counts_17 rfl (lv_at hl 3 rfl) ?_
  refine lv_iadd hx hb dX7_counts_18 ?_
  obtain ⟨un_19, hin, hn, hF⟩ := k_st_ex hF
  refine x_iast hx hb hK hP hD hS 1 rfl hin hn dX7_counts_19 (fun H locs hP hD hS => ?_)
  have hP : va_P D vwCl [(bM, .inr (7, [.ref bN, .ref bQ, .int us, .ref bS, .ref bH, .ref bP, .int up, .int ue, .int ut, .ref bT, .int um])), (bN, .inl (cyI, 225, .inl un_19))] H := hP
  have hD : va_D A [(bM, .inr (7, [.ref bN, .ref bQ, .int us, .ref bS, .ref bH, .ref bP, .int up, .int ue, .int ut, .ref bT, .int um])), (bN, .inl (cyI, 225, .inl un_19))] := hD
  refine lv_aload_n hx hb dX7_counts_20 rfl (lv_at hl 1 rfl) ?_
  refine va_get (D := D) (ci := 7) (v := .ref bN) (C := RX7) (T := TX7) (N := 11) hx hb hts mi_X7_counts_X7 hown hK.1 hP 0 rfl rfl 0 (by decide) (hts _ mm_X7_counts_1) (fun _ h9 => h9) rfl dX7_counts_21 ?_
  refine lv_iload_n hx hb dX7_counts_24 rfl (lv_at hl 0 rfl) ?_
  refine lv_iconst (v := (1 : Int32)) hx hb dX7_counts_25 (by decide) ?_
  refine lv_iadd hx hb dX7_counts_26 ?_
  obtain ⟨r27, hin, hn, hF⟩ := k_ld_ex hF
  refine x_iald hx hb hK hP 1 rfl hin hn dX7_counts_27 ?_
  refine lv_aload_n hx hb dX7_counts_28 rfl (lv_at hl 1 rfl) ?_
  refine va_get (D := D) (ci := 7) (v := .ref bN) (C := RX7) (T := TX7) (N := 11) hx hb hts mi_X7_counts_X7 hown hK.1 hP 0 rfl rfl 0 (by decide) (hts _ mm_X7_counts_1) (fun _ h9 => h9) rfl dX7_counts_29 ?_
  refine lv_iconst (v := (2 : Int32)) hx hb dX7_counts_32 (by decide) ?_
  obtain ⟨r33, hin, hn, hF⟩ := k_ld_ex hF
  refine x_iald hx hb hK hP 1 rfl hin hn dX7_counts_33 ?_
  refine lv_aload_n hx hb dX7_counts_34 rfl (lv_at hl 1 rfl) ?_
  refine va_get (D := D) (ci := 7) (v := .ref bN) (C := RX7) (T := TX7) (N := 11) hx hb hts mi_X7_counts_X7 hown hK.1 hP 0 rfl rfl 0 (by decide) (hts _ mm_X7_counts_1) (fun _ h9 => h9) rfl dX7_counts_35 ?_
  refine lv_iload_n hx hb dX7_counts_38 rfl (lv_at hl 0 rfl) ?_
  refine lv_iconst (v := (0 : Int32)) hx hb dX7_counts_39 (by decide) ?_
  refine lv_iadd hx hb dX7_counts_40 ?_
  obtain ⟨r41, hin, hn, hF⟩ := k_ld_ex hF
  refine x_iald hx hb hK hP 1 rfl hin hn dX7_counts_41 ?_
  refine lv_imul hx hb dX7_counts_42 ?_
  refine lv_icmp_ge (tgt := 47) hx hb dX7_counts_43 (by decide) (fun hc => ?_) (fun hc => ?_)
  · have hF := k_if_t hF hc
    refine lv_aload_n hx hb dX7_counts_47 rfl (lv_at hl 1 rfl) ?_
    refine va_get (D := D) (ci := 7) (v := .ref bN) (C := RX7) (T := TX7) (N := 11) hx hb hts mi_X7_counts_X7 hown hK.1 hP 0 rfl rfl 0 (by decide) (hts _ mm_X7_counts_1) (fun _ h9 => h9) rfl dX7_counts_48 ?_
    refine lv_iload_n hx hb dX7_counts_51 rfl (lv_at hl 0 rfl) ?_
    refine lv_iconst (v := (1 : Int32)) hx hb dX7_counts_52 (by decide) ?_
    refine lv_iadd hx hb dX7_counts_53 ?_
    refine lv_iconst (v := (0 : Int32)) hx hb dX7_counts_54 (by decide) ?_
    obtain ⟨un_55, hin, hn, hF⟩ := k_st_ex hF
    refine x_iast hx hb hK hP hD hS 1 rfl hin hn dX7_counts_55 (fun H locs hP hD hS => ?_)
    have hP : va_P D vwCl [(bM, .inr (7, [.ref bN, .ref bQ, .int us, .ref bS, .ref bH, .ref bP, .int up, .int ue, .int ut, .ref bT, .int um])), (bN, .inl (cyI, 225, .inl un_55))] H := hP
    have hD : va_D A [(bM, .inr (7, [.ref bN, .ref bQ, .int us, .ref bS, .ref bH, .ref bP, .int up, .int ue, .int ut, .ref bT, .int um])), (bN, .inl (cyI, 225, .inl un_55))] := hD
    refine lv_aload_n hx hb dX7_counts_56 rfl (lv_at hl 1 rfl) ?_
    refine va_get (D := D) (ci := 7) (v := .ref bN) (C := RX7) (T := TX7) (N := 11) hx hb hts mi_X7_counts_X7 hown hK.1 hP 0 rfl rfl 0 (by decide) (hts _ mm_X7_counts_1) (fun _ h9 => h9) rfl dX7_counts_57 ?_
    refine lv_iload_n hx hb dX7_counts_60 rfl (lv_at hl 0 rfl) ?_
    refine lv_iconst (v := (2 : Int32)) hx hb dX7_counts_61 (by decide) ?_
    refine lv_iadd hx hb dX7_counts_62 ?_
    refine lv_dup2_11 hx hb dX7_counts_63 rfl rfl ?_
    obtain ⟨r64, hin, hn, hF⟩ := k_ld_ex hF
    refine x_iald hx hb hK hP 1 rfl hin hn dX7_counts_64 ?_
    refine lv_iconst (v := (1 : Int32)) hx hb dX7_counts_65 (by decide) ?_
    refine lv_iadd hx hb dX7_counts_66 ?_
    obtain ⟨un_67, hin, hn, hF⟩ := k_st_ex hF
    refine x_iast hx hb hK hP hD hS 1 rfl hin hn dX7_counts_67 (fun H locs hP hD hS => ?_)
    have hP : va_P D vwCl [(bM, .inr (7, [.ref bN, .ref bQ, .int us, .ref bS, .ref bH, .ref bP, .int up, .int ue, .int ut, .ref bT, .int um])), (bN, .inl (cyI, 225, .inl un_67))] H := hP
    have hD : va_D A [(bM, .inr (7, [.ref bN, .ref bQ, .int us, .ref bS, .ref bH, .ref bP, .int up, .int ue, .int ut, .ref bT, .int um])), (bN, .inl (cyI, 225, .inl un_67))] := hD
    refine lv_iconst (v := (0 : Int32)) hx hb dX7_counts_68 (by decide) ?_
    refine lv_istore (lv' := [(4, .int (0 : Int32)), (3, .int x3_7), (0, .ref bM), (1, .int x1), (2, .int x2)]) hx hb dX7_counts_69 hl (by decide) rfl (fun ls hl => ?_)
    exact (hG _ _ _).1 (blk_71 N x3_7 (0 : Int32) un_67 hF _ _ _ hP hD hS (lv_sub hl [2, 1, 0] rfl))
  · have hF := k_if_f hF hc
    have e0 := k_inj1 hF
    have hP9 : va_P D vwCl [(bM, .inr (7, [.ref bN, .ref bQ, .int us, .ref bS, .ref bH, .ref bP, .int up, .int ue, .int ut, .ref bT, .int um])), (bN, .inl (cyI, 225, .inl un'))] H := by rw [← e0]; exact hP
    exact W.vret hx hb hr (fun t ht hW => ⟨⟨(), rfl, trivial, x_ret hP9 ht⟩, hS.F ht⟩) hS.2.2 dX7_counts_46
theorem mm_X7_runs_1 : Cond.fieldLink RX7 62 "RollerMeshModel" "pressed" "I" ∈ wsX7_runs := List.mem_of_getElem? (i := 1) rfl
theorem mm_X7_runs_2 : Cond.fieldLink RX7 7 "RollerMeshModel" "now" "[I" ∈ wsX7_runs := List.mem_of_getElem? (i := 2) rfl
theorem mi_X7_runs_X7 : ∀ w ∈ wsX70, w ∈ wsX7_runs := fun _ h => List.mem_cons_of_mem _ (List.mem_append_right _ h)
set_option maxHeartbeats 4000000 in
set_option maxRecDepth 100000 in
theorem c_X7_runs (l : Launch) (D : va_G) (cyI cyZ : ClassId) (bM bN bQ bS bH bP bT : Nat) (sz : Nat) (N : Nat) (x1 : Int32) (x2 : Int32) (x3 : Int32) (x4 : Int32) (x5 : Int32) (x6 : Int32) (us : Int32) (up : Int32) (ue : Int32) (ut : Int32) (um : Int32) (un : (Nat → Int32)) {r0 : Int32} {ue' : Int32} {un' : (Nat → Int32)} (hF : p_X7_runs N x1 x2 x3 x4 x5 x6 us up ue ut um un = some (r0, ue', un')) : Met l yX7_runs wsX7_runs ({ frames := 2, cells := 0, slots := 0, locals := 47 }) (x_PM D cyI cyZ [.ref bM, .int x1, .int x2, .int x3, .int x4, .int x5, .int x6] [(bM, .inr (7, [.ref bN, .ref bQ, .int us, .ref bS, .ref bH, .ref bP, .int up, .int ue, .int ut, .ref bT, .int um])), (bN, .inl (cyI, 225, .inl un))] sz) (x_QM D r0 (va_A [(bM, .inr (7, [.ref bN, .ref bQ, .int us, .ref bS, .ref bH, .ref bP, .int up, .int ue, .int ut, .ref bT, .int um])), (bN, .inl (cyI, 225, .inl un))] sz) [(bM, .inr (7, [.ref bN, .ref bQ, .int us, .ref bS, .ref bH, .ref bP, .int up, .int ue', .int ut, .ref bT, .int um])), (bN, .inl (cyI, 225, .inl un'))]) 0 0 (va_A [(bM, .inr (7, [.ref bN, .ref bQ, .int us, .ref bS, .ref bH, .ref bP, .int up, .int ue, .int ut, .ref bT, .int um])), (bN, .inl (cyI, 225, .inl un))] sz) := by
  refine Met.ofW (cc := cX7_runs) (maxL := 12) (ret := (some .int)) (by decide) rfl ?_
  intro p e s m args below meth c s₁ B hml hv
  obtain ⟨rfl, hsz, hP, hK, hD0⟩ := hv
  have hx := B.exec
  have hb := B.bytes
  have hr := B.returns
  have hts := atoms_spec (ws := wsX7_runs) B.pre
  have hown : s.vm.findClass RX7 = some m.cls := findClass_of_methodNamed B.named
  have hlocks := B.notSynchronized
  subst hsz
  have hD := hD0.self (sz := s.heap.size)
  generalize hAe : va_A [(bM, .inr (7, [.ref bN, .ref bQ, .int us, .ref bS, .ref bH, .ref bP, .int up, .int ue, .int ut, .ref bT, .int um])), (bN, .inl (cyI, 225, .inl un))] s.heap.size = A at hD ⊢
  have hA : ∀ q : Nat, s.heap.size ≤ q → A q := fun q h => by rw [← hAe]; exact Or.inr h
  have hS : va_S A s.heap s.heap [] := va_S.rf
  have hP : va_P D vwCl [(bM, .inr (7, [.ref bN, .ref bQ, .int us, .ref bS, .ref bH, .ref bP, .int up, .int ue, .int ut, .ref bT, .int um])), (bN, .inl (cyI, 225, .inl un))] s.heap := hP
  have hl := lv_entry ([.ref bM, .int x1, .int x2, .int x3, .int x4, .int x5, .int x6]) (n := 12) (Nat.le_of_ble_eq_true rfl)
  rw [lg_entry_eq]
  generalize (lg_sl ([.ref bM, .int x1, .int x2, .int x3, .int x4, .int x5, .int x6]) ++ List.replicate (12 - (lg_sl ([.ref bM, .int x1, .int x2, .int x3, .int x4, .int x5, .int x6])).length) Slot.unset).toArray = ls at hl ⊢
  have hl : lv_has ls 12 [(0, .ref bM), (1, .int x1), (2, .int x2), (3, .int x3), (4, .int x4), (5, .int x5), (6, .int x6)] := hl
  refine x_gen (fun G hG => ?_)
  have blk_9 : ∀ (n_9 : Nat) (x1 : Int32) (x2 : Int32) (x3 : Int32) (x4 : Int32) (x5 : Int32) (x6 : Int32) (x7 : Int32) (x8 : Int32) (x9 : Int32) (ue : Int32) (un : (Nat → Int32)), f_X7_runs_9 N n_9 x1 x2 x3 x4 x5 x6 x7 x8 x9 us up ue ut um un = some (r0, ue', un') → ∀ (H : Heap) (locs : List Loc) (ls : Array Slot), va_P D vwCl [(bM, .inr (7, [.ref bN, .ref bQ, .int us, .ref bS, .ref bH, .ref bP, .int up, .int ue, .int ut, .ref bT, .int um])), (bN, .inl (cyI, 225, .inl un))] H → va_D A [(bM, .inr (7, [.ref bN, .ref bQ, .int us, .ref bS, .ref bH, .ref bP, .int up, .int ue, .int ut, .ref bT, .int um])), (bN, .inl (cyI, 225, .inl un))] → va_S A s.heap H locs → lv_has ls 12 [(0, .ref bM), (1, .int x1), (2, .int x2), (3, .int x3), (4, .int x4), (5, .int x5), (6, .int x6), (7, .int x7), (8, .int x8), (9, .int x9)] → G H locs (F0 m 9 ls []) := by
    intro n_9
    induction n_9 with
    | zero => intro x1 x2 x3 x4 x5 x6 x7 x8 x9 ue un hF; exact (k_none hF).elim
    | succ n_9 ih_9 =>
      have blk_29 : ∀ (n_29 : Nat) (x1 : Int32) (x2 : Int32) (x3 : Int32) (x4 : Int32) (x5 : Int32) (x6 : Int32) (x7 : Int32) (x8 : Int32) (x9 : Int32) (x10 : Int32) (ue : Int32) (un : (Nat → Int32)), f_X7_runs_29 N (f_X7_runs_9 N n_9) n_29 x1 x2 x3 x4 x5 x6 x7 x8 x9 x10 us up ue ut um un = some (r0, ue', un') → ∀ (H : Heap) (locs : List Loc) (ls : Array Slot), va_P D vwCl [(bM, .inr (7, [.ref bN, .ref bQ, .int us, .ref bS, .ref bH, .ref bP, .int up, .int ue, .int ut, .ref bT, .int um])), (bN, .inl (cyI, 225, .inl un))] H → va_D A [(bM, .inr (7, [.ref bN, .ref bQ, .int us, .ref bS, .ref bH, .ref bP, .int up, .int ue, .int ut, .ref bT, .int um])), (bN, .inl (cyI, 225, .inl un))] → va_S A s.heap H locs → lv_has ls 12 [(0, .ref bM), (1, .int x1), (2, .int x2), (3, .int x3), (4, .int x4), (5, .int x5), (6, .int x6), (7, .int x7), (8, .int x8), (9, .int x9), (10, .int x10)] → G H locs (F0 m 29 ls []) := by
        intro n_29
        induction n_29 with
        | zero => intro x1 x2 x3 x4 x5 x6 x7 x8 x9 x10 ue un hF; exact (k_none hF).elim
        | succ n_29 ih_29 =>
          intro x1 x2 x3 x4 x5 x6 x7 x8 x9 x10 ue un hF H locs ls hP hD hS hl
          replace hF : b_X7_runs_29 N (f_X7_runs_9 N n_9) (f_X7_runs_29 N (f_X7_runs_9 N n_9) n_29) x1 x2 x3 x4 x5 x6 x7 x8 x9 x10 us up ue ut um un = some (r0, ue', un') := hF
          unfold b_X7_runs_29 at hF
          refine (hG _ _ _).2 ?_
          refine lv_iload hx hb dX7_runs_29 (lv_at hl 7 rfl) ?_
          refine lv_iload hx hb dX7_runs_31 (lv_at hl 10 rfl) ?_
          refine lv_icmp_ge (tgt := 95) hx hb dX7_runs_33 (by decide) (fun hc => ?_) (fun hc => ?_)
          · have hF := k_if_t hF hc
            obtain ⟨x9_95, hn, hF⟩ := k_let_ex hF
            refine lv_iinc (v := x9_95) (lv' := [(9, .int x9_95), (0, .ref bM), (1, .int x1), (2, .int x2), (3, .int x3), (4, .int x4), (5, .int x5), (6, .int x6), (7, .int x7), (8, .int x8), (10, .int x10)]) hx hb dX7_runs_95 hl (k := 9) rfl (by rw [hn]; rfl) (by decide) rfl (fun ls hl => ?_)
            refine lv_goto (tgt := 9) hx hb dX7_runs_98 (by decide) ?_
            exact (hG _ _ _).1 (ih_9 x1 x2 x3 x4 x5 x6 x7 x8 x9_95 ue un hF _ _ _ hP hD hS (lv_sub hl [1, 2, 3, 4, 5, 6, 7, 8, 9, 0] rfl))
          · have hF := k_if_f hF hc
            refine lv_aload_n hx hb dX7_runs_36 rfl (lv_at hl 0 rfl) ?_
            refine lv_aload_n hx hb dX7_runs_37 rfl (lv_at hl 0 rfl) ?_
            refine va_get (D := D) (ci := 7) (v := .ref bN) (C := RX7) (T := TX7) (N := 11) hx hb hts mi_X7_runs_X7 hown hK.1 hP 0 rfl rfl 0 (by decide) (hts _ mm_X7_runs_2) (fun _ h9 => h9) rfl dX7_runs_38 ?_
            refine lv_iconst (v := (4 : Int32)) hx hb dX7_runs_41 (by decide) ?_
            obtain ⟨r42, hin, hn, hF⟩ := k_ld_ex hF
            refine x_iald hx hb hK hP 1 rfl hin hn dX7_runs_42 ?_
            refine lv_aload_n hx hb dX7_runs_43 rfl (lv_at hl 0 rfl) ?_
            refine lv_iload_n hx hb dX7_runs_44 rfl (lv_at hl 1 rfl) ?_
            refine lv_iload_n hx hb dX7_runs_45 rfl (lv_at hl 2 rfl) ?_
            refine lv_iload_n hx hb dX7_runs_46 rfl (lv_at hl 3 rfl) ?_
            refine lv_iload hx hb dX7_runs_47 (lv_at hl 7 rfl) ?_
            obtain ⟨r49, hC, hF⟩ := k_c1_ex hF
            refine x_VR (As := [.int x1, .int x2, .int x3, .int x7]) (rest := [.int r42, .ref bM]) ⟨hx, hb, hml, hown, hts⟩ (c_X7_press l D cyI cyZ bM bN bQ bS bH bP bT N x1 x2 x3 x7 us up ue ut um un hC) (cwV 4 hts gX7_runs_X7_press rfl rfl rfl (by decide +kernel) ⟨Nat.le_of_ble_eq_true rfl, Nat.le_of_ble_eq_true rfl⟩) hK hP hS [0, 1] rfl 0 rfl rfl rfl rfl hl.1 rfl (Nat.le_of_ble_eq_true rfl) ⟨Nat.zero_le _, Nat.zero_le _⟩ dX7_runs_49 (fun H locs hP hS => ?_)
            refine lv_iload hx hb dX7_runs_52 (lv_at hl 4 rfl) ?_
            refine lv_iadd hx hb dX7_runs_54 ?_
            obtain ⟨r55, ue_55, hC, hF⟩ := k_c2_ex hF
            refine x_VM (As := [.int r42, .int (r49 + x4)]) (rest := []) ⟨hx, hb, hml, hown, hts⟩ (c_X7_tears l D cyI cyZ bM bN bQ bS bH bP bT H.size N r42 (r49 + x4) us up ue ut um un hC) (cwV 2 hts gX7_runs_X7_tears rfl rfl rfl (by decide +kernel) ⟨Nat.le_of_ble_eq_true rfl, Nat.le_of_ble_eq_true rfl⟩) hK hP hD hS hA [0, 1] rfl rfl rfl 0 rfl rfl rfl rfl hl.1 rfl (Nat.le_of_ble_eq_true rfl) ⟨Nat.zero_le _, Nat.zero_le _⟩ dX7_runs_55 (fun H locs hP hD hS => ?_)
            have hP : va_P D vwCl [(bM, .inr (7, [.ref bN, .ref bQ, .int us, .ref bS, .ref bH, .ref bP, .int up, .int ue_55, .int ut, .ref bT, .int um])), (bN, .inl (cyI, 225, .inl un))] H := hP
            have hD : va_D A [(bM, .inr (7, [.ref bN, .ref bQ, .int us, .ref bS, .ref bH, .ref bP, .int up, .int ue_55, .int ut, .ref bT, .int um])), (bN, .inl (cyI, 225, .inl un))] := hD
            refine lv_istore (lv' := [(11, .int r55), (0, .ref bM), (1, .int x1), (2, .int x2), (3, .int x3), (4, .int x4), (5, .int x5), (6, .int x6), (7, .int x7), (8, .int x8), (9, .int x9), (10, .int x10)]) hx hb dX7_runs_58 hl (by decide) rfl (fun ls hl => ?_)
            obtain ⟨x7_60, hn, hF⟩ := k_let_ex hF
            refine lv_iinc (v := x7_60) (lv' := [(7, .int x7_60), (11, .int r55), (0, .ref bM), (1, .int x1), (2, .int x2), (3, .int x3), (4, .int x4), (5, .int x5), (6, .int x6), (8, .int x8), (9, .int x9), (10, .int x10)]) hx hb dX7_runs_60 hl (k := 8) rfl (by rw [hn]; rfl) (by decide) rfl (fun ls hl => ?_)
            refine lv_iload hx hb dX7_runs_63 (lv_at hl 9 rfl) ?_
            refine lv_iload hx hb dX7_runs_65 (lv_at hl 1 rfl) ?_
            refine lv_if_eq (tgt := 74) hx hb dX7_runs_67 (by decide) (fun hc => ?_) (fun hc => ?_)
            · have hF := k_if_t hF hc
              refine lv_iconst (v := (0 : Int32)) hx hb dX7_runs_74 (by decide) ?_
              refine lv_iadd hx hb dX7_runs_75 ?_
              obtain ⟨x8_76, hn, hF⟩ := k_let_ex hF
              refine x_nm hn ?_
              refine lv_istore (lv' := [(8, .int x8_76), (7, .int x7_60), (11, .int r55), (0, .ref bM), (1, .int x1), (2, .int x2), (3, .int x3), (4, .int x4), (5, .int x5), (6, .int x6), (9, .int x9), (10, .int x10)]) hx hb dX7_runs_76 hl (by decide) rfl (fun ls hl => ?_)
              refine lv_iload hx hb dX7_runs_78 (lv_at hl 2 rfl) ?_
              refine lv_if_eq (tgt := 88) hx hb dX7_runs_80 (by decide) (fun hc => ?_) (fun hc => ?_)
              · have hF := k_if_t hF hc
                refine lv_iload hx hb dX7_runs_88 (lv_at hl 11 rfl) ?_
                refine lv_istore (lv' := [(10, .int x10), (8, .int x8_76), (7, .int x7_60), (11, .int r55), (0, .ref bM), (1, .int x1), (2, .int x2), (3, .int x3), (4, .int x4), (5, .int x5), (6, .int x6), (9, .int x9)]) hx hb dX7_runs_90 hl (by decide) rfl (fun ls hl => ?_)
                refine lv_goto (tgt := 29) hx hb dX7_runs_92 (by decide) ?_
                exact (hG _ _ _).1 (ih_29 x1 x2 x3 x4 x5 x6 x7_60 x8_76 x9 x10 ue_55 un hF _ _ _ hP hD hS (lv_sub hl [4, 5, 6, 7, 8, 9, 10, 2, 1, 11, 0] rfl))
              · have hF := k_if_f hF hc
                refine lv_iload hx hb dX7_runs_83 (lv_at hl 1 rfl) ?_
                refine lv_goto (tgt := 90) hx hb dX7_runs_85 (by decide) ?_
                refine lv_istore (lv' := [(10, .int x7_60), (8, .int x8_76), (7, .int x7_60), (11, .int r55), (0, .ref bM), (1, .int x1), (2, .int x2), (3, .int x3), (4, .int x4), (5, .int x5), (6, .int x6), (9, .int x9)]) hx hb dX7_runs_90 hl (by decide) rfl (fun ls hl => ?_)
                refine lv_goto (tgt := 29) hx hb dX7_runs_92 (by decide) ?_
                exact (hG _ _ _).1 (ih_29 x1 x2 x3 x4 x5 x6 x7_60 x8_76 x9 x7_60 ue_55 un hF _ _ _ hP hD hS (lv_sub hl [4, 5, 6, 7, 8, 9, 10, 2, 1, 11, 0] rfl))
            · have hF := k_if_f hF hc
              refine lv_iconst (v := (1 : Int32)) hx hb dX7_runs_70 (by decide) ?_
              refine lv_goto (tgt := 75) hx hb dX7_runs_71 (by decide) ?_
              refine lv_iadd hx hb dX7_runs_75 ?_
              obtain ⟨x8_76, hn, hF⟩ := k_let_ex hF
              refine x_nm hn ?_
              refine lv_istore (lv' := [(8, .int x8_76), (7, .int x7_60), (11, .int r55), (0, .ref bM), (1, .int x1), (2, .int x2), (3, .int x3), (4, .int x4), (5, .int x5), (6, .int x6), (9, .int x9), (10, .int x10)]) hx hb dX7_runs_76 hl (by decide) rfl (fun ls hl => ?_)
              refine lv_iload hx hb dX7_runs_78 (lv_at hl 2 rfl) ?_
              refine lv_if_eq (tgt := 88) hx hb dX7_runs_80 (by decide) (fun hc => ?_) (fun hc => ?_)
              · have hF := k_if_t hF hc
                refine lv_iload hx hb dX7_runs_88 (lv_at hl 11 rfl) ?_
                refine lv_istore (lv' := [(10, .int x10), (8, .int x8_76), (7, .int x7_60), (11, .int r55), (0, .ref bM), (1, .int x1), (2, .int x2), (3, .int x3), (4, .int x4), (5, .int x5), (6, .int x6), (9, .int x9)]) hx hb dX7_runs_90 hl (by decide) rfl (fun ls hl => ?_)
                refine lv_goto (tgt := 29) hx hb dX7_runs_92 (by decide) ?_
                exact (hG _ _ _).1 (ih_29 x1 x2 x3 x4 x5 x6 x7_60 x8_76 x9 x10 ue_55 un hF _ _ _ hP hD hS (lv_sub hl [4, 5, 6, 7, 8, 9, 10, 2, 1, 11, 0] rfl))
              · have hF := k_if_f hF hc
                refine lv_iload hx hb dX7_runs_83 (lv_at hl 1 rfl) ?_
                refine lv_goto (tgt := 90) hx hb dX7_runs_85 (by decide) ?_
                refine lv_istore (lv' := [(10, .int x7_60), (8, .int x8_76), (7, .int x7_60), (11, .int r55), (0, .ref bM), (1, .int x1), (2, .int x2), (3, .int x3), (4, .int x4), (5, .int x5), (6, .int x6), (9, .int x9)]) hx hb dX7_runs_90 hl (by decide) rfl (fun ls hl => ?_)
                refine lv_goto (tgt := 29) hx hb dX7_runs_92 (by decide) ?_
                exact (hG _ _ _).1 (ih_29 x1 x2 x3 x4 x5 x6 x7_60 x8_76 x9 x7_60 ue_55 un hF _ _ _ hP hD hS (lv_sub hl [4, 5, 6, 7, 8, 9, 10, 2, 1, 11, 0] rfl))
      intro x1 x2 x3 x4 x5 x6 x7 x8 x9 ue un hF H locs ls hP hD hS hl
      replace hF : b_X7_runs_9 N (f_X7_runs_9 N n_9) x1 x2 x3 x4 x5 x6 x7 x8 x9 us up ue ut um un = some (r0, ue', un') := hF
      unfold b_X7_runs_9 at hF
      refine (hG _ _ _).2 ?_
      refine lv_iload hx hb dX7_runs_9 (lv_at hl 9 rfl) ?_
      refine lv_iload hx hb dX7_runs_11 (lv_at hl 5 rfl) ?_
      refine lv_icmp_ge (tgt := 101) hx hb dX7_runs_13 (by decide) (fun hc => ?_) (fun hc => ?_)
      · have hF := k_if_t hF hc
        refine lv_aload_n hx hb dX7_runs_101 rfl (lv_at hl 0 rfl) ?_
        refine va_get (D := D) (ci := 7) (v := .ref bN) (C := RX7) (T := TX7) (N := 11) hx hb hts mi_X7_runs_X7 hown hK.1 hP 0 rfl rfl 0 (by decide) (hts _ mm_X7_runs_2) (fun _ h9 => h9) rfl dX7_runs_102 ?_
        refine lv_bipush (v := (6 : Int32)) hx hb dX7_runs_105 (by decide) ?_
        refine lv_dup2_11 hx hb dX7_runs_107 rfl rfl ?_
        obtain ⟨r108, hin, hn, hF⟩ := k_ld_ex hF
        refine x_iald hx hb hK hP 1 rfl hin hn dX7_runs_108 ?_
        refine lv_iload hx hb dX7_runs_109 (lv_at hl 5 rfl) ?_
        refine lv_iadd hx hb dX7_runs_111 ?_
        obtain ⟨un_112, hin, hn, hF⟩ := k_st_ex hF
        refine x_iast hx hb hK hP hD hS 1 rfl hin hn dX7_runs_112 (fun H locs hP hD hS => ?_)
        have hP : va_P D vwCl [(bM, .inr (7, [.ref bN, .ref bQ, .int us, .ref bS, .ref bH, .ref bP, .int up, .int ue, .int ut, .ref bT, .int um])), (bN, .inl (cyI, 225, .inl un_112))] H := hP
        have hD : va_D A [(bM, .inr (7, [.ref bN, .ref bQ, .int us, .ref bS, .ref bH, .ref bP, .int up, .int ue, .int ut, .ref bT, .int um])), (bN, .inl (cyI, 225, .inl un_112))] := hD
        refine lv_aload_n hx hb dX7_runs_113 rfl (lv_at hl 0 rfl) ?_
        refine va_get (D := D) (ci := 7) (v := .ref bN) (C := RX7) (T := TX7) (N := 11) hx hb hts mi_X7_runs_X7 hown hK.1 hP 0 rfl rfl 0 (by decide) (hts _ mm_X7_runs_2) (fun _ h9 => h9) rfl dX7_runs_114 ?_
        refine lv_bipush (v := (7 : Int32)) hx hb dX7_runs_117 (by decide) ?_
        refine lv_dup2_11 hx hb dX7_runs_119 rfl rfl ?_
        obtain ⟨r120, hin, hn, hF⟩ := k_ld_ex hF
        refine x_iald hx hb hK hP 1 rfl hin hn dX7_runs_120 ?_
        refine lv_iload hx hb dX7_runs_121 (lv_at hl 8 rfl) ?_
        refine lv_iadd hx hb dX7_runs_123 ?_
        obtain ⟨un_124, hin, hn, hF⟩ := k_st_ex hF
        refine x_iast hx hb hK hP hD hS 1 rfl hin hn dX7_runs_124 (fun H locs hP hD hS => ?_)
        have hP : va_P D vwCl [(bM, .inr (7, [.ref bN, .ref bQ, .int us, .ref bS, .ref bH, .ref bP, .int up, .int ue, .int ut, .ref bT, .int um])), (bN, .inl (cyI, 225, .inl un_124))] H := hP
        have hD : va_D A [(bM, .inr (7, [.ref bN, .ref bQ, .int us, .ref bS, .ref bH, .ref bP, .int up, .int ue, .int ut, .ref bT, .int um])), (bN, .inl (cyI, 225, .inl un_124))] := hD
        refine lv_aload_n hx hb dX7_runs_125 rfl (lv_at hl 0 rfl) ?_
        refine va_get (D := D) (ci := 7) (v := .ref bN) (C := RX7) (T := TX7) (N := 11) hx hb hts mi_X7_runs_X7 hown hK.1 hP 0 rfl rfl 0 (by decide) (hts _ mm_X7_runs_2) (fun _ h9 => h9) rfl dX7_runs_126 ?_
        refine lv_bipush (v := (8 : Int32)) hx hb dX7_runs_129 (by decide) ?_
        refine lv_dup2_11 hx hb dX7_runs_131 rfl rfl ?_
        obtain ⟨r132, hin, hn, hF⟩ := k_ld_ex hF
        refine x_iald hx hb hK hP 1 rfl hin hn dX7_runs_132 ?_
        refine lv_iload hx hb dX7_runs_133 (lv_at hl 7 rfl) ?_
        refine lv_iadd hx hb dX7_runs_135 ?_
        obtain ⟨un_136, hin, hn, hF⟩ := k_st_ex hF
        refine x_iast hx hb hK hP hD hS 1 rfl hin hn dX7_runs_136 (fun H locs hP hD hS => ?_)
        have hP : va_P D vwCl [(bM, .inr (7, [.ref bN, .ref bQ, .int us, .ref bS, .ref bH, .ref bP, .int up, .int ue, .int ut, .ref bT, .int um])), (bN, .inl (cyI, 225, .inl un_136))] H := hP
        have hD : va_D A [(bM, .inr (7, [.ref bN, .ref bQ, .int us, .ref bS, .ref bH, .ref bP, .int up, .int ue, .int ut, .ref bT, .int um])), (bN, .inl (cyI, 225, .inl un_136))] := hD
        refine lv_aload_n hx hb dX7_runs_137 rfl (lv_at hl 0 rfl) ?_
        refine lv_iload_n hx hb dX7_runs_138 rfl (lv_at hl 1 rfl) ?_
        refine lv_iload hx hb dX7_runs_139 (lv_at hl 7 rfl) ?_
        obtain ⟨un_141, hC, hF⟩ := k_c1_ex hF
        refine x_VV (As := [.int x1, .int x7]) (rest := []) ⟨hx, hb, hml, hown, hts⟩ (c_X7_counts l D cyI cyZ bM bN bQ bS bH bP bT H.size N x1 x7 us up ue ut um un_136 hC) (cwV 2 hts gX7_runs_X7_counts rfl rfl rfl (by decide +kernel) ⟨Nat.le_of_ble_eq_true rfl, Nat.le_of_ble_eq_true rfl⟩) hK hP hD hS hA [0, 1] rfl rfl rfl 0 rfl rfl rfl rfl hl.1 rfl (Nat.le_of_ble_eq_true rfl) ⟨Nat.zero_le _, Nat.zero_le _⟩ dX7_runs_141 (fun H locs hP hD hS => ?_)
        have hP : va_P D vwCl [(bM, .inr (7, [.ref bN, .ref bQ, .int us, .ref bS, .ref bH, .ref bP, .int up, .int ue, .int ut, .ref bT, .int um])), (bN, .inl (cyI, 225, .inl un_141))] H := hP
        have hD : va_D A [(bM, .inr (7, [.ref bN, .ref bQ, .int us, .ref bS, .ref bH, .ref bP, .int up, .int ue, .int ut, .ref bT, .int um])), (bN, .inl (cyI, 225, .inl un_141))] := hD
        refine lv_aload_n hx hb dX7_runs_144 rfl (lv_at hl 0 rfl) ?_
        refine lv_iload_n hx hb dX7_runs_145 rfl (lv_at hl 2 rfl) ?_
        refine lv_iload hx hb dX7_runs_146 (lv_at hl 7 rfl) ?_
        obtain ⟨un_148, hC, hF⟩ := k_c1_ex hF
        refine x_VV (As := [.int x2, .int x7]) (rest := []) ⟨hx, hb, hml, hown, hts⟩ (c_X7_counts l D cyI cyZ bM bN bQ bS bH bP bT H.size N x2 x7 us up ue ut um un_141 hC) (cwV 2 hts gX7_runs_X7_counts rfl rfl rfl (by decide +kernel) ⟨Nat.le_of_ble_eq_true rfl, Nat.le_of_ble_eq_true rfl⟩) hK hP hD hS hA [0, 1] rfl rfl rfl 0 rfl rfl rfl rfl hl.1 rfl (Nat.le_of_ble_eq_true rfl) ⟨Nat.zero_le _, Nat.zero_le _⟩ dX7_runs_148 (fun H locs hP hD hS => ?_)
        have hP : va_P D vwCl [(bM, .inr (7, [.ref bN, .ref bQ, .int us, .ref bS, .ref bH, .ref bP, .int up, .int ue, .int ut, .ref bT, .int um])), (bN, .inl (cyI, 225, .inl un_148))] H := hP
        have hD : va_D A [(bM, .inr (7, [.ref bN, .ref bQ, .int us, .ref bS, .ref bH, .ref bP, .int up, .int ue, .int ut, .ref bT, .int um])), (bN, .inl (cyI, 225, .inl un_148))] := hD
        refine lv_iload hx hb dX7_runs_151 (lv_at hl 8 rfl) ?_
        obtain ⟨e0, e1, e2⟩ := k_inj3 hF
        have hP9 : va_P D vwCl [(bM, .inr (7, [.ref bN, .ref bQ, .int us, .ref bS, .ref bH, .ref bP, .int up, .int ue', .int ut, .ref bT, .int um])), (bN, .inl (cyI, 225, .inl un'))] H := by rw [← e1, ← e2]; exact hP
        exact W.iret hx hb hr (fun t ht hW => ⟨⟨_, (), rfl, e0, x_ret hP9 ht⟩, hS.F ht⟩) hS.2.2 dX7_runs_153
      · have hF := k_if_f hF hc
        refine lv_aload_n hx hb dX7_runs_16 rfl (lv_at hl 0 rfl) ?_
        refine lv_bipush (v := (-6 : Int32)) hx hb dX7_runs_17 (by decide) ?_
        refine va_put (D := D) (ci := 7) (v := .int (-6 : Int32)) (ty := .int) (C := RX7) (T := TX7) (N := 11) hx hb hts mi_X7_runs_X7 tyX7 tyX7_ok nmX7 hown hK.1 hP hD hS 0 rfl rfl 7 (by decide) (hts _ mm_X7_runs_1) (fun _ h9 => h9) rfl (by decide +kernel) rfl rfl (Nat.le_of_ble_eq_true rfl) dX7_runs_19 (fun H locs hP hD hS => ?_)
        have hP : va_P D vwCl [(bM, .inr (7, [.ref bN, .ref bQ, .int us, .ref bS, .ref bH, .ref bP, .int up, .int (-6 : Int32), .int ut, .ref bT, .int um])), (bN, .inl (cyI, 225, .inl un))] H := hP
        have hD : va_D A [(bM, .inr (7, [.ref bN, .ref bQ, .int us, .ref bS, .ref bH, .ref bP, .int up, .int (-6 : Int32), .int ut, .ref bT, .int um])), (bN, .inl (cyI, 225, .inl un))] := hD
        refine lv_iload hx hb dX7_runs_22 (lv_at hl 7 rfl) ?_
        refine lv_iload hx hb dX7_runs_24 (lv_at hl 6 rfl) ?_
        refine lv_iadd hx hb dX7_runs_26 ?_
        obtain ⟨x10_27, hn, hF⟩ := k_let_ex hF
        refine x_nm hn ?_
        refine lv_istore (lv' := [(10, .int x10_27), (0, .ref bM), (1, .int x1), (2, .int x2), (3, .int x3), (4, .int x4), (5, .int x5), (6, .int x6), (7, .int x7), (8, .int x8), (9, .int x9)]) hx hb dX7_runs_27 hl (by decide) rfl (fun ls hl => ?_)
        exact (hG _ _ _).1 (blk_29 N x1 x2 x3 x4 x5 x6 x7 x8 x9 x10_27 (-6 : Int32) un hF _ _ _ hP hD hS (lv_sub hl [1, 2, 3, 4, 5, 6, 7, 8, 9, 10, 0] rfl))
  refine (hG _ _ _).2 ?_
  unfold p_X7_runs at hF
  refine lv_iconst (v := (0 : Int32)) hx hb dX7_runs_0 (by decide) ?_
  refine lv_istore (lv' := [(7, .int (0 : Int32)), (0, .ref bM), (1, .int x1), (2, .int x2), (3, .int x3), (4, .int x4), (5, .int x5), (6, .int x6)]) hx hb dX7_runs_1 hl (by decide) rfl (fun ls hl => ?_)
  refine lv_iconst (v := (0 : Int32)) hx hb dX7_runs_3 (by decide) ?_
  refine lv_istore (lv' := [(8, .int (0 : Int32)), (7, .int (0 : Int32)), (0, .ref bM), (1, .int x1), (2, .int x2), (3, .int x3), (4, .int x4), (5, .int x5), (6, .int x6)]) hx hb dX7_runs_4 hl (by decide) rfl (fun ls hl => ?_)
  refine lv_iconst (v := (0 : Int32)) hx hb dX7_runs_6 (by decide) ?_
  refine lv_istore (lv' := [(9, .int (0 : Int32)), (8, .int (0 : Int32)), (7, .int (0 : Int32)), (0, .ref bM), (1, .int x1), (2, .int x2), (3, .int x3), (4, .int x4), (5, .int x5), (6, .int x6)]) hx hb dX7_runs_7 hl (by decide) rfl (fun ls hl => ?_)
  exact (hG _ _ _).1 (blk_9 N x1 x2 x3 x4 x5 x6 (0 : Int32) (0 : Int32) (0 : Int32) ue un hF _ _ _ hP hD hS (lv_sub hl [3, 4, 5, 6, 7, 8, 9, 2, 1, 0] rfl))
set_option maxHeartbeats 4000000 in
set_option maxRecDepth 100000 in
theorem c_X7_run (l : Launch) (D : va_G) (cyI cyZ : ClassId) (bM bN bQ bS bH bP bT : Nat) (sz : Nat) (N : Nat) (x1 : Int32) (x2 : Int32) (x3 : Int32) (x4 : Int32) (x5 : Int32) (x6 : Int32) (us : Int32) (up : Int32) (ue : Int32) (ut : Int32) (um : Int32) (un : (Nat → Int32)) (uq : (Nat → Int32)) {r0 : Int32} {us' : Int32} {ue' : Int32} {un' : (Nat → Int32)} {uq' : (Nat → Int32)} (hF : p_X7_run N x1 x2 x3 x4 x5 x6 us up ue ut um un uq = some (r0, us', ue', un', uq')) : Met l yX7_run wsX7_run ({ frames := 4, cells := 0, slots := 0, locals := 102 }) (x_PM D cyI cyZ [.ref bM, .int x1, .int x2, .int x3, .int x4, .int x5, .int x6] [(bM, .inr (7, [.ref bN, .ref bQ, .int us, .ref bS, .ref bH, .ref bP, .int up, .int ue, .int ut, .ref bT, .int um])), (bN, .inl (cyI, 225, .inl un)), (bQ, .inl (cyI, 1350, .inl uq))] sz) (x_QM D r0 (va_A [(bM, .inr (7, [.ref bN, .ref bQ, .int us, .ref bS, .ref bH, .ref bP, .int up, .int ue, .int ut, .ref bT, .int um])), (bN, .inl (cyI, 225, .inl un)), (bQ, .inl (cyI, 1350, .inl uq))] sz) [(bM, .inr (7, [.ref bN, .ref bQ, .int us', .ref bS, .ref bH, .ref bP, .int up, .int ue', .int ut, .ref bT, .int um])), (bN, .inl (cyI, 225, .inl un')), (bQ, .inl (cyI, 1350, .inl uq'))]) 0 0 (va_A [(bM, .inr (7, [.ref bN, .ref bQ, .int us, .ref bS, .ref bH, .ref bP, .int up, .int ue, .int ut, .ref bT, .int um])), (bN, .inl (cyI, 225, .inl un)), (bQ, .inl (cyI, 1350, .inl uq))] sz) := by
  refine Met.ofW (cc := cX7_run) (maxL := 8) (ret := (some .int)) (by decide) rfl ?_
  intro p e s m args below meth c s₁ B hml hv
  obtain ⟨rfl, hsz, hP, hK, hD0⟩ := hv
  have hx := B.exec
  have hb := B.bytes
  have hr := B.returns
  have hts := atoms_spec (ws := wsX7_run) B.pre
  have hown : s.vm.findClass RX7 = some m.cls := findClass_of_methodNamed B.named
  have hlocks := B.notSynchronized
  subst hsz
  have hD := hD0.self (sz := s.heap.size)
  generalize hAe : va_A [(bM, .inr (7, [.ref bN, .ref bQ, .int us, .ref bS, .ref bH, .ref bP, .int up, .int ue, .int ut, .ref bT, .int um])), (bN, .inl (cyI, 225, .inl un)), (bQ, .inl (cyI, 1350, .inl uq))] s.heap.size = A at hD ⊢
  have hA : ∀ q : Nat, s.heap.size ≤ q → A q := fun q h => by rw [← hAe]; exact Or.inr h
  have hS : va_S A s.heap s.heap [] := va_S.rf
  have hP : va_P D vwCl [(bM, .inr (7, [.ref bN, .ref bQ, .int us, .ref bS, .ref bH, .ref bP, .int up, .int ue, .int ut, .ref bT, .int um])), (bN, .inl (cyI, 225, .inl un)), (bQ, .inl (cyI, 1350, .inl uq))] s.heap := hP
  have hl := lv_entry ([.ref bM, .int x1, .int x2, .int x3, .int x4, .int x5, .int x6]) (n := 8) (Nat.le_of_ble_eq_true rfl)
  rw [lg_entry_eq]
  generalize (lg_sl ([.ref bM, .int x1, .int x2, .int x3, .int x4, .int x5, .int x6]) ++ List.replicate (8 - (lg_sl ([.ref bM, .int x1, .int x2, .int x3, .int x4, .int x5, .int x6])).length) Slot.unset).toArray = ls at hl ⊢
  have hl : lv_has ls 8 [(0, .ref bM), (1, .int x1), (2, .int x2), (3, .int x3), (4, .int x4), (5, .int x5), (6, .int x6)] := hl
  unfold p_X7_run at hF
  refine lv_aload_n hx hb dX7_run_0 rfl (lv_at hl 0 rfl) ?_
  refine lv_iload_n hx hb dX7_run_1 rfl (lv_at hl 1 rfl) ?_
  refine lv_iload_n hx hb dX7_run_2 rfl (lv_at hl 2 rfl) ?_
  refine lv_iload_n hx hb dX7_run_3 rfl (lv_at hl 3 rfl) ?_
  refine lv_iload hx hb dX7_run_4 (lv_at hl 4 rfl) ?_
  refine lv_iload hx hb dX7_run_6 (lv_at hl 5 rfl) ?_
  refine lv_iload hx hb dX7_run_8 (lv_at hl 6 rfl) ?_
  obtain ⟨r10, hC, hF⟩ := k_c1_ex hF
  refine x_VR (As := [.int x1, .int x2, .int x3, .int x4, .int x5, .int x6]) (rest := []) ⟨hx, hb, hml, hown, hts⟩ (c_X7_runError l D cyI cyZ bM bN bQ bS bH bP bT N x1 x2 x3 x4 x5 x6 us up ue ut um un hC) (cwV 6 hts gX7_run_X7_runError rfl rfl rfl (by decide +kernel) ⟨Nat.le_of_ble_eq_true rfl, Nat.le_of_ble_eq_true rfl⟩) hK hP hS [0, 1] rfl 0 rfl rfl rfl rfl hl.1 rfl (Nat.le_of_ble_eq_true rfl) ⟨Nat.zero_le _, Nat.zero_le _⟩ dX7_run_10 (fun H locs hP hS => ?_)
  refine lv_istore (lv' := [(7, .int r10), (0, .ref bM), (1, .int x1), (2, .int x2), (3, .int x3), (4, .int x4), (5, .int x5), (6, .int x6)]) hx hb dX7_run_13 hl (by decide) rfl (fun ls hl => ?_)
  refine lv_iload hx hb dX7_run_15 (lv_at hl 0 rfl) ?_
  refine lv_if_ge (tgt := 23) hx hb dX7_run_17 (by decide) (fun hc => ?_) (fun hc => ?_)
  · have hF := k_if_t hF hc
    refine lv_aload_n hx hb dX7_run_23 rfl (lv_at hl 1 rfl) ?_
    obtain ⟨us_24, uq_24, hC, hF⟩ := k_c2_ex hF
    refine x_VV (As := []) (rest := []) ⟨hx, hb, hml, hown, hts⟩ (c_X7_records l D cyI cyZ bM bN bQ bS bH bP bT H.size N us up ue ut um un uq hC) (cwV 0 hts gX7_run_X7_records rfl rfl rfl (by decide +kernel) ⟨Nat.le_of_ble_eq_true rfl, Nat.le_of_ble_eq_true rfl⟩) hK hP hD hS hA [0, 1, 2] rfl rfl rfl 0 rfl rfl rfl rfl hl.1 rfl (Nat.le_of_ble_eq_true rfl) ⟨Nat.zero_le _, Nat.zero_le _⟩ dX7_run_24 (fun H locs hP hD hS => ?_)
    have hP : va_P D vwCl [(bM, .inr (7, [.ref bN, .ref bQ, .int us_24, .ref bS, .ref bH, .ref bP, .int up, .int ue, .int ut, .ref bT, .int um])), (bN, .inl (cyI, 225, .inl un)), (bQ, .inl (cyI, 1350, .inl uq_24))] H := hP
    have hD : va_D A [(bM, .inr (7, [.ref bN, .ref bQ, .int us_24, .ref bS, .ref bH, .ref bP, .int up, .int ue, .int ut, .ref bT, .int um])), (bN, .inl (cyI, 225, .inl un)), (bQ, .inl (cyI, 1350, .inl uq_24))] := hD
    refine lv_aload_n hx hb dX7_run_27 rfl (lv_at hl 1 rfl) ?_
    refine lv_iload_n hx hb dX7_run_28 rfl (lv_at hl 2 rfl) ?_
    refine lv_iload_n hx hb dX7_run_29 rfl (lv_at hl 3 rfl) ?_
    refine lv_iload_n hx hb dX7_run_30 rfl (lv_at hl 4 rfl) ?_
    refine lv_iload hx hb dX7_run_31 (lv_at hl 5 rfl) ?_
    refine lv_iload hx hb dX7_run_33 (lv_at hl 6 rfl) ?_
    refine lv_iload hx hb dX7_run_35 (lv_at hl 7 rfl) ?_
    obtain ⟨r37, ue_37, un_37, hC, hF⟩ := k_c3_ex hF
    refine x_VM (As := [.int x1, .int x2, .int x3, .int x4, .int x5, .int x6]) (rest := []) ⟨hx, hb, hml, hown, hts⟩ (c_X7_runs l D cyI cyZ bM bN bQ bS bH bP bT H.size N x1 x2 x3 x4 x5 x6 us_24 up ue ut um un hC) (cwV 6 hts gX7_run_X7_runs rfl rfl rfl (by decide +kernel) ⟨Nat.le_of_ble_eq_true rfl, Nat.le_of_ble_eq_true rfl⟩) hK hP hD hS hA [0, 1] rfl rfl rfl 0 rfl rfl rfl rfl hl.1 rfl (Nat.le_of_ble_eq_true rfl) ⟨Nat.zero_le _, Nat.zero_le _⟩ dX7_run_37 (fun H locs hP hD hS => ?_)
    have hP : va_P D vwCl [(bM, .inr (7, [.ref bN, .ref bQ, .int us_24, .ref bS, .ref bH, .ref bP, .int up, .int ue_37, .int ut, .ref bT, .int um])), (bN, .inl (cyI, 225, .inl un_37)), (bQ, .inl (cyI, 1350, .inl uq_24))] H := hP
    have hD : va_D A [(bM, .inr (7, [.ref bN, .ref bQ, .int us_24, .ref bS, .ref bH, .ref bP, .int up, .int ue_37, .int ut, .ref bT, .int um])), (bN, .inl (cyI, 225, .inl un_37)), (bQ, .inl (cyI, 1350, .inl uq_24))] := hD
    obtain ⟨e0, e1, e2, e3, e4⟩ := k_inj5 hF
    have hP9 : va_P D vwCl [(bM, .inr (7, [.ref bN, .ref bQ, .int us', .ref bS, .ref bH, .ref bP, .int up, .int ue', .int ut, .ref bT, .int um])), (bN, .inl (cyI, 225, .inl un')), (bQ, .inl (cyI, 1350, .inl uq'))] H := by rw [← e1, ← e2, ← e3, ← e4]; exact hP
    exact W.iret hx hb hr (fun t ht hW => ⟨⟨_, (), rfl, e0, x_ret hP9 ht⟩, hS.F ht⟩) hS.2.2 dX7_run_40
  · have hF := k_if_f hF hc
    refine lv_iload hx hb dX7_run_20 (lv_at hl 0 rfl) ?_
    obtain ⟨e0, e1, e2, e3, e4⟩ := k_inj5 hF
    have hP9 : va_P D vwCl [(bM, .inr (7, [.ref bN, .ref bQ, .int us', .ref bS, .ref bH, .ref bP, .int up, .int ue', .int ut, .ref bT, .int um])), (bN, .inl (cyI, 225, .inl un')), (bQ, .inl (cyI, 1350, .inl uq'))] H := by rw [← e1, ← e2, ← e3, ← e4]; exact hP
    exact W.iret hx hb hr (fun t ht hW => ⟨⟨_, (), rfl, e0, x_ret hP9 ht⟩, hS.F ht⟩) hS.2.2 dX7_run_22
set_option maxHeartbeats 4000000 in
set_option maxRecDepth 100000 in
theorem c_X7_teeth (l : Launch) (D : va_G) (cyI cyZ : ClassId) (bM bN bQ bS bH bP bT : Nat) (N : Nat) (x1 : Int32) (x2 : Int32) (us : Int32) (up : Int32) (ue : Int32) (ut : Int32) (um : Int32) (un : (Nat → Int32)) {r0 : Int32}  (hF : p_X7_teeth N x1 x2 us up ue ut um un = some (r0)) : Met l yX7_teeth wsX7_teeth ({ frames := 1, cells := 0, slots := 0, locals := 22 }) (x_PR D cyI cyZ [.ref bM, .int x1, .int x2] [(bM, .inr (7, [.ref bN, .ref bQ, .int us, .ref bS, .ref bH, .ref bP, .int up, .int ue, .int ut, .ref bT, .int um])), (bN, .inl (cyI, 225, .inl un))]) (x_QR r0) 0 0 (fun _ => False) := by
  refine Met.ofW (cc := cX7_teeth) (maxL := 5) (ret := (some .int)) (by decide) rfl ?_
  intro p e s m args below meth c s₁ B hml hv
  obtain ⟨rfl, hP, hK⟩ := hv
  have hx := B.exec
  have hb := B.bytes
  have hr := B.returns
  have hts := atoms_spec (ws := wsX7_teeth) B.pre
  have hown : s.vm.findClass RX7 = some m.cls := findClass_of_methodNamed B.named
  have hlocks := B.notSynchronized
  have hS : va_S (fun _ => False) s.heap s.heap [] := va_S.rf
  have hP : va_P D vwCl [(bM, .inr (7, [.ref bN, .ref bQ, .int us, .ref bS, .ref bH, .ref bP, .int up, .int ue, .int ut, .ref bT, .int um])), (bN, .inl (cyI, 225, .inl un))] s.heap := hP
  have hl := lv_entry ([.ref bM, .int x1, .int x2]) (n := 5) (Nat.le_of_ble_eq_true rfl)
  rw [lg_entry_eq]
  generalize (lg_sl ([.ref bM, .int x1, .int x2]) ++ List.replicate (5 - (lg_sl ([.ref bM, .int x1, .int x2])).length) Slot.unset).toArray = ls at hl ⊢
  have hl : lv_has ls 5 [(0, .ref bM), (1, .int x1), (2, .int x2)] := hl
  refine x_gen (fun G hG => ?_)
  have blk_5 : ∀ (n_5 : Nat) (x1 : Int32) (x2 : Int32) (x3 : Int32) (x4 : Int32), f_X7_teeth_5 N n_5 x1 x2 x3 x4 us up ue ut um un = some (r0) → ∀ (H : Heap) (locs : List Loc) (ls : Array Slot), va_P D vwCl [(bM, .inr (7, [.ref bN, .ref bQ, .int us, .ref bS, .ref bH, .ref bP, .int up, .int ue, .int ut, .ref bT, .int um])), (bN, .inl (cyI, 225, .inl un))] H → va_S (fun _ => False) s.heap H locs → lv_has ls 5 [(0, .ref bM), (1, .int x1), (2, .int x2), (3, .int x3), (4, .int x4)] → G H locs (F0 m 5 ls []) := by
    intro n_5
    induction n_5 with
    | zero => intro x1 x2 x3 x4 hF; exact (k_none hF).elim
    | succ n_5 ih_5 =>
      intro x1 x2 x3 x4 hF H locs ls hP hS hl
      replace hF : b_X7_teeth_5 N (f_X7_teeth_5 N n_5) x1 x2 x3 x4 us up ue ut um un = some (r0) := hF
      unfold b_X7_teeth_5 at hF
      refine (hG _ _ _).2 ?_
      refine lv_iload hx hb dX7_teeth_5 (lv_at hl 4 rfl) ?_
      refine lv_aload_n hx hb dX7_teeth_7 rfl (lv_at hl 0 rfl) ?_
      refine lv_iload_n hx hb dX7_teeth_8 rfl (lv_at hl 1 rfl) ?_
      refine lv_iconst (v := (0 : Int32)) hx hb dX7_teeth_9 (by decide) ?_
      obtain ⟨r10, hC, hF⟩ := k_c1_ex hF
      refine x_VR (As := [.int x1, .int (0 : Int32)]) (rest := [.int x4]) ⟨hx, hb, hml, hown, hts⟩ (c_X7_ofR l D cyI cyZ bM bN bQ bS bH bP bT N x1 (0 : Int32) us up ue ut um un hC) (cwV 2 hts gX7_teeth_X7_ofR rfl rfl rfl (by decide +kernel) ⟨Nat.le_of_ble_eq_true rfl, Nat.le_of_ble_eq_true rfl⟩) hK hP hS [0, 1] rfl 0 rfl rfl rfl rfl hl.1 rfl (Nat.le_of_ble_eq_true rfl) ⟨Nat.zero_le _, Nat.zero_le _⟩ dX7_teeth_10 (fun H locs hP hS => ?_)
      refine lv_icmp_ge (tgt := 47) hx hb dX7_teeth_13 (by decide) (fun hc => ?_) (fun hc => ?_)
      · have hF := k_if_t hF hc
        refine lv_iload_n hx hb dX7_teeth_47 rfl (lv_at hl 3 rfl) ?_
        exact W.iret hx hb hr (fun t ht hW => ⟨⟨_, (), rfl, Option.some.inj hF, trivial⟩, hS.F ht⟩) hS.2.2 dX7_teeth_48
      · have hF := k_if_f hF hc
        refine lv_iload_n hx hb dX7_teeth_16 rfl (lv_at hl 3 rfl) ?_
        refine lv_iload_n hx hb dX7_teeth_17 rfl (lv_at hl 2 rfl) ?_
        refine lv_aload_n hx hb dX7_teeth_18 rfl (lv_at hl 0 rfl) ?_
        refine lv_iload_n hx hb dX7_teeth_19 rfl (lv_at hl 1 rfl) ?_
        refine lv_iconst (v := (3 : Int32)) hx hb dX7_teeth_20 (by decide) ?_
        refine lv_iload hx hb dX7_teeth_21 (lv_at hl 4 rfl) ?_
        refine lv_iadd hx hb dX7_teeth_23 ?_
        obtain ⟨r24, hC, hF⟩ := k_c1_ex hF
        refine x_VR (As := [.int x1, .int ((3 : Int32) + x4)]) (rest := [.int x2, .int x3]) ⟨hx, hb, hml, hown, hts⟩ (c_X7_ofR l D cyI cyZ bM bN bQ bS bH bP bT N x1 ((3 : Int32) + x4) us up ue ut um un hC) (cwV 2 hts gX7_teeth_X7_ofR rfl rfl rfl (by decide +kernel) ⟨Nat.le_of_ble_eq_true rfl, Nat.le_of_ble_eq_true rfl⟩) hK hP hS [0, 1] rfl 0 rfl rfl rfl rfl hl.1 rfl (Nat.le_of_ble_eq_true rfl) ⟨Nat.zero_le _, Nat.zero_le _⟩ dX7_teeth_24 (fun H locs hP hS => ?_)
        refine lv_imul hx hb dX7_teeth_27 ?_
        refine lv_if_le (tgt := 38) hx hb dX7_teeth_28 (by decide) (fun hc => ?_) (fun hc => ?_)
        · have hF := k_if_t hF hc
          refine lv_iconst (v := (0 : Int32)) hx hb dX7_teeth_38 (by decide) ?_
          refine lv_ior hx hb dX7_teeth_39 ?_
          obtain ⟨x3_40, hn, hF⟩ := k_let_ex hF
          refine x_nm hn ?_
          refine lv_istore_n (lv' := [(3, .int x3_40), (0, .ref bM), (1, .int x1), (2, .int x2), (4, .int x4)]) hx hb dX7_teeth_40 rfl hl (by decide) rfl (fun ls hl => ?_)
          obtain ⟨x4_41, hn, hF⟩ := k_let_ex hF
          refine lv_iinc (v := x4_41) (lv' := [(4, .int x4_41), (3, .int x3_40), (0, .ref bM), (1, .int x1), (2, .int x2)]) hx hb dX7_teeth_41 hl (k := 4) rfl (by rw [hn]; rfl) (by decide) rfl (fun ls hl => ?_)
          refine lv_goto (tgt := 5) hx hb dX7_teeth_44 (by decide) ?_
          exact (hG _ _ _).1 (ih_5 x1 x2 x3_40 x4_41 hF _ _ _ hP hS (lv_sub hl [2, 3, 4, 1, 0] rfl))
        · have hF := k_if_f hF hc
          refine lv_iconst (v := (1 : Int32)) hx hb dX7_teeth_31 (by decide) ?_
          refine lv_iload hx hb dX7_teeth_32 (lv_at hl 4 rfl) ?_
          refine lv_ishl hx hb dX7_teeth_34 ?_
          refine lv_goto (tgt := 39) hx hb dX7_teeth_35 (by decide) ?_
          refine lv_ior hx hb dX7_teeth_39 ?_
          obtain ⟨x3_40, hn, hF⟩ := k_let_ex hF
          refine x_nm hn ?_
          refine lv_istore_n (lv' := [(3, .int x3_40), (0, .ref bM), (1, .int x1), (2, .int x2), (4, .int x4)]) hx hb dX7_teeth_40 rfl hl (by decide) rfl (fun ls hl => ?_)
          obtain ⟨x4_41, hn, hF⟩ := k_let_ex hF
          refine lv_iinc (v := x4_41) (lv' := [(4, .int x4_41), (3, .int x3_40), (0, .ref bM), (1, .int x1), (2, .int x2)]) hx hb dX7_teeth_41 hl (k := 4) rfl (by rw [hn]; rfl) (by decide) rfl (fun ls hl => ?_)
          refine lv_goto (tgt := 5) hx hb dX7_teeth_44 (by decide) ?_
          exact (hG _ _ _).1 (ih_5 x1 x2 x3_40 x4_41 hF _ _ _ hP hS (lv_sub hl [2, 3, 4, 1, 0] rfl))
  refine (hG _ _ _).2 ?_
  unfold p_X7_teeth at hF
  refine lv_iconst (v := (0 : Int32)) hx hb dX7_teeth_0 (by decide) ?_
  refine lv_istore_n (lv' := [(3, .int (0 : Int32)), (0, .ref bM), (1, .int x1), (2, .int x2)]) hx hb dX7_teeth_1 rfl hl (by decide) rfl (fun ls hl => ?_)
  refine lv_iconst (v := (0 : Int32)) hx hb dX7_teeth_2 (by decide) ?_
  refine lv_istore (lv' := [(4, .int (0 : Int32)), (3, .int (0 : Int32)), (0, .ref bM), (1, .int x1), (2, .int x2)]) hx hb dX7_teeth_3 hl (by decide) rfl (fun ls hl => ?_)
  exact (hG _ _ _).1 (blk_5 N x1 x2 (0 : Int32) (0 : Int32) hF _ _ _ hP hS (lv_sub hl [2, 3, 4, 1, 0] rfl))
set_option maxHeartbeats 4000000 in
set_option maxRecDepth 100000 in
theorem c_X7_height (l : Launch) (D : va_G) (cyI cyZ : ClassId) (bM bN bQ bS bH bP bT : Nat) (N : Nat) (x1 : Int32) (x2 : Int32) (us : Int32) (up : Int32) (ue : Int32) (ut : Int32) (um : Int32) (un : (Nat → Int32)) {r0 : Int32}  (hF : p_X7_height N x1 x2 us up ue ut um un = some (r0)) : Met l yX7_height wsX7_height ({ frames := 1, cells := 0, slots := 0, locals := 22 }) (x_PR D cyI cyZ [.ref bM, .int x1, .int x2] [(bM, .inr (7, [.ref bN, .ref bQ, .int us, .ref bS, .ref bH, .ref bP, .int up, .int ue, .int ut, .ref bT, .int um])), (bN, .inl (cyI, 225, .inl un))]) (x_QR r0) 0 0 (fun _ => False) := by
  refine Met.ofW (cc := cX7_height) (maxL := 6) (ret := (some .int)) (by decide) rfl ?_
  intro p e s m args below meth c s₁ B hml hv
  obtain ⟨rfl, hP, hK⟩ := hv
  have hx := B.exec
  have hb := B.bytes
  have hr := B.returns
  have hts := atoms_spec (ws := wsX7_height) B.pre
  have hown : s.vm.findClass RX7 = some m.cls := findClass_of_methodNamed B.named
  have hlocks := B.notSynchronized
  have hS : va_S (fun _ => False) s.heap s.heap [] := va_S.rf
  have hP : va_P D vwCl [(bM, .inr (7, [.ref bN, .ref bQ, .int us, .ref bS, .ref bH, .ref bP, .int up, .int ue, .int ut, .ref bT, .int um])), (bN, .inl (cyI, 225, .inl un))] s.heap := hP
  have hl := lv_entry ([.ref bM, .int x1, .int x2]) (n := 6) (Nat.le_of_ble_eq_true rfl)
  rw [lg_entry_eq]
  generalize (lg_sl ([.ref bM, .int x1, .int x2]) ++ List.replicate (6 - (lg_sl ([.ref bM, .int x1, .int x2])).length) Slot.unset).toArray = ls at hl ⊢
  have hl : lv_has ls 6 [(0, .ref bM), (1, .int x1), (2, .int x2)] := hl
  refine x_gen (fun G hG => ?_)
  have blk_10 : ∀ (n_10 : Nat) (x1 : Int32) (x2 : Int32) (x3 : Int32) (x4 : Int32), f_X7_height_10 N n_10 x1 x2 x3 x4 us up ue ut um un = some (r0) → ∀ (H : Heap) (locs : List Loc) (ls : Array Slot), va_P D vwCl [(bM, .inr (7, [.ref bN, .ref bQ, .int us, .ref bS, .ref bH, .ref bP, .int up, .int ue, .int ut, .ref bT, .int um])), (bN, .inl (cyI, 225, .inl un))] H → va_S (fun _ => False) s.heap H locs → lv_has ls 6 [(0, .ref bM), (1, .int x1), (2, .int x2), (3, .int x3), (4, .int x4)] → G H locs (F0 m 10 ls []) := by
    intro n_10
    induction n_10 with
    | zero => intro x1 x2 x3 x4 hF; exact (k_none hF).elim
    | succ n_10 ih_10 =>
      intro x1 x2 x3 x4 hF H locs ls hP hS hl
      replace hF : b_X7_height_10 N (f_X7_height_10 N n_10) x1 x2 x3 x4 us up ue ut um un = some (r0) := hF
      unfold b_X7_height_10 at hF
      refine (hG _ _ _).2 ?_
      refine lv_iload hx hb dX7_height_10 (lv_at hl 4 rfl) ?_
      refine lv_aload_n hx hb dX7_height_12 rfl (lv_at hl 0 rfl) ?_
      refine lv_iload_n hx hb dX7_height_13 rfl (lv_at hl 1 rfl) ?_
      refine lv_iconst (v := (0 : Int32)) hx hb dX7_height_14 (by decide) ?_
      obtain ⟨r15, hC, hF⟩ := k_c1_ex hF
      refine x_VR (As := [.int x1, .int (0 : Int32)]) (rest := [.int x4]) ⟨hx, hb, hml, hown, hts⟩ (c_X7_ofR l D cyI cyZ bM bN bQ bS bH bP bT N x1 (0 : Int32) us up ue ut um un hC) (cwV 2 hts gX7_height_X7_ofR rfl rfl rfl (by decide +kernel) ⟨Nat.le_of_ble_eq_true rfl, Nat.le_of_ble_eq_true rfl⟩) hK hP hS [0, 1] rfl 0 rfl rfl rfl rfl hl.1 rfl (Nat.le_of_ble_eq_true rfl) ⟨Nat.zero_le _, Nat.zero_le _⟩ dX7_height_15 (fun H locs hP hS => ?_)
      refine lv_icmp_ge (tgt := 55) hx hb dX7_height_18 (by decide) (fun hc => ?_) (fun hc => ?_)
      · have hF := k_if_t hF hc
        refine lv_iload_n hx hb dX7_height_55 rfl (lv_at hl 3 rfl) ?_
        exact W.iret hx hb hr (fun t ht hW => ⟨⟨_, (), rfl, Option.some.inj hF, trivial⟩, hS.F ht⟩) hS.2.2 dX7_height_56
      · have hF := k_if_f hF hc
        refine lv_aload_n hx hb dX7_height_21 rfl (lv_at hl 0 rfl) ?_
        refine lv_iload_n hx hb dX7_height_22 rfl (lv_at hl 1 rfl) ?_
        refine lv_iconst (v := (3 : Int32)) hx hb dX7_height_23 (by decide) ?_
        refine lv_iload hx hb dX7_height_24 (lv_at hl 4 rfl) ?_
        refine lv_iadd hx hb dX7_height_26 ?_
        obtain ⟨r27, hC, hF⟩ := k_c1_ex hF
        refine x_VR (As := [.int x1, .int ((3 : Int32) + x4)]) (rest := []) ⟨hx, hb, hml, hown, hts⟩ (c_X7_ofR l D cyI cyZ bM bN bQ bS bH bP bT N x1 ((3 : Int32) + x4) us up ue ut um un hC) (cwV 2 hts gX7_height_X7_ofR rfl rfl rfl (by decide +kernel) ⟨Nat.le_of_ble_eq_true rfl, Nat.le_of_ble_eq_true rfl⟩) hK hP hS [0, 1] rfl 0 rfl rfl rfl rfl hl.1 rfl (Nat.le_of_ble_eq_true rfl) ⟨Nat.zero_le _, Nat.zero_le _⟩ dX7_height_27 (fun H locs hP hS => ?_)
        refine lv_istore (lv' := [(5, .int r27), (0, .ref bM), (1, .int x1), (2, .int x2), (3, .int x3), (4, .int x4)]) hx hb dX7_height_30 hl (by decide) rfl (fun ls hl => ?_)
        refine lv_iload_n hx hb dX7_height_32 rfl (lv_at hl 3 rfl) ?_
        refine lv_iload hx hb dX7_height_33 (lv_at hl 0 rfl) ?_
        refine lv_imul hx hb dX7_height_35 ?_
        refine lv_iload_n hx hb dX7_height_36 rfl (lv_at hl 3 rfl) ?_
        refine lv_iload_n hx hb dX7_height_37 rfl (lv_at hl 4 rfl) ?_
        refine lv_imul hx hb dX7_height_38 ?_
        refine lv_icmp_le (tgt := 47) hx hb dX7_height_39 (by decide) (fun hc => ?_) (fun hc => ?_)
        · have hF := k_if_t hF hc
          refine lv_iload_n hx hb dX7_height_47 rfl (lv_at hl 4 rfl) ?_
          refine lv_istore_n (lv' := [(3, .int x3), (5, .int r27), (0, .ref bM), (1, .int x1), (2, .int x2), (4, .int x4)]) hx hb dX7_height_48 rfl hl (by decide) rfl (fun ls hl => ?_)
          obtain ⟨x4_49, hn, hF⟩ := k_let_ex hF
          refine lv_iinc (v := x4_49) (lv' := [(4, .int x4_49), (3, .int x3), (5, .int r27), (0, .ref bM), (1, .int x1), (2, .int x2)]) hx hb dX7_height_49 hl (k := 5) rfl (by rw [hn]; rfl) (by decide) rfl (fun ls hl => ?_)
          refine lv_goto (tgt := 10) hx hb dX7_height_52 (by decide) ?_
          exact (hG _ _ _).1 (ih_10 x1 x2 x3 x4_49 hF _ _ _ hP hS (lv_sub hl [3, 4, 5, 1, 0] rfl))
        · have hF := k_if_f hF hc
          refine lv_iload hx hb dX7_height_42 (lv_at hl 0 rfl) ?_
          refine lv_goto (tgt := 48) hx hb dX7_height_44 (by decide) ?_
          refine lv_istore_n (lv' := [(3, .int r27), (5, .int r27), (0, .ref bM), (1, .int x1), (2, .int x2), (4, .int x4)]) hx hb dX7_height_48 rfl hl (by decide) rfl (fun ls hl => ?_)
          obtain ⟨x4_49, hn, hF⟩ := k_let_ex hF
          refine lv_iinc (v := x4_49) (lv' := [(4, .int x4_49), (3, .int r27), (5, .int r27), (0, .ref bM), (1, .int x1), (2, .int x2)]) hx hb dX7_height_49 hl (k := 5) rfl (by rw [hn]; rfl) (by decide) rfl (fun ls hl => ?_)
          refine lv_goto (tgt := 10) hx hb dX7_height_52 (by decide) ?_
          exact (hG _ _ _).1 (ih_10 x1 x2 r27 x4_49 hF _ _ _ hP hS (lv_sub hl [3, 4, 5, 1, 0] rfl))
  refine (hG _ _ _).2 ?_
  unfold p_X7_height at hF
  refine lv_aload_n hx hb dX7_height_0 rfl (lv_at hl 0 rfl) ?_
  refine lv_iload_n hx hb dX7_height_1 rfl (lv_at hl 1 rfl) ?_
  refine lv_iconst (v := (3 : Int32)) hx hb dX7_height_2 (by decide) ?_
  obtain ⟨r3, hC, hF⟩ := k_c1_ex hF
  refine x_VR (As := [.int x1, .int (3 : Int32)]) (rest := []) ⟨hx, hb, hml, hown, hts⟩ (c_X7_ofR l D cyI cyZ bM bN bQ bS bH bP bT N x1 (3 : Int32) us up ue ut um un hC) (cwV 2 hts gX7_height_X7_ofR rfl rfl rfl (by decide +kernel) ⟨Nat.le_of_ble_eq_true rfl, Nat.le_of_ble_eq_true rfl⟩) hK hP hS [0, 1] rfl 0 rfl rfl rfl rfl hl.1 rfl (Nat.le_of_ble_eq_true rfl) ⟨Nat.zero_le _, Nat.zero_le _⟩ dX7_height_3 (fun H locs hP hS => ?_)
  refine lv_istore_n (lv' := [(3, .int r3), (0, .ref bM), (1, .int x1), (2, .int x2)]) hx hb dX7_height_6 rfl hl (by decide) rfl (fun ls hl => ?_)
  refine lv_iconst (v := (1 : Int32)) hx hb dX7_height_7 (by decide) ?_
  refine lv_istore (lv' := [(4, .int (1 : Int32)), (3, .int r3), (0, .ref bM), (1, .int x1), (2, .int x2)]) hx hb dX7_height_8 hl (by decide) rfl (fun ls hl => ?_)
  exact (hG _ _ _).1 (blk_10 N x1 x2 r3 (1 : Int32) hF _ _ _ hP hS (lv_sub hl [2, 3, 4, 1, 0] rfl))
set_option maxHeartbeats 4000000 in
set_option maxRecDepth 100000 in
theorem c_X7_of (l : Launch) (D : va_G) (cyI cyZ : ClassId) (bM bN bQ bS bH bP bT : Nat) (N : Nat) (x1 : Int32) (x2 : Int32) (us : Int32) (up : Int32) (ue : Int32) (ut : Int32) (um : Int32) (un : (Nat → Int32)) {r0 : Int32}  (hF : p_X7_of N x1 x2 us up ue ut um un = some (r0)) : Met l yX7_of wsX7_of ({ frames := 2, cells := 0, slots := 0, locals := 47 }) (x_PR D cyI cyZ [.ref bM, .int x1, .int x2] [(bM, .inr (7, [.ref bN, .ref bQ, .int us, .ref bS, .ref bH, .ref bP, .int up, .int ue, .int ut, .ref bT, .int um])), (bN, .inl (cyI, 225, .inl un))]) (x_QR r0) 0 0 (fun _ => False) := by
  refine Met.ofW (cc := cX7_of) (maxL := 3) (ret := (some .int)) (by decide) rfl ?_
  intro p e s m args below meth c s₁ B hml hv
  obtain ⟨rfl, hP, hK⟩ := hv
  have hx := B.exec
  have hb := B.bytes
  have hr := B.returns
  have hts := atoms_spec (ws := wsX7_of) B.pre
  have hown : s.vm.findClass RX7 = some m.cls := findClass_of_methodNamed B.named
  have hlocks := B.notSynchronized
  have hS : va_S (fun _ => False) s.heap s.heap [] := va_S.rf
  have hP : va_P D vwCl [(bM, .inr (7, [.ref bN, .ref bQ, .int us, .ref bS, .ref bH, .ref bP, .int up, .int ue, .int ut, .ref bT, .int um])), (bN, .inl (cyI, 225, .inl un))] s.heap := hP
  have hl := lv_entry ([.ref bM, .int x1, .int x2]) (n := 3) (Nat.le_of_ble_eq_true rfl)
  rw [lg_entry_eq]
  generalize (lg_sl ([.ref bM, .int x1, .int x2]) ++ List.replicate (3 - (lg_sl ([.ref bM, .int x1, .int x2])).length) Slot.unset).toArray = ls at hl ⊢
  have hl : lv_has ls 3 [(0, .ref bM), (1, .int x1), (2, .int x2)] := hl
  unfold p_X7_of at hF
  refine lv_aload_n hx hb dX7_of_0 rfl (lv_at hl 0 rfl) ?_
  refine lv_iload_n hx hb dX7_of_1 rfl (lv_at hl 1 rfl) ?_
  obtain ⟨r2, hC, hF⟩ := k_c1_ex hF
  refine x_VR (As := [.int x1]) (rest := []) ⟨hx, hb, hml, hown, hts⟩ (c_X7_isRoller l D cyI cyZ bM bN bQ bS bH bP bT N x1 us up ue ut um un hC) (cwV 1 hts gX7_of_X7_isRoller rfl rfl rfl (by decide +kernel) ⟨Nat.le_of_ble_eq_true rfl, Nat.le_of_ble_eq_true rfl⟩) hK hP hS [0, 1] rfl 0 rfl rfl rfl rfl hl.1 rfl (Nat.le_of_ble_eq_true rfl) ⟨Nat.zero_le _, Nat.zero_le _⟩ dX7_of_2 (fun H locs hP hS => ?_)
  refine lv_if_ne (tgt := 10) hx hb dX7_of_5 (by decide) (fun hc => ?_) (fun hc => ?_)
  · have hF := k_if_f hF hc
    refine lv_iload_n hx hb dX7_of_10 rfl (lv_at hl 2 rfl) ?_
    by_cases h0 : x2 = (0 : Int32)
    · have hF := k_if_t hF h0
      refine lv_tableIn (tgt := 52) (off := 41) hx hb dX7_of_11 (by rw [h0]; decide) (by rw [h0]; decide) (by rw [h0]; decide) (by decide) ?_
      refine lv_aload_n hx hb dX7_of_52 rfl (lv_at hl 0 rfl) ?_
      refine lv_iload_n hx hb dX7_of_53 rfl (lv_at hl 1 rfl) ?_
      refine lv_iconst (v := (0 : Int32)) hx hb dX7_of_54 (by decide) ?_
      obtain ⟨r55, hC, hF⟩ := k_c1_ex hF
      refine x_VR (As := [.int x1, .int (0 : Int32)]) (rest := []) ⟨hx, hb, hml, hown, hts⟩ (c_X7_ofR l D cyI cyZ bM bN bQ bS bH bP bT N x1 (0 : Int32) us up ue ut um un hC) (cwV 2 hts gX7_of_X7_ofR rfl rfl rfl (by decide +kernel) ⟨Nat.le_of_ble_eq_true rfl, Nat.le_of_ble_eq_true rfl⟩) hK hP hS [0, 1] rfl 0 rfl rfl rfl rfl hl.1 rfl (Nat.le_of_ble_eq_true rfl) ⟨Nat.zero_le _, Nat.zero_le _⟩ dX7_of_55 (fun H locs hP hS => ?_)
      exact W.iret hx hb hr (fun t ht hW => ⟨⟨_, (), rfl, Option.some.inj hF, trivial⟩, hS.F ht⟩) hS.2.2 dX7_of_58
    · have hF := k_if_f hF h0
      by_cases h1 : x2 = (1 : Int32)
      · have hF := k_if_t hF h1
        refine lv_tableIn (tgt := 59) (off := 48) hx hb dX7_of_11 (by rw [h1]; decide) (by rw [h1]; decide) (by rw [h1]; decide) (by decide) ?_
        refine lv_aload_n hx hb dX7_of_59 rfl (lv_at hl 0 rfl) ?_
        refine lv_iload_n hx hb dX7_of_60 rfl (lv_at hl 1 rfl) ?_
        refine lv_iconst (v := (1 : Int32)) hx hb dX7_of_61 (by decide) ?_
        obtain ⟨r62, hC, hF⟩ := k_c1_ex hF
        refine x_VR (As := [.int x1, .int (1 : Int32)]) (rest := []) ⟨hx, hb, hml, hown, hts⟩ (c_X7_teeth l D cyI cyZ bM bN bQ bS bH bP bT N x1 (1 : Int32) us up ue ut um un hC) (cwV 2 hts gX7_of_X7_teeth rfl rfl rfl (by decide +kernel) ⟨Nat.le_of_ble_eq_true rfl, Nat.le_of_ble_eq_true rfl⟩) hK hP hS [0, 1] rfl 0 rfl rfl rfl rfl hl.1 rfl (Nat.le_of_ble_eq_true rfl) ⟨Nat.zero_le _, Nat.zero_le _⟩ dX7_of_62 (fun H locs hP hS => ?_)
        exact W.iret hx hb hr (fun t ht hW => ⟨⟨_, (), rfl, Option.some.inj hF, trivial⟩, hS.F ht⟩) hS.2.2 dX7_of_65
      · have hF := k_if_f hF h1
        by_cases h2 : x2 = (2 : Int32)
        · have hF := k_if_t hF h2
          refine lv_tableIn (tgt := 66) (off := 55) hx hb dX7_of_11 (by rw [h2]; decide) (by rw [h2]; decide) (by rw [h2]; decide) (by decide) ?_
          refine lv_aload_n hx hb dX7_of_66 rfl (lv_at hl 0 rfl) ?_
          refine lv_iload_n hx hb dX7_of_67 rfl (lv_at hl 1 rfl) ?_
          refine lv_iconst (v := (-1 : Int32)) hx hb dX7_of_68 (by decide) ?_
          obtain ⟨r69, hC, hF⟩ := k_c1_ex hF
          refine x_VR (As := [.int x1, .int (-1 : Int32)]) (rest := []) ⟨hx, hb, hml, hown, hts⟩ (c_X7_teeth l D cyI cyZ bM bN bQ bS bH bP bT N x1 (-1 : Int32) us up ue ut um un hC) (cwV 2 hts gX7_of_X7_teeth rfl rfl rfl (by decide +kernel) ⟨Nat.le_of_ble_eq_true rfl, Nat.le_of_ble_eq_true rfl⟩) hK hP hS [0, 1] rfl 0 rfl rfl rfl rfl hl.1 rfl (Nat.le_of_ble_eq_true rfl) ⟨Nat.zero_le _, Nat.zero_le _⟩ dX7_of_69 (fun H locs hP hS => ?_)
          exact W.iret hx hb hr (fun t ht hW => ⟨⟨_, (), rfl, Option.some.inj hF, trivial⟩, hS.F ht⟩) hS.2.2 dX7_of_72
        · have hF := k_if_f hF h2
          by_cases h3 : x2 = (3 : Int32)
          · have hF := k_if_t hF h3
            refine lv_tableIn (tgt := 73) (off := 62) hx hb dX7_of_11 (by rw [h3]; decide) (by rw [h3]; decide) (by rw [h3]; decide) (by decide) ?_
            refine lv_aload_n hx hb dX7_of_73 rfl (lv_at hl 0 rfl) ?_
            refine lv_iload_n hx hb dX7_of_74 rfl (lv_at hl 1 rfl) ?_
            refine lv_iconst (v := (1 : Int32)) hx hb dX7_of_75 (by decide) ?_
            obtain ⟨r76, hC, hF⟩ := k_c1_ex hF
            refine x_VR (As := [.int x1, .int (1 : Int32)]) (rest := []) ⟨hx, hb, hml, hown, hts⟩ (c_X7_height l D cyI cyZ bM bN bQ bS bH bP bT N x1 (1 : Int32) us up ue ut um un hC) (cwV 2 hts gX7_of_X7_height rfl rfl rfl (by decide +kernel) ⟨Nat.le_of_ble_eq_true rfl, Nat.le_of_ble_eq_true rfl⟩) hK hP hS [0, 1] rfl 0 rfl rfl rfl rfl hl.1 rfl (Nat.le_of_ble_eq_true rfl) ⟨Nat.zero_le _, Nat.zero_le _⟩ dX7_of_76 (fun H locs hP hS => ?_)
            refine lv_bipush (v := (9 : Int32)) hx hb dX7_of_79 (by decide) ?_
            refine lv_iadd hx hb dX7_of_81 ?_
            exact W.iret hx hb hr (fun t ht hW => ⟨⟨_, (), rfl, Option.some.inj hF, trivial⟩, hS.F ht⟩) hS.2.2 dX7_of_82
          · have hF := k_if_f hF h3
            by_cases h4 : x2 = (4 : Int32)
            · have hF := k_if_t hF h4
              refine lv_tableIn (tgt := 83) (off := 72) hx hb dX7_of_11 (by rw [h4]; decide) (by rw [h4]; decide) (by rw [h4]; decide) (by decide) ?_
              refine lv_aload_n hx hb dX7_of_83 rfl (lv_at hl 0 rfl) ?_
              refine lv_iload_n hx hb dX7_of_84 rfl (lv_at hl 1 rfl) ?_
              refine lv_iconst (v := (-1 : Int32)) hx hb dX7_of_85 (by decide) ?_
              obtain ⟨r86, hC, hF⟩ := k_c1_ex hF
              refine x_VR (As := [.int x1, .int (-1 : Int32)]) (rest := []) ⟨hx, hb, hml, hown, hts⟩ (c_X7_height l D cyI cyZ bM bN bQ bS bH bP bT N x1 (-1 : Int32) us up ue ut um un hC) (cwV 2 hts gX7_of_X7_height rfl rfl rfl (by decide +kernel) ⟨Nat.le_of_ble_eq_true rfl, Nat.le_of_ble_eq_true rfl⟩) hK hP hS [0, 1] rfl 0 rfl rfl rfl rfl hl.1 rfl (Nat.le_of_ble_eq_true rfl) ⟨Nat.zero_le _, Nat.zero_le _⟩ dX7_of_86 (fun H locs hP hS => ?_)
              refine lv_bipush (v := (9 : Int32)) hx hb dX7_of_89 (by decide) ?_
              refine lv_iadd hx hb dX7_of_91 ?_
              exact W.iret hx hb hr (fun t ht hW => ⟨⟨_, (), rfl, Option.some.inj hF, trivial⟩, hS.F ht⟩) hS.2.2 dX7_of_92
            · have hF := k_if_f hF h4
              by_cases h5 : x2 = (5 : Int32)
              · have hF := k_if_t hF h5
                refine lv_tableIn (tgt := 93) (off := 82) hx hb dX7_of_11 (by rw [h5]; decide) (by rw [h5]; decide) (by rw [h5]; decide) (by decide) ?_
                refine lv_aload_n hx hb dX7_of_93 rfl (lv_at hl 0 rfl) ?_
                refine lv_iload_n hx hb dX7_of_94 rfl (lv_at hl 1 rfl) ?_
                refine lv_iconst (v := (1 : Int32)) hx hb dX7_of_95 (by decide) ?_
                obtain ⟨r96, hC, hF⟩ := k_c1_ex hF
                refine x_VR (As := [.int x1, .int (1 : Int32)]) (rest := []) ⟨hx, hb, hml, hown, hts⟩ (c_X7_ofR l D cyI cyZ bM bN bQ bS bH bP bT N x1 (1 : Int32) us up ue ut um un hC) (cwV 2 hts gX7_of_X7_ofR rfl rfl rfl (by decide +kernel) ⟨Nat.le_of_ble_eq_true rfl, Nat.le_of_ble_eq_true rfl⟩) hK hP hS [0, 1] rfl 0 rfl rfl rfl rfl hl.1 rfl (Nat.le_of_ble_eq_true rfl) ⟨Nat.zero_le _, Nat.zero_le _⟩ dX7_of_96 (fun H locs hP hS => ?_)
                exact W.iret hx hb hr (fun t ht hW => ⟨⟨_, (), rfl, Option.some.inj hF, trivial⟩, hS.F ht⟩) hS.2.2 dX7_of_99
              · have hF := k_if_f hF h5
                by_cases h6 : x2 = (6 : Int32)
                · have hF := k_if_t hF h6
                  refine lv_tableIn (tgt := 100) (off := 89) hx hb dX7_of_11 (by rw [h6]; decide) (by rw [h6]; decide) (by rw [h6]; decide) (by decide) ?_
                  refine lv_aload_n hx hb dX7_of_100 rfl (lv_at hl 0 rfl) ?_
                  refine lv_iload_n hx hb dX7_of_101 rfl (lv_at hl 1 rfl) ?_
                  refine lv_iconst (v := (2 : Int32)) hx hb dX7_of_102 (by decide) ?_
                  obtain ⟨r103, hC, hF⟩ := k_c1_ex hF
                  refine x_VR (As := [.int x1, .int (2 : Int32)]) (rest := []) ⟨hx, hb, hml, hown, hts⟩ (c_X7_ofR l D cyI cyZ bM bN bQ bS bH bP bT N x1 (2 : Int32) us up ue ut um un hC) (cwV 2 hts gX7_of_X7_ofR rfl rfl rfl (by decide +kernel) ⟨Nat.le_of_ble_eq_true rfl, Nat.le_of_ble_eq_true rfl⟩) hK hP hS [0, 1] rfl 0 rfl rfl rfl rfl hl.1 rfl (Nat.le_of_ble_eq_true rfl) ⟨Nat.zero_le _, Nat.zero_le _⟩ dX7_of_103 (fun H locs hP hS => ?_)
                  exact W.iret hx hb hr (fun t ht hW => ⟨⟨_, (), rfl, Option.some.inj hF, trivial⟩, hS.F ht⟩) hS.2.2 dX7_of_106
                · have hF := k_if_f hF h6
                  have q0 := lv_neT (k := (0 : Int32)) (a := 0) h0 (by decide)
                  have q1 := lv_neT (k := (1 : Int32)) (a := 1) h1 (by decide)
                  have q2 := lv_neT (k := (2 : Int32)) (a := 2) h2 (by decide)
                  have q3 := lv_neT (k := (3 : Int32)) (a := 3) h3 (by decide)
                  have q4 := lv_neT (k := (4 : Int32)) (a := 4) h4 (by decide)
                  have q5 := lv_neT (k := (5 : Int32)) (a := 5) h5 (by decide)
                  have q6 := lv_neT (k := (6 : Int32)) (a := 6) h6 (by decide)
                  refine lv_tableOut (tgt := 107) hx hb dX7_of_11 (by omega) (by decide) ?_
                  refine lv_bipush (v := (-2 : Int32)) hx hb dX7_of_107 (by decide) ?_
                  exact W.iret hx hb hr (fun t ht hW => ⟨⟨_, (), rfl, Option.some.inj hF, trivial⟩, hS.F ht⟩) hS.2.2 dX7_of_109
  · have hF := k_if_t hF hc
    refine lv_iconst (v := (-1 : Int32)) hx hb dX7_of_8 (by decide) ?_
    exact W.iret hx hb hr (fun t ht hW => ⟨⟨_, (), rfl, Option.some.inj hF, trivial⟩, hS.F ht⟩) hS.2.2 dX7_of_9
set_option maxHeartbeats 4000000 in
set_option maxRecDepth 100000 in
theorem c_X7_tooth (l : Launch) (D : va_G) (cyI cyZ : ClassId) (bM bN bQ bS bH bP bT : Nat) (N : Nat) (x1 : Int32) (x2 : Int32) (us : Int32) (up : Int32) (ue : Int32) (ut : Int32) (um : Int32) (un : (Nat → Int32)) {r0 : Int32}  (hF : p_X7_tooth N x1 x2 us up ue ut um un = some (r0)) : Met l yX7_tooth wsX7_tooth ({ frames := 3, cells := 0, slots := 0, locals := 65 }) (x_PR D cyI cyZ [.ref bM, .int x1, .int x2] [(bM, .inr (7, [.ref bN, .ref bQ, .int us, .ref bS, .ref bH, .ref bP, .int up, .int ue, .int ut, .ref bT, .int um])), (bN, .inl (cyI, 225, .inl un))]) (x_QR r0) 0 0 (fun _ => False) := by
  refine Met.ofW (cc := cX7_tooth) (maxL := 3) (ret := (some .int)) (by decide) rfl ?_
  intro p e s m args below meth c s₁ B hml hv
  obtain ⟨rfl, hP, hK⟩ := hv
  have hx := B.exec
  have hb := B.bytes
  have hr := B.returns
  have hts := atoms_spec (ws := wsX7_tooth) B.pre
  have hown : s.vm.findClass RX7 = some m.cls := findClass_of_methodNamed B.named
  have hlocks := B.notSynchronized
  have hS : va_S (fun _ => False) s.heap s.heap [] := va_S.rf
  have hP : va_P D vwCl [(bM, .inr (7, [.ref bN, .ref bQ, .int us, .ref bS, .ref bH, .ref bP, .int up, .int ue, .int ut, .ref bT, .int um])), (bN, .inl (cyI, 225, .inl un))] s.heap := hP
  have hl := lv_entry ([.ref bM, .int x1, .int x2]) (n := 3) (Nat.le_of_ble_eq_true rfl)
  rw [lg_entry_eq]
  generalize (lg_sl ([.ref bM, .int x1, .int x2]) ++ List.replicate (3 - (lg_sl ([.ref bM, .int x1, .int x2])).length) Slot.unset).toArray = ls at hl ⊢
  have hl : lv_has ls 3 [(0, .ref bM), (1, .int x1), (2, .int x2)] := hl
  unfold p_X7_tooth at hF
  refine lv_aload_n hx hb dX7_tooth_0 rfl (lv_at hl 0 rfl) ?_
  refine lv_iload_n hx hb dX7_tooth_1 rfl (lv_at hl 1 rfl) ?_
  refine lv_iload_n hx hb dX7_tooth_2 rfl (lv_at hl 2 rfl) ?_
  obtain ⟨r3, hC, hF⟩ := k_c1_ex hF
  refine x_VR (As := [.int x1, .int x2]) (rest := []) ⟨hx, hb, hml, hown, hts⟩ (c_X7_isTooth l D cyI cyZ bM bN bQ bS bH bP bT N x1 x2 us up ue ut um un hC) (cwV 2 hts gX7_tooth_X7_isTooth rfl rfl rfl (by decide +kernel) ⟨Nat.le_of_ble_eq_true rfl, Nat.le_of_ble_eq_true rfl⟩) hK hP hS [0, 1] rfl 0 rfl rfl rfl rfl hl.1 rfl (Nat.le_of_ble_eq_true rfl) ⟨Nat.zero_le _, Nat.zero_le _⟩ dX7_tooth_3 (fun H locs hP hS => ?_)
  refine lv_if_eq (tgt := 23) hx hb dX7_tooth_6 (by decide) (fun hc => ?_) (fun hc => ?_)
  · have hF := k_if_t hF hc
    refine lv_iconst (v := (-1 : Int32)) hx hb dX7_tooth_23 (by decide) ?_
    exact W.iret hx hb hr (fun t ht hW => ⟨⟨_, (), rfl, Option.some.inj hF, trivial⟩, hS.F ht⟩) hS.2.2 dX7_tooth_24
  · have hF := k_if_f hF hc
    refine lv_aload_n hx hb dX7_tooth_9 rfl (lv_at hl 0 rfl) ?_
    refine lv_iload_n hx hb dX7_tooth_10 rfl (lv_at hl 1 rfl) ?_
    refine lv_iconst (v := (3 : Int32)) hx hb dX7_tooth_11 (by decide) ?_
    refine lv_iload_n hx hb dX7_tooth_12 rfl (lv_at hl 2 rfl) ?_
    refine lv_iadd hx hb dX7_tooth_13 ?_
    obtain ⟨r14, hC, hF⟩ := k_c1_ex hF
    refine x_VR (As := [.int x1, .int ((3 : Int32) + x2)]) (rest := []) ⟨hx, hb, hml, hown, hts⟩ (c_X7_ofR l D cyI cyZ bM bN bQ bS bH bP bT N x1 ((3 : Int32) + x2) us up ue ut um un hC) (cwV 2 hts gX7_tooth_X7_ofR rfl rfl rfl (by decide +kernel) ⟨Nat.le_of_ble_eq_true rfl, Nat.le_of_ble_eq_true rfl⟩) hK hP hS [0, 1] rfl 0 rfl rfl rfl rfl hl.1 rfl (Nat.le_of_ble_eq_true rfl) ⟨Nat.zero_le _, Nat.zero_le _⟩ dX7_tooth_14 (fun H locs hP hS => ?_)
    refine lv_bipush (v := (9 : Int32)) hx hb dX7_tooth_17 (by decide) ?_
    refine lv_iadd hx hb dX7_tooth_19 ?_
    refine lv_goto (tgt := 24) hx hb dX7_tooth_20 (by decide) ?_
    exact W.iret hx hb hr (fun t ht hW => ⟨⟨_, (), rfl, Option.some.inj hF, trivial⟩, hS.F ht⟩) hS.2.2 dX7_tooth_24
theorem mm_X7_count_1 : Cond.fieldLink RX7 7 "RollerMeshModel" "now" "[I" ∈ wsX7_count := List.mem_of_getElem? (i := 1) rfl
theorem mm_X7_count_2 : Cond.fieldLink RX7 115 "RollerMeshModel" "padded" "I" ∈ wsX7_count := List.mem_of_getElem? (i := 2) rfl
theorem mm_X7_count_3 : Cond.fieldLink RX7 29 "RollerMeshModel" "states" "I" ∈ wsX7_count := List.mem_of_getElem? (i := 3) rfl
theorem mi_X7_count_X7 : ∀ w ∈ wsX70, w ∈ wsX7_count := fun _ h => List.mem_cons_of_mem _ (List.mem_append_right _ h)
set_option maxHeartbeats 4000000 in
set_option maxRecDepth 100000 in
theorem c_X7_count (l : Launch) (D : va_G) (cyI cyZ : ClassId) (bM bN bQ bS bH bP bT : Nat) (N : Nat) (x1 : Int32) (us : Int32) (up : Int32) (ue : Int32) (ut : Int32) (um : Int32) (un : (Nat → Int32)) {r0 : Int32}  (hF : p_X7_count N x1 us up ue ut um un = some (r0)) : Met l yX7_count wsX7_count ({ frames := 0, cells := 0, slots := 0, locals := 0 }) (x_PR D cyI cyZ [.ref bM, .int x1] [(bM, .inr (7, [.ref bN, .ref bQ, .int us, .ref bS, .ref bH, .ref bP, .int up, .int ue, .int ut, .ref bT, .int um])), (bN, .inl (cyI, 225, .inl un))]) (x_QR r0) 0 0 (fun _ => False) := by
  refine Met.ofW (cc := cX7_count) (maxL := 2) (ret := (some .int)) (by decide) rfl ?_
  intro p e s m args below meth c s₁ B hml hv
  obtain ⟨rfl, hP, hK⟩ := hv
  have hx := B.exec
  have hb := B.bytes
  have hr := B.returns
  have hts := atoms_spec (ws := wsX7_count) B.pre
  have hown : s.vm.findClass RX7 = some m.cls := findClass_of_methodNamed B.named
  have hlocks := B.notSynchronized
  have hS : va_S (fun _ => False) s.heap s.heap [] := va_S.rf
  have hP : va_P D vwCl [(bM, .inr (7, [.ref bN, .ref bQ, .int us, .ref bS, .ref bH, .ref bP, .int up, .int ue, .int ut, .ref bT, .int um])), (bN, .inl (cyI, 225, .inl un))] s.heap := hP
  have hl := lv_entry ([.ref bM, .int x1]) (n := 2) (Nat.le_of_ble_eq_true rfl)
  rw [lg_entry_eq]
  generalize (lg_sl ([.ref bM, .int x1]) ++ List.replicate (2 - (lg_sl ([.ref bM, .int x1])).length) Slot.unset).toArray = ls at hl ⊢
  have hl : lv_has ls 2 [(0, .ref bM), (1, .int x1)] := hl
  refine x_gen (fun G hG => ?_)
  have blk_60 : ∀ (x1 : Int32), b_X7_count_60 N x1 us up ue ut um un = some (r0) → ∀ (H : Heap) (locs : List Loc) (ls : Array Slot), va_P D vwCl [(bM, .inr (7, [.ref bN, .ref bQ, .int us, .ref bS, .ref bH, .ref bP, .int up, .int ue, .int ut, .ref bT, .int um])), (bN, .inl (cyI, 225, .inl un))] H → va_S (fun _ => False) s.heap H locs → lv_has ls 2 [(0, .ref bM), (1, .int x1)] → G H locs (F0 m 60 ls []) := by
    intro x1 hF H locs ls hP hS hl
    unfold b_X7_count_60 at hF
    refine (hG _ _ _).2 ?_
    refine lv_aload_n hx hb dX7_count_60 rfl (lv_at hl 0 rfl) ?_
    refine va_get (D := D) (ci := 7) (v := .ref bN) (C := RX7) (T := TX7) (N := 11) hx hb hts mi_X7_count_X7 hown hK.1 hP 0 rfl rfl 0 (by decide) (hts _ mm_X7_count_1) (fun _ h9 => h9) rfl dX7_count_61 ?_
    refine lv_iconst (v := (3 : Int32)) hx hb dX7_count_64 (by decide) ?_
    refine lv_iload_n hx hb dX7_count_65 rfl (lv_at hl 1 rfl) ?_
    refine lv_iadd hx hb dX7_count_66 ?_
    obtain ⟨r67, hin, hn, hF⟩ := k_ld_ex hF
    refine x_iald hx hb hK hP 1 rfl hin hn dX7_count_67 ?_
    exact W.iret hx hb hr (fun t ht hW => ⟨⟨_, (), rfl, Option.some.inj hF, trivial⟩, hS.F ht⟩) hS.2.2 dX7_count_68
  refine (hG _ _ _).2 ?_
  unfold p_X7_count at hF
  refine lv_iload_n hx hb dX7_count_0 rfl (lv_at hl 1 rfl) ?_
  by_cases h0 : x1 = (0 : Int32)
  · have hF := k_if_t hF h0
    refine lv_tableIn (tgt := 60) (off := 59) hx hb dX7_count_1 (by rw [h0]; decide) (by rw [h0]; decide) (by rw [h0]; decide) (by decide) ?_
    exact (hG _ _ _).1 (blk_60 x1 hF _ _ _ hP hS (lv_sub hl [0, 1] rfl))
  · have hF := k_if_f hF h0
    by_cases h1 : x1 = (1 : Int32)
    · have hF := k_if_t hF h1
      refine lv_tableIn (tgt := 60) (off := 59) hx hb dX7_count_1 (by rw [h1]; decide) (by rw [h1]; decide) (by rw [h1]; decide) (by decide) ?_
      exact (hG _ _ _).1 (blk_60 x1 hF _ _ _ hP hS (lv_sub hl [0, 1] rfl))
    · have hF := k_if_f hF h1
      by_cases h2 : x1 = (2 : Int32)
      · have hF := k_if_t hF h2
        refine lv_tableIn (tgt := 60) (off := 59) hx hb dX7_count_1 (by rw [h2]; decide) (by rw [h2]; decide) (by rw [h2]; decide) (by decide) ?_
        exact (hG _ _ _).1 (blk_60 x1 hF _ _ _ hP hS (lv_sub hl [0, 1] rfl))
      · have hF := k_if_f hF h2
        by_cases h3 : x1 = (3 : Int32)
        · have hF := k_if_t hF h3
          refine lv_tableIn (tgt := 60) (off := 59) hx hb dX7_count_1 (by rw [h3]; decide) (by rw [h3]; decide) (by rw [h3]; decide) (by decide) ?_
          exact (hG _ _ _).1 (blk_60 x1 hF _ _ _ hP hS (lv_sub hl [0, 1] rfl))
        · have hF := k_if_f hF h3
          by_cases h4 : x1 = (4 : Int32)
          · have hF := k_if_t hF h4
            refine lv_tableIn (tgt := 60) (off := 59) hx hb dX7_count_1 (by rw [h4]; decide) (by rw [h4]; decide) (by rw [h4]; decide) (by decide) ?_
            exact (hG _ _ _).1 (blk_60 x1 hF _ _ _ hP hS (lv_sub hl [0, 1] rfl))
          · have hF := k_if_f hF h4
            by_cases h5 : x1 = (5 : Int32)
            · have hF := k_if_t hF h5
              refine lv_tableIn (tgt := 60) (off := 59) hx hb dX7_count_1 (by rw [h5]; decide) (by rw [h5]; decide) (by rw [h5]; decide) (by decide) ?_
              exact (hG _ _ _).1 (blk_60 x1 hF _ _ _ hP hS (lv_sub hl [0, 1] rfl))
            · have hF := k_if_f hF h5
              by_cases h6 : x1 = (6 : Int32)
              · have hF := k_if_t hF h6
                refine lv_tableIn (tgt := 69) (off := 68) hx hb dX7_count_1 (by rw [h6]; decide) (by rw [h6]; decide) (by rw [h6]; decide) (by decide) ?_
                refine lv_aload_n hx hb dX7_count_69 rfl (lv_at hl 0 rfl) ?_
                refine va_get (D := D) (ci := 7) (v := .ref bN) (C := RX7) (T := TX7) (N := 11) hx hb hts mi_X7_count_X7 hown hK.1 hP 0 rfl rfl 0 (by decide) (hts _ mm_X7_count_1) (fun _ h9 => h9) rfl dX7_count_70 ?_
                refine lv_iconst (v := (0 : Int32)) hx hb dX7_count_73 (by decide) ?_
                refine lv_iload_n hx hb dX7_count_74 rfl (lv_at hl 1 rfl) ?_
                refine lv_iadd hx hb dX7_count_75 ?_
                refine lv_bipush (v := (6 : Int32)) hx hb dX7_count_76 (by decide) ?_
                refine lv_isub hx hb dX7_count_78 ?_
                obtain ⟨r79, hin, hn, hF⟩ := k_ld_ex hF
                refine x_iald hx hb hK hP 1 rfl hin hn dX7_count_79 ?_
                exact W.iret hx hb hr (fun t ht hW => ⟨⟨_, (), rfl, Option.some.inj hF, trivial⟩, hS.F ht⟩) hS.2.2 dX7_count_80
              · have hF := k_if_f hF h6
                by_cases h7 : x1 = (7 : Int32)
                · have hF := k_if_t hF h7
                  refine lv_tableIn (tgt := 69) (off := 68) hx hb dX7_count_1 (by rw [h7]; decide) (by rw [h7]; decide) (by rw [h7]; decide) (by decide) ?_
                  refine lv_aload_n hx hb dX7_count_69 rfl (lv_at hl 0 rfl) ?_
                  refine va_get (D := D) (ci := 7) (v := .ref bN) (C := RX7) (T := TX7) (N := 11) hx hb hts mi_X7_count_X7 hown hK.1 hP 0 rfl rfl 0 (by decide) (hts _ mm_X7_count_1) (fun _ h9 => h9) rfl dX7_count_70 ?_
                  refine lv_iconst (v := (0 : Int32)) hx hb dX7_count_73 (by decide) ?_
                  refine lv_iload_n hx hb dX7_count_74 rfl (lv_at hl 1 rfl) ?_
                  refine lv_iadd hx hb dX7_count_75 ?_
                  refine lv_bipush (v := (6 : Int32)) hx hb dX7_count_76 (by decide) ?_
                  refine lv_isub hx hb dX7_count_78 ?_
                  obtain ⟨r79, hin, hn, hF⟩ := k_ld_ex hF
                  refine x_iald hx hb hK hP 1 rfl hin hn dX7_count_79 ?_
                  exact W.iret hx hb hr (fun t ht hW => ⟨⟨_, (), rfl, Option.some.inj hF, trivial⟩, hS.F ht⟩) hS.2.2 dX7_count_80
                · have hF := k_if_f hF h7
                  by_cases h8 : x1 = (8 : Int32)
                  · have hF := k_if_t hF h8
                    refine lv_tableIn (tgt := 69) (off := 68) hx hb dX7_count_1 (by rw [h8]; decide) (by rw [h8]; decide) (by rw [h8]; decide) (by decide) ?_
                    refine lv_aload_n hx hb dX7_count_69 rfl (lv_at hl 0 rfl) ?_
                    refine va_get (D := D) (ci := 7) (v := .ref bN) (C := RX7) (T := TX7) (N := 11) hx hb hts mi_X7_count_X7 hown hK.1 hP 0 rfl rfl 0 (by decide) (hts _ mm_X7_count_1) (fun _ h9 => h9) rfl dX7_count_70 ?_
                    refine lv_iconst (v := (0 : Int32)) hx hb dX7_count_73 (by decide) ?_
                    refine lv_iload_n hx hb dX7_count_74 rfl (lv_at hl 1 rfl) ?_
                    refine lv_iadd hx hb dX7_count_75 ?_
                    refine lv_bipush (v := (6 : Int32)) hx hb dX7_count_76 (by decide) ?_
                    refine lv_isub hx hb dX7_count_78 ?_
                    obtain ⟨r79, hin, hn, hF⟩ := k_ld_ex hF
                    refine x_iald hx hb hK hP 1 rfl hin hn dX7_count_79 ?_
                    exact W.iret hx hb hr (fun t ht hW => ⟨⟨_, (), rfl, Option.some.inj hF, trivial⟩, hS.F ht⟩) hS.2.2 dX7_count_80
                  · have hF := k_if_f hF h8
                    by_cases h9 : x1 = (9 : Int32)
                    · have hF := k_if_t hF h9
                      refine lv_tableIn (tgt := 81) (off := 80) hx hb dX7_count_1 (by rw [h9]; decide) (by rw [h9]; decide) (by rw [h9]; decide) (by decide) ?_
                      refine lv_aload_n hx hb dX7_count_81 rfl (lv_at hl 0 rfl) ?_
                      refine va_get (D := D) (ci := 7) (v := .int up) (C := RX7) (T := TX7) (N := 11) hx hb hts mi_X7_count_X7 hown hK.1 hP 0 rfl rfl 6 (by decide) (hts _ mm_X7_count_2) (fun _ h9 => h9) rfl dX7_count_82 ?_
                      exact W.iret hx hb hr (fun t ht hW => ⟨⟨_, (), rfl, Option.some.inj hF, trivial⟩, hS.F ht⟩) hS.2.2 dX7_count_85
                    · have hF := k_if_f hF h9
                      by_cases h10 : x1 = (10 : Int32)
                      · have hF := k_if_t hF h10
                        refine lv_tableIn (tgt := 86) (off := 85) hx hb dX7_count_1 (by rw [h10]; decide) (by rw [h10]; decide) (by rw [h10]; decide) (by decide) ?_
                        refine lv_aload_n hx hb dX7_count_86 rfl (lv_at hl 0 rfl) ?_
                        refine va_get (D := D) (ci := 7) (v := .int us) (C := RX7) (T := TX7) (N := 11) hx hb hts mi_X7_count_X7 hown hK.1 hP 0 rfl rfl 2 (by decide) (hts _ mm_X7_count_3) (fun _ h9 => h9) rfl dX7_count_87 ?_
                        exact W.iret hx hb hr (fun t ht hW => ⟨⟨_, (), rfl, Option.some.inj hF, trivial⟩, hS.F ht⟩) hS.2.2 dX7_count_90
                      · have hF := k_if_f hF h10
                        have q0 := lv_neT (k := (0 : Int32)) (a := 0) h0 (by decide)
                        have q1 := lv_neT (k := (1 : Int32)) (a := 1) h1 (by decide)
                        have q2 := lv_neT (k := (2 : Int32)) (a := 2) h2 (by decide)
                        have q3 := lv_neT (k := (3 : Int32)) (a := 3) h3 (by decide)
                        have q4 := lv_neT (k := (4 : Int32)) (a := 4) h4 (by decide)
                        have q5 := lv_neT (k := (5 : Int32)) (a := 5) h5 (by decide)
                        have q6 := lv_neT (k := (6 : Int32)) (a := 6) h6 (by decide)
                        have q7 := lv_neT (k := (7 : Int32)) (a := 7) h7 (by decide)
                        have q8 := lv_neT (k := (8 : Int32)) (a := 8) h8 (by decide)
                        have q9 := lv_neT (k := (9 : Int32)) (a := 9) h9 (by decide)
                        have q10 := lv_neT (k := (10 : Int32)) (a := 10) h10 (by decide)
                        refine lv_tableOut (tgt := 91) hx hb dX7_count_1 (by omega) (by decide) ?_
                        refine lv_bipush (v := (-2 : Int32)) hx hb dX7_count_91 (by decide) ?_
                        exact W.iret hx hb hr (fun t ht hW => ⟨⟨_, (), rfl, Option.some.inj hF, trivial⟩, hS.F ht⟩) hS.2.2 dX7_count_93
set_option maxHeartbeats 4000000 in
set_option maxRecDepth 100000 in
theorem c_X7_extreme (l : Launch) (D : va_G) (cyI cyZ : ClassId) (bM bN bQ bS bH bP bT : Nat) (N : Nat) (x1 : Int32) (x2 : Int32) (x3 : Int32) (x4 : Int32) (us : Int32) (up : Int32) (ue : Int32) (ut : Int32) (um : Int32) (un : (Nat → Int32)) {r0 : Int32}  (hF : p_X7_extreme N x1 x2 x3 x4 us up ue ut um un = some (r0)) : Met l yX7_extreme wsX7_extreme ({ frames := 2, cells := 0, slots := 0, locals := 47 }) (x_PR D cyI cyZ [.ref bM, .int x1, .int x2, .int x3, .int x4] [(bM, .inr (7, [.ref bN, .ref bQ, .int us, .ref bS, .ref bH, .ref bP, .int up, .int ue, .int ut, .ref bT, .int um])), (bN, .inl (cyI, 225, .inl un))]) (x_QR r0) 0 0 (fun _ => False) := by
  refine Met.ofW (cc := cX7_extreme) (maxL := 9) (ret := (some .int)) (by decide) rfl ?_
  intro p e s m args below meth c s₁ B hml hv
  obtain ⟨rfl, hP, hK⟩ := hv
  have hx := B.exec
  have hb := B.bytes
  have hr := B.returns
  have hts := atoms_spec (ws := wsX7_extreme) B.pre
  have hown : s.vm.findClass RX7 = some m.cls := findClass_of_methodNamed B.named
  have hlocks := B.notSynchronized
  have hS : va_S (fun _ => False) s.heap s.heap [] := va_S.rf
  have hP : va_P D vwCl [(bM, .inr (7, [.ref bN, .ref bQ, .int us, .ref bS, .ref bH, .ref bP, .int up, .int ue, .int ut, .ref bT, .int um])), (bN, .inl (cyI, 225, .inl un))] s.heap := hP
  have hl := lv_entry ([.ref bM, .int x1, .int x2, .int x3, .int x4]) (n := 9) (Nat.le_of_ble_eq_true rfl)
  rw [lg_entry_eq]
  generalize (lg_sl ([.ref bM, .int x1, .int x2, .int x3, .int x4]) ++ List.replicate (9 - (lg_sl ([.ref bM, .int x1, .int x2, .int x3, .int x4])).length) Slot.unset).toArray = ls at hl ⊢
  have hl : lv_has ls 9 [(0, .ref bM), (1, .int x1), (2, .int x2), (3, .int x3), (4, .int x4)] := hl
  refine x_gen (fun G hG => ?_)
  have blk_21 : ∀ (n_21 : Nat) (x1 : Int32) (x2 : Int32) (x3 : Int32) (x4 : Int32) (x5 : Int32) (x6 : Int32) (x7 : Int32), f_X7_extreme_21 N n_21 x1 x2 x3 x4 x5 x6 x7 us up ue ut um un = some (r0) → ∀ (H : Heap) (locs : List Loc) (ls : Array Slot), va_P D vwCl [(bM, .inr (7, [.ref bN, .ref bQ, .int us, .ref bS, .ref bH, .ref bP, .int up, .int ue, .int ut, .ref bT, .int um])), (bN, .inl (cyI, 225, .inl un))] H → va_S (fun _ => False) s.heap H locs → lv_has ls 9 [(0, .ref bM), (1, .int x1), (2, .int x2), (3, .int x3), (4, .int x4), (5, .int x5), (6, .int x6), (7, .int x7)] → G H locs (F0 m 21 ls []) := by
    intro n_21
    induction n_21 with
    | zero => intro x1 x2 x3 x4 x5 x6 x7 hF; exact (k_none hF).elim
    | succ n_21 ih_21 =>
      intro x1 x2 x3 x4 x5 x6 x7 hF H locs ls hP hS hl
      replace hF : b_X7_extreme_21 N (f_X7_extreme_21 N n_21) x1 x2 x3 x4 x5 x6 x7 us up ue ut um un = some (r0) := hF
      unfold b_X7_extreme_21 at hF
      refine (hG _ _ _).2 ?_
      refine lv_iload hx hb dX7_extreme_21 (lv_at hl 7 rfl) ?_
      refine lv_iload hx hb dX7_extreme_23 (lv_at hl 5 rfl) ?_
      refine lv_icmp_ge (tgt := 71) hx hb dX7_extreme_25 (by decide) (fun hc => ?_) (fun hc => ?_)
      · have hF := k_if_t hF hc
        refine lv_iload hx hb dX7_extreme_71 (lv_at hl 6 rfl) ?_
        exact W.iret hx hb hr (fun t ht hW => ⟨⟨_, (), rfl, Option.some.inj hF, trivial⟩, hS.F ht⟩) hS.2.2 dX7_extreme_73
      · have hF := k_if_f hF hc
        refine lv_aload_n hx hb dX7_extreme_28 rfl (lv_at hl 0 rfl) ?_
        refine lv_iload_n hx hb dX7_extreme_29 rfl (lv_at hl 1 rfl) ?_
        refine lv_iload_n hx hb dX7_extreme_30 rfl (lv_at hl 2 rfl) ?_
        refine lv_iload_n hx hb dX7_extreme_31 rfl (lv_at hl 3 rfl) ?_
        refine lv_iload hx hb dX7_extreme_32 (lv_at hl 7 rfl) ?_
        obtain ⟨r34, hC, hF⟩ := k_c1_ex hF
        refine x_VR (As := [.int x1, .int x2, .int x3, .int x7]) (rest := []) ⟨hx, hb, hml, hown, hts⟩ (c_X7_press l D cyI cyZ bM bN bQ bS bH bP bT N x1 x2 x3 x7 us up ue ut um un hC) (cwV 4 hts gX7_extreme_X7_press rfl rfl rfl (by decide +kernel) ⟨Nat.le_of_ble_eq_true rfl, Nat.le_of_ble_eq_true rfl⟩) hK hP hS [0, 1] rfl 0 rfl rfl rfl rfl hl.1 rfl (Nat.le_of_ble_eq_true rfl) ⟨Nat.zero_le _, Nat.zero_le _⟩ dX7_extreme_34 (fun H locs hP hS => ?_)
        refine lv_istore (lv' := [(8, .int r34), (0, .ref bM), (1, .int x1), (2, .int x2), (3, .int x3), (4, .int x4), (5, .int x5), (6, .int x6), (7, .int x7)]) hx hb dX7_extreme_37 hl (by decide) rfl (fun ls hl => ?_)
        refine lv_iload hx hb dX7_extreme_39 (lv_at hl 5 rfl) ?_
        refine lv_iload hx hb dX7_extreme_41 (lv_at hl 0 rfl) ?_
        refine lv_iload hx hb dX7_extreme_43 (lv_at hl 7 rfl) ?_
        refine lv_icmp_ge (tgt := 52) hx hb dX7_extreme_45 (by decide) (fun hc => ?_) (fun hc => ?_)
        · have hF := k_if_t hF hc
          refine lv_iconst (v := (0 : Int32)) hx hb dX7_extreme_52 (by decide) ?_
          refine lv_icmp_ne (tgt := 61) hx hb dX7_extreme_53 (by decide) (fun hc => ?_) (fun hc => ?_)
          · have hF := k_if_f hF hc
            refine lv_iload hx hb dX7_extreme_61 (lv_at hl 7 rfl) ?_
            refine lv_istore (lv' := [(6, .int x6), (8, .int r34), (0, .ref bM), (1, .int x1), (2, .int x2), (3, .int x3), (4, .int x4), (5, .int x5), (7, .int x7)]) hx hb dX7_extreme_63 hl (by decide) rfl (fun ls hl => ?_)
            obtain ⟨x7_65, hn, hF⟩ := k_let_ex hF
            refine lv_iinc (v := x7_65) (lv' := [(7, .int x7_65), (6, .int x6), (8, .int r34), (0, .ref bM), (1, .int x1), (2, .int x2), (3, .int x3), (4, .int x4), (5, .int x5)]) hx hb dX7_extreme_65 hl (k := 8) rfl (by rw [hn]; rfl) (by decide) rfl (fun ls hl => ?_)
            refine lv_goto (tgt := 21) hx hb dX7_extreme_68 (by decide) ?_
            exact (hG _ _ _).1 (ih_21 x1 x2 x3 x4 x5 x6 x7_65 hF _ _ _ hP hS (lv_sub hl [3, 4, 5, 6, 7, 8, 1, 0] rfl))
          · have hF := k_if_t hF hc
            refine lv_iload hx hb dX7_extreme_56 (lv_at hl 0 rfl) ?_
            refine lv_goto (tgt := 63) hx hb dX7_extreme_58 (by decide) ?_
            refine lv_istore (lv' := [(6, .int r34), (8, .int r34), (0, .ref bM), (1, .int x1), (2, .int x2), (3, .int x3), (4, .int x4), (5, .int x5), (7, .int x7)]) hx hb dX7_extreme_63 hl (by decide) rfl (fun ls hl => ?_)
            obtain ⟨x7_65, hn, hF⟩ := k_let_ex hF
            refine lv_iinc (v := x7_65) (lv' := [(7, .int x7_65), (6, .int r34), (8, .int r34), (0, .ref bM), (1, .int x1), (2, .int x2), (3, .int x3), (4, .int x4), (5, .int x5)]) hx hb dX7_extreme_65 hl (k := 8) rfl (by rw [hn]; rfl) (by decide) rfl (fun ls hl => ?_)
            refine lv_goto (tgt := 21) hx hb dX7_extreme_68 (by decide) ?_
            exact (hG _ _ _).1 (ih_21 x1 x2 x3 x4 x5 r34 x7_65 hF _ _ _ hP hS (lv_sub hl [3, 4, 5, 6, 7, 8, 1, 0] rfl))
        · have hF := k_if_f hF hc
          refine lv_iconst (v := (1 : Int32)) hx hb dX7_extreme_48 (by decide) ?_
          refine lv_goto (tgt := 53) hx hb dX7_extreme_49 (by decide) ?_
          refine lv_icmp_ne (tgt := 61) hx hb dX7_extreme_53 (by decide) (fun hc => ?_) (fun hc => ?_)
          · have hF := k_if_f hF hc
            refine lv_iload hx hb dX7_extreme_61 (lv_at hl 7 rfl) ?_
            refine lv_istore (lv' := [(6, .int x6), (8, .int r34), (0, .ref bM), (1, .int x1), (2, .int x2), (3, .int x3), (4, .int x4), (5, .int x5), (7, .int x7)]) hx hb dX7_extreme_63 hl (by decide) rfl (fun ls hl => ?_)
            obtain ⟨x7_65, hn, hF⟩ := k_let_ex hF
            refine lv_iinc (v := x7_65) (lv' := [(7, .int x7_65), (6, .int x6), (8, .int r34), (0, .ref bM), (1, .int x1), (2, .int x2), (3, .int x3), (4, .int x4), (5, .int x5)]) hx hb dX7_extreme_65 hl (k := 8) rfl (by rw [hn]; rfl) (by decide) rfl (fun ls hl => ?_)
            refine lv_goto (tgt := 21) hx hb dX7_extreme_68 (by decide) ?_
            exact (hG _ _ _).1 (ih_21 x1 x2 x3 x4 x5 x6 x7_65 hF _ _ _ hP hS (lv_sub hl [3, 4, 5, 6, 7, 8, 1, 0] rfl))
          · have hF := k_if_t hF hc
            refine lv_iload hx hb dX7_extreme_56 (lv_at hl 0 rfl) ?_
            refine lv_goto (tgt := 63) hx hb dX7_extreme_58 (by decide) ?_
            refine lv_istore (lv' := [(6, .int r34), (8, .int r34), (0, .ref bM), (1, .int x1), (2, .int x2), (3, .int x3), (4, .int x4), (5, .int x5), (7, .int x7)]) hx hb dX7_extreme_63 hl (by decide) rfl (fun ls hl => ?_)
            obtain ⟨x7_65, hn, hF⟩ := k_let_ex hF
            refine lv_iinc (v := x7_65) (lv' := [(7, .int x7_65), (6, .int r34), (8, .int r34), (0, .ref bM), (1, .int x1), (2, .int x2), (3, .int x3), (4, .int x4), (5, .int x5)]) hx hb dX7_extreme_65 hl (k := 8) rfl (by rw [hn]; rfl) (by decide) rfl (fun ls hl => ?_)
            refine lv_goto (tgt := 21) hx hb dX7_extreme_68 (by decide) ?_
            exact (hG _ _ _).1 (ih_21 x1 x2 x3 x4 x5 r34 x7_65 hF _ _ _ hP hS (lv_sub hl [3, 4, 5, 6, 7, 8, 1, 0] rfl))
  refine (hG _ _ _).2 ?_
  unfold p_X7_extreme at hF
  refine lv_aload_n hx hb dX7_extreme_0 rfl (lv_at hl 0 rfl) ?_
  refine lv_iload_n hx hb dX7_extreme_1 rfl (lv_at hl 1 rfl) ?_
  refine lv_iload_n hx hb dX7_extreme_2 rfl (lv_at hl 2 rfl) ?_
  obtain ⟨r3, hC, hF⟩ := k_c1_ex hF
  refine x_VR (As := [.int x1, .int x2]) (rest := []) ⟨hx, hb, hml, hown, hts⟩ (c_X7_turn l D cyI cyZ bM bN bQ bS bH bP bT N x1 x2 us up ue ut um un hC) (cwV 2 hts gX7_extreme_X7_turn rfl rfl rfl (by decide +kernel) ⟨Nat.le_of_ble_eq_true rfl, Nat.le_of_ble_eq_true rfl⟩) hK hP hS [0, 1] rfl 0 rfl rfl rfl rfl hl.1 rfl (Nat.le_of_ble_eq_true rfl) ⟨Nat.zero_le _, Nat.zero_le _⟩ dX7_extreme_3 (fun H locs hP hS => ?_)
  refine lv_istore (lv' := [(5, .int r3), (0, .ref bM), (1, .int x1), (2, .int x2), (3, .int x3), (4, .int x4)]) hx hb dX7_extreme_6 hl (by decide) rfl (fun ls hl => ?_)
  refine lv_aload_n hx hb dX7_extreme_8 rfl (lv_at hl 1 rfl) ?_
  refine lv_iload_n hx hb dX7_extreme_9 rfl (lv_at hl 2 rfl) ?_
  refine lv_iload_n hx hb dX7_extreme_10 rfl (lv_at hl 3 rfl) ?_
  refine lv_iload_n hx hb dX7_extreme_11 rfl (lv_at hl 4 rfl) ?_
  refine lv_iconst (v := (0 : Int32)) hx hb dX7_extreme_12 (by decide) ?_
  obtain ⟨r13, hC, hF⟩ := k_c1_ex hF
  refine x_VR (As := [.int x1, .int x2, .int x3, .int (0 : Int32)]) (rest := []) ⟨hx, hb, hml, hown, hts⟩ (c_X7_press l D cyI cyZ bM bN bQ bS bH bP bT N x1 x2 x3 (0 : Int32) us up ue ut um un hC) (cwV 4 hts gX7_extreme_X7_press rfl rfl rfl (by decide +kernel) ⟨Nat.le_of_ble_eq_true rfl, Nat.le_of_ble_eq_true rfl⟩) hK hP hS [0, 1] rfl 0 rfl rfl rfl rfl hl.1 rfl (Nat.le_of_ble_eq_true rfl) ⟨Nat.zero_le _, Nat.zero_le _⟩ dX7_extreme_13 (fun H locs hP hS => ?_)
  refine lv_istore (lv' := [(6, .int r13), (5, .int r3), (0, .ref bM), (1, .int x1), (2, .int x2), (3, .int x3), (4, .int x4)]) hx hb dX7_extreme_16 hl (by decide) rfl (fun ls hl => ?_)
  refine lv_iconst (v := (1 : Int32)) hx hb dX7_extreme_18 (by decide) ?_
  refine lv_istore (lv' := [(7, .int (1 : Int32)), (6, .int r13), (5, .int r3), (0, .ref bM), (1, .int x1), (2, .int x2), (3, .int x3), (4, .int x4)]) hx hb dX7_extreme_19 hl (by decide) rfl (fun ls hl => ?_)
  exact (hG _ _ _).1 (blk_21 N x1 x2 x3 x4 r3 r13 (1 : Int32) hF _ _ _ hP hS (lv_sub hl [3, 4, 5, 6, 7, 2, 1, 0] rfl))
set_option maxHeartbeats 4000000 in
set_option maxRecDepth 100000 in
theorem c_X7_pair (l : Launch) (D : va_G) (cyI cyZ : ClassId) (bM bN bQ bS bH bP bT : Nat) (N : Nat) (x1 : Int32) (x2 : Int32) (x3 : Int32) (x4 : Int32) (x5 : Int32) (us : Int32) (up : Int32) (ue : Int32) (ut : Int32) (um : Int32) (un : (Nat → Int32)) {r0 : Int32}  (hF : p_X7_pair N x1 x2 x3 x4 x5 us up ue ut um un = some (r0)) : Met l yX7_pair wsX7_pair ({ frames := 3, cells := 0, slots := 0, locals := 75 }) (x_PR D cyI cyZ [.ref bM, .int x1, .int x2, .int x3, .int x4, .int x5] [(bM, .inr (7, [.ref bN, .ref bQ, .int us, .ref bS, .ref bH, .ref bP, .int up, .int ue, .int ut, .ref bT, .int um])), (bN, .inl (cyI, 225, .inl un))]) (x_QR r0) 0 0 (fun _ => False) := by
  refine Met.ofW (cc := cX7_pair) (maxL := 7) (ret := (some .int)) (by decide) rfl ?_
  intro p e s m args below meth c s₁ B hml hv
  obtain ⟨rfl, hP, hK⟩ := hv
  have hx := B.exec
  have hb := B.bytes
  have hr := B.returns
  have hts := atoms_spec (ws := wsX7_pair) B.pre
  have hown : s.vm.findClass RX7 = some m.cls := findClass_of_methodNamed B.named
  have hlocks := B.notSynchronized
  have hS : va_S (fun _ => False) s.heap s.heap [] := va_S.rf
  have hP : va_P D vwCl [(bM, .inr (7, [.ref bN, .ref bQ, .int us, .ref bS, .ref bH, .ref bP, .int up, .int ue, .int ut, .ref bT, .int um])), (bN, .inl (cyI, 225, .inl un))] s.heap := hP
  have hl := lv_entry ([.ref bM, .int x1, .int x2, .int x3, .int x4, .int x5]) (n := 7) (Nat.le_of_ble_eq_true rfl)
  rw [lg_entry_eq]
  generalize (lg_sl ([.ref bM, .int x1, .int x2, .int x3, .int x4, .int x5]) ++ List.replicate (7 - (lg_sl ([.ref bM, .int x1, .int x2, .int x3, .int x4, .int x5])).length) Slot.unset).toArray = ls at hl ⊢
  have hl : lv_has ls 7 [(0, .ref bM), (1, .int x1), (2, .int x2), (3, .int x3), (4, .int x4), (5, .int x5)] := hl
  unfold p_X7_pair at hF
  refine lv_aload_n hx hb dX7_pair_0 rfl (lv_at hl 0 rfl) ?_
  refine lv_iload_n hx hb dX7_pair_1 rfl (lv_at hl 1 rfl) ?_
  refine lv_iload_n hx hb dX7_pair_2 rfl (lv_at hl 2 rfl) ?_
  refine lv_iload_n hx hb dX7_pair_3 rfl (lv_at hl 3 rfl) ?_
  refine lv_iload hx hb dX7_pair_4 (lv_at hl 4 rfl) ?_
  obtain ⟨r6, hC, hF⟩ := k_c1_ex hF
  refine x_VR (As := [.int x1, .int x2, .int x3, .int x4]) (rest := []) ⟨hx, hb, hml, hown, hts⟩ (c_X7_pairError l D cyI cyZ bM bN bQ bS bH bP bT N x1 x2 x3 x4 us up ue ut um un hC) (cwV 4 hts gX7_pair_X7_pairError rfl rfl rfl (by decide +kernel) ⟨Nat.le_of_ble_eq_true rfl, Nat.le_of_ble_eq_true rfl⟩) hK hP hS [0, 1] rfl 0 rfl rfl rfl rfl hl.1 rfl (Nat.le_of_ble_eq_true rfl) ⟨Nat.zero_le _, Nat.zero_le _⟩ dX7_pair_6 (fun H locs hP hS => ?_)
  refine lv_istore (lv' := [(6, .int r6), (0, .ref bM), (1, .int x1), (2, .int x2), (3, .int x3), (4, .int x4), (5, .int x5)]) hx hb dX7_pair_9 hl (by decide) rfl (fun ls hl => ?_)
  refine lv_iload hx hb dX7_pair_11 (lv_at hl 0 rfl) ?_
  refine lv_if_ge (tgt := 19) hx hb dX7_pair_13 (by decide) (fun hc => ?_) (fun hc => ?_)
  · have hF := k_if_t hF hc
    refine lv_iload hx hb dX7_pair_19 (lv_at hl 6 rfl) ?_
    by_cases h0 : x5 = (0 : Int32)
    · have hF := k_if_t hF h0
      refine lv_tableIn (tgt := 52) (off := 31) hx hb dX7_pair_21 (by rw [h0]; decide) (by rw [h0]; decide) (by rw [h0]; decide) (by decide) ?_
      refine lv_aload_n hx hb dX7_pair_52 rfl (lv_at hl 1 rfl) ?_
      refine lv_iload_n hx hb dX7_pair_53 rfl (lv_at hl 2 rfl) ?_
      refine lv_iload_n hx hb dX7_pair_54 rfl (lv_at hl 3 rfl) ?_
      obtain ⟨r55, hC, hF⟩ := k_c1_ex hF
      refine x_VR (As := [.int x1, .int x2]) (rest := []) ⟨hx, hb, hml, hown, hts⟩ (c_X7_turn l D cyI cyZ bM bN bQ bS bH bP bT N x1 x2 us up ue ut um un hC) (cwV 2 hts gX7_pair_X7_turn rfl rfl rfl (by decide +kernel) ⟨Nat.le_of_ble_eq_true rfl, Nat.le_of_ble_eq_true rfl⟩) hK hP hS [0, 1] rfl 0 rfl rfl rfl rfl hl.1 rfl (Nat.le_of_ble_eq_true rfl) ⟨Nat.zero_le _, Nat.zero_le _⟩ dX7_pair_55 (fun H locs hP hS => ?_)
      exact W.iret hx hb hr (fun t ht hW => ⟨⟨_, (), rfl, Option.some.inj hF, trivial⟩, hS.F ht⟩) hS.2.2 dX7_pair_58
    · have hF := k_if_f hF h0
      by_cases h1 : x5 = (1 : Int32)
      · have hF := k_if_t hF h1
        refine lv_tableIn (tgt := 59) (off := 38) hx hb dX7_pair_21 (by rw [h1]; decide) (by rw [h1]; decide) (by rw [h1]; decide) (by decide) ?_
        refine lv_aload_n hx hb dX7_pair_59 rfl (lv_at hl 1 rfl) ?_
        refine lv_iload_n hx hb dX7_pair_60 rfl (lv_at hl 2 rfl) ?_
        refine lv_iload_n hx hb dX7_pair_61 rfl (lv_at hl 3 rfl) ?_
        refine lv_iload_n hx hb dX7_pair_62 rfl (lv_at hl 4 rfl) ?_
        refine lv_iload hx hb dX7_pair_63 (lv_at hl 6 rfl) ?_
        refine lv_iconst (v := (1 : Int32)) hx hb dX7_pair_65 (by decide) ?_
        refine lv_icmp_ne (tgt := 73) hx hb dX7_pair_66 (by decide) (fun hc => ?_) (fun hc => ?_)
        · have hF := k_if_f hF hc
          refine lv_iconst (v := (0 : Int32)) hx hb dX7_pair_73 (by decide) ?_
          obtain ⟨r74, hC, hF⟩ := k_c1_ex hF
          refine x_VR (As := [.int x1, .int x2, .int x3, .int (0 : Int32)]) (rest := []) ⟨hx, hb, hml, hown, hts⟩ (c_X7_extreme l D cyI cyZ bM bN bQ bS bH bP bT N x1 x2 x3 (0 : Int32) us up ue ut um un hC) (cwV 4 hts gX7_pair_X7_extreme rfl rfl rfl (by decide +kernel) ⟨Nat.le_of_ble_eq_true rfl, Nat.le_of_ble_eq_true rfl⟩) hK hP hS [0, 1] rfl 0 rfl rfl rfl rfl hl.1 rfl (Nat.le_of_ble_eq_true rfl) ⟨Nat.zero_le _, Nat.zero_le _⟩ dX7_pair_74 (fun H locs hP hS => ?_)
          refine lv_iload hx hb dX7_pair_77 (lv_at hl 5 rfl) ?_
          refine lv_iadd hx hb dX7_pair_79 ?_
          refine lv_bipush (v := (100 : Int32)) hx hb dX7_pair_80 (by decide) ?_
          refine lv_iadd hx hb dX7_pair_82 ?_
          exact W.iret hx hb hr (fun t ht hW => ⟨⟨_, (), rfl, Option.some.inj hF, trivial⟩, hS.F ht⟩) hS.2.2 dX7_pair_83
        · have hF := k_if_t hF hc
          refine lv_iconst (v := (1 : Int32)) hx hb dX7_pair_69 (by decide) ?_
          refine lv_goto (tgt := 74) hx hb dX7_pair_70 (by decide) ?_
          obtain ⟨r74, hC, hF⟩ := k_c1_ex hF
          refine x_VR (As := [.int x1, .int x2, .int x3, .int (1 : Int32)]) (rest := []) ⟨hx, hb, hml, hown, hts⟩ (c_X7_extreme l D cyI cyZ bM bN bQ bS bH bP bT N x1 x2 x3 (1 : Int32) us up ue ut um un hC) (cwV 4 hts gX7_pair_X7_extreme rfl rfl rfl (by decide +kernel) ⟨Nat.le_of_ble_eq_true rfl, Nat.le_of_ble_eq_true rfl⟩) hK hP hS [0, 1] rfl 0 rfl rfl rfl rfl hl.1 rfl (Nat.le_of_ble_eq_true rfl) ⟨Nat.zero_le _, Nat.zero_le _⟩ dX7_pair_74 (fun H locs hP hS => ?_)
          refine lv_iload hx hb dX7_pair_77 (lv_at hl 5 rfl) ?_
          refine lv_iadd hx hb dX7_pair_79 ?_
          refine lv_bipush (v := (100 : Int32)) hx hb dX7_pair_80 (by decide) ?_
          refine lv_iadd hx hb dX7_pair_82 ?_
          exact W.iret hx hb hr (fun t ht hW => ⟨⟨_, (), rfl, Option.some.inj hF, trivial⟩, hS.F ht⟩) hS.2.2 dX7_pair_83
      · have hF := k_if_f hF h1
        by_cases h2 : x5 = (2 : Int32)
        · have hF := k_if_t hF h2
          refine lv_tableIn (tgt := 59) (off := 38) hx hb dX7_pair_21 (by rw [h2]; decide) (by rw [h2]; decide) (by rw [h2]; decide) (by decide) ?_
          refine lv_aload_n hx hb dX7_pair_59 rfl (lv_at hl 1 rfl) ?_
          refine lv_iload_n hx hb dX7_pair_60 rfl (lv_at hl 2 rfl) ?_
          refine lv_iload_n hx hb dX7_pair_61 rfl (lv_at hl 3 rfl) ?_
          refine lv_iload_n hx hb dX7_pair_62 rfl (lv_at hl 4 rfl) ?_
          refine lv_iload hx hb dX7_pair_63 (lv_at hl 6 rfl) ?_
          refine lv_iconst (v := (1 : Int32)) hx hb dX7_pair_65 (by decide) ?_
          refine lv_icmp_ne (tgt := 73) hx hb dX7_pair_66 (by decide) (fun hc => ?_) (fun hc => ?_)
          · have hF := k_if_f hF hc
            refine lv_iconst (v := (0 : Int32)) hx hb dX7_pair_73 (by decide) ?_
            obtain ⟨r74, hC, hF⟩ := k_c1_ex hF
            refine x_VR (As := [.int x1, .int x2, .int x3, .int (0 : Int32)]) (rest := []) ⟨hx, hb, hml, hown, hts⟩ (c_X7_extreme l D cyI cyZ bM bN bQ bS bH bP bT N x1 x2 x3 (0 : Int32) us up ue ut um un hC) (cwV 4 hts gX7_pair_X7_extreme rfl rfl rfl (by decide +kernel) ⟨Nat.le_of_ble_eq_true rfl, Nat.le_of_ble_eq_true rfl⟩) hK hP hS [0, 1] rfl 0 rfl rfl rfl rfl hl.1 rfl (Nat.le_of_ble_eq_true rfl) ⟨Nat.zero_le _, Nat.zero_le _⟩ dX7_pair_74 (fun H locs hP hS => ?_)
            refine lv_iload hx hb dX7_pair_77 (lv_at hl 5 rfl) ?_
            refine lv_iadd hx hb dX7_pair_79 ?_
            refine lv_bipush (v := (100 : Int32)) hx hb dX7_pair_80 (by decide) ?_
            refine lv_iadd hx hb dX7_pair_82 ?_
            exact W.iret hx hb hr (fun t ht hW => ⟨⟨_, (), rfl, Option.some.inj hF, trivial⟩, hS.F ht⟩) hS.2.2 dX7_pair_83
          · have hF := k_if_t hF hc
            refine lv_iconst (v := (1 : Int32)) hx hb dX7_pair_69 (by decide) ?_
            refine lv_goto (tgt := 74) hx hb dX7_pair_70 (by decide) ?_
            obtain ⟨r74, hC, hF⟩ := k_c1_ex hF
            refine x_VR (As := [.int x1, .int x2, .int x3, .int (1 : Int32)]) (rest := []) ⟨hx, hb, hml, hown, hts⟩ (c_X7_extreme l D cyI cyZ bM bN bQ bS bH bP bT N x1 x2 x3 (1 : Int32) us up ue ut um un hC) (cwV 4 hts gX7_pair_X7_extreme rfl rfl rfl (by decide +kernel) ⟨Nat.le_of_ble_eq_true rfl, Nat.le_of_ble_eq_true rfl⟩) hK hP hS [0, 1] rfl 0 rfl rfl rfl rfl hl.1 rfl (Nat.le_of_ble_eq_true rfl) ⟨Nat.zero_le _, Nat.zero_le _⟩ dX7_pair_74 (fun H locs hP hS => ?_)
            refine lv_iload hx hb dX7_pair_77 (lv_at hl 5 rfl) ?_
            refine lv_iadd hx hb dX7_pair_79 ?_
            refine lv_bipush (v := (100 : Int32)) hx hb dX7_pair_80 (by decide) ?_
            refine lv_iadd hx hb dX7_pair_82 ?_
            exact W.iret hx hb hr (fun t ht hW => ⟨⟨_, (), rfl, Option.some.inj hF, trivial⟩, hS.F ht⟩) hS.2.2 dX7_pair_83
        · have hF := k_if_f hF h2
          by_cases h3 : x5 = (3 : Int32)
          · have hF := k_if_t hF h3
            refine lv_tableIn (tgt := 84) (off := 63) hx hb dX7_pair_21 (by rw [h3]; decide) (by rw [h3]; decide) (by rw [h3]; decide) (by decide) ?_
            refine lv_aload_n hx hb dX7_pair_84 rfl (lv_at hl 1 rfl) ?_
            refine lv_iload_n hx hb dX7_pair_85 rfl (lv_at hl 2 rfl) ?_
            refine lv_iload_n hx hb dX7_pair_86 rfl (lv_at hl 3 rfl) ?_
            refine lv_iload_n hx hb dX7_pair_87 rfl (lv_at hl 4 rfl) ?_
            refine lv_iload hx hb dX7_pair_88 (lv_at hl 5 rfl) ?_
            obtain ⟨r90, hC, hF⟩ := k_c1_ex hF
            refine x_VR (As := [.int x1, .int x2, .int x3, .int x4]) (rest := []) ⟨hx, hb, hml, hown, hts⟩ (c_X7_against l D cyI cyZ bM bN bQ bS bH bP bT N x1 x2 x3 x4 us up ue ut um un hC) (cwV 4 hts gX7_pair_X7_against rfl rfl rfl (by decide +kernel) ⟨Nat.le_of_ble_eq_true rfl, Nat.le_of_ble_eq_true rfl⟩) hK hP hS [0, 1] rfl 0 rfl rfl rfl rfl hl.1 rfl (Nat.le_of_ble_eq_true rfl) ⟨Nat.zero_le _, Nat.zero_le _⟩ dX7_pair_90 (fun H locs hP hS => ?_)
            refine lv_bipush (v := (-6 : Int32)) hx hb dX7_pair_93 (by decide) ?_
            refine lv_icmp_ne (tgt := 102) hx hb dX7_pair_95 (by decide) (fun hc => ?_) (fun hc => ?_)
            · have hF := k_if_f hF hc
              refine lv_iconst (v := (0 : Int32)) hx hb dX7_pair_102 (by decide) ?_
              exact W.iret hx hb hr (fun t ht hW => ⟨⟨_, (), rfl, Option.some.inj hF, trivial⟩, hS.F ht⟩) hS.2.2 dX7_pair_103
            · have hF := k_if_t hF hc
              refine lv_iconst (v := (1 : Int32)) hx hb dX7_pair_98 (by decide) ?_
              refine lv_goto (tgt := 103) hx hb dX7_pair_99 (by decide) ?_
              exact W.iret hx hb hr (fun t ht hW => ⟨⟨_, (), rfl, Option.some.inj hF, trivial⟩, hS.F ht⟩) hS.2.2 dX7_pair_103
          · have hF := k_if_f hF h3
            have q0 := lv_neT (k := (0 : Int32)) (a := 0) h0 (by decide)
            have q1 := lv_neT (k := (1 : Int32)) (a := 1) h1 (by decide)
            have q2 := lv_neT (k := (2 : Int32)) (a := 2) h2 (by decide)
            have q3 := lv_neT (k := (3 : Int32)) (a := 3) h3 (by decide)
            refine lv_tableOut (tgt := 104) hx hb dX7_pair_21 (by omega) (by decide) ?_
            refine lv_bipush (v := (-2 : Int32)) hx hb dX7_pair_104 (by decide) ?_
            exact W.iret hx hb hr (fun t ht hW => ⟨⟨_, (), rfl, Option.some.inj hF, trivial⟩, hS.F ht⟩) hS.2.2 dX7_pair_106
  · have hF := k_if_f hF hc
    refine lv_iload hx hb dX7_pair_16 (lv_at hl 0 rfl) ?_
    exact W.iret hx hb hr (fun t ht hW => ⟨⟨_, (), rfl, Option.some.inj hF, trivial⟩, hS.F ht⟩) hS.2.2 dX7_pair_18
set_option maxHeartbeats 4000000 in
set_option maxRecDepth 100000 in
theorem c_X7_why (l : Launch) (D : va_G) (cyI cyZ : ClassId) (bM bN bQ bS bH bP bT : Nat) (N : Nat) (x1 : Int32) (x2 : Int32) (x3 : Int32) (x4 : Int32) (x5 : Int32) (us : Int32) (up : Int32) (ue : Int32) (ut : Int32) (um : Int32) (un : (Nat → Int32)) {r0 : Int32}  (hF : p_X7_why N x1 x2 x3 x4 x5 us up ue ut um un = some (r0)) : Met l yX7_why wsX7_why ({ frames := 3, cells := 0, slots := 0, locals := 75 }) (x_PR D cyI cyZ [.ref bM, .int x1, .int x2, .int x3, .int x4, .int x5] [(bM, .inr (7, [.ref bN, .ref bQ, .int us, .ref bS, .ref bH, .ref bP, .int up, .int ue, .int ut, .ref bT, .int um])), (bN, .inl (cyI, 225, .inl un))]) (x_QR r0) 0 0 (fun _ => False) := by
  refine Met.ofW (cc := cX7_why) (maxL := 8) (ret := (some .int)) (by decide) rfl ?_
  intro p e s m args below meth c s₁ B hml hv
  obtain ⟨rfl, hP, hK⟩ := hv
  have hx := B.exec
  have hb := B.bytes
  have hr := B.returns
  have hts := atoms_spec (ws := wsX7_why) B.pre
  have hown : s.vm.findClass RX7 = some m.cls := findClass_of_methodNamed B.named
  have hlocks := B.notSynchronized
  have hS : va_S (fun _ => False) s.heap s.heap [] := va_S.rf
  have hP : va_P D vwCl [(bM, .inr (7, [.ref bN, .ref bQ, .int us, .ref bS, .ref bH, .ref bP, .int up, .int ue, .int ut, .ref bT, .int um])), (bN, .inl (cyI, 225, .inl un))] s.heap := hP
  have hl := lv_entry ([.ref bM, .int x1, .int x2, .int x3, .int x4, .int x5]) (n := 8) (Nat.le_of_ble_eq_true rfl)
  rw [lg_entry_eq]
  generalize (lg_sl ([.ref bM, .int x1, .int x2, .int x3, .int x4, .int x5]) ++ List.replicate (8 - (lg_sl ([.ref bM, .int x1, .int x2, .int x3, .int x4, .int x5])).length) Slot.unset).toArray = ls at hl ⊢
  have hl : lv_has ls 8 [(0, .ref bM), (1, .int x1), (2, .int x2), (3, .int x3), (4, .int x4), (5, .int x5)] := hl
  unfold p_X7_why at hF
  refine lv_aload_n hx hb dX7_why_0 rfl (lv_at hl 0 rfl) ?_
  refine lv_iload_n hx hb dX7_why_1 rfl (lv_at hl 1 rfl) ?_
  refine lv_iload_n hx hb dX7_why_2 rfl (lv_at hl 2 rfl) ?_
  refine lv_iload_n hx hb dX7_why_3 rfl (lv_at hl 3 rfl) ?_
  refine lv_iload hx hb dX7_why_4 (lv_at hl 4 rfl) ?_
  obtain ⟨r6, hC, hF⟩ := k_c1_ex hF
  refine x_VR (As := [.int x1, .int x2, .int x3, .int x4]) (rest := []) ⟨hx, hb, hml, hown, hts⟩ (c_X7_pairError l D cyI cyZ bM bN bQ bS bH bP bT N x1 x2 x3 x4 us up ue ut um un hC) (cwV 4 hts gX7_why_X7_pairError rfl rfl rfl (by decide +kernel) ⟨Nat.le_of_ble_eq_true rfl, Nat.le_of_ble_eq_true rfl⟩) hK hP hS [0, 1] rfl 0 rfl rfl rfl rfl hl.1 rfl (Nat.le_of_ble_eq_true rfl) ⟨Nat.zero_le _, Nat.zero_le _⟩ dX7_why_6 (fun H locs hP hS => ?_)
  refine lv_istore (lv' := [(6, .int r6), (0, .ref bM), (1, .int x1), (2, .int x2), (3, .int x3), (4, .int x4), (5, .int x5)]) hx hb dX7_why_9 hl (by decide) rfl (fun ls hl => ?_)
  refine lv_iload hx hb dX7_why_11 (lv_at hl 0 rfl) ?_
  refine lv_if_ge (tgt := 19) hx hb dX7_why_13 (by decide) (fun hc => ?_) (fun hc => ?_)
  · have hF := k_if_t hF hc
    refine lv_iload hx hb dX7_why_19 (lv_at hl 6 rfl) ?_
    refine lv_iconst (v := (0 : Int32)) hx hb dX7_why_21 (by decide) ?_
    refine lv_iconst (v := (1 : Int32)) hx hb dX7_why_22 (by decide) ?_
    obtain ⟨r23, hC, hF⟩ := k_c1_ex hF
    refine x_SR (As := [.int x5, .int (0 : Int32), .int (1 : Int32)]) (rest := []) ⟨hx, hb, hml, hown, hts⟩ (c_X7_in l D cyI cyZ N x5 (0 : Int32) (1 : Int32) hC) (va_cwS 3 hts gX7_why_X7_in rfl rfl rfl (by decide +kernel) ⟨Nat.le_of_ble_eq_true rfl, Nat.le_of_ble_eq_true rfl⟩) hK hP hS [] rfl rfl hl.1 rfl (Nat.le_of_ble_eq_true rfl) ⟨Nat.zero_le _, Nat.zero_le _⟩ dX7_why_23 (fun H locs hP hS => ?_)
    refine lv_if_ne (tgt := 32) hx hb dX7_why_26 (by decide) (fun hc => ?_) (fun hc => ?_)
    · have hF := k_if_f hF hc
      refine lv_aload_n hx hb dX7_why_32 rfl (lv_at hl 1 rfl) ?_
      refine lv_iload_n hx hb dX7_why_33 rfl (lv_at hl 2 rfl) ?_
      refine lv_iload_n hx hb dX7_why_34 rfl (lv_at hl 3 rfl) ?_
      refine lv_iload_n hx hb dX7_why_35 rfl (lv_at hl 4 rfl) ?_
      refine lv_iload hx hb dX7_why_36 (lv_at hl 5 rfl) ?_
      obtain ⟨r38, hC, hF⟩ := k_c1_ex hF
      refine x_VR (As := [.int x1, .int x2, .int x3, .int x4]) (rest := []) ⟨hx, hb, hml, hown, hts⟩ (c_X7_against l D cyI cyZ bM bN bQ bS bH bP bT N x1 x2 x3 x4 us up ue ut um un hC) (cwV 4 hts gX7_why_X7_against rfl rfl rfl (by decide +kernel) ⟨Nat.le_of_ble_eq_true rfl, Nat.le_of_ble_eq_true rfl⟩) hK hP hS [0, 1] rfl 0 rfl rfl rfl rfl hl.1 rfl (Nat.le_of_ble_eq_true rfl) ⟨Nat.zero_le _, Nat.zero_le _⟩ dX7_why_38 (fun H locs hP hS => ?_)
      refine lv_istore (lv' := [(7, .int r38), (6, .int r6), (0, .ref bM), (1, .int x1), (2, .int x2), (3, .int x3), (4, .int x4), (5, .int x5)]) hx hb dX7_why_41 hl (by decide) rfl (fun ls hl => ?_)
      refine lv_iload hx hb dX7_why_43 (lv_at hl 0 rfl) ?_
      refine lv_bipush (v := (-6 : Int32)) hx hb dX7_why_45 (by decide) ?_
      refine lv_icmp_ne (tgt := 62) hx hb dX7_why_47 (by decide) (fun hc => ?_) (fun hc => ?_)
      · have hF := k_if_f hF hc
        refine lv_iload hx hb dX7_why_62 (lv_at hl 7 rfl) ?_
        refine lv_if_ne (tgt := 74) hx hb dX7_why_64 (by decide) (fun hc => ?_) (fun hc => ?_)
        · have hF := k_if_f hF hc
          refine lv_iload hx hb dX7_why_74 (lv_at hl 0 rfl) ?_
          refine lv_iconst (v := (4 : Int32)) hx hb dX7_why_76 (by decide) ?_
          obtain ⟨hz, hF⟩ := k_nz_ex hF
          refine lv_idiv hx hb dX7_why_77 hz ?_
          exact W.iret hx hb hr (fun t ht hW => ⟨⟨_, (), rfl, Option.some.inj hF, trivial⟩, hS.F ht⟩) hS.2.2 dX7_why_78
        · have hF := k_if_t hF hc
          refine lv_iload hx hb dX7_why_67 (lv_at hl 0 rfl) ?_
          refine lv_iconst (v := (4 : Int32)) hx hb dX7_why_69 (by decide) ?_
          obtain ⟨hz, hF⟩ := k_nz_ex hF
          refine lv_irem hx hb dX7_why_70 hz ?_
          refine lv_goto (tgt := 78) hx hb dX7_why_71 (by decide) ?_
          exact W.iret hx hb hr (fun t ht hW => ⟨⟨_, (), rfl, Option.some.inj hF, trivial⟩, hS.F ht⟩) hS.2.2 dX7_why_78
      · have hF := k_if_t hF hc
        refine lv_iload hx hb dX7_why_50 (lv_at hl 7 rfl) ?_
        refine lv_if_ne (tgt := 59) hx hb dX7_why_52 (by decide) (fun hc => ?_) (fun hc => ?_)
        · have hF := k_if_f hF hc
          refine lv_bipush (v := (-6 : Int32)) hx hb dX7_why_59 (by decide) ?_
          exact W.iret hx hb hr (fun t ht hW => ⟨⟨_, (), rfl, Option.some.inj hF, trivial⟩, hS.F ht⟩) hS.2.2 dX7_why_61
        · have hF := k_if_t hF hc
          refine lv_iconst (v := (0 : Int32)) hx hb dX7_why_55 (by decide) ?_
          refine lv_goto (tgt := 61) hx hb dX7_why_56 (by decide) ?_
          exact W.iret hx hb hr (fun t ht hW => ⟨⟨_, (), rfl, Option.some.inj hF, trivial⟩, hS.F ht⟩) hS.2.2 dX7_why_61
    · have hF := k_if_t hF hc
      refine lv_bipush (v := (-2 : Int32)) hx hb dX7_why_29 (by decide) ?_
      exact W.iret hx hb hr (fun t ht hW => ⟨⟨_, (), rfl, Option.some.inj hF, trivial⟩, hS.F ht⟩) hS.2.2 dX7_why_31
  · have hF := k_if_f hF hc
    refine lv_iload hx hb dX7_why_16 (lv_at hl 0 rfl) ?_
    exact W.iret hx hb hr (fun t ht hW => ⟨⟨_, (), rfl, Option.some.inj hF, trivial⟩, hS.F ht⟩) hS.2.2 dX7_why_18
set_option maxHeartbeats 4000000 in
set_option maxRecDepth 100000 in
theorem c_X7_least (l : Launch) (D : va_G) (cyI cyZ : ClassId) (bM bN bQ bS bH bP bT : Nat) (N : Nat) (x1 : Int32) (x2 : Int32) (x3 : Int32) (us : Int32) (up : Int32) (ue : Int32) (ut : Int32) (um : Int32) (un : (Nat → Int32)) {r0 : Int32}  (hF : p_X7_least N x1 x2 x3 us up ue ut um un = some (r0)) : Met l yX7_least wsX7_least ({ frames := 3, cells := 0, slots := 0, locals := 75 }) (x_PR D cyI cyZ [.ref bM, .int x1, .int x2, .int x3] [(bM, .inr (7, [.ref bN, .ref bQ, .int us, .ref bS, .ref bH, .ref bP, .int up, .int ue, .int ut, .ref bT, .int um])), (bN, .inl (cyI, 225, .inl un))]) (x_QR r0) 0 0 (fun _ => False) := by
  refine Met.ofW (cc := cX7_least) (maxL := 5) (ret := (some .int)) (by decide) rfl ?_
  intro p e s m args below meth c s₁ B hml hv
  obtain ⟨rfl, hP, hK⟩ := hv
  have hx := B.exec
  have hb := B.bytes
  have hr := B.returns
  have hts := atoms_spec (ws := wsX7_least) B.pre
  have hown : s.vm.findClass RX7 = some m.cls := findClass_of_methodNamed B.named
  have hlocks := B.notSynchronized
  have hS : va_S (fun _ => False) s.heap s.heap [] := va_S.rf
  have hP : va_P D vwCl [(bM, .inr (7, [.ref bN, .ref bQ, .int us, .ref bS, .ref bH, .ref bP, .int up, .int ue, .int ut, .ref bT, .int um])), (bN, .inl (cyI, 225, .inl un))] s.heap := hP
  have hl := lv_entry ([.ref bM, .int x1, .int x2, .int x3]) (n := 5) (Nat.le_of_ble_eq_true rfl)
  rw [lg_entry_eq]
  generalize (lg_sl ([.ref bM, .int x1, .int x2, .int x3]) ++ List.replicate (5 - (lg_sl ([.ref bM, .int x1, .int x2, .int x3])).length) Slot.unset).toArray = ls at hl ⊢
  have hl : lv_has ls 5 [(0, .ref bM), (1, .int x1), (2, .int x2), (3, .int x3)] := hl
  refine x_gen (fun G hG => ?_)
  have blk_3 : ∀ (n_3 : Nat) (x1 : Int32) (x2 : Int32) (x3 : Int32) (x4 : Int32), f_X7_least_3 N n_3 x1 x2 x3 x4 us up ue ut um un = some (r0) → ∀ (H : Heap) (locs : List Loc) (ls : Array Slot), va_P D vwCl [(bM, .inr (7, [.ref bN, .ref bQ, .int us, .ref bS, .ref bH, .ref bP, .int up, .int ue, .int ut, .ref bT, .int um])), (bN, .inl (cyI, 225, .inl un))] H → va_S (fun _ => False) s.heap H locs → lv_has ls 5 [(0, .ref bM), (1, .int x1), (2, .int x2), (3, .int x3), (4, .int x4)] → G H locs (F0 m 3 ls []) := by
    intro n_3
    induction n_3 with
    | zero => intro x1 x2 x3 x4 hF; exact (k_none hF).elim
    | succ n_3 ih_3 =>
      intro x1 x2 x3 x4 hF H locs ls hP hS hl
      replace hF : b_X7_least_3 N (f_X7_least_3 N n_3) x1 x2 x3 x4 us up ue ut um un = some (r0) := hF
      unfold b_X7_least_3 at hF
      refine (hG _ _ _).2 ?_
      refine lv_iload hx hb dX7_least_3 (lv_at hl 4 rfl) ?_
      refine lv_bipush (v := (30 : Int32)) hx hb dX7_least_5 (by decide) ?_
      refine lv_icmp_gt (tgt := 33) hx hb dX7_least_7 (by decide) (fun hc => ?_) (fun hc => ?_)
      · have hF := k_if_t hF hc
        refine lv_bipush (v := (-6 : Int32)) hx hb dX7_least_33 (by decide) ?_
        exact W.iret hx hb hr (fun t ht hW => ⟨⟨_, (), rfl, Option.some.inj hF, trivial⟩, hS.F ht⟩) hS.2.2 dX7_least_35
      · have hF := k_if_f hF hc
        refine lv_aload_n hx hb dX7_least_10 rfl (lv_at hl 0 rfl) ?_
        refine lv_iload_n hx hb dX7_least_11 rfl (lv_at hl 1 rfl) ?_
        refine lv_iload_n hx hb dX7_least_12 rfl (lv_at hl 2 rfl) ?_
        refine lv_iload_n hx hb dX7_least_13 rfl (lv_at hl 3 rfl) ?_
        refine lv_iload hx hb dX7_least_14 (lv_at hl 4 rfl) ?_
        obtain ⟨r16, hC, hF⟩ := k_c1_ex hF
        refine x_VR (As := [.int x1, .int x2, .int x3, .int x4]) (rest := []) ⟨hx, hb, hml, hown, hts⟩ (c_X7_against l D cyI cyZ bM bN bQ bS bH bP bT N x1 x2 x3 x4 us up ue ut um un hC) (cwV 4 hts gX7_least_X7_against rfl rfl rfl (by decide +kernel) ⟨Nat.le_of_ble_eq_true rfl, Nat.le_of_ble_eq_true rfl⟩) hK hP hS [0, 1] rfl 0 rfl rfl rfl rfl hl.1 rfl (Nat.le_of_ble_eq_true rfl) ⟨Nat.zero_le _, Nat.zero_le _⟩ dX7_least_16 (fun H locs hP hS => ?_)
        refine lv_bipush (v := (-6 : Int32)) hx hb dX7_least_19 (by decide) ?_
        refine lv_icmp_ne (tgt := 27) hx hb dX7_least_21 (by decide) (fun hc => ?_) (fun hc => ?_)
        · have hF := k_if_f hF hc
          obtain ⟨x4_27, hn, hF⟩ := k_let_ex hF
          refine lv_iinc (v := x4_27) (lv' := [(4, .int x4_27), (0, .ref bM), (1, .int x1), (2, .int x2), (3, .int x3)]) hx hb dX7_least_27 hl (k := 4) rfl (by rw [hn]; rfl) (by decide) rfl (fun ls hl => ?_)
          refine lv_goto (tgt := 3) hx hb dX7_least_30 (by decide) ?_
          exact (hG _ _ _).1 (ih_3 x1 x2 x3 x4_27 hF _ _ _ hP hS (lv_sub hl [1, 2, 3, 4, 0] rfl))
        · have hF := k_if_t hF hc
          refine lv_iload hx hb dX7_least_24 (lv_at hl 4 rfl) ?_
          exact W.iret hx hb hr (fun t ht hW => ⟨⟨_, (), rfl, Option.some.inj hF, trivial⟩, hS.F ht⟩) hS.2.2 dX7_least_26
  refine (hG _ _ _).2 ?_
  unfold p_X7_least at hF
  refine lv_iconst (v := (0 : Int32)) hx hb dX7_least_0 (by decide) ?_
  refine lv_istore (lv' := [(4, .int (0 : Int32)), (0, .ref bM), (1, .int x1), (2, .int x2), (3, .int x3)]) hx hb dX7_least_1 hl (by decide) rfl (fun ls hl => ?_)
  exact (hG _ _ _).1 (blk_3 N x1 x2 x3 (0 : Int32) hF _ _ _ hP hS (lv_sub hl [1, 2, 3, 4, 0] rfl))
set_option maxHeartbeats 4000000 in
set_option maxRecDepth 100000 in
theorem c_X7_leastGap (l : Launch) (D : va_G) (cyI cyZ : ClassId) (bM bN bQ bS bH bP bT : Nat) (N : Nat) (x1 : Int32) (x2 : Int32) (x3 : Int32) (us : Int32) (up : Int32) (ue : Int32) (ut : Int32) (um : Int32) (un : (Nat → Int32)) {r0 : Int32}  (hF : p_X7_leastGap N x1 x2 x3 us up ue ut um un = some (r0)) : Met l yX7_leastGap wsX7_leastGap ({ frames := 4, cells := 0, slots := 0, locals := 99 }) (x_PR D cyI cyZ [.ref bM, .int x1, .int x2, .int x3] [(bM, .inr (7, [.ref bN, .ref bQ, .int us, .ref bS, .ref bH, .ref bP, .int up, .int ue, .int ut, .ref bT, .int um])), (bN, .inl (cyI, 225, .inl un))]) (x_QR r0) 0 0 (fun _ => False) := by
  refine Met.ofW (cc := cX7_leastGap) (maxL := 5) (ret := (some .int)) (by decide) rfl ?_
  intro p e s m args below meth c s₁ B hml hv
  obtain ⟨rfl, hP, hK⟩ := hv
  have hx := B.exec
  have hb := B.bytes
  have hr := B.returns
  have hts := atoms_spec (ws := wsX7_leastGap) B.pre
  have hown : s.vm.findClass RX7 = some m.cls := findClass_of_methodNamed B.named
  have hlocks := B.notSynchronized
  have hS : va_S (fun _ => False) s.heap s.heap [] := va_S.rf
  have hP : va_P D vwCl [(bM, .inr (7, [.ref bN, .ref bQ, .int us, .ref bS, .ref bH, .ref bP, .int up, .int ue, .int ut, .ref bT, .int um])), (bN, .inl (cyI, 225, .inl un))] s.heap := hP
  have hl := lv_entry ([.ref bM, .int x1, .int x2, .int x3]) (n := 5) (Nat.le_of_ble_eq_true rfl)
  rw [lg_entry_eq]
  generalize (lg_sl ([.ref bM, .int x1, .int x2, .int x3]) ++ List.replicate (5 - (lg_sl ([.ref bM, .int x1, .int x2, .int x3])).length) Slot.unset).toArray = ls at hl ⊢
  have hl : lv_has ls 5 [(0, .ref bM), (1, .int x1), (2, .int x2), (3, .int x3)] := hl
  unfold p_X7_leastGap at hF
  refine lv_aload_n hx hb dX7_leastGap_0 rfl (lv_at hl 0 rfl) ?_
  refine lv_iload_n hx hb dX7_leastGap_1 rfl (lv_at hl 1 rfl) ?_
  refine lv_iload_n hx hb dX7_leastGap_2 rfl (lv_at hl 2 rfl) ?_
  refine lv_iload_n hx hb dX7_leastGap_3 rfl (lv_at hl 3 rfl) ?_
  refine lv_iconst (v := (0 : Int32)) hx hb dX7_leastGap_4 (by decide) ?_
  obtain ⟨r5, hC, hF⟩ := k_c1_ex hF
  refine x_VR (As := [.int x1, .int x2, .int x3, .int (0 : Int32)]) (rest := []) ⟨hx, hb, hml, hown, hts⟩ (c_X7_pairError l D cyI cyZ bM bN bQ bS bH bP bT N x1 x2 x3 (0 : Int32) us up ue ut um un hC) (cwV 4 hts gX7_leastGap_X7_pairError rfl rfl rfl (by decide +kernel) ⟨Nat.le_of_ble_eq_true rfl, Nat.le_of_ble_eq_true rfl⟩) hK hP hS [0, 1] rfl 0 rfl rfl rfl rfl hl.1 rfl (Nat.le_of_ble_eq_true rfl) ⟨Nat.zero_le _, Nat.zero_le _⟩ dX7_leastGap_5 (fun H locs hP hS => ?_)
  refine lv_istore (lv' := [(4, .int r5), (0, .ref bM), (1, .int x1), (2, .int x2), (3, .int x3)]) hx hb dX7_leastGap_8 hl (by decide) rfl (fun ls hl => ?_)
  refine lv_iload hx hb dX7_leastGap_10 (lv_at hl 0 rfl) ?_
  refine lv_if_ge (tgt := 20) hx hb dX7_leastGap_12 (by decide) (fun hc => ?_) (fun hc => ?_)
  · have hF := k_if_t hF hc
    refine lv_aload_n hx hb dX7_leastGap_20 rfl (lv_at hl 1 rfl) ?_
    refine lv_iload_n hx hb dX7_leastGap_21 rfl (lv_at hl 2 rfl) ?_
    refine lv_iload_n hx hb dX7_leastGap_22 rfl (lv_at hl 3 rfl) ?_
    refine lv_iload_n hx hb dX7_leastGap_23 rfl (lv_at hl 4 rfl) ?_
    obtain ⟨r24, hC, hF⟩ := k_c1_ex hF
    refine x_VR (As := [.int x1, .int x2, .int x3]) (rest := []) ⟨hx, hb, hml, hown, hts⟩ (c_X7_least l D cyI cyZ bM bN bQ bS bH bP bT N x1 x2 x3 us up ue ut um un hC) (cwV 3 hts gX7_leastGap_X7_least rfl rfl rfl (by decide +kernel) ⟨Nat.le_of_ble_eq_true rfl, Nat.le_of_ble_eq_true rfl⟩) hK hP hS [0, 1] rfl 0 rfl rfl rfl rfl hl.1 rfl (Nat.le_of_ble_eq_true rfl) ⟨Nat.zero_le _, Nat.zero_le _⟩ dX7_leastGap_24 (fun H locs hP hS => ?_)
    exact W.iret hx hb hr (fun t ht hW => ⟨⟨_, (), rfl, Option.some.inj hF, trivial⟩, hS.F ht⟩) hS.2.2 dX7_leastGap_27
  · have hF := k_if_f hF hc
    refine lv_iload hx hb dX7_leastGap_15 (lv_at hl 0 rfl) ?_
    refine lv_goto (tgt := 27) hx hb dX7_leastGap_17 (by decide) ?_
    exact W.iret hx hb hr (fun t ht hW => ⟨⟨_, (), rfl, Option.some.inj hF, trivial⟩, hS.F ht⟩) hS.2.2 dX7_leastGap_27
set_option maxHeartbeats 4000000 in
set_option maxRecDepth 100000 in
theorem c_X7_bestOffset (l : Launch) (D : va_G) (cyI cyZ : ClassId) (bM bN bQ bS bH bP bT : Nat) (N : Nat) (x1 : Int32) (x2 : Int32) (x3 : Int32) (us : Int32) (up : Int32) (ue : Int32) (ut : Int32) (um : Int32) (un : (Nat → Int32)) {r0 : Int32}  (hF : p_X7_bestOffset N x1 x2 x3 us up ue ut um un = some (r0)) : Met l yX7_bestOffset wsX7_bestOffset ({ frames := 4, cells := 0, slots := 0, locals := 99 }) (x_PR D cyI cyZ [.ref bM, .int x1, .int x2, .int x3] [(bM, .inr (7, [.ref bN, .ref bQ, .int us, .ref bS, .ref bH, .ref bP, .int up, .int ue, .int ut, .ref bT, .int um])), (bN, .inl (cyI, 225, .inl un))]) (x_QR r0) 0 0 (fun _ => False) := by
  refine Met.ofW (cc := cX7_bestOffset) (maxL := 10) (ret := (some .int)) (by decide) rfl ?_
  intro p e s m args below meth c s₁ B hml hv
  obtain ⟨rfl, hP, hK⟩ := hv
  have hx := B.exec
  have hb := B.bytes
  have hr := B.returns
  have hts := atoms_spec (ws := wsX7_bestOffset) B.pre
  have hown : s.vm.findClass RX7 = some m.cls := findClass_of_methodNamed B.named
  have hlocks := B.notSynchronized
  have hS : va_S (fun _ => False) s.heap s.heap [] := va_S.rf
  have hP : va_P D vwCl [(bM, .inr (7, [.ref bN, .ref bQ, .int us, .ref bS, .ref bH, .ref bP, .int up, .int ue, .int ut, .ref bT, .int um])), (bN, .inl (cyI, 225, .inl un))] s.heap := hP
  have hl := lv_entry ([.ref bM, .int x1, .int x2, .int x3]) (n := 10) (Nat.le_of_ble_eq_true rfl)
  rw [lg_entry_eq]
  generalize (lg_sl ([.ref bM, .int x1, .int x2, .int x3]) ++ List.replicate (10 - (lg_sl ([.ref bM, .int x1, .int x2, .int x3])).length) Slot.unset).toArray = ls at hl ⊢
  have hl : lv_has ls 10 [(0, .ref bM), (1, .int x1), (2, .int x2), (3, .int x3)] := hl
  refine x_gen (fun G hG => ?_)
  have blk_41 : ∀ (n_41 : Nat) (x1 : Int32) (x2 : Int32) (x3 : Int32) (x5 : Int32) (x6 : Int32) (x7 : Int32), f_X7_bestOffset_41 N n_41 x1 x2 x3 x5 x6 x7 us up ue ut um un = some (r0) → ∀ (H : Heap) (locs : List Loc) (ls : Array Slot), va_P D vwCl [(bM, .inr (7, [.ref bN, .ref bQ, .int us, .ref bS, .ref bH, .ref bP, .int up, .int ue, .int ut, .ref bT, .int um])), (bN, .inl (cyI, 225, .inl un))] H → va_S (fun _ => False) s.heap H locs → lv_has ls 10 [(0, .ref bM), (1, .int x1), (2, .int x2), (3, .int x3), (5, .int x5), (6, .int x6), (7, .int x7)] → G H locs (F0 m 41 ls []) := by
    intro n_41
    induction n_41 with
    | zero => intro x1 x2 x3 x5 x6 x7 hF; exact (k_none hF).elim
    | succ n_41 ih_41 =>
      have blk_84 : ∀ (x1 : Int32) (x2 : Int32) (x3 : Int32) (x5 : Int32) (x6 : Int32) (x7 : Int32) (x8 : Int32) (t0 : Int32), b_X7_bestOffset_84 N (f_X7_bestOffset_41 N n_41) x1 x2 x3 x5 x6 x7 x8 t0 us up ue ut um un = some (r0) → ∀ (H : Heap) (locs : List Loc) (ls : Array Slot), va_P D vwCl [(bM, .inr (7, [.ref bN, .ref bQ, .int us, .ref bS, .ref bH, .ref bP, .int up, .int ue, .int ut, .ref bT, .int um])), (bN, .inl (cyI, 225, .inl un))] H → va_S (fun _ => False) s.heap H locs → lv_has ls 10 [(0, .ref bM), (1, .int x1), (2, .int x2), (3, .int x3), (5, .int x5), (6, .int x6), (7, .int x7), (8, .int x8)] → G H locs (F0 m 84 ls [.int t0]) := by
        intro x1 x2 x3 x5 x6 x7 x8 t0 hF H locs ls hP hS hl
        unfold b_X7_bestOffset_84 at hF
        refine (hG _ _ _).2 ?_
        refine lv_istore (lv' := [(9, .int t0), (0, .ref bM), (1, .int x1), (2, .int x2), (3, .int x3), (5, .int x5), (6, .int x6), (7, .int x7), (8, .int x8)]) hx hb dX7_bestOffset_84 hl (by decide) rfl (fun ls hl => ?_)
        refine lv_iload hx hb dX7_bestOffset_86 (lv_at hl 0 rfl) ?_
        refine lv_if_eq (tgt := 96) hx hb dX7_bestOffset_88 (by decide) (fun hc => ?_) (fun hc => ?_)
        · have hF := k_if_t hF hc
          refine lv_iload hx hb dX7_bestOffset_96 (lv_at hl 5 rfl) ?_
          refine lv_istore (lv' := [(5, .int x5), (9, .int t0), (0, .ref bM), (1, .int x1), (2, .int x2), (3, .int x3), (6, .int x6), (7, .int x7), (8, .int x8)]) hx hb dX7_bestOffset_98 hl (by decide) rfl (fun ls hl => ?_)
          refine lv_iload hx hb dX7_bestOffset_100 (lv_at hl 1 rfl) ?_
          refine lv_if_eq (tgt := 110) hx hb dX7_bestOffset_102 (by decide) (fun hc => ?_) (fun hc => ?_)
          · have hF := k_if_t hF hc
            refine lv_iload hx hb dX7_bestOffset_110 (lv_at hl 6 rfl) ?_
            refine lv_istore (lv' := [(6, .int x6), (5, .int x5), (9, .int t0), (0, .ref bM), (1, .int x1), (2, .int x2), (3, .int x3), (7, .int x7), (8, .int x8)]) hx hb dX7_bestOffset_112 hl (by decide) rfl (fun ls hl => ?_)
            obtain ⟨x7_114, hn, hF⟩ := k_let_ex hF
            refine lv_iinc (v := x7_114) (lv' := [(7, .int x7_114), (6, .int x6), (5, .int x5), (9, .int t0), (0, .ref bM), (1, .int x1), (2, .int x2), (3, .int x3), (8, .int x8)]) hx hb dX7_bestOffset_114 hl (k := 7) rfl (by rw [hn]; rfl) (by decide) rfl (fun ls hl => ?_)
            refine lv_goto (tgt := 41) hx hb dX7_bestOffset_117 (by decide) ?_
            exact (hG _ _ _).1 (ih_41 x1 x2 x3 x5 x6 x7_114 hF _ _ _ hP hS (lv_sub hl [4, 5, 6, 7, 2, 1, 0] rfl))
          · have hF := k_if_f hF hc
            refine lv_iload hx hb dX7_bestOffset_105 (lv_at hl 8 rfl) ?_
            refine lv_goto (tgt := 112) hx hb dX7_bestOffset_107 (by decide) ?_
            refine lv_istore (lv' := [(6, .int x8), (5, .int x5), (9, .int t0), (0, .ref bM), (1, .int x1), (2, .int x2), (3, .int x3), (7, .int x7), (8, .int x8)]) hx hb dX7_bestOffset_112 hl (by decide) rfl (fun ls hl => ?_)
            obtain ⟨x7_114, hn, hF⟩ := k_let_ex hF
            refine lv_iinc (v := x7_114) (lv' := [(7, .int x7_114), (6, .int x8), (5, .int x5), (9, .int t0), (0, .ref bM), (1, .int x1), (2, .int x2), (3, .int x3), (8, .int x8)]) hx hb dX7_bestOffset_114 hl (k := 7) rfl (by rw [hn]; rfl) (by decide) rfl (fun ls hl => ?_)
            refine lv_goto (tgt := 41) hx hb dX7_bestOffset_117 (by decide) ?_
            exact (hG _ _ _).1 (ih_41 x1 x2 x3 x5 x8 x7_114 hF _ _ _ hP hS (lv_sub hl [4, 5, 6, 7, 2, 1, 0] rfl))
        · have hF := k_if_f hF hc
          refine lv_iload hx hb dX7_bestOffset_91 (lv_at hl 7 rfl) ?_
          refine lv_goto (tgt := 98) hx hb dX7_bestOffset_93 (by decide) ?_
          refine lv_istore (lv' := [(5, .int x7), (9, .int t0), (0, .ref bM), (1, .int x1), (2, .int x2), (3, .int x3), (6, .int x6), (7, .int x7), (8, .int x8)]) hx hb dX7_bestOffset_98 hl (by decide) rfl (fun ls hl => ?_)
          refine lv_iload hx hb dX7_bestOffset_100 (lv_at hl 1 rfl) ?_
          refine lv_if_eq (tgt := 110) hx hb dX7_bestOffset_102 (by decide) (fun hc => ?_) (fun hc => ?_)
          · have hF := k_if_t hF hc
            refine lv_iload hx hb dX7_bestOffset_110 (lv_at hl 6 rfl) ?_
            refine lv_istore (lv' := [(6, .int x6), (5, .int x7), (9, .int t0), (0, .ref bM), (1, .int x1), (2, .int x2), (3, .int x3), (7, .int x7), (8, .int x8)]) hx hb dX7_bestOffset_112 hl (by decide) rfl (fun ls hl => ?_)
            obtain ⟨x7_114, hn, hF⟩ := k_let_ex hF
            refine lv_iinc (v := x7_114) (lv' := [(7, .int x7_114), (6, .int x6), (5, .int x7), (9, .int t0), (0, .ref bM), (1, .int x1), (2, .int x2), (3, .int x3), (8, .int x8)]) hx hb dX7_bestOffset_114 hl (k := 7) rfl (by rw [hn]; rfl) (by decide) rfl (fun ls hl => ?_)
            refine lv_goto (tgt := 41) hx hb dX7_bestOffset_117 (by decide) ?_
            exact (hG _ _ _).1 (ih_41 x1 x2 x3 x7 x6 x7_114 hF _ _ _ hP hS (lv_sub hl [4, 5, 6, 7, 2, 1, 0] rfl))
          · have hF := k_if_f hF hc
            refine lv_iload hx hb dX7_bestOffset_105 (lv_at hl 8 rfl) ?_
            refine lv_goto (tgt := 112) hx hb dX7_bestOffset_107 (by decide) ?_
            refine lv_istore (lv' := [(6, .int x8), (5, .int x7), (9, .int t0), (0, .ref bM), (1, .int x1), (2, .int x2), (3, .int x3), (7, .int x7), (8, .int x8)]) hx hb dX7_bestOffset_112 hl (by decide) rfl (fun ls hl => ?_)
            obtain ⟨x7_114, hn, hF⟩ := k_let_ex hF
            refine lv_iinc (v := x7_114) (lv' := [(7, .int x7_114), (6, .int x8), (5, .int x7), (9, .int t0), (0, .ref bM), (1, .int x1), (2, .int x2), (3, .int x3), (8, .int x8)]) hx hb dX7_bestOffset_114 hl (k := 7) rfl (by rw [hn]; rfl) (by decide) rfl (fun ls hl => ?_)
            refine lv_goto (tgt := 41) hx hb dX7_bestOffset_117 (by decide) ?_
            exact (hG _ _ _).1 (ih_41 x1 x2 x3 x7 x8 x7_114 hF _ _ _ hP hS (lv_sub hl [4, 5, 6, 7, 2, 1, 0] rfl))
      intro x1 x2 x3 x5 x6 x7 hF H locs ls hP hS hl
      replace hF : b_X7_bestOffset_41 N (f_X7_bestOffset_41 N n_41) x1 x2 x3 x5 x6 x7 us up ue ut um un = some (r0) := hF
      unfold b_X7_bestOffset_41 at hF
      refine (hG _ _ _).2 ?_
      refine lv_iload hx hb dX7_bestOffset_41 (lv_at hl 6 rfl) ?_
      refine lv_bipush (v := (24 : Int32)) hx hb dX7_bestOffset_43 (by decide) ?_
      refine lv_icmp_ge (tgt := 120) hx hb dX7_bestOffset_45 (by decide) (fun hc => ?_) (fun hc => ?_)
      · have hF := k_if_t hF hc
        refine lv_iload_n hx hb dX7_bestOffset_120 rfl (lv_at hl 3 rfl) ?_
        refine lv_if_ne (tgt := 129) hx hb dX7_bestOffset_121 (by decide) (fun hc => ?_) (fun hc => ?_)
        · have hF := k_if_f hF hc
          refine lv_iload hx hb dX7_bestOffset_129 (lv_at hl 5 rfl) ?_
          exact W.iret hx hb hr (fun t ht hW => ⟨⟨_, (), rfl, Option.some.inj hF, trivial⟩, hS.F ht⟩) hS.2.2 dX7_bestOffset_131
        · have hF := k_if_t hF hc
          refine lv_iload hx hb dX7_bestOffset_124 (lv_at hl 4 rfl) ?_
          refine lv_goto (tgt := 131) hx hb dX7_bestOffset_126 (by decide) ?_
          exact W.iret hx hb hr (fun t ht hW => ⟨⟨_, (), rfl, Option.some.inj hF, trivial⟩, hS.F ht⟩) hS.2.2 dX7_bestOffset_131
      · have hF := k_if_f hF hc
        refine lv_aload_n hx hb dX7_bestOffset_48 rfl (lv_at hl 0 rfl) ?_
        refine lv_iload_n hx hb dX7_bestOffset_49 rfl (lv_at hl 1 rfl) ?_
        refine lv_iload_n hx hb dX7_bestOffset_50 rfl (lv_at hl 2 rfl) ?_
        refine lv_iload hx hb dX7_bestOffset_51 (lv_at hl 6 rfl) ?_
        obtain ⟨r53, hC, hF⟩ := k_c1_ex hF
        refine x_VR (As := [.int x1, .int x2, .int x7]) (rest := []) ⟨hx, hb, hml, hown, hts⟩ (c_X7_least l D cyI cyZ bM bN bQ bS bH bP bT N x1 x2 x7 us up ue ut um un hC) (cwV 3 hts gX7_bestOffset_X7_least rfl rfl rfl (by decide +kernel) ⟨Nat.le_of_ble_eq_true rfl, Nat.le_of_ble_eq_true rfl⟩) hK hP hS [0, 1] rfl 0 rfl rfl rfl rfl hl.1 rfl (Nat.le_of_ble_eq_true rfl) ⟨Nat.zero_le _, Nat.zero_le _⟩ dX7_bestOffset_53 (fun H locs hP hS => ?_)
        refine lv_istore (lv' := [(8, .int r53), (0, .ref bM), (1, .int x1), (2, .int x2), (3, .int x3), (5, .int x5), (6, .int x6), (7, .int x7)]) hx hb dX7_bestOffset_56 hl (by decide) rfl (fun ls hl => ?_)
        refine lv_iload hx hb dX7_bestOffset_58 (lv_at hl 0 rfl) ?_
        refine lv_bipush (v := (-6 : Int32)) hx hb dX7_bestOffset_60 (by decide) ?_
        refine lv_icmp_eq (tgt := 83) hx hb dX7_bestOffset_62 (by decide) (fun hc => ?_) (fun hc => ?_)
        · have hF := k_if_t hF hc
          refine lv_iconst (v := (0 : Int32)) hx hb dX7_bestOffset_83 (by decide) ?_
          exact (hG _ _ _).1 (blk_84 x1 x2 x3 x5 x6 x7 r53 (0 : Int32) hF _ _ _ hP hS (lv_sub hl [1, 2, 3, 4, 5, 6, 7, 0] rfl))
        · have hF := k_if_f hF hc
          refine lv_iload hx hb dX7_bestOffset_65 (lv_at hl 5 rfl) ?_
          refine lv_bipush (v := (-6 : Int32)) hx hb dX7_bestOffset_67 (by decide) ?_
          refine lv_icmp_eq (tgt := 79) hx hb dX7_bestOffset_69 (by decide) (fun hc => ?_) (fun hc => ?_)
          · have hF := k_if_t hF hc
            refine lv_iconst (v := (1 : Int32)) hx hb dX7_bestOffset_79 (by decide) ?_
            refine lv_goto (tgt := 84) hx hb dX7_bestOffset_80 (by decide) ?_
            exact (hG _ _ _).1 (blk_84 x1 x2 x3 x5 x6 x7 r53 (1 : Int32) hF _ _ _ hP hS (lv_sub hl [1, 2, 3, 4, 5, 6, 7, 0] rfl))
          · have hF := k_if_f hF hc
            refine lv_iload hx hb dX7_bestOffset_72 (lv_at hl 0 rfl) ?_
            refine lv_iload hx hb dX7_bestOffset_74 (lv_at hl 6 rfl) ?_
            refine lv_icmp_ge (tgt := 83) hx hb dX7_bestOffset_76 (by decide) (fun hc => ?_) (fun hc => ?_)
            · have hF := k_if_t hF hc
              refine lv_iconst (v := (0 : Int32)) hx hb dX7_bestOffset_83 (by decide) ?_
              exact (hG _ _ _).1 (blk_84 x1 x2 x3 x5 x6 x7 r53 (0 : Int32) hF _ _ _ hP hS (lv_sub hl [1, 2, 3, 4, 5, 6, 7, 0] rfl))
            · have hF := k_if_f hF hc
              refine lv_iconst (v := (1 : Int32)) hx hb dX7_bestOffset_79 (by decide) ?_
              refine lv_goto (tgt := 84) hx hb dX7_bestOffset_80 (by decide) ?_
              exact (hG _ _ _).1 (blk_84 x1 x2 x3 x5 x6 x7 r53 (1 : Int32) hF _ _ _ hP hS (lv_sub hl [1, 2, 3, 4, 5, 6, 7, 0] rfl))
  refine (hG _ _ _).2 ?_
  unfold p_X7_bestOffset at hF
  refine lv_aload_n hx hb dX7_bestOffset_0 rfl (lv_at hl 0 rfl) ?_
  refine lv_iload_n hx hb dX7_bestOffset_1 rfl (lv_at hl 1 rfl) ?_
  refine lv_iload_n hx hb dX7_bestOffset_2 rfl (lv_at hl 2 rfl) ?_
  refine lv_iconst (v := (0 : Int32)) hx hb dX7_bestOffset_3 (by decide) ?_
  refine lv_iconst (v := (0 : Int32)) hx hb dX7_bestOffset_4 (by decide) ?_
  obtain ⟨r5, hC, hF⟩ := k_c1_ex hF
  refine x_VR (As := [.int x1, .int x2, .int (0 : Int32), .int (0 : Int32)]) (rest := []) ⟨hx, hb, hml, hown, hts⟩ (c_X7_pairError l D cyI cyZ bM bN bQ bS bH bP bT N x1 x2 (0 : Int32) (0 : Int32) us up ue ut um un hC) (cwV 4 hts gX7_bestOffset_X7_pairError rfl rfl rfl (by decide +kernel) ⟨Nat.le_of_ble_eq_true rfl, Nat.le_of_ble_eq_true rfl⟩) hK hP hS [0, 1] rfl 0 rfl rfl rfl rfl hl.1 rfl (Nat.le_of_ble_eq_true rfl) ⟨Nat.zero_le _, Nat.zero_le _⟩ dX7_bestOffset_5 (fun H locs hP hS => ?_)
  refine lv_istore (lv' := [(4, .int r5), (0, .ref bM), (1, .int x1), (2, .int x2), (3, .int x3)]) hx hb dX7_bestOffset_8 hl (by decide) rfl (fun ls hl => ?_)
  refine lv_iload hx hb dX7_bestOffset_10 (lv_at hl 0 rfl) ?_
  refine lv_if_ge (tgt := 18) hx hb dX7_bestOffset_12 (by decide) (fun hc => ?_) (fun hc => ?_)
  · have hF := k_if_t hF hc
    refine lv_iload_n hx hb dX7_bestOffset_18 rfl (lv_at hl 4 rfl) ?_
    refine lv_iconst (v := (0 : Int32)) hx hb dX7_bestOffset_19 (by decide) ?_
    refine lv_iconst (v := (1 : Int32)) hx hb dX7_bestOffset_20 (by decide) ?_
    obtain ⟨r21, hC, hF⟩ := k_c1_ex hF
    refine x_SR (As := [.int x3, .int (0 : Int32), .int (1 : Int32)]) (rest := []) ⟨hx, hb, hml, hown, hts⟩ (c_X7_in l D cyI cyZ N x3 (0 : Int32) (1 : Int32) hC) (va_cwS 3 hts gX7_bestOffset_X7_in rfl rfl rfl (by decide +kernel) ⟨Nat.le_of_ble_eq_true rfl, Nat.le_of_ble_eq_true rfl⟩) hK hP hS [] rfl rfl hl.1 rfl (Nat.le_of_ble_eq_true rfl) ⟨Nat.zero_le _, Nat.zero_le _⟩ dX7_bestOffset_21 (fun H locs hP hS => ?_)
    refine lv_if_ne (tgt := 30) hx hb dX7_bestOffset_24 (by decide) (fun hc => ?_) (fun hc => ?_)
    · have hF := k_if_f hF hc
      refine lv_bipush (v := (-6 : Int32)) hx hb dX7_bestOffset_30 (by decide) ?_
      refine lv_istore (lv' := [(5, .int (-6 : Int32)), (4, .int r5), (0, .ref bM), (1, .int x1), (2, .int x2), (3, .int x3)]) hx hb dX7_bestOffset_32 hl (by decide) rfl (fun ls hl => ?_)
      refine lv_bipush (v := (-6 : Int32)) hx hb dX7_bestOffset_34 (by decide) ?_
      refine lv_istore (lv' := [(6, .int (-6 : Int32)), (5, .int (-6 : Int32)), (4, .int r5), (0, .ref bM), (1, .int x1), (2, .int x2), (3, .int x3)]) hx hb dX7_bestOffset_36 hl (by decide) rfl (fun ls hl => ?_)
      refine lv_iconst (v := (0 : Int32)) hx hb dX7_bestOffset_38 (by decide) ?_
      refine lv_istore (lv' := [(7, .int (0 : Int32)), (6, .int (-6 : Int32)), (5, .int (-6 : Int32)), (4, .int r5), (0, .ref bM), (1, .int x1), (2, .int x2), (3, .int x3)]) hx hb dX7_bestOffset_39 hl (by decide) rfl (fun ls hl => ?_)
      exact (hG _ _ _).1 (blk_41 N x1 x2 x3 (-6 : Int32) (-6 : Int32) (0 : Int32) hF _ _ _ hP hS (lv_sub hl [4, 5, 6, 7, 2, 1, 0] rfl))
    · have hF := k_if_t hF hc
      refine lv_bipush (v := (-2 : Int32)) hx hb dX7_bestOffset_27 (by decide) ?_
      exact W.iret hx hb hr (fun t ht hW => ⟨⟨_, (), rfl, Option.some.inj hF, trivial⟩, hS.F ht⟩) hS.2.2 dX7_bestOffset_29
  · have hF := k_if_f hF hc
    refine lv_iload hx hb dX7_bestOffset_15 (lv_at hl 0 rfl) ?_
    exact W.iret hx hb hr (fun t ht hW => ⟨⟨_, (), rfl, Option.some.inj hF, trivial⟩, hS.F ht⟩) hS.2.2 dX7_bestOffset_17
theorem mm_X7_holds_1 : Cond.fieldLink RX7 62 "RollerMeshModel" "pressed" "I" ∈ wsX7_holds := List.mem_of_getElem? (i := 1) rfl
theorem mi_X7_holds_X7 : ∀ w ∈ wsX70, w ∈ wsX7_holds := fun _ h => List.mem_cons_of_mem _ (List.mem_append_right _ h)
set_option maxHeartbeats 4000000 in
set_option maxRecDepth 100000 in
theorem c_X7_holds (l : Launch) (D : va_G) (cyI cyZ : ClassId) (bM bN bQ bS bH bP bT : Nat) (sz : Nat) (N : Nat) (x1 : Int32) (x2 : Int32) (x3 : Int32) (x4 : Int32) (x5 : Int32) (us : Int32) (up : Int32) (ue : Int32) (ut : Int32) (um : Int32) (un : (Nat → Int32)) {r0 : Int32} {ue' : Int32} (hF : p_X7_holds N x1 x2 x3 x4 x5 us up ue ut um un = some (r0, ue')) : Met l yX7_holds wsX7_holds ({ frames := 2, cells := 0, slots := 0, locals := 47 }) (x_PM D cyI cyZ [.ref bM, .int x1, .int x2, .int x3, .int x4, .int x5] [(bM, .inr (7, [.ref bN, .ref bQ, .int us, .ref bS, .ref bH, .ref bP, .int up, .int ue, .int ut, .ref bT, .int um])), (bN, .inl (cyI, 225, .inl un))] sz) (x_QM D r0 (va_A [(bM, .inr (7, [.ref bN, .ref bQ, .int us, .ref bS, .ref bH, .ref bP, .int up, .int ue, .int ut, .ref bT, .int um])), (bN, .inl (cyI, 225, .inl un))] sz) [(bM, .inr (7, [.ref bN, .ref bQ, .int us, .ref bS, .ref bH, .ref bP, .int up, .int ue', .int ut, .ref bT, .int um])), (bN, .inl (cyI, 225, .inl un))]) 0 0 (va_A [(bM, .inr (7, [.ref bN, .ref bQ, .int us, .ref bS, .ref bH, .ref bP, .int up, .int ue, .int ut, .ref bT, .int um])), (bN, .inl (cyI, 225, .inl un))] sz) := by
  refine Met.ofW (cc := cX7_holds) (maxL := 9) (ret := (some .boolean)) (by decide) rfl ?_
  intro p e s m args below meth c s₁ B hml hv
  obtain ⟨rfl, hsz, hP, hK, hD0⟩ := hv
  have hx := B.exec
  have hb := B.bytes
  have hr := B.returns
  have hts := atoms_spec (ws := wsX7_holds) B.pre
  have hown : s.vm.findClass RX7 = some m.cls := findClass_of_methodNamed B.named
  have hlocks := B.notSynchronized
  subst hsz
  have hD := hD0.self (sz := s.heap.size)
  generalize hAe : va_A [(bM, .inr (7, [.ref bN, .ref bQ, .int us, .ref bS, .ref bH, .ref bP, .int up, .int ue, .int ut, .ref bT, .int um])), (bN, .inl (cyI, 225, .inl un))] s.heap.size = A at hD ⊢
  have hA : ∀ q : Nat, s.heap.size ≤ q → A q := fun q h => by rw [← hAe]; exact Or.inr h
  have hS : va_S A s.heap s.heap [] := va_S.rf
  have hP : va_P D vwCl [(bM, .inr (7, [.ref bN, .ref bQ, .int us, .ref bS, .ref bH, .ref bP, .int up, .int ue, .int ut, .ref bT, .int um])), (bN, .inl (cyI, 225, .inl un))] s.heap := hP
  have hl := lv_entry ([.ref bM, .int x1, .int x2, .int x3, .int x4, .int x5]) (n := 9) (Nat.le_of_ble_eq_true rfl)
  rw [lg_entry_eq]
  generalize (lg_sl ([.ref bM, .int x1, .int x2, .int x3, .int x4, .int x5]) ++ List.replicate (9 - (lg_sl ([.ref bM, .int x1, .int x2, .int x3, .int x4, .int x5])).length) Slot.unset).toArray = ls at hl ⊢
  have hl : lv_has ls 9 [(0, .ref bM), (1, .int x1), (2, .int x2), (3, .int x3), (4, .int x4), (5, .int x5)] := hl
  refine x_gen (fun G hG => ?_)
  have blk_20 : ∀ (n_20 : Nat) (x1 : Int32) (x2 : Int32) (x3 : Int32) (x4 : Int32) (x5 : Int32) (x6 : Int32) (x7 : Int32) (x8 : Int32) (ue : Int32), f_X7_holds_20 N n_20 x1 x2 x3 x4 x5 x6 x7 x8 us up ue ut um un = some (r0, ue') → ∀ (H : Heap) (locs : List Loc) (ls : Array Slot), va_P D vwCl [(bM, .inr (7, [.ref bN, .ref bQ, .int us, .ref bS, .ref bH, .ref bP, .int up, .int ue, .int ut, .ref bT, .int um])), (bN, .inl (cyI, 225, .inl un))] H → va_D A [(bM, .inr (7, [.ref bN, .ref bQ, .int us, .ref bS, .ref bH, .ref bP, .int up, .int ue, .int ut, .ref bT, .int um])), (bN, .inl (cyI, 225, .inl un))] → va_S A s.heap H locs → lv_has ls 9 [(0, .ref bM), (1, .int x1), (2, .int x2), (3, .int x3), (4, .int x4), (5, .int x5), (6, .int x6), (7, .int x7), (8, .int x8)] → G H locs (F0 m 20 ls []) := by
    intro n_20
    induction n_20 with
    | zero => intro x1 x2 x3 x4 x5 x6 x7 x8 ue hF; exact (k_none hF).elim
    | succ n_20 ih_20 =>
      intro x1 x2 x3 x4 x5 x6 x7 x8 ue hF H locs ls hP hD hS hl
      replace hF : b_X7_holds_20 N (f_X7_holds_20 N n_20) x1 x2 x3 x4 x5 x6 x7 x8 us up ue ut um un = some (r0, ue') := hF
      unfold b_X7_holds_20 at hF
      refine (hG _ _ _).2 ?_
      refine lv_iload hx hb dX7_holds_20 (lv_at hl 8 rfl) ?_
      refine lv_iload hx hb dX7_holds_22 (lv_at hl 6 rfl) ?_
      refine lv_icmp_ge (tgt := 66) hx hb dX7_holds_24 (by decide) (fun hc => ?_) (fun hc => ?_)
      · have hF := k_if_t hF hc
        refine lv_iload hx hb dX7_holds_66 (lv_at hl 7 rfl) ?_
        obtain ⟨hbit, hF⟩ := k_bit_ex hF
        obtain ⟨e0, e1⟩ := k_inj2 hF
        have hP9 : va_P D vwCl [(bM, .inr (7, [.ref bN, .ref bQ, .int us, .ref bS, .ref bH, .ref bP, .int up, .int ue', .int ut, .ref bT, .int um])), (bN, .inl (cyI, 225, .inl un))] H := by rw [← e1]; exact hP
        exact W.zret hx hb hr (congrArg Value.int hbit) (fun t ht hW => ⟨⟨_, (), rfl, e0, x_ret hP9 ht⟩, hS.F ht⟩) hS.2.2 dX7_holds_68
      · have hF := k_if_f hF hc
        refine lv_iload hx hb dX7_holds_27 (lv_at hl 7 rfl) ?_
        refine lv_if_eq (tgt := 66) hx hb dX7_holds_29 (by decide) (fun hc => ?_) (fun hc => ?_)
        · have hF := k_if_t hF hc
          refine lv_iload hx hb dX7_holds_66 (lv_at hl 7 rfl) ?_
          obtain ⟨hbit, hF⟩ := k_bit_ex hF
          obtain ⟨e0, e1⟩ := k_inj2 hF
          have hP9 : va_P D vwCl [(bM, .inr (7, [.ref bN, .ref bQ, .int us, .ref bS, .ref bH, .ref bP, .int up, .int ue', .int ut, .ref bT, .int um])), (bN, .inl (cyI, 225, .inl un))] H := by rw [← e1]; exact hP
          exact W.zret hx hb hr (congrArg Value.int hbit) (fun t ht hW => ⟨⟨_, (), rfl, e0, x_ret hP9 ht⟩, hS.F ht⟩) hS.2.2 dX7_holds_68
        · have hF := k_if_f hF hc
          refine lv_aload_n hx hb dX7_holds_32 rfl (lv_at hl 0 rfl) ?_
          refine lv_iload hx hb dX7_holds_33 (lv_at hl 5 rfl) ?_
          refine lv_aload_n hx hb dX7_holds_35 rfl (lv_at hl 0 rfl) ?_
          refine lv_iload_n hx hb dX7_holds_36 rfl (lv_at hl 1 rfl) ?_
          refine lv_iload_n hx hb dX7_holds_37 rfl (lv_at hl 2 rfl) ?_
          refine lv_iload_n hx hb dX7_holds_38 rfl (lv_at hl 3 rfl) ?_
          refine lv_iload hx hb dX7_holds_39 (lv_at hl 8 rfl) ?_
          obtain ⟨r41, hC, hF⟩ := k_c1_ex hF
          refine x_VR (As := [.int x1, .int x2, .int x3, .int x8]) (rest := [.int x5, .ref bM]) ⟨hx, hb, hml, hown, hts⟩ (c_X7_press l D cyI cyZ bM bN bQ bS bH bP bT N x1 x2 x3 x8 us up ue ut um un hC) (cwV 4 hts gX7_holds_X7_press rfl rfl rfl (by decide +kernel) ⟨Nat.le_of_ble_eq_true rfl, Nat.le_of_ble_eq_true rfl⟩) hK hP hS [0, 1] rfl 0 rfl rfl rfl rfl hl.1 rfl (Nat.le_of_ble_eq_true rfl) ⟨Nat.zero_le _, Nat.zero_le _⟩ dX7_holds_41 (fun H locs hP hS => ?_)
          refine lv_iload hx hb dX7_holds_44 (lv_at hl 4 rfl) ?_
          refine lv_iadd hx hb dX7_holds_46 ?_
          obtain ⟨r47, ue_47, hC, hF⟩ := k_c2_ex hF
          refine x_VM (As := [.int x5, .int (r41 + x4)]) (rest := []) ⟨hx, hb, hml, hown, hts⟩ (c_X7_tears l D cyI cyZ bM bN bQ bS bH bP bT H.size N x5 (r41 + x4) us up ue ut um un hC) (cwV 2 hts gX7_holds_X7_tears rfl rfl rfl (by decide +kernel) ⟨Nat.le_of_ble_eq_true rfl, Nat.le_of_ble_eq_true rfl⟩) hK hP hD hS hA [0, 1] rfl rfl rfl 0 rfl rfl rfl rfl hl.1 rfl (Nat.le_of_ble_eq_true rfl) ⟨Nat.zero_le _, Nat.zero_le _⟩ dX7_holds_47 (fun H locs hP hD hS => ?_)
          have hP : va_P D vwCl [(bM, .inr (7, [.ref bN, .ref bQ, .int us, .ref bS, .ref bH, .ref bP, .int up, .int ue_47, .int ut, .ref bT, .int um])), (bN, .inl (cyI, 225, .inl un))] H := hP
          have hD : va_D A [(bM, .inr (7, [.ref bN, .ref bQ, .int us, .ref bS, .ref bH, .ref bP, .int up, .int ue_47, .int ut, .ref bT, .int um])), (bN, .inl (cyI, 225, .inl un))] := hD
          refine lv_if_ne (tgt := 57) hx hb dX7_holds_50 (by decide) (fun hc => ?_) (fun hc => ?_)
          · have hF := k_if_f hF hc
            refine lv_iconst (v := (0 : Int32)) hx hb dX7_holds_57 (by decide) ?_
            refine lv_istore (lv' := [(7, .int (0 : Int32)), (0, .ref bM), (1, .int x1), (2, .int x2), (3, .int x3), (4, .int x4), (5, .int x5), (6, .int x6), (8, .int x8)]) hx hb dX7_holds_58 hl (by decide) rfl (fun ls hl => ?_)
            obtain ⟨x8_60, hn, hF⟩ := k_let_ex hF
            refine lv_iinc (v := x8_60) (lv' := [(8, .int x8_60), (7, .int (0 : Int32)), (0, .ref bM), (1, .int x1), (2, .int x2), (3, .int x3), (4, .int x4), (5, .int x5), (6, .int x6)]) hx hb dX7_holds_60 hl (k := 8) rfl (by rw [hn]; rfl) (by decide) rfl (fun ls hl => ?_)
            refine lv_goto (tgt := 20) hx hb dX7_holds_63 (by decide) ?_
            exact (hG _ _ _).1 (ih_20 x1 x2 x3 x4 x5 x6 (0 : Int32) x8_60 ue_47 hF _ _ _ hP hD hS (lv_sub hl [2, 3, 4, 5, 6, 7, 8, 1, 0] rfl))
          · have hF := k_if_t hF hc
            refine lv_iconst (v := (1 : Int32)) hx hb dX7_holds_53 (by decide) ?_
            refine lv_goto (tgt := 58) hx hb dX7_holds_54 (by decide) ?_
            refine lv_istore (lv' := [(7, .int (1 : Int32)), (0, .ref bM), (1, .int x1), (2, .int x2), (3, .int x3), (4, .int x4), (5, .int x5), (6, .int x6), (8, .int x8)]) hx hb dX7_holds_58 hl (by decide) rfl (fun ls hl => ?_)
            obtain ⟨x8_60, hn, hF⟩ := k_let_ex hF
            refine lv_iinc (v := x8_60) (lv' := [(8, .int x8_60), (7, .int (1 : Int32)), (0, .ref bM), (1, .int x1), (2, .int x2), (3, .int x3), (4, .int x4), (5, .int x5), (6, .int x6)]) hx hb dX7_holds_60 hl (k := 8) rfl (by rw [hn]; rfl) (by decide) rfl (fun ls hl => ?_)
            refine lv_goto (tgt := 20) hx hb dX7_holds_63 (by decide) ?_
            exact (hG _ _ _).1 (ih_20 x1 x2 x3 x4 x5 x6 (1 : Int32) x8_60 ue_47 hF _ _ _ hP hD hS (lv_sub hl [2, 3, 4, 5, 6, 7, 8, 1, 0] rfl))
  refine (hG _ _ _).2 ?_
  unfold p_X7_holds at hF
  refine lv_aload_n hx hb dX7_holds_0 rfl (lv_at hl 0 rfl) ?_
  refine lv_iload_n hx hb dX7_holds_1 rfl (lv_at hl 1 rfl) ?_
  refine lv_iload_n hx hb dX7_holds_2 rfl (lv_at hl 2 rfl) ?_
  obtain ⟨r3, hC, hF⟩ := k_c1_ex hF
  refine x_VR (As := [.int x1, .int x2]) (rest := []) ⟨hx, hb, hml, hown, hts⟩ (c_X7_turn l D cyI cyZ bM bN bQ bS bH bP bT N x1 x2 us up ue ut um un hC) (cwV 2 hts gX7_holds_X7_turn rfl rfl rfl (by decide +kernel) ⟨Nat.le_of_ble_eq_true rfl, Nat.le_of_ble_eq_true rfl⟩) hK hP hS [0, 1] rfl 0 rfl rfl rfl rfl hl.1 rfl (Nat.le_of_ble_eq_true rfl) ⟨Nat.zero_le _, Nat.zero_le _⟩ dX7_holds_3 (fun H locs hP hS => ?_)
  refine lv_istore (lv' := [(6, .int r3), (0, .ref bM), (1, .int x1), (2, .int x2), (3, .int x3), (4, .int x4), (5, .int x5)]) hx hb dX7_holds_6 hl (by decide) rfl (fun ls hl => ?_)
  refine lv_aload_n hx hb dX7_holds_8 rfl (lv_at hl 1 rfl) ?_
  refine lv_bipush (v := (-6 : Int32)) hx hb dX7_holds_9 (by decide) ?_
  refine va_put (D := D) (ci := 7) (v := .int (-6 : Int32)) (ty := .int) (C := RX7) (T := TX7) (N := 11) hx hb hts mi_X7_holds_X7 tyX7 tyX7_ok nmX7 hown hK.1 hP hD hS 0 rfl rfl 7 (by decide) (hts _ mm_X7_holds_1) (fun _ h9 => h9) rfl (by decide +kernel) rfl rfl (Nat.le_of_ble_eq_true rfl) dX7_holds_11 (fun H locs hP hD hS => ?_)
  have hP : va_P D vwCl [(bM, .inr (7, [.ref bN, .ref bQ, .int us, .ref bS, .ref bH, .ref bP, .int up, .int (-6 : Int32), .int ut, .ref bT, .int um])), (bN, .inl (cyI, 225, .inl un))] H := hP
  have hD : va_D A [(bM, .inr (7, [.ref bN, .ref bQ, .int us, .ref bS, .ref bH, .ref bP, .int up, .int (-6 : Int32), .int ut, .ref bT, .int um])), (bN, .inl (cyI, 225, .inl un))] := hD
  refine lv_iconst (v := (1 : Int32)) hx hb dX7_holds_14 (by decide) ?_
  refine lv_istore (lv' := [(7, .int (1 : Int32)), (6, .int r3), (0, .ref bM), (1, .int x1), (2, .int x2), (3, .int x3), (4, .int x4), (5, .int x5)]) hx hb dX7_holds_15 hl (by decide) rfl (fun ls hl => ?_)
  refine lv_iconst (v := (0 : Int32)) hx hb dX7_holds_17 (by decide) ?_
  refine lv_istore (lv' := [(8, .int (0 : Int32)), (7, .int (1 : Int32)), (6, .int r3), (0, .ref bM), (1, .int x1), (2, .int x2), (3, .int x3), (4, .int x4), (5, .int x5)]) hx hb dX7_holds_18 hl (by decide) rfl (fun ls hl => ?_)
  exact (hG _ _ _).1 (blk_20 N x1 x2 x3 x4 x5 r3 (1 : Int32) (0 : Int32) (-6 : Int32) hF _ _ _ hP hD hS (lv_sub hl [3, 4, 5, 6, 7, 8, 2, 1, 0] rfl))
set_option maxHeartbeats 4000000 in
set_option maxRecDepth 100000 in
theorem c_X7_thickest (l : Launch) (D : va_G) (cyI cyZ : ClassId) (bM bN bQ bS bH bP bT : Nat) (sz : Nat) (N : Nat) (x1 : Int32) (x2 : Int32) (x3 : Int32) (x4 : Int32) (us : Int32) (up : Int32) (ue : Int32) (ut : Int32) (um : Int32) (un : (Nat → Int32)) {r0 : Int32} {ue' : Int32} (hF : p_X7_thickest N x1 x2 x3 x4 us up ue ut um un = some (r0, ue')) : Met l yX7_thickest wsX7_thickest ({ frames := 3, cells := 0, slots := 0, locals := 75 }) (x_PM D cyI cyZ [.ref bM, .int x1, .int x2, .int x3, .int x4] [(bM, .inr (7, [.ref bN, .ref bQ, .int us, .ref bS, .ref bH, .ref bP, .int up, .int ue, .int ut, .ref bT, .int um])), (bN, .inl (cyI, 225, .inl un))] sz) (x_QM D r0 (va_A [(bM, .inr (7, [.ref bN, .ref bQ, .int us, .ref bS, .ref bH, .ref bP, .int up, .int ue, .int ut, .ref bT, .int um])), (bN, .inl (cyI, 225, .inl un))] sz) [(bM, .inr (7, [.ref bN, .ref bQ, .int us, .ref bS, .ref bH, .ref bP, .int up, .int ue', .int ut, .ref bT, .int um])), (bN, .inl (cyI, 225, .inl un))]) 0 0 (va_A [(bM, .inr (7, [.ref bN, .ref bQ, .int us, .ref bS, .ref bH, .ref bP, .int up, .int ue, .int ut, .ref bT, .int um])), (bN, .inl (cyI, 225, .inl un))] sz) := by
  refine Met.ofW (cc := cX7_thickest) (maxL := 7) (ret := (some .int)) (by decide) rfl ?_
  intro p e s m args below meth c s₁ B hml hv
  obtain ⟨rfl, hsz, hP, hK, hD0⟩ := hv
  have hx := B.exec
  have hb := B.bytes
  have hr := B.returns
  have hts := atoms_spec (ws := wsX7_thickest) B.pre
  have hown : s.vm.findClass RX7 = some m.cls := findClass_of_methodNamed B.named
  have hlocks := B.notSynchronized
  subst hsz
  have hD := hD0.self (sz := s.heap.size)
  generalize hAe : va_A [(bM, .inr (7, [.ref bN, .ref bQ, .int us, .ref bS, .ref bH, .ref bP, .int up, .int ue, .int ut, .ref bT, .int um])), (bN, .inl (cyI, 225, .inl un))] s.heap.size = A at hD ⊢
  have hA : ∀ q : Nat, s.heap.size ≤ q → A q := fun q h => by rw [← hAe]; exact Or.inr h
  have hS : va_S A s.heap s.heap [] := va_S.rf
  have hP : va_P D vwCl [(bM, .inr (7, [.ref bN, .ref bQ, .int us, .ref bS, .ref bH, .ref bP, .int up, .int ue, .int ut, .ref bT, .int um])), (bN, .inl (cyI, 225, .inl un))] s.heap := hP
  have hl := lv_entry ([.ref bM, .int x1, .int x2, .int x3, .int x4]) (n := 7) (Nat.le_of_ble_eq_true rfl)
  rw [lg_entry_eq]
  generalize (lg_sl ([.ref bM, .int x1, .int x2, .int x3, .int x4]) ++ List.replicate (7 - (lg_sl ([.ref bM, .int x1, .int x2, .int x3, .int x4])).length) Slot.unset).toArray = ls at hl ⊢
  have hl : lv_has ls 7 [(0, .ref bM), (1, .int x1), (2, .int x2), (3, .int x3), (4, .int x4)] := hl
  refine x_gen (fun G hG => ?_)
  have blk_40 : ∀ (n_40 : Nat) (x1 : Int32) (x2 : Int32) (x3 : Int32) (x4 : Int32) (x6 : Int32) (ue : Int32), f_X7_thickest_40 N n_40 x1 x2 x3 x4 x6 us up ue ut um un = some (r0, ue') → ∀ (H : Heap) (locs : List Loc) (ls : Array Slot), va_P D vwCl [(bM, .inr (7, [.ref bN, .ref bQ, .int us, .ref bS, .ref bH, .ref bP, .int up, .int ue, .int ut, .ref bT, .int um])), (bN, .inl (cyI, 225, .inl un))] H → va_D A [(bM, .inr (7, [.ref bN, .ref bQ, .int us, .ref bS, .ref bH, .ref bP, .int up, .int ue, .int ut, .ref bT, .int um])), (bN, .inl (cyI, 225, .inl un))] → va_S A s.heap H locs → lv_has ls 7 [(0, .ref bM), (1, .int x1), (2, .int x2), (3, .int x3), (4, .int x4), (6, .int x6)] → G H locs (F0 m 40 ls []) := by
    intro n_40
    induction n_40 with
    | zero => intro x1 x2 x3 x4 x6 ue hF; exact (k_none hF).elim
    | succ n_40 ih_40 =>
      intro x1 x2 x3 x4 x6 ue hF H locs ls hP hD hS hl
      replace hF : b_X7_thickest_40 N (f_X7_thickest_40 N n_40) x1 x2 x3 x4 x6 us up ue ut um un = some (r0, ue') := hF
      unfold b_X7_thickest_40 at hF
      refine (hG _ _ _).2 ?_
      refine lv_iload hx hb dX7_thickest_40 (lv_at hl 5 rfl) ?_
      refine lv_if_le (tgt := 65) hx hb dX7_thickest_42 (by decide) (fun hc => ?_) (fun hc => ?_)
      · have hF := k_if_t hF hc
        refine lv_iload hx hb dX7_thickest_65 (lv_at hl 5 rfl) ?_
        refine lv_if_ne (tgt := 75) hx hb dX7_thickest_67 (by decide) (fun hc => ?_) (fun hc => ?_)
        · have hF := k_if_f hF hc
          refine lv_iload hx hb dX7_thickest_75 (lv_at hl 5 rfl) ?_
          obtain ⟨e0, e1⟩ := k_inj2 hF
          have hP9 : va_P D vwCl [(bM, .inr (7, [.ref bN, .ref bQ, .int us, .ref bS, .ref bH, .ref bP, .int up, .int ue', .int ut, .ref bT, .int um])), (bN, .inl (cyI, 225, .inl un))] H := by rw [← e1]; exact hP
          exact W.iret hx hb hr (fun t ht hW => ⟨⟨_, (), rfl, e0, x_ret hP9 ht⟩, hS.F ht⟩) hS.2.2 dX7_thickest_77
        · have hF := k_if_t hF hc
          refine lv_bipush (v := (-6 : Int32)) hx hb dX7_thickest_70 (by decide) ?_
          refine lv_goto (tgt := 77) hx hb dX7_thickest_72 (by decide) ?_
          obtain ⟨e0, e1⟩ := k_inj2 hF
          have hP9 : va_P D vwCl [(bM, .inr (7, [.ref bN, .ref bQ, .int us, .ref bS, .ref bH, .ref bP, .int up, .int ue', .int ut, .ref bT, .int um])), (bN, .inl (cyI, 225, .inl un))] H := by rw [← e1]; exact hP
          exact W.iret hx hb hr (fun t ht hW => ⟨⟨_, (), rfl, e0, x_ret hP9 ht⟩, hS.F ht⟩) hS.2.2 dX7_thickest_77
      · have hF := k_if_f hF hc
        refine lv_aload_n hx hb dX7_thickest_45 rfl (lv_at hl 0 rfl) ?_
        refine lv_iload_n hx hb dX7_thickest_46 rfl (lv_at hl 1 rfl) ?_
        refine lv_iload_n hx hb dX7_thickest_47 rfl (lv_at hl 2 rfl) ?_
        refine lv_iload_n hx hb dX7_thickest_48 rfl (lv_at hl 3 rfl) ?_
        refine lv_iload hx hb dX7_thickest_49 (lv_at hl 4 rfl) ?_
        refine lv_iload hx hb dX7_thickest_51 (lv_at hl 5 rfl) ?_
        obtain ⟨r53, ue_53, hC, hF⟩ := k_c2_ex hF
        refine x_VM (As := [.int x1, .int x2, .int x3, .int x4, .int x6]) (rest := []) ⟨hx, hb, hml, hown, hts⟩ (c_X7_holds l D cyI cyZ bM bN bQ bS bH bP bT H.size N x1 x2 x3 x4 x6 us up ue ut um un hC) (cwV 5 hts gX7_thickest_X7_holds rfl rfl rfl (by decide +kernel) ⟨Nat.le_of_ble_eq_true rfl, Nat.le_of_ble_eq_true rfl⟩) hK hP hD hS hA [0, 1] rfl rfl rfl 0 rfl rfl rfl rfl hl.1 rfl (Nat.le_of_ble_eq_true rfl) ⟨Nat.zero_le _, Nat.zero_le _⟩ dX7_thickest_53 (fun H locs hP hD hS => ?_)
        have hP : va_P D vwCl [(bM, .inr (7, [.ref bN, .ref bQ, .int us, .ref bS, .ref bH, .ref bP, .int up, .int ue_53, .int ut, .ref bT, .int um])), (bN, .inl (cyI, 225, .inl un))] H := hP
        have hD : va_D A [(bM, .inr (7, [.ref bN, .ref bQ, .int us, .ref bS, .ref bH, .ref bP, .int up, .int ue_53, .int ut, .ref bT, .int um])), (bN, .inl (cyI, 225, .inl un))] := hD
        refine lv_if_ne (tgt := 65) hx hb dX7_thickest_56 (by decide) (fun hc => ?_) (fun hc => ?_)
        · have hF := k_if_f hF hc
          refine lv_iload hx hb dX7_thickest_65 (lv_at hl 5 rfl) ?_
          refine lv_if_ne (tgt := 75) hx hb dX7_thickest_67 (by decide) (fun hc => ?_) (fun hc => ?_)
          · have hF := k_if_f hF hc
            refine lv_iload hx hb dX7_thickest_75 (lv_at hl 5 rfl) ?_
            obtain ⟨e0, e1⟩ := k_inj2 hF
            have hP9 : va_P D vwCl [(bM, .inr (7, [.ref bN, .ref bQ, .int us, .ref bS, .ref bH, .ref bP, .int up, .int ue', .int ut, .ref bT, .int um])), (bN, .inl (cyI, 225, .inl un))] H := by rw [← e1]; exact hP
            exact W.iret hx hb hr (fun t ht hW => ⟨⟨_, (), rfl, e0, x_ret hP9 ht⟩, hS.F ht⟩) hS.2.2 dX7_thickest_77
          · have hF := k_if_t hF hc
            refine lv_bipush (v := (-6 : Int32)) hx hb dX7_thickest_70 (by decide) ?_
            refine lv_goto (tgt := 77) hx hb dX7_thickest_72 (by decide) ?_
            obtain ⟨e0, e1⟩ := k_inj2 hF
            have hP9 : va_P D vwCl [(bM, .inr (7, [.ref bN, .ref bQ, .int us, .ref bS, .ref bH, .ref bP, .int up, .int ue', .int ut, .ref bT, .int um])), (bN, .inl (cyI, 225, .inl un))] H := by rw [← e1]; exact hP
            exact W.iret hx hb hr (fun t ht hW => ⟨⟨_, (), rfl, e0, x_ret hP9 ht⟩, hS.F ht⟩) hS.2.2 dX7_thickest_77
        · have hF := k_if_t hF hc
          obtain ⟨x6_59, hn, hF⟩ := k_let_ex hF
          refine lv_iinc (v := x6_59) (lv' := [(6, .int x6_59), (0, .ref bM), (1, .int x1), (2, .int x2), (3, .int x3), (4, .int x4)]) hx hb dX7_thickest_59 hl (k := 5) rfl (by rw [hn]; rfl) (by decide) rfl (fun ls hl => ?_)
          refine lv_goto (tgt := 40) hx hb dX7_thickest_62 (by decide) ?_
          exact (hG _ _ _).1 (ih_40 x1 x2 x3 x4 x6_59 ue_53 hF _ _ _ hP hD hS (lv_sub hl [1, 2, 3, 4, 5, 0] rfl))
  refine (hG _ _ _).2 ?_
  unfold p_X7_thickest at hF
  refine lv_aload_n hx hb dX7_thickest_0 rfl (lv_at hl 0 rfl) ?_
  refine lv_iload_n hx hb dX7_thickest_1 rfl (lv_at hl 1 rfl) ?_
  refine lv_iload_n hx hb dX7_thickest_2 rfl (lv_at hl 2 rfl) ?_
  refine lv_iload_n hx hb dX7_thickest_3 rfl (lv_at hl 3 rfl) ?_
  refine lv_iload hx hb dX7_thickest_4 (lv_at hl 4 rfl) ?_
  obtain ⟨r6, hC, hF⟩ := k_c1_ex hF
  refine x_VR (As := [.int x1, .int x2, .int x3, .int x4]) (rest := []) ⟨hx, hb, hml, hown, hts⟩ (c_X7_pairError l D cyI cyZ bM bN bQ bS bH bP bT N x1 x2 x3 x4 us up ue ut um un hC) (cwV 4 hts gX7_thickest_X7_pairError rfl rfl rfl (by decide +kernel) ⟨Nat.le_of_ble_eq_true rfl, Nat.le_of_ble_eq_true rfl⟩) hK hP hS [0, 1] rfl 0 rfl rfl rfl rfl hl.1 rfl (Nat.le_of_ble_eq_true rfl) ⟨Nat.zero_le _, Nat.zero_le _⟩ dX7_thickest_6 (fun H locs hP hS => ?_)
  refine lv_istore (lv' := [(5, .int r6), (0, .ref bM), (1, .int x1), (2, .int x2), (3, .int x3), (4, .int x4)]) hx hb dX7_thickest_9 hl (by decide) rfl (fun ls hl => ?_)
  refine lv_iload hx hb dX7_thickest_11 (lv_at hl 0 rfl) ?_
  refine lv_if_ge (tgt := 19) hx hb dX7_thickest_13 (by decide) (fun hc => ?_) (fun hc => ?_)
  · have hF := k_if_t hF hc
    refine lv_aload_n hx hb dX7_thickest_19 rfl (lv_at hl 1 rfl) ?_
    refine lv_iload_n hx hb dX7_thickest_20 rfl (lv_at hl 2 rfl) ?_
    refine lv_iload_n hx hb dX7_thickest_21 rfl (lv_at hl 3 rfl) ?_
    refine lv_iload_n hx hb dX7_thickest_22 rfl (lv_at hl 4 rfl) ?_
    refine lv_iload hx hb dX7_thickest_23 (lv_at hl 5 rfl) ?_
    obtain ⟨r25, hC, hF⟩ := k_c1_ex hF
    refine x_VR (As := [.int x1, .int x2, .int x3, .int x4]) (rest := []) ⟨hx, hb, hml, hown, hts⟩ (c_X7_against l D cyI cyZ bM bN bQ bS bH bP bT N x1 x2 x3 x4 us up ue ut um un hC) (cwV 4 hts gX7_thickest_X7_against rfl rfl rfl (by decide +kernel) ⟨Nat.le_of_ble_eq_true rfl, Nat.le_of_ble_eq_true rfl⟩) hK hP hS [0, 1] rfl 0 rfl rfl rfl rfl hl.1 rfl (Nat.le_of_ble_eq_true rfl) ⟨Nat.zero_le _, Nat.zero_le _⟩ dX7_thickest_25 (fun H locs hP hS => ?_)
    refine lv_bipush (v := (-6 : Int32)) hx hb dX7_thickest_28 (by decide) ?_
    refine lv_icmp_eq (tgt := 36) hx hb dX7_thickest_30 (by decide) (fun hc => ?_) (fun hc => ?_)
    · have hF := k_if_t hF hc
      refine lv_bipush (v := (30 : Int32)) hx hb dX7_thickest_36 (by decide) ?_
      refine lv_istore (lv' := [(6, .int (30 : Int32)), (5, .int r6), (0, .ref bM), (1, .int x1), (2, .int x2), (3, .int x3), (4, .int x4)]) hx hb dX7_thickest_38 hl (by decide) rfl (fun ls hl => ?_)
      exact (hG _ _ _).1 (blk_40 N x1 x2 x3 x4 (30 : Int32) ue hF _ _ _ hP hD hS (lv_sub hl [2, 3, 4, 5, 6, 0] rfl))
    · have hF := k_if_f hF hc
      refine lv_bipush (v := (-6 : Int32)) hx hb dX7_thickest_33 (by decide) ?_
      obtain ⟨e0, e1⟩ := k_inj2 hF
      have hP9 : va_P D vwCl [(bM, .inr (7, [.ref bN, .ref bQ, .int us, .ref bS, .ref bH, .ref bP, .int up, .int ue', .int ut, .ref bT, .int um])), (bN, .inl (cyI, 225, .inl un))] H := by rw [← e1]; exact hP
      exact W.iret hx hb hr (fun t ht hW => ⟨⟨_, (), rfl, e0, x_ret hP9 ht⟩, hS.F ht⟩) hS.2.2 dX7_thickest_35
  · have hF := k_if_f hF hc
    refine lv_iload hx hb dX7_thickest_16 (lv_at hl 0 rfl) ?_
    obtain ⟨e0, e1⟩ := k_inj2 hF
    have hP9 : va_P D vwCl [(bM, .inr (7, [.ref bN, .ref bQ, .int us, .ref bS, .ref bH, .ref bP, .int up, .int ue', .int ut, .ref bT, .int um])), (bN, .inl (cyI, 225, .inl un))] H := by rw [← e1]; exact hP
    exact W.iret hx hb hr (fun t ht hW => ⟨⟨_, (), rfl, e0, x_ret hP9 ht⟩, hS.F ht⟩) hS.2.2 dX7_thickest_18
theorem mm_X7_put_1 : Cond.constantLong RX7 129 (255) ∈ wsX7_put := List.mem_of_getElem? (i := 1) rfl
theorem mm_X7_put_2 : Cond.fieldLink RX7 115 "RollerMeshModel" "padded" "I" ∈ wsX7_put := List.mem_of_getElem? (i := 2) rfl
theorem mm_X7_put_3 : Cond.fieldLink RX7 23 "RollerMeshModel" "pad" "[I" ∈ wsX7_put := List.mem_of_getElem? (i := 3) rfl
theorem mi_X7_put_X7 : ∀ w ∈ wsX70, w ∈ wsX7_put := fun _ h => List.mem_cons_of_mem _ (List.mem_append_right _ h)
set_option maxHeartbeats 4000000 in
set_option maxRecDepth 100000 in
theorem c_X7_put (l : Launch) (D : va_G) (cyI cyZ : ClassId) (bM bN bQ bS bH bP bT : Nat) (sz : Nat) (N : Nat) (x1 : Int64) (us : Int32) (up : Int32) (ue : Int32) (ut : Int32) (um : Int32) (ux : (Nat → Int32)) {r0 : Int32} {up' : Int32} {ux' : (Nat → Int32)} (hF : p_X7_put N x1 us up ue ut um ux = some (r0, up', ux')) : Met l yX7_put wsX7_put ({ frames := 1, cells := 0, slots := 0, locals := 22 }) (x_PM D cyI cyZ [.ref bM, .long x1] [(bM, .inr (7, [.ref bN, .ref bQ, .int us, .ref bS, .ref bH, .ref bP, .int up, .int ue, .int ut, .ref bT, .int um])), (bP, .inl (cyI, 80, .inl ux))] sz) (x_QM D r0 (va_A [(bM, .inr (7, [.ref bN, .ref bQ, .int us, .ref bS, .ref bH, .ref bP, .int up, .int ue, .int ut, .ref bT, .int um])), (bP, .inl (cyI, 80, .inl ux))] sz) [(bM, .inr (7, [.ref bN, .ref bQ, .int us, .ref bS, .ref bH, .ref bP, .int up', .int ue, .int ut, .ref bT, .int um])), (bP, .inl (cyI, 80, .inl ux'))]) 0 0 (va_A [(bM, .inr (7, [.ref bN, .ref bQ, .int us, .ref bS, .ref bH, .ref bP, .int up, .int ue, .int ut, .ref bT, .int um])), (bP, .inl (cyI, 80, .inl ux))] sz) := by
  refine Met.ofW (cc := cX7_put) (maxL := 8) (ret := (some .int)) (by decide) rfl ?_
  intro p e s m args below meth c s₁ B hml hv
  obtain ⟨rfl, hsz, hP, hK, hD0⟩ := hv
  have hx := B.exec
  have hb := B.bytes
  have hr := B.returns
  have hts := atoms_spec (ws := wsX7_put) B.pre
  have hown : s.vm.findClass RX7 = some m.cls := findClass_of_methodNamed B.named
  have hlocks := B.notSynchronized
  subst hsz
  have hD := hD0.self (sz := s.heap.size)
  generalize hAe : va_A [(bM, .inr (7, [.ref bN, .ref bQ, .int us, .ref bS, .ref bH, .ref bP, .int up, .int ue, .int ut, .ref bT, .int um])), (bP, .inl (cyI, 80, .inl ux))] s.heap.size = A at hD ⊢
  have hA : ∀ q : Nat, s.heap.size ≤ q → A q := fun q h => by rw [← hAe]; exact Or.inr h
  have hS : va_S A s.heap s.heap [] := va_S.rf
  have hP : va_P D vwCl [(bM, .inr (7, [.ref bN, .ref bQ, .int us, .ref bS, .ref bH, .ref bP, .int up, .int ue, .int ut, .ref bT, .int um])), (bP, .inl (cyI, 80, .inl ux))] s.heap := hP
  have hl := lv_entry ([.ref bM, .long x1]) (n := 8) (Nat.le_of_ble_eq_true rfl)
  rw [lg_entry_eq]
  generalize (lg_sl ([.ref bM, .long x1]) ++ List.replicate (8 - (lg_sl ([.ref bM, .long x1])).length) Slot.unset).toArray = ls at hl ⊢
  have hl : lv_has ls 8 [(0, .ref bM), (1, .long x1)] := hl
  refine x_gen (fun G hG => ?_)
  have blk_105 : ∀ (n_105 : Nat) (x1 : Int64) (x7 : Int32) (up : Int32) (ux : (Nat → Int32)), f_X7_put_105 N n_105 x1 x7 us up ue ut um ux = some (r0, up', ux') → ∀ (H : Heap) (locs : List Loc) (ls : Array Slot), va_P D vwCl [(bM, .inr (7, [.ref bN, .ref bQ, .int us, .ref bS, .ref bH, .ref bP, .int up, .int ue, .int ut, .ref bT, .int um])), (bP, .inl (cyI, 80, .inl ux))] H → va_D A [(bM, .inr (7, [.ref bN, .ref bQ, .int us, .ref bS, .ref bH, .ref bP, .int up, .int ue, .int ut, .ref bT, .int um])), (bP, .inl (cyI, 80, .inl ux))] → va_S A s.heap H locs → lv_has ls 8 [(0, .ref bM), (1, .long x1), (7, .int x7)] → G H locs (F0 m 105 ls []) := by
    intro n_105
    induction n_105 with
    | zero => intro x1 x7 up ux hF; exact (k_none hF).elim
    | succ n_105 ih_105 =>
      intro x1 x7 up ux hF H locs ls hP hD hS hl
      replace hF : b_X7_put_105 N (f_X7_put_105 N n_105) x1 x7 us up ue ut um ux = some (r0, up', ux') := hF
      unfold b_X7_put_105 at hF
      refine (hG _ _ _).2 ?_
      refine lv_iload hx hb dX7_put_105 (lv_at hl 2 rfl) ?_
      refine lv_if_lt (tgt := 147) hx hb dX7_put_107 (by decide) (fun hc => ?_) (fun hc => ?_)
      · have hF := k_if_t hF hc
        refine lv_aload_n hx hb dX7_put_147 rfl (lv_at hl 0 rfl) ?_
        refine va_get (D := D) (ci := 7) (v := .int up) (C := RX7) (T := TX7) (N := 11) hx hb hts mi_X7_put_X7 hown hK.1 hP 0 rfl rfl 6 (by decide) (hts _ mm_X7_put_2) (fun _ h9 => h9) rfl dX7_put_148 ?_
        obtain ⟨e0, e1, e2⟩ := k_inj3 hF
        have hP9 : va_P D vwCl [(bM, .inr (7, [.ref bN, .ref bQ, .int us, .ref bS, .ref bH, .ref bP, .int up', .int ue, .int ut, .ref bT, .int um])), (bP, .inl (cyI, 80, .inl ux'))] H := by rw [← e1, ← e2]; exact hP
        exact W.iret hx hb hr (fun t ht hW => ⟨⟨_, (), rfl, e0, x_ret hP9 ht⟩, hS.F ht⟩) hS.2.2 dX7_put_151
      · have hF := k_if_f hF hc
        refine lv_aload_n hx hb dX7_put_110 rfl (lv_at hl 0 rfl) ?_
        refine va_get (D := D) (ci := 7) (v := .ref bP) (C := RX7) (T := TX7) (N := 11) hx hb hts mi_X7_put_X7 hown hK.1 hP 0 rfl rfl 5 (by decide) (hts _ mm_X7_put_3) (fun _ h9 => h9) rfl dX7_put_111 ?_
        refine lv_aload_n hx hb dX7_put_114 rfl (lv_at hl 0 rfl) ?_
        refine va_get (D := D) (ci := 7) (v := .int up) (C := RX7) (T := TX7) (N := 11) hx hb hts mi_X7_put_X7 hown hK.1 hP 0 rfl rfl 6 (by decide) (hts _ mm_X7_put_2) (fun _ h9 => h9) rfl dX7_put_115 ?_
        refine lv_lload_n hx hb dX7_put_118 rfl (lv_at hl 1 rfl) ?_
        refine lv_bipush (v := (8 : Int32)) hx hb dX7_put_119 (by decide) ?_
        refine lv_iload hx hb dX7_put_121 (lv_at hl 2 rfl) ?_
        refine lv_imul hx hb dX7_put_123 ?_
        refine lv_lushr (v := (k_ushr x1 ((8 : Int32) * x7))) hx hb dX7_put_124 rfl ?_
        refine lv_ldc2 (v := (255 : Int64)) hx hb hown (hts _ mm_X7_put_1) dX7_put_125 ?_
        refine lv_land hx hb dX7_put_128 ?_
        refine lv_l2i (v := ((k_ushr x1 ((8 : Int32) * x7)) &&& (255 : Int64)).toInt32) hx hb dX7_put_129 rfl ?_
        obtain ⟨ux_130, hin, hn, hF⟩ := k_st_ex hF
        refine x_iast hx hb hK hP hD hS 1 rfl hin hn dX7_put_130 (fun H locs hP hD hS => ?_)
        have hP : va_P D vwCl [(bM, .inr (7, [.ref bN, .ref bQ, .int us, .ref bS, .ref bH, .ref bP, .int up, .int ue, .int ut, .ref bT, .int um])), (bP, .inl (cyI, 80, .inl ux_130))] H := hP
        have hD : va_D A [(bM, .inr (7, [.ref bN, .ref bQ, .int us, .ref bS, .ref bH, .ref bP, .int up, .int ue, .int ut, .ref bT, .int um])), (bP, .inl (cyI, 80, .inl ux_130))] := hD
        refine lv_aload_n hx hb dX7_put_131 rfl (lv_at hl 0 rfl) ?_
        refine lv_dup hx hb dX7_put_132 rfl ?_
        refine va_get (D := D) (ci := 7) (v := .int up) (C := RX7) (T := TX7) (N := 11) hx hb hts mi_X7_put_X7 hown hK.1 hP 0 rfl rfl 6 (by decide) (hts _ mm_X7_put_2) (fun _ h9 => h9) rfl dX7_put_133 ?_
        refine lv_iconst (v := (1 : Int32)) hx hb dX7_put_136 (by decide) ?_
        refine lv_iadd hx hb dX7_put_137 ?_
        obtain ⟨up_138, hn, hF⟩ := k_let_ex hF
        refine x_nm hn ?_
        refine va_put (D := D) (ci := 7) (v := .int up_138) (ty := .int) (C := RX7) (T := TX7) (N := 11) hx hb hts mi_X7_put_X7 tyX7 tyX7_ok nmX7 hown hK.1 hP hD hS 0 rfl rfl 6 (by decide) (hts _ mm_X7_put_2) (fun _ h9 => h9) rfl (by decide +kernel) rfl rfl (Nat.le_of_ble_eq_true rfl) dX7_put_138 (fun H locs hP hD hS => ?_)
        have hP : va_P D vwCl [(bM, .inr (7, [.ref bN, .ref bQ, .int us, .ref bS, .ref bH, .ref bP, .int up_138, .int ue, .int ut, .ref bT, .int um])), (bP, .inl (cyI, 80, .inl ux_130))] H := hP
        have hD : va_D A [(bM, .inr (7, [.ref bN, .ref bQ, .int us, .ref bS, .ref bH, .ref bP, .int up_138, .int ue, .int ut, .ref bT, .int um])), (bP, .inl (cyI, 80, .inl ux_130))] := hD
        obtain ⟨x7_141, hn, hF⟩ := k_let_ex hF
        refine lv_iinc (v := x7_141) (lv' := [(7, .int x7_141), (0, .ref bM), (1, .long x1)]) hx hb dX7_put_141 hl (k := 2) rfl (by rw [hn]; rfl) (by decide) rfl (fun ls hl => ?_)
        refine lv_goto (tgt := 105) hx hb dX7_put_144 (by decide) ?_
        exact (hG _ _ _).1 (ih_105 x1 x7_141 up_138 ux_130 hF _ _ _ hP hD hS (lv_sub hl [1, 2, 0] rfl))
  have blk_8 : ∀ (n_8 : Nat) (x1 : Int64) (x3 : Int32) (x4 : Int64) (x6 : Int32) (up : Int32) (ux : (Nat → Int32)), f_X7_put_8 N n_8 x1 x3 x4 x6 us up ue ut um ux = some (r0, up', ux') → ∀ (H : Heap) (locs : List Loc) (ls : Array Slot), va_P D vwCl [(bM, .inr (7, [.ref bN, .ref bQ, .int us, .ref bS, .ref bH, .ref bP, .int up, .int ue, .int ut, .ref bT, .int um])), (bP, .inl (cyI, 80, .inl ux))] H → va_D A [(bM, .inr (7, [.ref bN, .ref bQ, .int us, .ref bS, .ref bH, .ref bP, .int up, .int ue, .int ut, .ref bT, .int um])), (bP, .inl (cyI, 80, .inl ux))] → va_S A s.heap H locs → lv_has ls 8 [(0, .ref bM), (1, .long x1), (3, .int x3), (4, .long x4), (6, .int x6)] → G H locs (F0 m 8 ls []) := by
    intro n_8
    induction n_8 with
    | zero => intro x1 x3 x4 x6 up ux hF; exact (k_none hF).elim
    | succ n_8 ih_8 =>
      intro x1 x3 x4 x6 up ux hF H locs ls hP hD hS hl
      replace hF : b_X7_put_8 N (f_X7_put_8 N n_8) x1 x3 x4 x6 us up ue ut um ux = some (r0, up', ux') := hF
      unfold b_X7_put_8 at hF
      refine (hG _ _ _).2 ?_
      refine lv_iload_n hx hb dX7_put_8 rfl (lv_at hl 2 rfl) ?_
      refine lv_bipush (v := (8 : Int32)) hx hb dX7_put_9 (by decide) ?_
      refine lv_icmp_ge (tgt := 67) hx hb dX7_put_11 (by decide) (fun hc => ?_) (fun hc => ?_)
      · have hF := k_if_t hF hc
        refine lv_iload_n hx hb dX7_put_67 rfl (lv_at hl 2 rfl) ?_
        refine lv_if_eq (tgt := 83) hx hb dX7_put_68 (by decide) (fun hc => ?_) (fun hc => ?_)
        · have hF := k_if_t hF hc
          refine lv_bipush (v := (-2 : Int32)) hx hb dX7_put_83 (by decide) ?_
          obtain ⟨e0, e1, e2⟩ := k_inj3 hF
          have hP9 : va_P D vwCl [(bM, .inr (7, [.ref bN, .ref bQ, .int us, .ref bS, .ref bH, .ref bP, .int up', .int ue, .int ut, .ref bT, .int um])), (bP, .inl (cyI, 80, .inl ux'))] H := by rw [← e1, ← e2]; exact hP
          exact W.iret hx hb hr (fun t ht hW => ⟨⟨_, (), rfl, e0, x_ret hP9 ht⟩, hS.F ht⟩) hS.2.2 dX7_put_85
        · have hF := k_if_f hF hc
          refine lv_iload hx hb dX7_put_71 (lv_at hl 4 rfl) ?_
          refine lv_if_eq (tgt := 83) hx hb dX7_put_73 (by decide) (fun hc => ?_) (fun hc => ?_)
          · have hF := k_if_t hF hc
            refine lv_bipush (v := (-2 : Int32)) hx hb dX7_put_83 (by decide) ?_
            obtain ⟨e0, e1, e2⟩ := k_inj3 hF
            have hP9 : va_P D vwCl [(bM, .inr (7, [.ref bN, .ref bQ, .int us, .ref bS, .ref bH, .ref bP, .int up', .int ue, .int ut, .ref bT, .int um])), (bP, .inl (cyI, 80, .inl ux'))] H := by rw [← e1, ← e2]; exact hP
            exact W.iret hx hb hr (fun t ht hW => ⟨⟨_, (), rfl, e0, x_ret hP9 ht⟩, hS.F ht⟩) hS.2.2 dX7_put_85
          · have hF := k_if_f hF hc
            refine lv_lload hx hb dX7_put_76 (lv_at hl 3 rfl) ?_
            refine lv_lconst (v := (0 : Int64)) hx hb dX7_put_78 (by decide) ?_
            refine W.lcmp hx hb dX7_put_79 ?_
            refine lv_if_eq (tgt := 86) hx hb dX7_put_80 (by decide) (fun hc => ?_) (fun hc => ?_)
            · have hF := k_if_t hF hc
              refine lv_aload_n hx hb dX7_put_86 rfl (lv_at hl 0 rfl) ?_
              refine va_get (D := D) (ci := 7) (v := .int up) (C := RX7) (T := TX7) (N := 11) hx hb hts mi_X7_put_X7 hown hK.1 hP 0 rfl rfl 6 (by decide) (hts _ mm_X7_put_2) (fun _ h9 => h9) rfl dX7_put_87 ?_
              refine lv_iload_n hx hb dX7_put_90 rfl (lv_at hl 2 rfl) ?_
              refine lv_iadd hx hb dX7_put_91 ?_
              refine lv_bipush (v := (80 : Int32)) hx hb dX7_put_92 (by decide) ?_
              refine lv_icmp_le (tgt := 100) hx hb dX7_put_94 (by decide) (fun hc => ?_) (fun hc => ?_)
              · have hF := k_if_t hF hc
                refine lv_iload_n hx hb dX7_put_100 rfl (lv_at hl 2 rfl) ?_
                refine lv_iconst (v := (1 : Int32)) hx hb dX7_put_101 (by decide) ?_
                refine lv_isub hx hb dX7_put_102 ?_
                obtain ⟨x7_103, hn, hF⟩ := k_let_ex hF
                refine x_nm hn ?_
                refine lv_istore (lv' := [(7, .int x7_103), (0, .ref bM), (1, .long x1), (3, .int x3), (4, .long x4), (6, .int x6)]) hx hb dX7_put_103 hl (by decide) rfl (fun ls hl => ?_)
                exact (hG _ _ _).1 (blk_105 N x1 x7_103 up ux hF _ _ _ hP hD hS (lv_sub hl [1, 2, 0] rfl))
              · have hF := k_if_f hF hc
                refine lv_bipush (v := (-4 : Int32)) hx hb dX7_put_97 (by decide) ?_
                obtain ⟨e0, e1, e2⟩ := k_inj3 hF
                have hP9 : va_P D vwCl [(bM, .inr (7, [.ref bN, .ref bQ, .int us, .ref bS, .ref bH, .ref bP, .int up', .int ue, .int ut, .ref bT, .int um])), (bP, .inl (cyI, 80, .inl ux'))] H := by rw [← e1, ← e2]; exact hP
                exact W.iret hx hb hr (fun t ht hW => ⟨⟨_, (), rfl, e0, x_ret hP9 ht⟩, hS.F ht⟩) hS.2.2 dX7_put_99
            · have hF := k_if_f hF hc
              refine lv_bipush (v := (-2 : Int32)) hx hb dX7_put_83 (by decide) ?_
              obtain ⟨e0, e1, e2⟩ := k_inj3 hF
              have hP9 : va_P D vwCl [(bM, .inr (7, [.ref bN, .ref bQ, .int us, .ref bS, .ref bH, .ref bP, .int up', .int ue, .int ut, .ref bT, .int um])), (bP, .inl (cyI, 80, .inl ux'))] H := by rw [← e1, ← e2]; exact hP
              exact W.iret hx hb hr (fun t ht hW => ⟨⟨_, (), rfl, e0, x_ret hP9 ht⟩, hS.F ht⟩) hS.2.2 dX7_put_85
      · have hF := k_if_f hF hc
        refine lv_lload hx hb dX7_put_14 (lv_at hl 3 rfl) ?_
        refine lv_ldc2 (v := (255 : Int64)) hx hb hown (hts _ mm_X7_put_1) dX7_put_16 ?_
        refine lv_land hx hb dX7_put_19 ?_
        refine lv_lconst (v := (0 : Int64)) hx hb dX7_put_20 (by decide) ?_
        refine W.lcmp hx hb dX7_put_21 ?_
        refine lv_if_eq (tgt := 67) hx hb dX7_put_22 (by decide) (fun hc => ?_) (fun hc => ?_)
        · have hF := k_if_t hF hc
          refine lv_iload_n hx hb dX7_put_67 rfl (lv_at hl 2 rfl) ?_
          refine lv_if_eq (tgt := 83) hx hb dX7_put_68 (by decide) (fun hc => ?_) (fun hc => ?_)
          · have hF := k_if_t hF hc
            refine lv_bipush (v := (-2 : Int32)) hx hb dX7_put_83 (by decide) ?_
            obtain ⟨e0, e1, e2⟩ := k_inj3 hF
            have hP9 : va_P D vwCl [(bM, .inr (7, [.ref bN, .ref bQ, .int us, .ref bS, .ref bH, .ref bP, .int up', .int ue, .int ut, .ref bT, .int um])), (bP, .inl (cyI, 80, .inl ux'))] H := by rw [← e1, ← e2]; exact hP
            exact W.iret hx hb hr (fun t ht hW => ⟨⟨_, (), rfl, e0, x_ret hP9 ht⟩, hS.F ht⟩) hS.2.2 dX7_put_85
          · have hF := k_if_f hF hc
            refine lv_iload hx hb dX7_put_71 (lv_at hl 4 rfl) ?_
            refine lv_if_eq (tgt := 83) hx hb dX7_put_73 (by decide) (fun hc => ?_) (fun hc => ?_)
            · have hF := k_if_t hF hc
              refine lv_bipush (v := (-2 : Int32)) hx hb dX7_put_83 (by decide) ?_
              obtain ⟨e0, e1, e2⟩ := k_inj3 hF
              have hP9 : va_P D vwCl [(bM, .inr (7, [.ref bN, .ref bQ, .int us, .ref bS, .ref bH, .ref bP, .int up', .int ue, .int ut, .ref bT, .int um])), (bP, .inl (cyI, 80, .inl ux'))] H := by rw [← e1, ← e2]; exact hP
              exact W.iret hx hb hr (fun t ht hW => ⟨⟨_, (), rfl, e0, x_ret hP9 ht⟩, hS.F ht⟩) hS.2.2 dX7_put_85
            · have hF := k_if_f hF hc
              refine lv_lload hx hb dX7_put_76 (lv_at hl 3 rfl) ?_
              refine lv_lconst (v := (0 : Int64)) hx hb dX7_put_78 (by decide) ?_
              refine W.lcmp hx hb dX7_put_79 ?_
              refine lv_if_eq (tgt := 86) hx hb dX7_put_80 (by decide) (fun hc => ?_) (fun hc => ?_)
              · have hF := k_if_t hF hc
                refine lv_aload_n hx hb dX7_put_86 rfl (lv_at hl 0 rfl) ?_
                refine va_get (D := D) (ci := 7) (v := .int up) (C := RX7) (T := TX7) (N := 11) hx hb hts mi_X7_put_X7 hown hK.1 hP 0 rfl rfl 6 (by decide) (hts _ mm_X7_put_2) (fun _ h9 => h9) rfl dX7_put_87 ?_
                refine lv_iload_n hx hb dX7_put_90 rfl (lv_at hl 2 rfl) ?_
                refine lv_iadd hx hb dX7_put_91 ?_
                refine lv_bipush (v := (80 : Int32)) hx hb dX7_put_92 (by decide) ?_
                refine lv_icmp_le (tgt := 100) hx hb dX7_put_94 (by decide) (fun hc => ?_) (fun hc => ?_)
                · have hF := k_if_t hF hc
                  refine lv_iload_n hx hb dX7_put_100 rfl (lv_at hl 2 rfl) ?_
                  refine lv_iconst (v := (1 : Int32)) hx hb dX7_put_101 (by decide) ?_
                  refine lv_isub hx hb dX7_put_102 ?_
                  obtain ⟨x7_103, hn, hF⟩ := k_let_ex hF
                  refine x_nm hn ?_
                  refine lv_istore (lv' := [(7, .int x7_103), (0, .ref bM), (1, .long x1), (3, .int x3), (4, .long x4), (6, .int x6)]) hx hb dX7_put_103 hl (by decide) rfl (fun ls hl => ?_)
                  exact (hG _ _ _).1 (blk_105 N x1 x7_103 up ux hF _ _ _ hP hD hS (lv_sub hl [1, 2, 0] rfl))
                · have hF := k_if_f hF hc
                  refine lv_bipush (v := (-4 : Int32)) hx hb dX7_put_97 (by decide) ?_
                  obtain ⟨e0, e1, e2⟩ := k_inj3 hF
                  have hP9 : va_P D vwCl [(bM, .inr (7, [.ref bN, .ref bQ, .int us, .ref bS, .ref bH, .ref bP, .int up', .int ue, .int ut, .ref bT, .int um])), (bP, .inl (cyI, 80, .inl ux'))] H := by rw [← e1, ← e2]; exact hP
                  exact W.iret hx hb hr (fun t ht hW => ⟨⟨_, (), rfl, e0, x_ret hP9 ht⟩, hS.F ht⟩) hS.2.2 dX7_put_99
              · have hF := k_if_f hF hc
                refine lv_bipush (v := (-2 : Int32)) hx hb dX7_put_83 (by decide) ?_
                obtain ⟨e0, e1, e2⟩ := k_inj3 hF
                have hP9 : va_P D vwCl [(bM, .inr (7, [.ref bN, .ref bQ, .int us, .ref bS, .ref bH, .ref bP, .int up', .int ue, .int ut, .ref bT, .int um])), (bP, .inl (cyI, 80, .inl ux'))] H := by rw [← e1, ← e2]; exact hP
                exact W.iret hx hb hr (fun t ht hW => ⟨⟨_, (), rfl, e0, x_ret hP9 ht⟩, hS.F ht⟩) hS.2.2 dX7_put_85
        · have hF := k_if_f hF hc
          refine lv_iload hx hb dX7_put_25 (lv_at hl 4 rfl) ?_
          refine lv_if_eq (tgt := 51) hx hb dX7_put_27 (by decide) (fun hc => ?_) (fun hc => ?_)
          · have hF := k_if_t hF hc
            refine lv_iconst (v := (0 : Int32)) hx hb dX7_put_51 (by decide) ?_
            refine lv_istore (lv' := [(6, .int (0 : Int32)), (0, .ref bM), (1, .long x1), (3, .int x3), (4, .long x4)]) hx hb dX7_put_52 hl (by decide) rfl (fun ls hl => ?_)
            refine lv_lload hx hb dX7_put_54 (lv_at hl 4 rfl) ?_
            refine lv_bipush (v := (8 : Int32)) hx hb dX7_put_56 (by decide) ?_
            refine lv_lushr (v := (k_ushr x4 (8 : Int32))) hx hb dX7_put_58 rfl ?_
            obtain ⟨x4_59, hn, hF⟩ := k_let_ex hF
            refine x_nml hn ?_
            refine lv_lstore (lv' := [(4, .long x4_59), (6, .int (0 : Int32)), (0, .ref bM), (1, .long x1), (3, .int x3)]) hx hb dX7_put_59 hl (by decide) rfl (fun ls hl => ?_)
            obtain ⟨x3_61, hn, hF⟩ := k_let_ex hF
            refine lv_iinc (v := x3_61) (lv' := [(3, .int x3_61), (4, .long x4_59), (6, .int (0 : Int32)), (0, .ref bM), (1, .long x1)]) hx hb dX7_put_61 hl (k := 4) rfl (by rw [hn]; rfl) (by decide) rfl (fun ls hl => ?_)
            refine lv_goto (tgt := 8) hx hb dX7_put_64 (by decide) ?_
            exact (hG _ _ _).1 (ih_8 x1 x3_61 x4_59 (0 : Int32) up ux hF _ _ _ hP hD hS (lv_sub hl [3, 4, 0, 1, 2] rfl))
          · have hF := k_if_f hF hc
            refine lv_lload hx hb dX7_put_30 (lv_at hl 3 rfl) ?_
            refine lv_ldc2 (v := (255 : Int64)) hx hb hown (hts _ mm_X7_put_1) dX7_put_32 ?_
            refine lv_land hx hb dX7_put_35 ?_
            refine lv_l2i (v := (x4 &&& (255 : Int64)).toInt32) hx hb dX7_put_36 rfl ?_
            refine lv_bipush (v := (33 : Int32)) hx hb dX7_put_37 (by decide) ?_
            refine lv_bipush (v := (126 : Int32)) hx hb dX7_put_39 (by decide) ?_
            obtain ⟨r41, hC, hF⟩ := k_c1_ex hF
            refine x_SR (As := [.int ((x4 &&& (255 : Int64)).toInt32), .int (33 : Int32), .int (126 : Int32)]) (rest := []) ⟨hx, hb, hml, hown, hts⟩ (c_X7_in l D cyI cyZ N ((x4 &&& (255 : Int64)).toInt32) (33 : Int32) (126 : Int32) hC) (va_cwS 3 hts gX7_put_X7_in rfl rfl rfl (by decide +kernel) ⟨Nat.le_of_ble_eq_true rfl, Nat.le_of_ble_eq_true rfl⟩) hK hP hS [] rfl rfl hl.1 rfl (Nat.le_of_ble_eq_true rfl) ⟨Nat.zero_le _, Nat.zero_le _⟩ dX7_put_41 (fun H locs hP hS => ?_)
            refine lv_if_eq (tgt := 51) hx hb dX7_put_44 (by decide) (fun hc => ?_) (fun hc => ?_)
            · have hF := k_if_t hF hc
              refine lv_iconst (v := (0 : Int32)) hx hb dX7_put_51 (by decide) ?_
              refine lv_istore (lv' := [(6, .int (0 : Int32)), (0, .ref bM), (1, .long x1), (3, .int x3), (4, .long x4)]) hx hb dX7_put_52 hl (by decide) rfl (fun ls hl => ?_)
              refine lv_lload hx hb dX7_put_54 (lv_at hl 4 rfl) ?_
              refine lv_bipush (v := (8 : Int32)) hx hb dX7_put_56 (by decide) ?_
              refine lv_lushr (v := (k_ushr x4 (8 : Int32))) hx hb dX7_put_58 rfl ?_
              obtain ⟨x4_59, hn, hF⟩ := k_let_ex hF
              refine x_nml hn ?_
              refine lv_lstore (lv' := [(4, .long x4_59), (6, .int (0 : Int32)), (0, .ref bM), (1, .long x1), (3, .int x3)]) hx hb dX7_put_59 hl (by decide) rfl (fun ls hl => ?_)
              obtain ⟨x3_61, hn, hF⟩ := k_let_ex hF
              refine lv_iinc (v := x3_61) (lv' := [(3, .int x3_61), (4, .long x4_59), (6, .int (0 : Int32)), (0, .ref bM), (1, .long x1)]) hx hb dX7_put_61 hl (k := 4) rfl (by rw [hn]; rfl) (by decide) rfl (fun ls hl => ?_)
              refine lv_goto (tgt := 8) hx hb dX7_put_64 (by decide) ?_
              exact (hG _ _ _).1 (ih_8 x1 x3_61 x4_59 (0 : Int32) up ux hF _ _ _ hP hD hS (lv_sub hl [3, 4, 0, 1, 2] rfl))
            · have hF := k_if_f hF hc
              refine lv_iconst (v := (1 : Int32)) hx hb dX7_put_47 (by decide) ?_
              refine lv_goto (tgt := 52) hx hb dX7_put_48 (by decide) ?_
              refine lv_istore (lv' := [(6, .int (1 : Int32)), (0, .ref bM), (1, .long x1), (3, .int x3), (4, .long x4)]) hx hb dX7_put_52 hl (by decide) rfl (fun ls hl => ?_)
              refine lv_lload hx hb dX7_put_54 (lv_at hl 4 rfl) ?_
              refine lv_bipush (v := (8 : Int32)) hx hb dX7_put_56 (by decide) ?_
              refine lv_lushr (v := (k_ushr x4 (8 : Int32))) hx hb dX7_put_58 rfl ?_
              obtain ⟨x4_59, hn, hF⟩ := k_let_ex hF
              refine x_nml hn ?_
              refine lv_lstore (lv' := [(4, .long x4_59), (6, .int (1 : Int32)), (0, .ref bM), (1, .long x1), (3, .int x3)]) hx hb dX7_put_59 hl (by decide) rfl (fun ls hl => ?_)
              obtain ⟨x3_61, hn, hF⟩ := k_let_ex hF
              refine lv_iinc (v := x3_61) (lv' := [(3, .int x3_61), (4, .long x4_59), (6, .int (1 : Int32)), (0, .ref bM), (1, .long x1)]) hx hb dX7_put_61 hl (k := 4) rfl (by rw [hn]; rfl) (by decide) rfl (fun ls hl => ?_)
              refine lv_goto (tgt := 8) hx hb dX7_put_64 (by decide) ?_
              exact (hG _ _ _).1 (ih_8 x1 x3_61 x4_59 (1 : Int32) up ux hF _ _ _ hP hD hS (lv_sub hl [3, 4, 0, 1, 2] rfl))
  refine (hG _ _ _).2 ?_
  unfold p_X7_put at hF
  refine lv_iconst (v := (0 : Int32)) hx hb dX7_put_0 (by decide) ?_
  refine lv_istore_n (lv' := [(3, .int (0 : Int32)), (0, .ref bM), (1, .long x1)]) hx hb dX7_put_1 rfl hl (by decide) rfl (fun ls hl => ?_)
  refine lv_lload_n hx hb dX7_put_2 rfl (lv_at hl 2 rfl) ?_
  refine lv_lstore (lv' := [(4, .long x1), (3, .int (0 : Int32)), (0, .ref bM), (1, .long x1)]) hx hb dX7_put_3 hl (by decide) rfl (fun ls hl => ?_)
  refine lv_iconst (v := (1 : Int32)) hx hb dX7_put_5 (by decide) ?_
  refine lv_istore (lv' := [(6, .int (1 : Int32)), (4, .long x1), (3, .int (0 : Int32)), (0, .ref bM), (1, .long x1)]) hx hb dX7_put_6 hl (by decide) rfl (fun ls hl => ?_)
  exact (hG _ _ _).1 (blk_8 N x1 (0 : Int32) x1 (1 : Int32) up ux hF _ _ _ hP hD hS (lv_sub hl [3, 4, 2, 1, 0] rfl))
theorem mm_X7_wipe_1 : Cond.fieldLink RX7 115 "RollerMeshModel" "padded" "I" ∈ wsX7_wipe := List.mem_of_getElem? (i := 1) rfl
theorem mi_X7_wipe_X7 : ∀ w ∈ wsX70, w ∈ wsX7_wipe := fun _ h => List.mem_cons_of_mem _ (List.mem_append_right _ h)
set_option maxHeartbeats 4000000 in
set_option maxRecDepth 100000 in
theorem c_X7_wipe (l : Launch) (D : va_G) (cyI cyZ : ClassId) (bM bN bQ bS bH bP bT : Nat) (sz : Nat) (N : Nat) (us : Int32) (up : Int32) (ue : Int32) (ut : Int32) (um : Int32) {r0 : Int32} {up' : Int32} (hF : p_X7_wipe N us up ue ut um = some (r0, up')) : Met l yX7_wipe wsX7_wipe ({ frames := 0, cells := 0, slots := 0, locals := 0 }) (x_PM D cyI cyZ [.ref bM] [(bM, .inr (7, [.ref bN, .ref bQ, .int us, .ref bS, .ref bH, .ref bP, .int up, .int ue, .int ut, .ref bT, .int um]))] sz) (x_QM D r0 (va_A [(bM, .inr (7, [.ref bN, .ref bQ, .int us, .ref bS, .ref bH, .ref bP, .int up, .int ue, .int ut, .ref bT, .int um]))] sz) [(bM, .inr (7, [.ref bN, .ref bQ, .int us, .ref bS, .ref bH, .ref bP, .int up', .int ue, .int ut, .ref bT, .int um]))]) 0 0 (va_A [(bM, .inr (7, [.ref bN, .ref bQ, .int us, .ref bS, .ref bH, .ref bP, .int up, .int ue, .int ut, .ref bT, .int um]))] sz) := by
  refine Met.ofW (cc := cX7_wipe) (maxL := 2) (ret := (some .int)) (by decide) rfl ?_
  intro p e s m args below meth c s₁ B hml hv
  obtain ⟨rfl, hsz, hP, hK, hD0⟩ := hv
  have hx := B.exec
  have hb := B.bytes
  have hr := B.returns
  have hts := atoms_spec (ws := wsX7_wipe) B.pre
  have hown : s.vm.findClass RX7 = some m.cls := findClass_of_methodNamed B.named
  have hlocks := B.notSynchronized
  subst hsz
  have hD := hD0.self (sz := s.heap.size)
  generalize hAe : va_A [(bM, .inr (7, [.ref bN, .ref bQ, .int us, .ref bS, .ref bH, .ref bP, .int up, .int ue, .int ut, .ref bT, .int um]))] s.heap.size = A at hD ⊢
  have hA : ∀ q : Nat, s.heap.size ≤ q → A q := fun q h => by rw [← hAe]; exact Or.inr h
  have hS : va_S A s.heap s.heap [] := va_S.rf
  have hP : va_P D vwCl [(bM, .inr (7, [.ref bN, .ref bQ, .int us, .ref bS, .ref bH, .ref bP, .int up, .int ue, .int ut, .ref bT, .int um]))] s.heap := hP
  have hl := lv_entry ([.ref bM]) (n := 2) (Nat.le_of_ble_eq_true rfl)
  rw [lg_entry_eq]
  generalize (lg_sl ([.ref bM]) ++ List.replicate (2 - (lg_sl ([.ref bM])).length) Slot.unset).toArray = ls at hl ⊢
  have hl : lv_has ls 2 [(0, .ref bM)] := hl
  unfold p_X7_wipe at hF
  refine lv_aload_n hx hb dX7_wipe_0 rfl (lv_at hl 0 rfl) ?_
  refine va_get (D := D) (ci := 7) (v := .int up) (C := RX7) (T := TX7) (N := 11) hx hb hts mi_X7_wipe_X7 hown hK.1 hP 0 rfl rfl 6 (by decide) (hts _ mm_X7_wipe_1) (fun _ h9 => h9) rfl dX7_wipe_1 ?_
  refine lv_istore_n (lv' := [(1, .int up), (0, .ref bM)]) hx hb dX7_wipe_4 rfl hl (by decide) rfl (fun ls hl => ?_)
  refine lv_aload_n hx hb dX7_wipe_5 rfl (lv_at hl 1 rfl) ?_
  refine lv_iconst (v := (0 : Int32)) hx hb dX7_wipe_6 (by decide) ?_
  refine va_put (D := D) (ci := 7) (v := .int (0 : Int32)) (ty := .int) (C := RX7) (T := TX7) (N := 11) hx hb hts mi_X7_wipe_X7 tyX7 tyX7_ok nmX7 hown hK.1 hP hD hS 0 rfl rfl 6 (by decide) (hts _ mm_X7_wipe_1) (fun _ h9 => h9) rfl (by decide +kernel) rfl rfl (Nat.le_of_ble_eq_true rfl) dX7_wipe_7 (fun H locs hP hD hS => ?_)
  have hP : va_P D vwCl [(bM, .inr (7, [.ref bN, .ref bQ, .int us, .ref bS, .ref bH, .ref bP, .int (0 : Int32), .int ue, .int ut, .ref bT, .int um]))] H := hP
  have hD : va_D A [(bM, .inr (7, [.ref bN, .ref bQ, .int us, .ref bS, .ref bH, .ref bP, .int (0 : Int32), .int ue, .int ut, .ref bT, .int um]))] := hD
  refine lv_iload_n hx hb dX7_wipe_10 rfl (lv_at hl 0 rfl) ?_
  obtain ⟨e0, e1⟩ := k_inj2 hF
  have hP9 : va_P D vwCl [(bM, .inr (7, [.ref bN, .ref bQ, .int us, .ref bS, .ref bH, .ref bP, .int up', .int ue, .int ut, .ref bT, .int um]))] H := by rw [← e1]; exact hP
  exact W.iret hx hb hr (fun t ht hW => ⟨⟨_, (), rfl, e0, x_ret hP9 ht⟩, hS.F ht⟩) hS.2.2 dX7_wipe_11
theorem mm_X7_letter_1 : Cond.fieldLink RX7 131 "RollerMeshModel" "at" "I" ∈ wsX7_letter := List.mem_of_getElem? (i := 1) rfl
theorem mm_X7_letter_2 : Cond.fieldLink RX7 115 "RollerMeshModel" "padded" "I" ∈ wsX7_letter := List.mem_of_getElem? (i := 2) rfl
theorem mm_X7_letter_3 : Cond.fieldLink RX7 23 "RollerMeshModel" "pad" "[I" ∈ wsX7_letter := List.mem_of_getElem? (i := 3) rfl
theorem mi_X7_letter_X7 : ∀ w ∈ wsX70, w ∈ wsX7_letter := fun _ h => List.mem_cons_of_mem _ (List.mem_append_right _ h)
set_option maxHeartbeats 4000000 in
set_option maxRecDepth 100000 in
theorem c_X7_letter (l : Launch) (D : va_G) (cyI cyZ : ClassId) (bM bN bQ bS bH bP bT : Nat) (sz : Nat) (N : Nat) (us : Int32) (up : Int32) (ue : Int32) (ut : Int32) (um : Int32) (ux : (Nat → Int32)) {r0 : Int32} {ut' : Int32} (hF : p_X7_letter N us up ue ut um ux = some (r0, ut')) : Met l yX7_letter wsX7_letter ({ frames := 0, cells := 0, slots := 0, locals := 0 }) (x_PM D cyI cyZ [.ref bM] [(bM, .inr (7, [.ref bN, .ref bQ, .int us, .ref bS, .ref bH, .ref bP, .int up, .int ue, .int ut, .ref bT, .int um])), (bP, .inl (cyI, 80, .inl ux))] sz) (x_QM D r0 (va_A [(bM, .inr (7, [.ref bN, .ref bQ, .int us, .ref bS, .ref bH, .ref bP, .int up, .int ue, .int ut, .ref bT, .int um])), (bP, .inl (cyI, 80, .inl ux))] sz) [(bM, .inr (7, [.ref bN, .ref bQ, .int us, .ref bS, .ref bH, .ref bP, .int up, .int ue, .int ut', .ref bT, .int um])), (bP, .inl (cyI, 80, .inl ux))]) 0 0 (va_A [(bM, .inr (7, [.ref bN, .ref bQ, .int us, .ref bS, .ref bH, .ref bP, .int up, .int ue, .int ut, .ref bT, .int um])), (bP, .inl (cyI, 80, .inl ux))] sz) := by
  refine Met.ofW (cc := cX7_letter) (maxL := 2) (ret := (some .int)) (by decide) rfl ?_
  intro p e s m args below meth c s₁ B hml hv
  obtain ⟨rfl, hsz, hP, hK, hD0⟩ := hv
  have hx := B.exec
  have hb := B.bytes
  have hr := B.returns
  have hts := atoms_spec (ws := wsX7_letter) B.pre
  have hown : s.vm.findClass RX7 = some m.cls := findClass_of_methodNamed B.named
  have hlocks := B.notSynchronized
  subst hsz
  have hD := hD0.self (sz := s.heap.size)
  generalize hAe : va_A [(bM, .inr (7, [.ref bN, .ref bQ, .int us, .ref bS, .ref bH, .ref bP, .int up, .int ue, .int ut, .ref bT, .int um])), (bP, .inl (cyI, 80, .inl ux))] s.heap.size = A at hD ⊢
  have hA : ∀ q : Nat, s.heap.size ≤ q → A q := fun q h => by rw [← hAe]; exact Or.inr h
  have hS : va_S A s.heap s.heap [] := va_S.rf
  have hP : va_P D vwCl [(bM, .inr (7, [.ref bN, .ref bQ, .int us, .ref bS, .ref bH, .ref bP, .int up, .int ue, .int ut, .ref bT, .int um])), (bP, .inl (cyI, 80, .inl ux))] s.heap := hP
  have hl := lv_entry ([.ref bM]) (n := 2) (Nat.le_of_ble_eq_true rfl)
  rw [lg_entry_eq]
  generalize (lg_sl ([.ref bM]) ++ List.replicate (2 - (lg_sl ([.ref bM])).length) Slot.unset).toArray = ls at hl ⊢
  have hl : lv_has ls 2 [(0, .ref bM)] := hl
  unfold p_X7_letter at hF
  refine lv_aload_n hx hb dX7_letter_0 rfl (lv_at hl 0 rfl) ?_
  refine va_get (D := D) (ci := 7) (v := .int ut) (C := RX7) (T := TX7) (N := 11) hx hb hts mi_X7_letter_X7 hown hK.1 hP 0 rfl rfl 8 (by decide) (hts _ mm_X7_letter_1) (fun _ h9 => h9) rfl dX7_letter_1 ?_
  refine lv_aload_n hx hb dX7_letter_4 rfl (lv_at hl 0 rfl) ?_
  refine va_get (D := D) (ci := 7) (v := .int up) (C := RX7) (T := TX7) (N := 11) hx hb hts mi_X7_letter_X7 hown hK.1 hP 0 rfl rfl 6 (by decide) (hts _ mm_X7_letter_2) (fun _ h9 => h9) rfl dX7_letter_5 ?_
  refine lv_icmp_ge (tgt := 23) hx hb dX7_letter_8 (by decide) (fun hc => ?_) (fun hc => ?_)
  · have hF := k_if_t hF hc
    refine lv_iconst (v := (0 : Int32)) hx hb dX7_letter_23 (by decide) ?_
    refine lv_istore_n (lv' := [(1, .int (0 : Int32)), (0, .ref bM)]) hx hb dX7_letter_24 rfl hl (by decide) rfl (fun ls hl => ?_)
    refine lv_aload_n hx hb dX7_letter_25 rfl (lv_at hl 1 rfl) ?_
    refine lv_dup hx hb dX7_letter_26 rfl ?_
    refine va_get (D := D) (ci := 7) (v := .int ut) (C := RX7) (T := TX7) (N := 11) hx hb hts mi_X7_letter_X7 hown hK.1 hP 0 rfl rfl 8 (by decide) (hts _ mm_X7_letter_1) (fun _ h9 => h9) rfl dX7_letter_27 ?_
    refine lv_iconst (v := (1 : Int32)) hx hb dX7_letter_30 (by decide) ?_
    refine lv_iadd hx hb dX7_letter_31 ?_
    obtain ⟨ut_32, hn, hF⟩ := k_let_ex hF
    refine x_nm hn ?_
    refine va_put (D := D) (ci := 7) (v := .int ut_32) (ty := .int) (C := RX7) (T := TX7) (N := 11) hx hb hts mi_X7_letter_X7 tyX7 tyX7_ok nmX7 hown hK.1 hP hD hS 0 rfl rfl 8 (by decide) (hts _ mm_X7_letter_1) (fun _ h9 => h9) rfl (by decide +kernel) rfl rfl (Nat.le_of_ble_eq_true rfl) dX7_letter_32 (fun H locs hP hD hS => ?_)
    have hP : va_P D vwCl [(bM, .inr (7, [.ref bN, .ref bQ, .int us, .ref bS, .ref bH, .ref bP, .int up, .int ue, .int ut_32, .ref bT, .int um])), (bP, .inl (cyI, 80, .inl ux))] H := hP
    have hD : va_D A [(bM, .inr (7, [.ref bN, .ref bQ, .int us, .ref bS, .ref bH, .ref bP, .int up, .int ue, .int ut_32, .ref bT, .int um])), (bP, .inl (cyI, 80, .inl ux))] := hD
    refine lv_iload_n hx hb dX7_letter_35 rfl (lv_at hl 0 rfl) ?_
    obtain ⟨e0, e1⟩ := k_inj2 hF
    have hP9 : va_P D vwCl [(bM, .inr (7, [.ref bN, .ref bQ, .int us, .ref bS, .ref bH, .ref bP, .int up, .int ue, .int ut', .ref bT, .int um])), (bP, .inl (cyI, 80, .inl ux))] H := by rw [← e1]; exact hP
    exact W.iret hx hb hr (fun t ht hW => ⟨⟨_, (), rfl, e0, x_ret hP9 ht⟩, hS.F ht⟩) hS.2.2 dX7_letter_36
  · have hF := k_if_f hF hc
    refine lv_aload_n hx hb dX7_letter_11 rfl (lv_at hl 0 rfl) ?_
    refine va_get (D := D) (ci := 7) (v := .ref bP) (C := RX7) (T := TX7) (N := 11) hx hb hts mi_X7_letter_X7 hown hK.1 hP 0 rfl rfl 5 (by decide) (hts _ mm_X7_letter_3) (fun _ h9 => h9) rfl dX7_letter_12 ?_
    refine lv_aload_n hx hb dX7_letter_15 rfl (lv_at hl 0 rfl) ?_
    refine va_get (D := D) (ci := 7) (v := .int ut) (C := RX7) (T := TX7) (N := 11) hx hb hts mi_X7_letter_X7 hown hK.1 hP 0 rfl rfl 8 (by decide) (hts _ mm_X7_letter_1) (fun _ h9 => h9) rfl dX7_letter_16 ?_
    obtain ⟨r19, hin, hn, hF⟩ := k_ld_ex hF
    refine x_iald hx hb hK hP 1 rfl hin hn dX7_letter_19 ?_
    refine lv_goto (tgt := 24) hx hb dX7_letter_20 (by decide) ?_
    refine lv_istore_n (lv' := [(1, .int r19), (0, .ref bM)]) hx hb dX7_letter_24 rfl hl (by decide) rfl (fun ls hl => ?_)
    refine lv_aload_n hx hb dX7_letter_25 rfl (lv_at hl 1 rfl) ?_
    refine lv_dup hx hb dX7_letter_26 rfl ?_
    refine va_get (D := D) (ci := 7) (v := .int ut) (C := RX7) (T := TX7) (N := 11) hx hb hts mi_X7_letter_X7 hown hK.1 hP 0 rfl rfl 8 (by decide) (hts _ mm_X7_letter_1) (fun _ h9 => h9) rfl dX7_letter_27 ?_
    refine lv_iconst (v := (1 : Int32)) hx hb dX7_letter_30 (by decide) ?_
    refine lv_iadd hx hb dX7_letter_31 ?_
    obtain ⟨ut_32, hn, hF⟩ := k_let_ex hF
    refine x_nm hn ?_
    refine va_put (D := D) (ci := 7) (v := .int ut_32) (ty := .int) (C := RX7) (T := TX7) (N := 11) hx hb hts mi_X7_letter_X7 tyX7 tyX7_ok nmX7 hown hK.1 hP hD hS 0 rfl rfl 8 (by decide) (hts _ mm_X7_letter_1) (fun _ h9 => h9) rfl (by decide +kernel) rfl rfl (Nat.le_of_ble_eq_true rfl) dX7_letter_32 (fun H locs hP hD hS => ?_)
    have hP : va_P D vwCl [(bM, .inr (7, [.ref bN, .ref bQ, .int us, .ref bS, .ref bH, .ref bP, .int up, .int ue, .int ut_32, .ref bT, .int um])), (bP, .inl (cyI, 80, .inl ux))] H := hP
    have hD : va_D A [(bM, .inr (7, [.ref bN, .ref bQ, .int us, .ref bS, .ref bH, .ref bP, .int up, .int ue, .int ut_32, .ref bT, .int um])), (bP, .inl (cyI, 80, .inl ux))] := hD
    refine lv_iload_n hx hb dX7_letter_35 rfl (lv_at hl 0 rfl) ?_
    obtain ⟨e0, e1⟩ := k_inj2 hF
    have hP9 : va_P D vwCl [(bM, .inr (7, [.ref bN, .ref bQ, .int us, .ref bS, .ref bH, .ref bP, .int up, .int ue, .int ut', .ref bT, .int um])), (bP, .inl (cyI, 80, .inl ux))] H := by rw [← e1]; exact hP
    exact W.iret hx hb hr (fun t ht hW => ⟨⟨_, (), rfl, e0, x_ret hP9 ht⟩, hS.F ht⟩) hS.2.2 dX7_letter_36
theorem mm_X7_sees_1 : Cond.fieldLink RX7 131 "RollerMeshModel" "at" "I" ∈ wsX7_sees := List.mem_of_getElem? (i := 1) rfl
theorem mm_X7_sees_2 : Cond.fieldLink RX7 115 "RollerMeshModel" "padded" "I" ∈ wsX7_sees := List.mem_of_getElem? (i := 2) rfl
theorem mm_X7_sees_3 : Cond.fieldLink RX7 23 "RollerMeshModel" "pad" "[I" ∈ wsX7_sees := List.mem_of_getElem? (i := 3) rfl
theorem mi_X7_sees_X7 : ∀ w ∈ wsX70, w ∈ wsX7_sees := fun _ h => List.mem_cons_of_mem _ (List.mem_append_right _ h)
set_option maxHeartbeats 4000000 in
set_option maxRecDepth 100000 in
theorem c_X7_sees (l : Launch) (D : va_G) (cyI cyZ : ClassId) (bM bN bQ bS bH bP bT : Nat) (N : Nat) (x1 : Int32) (x2 : Int32) (us : Int32) (up : Int32) (ue : Int32) (ut : Int32) (um : Int32) (ux : (Nat → Int32)) {r0 : Int32}  (hF : p_X7_sees N x1 x2 us up ue ut um ux = some (r0)) : Met l yX7_sees wsX7_sees ({ frames := 1, cells := 0, slots := 0, locals := 22 }) (x_PR D cyI cyZ [.ref bM, .int x1, .int x2] [(bM, .inr (7, [.ref bN, .ref bQ, .int us, .ref bS, .ref bH, .ref bP, .int up, .int ue, .int ut, .ref bT, .int um])), (bP, .inl (cyI, 80, .inl ux))]) (x_QR r0) 0 0 (fun _ => False) := by
  refine Met.ofW (cc := cX7_sees) (maxL := 3) (ret := (some .boolean)) (by decide) rfl ?_
  intro p e s m args below meth c s₁ B hml hv
  obtain ⟨rfl, hP, hK⟩ := hv
  have hx := B.exec
  have hb := B.bytes
  have hr := B.returns
  have hts := atoms_spec (ws := wsX7_sees) B.pre
  have hown : s.vm.findClass RX7 = some m.cls := findClass_of_methodNamed B.named
  have hlocks := B.notSynchronized
  have hS : va_S (fun _ => False) s.heap s.heap [] := va_S.rf
  have hP : va_P D vwCl [(bM, .inr (7, [.ref bN, .ref bQ, .int us, .ref bS, .ref bH, .ref bP, .int up, .int ue, .int ut, .ref bT, .int um])), (bP, .inl (cyI, 80, .inl ux))] s.heap := hP
  have hl := lv_entry ([.ref bM, .int x1, .int x2]) (n := 3) (Nat.le_of_ble_eq_true rfl)
  rw [lg_entry_eq]
  generalize (lg_sl ([.ref bM, .int x1, .int x2]) ++ List.replicate (3 - (lg_sl ([.ref bM, .int x1, .int x2])).length) Slot.unset).toArray = ls at hl ⊢
  have hl : lv_has ls 3 [(0, .ref bM), (1, .int x1), (2, .int x2)] := hl
  unfold p_X7_sees at hF
  refine lv_aload_n hx hb dX7_sees_0 rfl (lv_at hl 0 rfl) ?_
  refine va_get (D := D) (ci := 7) (v := .int ut) (C := RX7) (T := TX7) (N := 11) hx hb hts mi_X7_sees_X7 hown hK.1 hP 0 rfl rfl 8 (by decide) (hts _ mm_X7_sees_1) (fun _ h9 => h9) rfl dX7_sees_1 ?_
  refine lv_aload_n hx hb dX7_sees_4 rfl (lv_at hl 0 rfl) ?_
  refine va_get (D := D) (ci := 7) (v := .int up) (C := RX7) (T := TX7) (N := 11) hx hb hts mi_X7_sees_X7 hown hK.1 hP 0 rfl rfl 6 (by decide) (hts _ mm_X7_sees_2) (fun _ h9 => h9) rfl dX7_sees_5 ?_
  refine lv_icmp_ge (tgt := 32) hx hb dX7_sees_8 (by decide) (fun hc => ?_) (fun hc => ?_)
  · have hF := k_if_t hF hc
    refine lv_iconst (v := (0 : Int32)) hx hb dX7_sees_32 (by decide) ?_
    exact W.zret hx hb hr rfl (fun t ht hW => ⟨⟨_, (), rfl, Option.some.inj hF, trivial⟩, hS.F ht⟩) hS.2.2 dX7_sees_33
  · have hF := k_if_f hF hc
    refine lv_aload_n hx hb dX7_sees_11 rfl (lv_at hl 0 rfl) ?_
    refine va_get (D := D) (ci := 7) (v := .ref bP) (C := RX7) (T := TX7) (N := 11) hx hb hts mi_X7_sees_X7 hown hK.1 hP 0 rfl rfl 5 (by decide) (hts _ mm_X7_sees_3) (fun _ h9 => h9) rfl dX7_sees_12 ?_
    refine lv_aload_n hx hb dX7_sees_15 rfl (lv_at hl 0 rfl) ?_
    refine va_get (D := D) (ci := 7) (v := .int ut) (C := RX7) (T := TX7) (N := 11) hx hb hts mi_X7_sees_X7 hown hK.1 hP 0 rfl rfl 8 (by decide) (hts _ mm_X7_sees_1) (fun _ h9 => h9) rfl dX7_sees_16 ?_
    obtain ⟨r19, hin, hn, hF⟩ := k_ld_ex hF
    refine x_iald hx hb hK hP 1 rfl hin hn dX7_sees_19 ?_
    refine lv_iload_n hx hb dX7_sees_20 rfl (lv_at hl 1 rfl) ?_
    refine lv_iload_n hx hb dX7_sees_21 rfl (lv_at hl 2 rfl) ?_
    obtain ⟨r22, hC, hF⟩ := k_c1_ex hF
    refine x_SR (As := [.int r19, .int x1, .int x2]) (rest := []) ⟨hx, hb, hml, hown, hts⟩ (c_X7_in l D cyI cyZ N r19 x1 x2 hC) (va_cwS 3 hts gX7_sees_X7_in rfl rfl rfl (by decide +kernel) ⟨Nat.le_of_ble_eq_true rfl, Nat.le_of_ble_eq_true rfl⟩) hK hP hS [] rfl rfl hl.1 rfl (Nat.le_of_ble_eq_true rfl) ⟨Nat.zero_le _, Nat.zero_le _⟩ dX7_sees_22 (fun H locs hP hS => ?_)
    refine lv_if_eq (tgt := 32) hx hb dX7_sees_25 (by decide) (fun hc => ?_) (fun hc => ?_)
    · have hF := k_if_t hF hc
      refine lv_iconst (v := (0 : Int32)) hx hb dX7_sees_32 (by decide) ?_
      exact W.zret hx hb hr rfl (fun t ht hW => ⟨⟨_, (), rfl, Option.some.inj hF, trivial⟩, hS.F ht⟩) hS.2.2 dX7_sees_33
    · have hF := k_if_f hF hc
      refine lv_iconst (v := (1 : Int32)) hx hb dX7_sees_28 (by decide) ?_
      refine lv_goto (tgt := 33) hx hb dX7_sees_29 (by decide) ?_
      exact W.zret hx hb hr rfl (fun t ht hW => ⟨⟨_, (), rfl, Option.some.inj hF, trivial⟩, hS.F ht⟩) hS.2.2 dX7_sees_33
theorem mm_X7_takes_1 : Cond.fieldLink RX7 131 "RollerMeshModel" "at" "I" ∈ wsX7_takes := List.mem_of_getElem? (i := 1) rfl
theorem mi_X7_takes_X7 : ∀ w ∈ wsX70, w ∈ wsX7_takes := fun _ h => List.mem_cons_of_mem _ (List.mem_append_right _ h)
set_option maxHeartbeats 4000000 in
set_option maxRecDepth 100000 in
theorem c_X7_takes (l : Launch) (D : va_G) (cyI cyZ : ClassId) (bM bN bQ bS bH bP bT : Nat) (sz : Nat) (N : Nat) (x1 : Int32) (us : Int32) (up : Int32) (ue : Int32) (ut : Int32) (um : Int32) (ux : (Nat → Int32)) {r0 : Int32} {ut' : Int32} (hF : p_X7_takes N x1 us up ue ut um ux = some (r0, ut')) : Met l yX7_takes wsX7_takes ({ frames := 2, cells := 0, slots := 0, locals := 44 }) (x_PM D cyI cyZ [.ref bM, .int x1] [(bM, .inr (7, [.ref bN, .ref bQ, .int us, .ref bS, .ref bH, .ref bP, .int up, .int ue, .int ut, .ref bT, .int um])), (bP, .inl (cyI, 80, .inl ux))] sz) (x_QM D r0 (va_A [(bM, .inr (7, [.ref bN, .ref bQ, .int us, .ref bS, .ref bH, .ref bP, .int up, .int ue, .int ut, .ref bT, .int um])), (bP, .inl (cyI, 80, .inl ux))] sz) [(bM, .inr (7, [.ref bN, .ref bQ, .int us, .ref bS, .ref bH, .ref bP, .int up, .int ue, .int ut', .ref bT, .int um])), (bP, .inl (cyI, 80, .inl ux))]) 0 0 (va_A [(bM, .inr (7, [.ref bN, .ref bQ, .int us, .ref bS, .ref bH, .ref bP, .int up, .int ue, .int ut, .ref bT, .int um])), (bP, .inl (cyI, 80, .inl ux))] sz) := by
  refine Met.ofW (cc := cX7_takes) (maxL := 3) (ret := (some .boolean)) (by decide) rfl ?_
  intro p e s m args below meth c s₁ B hml hv
  obtain ⟨rfl, hsz, hP, hK, hD0⟩ := hv
  have hx := B.exec
  have hb := B.bytes
  have hr := B.returns
  have hts := atoms_spec (ws := wsX7_takes) B.pre
  have hown : s.vm.findClass RX7 = some m.cls := findClass_of_methodNamed B.named
  have hlocks := B.notSynchronized
  subst hsz
  have hD := hD0.self (sz := s.heap.size)
  generalize hAe : va_A [(bM, .inr (7, [.ref bN, .ref bQ, .int us, .ref bS, .ref bH, .ref bP, .int up, .int ue, .int ut, .ref bT, .int um])), (bP, .inl (cyI, 80, .inl ux))] s.heap.size = A at hD ⊢
  have hA : ∀ q : Nat, s.heap.size ≤ q → A q := fun q h => by rw [← hAe]; exact Or.inr h
  have hS : va_S A s.heap s.heap [] := va_S.rf
  have hP : va_P D vwCl [(bM, .inr (7, [.ref bN, .ref bQ, .int us, .ref bS, .ref bH, .ref bP, .int up, .int ue, .int ut, .ref bT, .int um])), (bP, .inl (cyI, 80, .inl ux))] s.heap := hP
  have hl := lv_entry ([.ref bM, .int x1]) (n := 3) (Nat.le_of_ble_eq_true rfl)
  rw [lg_entry_eq]
  generalize (lg_sl ([.ref bM, .int x1]) ++ List.replicate (3 - (lg_sl ([.ref bM, .int x1])).length) Slot.unset).toArray = ls at hl ⊢
  have hl : lv_has ls 3 [(0, .ref bM), (1, .int x1)] := hl
  unfold p_X7_takes at hF
  refine lv_aload_n hx hb dX7_takes_0 rfl (lv_at hl 0 rfl) ?_
  refine lv_iload_n hx hb dX7_takes_1 rfl (lv_at hl 1 rfl) ?_
  refine lv_iload_n hx hb dX7_takes_2 rfl (lv_at hl 1 rfl) ?_
  obtain ⟨r3, hC, hF⟩ := k_c1_ex hF
  refine x_VR (As := [.int x1, .int x1]) (rest := []) ⟨hx, hb, hml, hown, hts⟩ (c_X7_sees l D cyI cyZ bM bN bQ bS bH bP bT N x1 x1 us up ue ut um ux hC) (cwV 2 hts gX7_takes_X7_sees rfl rfl rfl (by decide +kernel) ⟨Nat.le_of_ble_eq_true rfl, Nat.le_of_ble_eq_true rfl⟩) hK hP hS [0, 1] rfl 0 rfl rfl rfl rfl hl.1 rfl (Nat.le_of_ble_eq_true rfl) ⟨Nat.zero_le _, Nat.zero_le _⟩ dX7_takes_3 (fun H locs hP hS => ?_)
  refine lv_istore_n (lv' := [(2, .int r3), (0, .ref bM), (1, .int x1)]) hx hb dX7_takes_6 rfl hl (by decide) rfl (fun ls hl => ?_)
  refine lv_aload_n hx hb dX7_takes_7 rfl (lv_at hl 1 rfl) ?_
  refine lv_dup hx hb dX7_takes_8 rfl ?_
  refine va_get (D := D) (ci := 7) (v := .int ut) (C := RX7) (T := TX7) (N := 11) hx hb hts mi_X7_takes_X7 hown hK.1 hP 0 rfl rfl 8 (by decide) (hts _ mm_X7_takes_1) (fun _ h9 => h9) rfl dX7_takes_9 ?_
  refine lv_iload_n hx hb dX7_takes_12 rfl (lv_at hl 0 rfl) ?_
  refine lv_if_eq (tgt := 20) hx hb dX7_takes_13 (by decide) (fun hc => ?_) (fun hc => ?_)
  · have hF := k_if_t hF hc
    refine lv_iconst (v := (0 : Int32)) hx hb dX7_takes_20 (by decide) ?_
    refine lv_iadd hx hb dX7_takes_21 ?_
    obtain ⟨ut_22, hn, hF⟩ := k_let_ex hF
    refine x_nm hn ?_
    refine va_put (D := D) (ci := 7) (v := .int ut_22) (ty := .int) (C := RX7) (T := TX7) (N := 11) hx hb hts mi_X7_takes_X7 tyX7 tyX7_ok nmX7 hown hK.1 hP hD hS 0 rfl rfl 8 (by decide) (hts _ mm_X7_takes_1) (fun _ h9 => h9) rfl (by decide +kernel) rfl rfl (Nat.le_of_ble_eq_true rfl) dX7_takes_22 (fun H locs hP hD hS => ?_)
    have hP : va_P D vwCl [(bM, .inr (7, [.ref bN, .ref bQ, .int us, .ref bS, .ref bH, .ref bP, .int up, .int ue, .int ut_22, .ref bT, .int um])), (bP, .inl (cyI, 80, .inl ux))] H := hP
    have hD : va_D A [(bM, .inr (7, [.ref bN, .ref bQ, .int us, .ref bS, .ref bH, .ref bP, .int up, .int ue, .int ut_22, .ref bT, .int um])), (bP, .inl (cyI, 80, .inl ux))] := hD
    refine lv_iload_n hx hb dX7_takes_25 rfl (lv_at hl 0 rfl) ?_
    obtain ⟨hbit, hF⟩ := k_bit_ex hF
    obtain ⟨e0, e1⟩ := k_inj2 hF
    have hP9 : va_P D vwCl [(bM, .inr (7, [.ref bN, .ref bQ, .int us, .ref bS, .ref bH, .ref bP, .int up, .int ue, .int ut', .ref bT, .int um])), (bP, .inl (cyI, 80, .inl ux))] H := by rw [← e1]; exact hP
    exact W.zret hx hb hr (congrArg Value.int hbit) (fun t ht hW => ⟨⟨_, (), rfl, e0, x_ret hP9 ht⟩, hS.F ht⟩) hS.2.2 dX7_takes_26
  · have hF := k_if_f hF hc
    refine lv_iconst (v := (1 : Int32)) hx hb dX7_takes_16 (by decide) ?_
    refine lv_goto (tgt := 21) hx hb dX7_takes_17 (by decide) ?_
    refine lv_iadd hx hb dX7_takes_21 ?_
    obtain ⟨ut_22, hn, hF⟩ := k_let_ex hF
    refine x_nm hn ?_
    refine va_put (D := D) (ci := 7) (v := .int ut_22) (ty := .int) (C := RX7) (T := TX7) (N := 11) hx hb hts mi_X7_takes_X7 tyX7 tyX7_ok nmX7 hown hK.1 hP hD hS 0 rfl rfl 8 (by decide) (hts _ mm_X7_takes_1) (fun _ h9 => h9) rfl (by decide +kernel) rfl rfl (Nat.le_of_ble_eq_true rfl) dX7_takes_22 (fun H locs hP hD hS => ?_)
    have hP : va_P D vwCl [(bM, .inr (7, [.ref bN, .ref bQ, .int us, .ref bS, .ref bH, .ref bP, .int up, .int ue, .int ut_22, .ref bT, .int um])), (bP, .inl (cyI, 80, .inl ux))] H := hP
    have hD : va_D A [(bM, .inr (7, [.ref bN, .ref bQ, .int us, .ref bS, .ref bH, .ref bP, .int up, .int ue, .int ut_22, .ref bT, .int um])), (bP, .inl (cyI, 80, .inl ux))] := hD
    refine lv_iload_n hx hb dX7_takes_25 rfl (lv_at hl 0 rfl) ?_
    obtain ⟨hbit, hF⟩ := k_bit_ex hF
    obtain ⟨e0, e1⟩ := k_inj2 hF
    have hP9 : va_P D vwCl [(bM, .inr (7, [.ref bN, .ref bQ, .int us, .ref bS, .ref bH, .ref bP, .int up, .int ue, .int ut', .ref bT, .int um])), (bP, .inl (cyI, 80, .inl ux))] H := by rw [← e1]; exact hP
    exact W.zret hx hb hr (congrArg Value.int hbit) (fun t ht hW => ⟨⟨_, (), rfl, e0, x_ret hP9 ht⟩, hS.F ht⟩) hS.2.2 dX7_takes_26
theorem mm_X7_isValue_1 : Cond.fieldLink RX7 26 "RollerMeshModel" "told" "[I" ∈ wsX7_isValue := List.mem_of_getElem? (i := 1) rfl
theorem mm_X7_isValue_2 : Cond.fieldLink RX7 137 "RollerMeshModel" "toldMany" "I" ∈ wsX7_isValue := List.mem_of_getElem? (i := 2) rfl
theorem mm_X7_isValue_3 : Cond.fieldLink RX7 23 "RollerMeshModel" "pad" "[I" ∈ wsX7_isValue := List.mem_of_getElem? (i := 3) rfl
theorem mm_X7_isValue_4 : Cond.fieldLink RX7 131 "RollerMeshModel" "at" "I" ∈ wsX7_isValue := List.mem_of_getElem? (i := 4) rfl
theorem mi_X7_isValue_X7 : ∀ w ∈ wsX70, w ∈ wsX7_isValue := fun _ h => List.mem_cons_of_mem _ (List.mem_append_right _ h)
set_option maxHeartbeats 4000000 in
set_option maxRecDepth 100000 in
theorem c_X7_isValue (l : Launch) (D : va_G) (cyI cyZ : ClassId) (bM bN bQ bS bH bP bT : Nat) (sz : Nat) (N : Nat) (us : Int32) (up : Int32) (ue : Int32) (ut : Int32) (um : Int32) (ux : (Nat → Int32)) (uo : (Nat → Int32)) {r0 : Int32} {ut' : Int32} {um' : Int32} {uo' : (Nat → Int32)} (hF : p_X7_isValue N us up ue ut um ux uo = some (r0, ut', um', uo')) : Met l yX7_isValue wsX7_isValue ({ frames := 3, cells := 0, slots := 0, locals := 66 }) (x_PM D cyI cyZ [.ref bM] [(bM, .inr (7, [.ref bN, .ref bQ, .int us, .ref bS, .ref bH, .ref bP, .int up, .int ue, .int ut, .ref bT, .int um])), (bP, .inl (cyI, 80, .inl ux)), (bT, .inl (cyI, 42, .inl uo))] sz) (x_QM D r0 (va_A [(bM, .inr (7, [.ref bN, .ref bQ, .int us, .ref bS, .ref bH, .ref bP, .int up, .int ue, .int ut, .ref bT, .int um])), (bP, .inl (cyI, 80, .inl ux)), (bT, .inl (cyI, 42, .inl uo))] sz) [(bM, .inr (7, [.ref bN, .ref bQ, .int us, .ref bS, .ref bH, .ref bP, .int up, .int ue, .int ut', .ref bT, .int um'])), (bP, .inl (cyI, 80, .inl ux)), (bT, .inl (cyI, 42, .inl uo'))]) 0 0 (va_A [(bM, .inr (7, [.ref bN, .ref bQ, .int us, .ref bS, .ref bH, .ref bP, .int up, .int ue, .int ut, .ref bT, .int um])), (bP, .inl (cyI, 80, .inl ux)), (bT, .inl (cyI, 42, .inl uo))] sz) := by
  refine Met.ofW (cc := cX7_isValue) (maxL := 2) (ret := (some .boolean)) (by decide) rfl ?_
  intro p e s m args below meth c s₁ B hml hv
  obtain ⟨rfl, hsz, hP, hK, hD0⟩ := hv
  have hx := B.exec
  have hb := B.bytes
  have hr := B.returns
  have hts := atoms_spec (ws := wsX7_isValue) B.pre
  have hown : s.vm.findClass RX7 = some m.cls := findClass_of_methodNamed B.named
  have hlocks := B.notSynchronized
  subst hsz
  have hD := hD0.self (sz := s.heap.size)
  generalize hAe : va_A [(bM, .inr (7, [.ref bN, .ref bQ, .int us, .ref bS, .ref bH, .ref bP, .int up, .int ue, .int ut, .ref bT, .int um])), (bP, .inl (cyI, 80, .inl ux)), (bT, .inl (cyI, 42, .inl uo))] s.heap.size = A at hD ⊢
  have hA : ∀ q : Nat, s.heap.size ≤ q → A q := fun q h => by rw [← hAe]; exact Or.inr h
  have hS : va_S A s.heap s.heap [] := va_S.rf
  have hP : va_P D vwCl [(bM, .inr (7, [.ref bN, .ref bQ, .int us, .ref bS, .ref bH, .ref bP, .int up, .int ue, .int ut, .ref bT, .int um])), (bP, .inl (cyI, 80, .inl ux)), (bT, .inl (cyI, 42, .inl uo))] s.heap := hP
  have hl := lv_entry ([.ref bM]) (n := 2) (Nat.le_of_ble_eq_true rfl)
  rw [lg_entry_eq]
  generalize (lg_sl ([.ref bM]) ++ List.replicate (2 - (lg_sl ([.ref bM])).length) Slot.unset).toArray = ls at hl ⊢
  have hl : lv_has ls 2 [(0, .ref bM)] := hl
  refine x_gen (fun G hG => ?_)
  have blk_14 : ∀ (t0 : Int32) (ut : Int32) (um : Int32) (uo : (Nat → Int32)), b_X7_isValue_14 N t0 us up ue ut um ux uo = some (r0, ut', um', uo') → ∀ (H : Heap) (locs : List Loc) (ls : Array Slot), va_P D vwCl [(bM, .inr (7, [.ref bN, .ref bQ, .int us, .ref bS, .ref bH, .ref bP, .int up, .int ue, .int ut, .ref bT, .int um])), (bP, .inl (cyI, 80, .inl ux)), (bT, .inl (cyI, 42, .inl uo))] H → va_D A [(bM, .inr (7, [.ref bN, .ref bQ, .int us, .ref bS, .ref bH, .ref bP, .int up, .int ue, .int ut, .ref bT, .int um])), (bP, .inl (cyI, 80, .inl ux)), (bT, .inl (cyI, 42, .inl uo))] → va_S A s.heap H locs → lv_has ls 2 [(0, .ref bM)] → G H locs (F0 m 14 ls [.int t0]) := by
    intro t0 ut um uo hF H locs ls hP hD hS hl
    unfold b_X7_isValue_14 at hF
    refine (hG _ _ _).2 ?_
    refine lv_istore_n (lv' := [(1, .int t0), (0, .ref bM)]) hx hb dX7_isValue_14 rfl hl (by decide) rfl (fun ls hl => ?_)
    refine lv_aload_n hx hb dX7_isValue_15 rfl (lv_at hl 1 rfl) ?_
    refine lv_bipush (v := (48 : Int32)) hx hb dX7_isValue_16 (by decide) ?_
    refine lv_bipush (v := (57 : Int32)) hx hb dX7_isValue_18 (by decide) ?_
    obtain ⟨r20, hC, hF⟩ := k_c1_ex hF
    refine x_VR (As := [.int (48 : Int32), .int (57 : Int32)]) (rest := []) ⟨hx, hb, hml, hown, hts⟩ (c_X7_sees l D cyI cyZ bM bN bQ bS bH bP bT N (48 : Int32) (57 : Int32) us up ue ut um ux hC) (cwV 2 hts gX7_isValue_X7_sees rfl rfl rfl (by decide +kernel) ⟨Nat.le_of_ble_eq_true rfl, Nat.le_of_ble_eq_true rfl⟩) hK hP hS [0, 1] rfl 0 rfl rfl rfl rfl hl.1 rfl (Nat.le_of_ble_eq_true rfl) ⟨Nat.zero_le _, Nat.zero_le _⟩ dX7_isValue_20 (fun H locs hP hS => ?_)
    refine lv_if_ne (tgt := 28) hx hb dX7_isValue_23 (by decide) (fun hc => ?_) (fun hc => ?_)
    · have hF := k_if_f hF hc
      refine lv_aload_n hx hb dX7_isValue_28 rfl (lv_at hl 1 rfl) ?_
      refine va_get (D := D) (ci := 7) (v := .ref bT) (C := RX7) (T := TX7) (N := 11) hx hb hts mi_X7_isValue_X7 hown hK.1 hP 0 rfl rfl 9 (by decide) (hts _ mm_X7_isValue_1) (fun _ h9 => h9) rfl dX7_isValue_29 ?_
      refine lv_aload_n hx hb dX7_isValue_32 rfl (lv_at hl 1 rfl) ?_
      refine va_get (D := D) (ci := 7) (v := .int um) (C := RX7) (T := TX7) (N := 11) hx hb hts mi_X7_isValue_X7 hown hK.1 hP 0 rfl rfl 10 (by decide) (hts _ mm_X7_isValue_2) (fun _ h9 => h9) rfl dX7_isValue_33 ?_
      refine lv_iload_n hx hb dX7_isValue_36 rfl (lv_at hl 0 rfl) ?_
      refine lv_aload_n hx hb dX7_isValue_37 rfl (lv_at hl 1 rfl) ?_
      refine va_get (D := D) (ci := 7) (v := .ref bP) (C := RX7) (T := TX7) (N := 11) hx hb hts mi_X7_isValue_X7 hown hK.1 hP 0 rfl rfl 5 (by decide) (hts _ mm_X7_isValue_3) (fun _ h9 => h9) rfl dX7_isValue_38 ?_
      refine lv_aload_n hx hb dX7_isValue_41 rfl (lv_at hl 1 rfl) ?_
      refine va_get (D := D) (ci := 7) (v := .int ut) (C := RX7) (T := TX7) (N := 11) hx hb hts mi_X7_isValue_X7 hown hK.1 hP 0 rfl rfl 8 (by decide) (hts _ mm_X7_isValue_4) (fun _ h9 => h9) rfl dX7_isValue_42 ?_
      obtain ⟨r45, hin, hn, hF⟩ := k_ld_ex hF
      refine x_iald hx hb hK hP 1 rfl hin hn dX7_isValue_45 ?_
      refine lv_bipush (v := (48 : Int32)) hx hb dX7_isValue_46 (by decide) ?_
      refine lv_isub hx hb dX7_isValue_48 ?_
      refine lv_imul hx hb dX7_isValue_49 ?_
      obtain ⟨uo_50, hin, hn, hF⟩ := k_st_ex hF
      refine x_iast hx hb hK hP hD hS 2 rfl hin hn dX7_isValue_50 (fun H locs hP hD hS => ?_)
      have hP : va_P D vwCl [(bM, .inr (7, [.ref bN, .ref bQ, .int us, .ref bS, .ref bH, .ref bP, .int up, .int ue, .int ut, .ref bT, .int um])), (bP, .inl (cyI, 80, .inl ux)), (bT, .inl (cyI, 42, .inl uo_50))] H := hP
      have hD : va_D A [(bM, .inr (7, [.ref bN, .ref bQ, .int us, .ref bS, .ref bH, .ref bP, .int up, .int ue, .int ut, .ref bT, .int um])), (bP, .inl (cyI, 80, .inl ux)), (bT, .inl (cyI, 42, .inl uo_50))] := hD
      refine lv_aload_n hx hb dX7_isValue_51 rfl (lv_at hl 1 rfl) ?_
      refine lv_dup hx hb dX7_isValue_52 rfl ?_
      refine va_get (D := D) (ci := 7) (v := .int um) (C := RX7) (T := TX7) (N := 11) hx hb hts mi_X7_isValue_X7 hown hK.1 hP 0 rfl rfl 10 (by decide) (hts _ mm_X7_isValue_2) (fun _ h9 => h9) rfl dX7_isValue_53 ?_
      refine lv_iconst (v := (1 : Int32)) hx hb dX7_isValue_56 (by decide) ?_
      refine lv_iadd hx hb dX7_isValue_57 ?_
      obtain ⟨um_58, hn, hF⟩ := k_let_ex hF
      refine x_nm hn ?_
      refine va_put (D := D) (ci := 7) (v := .int um_58) (ty := .int) (C := RX7) (T := TX7) (N := 11) hx hb hts mi_X7_isValue_X7 tyX7 tyX7_ok nmX7 hown hK.1 hP hD hS 0 rfl rfl 10 (by decide) (hts _ mm_X7_isValue_2) (fun _ h9 => h9) rfl (by decide +kernel) rfl rfl (Nat.le_of_ble_eq_true rfl) dX7_isValue_58 (fun H locs hP hD hS => ?_)
      have hP : va_P D vwCl [(bM, .inr (7, [.ref bN, .ref bQ, .int us, .ref bS, .ref bH, .ref bP, .int up, .int ue, .int ut, .ref bT, .int um_58])), (bP, .inl (cyI, 80, .inl ux)), (bT, .inl (cyI, 42, .inl uo_50))] H := hP
      have hD : va_D A [(bM, .inr (7, [.ref bN, .ref bQ, .int us, .ref bS, .ref bH, .ref bP, .int up, .int ue, .int ut, .ref bT, .int um_58])), (bP, .inl (cyI, 80, .inl ux)), (bT, .inl (cyI, 42, .inl uo_50))] := hD
      refine lv_aload_n hx hb dX7_isValue_61 rfl (lv_at hl 1 rfl) ?_
      refine lv_dup hx hb dX7_isValue_62 rfl ?_
      refine va_get (D := D) (ci := 7) (v := .int ut) (C := RX7) (T := TX7) (N := 11) hx hb hts mi_X7_isValue_X7 hown hK.1 hP 0 rfl rfl 8 (by decide) (hts _ mm_X7_isValue_4) (fun _ h9 => h9) rfl dX7_isValue_63 ?_
      refine lv_iconst (v := (1 : Int32)) hx hb dX7_isValue_66 (by decide) ?_
      refine lv_iadd hx hb dX7_isValue_67 ?_
      obtain ⟨ut_68, hn, hF⟩ := k_let_ex hF
      refine x_nm hn ?_
      refine va_put (D := D) (ci := 7) (v := .int ut_68) (ty := .int) (C := RX7) (T := TX7) (N := 11) hx hb hts mi_X7_isValue_X7 tyX7 tyX7_ok nmX7 hown hK.1 hP hD hS 0 rfl rfl 8 (by decide) (hts _ mm_X7_isValue_4) (fun _ h9 => h9) rfl (by decide +kernel) rfl rfl (Nat.le_of_ble_eq_true rfl) dX7_isValue_68 (fun H locs hP hD hS => ?_)
      have hP : va_P D vwCl [(bM, .inr (7, [.ref bN, .ref bQ, .int us, .ref bS, .ref bH, .ref bP, .int up, .int ue, .int ut_68, .ref bT, .int um_58])), (bP, .inl (cyI, 80, .inl ux)), (bT, .inl (cyI, 42, .inl uo_50))] H := hP
      have hD : va_D A [(bM, .inr (7, [.ref bN, .ref bQ, .int us, .ref bS, .ref bH, .ref bP, .int up, .int ue, .int ut_68, .ref bT, .int um_58])), (bP, .inl (cyI, 80, .inl ux)), (bT, .inl (cyI, 42, .inl uo_50))] := hD
      refine lv_iconst (v := (1 : Int32)) hx hb dX7_isValue_71 (by decide) ?_
      obtain ⟨e0, e1, e2, e3⟩ := k_inj4 hF
      have hP9 : va_P D vwCl [(bM, .inr (7, [.ref bN, .ref bQ, .int us, .ref bS, .ref bH, .ref bP, .int up, .int ue, .int ut', .ref bT, .int um'])), (bP, .inl (cyI, 80, .inl ux)), (bT, .inl (cyI, 42, .inl uo'))] H := by rw [← e1, ← e2, ← e3]; exact hP
      exact W.zret hx hb hr rfl (fun t ht hW => ⟨⟨_, (), rfl, e0, x_ret hP9 ht⟩, hS.F ht⟩) hS.2.2 dX7_isValue_72
    · have hF := k_if_t hF hc
      refine lv_iconst (v := (0 : Int32)) hx hb dX7_isValue_26 (by decide) ?_
      obtain ⟨e0, e1, e2, e3⟩ := k_inj4 hF
      have hP9 : va_P D vwCl [(bM, .inr (7, [.ref bN, .ref bQ, .int us, .ref bS, .ref bH, .ref bP, .int up, .int ue, .int ut', .ref bT, .int um'])), (bP, .inl (cyI, 80, .inl ux)), (bT, .inl (cyI, 42, .inl uo'))] H := by rw [← e1, ← e2, ← e3]; exact hP
      exact W.zret hx hb hr rfl (fun t ht hW => ⟨⟨_, (), rfl, e0, x_ret hP9 ht⟩, hS.F ht⟩) hS.2.2 dX7_isValue_27
  refine (hG _ _ _).2 ?_
  unfold p_X7_isValue at hF
  refine lv_aload_n hx hb dX7_isValue_0 rfl (lv_at hl 0 rfl) ?_
  refine lv_bipush (v := (45 : Int32)) hx hb dX7_isValue_1 (by decide) ?_
  obtain ⟨r3, ut_3, hC, hF⟩ := k_c2_ex hF
  refine x_VM (As := [.int (45 : Int32)]) (rest := []) ⟨hx, hb, hml, hown, hts⟩ (c_X7_takes l D cyI cyZ bM bN bQ bS bH bP bT s.heap.size N (45 : Int32) us up ue ut um ux hC) (cwV 1 hts gX7_isValue_X7_takes rfl rfl rfl (by decide +kernel) ⟨Nat.le_of_ble_eq_true rfl, Nat.le_of_ble_eq_true rfl⟩) hK hP hD hS hA [0, 1] rfl rfl rfl 0 rfl rfl rfl rfl hl.1 rfl (Nat.le_of_ble_eq_true rfl) ⟨Nat.zero_le _, Nat.zero_le _⟩ dX7_isValue_3 (fun H locs hP hD hS => ?_)
  have hP : va_P D vwCl [(bM, .inr (7, [.ref bN, .ref bQ, .int us, .ref bS, .ref bH, .ref bP, .int up, .int ue, .int ut_3, .ref bT, .int um])), (bP, .inl (cyI, 80, .inl ux)), (bT, .inl (cyI, 42, .inl uo))] H := hP
  have hD : va_D A [(bM, .inr (7, [.ref bN, .ref bQ, .int us, .ref bS, .ref bH, .ref bP, .int up, .int ue, .int ut_3, .ref bT, .int um])), (bP, .inl (cyI, 80, .inl ux)), (bT, .inl (cyI, 42, .inl uo))] := hD
  refine lv_if_eq (tgt := 13) hx hb dX7_isValue_6 (by decide) (fun hc => ?_) (fun hc => ?_)
  · have hF := k_if_t hF hc
    refine lv_iconst (v := (1 : Int32)) hx hb dX7_isValue_13 (by decide) ?_
    exact (hG _ _ _).1 (blk_14 (1 : Int32) ut_3 um uo hF _ _ _ hP hD hS (lv_sub hl [0] rfl))
  · have hF := k_if_f hF hc
    refine lv_iconst (v := (-1 : Int32)) hx hb dX7_isValue_9 (by decide) ?_
    refine lv_goto (tgt := 14) hx hb dX7_isValue_10 (by decide) ?_
    exact (hG _ _ _).1 (blk_14 (-1 : Int32) ut_3 um uo hF _ _ _ hP hD hS (lv_sub hl [0] rfl))
set_option maxHeartbeats 4000000 in
set_option maxRecDepth 100000 in
theorem c_X7_areValues (l : Launch) (D : va_G) (cyI cyZ : ClassId) (bM bN bQ bS bH bP bT : Nat) (sz : Nat) (N : Nat) (us : Int32) (up : Int32) (ue : Int32) (ut : Int32) (um : Int32) (ux : (Nat → Int32)) (uo : (Nat → Int32)) {r0 : Int32} {ut' : Int32} {um' : Int32} {uo' : (Nat → Int32)} (hF : p_X7_areValues N us up ue ut um ux uo = some (r0, ut', um', uo')) : Met l yX7_areValues wsX7_areValues ({ frames := 4, cells := 0, slots := 0, locals := 87 }) (x_PM D cyI cyZ [.ref bM] [(bM, .inr (7, [.ref bN, .ref bQ, .int us, .ref bS, .ref bH, .ref bP, .int up, .int ue, .int ut, .ref bT, .int um])), (bP, .inl (cyI, 80, .inl ux)), (bT, .inl (cyI, 42, .inl uo))] sz) (x_QM D r0 (va_A [(bM, .inr (7, [.ref bN, .ref bQ, .int us, .ref bS, .ref bH, .ref bP, .int up, .int ue, .int ut, .ref bT, .int um])), (bP, .inl (cyI, 80, .inl ux)), (bT, .inl (cyI, 42, .inl uo))] sz) [(bM, .inr (7, [.ref bN, .ref bQ, .int us, .ref bS, .ref bH, .ref bP, .int up, .int ue, .int ut', .ref bT, .int um'])), (bP, .inl (cyI, 80, .inl ux)), (bT, .inl (cyI, 42, .inl uo'))]) 0 0 (va_A [(bM, .inr (7, [.ref bN, .ref bQ, .int us, .ref bS, .ref bH, .ref bP, .int up, .int ue, .int ut, .ref bT, .int um])), (bP, .inl (cyI, 80, .inl ux)), (bT, .inl (cyI, 42, .inl uo))] sz) := by
  refine Met.ofW (cc := cX7_areValues) (maxL := 2) (ret := (some .boolean)) (by decide) rfl ?_
  intro p e s m args below meth c s₁ B hml hv
  obtain ⟨rfl, hsz, hP, hK, hD0⟩ := hv
  have hx := B.exec
  have hb := B.bytes
  have hr := B.returns
  have hts := atoms_spec (ws := wsX7_areValues) B.pre
  have hown : s.vm.findClass RX7 = some m.cls := findClass_of_methodNamed B.named
  have hlocks := B.notSynchronized
  subst hsz
  have hD := hD0.self (sz := s.heap.size)
  generalize hAe : va_A [(bM, .inr (7, [.ref bN, .ref bQ, .int us, .ref bS, .ref bH, .ref bP, .int up, .int ue, .int ut, .ref bT, .int um])), (bP, .inl (cyI, 80, .inl ux)), (bT, .inl (cyI, 42, .inl uo))] s.heap.size = A at hD ⊢
  have hA : ∀ q : Nat, s.heap.size ≤ q → A q := fun q h => by rw [← hAe]; exact Or.inr h
  have hS : va_S A s.heap s.heap [] := va_S.rf
  have hP : va_P D vwCl [(bM, .inr (7, [.ref bN, .ref bQ, .int us, .ref bS, .ref bH, .ref bP, .int up, .int ue, .int ut, .ref bT, .int um])), (bP, .inl (cyI, 80, .inl ux)), (bT, .inl (cyI, 42, .inl uo))] s.heap := hP
  have hl := lv_entry ([.ref bM]) (n := 2) (Nat.le_of_ble_eq_true rfl)
  rw [lg_entry_eq]
  generalize (lg_sl ([.ref bM]) ++ List.replicate (2 - (lg_sl ([.ref bM])).length) Slot.unset).toArray = ls at hl ⊢
  have hl : lv_has ls 2 [(0, .ref bM)] := hl
  refine x_gen (fun G hG => ?_)
  have blk_5 : ∀ (n_5 : Nat) (x1 : Int32) (ut : Int32) (um : Int32) (uo : (Nat → Int32)), f_X7_areValues_5 N n_5 x1 us up ue ut um ux uo = some (r0, ut', um', uo') → ∀ (H : Heap) (locs : List Loc) (ls : Array Slot), va_P D vwCl [(bM, .inr (7, [.ref bN, .ref bQ, .int us, .ref bS, .ref bH, .ref bP, .int up, .int ue, .int ut, .ref bT, .int um])), (bP, .inl (cyI, 80, .inl ux)), (bT, .inl (cyI, 42, .inl uo))] H → va_D A [(bM, .inr (7, [.ref bN, .ref bQ, .int us, .ref bS, .ref bH, .ref bP, .int up, .int ue, .int ut, .ref bT, .int um])), (bP, .inl (cyI, 80, .inl ux)), (bT, .inl (cyI, 42, .inl uo))] → va_S A s.heap H locs → lv_has ls 2 [(0, .ref bM), (1, .int x1)] → G H locs (F0 m 5 ls []) := by
    intro n_5
    induction n_5 with
    | zero => intro x1 ut um uo hF; exact (k_none hF).elim
    | succ n_5 ih_5 =>
      intro x1 ut um uo hF H locs ls hP hD hS hl
      replace hF : b_X7_areValues_5 N (f_X7_areValues_5 N n_5) x1 us up ue ut um ux uo = some (r0, ut', um', uo') := hF
      unfold b_X7_areValues_5 at hF
      refine (hG _ _ _).2 ?_
      refine lv_iload_n hx hb dX7_areValues_5 rfl (lv_at hl 1 rfl) ?_
      refine lv_if_eq (tgt := 26) hx hb dX7_areValues_6 (by decide) (fun hc => ?_) (fun hc => ?_)
      · have hF := k_if_t hF hc
        refine lv_iload_n hx hb dX7_areValues_26 rfl (lv_at hl 1 rfl) ?_
        obtain ⟨hbit, hF⟩ := k_bit_ex hF
        obtain ⟨e0, e1, e2, e3⟩ := k_inj4 hF
        have hP9 : va_P D vwCl [(bM, .inr (7, [.ref bN, .ref bQ, .int us, .ref bS, .ref bH, .ref bP, .int up, .int ue, .int ut', .ref bT, .int um'])), (bP, .inl (cyI, 80, .inl ux)), (bT, .inl (cyI, 42, .inl uo'))] H := by rw [← e1, ← e2, ← e3]; exact hP
        exact W.zret hx hb hr (congrArg Value.int hbit) (fun t ht hW => ⟨⟨_, (), rfl, e0, x_ret hP9 ht⟩, hS.F ht⟩) hS.2.2 dX7_areValues_27
      · have hF := k_if_f hF hc
        refine lv_aload_n hx hb dX7_areValues_9 rfl (lv_at hl 0 rfl) ?_
        refine lv_bipush (v := (44 : Int32)) hx hb dX7_areValues_10 (by decide) ?_
        obtain ⟨r12, ut_12, hC, hF⟩ := k_c2_ex hF
        refine x_VM (As := [.int (44 : Int32)]) (rest := []) ⟨hx, hb, hml, hown, hts⟩ (c_X7_takes l D cyI cyZ bM bN bQ bS bH bP bT H.size N (44 : Int32) us up ue ut um ux hC) (cwV 1 hts gX7_areValues_X7_takes rfl rfl rfl (by decide +kernel) ⟨Nat.le_of_ble_eq_true rfl, Nat.le_of_ble_eq_true rfl⟩) hK hP hD hS hA [0, 1] rfl rfl rfl 0 rfl rfl rfl rfl hl.1 rfl (Nat.le_of_ble_eq_true rfl) ⟨Nat.zero_le _, Nat.zero_le _⟩ dX7_areValues_12 (fun H locs hP hD hS => ?_)
        have hP : va_P D vwCl [(bM, .inr (7, [.ref bN, .ref bQ, .int us, .ref bS, .ref bH, .ref bP, .int up, .int ue, .int ut_12, .ref bT, .int um])), (bP, .inl (cyI, 80, .inl ux)), (bT, .inl (cyI, 42, .inl uo))] H := hP
        have hD : va_D A [(bM, .inr (7, [.ref bN, .ref bQ, .int us, .ref bS, .ref bH, .ref bP, .int up, .int ue, .int ut_12, .ref bT, .int um])), (bP, .inl (cyI, 80, .inl ux)), (bT, .inl (cyI, 42, .inl uo))] := hD
        refine lv_if_eq (tgt := 26) hx hb dX7_areValues_15 (by decide) (fun hc => ?_) (fun hc => ?_)
        · have hF := k_if_t hF hc
          refine lv_iload_n hx hb dX7_areValues_26 rfl (lv_at hl 1 rfl) ?_
          obtain ⟨hbit, hF⟩ := k_bit_ex hF
          obtain ⟨e0, e1, e2, e3⟩ := k_inj4 hF
          have hP9 : va_P D vwCl [(bM, .inr (7, [.ref bN, .ref bQ, .int us, .ref bS, .ref bH, .ref bP, .int up, .int ue, .int ut', .ref bT, .int um'])), (bP, .inl (cyI, 80, .inl ux)), (bT, .inl (cyI, 42, .inl uo'))] H := by rw [← e1, ← e2, ← e3]; exact hP
          exact W.zret hx hb hr (congrArg Value.int hbit) (fun t ht hW => ⟨⟨_, (), rfl, e0, x_ret hP9 ht⟩, hS.F ht⟩) hS.2.2 dX7_areValues_27
        · have hF := k_if_f hF hc
          refine lv_aload_n hx hb dX7_areValues_18 rfl (lv_at hl 0 rfl) ?_
          obtain ⟨r19, ut_19, um_19, uo_19, hC, hF⟩ := k_c4_ex hF
          refine x_VM (As := []) (rest := []) ⟨hx, hb, hml, hown, hts⟩ (c_X7_isValue l D cyI cyZ bM bN bQ bS bH bP bT H.size N us up ue ut_12 um ux uo hC) (cwV 0 hts gX7_areValues_X7_isValue rfl rfl rfl (by decide +kernel) ⟨Nat.le_of_ble_eq_true rfl, Nat.le_of_ble_eq_true rfl⟩) hK hP hD hS hA [0, 1, 2] rfl rfl rfl 0 rfl rfl rfl rfl hl.1 rfl (Nat.le_of_ble_eq_true rfl) ⟨Nat.zero_le _, Nat.zero_le _⟩ dX7_areValues_19 (fun H locs hP hD hS => ?_)
          have hP : va_P D vwCl [(bM, .inr (7, [.ref bN, .ref bQ, .int us, .ref bS, .ref bH, .ref bP, .int up, .int ue, .int ut_19, .ref bT, .int um_19])), (bP, .inl (cyI, 80, .inl ux)), (bT, .inl (cyI, 42, .inl uo_19))] H := hP
          have hD : va_D A [(bM, .inr (7, [.ref bN, .ref bQ, .int us, .ref bS, .ref bH, .ref bP, .int up, .int ue, .int ut_19, .ref bT, .int um_19])), (bP, .inl (cyI, 80, .inl ux)), (bT, .inl (cyI, 42, .inl uo_19))] := hD
          refine lv_istore_n (lv' := [(1, .int r19), (0, .ref bM)]) hx hb dX7_areValues_22 rfl hl (by decide) rfl (fun ls hl => ?_)
          refine lv_goto (tgt := 5) hx hb dX7_areValues_23 (by decide) ?_
          exact (hG _ _ _).1 (ih_5 r19 ut_19 um_19 uo_19 hF _ _ _ hP hD hS (lv_sub hl [1, 0] rfl))
  refine (hG _ _ _).2 ?_
  unfold p_X7_areValues at hF
  refine lv_aload_n hx hb dX7_areValues_0 rfl (lv_at hl 0 rfl) ?_
  obtain ⟨r1, ut_1, um_1, uo_1, hC, hF⟩ := k_c4_ex hF
  refine x_VM (As := []) (rest := []) ⟨hx, hb, hml, hown, hts⟩ (c_X7_isValue l D cyI cyZ bM bN bQ bS bH bP bT s.heap.size N us up ue ut um ux uo hC) (cwV 0 hts gX7_areValues_X7_isValue rfl rfl rfl (by decide +kernel) ⟨Nat.le_of_ble_eq_true rfl, Nat.le_of_ble_eq_true rfl⟩) hK hP hD hS hA [0, 1, 2] rfl rfl rfl 0 rfl rfl rfl rfl hl.1 rfl (Nat.le_of_ble_eq_true rfl) ⟨Nat.zero_le _, Nat.zero_le _⟩ dX7_areValues_1 (fun H locs hP hD hS => ?_)
  have hP : va_P D vwCl [(bM, .inr (7, [.ref bN, .ref bQ, .int us, .ref bS, .ref bH, .ref bP, .int up, .int ue, .int ut_1, .ref bT, .int um_1])), (bP, .inl (cyI, 80, .inl ux)), (bT, .inl (cyI, 42, .inl uo_1))] H := hP
  have hD : va_D A [(bM, .inr (7, [.ref bN, .ref bQ, .int us, .ref bS, .ref bH, .ref bP, .int up, .int ue, .int ut_1, .ref bT, .int um_1])), (bP, .inl (cyI, 80, .inl ux)), (bT, .inl (cyI, 42, .inl uo_1))] := hD
  refine lv_istore_n (lv' := [(1, .int r1), (0, .ref bM)]) hx hb dX7_areValues_4 rfl hl (by decide) rfl (fun ls hl => ?_)
  exact (hG _ _ _).1 (blk_5 N r1 ut_1 um_1 uo_1 hF _ _ _ hP hD hS (lv_sub hl [1, 0] rfl))
theorem mm_X7_isNumber_1 : Cond.fieldLink RX7 23 "RollerMeshModel" "pad" "[I" ∈ wsX7_isNumber := List.mem_of_getElem? (i := 1) rfl
theorem mm_X7_isNumber_2 : Cond.fieldLink RX7 131 "RollerMeshModel" "at" "I" ∈ wsX7_isNumber := List.mem_of_getElem? (i := 2) rfl
theorem mm_X7_isNumber_3 : Cond.fieldLink RX7 26 "RollerMeshModel" "told" "[I" ∈ wsX7_isNumber := List.mem_of_getElem? (i := 3) rfl
theorem mm_X7_isNumber_4 : Cond.fieldLink RX7 137 "RollerMeshModel" "toldMany" "I" ∈ wsX7_isNumber := List.mem_of_getElem? (i := 4) rfl
theorem mi_X7_isNumber_X7 : ∀ w ∈ wsX70, w ∈ wsX7_isNumber := fun _ h => List.mem_cons_of_mem _ (List.mem_append_right _ h)
set_option maxHeartbeats 4000000 in
set_option maxRecDepth 100000 in
theorem c_X7_isNumber (l : Launch) (D : va_G) (cyI cyZ : ClassId) (bM bN bQ bS bH bP bT : Nat) (sz : Nat) (N : Nat) (us : Int32) (up : Int32) (ue : Int32) (ut : Int32) (um : Int32) (ux : (Nat → Int32)) (uo : (Nat → Int32)) {r0 : Int32} {ut' : Int32} {um' : Int32} {uo' : (Nat → Int32)} (hF : p_X7_isNumber N us up ue ut um ux uo = some (r0, ut', um', uo')) : Met l yX7_isNumber wsX7_isNumber ({ frames := 2, cells := 0, slots := 0, locals := 44 }) (x_PM D cyI cyZ [.ref bM] [(bM, .inr (7, [.ref bN, .ref bQ, .int us, .ref bS, .ref bH, .ref bP, .int up, .int ue, .int ut, .ref bT, .int um])), (bP, .inl (cyI, 80, .inl ux)), (bT, .inl (cyI, 42, .inl uo))] sz) (x_QM D r0 (va_A [(bM, .inr (7, [.ref bN, .ref bQ, .int us, .ref bS, .ref bH, .ref bP, .int up, .int ue, .int ut, .ref bT, .int um])), (bP, .inl (cyI, 80, .inl ux)), (bT, .inl (cyI, 42, .inl uo))] sz) [(bM, .inr (7, [.ref bN, .ref bQ, .int us, .ref bS, .ref bH, .ref bP, .int up, .int ue, .int ut', .ref bT, .int um'])), (bP, .inl (cyI, 80, .inl ux)), (bT, .inl (cyI, 42, .inl uo'))]) 0 0 (va_A [(bM, .inr (7, [.ref bN, .ref bQ, .int us, .ref bS, .ref bH, .ref bP, .int up, .int ue, .int ut, .ref bT, .int um])), (bP, .inl (cyI, 80, .inl ux)), (bT, .inl (cyI, 42, .inl uo))] sz) := by
  refine Met.ofW (cc := cX7_isNumber) (maxL := 2) (ret := (some .boolean)) (by decide) rfl ?_
  intro p e s m args below meth c s₁ B hml hv
  obtain ⟨rfl, hsz, hP, hK, hD0⟩ := hv
  have hx := B.exec
  have hb := B.bytes
  have hr := B.returns
  have hts := atoms_spec (ws := wsX7_isNumber) B.pre
  have hown : s.vm.findClass RX7 = some m.cls := findClass_of_methodNamed B.named
  have hlocks := B.notSynchronized
  subst hsz
  have hD := hD0.self (sz := s.heap.size)
  generalize hAe : va_A [(bM, .inr (7, [.ref bN, .ref bQ, .int us, .ref bS, .ref bH, .ref bP, .int up, .int ue, .int ut, .ref bT, .int um])), (bP, .inl (cyI, 80, .inl ux)), (bT, .inl (cyI, 42, .inl uo))] s.heap.size = A at hD ⊢
  have hA : ∀ q : Nat, s.heap.size ≤ q → A q := fun q h => by rw [← hAe]; exact Or.inr h
  have hS : va_S A s.heap s.heap [] := va_S.rf
  have hP : va_P D vwCl [(bM, .inr (7, [.ref bN, .ref bQ, .int us, .ref bS, .ref bH, .ref bP, .int up, .int ue, .int ut, .ref bT, .int um])), (bP, .inl (cyI, 80, .inl ux)), (bT, .inl (cyI, 42, .inl uo))] s.heap := hP
  have hl := lv_entry ([.ref bM]) (n := 2) (Nat.le_of_ble_eq_true rfl)
  rw [lg_entry_eq]
  generalize (lg_sl ([.ref bM]) ++ List.replicate (2 - (lg_sl ([.ref bM])).length) Slot.unset).toArray = ls at hl ⊢
  have hl : lv_has ls 2 [(0, .ref bM)] := hl
  unfold p_X7_isNumber at hF
  refine lv_aload_n hx hb dX7_isNumber_0 rfl (lv_at hl 0 rfl) ?_
  refine lv_bipush (v := (48 : Int32)) hx hb dX7_isNumber_1 (by decide) ?_
  refine lv_bipush (v := (57 : Int32)) hx hb dX7_isNumber_3 (by decide) ?_
  obtain ⟨r5, hC, hF⟩ := k_c1_ex hF
  refine x_VR (As := [.int (48 : Int32), .int (57 : Int32)]) (rest := []) ⟨hx, hb, hml, hown, hts⟩ (c_X7_sees l D cyI cyZ bM bN bQ bS bH bP bT N (48 : Int32) (57 : Int32) us up ue ut um ux hC) (cwV 2 hts gX7_isNumber_X7_sees rfl rfl rfl (by decide +kernel) ⟨Nat.le_of_ble_eq_true rfl, Nat.le_of_ble_eq_true rfl⟩) hK hP hS [0, 1] rfl 0 rfl rfl rfl rfl hl.1 rfl (Nat.le_of_ble_eq_true rfl) ⟨Nat.zero_le _, Nat.zero_le _⟩ dX7_isNumber_5 (fun H locs hP hS => ?_)
  refine lv_if_ne (tgt := 13) hx hb dX7_isNumber_8 (by decide) (fun hc => ?_) (fun hc => ?_)
  · have hF := k_if_f hF hc
    refine lv_aload_n hx hb dX7_isNumber_13 rfl (lv_at hl 0 rfl) ?_
    refine va_get (D := D) (ci := 7) (v := .ref bP) (C := RX7) (T := TX7) (N := 11) hx hb hts mi_X7_isNumber_X7 hown hK.1 hP 0 rfl rfl 5 (by decide) (hts _ mm_X7_isNumber_1) (fun _ h9 => h9) rfl dX7_isNumber_14 ?_
    refine lv_aload_n hx hb dX7_isNumber_17 rfl (lv_at hl 0 rfl) ?_
    refine va_get (D := D) (ci := 7) (v := .int ut) (C := RX7) (T := TX7) (N := 11) hx hb hts mi_X7_isNumber_X7 hown hK.1 hP 0 rfl rfl 8 (by decide) (hts _ mm_X7_isNumber_2) (fun _ h9 => h9) rfl dX7_isNumber_18 ?_
    obtain ⟨r21, hin, hn, hF⟩ := k_ld_ex hF
    refine x_iald hx hb hK hP 1 rfl hin hn dX7_isNumber_21 ?_
    refine lv_bipush (v := (48 : Int32)) hx hb dX7_isNumber_22 (by decide) ?_
    refine lv_isub hx hb dX7_isNumber_24 ?_
    obtain ⟨x1_25, hn, hF⟩ := k_let_ex hF
    refine x_nm hn ?_
    refine lv_istore_n (lv' := [(1, .int x1_25), (0, .ref bM)]) hx hb dX7_isNumber_25 rfl hl (by decide) rfl (fun ls hl => ?_)
    refine lv_aload_n hx hb dX7_isNumber_26 rfl (lv_at hl 1 rfl) ?_
    refine lv_dup hx hb dX7_isNumber_27 rfl ?_
    refine va_get (D := D) (ci := 7) (v := .int ut) (C := RX7) (T := TX7) (N := 11) hx hb hts mi_X7_isNumber_X7 hown hK.1 hP 0 rfl rfl 8 (by decide) (hts _ mm_X7_isNumber_2) (fun _ h9 => h9) rfl dX7_isNumber_28 ?_
    refine lv_iconst (v := (1 : Int32)) hx hb dX7_isNumber_31 (by decide) ?_
    refine lv_iadd hx hb dX7_isNumber_32 ?_
    obtain ⟨ut_33, hn, hF⟩ := k_let_ex hF
    refine x_nm hn ?_
    refine va_put (D := D) (ci := 7) (v := .int ut_33) (ty := .int) (C := RX7) (T := TX7) (N := 11) hx hb hts mi_X7_isNumber_X7 tyX7 tyX7_ok nmX7 hown hK.1 hP hD hS 0 rfl rfl 8 (by decide) (hts _ mm_X7_isNumber_2) (fun _ h9 => h9) rfl (by decide +kernel) rfl rfl (Nat.le_of_ble_eq_true rfl) dX7_isNumber_33 (fun H locs hP hD hS => ?_)
    have hP : va_P D vwCl [(bM, .inr (7, [.ref bN, .ref bQ, .int us, .ref bS, .ref bH, .ref bP, .int up, .int ue, .int ut_33, .ref bT, .int um])), (bP, .inl (cyI, 80, .inl ux)), (bT, .inl (cyI, 42, .inl uo))] H := hP
    have hD : va_D A [(bM, .inr (7, [.ref bN, .ref bQ, .int us, .ref bS, .ref bH, .ref bP, .int up, .int ue, .int ut_33, .ref bT, .int um])), (bP, .inl (cyI, 80, .inl ux)), (bT, .inl (cyI, 42, .inl uo))] := hD
    refine lv_iload_n hx hb dX7_isNumber_36 rfl (lv_at hl 0 rfl) ?_
    refine lv_if_le (tgt := 79) hx hb dX7_isNumber_37 (by decide) (fun hc => ?_) (fun hc => ?_)
    · have hF := k_if_t hF hc
      refine lv_aload_n hx hb dX7_isNumber_79 rfl (lv_at hl 1 rfl) ?_
      refine va_get (D := D) (ci := 7) (v := .ref bT) (C := RX7) (T := TX7) (N := 11) hx hb hts mi_X7_isNumber_X7 hown hK.1 hP 0 rfl rfl 9 (by decide) (hts _ mm_X7_isNumber_3) (fun _ h9 => h9) rfl dX7_isNumber_80 ?_
      refine lv_aload_n hx hb dX7_isNumber_83 rfl (lv_at hl 1 rfl) ?_
      refine va_get (D := D) (ci := 7) (v := .int um) (C := RX7) (T := TX7) (N := 11) hx hb hts mi_X7_isNumber_X7 hown hK.1 hP 0 rfl rfl 10 (by decide) (hts _ mm_X7_isNumber_4) (fun _ h9 => h9) rfl dX7_isNumber_84 ?_
      refine lv_iload_n hx hb dX7_isNumber_87 rfl (lv_at hl 0 rfl) ?_
      obtain ⟨uo_88, hin, hn, hF⟩ := k_st_ex hF
      refine x_iast hx hb hK hP hD hS 2 rfl hin hn dX7_isNumber_88 (fun H locs hP hD hS => ?_)
      have hP : va_P D vwCl [(bM, .inr (7, [.ref bN, .ref bQ, .int us, .ref bS, .ref bH, .ref bP, .int up, .int ue, .int ut_33, .ref bT, .int um])), (bP, .inl (cyI, 80, .inl ux)), (bT, .inl (cyI, 42, .inl uo_88))] H := hP
      have hD : va_D A [(bM, .inr (7, [.ref bN, .ref bQ, .int us, .ref bS, .ref bH, .ref bP, .int up, .int ue, .int ut_33, .ref bT, .int um])), (bP, .inl (cyI, 80, .inl ux)), (bT, .inl (cyI, 42, .inl uo_88))] := hD
      refine lv_aload_n hx hb dX7_isNumber_89 rfl (lv_at hl 1 rfl) ?_
      refine lv_dup hx hb dX7_isNumber_90 rfl ?_
      refine va_get (D := D) (ci := 7) (v := .int um) (C := RX7) (T := TX7) (N := 11) hx hb hts mi_X7_isNumber_X7 hown hK.1 hP 0 rfl rfl 10 (by decide) (hts _ mm_X7_isNumber_4) (fun _ h9 => h9) rfl dX7_isNumber_91 ?_
      refine lv_iconst (v := (1 : Int32)) hx hb dX7_isNumber_94 (by decide) ?_
      refine lv_iadd hx hb dX7_isNumber_95 ?_
      obtain ⟨um_96, hn, hF⟩ := k_let_ex hF
      refine x_nm hn ?_
      refine va_put (D := D) (ci := 7) (v := .int um_96) (ty := .int) (C := RX7) (T := TX7) (N := 11) hx hb hts mi_X7_isNumber_X7 tyX7 tyX7_ok nmX7 hown hK.1 hP hD hS 0 rfl rfl 10 (by decide) (hts _ mm_X7_isNumber_4) (fun _ h9 => h9) rfl (by decide +kernel) rfl rfl (Nat.le_of_ble_eq_true rfl) dX7_isNumber_96 (fun H locs hP hD hS => ?_)
      have hP : va_P D vwCl [(bM, .inr (7, [.ref bN, .ref bQ, .int us, .ref bS, .ref bH, .ref bP, .int up, .int ue, .int ut_33, .ref bT, .int um_96])), (bP, .inl (cyI, 80, .inl ux)), (bT, .inl (cyI, 42, .inl uo_88))] H := hP
      have hD : va_D A [(bM, .inr (7, [.ref bN, .ref bQ, .int us, .ref bS, .ref bH, .ref bP, .int up, .int ue, .int ut_33, .ref bT, .int um_96])), (bP, .inl (cyI, 80, .inl ux)), (bT, .inl (cyI, 42, .inl uo_88))] := hD
      refine lv_iconst (v := (1 : Int32)) hx hb dX7_isNumber_99 (by decide) ?_
      obtain ⟨e0, e1, e2, e3⟩ := k_inj4 hF
      have hP9 : va_P D vwCl [(bM, .inr (7, [.ref bN, .ref bQ, .int us, .ref bS, .ref bH, .ref bP, .int up, .int ue, .int ut', .ref bT, .int um'])), (bP, .inl (cyI, 80, .inl ux)), (bT, .inl (cyI, 42, .inl uo'))] H := by rw [← e1, ← e2, ← e3]; exact hP
      exact W.zret hx hb hr rfl (fun t ht hW => ⟨⟨_, (), rfl, e0, x_ret hP9 ht⟩, hS.F ht⟩) hS.2.2 dX7_isNumber_100
    · have hF := k_if_f hF hc
      refine lv_aload_n hx hb dX7_isNumber_40 rfl (lv_at hl 1 rfl) ?_
      refine lv_bipush (v := (48 : Int32)) hx hb dX7_isNumber_41 (by decide) ?_
      refine lv_bipush (v := (57 : Int32)) hx hb dX7_isNumber_43 (by decide) ?_
      obtain ⟨r45, hC, hF⟩ := k_c1_ex hF
      refine x_VR (As := [.int (48 : Int32), .int (57 : Int32)]) (rest := []) ⟨hx, hb, hml, hown, hts⟩ (c_X7_sees l D cyI cyZ bM bN bQ bS bH bP bT N (48 : Int32) (57 : Int32) us up ue ut_33 um ux hC) (cwV 2 hts gX7_isNumber_X7_sees rfl rfl rfl (by decide +kernel) ⟨Nat.le_of_ble_eq_true rfl, Nat.le_of_ble_eq_true rfl⟩) hK hP hS [0, 1] rfl 0 rfl rfl rfl rfl hl.1 rfl (Nat.le_of_ble_eq_true rfl) ⟨Nat.zero_le _, Nat.zero_le _⟩ dX7_isNumber_45 (fun H locs hP hS => ?_)
      refine lv_if_eq (tgt := 79) hx hb dX7_isNumber_48 (by decide) (fun hc => ?_) (fun hc => ?_)
      · have hF := k_if_t hF hc
        refine lv_aload_n hx hb dX7_isNumber_79 rfl (lv_at hl 1 rfl) ?_
        refine va_get (D := D) (ci := 7) (v := .ref bT) (C := RX7) (T := TX7) (N := 11) hx hb hts mi_X7_isNumber_X7 hown hK.1 hP 0 rfl rfl 9 (by decide) (hts _ mm_X7_isNumber_3) (fun _ h9 => h9) rfl dX7_isNumber_80 ?_
        refine lv_aload_n hx hb dX7_isNumber_83 rfl (lv_at hl 1 rfl) ?_
        refine va_get (D := D) (ci := 7) (v := .int um) (C := RX7) (T := TX7) (N := 11) hx hb hts mi_X7_isNumber_X7 hown hK.1 hP 0 rfl rfl 10 (by decide) (hts _ mm_X7_isNumber_4) (fun _ h9 => h9) rfl dX7_isNumber_84 ?_
        refine lv_iload_n hx hb dX7_isNumber_87 rfl (lv_at hl 0 rfl) ?_
        obtain ⟨uo_88, hin, hn, hF⟩ := k_st_ex hF
        refine x_iast hx hb hK hP hD hS 2 rfl hin hn dX7_isNumber_88 (fun H locs hP hD hS => ?_)
        have hP : va_P D vwCl [(bM, .inr (7, [.ref bN, .ref bQ, .int us, .ref bS, .ref bH, .ref bP, .int up, .int ue, .int ut_33, .ref bT, .int um])), (bP, .inl (cyI, 80, .inl ux)), (bT, .inl (cyI, 42, .inl uo_88))] H := hP
        have hD : va_D A [(bM, .inr (7, [.ref bN, .ref bQ, .int us, .ref bS, .ref bH, .ref bP, .int up, .int ue, .int ut_33, .ref bT, .int um])), (bP, .inl (cyI, 80, .inl ux)), (bT, .inl (cyI, 42, .inl uo_88))] := hD
        refine lv_aload_n hx hb dX7_isNumber_89 rfl (lv_at hl 1 rfl) ?_
        refine lv_dup hx hb dX7_isNumber_90 rfl ?_
        refine va_get (D := D) (ci := 7) (v := .int um) (C := RX7) (T := TX7) (N := 11) hx hb hts mi_X7_isNumber_X7 hown hK.1 hP 0 rfl rfl 10 (by decide) (hts _ mm_X7_isNumber_4) (fun _ h9 => h9) rfl dX7_isNumber_91 ?_
        refine lv_iconst (v := (1 : Int32)) hx hb dX7_isNumber_94 (by decide) ?_
        refine lv_iadd hx hb dX7_isNumber_95 ?_
        obtain ⟨um_96, hn, hF⟩ := k_let_ex hF
        refine x_nm hn ?_
        refine va_put (D := D) (ci := 7) (v := .int um_96) (ty := .int) (C := RX7) (T := TX7) (N := 11) hx hb hts mi_X7_isNumber_X7 tyX7 tyX7_ok nmX7 hown hK.1 hP hD hS 0 rfl rfl 10 (by decide) (hts _ mm_X7_isNumber_4) (fun _ h9 => h9) rfl (by decide +kernel) rfl rfl (Nat.le_of_ble_eq_true rfl) dX7_isNumber_96 (fun H locs hP hD hS => ?_)
        have hP : va_P D vwCl [(bM, .inr (7, [.ref bN, .ref bQ, .int us, .ref bS, .ref bH, .ref bP, .int up, .int ue, .int ut_33, .ref bT, .int um_96])), (bP, .inl (cyI, 80, .inl ux)), (bT, .inl (cyI, 42, .inl uo_88))] H := hP
        have hD : va_D A [(bM, .inr (7, [.ref bN, .ref bQ, .int us, .ref bS, .ref bH, .ref bP, .int up, .int ue, .int ut_33, .ref bT, .int um_96])), (bP, .inl (cyI, 80, .inl ux)), (bT, .inl (cyI, 42, .inl uo_88))] := hD
        refine lv_iconst (v := (1 : Int32)) hx hb dX7_isNumber_99 (by decide) ?_
        obtain ⟨e0, e1, e2, e3⟩ := k_inj4 hF
        have hP9 : va_P D vwCl [(bM, .inr (7, [.ref bN, .ref bQ, .int us, .ref bS, .ref bH, .ref bP, .int up, .int ue, .int ut', .ref bT, .int um'])), (bP, .inl (cyI, 80, .inl ux)), (bT, .inl (cyI, 42, .inl uo'))] H := by rw [← e1, ← e2, ← e3]; exact hP
        exact W.zret hx hb hr rfl (fun t ht hW => ⟨⟨_, (), rfl, e0, x_ret hP9 ht⟩, hS.F ht⟩) hS.2.2 dX7_isNumber_100
      · have hF := k_if_f hF hc
        refine lv_bipush (v := (10 : Int32)) hx hb dX7_isNumber_51 (by decide) ?_
        refine lv_iload_n hx hb dX7_isNumber_53 rfl (lv_at hl 0 rfl) ?_
        refine lv_imul hx hb dX7_isNumber_54 ?_
        refine lv_aload_n hx hb dX7_isNumber_55 rfl (lv_at hl 1 rfl) ?_
        refine va_get (D := D) (ci := 7) (v := .ref bP) (C := RX7) (T := TX7) (N := 11) hx hb hts mi_X7_isNumber_X7 hown hK.1 hP 0 rfl rfl 5 (by decide) (hts _ mm_X7_isNumber_1) (fun _ h9 => h9) rfl dX7_isNumber_56 ?_
        refine lv_aload_n hx hb dX7_isNumber_59 rfl (lv_at hl 1 rfl) ?_
        refine va_get (D := D) (ci := 7) (v := .int ut_33) (C := RX7) (T := TX7) (N := 11) hx hb hts mi_X7_isNumber_X7 hown hK.1 hP 0 rfl rfl 8 (by decide) (hts _ mm_X7_isNumber_2) (fun _ h9 => h9) rfl dX7_isNumber_60 ?_
        obtain ⟨r63, hin, hn, hF⟩ := k_ld_ex hF
        refine x_iald hx hb hK hP 1 rfl hin hn dX7_isNumber_63 ?_
        refine lv_iadd hx hb dX7_isNumber_64 ?_
        refine lv_bipush (v := (48 : Int32)) hx hb dX7_isNumber_65 (by decide) ?_
        refine lv_isub hx hb dX7_isNumber_67 ?_
        obtain ⟨x1_68, hn, hF⟩ := k_let_ex hF
        refine x_nm hn ?_
        refine lv_istore_n (lv' := [(1, .int x1_68), (0, .ref bM)]) hx hb dX7_isNumber_68 rfl hl (by decide) rfl (fun ls hl => ?_)
        refine lv_aload_n hx hb dX7_isNumber_69 rfl (lv_at hl 1 rfl) ?_
        refine lv_dup hx hb dX7_isNumber_70 rfl ?_
        refine va_get (D := D) (ci := 7) (v := .int ut_33) (C := RX7) (T := TX7) (N := 11) hx hb hts mi_X7_isNumber_X7 hown hK.1 hP 0 rfl rfl 8 (by decide) (hts _ mm_X7_isNumber_2) (fun _ h9 => h9) rfl dX7_isNumber_71 ?_
        refine lv_iconst (v := (1 : Int32)) hx hb dX7_isNumber_74 (by decide) ?_
        refine lv_iadd hx hb dX7_isNumber_75 ?_
        obtain ⟨ut_76, hn, hF⟩ := k_let_ex hF
        refine x_nm hn ?_
        refine va_put (D := D) (ci := 7) (v := .int ut_76) (ty := .int) (C := RX7) (T := TX7) (N := 11) hx hb hts mi_X7_isNumber_X7 tyX7 tyX7_ok nmX7 hown hK.1 hP hD hS 0 rfl rfl 8 (by decide) (hts _ mm_X7_isNumber_2) (fun _ h9 => h9) rfl (by decide +kernel) rfl rfl (Nat.le_of_ble_eq_true rfl) dX7_isNumber_76 (fun H locs hP hD hS => ?_)
        have hP : va_P D vwCl [(bM, .inr (7, [.ref bN, .ref bQ, .int us, .ref bS, .ref bH, .ref bP, .int up, .int ue, .int ut_76, .ref bT, .int um])), (bP, .inl (cyI, 80, .inl ux)), (bT, .inl (cyI, 42, .inl uo))] H := hP
        have hD : va_D A [(bM, .inr (7, [.ref bN, .ref bQ, .int us, .ref bS, .ref bH, .ref bP, .int up, .int ue, .int ut_76, .ref bT, .int um])), (bP, .inl (cyI, 80, .inl ux)), (bT, .inl (cyI, 42, .inl uo))] := hD
        refine lv_aload_n hx hb dX7_isNumber_79 rfl (lv_at hl 1 rfl) ?_
        refine va_get (D := D) (ci := 7) (v := .ref bT) (C := RX7) (T := TX7) (N := 11) hx hb hts mi_X7_isNumber_X7 hown hK.1 hP 0 rfl rfl 9 (by decide) (hts _ mm_X7_isNumber_3) (fun _ h9 => h9) rfl dX7_isNumber_80 ?_
        refine lv_aload_n hx hb dX7_isNumber_83 rfl (lv_at hl 1 rfl) ?_
        refine va_get (D := D) (ci := 7) (v := .int um) (C := RX7) (T := TX7) (N := 11) hx hb hts mi_X7_isNumber_X7 hown hK.1 hP 0 rfl rfl 10 (by decide) (hts _ mm_X7_isNumber_4) (fun _ h9 => h9) rfl dX7_isNumber_84 ?_
        refine lv_iload_n hx hb dX7_isNumber_87 rfl (lv_at hl 0 rfl) ?_
        obtain ⟨uo_88, hin, hn, hF⟩ := k_st_ex hF
        refine x_iast hx hb hK hP hD hS 2 rfl hin hn dX7_isNumber_88 (fun H locs hP hD hS => ?_)
        have hP : va_P D vwCl [(bM, .inr (7, [.ref bN, .ref bQ, .int us, .ref bS, .ref bH, .ref bP, .int up, .int ue, .int ut_76, .ref bT, .int um])), (bP, .inl (cyI, 80, .inl ux)), (bT, .inl (cyI, 42, .inl uo_88))] H := hP
        have hD : va_D A [(bM, .inr (7, [.ref bN, .ref bQ, .int us, .ref bS, .ref bH, .ref bP, .int up, .int ue, .int ut_76, .ref bT, .int um])), (bP, .inl (cyI, 80, .inl ux)), (bT, .inl (cyI, 42, .inl uo_88))] := hD
        refine lv_aload_n hx hb dX7_isNumber_89 rfl (lv_at hl 1 rfl) ?_
        refine lv_dup hx hb dX7_isNumber_90 rfl ?_
        refine va_get (D := D) (ci := 7) (v := .int um) (C := RX7) (T := TX7) (N := 11) hx hb hts mi_X7_isNumber_X7 hown hK.1 hP 0 rfl rfl 10 (by decide) (hts _ mm_X7_isNumber_4) (fun _ h9 => h9) rfl dX7_isNumber_91 ?_
        refine lv_iconst (v := (1 : Int32)) hx hb dX7_isNumber_94 (by decide) ?_
        refine lv_iadd hx hb dX7_isNumber_95 ?_
        obtain ⟨um_96, hn, hF⟩ := k_let_ex hF
        refine x_nm hn ?_
        refine va_put (D := D) (ci := 7) (v := .int um_96) (ty := .int) (C := RX7) (T := TX7) (N := 11) hx hb hts mi_X7_isNumber_X7 tyX7 tyX7_ok nmX7 hown hK.1 hP hD hS 0 rfl rfl 10 (by decide) (hts _ mm_X7_isNumber_4) (fun _ h9 => h9) rfl (by decide +kernel) rfl rfl (Nat.le_of_ble_eq_true rfl) dX7_isNumber_96 (fun H locs hP hD hS => ?_)
        have hP : va_P D vwCl [(bM, .inr (7, [.ref bN, .ref bQ, .int us, .ref bS, .ref bH, .ref bP, .int up, .int ue, .int ut_76, .ref bT, .int um_96])), (bP, .inl (cyI, 80, .inl ux)), (bT, .inl (cyI, 42, .inl uo_88))] H := hP
        have hD : va_D A [(bM, .inr (7, [.ref bN, .ref bQ, .int us, .ref bS, .ref bH, .ref bP, .int up, .int ue, .int ut_76, .ref bT, .int um_96])), (bP, .inl (cyI, 80, .inl ux)), (bT, .inl (cyI, 42, .inl uo_88))] := hD
        refine lv_iconst (v := (1 : Int32)) hx hb dX7_isNumber_99 (by decide) ?_
        obtain ⟨e0, e1, e2, e3⟩ := k_inj4 hF
        have hP9 : va_P D vwCl [(bM, .inr (7, [.ref bN, .ref bQ, .int us, .ref bS, .ref bH, .ref bP, .int up, .int ue, .int ut', .ref bT, .int um'])), (bP, .inl (cyI, 80, .inl ux)), (bT, .inl (cyI, 42, .inl uo'))] H := by rw [← e1, ← e2, ← e3]; exact hP
        exact W.zret hx hb hr rfl (fun t ht hW => ⟨⟨_, (), rfl, e0, x_ret hP9 ht⟩, hS.F ht⟩) hS.2.2 dX7_isNumber_100
  · have hF := k_if_t hF hc
    refine lv_iconst (v := (0 : Int32)) hx hb dX7_isNumber_11 (by decide) ?_
    obtain ⟨e0, e1, e2, e3⟩ := k_inj4 hF
    have hP9 : va_P D vwCl [(bM, .inr (7, [.ref bN, .ref bQ, .int us, .ref bS, .ref bH, .ref bP, .int up, .int ue, .int ut', .ref bT, .int um'])), (bP, .inl (cyI, 80, .inl ux)), (bT, .inl (cyI, 42, .inl uo'))] H := by rw [← e1, ← e2, ← e3]; exact hP
    exact W.zret hx hb hr rfl (fun t ht hW => ⟨⟨_, (), rfl, e0, x_ret hP9 ht⟩, hS.F ht⟩) hS.2.2 dX7_isNumber_12
set_option maxHeartbeats 4000000 in
set_option maxRecDepth 100000 in
theorem c_X7_isRun (l : Launch) (D : va_G) (cyI cyZ : ClassId) (bM bN bQ bS bH bP bT : Nat) (sz : Nat) (N : Nat) (us : Int32) (up : Int32) (ue : Int32) (ut : Int32) (um : Int32) (ux : (Nat → Int32)) (uo : (Nat → Int32)) {r0 : Int32} {ut' : Int32} {um' : Int32} {uo' : (Nat → Int32)} (hF : p_X7_isRun N us up ue ut um ux uo = some (r0, ut', um', uo')) : Met l yX7_isRun wsX7_isRun ({ frames := 3, cells := 0, slots := 0, locals := 66 }) (x_PM D cyI cyZ [.ref bM] [(bM, .inr (7, [.ref bN, .ref bQ, .int us, .ref bS, .ref bH, .ref bP, .int up, .int ue, .int ut, .ref bT, .int um])), (bP, .inl (cyI, 80, .inl ux)), (bT, .inl (cyI, 42, .inl uo))] sz) (x_QM D r0 (va_A [(bM, .inr (7, [.ref bN, .ref bQ, .int us, .ref bS, .ref bH, .ref bP, .int up, .int ue, .int ut, .ref bT, .int um])), (bP, .inl (cyI, 80, .inl ux)), (bT, .inl (cyI, 42, .inl uo))] sz) [(bM, .inr (7, [.ref bN, .ref bQ, .int us, .ref bS, .ref bH, .ref bP, .int up, .int ue, .int ut', .ref bT, .int um'])), (bP, .inl (cyI, 80, .inl ux)), (bT, .inl (cyI, 42, .inl uo'))]) 0 0 (va_A [(bM, .inr (7, [.ref bN, .ref bQ, .int us, .ref bS, .ref bH, .ref bP, .int up, .int ue, .int ut, .ref bT, .int um])), (bP, .inl (cyI, 80, .inl ux)), (bT, .inl (cyI, 42, .inl uo))] sz) := by
  refine Met.ofW (cc := cX7_isRun) (maxL := 2) (ret := (some .boolean)) (by decide) rfl ?_
  intro p e s m args below meth c s₁ B hml hv
  obtain ⟨rfl, hsz, hP, hK, hD0⟩ := hv
  have hx := B.exec
  have hb := B.bytes
  have hr := B.returns
  have hts := atoms_spec (ws := wsX7_isRun) B.pre
  have hown : s.vm.findClass RX7 = some m.cls := findClass_of_methodNamed B.named
  have hlocks := B.notSynchronized
  subst hsz
  have hD := hD0.self (sz := s.heap.size)
  generalize hAe : va_A [(bM, .inr (7, [.ref bN, .ref bQ, .int us, .ref bS, .ref bH, .ref bP, .int up, .int ue, .int ut, .ref bT, .int um])), (bP, .inl (cyI, 80, .inl ux)), (bT, .inl (cyI, 42, .inl uo))] s.heap.size = A at hD ⊢
  have hA : ∀ q : Nat, s.heap.size ≤ q → A q := fun q h => by rw [← hAe]; exact Or.inr h
  have hS : va_S A s.heap s.heap [] := va_S.rf
  have hP : va_P D vwCl [(bM, .inr (7, [.ref bN, .ref bQ, .int us, .ref bS, .ref bH, .ref bP, .int up, .int ue, .int ut, .ref bT, .int um])), (bP, .inl (cyI, 80, .inl ux)), (bT, .inl (cyI, 42, .inl uo))] s.heap := hP
  have hl := lv_entry ([.ref bM]) (n := 2) (Nat.le_of_ble_eq_true rfl)
  rw [lg_entry_eq]
  generalize (lg_sl ([.ref bM]) ++ List.replicate (2 - (lg_sl ([.ref bM])).length) Slot.unset).toArray = ls at hl ⊢
  have hl : lv_has ls 2 [(0, .ref bM)] := hl
  refine x_gen (fun G hG => ?_)
  have blk_44 : ∀ (t0 : Int32) (ut : Int32) (um : Int32) (uo : (Nat → Int32)), b_X7_isRun_44 N t0 us up ue ut um ux uo = some (r0, ut', um', uo') → ∀ (H : Heap) (locs : List Loc) (ls : Array Slot), va_P D vwCl [(bM, .inr (7, [.ref bN, .ref bQ, .int us, .ref bS, .ref bH, .ref bP, .int up, .int ue, .int ut, .ref bT, .int um])), (bP, .inl (cyI, 80, .inl ux)), (bT, .inl (cyI, 42, .inl uo))] H → va_D A [(bM, .inr (7, [.ref bN, .ref bQ, .int us, .ref bS, .ref bH, .ref bP, .int up, .int ue, .int ut, .ref bT, .int um])), (bP, .inl (cyI, 80, .inl ux)), (bT, .inl (cyI, 42, .inl uo))] → va_S A s.heap H locs → lv_has ls 2 [(0, .ref bM)] → G H locs (F0 m 44 ls [.int t0]) := by
    intro t0 ut um uo hF H locs ls hP hD hS hl
    unfold b_X7_isRun_44 at hF
    refine (hG _ _ _).2 ?_
    refine lv_istore_n (lv' := [(1, .int t0), (0, .ref bM)]) hx hb dX7_isRun_44 rfl hl (by decide) rfl (fun ls hl => ?_)
    refine lv_iload_n hx hb dX7_isRun_45 rfl (lv_at hl 0 rfl) ?_
    refine lv_if_eq (tgt := 101) hx hb dX7_isRun_46 (by decide) (fun hc => ?_) (fun hc => ?_)
    · have hF := k_if_t hF hc
      refine lv_iconst (v := (0 : Int32)) hx hb dX7_isRun_101 (by decide) ?_
      obtain ⟨e0, e1, e2, e3⟩ := k_inj4 hF
      have hP9 : va_P D vwCl [(bM, .inr (7, [.ref bN, .ref bQ, .int us, .ref bS, .ref bH, .ref bP, .int up, .int ue, .int ut', .ref bT, .int um'])), (bP, .inl (cyI, 80, .inl ux)), (bT, .inl (cyI, 42, .inl uo'))] H := by rw [← e1, ← e2, ← e3]; exact hP
      exact W.zret hx hb hr rfl (fun t ht hW => ⟨⟨_, (), rfl, e0, x_ret hP9 ht⟩, hS.F ht⟩) hS.2.2 dX7_isRun_102
    · have hF := k_if_f hF hc
      refine lv_aload_n hx hb dX7_isRun_49 rfl (lv_at hl 1 rfl) ?_
      refine lv_bipush (v := (95 : Int32)) hx hb dX7_isRun_50 (by decide) ?_
      obtain ⟨r52, ut_52, hC, hF⟩ := k_c2_ex hF
      refine x_VM (As := [.int (95 : Int32)]) (rest := []) ⟨hx, hb, hml, hown, hts⟩ (c_X7_takes l D cyI cyZ bM bN bQ bS bH bP bT H.size N (95 : Int32) us up ue ut um ux hC) (cwV 1 hts gX7_isRun_X7_takes rfl rfl rfl (by decide +kernel) ⟨Nat.le_of_ble_eq_true rfl, Nat.le_of_ble_eq_true rfl⟩) hK hP hD hS hA [0, 1] rfl rfl rfl 0 rfl rfl rfl rfl hl.1 rfl (Nat.le_of_ble_eq_true rfl) ⟨Nat.zero_le _, Nat.zero_le _⟩ dX7_isRun_52 (fun H locs hP hD hS => ?_)
      have hP : va_P D vwCl [(bM, .inr (7, [.ref bN, .ref bQ, .int us, .ref bS, .ref bH, .ref bP, .int up, .int ue, .int ut_52, .ref bT, .int um])), (bP, .inl (cyI, 80, .inl ux)), (bT, .inl (cyI, 42, .inl uo))] H := hP
      have hD : va_D A [(bM, .inr (7, [.ref bN, .ref bQ, .int us, .ref bS, .ref bH, .ref bP, .int up, .int ue, .int ut_52, .ref bT, .int um])), (bP, .inl (cyI, 80, .inl ux)), (bT, .inl (cyI, 42, .inl uo))] := hD
      refine lv_if_eq (tgt := 101) hx hb dX7_isRun_55 (by decide) (fun hc => ?_) (fun hc => ?_)
      · have hF := k_if_t hF hc
        refine lv_iconst (v := (0 : Int32)) hx hb dX7_isRun_101 (by decide) ?_
        obtain ⟨e0, e1, e2, e3⟩ := k_inj4 hF
        have hP9 : va_P D vwCl [(bM, .inr (7, [.ref bN, .ref bQ, .int us, .ref bS, .ref bH, .ref bP, .int up, .int ue, .int ut', .ref bT, .int um'])), (bP, .inl (cyI, 80, .inl ux)), (bT, .inl (cyI, 42, .inl uo'))] H := by rw [← e1, ← e2, ← e3]; exact hP
        exact W.zret hx hb hr rfl (fun t ht hW => ⟨⟨_, (), rfl, e0, x_ret hP9 ht⟩, hS.F ht⟩) hS.2.2 dX7_isRun_102
      · have hF := k_if_f hF hc
        refine lv_aload_n hx hb dX7_isRun_58 rfl (lv_at hl 1 rfl) ?_
        obtain ⟨r59, ut_59, um_59, uo_59, hC, hF⟩ := k_c4_ex hF
        refine x_VM (As := []) (rest := []) ⟨hx, hb, hml, hown, hts⟩ (c_X7_isNumber l D cyI cyZ bM bN bQ bS bH bP bT H.size N us up ue ut_52 um ux uo hC) (cwV 0 hts gX7_isRun_X7_isNumber rfl rfl rfl (by decide +kernel) ⟨Nat.le_of_ble_eq_true rfl, Nat.le_of_ble_eq_true rfl⟩) hK hP hD hS hA [0, 1, 2] rfl rfl rfl 0 rfl rfl rfl rfl hl.1 rfl (Nat.le_of_ble_eq_true rfl) ⟨Nat.zero_le _, Nat.zero_le _⟩ dX7_isRun_59 (fun H locs hP hD hS => ?_)
        have hP : va_P D vwCl [(bM, .inr (7, [.ref bN, .ref bQ, .int us, .ref bS, .ref bH, .ref bP, .int up, .int ue, .int ut_59, .ref bT, .int um_59])), (bP, .inl (cyI, 80, .inl ux)), (bT, .inl (cyI, 42, .inl uo_59))] H := hP
        have hD : va_D A [(bM, .inr (7, [.ref bN, .ref bQ, .int us, .ref bS, .ref bH, .ref bP, .int up, .int ue, .int ut_59, .ref bT, .int um_59])), (bP, .inl (cyI, 80, .inl ux)), (bT, .inl (cyI, 42, .inl uo_59))] := hD
        refine lv_if_eq (tgt := 101) hx hb dX7_isRun_62 (by decide) (fun hc => ?_) (fun hc => ?_)
        · have hF := k_if_t hF hc
          refine lv_iconst (v := (0 : Int32)) hx hb dX7_isRun_101 (by decide) ?_
          obtain ⟨e0, e1, e2, e3⟩ := k_inj4 hF
          have hP9 : va_P D vwCl [(bM, .inr (7, [.ref bN, .ref bQ, .int us, .ref bS, .ref bH, .ref bP, .int up, .int ue, .int ut', .ref bT, .int um'])), (bP, .inl (cyI, 80, .inl ux)), (bT, .inl (cyI, 42, .inl uo'))] H := by rw [← e1, ← e2, ← e3]; exact hP
          exact W.zret hx hb hr rfl (fun t ht hW => ⟨⟨_, (), rfl, e0, x_ret hP9 ht⟩, hS.F ht⟩) hS.2.2 dX7_isRun_102
        · have hF := k_if_f hF hc
          refine lv_aload_n hx hb dX7_isRun_65 rfl (lv_at hl 1 rfl) ?_
          refine lv_bipush (v := (58 : Int32)) hx hb dX7_isRun_66 (by decide) ?_
          obtain ⟨r68, ut_68, hC, hF⟩ := k_c2_ex hF
          refine x_VM (As := [.int (58 : Int32)]) (rest := []) ⟨hx, hb, hml, hown, hts⟩ (c_X7_takes l D cyI cyZ bM bN bQ bS bH bP bT H.size N (58 : Int32) us up ue ut_59 um_59 ux hC) (cwV 1 hts gX7_isRun_X7_takes rfl rfl rfl (by decide +kernel) ⟨Nat.le_of_ble_eq_true rfl, Nat.le_of_ble_eq_true rfl⟩) hK hP hD hS hA [0, 1] rfl rfl rfl 0 rfl rfl rfl rfl hl.1 rfl (Nat.le_of_ble_eq_true rfl) ⟨Nat.zero_le _, Nat.zero_le _⟩ dX7_isRun_68 (fun H locs hP hD hS => ?_)
          have hP : va_P D vwCl [(bM, .inr (7, [.ref bN, .ref bQ, .int us, .ref bS, .ref bH, .ref bP, .int up, .int ue, .int ut_68, .ref bT, .int um_59])), (bP, .inl (cyI, 80, .inl ux)), (bT, .inl (cyI, 42, .inl uo_59))] H := hP
          have hD : va_D A [(bM, .inr (7, [.ref bN, .ref bQ, .int us, .ref bS, .ref bH, .ref bP, .int up, .int ue, .int ut_68, .ref bT, .int um_59])), (bP, .inl (cyI, 80, .inl ux)), (bT, .inl (cyI, 42, .inl uo_59))] := hD
          refine lv_if_eq (tgt := 101) hx hb dX7_isRun_71 (by decide) (fun hc => ?_) (fun hc => ?_)
          · have hF := k_if_t hF hc
            refine lv_iconst (v := (0 : Int32)) hx hb dX7_isRun_101 (by decide) ?_
            obtain ⟨e0, e1, e2, e3⟩ := k_inj4 hF
            have hP9 : va_P D vwCl [(bM, .inr (7, [.ref bN, .ref bQ, .int us, .ref bS, .ref bH, .ref bP, .int up, .int ue, .int ut', .ref bT, .int um'])), (bP, .inl (cyI, 80, .inl ux)), (bT, .inl (cyI, 42, .inl uo'))] H := by rw [← e1, ← e2, ← e3]; exact hP
            exact W.zret hx hb hr rfl (fun t ht hW => ⟨⟨_, (), rfl, e0, x_ret hP9 ht⟩, hS.F ht⟩) hS.2.2 dX7_isRun_102
          · have hF := k_if_f hF hc
            refine lv_aload_n hx hb dX7_isRun_74 rfl (lv_at hl 1 rfl) ?_
            obtain ⟨r75, ut_75, um_75, uo_75, hC, hF⟩ := k_c4_ex hF
            refine x_VM (As := []) (rest := []) ⟨hx, hb, hml, hown, hts⟩ (c_X7_isNumber l D cyI cyZ bM bN bQ bS bH bP bT H.size N us up ue ut_68 um_59 ux uo_59 hC) (cwV 0 hts gX7_isRun_X7_isNumber rfl rfl rfl (by decide +kernel) ⟨Nat.le_of_ble_eq_true rfl, Nat.le_of_ble_eq_true rfl⟩) hK hP hD hS hA [0, 1, 2] rfl rfl rfl 0 rfl rfl rfl rfl hl.1 rfl (Nat.le_of_ble_eq_true rfl) ⟨Nat.zero_le _, Nat.zero_le _⟩ dX7_isRun_75 (fun H locs hP hD hS => ?_)
            have hP : va_P D vwCl [(bM, .inr (7, [.ref bN, .ref bQ, .int us, .ref bS, .ref bH, .ref bP, .int up, .int ue, .int ut_75, .ref bT, .int um_75])), (bP, .inl (cyI, 80, .inl ux)), (bT, .inl (cyI, 42, .inl uo_75))] H := hP
            have hD : va_D A [(bM, .inr (7, [.ref bN, .ref bQ, .int us, .ref bS, .ref bH, .ref bP, .int up, .int ue, .int ut_75, .ref bT, .int um_75])), (bP, .inl (cyI, 80, .inl ux)), (bT, .inl (cyI, 42, .inl uo_75))] := hD
            refine lv_if_eq (tgt := 101) hx hb dX7_isRun_78 (by decide) (fun hc => ?_) (fun hc => ?_)
            · have hF := k_if_t hF hc
              refine lv_iconst (v := (0 : Int32)) hx hb dX7_isRun_101 (by decide) ?_
              obtain ⟨e0, e1, e2, e3⟩ := k_inj4 hF
              have hP9 : va_P D vwCl [(bM, .inr (7, [.ref bN, .ref bQ, .int us, .ref bS, .ref bH, .ref bP, .int up, .int ue, .int ut', .ref bT, .int um'])), (bP, .inl (cyI, 80, .inl ux)), (bT, .inl (cyI, 42, .inl uo'))] H := by rw [← e1, ← e2, ← e3]; exact hP
              exact W.zret hx hb hr rfl (fun t ht hW => ⟨⟨_, (), rfl, e0, x_ret hP9 ht⟩, hS.F ht⟩) hS.2.2 dX7_isRun_102
            · have hF := k_if_f hF hc
              refine lv_aload_n hx hb dX7_isRun_81 rfl (lv_at hl 1 rfl) ?_
              refine lv_bipush (v := (42 : Int32)) hx hb dX7_isRun_82 (by decide) ?_
              obtain ⟨r84, ut_84, hC, hF⟩ := k_c2_ex hF
              refine x_VM (As := [.int (42 : Int32)]) (rest := []) ⟨hx, hb, hml, hown, hts⟩ (c_X7_takes l D cyI cyZ bM bN bQ bS bH bP bT H.size N (42 : Int32) us up ue ut_75 um_75 ux hC) (cwV 1 hts gX7_isRun_X7_takes rfl rfl rfl (by decide +kernel) ⟨Nat.le_of_ble_eq_true rfl, Nat.le_of_ble_eq_true rfl⟩) hK hP hD hS hA [0, 1] rfl rfl rfl 0 rfl rfl rfl rfl hl.1 rfl (Nat.le_of_ble_eq_true rfl) ⟨Nat.zero_le _, Nat.zero_le _⟩ dX7_isRun_84 (fun H locs hP hD hS => ?_)
              have hP : va_P D vwCl [(bM, .inr (7, [.ref bN, .ref bQ, .int us, .ref bS, .ref bH, .ref bP, .int up, .int ue, .int ut_84, .ref bT, .int um_75])), (bP, .inl (cyI, 80, .inl ux)), (bT, .inl (cyI, 42, .inl uo_75))] H := hP
              have hD : va_D A [(bM, .inr (7, [.ref bN, .ref bQ, .int us, .ref bS, .ref bH, .ref bP, .int up, .int ue, .int ut_84, .ref bT, .int um_75])), (bP, .inl (cyI, 80, .inl ux)), (bT, .inl (cyI, 42, .inl uo_75))] := hD
              refine lv_if_eq (tgt := 101) hx hb dX7_isRun_87 (by decide) (fun hc => ?_) (fun hc => ?_)
              · have hF := k_if_t hF hc
                refine lv_iconst (v := (0 : Int32)) hx hb dX7_isRun_101 (by decide) ?_
                obtain ⟨e0, e1, e2, e3⟩ := k_inj4 hF
                have hP9 : va_P D vwCl [(bM, .inr (7, [.ref bN, .ref bQ, .int us, .ref bS, .ref bH, .ref bP, .int up, .int ue, .int ut', .ref bT, .int um'])), (bP, .inl (cyI, 80, .inl ux)), (bT, .inl (cyI, 42, .inl uo'))] H := by rw [← e1, ← e2, ← e3]; exact hP
                exact W.zret hx hb hr rfl (fun t ht hW => ⟨⟨_, (), rfl, e0, x_ret hP9 ht⟩, hS.F ht⟩) hS.2.2 dX7_isRun_102
              · have hF := k_if_f hF hc
                refine lv_aload_n hx hb dX7_isRun_90 rfl (lv_at hl 1 rfl) ?_
                obtain ⟨r91, ut_91, um_91, uo_91, hC, hF⟩ := k_c4_ex hF
                refine x_VM (As := []) (rest := []) ⟨hx, hb, hml, hown, hts⟩ (c_X7_isNumber l D cyI cyZ bM bN bQ bS bH bP bT H.size N us up ue ut_84 um_75 ux uo_75 hC) (cwV 0 hts gX7_isRun_X7_isNumber rfl rfl rfl (by decide +kernel) ⟨Nat.le_of_ble_eq_true rfl, Nat.le_of_ble_eq_true rfl⟩) hK hP hD hS hA [0, 1, 2] rfl rfl rfl 0 rfl rfl rfl rfl hl.1 rfl (Nat.le_of_ble_eq_true rfl) ⟨Nat.zero_le _, Nat.zero_le _⟩ dX7_isRun_91 (fun H locs hP hD hS => ?_)
                have hP : va_P D vwCl [(bM, .inr (7, [.ref bN, .ref bQ, .int us, .ref bS, .ref bH, .ref bP, .int up, .int ue, .int ut_91, .ref bT, .int um_91])), (bP, .inl (cyI, 80, .inl ux)), (bT, .inl (cyI, 42, .inl uo_91))] H := hP
                have hD : va_D A [(bM, .inr (7, [.ref bN, .ref bQ, .int us, .ref bS, .ref bH, .ref bP, .int up, .int ue, .int ut_91, .ref bT, .int um_91])), (bP, .inl (cyI, 80, .inl ux)), (bT, .inl (cyI, 42, .inl uo_91))] := hD
                refine lv_if_eq (tgt := 101) hx hb dX7_isRun_94 (by decide) (fun hc => ?_) (fun hc => ?_)
                · have hF := k_if_t hF hc
                  refine lv_iconst (v := (0 : Int32)) hx hb dX7_isRun_101 (by decide) ?_
                  obtain ⟨e0, e1, e2, e3⟩ := k_inj4 hF
                  have hP9 : va_P D vwCl [(bM, .inr (7, [.ref bN, .ref bQ, .int us, .ref bS, .ref bH, .ref bP, .int up, .int ue, .int ut', .ref bT, .int um'])), (bP, .inl (cyI, 80, .inl ux)), (bT, .inl (cyI, 42, .inl uo'))] H := by rw [← e1, ← e2, ← e3]; exact hP
                  exact W.zret hx hb hr rfl (fun t ht hW => ⟨⟨_, (), rfl, e0, x_ret hP9 ht⟩, hS.F ht⟩) hS.2.2 dX7_isRun_102
                · have hF := k_if_f hF hc
                  refine lv_iconst (v := (1 : Int32)) hx hb dX7_isRun_97 (by decide) ?_
                  refine lv_goto (tgt := 102) hx hb dX7_isRun_98 (by decide) ?_
                  obtain ⟨e0, e1, e2, e3⟩ := k_inj4 hF
                  have hP9 : va_P D vwCl [(bM, .inr (7, [.ref bN, .ref bQ, .int us, .ref bS, .ref bH, .ref bP, .int up, .int ue, .int ut', .ref bT, .int um'])), (bP, .inl (cyI, 80, .inl ux)), (bT, .inl (cyI, 42, .inl uo'))] H := by rw [← e1, ← e2, ← e3]; exact hP
                  exact W.zret hx hb hr rfl (fun t ht hW => ⟨⟨_, (), rfl, e0, x_ret hP9 ht⟩, hS.F ht⟩) hS.2.2 dX7_isRun_102
  refine (hG _ _ _).2 ?_
  unfold p_X7_isRun at hF
  refine lv_aload_n hx hb dX7_isRun_0 rfl (lv_at hl 0 rfl) ?_
  obtain ⟨r1, ut_1, um_1, uo_1, hC, hF⟩ := k_c4_ex hF
  refine x_VM (As := []) (rest := []) ⟨hx, hb, hml, hown, hts⟩ (c_X7_isNumber l D cyI cyZ bM bN bQ bS bH bP bT s.heap.size N us up ue ut um ux uo hC) (cwV 0 hts gX7_isRun_X7_isNumber rfl rfl rfl (by decide +kernel) ⟨Nat.le_of_ble_eq_true rfl, Nat.le_of_ble_eq_true rfl⟩) hK hP hD hS hA [0, 1, 2] rfl rfl rfl 0 rfl rfl rfl rfl hl.1 rfl (Nat.le_of_ble_eq_true rfl) ⟨Nat.zero_le _, Nat.zero_le _⟩ dX7_isRun_1 (fun H locs hP hD hS => ?_)
  have hP : va_P D vwCl [(bM, .inr (7, [.ref bN, .ref bQ, .int us, .ref bS, .ref bH, .ref bP, .int up, .int ue, .int ut_1, .ref bT, .int um_1])), (bP, .inl (cyI, 80, .inl ux)), (bT, .inl (cyI, 42, .inl uo_1))] H := hP
  have hD : va_D A [(bM, .inr (7, [.ref bN, .ref bQ, .int us, .ref bS, .ref bH, .ref bP, .int up, .int ue, .int ut_1, .ref bT, .int um_1])), (bP, .inl (cyI, 80, .inl ux)), (bT, .inl (cyI, 42, .inl uo_1))] := hD
  refine lv_if_eq (tgt := 43) hx hb dX7_isRun_4 (by decide) (fun hc => ?_) (fun hc => ?_)
  · have hF := k_if_t hF hc
    refine lv_iconst (v := (0 : Int32)) hx hb dX7_isRun_43 (by decide) ?_
    exact (hG _ _ _).1 (blk_44 (0 : Int32) ut_1 um_1 uo_1 hF _ _ _ hP hD hS (lv_sub hl [0] rfl))
  · have hF := k_if_f hF hc
    refine lv_aload_n hx hb dX7_isRun_7 rfl (lv_at hl 0 rfl) ?_
    refine lv_bipush (v := (47 : Int32)) hx hb dX7_isRun_8 (by decide) ?_
    obtain ⟨r10, ut_10, hC, hF⟩ := k_c2_ex hF
    refine x_VM (As := [.int (47 : Int32)]) (rest := []) ⟨hx, hb, hml, hown, hts⟩ (c_X7_takes l D cyI cyZ bM bN bQ bS bH bP bT H.size N (47 : Int32) us up ue ut_1 um_1 ux hC) (cwV 1 hts gX7_isRun_X7_takes rfl rfl rfl (by decide +kernel) ⟨Nat.le_of_ble_eq_true rfl, Nat.le_of_ble_eq_true rfl⟩) hK hP hD hS hA [0, 1] rfl rfl rfl 0 rfl rfl rfl rfl hl.1 rfl (Nat.le_of_ble_eq_true rfl) ⟨Nat.zero_le _, Nat.zero_le _⟩ dX7_isRun_10 (fun H locs hP hD hS => ?_)
    have hP : va_P D vwCl [(bM, .inr (7, [.ref bN, .ref bQ, .int us, .ref bS, .ref bH, .ref bP, .int up, .int ue, .int ut_10, .ref bT, .int um_1])), (bP, .inl (cyI, 80, .inl ux)), (bT, .inl (cyI, 42, .inl uo_1))] H := hP
    have hD : va_D A [(bM, .inr (7, [.ref bN, .ref bQ, .int us, .ref bS, .ref bH, .ref bP, .int up, .int ue, .int ut_10, .ref bT, .int um_1])), (bP, .inl (cyI, 80, .inl ux)), (bT, .inl (cyI, 42, .inl uo_1))] := hD
    refine lv_if_eq (tgt := 43) hx hb dX7_isRun_13 (by decide) (fun hc => ?_) (fun hc => ?_)
    · have hF := k_if_t hF hc
      refine lv_iconst (v := (0 : Int32)) hx hb dX7_isRun_43 (by decide) ?_
      exact (hG _ _ _).1 (blk_44 (0 : Int32) ut_10 um_1 uo_1 hF _ _ _ hP hD hS (lv_sub hl [0] rfl))
    · have hF := k_if_f hF hc
      refine lv_aload_n hx hb dX7_isRun_16 rfl (lv_at hl 0 rfl) ?_
      obtain ⟨r17, ut_17, um_17, uo_17, hC, hF⟩ := k_c4_ex hF
      refine x_VM (As := []) (rest := []) ⟨hx, hb, hml, hown, hts⟩ (c_X7_isNumber l D cyI cyZ bM bN bQ bS bH bP bT H.size N us up ue ut_10 um_1 ux uo_1 hC) (cwV 0 hts gX7_isRun_X7_isNumber rfl rfl rfl (by decide +kernel) ⟨Nat.le_of_ble_eq_true rfl, Nat.le_of_ble_eq_true rfl⟩) hK hP hD hS hA [0, 1, 2] rfl rfl rfl 0 rfl rfl rfl rfl hl.1 rfl (Nat.le_of_ble_eq_true rfl) ⟨Nat.zero_le _, Nat.zero_le _⟩ dX7_isRun_17 (fun H locs hP hD hS => ?_)
      have hP : va_P D vwCl [(bM, .inr (7, [.ref bN, .ref bQ, .int us, .ref bS, .ref bH, .ref bP, .int up, .int ue, .int ut_17, .ref bT, .int um_17])), (bP, .inl (cyI, 80, .inl ux)), (bT, .inl (cyI, 42, .inl uo_17))] H := hP
      have hD : va_D A [(bM, .inr (7, [.ref bN, .ref bQ, .int us, .ref bS, .ref bH, .ref bP, .int up, .int ue, .int ut_17, .ref bT, .int um_17])), (bP, .inl (cyI, 80, .inl ux)), (bT, .inl (cyI, 42, .inl uo_17))] := hD
      refine lv_if_eq (tgt := 43) hx hb dX7_isRun_20 (by decide) (fun hc => ?_) (fun hc => ?_)
      · have hF := k_if_t hF hc
        refine lv_iconst (v := (0 : Int32)) hx hb dX7_isRun_43 (by decide) ?_
        exact (hG _ _ _).1 (blk_44 (0 : Int32) ut_17 um_17 uo_17 hF _ _ _ hP hD hS (lv_sub hl [0] rfl))
      · have hF := k_if_f hF hc
        refine lv_aload_n hx hb dX7_isRun_23 rfl (lv_at hl 0 rfl) ?_
        refine lv_bipush (v := (64 : Int32)) hx hb dX7_isRun_24 (by decide) ?_
        obtain ⟨r26, ut_26, hC, hF⟩ := k_c2_ex hF
        refine x_VM (As := [.int (64 : Int32)]) (rest := []) ⟨hx, hb, hml, hown, hts⟩ (c_X7_takes l D cyI cyZ bM bN bQ bS bH bP bT H.size N (64 : Int32) us up ue ut_17 um_17 ux hC) (cwV 1 hts gX7_isRun_X7_takes rfl rfl rfl (by decide +kernel) ⟨Nat.le_of_ble_eq_true rfl, Nat.le_of_ble_eq_true rfl⟩) hK hP hD hS hA [0, 1] rfl rfl rfl 0 rfl rfl rfl rfl hl.1 rfl (Nat.le_of_ble_eq_true rfl) ⟨Nat.zero_le _, Nat.zero_le _⟩ dX7_isRun_26 (fun H locs hP hD hS => ?_)
        have hP : va_P D vwCl [(bM, .inr (7, [.ref bN, .ref bQ, .int us, .ref bS, .ref bH, .ref bP, .int up, .int ue, .int ut_26, .ref bT, .int um_17])), (bP, .inl (cyI, 80, .inl ux)), (bT, .inl (cyI, 42, .inl uo_17))] H := hP
        have hD : va_D A [(bM, .inr (7, [.ref bN, .ref bQ, .int us, .ref bS, .ref bH, .ref bP, .int up, .int ue, .int ut_26, .ref bT, .int um_17])), (bP, .inl (cyI, 80, .inl ux)), (bT, .inl (cyI, 42, .inl uo_17))] := hD
        refine lv_if_eq (tgt := 43) hx hb dX7_isRun_29 (by decide) (fun hc => ?_) (fun hc => ?_)
        · have hF := k_if_t hF hc
          refine lv_iconst (v := (0 : Int32)) hx hb dX7_isRun_43 (by decide) ?_
          exact (hG _ _ _).1 (blk_44 (0 : Int32) ut_26 um_17 uo_17 hF _ _ _ hP hD hS (lv_sub hl [0] rfl))
        · have hF := k_if_f hF hc
          refine lv_aload_n hx hb dX7_isRun_32 rfl (lv_at hl 0 rfl) ?_
          obtain ⟨r33, ut_33, um_33, uo_33, hC, hF⟩ := k_c4_ex hF
          refine x_VM (As := []) (rest := []) ⟨hx, hb, hml, hown, hts⟩ (c_X7_isNumber l D cyI cyZ bM bN bQ bS bH bP bT H.size N us up ue ut_26 um_17 ux uo_17 hC) (cwV 0 hts gX7_isRun_X7_isNumber rfl rfl rfl (by decide +kernel) ⟨Nat.le_of_ble_eq_true rfl, Nat.le_of_ble_eq_true rfl⟩) hK hP hD hS hA [0, 1, 2] rfl rfl rfl 0 rfl rfl rfl rfl hl.1 rfl (Nat.le_of_ble_eq_true rfl) ⟨Nat.zero_le _, Nat.zero_le _⟩ dX7_isRun_33 (fun H locs hP hD hS => ?_)
          have hP : va_P D vwCl [(bM, .inr (7, [.ref bN, .ref bQ, .int us, .ref bS, .ref bH, .ref bP, .int up, .int ue, .int ut_33, .ref bT, .int um_33])), (bP, .inl (cyI, 80, .inl ux)), (bT, .inl (cyI, 42, .inl uo_33))] H := hP
          have hD : va_D A [(bM, .inr (7, [.ref bN, .ref bQ, .int us, .ref bS, .ref bH, .ref bP, .int up, .int ue, .int ut_33, .ref bT, .int um_33])), (bP, .inl (cyI, 80, .inl ux)), (bT, .inl (cyI, 42, .inl uo_33))] := hD
          refine lv_if_eq (tgt := 43) hx hb dX7_isRun_36 (by decide) (fun hc => ?_) (fun hc => ?_)
          · have hF := k_if_t hF hc
            refine lv_iconst (v := (0 : Int32)) hx hb dX7_isRun_43 (by decide) ?_
            exact (hG _ _ _).1 (blk_44 (0 : Int32) ut_33 um_33 uo_33 hF _ _ _ hP hD hS (lv_sub hl [0] rfl))
          · have hF := k_if_f hF hc
            refine lv_iconst (v := (1 : Int32)) hx hb dX7_isRun_39 (by decide) ?_
            refine lv_goto (tgt := 44) hx hb dX7_isRun_40 (by decide) ?_
            exact (hG _ _ _).1 (blk_44 (1 : Int32) ut_33 um_33 uo_33 hF _ _ _ hP hD hS (lv_sub hl [0] rfl))
theorem mm_X7_isOrder_1 : Cond.fieldLink RX7 137 "RollerMeshModel" "toldMany" "I" ∈ wsX7_isOrder := List.mem_of_getElem? (i := 1) rfl
theorem mm_X7_isOrder_2 : Cond.fieldLink RX7 131 "RollerMeshModel" "at" "I" ∈ wsX7_isOrder := List.mem_of_getElem? (i := 2) rfl
theorem mi_X7_isOrder_X7 : ∀ w ∈ wsX70, w ∈ wsX7_isOrder := fun _ h => List.mem_cons_of_mem _ (List.mem_append_right _ h)
set_option maxHeartbeats 4000000 in
set_option maxRecDepth 100000 in
theorem c_X7_isOrder (l : Launch) (D : va_G) (cyI cyZ : ClassId) (bM bN bQ bS bH bP bT : Nat) (sz : Nat) (N : Nat) (x1 : Int32) (us : Int32) (up : Int32) (ue : Int32) (ut : Int32) (um : Int32) (ux : (Nat → Int32)) (uo : (Nat → Int32)) {r0 : Int32} {ut' : Int32} {um' : Int32} {uo' : (Nat → Int32)} (hF : p_X7_isOrder N x1 us up ue ut um ux uo = some (r0, ut', um', uo')) : Met l yX7_isOrder wsX7_isOrder ({ frames := 5, cells := 0, slots := 0, locals := 108 }) (x_PM D cyI cyZ [.ref bM, .int x1] [(bM, .inr (7, [.ref bN, .ref bQ, .int us, .ref bS, .ref bH, .ref bP, .int up, .int ue, .int ut, .ref bT, .int um])), (bP, .inl (cyI, 80, .inl ux)), (bT, .inl (cyI, 42, .inl uo))] sz) (x_QM D r0 (va_A [(bM, .inr (7, [.ref bN, .ref bQ, .int us, .ref bS, .ref bH, .ref bP, .int up, .int ue, .int ut, .ref bT, .int um])), (bP, .inl (cyI, 80, .inl ux)), (bT, .inl (cyI, 42, .inl uo))] sz) [(bM, .inr (7, [.ref bN, .ref bQ, .int us, .ref bS, .ref bH, .ref bP, .int up, .int ue, .int ut', .ref bT, .int um'])), (bP, .inl (cyI, 80, .inl ux)), (bT, .inl (cyI, 42, .inl uo'))]) 0 0 (va_A [(bM, .inr (7, [.ref bN, .ref bQ, .int us, .ref bS, .ref bH, .ref bP, .int up, .int ue, .int ut, .ref bT, .int um])), (bP, .inl (cyI, 80, .inl ux)), (bT, .inl (cyI, 42, .inl uo))] sz) := by
  refine Met.ofW (cc := cX7_isOrder) (maxL := 2) (ret := (some .boolean)) (by decide) rfl ?_
  intro p e s m args below meth c s₁ B hml hv
  obtain ⟨rfl, hsz, hP, hK, hD0⟩ := hv
  have hx := B.exec
  have hb := B.bytes
  have hr := B.returns
  have hts := atoms_spec (ws := wsX7_isOrder) B.pre
  have hown : s.vm.findClass RX7 = some m.cls := findClass_of_methodNamed B.named
  have hlocks := B.notSynchronized
  subst hsz
  have hD := hD0.self (sz := s.heap.size)
  generalize hAe : va_A [(bM, .inr (7, [.ref bN, .ref bQ, .int us, .ref bS, .ref bH, .ref bP, .int up, .int ue, .int ut, .ref bT, .int um])), (bP, .inl (cyI, 80, .inl ux)), (bT, .inl (cyI, 42, .inl uo))] s.heap.size = A at hD ⊢
  have hA : ∀ q : Nat, s.heap.size ≤ q → A q := fun q h => by rw [← hAe]; exact Or.inr h
  have hS : va_S A s.heap s.heap [] := va_S.rf
  have hP : va_P D vwCl [(bM, .inr (7, [.ref bN, .ref bQ, .int us, .ref bS, .ref bH, .ref bP, .int up, .int ue, .int ut, .ref bT, .int um])), (bP, .inl (cyI, 80, .inl ux)), (bT, .inl (cyI, 42, .inl uo))] s.heap := hP
  have hl := lv_entry ([.ref bM, .int x1]) (n := 2) (Nat.le_of_ble_eq_true rfl)
  rw [lg_entry_eq]
  generalize (lg_sl ([.ref bM, .int x1]) ++ List.replicate (2 - (lg_sl ([.ref bM, .int x1])).length) Slot.unset).toArray = ls at hl ⊢
  have hl : lv_has ls 2 [(0, .ref bM), (1, .int x1)] := hl
  unfold p_X7_isOrder at hF
  refine lv_aload_n hx hb dX7_isOrder_0 rfl (lv_at hl 0 rfl) ?_
  refine lv_iconst (v := (0 : Int32)) hx hb dX7_isOrder_1 (by decide) ?_
  refine va_put (D := D) (ci := 7) (v := .int (0 : Int32)) (ty := .int) (C := RX7) (T := TX7) (N := 11) hx hb hts mi_X7_isOrder_X7 tyX7 tyX7_ok nmX7 hown hK.1 hP hD hS 0 rfl rfl 10 (by decide) (hts _ mm_X7_isOrder_1) (fun _ h9 => h9) rfl (by decide +kernel) rfl rfl (Nat.le_of_ble_eq_true rfl) dX7_isOrder_2 (fun H locs hP hD hS => ?_)
  have hP : va_P D vwCl [(bM, .inr (7, [.ref bN, .ref bQ, .int us, .ref bS, .ref bH, .ref bP, .int up, .int ue, .int ut, .ref bT, .int (0 : Int32)])), (bP, .inl (cyI, 80, .inl ux)), (bT, .inl (cyI, 42, .inl uo))] H := hP
  have hD : va_D A [(bM, .inr (7, [.ref bN, .ref bQ, .int us, .ref bS, .ref bH, .ref bP, .int up, .int ue, .int ut, .ref bT, .int (0 : Int32)])), (bP, .inl (cyI, 80, .inl ux)), (bT, .inl (cyI, 42, .inl uo))] := hD
  refine lv_iload_n hx hb dX7_isOrder_5 rfl (lv_at hl 1 rfl) ?_
  by_cases h43 : x1 = (43 : Int32)
  · have hF := k_if_t hF h43
    refine lv_lookup (tgt := 48) (off := 42) hx hb dX7_isOrder_6 (by decide) (by rw [h43]; decide) (by decide) ?_
    refine lv_aload_n hx hb dX7_isOrder_48 rfl (lv_at hl 0 rfl) ?_
    obtain ⟨r49, ut_49, um_49, uo_49, hC, hF⟩ := k_c4_ex hF
    refine x_VM (As := []) (rest := []) ⟨hx, hb, hml, hown, hts⟩ (c_X7_areValues l D cyI cyZ bM bN bQ bS bH bP bT H.size N us up ue ut (0 : Int32) ux uo hC) (cwV 0 hts gX7_isOrder_X7_areValues rfl rfl rfl (by decide +kernel) ⟨Nat.le_of_ble_eq_true rfl, Nat.le_of_ble_eq_true rfl⟩) hK hP hD hS hA [0, 1, 2] rfl rfl rfl 0 rfl rfl rfl rfl hl.1 rfl (Nat.le_of_ble_eq_true rfl) ⟨Nat.zero_le _, Nat.zero_le _⟩ dX7_isOrder_49 (fun H locs hP hD hS => ?_)
    have hP : va_P D vwCl [(bM, .inr (7, [.ref bN, .ref bQ, .int us, .ref bS, .ref bH, .ref bP, .int up, .int ue, .int ut_49, .ref bT, .int um_49])), (bP, .inl (cyI, 80, .inl ux)), (bT, .inl (cyI, 42, .inl uo_49))] H := hP
    have hD : va_D A [(bM, .inr (7, [.ref bN, .ref bQ, .int us, .ref bS, .ref bH, .ref bP, .int up, .int ue, .int ut_49, .ref bT, .int um_49])), (bP, .inl (cyI, 80, .inl ux)), (bT, .inl (cyI, 42, .inl uo_49))] := hD
    obtain ⟨hbit, hF⟩ := k_bit_ex hF
    obtain ⟨e0, e1, e2, e3⟩ := k_inj4 hF
    have hP9 : va_P D vwCl [(bM, .inr (7, [.ref bN, .ref bQ, .int us, .ref bS, .ref bH, .ref bP, .int up, .int ue, .int ut', .ref bT, .int um'])), (bP, .inl (cyI, 80, .inl ux)), (bT, .inl (cyI, 42, .inl uo'))] H := by rw [← e1, ← e2, ← e3]; exact hP
    exact W.zret hx hb hr (congrArg Value.int hbit) (fun t ht hW => ⟨⟨_, (), rfl, e0, x_ret hP9 ht⟩, hS.F ht⟩) hS.2.2 dX7_isOrder_52
  · have hF := k_if_f hF h43
    by_cases h102 : x1 = (102 : Int32)
    · have hF := k_if_t hF h102
      refine lv_lookup (tgt := 63) (off := 57) hx hb dX7_isOrder_6 (by decide) (by rw [h102]; decide) (by decide) ?_
      refine lv_aload_n hx hb dX7_isOrder_63 rfl (lv_at hl 0 rfl) ?_
      obtain ⟨r64, ut_64, um_64, uo_64, hC, hF⟩ := k_c4_ex hF
      refine x_VM (As := []) (rest := []) ⟨hx, hb, hml, hown, hts⟩ (c_X7_isNumber l D cyI cyZ bM bN bQ bS bH bP bT H.size N us up ue ut (0 : Int32) ux uo hC) (cwV 0 hts gX7_isOrder_X7_isNumber rfl rfl rfl (by decide +kernel) ⟨Nat.le_of_ble_eq_true rfl, Nat.le_of_ble_eq_true rfl⟩) hK hP hD hS hA [0, 1, 2] rfl rfl rfl 0 rfl rfl rfl rfl hl.1 rfl (Nat.le_of_ble_eq_true rfl) ⟨Nat.zero_le _, Nat.zero_le _⟩ dX7_isOrder_64 (fun H locs hP hD hS => ?_)
      have hP : va_P D vwCl [(bM, .inr (7, [.ref bN, .ref bQ, .int us, .ref bS, .ref bH, .ref bP, .int up, .int ue, .int ut_64, .ref bT, .int um_64])), (bP, .inl (cyI, 80, .inl ux)), (bT, .inl (cyI, 42, .inl uo_64))] H := hP
      have hD : va_D A [(bM, .inr (7, [.ref bN, .ref bQ, .int us, .ref bS, .ref bH, .ref bP, .int up, .int ue, .int ut_64, .ref bT, .int um_64])), (bP, .inl (cyI, 80, .inl ux)), (bT, .inl (cyI, 42, .inl uo_64))] := hD
      refine lv_if_eq (tgt := 106) hx hb dX7_isOrder_67 (by decide) (fun hc => ?_) (fun hc => ?_)
      · have hF := k_if_t hF hc
        refine lv_iconst (v := (0 : Int32)) hx hb dX7_isOrder_106 (by decide) ?_
        obtain ⟨e0, e1, e2, e3⟩ := k_inj4 hF
        have hP9 : va_P D vwCl [(bM, .inr (7, [.ref bN, .ref bQ, .int us, .ref bS, .ref bH, .ref bP, .int up, .int ue, .int ut', .ref bT, .int um'])), (bP, .inl (cyI, 80, .inl ux)), (bT, .inl (cyI, 42, .inl uo'))] H := by rw [← e1, ← e2, ← e3]; exact hP
        exact W.zret hx hb hr rfl (fun t ht hW => ⟨⟨_, (), rfl, e0, x_ret hP9 ht⟩, hS.F ht⟩) hS.2.2 dX7_isOrder_107
      · have hF := k_if_f hF hc
        refine lv_aload_n hx hb dX7_isOrder_70 rfl (lv_at hl 0 rfl) ?_
        refine lv_bipush (v := (46 : Int32)) hx hb dX7_isOrder_71 (by decide) ?_
        obtain ⟨r73, ut_73, hC, hF⟩ := k_c2_ex hF
        refine x_VM (As := [.int (46 : Int32)]) (rest := []) ⟨hx, hb, hml, hown, hts⟩ (c_X7_takes l D cyI cyZ bM bN bQ bS bH bP bT H.size N (46 : Int32) us up ue ut_64 um_64 ux hC) (cwV 1 hts gX7_isOrder_X7_takes rfl rfl rfl (by decide +kernel) ⟨Nat.le_of_ble_eq_true rfl, Nat.le_of_ble_eq_true rfl⟩) hK hP hD hS hA [0, 1] rfl rfl rfl 0 rfl rfl rfl rfl hl.1 rfl (Nat.le_of_ble_eq_true rfl) ⟨Nat.zero_le _, Nat.zero_le _⟩ dX7_isOrder_73 (fun H locs hP hD hS => ?_)
        have hP : va_P D vwCl [(bM, .inr (7, [.ref bN, .ref bQ, .int us, .ref bS, .ref bH, .ref bP, .int up, .int ue, .int ut_73, .ref bT, .int um_64])), (bP, .inl (cyI, 80, .inl ux)), (bT, .inl (cyI, 42, .inl uo_64))] H := hP
        have hD : va_D A [(bM, .inr (7, [.ref bN, .ref bQ, .int us, .ref bS, .ref bH, .ref bP, .int up, .int ue, .int ut_73, .ref bT, .int um_64])), (bP, .inl (cyI, 80, .inl ux)), (bT, .inl (cyI, 42, .inl uo_64))] := hD
        refine lv_if_eq (tgt := 106) hx hb dX7_isOrder_76 (by decide) (fun hc => ?_) (fun hc => ?_)
        · have hF := k_if_t hF hc
          refine lv_iconst (v := (0 : Int32)) hx hb dX7_isOrder_106 (by decide) ?_
          obtain ⟨e0, e1, e2, e3⟩ := k_inj4 hF
          have hP9 : va_P D vwCl [(bM, .inr (7, [.ref bN, .ref bQ, .int us, .ref bS, .ref bH, .ref bP, .int up, .int ue, .int ut', .ref bT, .int um'])), (bP, .inl (cyI, 80, .inl ux)), (bT, .inl (cyI, 42, .inl uo'))] H := by rw [← e1, ← e2, ← e3]; exact hP
          exact W.zret hx hb hr rfl (fun t ht hW => ⟨⟨_, (), rfl, e0, x_ret hP9 ht⟩, hS.F ht⟩) hS.2.2 dX7_isOrder_107
        · have hF := k_if_f hF hc
          refine lv_aload_n hx hb dX7_isOrder_79 rfl (lv_at hl 0 rfl) ?_
          obtain ⟨r80, ut_80, um_80, uo_80, hC, hF⟩ := k_c4_ex hF
          refine x_VM (As := []) (rest := []) ⟨hx, hb, hml, hown, hts⟩ (c_X7_isNumber l D cyI cyZ bM bN bQ bS bH bP bT H.size N us up ue ut_73 um_64 ux uo_64 hC) (cwV 0 hts gX7_isOrder_X7_isNumber rfl rfl rfl (by decide +kernel) ⟨Nat.le_of_ble_eq_true rfl, Nat.le_of_ble_eq_true rfl⟩) hK hP hD hS hA [0, 1, 2] rfl rfl rfl 0 rfl rfl rfl rfl hl.1 rfl (Nat.le_of_ble_eq_true rfl) ⟨Nat.zero_le _, Nat.zero_le _⟩ dX7_isOrder_80 (fun H locs hP hD hS => ?_)
          have hP : va_P D vwCl [(bM, .inr (7, [.ref bN, .ref bQ, .int us, .ref bS, .ref bH, .ref bP, .int up, .int ue, .int ut_80, .ref bT, .int um_80])), (bP, .inl (cyI, 80, .inl ux)), (bT, .inl (cyI, 42, .inl uo_80))] H := hP
          have hD : va_D A [(bM, .inr (7, [.ref bN, .ref bQ, .int us, .ref bS, .ref bH, .ref bP, .int up, .int ue, .int ut_80, .ref bT, .int um_80])), (bP, .inl (cyI, 80, .inl ux)), (bT, .inl (cyI, 42, .inl uo_80))] := hD
          refine lv_if_eq (tgt := 106) hx hb dX7_isOrder_83 (by decide) (fun hc => ?_) (fun hc => ?_)
          · have hF := k_if_t hF hc
            refine lv_iconst (v := (0 : Int32)) hx hb dX7_isOrder_106 (by decide) ?_
            obtain ⟨e0, e1, e2, e3⟩ := k_inj4 hF
            have hP9 : va_P D vwCl [(bM, .inr (7, [.ref bN, .ref bQ, .int us, .ref bS, .ref bH, .ref bP, .int up, .int ue, .int ut', .ref bT, .int um'])), (bP, .inl (cyI, 80, .inl ux)), (bT, .inl (cyI, 42, .inl uo'))] H := by rw [← e1, ← e2, ← e3]; exact hP
            exact W.zret hx hb hr rfl (fun t ht hW => ⟨⟨_, (), rfl, e0, x_ret hP9 ht⟩, hS.F ht⟩) hS.2.2 dX7_isOrder_107
          · have hF := k_if_f hF hc
            refine lv_aload_n hx hb dX7_isOrder_86 rfl (lv_at hl 0 rfl) ?_
            refine lv_bipush (v := (61 : Int32)) hx hb dX7_isOrder_87 (by decide) ?_
            obtain ⟨r89, ut_89, hC, hF⟩ := k_c2_ex hF
            refine x_VM (As := [.int (61 : Int32)]) (rest := []) ⟨hx, hb, hml, hown, hts⟩ (c_X7_takes l D cyI cyZ bM bN bQ bS bH bP bT H.size N (61 : Int32) us up ue ut_80 um_80 ux hC) (cwV 1 hts gX7_isOrder_X7_takes rfl rfl rfl (by decide +kernel) ⟨Nat.le_of_ble_eq_true rfl, Nat.le_of_ble_eq_true rfl⟩) hK hP hD hS hA [0, 1] rfl rfl rfl 0 rfl rfl rfl rfl hl.1 rfl (Nat.le_of_ble_eq_true rfl) ⟨Nat.zero_le _, Nat.zero_le _⟩ dX7_isOrder_89 (fun H locs hP hD hS => ?_)
            have hP : va_P D vwCl [(bM, .inr (7, [.ref bN, .ref bQ, .int us, .ref bS, .ref bH, .ref bP, .int up, .int ue, .int ut_89, .ref bT, .int um_80])), (bP, .inl (cyI, 80, .inl ux)), (bT, .inl (cyI, 42, .inl uo_80))] H := hP
            have hD : va_D A [(bM, .inr (7, [.ref bN, .ref bQ, .int us, .ref bS, .ref bH, .ref bP, .int up, .int ue, .int ut_89, .ref bT, .int um_80])), (bP, .inl (cyI, 80, .inl ux)), (bT, .inl (cyI, 42, .inl uo_80))] := hD
            refine lv_if_eq (tgt := 106) hx hb dX7_isOrder_92 (by decide) (fun hc => ?_) (fun hc => ?_)
            · have hF := k_if_t hF hc
              refine lv_iconst (v := (0 : Int32)) hx hb dX7_isOrder_106 (by decide) ?_
              obtain ⟨e0, e1, e2, e3⟩ := k_inj4 hF
              have hP9 : va_P D vwCl [(bM, .inr (7, [.ref bN, .ref bQ, .int us, .ref bS, .ref bH, .ref bP, .int up, .int ue, .int ut', .ref bT, .int um'])), (bP, .inl (cyI, 80, .inl ux)), (bT, .inl (cyI, 42, .inl uo'))] H := by rw [← e1, ← e2, ← e3]; exact hP
              exact W.zret hx hb hr rfl (fun t ht hW => ⟨⟨_, (), rfl, e0, x_ret hP9 ht⟩, hS.F ht⟩) hS.2.2 dX7_isOrder_107
            · have hF := k_if_f hF hc
              refine lv_aload_n hx hb dX7_isOrder_95 rfl (lv_at hl 0 rfl) ?_
              obtain ⟨r96, ut_96, um_96, uo_96, hC, hF⟩ := k_c4_ex hF
              refine x_VM (As := []) (rest := []) ⟨hx, hb, hml, hown, hts⟩ (c_X7_isValue l D cyI cyZ bM bN bQ bS bH bP bT H.size N us up ue ut_89 um_80 ux uo_80 hC) (cwV 0 hts gX7_isOrder_X7_isValue rfl rfl rfl (by decide +kernel) ⟨Nat.le_of_ble_eq_true rfl, Nat.le_of_ble_eq_true rfl⟩) hK hP hD hS hA [0, 1, 2] rfl rfl rfl 0 rfl rfl rfl rfl hl.1 rfl (Nat.le_of_ble_eq_true rfl) ⟨Nat.zero_le _, Nat.zero_le _⟩ dX7_isOrder_96 (fun H locs hP hD hS => ?_)
              have hP : va_P D vwCl [(bM, .inr (7, [.ref bN, .ref bQ, .int us, .ref bS, .ref bH, .ref bP, .int up, .int ue, .int ut_96, .ref bT, .int um_96])), (bP, .inl (cyI, 80, .inl ux)), (bT, .inl (cyI, 42, .inl uo_96))] H := hP
              have hD : va_D A [(bM, .inr (7, [.ref bN, .ref bQ, .int us, .ref bS, .ref bH, .ref bP, .int up, .int ue, .int ut_96, .ref bT, .int um_96])), (bP, .inl (cyI, 80, .inl ux)), (bT, .inl (cyI, 42, .inl uo_96))] := hD
              refine lv_if_eq (tgt := 106) hx hb dX7_isOrder_99 (by decide) (fun hc => ?_) (fun hc => ?_)
              · have hF := k_if_t hF hc
                refine lv_iconst (v := (0 : Int32)) hx hb dX7_isOrder_106 (by decide) ?_
                obtain ⟨e0, e1, e2, e3⟩ := k_inj4 hF
                have hP9 : va_P D vwCl [(bM, .inr (7, [.ref bN, .ref bQ, .int us, .ref bS, .ref bH, .ref bP, .int up, .int ue, .int ut', .ref bT, .int um'])), (bP, .inl (cyI, 80, .inl ux)), (bT, .inl (cyI, 42, .inl uo'))] H := by rw [← e1, ← e2, ← e3]; exact hP
                exact W.zret hx hb hr rfl (fun t ht hW => ⟨⟨_, (), rfl, e0, x_ret hP9 ht⟩, hS.F ht⟩) hS.2.2 dX7_isOrder_107
              · have hF := k_if_f hF hc
                refine lv_iconst (v := (1 : Int32)) hx hb dX7_isOrder_102 (by decide) ?_
                refine lv_goto (tgt := 107) hx hb dX7_isOrder_103 (by decide) ?_
                obtain ⟨e0, e1, e2, e3⟩ := k_inj4 hF
                have hP9 : va_P D vwCl [(bM, .inr (7, [.ref bN, .ref bQ, .int us, .ref bS, .ref bH, .ref bP, .int up, .int ue, .int ut', .ref bT, .int um'])), (bP, .inl (cyI, 80, .inl ux)), (bT, .inl (cyI, 42, .inl uo'))] H := by rw [← e1, ← e2, ← e3]; exact hP
                exact W.zret hx hb hr rfl (fun t ht hW => ⟨⟨_, (), rfl, e0, x_ret hP9 ht⟩, hS.F ht⟩) hS.2.2 dX7_isOrder_107
    · have hF := k_if_f hF h102
      by_cases h109 : x1 = (109 : Int32)
      · have hF := k_if_t hF h109
        refine lv_lookup (tgt := 58) (off := 52) hx hb dX7_isOrder_6 (by decide) (by rw [h109]; decide) (by decide) ?_
        refine lv_aload_n hx hb dX7_isOrder_58 rfl (lv_at hl 0 rfl) ?_
        obtain ⟨r59, ut_59, um_59, uo_59, hC, hF⟩ := k_c4_ex hF
        refine x_VM (As := []) (rest := []) ⟨hx, hb, hml, hown, hts⟩ (c_X7_isNumber l D cyI cyZ bM bN bQ bS bH bP bT H.size N us up ue ut (0 : Int32) ux uo hC) (cwV 0 hts gX7_isOrder_X7_isNumber rfl rfl rfl (by decide +kernel) ⟨Nat.le_of_ble_eq_true rfl, Nat.le_of_ble_eq_true rfl⟩) hK hP hD hS hA [0, 1, 2] rfl rfl rfl 0 rfl rfl rfl rfl hl.1 rfl (Nat.le_of_ble_eq_true rfl) ⟨Nat.zero_le _, Nat.zero_le _⟩ dX7_isOrder_59 (fun H locs hP hD hS => ?_)
        have hP : va_P D vwCl [(bM, .inr (7, [.ref bN, .ref bQ, .int us, .ref bS, .ref bH, .ref bP, .int up, .int ue, .int ut_59, .ref bT, .int um_59])), (bP, .inl (cyI, 80, .inl ux)), (bT, .inl (cyI, 42, .inl uo_59))] H := hP
        have hD : va_D A [(bM, .inr (7, [.ref bN, .ref bQ, .int us, .ref bS, .ref bH, .ref bP, .int up, .int ue, .int ut_59, .ref bT, .int um_59])), (bP, .inl (cyI, 80, .inl ux)), (bT, .inl (cyI, 42, .inl uo_59))] := hD
        obtain ⟨hbit, hF⟩ := k_bit_ex hF
        obtain ⟨e0, e1, e2, e3⟩ := k_inj4 hF
        have hP9 : va_P D vwCl [(bM, .inr (7, [.ref bN, .ref bQ, .int us, .ref bS, .ref bH, .ref bP, .int up, .int ue, .int ut', .ref bT, .int um'])), (bP, .inl (cyI, 80, .inl ux)), (bT, .inl (cyI, 42, .inl uo'))] H := by rw [← e1, ← e2, ← e3]; exact hP
        exact W.zret hx hb hr (congrArg Value.int hbit) (fun t ht hW => ⟨⟨_, (), rfl, e0, x_ret hP9 ht⟩, hS.F ht⟩) hS.2.2 dX7_isOrder_62
      · have hF := k_if_f hF h109
        by_cases h114 : x1 = (114 : Int32)
        · have hF := k_if_t hF h114
          refine lv_lookup (tgt := 53) (off := 47) hx hb dX7_isOrder_6 (by decide) (by rw [h114]; decide) (by decide) ?_
          refine lv_aload_n hx hb dX7_isOrder_53 rfl (lv_at hl 0 rfl) ?_
          obtain ⟨r54, ut_54, um_54, uo_54, hC, hF⟩ := k_c4_ex hF
          refine x_VM (As := []) (rest := []) ⟨hx, hb, hml, hown, hts⟩ (c_X7_isRun l D cyI cyZ bM bN bQ bS bH bP bT H.size N us up ue ut (0 : Int32) ux uo hC) (cwV 0 hts gX7_isOrder_X7_isRun rfl rfl rfl (by decide +kernel) ⟨Nat.le_of_ble_eq_true rfl, Nat.le_of_ble_eq_true rfl⟩) hK hP hD hS hA [0, 1, 2] rfl rfl rfl 0 rfl rfl rfl rfl hl.1 rfl (Nat.le_of_ble_eq_true rfl) ⟨Nat.zero_le _, Nat.zero_le _⟩ dX7_isOrder_54 (fun H locs hP hD hS => ?_)
          have hP : va_P D vwCl [(bM, .inr (7, [.ref bN, .ref bQ, .int us, .ref bS, .ref bH, .ref bP, .int up, .int ue, .int ut_54, .ref bT, .int um_54])), (bP, .inl (cyI, 80, .inl ux)), (bT, .inl (cyI, 42, .inl uo_54))] H := hP
          have hD : va_D A [(bM, .inr (7, [.ref bN, .ref bQ, .int us, .ref bS, .ref bH, .ref bP, .int up, .int ue, .int ut_54, .ref bT, .int um_54])), (bP, .inl (cyI, 80, .inl ux)), (bT, .inl (cyI, 42, .inl uo_54))] := hD
          obtain ⟨hbit, hF⟩ := k_bit_ex hF
          obtain ⟨e0, e1, e2, e3⟩ := k_inj4 hF
          have hP9 : va_P D vwCl [(bM, .inr (7, [.ref bN, .ref bQ, .int us, .ref bS, .ref bH, .ref bP, .int up, .int ue, .int ut', .ref bT, .int um'])), (bP, .inl (cyI, 80, .inl ux)), (bT, .inl (cyI, 42, .inl uo'))] H := by rw [← e1, ← e2, ← e3]; exact hP
          exact W.zret hx hb hr (congrArg Value.int hbit) (fun t ht hW => ⟨⟨_, (), rfl, e0, x_ret hP9 ht⟩, hS.F ht⟩) hS.2.2 dX7_isOrder_57
        · have hF := k_if_f hF h114
          refine lv_lookup (tgt := 108) (off := 102) hx hb dX7_isOrder_6 (by decide) (by show Op.lookupswitch.offset [(43, 42), (102, 57), (109, 52), (114, 47)] 102 x1.toInt = 102; rw [lv_osw (k := (43 : Int32)) (a := 43) h43 (by decide), lv_osw (k := (102 : Int32)) (a := 102) h102 (by decide), lv_osw (k := (109 : Int32)) (a := 109) h109 (by decide), lv_osw (k := (114 : Int32)) (a := 114) h114 (by decide)]; rfl) (by decide) ?_
          refine lv_aload_n hx hb dX7_isOrder_108 rfl (lv_at hl 0 rfl) ?_
          refine lv_dup hx hb dX7_isOrder_109 rfl ?_
          refine va_get (D := D) (ci := 7) (v := .int ut) (C := RX7) (T := TX7) (N := 11) hx hb hts mi_X7_isOrder_X7 hown hK.1 hP 0 rfl rfl 8 (by decide) (hts _ mm_X7_isOrder_2) (fun _ h9 => h9) rfl dX7_isOrder_110 ?_
          refine lv_iconst (v := (1 : Int32)) hx hb dX7_isOrder_113 (by decide) ?_
          refine lv_isub hx hb dX7_isOrder_114 ?_
          obtain ⟨ut_115, hn, hF⟩ := k_let_ex hF
          refine x_nm hn ?_
          refine va_put (D := D) (ci := 7) (v := .int ut_115) (ty := .int) (C := RX7) (T := TX7) (N := 11) hx hb hts mi_X7_isOrder_X7 tyX7 tyX7_ok nmX7 hown hK.1 hP hD hS 0 rfl rfl 8 (by decide) (hts _ mm_X7_isOrder_2) (fun _ h9 => h9) rfl (by decide +kernel) rfl rfl (Nat.le_of_ble_eq_true rfl) dX7_isOrder_115 (fun H locs hP hD hS => ?_)
          have hP : va_P D vwCl [(bM, .inr (7, [.ref bN, .ref bQ, .int us, .ref bS, .ref bH, .ref bP, .int up, .int ue, .int ut_115, .ref bT, .int (0 : Int32)])), (bP, .inl (cyI, 80, .inl ux)), (bT, .inl (cyI, 42, .inl uo))] H := hP
          have hD : va_D A [(bM, .inr (7, [.ref bN, .ref bQ, .int us, .ref bS, .ref bH, .ref bP, .int up, .int ue, .int ut_115, .ref bT, .int (0 : Int32)])), (bP, .inl (cyI, 80, .inl ux)), (bT, .inl (cyI, 42, .inl uo))] := hD
          refine lv_iconst (v := (0 : Int32)) hx hb dX7_isOrder_118 (by decide) ?_
          obtain ⟨e0, e1, e2, e3⟩ := k_inj4 hF
          have hP9 : va_P D vwCl [(bM, .inr (7, [.ref bN, .ref bQ, .int us, .ref bS, .ref bH, .ref bP, .int up, .int ue, .int ut', .ref bT, .int um'])), (bP, .inl (cyI, 80, .inl ux)), (bT, .inl (cyI, 42, .inl uo'))] H := by rw [← e1, ← e2, ← e3]; exact hP
          exact W.zret hx hb hr rfl (fun t ht hW => ⟨⟨_, (), rfl, e0, x_ret hP9 ht⟩, hS.F ht⟩) hS.2.2 dX7_isOrder_119
theorem mm_X7_fault_1 : Cond.fieldLink RX7 131 "RollerMeshModel" "at" "I" ∈ wsX7_fault := List.mem_of_getElem? (i := 1) rfl
theorem mm_X7_fault_2 : Cond.fieldLink RX7 115 "RollerMeshModel" "padded" "I" ∈ wsX7_fault := List.mem_of_getElem? (i := 2) rfl
theorem mi_X7_fault_X7 : ∀ w ∈ wsX70, w ∈ wsX7_fault := fun _ h => List.mem_cons_of_mem _ (List.mem_append_right _ h)
set_option maxHeartbeats 4000000 in
set_option maxRecDepth 100000 in
theorem c_X7_fault (l : Launch) (D : va_G) (cyI cyZ : ClassId) (bM bN bQ bS bH bP bT : Nat) (sz : Nat) (N : Nat) (us : Int32) (up : Int32) (ue : Int32) (ut : Int32) (um : Int32) (ux : (Nat → Int32)) (uo : (Nat → Int32)) {r0 : Int32} {ut' : Int32} {um' : Int32} {uo' : (Nat → Int32)} (hF : p_X7_fault N us up ue ut um ux uo = some (r0, ut', um', uo')) : Met l yX7_fault wsX7_fault ({ frames := 6, cells := 0, slots := 0, locals := 129 }) (x_PM D cyI cyZ [.ref bM] [(bM, .inr (7, [.ref bN, .ref bQ, .int us, .ref bS, .ref bH, .ref bP, .int up, .int ue, .int ut, .ref bT, .int um])), (bP, .inl (cyI, 80, .inl ux)), (bT, .inl (cyI, 42, .inl uo))] sz) (x_QM D r0 (va_A [(bM, .inr (7, [.ref bN, .ref bQ, .int us, .ref bS, .ref bH, .ref bP, .int up, .int ue, .int ut, .ref bT, .int um])), (bP, .inl (cyI, 80, .inl ux)), (bT, .inl (cyI, 42, .inl uo))] sz) [(bM, .inr (7, [.ref bN, .ref bQ, .int us, .ref bS, .ref bH, .ref bP, .int up, .int ue, .int ut', .ref bT, .int um'])), (bP, .inl (cyI, 80, .inl ux)), (bT, .inl (cyI, 42, .inl uo'))]) 0 0 (va_A [(bM, .inr (7, [.ref bN, .ref bQ, .int us, .ref bS, .ref bH, .ref bP, .int up, .int ue, .int ut, .ref bT, .int um])), (bP, .inl (cyI, 80, .inl ux)), (bT, .inl (cyI, 42, .inl uo))] sz) := by
  refine Met.ofW (cc := cX7_fault) (maxL := 2) (ret := (some .int)) (by decide) rfl ?_
  intro p e s m args below meth c s₁ B hml hv
  obtain ⟨rfl, hsz, hP, hK, hD0⟩ := hv
  have hx := B.exec
  have hb := B.bytes
  have hr := B.returns
  have hts := atoms_spec (ws := wsX7_fault) B.pre
  have hown : s.vm.findClass RX7 = some m.cls := findClass_of_methodNamed B.named
  have hlocks := B.notSynchronized
  subst hsz
  have hD := hD0.self (sz := s.heap.size)
  generalize hAe : va_A [(bM, .inr (7, [.ref bN, .ref bQ, .int us, .ref bS, .ref bH, .ref bP, .int up, .int ue, .int ut, .ref bT, .int um])), (bP, .inl (cyI, 80, .inl ux)), (bT, .inl (cyI, 42, .inl uo))] s.heap.size = A at hD ⊢
  have hA : ∀ q : Nat, s.heap.size ≤ q → A q := fun q h => by rw [← hAe]; exact Or.inr h
  have hS : va_S A s.heap s.heap [] := va_S.rf
  have hP : va_P D vwCl [(bM, .inr (7, [.ref bN, .ref bQ, .int us, .ref bS, .ref bH, .ref bP, .int up, .int ue, .int ut, .ref bT, .int um])), (bP, .inl (cyI, 80, .inl ux)), (bT, .inl (cyI, 42, .inl uo))] s.heap := hP
  have hl := lv_entry ([.ref bM]) (n := 2) (Nat.le_of_ble_eq_true rfl)
  rw [lg_entry_eq]
  generalize (lg_sl ([.ref bM]) ++ List.replicate (2 - (lg_sl ([.ref bM])).length) Slot.unset).toArray = ls at hl ⊢
  have hl : lv_has ls 2 [(0, .ref bM)] := hl
  refine x_gen (fun G hG => ?_)
  have blk_7 : ∀ (n_7 : Nat) (x1 : Int32) (ut : Int32) (um : Int32) (uo : (Nat → Int32)), f_X7_fault_7 N n_7 x1 us up ue ut um ux uo = some (r0, ut', um', uo') → ∀ (H : Heap) (locs : List Loc) (ls : Array Slot), va_P D vwCl [(bM, .inr (7, [.ref bN, .ref bQ, .int us, .ref bS, .ref bH, .ref bP, .int up, .int ue, .int ut, .ref bT, .int um])), (bP, .inl (cyI, 80, .inl ux)), (bT, .inl (cyI, 42, .inl uo))] H → va_D A [(bM, .inr (7, [.ref bN, .ref bQ, .int us, .ref bS, .ref bH, .ref bP, .int up, .int ue, .int ut, .ref bT, .int um])), (bP, .inl (cyI, 80, .inl ux)), (bT, .inl (cyI, 42, .inl uo))] → va_S A s.heap H locs → lv_has ls 2 [(0, .ref bM), (1, .int x1)] → G H locs (F0 m 7 ls []) := by
    intro n_7
    induction n_7 with
    | zero => intro x1 ut um uo hF; exact (k_none hF).elim
    | succ n_7 ih_7 =>
      intro x1 ut um uo hF H locs ls hP hD hS hl
      replace hF : b_X7_fault_7 N (f_X7_fault_7 N n_7) x1 us up ue ut um ux uo = some (r0, ut', um', uo') := hF
      unfold b_X7_fault_7 at hF
      refine (hG _ _ _).2 ?_
      refine lv_iload_n hx hb dX7_fault_7 rfl (lv_at hl 1 rfl) ?_
      refine lv_if_eq (tgt := 37) hx hb dX7_fault_8 (by decide) (fun hc => ?_) (fun hc => ?_)
      · have hF := k_if_t hF hc
        refine lv_aload_n hx hb dX7_fault_37 rfl (lv_at hl 0 rfl) ?_
        refine va_get (D := D) (ci := 7) (v := .int ut) (C := RX7) (T := TX7) (N := 11) hx hb hts mi_X7_fault_X7 hown hK.1 hP 0 rfl rfl 8 (by decide) (hts _ mm_X7_fault_1) (fun _ h9 => h9) rfl dX7_fault_38 ?_
        refine lv_aload_n hx hb dX7_fault_41 rfl (lv_at hl 0 rfl) ?_
        refine va_get (D := D) (ci := 7) (v := .int up) (C := RX7) (T := TX7) (N := 11) hx hb hts mi_X7_fault_X7 hown hK.1 hP 0 rfl rfl 6 (by decide) (hts _ mm_X7_fault_2) (fun _ h9 => h9) rfl dX7_fault_42 ?_
        refine lv_icmp_ne (tgt := 53) hx hb dX7_fault_45 (by decide) (fun hc => ?_) (fun hc => ?_)
        · have hF := k_if_f hF hc
          refine lv_aload_n hx hb dX7_fault_53 rfl (lv_at hl 0 rfl) ?_
          refine va_get (D := D) (ci := 7) (v := .int ut) (C := RX7) (T := TX7) (N := 11) hx hb hts mi_X7_fault_X7 hown hK.1 hP 0 rfl rfl 8 (by decide) (hts _ mm_X7_fault_1) (fun _ h9 => h9) rfl dX7_fault_54 ?_
          obtain ⟨e0, e1, e2, e3⟩ := k_inj4 hF
          have hP9 : va_P D vwCl [(bM, .inr (7, [.ref bN, .ref bQ, .int us, .ref bS, .ref bH, .ref bP, .int up, .int ue, .int ut', .ref bT, .int um'])), (bP, .inl (cyI, 80, .inl ux)), (bT, .inl (cyI, 42, .inl uo'))] H := by rw [← e1, ← e2, ← e3]; exact hP
          exact W.iret hx hb hr (fun t ht hW => ⟨⟨_, (), rfl, e0, x_ret hP9 ht⟩, hS.F ht⟩) hS.2.2 dX7_fault_57
        · have hF := k_if_t hF hc
          refine lv_bipush (v := (-6 : Int32)) hx hb dX7_fault_48 (by decide) ?_
          refine lv_goto (tgt := 57) hx hb dX7_fault_50 (by decide) ?_
          obtain ⟨e0, e1, e2, e3⟩ := k_inj4 hF
          have hP9 : va_P D vwCl [(bM, .inr (7, [.ref bN, .ref bQ, .int us, .ref bS, .ref bH, .ref bP, .int up, .int ue, .int ut', .ref bT, .int um'])), (bP, .inl (cyI, 80, .inl ux)), (bT, .inl (cyI, 42, .inl uo'))] H := by rw [← e1, ← e2, ← e3]; exact hP
          exact W.iret hx hb hr (fun t ht hW => ⟨⟨_, (), rfl, e0, x_ret hP9 ht⟩, hS.F ht⟩) hS.2.2 dX7_fault_57
      · have hF := k_if_f hF hc
        refine lv_aload_n hx hb dX7_fault_11 rfl (lv_at hl 0 rfl) ?_
        refine lv_aload_n hx hb dX7_fault_12 rfl (lv_at hl 0 rfl) ?_
        obtain ⟨r13, ut_13, hC, hF⟩ := k_c2_ex hF
        refine x_VM (As := []) (rest := [.ref bM]) ⟨hx, hb, hml, hown, hts⟩ (c_X7_letter l D cyI cyZ bM bN bQ bS bH bP bT H.size N us up ue ut um ux hC) (cwV 0 hts gX7_fault_X7_letter rfl rfl rfl (by decide +kernel) ⟨Nat.le_of_ble_eq_true rfl, Nat.le_of_ble_eq_true rfl⟩) hK hP hD hS hA [0, 1] rfl rfl rfl 0 rfl rfl rfl rfl hl.1 rfl (Nat.le_of_ble_eq_true rfl) ⟨Nat.zero_le _, Nat.zero_le _⟩ dX7_fault_13 (fun H locs hP hD hS => ?_)
        have hP : va_P D vwCl [(bM, .inr (7, [.ref bN, .ref bQ, .int us, .ref bS, .ref bH, .ref bP, .int up, .int ue, .int ut_13, .ref bT, .int um])), (bP, .inl (cyI, 80, .inl ux)), (bT, .inl (cyI, 42, .inl uo))] H := hP
        have hD : va_D A [(bM, .inr (7, [.ref bN, .ref bQ, .int us, .ref bS, .ref bH, .ref bP, .int up, .int ue, .int ut_13, .ref bT, .int um])), (bP, .inl (cyI, 80, .inl ux)), (bT, .inl (cyI, 42, .inl uo))] := hD
        obtain ⟨r16, ut_16, um_16, uo_16, hC, hF⟩ := k_c4_ex hF
        refine x_VM (As := [.int r13]) (rest := []) ⟨hx, hb, hml, hown, hts⟩ (c_X7_isOrder l D cyI cyZ bM bN bQ bS bH bP bT H.size N r13 us up ue ut_13 um ux uo hC) (cwV 1 hts gX7_fault_X7_isOrder rfl rfl rfl (by decide +kernel) ⟨Nat.le_of_ble_eq_true rfl, Nat.le_of_ble_eq_true rfl⟩) hK hP hD hS hA [0, 1, 2] rfl rfl rfl 0 rfl rfl rfl rfl hl.1 rfl (Nat.le_of_ble_eq_true rfl) ⟨Nat.zero_le _, Nat.zero_le _⟩ dX7_fault_16 (fun H locs hP hD hS => ?_)
        have hP : va_P D vwCl [(bM, .inr (7, [.ref bN, .ref bQ, .int us, .ref bS, .ref bH, .ref bP, .int up, .int ue, .int ut_16, .ref bT, .int um_16])), (bP, .inl (cyI, 80, .inl ux)), (bT, .inl (cyI, 42, .inl uo_16))] H := hP
        have hD : va_D A [(bM, .inr (7, [.ref bN, .ref bQ, .int us, .ref bS, .ref bH, .ref bP, .int up, .int ue, .int ut_16, .ref bT, .int um_16])), (bP, .inl (cyI, 80, .inl ux)), (bT, .inl (cyI, 42, .inl uo_16))] := hD
        refine lv_if_ne (tgt := 27) hx hb dX7_fault_19 (by decide) (fun hc => ?_) (fun hc => ?_)
        · have hF := k_if_f hF hc
          refine lv_aload_n hx hb dX7_fault_27 rfl (lv_at hl 0 rfl) ?_
          refine lv_bipush (v := (59 : Int32)) hx hb dX7_fault_28 (by decide) ?_
          obtain ⟨r30, ut_30, hC, hF⟩ := k_c2_ex hF
          refine x_VM (As := [.int (59 : Int32)]) (rest := []) ⟨hx, hb, hml, hown, hts⟩ (c_X7_takes l D cyI cyZ bM bN bQ bS bH bP bT H.size N (59 : Int32) us up ue ut_16 um_16 ux hC) (cwV 1 hts gX7_fault_X7_takes rfl rfl rfl (by decide +kernel) ⟨Nat.le_of_ble_eq_true rfl, Nat.le_of_ble_eq_true rfl⟩) hK hP hD hS hA [0, 1] rfl rfl rfl 0 rfl rfl rfl rfl hl.1 rfl (Nat.le_of_ble_eq_true rfl) ⟨Nat.zero_le _, Nat.zero_le _⟩ dX7_fault_30 (fun H locs hP hD hS => ?_)
          have hP : va_P D vwCl [(bM, .inr (7, [.ref bN, .ref bQ, .int us, .ref bS, .ref bH, .ref bP, .int up, .int ue, .int ut_30, .ref bT, .int um_16])), (bP, .inl (cyI, 80, .inl ux)), (bT, .inl (cyI, 42, .inl uo_16))] H := hP
          have hD : va_D A [(bM, .inr (7, [.ref bN, .ref bQ, .int us, .ref bS, .ref bH, .ref bP, .int up, .int ue, .int ut_30, .ref bT, .int um_16])), (bP, .inl (cyI, 80, .inl ux)), (bT, .inl (cyI, 42, .inl uo_16))] := hD
          refine lv_istore_n (lv' := [(1, .int r30), (0, .ref bM)]) hx hb dX7_fault_33 rfl hl (by decide) rfl (fun ls hl => ?_)
          refine lv_goto (tgt := 7) hx hb dX7_fault_34 (by decide) ?_
          exact (hG _ _ _).1 (ih_7 r30 ut_30 um_16 uo_16 hF _ _ _ hP hD hS (lv_sub hl [1, 0] rfl))
        · have hF := k_if_t hF hc
          refine lv_aload_n hx hb dX7_fault_22 rfl (lv_at hl 0 rfl) ?_
          refine va_get (D := D) (ci := 7) (v := .int ut_16) (C := RX7) (T := TX7) (N := 11) hx hb hts mi_X7_fault_X7 hown hK.1 hP 0 rfl rfl 8 (by decide) (hts _ mm_X7_fault_1) (fun _ h9 => h9) rfl dX7_fault_23 ?_
          obtain ⟨e0, e1, e2, e3⟩ := k_inj4 hF
          have hP9 : va_P D vwCl [(bM, .inr (7, [.ref bN, .ref bQ, .int us, .ref bS, .ref bH, .ref bP, .int up, .int ue, .int ut', .ref bT, .int um'])), (bP, .inl (cyI, 80, .inl ux)), (bT, .inl (cyI, 42, .inl uo'))] H := by rw [← e1, ← e2, ← e3]; exact hP
          exact W.iret hx hb hr (fun t ht hW => ⟨⟨_, (), rfl, e0, x_ret hP9 ht⟩, hS.F ht⟩) hS.2.2 dX7_fault_26
  refine (hG _ _ _).2 ?_
  unfold p_X7_fault at hF
  refine lv_aload_n hx hb dX7_fault_0 rfl (lv_at hl 0 rfl) ?_
  refine lv_iconst (v := (0 : Int32)) hx hb dX7_fault_1 (by decide) ?_
  refine va_put (D := D) (ci := 7) (v := .int (0 : Int32)) (ty := .int) (C := RX7) (T := TX7) (N := 11) hx hb hts mi_X7_fault_X7 tyX7 tyX7_ok nmX7 hown hK.1 hP hD hS 0 rfl rfl 8 (by decide) (hts _ mm_X7_fault_1) (fun _ h9 => h9) rfl (by decide +kernel) rfl rfl (Nat.le_of_ble_eq_true rfl) dX7_fault_2 (fun H locs hP hD hS => ?_)
  have hP : va_P D vwCl [(bM, .inr (7, [.ref bN, .ref bQ, .int us, .ref bS, .ref bH, .ref bP, .int up, .int ue, .int (0 : Int32), .ref bT, .int um])), (bP, .inl (cyI, 80, .inl ux)), (bT, .inl (cyI, 42, .inl uo))] H := hP
  have hD : va_D A [(bM, .inr (7, [.ref bN, .ref bQ, .int us, .ref bS, .ref bH, .ref bP, .int up, .int ue, .int (0 : Int32), .ref bT, .int um])), (bP, .inl (cyI, 80, .inl ux)), (bT, .inl (cyI, 42, .inl uo))] := hD
  refine lv_iconst (v := (1 : Int32)) hx hb dX7_fault_5 (by decide) ?_
  refine lv_istore_n (lv' := [(1, .int (1 : Int32)), (0, .ref bM)]) hx hb dX7_fault_6 rfl hl (by decide) rfl (fun ls hl => ?_)
  exact (hG _ _ _).1 (blk_7 N (1 : Int32) (0 : Int32) um uo hF _ _ _ hP hD hS (lv_sub hl [1, 0] rfl))
theorem mm_X7_rollerError_1 : Cond.fieldLink RX7 137 "RollerMeshModel" "toldMany" "I" ∈ wsX7_rollerError := List.mem_of_getElem? (i := 1) rfl
theorem mm_X7_rollerError_2 : Cond.fieldLink RX7 7 "RollerMeshModel" "now" "[I" ∈ wsX7_rollerError := List.mem_of_getElem? (i := 2) rfl
theorem mi_X7_rollerError_X7 : ∀ w ∈ wsX70, w ∈ wsX7_rollerError := fun _ h => List.mem_cons_of_mem _ (List.mem_append_right _ h)
set_option maxHeartbeats 4000000 in
set_option maxRecDepth 100000 in
theorem c_X7_rollerError (l : Launch) (D : va_G) (cyI cyZ : ClassId) (bM bN bQ bS bH bP bT : Nat) (N : Nat) (us : Int32) (up : Int32) (ue : Int32) (ut : Int32) (um : Int32) (un : (Nat → Int32)) {r0 : Int32}  (hF : p_X7_rollerError N us up ue ut um un = some (r0)) : Met l yX7_rollerError wsX7_rollerError ({ frames := 1, cells := 0, slots := 0, locals := 22 }) (x_PR D cyI cyZ [.ref bM] [(bM, .inr (7, [.ref bN, .ref bQ, .int us, .ref bS, .ref bH, .ref bP, .int up, .int ue, .int ut, .ref bT, .int um])), (bN, .inl (cyI, 225, .inl un))]) (x_QR r0) 0 0 (fun _ => False) := by
  refine Met.ofW (cc := cX7_rollerError) (maxL := 1) (ret := (some .int)) (by decide) rfl ?_
  intro p e s m args below meth c s₁ B hml hv
  obtain ⟨rfl, hP, hK⟩ := hv
  have hx := B.exec
  have hb := B.bytes
  have hr := B.returns
  have hts := atoms_spec (ws := wsX7_rollerError) B.pre
  have hown : s.vm.findClass RX7 = some m.cls := findClass_of_methodNamed B.named
  have hlocks := B.notSynchronized
  have hS : va_S (fun _ => False) s.heap s.heap [] := va_S.rf
  have hP : va_P D vwCl [(bM, .inr (7, [.ref bN, .ref bQ, .int us, .ref bS, .ref bH, .ref bP, .int up, .int ue, .int ut, .ref bT, .int um])), (bN, .inl (cyI, 225, .inl un))] s.heap := hP
  have hl := lv_entry ([.ref bM]) (n := 1) (Nat.le_of_ble_eq_true rfl)
  rw [lg_entry_eq]
  generalize (lg_sl ([.ref bM]) ++ List.replicate (1 - (lg_sl ([.ref bM])).length) Slot.unset).toArray = ls at hl ⊢
  have hl : lv_has ls 1 [(0, .ref bM)] := hl
  unfold p_X7_rollerError at hF
  refine lv_aload_n hx hb dX7_rollerError_0 rfl (lv_at hl 0 rfl) ?_
  refine va_get (D := D) (ci := 7) (v := .int um) (C := RX7) (T := TX7) (N := 11) hx hb hts mi_X7_rollerError_X7 hown hK.1 hP 0 rfl rfl 10 (by decide) (hts _ mm_X7_rollerError_1) (fun _ h9 => h9) rfl dX7_rollerError_1 ?_
  refine lv_iconst (v := (2 : Int32)) hx hb dX7_rollerError_4 (by decide) ?_
  refine lv_bipush (v := (24 : Int32)) hx hb dX7_rollerError_5 (by decide) ?_
  obtain ⟨r7, hC, hF⟩ := k_c1_ex hF
  refine x_SR (As := [.int um, .int (2 : Int32), .int (24 : Int32)]) (rest := []) ⟨hx, hb, hml, hown, hts⟩ (c_X7_in l D cyI cyZ N um (2 : Int32) (24 : Int32) hC) (va_cwS 3 hts gX7_rollerError_X7_in rfl rfl rfl (by decide +kernel) ⟨Nat.le_of_ble_eq_true rfl, Nat.le_of_ble_eq_true rfl⟩) hK hP hS [] rfl rfl hl.1 rfl (Nat.le_of_ble_eq_true rfl) ⟨Nat.zero_le _, Nat.zero_le _⟩ dX7_rollerError_7 (fun H locs hP hS => ?_)
  refine lv_if_ne (tgt := 18) hx hb dX7_rollerError_10 (by decide) (fun hc => ?_) (fun hc => ?_)
  · have hF := k_if_f hF hc
    refine lv_aload_n hx hb dX7_rollerError_18 rfl (lv_at hl 0 rfl) ?_
    refine va_get (D := D) (ci := 7) (v := .ref bN) (C := RX7) (T := TX7) (N := 11) hx hb hts mi_X7_rollerError_X7 hown hK.1 hP 0 rfl rfl 0 (by decide) (hts _ mm_X7_rollerError_2) (fun _ h9 => h9) rfl dX7_rollerError_19 ?_
    refine lv_iconst (v := (3 : Int32)) hx hb dX7_rollerError_22 (by decide) ?_
    obtain ⟨r23, hin, hn, hF⟩ := k_ld_ex hF
    refine x_iald hx hb hK hP 1 rfl hin hn dX7_rollerError_23 ?_
    refine lv_bipush (v := (8 : Int32)) hx hb dX7_rollerError_24 (by decide) ?_
    refine lv_icmp_ne (tgt := 34) hx hb dX7_rollerError_26 (by decide) (fun hc => ?_) (fun hc => ?_)
    · have hF := k_if_f hF hc
      refine lv_iconst (v := (0 : Int32)) hx hb dX7_rollerError_34 (by decide) ?_
      exact W.iret hx hb hr (fun t ht hW => ⟨⟨_, (), rfl, Option.some.inj hF, trivial⟩, hS.F ht⟩) hS.2.2 dX7_rollerError_35
    · have hF := k_if_t hF hc
      refine lv_bipush (v := (-4 : Int32)) hx hb dX7_rollerError_29 (by decide) ?_
      refine lv_goto (tgt := 35) hx hb dX7_rollerError_31 (by decide) ?_
      exact W.iret hx hb hr (fun t ht hW => ⟨⟨_, (), rfl, Option.some.inj hF, trivial⟩, hS.F ht⟩) hS.2.2 dX7_rollerError_35
  · have hF := k_if_t hF hc
    refine lv_bipush (v := (-2 : Int32)) hx hb dX7_rollerError_13 (by decide) ?_
    refine lv_goto (tgt := 35) hx hb dX7_rollerError_15 (by decide) ?_
    exact W.iret hx hb hr (fun t ht hW => ⟨⟨_, (), rfl, Option.some.inj hF, trivial⟩, hS.F ht⟩) hS.2.2 dX7_rollerError_35
theorem mm_X7_does_1 : Cond.fieldLink RX7 137 "RollerMeshModel" "toldMany" "I" ∈ wsX7_does := List.mem_of_getElem? (i := 1) rfl
theorem mm_X7_does_2 : Cond.fieldLink RX7 7 "RollerMeshModel" "now" "[I" ∈ wsX7_does := List.mem_of_getElem? (i := 2) rfl
theorem mm_X7_does_3 : Cond.fieldLink RX7 26 "RollerMeshModel" "told" "[I" ∈ wsX7_does := List.mem_of_getElem? (i := 3) rfl
theorem mi_X7_does_X7 : ∀ w ∈ wsX70, w ∈ wsX7_does := fun _ h => List.mem_cons_of_mem _ (List.mem_append_right _ h)
set_option maxHeartbeats 4000000 in
set_option maxRecDepth 100000 in
theorem c_X7_does (l : Launch) (D : va_G) (cyI cyZ : ClassId) (bM bN bQ bS bH bP bT : Nat) (sz : Nat) (N : Nat) (x1 : Int32) (us : Int32) (up : Int32) (ue : Int32) (ut : Int32) (um : Int32) (un : (Nat → Int32)) (uo : (Nat → Int32)) {r0 : Int32} {ue' : Int32} {un' : (Nat → Int32)} (hF : p_X7_does N x1 us up ue ut um un uo = some (r0, ue', un')) : Met l yX7_does wsX7_does ({ frames := 4, cells := 0, slots := 0, locals := 102 }) (x_PM D cyI cyZ [.ref bM, .int x1] [(bM, .inr (7, [.ref bN, .ref bQ, .int us, .ref bS, .ref bH, .ref bP, .int up, .int ue, .int ut, .ref bT, .int um])), (bN, .inl (cyI, 225, .inl un)), (bT, .inl (cyI, 42, .inl uo))] sz) (x_QM D r0 (va_A [(bM, .inr (7, [.ref bN, .ref bQ, .int us, .ref bS, .ref bH, .ref bP, .int up, .int ue, .int ut, .ref bT, .int um])), (bN, .inl (cyI, 225, .inl un)), (bT, .inl (cyI, 42, .inl uo))] sz) [(bM, .inr (7, [.ref bN, .ref bQ, .int us, .ref bS, .ref bH, .ref bP, .int up, .int ue', .int ut, .ref bT, .int um])), (bN, .inl (cyI, 225, .inl un')), (bT, .inl (cyI, 42, .inl uo))]) 0 0 (va_A [(bM, .inr (7, [.ref bN, .ref bQ, .int us, .ref bS, .ref bH, .ref bP, .int up, .int ue, .int ut, .ref bT, .int um])), (bN, .inl (cyI, 225, .inl un)), (bT, .inl (cyI, 42, .inl uo))] sz) := by
  refine Met.ofW (cc := cX7_does) (maxL := 6) (ret := (some .int)) (by decide) rfl ?_
  intro p e s m args below meth c s₁ B hml hv
  obtain ⟨rfl, hsz, hP, hK, hD0⟩ := hv
  have hx := B.exec
  have hb := B.bytes
  have hr := B.returns
  have hts := atoms_spec (ws := wsX7_does) B.pre
  have hown : s.vm.findClass RX7 = some m.cls := findClass_of_methodNamed B.named
  have hlocks := B.notSynchronized
  subst hsz
  have hD := hD0.self (sz := s.heap.size)
  generalize hAe : va_A [(bM, .inr (7, [.ref bN, .ref bQ, .int us, .ref bS, .ref bH, .ref bP, .int up, .int ue, .int ut, .ref bT, .int um])), (bN, .inl (cyI, 225, .inl un)), (bT, .inl (cyI, 42, .inl uo))] s.heap.size = A at hD ⊢
  have hA : ∀ q : Nat, s.heap.size ≤ q → A q := fun q h => by rw [← hAe]; exact Or.inr h
  have hS : va_S A s.heap s.heap [] := va_S.rf
  have hP : va_P D vwCl [(bM, .inr (7, [.ref bN, .ref bQ, .int us, .ref bS, .ref bH, .ref bP, .int up, .int ue, .int ut, .ref bT, .int um])), (bN, .inl (cyI, 225, .inl un)), (bT, .inl (cyI, 42, .inl uo))] s.heap := hP
  have hl := lv_entry ([.ref bM, .int x1]) (n := 6) (Nat.le_of_ble_eq_true rfl)
  rw [lg_entry_eq]
  generalize (lg_sl ([.ref bM, .int x1]) ++ List.replicate (6 - (lg_sl ([.ref bM, .int x1])).length) Slot.unset).toArray = ls at hl ⊢
  have hl : lv_has ls 6 [(0, .ref bM), (1, .int x1)] := hl
  refine x_gen (fun G hG => ?_)
  have blk_58 : ∀ (n_58 : Nat) (x2 : Int32) (x4 : Int32) (x5 : Int32) (ue : Int32) (un : (Nat → Int32)), f_X7_does_58 N n_58 x2 x4 x5 us up ue ut um un uo = some (r0, ue', un') → ∀ (H : Heap) (locs : List Loc) (ls : Array Slot), va_P D vwCl [(bM, .inr (7, [.ref bN, .ref bQ, .int us, .ref bS, .ref bH, .ref bP, .int up, .int ue, .int ut, .ref bT, .int um])), (bN, .inl (cyI, 225, .inl un)), (bT, .inl (cyI, 42, .inl uo))] H → va_D A [(bM, .inr (7, [.ref bN, .ref bQ, .int us, .ref bS, .ref bH, .ref bP, .int up, .int ue, .int ut, .ref bT, .int um])), (bN, .inl (cyI, 225, .inl un)), (bT, .inl (cyI, 42, .inl uo))] → va_S A s.heap H locs → lv_has ls 6 [(0, .ref bM), (2, .int x2), (4, .int x4), (5, .int x5)] → G H locs (F0 m 58 ls []) := by
    intro n_58
    induction n_58 with
    | zero => intro x2 x4 x5 ue un hF; exact (k_none hF).elim
    | succ n_58 ih_58 =>
      intro x2 x4 x5 ue un hF H locs ls hP hD hS hl
      replace hF : b_X7_does_58 N (f_X7_does_58 N n_58) x2 x4 x5 us up ue ut um un uo = some (r0, ue', un') := hF
      unfold b_X7_does_58 at hF
      refine (hG _ _ _).2 ?_
      refine lv_iload hx hb dX7_does_58 (lv_at hl 3 rfl) ?_
      refine lv_aload_n hx hb dX7_does_60 rfl (lv_at hl 0 rfl) ?_
      refine va_get (D := D) (ci := 7) (v := .int um) (C := RX7) (T := TX7) (N := 11) hx hb hts mi_X7_does_X7 hown hK.1 hP 0 rfl rfl 10 (by decide) (hts _ mm_X7_does_1) (fun _ h9 => h9) rfl dX7_does_61 ?_
      refine lv_icmp_ge (tgt := 98) hx hb dX7_does_64 (by decide) (fun hc => ?_) (fun hc => ?_)
      · have hF := k_if_t hF hc
        refine lv_iload_n hx hb dX7_does_98 rfl (lv_at hl 1 rfl) ?_
        obtain ⟨e0, e1, e2⟩ := k_inj3 hF
        have hP9 : va_P D vwCl [(bM, .inr (7, [.ref bN, .ref bQ, .int us, .ref bS, .ref bH, .ref bP, .int up, .int ue', .int ut, .ref bT, .int um])), (bN, .inl (cyI, 225, .inl un')), (bT, .inl (cyI, 42, .inl uo))] H := by rw [← e1, ← e2]; exact hP
        exact W.iret hx hb hr (fun t ht hW => ⟨⟨_, (), rfl, e0, x_ret hP9 ht⟩, hS.F ht⟩) hS.2.2 dX7_does_99
      · have hF := k_if_f hF hc
        refine lv_aload_n hx hb dX7_does_67 rfl (lv_at hl 0 rfl) ?_
        refine va_get (D := D) (ci := 7) (v := .ref bN) (C := RX7) (T := TX7) (N := 11) hx hb hts mi_X7_does_X7 hown hK.1 hP 0 rfl rfl 0 (by decide) (hts _ mm_X7_does_2) (fun _ h9 => h9) rfl dX7_does_68 ?_
        refine lv_bipush (v := (9 : Int32)) hx hb dX7_does_71 (by decide) ?_
        refine lv_bipush (v := (27 : Int32)) hx hb dX7_does_73 (by decide) ?_
        refine lv_iload hx hb dX7_does_75 (lv_at hl 2 rfl) ?_
        refine lv_imul hx hb dX7_does_77 ?_
        refine lv_iadd hx hb dX7_does_78 ?_
        refine lv_iconst (v := (3 : Int32)) hx hb dX7_does_79 (by decide) ?_
        refine lv_iadd hx hb dX7_does_80 ?_
        refine lv_iload hx hb dX7_does_81 (lv_at hl 3 rfl) ?_
        refine lv_iadd hx hb dX7_does_83 ?_
        refine lv_aload_n hx hb dX7_does_84 rfl (lv_at hl 0 rfl) ?_
        refine va_get (D := D) (ci := 7) (v := .ref bT) (C := RX7) (T := TX7) (N := 11) hx hb hts mi_X7_does_X7 hown hK.1 hP 0 rfl rfl 9 (by decide) (hts _ mm_X7_does_3) (fun _ h9 => h9) rfl dX7_does_85 ?_
        refine lv_iload hx hb dX7_does_88 (lv_at hl 3 rfl) ?_
        obtain ⟨r90, hin, hn, hF⟩ := k_ld_ex hF
        refine x_iald hx hb hK hP 2 rfl hin hn dX7_does_90 ?_
        obtain ⟨un_91, hin, hn, hF⟩ := k_st_ex hF
        refine x_iast hx hb hK hP hD hS 1 rfl hin hn dX7_does_91 (fun H locs hP hD hS => ?_)
        have hP : va_P D vwCl [(bM, .inr (7, [.ref bN, .ref bQ, .int us, .ref bS, .ref bH, .ref bP, .int up, .int ue, .int ut, .ref bT, .int um])), (bN, .inl (cyI, 225, .inl un_91)), (bT, .inl (cyI, 42, .inl uo))] H := hP
        have hD : va_D A [(bM, .inr (7, [.ref bN, .ref bQ, .int us, .ref bS, .ref bH, .ref bP, .int up, .int ue, .int ut, .ref bT, .int um])), (bN, .inl (cyI, 225, .inl un_91)), (bT, .inl (cyI, 42, .inl uo))] := hD
        obtain ⟨x5_92, hn, hF⟩ := k_let_ex hF
        refine lv_iinc (v := x5_92) (lv' := [(5, .int x5_92), (0, .ref bM), (2, .int x2), (4, .int x4)]) hx hb dX7_does_92 hl (k := 3) rfl (by rw [hn]; rfl) (by decide) rfl (fun ls hl => ?_)
        refine lv_goto (tgt := 58) hx hb dX7_does_95 (by decide) ?_
        exact (hG _ _ _).1 (ih_58 x2 x4 x5_92 ue un_91 hF _ _ _ hP hD hS (lv_sub hl [1, 2, 3, 0] rfl))
  have blk_211 : ∀ (t0 : Int32) (ue : Int32) (un : (Nat → Int32)), b_X7_does_211 N t0 us up ue ut um un uo = some (r0, ue', un') → ∀ (H : Heap) (locs : List Loc) (ls : Array Slot), va_P D vwCl [(bM, .inr (7, [.ref bN, .ref bQ, .int us, .ref bS, .ref bH, .ref bP, .int up, .int ue, .int ut, .ref bT, .int um])), (bN, .inl (cyI, 225, .inl un)), (bT, .inl (cyI, 42, .inl uo))] H → va_D A [(bM, .inr (7, [.ref bN, .ref bQ, .int us, .ref bS, .ref bH, .ref bP, .int up, .int ue, .int ut, .ref bT, .int um])), (bN, .inl (cyI, 225, .inl un)), (bT, .inl (cyI, 42, .inl uo))] → va_S A s.heap H locs → lv_has ls 6 [(0, .ref bM)] → G H locs (F0 m 211 ls [.int t0]) := by
    intro t0 ue un hF H locs ls hP hD hS hl
    unfold b_X7_does_211 at hF
    refine (hG _ _ _).2 ?_
    refine lv_istore_n (lv' := [(2, .int t0), (0, .ref bM)]) hx hb dX7_does_211 rfl hl (by decide) rfl (fun ls hl => ?_)
    refine lv_iload_n hx hb dX7_does_212 rfl (lv_at hl 0 rfl) ?_
    refine lv_if_ne (tgt := 229) hx hb dX7_does_213 (by decide) (fun hc => ?_) (fun hc => ?_)
    · have hF := k_if_f hF hc
      refine lv_iconst (v := (0 : Int32)) hx hb dX7_does_229 (by decide) ?_
      refine lv_istore_n (lv' := [(3, .int (0 : Int32)), (2, .int t0), (0, .ref bM)]) hx hb dX7_does_230 rfl hl (by decide) rfl (fun ls hl => ?_)
      refine lv_goto (tgt := 288) hx hb dX7_does_231 (by decide) ?_
      refine lv_iload_n hx hb dX7_does_288 rfl (lv_at hl 0 rfl) ?_
      refine lv_if_ge (tgt := 296) hx hb dX7_does_289 (by decide) (fun _ => ?_) (fun hc => absurd hc (by decide))
      refine lv_iload_n hx hb dX7_does_296 rfl (lv_at hl 1 rfl) ?_
      obtain ⟨e0, e1, e2⟩ := k_inj3 hF
      have hP9 : va_P D vwCl [(bM, .inr (7, [.ref bN, .ref bQ, .int us, .ref bS, .ref bH, .ref bP, .int up, .int ue', .int ut, .ref bT, .int um])), (bN, .inl (cyI, 225, .inl un')), (bT, .inl (cyI, 42, .inl uo))] H := by rw [← e1, ← e2]; exact hP
      exact W.iret hx hb hr (fun t ht hW => ⟨⟨_, (), rfl, e0, x_ret hP9 ht⟩, hS.F ht⟩) hS.2.2 dX7_does_297
    · have hF := k_if_t hF hc
      refine lv_aload_n hx hb dX7_does_216 rfl (lv_at hl 1 rfl) ?_
      refine lv_aload_n hx hb dX7_does_217 rfl (lv_at hl 1 rfl) ?_
      refine va_get (D := D) (ci := 7) (v := .ref bT) (C := RX7) (T := TX7) (N := 11) hx hb hts mi_X7_does_X7 hown hK.1 hP 0 rfl rfl 9 (by decide) (hts _ mm_X7_does_3) (fun _ h9 => h9) rfl dX7_does_218 ?_
      refine lv_iconst (v := (0 : Int32)) hx hb dX7_does_221 (by decide) ?_
      obtain ⟨r222, hin, hn, hF⟩ := k_ld_ex hF
      refine x_iald hx hb hK hP 2 rfl hin hn dX7_does_222 ?_
      obtain ⟨r223, un_223, hC, hF⟩ := k_c2_ex hF
      refine x_VM (As := [.int r222]) (rest := []) ⟨hx, hb, hml, hown, hts⟩ (c_X7_melts l D cyI cyZ bM bN bQ bS bH bP bT H.size N r222 us up ue ut um un hC) (cwV 1 hts gX7_does_X7_melts rfl rfl rfl (by decide +kernel) ⟨Nat.le_of_ble_eq_true rfl, Nat.le_of_ble_eq_true rfl⟩) hK hP hD hS hA [0, 1] rfl rfl rfl 0 rfl rfl rfl rfl hl.1 rfl (Nat.le_of_ble_eq_true rfl) ⟨Nat.zero_le _, Nat.zero_le _⟩ dX7_does_223 (fun H locs hP hD hS => ?_)
      have hP : va_P D vwCl [(bM, .inr (7, [.ref bN, .ref bQ, .int us, .ref bS, .ref bH, .ref bP, .int up, .int ue, .int ut, .ref bT, .int um])), (bN, .inl (cyI, 225, .inl un_223)), (bT, .inl (cyI, 42, .inl uo))] H := hP
      have hD : va_D A [(bM, .inr (7, [.ref bN, .ref bQ, .int us, .ref bS, .ref bH, .ref bP, .int up, .int ue, .int ut, .ref bT, .int um])), (bN, .inl (cyI, 225, .inl un_223)), (bT, .inl (cyI, 42, .inl uo))] := hD
      refine lv_goto (tgt := 230) hx hb dX7_does_226 (by decide) ?_
      refine lv_istore_n (lv' := [(3, .int r223), (2, .int t0), (0, .ref bM)]) hx hb dX7_does_230 rfl hl (by decide) rfl (fun ls hl => ?_)
      refine lv_goto (tgt := 288) hx hb dX7_does_231 (by decide) ?_
      refine lv_iload_n hx hb dX7_does_288 rfl (lv_at hl 0 rfl) ?_
      refine lv_if_ge (tgt := 296) hx hb dX7_does_289 (by decide) (fun hc => ?_) (fun hc => ?_)
      · have hF := k_if_t hF hc
        refine lv_iload_n hx hb dX7_does_296 rfl (lv_at hl 1 rfl) ?_
        obtain ⟨e0, e1, e2⟩ := k_inj3 hF
        have hP9 : va_P D vwCl [(bM, .inr (7, [.ref bN, .ref bQ, .int us, .ref bS, .ref bH, .ref bP, .int up, .int ue', .int ut, .ref bT, .int um])), (bN, .inl (cyI, 225, .inl un')), (bT, .inl (cyI, 42, .inl uo))] H := by rw [← e1, ← e2]; exact hP
        exact W.iret hx hb hr (fun t ht hW => ⟨⟨_, (), rfl, e0, x_ret hP9 ht⟩, hS.F ht⟩) hS.2.2 dX7_does_297
      · have hF := k_if_f hF hc
        refine lv_iconst (v := (0 : Int32)) hx hb dX7_does_292 (by decide) ?_
        refine lv_goto (tgt := 297) hx hb dX7_does_293 (by decide) ?_
        obtain ⟨e0, e1, e2⟩ := k_inj3 hF
        have hP9 : va_P D vwCl [(bM, .inr (7, [.ref bN, .ref bQ, .int us, .ref bS, .ref bH, .ref bP, .int up, .int ue', .int ut, .ref bT, .int um])), (bN, .inl (cyI, 225, .inl un')), (bT, .inl (cyI, 42, .inl uo))] H := by rw [← e1, ← e2]; exact hP
        exact W.iret hx hb hr (fun t ht hW => ⟨⟨_, (), rfl, e0, x_ret hP9 ht⟩, hS.F ht⟩) hS.2.2 dX7_does_297
  refine (hG _ _ _).2 ?_
  unfold p_X7_does at hF
  refine lv_iconst (v := (0 : Int32)) hx hb dX7_does_0 (by decide) ?_
  refine lv_istore_n (lv' := [(3, .int (0 : Int32)), (0, .ref bM), (1, .int x1)]) hx hb dX7_does_1 rfl hl (by decide) rfl (fun ls hl => ?_)
  refine lv_iload_n hx hb dX7_does_2 rfl (lv_at hl 2 rfl) ?_
  by_cases h43 : x1 = (43 : Int32)
  · have hF := k_if_t hF h43
    refine lv_lookup (tgt := 36) (off := 33) hx hb dX7_does_3 (by decide) (by rw [h43]; decide) (by decide) ?_
    refine lv_aload_n hx hb dX7_does_36 rfl (lv_at hl 1 rfl) ?_
    obtain ⟨r37, hC, hF⟩ := k_c1_ex hF
    refine x_VR (As := []) (rest := []) ⟨hx, hb, hml, hown, hts⟩ (c_X7_rollerError l D cyI cyZ bM bN bQ bS bH bP bT N us up ue ut um un hC) (cwV 0 hts gX7_does_X7_rollerError rfl rfl rfl (by decide +kernel) ⟨Nat.le_of_ble_eq_true rfl, Nat.le_of_ble_eq_true rfl⟩) hK hP hS [0, 1] rfl 0 rfl rfl rfl rfl hl.1 rfl (Nat.le_of_ble_eq_true rfl) ⟨Nat.zero_le _, Nat.zero_le _⟩ dX7_does_37 (fun H locs hP hS => ?_)
    refine lv_istore_n (lv' := [(2, .int r37), (3, .int (0 : Int32)), (0, .ref bM), (1, .int x1)]) hx hb dX7_does_40 rfl hl (by decide) rfl (fun ls hl => ?_)
    refine lv_iload_n hx hb dX7_does_41 rfl (lv_at hl 0 rfl) ?_
    refine lv_if_ne (tgt := 98) hx hb dX7_does_42 (by decide) (fun hc => ?_) (fun hc => ?_)
    · have hF := k_if_f hF hc
      refine lv_iload_n hx hb dX7_does_98 rfl (lv_at hl 0 rfl) ?_
      obtain ⟨e0, e1, e2⟩ := k_inj3 hF
      have hP9 : va_P D vwCl [(bM, .inr (7, [.ref bN, .ref bQ, .int us, .ref bS, .ref bH, .ref bP, .int up, .int ue', .int ut, .ref bT, .int um])), (bN, .inl (cyI, 225, .inl un')), (bT, .inl (cyI, 42, .inl uo))] H := by rw [← e1, ← e2]; exact hP
      exact W.iret hx hb hr (fun t ht hW => ⟨⟨_, (), rfl, e0, x_ret hP9 ht⟩, hS.F ht⟩) hS.2.2 dX7_does_99
    · have hF := k_if_t hF hc
      refine lv_aload_n hx hb dX7_does_45 rfl (lv_at hl 2 rfl) ?_
      refine lv_aload_n hx hb dX7_does_46 rfl (lv_at hl 2 rfl) ?_
      refine va_get (D := D) (ci := 7) (v := .int um) (C := RX7) (T := TX7) (N := 11) hx hb hts mi_X7_does_X7 hown hK.1 hP 0 rfl rfl 10 (by decide) (hts _ mm_X7_does_1) (fun _ h9 => h9) rfl dX7_does_47 ?_
      obtain ⟨r50, un_50, hC, hF⟩ := k_c2_ex hF
      refine x_VM (As := [.int um]) (rest := []) ⟨hx, hb, hml, hown, hts⟩ (c_X7_comes l D cyI cyZ bM bN bQ bS bH bP bT H.size N um us up ue ut um un hC) (cwV 1 hts gX7_does_X7_comes rfl rfl rfl (by decide +kernel) ⟨Nat.le_of_ble_eq_true rfl, Nat.le_of_ble_eq_true rfl⟩) hK hP hD hS hA [0, 1] rfl rfl rfl 0 rfl rfl rfl rfl hl.1 rfl (Nat.le_of_ble_eq_true rfl) ⟨Nat.zero_le _, Nat.zero_le _⟩ dX7_does_50 (fun H locs hP hD hS => ?_)
      have hP : va_P D vwCl [(bM, .inr (7, [.ref bN, .ref bQ, .int us, .ref bS, .ref bH, .ref bP, .int up, .int ue, .int ut, .ref bT, .int um])), (bN, .inl (cyI, 225, .inl un_50)), (bT, .inl (cyI, 42, .inl uo))] H := hP
      have hD : va_D A [(bM, .inr (7, [.ref bN, .ref bQ, .int us, .ref bS, .ref bH, .ref bP, .int up, .int ue, .int ut, .ref bT, .int um])), (bN, .inl (cyI, 225, .inl un_50)), (bT, .inl (cyI, 42, .inl uo))] := hD
      refine lv_istore (lv' := [(4, .int r50), (2, .int r37), (3, .int (0 : Int32)), (0, .ref bM), (1, .int x1)]) hx hb dX7_does_53 hl (by decide) rfl (fun ls hl => ?_)
      refine lv_iconst (v := (0 : Int32)) hx hb dX7_does_55 (by decide) ?_
      refine lv_istore (lv' := [(5, .int (0 : Int32)), (4, .int r50), (2, .int r37), (3, .int (0 : Int32)), (0, .ref bM), (1, .int x1)]) hx hb dX7_does_56 hl (by decide) rfl (fun ls hl => ?_)
      exact (hG _ _ _).1 (blk_58 N r37 r50 (0 : Int32) ue un_50 hF _ _ _ hP hD hS (lv_sub hl [4, 2, 1, 0] rfl))
  · have hF := k_if_f hF h43
    by_cases h109 : x1 = (109 : Int32)
    · have hF := k_if_t hF h109
      refine lv_lookup (tgt := 193) (off := 190) hx hb dX7_does_3 (by decide) (by rw [h109]; decide) (by decide) ?_
      refine lv_aload_n hx hb dX7_does_193 rfl (lv_at hl 1 rfl) ?_
      refine lv_aload_n hx hb dX7_does_194 rfl (lv_at hl 1 rfl) ?_
      refine va_get (D := D) (ci := 7) (v := .ref bT) (C := RX7) (T := TX7) (N := 11) hx hb hts mi_X7_does_X7 hown hK.1 hP 0 rfl rfl 9 (by decide) (hts _ mm_X7_does_3) (fun _ h9 => h9) rfl dX7_does_195 ?_
      refine lv_iconst (v := (0 : Int32)) hx hb dX7_does_198 (by decide) ?_
      obtain ⟨r199, hin, hn, hF⟩ := k_ld_ex hF
      refine x_iald hx hb hK hP 2 rfl hin hn dX7_does_199 ?_
      obtain ⟨r200, hC, hF⟩ := k_c1_ex hF
      refine x_VR (As := [.int r199]) (rest := []) ⟨hx, hb, hml, hown, hts⟩ (c_X7_isRoller l D cyI cyZ bM bN bQ bS bH bP bT N r199 us up ue ut um un hC) (cwV 1 hts gX7_does_X7_isRoller rfl rfl rfl (by decide +kernel) ⟨Nat.le_of_ble_eq_true rfl, Nat.le_of_ble_eq_true rfl⟩) hK hP hS [0, 1] rfl 0 rfl rfl rfl rfl hl.1 rfl (Nat.le_of_ble_eq_true rfl) ⟨Nat.zero_le _, Nat.zero_le _⟩ dX7_does_200 (fun H locs hP hS => ?_)
      refine lv_if_eq (tgt := 210) hx hb dX7_does_203 (by decide) (fun hc => ?_) (fun hc => ?_)
      · have hF := k_if_t hF hc
        refine lv_iconst (v := (-1 : Int32)) hx hb dX7_does_210 (by decide) ?_
        exact (hG _ _ _).1 (blk_211 (-1 : Int32) ue un hF _ _ _ hP hD hS (lv_sub hl [1] rfl))
      · have hF := k_if_f hF hc
        refine lv_iconst (v := (0 : Int32)) hx hb dX7_does_206 (by decide) ?_
        refine lv_goto (tgt := 211) hx hb dX7_does_207 (by decide) ?_
        exact (hG _ _ _).1 (blk_211 (0 : Int32) ue un hF _ _ _ hP hD hS (lv_sub hl [1] rfl))
    · have hF := k_if_f hF h109
      by_cases h114 : x1 = (114 : Int32)
      · have hF := k_if_t hF h114
        refine lv_lookup (tgt := 100) (off := 97) hx hb dX7_does_3 (by decide) (by rw [h114]; decide) (by decide) ?_
        refine lv_aload_n hx hb dX7_does_100 rfl (lv_at hl 1 rfl) ?_
        refine lv_aload_n hx hb dX7_does_101 rfl (lv_at hl 1 rfl) ?_
        refine va_get (D := D) (ci := 7) (v := .ref bT) (C := RX7) (T := TX7) (N := 11) hx hb hts mi_X7_does_X7 hown hK.1 hP 0 rfl rfl 9 (by decide) (hts _ mm_X7_does_3) (fun _ h9 => h9) rfl dX7_does_102 ?_
        refine lv_iconst (v := (0 : Int32)) hx hb dX7_does_105 (by decide) ?_
        obtain ⟨r106, hin, hn, hF⟩ := k_ld_ex hF
        refine x_iald hx hb hK hP 2 rfl hin hn dX7_does_106 ?_
        refine lv_aload_n hx hb dX7_does_107 rfl (lv_at hl 1 rfl) ?_
        refine va_get (D := D) (ci := 7) (v := .ref bT) (C := RX7) (T := TX7) (N := 11) hx hb hts mi_X7_does_X7 hown hK.1 hP 0 rfl rfl 9 (by decide) (hts _ mm_X7_does_3) (fun _ h9 => h9) rfl dX7_does_108 ?_
        refine lv_iconst (v := (1 : Int32)) hx hb dX7_does_111 (by decide) ?_
        obtain ⟨r112, hin, hn, hF⟩ := k_ld_ex hF
        refine x_iald hx hb hK hP 2 rfl hin hn dX7_does_112 ?_
        refine lv_aload_n hx hb dX7_does_113 rfl (lv_at hl 1 rfl) ?_
        refine va_get (D := D) (ci := 7) (v := .ref bT) (C := RX7) (T := TX7) (N := 11) hx hb hts mi_X7_does_X7 hown hK.1 hP 0 rfl rfl 9 (by decide) (hts _ mm_X7_does_3) (fun _ h9 => h9) rfl dX7_does_114 ?_
        refine lv_iconst (v := (2 : Int32)) hx hb dX7_does_117 (by decide) ?_
        obtain ⟨r118, hin, hn, hF⟩ := k_ld_ex hF
        refine x_iald hx hb hK hP 2 rfl hin hn dX7_does_118 ?_
        refine lv_aload_n hx hb dX7_does_119 rfl (lv_at hl 1 rfl) ?_
        refine va_get (D := D) (ci := 7) (v := .ref bT) (C := RX7) (T := TX7) (N := 11) hx hb hts mi_X7_does_X7 hown hK.1 hP 0 rfl rfl 9 (by decide) (hts _ mm_X7_does_3) (fun _ h9 => h9) rfl dX7_does_120 ?_
        refine lv_iconst (v := (3 : Int32)) hx hb dX7_does_123 (by decide) ?_
        obtain ⟨r124, hin, hn, hF⟩ := k_ld_ex hF
        refine x_iald hx hb hK hP 2 rfl hin hn dX7_does_124 ?_
        refine lv_aload_n hx hb dX7_does_125 rfl (lv_at hl 1 rfl) ?_
        refine va_get (D := D) (ci := 7) (v := .ref bT) (C := RX7) (T := TX7) (N := 11) hx hb hts mi_X7_does_X7 hown hK.1 hP 0 rfl rfl 9 (by decide) (hts _ mm_X7_does_3) (fun _ h9 => h9) rfl dX7_does_126 ?_
        refine lv_iconst (v := (4 : Int32)) hx hb dX7_does_129 (by decide) ?_
        obtain ⟨r130, hin, hn, hF⟩ := k_ld_ex hF
        refine x_iald hx hb hK hP 2 rfl hin hn dX7_does_130 ?_
        refine lv_aload_n hx hb dX7_does_131 rfl (lv_at hl 1 rfl) ?_
        refine va_get (D := D) (ci := 7) (v := .ref bT) (C := RX7) (T := TX7) (N := 11) hx hb hts mi_X7_does_X7 hown hK.1 hP 0 rfl rfl 9 (by decide) (hts _ mm_X7_does_3) (fun _ h9 => h9) rfl dX7_does_132 ?_
        refine lv_iconst (v := (5 : Int32)) hx hb dX7_does_135 (by decide) ?_
        obtain ⟨r136, hin, hn, hF⟩ := k_ld_ex hF
        refine x_iald hx hb hK hP 2 rfl hin hn dX7_does_136 ?_
        obtain ⟨r137, hC, hF⟩ := k_c1_ex hF
        refine x_VR (As := [.int r106, .int r112, .int r118, .int r124, .int r130, .int r136]) (rest := []) ⟨hx, hb, hml, hown, hts⟩ (c_X7_runError l D cyI cyZ bM bN bQ bS bH bP bT N r106 r112 r118 r124 r130 r136 us up ue ut um un hC) (cwV 6 hts gX7_does_X7_runError rfl rfl rfl (by decide +kernel) ⟨Nat.le_of_ble_eq_true rfl, Nat.le_of_ble_eq_true rfl⟩) hK hP hS [0, 1] rfl 0 rfl rfl rfl rfl hl.1 rfl (Nat.le_of_ble_eq_true rfl) ⟨Nat.zero_le _, Nat.zero_le _⟩ dX7_does_137 (fun H locs hP hS => ?_)
        refine lv_istore_n (lv' := [(2, .int r137), (3, .int (0 : Int32)), (0, .ref bM), (1, .int x1)]) hx hb dX7_does_140 rfl hl (by decide) rfl (fun ls hl => ?_)
        refine lv_iload_n hx hb dX7_does_141 rfl (lv_at hl 0 rfl) ?_
        refine lv_if_ne (tgt := 188) hx hb dX7_does_142 (by decide) (fun hc => ?_) (fun hc => ?_)
        · have hF := k_if_f hF hc
          refine lv_iconst (v := (0 : Int32)) hx hb dX7_does_188 (by decide) ?_
          refine lv_istore_n (lv' := [(3, .int (0 : Int32)), (2, .int r137), (0, .ref bM), (1, .int x1)]) hx hb dX7_does_189 rfl hl (by decide) rfl (fun ls hl => ?_)
          refine lv_goto (tgt := 288) hx hb dX7_does_190 (by decide) ?_
          refine lv_iload_n hx hb dX7_does_288 rfl (lv_at hl 0 rfl) ?_
          refine lv_if_ge (tgt := 296) hx hb dX7_does_289 (by decide) (fun _ => ?_) (fun hc => absurd hc (by decide))
          refine lv_iload_n hx hb dX7_does_296 rfl (lv_at hl 1 rfl) ?_
          obtain ⟨e0, e1, e2⟩ := k_inj3 hF
          have hP9 : va_P D vwCl [(bM, .inr (7, [.ref bN, .ref bQ, .int us, .ref bS, .ref bH, .ref bP, .int up, .int ue', .int ut, .ref bT, .int um])), (bN, .inl (cyI, 225, .inl un')), (bT, .inl (cyI, 42, .inl uo))] H := by rw [← e1, ← e2]; exact hP
          exact W.iret hx hb hr (fun t ht hW => ⟨⟨_, (), rfl, e0, x_ret hP9 ht⟩, hS.F ht⟩) hS.2.2 dX7_does_297
        · have hF := k_if_t hF hc
          refine lv_aload_n hx hb dX7_does_145 rfl (lv_at hl 2 rfl) ?_
          refine lv_aload_n hx hb dX7_does_146 rfl (lv_at hl 2 rfl) ?_
          refine va_get (D := D) (ci := 7) (v := .ref bT) (C := RX7) (T := TX7) (N := 11) hx hb hts mi_X7_does_X7 hown hK.1 hP 0 rfl rfl 9 (by decide) (hts _ mm_X7_does_3) (fun _ h9 => h9) rfl dX7_does_147 ?_
          refine lv_iconst (v := (0 : Int32)) hx hb dX7_does_150 (by decide) ?_
          obtain ⟨r151, hin, hn, hF⟩ := k_ld_ex hF
          refine x_iald hx hb hK hP 2 rfl hin hn dX7_does_151 ?_
          refine lv_aload_n hx hb dX7_does_152 rfl (lv_at hl 2 rfl) ?_
          refine va_get (D := D) (ci := 7) (v := .ref bT) (C := RX7) (T := TX7) (N := 11) hx hb hts mi_X7_does_X7 hown hK.1 hP 0 rfl rfl 9 (by decide) (hts _ mm_X7_does_3) (fun _ h9 => h9) rfl dX7_does_153 ?_
          refine lv_iconst (v := (1 : Int32)) hx hb dX7_does_156 (by decide) ?_
          obtain ⟨r157, hin, hn, hF⟩ := k_ld_ex hF
          refine x_iald hx hb hK hP 2 rfl hin hn dX7_does_157 ?_
          refine lv_aload_n hx hb dX7_does_158 rfl (lv_at hl 2 rfl) ?_
          refine va_get (D := D) (ci := 7) (v := .ref bT) (C := RX7) (T := TX7) (N := 11) hx hb hts mi_X7_does_X7 hown hK.1 hP 0 rfl rfl 9 (by decide) (hts _ mm_X7_does_3) (fun _ h9 => h9) rfl dX7_does_159 ?_
          refine lv_iconst (v := (2 : Int32)) hx hb dX7_does_162 (by decide) ?_
          obtain ⟨r163, hin, hn, hF⟩ := k_ld_ex hF
          refine x_iald hx hb hK hP 2 rfl hin hn dX7_does_163 ?_
          refine lv_aload_n hx hb dX7_does_164 rfl (lv_at hl 2 rfl) ?_
          refine va_get (D := D) (ci := 7) (v := .ref bT) (C := RX7) (T := TX7) (N := 11) hx hb hts mi_X7_does_X7 hown hK.1 hP 0 rfl rfl 9 (by decide) (hts _ mm_X7_does_3) (fun _ h9 => h9) rfl dX7_does_165 ?_
          refine lv_iconst (v := (3 : Int32)) hx hb dX7_does_168 (by decide) ?_
          obtain ⟨r169, hin, hn, hF⟩ := k_ld_ex hF
          refine x_iald hx hb hK hP 2 rfl hin hn dX7_does_169 ?_
          refine lv_aload_n hx hb dX7_does_170 rfl (lv_at hl 2 rfl) ?_
          refine va_get (D := D) (ci := 7) (v := .ref bT) (C := RX7) (T := TX7) (N := 11) hx hb hts mi_X7_does_X7 hown hK.1 hP 0 rfl rfl 9 (by decide) (hts _ mm_X7_does_3) (fun _ h9 => h9) rfl dX7_does_171 ?_
          refine lv_iconst (v := (4 : Int32)) hx hb dX7_does_174 (by decide) ?_
          obtain ⟨r175, hin, hn, hF⟩ := k_ld_ex hF
          refine x_iald hx hb hK hP 2 rfl hin hn dX7_does_175 ?_
          refine lv_aload_n hx hb dX7_does_176 rfl (lv_at hl 2 rfl) ?_
          refine va_get (D := D) (ci := 7) (v := .ref bT) (C := RX7) (T := TX7) (N := 11) hx hb hts mi_X7_does_X7 hown hK.1 hP 0 rfl rfl 9 (by decide) (hts _ mm_X7_does_3) (fun _ h9 => h9) rfl dX7_does_177 ?_
          refine lv_iconst (v := (5 : Int32)) hx hb dX7_does_180 (by decide) ?_
          obtain ⟨r181, hin, hn, hF⟩ := k_ld_ex hF
          refine x_iald hx hb hK hP 2 rfl hin hn dX7_does_181 ?_
          obtain ⟨r182, ue_182, un_182, hC, hF⟩ := k_c3_ex hF
          refine x_VM (As := [.int r151, .int r157, .int r163, .int r169, .int r175, .int r181]) (rest := []) ⟨hx, hb, hml, hown, hts⟩ (c_X7_runs l D cyI cyZ bM bN bQ bS bH bP bT H.size N r151 r157 r163 r169 r175 r181 us up ue ut um un hC) (cwV 6 hts gX7_does_X7_runs rfl rfl rfl (by decide +kernel) ⟨Nat.le_of_ble_eq_true rfl, Nat.le_of_ble_eq_true rfl⟩) hK hP hD hS hA [0, 1] rfl rfl rfl 0 rfl rfl rfl rfl hl.1 rfl (Nat.le_of_ble_eq_true rfl) ⟨Nat.zero_le _, Nat.zero_le _⟩ dX7_does_182 (fun H locs hP hD hS => ?_)
          have hP : va_P D vwCl [(bM, .inr (7, [.ref bN, .ref bQ, .int us, .ref bS, .ref bH, .ref bP, .int up, .int ue_182, .int ut, .ref bT, .int um])), (bN, .inl (cyI, 225, .inl un_182)), (bT, .inl (cyI, 42, .inl uo))] H := hP
          have hD : va_D A [(bM, .inr (7, [.ref bN, .ref bQ, .int us, .ref bS, .ref bH, .ref bP, .int up, .int ue_182, .int ut, .ref bT, .int um])), (bN, .inl (cyI, 225, .inl un_182)), (bT, .inl (cyI, 42, .inl uo))] := hD
          refine lv_goto (tgt := 189) hx hb dX7_does_185 (by decide) ?_
          refine lv_istore_n (lv' := [(3, .int r182), (2, .int r137), (0, .ref bM), (1, .int x1)]) hx hb dX7_does_189 rfl hl (by decide) rfl (fun ls hl => ?_)
          refine lv_goto (tgt := 288) hx hb dX7_does_190 (by decide) ?_
          refine lv_iload_n hx hb dX7_does_288 rfl (lv_at hl 0 rfl) ?_
          refine lv_if_ge (tgt := 296) hx hb dX7_does_289 (by decide) (fun hc => ?_) (fun hc => ?_)
          · have hF := k_if_t hF hc
            refine lv_iload_n hx hb dX7_does_296 rfl (lv_at hl 1 rfl) ?_
            obtain ⟨e0, e1, e2⟩ := k_inj3 hF
            have hP9 : va_P D vwCl [(bM, .inr (7, [.ref bN, .ref bQ, .int us, .ref bS, .ref bH, .ref bP, .int up, .int ue', .int ut, .ref bT, .int um])), (bN, .inl (cyI, 225, .inl un')), (bT, .inl (cyI, 42, .inl uo))] H := by rw [← e1, ← e2]; exact hP
            exact W.iret hx hb hr (fun t ht hW => ⟨⟨_, (), rfl, e0, x_ret hP9 ht⟩, hS.F ht⟩) hS.2.2 dX7_does_297
          · have hF := k_if_f hF hc
            refine lv_iconst (v := (0 : Int32)) hx hb dX7_does_292 (by decide) ?_
            refine lv_goto (tgt := 297) hx hb dX7_does_293 (by decide) ?_
            obtain ⟨e0, e1, e2⟩ := k_inj3 hF
            have hP9 : va_P D vwCl [(bM, .inr (7, [.ref bN, .ref bQ, .int us, .ref bS, .ref bH, .ref bP, .int up, .int ue', .int ut, .ref bT, .int um])), (bN, .inl (cyI, 225, .inl un')), (bT, .inl (cyI, 42, .inl uo))] H := by rw [← e1, ← e2]; exact hP
            exact W.iret hx hb hr (fun t ht hW => ⟨⟨_, (), rfl, e0, x_ret hP9 ht⟩, hS.F ht⟩) hS.2.2 dX7_does_297
      · have hF := k_if_f hF h114
        refine lv_lookup (tgt := 234) (off := 231) hx hb dX7_does_3 (by decide) (by show Op.lookupswitch.offset [(43, 33), (109, 190), (114, 97)] 231 x1.toInt = 231; rw [lv_osw (k := (43 : Int32)) (a := 43) h43 (by decide), lv_osw (k := (109 : Int32)) (a := 109) h109 (by decide), lv_osw (k := (114 : Int32)) (a := 114) h114 (by decide)]; rfl) (by decide) ?_
        refine lv_aload_n hx hb dX7_does_234 rfl (lv_at hl 1 rfl) ?_
        refine lv_aload_n hx hb dX7_does_235 rfl (lv_at hl 1 rfl) ?_
        refine va_get (D := D) (ci := 7) (v := .ref bT) (C := RX7) (T := TX7) (N := 11) hx hb hts mi_X7_does_X7 hown hK.1 hP 0 rfl rfl 9 (by decide) (hts _ mm_X7_does_3) (fun _ h9 => h9) rfl dX7_does_236 ?_
        refine lv_iconst (v := (0 : Int32)) hx hb dX7_does_239 (by decide) ?_
        obtain ⟨r240, hin, hn, hF⟩ := k_ld_ex hF
        refine x_iald hx hb hK hP 2 rfl hin hn dX7_does_240 ?_
        refine lv_aload_n hx hb dX7_does_241 rfl (lv_at hl 1 rfl) ?_
        refine va_get (D := D) (ci := 7) (v := .ref bT) (C := RX7) (T := TX7) (N := 11) hx hb hts mi_X7_does_X7 hown hK.1 hP 0 rfl rfl 9 (by decide) (hts _ mm_X7_does_3) (fun _ h9 => h9) rfl dX7_does_242 ?_
        refine lv_iconst (v := (1 : Int32)) hx hb dX7_does_245 (by decide) ?_
        obtain ⟨r246, hin, hn, hF⟩ := k_ld_ex hF
        refine x_iald hx hb hK hP 2 rfl hin hn dX7_does_246 ?_
        refine lv_aload_n hx hb dX7_does_247 rfl (lv_at hl 1 rfl) ?_
        refine va_get (D := D) (ci := 7) (v := .ref bT) (C := RX7) (T := TX7) (N := 11) hx hb hts mi_X7_does_X7 hown hK.1 hP 0 rfl rfl 9 (by decide) (hts _ mm_X7_does_3) (fun _ h9 => h9) rfl dX7_does_248 ?_
        refine lv_iconst (v := (2 : Int32)) hx hb dX7_does_251 (by decide) ?_
        obtain ⟨r252, hin, hn, hF⟩ := k_ld_ex hF
        refine x_iald hx hb hK hP 2 rfl hin hn dX7_does_252 ?_
        obtain ⟨r253, hC, hF⟩ := k_c1_ex hF
        refine x_VR (As := [.int r240, .int r246, .int r252]) (rest := []) ⟨hx, hb, hml, hown, hts⟩ (c_X7_fileError l D cyI cyZ bM bN bQ bS bH bP bT N r240 r246 r252 us up ue ut um un hC) (cwV 3 hts gX7_does_X7_fileError rfl rfl rfl (by decide +kernel) ⟨Nat.le_of_ble_eq_true rfl, Nat.le_of_ble_eq_true rfl⟩) hK hP hS [0, 1] rfl 0 rfl rfl rfl rfl hl.1 rfl (Nat.le_of_ble_eq_true rfl) ⟨Nat.zero_le _, Nat.zero_le _⟩ dX7_does_253 (fun H locs hP hS => ?_)
        refine lv_istore_n (lv' := [(2, .int r253), (3, .int (0 : Int32)), (0, .ref bM), (1, .int x1)]) hx hb dX7_does_256 rfl hl (by decide) rfl (fun ls hl => ?_)
        refine lv_iload_n hx hb dX7_does_257 rfl (lv_at hl 0 rfl) ?_
        refine lv_if_ne (tgt := 286) hx hb dX7_does_258 (by decide) (fun hc => ?_) (fun hc => ?_)
        · have hF := k_if_f hF hc
          refine lv_iconst (v := (0 : Int32)) hx hb dX7_does_286 (by decide) ?_
          refine lv_istore_n (lv' := [(3, .int (0 : Int32)), (2, .int r253), (0, .ref bM), (1, .int x1)]) hx hb dX7_does_287 rfl hl (by decide) rfl (fun ls hl => ?_)
          refine lv_iload_n hx hb dX7_does_288 rfl (lv_at hl 0 rfl) ?_
          refine lv_if_ge (tgt := 296) hx hb dX7_does_289 (by decide) (fun _ => ?_) (fun hc => absurd hc (by decide))
          refine lv_iload_n hx hb dX7_does_296 rfl (lv_at hl 1 rfl) ?_
          obtain ⟨e0, e1, e2⟩ := k_inj3 hF
          have hP9 : va_P D vwCl [(bM, .inr (7, [.ref bN, .ref bQ, .int us, .ref bS, .ref bH, .ref bP, .int up, .int ue', .int ut, .ref bT, .int um])), (bN, .inl (cyI, 225, .inl un')), (bT, .inl (cyI, 42, .inl uo))] H := by rw [← e1, ← e2]; exact hP
          exact W.iret hx hb hr (fun t ht hW => ⟨⟨_, (), rfl, e0, x_ret hP9 ht⟩, hS.F ht⟩) hS.2.2 dX7_does_297
        · have hF := k_if_t hF hc
          refine lv_aload_n hx hb dX7_does_261 rfl (lv_at hl 2 rfl) ?_
          refine lv_aload_n hx hb dX7_does_262 rfl (lv_at hl 2 rfl) ?_
          refine va_get (D := D) (ci := 7) (v := .ref bT) (C := RX7) (T := TX7) (N := 11) hx hb hts mi_X7_does_X7 hown hK.1 hP 0 rfl rfl 9 (by decide) (hts _ mm_X7_does_3) (fun _ h9 => h9) rfl dX7_does_263 ?_
          refine lv_iconst (v := (0 : Int32)) hx hb dX7_does_266 (by decide) ?_
          obtain ⟨r267, hin, hn, hF⟩ := k_ld_ex hF
          refine x_iald hx hb hK hP 2 rfl hin hn dX7_does_267 ?_
          refine lv_aload_n hx hb dX7_does_268 rfl (lv_at hl 2 rfl) ?_
          refine va_get (D := D) (ci := 7) (v := .ref bT) (C := RX7) (T := TX7) (N := 11) hx hb hts mi_X7_does_X7 hown hK.1 hP 0 rfl rfl 9 (by decide) (hts _ mm_X7_does_3) (fun _ h9 => h9) rfl dX7_does_269 ?_
          refine lv_iconst (v := (1 : Int32)) hx hb dX7_does_272 (by decide) ?_
          obtain ⟨r273, hin, hn, hF⟩ := k_ld_ex hF
          refine x_iald hx hb hK hP 2 rfl hin hn dX7_does_273 ?_
          refine lv_aload_n hx hb dX7_does_274 rfl (lv_at hl 2 rfl) ?_
          refine va_get (D := D) (ci := 7) (v := .ref bT) (C := RX7) (T := TX7) (N := 11) hx hb hts mi_X7_does_X7 hown hK.1 hP 0 rfl rfl 9 (by decide) (hts _ mm_X7_does_3) (fun _ h9 => h9) rfl dX7_does_275 ?_
          refine lv_iconst (v := (2 : Int32)) hx hb dX7_does_278 (by decide) ?_
          obtain ⟨r279, hin, hn, hF⟩ := k_ld_ex hF
          refine x_iald hx hb hK hP 2 rfl hin hn dX7_does_279 ?_
          obtain ⟨r280, un_280, hC, hF⟩ := k_c2_ex hF
          refine x_VM (As := [.int r267, .int r273, .int r279]) (rest := []) ⟨hx, hb, hml, hown, hts⟩ (c_X7_files l D cyI cyZ bM bN bQ bS bH bP bT H.size N r267 r273 r279 us up ue ut um un hC) (cwV 3 hts gX7_does_X7_files rfl rfl rfl (by decide +kernel) ⟨Nat.le_of_ble_eq_true rfl, Nat.le_of_ble_eq_true rfl⟩) hK hP hD hS hA [0, 1] rfl rfl rfl 0 rfl rfl rfl rfl hl.1 rfl (Nat.le_of_ble_eq_true rfl) ⟨Nat.zero_le _, Nat.zero_le _⟩ dX7_does_280 (fun H locs hP hD hS => ?_)
          have hP : va_P D vwCl [(bM, .inr (7, [.ref bN, .ref bQ, .int us, .ref bS, .ref bH, .ref bP, .int up, .int ue, .int ut, .ref bT, .int um])), (bN, .inl (cyI, 225, .inl un_280)), (bT, .inl (cyI, 42, .inl uo))] H := hP
          have hD : va_D A [(bM, .inr (7, [.ref bN, .ref bQ, .int us, .ref bS, .ref bH, .ref bP, .int up, .int ue, .int ut, .ref bT, .int um])), (bN, .inl (cyI, 225, .inl un_280)), (bT, .inl (cyI, 42, .inl uo))] := hD
          refine lv_goto (tgt := 287) hx hb dX7_does_283 (by decide) ?_
          refine lv_istore_n (lv' := [(3, .int r280), (2, .int r253), (0, .ref bM), (1, .int x1)]) hx hb dX7_does_287 rfl hl (by decide) rfl (fun ls hl => ?_)
          refine lv_iload_n hx hb dX7_does_288 rfl (lv_at hl 0 rfl) ?_
          refine lv_if_ge (tgt := 296) hx hb dX7_does_289 (by decide) (fun hc => ?_) (fun hc => ?_)
          · have hF := k_if_t hF hc
            refine lv_iload_n hx hb dX7_does_296 rfl (lv_at hl 1 rfl) ?_
            obtain ⟨e0, e1, e2⟩ := k_inj3 hF
            have hP9 : va_P D vwCl [(bM, .inr (7, [.ref bN, .ref bQ, .int us, .ref bS, .ref bH, .ref bP, .int up, .int ue', .int ut, .ref bT, .int um])), (bN, .inl (cyI, 225, .inl un')), (bT, .inl (cyI, 42, .inl uo))] H := by rw [← e1, ← e2]; exact hP
            exact W.iret hx hb hr (fun t ht hW => ⟨⟨_, (), rfl, e0, x_ret hP9 ht⟩, hS.F ht⟩) hS.2.2 dX7_does_297
          · have hF := k_if_f hF hc
            refine lv_iconst (v := (0 : Int32)) hx hb dX7_does_292 (by decide) ?_
            refine lv_goto (tgt := 297) hx hb dX7_does_293 (by decide) ?_
            obtain ⟨e0, e1, e2⟩ := k_inj3 hF
            have hP9 : va_P D vwCl [(bM, .inr (7, [.ref bN, .ref bQ, .int us, .ref bS, .ref bH, .ref bP, .int up, .int ue', .int ut, .ref bT, .int um])), (bN, .inl (cyI, 225, .inl un')), (bT, .inl (cyI, 42, .inl uo))] H := by rw [← e1, ← e2]; exact hP
            exact W.iret hx hb hr (fun t ht hW => ⟨⟨_, (), rfl, e0, x_ret hP9 ht⟩, hS.F ht⟩) hS.2.2 dX7_does_297
theorem mm_X7_carryOut_1 : Cond.fieldLink RX7 131 "RollerMeshModel" "at" "I" ∈ wsX7_carryOut := List.mem_of_getElem? (i := 1) rfl
theorem mm_X7_carryOut_2 : Cond.fieldLink RX7 115 "RollerMeshModel" "padded" "I" ∈ wsX7_carryOut := List.mem_of_getElem? (i := 2) rfl
theorem mi_X7_carryOut_X7 : ∀ w ∈ wsX70, w ∈ wsX7_carryOut := fun _ h => List.mem_cons_of_mem _ (List.mem_append_right _ h)
set_option maxHeartbeats 4000000 in
set_option maxRecDepth 100000 in
theorem c_X7_carryOut (l : Launch) (D : va_G) (cyI cyZ : ClassId) (bM bN bQ bS bH bP bT : Nat) (sz : Nat) (N : Nat) (us : Int32) (up : Int32) (ue : Int32) (ut : Int32) (um : Int32) (un : (Nat → Int32)) (uq : (Nat → Int32)) (ux : (Nat → Int32)) (uo : (Nat → Int32)) {r0 : Int32} {us' : Int32} {up' : Int32} {ue' : Int32} {ut' : Int32} {um' : Int32} {un' : (Nat → Int32)} {uq' : (Nat → Int32)} {uo' : (Nat → Int32)} (hF : p_X7_carryOut N us up ue ut um un uq ux uo = some (r0, us', up', ue', ut', um', un', uq', uo')) : Met l yX7_carryOut wsX7_carryOut ({ frames := 7, cells := 0, slots := 0, locals := 150 }) (x_PM D cyI cyZ [.ref bM] [(bM, .inr (7, [.ref bN, .ref bQ, .int us, .ref bS, .ref bH, .ref bP, .int up, .int ue, .int ut, .ref bT, .int um])), (bN, .inl (cyI, 225, .inl un)), (bQ, .inl (cyI, 1350, .inl uq)), (bP, .inl (cyI, 80, .inl ux)), (bT, .inl (cyI, 42, .inl uo))] sz) (x_QM D r0 (va_A [(bM, .inr (7, [.ref bN, .ref bQ, .int us, .ref bS, .ref bH, .ref bP, .int up, .int ue, .int ut, .ref bT, .int um])), (bN, .inl (cyI, 225, .inl un)), (bQ, .inl (cyI, 1350, .inl uq)), (bP, .inl (cyI, 80, .inl ux)), (bT, .inl (cyI, 42, .inl uo))] sz) [(bM, .inr (7, [.ref bN, .ref bQ, .int us', .ref bS, .ref bH, .ref bP, .int up', .int ue', .int ut', .ref bT, .int um'])), (bN, .inl (cyI, 225, .inl un')), (bQ, .inl (cyI, 1350, .inl uq')), (bP, .inl (cyI, 80, .inl ux)), (bT, .inl (cyI, 42, .inl uo'))]) 0 0 (va_A [(bM, .inr (7, [.ref bN, .ref bQ, .int us, .ref bS, .ref bH, .ref bP, .int up, .int ue, .int ut, .ref bT, .int um])), (bN, .inl (cyI, 225, .inl un)), (bQ, .inl (cyI, 1350, .inl uq)), (bP, .inl (cyI, 80, .inl ux)), (bT, .inl (cyI, 42, .inl uo))] sz) := by
  refine Met.ofW (cc := cX7_carryOut) (maxL := 4) (ret := (some .int)) (by decide) rfl ?_
  intro p e s m args below meth c s₁ B hml hv
  obtain ⟨rfl, hsz, hP, hK, hD0⟩ := hv
  have hx := B.exec
  have hb := B.bytes
  have hr := B.returns
  have hts := atoms_spec (ws := wsX7_carryOut) B.pre
  have hown : s.vm.findClass RX7 = some m.cls := findClass_of_methodNamed B.named
  have hlocks := B.notSynchronized
  subst hsz
  have hD := hD0.self (sz := s.heap.size)
  generalize hAe : va_A [(bM, .inr (7, [.ref bN, .ref bQ, .int us, .ref bS, .ref bH, .ref bP, .int up, .int ue, .int ut, .ref bT, .int um])), (bN, .inl (cyI, 225, .inl un)), (bQ, .inl (cyI, 1350, .inl uq)), (bP, .inl (cyI, 80, .inl ux)), (bT, .inl (cyI, 42, .inl uo))] s.heap.size = A at hD ⊢
  have hA : ∀ q : Nat, s.heap.size ≤ q → A q := fun q h => by rw [← hAe]; exact Or.inr h
  have hS : va_S A s.heap s.heap [] := va_S.rf
  have hP : va_P D vwCl [(bM, .inr (7, [.ref bN, .ref bQ, .int us, .ref bS, .ref bH, .ref bP, .int up, .int ue, .int ut, .ref bT, .int um])), (bN, .inl (cyI, 225, .inl un)), (bQ, .inl (cyI, 1350, .inl uq)), (bP, .inl (cyI, 80, .inl ux)), (bT, .inl (cyI, 42, .inl uo))] s.heap := hP
  have hl := lv_entry ([.ref bM]) (n := 4) (Nat.le_of_ble_eq_true rfl)
  rw [lg_entry_eq]
  generalize (lg_sl ([.ref bM]) ++ List.replicate (4 - (lg_sl ([.ref bM])).length) Slot.unset).toArray = ls at hl ⊢
  have hl : lv_has ls 4 [(0, .ref bM)] := hl
  refine x_gen (fun G hG => ?_)
  have blk_25 : ∀ (n_25 : Nat) (x1 : Int32) (x2 : Int32) (us : Int32) (up : Int32) (ue : Int32) (ut : Int32) (um : Int32) (un : (Nat → Int32)) (uq : (Nat → Int32)) (uo : (Nat → Int32)), f_X7_carryOut_25 N n_25 x1 x2 us up ue ut um un uq ux uo = some (r0, us', up', ue', ut', um', un', uq', uo') → ∀ (H : Heap) (locs : List Loc) (ls : Array Slot), va_P D vwCl [(bM, .inr (7, [.ref bN, .ref bQ, .int us, .ref bS, .ref bH, .ref bP, .int up, .int ue, .int ut, .ref bT, .int um])), (bN, .inl (cyI, 225, .inl un)), (bQ, .inl (cyI, 1350, .inl uq)), (bP, .inl (cyI, 80, .inl ux)), (bT, .inl (cyI, 42, .inl uo))] H → va_D A [(bM, .inr (7, [.ref bN, .ref bQ, .int us, .ref bS, .ref bH, .ref bP, .int up, .int ue, .int ut, .ref bT, .int um])), (bN, .inl (cyI, 225, .inl un)), (bQ, .inl (cyI, 1350, .inl uq)), (bP, .inl (cyI, 80, .inl ux)), (bT, .inl (cyI, 42, .inl uo))] → va_S A s.heap H locs → lv_has ls 4 [(0, .ref bM), (1, .int x1), (2, .int x2)] → G H locs (F0 m 25 ls []) := by
    intro n_25
    induction n_25 with
    | zero => intro x1 x2 us up ue ut um un uq uo hF; exact (k_none hF).elim
    | succ n_25 ih_25 =>
      intro x1 x2 us up ue ut um un uq uo hF H locs ls hP hD hS hl
      replace hF : b_X7_carryOut_25 N (f_X7_carryOut_25 N n_25) x1 x2 us up ue ut um un uq ux uo = some (r0, us', up', ue', ut', um', un', uq', uo') := hF
      unfold b_X7_carryOut_25 at hF
      refine (hG _ _ _).2 ?_
      refine lv_iload_n hx hb dX7_carryOut_25 rfl (lv_at hl 2 rfl) ?_
      refine lv_if_eq (tgt := 92) hx hb dX7_carryOut_26 (by decide) (fun hc => ?_) (fun hc => ?_)
      · have hF := k_if_t hF hc
        refine lv_aload_n hx hb dX7_carryOut_92 rfl (lv_at hl 0 rfl) ?_
        refine lv_iconst (v := (0 : Int32)) hx hb dX7_carryOut_93 (by decide) ?_
        refine va_put (D := D) (ci := 7) (v := .int (0 : Int32)) (ty := .int) (C := RX7) (T := TX7) (N := 11) hx hb hts mi_X7_carryOut_X7 tyX7 tyX7_ok nmX7 hown hK.1 hP hD hS 0 rfl rfl 6 (by decide) (hts _ mm_X7_carryOut_2) (fun _ h9 => h9) rfl (by decide +kernel) rfl rfl (Nat.le_of_ble_eq_true rfl) dX7_carryOut_94 (fun H locs hP hD hS => ?_)
        have hP : va_P D vwCl [(bM, .inr (7, [.ref bN, .ref bQ, .int us, .ref bS, .ref bH, .ref bP, .int (0 : Int32), .int ue, .int ut, .ref bT, .int um])), (bN, .inl (cyI, 225, .inl un)), (bQ, .inl (cyI, 1350, .inl uq)), (bP, .inl (cyI, 80, .inl ux)), (bT, .inl (cyI, 42, .inl uo))] H := hP
        have hD : va_D A [(bM, .inr (7, [.ref bN, .ref bQ, .int us, .ref bS, .ref bH, .ref bP, .int (0 : Int32), .int ue, .int ut, .ref bT, .int um])), (bN, .inl (cyI, 225, .inl un)), (bQ, .inl (cyI, 1350, .inl uq)), (bP, .inl (cyI, 80, .inl ux)), (bT, .inl (cyI, 42, .inl uo))] := hD
        refine lv_iload_n hx hb dX7_carryOut_97 rfl (lv_at hl 1 rfl) ?_
        obtain ⟨e0, e1, e2, e3, e4, e5, e6, e7, e8⟩ := k_inj9 hF
        have hP9 : va_P D vwCl [(bM, .inr (7, [.ref bN, .ref bQ, .int us', .ref bS, .ref bH, .ref bP, .int up', .int ue', .int ut', .ref bT, .int um'])), (bN, .inl (cyI, 225, .inl un')), (bQ, .inl (cyI, 1350, .inl uq')), (bP, .inl (cyI, 80, .inl ux)), (bT, .inl (cyI, 42, .inl uo'))] H := by rw [← e1, ← e2, ← e3, ← e4, ← e5, ← e6, ← e7, ← e8]; exact hP
        exact W.iret hx hb hr (fun t ht hW => ⟨⟨_, (), rfl, e0, x_ret hP9 ht⟩, hS.F ht⟩) hS.2.2 dX7_carryOut_98
      · have hF := k_if_f hF hc
        refine lv_aload_n hx hb dX7_carryOut_29 rfl (lv_at hl 0 rfl) ?_
        refine va_get (D := D) (ci := 7) (v := .int ut) (C := RX7) (T := TX7) (N := 11) hx hb hts mi_X7_carryOut_X7 hown hK.1 hP 0 rfl rfl 8 (by decide) (hts _ mm_X7_carryOut_1) (fun _ h9 => h9) rfl dX7_carryOut_30 ?_
        refine lv_aload_n hx hb dX7_carryOut_33 rfl (lv_at hl 0 rfl) ?_
        refine va_get (D := D) (ci := 7) (v := .int up) (C := RX7) (T := TX7) (N := 11) hx hb hts mi_X7_carryOut_X7 hown hK.1 hP 0 rfl rfl 6 (by decide) (hts _ mm_X7_carryOut_2) (fun _ h9 => h9) rfl dX7_carryOut_34 ?_
        refine lv_icmp_ge (tgt := 92) hx hb dX7_carryOut_37 (by decide) (fun hc => ?_) (fun hc => ?_)
        · have hF := k_if_t hF hc
          refine lv_aload_n hx hb dX7_carryOut_92 rfl (lv_at hl 0 rfl) ?_
          refine lv_iconst (v := (0 : Int32)) hx hb dX7_carryOut_93 (by decide) ?_
          refine va_put (D := D) (ci := 7) (v := .int (0 : Int32)) (ty := .int) (C := RX7) (T := TX7) (N := 11) hx hb hts mi_X7_carryOut_X7 tyX7 tyX7_ok nmX7 hown hK.1 hP hD hS 0 rfl rfl 6 (by decide) (hts _ mm_X7_carryOut_2) (fun _ h9 => h9) rfl (by decide +kernel) rfl rfl (Nat.le_of_ble_eq_true rfl) dX7_carryOut_94 (fun H locs hP hD hS => ?_)
          have hP : va_P D vwCl [(bM, .inr (7, [.ref bN, .ref bQ, .int us, .ref bS, .ref bH, .ref bP, .int (0 : Int32), .int ue, .int ut, .ref bT, .int um])), (bN, .inl (cyI, 225, .inl un)), (bQ, .inl (cyI, 1350, .inl uq)), (bP, .inl (cyI, 80, .inl ux)), (bT, .inl (cyI, 42, .inl uo))] H := hP
          have hD : va_D A [(bM, .inr (7, [.ref bN, .ref bQ, .int us, .ref bS, .ref bH, .ref bP, .int (0 : Int32), .int ue, .int ut, .ref bT, .int um])), (bN, .inl (cyI, 225, .inl un)), (bQ, .inl (cyI, 1350, .inl uq)), (bP, .inl (cyI, 80, .inl ux)), (bT, .inl (cyI, 42, .inl uo))] := hD
          refine lv_iload_n hx hb dX7_carryOut_97 rfl (lv_at hl 1 rfl) ?_
          obtain ⟨e0, e1, e2, e3, e4, e5, e6, e7, e8⟩ := k_inj9 hF
          have hP9 : va_P D vwCl [(bM, .inr (7, [.ref bN, .ref bQ, .int us', .ref bS, .ref bH, .ref bP, .int up', .int ue', .int ut', .ref bT, .int um'])), (bN, .inl (cyI, 225, .inl un')), (bQ, .inl (cyI, 1350, .inl uq')), (bP, .inl (cyI, 80, .inl ux)), (bT, .inl (cyI, 42, .inl uo'))] H := by rw [← e1, ← e2, ← e3, ← e4, ← e5, ← e6, ← e7, ← e8]; exact hP
          exact W.iret hx hb hr (fun t ht hW => ⟨⟨_, (), rfl, e0, x_ret hP9 ht⟩, hS.F ht⟩) hS.2.2 dX7_carryOut_98
        · have hF := k_if_f hF hc
          refine lv_aload_n hx hb dX7_carryOut_40 rfl (lv_at hl 0 rfl) ?_
          obtain ⟨r41, ut_41, hC, hF⟩ := k_c2_ex hF
          refine x_VM (As := []) (rest := []) ⟨hx, hb, hml, hown, hts⟩ (c_X7_letter l D cyI cyZ bM bN bQ bS bH bP bT H.size N us up ue ut um ux hC) (cwV 0 hts gX7_carryOut_X7_letter rfl rfl rfl (by decide +kernel) ⟨Nat.le_of_ble_eq_true rfl, Nat.le_of_ble_eq_true rfl⟩) hK hP hD hS hA [0, 3] rfl rfl rfl 0 rfl rfl rfl rfl hl.1 rfl (Nat.le_of_ble_eq_true rfl) ⟨Nat.zero_le _, Nat.zero_le _⟩ dX7_carryOut_41 (fun H locs hP hD hS => ?_)
          have hP : va_P D vwCl [(bM, .inr (7, [.ref bN, .ref bQ, .int us, .ref bS, .ref bH, .ref bP, .int up, .int ue, .int ut_41, .ref bT, .int um])), (bN, .inl (cyI, 225, .inl un)), (bQ, .inl (cyI, 1350, .inl uq)), (bP, .inl (cyI, 80, .inl ux)), (bT, .inl (cyI, 42, .inl uo))] H := hP
          have hD : va_D A [(bM, .inr (7, [.ref bN, .ref bQ, .int us, .ref bS, .ref bH, .ref bP, .int up, .int ue, .int ut_41, .ref bT, .int um])), (bN, .inl (cyI, 225, .inl un)), (bQ, .inl (cyI, 1350, .inl uq)), (bP, .inl (cyI, 80, .inl ux)), (bT, .inl (cyI, 42, .inl uo))] := hD
          refine lv_istore_n (lv' := [(3, .int r41), (0, .ref bM), (1, .int x1), (2, .int x2)]) hx hb dX7_carryOut_44 rfl hl (by decide) rfl (fun ls hl => ?_)
          refine lv_aload_n hx hb dX7_carryOut_45 rfl (lv_at hl 1 rfl) ?_
          refine lv_iload_n hx hb dX7_carryOut_46 rfl (lv_at hl 0 rfl) ?_
          obtain ⟨r47, ut_47, um_47, uo_47, hC, hF⟩ := k_c4_ex hF
          refine x_VM (As := [.int r41]) (rest := []) ⟨hx, hb, hml, hown, hts⟩ (c_X7_isOrder l D cyI cyZ bM bN bQ bS bH bP bT H.size N r41 us up ue ut_41 um ux uo hC) (cwV 1 hts gX7_carryOut_X7_isOrder rfl rfl rfl (by decide +kernel) ⟨Nat.le_of_ble_eq_true rfl, Nat.le_of_ble_eq_true rfl⟩) hK hP hD hS hA [0, 3, 4] rfl rfl rfl 0 rfl rfl rfl rfl hl.1 rfl (Nat.le_of_ble_eq_true rfl) ⟨Nat.zero_le _, Nat.zero_le _⟩ dX7_carryOut_47 (fun H locs hP hD hS => ?_)
          have hP : va_P D vwCl [(bM, .inr (7, [.ref bN, .ref bQ, .int us, .ref bS, .ref bH, .ref bP, .int up, .int ue, .int ut_47, .ref bT, .int um_47])), (bN, .inl (cyI, 225, .inl un)), (bQ, .inl (cyI, 1350, .inl uq)), (bP, .inl (cyI, 80, .inl ux)), (bT, .inl (cyI, 42, .inl uo_47))] H := hP
          have hD : va_D A [(bM, .inr (7, [.ref bN, .ref bQ, .int us, .ref bS, .ref bH, .ref bP, .int up, .int ue, .int ut_47, .ref bT, .int um_47])), (bN, .inl (cyI, 225, .inl un)), (bQ, .inl (cyI, 1350, .inl uq)), (bP, .inl (cyI, 80, .inl ux)), (bT, .inl (cyI, 42, .inl uo_47))] := hD
          refine lv_if_eq (tgt := 65) hx hb dX7_carryOut_50 (by decide) (fun hc => ?_) (fun hc => ?_)
          · have hF := k_if_t hF hc
            refine lv_iconst (v := (0 : Int32)) hx hb dX7_carryOut_65 (by decide) ?_
            refine lv_istore_n (lv' := [(2, .int (0 : Int32)), (3, .int r41), (0, .ref bM), (1, .int x1)]) hx hb dX7_carryOut_66 rfl hl (by decide) rfl (fun ls hl => ?_)
            refine lv_iload_n hx hb dX7_carryOut_67 rfl (lv_at hl 3 rfl) ?_
            refine lv_iload_n hx hb dX7_carryOut_68 rfl (lv_at hl 0 rfl) ?_
            refine lv_if_eq (tgt := 76) hx hb dX7_carryOut_69 (by decide) (fun _ => ?_) (fun hc => absurd hc (by decide))
            refine lv_iconst (v := (0 : Int32)) hx hb dX7_carryOut_76 (by decide) ?_
            refine lv_iadd hx hb dX7_carryOut_77 ?_
            obtain ⟨x1_78, hn, hF⟩ := k_let_ex hF
            refine x_nm hn ?_
            refine lv_istore_n (lv' := [(1, .int x1_78), (2, .int (0 : Int32)), (3, .int r41), (0, .ref bM)]) hx hb dX7_carryOut_78 rfl hl (by decide) rfl (fun ls hl => ?_)
            refine lv_aload_n hx hb dX7_carryOut_79 rfl (lv_at hl 3 rfl) ?_
            refine lv_dup hx hb dX7_carryOut_80 rfl ?_
            refine va_get (D := D) (ci := 7) (v := .int ut_47) (C := RX7) (T := TX7) (N := 11) hx hb hts mi_X7_carryOut_X7 hown hK.1 hP 0 rfl rfl 8 (by decide) (hts _ mm_X7_carryOut_1) (fun _ h9 => h9) rfl dX7_carryOut_81 ?_
            refine lv_iconst (v := (1 : Int32)) hx hb dX7_carryOut_84 (by decide) ?_
            refine lv_iadd hx hb dX7_carryOut_85 ?_
            obtain ⟨ut_86, hn, hF⟩ := k_let_ex hF
            refine x_nm hn ?_
            refine va_put (D := D) (ci := 7) (v := .int ut_86) (ty := .int) (C := RX7) (T := TX7) (N := 11) hx hb hts mi_X7_carryOut_X7 tyX7 tyX7_ok nmX7 hown hK.1 hP hD hS 0 rfl rfl 8 (by decide) (hts _ mm_X7_carryOut_1) (fun _ h9 => h9) rfl (by decide +kernel) rfl rfl (Nat.le_of_ble_eq_true rfl) dX7_carryOut_86 (fun H locs hP hD hS => ?_)
            have hP : va_P D vwCl [(bM, .inr (7, [.ref bN, .ref bQ, .int us, .ref bS, .ref bH, .ref bP, .int up, .int ue, .int ut_86, .ref bT, .int um_47])), (bN, .inl (cyI, 225, .inl un)), (bQ, .inl (cyI, 1350, .inl uq)), (bP, .inl (cyI, 80, .inl ux)), (bT, .inl (cyI, 42, .inl uo_47))] H := hP
            have hD : va_D A [(bM, .inr (7, [.ref bN, .ref bQ, .int us, .ref bS, .ref bH, .ref bP, .int up, .int ue, .int ut_86, .ref bT, .int um_47])), (bN, .inl (cyI, 225, .inl un)), (bQ, .inl (cyI, 1350, .inl uq)), (bP, .inl (cyI, 80, .inl ux)), (bT, .inl (cyI, 42, .inl uo_47))] := hD
            refine lv_goto (tgt := 25) hx hb dX7_carryOut_89 (by decide) ?_
            exact (hG _ _ _).1 (ih_25 x1_78 (0 : Int32) us up ue ut_86 um_47 un uq uo_47 hF _ _ _ hP hD hS (lv_sub hl [3, 0, 1] rfl))
          · have hF := k_if_f hF hc
            refine lv_aload_n hx hb dX7_carryOut_53 rfl (lv_at hl 1 rfl) ?_
            refine lv_iload_n hx hb dX7_carryOut_54 rfl (lv_at hl 0 rfl) ?_
            obtain ⟨r55, ue_55, un_55, hC, hF⟩ := k_c3_ex hF
            refine x_VM (As := [.int r41]) (rest := []) ⟨hx, hb, hml, hown, hts⟩ (c_X7_does l D cyI cyZ bM bN bQ bS bH bP bT H.size N r41 us up ue ut_47 um_47 un uo_47 hC) (cwV 1 hts gX7_carryOut_X7_does rfl rfl rfl (by decide +kernel) ⟨Nat.le_of_ble_eq_true rfl, Nat.le_of_ble_eq_true rfl⟩) hK hP hD hS hA [0, 1, 4] rfl rfl rfl 0 rfl rfl rfl rfl hl.1 rfl (Nat.le_of_ble_eq_true rfl) ⟨Nat.zero_le _, Nat.zero_le _⟩ dX7_carryOut_55 (fun H locs hP hD hS => ?_)
            have hP : va_P D vwCl [(bM, .inr (7, [.ref bN, .ref bQ, .int us, .ref bS, .ref bH, .ref bP, .int up, .int ue_55, .int ut_47, .ref bT, .int um_47])), (bN, .inl (cyI, 225, .inl un_55)), (bQ, .inl (cyI, 1350, .inl uq)), (bP, .inl (cyI, 80, .inl ux)), (bT, .inl (cyI, 42, .inl uo_47))] H := hP
            have hD : va_D A [(bM, .inr (7, [.ref bN, .ref bQ, .int us, .ref bS, .ref bH, .ref bP, .int up, .int ue_55, .int ut_47, .ref bT, .int um_47])), (bN, .inl (cyI, 225, .inl un_55)), (bQ, .inl (cyI, 1350, .inl uq)), (bP, .inl (cyI, 80, .inl ux)), (bT, .inl (cyI, 42, .inl uo_47))] := hD
            refine lv_if_ne (tgt := 65) hx hb dX7_carryOut_58 (by decide) (fun hc => ?_) (fun hc => ?_)
            · have hF := k_if_f hF hc
              refine lv_iconst (v := (0 : Int32)) hx hb dX7_carryOut_65 (by decide) ?_
              refine lv_istore_n (lv' := [(2, .int (0 : Int32)), (3, .int r41), (0, .ref bM), (1, .int x1)]) hx hb dX7_carryOut_66 rfl hl (by decide) rfl (fun ls hl => ?_)
              refine lv_iload_n hx hb dX7_carryOut_67 rfl (lv_at hl 3 rfl) ?_
              refine lv_iload_n hx hb dX7_carryOut_68 rfl (lv_at hl 0 rfl) ?_
              refine lv_if_eq (tgt := 76) hx hb dX7_carryOut_69 (by decide) (fun _ => ?_) (fun hc => absurd hc (by decide))
              refine lv_iconst (v := (0 : Int32)) hx hb dX7_carryOut_76 (by decide) ?_
              refine lv_iadd hx hb dX7_carryOut_77 ?_
              obtain ⟨x1_78, hn, hF⟩ := k_let_ex hF
              refine x_nm hn ?_
              refine lv_istore_n (lv' := [(1, .int x1_78), (2, .int (0 : Int32)), (3, .int r41), (0, .ref bM)]) hx hb dX7_carryOut_78 rfl hl (by decide) rfl (fun ls hl => ?_)
              refine lv_aload_n hx hb dX7_carryOut_79 rfl (lv_at hl 3 rfl) ?_
              refine lv_dup hx hb dX7_carryOut_80 rfl ?_
              refine va_get (D := D) (ci := 7) (v := .int ut_47) (C := RX7) (T := TX7) (N := 11) hx hb hts mi_X7_carryOut_X7 hown hK.1 hP 0 rfl rfl 8 (by decide) (hts _ mm_X7_carryOut_1) (fun _ h9 => h9) rfl dX7_carryOut_81 ?_
              refine lv_iconst (v := (1 : Int32)) hx hb dX7_carryOut_84 (by decide) ?_
              refine lv_iadd hx hb dX7_carryOut_85 ?_
              obtain ⟨ut_86, hn, hF⟩ := k_let_ex hF
              refine x_nm hn ?_
              refine va_put (D := D) (ci := 7) (v := .int ut_86) (ty := .int) (C := RX7) (T := TX7) (N := 11) hx hb hts mi_X7_carryOut_X7 tyX7 tyX7_ok nmX7 hown hK.1 hP hD hS 0 rfl rfl 8 (by decide) (hts _ mm_X7_carryOut_1) (fun _ h9 => h9) rfl (by decide +kernel) rfl rfl (Nat.le_of_ble_eq_true rfl) dX7_carryOut_86 (fun H locs hP hD hS => ?_)
              have hP : va_P D vwCl [(bM, .inr (7, [.ref bN, .ref bQ, .int us, .ref bS, .ref bH, .ref bP, .int up, .int ue_55, .int ut_86, .ref bT, .int um_47])), (bN, .inl (cyI, 225, .inl un_55)), (bQ, .inl (cyI, 1350, .inl uq)), (bP, .inl (cyI, 80, .inl ux)), (bT, .inl (cyI, 42, .inl uo_47))] H := hP
              have hD : va_D A [(bM, .inr (7, [.ref bN, .ref bQ, .int us, .ref bS, .ref bH, .ref bP, .int up, .int ue_55, .int ut_86, .ref bT, .int um_47])), (bN, .inl (cyI, 225, .inl un_55)), (bQ, .inl (cyI, 1350, .inl uq)), (bP, .inl (cyI, 80, .inl ux)), (bT, .inl (cyI, 42, .inl uo_47))] := hD
              refine lv_goto (tgt := 25) hx hb dX7_carryOut_89 (by decide) ?_
              exact (hG _ _ _).1 (ih_25 x1_78 (0 : Int32) us up ue_55 ut_86 um_47 un_55 uq uo_47 hF _ _ _ hP hD hS (lv_sub hl [3, 0, 1] rfl))
            · have hF := k_if_t hF hc
              refine lv_iconst (v := (1 : Int32)) hx hb dX7_carryOut_61 (by decide) ?_
              refine lv_goto (tgt := 66) hx hb dX7_carryOut_62 (by decide) ?_
              refine lv_istore_n (lv' := [(2, .int (1 : Int32)), (3, .int r41), (0, .ref bM), (1, .int x1)]) hx hb dX7_carryOut_66 rfl hl (by decide) rfl (fun ls hl => ?_)
              refine lv_iload_n hx hb dX7_carryOut_67 rfl (lv_at hl 3 rfl) ?_
              refine lv_iload_n hx hb dX7_carryOut_68 rfl (lv_at hl 0 rfl) ?_
              refine lv_if_eq (tgt := 76) hx hb dX7_carryOut_69 (by decide) (fun hc => absurd hc (by decide)) (fun _ => ?_)
              refine lv_iconst (v := (1 : Int32)) hx hb dX7_carryOut_72 (by decide) ?_
              refine lv_goto (tgt := 77) hx hb dX7_carryOut_73 (by decide) ?_
              refine lv_iadd hx hb dX7_carryOut_77 ?_
              obtain ⟨x1_78, hn, hF⟩ := k_let_ex hF
              refine x_nm hn ?_
              refine lv_istore_n (lv' := [(1, .int x1_78), (2, .int (1 : Int32)), (3, .int r41), (0, .ref bM)]) hx hb dX7_carryOut_78 rfl hl (by decide) rfl (fun ls hl => ?_)
              refine lv_aload_n hx hb dX7_carryOut_79 rfl (lv_at hl 3 rfl) ?_
              refine lv_dup hx hb dX7_carryOut_80 rfl ?_
              refine va_get (D := D) (ci := 7) (v := .int ut_47) (C := RX7) (T := TX7) (N := 11) hx hb hts mi_X7_carryOut_X7 hown hK.1 hP 0 rfl rfl 8 (by decide) (hts _ mm_X7_carryOut_1) (fun _ h9 => h9) rfl dX7_carryOut_81 ?_
              refine lv_iconst (v := (1 : Int32)) hx hb dX7_carryOut_84 (by decide) ?_
              refine lv_iadd hx hb dX7_carryOut_85 ?_
              obtain ⟨ut_86, hn, hF⟩ := k_let_ex hF
              refine x_nm hn ?_
              refine va_put (D := D) (ci := 7) (v := .int ut_86) (ty := .int) (C := RX7) (T := TX7) (N := 11) hx hb hts mi_X7_carryOut_X7 tyX7 tyX7_ok nmX7 hown hK.1 hP hD hS 0 rfl rfl 8 (by decide) (hts _ mm_X7_carryOut_1) (fun _ h9 => h9) rfl (by decide +kernel) rfl rfl (Nat.le_of_ble_eq_true rfl) dX7_carryOut_86 (fun H locs hP hD hS => ?_)
              have hP : va_P D vwCl [(bM, .inr (7, [.ref bN, .ref bQ, .int us, .ref bS, .ref bH, .ref bP, .int up, .int ue_55, .int ut_86, .ref bT, .int um_47])), (bN, .inl (cyI, 225, .inl un_55)), (bQ, .inl (cyI, 1350, .inl uq)), (bP, .inl (cyI, 80, .inl ux)), (bT, .inl (cyI, 42, .inl uo_47))] H := hP
              have hD : va_D A [(bM, .inr (7, [.ref bN, .ref bQ, .int us, .ref bS, .ref bH, .ref bP, .int up, .int ue_55, .int ut_86, .ref bT, .int um_47])), (bN, .inl (cyI, 225, .inl un_55)), (bQ, .inl (cyI, 1350, .inl uq)), (bP, .inl (cyI, 80, .inl ux)), (bT, .inl (cyI, 42, .inl uo_47))] := hD
              refine lv_goto (tgt := 25) hx hb dX7_carryOut_89 (by decide) ?_
              exact (hG _ _ _).1 (ih_25 x1_78 (1 : Int32) us up ue_55 ut_86 um_47 un_55 uq uo_47 hF _ _ _ hP hD hS (lv_sub hl [3, 0, 1] rfl))
  refine (hG _ _ _).2 ?_
  unfold p_X7_carryOut at hF
  refine lv_aload_n hx hb dX7_carryOut_0 rfl (lv_at hl 0 rfl) ?_
  obtain ⟨r1, ut_1, um_1, uo_1, hC, hF⟩ := k_c4_ex hF
  refine x_VM (As := []) (rest := []) ⟨hx, hb, hml, hown, hts⟩ (c_X7_fault l D cyI cyZ bM bN bQ bS bH bP bT s.heap.size N us up ue ut um ux uo hC) (cwV 0 hts gX7_carryOut_X7_fault rfl rfl rfl (by decide +kernel) ⟨Nat.le_of_ble_eq_true rfl, Nat.le_of_ble_eq_true rfl⟩) hK hP hD hS hA [0, 3, 4] rfl rfl rfl 0 rfl rfl rfl rfl hl.1 rfl (Nat.le_of_ble_eq_true rfl) ⟨Nat.zero_le _, Nat.zero_le _⟩ dX7_carryOut_1 (fun H locs hP hD hS => ?_)
  have hP : va_P D vwCl [(bM, .inr (7, [.ref bN, .ref bQ, .int us, .ref bS, .ref bH, .ref bP, .int up, .int ue, .int ut_1, .ref bT, .int um_1])), (bN, .inl (cyI, 225, .inl un)), (bQ, .inl (cyI, 1350, .inl uq)), (bP, .inl (cyI, 80, .inl ux)), (bT, .inl (cyI, 42, .inl uo_1))] H := hP
  have hD : va_D A [(bM, .inr (7, [.ref bN, .ref bQ, .int us, .ref bS, .ref bH, .ref bP, .int up, .int ue, .int ut_1, .ref bT, .int um_1])), (bN, .inl (cyI, 225, .inl un)), (bQ, .inl (cyI, 1350, .inl uq)), (bP, .inl (cyI, 80, .inl ux)), (bT, .inl (cyI, 42, .inl uo_1))] := hD
  refine lv_bipush (v := (-6 : Int32)) hx hb dX7_carryOut_4 (by decide) ?_
  refine lv_icmp_eq (tgt := 12) hx hb dX7_carryOut_6 (by decide) (fun hc => ?_) (fun hc => ?_)
  · have hF := k_if_t hF hc
    refine lv_aload_n hx hb dX7_carryOut_12 rfl (lv_at hl 0 rfl) ?_
    obtain ⟨us_13, uq_13, hC, hF⟩ := k_c2_ex hF
    refine x_VV (As := []) (rest := []) ⟨hx, hb, hml, hown, hts⟩ (c_X7_records l D cyI cyZ bM bN bQ bS bH bP bT H.size N us up ue ut_1 um_1 un uq hC) (cwV 0 hts gX7_carryOut_X7_records rfl rfl rfl (by decide +kernel) ⟨Nat.le_of_ble_eq_true rfl, Nat.le_of_ble_eq_true rfl⟩) hK hP hD hS hA [0, 1, 2] rfl rfl rfl 0 rfl rfl rfl rfl hl.1 rfl (Nat.le_of_ble_eq_true rfl) ⟨Nat.zero_le _, Nat.zero_le _⟩ dX7_carryOut_13 (fun H locs hP hD hS => ?_)
    have hP : va_P D vwCl [(bM, .inr (7, [.ref bN, .ref bQ, .int us_13, .ref bS, .ref bH, .ref bP, .int up, .int ue, .int ut_1, .ref bT, .int um_1])), (bN, .inl (cyI, 225, .inl un)), (bQ, .inl (cyI, 1350, .inl uq_13)), (bP, .inl (cyI, 80, .inl ux)), (bT, .inl (cyI, 42, .inl uo_1))] H := hP
    have hD : va_D A [(bM, .inr (7, [.ref bN, .ref bQ, .int us_13, .ref bS, .ref bH, .ref bP, .int up, .int ue, .int ut_1, .ref bT, .int um_1])), (bN, .inl (cyI, 225, .inl un)), (bQ, .inl (cyI, 1350, .inl uq_13)), (bP, .inl (cyI, 80, .inl ux)), (bT, .inl (cyI, 42, .inl uo_1))] := hD
    refine lv_aload_n hx hb dX7_carryOut_16 rfl (lv_at hl 0 rfl) ?_
    refine lv_iconst (v := (0 : Int32)) hx hb dX7_carryOut_17 (by decide) ?_
    refine va_put (D := D) (ci := 7) (v := .int (0 : Int32)) (ty := .int) (C := RX7) (T := TX7) (N := 11) hx hb hts mi_X7_carryOut_X7 tyX7 tyX7_ok nmX7 hown hK.1 hP hD hS 0 rfl rfl 8 (by decide) (hts _ mm_X7_carryOut_1) (fun _ h9 => h9) rfl (by decide +kernel) rfl rfl (Nat.le_of_ble_eq_true rfl) dX7_carryOut_18 (fun H locs hP hD hS => ?_)
    have hP : va_P D vwCl [(bM, .inr (7, [.ref bN, .ref bQ, .int us_13, .ref bS, .ref bH, .ref bP, .int up, .int ue, .int (0 : Int32), .ref bT, .int um_1])), (bN, .inl (cyI, 225, .inl un)), (bQ, .inl (cyI, 1350, .inl uq_13)), (bP, .inl (cyI, 80, .inl ux)), (bT, .inl (cyI, 42, .inl uo_1))] H := hP
    have hD : va_D A [(bM, .inr (7, [.ref bN, .ref bQ, .int us_13, .ref bS, .ref bH, .ref bP, .int up, .int ue, .int (0 : Int32), .ref bT, .int um_1])), (bN, .inl (cyI, 225, .inl un)), (bQ, .inl (cyI, 1350, .inl uq_13)), (bP, .inl (cyI, 80, .inl ux)), (bT, .inl (cyI, 42, .inl uo_1))] := hD
    refine lv_iconst (v := (0 : Int32)) hx hb dX7_carryOut_21 (by decide) ?_
    refine lv_istore_n (lv' := [(1, .int (0 : Int32)), (0, .ref bM)]) hx hb dX7_carryOut_22 rfl hl (by decide) rfl (fun ls hl => ?_)
    refine lv_iconst (v := (1 : Int32)) hx hb dX7_carryOut_23 (by decide) ?_
    refine lv_istore_n (lv' := [(2, .int (1 : Int32)), (1, .int (0 : Int32)), (0, .ref bM)]) hx hb dX7_carryOut_24 rfl hl (by decide) rfl (fun ls hl => ?_)
    exact (hG _ _ _).1 (blk_25 N (0 : Int32) (1 : Int32) us_13 up ue (0 : Int32) um_1 un uq_13 uo_1 hF _ _ _ hP hD hS (lv_sub hl [2, 1, 0] rfl))
  · have hF := k_if_f hF hc
    refine lv_bipush (v := (-3 : Int32)) hx hb dX7_carryOut_9 (by decide) ?_
    obtain ⟨e0, e1, e2, e3, e4, e5, e6, e7, e8⟩ := k_inj9 hF
    have hP9 : va_P D vwCl [(bM, .inr (7, [.ref bN, .ref bQ, .int us', .ref bS, .ref bH, .ref bP, .int up', .int ue', .int ut', .ref bT, .int um'])), (bN, .inl (cyI, 225, .inl un')), (bQ, .inl (cyI, 1350, .inl uq')), (bP, .inl (cyI, 80, .inl ux)), (bT, .inl (cyI, 42, .inl uo'))] H := by rw [← e1, ← e2, ← e3, ← e4, ← e5, ← e6, ← e7, ← e8]; exact hP
    exact W.iret hx hb hr (fun t ht hW => ⟨⟨_, (), rfl, e0, x_ret hP9 ht⟩, hS.F ht⟩) hS.2.2 dX7_carryOut_11
set_option maxHeartbeats 4000000 in
set_option maxRecDepth 100000 in
theorem c_X7_lays_zQ_zN (l : Launch) (D : va_G) (cyI cyZ : ClassId) (bN bQ : Nat) (sz : Nat) (N : Nat) (x1 : Int32) (x3 : Int32) (un : (Nat → Int32)) (uq : (Nat → Int32)) {un' : (Nat → Int32)} (hF : p_X7_lays_zQ_zN N x1 x3 un uq = some (un')) : Met l yX7_lays wsX7_lays ({ frames := 0, cells := 0, slots := 0, locals := 0 }) (x_PM D cyI cyZ [.ref bQ, .int x1, .ref bN, .int x3] [(bN, .inl (cyI, 225, .inl un)), (bQ, .inl (cyI, 1350, .inl uq))] sz) (x_QV D (va_A [(bN, .inl (cyI, 225, .inl un)), (bQ, .inl (cyI, 1350, .inl uq))] sz) [(bN, .inl (cyI, 225, .inl un')), (bQ, .inl (cyI, 1350, .inl uq))]) 0 0 (va_A [(bN, .inl (cyI, 225, .inl un)), (bQ, .inl (cyI, 1350, .inl uq))] sz) := by
  refine Met.ofW (cc := cX7_lays) (maxL := 5) (ret := none) (by decide) rfl ?_
  intro p e s m args below meth c s₁ B hml hv
  obtain ⟨rfl, hsz, hP, hK, hD0⟩ := hv
  have hx := B.exec
  have hb := B.bytes
  have hr := B.returns
  have hts := atoms_spec (ws := wsX7_lays) B.pre
  have hown : s.vm.findClass RX7 = some m.cls := findClass_of_methodNamed B.named
  have hlocks := B.notSynchronized
  subst hsz
  have hD := hD0.self (sz := s.heap.size)
  generalize hAe : va_A [(bN, .inl (cyI, 225, .inl un)), (bQ, .inl (cyI, 1350, .inl uq))] s.heap.size = A at hD ⊢
  have hA : ∀ q : Nat, s.heap.size ≤ q → A q := fun q h => by rw [← hAe]; exact Or.inr h
  have hS : va_S A s.heap s.heap [] := va_S.rf
  have hP : va_P D vwCl [(bN, .inl (cyI, 225, .inl un)), (bQ, .inl (cyI, 1350, .inl uq))] s.heap := hP
  have hl := lv_entry ([.ref bQ, .int x1, .ref bN, .int x3]) (n := 5) (Nat.le_of_ble_eq_true rfl)
  rw [lg_entry_eq]
  generalize (lg_sl ([.ref bQ, .int x1, .ref bN, .int x3]) ++ List.replicate (5 - (lg_sl ([.ref bQ, .int x1, .ref bN, .int x3])).length) Slot.unset).toArray = ls at hl ⊢
  have hl : lv_has ls 5 [(0, .ref bQ), (1, .int x1), (2, .ref bN), (3, .int x3)] := hl
  refine x_gen (fun G hG => ?_)
  have blk_3 : ∀ (n_3 : Nat) (x1 : Int32) (x3 : Int32) (x4 : Int32) (un : (Nat → Int32)), f_X7_lays_zQ_zN_3 N n_3 x1 x3 x4 un uq = some (un') → ∀ (H : Heap) (locs : List Loc) (ls : Array Slot), va_P D vwCl [(bN, .inl (cyI, 225, .inl un)), (bQ, .inl (cyI, 1350, .inl uq))] H → va_D A [(bN, .inl (cyI, 225, .inl un)), (bQ, .inl (cyI, 1350, .inl uq))] → va_S A s.heap H locs → lv_has ls 5 [(0, .ref bQ), (1, .int x1), (2, .ref bN), (3, .int x3), (4, .int x4)] → G H locs (F0 m 3 ls []) := by
    intro n_3
    induction n_3 with
    | zero => intro x1 x3 x4 un hF; exact (k_none hF).elim
    | succ n_3 ih_3 =>
      intro x1 x3 x4 un hF H locs ls hP hD hS hl
      replace hF : b_X7_lays_zQ_zN_3 N (f_X7_lays_zQ_zN_3 N n_3) x1 x3 x4 un uq = some (un') := hF
      unfold b_X7_lays_zQ_zN_3 at hF
      refine (hG _ _ _).2 ?_
      refine lv_iload hx hb dX7_lays_3 (lv_at hl 4 rfl) ?_
      refine lv_sipush (v := (225 : Int32)) hx hb dX7_lays_5 (by decide) ?_
      refine lv_icmp_ge (tgt := 29) hx hb dX7_lays_8 (by decide) (fun hc => ?_) (fun hc => ?_)
      · have hF := k_if_t hF hc
        have e0 := k_inj1 hF
        have hP9 : va_P D vwCl [(bN, .inl (cyI, 225, .inl un')), (bQ, .inl (cyI, 1350, .inl uq))] H := by rw [← e0]; exact hP
        exact W.vret hx hb hr (fun t ht hW => ⟨⟨(), rfl, trivial, x_ret hP9 ht⟩, hS.F ht⟩) hS.2.2 dX7_lays_29
      · have hF := k_if_f hF hc
        refine lv_aload_n hx hb dX7_lays_11 rfl (lv_at hl 2 rfl) ?_
        refine lv_iload_n hx hb dX7_lays_12 rfl (lv_at hl 3 rfl) ?_
        refine lv_iload hx hb dX7_lays_13 (lv_at hl 4 rfl) ?_
        refine lv_iadd hx hb dX7_lays_15 ?_
        refine lv_aload_n hx hb dX7_lays_16 rfl (lv_at hl 0 rfl) ?_
        refine lv_iload_n hx hb dX7_lays_17 rfl (lv_at hl 1 rfl) ?_
        refine lv_iload hx hb dX7_lays_18 (lv_at hl 4 rfl) ?_
        refine lv_iadd hx hb dX7_lays_20 ?_
        obtain ⟨r21, hin, hn, hF⟩ := k_ld_ex hF
        refine x_iald hx hb hK hP 1 rfl hin hn dX7_lays_21 ?_
        obtain ⟨un_22, hin, hn, hF⟩ := k_st_ex hF
        refine x_iast hx hb hK hP hD hS 0 rfl hin hn dX7_lays_22 (fun H locs hP hD hS => ?_)
        have hP : va_P D vwCl [(bN, .inl (cyI, 225, .inl un_22)), (bQ, .inl (cyI, 1350, .inl uq))] H := hP
        have hD : va_D A [(bN, .inl (cyI, 225, .inl un_22)), (bQ, .inl (cyI, 1350, .inl uq))] := hD
        obtain ⟨x4_23, hn, hF⟩ := k_let_ex hF
        refine lv_iinc (v := x4_23) (lv' := [(4, .int x4_23), (0, .ref bQ), (1, .int x1), (2, .ref bN), (3, .int x3)]) hx hb dX7_lays_23 hl (k := 4) rfl (by rw [hn]; rfl) (by decide) rfl (fun ls hl => ?_)
        refine lv_goto (tgt := 3) hx hb dX7_lays_26 (by decide) ?_
        exact (hG _ _ _).1 (ih_3 x1 x3 x4_23 un_22 hF _ _ _ hP hD hS (lv_sub hl [1, 2, 3, 4, 0] rfl))
  refine (hG _ _ _).2 ?_
  unfold p_X7_lays_zQ_zN at hF
  refine lv_iconst (v := (0 : Int32)) hx hb dX7_lays_0 (by decide) ?_
  refine lv_istore (lv' := [(4, .int (0 : Int32)), (0, .ref bQ), (1, .int x1), (2, .ref bN), (3, .int x3)]) hx hb dX7_lays_1 hl (by decide) rfl (fun ls hl => ?_)
  exact (hG _ _ _).1 (blk_3 N x1 x3 (0 : Int32) un hF _ _ _ hP hD hS (lv_sub hl [1, 2, 3, 4, 0] rfl))
theorem mm_X7_undo_1 : Cond.fieldLink RX7 29 "RollerMeshModel" "states" "I" ∈ wsX7_undo := List.mem_of_getElem? (i := 1) rfl
theorem mm_X7_undo_2 : Cond.fieldLink RX7 13 "RollerMeshModel" "past" "[I" ∈ wsX7_undo := List.mem_of_getElem? (i := 2) rfl
theorem mm_X7_undo_3 : Cond.fieldLink RX7 7 "RollerMeshModel" "now" "[I" ∈ wsX7_undo := List.mem_of_getElem? (i := 3) rfl
theorem mi_X7_undo_X7 : ∀ w ∈ wsX70, w ∈ wsX7_undo := fun _ h => List.mem_cons_of_mem _ (List.mem_append_right _ h)
set_option maxHeartbeats 4000000 in
set_option maxRecDepth 100000 in
theorem c_X7_undo (l : Launch) (D : va_G) (cyI cyZ : ClassId) (bM bN bQ bS bH bP bT : Nat) (sz : Nat) (N : Nat) (us : Int32) (up : Int32) (ue : Int32) (ut : Int32) (um : Int32) (un : (Nat → Int32)) (uq : (Nat → Int32)) {r0 : Int32} {us' : Int32} {un' : (Nat → Int32)} (hF : p_X7_undo N us up ue ut um un uq = some (r0, us', un')) : Met l yX7_undo wsX7_undo ({ frames := 1, cells := 0, slots := 0, locals := 24 }) (x_PM D cyI cyZ [.ref bM] [(bM, .inr (7, [.ref bN, .ref bQ, .int us, .ref bS, .ref bH, .ref bP, .int up, .int ue, .int ut, .ref bT, .int um])), (bN, .inl (cyI, 225, .inl un)), (bQ, .inl (cyI, 1350, .inl uq))] sz) (x_QM D r0 (va_A [(bM, .inr (7, [.ref bN, .ref bQ, .int us, .ref bS, .ref bH, .ref bP, .int up, .int ue, .int ut, .ref bT, .int um])), (bN, .inl (cyI, 225, .inl un)), (bQ, .inl (cyI, 1350, .inl uq))] sz) [(bM, .inr (7, [.ref bN, .ref bQ, .int us', .ref bS, .ref bH, .ref bP, .int up, .int ue, .int ut, .ref bT, .int um])), (bN, .inl (cyI, 225, .inl un')), (bQ, .inl (cyI, 1350, .inl uq))]) 0 0 (va_A [(bM, .inr (7, [.ref bN, .ref bQ, .int us, .ref bS, .ref bH, .ref bP, .int up, .int ue, .int ut, .ref bT, .int um])), (bN, .inl (cyI, 225, .inl un)), (bQ, .inl (cyI, 1350, .inl uq))] sz) := by
  refine Met.ofW (cc := cX7_undo) (maxL := 1) (ret := (some .int)) (by decide) rfl ?_
  intro p e s m args below meth c s₁ B hml hv
  obtain ⟨rfl, hsz, hP, hK, hD0⟩ := hv
  have hx := B.exec
  have hb := B.bytes
  have hr := B.returns
  have hts := atoms_spec (ws := wsX7_undo) B.pre
  have hown : s.vm.findClass RX7 = some m.cls := findClass_of_methodNamed B.named
  have hlocks := B.notSynchronized
  subst hsz
  have hD := hD0.self (sz := s.heap.size)
  generalize hAe : va_A [(bM, .inr (7, [.ref bN, .ref bQ, .int us, .ref bS, .ref bH, .ref bP, .int up, .int ue, .int ut, .ref bT, .int um])), (bN, .inl (cyI, 225, .inl un)), (bQ, .inl (cyI, 1350, .inl uq))] s.heap.size = A at hD ⊢
  have hA : ∀ q : Nat, s.heap.size ≤ q → A q := fun q h => by rw [← hAe]; exact Or.inr h
  have hS : va_S A s.heap s.heap [] := va_S.rf
  have hP : va_P D vwCl [(bM, .inr (7, [.ref bN, .ref bQ, .int us, .ref bS, .ref bH, .ref bP, .int up, .int ue, .int ut, .ref bT, .int um])), (bN, .inl (cyI, 225, .inl un)), (bQ, .inl (cyI, 1350, .inl uq))] s.heap := hP
  have hl := lv_entry ([.ref bM]) (n := 1) (Nat.le_of_ble_eq_true rfl)
  rw [lg_entry_eq]
  generalize (lg_sl ([.ref bM]) ++ List.replicate (1 - (lg_sl ([.ref bM])).length) Slot.unset).toArray = ls at hl ⊢
  have hl : lv_has ls 1 [(0, .ref bM)] := hl
  unfold p_X7_undo at hF
  refine lv_aload_n hx hb dX7_undo_0 rfl (lv_at hl 0 rfl) ?_
  refine va_get (D := D) (ci := 7) (v := .int us) (C := RX7) (T := TX7) (N := 11) hx hb hts mi_X7_undo_X7 hown hK.1 hP 0 rfl rfl 2 (by decide) (hts _ mm_X7_undo_1) (fun _ h9 => h9) rfl dX7_undo_1 ?_
  refine lv_if_ne (tgt := 10) hx hb dX7_undo_4 (by decide) (fun hc => ?_) (fun hc => ?_)
  · have hF := k_if_f hF hc
    refine lv_aload_n hx hb dX7_undo_10 rfl (lv_at hl 0 rfl) ?_
    refine lv_dup hx hb dX7_undo_11 rfl ?_
    refine va_get (D := D) (ci := 7) (v := .int us) (C := RX7) (T := TX7) (N := 11) hx hb hts mi_X7_undo_X7 hown hK.1 hP 0 rfl rfl 2 (by decide) (hts _ mm_X7_undo_1) (fun _ h9 => h9) rfl dX7_undo_12 ?_
    refine lv_iconst (v := (1 : Int32)) hx hb dX7_undo_15 (by decide) ?_
    refine lv_isub hx hb dX7_undo_16 ?_
    obtain ⟨us_17, hn, hF⟩ := k_let_ex hF
    refine x_nm hn ?_
    refine va_put (D := D) (ci := 7) (v := .int us_17) (ty := .int) (C := RX7) (T := TX7) (N := 11) hx hb hts mi_X7_undo_X7 tyX7 tyX7_ok nmX7 hown hK.1 hP hD hS 0 rfl rfl 2 (by decide) (hts _ mm_X7_undo_1) (fun _ h9 => h9) rfl (by decide +kernel) rfl rfl (Nat.le_of_ble_eq_true rfl) dX7_undo_17 (fun H locs hP hD hS => ?_)
    have hP : va_P D vwCl [(bM, .inr (7, [.ref bN, .ref bQ, .int us_17, .ref bS, .ref bH, .ref bP, .int up, .int ue, .int ut, .ref bT, .int um])), (bN, .inl (cyI, 225, .inl un)), (bQ, .inl (cyI, 1350, .inl uq))] H := hP
    have hD : va_D A [(bM, .inr (7, [.ref bN, .ref bQ, .int us_17, .ref bS, .ref bH, .ref bP, .int up, .int ue, .int ut, .ref bT, .int um])), (bN, .inl (cyI, 225, .inl un)), (bQ, .inl (cyI, 1350, .inl uq))] := hD
    refine lv_aload_n hx hb dX7_undo_20 rfl (lv_at hl 0 rfl) ?_
    refine va_get (D := D) (ci := 7) (v := .ref bQ) (C := RX7) (T := TX7) (N := 11) hx hb hts mi_X7_undo_X7 hown hK.1 hP 0 rfl rfl 1 (by decide) (hts _ mm_X7_undo_2) (fun _ h9 => h9) rfl dX7_undo_21 ?_
    refine lv_sipush (v := (225 : Int32)) hx hb dX7_undo_24 (by decide) ?_
    refine lv_aload_n hx hb dX7_undo_27 rfl (lv_at hl 0 rfl) ?_
    refine va_get (D := D) (ci := 7) (v := .int us_17) (C := RX7) (T := TX7) (N := 11) hx hb hts mi_X7_undo_X7 hown hK.1 hP 0 rfl rfl 2 (by decide) (hts _ mm_X7_undo_1) (fun _ h9 => h9) rfl dX7_undo_28 ?_
    refine lv_imul hx hb dX7_undo_31 ?_
    refine lv_aload_n hx hb dX7_undo_32 rfl (lv_at hl 0 rfl) ?_
    refine va_get (D := D) (ci := 7) (v := .ref bN) (C := RX7) (T := TX7) (N := 11) hx hb hts mi_X7_undo_X7 hown hK.1 hP 0 rfl rfl 0 (by decide) (hts _ mm_X7_undo_3) (fun _ h9 => h9) rfl dX7_undo_33 ?_
    refine lv_iconst (v := (0 : Int32)) hx hb dX7_undo_36 (by decide) ?_
    obtain ⟨un_37, hC, hF⟩ := k_c1_ex hF
    refine x_SV (As := [.ref bQ, .int ((225 : Int32) * us_17), .ref bN, .int (0 : Int32)]) (rest := []) ⟨hx, hb, hml, hown, hts⟩ (c_X7_lays_zQ_zN l D cyI cyZ bN bQ H.size N ((225 : Int32) * us_17) (0 : Int32) un uq hC) (va_cwS 4 hts gX7_undo_X7_lays rfl rfl rfl (by decide +kernel) ⟨Nat.le_of_ble_eq_true rfl, Nat.le_of_ble_eq_true rfl⟩) hK hP hD hS hA [1, 2] rfl rfl rfl rfl hl.1 rfl (Nat.le_of_ble_eq_true rfl) ⟨Nat.zero_le _, Nat.zero_le _⟩ dX7_undo_37 (fun H locs hP hD hS => ?_)
    have hP : va_P D vwCl [(bM, .inr (7, [.ref bN, .ref bQ, .int us_17, .ref bS, .ref bH, .ref bP, .int up, .int ue, .int ut, .ref bT, .int um])), (bN, .inl (cyI, 225, .inl un_37)), (bQ, .inl (cyI, 1350, .inl uq))] H := hP
    have hD : va_D A [(bM, .inr (7, [.ref bN, .ref bQ, .int us_17, .ref bS, .ref bH, .ref bP, .int up, .int ue, .int ut, .ref bT, .int um])), (bN, .inl (cyI, 225, .inl un_37)), (bQ, .inl (cyI, 1350, .inl uq))] := hD
    refine lv_aload_n hx hb dX7_undo_40 rfl (lv_at hl 0 rfl) ?_
    refine va_get (D := D) (ci := 7) (v := .int us_17) (C := RX7) (T := TX7) (N := 11) hx hb hts mi_X7_undo_X7 hown hK.1 hP 0 rfl rfl 2 (by decide) (hts _ mm_X7_undo_1) (fun _ h9 => h9) rfl dX7_undo_41 ?_
    obtain ⟨e0, e1, e2⟩ := k_inj3 hF
    have hP9 : va_P D vwCl [(bM, .inr (7, [.ref bN, .ref bQ, .int us', .ref bS, .ref bH, .ref bP, .int up, .int ue, .int ut, .ref bT, .int um])), (bN, .inl (cyI, 225, .inl un')), (bQ, .inl (cyI, 1350, .inl uq))] H := by rw [← e1, ← e2]; exact hP
    exact W.iret hx hb hr (fun t ht hW => ⟨⟨_, (), rfl, e0, x_ret hP9 ht⟩, hS.F ht⟩) hS.2.2 dX7_undo_44
  · have hF := k_if_t hF hc
    refine lv_bipush (v := (-5 : Int32)) hx hb dX7_undo_7 (by decide) ?_
    obtain ⟨e0, e1, e2⟩ := k_inj3 hF
    have hP9 : va_P D vwCl [(bM, .inr (7, [.ref bN, .ref bQ, .int us', .ref bS, .ref bH, .ref bP, .int up, .int ue, .int ut, .ref bT, .int um])), (bN, .inl (cyI, 225, .inl un')), (bQ, .inl (cyI, 1350, .inl uq))] s.heap := by rw [← e1, ← e2]; exact hP
    exact W.iret hx hb hr (fun t ht hW => ⟨⟨_, (), rfl, e0, x_ret hP9 ht⟩, hS.F ht⟩) hS.2.2 dX7_undo_9
set_option maxHeartbeats 4000000 in
set_option maxRecDepth 100000 in
theorem c_X7_lays_zN_zS (l : Launch) (D : va_G) (cyI cyZ : ClassId) (bN bS : Nat) (sz : Nat) (N : Nat) (x1 : Int32) (x3 : Int32) (un : (Nat → Int32)) (ul : (Nat → Int32)) {ul' : (Nat → Int32)} (hF : p_X7_lays_zN_zS N x1 x3 un ul = some (ul')) : Met l yX7_lays wsX7_lays ({ frames := 0, cells := 0, slots := 0, locals := 0 }) (x_PM D cyI cyZ [.ref bN, .int x1, .ref bS, .int x3] [(bN, .inl (cyI, 225, .inl un)), (bS, .inl (cyI, 450, .inl ul))] sz) (x_QV D (va_A [(bN, .inl (cyI, 225, .inl un)), (bS, .inl (cyI, 450, .inl ul))] sz) [(bN, .inl (cyI, 225, .inl un)), (bS, .inl (cyI, 450, .inl ul'))]) 0 0 (va_A [(bN, .inl (cyI, 225, .inl un)), (bS, .inl (cyI, 450, .inl ul))] sz) := by
  refine Met.ofW (cc := cX7_lays) (maxL := 5) (ret := none) (by decide) rfl ?_
  intro p e s m args below meth c s₁ B hml hv
  obtain ⟨rfl, hsz, hP, hK, hD0⟩ := hv
  have hx := B.exec
  have hb := B.bytes
  have hr := B.returns
  have hts := atoms_spec (ws := wsX7_lays) B.pre
  have hown : s.vm.findClass RX7 = some m.cls := findClass_of_methodNamed B.named
  have hlocks := B.notSynchronized
  subst hsz
  have hD := hD0.self (sz := s.heap.size)
  generalize hAe : va_A [(bN, .inl (cyI, 225, .inl un)), (bS, .inl (cyI, 450, .inl ul))] s.heap.size = A at hD ⊢
  have hA : ∀ q : Nat, s.heap.size ≤ q → A q := fun q h => by rw [← hAe]; exact Or.inr h
  have hS : va_S A s.heap s.heap [] := va_S.rf
  have hP : va_P D vwCl [(bN, .inl (cyI, 225, .inl un)), (bS, .inl (cyI, 450, .inl ul))] s.heap := hP
  have hl := lv_entry ([.ref bN, .int x1, .ref bS, .int x3]) (n := 5) (Nat.le_of_ble_eq_true rfl)
  rw [lg_entry_eq]
  generalize (lg_sl ([.ref bN, .int x1, .ref bS, .int x3]) ++ List.replicate (5 - (lg_sl ([.ref bN, .int x1, .ref bS, .int x3])).length) Slot.unset).toArray = ls at hl ⊢
  have hl : lv_has ls 5 [(0, .ref bN), (1, .int x1), (2, .ref bS), (3, .int x3)] := hl
  refine x_gen (fun G hG => ?_)
  have blk_3 : ∀ (n_3 : Nat) (x1 : Int32) (x3 : Int32) (x4 : Int32) (ul : (Nat → Int32)), f_X7_lays_zN_zS_3 N n_3 x1 x3 x4 un ul = some (ul') → ∀ (H : Heap) (locs : List Loc) (ls : Array Slot), va_P D vwCl [(bN, .inl (cyI, 225, .inl un)), (bS, .inl (cyI, 450, .inl ul))] H → va_D A [(bN, .inl (cyI, 225, .inl un)), (bS, .inl (cyI, 450, .inl ul))] → va_S A s.heap H locs → lv_has ls 5 [(0, .ref bN), (1, .int x1), (2, .ref bS), (3, .int x3), (4, .int x4)] → G H locs (F0 m 3 ls []) := by
    intro n_3
    induction n_3 with
    | zero => intro x1 x3 x4 ul hF; exact (k_none hF).elim
    | succ n_3 ih_3 =>
      intro x1 x3 x4 ul hF H locs ls hP hD hS hl
      replace hF : b_X7_lays_zN_zS_3 N (f_X7_lays_zN_zS_3 N n_3) x1 x3 x4 un ul = some (ul') := hF
      unfold b_X7_lays_zN_zS_3 at hF
      refine (hG _ _ _).2 ?_
      refine lv_iload hx hb dX7_lays_3 (lv_at hl 4 rfl) ?_
      refine lv_sipush (v := (225 : Int32)) hx hb dX7_lays_5 (by decide) ?_
      refine lv_icmp_ge (tgt := 29) hx hb dX7_lays_8 (by decide) (fun hc => ?_) (fun hc => ?_)
      · have hF := k_if_t hF hc
        have e0 := k_inj1 hF
        have hP9 : va_P D vwCl [(bN, .inl (cyI, 225, .inl un)), (bS, .inl (cyI, 450, .inl ul'))] H := by rw [← e0]; exact hP
        exact W.vret hx hb hr (fun t ht hW => ⟨⟨(), rfl, trivial, x_ret hP9 ht⟩, hS.F ht⟩) hS.2.2 dX7_lays_29
      · have hF := k_if_f hF hc
        refine lv_aload_n hx hb dX7_lays_11 rfl (lv_at hl 2 rfl) ?_
        refine lv_iload_n hx hb dX7_lays_12 rfl (lv_at hl 3 rfl) ?_
        refine lv_iload hx hb dX7_lays_13 (lv_at hl 4 rfl) ?_
        refine lv_iadd hx hb dX7_lays_15 ?_
        refine lv_aload_n hx hb dX7_lays_16 rfl (lv_at hl 0 rfl) ?_
        refine lv_iload_n hx hb dX7_lays_17 rfl (lv_at hl 1 rfl) ?_
        refine lv_iload hx hb dX7_lays_18 (lv_at hl 4 rfl) ?_
        refine lv_iadd hx hb dX7_lays_20 ?_
        obtain ⟨r21, hin, hn, hF⟩ := k_ld_ex hF
        refine x_iald hx hb hK hP 0 rfl hin hn dX7_lays_21 ?_
        obtain ⟨ul_22, hin, hn, hF⟩ := k_st_ex hF
        refine x_iast hx hb hK hP hD hS 1 rfl hin hn dX7_lays_22 (fun H locs hP hD hS => ?_)
        have hP : va_P D vwCl [(bN, .inl (cyI, 225, .inl un)), (bS, .inl (cyI, 450, .inl ul_22))] H := hP
        have hD : va_D A [(bN, .inl (cyI, 225, .inl un)), (bS, .inl (cyI, 450, .inl ul_22))] := hD
        obtain ⟨x4_23, hn, hF⟩ := k_let_ex hF
        refine lv_iinc (v := x4_23) (lv' := [(4, .int x4_23), (0, .ref bN), (1, .int x1), (2, .ref bS), (3, .int x3)]) hx hb dX7_lays_23 hl (k := 4) rfl (by rw [hn]; rfl) (by decide) rfl (fun ls hl => ?_)
        refine lv_goto (tgt := 3) hx hb dX7_lays_26 (by decide) ?_
        exact (hG _ _ _).1 (ih_3 x1 x3 x4_23 ul_22 hF _ _ _ hP hD hS (lv_sub hl [1, 2, 3, 4, 0] rfl))
  refine (hG _ _ _).2 ?_
  unfold p_X7_lays_zN_zS at hF
  refine lv_iconst (v := (0 : Int32)) hx hb dX7_lays_0 (by decide) ?_
  refine lv_istore (lv' := [(4, .int (0 : Int32)), (0, .ref bN), (1, .int x1), (2, .ref bS), (3, .int x3)]) hx hb dX7_lays_1 hl (by decide) rfl (fun ls hl => ?_)
  exact (hG _ _ _).1 (blk_3 N x1 x3 (0 : Int32) ul hF _ _ _ hP hD hS (lv_sub hl [1, 2, 3, 4, 0] rfl))
theorem mm_X7_save_1 : Cond.fieldLink RX7 7 "RollerMeshModel" "now" "[I" ∈ wsX7_save := List.mem_of_getElem? (i := 1) rfl
theorem mm_X7_save_2 : Cond.fieldLink RX7 16 "RollerMeshModel" "slots" "[I" ∈ wsX7_save := List.mem_of_getElem? (i := 2) rfl
theorem mm_X7_save_3 : Cond.fieldLink RX7 19 "RollerMeshModel" "held" "[Z" ∈ wsX7_save := List.mem_of_getElem? (i := 3) rfl
theorem mi_X7_save_X7 : ∀ w ∈ wsX70, w ∈ wsX7_save := fun _ h => List.mem_cons_of_mem _ (List.mem_append_right _ h)
set_option maxHeartbeats 4000000 in
set_option maxRecDepth 100000 in
theorem c_X7_save (l : Launch) (D : va_G) (cyI cyZ : ClassId) (bM bN bQ bS bH bP bT : Nat) (sz : Nat) (N : Nat) (x1 : Int32) (us : Int32) (up : Int32) (ue : Int32) (ut : Int32) (um : Int32) (un : (Nat → Int32)) (ul : (Nat → Int32)) (uh : (Nat → Int32)) {r0 : Int32} {ul' : (Nat → Int32)} {uh' : (Nat → Int32)} (hF : p_X7_save N x1 us up ue ut um un ul uh = some (r0, ul', uh')) : Met l yX7_save wsX7_save ({ frames := 1, cells := 0, slots := 0, locals := 24 }) (x_PM D cyI cyZ [.ref bM, .int x1] [(bM, .inr (7, [.ref bN, .ref bQ, .int us, .ref bS, .ref bH, .ref bP, .int up, .int ue, .int ut, .ref bT, .int um])), (bN, .inl (cyI, 225, .inl un)), (bS, .inl (cyI, 450, .inl ul)), (bH, .inl (cyZ, 2, .inl uh))] sz) (x_QM D r0 (va_A [(bM, .inr (7, [.ref bN, .ref bQ, .int us, .ref bS, .ref bH, .ref bP, .int up, .int ue, .int ut, .ref bT, .int um])), (bN, .inl (cyI, 225, .inl un)), (bS, .inl (cyI, 450, .inl ul)), (bH, .inl (cyZ, 2, .inl uh))] sz) [(bM, .inr (7, [.ref bN, .ref bQ, .int us, .ref bS, .ref bH, .ref bP, .int up, .int ue, .int ut, .ref bT, .int um])), (bN, .inl (cyI, 225, .inl un)), (bS, .inl (cyI, 450, .inl ul')), (bH, .inl (cyZ, 2, .inl uh'))]) 0 0 (va_A [(bM, .inr (7, [.ref bN, .ref bQ, .int us, .ref bS, .ref bH, .ref bP, .int up, .int ue, .int ut, .ref bT, .int um])), (bN, .inl (cyI, 225, .inl un)), (bS, .inl (cyI, 450, .inl ul)), (bH, .inl (cyZ, 2, .inl uh))] sz) := by
  refine Met.ofW (cc := cX7_save) (maxL := 2) (ret := (some .int)) (by decide) rfl ?_
  intro p e s m args below meth c s₁ B hml hv
  obtain ⟨rfl, hsz, hP, hK, hD0⟩ := hv
  have hx := B.exec
  have hb := B.bytes
  have hr := B.returns
  have hts := atoms_spec (ws := wsX7_save) B.pre
  have hown : s.vm.findClass RX7 = some m.cls := findClass_of_methodNamed B.named
  have hlocks := B.notSynchronized
  subst hsz
  have hD := hD0.self (sz := s.heap.size)
  generalize hAe : va_A [(bM, .inr (7, [.ref bN, .ref bQ, .int us, .ref bS, .ref bH, .ref bP, .int up, .int ue, .int ut, .ref bT, .int um])), (bN, .inl (cyI, 225, .inl un)), (bS, .inl (cyI, 450, .inl ul)), (bH, .inl (cyZ, 2, .inl uh))] s.heap.size = A at hD ⊢
  have hA : ∀ q : Nat, s.heap.size ≤ q → A q := fun q h => by rw [← hAe]; exact Or.inr h
  have hS : va_S A s.heap s.heap [] := va_S.rf
  have hP : va_P D vwCl [(bM, .inr (7, [.ref bN, .ref bQ, .int us, .ref bS, .ref bH, .ref bP, .int up, .int ue, .int ut, .ref bT, .int um])), (bN, .inl (cyI, 225, .inl un)), (bS, .inl (cyI, 450, .inl ul)), (bH, .inl (cyZ, 2, .inl uh))] s.heap := hP
  have hl := lv_entry ([.ref bM, .int x1]) (n := 2) (Nat.le_of_ble_eq_true rfl)
  rw [lg_entry_eq]
  generalize (lg_sl ([.ref bM, .int x1]) ++ List.replicate (2 - (lg_sl ([.ref bM, .int x1])).length) Slot.unset).toArray = ls at hl ⊢
  have hl : lv_has ls 2 [(0, .ref bM), (1, .int x1)] := hl
  unfold p_X7_save at hF
  refine lv_iload_n hx hb dX7_save_0 rfl (lv_at hl 1 rfl) ?_
  refine lv_iconst (v := (0 : Int32)) hx hb dX7_save_1 (by decide) ?_
  refine lv_iconst (v := (1 : Int32)) hx hb dX7_save_2 (by decide) ?_
  obtain ⟨r3, hC, hF⟩ := k_c1_ex hF
  refine x_SR (As := [.int x1, .int (0 : Int32), .int (1 : Int32)]) (rest := []) ⟨hx, hb, hml, hown, hts⟩ (c_X7_in l D cyI cyZ N x1 (0 : Int32) (1 : Int32) hC) (va_cwS 3 hts gX7_save_X7_in rfl rfl rfl (by decide +kernel) ⟨Nat.le_of_ble_eq_true rfl, Nat.le_of_ble_eq_true rfl⟩) hK hP hS [] rfl rfl hl.1 rfl (Nat.le_of_ble_eq_true rfl) ⟨Nat.zero_le _, Nat.zero_le _⟩ dX7_save_3 (fun H locs hP hS => ?_)
  refine lv_if_ne (tgt := 12) hx hb dX7_save_6 (by decide) (fun hc => ?_) (fun hc => ?_)
  · have hF := k_if_f hF hc
    refine lv_aload_n hx hb dX7_save_12 rfl (lv_at hl 0 rfl) ?_
    refine va_get (D := D) (ci := 7) (v := .ref bN) (C := RX7) (T := TX7) (N := 11) hx hb hts mi_X7_save_X7 hown hK.1 hP 0 rfl rfl 0 (by decide) (hts _ mm_X7_save_1) (fun _ h9 => h9) rfl dX7_save_13 ?_
    refine lv_iconst (v := (0 : Int32)) hx hb dX7_save_16 (by decide) ?_
    refine lv_aload_n hx hb dX7_save_17 rfl (lv_at hl 0 rfl) ?_
    refine va_get (D := D) (ci := 7) (v := .ref bS) (C := RX7) (T := TX7) (N := 11) hx hb hts mi_X7_save_X7 hown hK.1 hP 0 rfl rfl 3 (by decide) (hts _ mm_X7_save_2) (fun _ h9 => h9) rfl dX7_save_18 ?_
    refine lv_sipush (v := (225 : Int32)) hx hb dX7_save_21 (by decide) ?_
    refine lv_iload_n hx hb dX7_save_24 rfl (lv_at hl 1 rfl) ?_
    refine lv_imul hx hb dX7_save_25 ?_
    obtain ⟨ul_26, hC, hF⟩ := k_c1_ex hF
    refine x_SV (As := [.ref bN, .int (0 : Int32), .ref bS, .int ((225 : Int32) * x1)]) (rest := []) ⟨hx, hb, hml, hown, hts⟩ (c_X7_lays_zN_zS l D cyI cyZ bN bS H.size N (0 : Int32) ((225 : Int32) * x1) un ul hC) (va_cwS 4 hts gX7_save_X7_lays rfl rfl rfl (by decide +kernel) ⟨Nat.le_of_ble_eq_true rfl, Nat.le_of_ble_eq_true rfl⟩) hK hP hD hS hA [1, 2] rfl rfl rfl rfl hl.1 rfl (Nat.le_of_ble_eq_true rfl) ⟨Nat.zero_le _, Nat.zero_le _⟩ dX7_save_26 (fun H locs hP hD hS => ?_)
    have hP : va_P D vwCl [(bM, .inr (7, [.ref bN, .ref bQ, .int us, .ref bS, .ref bH, .ref bP, .int up, .int ue, .int ut, .ref bT, .int um])), (bN, .inl (cyI, 225, .inl un)), (bS, .inl (cyI, 450, .inl ul_26)), (bH, .inl (cyZ, 2, .inl uh))] H := hP
    have hD : va_D A [(bM, .inr (7, [.ref bN, .ref bQ, .int us, .ref bS, .ref bH, .ref bP, .int up, .int ue, .int ut, .ref bT, .int um])), (bN, .inl (cyI, 225, .inl un)), (bS, .inl (cyI, 450, .inl ul_26)), (bH, .inl (cyZ, 2, .inl uh))] := hD
    refine lv_aload_n hx hb dX7_save_29 rfl (lv_at hl 0 rfl) ?_
    refine va_get (D := D) (ci := 7) (v := .ref bH) (C := RX7) (T := TX7) (N := 11) hx hb hts mi_X7_save_X7 hown hK.1 hP 0 rfl rfl 4 (by decide) (hts _ mm_X7_save_3) (fun _ h9 => h9) rfl dX7_save_30 ?_
    refine lv_iload_n hx hb dX7_save_33 rfl (lv_at hl 1 rfl) ?_
    refine lv_iconst (v := (1 : Int32)) hx hb dX7_save_34 (by decide) ?_
    obtain ⟨uh_35, hin, hn, hF⟩ := k_st_ex hF
    refine x_zast hx hb hK hP hD hS 3 rfl hin hn dX7_save_35 (fun H locs hP hD hS => ?_)
    have hP : va_P D vwCl [(bM, .inr (7, [.ref bN, .ref bQ, .int us, .ref bS, .ref bH, .ref bP, .int up, .int ue, .int ut, .ref bT, .int um])), (bN, .inl (cyI, 225, .inl un)), (bS, .inl (cyI, 450, .inl ul_26)), (bH, .inl (cyZ, 2, .inl uh_35))] H := hP
    have hD : va_D A [(bM, .inr (7, [.ref bN, .ref bQ, .int us, .ref bS, .ref bH, .ref bP, .int up, .int ue, .int ut, .ref bT, .int um])), (bN, .inl (cyI, 225, .inl un)), (bS, .inl (cyI, 450, .inl ul_26)), (bH, .inl (cyZ, 2, .inl uh_35))] := hD
    refine lv_aload_n hx hb dX7_save_36 rfl (lv_at hl 0 rfl) ?_
    refine va_get (D := D) (ci := 7) (v := .ref bN) (C := RX7) (T := TX7) (N := 11) hx hb hts mi_X7_save_X7 hown hK.1 hP 0 rfl rfl 0 (by decide) (hts _ mm_X7_save_1) (fun _ h9 => h9) rfl dX7_save_37 ?_
    refine lv_iconst (v := (3 : Int32)) hx hb dX7_save_40 (by decide) ?_
    obtain ⟨r41, hin, hn, hF⟩ := k_ld_ex hF
    refine x_iald hx hb hK hP 1 rfl hin hn dX7_save_41 ?_
    obtain ⟨e0, e1, e2⟩ := k_inj3 hF
    have hP9 : va_P D vwCl [(bM, .inr (7, [.ref bN, .ref bQ, .int us, .ref bS, .ref bH, .ref bP, .int up, .int ue, .int ut, .ref bT, .int um])), (bN, .inl (cyI, 225, .inl un)), (bS, .inl (cyI, 450, .inl ul')), (bH, .inl (cyZ, 2, .inl uh'))] H := by rw [← e1, ← e2]; exact hP
    exact W.iret hx hb hr (fun t ht hW => ⟨⟨_, (), rfl, e0, x_ret hP9 ht⟩, hS.F ht⟩) hS.2.2 dX7_save_42
  · have hF := k_if_t hF hc
    refine lv_bipush (v := (-2 : Int32)) hx hb dX7_save_9 (by decide) ?_
    obtain ⟨e0, e1, e2⟩ := k_inj3 hF
    have hP9 : va_P D vwCl [(bM, .inr (7, [.ref bN, .ref bQ, .int us, .ref bS, .ref bH, .ref bP, .int up, .int ue, .int ut, .ref bT, .int um])), (bN, .inl (cyI, 225, .inl un)), (bS, .inl (cyI, 450, .inl ul')), (bH, .inl (cyZ, 2, .inl uh'))] H := by rw [← e1, ← e2]; exact hP
    exact W.iret hx hb hr (fun t ht hW => ⟨⟨_, (), rfl, e0, x_ret hP9 ht⟩, hS.F ht⟩) hS.2.2 dX7_save_11
set_option maxHeartbeats 4000000 in
set_option maxRecDepth 100000 in
theorem c_X7_lays_zS_zN (l : Launch) (D : va_G) (cyI cyZ : ClassId) (bN bS : Nat) (sz : Nat) (N : Nat) (x1 : Int32) (x3 : Int32) (un : (Nat → Int32)) (ul : (Nat → Int32)) {un' : (Nat → Int32)} (hF : p_X7_lays_zS_zN N x1 x3 un ul = some (un')) : Met l yX7_lays wsX7_lays ({ frames := 0, cells := 0, slots := 0, locals := 0 }) (x_PM D cyI cyZ [.ref bS, .int x1, .ref bN, .int x3] [(bN, .inl (cyI, 225, .inl un)), (bS, .inl (cyI, 450, .inl ul))] sz) (x_QV D (va_A [(bN, .inl (cyI, 225, .inl un)), (bS, .inl (cyI, 450, .inl ul))] sz) [(bN, .inl (cyI, 225, .inl un')), (bS, .inl (cyI, 450, .inl ul))]) 0 0 (va_A [(bN, .inl (cyI, 225, .inl un)), (bS, .inl (cyI, 450, .inl ul))] sz) := by
  refine Met.ofW (cc := cX7_lays) (maxL := 5) (ret := none) (by decide) rfl ?_
  intro p e s m args below meth c s₁ B hml hv
  obtain ⟨rfl, hsz, hP, hK, hD0⟩ := hv
  have hx := B.exec
  have hb := B.bytes
  have hr := B.returns
  have hts := atoms_spec (ws := wsX7_lays) B.pre
  have hown : s.vm.findClass RX7 = some m.cls := findClass_of_methodNamed B.named
  have hlocks := B.notSynchronized
  subst hsz
  have hD := hD0.self (sz := s.heap.size)
  generalize hAe : va_A [(bN, .inl (cyI, 225, .inl un)), (bS, .inl (cyI, 450, .inl ul))] s.heap.size = A at hD ⊢
  have hA : ∀ q : Nat, s.heap.size ≤ q → A q := fun q h => by rw [← hAe]; exact Or.inr h
  have hS : va_S A s.heap s.heap [] := va_S.rf
  have hP : va_P D vwCl [(bN, .inl (cyI, 225, .inl un)), (bS, .inl (cyI, 450, .inl ul))] s.heap := hP
  have hl := lv_entry ([.ref bS, .int x1, .ref bN, .int x3]) (n := 5) (Nat.le_of_ble_eq_true rfl)
  rw [lg_entry_eq]
  generalize (lg_sl ([.ref bS, .int x1, .ref bN, .int x3]) ++ List.replicate (5 - (lg_sl ([.ref bS, .int x1, .ref bN, .int x3])).length) Slot.unset).toArray = ls at hl ⊢
  have hl : lv_has ls 5 [(0, .ref bS), (1, .int x1), (2, .ref bN), (3, .int x3)] := hl
  refine x_gen (fun G hG => ?_)
  have blk_3 : ∀ (n_3 : Nat) (x1 : Int32) (x3 : Int32) (x4 : Int32) (un : (Nat → Int32)), f_X7_lays_zS_zN_3 N n_3 x1 x3 x4 un ul = some (un') → ∀ (H : Heap) (locs : List Loc) (ls : Array Slot), va_P D vwCl [(bN, .inl (cyI, 225, .inl un)), (bS, .inl (cyI, 450, .inl ul))] H → va_D A [(bN, .inl (cyI, 225, .inl un)), (bS, .inl (cyI, 450, .inl ul))] → va_S A s.heap H locs → lv_has ls 5 [(0, .ref bS), (1, .int x1), (2, .ref bN), (3, .int x3), (4, .int x4)] → G H locs (F0 m 3 ls []) := by
    intro n_3
    induction n_3 with
    | zero => intro x1 x3 x4 un hF; exact (k_none hF).elim
    | succ n_3 ih_3 =>
      intro x1 x3 x4 un hF H locs ls hP hD hS hl
      replace hF : b_X7_lays_zS_zN_3 N (f_X7_lays_zS_zN_3 N n_3) x1 x3 x4 un ul = some (un') := hF
      unfold b_X7_lays_zS_zN_3 at hF
      refine (hG _ _ _).2 ?_
      refine lv_iload hx hb dX7_lays_3 (lv_at hl 4 rfl) ?_
      refine lv_sipush (v := (225 : Int32)) hx hb dX7_lays_5 (by decide) ?_
      refine lv_icmp_ge (tgt := 29) hx hb dX7_lays_8 (by decide) (fun hc => ?_) (fun hc => ?_)
      · have hF := k_if_t hF hc
        have e0 := k_inj1 hF
        have hP9 : va_P D vwCl [(bN, .inl (cyI, 225, .inl un')), (bS, .inl (cyI, 450, .inl ul))] H := by rw [← e0]; exact hP
        exact W.vret hx hb hr (fun t ht hW => ⟨⟨(), rfl, trivial, x_ret hP9 ht⟩, hS.F ht⟩) hS.2.2 dX7_lays_29
      · have hF := k_if_f hF hc
        refine lv_aload_n hx hb dX7_lays_11 rfl (lv_at hl 2 rfl) ?_
        refine lv_iload_n hx hb dX7_lays_12 rfl (lv_at hl 3 rfl) ?_
        refine lv_iload hx hb dX7_lays_13 (lv_at hl 4 rfl) ?_
        refine lv_iadd hx hb dX7_lays_15 ?_
        refine lv_aload_n hx hb dX7_lays_16 rfl (lv_at hl 0 rfl) ?_
        refine lv_iload_n hx hb dX7_lays_17 rfl (lv_at hl 1 rfl) ?_
        refine lv_iload hx hb dX7_lays_18 (lv_at hl 4 rfl) ?_
        refine lv_iadd hx hb dX7_lays_20 ?_
        obtain ⟨r21, hin, hn, hF⟩ := k_ld_ex hF
        refine x_iald hx hb hK hP 1 rfl hin hn dX7_lays_21 ?_
        obtain ⟨un_22, hin, hn, hF⟩ := k_st_ex hF
        refine x_iast hx hb hK hP hD hS 0 rfl hin hn dX7_lays_22 (fun H locs hP hD hS => ?_)
        have hP : va_P D vwCl [(bN, .inl (cyI, 225, .inl un_22)), (bS, .inl (cyI, 450, .inl ul))] H := hP
        have hD : va_D A [(bN, .inl (cyI, 225, .inl un_22)), (bS, .inl (cyI, 450, .inl ul))] := hD
        obtain ⟨x4_23, hn, hF⟩ := k_let_ex hF
        refine lv_iinc (v := x4_23) (lv' := [(4, .int x4_23), (0, .ref bS), (1, .int x1), (2, .ref bN), (3, .int x3)]) hx hb dX7_lays_23 hl (k := 4) rfl (by rw [hn]; rfl) (by decide) rfl (fun ls hl => ?_)
        refine lv_goto (tgt := 3) hx hb dX7_lays_26 (by decide) ?_
        exact (hG _ _ _).1 (ih_3 x1 x3 x4_23 un_22 hF _ _ _ hP hD hS (lv_sub hl [1, 2, 3, 4, 0] rfl))
  refine (hG _ _ _).2 ?_
  unfold p_X7_lays_zS_zN at hF
  refine lv_iconst (v := (0 : Int32)) hx hb dX7_lays_0 (by decide) ?_
  refine lv_istore (lv' := [(4, .int (0 : Int32)), (0, .ref bS), (1, .int x1), (2, .ref bN), (3, .int x3)]) hx hb dX7_lays_1 hl (by decide) rfl (fun ls hl => ?_)
  exact (hG _ _ _).1 (blk_3 N x1 x3 (0 : Int32) un hF _ _ _ hP hD hS (lv_sub hl [1, 2, 3, 4, 0] rfl))
theorem mm_X7_restore_1 : Cond.fieldLink RX7 19 "RollerMeshModel" "held" "[Z" ∈ wsX7_restore := List.mem_of_getElem? (i := 1) rfl
theorem mm_X7_restore_2 : Cond.fieldLink RX7 16 "RollerMeshModel" "slots" "[I" ∈ wsX7_restore := List.mem_of_getElem? (i := 2) rfl
theorem mm_X7_restore_3 : Cond.fieldLink RX7 7 "RollerMeshModel" "now" "[I" ∈ wsX7_restore := List.mem_of_getElem? (i := 3) rfl
theorem mi_X7_restore_X7 : ∀ w ∈ wsX70, w ∈ wsX7_restore := fun _ h => List.mem_cons_of_mem _ (List.mem_append_right _ h)
set_option maxHeartbeats 4000000 in
set_option maxRecDepth 100000 in
theorem c_X7_restore (l : Launch) (D : va_G) (cyI cyZ : ClassId) (bM bN bQ bS bH bP bT : Nat) (sz : Nat) (N : Nat) (x1 : Int32) (us : Int32) (up : Int32) (ue : Int32) (ut : Int32) (um : Int32) (un : (Nat → Int32)) (uq : (Nat → Int32)) (ul : (Nat → Int32)) (uh : (Nat → Int32)) {r0 : Int32} {us' : Int32} {un' : (Nat → Int32)} {uq' : (Nat → Int32)} (hF : p_X7_restore N x1 us up ue ut um un uq ul uh = some (r0, us', un', uq')) : Met l yX7_restore wsX7_restore ({ frames := 2, cells := 0, slots := 0, locals := 45 }) (x_PM D cyI cyZ [.ref bM, .int x1] [(bM, .inr (7, [.ref bN, .ref bQ, .int us, .ref bS, .ref bH, .ref bP, .int up, .int ue, .int ut, .ref bT, .int um])), (bN, .inl (cyI, 225, .inl un)), (bQ, .inl (cyI, 1350, .inl uq)), (bS, .inl (cyI, 450, .inl ul)), (bH, .inl (cyZ, 2, .inl uh))] sz) (x_QM D r0 (va_A [(bM, .inr (7, [.ref bN, .ref bQ, .int us, .ref bS, .ref bH, .ref bP, .int up, .int ue, .int ut, .ref bT, .int um])), (bN, .inl (cyI, 225, .inl un)), (bQ, .inl (cyI, 1350, .inl uq)), (bS, .inl (cyI, 450, .inl ul)), (bH, .inl (cyZ, 2, .inl uh))] sz) [(bM, .inr (7, [.ref bN, .ref bQ, .int us', .ref bS, .ref bH, .ref bP, .int up, .int ue, .int ut, .ref bT, .int um])), (bN, .inl (cyI, 225, .inl un')), (bQ, .inl (cyI, 1350, .inl uq')), (bS, .inl (cyI, 450, .inl ul)), (bH, .inl (cyZ, 2, .inl uh))]) 0 0 (va_A [(bM, .inr (7, [.ref bN, .ref bQ, .int us, .ref bS, .ref bH, .ref bP, .int up, .int ue, .int ut, .ref bT, .int um])), (bN, .inl (cyI, 225, .inl un)), (bQ, .inl (cyI, 1350, .inl uq)), (bS, .inl (cyI, 450, .inl ul)), (bH, .inl (cyZ, 2, .inl uh))] sz) := by
  refine Met.ofW (cc := cX7_restore) (maxL := 2) (ret := (some .int)) (by decide) rfl ?_
  intro p e s m args below meth c s₁ B hml hv
  obtain ⟨rfl, hsz, hP, hK, hD0⟩ := hv
  have hx := B.exec
  have hb := B.bytes
  have hr := B.returns
  have hts := atoms_spec (ws := wsX7_restore) B.pre
  have hown : s.vm.findClass RX7 = some m.cls := findClass_of_methodNamed B.named
  have hlocks := B.notSynchronized
  subst hsz
  have hD := hD0.self (sz := s.heap.size)
  generalize hAe : va_A [(bM, .inr (7, [.ref bN, .ref bQ, .int us, .ref bS, .ref bH, .ref bP, .int up, .int ue, .int ut, .ref bT, .int um])), (bN, .inl (cyI, 225, .inl un)), (bQ, .inl (cyI, 1350, .inl uq)), (bS, .inl (cyI, 450, .inl ul)), (bH, .inl (cyZ, 2, .inl uh))] s.heap.size = A at hD ⊢
  have hA : ∀ q : Nat, s.heap.size ≤ q → A q := fun q h => by rw [← hAe]; exact Or.inr h
  have hS : va_S A s.heap s.heap [] := va_S.rf
  have hP : va_P D vwCl [(bM, .inr (7, [.ref bN, .ref bQ, .int us, .ref bS, .ref bH, .ref bP, .int up, .int ue, .int ut, .ref bT, .int um])), (bN, .inl (cyI, 225, .inl un)), (bQ, .inl (cyI, 1350, .inl uq)), (bS, .inl (cyI, 450, .inl ul)), (bH, .inl (cyZ, 2, .inl uh))] s.heap := hP
  have hl := lv_entry ([.ref bM, .int x1]) (n := 2) (Nat.le_of_ble_eq_true rfl)
  rw [lg_entry_eq]
  generalize (lg_sl ([.ref bM, .int x1]) ++ List.replicate (2 - (lg_sl ([.ref bM, .int x1])).length) Slot.unset).toArray = ls at hl ⊢
  have hl : lv_has ls 2 [(0, .ref bM), (1, .int x1)] := hl
  unfold p_X7_restore at hF
  refine lv_iload_n hx hb dX7_restore_0 rfl (lv_at hl 1 rfl) ?_
  refine lv_iconst (v := (0 : Int32)) hx hb dX7_restore_1 (by decide) ?_
  refine lv_iconst (v := (1 : Int32)) hx hb dX7_restore_2 (by decide) ?_
  obtain ⟨r3, hC, hF⟩ := k_c1_ex hF
  refine x_SR (As := [.int x1, .int (0 : Int32), .int (1 : Int32)]) (rest := []) ⟨hx, hb, hml, hown, hts⟩ (c_X7_in l D cyI cyZ N x1 (0 : Int32) (1 : Int32) hC) (va_cwS 3 hts gX7_restore_X7_in rfl rfl rfl (by decide +kernel) ⟨Nat.le_of_ble_eq_true rfl, Nat.le_of_ble_eq_true rfl⟩) hK hP hS [] rfl rfl hl.1 rfl (Nat.le_of_ble_eq_true rfl) ⟨Nat.zero_le _, Nat.zero_le _⟩ dX7_restore_3 (fun H locs hP hS => ?_)
  refine lv_if_ne (tgt := 12) hx hb dX7_restore_6 (by decide) (fun hc => ?_) (fun hc => ?_)
  · have hF := k_if_f hF hc
    refine lv_aload_n hx hb dX7_restore_12 rfl (lv_at hl 0 rfl) ?_
    refine va_get (D := D) (ci := 7) (v := .ref bH) (C := RX7) (T := TX7) (N := 11) hx hb hts mi_X7_restore_X7 hown hK.1 hP 0 rfl rfl 4 (by decide) (hts _ mm_X7_restore_1) (fun _ h9 => h9) rfl dX7_restore_13 ?_
    refine lv_iload_n hx hb dX7_restore_16 rfl (lv_at hl 1 rfl) ?_
    obtain ⟨r17, hin, hn, hF⟩ := k_ld_ex hF
    refine x_zald hx hb hK hP 4 rfl hin hn dX7_restore_17 ?_
    refine lv_if_ne (tgt := 24) hx hb dX7_restore_18 (by decide) (fun hc => ?_) (fun hc => ?_)
    · have hF := k_if_f hF hc
      refine lv_aload_n hx hb dX7_restore_24 rfl (lv_at hl 0 rfl) ?_
      obtain ⟨us_25, uq_25, hC, hF⟩ := k_c2_ex hF
      refine x_VV (As := []) (rest := []) ⟨hx, hb, hml, hown, hts⟩ (c_X7_records l D cyI cyZ bM bN bQ bS bH bP bT H.size N us up ue ut um un uq hC) (cwV 0 hts gX7_restore_X7_records rfl rfl rfl (by decide +kernel) ⟨Nat.le_of_ble_eq_true rfl, Nat.le_of_ble_eq_true rfl⟩) hK hP hD hS hA [0, 1, 2] rfl rfl rfl 0 rfl rfl rfl rfl hl.1 rfl (Nat.le_of_ble_eq_true rfl) ⟨Nat.zero_le _, Nat.zero_le _⟩ dX7_restore_25 (fun H locs hP hD hS => ?_)
      have hP : va_P D vwCl [(bM, .inr (7, [.ref bN, .ref bQ, .int us_25, .ref bS, .ref bH, .ref bP, .int up, .int ue, .int ut, .ref bT, .int um])), (bN, .inl (cyI, 225, .inl un)), (bQ, .inl (cyI, 1350, .inl uq_25)), (bS, .inl (cyI, 450, .inl ul)), (bH, .inl (cyZ, 2, .inl uh))] H := hP
      have hD : va_D A [(bM, .inr (7, [.ref bN, .ref bQ, .int us_25, .ref bS, .ref bH, .ref bP, .int up, .int ue, .int ut, .ref bT, .int um])), (bN, .inl (cyI, 225, .inl un)), (bQ, .inl (cyI, 1350, .inl uq_25)), (bS, .inl (cyI, 450, .inl ul)), (bH, .inl (cyZ, 2, .inl uh))] := hD
      refine lv_aload_n hx hb dX7_restore_28 rfl (lv_at hl 0 rfl) ?_
      refine va_get (D := D) (ci := 7) (v := .ref bS) (C := RX7) (T := TX7) (N := 11) hx hb hts mi_X7_restore_X7 hown hK.1 hP 0 rfl rfl 3 (by decide) (hts _ mm_X7_restore_2) (fun _ h9 => h9) rfl dX7_restore_29 ?_
      refine lv_sipush (v := (225 : Int32)) hx hb dX7_restore_32 (by decide) ?_
      refine lv_iload_n hx hb dX7_restore_35 rfl (lv_at hl 1 rfl) ?_
      refine lv_imul hx hb dX7_restore_36 ?_
      refine lv_aload_n hx hb dX7_restore_37 rfl (lv_at hl 0 rfl) ?_
      refine va_get (D := D) (ci := 7) (v := .ref bN) (C := RX7) (T := TX7) (N := 11) hx hb hts mi_X7_restore_X7 hown hK.1 hP 0 rfl rfl 0 (by decide) (hts _ mm_X7_restore_3) (fun _ h9 => h9) rfl dX7_restore_38 ?_
      refine lv_iconst (v := (0 : Int32)) hx hb dX7_restore_41 (by decide) ?_
      obtain ⟨un_42, hC, hF⟩ := k_c1_ex hF
      refine x_SV (As := [.ref bS, .int ((225 : Int32) * x1), .ref bN, .int (0 : Int32)]) (rest := []) ⟨hx, hb, hml, hown, hts⟩ (c_X7_lays_zS_zN l D cyI cyZ bN bS H.size N ((225 : Int32) * x1) (0 : Int32) un ul hC) (va_cwS 4 hts gX7_restore_X7_lays rfl rfl rfl (by decide +kernel) ⟨Nat.le_of_ble_eq_true rfl, Nat.le_of_ble_eq_true rfl⟩) hK hP hD hS hA [1, 3] rfl rfl rfl rfl hl.1 rfl (Nat.le_of_ble_eq_true rfl) ⟨Nat.zero_le _, Nat.zero_le _⟩ dX7_restore_42 (fun H locs hP hD hS => ?_)
      have hP : va_P D vwCl [(bM, .inr (7, [.ref bN, .ref bQ, .int us_25, .ref bS, .ref bH, .ref bP, .int up, .int ue, .int ut, .ref bT, .int um])), (bN, .inl (cyI, 225, .inl un_42)), (bQ, .inl (cyI, 1350, .inl uq_25)), (bS, .inl (cyI, 450, .inl ul)), (bH, .inl (cyZ, 2, .inl uh))] H := hP
      have hD : va_D A [(bM, .inr (7, [.ref bN, .ref bQ, .int us_25, .ref bS, .ref bH, .ref bP, .int up, .int ue, .int ut, .ref bT, .int um])), (bN, .inl (cyI, 225, .inl un_42)), (bQ, .inl (cyI, 1350, .inl uq_25)), (bS, .inl (cyI, 450, .inl ul)), (bH, .inl (cyZ, 2, .inl uh))] := hD
      refine lv_aload_n hx hb dX7_restore_45 rfl (lv_at hl 0 rfl) ?_
      refine va_get (D := D) (ci := 7) (v := .ref bN) (C := RX7) (T := TX7) (N := 11) hx hb hts mi_X7_restore_X7 hown hK.1 hP 0 rfl rfl 0 (by decide) (hts _ mm_X7_restore_3) (fun _ h9 => h9) rfl dX7_restore_46 ?_
      refine lv_iconst (v := (3 : Int32)) hx hb dX7_restore_49 (by decide) ?_
      obtain ⟨r50, hin, hn, hF⟩ := k_ld_ex hF
      refine x_iald hx hb hK hP 1 rfl hin hn dX7_restore_50 ?_
      obtain ⟨e0, e1, e2, e3⟩ := k_inj4 hF
      have hP9 : va_P D vwCl [(bM, .inr (7, [.ref bN, .ref bQ, .int us', .ref bS, .ref bH, .ref bP, .int up, .int ue, .int ut, .ref bT, .int um])), (bN, .inl (cyI, 225, .inl un')), (bQ, .inl (cyI, 1350, .inl uq')), (bS, .inl (cyI, 450, .inl ul)), (bH, .inl (cyZ, 2, .inl uh))] H := by rw [← e1, ← e2, ← e3]; exact hP
      exact W.iret hx hb hr (fun t ht hW => ⟨⟨_, (), rfl, e0, x_ret hP9 ht⟩, hS.F ht⟩) hS.2.2 dX7_restore_51
    · have hF := k_if_t hF hc
      refine lv_bipush (v := (-5 : Int32)) hx hb dX7_restore_21 (by decide) ?_
      obtain ⟨e0, e1, e2, e3⟩ := k_inj4 hF
      have hP9 : va_P D vwCl [(bM, .inr (7, [.ref bN, .ref bQ, .int us', .ref bS, .ref bH, .ref bP, .int up, .int ue, .int ut, .ref bT, .int um])), (bN, .inl (cyI, 225, .inl un')), (bQ, .inl (cyI, 1350, .inl uq')), (bS, .inl (cyI, 450, .inl ul)), (bH, .inl (cyZ, 2, .inl uh))] H := by rw [← e1, ← e2, ← e3]; exact hP
      exact W.iret hx hb hr (fun t ht hW => ⟨⟨_, (), rfl, e0, x_ret hP9 ht⟩, hS.F ht⟩) hS.2.2 dX7_restore_23
  · have hF := k_if_t hF hc
    refine lv_bipush (v := (-2 : Int32)) hx hb dX7_restore_9 (by decide) ?_
    obtain ⟨e0, e1, e2, e3⟩ := k_inj4 hF
    have hP9 : va_P D vwCl [(bM, .inr (7, [.ref bN, .ref bQ, .int us', .ref bS, .ref bH, .ref bP, .int up, .int ue, .int ut, .ref bT, .int um])), (bN, .inl (cyI, 225, .inl un')), (bQ, .inl (cyI, 1350, .inl uq')), (bS, .inl (cyI, 450, .inl ul)), (bH, .inl (cyZ, 2, .inl uh))] H := by rw [← e1, ← e2, ← e3]; exact hP
    exact W.iret hx hb hr (fun t ht hW => ⟨⟨_, (), rfl, e0, x_ret hP9 ht⟩, hS.F ht⟩) hS.2.2 dX7_restore_11
