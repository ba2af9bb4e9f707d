set_option maxHeartbeats 4000000 in
set_option maxRecDepth 100000 in
theorem c_X5_leastMultiple (l : Launch) (D : va_G) (cyI cyZ : ClassId) (N : Nat) (x0 : Int32) (x1 : Int32) {r0 : Int32}  (hF : p_X5_leastMultiple N x0 x1 = some (r0)) : Met l yX5_leastMultiple wsX5_leastMultiple ({ frames := 0, cells := 0, slots := 0, locals := 0 }) (x_PR D cyI cyZ [.int x0, .int x1] []) (x_QR r0) 0 0 (fun _ => False) := by
  refine Met.ofW (cc := cX5_leastMultiple) (maxL := 3) (ret := (some .int)) (by decide) rfl ?_
  intro p e s m args below meth c s₁ B hml hv
  obtain ⟨rfl, hP, hK⟩ := hv
  have hx := B.exec
  have hb := B.bytes
  have hr := B.returns
  have hts := atoms_spec (ws := wsX5_leastMultiple) B.pre
  have hown : s.vm.findClass RX5 = some m.cls := findClass_of_methodNamed B.named
  have hlocks := B.notSynchronized
  have hS : va_S (fun _ => False) s.heap s.heap [] := va_S.rf
  have hP : va_P D vwCl [] s.heap := hP
  have hl := lv_entry ([.int x0, .int x1]) (n := 3) (Nat.le_of_ble_eq_true rfl)
  rw [lg_entry_eq]
  generalize (lg_sl ([.int x0, .int x1]) ++ List.replicate (3 - (lg_sl ([.int x0, .int x1])).length) Slot.unset).toArray = ls at hl ⊢
  have hl : lv_has ls 3 [(0, .int x0), (1, .int x1)] := hl
  refine x_gen (fun G hG => ?_)
  have blk_2 : ∀ (n_2 : Nat) (x0 : Int32) (x1 : Int32) (x2 : Int32), f_X5_leastMultiple_2 N n_2 x0 x1 x2 = some (r0) → ∀ (H : Heap) (locs : List Loc) (ls : Array Slot), va_P D vwCl [] H → va_S (fun _ => False) s.heap H locs → lv_has ls 3 [(0, .int x0), (1, .int x1), (2, .int x2)] → G H locs (F0 m 2 ls []) := by
    intro n_2
    induction n_2 with
    | zero => intro x0 x1 x2 hF; exact (k_none hF).elim
    | succ n_2 ih_2 =>
      intro x0 x1 x2 hF H locs ls hP hS hl
      replace hF : b_X5_leastMultiple_2 N (f_X5_leastMultiple_2 N n_2) x0 x1 x2 = some (r0) := hF
      unfold b_X5_leastMultiple_2 at hF
      refine (hG _ _ _).2 ?_
      refine lv_iload_n hx hb dX5_leastMultiple_2 rfl (lv_at hl 2 rfl) ?_
      refine lv_iload_n hx hb dX5_leastMultiple_3 rfl (lv_at hl 1 rfl) ?_
      refine lv_icmp_ge (tgt := 25) hx hb dX5_leastMultiple_4 (by decide) (fun hc => ?_) (fun hc => ?_)
      · have hF := k_if_t hF hc
        refine lv_iload_n hx hb dX5_leastMultiple_25 rfl (lv_at hl 0 rfl) ?_
        refine lv_iload_n hx hb dX5_leastMultiple_26 rfl (lv_at hl 1 rfl) ?_
        refine lv_imul hx hb dX5_leastMultiple_27 ?_
        exact W.iret hx hb hr (fun t ht hW => ⟨⟨_, (), rfl, Option.some.inj hF, trivial⟩, hS.F ht⟩) hS.2.2 dX5_leastMultiple_28
      · have hF := k_if_f hF hc
        refine lv_iload_n hx hb dX5_leastMultiple_7 rfl (lv_at hl 0 rfl) ?_
        refine lv_iload_n hx hb dX5_leastMultiple_8 rfl (lv_at hl 2 rfl) ?_
        refine lv_imul hx hb dX5_leastMultiple_9 ?_
        refine lv_iload_n hx hb dX5_leastMultiple_10 rfl (lv_at hl 1 rfl) ?_
        obtain ⟨hz, hF⟩ := k_nz_ex hF
        refine lv_irem hx hb dX5_leastMultiple_11 hz ?_
        refine lv_if_ne (tgt := 19) hx hb dX5_leastMultiple_12 (by decide) (fun hc => ?_) (fun hc => ?_)
        · have hF := k_if_f hF hc
          obtain ⟨x2_19, hn, hF⟩ := k_let_ex hF
          refine lv_iinc (v := x2_19) (lv' := [(2, .int x2_19), (0, .int x0), (1, .int x1)]) hx hb dX5_leastMultiple_19 hl (k := 2) rfl (by rw [hn]; rfl) (by decide) rfl (fun ls hl => ?_)
          refine lv_goto (tgt := 2) hx hb dX5_leastMultiple_22 (by decide) ?_
          exact (hG _ _ _).1 (ih_2 x0 x1 x2_19 hF _ _ _ hP hS (lv_sub hl [1, 2, 0] rfl))
        · have hF := k_if_t hF hc
          refine lv_iload_n hx hb dX5_leastMultiple_15 rfl (lv_at hl 0 rfl) ?_
          refine lv_iload_n hx hb dX5_leastMultiple_16 rfl (lv_at hl 2 rfl) ?_
          refine lv_imul hx hb dX5_leastMultiple_17 ?_
          exact W.iret hx hb hr (fun t ht hW => ⟨⟨_, (), rfl, Option.some.inj hF, trivial⟩, hS.F ht⟩) hS.2.2 dX5_leastMultiple_18
  refine (hG _ _ _).2 ?_
  unfold p_X5_leastMultiple at hF
  refine lv_iconst (v := (1 : Int32)) hx hb dX5_leastMultiple_0 (by decide) ?_
  refine lv_istore_n (lv' := [(2, .int (1 : Int32)), (0, .int x0), (1, .int x1)]) hx hb dX5_leastMultiple_1 rfl hl (by decide) rfl (fun ls hl => ?_)
  exact (hG _ _ _).1 (blk_2 N x0 x1 (1 : Int32) hF _ _ _ hP hS (lv_sub hl [1, 2, 0] rfl))
set_option maxHeartbeats 4000000 in
set_option maxRecDepth 100000 in
theorem c_X5_next (l : Launch) (D : va_G) (cyI cyZ : ClassId) (N : Nat) (x0 : Int32) (x1 : Int32) {r0 : Int32}  (hF : p_X5_next N x0 x1 = some (r0)) : Met l yX5_next wsX5_next ({ frames := 0, cells := 0, slots := 0, locals := 0 }) (x_PR D cyI cyZ [.int x0, .int x1] []) (x_QR r0) 0 0 (fun _ => False) := by
  refine Met.ofW (cc := cX5_next) (maxL := 2) (ret := (some .int)) (by decide) rfl ?_
  intro p e s m args below meth c s₁ B hml hv
  obtain ⟨rfl, hP, hK⟩ := hv
  have hx := B.exec
  have hb := B.bytes
  have hr := B.returns
  have hts := atoms_spec (ws := wsX5_next) B.pre
  have hown : s.vm.findClass RX5 = some m.cls := findClass_of_methodNamed B.named
  have hlocks := B.notSynchronized
  have hS : va_S (fun _ => False) s.heap s.heap [] := va_S.rf
  have hP : va_P D vwCl [] s.heap := hP
  have hl := lv_entry ([.int x0, .int x1]) (n := 2) (Nat.le_of_ble_eq_true rfl)
  rw [lg_entry_eq]
  generalize (lg_sl ([.int x0, .int x1]) ++ List.replicate (2 - (lg_sl ([.int x0, .int x1])).length) Slot.unset).toArray = ls at hl ⊢
  have hl : lv_has ls 2 [(0, .int x0), (1, .int x1)] := hl
  unfold p_X5_next at hF
  refine lv_iload_n hx hb dX5_next_0 rfl (lv_at hl 0 rfl) ?_
  refine lv_iconst (v := (1 : Int32)) hx hb dX5_next_1 (by decide) ?_
  refine lv_iadd hx hb dX5_next_2 ?_
  refine lv_iload_n hx hb dX5_next_3 rfl (lv_at hl 1 rfl) ?_
  refine lv_icmp_ge (tgt := 13) hx hb dX5_next_4 (by decide) (fun hc => ?_) (fun hc => ?_)
  · have hF := k_if_t hF hc
    refine lv_iconst (v := (0 : Int32)) hx hb dX5_next_13 (by decide) ?_
    exact W.iret hx hb hr (fun t ht hW => ⟨⟨_, (), rfl, Option.some.inj hF, trivial⟩, hS.F ht⟩) hS.2.2 dX5_next_14
  · have hF := k_if_f hF hc
    refine lv_iload_n hx hb dX5_next_7 rfl (lv_at hl 0 rfl) ?_
    refine lv_iconst (v := (1 : Int32)) hx hb dX5_next_8 (by decide) ?_
    refine lv_iadd hx hb dX5_next_9 ?_
    refine lv_goto (tgt := 14) hx hb dX5_next_10 (by decide) ?_
    exact W.iret hx hb hr (fun t ht hW => ⟨⟨_, (), rfl, Option.some.inj hF, trivial⟩, hS.F ht⟩) hS.2.2 dX5_next_14
theorem mm_X5_lay_1 : Cond.methodLink RX5 25 Lib.Math.min.name ∈ wsX5_lay := List.mem_of_getElem? (i := 1) rfl
theorem mm_X5_lay_2 : Cond.static Lib.Math.min.name ∈ wsX5_lay := List.mem_of_getElem? (i := 2) rfl
theorem mm_X5_lay_3 : Cond.initialized "java/lang/Math" ∈ wsX5_lay := List.mem_of_getElem? (i := 3) rfl
theorem mm_X5_lay_4 : Cond.code Lib.Math.min.name Lib.Math.min.code 2 (some .int) ∈ wsX5_lay := List.mem_of_getElem? (i := 4) rfl
theorem mm_X5_lay_5 : Cond.fieldLink RX5 30 "RollerMesh$Turn" "length" "I" ∈ wsX5_lay := List.mem_of_getElem? (i := 5) rfl
theorem mm_X5_lay_6 : Cond.fieldLink RX5 11 "RollerMesh$Turn" "presses" "[I" ∈ wsX5_lay := List.mem_of_getElem? (i := 6) rfl
theorem mi_X5_lay_X5 : ∀ w ∈ wsX50, w ∈ wsX5_lay := fun _ h => List.mem_cons_of_mem _ (List.mem_append_left _ (List.mem_append_right _ h))
set_option maxHeartbeats 4000000 in
set_option maxRecDepth 100000 in
theorem c_X5_lay (l : Launch) (D : va_G) (cyI cyZ : ClassId) (aS aC aT aTp : Nat) (sz : Nat) (N : Nat) (x2 : Int32) (x3 : Int32) (x4 : Int32) (x5 : Int32) (vc : (Nat → Int32)) (vtl : Int32) (vta : Int32) (vtt : Int32) (vtp : (Nat → Int32)) {vtl' : Int32} {vtp' : (Nat → Int32)} (hF : p_X5_lay N x2 x3 x4 x5 vc vtl vta vtt vtp = some (vtl', vtp')) : Met l yX5_lay wsX5_lay ({ frames := 2, cells := 0, slots := 0, locals := 43 }) (x_PM D cyI cyZ [.ref aT, .ref aS, .int x2, .int x3, .int x4, .int x5] [(aS, .inr (3, [.ref aC])), (aC, .inl (cyI, 225, .inl vc)), (aT, .inr (5, [.ref aTp, .int vtl, .int vta, .int vtt])), (aTp, .inl (cyI, 552, .inl vtp))] sz) (x_QV D (va_A [(aS, .inr (3, [.ref aC])), (aC, .inl (cyI, 225, .inl vc)), (aT, .inr (5, [.ref aTp, .int vtl, .int vta, .int vtt])), (aTp, .inl (cyI, 552, .inl vtp))] sz) [(aS, .inr (3, [.ref aC])), (aC, .inl (cyI, 225, .inl vc)), (aT, .inr (5, [.ref aTp, .int vtl', .int vta, .int vtt])), (aTp, .inl (cyI, 552, .inl vtp'))]) 0 0 (va_A [(aS, .inr (3, [.ref aC])), (aC, .inl (cyI, 225, .inl vc)), (aT, .inr (5, [.ref aTp, .int vtl, .int vta, .int vtt])), (aTp, .inl (cyI, 552, .inl vtp))] sz) := by
  refine Met.ofW (cc := cX5_lay) (maxL := 11) (ret := none) (by decide) rfl ?_
  intro p e s m args below meth c s₁ B hml hv
  obtain ⟨rfl, hsz, hP, hK, hD0⟩ := hv
  have hx := B.exec
  have hb := B.bytes
  have hr := B.returns
  have hts := atoms_spec (ws := wsX5_lay) B.pre
  have hown : s.vm.findClass RX5 = some m.cls := findClass_of_methodNamed B.named
  have hlocks := B.notSynchronized
  subst hsz
  have hD := hD0.self (sz := s.heap.size)
  generalize hAe : va_A [(aS, .inr (3, [.ref aC])), (aC, .inl (cyI, 225, .inl vc)), (aT, .inr (5, [.ref aTp, .int vtl, .int vta, .int vtt])), (aTp, .inl (cyI, 552, .inl vtp))] s.heap.size = A at hD ⊢
  have hA : ∀ q : Nat, s.heap.size ≤ q → A q := fun q h => by rw [← hAe]; exact Or.inr h
  have hS : va_S A s.heap s.heap [] := va_S.rf
  have hP : va_P D vwCl [(aS, .inr (3, [.ref aC])), (aC, .inl (cyI, 225, .inl vc)), (aT, .inr (5, [.ref aTp, .int vtl, .int vta, .int vtt])), (aTp, .inl (cyI, 552, .inl vtp))] s.heap := hP
  have hl := lv_entry ([.ref aT, .ref aS, .int x2, .int x3, .int x4, .int x5]) (n := 11) (Nat.le_of_ble_eq_true rfl)
  rw [lg_entry_eq]
  generalize (lg_sl ([.ref aT, .ref aS, .int x2, .int x3, .int x4, .int x5]) ++ List.replicate (11 - (lg_sl ([.ref aT, .ref aS, .int x2, .int x3, .int x4, .int x5])).length) Slot.unset).toArray = ls at hl ⊢
  have hl : lv_has ls 11 [(0, .ref aT), (1, .ref aS), (2, .int x2), (3, .int x3), (4, .int x4), (5, .int x5)] := hl
  refine x_gen (fun G hG => ?_)
  have blk_53 : ∀ (n_53 : Nat) (x2 : Int32) (x3 : Int32) (x5 : Int32) (x6 : Int32) (x7 : Int32) (x8 : Int32) (x9 : Int32) (x10 : Int32) (vtl : Int32) (vtp : (Nat → Int32)), f_X5_lay_53 N n_53 x2 x3 x5 x6 x7 x8 x9 x10 vc vtl vta vtt vtp = some (vtl', vtp') → ∀ (H : Heap) (locs : List Loc) (ls : Array Slot), va_P D vwCl [(aS, .inr (3, [.ref aC])), (aC, .inl (cyI, 225, .inl vc)), (aT, .inr (5, [.ref aTp, .int vtl, .int vta, .int vtt])), (aTp, .inl (cyI, 552, .inl vtp))] H → va_D A [(aS, .inr (3, [.ref aC])), (aC, .inl (cyI, 225, .inl vc)), (aT, .inr (5, [.ref aTp, .int vtl, .int vta, .int vtt])), (aTp, .inl (cyI, 552, .inl vtp))] → va_S A s.heap H locs → lv_has ls 11 [(0, .ref aT), (1, .ref aS), (2, .int x2), (3, .int x3), (5, .int x5), (6, .int x6), (7, .int x7), (8, .int x8), (9, .int x9), (10, .int x10)] → G H locs (F0 m 53 ls []) := by
    intro n_53
    induction n_53 with
    | zero => intro x2 x3 x5 x6 x7 x8 x9 x10 vtl vtp hF; exact (k_none hF).elim
    | succ n_53 ih_53 =>
      intro x2 x3 x5 x6 x7 x8 x9 x10 vtl vtp hF H locs ls hP hD hS hl
      replace hF : b_X5_lay_53 N (f_X5_lay_53 N n_53) x2 x3 x5 x6 x7 x8 x9 x10 vc vtl vta vtt vtp = some (vtl', vtp') := hF
      unfold b_X5_lay_53 at hF
      refine (hG _ _ _).2 ?_
      refine lv_iload hx hb dX5_lay_53 (lv_at hl 9 rfl) ?_
      refine lv_aload_n hx hb dX5_lay_55 rfl (lv_at hl 0 rfl) ?_
      refine va_get (D := D) (ci := 5) (v := .int vtl) (C := RX5) (T := TX5) (N := 4) hx hb hts mi_X5_lay_X5 hown hK.1 hP 2 rfl rfl 1 (by decide) (hts _ mm_X5_lay_5) (fun _ h9 => h9) rfl dX5_lay_56 ?_
      refine lv_icmp_ge (tgt := 121) hx hb dX5_lay_59 (by decide) (fun hc => ?_) (fun hc => ?_)
      · have hF := k_if_t hF hc
        obtain ⟨e0, e1⟩ := k_inj2 hF
        have hP9 : va_P D vwCl [(aS, .inr (3, [.ref aC])), (aC, .inl (cyI, 225, .inl vc)), (aT, .inr (5, [.ref aTp, .int vtl', .int vta, .int vtt])), (aTp, .inl (cyI, 552, .inl vtp'))] H := by rw [← e0, ← e1]; exact hP
        exact W.vret hx hb hr (fun t ht hW => ⟨⟨(), rfl, trivial, x_ret hP9 ht⟩, hS.F ht⟩) hS.2.2 dX5_lay_121
      · have hF := k_if_f hF hc
        refine lv_iload hx hb dX5_lay_62 (lv_at hl 9 rfl) ?_
        refine lv_aload_n hx hb dX5_lay_64 rfl (lv_at hl 0 rfl) ?_
        refine va_get (D := D) (ci := 5) (v := .ref aTp) (C := RX5) (T := TX5) (N := 4) hx hb hts mi_X5_lay_X5 hown hK.1 hP 2 rfl rfl 0 (by decide) (hts _ mm_X5_lay_6) (fun _ h9 => h9) rfl dX5_lay_65 ?_
        refine x_alen (v := (552 : Int32)) hx hb hK hP 3 rfl rfl dX5_lay_68 ?_
        refine lv_icmp_ge (tgt := 121) hx hb dX5_lay_69 (by decide) (fun hc => ?_) (fun hc => ?_)
        · have hF := k_if_t hF hc
          obtain ⟨e0, e1⟩ := k_inj2 hF
          have hP9 : va_P D vwCl [(aS, .inr (3, [.ref aC])), (aC, .inl (cyI, 225, .inl vc)), (aT, .inr (5, [.ref aTp, .int vtl', .int vta, .int vtt])), (aTp, .inl (cyI, 552, .inl vtp'))] H := by rw [← e0, ← e1]; exact hP
          exact W.vret hx hb hr (fun t ht hW => ⟨⟨(), rfl, trivial, x_ret hP9 ht⟩, hS.F ht⟩) hS.2.2 dX5_lay_121
        · have hF := k_if_f hF hc
          refine lv_aload_n hx hb dX5_lay_72 rfl (lv_at hl 0 rfl) ?_
          refine va_get (D := D) (ci := 5) (v := .ref aTp) (C := RX5) (T := TX5) (N := 4) hx hb hts mi_X5_lay_X5 hown hK.1 hP 2 rfl rfl 0 (by decide) (hts _ mm_X5_lay_6) (fun _ h9 => h9) rfl dX5_lay_73 ?_
          refine lv_iload hx hb dX5_lay_76 (lv_at hl 9 rfl) ?_
          refine lv_iload hx hb dX5_lay_78 (lv_at hl 4 rfl) ?_
          refine lv_aload_n hx hb dX5_lay_80 rfl (lv_at hl 1 rfl) ?_
          refine lv_iload_n hx hb dX5_lay_81 rfl (lv_at hl 2 rfl) ?_
          refine lv_iload hx hb dX5_lay_82 (lv_at hl 7 rfl) ?_
          obtain ⟨r84, hC, hF⟩ := k_c1_ex hF
          refine x_VR (As := [.int x2, .int x8]) (rest := [.int x5, .int x10, .ref aTp]) ⟨hx, hb, hml, hown, hts⟩ (c_X3_height l D cyI cyZ aS aC N x2 x8 vc hC) (cwV 2 hts gX5_lay_X3_height rfl rfl rfl (by decide +kernel) ⟨Nat.le_of_ble_eq_true rfl, Nat.le_of_ble_eq_true rfl⟩) hK hP hS [0, 1] rfl 0 rfl rfl rfl rfl hl.1 rfl (Nat.le_of_ble_eq_true rfl) ⟨Nat.zero_le _, Nat.zero_le _⟩ dX5_lay_84 (fun H locs hP hS => ?_)
          refine lv_isub hx hb dX5_lay_87 ?_
          refine lv_aload_n hx hb dX5_lay_88 rfl (lv_at hl 1 rfl) ?_
          refine lv_iload_n hx hb dX5_lay_89 rfl (lv_at hl 3 rfl) ?_
          refine lv_iload hx hb dX5_lay_90 (lv_at hl 8 rfl) ?_
          obtain ⟨r92, hC, hF⟩ := k_c1_ex hF
          refine x_VR (As := [.int x3, .int x9]) (rest := [.int (x5 - r84), .int x10, .ref aTp]) ⟨hx, hb, hml, hown, hts⟩ (c_X3_height l D cyI cyZ aS aC N x3 x9 vc hC) (cwV 2 hts gX5_lay_X3_height rfl rfl rfl (by decide +kernel) ⟨Nat.le_of_ble_eq_true rfl, Nat.le_of_ble_eq_true rfl⟩) hK hP hS [0, 1] rfl 0 rfl rfl rfl rfl hl.1 rfl (Nat.le_of_ble_eq_true rfl) ⟨Nat.zero_le _, Nat.zero_le _⟩ dX5_lay_92 (fun H locs hP hS => ?_)
          refine lv_isub hx hb dX5_lay_95 ?_
          obtain ⟨vtp_96, hin, hn, hF⟩ := k_st_ex hF
          refine x_iast hx hb hK hP hD hS 3 rfl hin hn dX5_lay_96 (fun H locs hP hD hS => ?_)
          have hP : va_P D vwCl [(aS, .inr (3, [.ref aC])), (aC, .inl (cyI, 225, .inl vc)), (aT, .inr (5, [.ref aTp, .int vtl, .int vta, .int vtt])), (aTp, .inl (cyI, 552, .inl vtp_96))] H := hP
          have hD : va_D A [(aS, .inr (3, [.ref aC])), (aC, .inl (cyI, 225, .inl vc)), (aT, .inr (5, [.ref aTp, .int vtl, .int vta, .int vtt])), (aTp, .inl (cyI, 552, .inl vtp_96))] := hD
          refine lv_iload hx hb dX5_lay_97 (lv_at hl 7 rfl) ?_
          refine lv_iload hx hb dX5_lay_99 (lv_at hl 5 rfl) ?_
          obtain ⟨r101, hC, hF⟩ := k_c1_ex hF
          refine x_SR (As := [.int x8, .int x6]) (rest := []) ⟨hx, hb, hml, hown, hts⟩ (c_X5_next l D cyI cyZ N x8 x6 hC) (va_cwS 2 hts gX5_lay_X5_next rfl rfl rfl (by decide +kernel) ⟨Nat.le_of_ble_eq_true rfl, Nat.le_of_ble_eq_true rfl⟩) hK hP hS [] rfl rfl hl.1 rfl (Nat.le_of_ble_eq_true rfl) ⟨Nat.zero_le _, Nat.zero_le _⟩ dX5_lay_101 (fun H locs hP hS => ?_)
          refine lv_istore (lv' := [(8, .int r101), (0, .ref aT), (1, .ref aS), (2, .int x2), (3, .int x3), (5, .int x5), (6, .int x6), (7, .int x7), (9, .int x9), (10, .int x10)]) hx hb dX5_lay_104 hl (by decide) rfl (fun ls hl => ?_)
          refine lv_iload hx hb dX5_lay_106 (lv_at hl 8 rfl) ?_
          refine lv_iload hx hb dX5_lay_108 (lv_at hl 7 rfl) ?_
          obtain ⟨r110, hC, hF⟩ := k_c1_ex hF
          refine x_SR (As := [.int x9, .int x7]) (rest := []) ⟨hx, hb, hml, hown, hts⟩ (c_X5_next l D cyI cyZ N x9 x7 hC) (va_cwS 2 hts gX5_lay_X5_next rfl rfl rfl (by decide +kernel) ⟨Nat.le_of_ble_eq_true rfl, Nat.le_of_ble_eq_true rfl⟩) hK hP hS [] rfl rfl hl.1 rfl (Nat.le_of_ble_eq_true rfl) ⟨Nat.zero_le _, Nat.zero_le _⟩ dX5_lay_110 (fun H locs hP hS => ?_)
          refine lv_istore (lv' := [(9, .int r110), (8, .int r101), (0, .ref aT), (1, .ref aS), (2, .int x2), (3, .int x3), (5, .int x5), (6, .int x6), (7, .int x7), (10, .int x10)]) hx hb dX5_lay_113 hl (by decide) rfl (fun ls hl => ?_)
          obtain ⟨x10_115, hn, hF⟩ := k_let_ex hF
          refine lv_iinc (v := x10_115) (lv' := [(10, .int x10_115), (9, .int r110), (8, .int r101), (0, .ref aT), (1, .ref aS), (2, .int x2), (3, .int x3), (5, .int x5), (6, .int x6), (7, .int x7)]) hx hb dX5_lay_115 hl (k := 9) rfl (by rw [hn]; rfl) (by decide) rfl (fun ls hl => ?_)
          refine lv_goto (tgt := 53) hx hb dX5_lay_118 (by decide) ?_
          exact (hG _ _ _).1 (ih_53 x2 x3 x5 x6 x7 r101 r110 x10_115 vtl vtp_96 hF _ _ _ hP hD hS (lv_sub hl [3, 4, 5, 6, 7, 8, 9, 2, 1, 0] rfl))
  refine (hG _ _ _).2 ?_
  unfold p_X5_lay at hF
  refine lv_aload_n hx hb dX5_lay_0 rfl (lv_at hl 1 rfl) ?_
  refine lv_iload_n hx hb dX5_lay_1 rfl (lv_at hl 2 rfl) ?_
  obtain ⟨r2, hC, hF⟩ := k_c1_ex hF
  refine x_VR (As := [.int x2]) (rest := []) ⟨hx, hb, hml, hown, hts⟩ (c_X3_teeth l D cyI cyZ aS aC N x2 vc hC) (cwV 1 hts gX5_lay_X3_teeth rfl rfl rfl (by decide +kernel) ⟨Nat.le_of_ble_eq_true rfl, Nat.le_of_ble_eq_true rfl⟩) hK hP hS [0, 1] rfl 0 rfl rfl rfl rfl hl.1 rfl (Nat.le_of_ble_eq_true rfl) ⟨Nat.zero_le _, Nat.zero_le _⟩ dX5_lay_2 (fun H locs hP hS => ?_)
  refine lv_istore (lv' := [(6, .int r2), (0, .ref aT), (1, .ref aS), (2, .int x2), (3, .int x3), (4, .int x4), (5, .int x5)]) hx hb dX5_lay_5 hl (by decide) rfl (fun ls hl => ?_)
  refine lv_aload_n hx hb dX5_lay_7 rfl (lv_at hl 2 rfl) ?_
  refine lv_iload_n hx hb dX5_lay_8 rfl (lv_at hl 4 rfl) ?_
  obtain ⟨r9, hC, hF⟩ := k_c1_ex hF
  refine x_VR (As := [.int x3]) (rest := []) ⟨hx, hb, hml, hown, hts⟩ (c_X3_teeth l D cyI cyZ aS aC N x3 vc hC) (cwV 1 hts gX5_lay_X3_teeth rfl rfl rfl (by decide +kernel) ⟨Nat.le_of_ble_eq_true rfl, Nat.le_of_ble_eq_true rfl⟩) hK hP hS [0, 1] rfl 0 rfl rfl rfl rfl hl.1 rfl (Nat.le_of_ble_eq_true rfl) ⟨Nat.zero_le _, Nat.zero_le _⟩ dX5_lay_9 (fun H locs hP hS => ?_)
  refine lv_istore (lv' := [(7, .int r9), (6, .int r2), (0, .ref aT), (1, .ref aS), (2, .int x2), (3, .int x3), (4, .int x4), (5, .int x5)]) hx hb dX5_lay_12 hl (by decide) rfl (fun ls hl => ?_)
  refine lv_aload_n hx hb dX5_lay_14 rfl (lv_at hl 2 rfl) ?_
  refine lv_iload hx hb dX5_lay_15 (lv_at hl 1 rfl) ?_
  refine lv_iload hx hb dX5_lay_17 (lv_at hl 0 rfl) ?_
  obtain ⟨r19, hC, hF⟩ := k_c1_ex hF
  refine x_SR (As := [.int r2, .int r9]) (rest := [.ref aT]) ⟨hx, hb, hml, hown, hts⟩ (c_X5_leastMultiple l D cyI cyZ N r2 r9 hC) (va_cwS 2 hts gX5_lay_X5_leastMultiple rfl rfl rfl (by decide +kernel) ⟨Nat.le_of_ble_eq_true rfl, Nat.le_of_ble_eq_true rfl⟩) hK hP hS [] rfl rfl hl.1 rfl (Nat.le_of_ble_eq_true rfl) ⟨Nat.zero_le _, Nat.zero_le _⟩ dX5_lay_19 (fun H locs hP hS => ?_)
  refine lv_sipush (v := (552 : Int32)) hx hb dX5_lay_22 (by decide) ?_
  obtain ⟨r25, hn, hF⟩ := k_let_ex hF
  refine va_mmin hx hb (hml.trans hl.1.symm) hown (hts _ mm_X5_lay_1) (hts _ mm_X5_lay_2) (hts _ mm_X5_lay_3) (hts _ mm_X5_lay_4) (Nat.le_of_ble_eq_true rfl) (Nat.le_of_ble_eq_true rfl) (Nat.zero_le _) (Nat.zero_le _) dX5_lay_25 ?_
  refine x_nm hn ?_
  refine va_put (D := D) (ci := 5) (v := .int r25) (ty := .int) (C := RX5) (T := TX5) (N := 4) hx hb hts mi_X5_lay_X5 tyX5 tyX5_ok nmX5 hown hK.1 hP hD hS 2 rfl rfl 1 (by decide) (hts _ mm_X5_lay_5) (fun _ h9 => h9) rfl (by decide +kernel) rfl rfl (Nat.le_of_ble_eq_true rfl) dX5_lay_28 (fun H locs hP hD hS => ?_)
  have hP : va_P D vwCl [(aS, .inr (3, [.ref aC])), (aC, .inl (cyI, 225, .inl vc)), (aT, .inr (5, [.ref aTp, .int r25, .int vta, .int vtt])), (aTp, .inl (cyI, 552, .inl vtp))] H := hP
  have hD : va_D A [(aS, .inr (3, [.ref aC])), (aC, .inl (cyI, 225, .inl vc)), (aT, .inr (5, [.ref aTp, .int r25, .int vta, .int vtt])), (aTp, .inl (cyI, 552, .inl vtp))] := hD
  refine lv_iconst (v := (0 : Int32)) hx hb dX5_lay_31 (by decide) ?_
  refine lv_istore (lv' := [(8, .int (0 : Int32)), (7, .int r9), (6, .int r2), (0, .ref aT), (1, .ref aS), (2, .int x2), (3, .int x3), (4, .int x4), (5, .int x5)]) hx hb dX5_lay_32 hl (by decide) rfl (fun ls hl => ?_)
  refine lv_iload hx hb dX5_lay_34 (lv_at hl 1 rfl) ?_
  refine lv_if_le (tgt := 47) hx hb dX5_lay_36 (by decide) (fun hc => ?_) (fun hc => ?_)
  · have hF := k_if_t hF hc
    refine lv_iconst (v := (0 : Int32)) hx hb dX5_lay_47 (by decide) ?_
    refine lv_istore (lv' := [(9, .int (0 : Int32)), (8, .int (0 : Int32)), (7, .int r9), (6, .int r2), (0, .ref aT), (1, .ref aS), (2, .int x2), (3, .int x3), (4, .int x4), (5, .int x5)]) hx hb dX5_lay_48 hl (by decide) rfl (fun ls hl => ?_)
    refine lv_iconst (v := (0 : Int32)) hx hb dX5_lay_50 (by decide) ?_
    refine lv_istore (lv' := [(10, .int (0 : Int32)), (9, .int (0 : Int32)), (8, .int (0 : Int32)), (7, .int r9), (6, .int r2), (0, .ref aT), (1, .ref aS), (2, .int x2), (3, .int x3), (4, .int x4), (5, .int x5)]) hx hb dX5_lay_51 hl (by decide) rfl (fun ls hl => ?_)
    exact (hG _ _ _).1 (blk_53 N x2 x3 x5 r2 r9 (0 : Int32) (0 : Int32) (0 : Int32) r25 vtp hF _ _ _ hP hD hS (lv_sub hl [5, 6, 7, 8, 10, 4, 3, 2, 1, 0] rfl))
  · have hF := k_if_f hF hc
    refine lv_iload hx hb dX5_lay_39 (lv_at hl 7 rfl) ?_
    refine lv_iload hx hb dX5_lay_41 (lv_at hl 1 rfl) ?_
    obtain ⟨hz, hF⟩ := k_nz_ex hF
    refine lv_irem hx hb dX5_lay_43 hz ?_
    refine lv_goto (tgt := 48) hx hb dX5_lay_44 (by decide) ?_
    obtain ⟨x9_48, hn, hF⟩ := k_let_ex hF
    refine x_nm hn ?_
    refine lv_istore (lv' := [(9, .int x9_48), (8, .int (0 : Int32)), (7, .int r9), (6, .int r2), (0, .ref aT), (1, .ref aS), (2, .int x2), (3, .int x3), (4, .int x4), (5, .int x5)]) hx hb dX5_lay_48 hl (by decide) rfl (fun ls hl => ?_)
    refine lv_iconst (v := (0 : Int32)) hx hb dX5_lay_50 (by decide) ?_
    refine lv_istore (lv' := [(10, .int (0 : Int32)), (9, .int x9_48), (8, .int (0 : Int32)), (7, .int r9), (6, .int r2), (0, .ref aT), (1, .ref aS), (2, .int x2), (3, .int x3), (4, .int x4), (5, .int x5)]) hx hb dX5_lay_51 hl (by decide) rfl (fun ls hl => ?_)
    exact (hG _ _ _).1 (blk_53 N x2 x3 x5 r2 r9 (0 : Int32) x9_48 (0 : Int32) r25 vtp hF _ _ _ hP hD hS (lv_sub hl [5, 6, 7, 8, 10, 4, 3, 2, 1, 0] rfl))
theorem mm_X5_press_1 : Cond.fieldLink RX5 11 "RollerMesh$Turn" "presses" "[I" ∈ wsX5_press := List.mem_of_getElem? (i := 1) rfl
theorem mi_X5_press_X5 : ∀ w ∈ wsX50, w ∈ wsX5_press := fun _ h => List.mem_cons_of_mem _ (List.mem_append_right _ h)
set_option maxHeartbeats 4000000 in
set_option maxRecDepth 100000 in
theorem c_X5_press (l : Launch) (D : va_G) (cyI cyZ : ClassId) (aT aTp : Nat) (N : Nat) (x1 : Int32) (vtl : Int32) (vta : Int32) (vtt : Int32) (vtp : (Nat → Int32)) {r0 : Int32}  (hF : p_X5_press N x1 vtl vta vtt vtp = some (r0)) : Met l yX5_press wsX5_press ({ frames := 0, cells := 0, slots := 0, locals := 0 }) (x_PR D cyI cyZ [.ref aT, .int x1] [(aT, .inr (5, [.ref aTp, .int vtl, .int vta, .int vtt])), (aTp, .inl (cyI, 552, .inl vtp))]) (x_QR r0) 0 0 (fun _ => False) := by
  refine Met.ofW (cc := cX5_press) (maxL := 2) (ret := (some .int)) (by decide) rfl ?_
  intro p e s m args below meth c s₁ B hml hv
  obtain ⟨rfl, hP, hK⟩ := hv
  have hx := B.exec
  have hb := B.bytes
  have hr := B.returns
  have hts := atoms_spec (ws := wsX5_press) B.pre
  have hown : s.vm.findClass RX5 = some m.cls := findClass_of_methodNamed B.named
  have hlocks := B.notSynchronized
  have hS : va_S (fun _ => False) s.heap s.heap [] := va_S.rf
  have hP : va_P D vwCl [(aT, .inr (5, [.ref aTp, .int vtl, .int vta, .int vtt])), (aTp, .inl (cyI, 552, .inl vtp))] s.heap := hP
  have hl := lv_entry ([.ref aT, .int x1]) (n := 2) (Nat.le_of_ble_eq_true rfl)
  rw [lg_entry_eq]
  generalize (lg_sl ([.ref aT, .int x1]) ++ List.replicate (2 - (lg_sl ([.ref aT, .int x1])).length) Slot.unset).toArray = ls at hl ⊢
  have hl : lv_has ls 2 [(0, .ref aT), (1, .int x1)] := hl
  unfold p_X5_press at hF
  refine lv_iload_n hx hb dX5_press_0 rfl (lv_at hl 1 rfl) ?_
  refine lv_if_lt (tgt := 22) hx hb dX5_press_1 (by decide) (fun hc => ?_) (fun hc => ?_)
  · have hF := k_if_t hF hc
    refine lv_iconst (v := (0 : Int32)) hx hb dX5_press_22 (by decide) ?_
    exact W.iret hx hb hr (fun t ht hW => ⟨⟨_, (), rfl, Option.some.inj hF, trivial⟩, hS.F ht⟩) hS.2.2 dX5_press_23
  · have hF := k_if_f hF hc
    refine lv_iload_n hx hb dX5_press_4 rfl (lv_at hl 1 rfl) ?_
    refine lv_aload_n hx hb dX5_press_5 rfl (lv_at hl 0 rfl) ?_
    refine va_get (D := D) (ci := 5) (v := .ref aTp) (C := RX5) (T := TX5) (N := 4) hx hb hts mi_X5_press_X5 hown hK.1 hP 0 rfl rfl 0 (by decide) (hts _ mm_X5_press_1) (fun _ h9 => h9) rfl dX5_press_6 ?_
    refine x_alen (v := (552 : Int32)) hx hb hK hP 1 rfl rfl dX5_press_9 ?_
    refine lv_icmp_ge (tgt := 22) hx hb dX5_press_10 (by decide) (fun hc => ?_) (fun hc => ?_)
    · have hF := k_if_t hF hc
      refine lv_iconst (v := (0 : Int32)) hx hb dX5_press_22 (by decide) ?_
      exact W.iret hx hb hr (fun t ht hW => ⟨⟨_, (), rfl, Option.some.inj hF, trivial⟩, hS.F ht⟩) hS.2.2 dX5_press_23
    · have hF := k_if_f hF hc
      refine lv_aload_n hx hb dX5_press_13 rfl (lv_at hl 0 rfl) ?_
      refine va_get (D := D) (ci := 5) (v := .ref aTp) (C := RX5) (T := TX5) (N := 4) hx hb hts mi_X5_press_X5 hown hK.1 hP 0 rfl rfl 0 (by decide) (hts _ mm_X5_press_1) (fun _ h9 => h9) rfl dX5_press_14 ?_
      refine lv_iload_n hx hb dX5_press_17 rfl (lv_at hl 1 rfl) ?_
      obtain ⟨r18, hin, hn, hF⟩ := k_ld_ex hF
      refine x_iald hx hb hK hP 1 rfl hin hn dX5_press_18 ?_
      refine lv_goto (tgt := 23) hx hb dX5_press_19 (by decide) ?_
      exact W.iret hx hb hr (fun t ht hW => ⟨⟨_, (), rfl, Option.some.inj hF, trivial⟩, hS.F ht⟩) hS.2.2 dX5_press_23
theorem mm_X5_isSmoothAt_1 : Cond.fieldLink RX5 30 "RollerMesh$Turn" "length" "I" ∈ wsX5_isSmoothAt := List.mem_of_getElem? (i := 1) rfl
theorem mm_X5_isSmoothAt_2 : Cond.methodLink RX5 46 Lib.Math.abs.name ∈ wsX5_isSmoothAt := List.mem_of_getElem? (i := 2) rfl
theorem mm_X5_isSmoothAt_3 : Cond.static Lib.Math.abs.name ∈ wsX5_isSmoothAt := List.mem_of_getElem? (i := 3) rfl
theorem mm_X5_isSmoothAt_4 : Cond.initialized "java/lang/Math" ∈ wsX5_isSmoothAt := List.mem_of_getElem? (i := 4) rfl
theorem mm_X5_isSmoothAt_5 : Cond.code Lib.Math.abs.name Lib.Math.abs.code 1 (some .int) ∈ wsX5_isSmoothAt := List.mem_of_getElem? (i := 5) rfl
theorem mi_X5_isSmoothAt_X5 : ∀ w ∈ wsX50, w ∈ wsX5_isSmoothAt := fun _ h => List.mem_cons_of_mem _ (List.mem_append_right _ h)
set_option maxHeartbeats 4000000 in
set_option maxRecDepth 100000 in
theorem c_X5_isSmoothAt (l : Launch) (D : va_G) (cyI cyZ : ClassId) (aT aTp : Nat) (N : Nat) (x1 : Int32) (x2 : Int32) (vtl : Int32) (vta : Int32) (vtt : Int32) (vtp : (Nat → Int32)) {r0 : Int32}  (hF : p_X5_isSmoothAt N x1 x2 vtl vta vtt vtp = some (r0)) : Met l yX5_isSmoothAt wsX5_isSmoothAt ({ frames := 1, cells := 0, slots := 0, locals := 21 }) (x_PR D cyI cyZ [.ref aT, .int x1, .int x2] [(aT, .inr (5, [.ref aTp, .int vtl, .int vta, .int vtt])), (aTp, .inl (cyI, 552, .inl vtp))]) (x_QR r0) 0 0 (fun _ => False) := by
  refine Met.ofW (cc := cX5_isSmoothAt) (maxL := 4) (ret := (some .boolean)) (by decide) rfl ?_
  intro p e s m args below meth c s₁ B hml hv
  obtain ⟨rfl, hP, hK⟩ := hv
  have hx := B.exec
  have hb := B.bytes
  have hr := B.returns
  have hts := atoms_spec (ws := wsX5_isSmoothAt) B.pre
  have hown : s.vm.findClass RX5 = some m.cls := findClass_of_methodNamed B.named
  have hlocks := B.notSynchronized
  have hS : va_S (fun _ => False) s.heap s.heap [] := va_S.rf
  have hP : va_P D vwCl [(aT, .inr (5, [.ref aTp, .int vtl, .int vta, .int vtt])), (aTp, .inl (cyI, 552, .inl vtp))] s.heap := hP
  have hl := lv_entry ([.ref aT, .int x1, .int x2]) (n := 4) (Nat.le_of_ble_eq_true rfl)
  rw [lg_entry_eq]
  generalize (lg_sl ([.ref aT, .int x1, .int x2]) ++ List.replicate (4 - (lg_sl ([.ref aT, .int x1, .int x2])).length) Slot.unset).toArray = ls at hl ⊢
  have hl : lv_has ls 4 [(0, .ref aT), (1, .int x1), (2, .int x2)] := hl
  unfold p_X5_isSmoothAt at hF
  refine lv_iload_n hx hb dX5_isSmoothAt_0 rfl (lv_at hl 1 rfl) ?_
  refine lv_if_le (tgt := 10) hx hb dX5_isSmoothAt_1 (by decide) (fun hc => ?_) (fun hc => ?_)
  · have hF := k_if_t hF hc
    refine lv_aload_n hx hb dX5_isSmoothAt_10 rfl (lv_at hl 0 rfl) ?_
    refine va_get (D := D) (ci := 5) (v := .int vtl) (C := RX5) (T := TX5) (N := 4) hx hb hts mi_X5_isSmoothAt_X5 hown hK.1 hP 0 rfl rfl 1 (by decide) (hts _ mm_X5_isSmoothAt_1) (fun _ h9 => h9) rfl dX5_isSmoothAt_11 ?_
    refine lv_iconst (v := (1 : Int32)) hx hb dX5_isSmoothAt_14 (by decide) ?_
    refine lv_isub hx hb dX5_isSmoothAt_15 ?_
    obtain ⟨x3_16, hn, hF⟩ := k_let_ex hF
    refine x_nm hn ?_
    refine lv_istore_n (lv' := [(3, .int x3_16), (0, .ref aT), (1, .int x1), (2, .int x2)]) hx hb dX5_isSmoothAt_16 rfl hl (by decide) rfl (fun ls hl => ?_)
    refine lv_aload_n hx hb dX5_isSmoothAt_17 rfl (lv_at hl 1 rfl) ?_
    refine lv_iload_n hx hb dX5_isSmoothAt_18 rfl (lv_at hl 2 rfl) ?_
    obtain ⟨r19, hC, hF⟩ := k_c1_ex hF
    refine x_VR (As := [.int x1]) (rest := []) ⟨hx, hb, hml, hown, hts⟩ (c_X5_press l D cyI cyZ aT aTp N x1 vtl vta vtt vtp hC) (cwV 1 hts gX5_isSmoothAt_X5_press rfl rfl rfl (by decide +kernel) ⟨Nat.le_of_ble_eq_true rfl, Nat.le_of_ble_eq_true rfl⟩) hK hP hS [0, 1] rfl 0 rfl rfl rfl rfl hl.1 rfl (Nat.le_of_ble_eq_true rfl) ⟨Nat.zero_le _, Nat.zero_le _⟩ dX5_isSmoothAt_19 (fun H locs hP hS => ?_)
    refine lv_aload_n hx hb dX5_isSmoothAt_22 rfl (lv_at hl 1 rfl) ?_
    refine lv_iload_n hx hb dX5_isSmoothAt_23 rfl (lv_at hl 0 rfl) ?_
    obtain ⟨r24, hC, hF⟩ := k_c1_ex hF
    refine x_VR (As := [.int x3_16]) (rest := [.int r19]) ⟨hx, hb, hml, hown, hts⟩ (c_X5_press l D cyI cyZ aT aTp N x3_16 vtl vta vtt vtp hC) (cwV 1 hts gX5_isSmoothAt_X5_press rfl rfl rfl (by decide +kernel) ⟨Nat.le_of_ble_eq_true rfl, Nat.le_of_ble_eq_true rfl⟩) hK hP hS [0, 1] rfl 0 rfl rfl rfl rfl hl.1 rfl (Nat.le_of_ble_eq_true rfl) ⟨Nat.zero_le _, Nat.zero_le _⟩ dX5_isSmoothAt_24 (fun H locs hP hS => ?_)
    refine lv_isub hx hb dX5_isSmoothAt_27 ?_
    obtain ⟨r28, hn, hF⟩ := k_let_ex hF
    refine va_mabs hx hb (hml.trans hl.1.symm) hown (hts _ mm_X5_isSmoothAt_2) (hts _ mm_X5_isSmoothAt_3) (hts _ mm_X5_isSmoothAt_4) (hts _ mm_X5_isSmoothAt_5) (Nat.le_of_ble_eq_true rfl) (Nat.le_of_ble_eq_true rfl) (Nat.zero_le _) (Nat.zero_le _) dX5_isSmoothAt_28 ?_
    refine x_nm hn ?_
    refine lv_iload_n hx hb dX5_isSmoothAt_31 rfl (lv_at hl 3 rfl) ?_
    refine lv_icmp_gt (tgt := 39) hx hb dX5_isSmoothAt_32 (by decide) (fun hc => ?_) (fun hc => ?_)
    · have hF := k_if_t hF hc
      refine lv_iconst (v := (0 : Int32)) hx hb dX5_isSmoothAt_39 (by decide) ?_
      exact W.zret hx hb hr rfl (fun t ht hW => ⟨⟨_, (), rfl, Option.some.inj hF, trivial⟩, hS.F ht⟩) hS.2.2 dX5_isSmoothAt_40
    · have hF := k_if_f hF hc
      refine lv_iconst (v := (1 : Int32)) hx hb dX5_isSmoothAt_35 (by decide) ?_
      refine lv_goto (tgt := 40) hx hb dX5_isSmoothAt_36 (by decide) ?_
      exact W.zret hx hb hr rfl (fun t ht hW => ⟨⟨_, (), rfl, Option.some.inj hF, trivial⟩, hS.F ht⟩) hS.2.2 dX5_isSmoothAt_40
  · have hF := k_if_f hF hc
    refine lv_iload_n hx hb dX5_isSmoothAt_4 rfl (lv_at hl 1 rfl) ?_
    refine lv_iconst (v := (1 : Int32)) hx hb dX5_isSmoothAt_5 (by decide) ?_
    refine lv_isub hx hb dX5_isSmoothAt_6 ?_
    refine lv_goto (tgt := 16) hx hb dX5_isSmoothAt_7 (by decide) ?_
    obtain ⟨x3_16, hn, hF⟩ := k_let_ex hF
    refine x_nm hn ?_
    refine lv_istore_n (lv' := [(3, .int x3_16), (0, .ref aT), (1, .int x1), (2, .int x2)]) hx hb dX5_isSmoothAt_16 rfl hl (by decide) rfl (fun ls hl => ?_)
    refine lv_aload_n hx hb dX5_isSmoothAt_17 rfl (lv_at hl 1 rfl) ?_
    refine lv_iload_n hx hb dX5_isSmoothAt_18 rfl (lv_at hl 2 rfl) ?_
    obtain ⟨r19, hC, hF⟩ := k_c1_ex hF
    refine x_VR (As := [.int x1]) (rest := []) ⟨hx, hb, hml, hown, hts⟩ (c_X5_press l D cyI cyZ aT aTp N x1 vtl vta vtt vtp hC) (cwV 1 hts gX5_isSmoothAt_X5_press rfl rfl rfl (by decide +kernel) ⟨Nat.le_of_ble_eq_true rfl, Nat.le_of_ble_eq_true rfl⟩) hK hP hS [0, 1] rfl 0 rfl rfl rfl rfl hl.1 rfl (Nat.le_of_ble_eq_true rfl) ⟨Nat.zero_le _, Nat.zero_le _⟩ dX5_isSmoothAt_19 (fun H locs hP hS => ?_)
    refine lv_aload_n hx hb dX5_isSmoothAt_22 rfl (lv_at hl 1 rfl) ?_
    refine lv_iload_n hx hb dX5_isSmoothAt_23 rfl (lv_at hl 0 rfl) ?_
    obtain ⟨r24, hC, hF⟩ := k_c1_ex hF
    refine x_VR (As := [.int x3_16]) (rest := [.int r19]) ⟨hx, hb, hml, hown, hts⟩ (c_X5_press l D cyI cyZ aT aTp N x3_16 vtl vta vtt vtp hC) (cwV 1 hts gX5_isSmoothAt_X5_press rfl rfl rfl (by decide +kernel) ⟨Nat.le_of_ble_eq_true rfl, Nat.le_of_ble_eq_true rfl⟩) hK hP hS [0, 1] rfl 0 rfl rfl rfl rfl hl.1 rfl (Nat.le_of_ble_eq_true rfl) ⟨Nat.zero_le _, Nat.zero_le _⟩ dX5_isSmoothAt_24 (fun H locs hP hS => ?_)
    refine lv_isub hx hb dX5_isSmoothAt_27 ?_
    obtain ⟨r28, hn, hF⟩ := k_let_ex hF
    refine va_mabs hx hb (hml.trans hl.1.symm) hown (hts _ mm_X5_isSmoothAt_2) (hts _ mm_X5_isSmoothAt_3) (hts _ mm_X5_isSmoothAt_4) (hts _ mm_X5_isSmoothAt_5) (Nat.le_of_ble_eq_true rfl) (Nat.le_of_ble_eq_true rfl) (Nat.zero_le _) (Nat.zero_le _) dX5_isSmoothAt_28 ?_
    refine x_nm hn ?_
    refine lv_iload_n hx hb dX5_isSmoothAt_31 rfl (lv_at hl 3 rfl) ?_
    refine lv_icmp_gt (tgt := 39) hx hb dX5_isSmoothAt_32 (by decide) (fun hc => ?_) (fun hc => ?_)
    · have hF := k_if_t hF hc
      refine lv_iconst (v := (0 : Int32)) hx hb dX5_isSmoothAt_39 (by decide) ?_
      exact W.zret hx hb hr rfl (fun t ht hW => ⟨⟨_, (), rfl, Option.some.inj hF, trivial⟩, hS.F ht⟩) hS.2.2 dX5_isSmoothAt_40
    · have hF := k_if_f hF hc
      refine lv_iconst (v := (1 : Int32)) hx hb dX5_isSmoothAt_35 (by decide) ?_
      refine lv_goto (tgt := 40) hx hb dX5_isSmoothAt_36 (by decide) ?_
      exact W.zret hx hb hr rfl (fun t ht hW => ⟨⟨_, (), rfl, Option.some.inj hF, trivial⟩, hS.F ht⟩) hS.2.2 dX5_isSmoothAt_40
theorem mm_X5_firstBadStep_1 : Cond.fieldLink RX5 30 "RollerMesh$Turn" "length" "I" ∈ wsX5_firstBadStep := List.mem_of_getElem? (i := 1) rfl
theorem mi_X5_firstBadStep_X5 : ∀ w ∈ wsX50, w ∈ wsX5_firstBadStep := fun _ h => List.mem_cons_of_mem _ (List.mem_append_right _ h)
set_option maxHeartbeats 4000000 in
set_option maxRecDepth 100000 in
theorem c_X5_firstBadStep (l : Launch) (D : va_G) (cyI cyZ : ClassId) (aT aTp : Nat) (N : Nat) (x1 : Int32) (vtl : Int32) (vta : Int32) (vtt : Int32) (vtp : (Nat → Int32)) {r0 : Int32}  (hF : p_X5_firstBadStep N x1 vtl vta vtt vtp = some (r0)) : Met l yX5_firstBadStep wsX5_firstBadStep ({ frames := 2, cells := 0, slots := 0, locals := 44 }) (x_PR D cyI cyZ [.ref aT, .int x1] [(aT, .inr (5, [.ref aTp, .int vtl, .int vta, .int vtt])), (aTp, .inl (cyI, 552, .inl vtp))]) (x_QR r0) 0 0 (fun _ => False) := by
  refine Met.ofW (cc := cX5_firstBadStep) (maxL := 3) (ret := (some .int)) (by decide) rfl ?_
  intro p e s m args below meth c s₁ B hml hv
  obtain ⟨rfl, hP, hK⟩ := hv
  have hx := B.exec
  have hb := B.bytes
  have hr := B.returns
  have hts := atoms_spec (ws := wsX5_firstBadStep) B.pre
  have hown : s.vm.findClass RX5 = some m.cls := findClass_of_methodNamed B.named
  have hlocks := B.notSynchronized
  have hS : va_S (fun _ => False) s.heap s.heap [] := va_S.rf
  have hP : va_P D vwCl [(aT, .inr (5, [.ref aTp, .int vtl, .int vta, .int vtt])), (aTp, .inl (cyI, 552, .inl vtp))] s.heap := hP
  have hl := lv_entry ([.ref aT, .int x1]) (n := 3) (Nat.le_of_ble_eq_true rfl)
  rw [lg_entry_eq]
  generalize (lg_sl ([.ref aT, .int x1]) ++ List.replicate (3 - (lg_sl ([.ref aT, .int x1])).length) Slot.unset).toArray = ls at hl ⊢
  have hl : lv_has ls 3 [(0, .ref aT), (1, .int x1)] := hl
  refine x_gen (fun G hG => ?_)
  have blk_2 : ∀ (n_2 : Nat) (x1 : Int32) (x2 : Int32), f_X5_firstBadStep_2 N n_2 x1 x2 vtl vta vtt vtp = some (r0) → ∀ (H : Heap) (locs : List Loc) (ls : Array Slot), va_P D vwCl [(aT, .inr (5, [.ref aTp, .int vtl, .int vta, .int vtt])), (aTp, .inl (cyI, 552, .inl vtp))] H → va_S (fun _ => False) s.heap H locs → lv_has ls 3 [(0, .ref aT), (1, .int x1), (2, .int x2)] → G H locs (F0 m 2 ls []) := by
    intro n_2
    induction n_2 with
    | zero => intro x1 x2 hF; exact (k_none hF).elim
    | succ n_2 ih_2 =>
      intro x1 x2 hF H locs ls hP hS hl
      replace hF : b_X5_firstBadStep_2 N (f_X5_firstBadStep_2 N n_2) x1 x2 vtl vta vtt vtp = some (r0) := hF
      unfold b_X5_firstBadStep_2 at hF
      refine (hG _ _ _).2 ?_
      refine lv_iload_n hx hb dX5_firstBadStep_2 rfl (lv_at hl 2 rfl) ?_
      refine lv_aload_n hx hb dX5_firstBadStep_3 rfl (lv_at hl 0 rfl) ?_
      refine va_get (D := D) (ci := 5) (v := .int vtl) (C := RX5) (T := TX5) (N := 4) hx hb hts mi_X5_firstBadStep_X5 hown hK.1 hP 0 rfl rfl 1 (by decide) (hts _ mm_X5_firstBadStep_1) (fun _ h9 => h9) rfl dX5_firstBadStep_4 ?_
      refine lv_icmp_ge (tgt := 36) hx hb dX5_firstBadStep_7 (by decide) (fun hc => ?_) (fun hc => ?_)
      · have hF := k_if_t hF hc
        refine lv_bipush (v := (-6 : Int32)) hx hb dX5_firstBadStep_36 (by decide) ?_
        exact W.iret hx hb hr (fun t ht hW => ⟨⟨_, (), rfl, Option.some.inj hF, trivial⟩, hS.F ht⟩) hS.2.2 dX5_firstBadStep_38
      · have hF := k_if_f hF hc
        refine lv_aload_n hx hb dX5_firstBadStep_10 rfl (lv_at hl 0 rfl) ?_
        refine lv_iload_n hx hb dX5_firstBadStep_11 rfl (lv_at hl 2 rfl) ?_
        obtain ⟨r12, hC, hF⟩ := k_c1_ex hF
        refine x_VR (As := [.int x2]) (rest := []) ⟨hx, hb, hml, hown, hts⟩ (c_X5_press l D cyI cyZ aT aTp N x2 vtl vta vtt vtp hC) (cwV 1 hts gX5_firstBadStep_X5_press rfl rfl rfl (by decide +kernel) ⟨Nat.le_of_ble_eq_true rfl, Nat.le_of_ble_eq_true rfl⟩) hK hP hS [0, 1] rfl 0 rfl rfl rfl rfl hl.1 rfl (Nat.le_of_ble_eq_true rfl) ⟨Nat.zero_le _, Nat.zero_le _⟩ dX5_firstBadStep_12 (fun H locs hP hS => ?_)
        refine lv_iconst (v := (1 : Int32)) hx hb dX5_firstBadStep_15 (by decide) ?_
        refine lv_icmp_lt (tgt := 28) hx hb dX5_firstBadStep_16 (by decide) (fun hc => ?_) (fun hc => ?_)
        · have hF := k_if_t hF hc
          refine lv_iload_n hx hb dX5_firstBadStep_28 rfl (lv_at hl 2 rfl) ?_
          exact W.iret hx hb hr (fun t ht hW => ⟨⟨_, (), rfl, Option.some.inj hF, trivial⟩, hS.F ht⟩) hS.2.2 dX5_firstBadStep_29
        · have hF := k_if_f hF hc
          refine lv_aload_n hx hb dX5_firstBadStep_19 rfl (lv_at hl 0 rfl) ?_
          refine lv_iload_n hx hb dX5_firstBadStep_20 rfl (lv_at hl 2 rfl) ?_
          refine lv_iload_n hx hb dX5_firstBadStep_21 rfl (lv_at hl 1 rfl) ?_
          obtain ⟨r22, hC, hF⟩ := k_c1_ex hF
          refine x_VR (As := [.int x2, .int x1]) (rest := []) ⟨hx, hb, hml, hown, hts⟩ (c_X5_isSmoothAt l D cyI cyZ aT aTp N x2 x1 vtl vta vtt vtp hC) (cwV 2 hts gX5_firstBadStep_X5_isSmoothAt rfl rfl rfl (by decide +kernel) ⟨Nat.le_of_ble_eq_true rfl, Nat.le_of_ble_eq_true rfl⟩) hK hP hS [0, 1] rfl 0 rfl rfl rfl rfl hl.1 rfl (Nat.le_of_ble_eq_true rfl) ⟨Nat.zero_le _, Nat.zero_le _⟩ dX5_firstBadStep_22 (fun H locs hP hS => ?_)
          refine lv_if_ne (tgt := 30) hx hb dX5_firstBadStep_25 (by decide) (fun hc => ?_) (fun hc => ?_)
          · have hF := k_if_f hF hc
            obtain ⟨x2_30, hn, hF⟩ := k_let_ex hF
            refine lv_iinc (v := x2_30) (lv' := [(2, .int x2_30), (0, .ref aT), (1, .int x1)]) hx hb dX5_firstBadStep_30 hl (k := 2) rfl (by rw [hn]; rfl) (by decide) rfl (fun ls hl => ?_)
            refine lv_goto (tgt := 2) hx hb dX5_firstBadStep_33 (by decide) ?_
            exact (hG _ _ _).1 (ih_2 x1 x2_30 hF _ _ _ hP hS (lv_sub hl [1, 2, 0] rfl))
          · have hF := k_if_t hF hc
            refine lv_iload_n hx hb dX5_firstBadStep_28 rfl (lv_at hl 2 rfl) ?_
            exact W.iret hx hb hr (fun t ht hW => ⟨⟨_, (), rfl, Option.some.inj hF, trivial⟩, hS.F ht⟩) hS.2.2 dX5_firstBadStep_29
  refine (hG _ _ _).2 ?_
  unfold p_X5_firstBadStep at hF
  refine lv_iconst (v := (0 : Int32)) hx hb dX5_firstBadStep_0 (by decide) ?_
  refine lv_istore_n (lv' := [(2, .int (0 : Int32)), (0, .ref aT), (1, .int x1)]) hx hb dX5_firstBadStep_1 rfl hl (by decide) rfl (fun ls hl => ?_)
  exact (hG _ _ _).1 (blk_2 N x1 (0 : Int32) hF _ _ _ hP hS (lv_sub hl [1, 2, 0] rfl))
set_option maxHeartbeats 4000000 in
set_option maxRecDepth 100000 in
theorem c_X5_meshes (l : Launch) (D : va_G) (cyI cyZ : ClassId) (aT aTp : Nat) (N : Nat) (x1 : Int32) (vtl : Int32) (vta : Int32) (vtt : Int32) (vtp : (Nat → Int32)) {r0 : Int32}  (hF : p_X5_meshes N x1 vtl vta vtt vtp = some (r0)) : Met l yX5_meshes wsX5_meshes ({ frames := 3, cells := 0, slots := 0, locals := 66 }) (x_PR D cyI cyZ [.ref aT, .int x1] [(aT, .inr (5, [.ref aTp, .int vtl, .int vta, .int vtt])), (aTp, .inl (cyI, 552, .inl vtp))]) (x_QR r0) 0 0 (fun _ => False) := by
  refine Met.ofW (cc := cX5_meshes) (maxL := 2) (ret := (some .boolean)) (by decide) rfl ?_
  intro p e s m args below meth c s₁ B hml hv
  obtain ⟨rfl, hP, hK⟩ := hv
  have hx := B.exec
  have hb := B.bytes
  have hr := B.returns
  have hts := atoms_spec (ws := wsX5_meshes) B.pre
  have hown : s.vm.findClass RX5 = some m.cls := findClass_of_methodNamed B.named
  have hlocks := B.notSynchronized
  have hS : va_S (fun _ => False) s.heap s.heap [] := va_S.rf
  have hP : va_P D vwCl [(aT, .inr (5, [.ref aTp, .int vtl, .int vta, .int vtt])), (aTp, .inl (cyI, 552, .inl vtp))] s.heap := hP
  have hl := lv_entry ([.ref aT, .int x1]) (n := 2) (Nat.le_of_ble_eq_true rfl)
  rw [lg_entry_eq]
  generalize (lg_sl ([.ref aT, .int x1]) ++ List.replicate (2 - (lg_sl ([.ref aT, .int x1])).length) Slot.unset).toArray = ls at hl ⊢
  have hl : lv_has ls 2 [(0, .ref aT), (1, .int x1)] := hl
  unfold p_X5_meshes at hF
  refine lv_aload_n hx hb dX5_meshes_0 rfl (lv_at hl 0 rfl) ?_
  refine lv_iload_n hx hb dX5_meshes_1 rfl (lv_at hl 1 rfl) ?_
  obtain ⟨r2, hC, hF⟩ := k_c1_ex hF
  refine x_VR (As := [.int x1]) (rest := []) ⟨hx, hb, hml, hown, hts⟩ (c_X5_firstBadStep l D cyI cyZ aT aTp N x1 vtl vta vtt vtp hC) (cwV 1 hts gX5_meshes_X5_firstBadStep rfl rfl rfl (by decide +kernel) ⟨Nat.le_of_ble_eq_true rfl, Nat.le_of_ble_eq_true rfl⟩) hK hP hS [0, 1] rfl 0 rfl rfl rfl rfl hl.1 rfl (Nat.le_of_ble_eq_true rfl) ⟨Nat.zero_le _, Nat.zero_le _⟩ dX5_meshes_2 (fun H locs hP hS => ?_)
  refine lv_bipush (v := (-6 : Int32)) hx hb dX5_meshes_5 (by decide) ?_
  refine lv_icmp_ne (tgt := 14) hx hb dX5_meshes_7 (by decide) (fun hc => ?_) (fun hc => ?_)
  · have hF := k_if_f hF hc
    refine lv_iconst (v := (0 : Int32)) hx hb dX5_meshes_14 (by decide) ?_
    exact W.zret hx hb hr rfl (fun t ht hW => ⟨⟨_, (), rfl, Option.some.inj hF, trivial⟩, hS.F ht⟩) hS.2.2 dX5_meshes_15
  · have hF := k_if_t hF hc
    refine lv_iconst (v := (1 : Int32)) hx hb dX5_meshes_10 (by decide) ?_
    refine lv_goto (tgt := 15) hx hb dX5_meshes_11 (by decide) ?_
    exact W.zret hx hb hr rfl (fun t ht hW => ⟨⟨_, (), rfl, Option.some.inj hF, trivial⟩, hS.F ht⟩) hS.2.2 dX5_meshes_15
theorem mm_X5_begin_1 : Cond.fieldLink RX5 56 "RollerMesh$Turn" "at" "I" ∈ wsX5_begin := List.mem_of_getElem? (i := 1) rfl
theorem mm_X5_begin_2 : Cond.fieldLink RX5 59 "RollerMesh$Turn" "taken" "I" ∈ wsX5_begin := List.mem_of_getElem? (i := 2) rfl
theorem mi_X5_begin_X5 : ∀ w ∈ wsX50, w ∈ wsX5_begin := fun _ h => List.mem_cons_of_mem _ (List.mem_append_right _ h)
set_option maxHeartbeats 4000000 in
set_option maxRecDepth 100000 in
theorem c_X5_begin (l : Launch) (D : va_G) (cyI cyZ : ClassId) (aT aTp : Nat) (sz : Nat) (N : Nat) (vtl : Int32) (vta : Int32) (vtt : Int32) {vta' : Int32} {vtt' : Int32} (hF : p_X5_begin N vtl vta vtt = some (vta', vtt')) : Met l yX5_begin wsX5_begin ({ frames := 0, cells := 0, slots := 0, locals := 0 }) (x_PM D cyI cyZ [.ref aT] [(aT, .inr (5, [.ref aTp, .int vtl, .int vta, .int vtt]))] sz) (x_QV D (va_A [(aT, .inr (5, [.ref aTp, .int vtl, .int vta, .int vtt]))] sz) [(aT, .inr (5, [.ref aTp, .int vtl, .int vta', .int vtt']))]) 0 0 (va_A [(aT, .inr (5, [.ref aTp, .int vtl, .int vta, .int vtt]))] sz) := by
  refine Met.ofW (cc := cX5_begin) (maxL := 1) (ret := none) (by decide) rfl ?_
  intro p e s m args below meth c s₁ B hml hv
  obtain ⟨rfl, hsz, hP, hK, hD0⟩ := hv
  have hx := B.exec
  have hb := B.bytes
  have hr := B.returns
  have hts := atoms_spec (ws := wsX5_begin) B.pre
  have hown : s.vm.findClass RX5 = some m.cls := findClass_of_methodNamed B.named
  have hlocks := B.notSynchronized
  subst hsz
  have hD := hD0.self (sz := s.heap.size)
  generalize hAe : va_A [(aT, .inr (5, [.ref aTp, .int vtl, .int vta, .int vtt]))] s.heap.size = A at hD ⊢
  have hA : ∀ q : Nat, s.heap.size ≤ q → A q := fun q h => by rw [← hAe]; exact Or.inr h
  have hS : va_S A s.heap s.heap [] := va_S.rf
  have hP : va_P D vwCl [(aT, .inr (5, [.ref aTp, .int vtl, .int vta, .int vtt]))] s.heap := hP
  have hl := lv_entry ([.ref aT]) (n := 1) (Nat.le_of_ble_eq_true rfl)
  rw [lg_entry_eq]
  generalize (lg_sl ([.ref aT]) ++ List.replicate (1 - (lg_sl ([.ref aT])).length) Slot.unset).toArray = ls at hl ⊢
  have hl : lv_has ls 1 [(0, .ref aT)] := hl
  unfold p_X5_begin at hF
  refine lv_aload_n hx hb dX5_begin_0 rfl (lv_at hl 0 rfl) ?_
  refine lv_iconst (v := (0 : Int32)) hx hb dX5_begin_1 (by decide) ?_
  refine va_put (D := D) (ci := 5) (v := .int (0 : Int32)) (ty := .int) (C := RX5) (T := TX5) (N := 4) hx hb hts mi_X5_begin_X5 tyX5 tyX5_ok nmX5 hown hK.1 hP hD hS 0 rfl rfl 2 (by decide) (hts _ mm_X5_begin_1) (fun _ h9 => h9) rfl (by decide +kernel) rfl rfl (Nat.le_of_ble_eq_true rfl) dX5_begin_2 (fun H locs hP hD hS => ?_)
  have hP : va_P D vwCl [(aT, .inr (5, [.ref aTp, .int vtl, .int (0 : Int32), .int vtt]))] H := hP
  have hD : va_D A [(aT, .inr (5, [.ref aTp, .int vtl, .int (0 : Int32), .int vtt]))] := hD
  refine lv_aload_n hx hb dX5_begin_5 rfl (lv_at hl 0 rfl) ?_
  refine lv_iconst (v := (0 : Int32)) hx hb dX5_begin_6 (by decide) ?_
  refine va_put (D := D) (ci := 5) (v := .int (0 : Int32)) (ty := .int) (C := RX5) (T := TX5) (N := 4) hx hb hts mi_X5_begin_X5 tyX5 tyX5_ok nmX5 hown hK.1 hP hD hS 0 rfl rfl 3 (by decide) (hts _ mm_X5_begin_2) (fun _ h9 => h9) rfl (by decide +kernel) rfl rfl (Nat.le_of_ble_eq_true rfl) dX5_begin_7 (fun H locs hP hD hS => ?_)
  have hP : va_P D vwCl [(aT, .inr (5, [.ref aTp, .int vtl, .int (0 : Int32), .int (0 : Int32)]))] H := hP
  have hD : va_D A [(aT, .inr (5, [.ref aTp, .int vtl, .int (0 : Int32), .int (0 : Int32)]))] := hD
  obtain ⟨e0, e1⟩ := k_inj2 hF
  have hP9 : va_P D vwCl [(aT, .inr (5, [.ref aTp, .int vtl, .int vta', .int vtt']))] H := by rw [← e0, ← e1]; exact hP
  exact W.vret hx hb hr (fun t ht hW => ⟨⟨(), rfl, trivial, x_ret hP9 ht⟩, hS.F ht⟩) hS.2.2 dX5_begin_10
theorem mm_X5_tears_1 : Cond.fieldLink RX5 56 "RollerMesh$Turn" "at" "I" ∈ wsX5_tears := List.mem_of_getElem? (i := 1) rfl
theorem mm_X5_tears_2 : Cond.methodLink RX5 43 Lib.Math.max.name ∈ wsX5_tears := List.mem_of_getElem? (i := 2) rfl
theorem mm_X5_tears_3 : Cond.static Lib.Math.max.name ∈ wsX5_tears := List.mem_of_getElem? (i := 3) rfl
theorem mm_X5_tears_4 : Cond.initialized "java/lang/Math" ∈ wsX5_tears := List.mem_of_getElem? (i := 4) rfl
theorem mm_X5_tears_5 : Cond.code Lib.Math.max.name Lib.Math.max.code 2 (some .int) ∈ wsX5_tears := List.mem_of_getElem? (i := 5) rfl
theorem mm_X5_tears_6 : Cond.fieldLink RX5 30 "RollerMesh$Turn" "length" "I" ∈ wsX5_tears := List.mem_of_getElem? (i := 6) rfl
theorem mm_X5_tears_7 : Cond.fieldLink RX5 59 "RollerMesh$Turn" "taken" "I" ∈ wsX5_tears := List.mem_of_getElem? (i := 7) rfl
theorem mm_X5_tears_8 : Cond.methodLink RX5 46 Lib.Math.abs.name ∈ wsX5_tears := List.mem_of_getElem? (i := 8) rfl
theorem mm_X5_tears_9 : Cond.static Lib.Math.abs.name ∈ wsX5_tears := List.mem_of_getElem? (i := 9) rfl
theorem mm_X5_tears_10 : Cond.code Lib.Math.abs.name Lib.Math.abs.code 1 (some .int) ∈ wsX5_tears := List.mem_of_getElem? (i := 10) rfl
theorem mi_X5_tears_X5 : ∀ w ∈ wsX50, w ∈ wsX5_tears := fun _ h => List.mem_cons_of_mem _ (List.mem_append_right _ h)
set_option maxHeartbeats 4000000 in
set_option maxRecDepth 100000 in
theorem c_X5_tears (l : Launch) (D : va_G) (cyI cyZ : ClassId) (aT aTp : Nat) (sz : Nat) (N : Nat) (x1 : Int32) (x2 : Int32) (x3 : Int32) (x4 : Int32) (vtl : Int32) (vta : Int32) (vtt : Int32) (vtp : (Nat → Int32)) {r0 : Int32} {vta' : Int32} {vtt' : Int32} (hF : p_X5_tears N x1 x2 x3 x4 vtl vta vtt vtp = some (r0, vta', vtt')) : Met l yX5_tears wsX5_tears ({ frames := 1, cells := 0, slots := 0, locals := 21 }) (x_PM D cyI cyZ [.ref aT, .int x1, .int x2, .int x3, .int x4] [(aT, .inr (5, [.ref aTp, .int vtl, .int vta, .int vtt])), (aTp, .inl (cyI, 552, .inl vtp))] sz) (x_QM D r0 (va_A [(aT, .inr (5, [.ref aTp, .int vtl, .int vta, .int vtt])), (aTp, .inl (cyI, 552, .inl vtp))] sz) [(aT, .inr (5, [.ref aTp, .int vtl, .int vta', .int vtt'])), (aTp, .inl (cyI, 552, .inl vtp))]) 0 0 (va_A [(aT, .inr (5, [.ref aTp, .int vtl, .int vta, .int vtt])), (aTp, .inl (cyI, 552, .inl vtp))] sz) := by
  refine Met.ofW (cc := cX5_tears) (maxL := 9) (ret := (some .boolean)) (by decide) rfl ?_
  intro p e s m args below meth c s₁ B hml hv
  obtain ⟨rfl, hsz, hP, hK, hD0⟩ := hv
  have hx := B.exec
  have hb := B.bytes
  have hr := B.returns
  have hts := atoms_spec (ws := wsX5_tears) B.pre
  have hown : s.vm.findClass RX5 = some m.cls := findClass_of_methodNamed B.named
  have hlocks := B.notSynchronized
  subst hsz
  have hD := hD0.self (sz := s.heap.size)
  generalize hAe : va_A [(aT, .inr (5, [.ref aTp, .int vtl, .int vta, .int vtt])), (aTp, .inl (cyI, 552, .inl vtp))] s.heap.size = A at hD ⊢
  have hA : ∀ q : Nat, s.heap.size ≤ q → A q := fun q h => by rw [← hAe]; exact Or.inr h
  have hS : va_S A s.heap s.heap [] := va_S.rf
  have hP : va_P D vwCl [(aT, .inr (5, [.ref aTp, .int vtl, .int vta, .int vtt])), (aTp, .inl (cyI, 552, .inl vtp))] s.heap := hP
  have hl := lv_entry ([.ref aT, .int x1, .int x2, .int x3, .int x4]) (n := 9) (Nat.le_of_ble_eq_true rfl)
  rw [lg_entry_eq]
  generalize (lg_sl ([.ref aT, .int x1, .int x2, .int x3, .int x4]) ++ List.replicate (9 - (lg_sl ([.ref aT, .int x1, .int x2, .int x3, .int x4])).length) Slot.unset).toArray = ls at hl ⊢
  have hl : lv_has ls 9 [(0, .ref aT), (1, .int x1), (2, .int x2), (3, .int x3), (4, .int x4)] := hl
  refine x_gen (fun G hG => ?_)
  have blk_6 : ∀ (n_6 : Nat) (x1 : Int32) (x2 : Int32) (x3 : Int32) (x4 : Int32) (x5 : Int32) (x6 : Int32) (vta : Int32) (vtt : Int32), f_X5_tears_6 N n_6 x1 x2 x3 x4 x5 x6 vtl vta vtt vtp = some (r0, vta', vtt') → ∀ (H : Heap) (locs : List Loc) (ls : Array Slot), va_P D vwCl [(aT, .inr (5, [.ref aTp, .int vtl, .int vta, .int vtt])), (aTp, .inl (cyI, 552, .inl vtp))] H → va_D A [(aT, .inr (5, [.ref aTp, .int vtl, .int vta, .int vtt])), (aTp, .inl (cyI, 552, .inl vtp))] → va_S A s.heap H locs → lv_has ls 9 [(0, .ref aT), (1, .int x1), (2, .int x2), (3, .int x3), (4, .int x4), (5, .int x5), (6, .int x6)] → G H locs (F0 m 6 ls []) := by
    intro n_6
    induction n_6 with
    | zero => intro x1 x2 x3 x4 x5 x6 vta vtt hF; exact (k_none hF).elim
    | succ n_6 ih_6 =>
      intro x1 x2 x3 x4 x5 x6 vta vtt hF H locs ls hP hD hS hl
      replace hF : b_X5_tears_6 N (f_X5_tears_6 N n_6) x1 x2 x3 x4 x5 x6 vtl vta vtt vtp = some (r0, vta', vtt') := hF
      unfold b_X5_tears_6 at hF
      refine (hG _ _ _).2 ?_
      refine lv_iload hx hb dX5_tears_6 (lv_at hl 6 rfl) ?_
      refine lv_iload_n hx hb dX5_tears_8 rfl (lv_at hl 1 rfl) ?_
      refine lv_icmp_ge (tgt := 101) hx hb dX5_tears_9 (by decide) (fun hc => ?_) (fun hc => ?_)
      · have hF := k_if_t hF hc
        refine lv_iconst (v := (0 : Int32)) hx hb dX5_tears_101 (by decide) ?_
        obtain ⟨e0, e1, e2⟩ := k_inj3 hF
        have hP9 : va_P D vwCl [(aT, .inr (5, [.ref aTp, .int vtl, .int vta', .int vtt'])), (aTp, .inl (cyI, 552, .inl vtp))] H := by rw [← e1, ← e2]; exact hP
        exact W.zret hx hb hr rfl (fun t ht hW => ⟨⟨_, (), rfl, e0, x_ret hP9 ht⟩, hS.F ht⟩) hS.2.2 dX5_tears_102
      · have hF := k_if_f hF hc
        refine lv_iconst (v := (0 : Int32)) hx hb dX5_tears_12 (by decide) ?_
        refine lv_iload_n hx hb dX5_tears_13 rfl (lv_at hl 2 rfl) ?_
        refine lv_aload_n hx hb dX5_tears_14 rfl (lv_at hl 0 rfl) ?_
        refine lv_aload_n hx hb dX5_tears_15 rfl (lv_at hl 0 rfl) ?_
        refine va_get (D := D) (ci := 5) (v := .int vta) (C := RX5) (T := TX5) (N := 4) hx hb hts mi_X5_tears_X5 hown hK.1 hP 0 rfl rfl 2 (by decide) (hts _ mm_X5_tears_1) (fun _ h9 => h9) rfl dX5_tears_16 ?_
        obtain ⟨r19, hC, hF⟩ := k_c1_ex hF
        refine x_VR (As := [.int vta]) (rest := [.int x2, .int (0 : Int32)]) ⟨hx, hb, hml, hown, hts⟩ (c_X5_press l D cyI cyZ aT aTp N vta vtl vta vtt vtp hC) (cwV 1 hts gX5_tears_X5_press rfl rfl rfl (by decide +kernel) ⟨Nat.le_of_ble_eq_true rfl, Nat.le_of_ble_eq_true rfl⟩) hK hP hS [0, 1] rfl 0 rfl rfl rfl rfl hl.1 rfl (Nat.le_of_ble_eq_true rfl) ⟨Nat.zero_le _, Nat.zero_le _⟩ dX5_tears_19 (fun H locs hP hS => ?_)
        refine lv_isub hx hb dX5_tears_22 ?_
        obtain ⟨r23, hn, hF⟩ := k_let_ex hF
        refine va_mmax hx hb (hml.trans hl.1.symm) hown (hts _ mm_X5_tears_2) (hts _ mm_X5_tears_3) (hts _ mm_X5_tears_4) (hts _ mm_X5_tears_5) (Nat.le_of_ble_eq_true rfl) (Nat.le_of_ble_eq_true rfl) (Nat.zero_le _) (Nat.zero_le _) dX5_tears_23 ?_
        refine x_nm hn ?_
        refine lv_istore (lv' := [(7, .int r23), (0, .ref aT), (1, .int x1), (2, .int x2), (3, .int x3), (4, .int x4), (5, .int x5), (6, .int x6)]) hx hb dX5_tears_26 hl (by decide) rfl (fun ls hl => ?_)
        refine lv_aload_n hx hb dX5_tears_28 rfl (lv_at hl 1 rfl) ?_
        refine lv_aload_n hx hb dX5_tears_29 rfl (lv_at hl 1 rfl) ?_
        refine va_get (D := D) (ci := 5) (v := .int vta) (C := RX5) (T := TX5) (N := 4) hx hb hts mi_X5_tears_X5 hown hK.1 hP 0 rfl rfl 2 (by decide) (hts _ mm_X5_tears_1) (fun _ h9 => h9) rfl dX5_tears_30 ?_
        refine lv_aload_n hx hb dX5_tears_33 rfl (lv_at hl 1 rfl) ?_
        refine va_get (D := D) (ci := 5) (v := .int vtl) (C := RX5) (T := TX5) (N := 4) hx hb hts mi_X5_tears_X5 hown hK.1 hP 0 rfl rfl 1 (by decide) (hts _ mm_X5_tears_6) (fun _ h9 => h9) rfl dX5_tears_34 ?_
        obtain ⟨r37, hC, hF⟩ := k_c1_ex hF
        refine x_SR (As := [.int vta, .int vtl]) (rest := [.ref aT]) ⟨hx, hb, hml, hown, hts⟩ (c_X5_next l D cyI cyZ N vta vtl hC) (va_cwS 2 hts gX5_tears_X5_next rfl rfl rfl (by decide +kernel) ⟨Nat.le_of_ble_eq_true rfl, Nat.le_of_ble_eq_true rfl⟩) hK hP hS [] rfl rfl hl.1 rfl (Nat.le_of_ble_eq_true rfl) ⟨Nat.zero_le _, Nat.zero_le _⟩ dX5_tears_37 (fun H locs hP hS => ?_)
        refine va_put (D := D) (ci := 5) (v := .int r37) (ty := .int) (C := RX5) (T := TX5) (N := 4) hx hb hts mi_X5_tears_X5 tyX5 tyX5_ok nmX5 hown hK.1 hP hD hS 0 rfl rfl 2 (by decide) (hts _ mm_X5_tears_1) (fun _ h9 => h9) rfl (by decide +kernel) rfl rfl (Nat.le_of_ble_eq_true rfl) dX5_tears_40 (fun H locs hP hD hS => ?_)
        have hP : va_P D vwCl [(aT, .inr (5, [.ref aTp, .int vtl, .int r37, .int vtt])), (aTp, .inl (cyI, 552, .inl vtp))] H := hP
        have hD : va_D A [(aT, .inr (5, [.ref aTp, .int vtl, .int r37, .int vtt])), (aTp, .inl (cyI, 552, .inl vtp))] := hD
        refine lv_aload_n hx hb dX5_tears_43 rfl (lv_at hl 1 rfl) ?_
        refine lv_dup hx hb dX5_tears_44 rfl ?_
        refine va_get (D := D) (ci := 5) (v := .int vtt) (C := RX5) (T := TX5) (N := 4) hx hb hts mi_X5_tears_X5 hown hK.1 hP 0 rfl rfl 3 (by decide) (hts _ mm_X5_tears_7) (fun _ h9 => h9) rfl dX5_tears_45 ?_
        refine lv_iconst (v := (1 : Int32)) hx hb dX5_tears_48 (by decide) ?_
        refine lv_iadd hx hb dX5_tears_49 ?_
        obtain ⟨vtt_50, hn, hF⟩ := k_let_ex hF
        refine x_nm hn ?_
        refine va_put (D := D) (ci := 5) (v := .int vtt_50) (ty := .int) (C := RX5) (T := TX5) (N := 4) hx hb hts mi_X5_tears_X5 tyX5 tyX5_ok nmX5 hown hK.1 hP hD hS 0 rfl rfl 3 (by decide) (hts _ mm_X5_tears_7) (fun _ h9 => h9) rfl (by decide +kernel) rfl rfl (Nat.le_of_ble_eq_true rfl) dX5_tears_50 (fun H locs hP hD hS => ?_)
        have hP : va_P D vwCl [(aT, .inr (5, [.ref aTp, .int vtl, .int r37, .int vtt_50])), (aTp, .inl (cyI, 552, .inl vtp))] H := hP
        have hD : va_D A [(aT, .inr (5, [.ref aTp, .int vtl, .int r37, .int vtt_50])), (aTp, .inl (cyI, 552, .inl vtp))] := hD
        refine lv_iload hx hb dX5_tears_53 (lv_at hl 7 rfl) ?_
        refine lv_if_le (tgt := 75) hx hb dX5_tears_55 (by decide) (fun hc => ?_) (fun hc => ?_)
        · have hF := k_if_t hF hc
          refine lv_iconst (v := (0 : Int32)) hx hb dX5_tears_75 (by decide) ?_
          refine lv_istore (lv' := [(8, .int (0 : Int32)), (7, .int r23), (0, .ref aT), (1, .int x1), (2, .int x2), (3, .int x3), (4, .int x4), (5, .int x5), (6, .int x6)]) hx hb dX5_tears_76 hl (by decide) rfl (fun ls hl => ?_)
          refine lv_iload hx hb dX5_tears_78 (lv_at hl 1 rfl) ?_
          refine lv_iload_n hx hb dX5_tears_80 rfl (lv_at hl 5 rfl) ?_
          refine lv_icmp_gt (tgt := 89) hx hb dX5_tears_81 (by decide) (fun hc => ?_) (fun hc => ?_)
          · have hF := k_if_t hF hc
            refine lv_iconst (v := (1 : Int32)) hx hb dX5_tears_89 (by decide) ?_
            obtain ⟨e0, e1, e2⟩ := k_inj3 hF
            have hP9 : va_P D vwCl [(aT, .inr (5, [.ref aTp, .int vtl, .int vta', .int vtt'])), (aTp, .inl (cyI, 552, .inl vtp))] H := by rw [← e1, ← e2]; exact hP
            exact W.zret hx hb hr rfl (fun t ht hW => ⟨⟨_, (), rfl, e0, x_ret hP9 ht⟩, hS.F ht⟩) hS.2.2 dX5_tears_90
          · have hF := k_if_f hF hc
            refine lv_iload hx hb dX5_tears_84 (lv_at hl 0 rfl) ?_
            refine lv_if_eq (tgt := 91) hx hb dX5_tears_86 (by decide) (fun _ => ?_) (fun hc => absurd hc (by decide))
            refine lv_iload hx hb dX5_tears_91 (lv_at hl 1 rfl) ?_
            refine lv_istore (lv' := [(5, .int r23), (8, .int (0 : Int32)), (7, .int r23), (0, .ref aT), (1, .int x1), (2, .int x2), (3, .int x3), (4, .int x4), (6, .int x6)]) hx hb dX5_tears_93 hl (by decide) rfl (fun ls hl => ?_)
            obtain ⟨x6_95, hn, hF⟩ := k_let_ex hF
            refine lv_iinc (v := x6_95) (lv' := [(6, .int x6_95), (5, .int r23), (8, .int (0 : Int32)), (7, .int r23), (0, .ref aT), (1, .int x1), (2, .int x2), (3, .int x3), (4, .int x4)]) hx hb dX5_tears_95 hl (k := 8) rfl (by rw [hn]; rfl) (by decide) rfl (fun ls hl => ?_)
            refine lv_goto (tgt := 6) hx hb dX5_tears_98 (by decide) ?_
            exact (hG _ _ _).1 (ih_6 x1 x2 x3 x4 r23 x6_95 r37 vtt_50 hF _ _ _ hP hD hS (lv_sub hl [4, 5, 6, 7, 8, 1, 0] rfl))
        · have hF := k_if_f hF hc
          refine lv_iload hx hb dX5_tears_58 (lv_at hl 0 rfl) ?_
          refine lv_iload hx hb dX5_tears_60 (lv_at hl 6 rfl) ?_
          refine lv_isub hx hb dX5_tears_62 ?_
          obtain ⟨r63, hn, hF⟩ := k_let_ex hF
          refine va_mabs hx hb (hml.trans hl.1.symm) hown (hts _ mm_X5_tears_8) (hts _ mm_X5_tears_9) (hts _ mm_X5_tears_4) (hts _ mm_X5_tears_10) (Nat.le_of_ble_eq_true rfl) (Nat.le_of_ble_eq_true rfl) (Nat.zero_le _) (Nat.zero_le _) dX5_tears_63 ?_
          refine x_nm hn ?_
          refine lv_iload hx hb dX5_tears_66 (lv_at hl 5 rfl) ?_
          refine lv_icmp_le (tgt := 75) hx hb dX5_tears_68 (by decide) (fun hc => ?_) (fun hc => ?_)
          · have hF := k_if_t hF hc
            refine lv_iconst (v := (0 : Int32)) hx hb dX5_tears_75 (by decide) ?_
            refine lv_istore (lv' := [(8, .int (0 : Int32)), (7, .int r23), (0, .ref aT), (1, .int x1), (2, .int x2), (3, .int x3), (4, .int x4), (5, .int x5), (6, .int x6)]) hx hb dX5_tears_76 hl (by decide) rfl (fun ls hl => ?_)
            refine lv_iload hx hb dX5_tears_78 (lv_at hl 1 rfl) ?_
            refine lv_iload_n hx hb dX5_tears_80 rfl (lv_at hl 5 rfl) ?_
            refine lv_icmp_gt (tgt := 89) hx hb dX5_tears_81 (by decide) (fun hc => ?_) (fun hc => ?_)
            · have hF := k_if_t hF hc
              refine lv_iconst (v := (1 : Int32)) hx hb dX5_tears_89 (by decide) ?_
              obtain ⟨e0, e1, e2⟩ := k_inj3 hF
              have hP9 : va_P D vwCl [(aT, .inr (5, [.ref aTp, .int vtl, .int vta', .int vtt'])), (aTp, .inl (cyI, 552, .inl vtp))] H := by rw [← e1, ← e2]; exact hP
              exact W.zret hx hb hr rfl (fun t ht hW => ⟨⟨_, (), rfl, e0, x_ret hP9 ht⟩, hS.F ht⟩) hS.2.2 dX5_tears_90
            · have hF := k_if_f hF hc
              refine lv_iload hx hb dX5_tears_84 (lv_at hl 0 rfl) ?_
              refine lv_if_eq (tgt := 91) hx hb dX5_tears_86 (by decide) (fun _ => ?_) (fun hc => absurd hc (by decide))
              refine lv_iload hx hb dX5_tears_91 (lv_at hl 1 rfl) ?_
              refine lv_istore (lv' := [(5, .int r23), (8, .int (0 : Int32)), (7, .int r23), (0, .ref aT), (1, .int x1), (2, .int x2), (3, .int x3), (4, .int x4), (6, .int x6)]) hx hb dX5_tears_93 hl (by decide) rfl (fun ls hl => ?_)
              obtain ⟨x6_95, hn, hF⟩ := k_let_ex hF
              refine lv_iinc (v := x6_95) (lv' := [(6, .int x6_95), (5, .int r23), (8, .int (0 : Int32)), (7, .int r23), (0, .ref aT), (1, .int x1), (2, .int x2), (3, .int x3), (4, .int x4)]) hx hb dX5_tears_95 hl (k := 8) rfl (by rw [hn]; rfl) (by decide) rfl (fun ls hl => ?_)
              refine lv_goto (tgt := 6) hx hb dX5_tears_98 (by decide) ?_
              exact (hG _ _ _).1 (ih_6 x1 x2 x3 x4 r23 x6_95 r37 vtt_50 hF _ _ _ hP hD hS (lv_sub hl [4, 5, 6, 7, 8, 1, 0] rfl))
          · have hF := k_if_f hF hc
            refine lv_iconst (v := (1 : Int32)) hx hb dX5_tears_71 (by decide) ?_
            refine lv_goto (tgt := 76) hx hb dX5_tears_72 (by decide) ?_
            refine lv_istore (lv' := [(8, .int (1 : Int32)), (7, .int r23), (0, .ref aT), (1, .int x1), (2, .int x2), (3, .int x3), (4, .int x4), (5, .int x5), (6, .int x6)]) hx hb dX5_tears_76 hl (by decide) rfl (fun ls hl => ?_)
            refine lv_iload hx hb dX5_tears_78 (lv_at hl 1 rfl) ?_
            refine lv_iload_n hx hb dX5_tears_80 rfl (lv_at hl 5 rfl) ?_
            refine lv_icmp_gt (tgt := 89) hx hb dX5_tears_81 (by decide) (fun hc => ?_) (fun hc => ?_)
            · have hF := k_if_t hF hc
              refine lv_iconst (v := (1 : Int32)) hx hb dX5_tears_89 (by decide) ?_
              obtain ⟨e0, e1, e2⟩ := k_inj3 hF
              have hP9 : va_P D vwCl [(aT, .inr (5, [.ref aTp, .int vtl, .int vta', .int vtt'])), (aTp, .inl (cyI, 552, .inl vtp))] H := by rw [← e1, ← e2]; exact hP
              exact W.zret hx hb hr rfl (fun t ht hW => ⟨⟨_, (), rfl, e0, x_ret hP9 ht⟩, hS.F ht⟩) hS.2.2 dX5_tears_90
            · have hF := k_if_f hF hc
              refine lv_iload hx hb dX5_tears_84 (lv_at hl 0 rfl) ?_
              refine lv_if_eq (tgt := 91) hx hb dX5_tears_86 (by decide) (fun hc => absurd hc (by decide)) (fun _ => ?_)
              refine lv_iconst (v := (1 : Int32)) hx hb dX5_tears_89 (by decide) ?_
              obtain ⟨e0, e1, e2⟩ := k_inj3 hF
              have hP9 : va_P D vwCl [(aT, .inr (5, [.ref aTp, .int vtl, .int vta', .int vtt'])), (aTp, .inl (cyI, 552, .inl vtp))] H := by rw [← e1, ← e2]; exact hP
              exact W.zret hx hb hr rfl (fun t ht hW => ⟨⟨_, (), rfl, e0, x_ret hP9 ht⟩, hS.F ht⟩) hS.2.2 dX5_tears_90
  refine (hG _ _ _).2 ?_
  unfold p_X5_tears at hF
  refine lv_iconst (v := (0 : Int32)) hx hb dX5_tears_0 (by decide) ?_
  refine lv_istore (lv' := [(5, .int (0 : Int32)), (0, .ref aT), (1, .int x1), (2, .int x2), (3, .int x3), (4, .int x4)]) hx hb dX5_tears_1 hl (by decide) rfl (fun ls hl => ?_)
  refine lv_iconst (v := (0 : Int32)) hx hb dX5_tears_3 (by decide) ?_
  refine lv_istore (lv' := [(6, .int (0 : Int32)), (5, .int (0 : Int32)), (0, .ref aT), (1, .int x1), (2, .int x2), (3, .int x3), (4, .int x4)]) hx hb dX5_tears_4 hl (by decide) rfl (fun ls hl => ?_)
  exact (hG _ _ _).1 (blk_6 N x1 x2 x3 x4 (0 : Int32) (0 : Int32) vta vtt hF _ _ _ hP hD hS (lv_sub hl [2, 3, 4, 5, 6, 1, 0] rfl))
theorem mm_X5_taken_1 : Cond.fieldLink RX5 59 "RollerMesh$Turn" "taken" "I" ∈ wsX5_taken := List.mem_of_getElem? (i := 1) rfl
theorem mi_X5_taken_X5 : ∀ w ∈ wsX50, w ∈ wsX5_taken := fun _ h => List.mem_cons_of_mem _ (List.mem_append_right _ h)
set_option maxHeartbeats 4000000 in
set_option maxRecDepth 100000 in
theorem c_X5_taken (l : Launch) (D : va_G) (cyI cyZ : ClassId) (aT aTp : Nat) (N : Nat) (vtl : Int32) (vta : Int32) (vtt : Int32) {r0 : Int32}  (hF : p_X5_taken N vtl vta vtt = some (r0)) : Met l yX5_taken wsX5_taken ({ frames := 0, cells := 0, slots := 0, locals := 0 }) (x_PR D cyI cyZ [.ref aT] [(aT, .inr (5, [.ref aTp, .int vtl, .int vta, .int vtt]))]) (x_QR r0) 0 0 (fun _ => False) := by
  refine Met.ofW (cc := cX5_taken) (maxL := 1) (ret := (some .int)) (by decide) rfl ?_
  intro p e s m args below meth c s₁ B hml hv
  obtain ⟨rfl, hP, hK⟩ := hv
  have hx := B.exec
  have hb := B.bytes
  have hr := B.returns
  have hts := atoms_spec (ws := wsX5_taken) B.pre
  have hown : s.vm.findClass RX5 = some m.cls := findClass_of_methodNamed B.named
  have hlocks := B.notSynchronized
  have hS : va_S (fun _ => False) s.heap s.heap [] := va_S.rf
  have hP : va_P D vwCl [(aT, .inr (5, [.ref aTp, .int vtl, .int vta, .int vtt]))] s.heap := hP
  have hl := lv_entry ([.ref aT]) (n := 1) (Nat.le_of_ble_eq_true rfl)
  rw [lg_entry_eq]
  generalize (lg_sl ([.ref aT]) ++ List.replicate (1 - (lg_sl ([.ref aT])).length) Slot.unset).toArray = ls at hl ⊢
  have hl : lv_has ls 1 [(0, .ref aT)] := hl
  unfold p_X5_taken at hF
  refine lv_aload_n hx hb dX5_taken_0 rfl (lv_at hl 0 rfl) ?_
  refine va_get (D := D) (ci := 5) (v := .int vtt) (C := RX5) (T := TX5) (N := 4) hx hb hts mi_X5_taken_X5 hown hK.1 hP 0 rfl rfl 3 (by decide) (hts _ mm_X5_taken_1) (fun _ h9 => h9) rfl dX5_taken_1 ?_
  exact W.iret hx hb hr (fun t ht hW => ⟨⟨_, (), rfl, Option.some.inj hF, trivial⟩, hS.F ht⟩) hS.2.2 dX5_taken_4
theorem mm_X5_length_1 : Cond.fieldLink RX5 30 "RollerMesh$Turn" "length" "I" ∈ wsX5_length := List.mem_of_getElem? (i := 1) rfl
theorem mi_X5_length_X5 : ∀ w ∈ wsX50, w ∈ wsX5_length := fun _ h => List.mem_cons_of_mem _ (List.mem_append_right _ h)
set_option maxHeartbeats 4000000 in
set_option maxRecDepth 100000 in
theorem c_X5_length (l : Launch) (D : va_G) (cyI cyZ : ClassId) (aT aTp : Nat) (N : Nat) (vtl : Int32) (vta : Int32) (vtt : Int32) {r0 : Int32}  (hF : p_X5_length N vtl vta vtt = some (r0)) : Met l yX5_length wsX5_length ({ frames := 0, cells := 0, slots := 0, locals := 0 }) (x_PR D cyI cyZ [.ref aT] [(aT, .inr (5, [.ref aTp, .int vtl, .int vta, .int vtt]))]) (x_QR r0) 0 0 (fun _ => False) := by
  refine Met.ofW (cc := cX5_length) (maxL := 1) (ret := (some .int)) (by decide) rfl ?_
  intro p e s m args below meth c s₁ B hml hv
  obtain ⟨rfl, hP, hK⟩ := hv
  have hx := B.exec
  have hb := B.bytes
  have hr := B.returns
  have hts := atoms_spec (ws := wsX5_length) B.pre
  have hown : s.vm.findClass RX5 = some m.cls := findClass_of_methodNamed B.named
  have hlocks := B.notSynchronized
  have hS : va_S (fun _ => False) s.heap s.heap [] := va_S.rf
  have hP : va_P D vwCl [(aT, .inr (5, [.ref aTp, .int vtl, .int vta, .int vtt]))] s.heap := hP
  have hl := lv_entry ([.ref aT]) (n := 1) (Nat.le_of_ble_eq_true rfl)
  rw [lg_entry_eq]
  generalize (lg_sl ([.ref aT]) ++ List.replicate (1 - (lg_sl ([.ref aT])).length) Slot.unset).toArray = ls at hl ⊢
  have hl : lv_has ls 1 [(0, .ref aT)] := hl
  unfold p_X5_length at hF
  refine lv_aload_n hx hb dX5_length_0 rfl (lv_at hl 0 rfl) ?_
  refine va_get (D := D) (ci := 5) (v := .int vtl) (C := RX5) (T := TX5) (N := 4) hx hb hts mi_X5_length_X5 hown hK.1 hP 0 rfl rfl 1 (by decide) (hts _ mm_X5_length_1) (fun _ h9 => h9) rfl dX5_length_1 ?_
  exact W.iret hx hb hr (fun t ht hW => ⟨⟨_, (), rfl, Option.some.inj hF, trivial⟩, hS.F ht⟩) hS.2.2 dX5_length_4
theorem mm_X5_leastPress_1 : Cond.fieldLink RX5 30 "RollerMesh$Turn" "length" "I" ∈ wsX5_leastPress := List.mem_of_getElem? (i := 1) rfl
theorem mm_X5_leastPress_2 : Cond.methodLink RX5 25 Lib.Math.min.name ∈ wsX5_leastPress := List.mem_of_getElem? (i := 2) rfl
theorem mm_X5_leastPress_3 : Cond.static Lib.Math.min.name ∈ wsX5_leastPress := List.mem_of_getElem? (i := 3) rfl
theorem mm_X5_leastPress_4 : Cond.initialized "java/lang/Math" ∈ wsX5_leastPress := List.mem_of_getElem? (i := 4) rfl
theorem mm_X5_leastPress_5 : Cond.code Lib.Math.min.name Lib.Math.min.code 2 (some .int) ∈ wsX5_leastPress := List.mem_of_getElem? (i := 5) rfl
theorem mi_X5_leastPress_X5 : ∀ w ∈ wsX50, w ∈ wsX5_leastPress := fun _ h => List.mem_cons_of_mem _ (List.mem_append_right _ h)
set_option maxHeartbeats 4000000 in
set_option maxRecDepth 100000 in
theorem c_X5_leastPress (l : Launch) (D : va_G) (cyI cyZ : ClassId) (aT aTp : Nat) (N : Nat) (vtl : Int32) (vta : Int32) (vtt : Int32) (vtp : (Nat → Int32)) {r0 : Int32}  (hF : p_X5_leastPress N vtl vta vtt vtp = some (r0)) : Met l yX5_leastPress wsX5_leastPress ({ frames := 1, cells := 0, slots := 0, locals := 21 }) (x_PR D cyI cyZ [.ref aT] [(aT, .inr (5, [.ref aTp, .int vtl, .int vta, .int vtt])), (aTp, .inl (cyI, 552, .inl vtp))]) (x_QR r0) 0 0 (fun _ => False) := by
  refine Met.ofW (cc := cX5_leastPress) (maxL := 3) (ret := (some .int)) (by decide) rfl ?_
  intro p e s m args below meth c s₁ B hml hv
  obtain ⟨rfl, hP, hK⟩ := hv
  have hx := B.exec
  have hb := B.bytes
  have hr := B.returns
  have hts := atoms_spec (ws := wsX5_leastPress) B.pre
  have hown : s.vm.findClass RX5 = some m.cls := findClass_of_methodNamed B.named
  have hlocks := B.notSynchronized
  have hS : va_S (fun _ => False) s.heap s.heap [] := va_S.rf
  have hP : va_P D vwCl [(aT, .inr (5, [.ref aTp, .int vtl, .int vta, .int vtt])), (aTp, .inl (cyI, 552, .inl vtp))] s.heap := hP
  have hl := lv_entry ([.ref aT]) (n := 3) (Nat.le_of_ble_eq_true rfl)
  rw [lg_entry_eq]
  generalize (lg_sl ([.ref aT]) ++ List.replicate (3 - (lg_sl ([.ref aT])).length) Slot.unset).toArray = ls at hl ⊢
  have hl : lv_has ls 3 [(0, .ref aT)] := hl
  refine x_gen (fun G hG => ?_)
  have blk_8 : ∀ (n_8 : Nat) (x1 : Int32) (x2 : Int32), f_X5_leastPress_8 N n_8 x1 x2 vtl vta vtt vtp = some (r0) → ∀ (H : Heap) (locs : List Loc) (ls : Array Slot), va_P D vwCl [(aT, .inr (5, [.ref aTp, .int vtl, .int vta, .int vtt])), (aTp, .inl (cyI, 552, .inl vtp))] H → va_S (fun _ => False) s.heap H locs → lv_has ls 3 [(0, .ref aT), (1, .int x1), (2, .int x2)] → G H locs (F0 m 8 ls []) := by
    intro n_8
    induction n_8 with
    | zero => intro x1 x2 hF; exact (k_none hF).elim
    | succ n_8 ih_8 =>
      intro x1 x2 hF H locs ls hP hS hl
      replace hF : b_X5_leastPress_8 N (f_X5_leastPress_8 N n_8) x1 x2 vtl vta vtt vtp = some (r0) := hF
      unfold b_X5_leastPress_8 at hF
      refine (hG _ _ _).2 ?_
      refine lv_iload_n hx hb dX5_leastPress_8 rfl (lv_at hl 2 rfl) ?_
      refine lv_aload_n hx hb dX5_leastPress_9 rfl (lv_at hl 0 rfl) ?_
      refine va_get (D := D) (ci := 5) (v := .int vtl) (C := RX5) (T := TX5) (N := 4) hx hb hts mi_X5_leastPress_X5 hown hK.1 hP 0 rfl rfl 1 (by decide) (hts _ mm_X5_leastPress_1) (fun _ h9 => h9) rfl dX5_leastPress_10 ?_
      refine lv_icmp_ge (tgt := 32) hx hb dX5_leastPress_13 (by decide) (fun hc => ?_) (fun hc => ?_)
      · have hF := k_if_t hF hc
        refine lv_iload_n hx hb dX5_leastPress_32 rfl (lv_at hl 1 rfl) ?_
        exact W.iret hx hb hr (fun t ht hW => ⟨⟨_, (), rfl, Option.some.inj hF, trivial⟩, hS.F ht⟩) hS.2.2 dX5_leastPress_33
      · have hF := k_if_f hF hc
        refine lv_iload_n hx hb dX5_leastPress_16 rfl (lv_at hl 1 rfl) ?_
        refine lv_aload_n hx hb dX5_leastPress_17 rfl (lv_at hl 0 rfl) ?_
        refine lv_iload_n hx hb dX5_leastPress_18 rfl (lv_at hl 2 rfl) ?_
        obtain ⟨r19, hC, hF⟩ := k_c1_ex hF
        refine x_VR (As := [.int x2]) (rest := [.int x1]) ⟨hx, hb, hml, hown, hts⟩ (c_X5_press l D cyI cyZ aT aTp N x2 vtl vta vtt vtp hC) (cwV 1 hts gX5_leastPress_X5_press rfl rfl rfl (by decide +kernel) ⟨Nat.le_of_ble_eq_true rfl, Nat.le_of_ble_eq_true rfl⟩) hK hP hS [0, 1] rfl 0 rfl rfl rfl rfl hl.1 rfl (Nat.le_of_ble_eq_true rfl) ⟨Nat.zero_le _, Nat.zero_le _⟩ dX5_leastPress_19 (fun H locs hP hS => ?_)
        obtain ⟨r22, hn, hF⟩ := k_let_ex hF
        refine va_mmin hx hb (hml.trans hl.1.symm) hown (hts _ mm_X5_leastPress_2) (hts _ mm_X5_leastPress_3) (hts _ mm_X5_leastPress_4) (hts _ mm_X5_leastPress_5) (Nat.le_of_ble_eq_true rfl) (Nat.le_of_ble_eq_true rfl) (Nat.zero_le _) (Nat.zero_le _) dX5_leastPress_22 ?_
        refine x_nm hn ?_
        refine lv_istore_n (lv' := [(1, .int r22), (0, .ref aT), (2, .int x2)]) hx hb dX5_leastPress_25 rfl hl (by decide) rfl (fun ls hl => ?_)
        obtain ⟨x2_26, hn, hF⟩ := k_let_ex hF
        refine lv_iinc (v := x2_26) (lv' := [(2, .int x2_26), (1, .int r22), (0, .ref aT)]) hx hb dX5_leastPress_26 hl (k := 2) rfl (by rw [hn]; rfl) (by decide) rfl (fun ls hl => ?_)
        refine lv_goto (tgt := 8) hx hb dX5_leastPress_29 (by decide) ?_
        exact (hG _ _ _).1 (ih_8 r22 x2_26 hF _ _ _ hP hS (lv_sub hl [2, 1, 0] rfl))
  refine (hG _ _ _).2 ?_
  unfold p_X5_leastPress at hF
  refine lv_aload_n hx hb dX5_leastPress_0 rfl (lv_at hl 0 rfl) ?_
  refine lv_iconst (v := (0 : Int32)) hx hb dX5_leastPress_1 (by decide) ?_
  obtain ⟨r2, hC, hF⟩ := k_c1_ex hF
  refine x_VR (As := [.int (0 : Int32)]) (rest := []) ⟨hx, hb, hml, hown, hts⟩ (c_X5_press l D cyI cyZ aT aTp N (0 : Int32) vtl vta vtt vtp hC) (cwV 1 hts gX5_leastPress_X5_press rfl rfl rfl (by decide +kernel) ⟨Nat.le_of_ble_eq_true rfl, Nat.le_of_ble_eq_true rfl⟩) hK hP hS [0, 1] rfl 0 rfl rfl rfl rfl hl.1 rfl (Nat.le_of_ble_eq_true rfl) ⟨Nat.zero_le _, Nat.zero_le _⟩ dX5_leastPress_2 (fun H locs hP hS => ?_)
  refine lv_istore_n (lv' := [(1, .int r2), (0, .ref aT)]) hx hb dX5_leastPress_5 rfl hl (by decide) rfl (fun ls hl => ?_)
  refine lv_iconst (v := (1 : Int32)) hx hb dX5_leastPress_6 (by decide) ?_
  refine lv_istore_n (lv' := [(2, .int (1 : Int32)), (1, .int r2), (0, .ref aT)]) hx hb dX5_leastPress_7 rfl hl (by decide) rfl (fun ls hl => ?_)
  exact (hG _ _ _).1 (blk_8 N r2 (1 : Int32) hF _ _ _ hP hS (lv_sub hl [2, 1, 0] rfl))
theorem mm_X5_greatestPress_1 : Cond.fieldLink RX5 30 "RollerMesh$Turn" "length" "I" ∈ wsX5_greatestPress := List.mem_of_getElem? (i := 1) rfl
theorem mm_X5_greatestPress_2 : Cond.methodLink RX5 43 Lib.Math.max.name ∈ wsX5_greatestPress := List.mem_of_getElem? (i := 2) rfl
theorem mm_X5_greatestPress_3 : Cond.static Lib.Math.max.name ∈ wsX5_greatestPress := List.mem_of_getElem? (i := 3) rfl
theorem mm_X5_greatestPress_4 : Cond.initialized "java/lang/Math" ∈ wsX5_greatestPress := List.mem_of_getElem? (i := 4) rfl
theorem mm_X5_greatestPress_5 : Cond.code Lib.Math.max.name Lib.Math.max.code 2 (some .int) ∈ wsX5_greatestPress := List.mem_of_getElem? (i := 5) rfl
theorem mi_X5_greatestPress_X5 : ∀ w ∈ wsX50, w ∈ wsX5_greatestPress := fun _ h => List.mem_cons_of_mem _ (List.mem_append_right _ h)
set_option maxHeartbeats 4000000 in
set_option maxRecDepth 100000 in
theorem c_X5_greatestPress (l : Launch) (D : va_G) (cyI cyZ : ClassId) (aT aTp : Nat) (N : Nat) (vtl : Int32) (vta : Int32) (vtt : Int32) (vtp : (Nat → Int32)) {r0 : Int32}  (hF : p_X5_greatestPress N vtl vta vtt vtp = some (r0)) : Met l yX5_greatestPress wsX5_greatestPress ({ frames := 1, cells := 0, slots := 0, locals := 21 }) (x_PR D cyI cyZ [.ref aT] [(aT, .inr (5, [.ref aTp, .int vtl, .int vta, .int vtt])), (aTp, .inl (cyI, 552, .inl vtp))]) (x_QR r0) 0 0 (fun _ => False) := by
  refine Met.ofW (cc := cX5_greatestPress) (maxL := 3) (ret := (some .int)) (by decide) rfl ?_
  intro p e s m args below meth c s₁ B hml hv
  obtain ⟨rfl, hP, hK⟩ := hv
  have hx := B.exec
  have hb := B.bytes
  have hr := B.returns
  have hts := atoms_spec (ws := wsX5_greatestPress) B.pre
  have hown : s.vm.findClass RX5 = some m.cls := findClass_of_methodNamed B.named
  have hlocks := B.notSynchronized
  have hS : va_S (fun _ => False) s.heap s.heap [] := va_S.rf
  have hP : va_P D vwCl [(aT, .inr (5, [.ref aTp, .int vtl, .int vta, .int vtt])), (aTp, .inl (cyI, 552, .inl vtp))] s.heap := hP
  have hl := lv_entry ([.ref aT]) (n := 3) (Nat.le_of_ble_eq_true rfl)
  rw [lg_entry_eq]
  generalize (lg_sl ([.ref aT]) ++ List.replicate (3 - (lg_sl ([.ref aT])).length) Slot.unset).toArray = ls at hl ⊢
  have hl : lv_has ls 3 [(0, .ref aT)] := hl
  refine x_gen (fun G hG => ?_)
  have blk_8 : ∀ (n_8 : Nat) (x1 : Int32) (x2 : Int32), f_X5_greatestPress_8 N n_8 x1 x2 vtl vta vtt vtp = some (r0) → ∀ (H : Heap) (locs : List Loc) (ls : Array Slot), va_P D vwCl [(aT, .inr (5, [.ref aTp, .int vtl, .int vta, .int vtt])), (aTp, .inl (cyI, 552, .inl vtp))] H → va_S (fun _ => False) s.heap H locs → lv_has ls 3 [(0, .ref aT), (1, .int x1), (2, .int x2)] → G H locs (F0 m 8 ls []) := by
    intro n_8
    induction n_8 with
    | zero => intro x1 x2 hF; exact (k_none hF).elim
    | succ n_8 ih_8 =>
      intro x1 x2 hF H locs ls hP hS hl
      replace hF : b_X5_greatestPress_8 N (f_X5_greatestPress_8 N n_8) x1 x2 vtl vta vtt vtp = some (r0) := hF
      unfold b_X5_greatestPress_8 at hF
      refine (hG _ _ _).2 ?_
      refine lv_iload_n hx hb dX5_greatestPress_8 rfl (lv_at hl 2 rfl) ?_
      refine lv_aload_n hx hb dX5_greatestPress_9 rfl (lv_at hl 0 rfl) ?_
      refine va_get (D := D) (ci := 5) (v := .int vtl) (C := RX5) (T := TX5) (N := 4) hx hb hts mi_X5_greatestPress_X5 hown hK.1 hP 0 rfl rfl 1 (by decide) (hts _ mm_X5_greatestPress_1) (fun _ h9 => h9) rfl dX5_greatestPress_10 ?_
      refine lv_icmp_ge (tgt := 32) hx hb dX5_greatestPress_13 (by decide) (fun hc => ?_) (fun hc => ?_)
      · have hF := k_if_t hF hc
        refine lv_iload_n hx hb dX5_greatestPress_32 rfl (lv_at hl 1 rfl) ?_
        exact W.iret hx hb hr (fun t ht hW => ⟨⟨_, (), rfl, Option.some.inj hF, trivial⟩, hS.F ht⟩) hS.2.2 dX5_greatestPress_33
      · have hF := k_if_f hF hc
        refine lv_iload_n hx hb dX5_greatestPress_16 rfl (lv_at hl 1 rfl) ?_
        refine lv_aload_n hx hb dX5_greatestPress_17 rfl (lv_at hl 0 rfl) ?_
        refine lv_iload_n hx hb dX5_greatestPress_18 rfl (lv_at hl 2 rfl) ?_
        obtain ⟨r19, hC, hF⟩ := k_c1_ex hF
        refine x_VR (As := [.int x2]) (rest := [.int x1]) ⟨hx, hb, hml, hown, hts⟩ (c_X5_press l D cyI cyZ aT aTp N x2 vtl vta vtt vtp hC) (cwV 1 hts gX5_greatestPress_X5_press rfl rfl rfl (by decide +kernel) ⟨Nat.le_of_ble_eq_true rfl, Nat.le_of_ble_eq_true rfl⟩) hK hP hS [0, 1] rfl 0 rfl rfl rfl rfl hl.1 rfl (Nat.le_of_ble_eq_true rfl) ⟨Nat.zero_le _, Nat.zero_le _⟩ dX5_greatestPress_19 (fun H locs hP hS => ?_)
        obtain ⟨r22, hn, hF⟩ := k_let_ex hF
        refine va_mmax hx hb (hml.trans hl.1.symm) hown (hts _ mm_X5_greatestPress_2) (hts _ mm_X5_greatestPress_3) (hts _ mm_X5_greatestPress_4) (hts _ mm_X5_greatestPress_5) (Nat.le_of_ble_eq_true rfl) (Nat.le_of_ble_eq_true rfl) (Nat.zero_le _) (Nat.zero_le _) dX5_greatestPress_22 ?_
        refine x_nm hn ?_
        refine lv_istore_n (lv' := [(1, .int r22), (0, .ref aT), (2, .int x2)]) hx hb dX5_greatestPress_25 rfl hl (by decide) rfl (fun ls hl => ?_)
        obtain ⟨x2_26, hn, hF⟩ := k_let_ex hF
        refine lv_iinc (v := x2_26) (lv' := [(2, .int x2_26), (1, .int r22), (0, .ref aT)]) hx hb dX5_greatestPress_26 hl (k := 2) rfl (by rw [hn]; rfl) (by decide) rfl (fun ls hl => ?_)
        refine lv_goto (tgt := 8) hx hb dX5_greatestPress_29 (by decide) ?_
        exact (hG _ _ _).1 (ih_8 r22 x2_26 hF _ _ _ hP hS (lv_sub hl [2, 1, 0] rfl))
  refine (hG _ _ _).2 ?_
  unfold p_X5_greatestPress at hF
  refine lv_aload_n hx hb dX5_greatestPress_0 rfl (lv_at hl 0 rfl) ?_
  refine lv_iconst (v := (0 : Int32)) hx hb dX5_greatestPress_1 (by decide) ?_
  obtain ⟨r2, hC, hF⟩ := k_c1_ex hF
  refine x_VR (As := [.int (0 : Int32)]) (rest := []) ⟨hx, hb, hml, hown, hts⟩ (c_X5_press l D cyI cyZ aT aTp N (0 : Int32) vtl vta vtt vtp hC) (cwV 1 hts gX5_greatestPress_X5_press rfl rfl rfl (by decide +kernel) ⟨Nat.le_of_ble_eq_true rfl, Nat.le_of_ble_eq_true rfl⟩) hK hP hS [0, 1] rfl 0 rfl rfl rfl rfl hl.1 rfl (Nat.le_of_ble_eq_true rfl) ⟨Nat.zero_le _, Nat.zero_le _⟩ dX5_greatestPress_2 (fun H locs hP hS => ?_)
  refine lv_istore_n (lv' := [(1, .int r2), (0, .ref aT)]) hx hb dX5_greatestPress_5 rfl hl (by decide) rfl (fun ls hl => ?_)
  refine lv_iconst (v := (1 : Int32)) hx hb dX5_greatestPress_6 (by decide) ?_
  refine lv_istore_n (lv' := [(2, .int (1 : Int32)), (1, .int r2), (0, .ref aT)]) hx hb dX5_greatestPress_7 rfl hl (by decide) rfl (fun ls hl => ?_)
  exact (hG _ _ _).1 (blk_8 N r2 (1 : Int32) hF _ _ _ hP hS (lv_sub hl [2, 1, 0] rfl))
theorem mm_X5_isSmooth_1 : Cond.fieldLink RX5 30 "RollerMesh$Turn" "length" "I" ∈ wsX5_isSmooth := List.mem_of_getElem? (i := 1) rfl
theorem mi_X5_isSmooth_X5 : ∀ w ∈ wsX50, w ∈ wsX5_isSmooth := fun _ h => List.mem_cons_of_mem _ (List.mem_append_right _ h)
set_option maxHeartbeats 4000000 in
set_option maxRecDepth 100000 in
theorem c_X5_isSmooth (l : Launch) (D : va_G) (cyI cyZ : ClassId) (aT aTp : Nat) (N : Nat) (x1 : Int32) (vtl : Int32) (vta : Int32) (vtt : Int32) (vtp : (Nat → Int32)) {r0 : Int32}  (hF : p_X5_isSmooth N x1 vtl vta vtt vtp = some (r0)) : Met l yX5_isSmooth wsX5_isSmooth ({ frames := 2, cells := 0, slots := 0, locals := 44 }) (x_PR D cyI cyZ [.ref aT, .int x1] [(aT, .inr (5, [.ref aTp, .int vtl, .int vta, .int vtt])), (aTp, .inl (cyI, 552, .inl vtp))]) (x_QR r0) 0 0 (fun _ => False) := by
  refine Met.ofW (cc := cX5_isSmooth) (maxL := 3) (ret := (some .boolean)) (by decide) rfl ?_
  intro p e s m args below meth c s₁ B hml hv
  obtain ⟨rfl, hP, hK⟩ := hv
  have hx := B.exec
  have hb := B.bytes
  have hr := B.returns
  have hts := atoms_spec (ws := wsX5_isSmooth) B.pre
  have hown : s.vm.findClass RX5 = some m.cls := findClass_of_methodNamed B.named
  have hlocks := B.notSynchronized
  have hS : va_S (fun _ => False) s.heap s.heap [] := va_S.rf
  have hP : va_P D vwCl [(aT, .inr (5, [.ref aTp, .int vtl, .int vta, .int vtt])), (aTp, .inl (cyI, 552, .inl vtp))] s.heap := hP
  have hl := lv_entry ([.ref aT, .int x1]) (n := 3) (Nat.le_of_ble_eq_true rfl)
  rw [lg_entry_eq]
  generalize (lg_sl ([.ref aT, .int x1]) ++ List.replicate (3 - (lg_sl ([.ref aT, .int x1])).length) Slot.unset).toArray = ls at hl ⊢
  have hl : lv_has ls 3 [(0, .ref aT), (1, .int x1)] := hl
  refine x_gen (fun G hG => ?_)
  have blk_2 : ∀ (n_2 : Nat) (x1 : Int32) (x2 : Int32), f_X5_isSmooth_2 N n_2 x1 x2 vtl vta vtt vtp = some (r0) → ∀ (H : Heap) (locs : List Loc) (ls : Array Slot), va_P D vwCl [(aT, .inr (5, [.ref aTp, .int vtl, .int vta, .int vtt])), (aTp, .inl (cyI, 552, .inl vtp))] H → va_S (fun _ => False) s.heap H locs → lv_has ls 3 [(0, .ref aT), (1, .int x1), (2, .int x2)] → G H locs (F0 m 2 ls []) := by
    intro n_2
    induction n_2 with
    | zero => intro x1 x2 hF; exact (k_none hF).elim
    | succ n_2 ih_2 =>
      intro x1 x2 hF H locs ls hP hS hl
      replace hF : b_X5_isSmooth_2 N (f_X5_isSmooth_2 N n_2) x1 x2 vtl vta vtt vtp = some (r0) := hF
      unfold b_X5_isSmooth_2 at hF
      refine (hG _ _ _).2 ?_
      refine lv_iload_n hx hb dX5_isSmooth_2 rfl (lv_at hl 2 rfl) ?_
      refine lv_aload_n hx hb dX5_isSmooth_3 rfl (lv_at hl 0 rfl) ?_
      refine va_get (D := D) (ci := 5) (v := .int vtl) (C := RX5) (T := TX5) (N := 4) hx hb hts mi_X5_isSmooth_X5 hown hK.1 hP 0 rfl rfl 1 (by decide) (hts _ mm_X5_isSmooth_1) (fun _ h9 => h9) rfl dX5_isSmooth_4 ?_
      refine lv_icmp_ge (tgt := 27) hx hb dX5_isSmooth_7 (by decide) (fun hc => ?_) (fun hc => ?_)
      · have hF := k_if_t hF hc
        refine lv_iconst (v := (1 : Int32)) hx hb dX5_isSmooth_27 (by decide) ?_
        exact W.zret hx hb hr rfl (fun t ht hW => ⟨⟨_, (), rfl, Option.some.inj hF, trivial⟩, hS.F ht⟩) hS.2.2 dX5_isSmooth_28
      · have hF := k_if_f hF hc
        refine lv_aload_n hx hb dX5_isSmooth_10 rfl (lv_at hl 0 rfl) ?_
        refine lv_iload_n hx hb dX5_isSmooth_11 rfl (lv_at hl 2 rfl) ?_
        refine lv_iload_n hx hb dX5_isSmooth_12 rfl (lv_at hl 1 rfl) ?_
        obtain ⟨r13, hC, hF⟩ := k_c1_ex hF
        refine x_VR (As := [.int x2, .int x1]) (rest := []) ⟨hx, hb, hml, hown, hts⟩ (c_X5_isSmoothAt l D cyI cyZ aT aTp N x2 x1 vtl vta vtt vtp hC) (cwV 2 hts gX5_isSmooth_X5_isSmoothAt rfl rfl rfl (by decide +kernel) ⟨Nat.le_of_ble_eq_true rfl, Nat.le_of_ble_eq_true rfl⟩) hK hP hS [0, 1] rfl 0 rfl rfl rfl rfl hl.1 rfl (Nat.le_of_ble_eq_true rfl) ⟨Nat.zero_le _, Nat.zero_le _⟩ dX5_isSmooth_13 (fun H locs hP hS => ?_)
        refine lv_if_ne (tgt := 21) hx hb dX5_isSmooth_16 (by decide) (fun hc => ?_) (fun hc => ?_)
        · have hF := k_if_f hF hc
          obtain ⟨x2_21, hn, hF⟩ := k_let_ex hF
          refine lv_iinc (v := x2_21) (lv' := [(2, .int x2_21), (0, .ref aT), (1, .int x1)]) hx hb dX5_isSmooth_21 hl (k := 2) rfl (by rw [hn]; rfl) (by decide) rfl (fun ls hl => ?_)
          refine lv_goto (tgt := 2) hx hb dX5_isSmooth_24 (by decide) ?_
          exact (hG _ _ _).1 (ih_2 x1 x2_21 hF _ _ _ hP hS (lv_sub hl [1, 2, 0] rfl))
        · have hF := k_if_t hF hc
          refine lv_iconst (v := (0 : Int32)) hx hb dX5_isSmooth_19 (by decide) ?_
          exact W.zret hx hb hr rfl (fun t ht hW => ⟨⟨_, (), rfl, Option.some.inj hF, trivial⟩, hS.F ht⟩) hS.2.2 dX5_isSmooth_20
  refine (hG _ _ _).2 ?_
  unfold p_X5_isSmooth at hF
  refine lv_iconst (v := (0 : Int32)) hx hb dX5_isSmooth_0 (by decide) ?_
  refine lv_istore_n (lv' := [(2, .int (0 : Int32)), (0, .ref aT), (1, .int x1)]) hx hb dX5_isSmooth_1 rfl hl (by decide) rfl (fun ls hl => ?_)
  exact (hG _ _ _).1 (blk_2 N x1 (0 : Int32) hF _ _ _ hP hS (lv_sub hl [1, 2, 0] rfl))
