theorem mm_X3_copyTo_Hs_1 : Cond.fieldLink RX3 11 "RollerMesh$Shop" "cells" "[I" ∈ wsX3_copyTo := List.mem_of_getElem? (i := 1) rfl
theorem mm_X3_copyTo_Hs_2 : Cond.methodLink RX3 70 arraycopyName ∈ wsX3_copyTo := List.mem_of_getElem? (i := 2) rfl
theorem mm_X3_copyTo_Hs_3 : Cond.native arraycopyName ∈ wsX3_copyTo := List.mem_of_getElem? (i := 3) rfl
theorem mm_X3_copyTo_Hs_4 : Cond.static arraycopyName ∈ wsX3_copyTo := List.mem_of_getElem? (i := 4) rfl
theorem mm_X3_copyTo_Hs_5 : Cond.initialized "java/lang/System" ∈ wsX3_copyTo := List.mem_of_getElem? (i := 5) rfl
theorem mi_X3_copyTo_Hs_X3 : ∀ w ∈ wsX30, w ∈ wsX3_copyTo := fun _ h => List.mem_cons_of_mem _ (List.mem_append_right _ h)
set_option maxHeartbeats 4000000 in
set_option maxRecDepth 100000 in
theorem c_X3_copyTo_Hs (l : Launch) (D : va_G) (cyI cyZ : ClassId) (aS aC aHs : Nat) (sz : Nat) (N : Nat) (x2 : Int32) (vc : (Nat → Int32)) (vhs : (Nat → Int32)) {vhs' : (Nat → Int32)} (hF : p_X3_copyTo_Hs N x2 vc vhs = some (vhs')) : Met l yX3_copyTo wsX3_copyTo ({ frames := 1, cells := 0, slots := 0, locals := 26 }) (x_PM D cyI cyZ [.ref aS, .ref aHs, .int x2] [(aS, .inr (3, [.ref aC])), (aC, .inl (cyI, 225, .inl vc)), (aHs, .inl (cyI, 1575, .inl vhs))] sz) (x_QV D (va_A [(aS, .inr (3, [.ref aC])), (aC, .inl (cyI, 225, .inl vc)), (aHs, .inl (cyI, 1575, .inl vhs))] sz) [(aS, .inr (3, [.ref aC])), (aC, .inl (cyI, 225, .inl vc)), (aHs, .inl (cyI, 1575, .inl vhs'))]) 0 0 (va_A [(aS, .inr (3, [.ref aC])), (aC, .inl (cyI, 225, .inl vc)), (aHs, .inl (cyI, 1575, .inl vhs))] sz) := by
  refine Met.ofW (cc := cX3_copyTo) (maxL := 3) (ret := none) (by decide) rfl ?_
  intro p e s m args below meth c s₁ B hml hv
  obtain ⟨rfl, hsz, hP, hK, hD0⟩ := hv
  have hx := B.exec
  have hb := B.bytes
  have hr := B.returns
  have hts := atoms_spec (ws := wsX3_copyTo) B.pre
  have hown : s.vm.findClass RX3 = some m.cls := findClass_of_methodNamed B.named
  have hlocks := B.notSynchronized
  subst hsz
  have hD := hD0.self (sz := s.heap.size)
  generalize hAe : va_A [(aS, .inr (3, [.ref aC])), (aC, .inl (cyI, 225, .inl vc)), (aHs, .inl (cyI, 1575, .inl vhs))] s.heap.size = A at hD ⊢
  have hA : ∀ q : Nat, s.heap.size ≤ q → A q := fun q h => by rw [← hAe]; exact Or.inr h
  have hS : va_S A s.heap s.heap [] := va_S.rf
  have hP : va_P D vwCl [(aS, .inr (3, [.ref aC])), (aC, .inl (cyI, 225, .inl vc)), (aHs, .inl (cyI, 1575, .inl vhs))] s.heap := hP
  have hl := lv_entry ([.ref aS, .ref aHs, .int x2]) (n := 3) (Nat.le_of_ble_eq_true rfl)
  rw [lg_entry_eq]
  generalize (lg_sl ([.ref aS, .ref aHs, .int x2]) ++ List.replicate (3 - (lg_sl ([.ref aS, .ref aHs, .int x2])).length) Slot.unset).toArray = ls at hl ⊢
  have hl : lv_has ls 3 [(0, .ref aS), (1, .ref aHs), (2, .int x2)] := hl
  unfold p_X3_copyTo_Hs at hF
  refine lv_iload_n hx hb dX3_copyTo_0 rfl (lv_at hl 2 rfl) ?_
  refine lv_if_lt (tgt := 31) hx hb dX3_copyTo_1 (by decide) (fun hc => ?_) (fun hc => ?_)
  · have hF := k_if_t hF hc
    have e0 := k_inj1 hF
    have hP9 : va_P D vwCl [(aS, .inr (3, [.ref aC])), (aC, .inl (cyI, 225, .inl vc)), (aHs, .inl (cyI, 1575, .inl vhs'))] s.heap := by rw [← e0]; exact hP
    exact W.vret hx hb hr (fun t ht hW => ⟨⟨(), rfl, trivial, x_ret hP9 ht⟩, hS.F ht⟩) hS.2.2 dX3_copyTo_31
  · have hF := k_if_f hF hc
    refine lv_iload_n hx hb dX3_copyTo_4 rfl (lv_at hl 2 rfl) ?_
    refine lv_aload_n hx hb dX3_copyTo_5 rfl (lv_at hl 1 rfl) ?_
    refine x_alen (v := (1575 : Int32)) hx hb hK hP 2 rfl rfl dX3_copyTo_6 ?_
    refine lv_sipush (v := (225 : Int32)) hx hb dX3_copyTo_7 (by decide) ?_
    obtain ⟨hz, hF⟩ := k_nz_ex hF
    refine lv_idiv hx hb dX3_copyTo_10 hz ?_
    refine lv_icmp_ge (tgt := 31) hx hb dX3_copyTo_11 (by decide) (fun hc => ?_) (fun hc => ?_)
    · have hF := k_if_t hF hc
      have e0 := k_inj1 hF
      have hP9 : va_P D vwCl [(aS, .inr (3, [.ref aC])), (aC, .inl (cyI, 225, .inl vc)), (aHs, .inl (cyI, 1575, .inl vhs'))] s.heap := by rw [← e0]; exact hP
      exact W.vret hx hb hr (fun t ht hW => ⟨⟨(), rfl, trivial, x_ret hP9 ht⟩, hS.F ht⟩) hS.2.2 dX3_copyTo_31
    · have hF := k_if_f hF hc
      refine lv_aload_n hx hb dX3_copyTo_14 rfl (lv_at hl 0 rfl) ?_
      refine va_get (D := D) (ci := 3) (v := .ref aC) (C := RX3) (T := TX3) (N := 1) hx hb hts mi_X3_copyTo_Hs_X3 hown hK.1 hP 0 rfl rfl 0 (by decide) (hts _ mm_X3_copyTo_Hs_1) (fun _ h9 => h9) rfl dX3_copyTo_15 ?_
      refine lv_iconst (v := (0 : Int32)) hx hb dX3_copyTo_18 (by decide) ?_
      refine lv_aload_n hx hb dX3_copyTo_19 rfl (lv_at hl 1 rfl) ?_
      refine lv_iload_n hx hb dX3_copyTo_20 rfl (lv_at hl 2 rfl) ?_
      refine lv_sipush (v := (225 : Int32)) hx hb dX3_copyTo_21 (by decide) ?_
      refine lv_imul hx hb dX3_copyTo_24 ?_
      refine lv_sipush (v := (225 : Int32)) hx hb dX3_copyTo_25 (by decide) ?_
      obtain ⟨vhs_28, ⟨hq1, hq2, hq3, hq4, hq5⟩, hn, hF⟩ := k_cpy_ex hF
      refine va_copyi hx hb (hml.trans hl.1.symm) hown (hts _ mm_X3_copyTo_Hs_2) (hts _ mm_X3_copyTo_Hs_3) (hts _ mm_X3_copyTo_Hs_4) (hts _ mm_X3_copyTo_Hs_5) hK.1 hP hD hS 1 2 0 0 rfl rfl rfl rfl rfl hq1 hq2 hq3 hq4 hq5 (fun _ _ => rfl) (Nat.le_of_ble_eq_true rfl) (Nat.le_of_ble_eq_true rfl) dX3_copyTo_28 (fun H locs hP hD hS => ?_)
      rw [← hn] at hP hD
      have hP : va_P D vwCl [(aS, .inr (3, [.ref aC])), (aC, .inl (cyI, 225, .inl vc)), (aHs, .inl (cyI, 1575, .inl vhs_28))] H := hP
      have hD : va_D A [(aS, .inr (3, [.ref aC])), (aC, .inl (cyI, 225, .inl vc)), (aHs, .inl (cyI, 1575, .inl vhs_28))] := hD
      have e0 := k_inj1 hF
      have hP9 : va_P D vwCl [(aS, .inr (3, [.ref aC])), (aC, .inl (cyI, 225, .inl vc)), (aHs, .inl (cyI, 1575, .inl vhs'))] H := by rw [← e0]; exact hP
      exact W.vret hx hb hr (fun t ht hW => ⟨⟨(), rfl, trivial, x_ret hP9 ht⟩, hS.F ht⟩) hS.2.2 dX3_copyTo_31
set_option maxHeartbeats 4000000 in
set_option maxRecDepth 100000 in
theorem c_X6_outside (l : Launch) (D : va_G) (cyI cyZ : ClassId) (N : Nat) (x0 : Int32) (x1 : Int32) (x2 : Int32) {r0 : Int32}  (hF : p_X6_outside N x0 x1 x2 = some (r0)) : Met l yX6_outside wsX6_outside ({ frames := 0, cells := 0, slots := 0, locals := 0 }) (x_PR D cyI cyZ [.int x0, .int x1, .int x2] []) (x_QR r0) 0 0 (fun _ => False) := by
  refine Met.ofW (cc := cX6_outside) (maxL := 3) (ret := (some .boolean)) (by decide) rfl ?_
  intro p e s m args below meth c s₁ B hml hv
  obtain ⟨rfl, hP, hK⟩ := hv
  have hx := B.exec
  have hb := B.bytes
  have hr := B.returns
  have hts := atoms_spec (ws := wsX6_outside) B.pre
  have hown : s.vm.findClass RX6 = some m.cls := findClass_of_methodNamed B.named
  have hlocks := B.notSynchronized
  have hS : va_S (fun _ => False) s.heap s.heap [] := va_S.rf
  have hP : va_P D vwCl [] s.heap := hP
  have hl := lv_entry ([.int x0, .int x1, .int x2]) (n := 3) (Nat.le_of_ble_eq_true rfl)
  rw [lg_entry_eq]
  generalize (lg_sl ([.int x0, .int x1, .int x2]) ++ List.replicate (3 - (lg_sl ([.int x0, .int x1, .int x2])).length) Slot.unset).toArray = ls at hl ⊢
  have hl : lv_has ls 3 [(0, .int x0), (1, .int x1), (2, .int x2)] := hl
  unfold p_X6_outside at hF
  refine lv_iload_n hx hb dX6_outside_0 rfl (lv_at hl 0 rfl) ?_
  refine lv_iload_n hx hb dX6_outside_1 rfl (lv_at hl 1 rfl) ?_
  refine lv_icmp_lt (tgt := 10) hx hb dX6_outside_2 (by decide) (fun hc => ?_) (fun hc => ?_)
  · have hF := k_if_t hF hc
    refine lv_iconst (v := (1 : Int32)) hx hb dX6_outside_10 (by decide) ?_
    refine lv_goto (tgt := 15) hx hb dX6_outside_11 (by decide) ?_
    exact W.zret hx hb hr rfl (fun t ht hW => ⟨⟨_, (), rfl, Option.some.inj hF, trivial⟩, hS.F ht⟩) hS.2.2 dX6_outside_15
  · have hF := k_if_f hF hc
    refine lv_iload_n hx hb dX6_outside_5 rfl (lv_at hl 0 rfl) ?_
    refine lv_iload_n hx hb dX6_outside_6 rfl (lv_at hl 2 rfl) ?_
    refine lv_icmp_le (tgt := 14) hx hb dX6_outside_7 (by decide) (fun hc => ?_) (fun hc => ?_)
    · have hF := k_if_t hF hc
      refine lv_iconst (v := (0 : Int32)) hx hb dX6_outside_14 (by decide) ?_
      exact W.zret hx hb hr rfl (fun t ht hW => ⟨⟨_, (), rfl, Option.some.inj hF, trivial⟩, hS.F ht⟩) hS.2.2 dX6_outside_15
    · have hF := k_if_f hF hc
      refine lv_iconst (v := (1 : Int32)) hx hb dX6_outside_10 (by decide) ?_
      refine lv_goto (tgt := 15) hx hb dX6_outside_11 (by decide) ?_
      exact W.zret hx hb hr rfl (fun t ht hW => ⟨⟨_, (), rfl, Option.some.inj hF, trivial⟩, hS.F ht⟩) hS.2.2 dX6_outside_15
theorem mm_X3_cell_1 : Cond.fieldLink RX3 11 "RollerMesh$Shop" "cells" "[I" ∈ wsX3_cell := List.mem_of_getElem? (i := 1) rfl
theorem mi_X3_cell_X3 : ∀ w ∈ wsX30, w ∈ wsX3_cell := fun _ h => List.mem_cons_of_mem _ (List.mem_append_right _ h)
set_option maxHeartbeats 4000000 in
set_option maxRecDepth 100000 in
theorem c_X3_cell (l : Launch) (D : va_G) (cyI cyZ : ClassId) (aS aC : Nat) (N : Nat) (x1 : Int32) (vc : (Nat → Int32)) {r0 : Int32}  (hF : p_X3_cell N x1 vc = some (r0)) : Met l yX3_cell wsX3_cell ({ frames := 0, cells := 0, slots := 0, locals := 0 }) (x_PR D cyI cyZ [.ref aS, .int x1] [(aS, .inr (3, [.ref aC])), (aC, .inl (cyI, 225, .inl vc))]) (x_QR r0) 0 0 (fun _ => False) := by
  refine Met.ofW (cc := cX3_cell) (maxL := 2) (ret := (some .int)) (by decide) rfl ?_
  intro p e s m args below meth c s₁ B hml hv
  obtain ⟨rfl, hP, hK⟩ := hv
  have hx := B.exec
  have hb := B.bytes
  have hr := B.returns
  have hts := atoms_spec (ws := wsX3_cell) B.pre
  have hown : s.vm.findClass RX3 = some m.cls := findClass_of_methodNamed B.named
  have hlocks := B.notSynchronized
  have hS : va_S (fun _ => False) s.heap s.heap [] := va_S.rf
  have hP : va_P D vwCl [(aS, .inr (3, [.ref aC])), (aC, .inl (cyI, 225, .inl vc))] s.heap := hP
  have hl := lv_entry ([.ref aS, .int x1]) (n := 2) (Nat.le_of_ble_eq_true rfl)
  rw [lg_entry_eq]
  generalize (lg_sl ([.ref aS, .int x1]) ++ List.replicate (2 - (lg_sl ([.ref aS, .int x1])).length) Slot.unset).toArray = ls at hl ⊢
  have hl : lv_has ls 2 [(0, .ref aS), (1, .int x1)] := hl
  unfold p_X3_cell at hF
  refine lv_iload_n hx hb dX3_cell_0 rfl (lv_at hl 1 rfl) ?_
  refine lv_if_lt (tgt := 22) hx hb dX3_cell_1 (by decide) (fun hc => ?_) (fun hc => ?_)
  · have hF := k_if_t hF hc
    refine lv_iconst (v := (0 : Int32)) hx hb dX3_cell_22 (by decide) ?_
    exact W.iret hx hb hr (fun t ht hW => ⟨⟨_, (), rfl, Option.some.inj hF, trivial⟩, hS.F ht⟩) hS.2.2 dX3_cell_23
  · have hF := k_if_f hF hc
    refine lv_iload_n hx hb dX3_cell_4 rfl (lv_at hl 1 rfl) ?_
    refine lv_aload_n hx hb dX3_cell_5 rfl (lv_at hl 0 rfl) ?_
    refine va_get (D := D) (ci := 3) (v := .ref aC) (C := RX3) (T := TX3) (N := 1) hx hb hts mi_X3_cell_X3 hown hK.1 hP 0 rfl rfl 0 (by decide) (hts _ mm_X3_cell_1) (fun _ h9 => h9) rfl dX3_cell_6 ?_
    refine x_alen (v := (225 : Int32)) hx hb hK hP 1 rfl rfl dX3_cell_9 ?_
    refine lv_icmp_ge (tgt := 22) hx hb dX3_cell_10 (by decide) (fun hc => ?_) (fun hc => ?_)
    · have hF := k_if_t hF hc
      refine lv_iconst (v := (0 : Int32)) hx hb dX3_cell_22 (by decide) ?_
      exact W.iret hx hb hr (fun t ht hW => ⟨⟨_, (), rfl, Option.some.inj hF, trivial⟩, hS.F ht⟩) hS.2.2 dX3_cell_23
    · have hF := k_if_f hF hc
      refine lv_aload_n hx hb dX3_cell_13 rfl (lv_at hl 0 rfl) ?_
      refine va_get (D := D) (ci := 3) (v := .ref aC) (C := RX3) (T := TX3) (N := 1) hx hb hts mi_X3_cell_X3 hown hK.1 hP 0 rfl rfl 0 (by decide) (hts _ mm_X3_cell_1) (fun _ h9 => h9) rfl dX3_cell_14 ?_
      refine lv_iload_n hx hb dX3_cell_17 rfl (lv_at hl 1 rfl) ?_
      obtain ⟨r18, hin, hn, hF⟩ := k_ld_ex hF
      refine x_iald hx hb hK hP 1 rfl hin hn dX3_cell_18 ?_
      refine lv_goto (tgt := 23) hx hb dX3_cell_19 (by decide) ?_
      exact W.iret hx hb hr (fun t ht hW => ⟨⟨_, (), rfl, Option.some.inj hF, trivial⟩, hS.F ht⟩) hS.2.2 dX3_cell_23
set_option maxHeartbeats 4000000 in
set_option maxRecDepth 100000 in
theorem c_X3_placeOf (l : Launch) (D : va_G) (cyI cyZ : ClassId) (N : Nat) (x0 : Int32) {r0 : Int32}  (hF : p_X3_placeOf N x0 = some (r0)) : Met l yX3_placeOf wsX3_placeOf ({ frames := 0, cells := 0, slots := 0, locals := 0 }) (x_PR D cyI cyZ [.int x0] []) (x_QR r0) 0 0 (fun _ => False) := by
  refine Met.ofW (cc := cX3_placeOf) (maxL := 1) (ret := (some .int)) (by decide) rfl ?_
  intro p e s m args below meth c s₁ B hml hv
  obtain ⟨rfl, hP, hK⟩ := hv
  have hx := B.exec
  have hb := B.bytes
  have hr := B.returns
  have hts := atoms_spec (ws := wsX3_placeOf) B.pre
  have hown : s.vm.findClass RX3 = some m.cls := findClass_of_methodNamed B.named
  have hlocks := B.notSynchronized
  have hS : va_S (fun _ => False) s.heap s.heap [] := va_S.rf
  have hP : va_P D vwCl [] s.heap := hP
  have hl := lv_entry ([.int x0]) (n := 1) (Nat.le_of_ble_eq_true rfl)
  rw [lg_entry_eq]
  generalize (lg_sl ([.int x0]) ++ List.replicate (1 - (lg_sl ([.int x0])).length) Slot.unset).toArray = ls at hl ⊢
  have hl : lv_has ls 1 [(0, .int x0)] := hl
  unfold p_X3_placeOf at hF
  refine lv_bipush (v := (9 : Int32)) hx hb dX3_placeOf_0 (by decide) ?_
  refine lv_iload_n hx hb dX3_placeOf_2 rfl (lv_at hl 0 rfl) ?_
  refine lv_bipush (v := (27 : Int32)) hx hb dX3_placeOf_3 (by decide) ?_
  refine lv_imul hx hb dX3_placeOf_5 ?_
  refine lv_iadd hx hb dX3_placeOf_6 ?_
  exact W.iret hx hb hr (fun t ht hW => ⟨⟨_, (), rfl, Option.some.inj hF, trivial⟩, hS.F ht⟩) hS.2.2 dX3_placeOf_7
theorem mm_X3_change_1 : Cond.fieldLink RX3 11 "RollerMesh$Shop" "cells" "[I" ∈ wsX3_change := List.mem_of_getElem? (i := 1) rfl
theorem mi_X3_change_X3 : ∀ w ∈ wsX30, w ∈ wsX3_change := fun _ h => List.mem_cons_of_mem _ (List.mem_append_right _ h)
set_option maxHeartbeats 4000000 in
set_option maxRecDepth 100000 in
theorem c_X3_change (l : Launch) (D : va_G) (cyI cyZ : ClassId) (aS aC : Nat) (sz : Nat) (N : Nat) (x1 : Int32) (x2 : Int32) (vc : (Nat → Int32)) {vc' : (Nat → Int32)} (hF : p_X3_change N x1 x2 vc = some (vc')) : Met l yX3_change wsX3_change ({ frames := 0, cells := 0, slots := 0, locals := 0 }) (x_PM D cyI cyZ [.ref aS, .int x1, .int x2] [(aS, .inr (3, [.ref aC])), (aC, .inl (cyI, 225, .inl vc))] sz) (x_QV D (va_A [(aS, .inr (3, [.ref aC])), (aC, .inl (cyI, 225, .inl vc))] sz) [(aS, .inr (3, [.ref aC])), (aC, .inl (cyI, 225, .inl vc'))]) 0 0 (va_A [(aS, .inr (3, [.ref aC])), (aC, .inl (cyI, 225, .inl vc))] sz) := by
  refine Met.ofW (cc := cX3_change) (maxL := 3) (ret := none) (by decide) rfl ?_
  intro p e s m args below meth c s₁ B hml hv
  obtain ⟨rfl, hsz, hP, hK, hD0⟩ := hv
  have hx := B.exec
  have hb := B.bytes
  have hr := B.returns
  have hts := atoms_spec (ws := wsX3_change) B.pre
  have hown : s.vm.findClass RX3 = some m.cls := findClass_of_methodNamed B.named
  have hlocks := B.notSynchronized
  subst hsz
  have hD := hD0.self (sz := s.heap.size)
  generalize hAe : va_A [(aS, .inr (3, [.ref aC])), (aC, .inl (cyI, 225, .inl vc))] s.heap.size = A at hD ⊢
  have hA : ∀ q : Nat, s.heap.size ≤ q → A q := fun q h => by rw [← hAe]; exact Or.inr h
  have hS : va_S A s.heap s.heap [] := va_S.rf
  have hP : va_P D vwCl [(aS, .inr (3, [.ref aC])), (aC, .inl (cyI, 225, .inl vc))] s.heap := hP
  have hl := lv_entry ([.ref aS, .int x1, .int x2]) (n := 3) (Nat.le_of_ble_eq_true rfl)
  rw [lg_entry_eq]
  generalize (lg_sl ([.ref aS, .int x1, .int x2]) ++ List.replicate (3 - (lg_sl ([.ref aS, .int x1, .int x2])).length) Slot.unset).toArray = ls at hl ⊢
  have hl : lv_has ls 3 [(0, .ref aS), (1, .int x1), (2, .int x2)] := hl
  unfold p_X3_change at hF
  refine lv_iload_n hx hb dX3_change_0 rfl (lv_at hl 1 rfl) ?_
  refine lv_if_lt (tgt := 20) hx hb dX3_change_1 (by decide) (fun hc => ?_) (fun hc => ?_)
  · have hF := k_if_t hF hc
    have e0 := k_inj1 hF
    have hP9 : va_P D vwCl [(aS, .inr (3, [.ref aC])), (aC, .inl (cyI, 225, .inl vc'))] s.heap := by rw [← e0]; exact hP
    exact W.vret hx hb hr (fun t ht hW => ⟨⟨(), rfl, trivial, x_ret hP9 ht⟩, hS.F ht⟩) hS.2.2 dX3_change_20
  · have hF := k_if_f hF hc
    refine lv_iload_n hx hb dX3_change_4 rfl (lv_at hl 1 rfl) ?_
    refine lv_aload_n hx hb dX3_change_5 rfl (lv_at hl 0 rfl) ?_
    refine va_get (D := D) (ci := 3) (v := .ref aC) (C := RX3) (T := TX3) (N := 1) hx hb hts mi_X3_change_X3 hown hK.1 hP 0 rfl rfl 0 (by decide) (hts _ mm_X3_change_1) (fun _ h9 => h9) rfl dX3_change_6 ?_
    refine x_alen (v := (225 : Int32)) hx hb hK hP 1 rfl rfl dX3_change_9 ?_
    refine lv_icmp_ge (tgt := 20) hx hb dX3_change_10 (by decide) (fun hc => ?_) (fun hc => ?_)
    · have hF := k_if_t hF hc
      have e0 := k_inj1 hF
      have hP9 : va_P D vwCl [(aS, .inr (3, [.ref aC])), (aC, .inl (cyI, 225, .inl vc'))] s.heap := by rw [← e0]; exact hP
      exact W.vret hx hb hr (fun t ht hW => ⟨⟨(), rfl, trivial, x_ret hP9 ht⟩, hS.F ht⟩) hS.2.2 dX3_change_20
    · have hF := k_if_f hF hc
      refine lv_aload_n hx hb dX3_change_13 rfl (lv_at hl 0 rfl) ?_
      refine va_get (D := D) (ci := 3) (v := .ref aC) (C := RX3) (T := TX3) (N := 1) hx hb hts mi_X3_change_X3 hown hK.1 hP 0 rfl rfl 0 (by decide) (hts _ mm_X3_change_1) (fun _ h9 => h9) rfl dX3_change_14 ?_
      refine lv_iload_n hx hb dX3_change_17 rfl (lv_at hl 1 rfl) ?_
      refine lv_iload_n hx hb dX3_change_18 rfl (lv_at hl 2 rfl) ?_
      obtain ⟨vc_19, hin, hn, hF⟩ := k_st_ex hF
      refine x_iast hx hb hK hP hD hS 1 rfl hin hn dX3_change_19 (fun H locs hP hD hS => ?_)
      have hP : va_P D vwCl [(aS, .inr (3, [.ref aC])), (aC, .inl (cyI, 225, .inl vc_19))] H := hP
      have hD : va_D A [(aS, .inr (3, [.ref aC])), (aC, .inl (cyI, 225, .inl vc_19))] := hD
      have e0 := k_inj1 hF
      have hP9 : va_P D vwCl [(aS, .inr (3, [.ref aC])), (aC, .inl (cyI, 225, .inl vc'))] H := by rw [← e0]; exact hP
      exact W.vret hx hb hr (fun t ht hW => ⟨⟨(), rfl, trivial, x_ret hP9 ht⟩, hS.F ht⟩) hS.2.2 dX3_change_20
set_option maxHeartbeats 4000000 in
set_option maxRecDepth 100000 in
theorem c_X3_shape (l : Launch) (D : va_G) (cyI cyZ : ClassId) (aS aC : Nat) (sz : Nat) (N : Nat) (x1 : Int32) (x2 : Int32) (x3 : Int32) (vc : (Nat → Int32)) {vc' : (Nat → Int32)} (hF : p_X3_shape N x1 x2 x3 vc = some (vc')) : Met l yX3_shape wsX3_shape ({ frames := 1, cells := 0, slots := 0, locals := 22 }) (x_PM D cyI cyZ [.ref aS, .int x1, .int x2, .int x3] [(aS, .inr (3, [.ref aC])), (aC, .inl (cyI, 225, .inl vc))] sz) (x_QV D (va_A [(aS, .inr (3, [.ref aC])), (aC, .inl (cyI, 225, .inl vc))] sz) [(aS, .inr (3, [.ref aC])), (aC, .inl (cyI, 225, .inl vc'))]) 0 0 (va_A [(aS, .inr (3, [.ref aC])), (aC, .inl (cyI, 225, .inl vc))] sz) := by
  refine Met.ofW (cc := cX3_shape) (maxL := 4) (ret := none) (by decide) rfl ?_
  intro p e s m args below meth c s₁ B hml hv
  obtain ⟨rfl, hsz, hP, hK, hD0⟩ := hv
  have hx := B.exec
  have hb := B.bytes
  have hr := B.returns
  have hts := atoms_spec (ws := wsX3_shape) B.pre
  have hown : s.vm.findClass RX3 = some m.cls := findClass_of_methodNamed B.named
  have hlocks := B.notSynchronized
  subst hsz
  have hD := hD0.self (sz := s.heap.size)
  generalize hAe : va_A [(aS, .inr (3, [.ref aC])), (aC, .inl (cyI, 225, .inl vc))] s.heap.size = A at hD ⊢
  have hA : ∀ q : Nat, s.heap.size ≤ q → A q := fun q h => by rw [← hAe]; exact Or.inr h
  have hS : va_S A s.heap s.heap [] := va_S.rf
  have hP : va_P D vwCl [(aS, .inr (3, [.ref aC])), (aC, .inl (cyI, 225, .inl vc))] s.heap := hP
  have hl := lv_entry ([.ref aS, .int x1, .int x2, .int x3]) (n := 4) (Nat.le_of_ble_eq_true rfl)
  rw [lg_entry_eq]
  generalize (lg_sl ([.ref aS, .int x1, .int x2, .int x3]) ++ List.replicate (4 - (lg_sl ([.ref aS, .int x1, .int x2, .int x3])).length) Slot.unset).toArray = ls at hl ⊢
  have hl : lv_has ls 4 [(0, .ref aS), (1, .int x1), (2, .int x2), (3, .int x3)] := hl
  unfold p_X3_shape at hF
  refine lv_aload_n hx hb dX3_shape_0 rfl (lv_at hl 0 rfl) ?_
  refine lv_iload_n hx hb dX3_shape_1 rfl (lv_at hl 1 rfl) ?_
  obtain ⟨r2, hC, hF⟩ := k_c1_ex hF
  refine x_SR (As := [.int x1]) (rest := [.ref aS]) ⟨hx, hb, hml, hown, hts⟩ (c_X3_placeOf l D cyI cyZ N x1 hC) (va_cwS 1 hts gX3_shape_X3_placeOf rfl rfl rfl (by decide +kernel) ⟨Nat.le_of_ble_eq_true rfl, Nat.le_of_ble_eq_true rfl⟩) hK hP hS [] rfl rfl hl.1 rfl (Nat.le_of_ble_eq_true rfl) ⟨Nat.zero_le _, Nat.zero_le _⟩ dX3_shape_2 (fun H locs hP hS => ?_)
  refine lv_iconst (v := (3 : Int32)) hx hb dX3_shape_5 (by decide) ?_
  refine lv_iadd hx hb dX3_shape_6 ?_
  refine lv_iload_n hx hb dX3_shape_7 rfl (lv_at hl 2 rfl) ?_
  refine lv_iadd hx hb dX3_shape_8 ?_
  refine lv_iload_n hx hb dX3_shape_9 rfl (lv_at hl 3 rfl) ?_
  obtain ⟨vc_10, hC, hF⟩ := k_c1_ex hF
  refine x_VV (As := [.int ((r2 + (3 : Int32)) + x2), .int x3]) (rest := []) ⟨hx, hb, hml, hown, hts⟩ (c_X3_change l D cyI cyZ aS aC H.size N ((r2 + (3 : Int32)) + x2) x3 vc hC) (cwV 2 hts gX3_shape_X3_change rfl rfl rfl (by decide +kernel) ⟨Nat.le_of_ble_eq_true rfl, Nat.le_of_ble_eq_true rfl⟩) hK hP hD hS hA [0, 1] rfl rfl rfl 0 rfl rfl rfl rfl hl.1 rfl (Nat.le_of_ble_eq_true rfl) ⟨Nat.zero_le _, Nat.zero_le _⟩ dX3_shape_10 (fun H locs hP hD hS => ?_)
  have hP : va_P D vwCl [(aS, .inr (3, [.ref aC])), (aC, .inl (cyI, 225, .inl vc_10))] H := hP
  have hD : va_D A [(aS, .inr (3, [.ref aC])), (aC, .inl (cyI, 225, .inl vc_10))] := hD
  have e0 := k_inj1 hF
  have hP9 : va_P D vwCl [(aS, .inr (3, [.ref aC])), (aC, .inl (cyI, 225, .inl vc'))] H := by rw [← e0]; exact hP
  exact W.vret hx hb hr (fun t ht hW => ⟨⟨(), rfl, trivial, x_ret hP9 ht⟩, hS.F ht⟩) hS.2.2 dX3_shape_13
set_option maxHeartbeats 4000000 in
set_option maxRecDepth 100000 in
theorem c_X3_raise (l : Launch) (D : va_G) (cyI cyZ : ClassId) (aS aC : Nat) (sz : Nat) (N : Nat) (x1 : Int32) (x2 : Int32) (vc : (Nat → Int32)) {vc' : (Nat → Int32)} (hF : p_X3_raise N x1 x2 vc = some (vc')) : Met l yX3_raise wsX3_raise ({ frames := 1, cells := 0, slots := 0, locals := 22 }) (x_PM D cyI cyZ [.ref aS, .int x1, .int x2] [(aS, .inr (3, [.ref aC])), (aC, .inl (cyI, 225, .inl vc))] sz) (x_QV D (va_A [(aS, .inr (3, [.ref aC])), (aC, .inl (cyI, 225, .inl vc))] sz) [(aS, .inr (3, [.ref aC])), (aC, .inl (cyI, 225, .inl vc'))]) 0 0 (va_A [(aS, .inr (3, [.ref aC])), (aC, .inl (cyI, 225, .inl vc))] sz) := by
  refine Met.ofW (cc := cX3_raise) (maxL := 3) (ret := none) (by decide) rfl ?_
  intro p e s m args below meth c s₁ B hml hv
  obtain ⟨rfl, hsz, hP, hK, hD0⟩ := hv
  have hx := B.exec
  have hb := B.bytes
  have hr := B.returns
  have hts := atoms_spec (ws := wsX3_raise) B.pre
  have hown : s.vm.findClass RX3 = some m.cls := findClass_of_methodNamed B.named
  have hlocks := B.notSynchronized
  subst hsz
  have hD := hD0.self (sz := s.heap.size)
  generalize hAe : va_A [(aS, .inr (3, [.ref aC])), (aC, .inl (cyI, 225, .inl vc))] s.heap.size = A at hD ⊢
  have hA : ∀ q : Nat, s.heap.size ≤ q → A q := fun q h => by rw [← hAe]; exact Or.inr h
  have hS : va_S A s.heap s.heap [] := va_S.rf
  have hP : va_P D vwCl [(aS, .inr (3, [.ref aC])), (aC, .inl (cyI, 225, .inl vc))] s.heap := hP
  have hl := lv_entry ([.ref aS, .int x1, .int x2]) (n := 3) (Nat.le_of_ble_eq_true rfl)
  rw [lg_entry_eq]
  generalize (lg_sl ([.ref aS, .int x1, .int x2]) ++ List.replicate (3 - (lg_sl ([.ref aS, .int x1, .int x2])).length) Slot.unset).toArray = ls at hl ⊢
  have hl : lv_has ls 3 [(0, .ref aS), (1, .int x1), (2, .int x2)] := hl
  unfold p_X3_raise at hF
  refine lv_aload_n hx hb dX3_raise_0 rfl (lv_at hl 0 rfl) ?_
  refine lv_iload_n hx hb dX3_raise_1 rfl (lv_at hl 1 rfl) ?_
  refine lv_aload_n hx hb dX3_raise_2 rfl (lv_at hl 0 rfl) ?_
  refine lv_iload_n hx hb dX3_raise_3 rfl (lv_at hl 1 rfl) ?_
  obtain ⟨r4, hC, hF⟩ := k_c1_ex hF
  refine x_VR (As := [.int x1]) (rest := [.int x1, .ref aS]) ⟨hx, hb, hml, hown, hts⟩ (c_X3_cell l D cyI cyZ aS aC N x1 vc hC) (cwV 1 hts gX3_raise_X3_cell rfl rfl rfl (by decide +kernel) ⟨Nat.le_of_ble_eq_true rfl, Nat.le_of_ble_eq_true rfl⟩) hK hP hS [0, 1] rfl 0 rfl rfl rfl rfl hl.1 rfl (Nat.le_of_ble_eq_true rfl) ⟨Nat.zero_le _, Nat.zero_le _⟩ dX3_raise_4 (fun H locs hP hS => ?_)
  refine lv_iload_n hx hb dX3_raise_7 rfl (lv_at hl 2 rfl) ?_
  refine lv_iadd hx hb dX3_raise_8 ?_
  obtain ⟨vc_9, hC, hF⟩ := k_c1_ex hF
  refine x_VV (As := [.int x1, .int (r4 + x2)]) (rest := []) ⟨hx, hb, hml, hown, hts⟩ (c_X3_change l D cyI cyZ aS aC H.size N x1 (r4 + x2) vc hC) (cwV 2 hts gX3_raise_X3_change rfl rfl rfl (by decide +kernel) ⟨Nat.le_of_ble_eq_true rfl, Nat.le_of_ble_eq_true rfl⟩) hK hP hD hS hA [0, 1] rfl rfl rfl 0 rfl rfl rfl rfl hl.1 rfl (Nat.le_of_ble_eq_true rfl) ⟨Nat.zero_le _, Nat.zero_le _⟩ dX3_raise_9 (fun H locs hP hD hS => ?_)
  have hP : va_P D vwCl [(aS, .inr (3, [.ref aC])), (aC, .inl (cyI, 225, .inl vc_9))] H := hP
  have hD : va_D A [(aS, .inr (3, [.ref aC])), (aC, .inl (cyI, 225, .inl vc_9))] := hD
  have e0 := k_inj1 hF
  have hP9 : va_P D vwCl [(aS, .inr (3, [.ref aC])), (aC, .inl (cyI, 225, .inl vc'))] H := by rw [← e0]; exact hP
  exact W.vret hx hb hr (fun t ht hW => ⟨⟨(), rfl, trivial, x_ret hP9 ht⟩, hS.F ht⟩) hS.2.2 dX3_raise_12
theorem mm_X3_addRoller_1 : Cond.static yX6_outside ∈ wsX3_addRoller := List.mem_of_getElem? (i := 1) rfl
theorem mm_X3_addRoller_2 : Cond.initialized RX6 ∈ wsX3_addRoller := List.mem_of_getElem? (i := 2) rfl
set_option maxHeartbeats 4000000 in
set_option maxRecDepth 100000 in
theorem c_X3_addRoller (l : Launch) (D : va_G) (cyI cyZ : ClassId) (aS aC : Nat) (sz : Nat) (N : Nat) (x1 : Int32) (x2 : Int32) (vc : (Nat → Int32)) {r0 : Int32} {vc' : (Nat → Int32)} (hF : p_X3_addRoller N x1 x2 vc = some (r0, vc')) : Met l yX3_addRoller wsX3_addRoller ({ frames := 2, cells := 0, slots := 0, locals := 45 }) (x_PM D cyI cyZ [.ref aS, .int x1, .int x2] [(aS, .inr (3, [.ref aC])), (aC, .inl (cyI, 225, .inl vc))] sz) (x_QM D r0 (va_A [(aS, .inr (3, [.ref aC])), (aC, .inl (cyI, 225, .inl vc))] sz) [(aS, .inr (3, [.ref aC])), (aC, .inl (cyI, 225, .inl vc'))]) 0 0 (va_A [(aS, .inr (3, [.ref aC])), (aC, .inl (cyI, 225, .inl vc))] sz) := by
  refine Met.ofW (cc := cX3_addRoller) (maxL := 5) (ret := (some .int)) (by decide) rfl ?_
  intro p e s m args below meth c s₁ B hml hv
  obtain ⟨rfl, hsz, hP, hK, hD0⟩ := hv
  have hx := B.exec
  have hb := B.bytes
  have hr := B.returns
  have hts := atoms_spec (ws := wsX3_addRoller) B.pre
  have hown : s.vm.findClass RX3 = some m.cls := findClass_of_methodNamed B.named
  have hlocks := B.notSynchronized
  subst hsz
  have hD := hD0.self (sz := s.heap.size)
  generalize hAe : va_A [(aS, .inr (3, [.ref aC])), (aC, .inl (cyI, 225, .inl vc))] s.heap.size = A at hD ⊢
  have hA : ∀ q : Nat, s.heap.size ≤ q → A q := fun q h => by rw [← hAe]; exact Or.inr h
  have hS : va_S A s.heap s.heap [] := va_S.rf
  have hP : va_P D vwCl [(aS, .inr (3, [.ref aC])), (aC, .inl (cyI, 225, .inl vc))] s.heap := hP
  have hl := lv_entry ([.ref aS, .int x1, .int x2]) (n := 5) (Nat.le_of_ble_eq_true rfl)
  rw [lg_entry_eq]
  generalize (lg_sl ([.ref aS, .int x1, .int x2]) ++ List.replicate (5 - (lg_sl ([.ref aS, .int x1, .int x2])).length) Slot.unset).toArray = ls at hl ⊢
  have hl : lv_has ls 5 [(0, .ref aS), (1, .int x1), (2, .int x2)] := hl
  refine x_gen (fun G hG => ?_)
  have blk_75 : ∀ (n_75 : Nat) (x1 : Int32) (x2 : Int32) (x3 : Int32) (x4 : Int32) (vc : (Nat → Int32)), f_X3_addRoller_75 N n_75 x1 x2 x3 x4 vc = some (r0, vc') → ∀ (H : Heap) (locs : List Loc) (ls : Array Slot), va_P D vwCl [(aS, .inr (3, [.ref aC])), (aC, .inl (cyI, 225, .inl vc))] H → va_D A [(aS, .inr (3, [.ref aC])), (aC, .inl (cyI, 225, .inl vc))] → va_S A s.heap H locs → lv_has ls 5 [(0, .ref aS), (1, .int x1), (2, .int x2), (3, .int x3), (4, .int x4)] → G H locs (F0 m 75 ls []) := by
    intro n_75
    induction n_75 with
    | zero => intro x1 x2 x3 x4 vc hF; exact (k_none hF).elim
    | succ n_75 ih_75 =>
      intro x1 x2 x3 x4 vc hF H locs ls hP hD hS hl
      replace hF : b_X3_addRoller_75 N (f_X3_addRoller_75 N n_75) x1 x2 x3 x4 vc = some (r0, vc') := hF
      unfold b_X3_addRoller_75 at hF
      refine (hG _ _ _).2 ?_
      refine lv_iload hx hb dX3_addRoller_75 (lv_at hl 4 rfl) ?_
      refine lv_iload_n hx hb dX3_addRoller_77 rfl (lv_at hl 1 rfl) ?_
      refine lv_icmp_ge (tgt := 95) hx hb dX3_addRoller_78 (by decide) (fun hc => ?_) (fun hc => ?_)
      · have hF := k_if_t hF hc
        refine lv_aload_n hx hb dX3_addRoller_95 rfl (lv_at hl 0 rfl) ?_
        refine lv_iconst (v := (0 : Int32)) hx hb dX3_addRoller_96 (by decide) ?_
        refine lv_iconst (v := (1 : Int32)) hx hb dX3_addRoller_97 (by decide) ?_
        obtain ⟨vc_98, hC, hF⟩ := k_c1_ex hF
        refine x_VV (As := [.int (0 : Int32), .int (1 : Int32)]) (rest := []) ⟨hx, hb, hml, hown, hts⟩ (c_X3_raise l D cyI cyZ aS aC H.size N (0 : Int32) (1 : Int32) vc hC) (cwV 2 hts gX3_addRoller_X3_raise rfl rfl rfl (by decide +kernel) ⟨Nat.le_of_ble_eq_true rfl, Nat.le_of_ble_eq_true rfl⟩) hK hP hD hS hA [0, 1] rfl rfl rfl 0 rfl rfl rfl rfl hl.1 rfl (Nat.le_of_ble_eq_true rfl) ⟨Nat.zero_le _, Nat.zero_le _⟩ dX3_addRoller_98 (fun H locs hP hD hS => ?_)
        have hP : va_P D vwCl [(aS, .inr (3, [.ref aC])), (aC, .inl (cyI, 225, .inl vc_98))] H := hP
        have hD : va_D A [(aS, .inr (3, [.ref aC])), (aC, .inl (cyI, 225, .inl vc_98))] := hD
        refine lv_iload_n hx hb dX3_addRoller_101 rfl (lv_at hl 3 rfl) ?_
        obtain ⟨e0, e1⟩ := k_inj2 hF
        have hP9 : va_P D vwCl [(aS, .inr (3, [.ref aC])), (aC, .inl (cyI, 225, .inl vc'))] H := by rw [← e1]; exact hP
        exact W.iret hx hb hr (fun t ht hW => ⟨⟨_, (), rfl, e0, x_ret hP9 ht⟩, hS.F ht⟩) hS.2.2 dX3_addRoller_102
      · have hF := k_if_f hF hc
        refine lv_aload_n hx hb dX3_addRoller_81 rfl (lv_at hl 0 rfl) ?_
        refine lv_iload_n hx hb dX3_addRoller_82 rfl (lv_at hl 3 rfl) ?_
        refine lv_iload hx hb dX3_addRoller_83 (lv_at hl 4 rfl) ?_
        refine lv_iload_n hx hb dX3_addRoller_85 rfl (lv_at hl 2 rfl) ?_
        obtain ⟨vc_86, hC, hF⟩ := k_c1_ex hF
        refine x_VV (As := [.int x3, .int x4, .int x2]) (rest := []) ⟨hx, hb, hml, hown, hts⟩ (c_X3_shape l D cyI cyZ aS aC H.size N x3 x4 x2 vc hC) (cwV 3 hts gX3_addRoller_X3_shape rfl rfl rfl (by decide +kernel) ⟨Nat.le_of_ble_eq_true rfl, Nat.le_of_ble_eq_true rfl⟩) hK hP hD hS hA [0, 1] rfl rfl rfl 0 rfl rfl rfl rfl hl.1 rfl (Nat.le_of_ble_eq_true rfl) ⟨Nat.zero_le _, Nat.zero_le _⟩ dX3_addRoller_86 (fun H locs hP hD hS => ?_)
        have hP : va_P D vwCl [(aS, .inr (3, [.ref aC])), (aC, .inl (cyI, 225, .inl vc_86))] H := hP
        have hD : va_D A [(aS, .inr (3, [.ref aC])), (aC, .inl (cyI, 225, .inl vc_86))] := hD
        obtain ⟨x4_89, hn, hF⟩ := k_let_ex hF
        refine lv_iinc (v := x4_89) (lv' := [(4, .int x4_89), (0, .ref aS), (1, .int x1), (2, .int x2), (3, .int x3)]) hx hb dX3_addRoller_89 hl (k := 4) rfl (by rw [hn]; rfl) (by decide) rfl (fun ls hl => ?_)
        refine lv_goto (tgt := 75) hx hb dX3_addRoller_92 (by decide) ?_
        exact (hG _ _ _).1 (ih_75 x1 x2 x3 x4_89 vc_86 hF _ _ _ hP hD hS (lv_sub hl [1, 2, 3, 4, 0] rfl))
  refine (hG _ _ _).2 ?_
  unfold p_X3_addRoller at hF
  refine lv_iload_n hx hb dX3_addRoller_0 rfl (lv_at hl 1 rfl) ?_
  refine lv_iconst (v := (2 : Int32)) hx hb dX3_addRoller_1 (by decide) ?_
  refine lv_bipush (v := (24 : Int32)) hx hb dX3_addRoller_2 (by decide) ?_
  obtain ⟨r4, hC, hF⟩ := k_c1_ex hF
  refine x_NR (As := [.int x1, .int (2 : Int32), .int (24 : Int32)]) (rest := []) ⟨hx, hb, hml, hown, hts⟩ (c_X6_outside l D cyI cyZ N x1 (2 : Int32) (24 : Int32) hC) ⟨va_cnB 3 hts gX3_addRoller_X6_outside_n23 rfl rfl rfl hK.2.1 (hts _ mm_X3_addRoller_2) (by decide +kernel) ⟨Nat.le_of_ble_eq_true rfl, Nat.le_of_ble_eq_true rfl⟩, hts _ mm_X3_addRoller_1, trivial⟩ hK hP hS [] rfl rfl hl.1 rfl (Nat.le_of_ble_eq_true rfl) ⟨Nat.zero_le _, Nat.zero_le _⟩ dX3_addRoller_4 (fun H locs hP hS => ?_)
  refine lv_if_ne (tgt := 21) hx hb dX3_addRoller_7 (by decide) (fun hc => ?_) (fun hc => ?_)
  · have hF := k_if_f hF hc
    refine lv_bipush (v := (-2 : Int32)) hx hb dX3_addRoller_21 (by decide) ?_
    obtain ⟨e0, e1⟩ := k_inj2 hF
    have hP9 : va_P D vwCl [(aS, .inr (3, [.ref aC])), (aC, .inl (cyI, 225, .inl vc'))] H := by rw [← e1]; exact hP
    exact W.iret hx hb hr (fun t ht hW => ⟨⟨_, (), rfl, e0, x_ret hP9 ht⟩, hS.F ht⟩) hS.2.2 dX3_addRoller_23
  · have hF := k_if_t hF hc
    refine lv_iload_n hx hb dX3_addRoller_10 rfl (lv_at hl 2 rfl) ?_
    refine lv_bipush (v := (-9 : Int32)) hx hb dX3_addRoller_11 (by decide) ?_
    refine lv_bipush (v := (9 : Int32)) hx hb dX3_addRoller_13 (by decide) ?_
    obtain ⟨r15, hC, hF⟩ := k_c1_ex hF
    refine x_NR (As := [.int x2, .int (-9 : Int32), .int (9 : Int32)]) (rest := []) ⟨hx, hb, hml, hown, hts⟩ (c_X6_outside l D cyI cyZ N x2 (-9 : Int32) (9 : Int32) hC) ⟨va_cnB 3 hts gX3_addRoller_X6_outside_n23 rfl rfl rfl hK.2.1 (hts _ mm_X3_addRoller_2) (by decide +kernel) ⟨Nat.le_of_ble_eq_true rfl, Nat.le_of_ble_eq_true rfl⟩, hts _ mm_X3_addRoller_1, trivial⟩ hK hP hS [] rfl rfl hl.1 rfl (Nat.le_of_ble_eq_true rfl) ⟨Nat.zero_le _, Nat.zero_le _⟩ dX3_addRoller_15 (fun H locs hP hS => ?_)
    refine lv_if_eq (tgt := 24) hx hb dX3_addRoller_18 (by decide) (fun hc => ?_) (fun hc => ?_)
    · have hF := k_if_t hF hc
      refine lv_aload_n hx hb dX3_addRoller_24 rfl (lv_at hl 0 rfl) ?_
      refine lv_iconst (v := (0 : Int32)) hx hb dX3_addRoller_25 (by decide) ?_
      obtain ⟨r26, hC, hF⟩ := k_c1_ex hF
      refine x_VR (As := [.int (0 : Int32)]) (rest := []) ⟨hx, hb, hml, hown, hts⟩ (c_X3_cell l D cyI cyZ aS aC N (0 : Int32) vc hC) (cwV 1 hts gX3_addRoller_X3_cell rfl rfl rfl (by decide +kernel) ⟨Nat.le_of_ble_eq_true rfl, Nat.le_of_ble_eq_true rfl⟩) hK hP hS [0, 1] rfl 0 rfl rfl rfl rfl hl.1 rfl (Nat.le_of_ble_eq_true rfl) ⟨Nat.zero_le _, Nat.zero_le _⟩ dX3_addRoller_26 (fun H locs hP hS => ?_)
      refine lv_istore_n (lv' := [(3, .int r26), (0, .ref aS), (1, .int x1), (2, .int x2)]) hx hb dX3_addRoller_29 rfl hl (by decide) rfl (fun ls hl => ?_)
      refine lv_iload_n hx hb dX3_addRoller_30 rfl (lv_at hl 0 rfl) ?_
      refine lv_bipush (v := (8 : Int32)) hx hb dX3_addRoller_31 (by decide) ?_
      refine lv_icmp_lt (tgt := 39) hx hb dX3_addRoller_33 (by decide) (fun hc => ?_) (fun hc => ?_)
      · have hF := k_if_t hF hc
        refine lv_aload_n hx hb dX3_addRoller_39 rfl (lv_at hl 1 rfl) ?_
        refine lv_iload_n hx hb dX3_addRoller_40 rfl (lv_at hl 0 rfl) ?_
        obtain ⟨r41, hC, hF⟩ := k_c1_ex hF
        refine x_SR (As := [.int r26]) (rest := [.ref aS]) ⟨hx, hb, hml, hown, hts⟩ (c_X3_placeOf l D cyI cyZ N r26 hC) (va_cwS 1 hts gX3_addRoller_X3_placeOf rfl rfl rfl (by decide +kernel) ⟨Nat.le_of_ble_eq_true rfl, Nat.le_of_ble_eq_true rfl⟩) hK hP hS [] rfl rfl hl.1 rfl (Nat.le_of_ble_eq_true rfl) ⟨Nat.zero_le _, Nat.zero_le _⟩ dX3_addRoller_41 (fun H locs hP hS => ?_)
        refine lv_iconst (v := (0 : Int32)) hx hb dX3_addRoller_44 (by decide) ?_
        refine lv_iadd hx hb dX3_addRoller_45 ?_
        refine lv_iload_n hx hb dX3_addRoller_46 rfl (lv_at hl 2 rfl) ?_
        obtain ⟨vc_47, hC, hF⟩ := k_c1_ex hF
        refine x_VV (As := [.int (r41 + (0 : Int32)), .int x1]) (rest := []) ⟨hx, hb, hml, hown, hts⟩ (c_X3_change l D cyI cyZ aS aC H.size N (r41 + (0 : Int32)) x1 vc hC) (cwV 2 hts gX3_addRoller_X3_change rfl rfl rfl (by decide +kernel) ⟨Nat.le_of_ble_eq_true rfl, Nat.le_of_ble_eq_true rfl⟩) hK hP hD hS hA [0, 1] rfl rfl rfl 0 rfl rfl rfl rfl hl.1 rfl (Nat.le_of_ble_eq_true rfl) ⟨Nat.zero_le _, Nat.zero_le _⟩ dX3_addRoller_47 (fun H locs hP hD hS => ?_)
        have hP : va_P D vwCl [(aS, .inr (3, [.ref aC])), (aC, .inl (cyI, 225, .inl vc_47))] H := hP
        have hD : va_D A [(aS, .inr (3, [.ref aC])), (aC, .inl (cyI, 225, .inl vc_47))] := hD
        refine lv_aload_n hx hb dX3_addRoller_50 rfl (lv_at hl 1 rfl) ?_
        refine lv_iload_n hx hb dX3_addRoller_51 rfl (lv_at hl 0 rfl) ?_
        obtain ⟨r52, hC, hF⟩ := k_c1_ex hF
        refine x_SR (As := [.int r26]) (rest := [.ref aS]) ⟨hx, hb, hml, hown, hts⟩ (c_X3_placeOf l D cyI cyZ N r26 hC) (va_cwS 1 hts gX3_addRoller_X3_placeOf rfl rfl rfl (by decide +kernel) ⟨Nat.le_of_ble_eq_true rfl, Nat.le_of_ble_eq_true rfl⟩) hK hP hS [] rfl rfl hl.1 rfl (Nat.le_of_ble_eq_true rfl) ⟨Nat.zero_le _, Nat.zero_le _⟩ dX3_addRoller_52 (fun H locs hP hS => ?_)
        refine lv_iconst (v := (1 : Int32)) hx hb dX3_addRoller_55 (by decide) ?_
        refine lv_iadd hx hb dX3_addRoller_56 ?_
        refine lv_iconst (v := (0 : Int32)) hx hb dX3_addRoller_57 (by decide) ?_
        obtain ⟨vc_58, hC, hF⟩ := k_c1_ex hF
        refine x_VV (As := [.int (r52 + (1 : Int32)), .int (0 : Int32)]) (rest := []) ⟨hx, hb, hml, hown, hts⟩ (c_X3_change l D cyI cyZ aS aC H.size N (r52 + (1 : Int32)) (0 : Int32) vc_47 hC) (cwV 2 hts gX3_addRoller_X3_change rfl rfl rfl (by decide +kernel) ⟨Nat.le_of_ble_eq_true rfl, Nat.le_of_ble_eq_true rfl⟩) hK hP hD hS hA [0, 1] rfl rfl rfl 0 rfl rfl rfl rfl hl.1 rfl (Nat.le_of_ble_eq_true rfl) ⟨Nat.zero_le _, Nat.zero_le _⟩ dX3_addRoller_58 (fun H locs hP hD hS => ?_)
        have hP : va_P D vwCl [(aS, .inr (3, [.ref aC])), (aC, .inl (cyI, 225, .inl vc_58))] H := hP
        have hD : va_D A [(aS, .inr (3, [.ref aC])), (aC, .inl (cyI, 225, .inl vc_58))] := hD
        refine lv_aload_n hx hb dX3_addRoller_61 rfl (lv_at hl 1 rfl) ?_
        refine lv_iload_n hx hb dX3_addRoller_62 rfl (lv_at hl 0 rfl) ?_
        obtain ⟨r63, hC, hF⟩ := k_c1_ex hF
        refine x_SR (As := [.int r26]) (rest := [.ref aS]) ⟨hx, hb, hml, hown, hts⟩ (c_X3_placeOf l D cyI cyZ N r26 hC) (va_cwS 1 hts gX3_addRoller_X3_placeOf rfl rfl rfl (by decide +kernel) ⟨Nat.le_of_ble_eq_true rfl, Nat.le_of_ble_eq_true rfl⟩) hK hP hS [] rfl rfl hl.1 rfl (Nat.le_of_ble_eq_true rfl) ⟨Nat.zero_le _, Nat.zero_le _⟩ dX3_addRoller_63 (fun H locs hP hS => ?_)
        refine lv_iconst (v := (2 : Int32)) hx hb dX3_addRoller_66 (by decide) ?_
        refine lv_iadd hx hb dX3_addRoller_67 ?_
        refine lv_iconst (v := (0 : Int32)) hx hb dX3_addRoller_68 (by decide) ?_
        obtain ⟨vc_69, hC, hF⟩ := k_c1_ex hF
        refine x_VV (As := [.int (r63 + (2 : Int32)), .int (0 : Int32)]) (rest := []) ⟨hx, hb, hml, hown, hts⟩ (c_X3_change l D cyI cyZ aS aC H.size N (r63 + (2 : Int32)) (0 : Int32) vc_58 hC) (cwV 2 hts gX3_addRoller_X3_change rfl rfl rfl (by decide +kernel) ⟨Nat.le_of_ble_eq_true rfl, Nat.le_of_ble_eq_true rfl⟩) hK hP hD hS hA [0, 1] rfl rfl rfl 0 rfl rfl rfl rfl hl.1 rfl (Nat.le_of_ble_eq_true rfl) ⟨Nat.zero_le _, Nat.zero_le _⟩ dX3_addRoller_69 (fun H locs hP hD hS => ?_)
        have hP : va_P D vwCl [(aS, .inr (3, [.ref aC])), (aC, .inl (cyI, 225, .inl vc_69))] H := hP
        have hD : va_D A [(aS, .inr (3, [.ref aC])), (aC, .inl (cyI, 225, .inl vc_69))] := hD
        refine lv_iconst (v := (0 : Int32)) hx hb dX3_addRoller_72 (by decide) ?_
        refine lv_istore (lv' := [(4, .int (0 : Int32)), (3, .int r26), (0, .ref aS), (1, .int x1), (2, .int x2)]) hx hb dX3_addRoller_73 hl (by decide) rfl (fun ls hl => ?_)
        exact (hG _ _ _).1 (blk_75 N x1 x2 r26 (0 : Int32) vc_69 hF _ _ _ hP hD hS (lv_sub hl [2, 3, 4, 1, 0] rfl))
      · have hF := k_if_f hF hc
        refine lv_bipush (v := (-4 : Int32)) hx hb dX3_addRoller_36 (by decide) ?_
        obtain ⟨e0, e1⟩ := k_inj2 hF
        have hP9 : va_P D vwCl [(aS, .inr (3, [.ref aC])), (aC, .inl (cyI, 225, .inl vc'))] H := by rw [← e1]; exact hP
        exact W.iret hx hb hr (fun t ht hW => ⟨⟨_, (), rfl, e0, x_ret hP9 ht⟩, hS.F ht⟩) hS.2.2 dX3_addRoller_38
    · have hF := k_if_f hF hc
      refine lv_bipush (v := (-2 : Int32)) hx hb dX3_addRoller_21 (by decide) ?_
      obtain ⟨e0, e1⟩ := k_inj2 hF
      have hP9 : va_P D vwCl [(aS, .inr (3, [.ref aC])), (aC, .inl (cyI, 225, .inl vc'))] H := by rw [← e1]; exact hP
      exact W.iret hx hb hr (fun t ht hW => ⟨⟨_, (), rfl, e0, x_ret hP9 ht⟩, hS.F ht⟩) hS.2.2 dX3_addRoller_23
theorem mm_X3_copyTo_Ls_1 : Cond.fieldLink RX3 11 "RollerMesh$Shop" "cells" "[I" ∈ wsX3_copyTo := List.mem_of_getElem? (i := 1) rfl
theorem mm_X3_copyTo_Ls_2 : Cond.methodLink RX3 70 arraycopyName ∈ wsX3_copyTo := List.mem_of_getElem? (i := 2) rfl
theorem mm_X3_copyTo_Ls_3 : Cond.native arraycopyName ∈ wsX3_copyTo := List.mem_of_getElem? (i := 3) rfl
theorem mm_X3_copyTo_Ls_4 : Cond.static arraycopyName ∈ wsX3_copyTo := List.mem_of_getElem? (i := 4) rfl
theorem mm_X3_copyTo_Ls_5 : Cond.initialized "java/lang/System" ∈ wsX3_copyTo := List.mem_of_getElem? (i := 5) rfl
theorem mi_X3_copyTo_Ls_X3 : ∀ w ∈ wsX30, w ∈ wsX3_copyTo := fun _ h => List.mem_cons_of_mem _ (List.mem_append_right _ h)
set_option maxHeartbeats 4000000 in
set_option maxRecDepth 100000 in
theorem c_X3_copyTo_Ls (l : Launch) (D : va_G) (cyI cyZ : ClassId) (aS aC aLs : Nat) (sz : Nat) (N : Nat) (x2 : Int32) (vc : (Nat → Int32)) (vss : (Nat → Int32)) {vss' : (Nat → Int32)} (hF : p_X3_copyTo_Ls N x2 vc vss = some (vss')) : Met l yX3_copyTo wsX3_copyTo ({ frames := 1, cells := 0, slots := 0, locals := 26 }) (x_PM D cyI cyZ [.ref aS, .ref aLs, .int x2] [(aS, .inr (3, [.ref aC])), (aC, .inl (cyI, 225, .inl vc)), (aLs, .inl (cyI, 450, .inl vss))] sz) (x_QV D (va_A [(aS, .inr (3, [.ref aC])), (aC, .inl (cyI, 225, .inl vc)), (aLs, .inl (cyI, 450, .inl vss))] sz) [(aS, .inr (3, [.ref aC])), (aC, .inl (cyI, 225, .inl vc)), (aLs, .inl (cyI, 450, .inl vss'))]) 0 0 (va_A [(aS, .inr (3, [.ref aC])), (aC, .inl (cyI, 225, .inl vc)), (aLs, .inl (cyI, 450, .inl vss))] sz) := by
  refine Met.ofW (cc := cX3_copyTo) (maxL := 3) (ret := none) (by decide) rfl ?_
  intro p e s m args below meth c s₁ B hml hv
  obtain ⟨rfl, hsz, hP, hK, hD0⟩ := hv
  have hx := B.exec
  have hb := B.bytes
  have hr := B.returns
  have hts := atoms_spec (ws := wsX3_copyTo) B.pre
  have hown : s.vm.findClass RX3 = some m.cls := findClass_of_methodNamed B.named
  have hlocks := B.notSynchronized
  subst hsz
  have hD := hD0.self (sz := s.heap.size)
  generalize hAe : va_A [(aS, .inr (3, [.ref aC])), (aC, .inl (cyI, 225, .inl vc)), (aLs, .inl (cyI, 450, .inl vss))] s.heap.size = A at hD ⊢
  have hA : ∀ q : Nat, s.heap.size ≤ q → A q := fun q h => by rw [← hAe]; exact Or.inr h
  have hS : va_S A s.heap s.heap [] := va_S.rf
  have hP : va_P D vwCl [(aS, .inr (3, [.ref aC])), (aC, .inl (cyI, 225, .inl vc)), (aLs, .inl (cyI, 450, .inl vss))] s.heap := hP
  have hl := lv_entry ([.ref aS, .ref aLs, .int x2]) (n := 3) (Nat.le_of_ble_eq_true rfl)
  rw [lg_entry_eq]
  generalize (lg_sl ([.ref aS, .ref aLs, .int x2]) ++ List.replicate (3 - (lg_sl ([.ref aS, .ref aLs, .int x2])).length) Slot.unset).toArray = ls at hl ⊢
  have hl : lv_has ls 3 [(0, .ref aS), (1, .ref aLs), (2, .int x2)] := hl
  unfold p_X3_copyTo_Ls at hF
  refine lv_iload_n hx hb dX3_copyTo_0 rfl (lv_at hl 2 rfl) ?_
  refine lv_if_lt (tgt := 31) hx hb dX3_copyTo_1 (by decide) (fun hc => ?_) (fun hc => ?_)
  · have hF := k_if_t hF hc
    have e0 := k_inj1 hF
    have hP9 : va_P D vwCl [(aS, .inr (3, [.ref aC])), (aC, .inl (cyI, 225, .inl vc)), (aLs, .inl (cyI, 450, .inl vss'))] s.heap := by rw [← e0]; exact hP
    exact W.vret hx hb hr (fun t ht hW => ⟨⟨(), rfl, trivial, x_ret hP9 ht⟩, hS.F ht⟩) hS.2.2 dX3_copyTo_31
  · have hF := k_if_f hF hc
    refine lv_iload_n hx hb dX3_copyTo_4 rfl (lv_at hl 2 rfl) ?_
    refine lv_aload_n hx hb dX3_copyTo_5 rfl (lv_at hl 1 rfl) ?_
    refine x_alen (v := (450 : Int32)) hx hb hK hP 2 rfl rfl dX3_copyTo_6 ?_
    refine lv_sipush (v := (225 : Int32)) hx hb dX3_copyTo_7 (by decide) ?_
    obtain ⟨hz, hF⟩ := k_nz_ex hF
    refine lv_idiv hx hb dX3_copyTo_10 hz ?_
    refine lv_icmp_ge (tgt := 31) hx hb dX3_copyTo_11 (by decide) (fun hc => ?_) (fun hc => ?_)
    · have hF := k_if_t hF hc
      have e0 := k_inj1 hF
      have hP9 : va_P D vwCl [(aS, .inr (3, [.ref aC])), (aC, .inl (cyI, 225, .inl vc)), (aLs, .inl (cyI, 450, .inl vss'))] s.heap := by rw [← e0]; exact hP
      exact W.vret hx hb hr (fun t ht hW => ⟨⟨(), rfl, trivial, x_ret hP9 ht⟩, hS.F ht⟩) hS.2.2 dX3_copyTo_31
    · have hF := k_if_f hF hc
      refine lv_aload_n hx hb dX3_copyTo_14 rfl (lv_at hl 0 rfl) ?_
      refine va_get (D := D) (ci := 3) (v := .ref aC) (C := RX3) (T := TX3) (N := 1) hx hb hts mi_X3_copyTo_Ls_X3 hown hK.1 hP 0 rfl rfl 0 (by decide) (hts _ mm_X3_copyTo_Ls_1) (fun _ h9 => h9) rfl dX3_copyTo_15 ?_
      refine lv_iconst (v := (0 : Int32)) hx hb dX3_copyTo_18 (by decide) ?_
      refine lv_aload_n hx hb dX3_copyTo_19 rfl (lv_at hl 1 rfl) ?_
      refine lv_iload_n hx hb dX3_copyTo_20 rfl (lv_at hl 2 rfl) ?_
      refine lv_sipush (v := (225 : Int32)) hx hb dX3_copyTo_21 (by decide) ?_
      refine lv_imul hx hb dX3_copyTo_24 ?_
      refine lv_sipush (v := (225 : Int32)) hx hb dX3_copyTo_25 (by decide) ?_
      obtain ⟨vss_28, ⟨hq1, hq2, hq3, hq4, hq5⟩, hn, hF⟩ := k_cpy_ex hF
      refine va_copyi hx hb (hml.trans hl.1.symm) hown (hts _ mm_X3_copyTo_Ls_2) (hts _ mm_X3_copyTo_Ls_3) (hts _ mm_X3_copyTo_Ls_4) (hts _ mm_X3_copyTo_Ls_5) hK.1 hP hD hS 1 2 0 0 rfl rfl rfl rfl rfl hq1 hq2 hq3 hq4 hq5 (fun _ _ => rfl) (Nat.le_of_ble_eq_true rfl) (Nat.le_of_ble_eq_true rfl) dX3_copyTo_28 (fun H locs hP hD hS => ?_)
      rw [← hn] at hP hD
      have hP : va_P D vwCl [(aS, .inr (3, [.ref aC])), (aC, .inl (cyI, 225, .inl vc)), (aLs, .inl (cyI, 450, .inl vss_28))] H := hP
      have hD : va_D A [(aS, .inr (3, [.ref aC])), (aC, .inl (cyI, 225, .inl vc)), (aLs, .inl (cyI, 450, .inl vss_28))] := hD
      have e0 := k_inj1 hF
      have hP9 : va_P D vwCl [(aS, .inr (3, [.ref aC])), (aC, .inl (cyI, 225, .inl vc)), (aLs, .inl (cyI, 450, .inl vss'))] H := by rw [← e0]; exact hP
      exact W.vret hx hb hr (fun t ht hW => ⟨⟨(), rfl, trivial, x_ret hP9 ht⟩, hS.F ht⟩) hS.2.2 dX3_copyTo_31
set_option maxHeartbeats 4000000 in
set_option maxRecDepth 100000 in
theorem c_X3_has (l : Launch) (D : va_G) (cyI cyZ : ClassId) (aS aC : Nat) (N : Nat) (x1 : Int32) (vc : (Nat → Int32)) {r0 : Int32}  (hF : p_X3_has N x1 vc = some (r0)) : Met l yX3_has wsX3_has ({ frames := 1, cells := 0, slots := 0, locals := 21 }) (x_PR D cyI cyZ [.ref aS, .int x1] [(aS, .inr (3, [.ref aC])), (aC, .inl (cyI, 225, .inl vc))]) (x_QR r0) 0 0 (fun _ => False) := by
  refine Met.ofW (cc := cX3_has) (maxL := 2) (ret := (some .boolean)) (by decide) rfl ?_
  intro p e s m args below meth c s₁ B hml hv
  obtain ⟨rfl, hP, hK⟩ := hv
  have hx := B.exec
  have hb := B.bytes
  have hr := B.returns
  have hts := atoms_spec (ws := wsX3_has) B.pre
  have hown : s.vm.findClass RX3 = some m.cls := findClass_of_methodNamed B.named
  have hlocks := B.notSynchronized
  have hS : va_S (fun _ => False) s.heap s.heap [] := va_S.rf
  have hP : va_P D vwCl [(aS, .inr (3, [.ref aC])), (aC, .inl (cyI, 225, .inl vc))] s.heap := hP
  have hl := lv_entry ([.ref aS, .int x1]) (n := 2) (Nat.le_of_ble_eq_true rfl)
  rw [lg_entry_eq]
  generalize (lg_sl ([.ref aS, .int x1]) ++ List.replicate (2 - (lg_sl ([.ref aS, .int x1])).length) Slot.unset).toArray = ls at hl ⊢
  have hl : lv_has ls 2 [(0, .ref aS), (1, .int x1)] := hl
  unfold p_X3_has at hF
  refine lv_iload_n hx hb dX3_has_0 rfl (lv_at hl 1 rfl) ?_
  refine lv_if_lt (tgt := 17) hx hb dX3_has_1 (by decide) (fun hc => ?_) (fun hc => ?_)
  · have hF := k_if_t hF hc
    refine lv_iconst (v := (0 : Int32)) hx hb dX3_has_17 (by decide) ?_
    exact W.zret hx hb hr rfl (fun t ht hW => ⟨⟨_, (), rfl, Option.some.inj hF, trivial⟩, hS.F ht⟩) hS.2.2 dX3_has_18
  · have hF := k_if_f hF hc
    refine lv_iload_n hx hb dX3_has_4 rfl (lv_at hl 1 rfl) ?_
    refine lv_aload_n hx hb dX3_has_5 rfl (lv_at hl 0 rfl) ?_
    refine lv_iconst (v := (0 : Int32)) hx hb dX3_has_6 (by decide) ?_
    obtain ⟨r7, hC, hF⟩ := k_c1_ex hF
    refine x_VR (As := [.int (0 : Int32)]) (rest := [.int x1]) ⟨hx, hb, hml, hown, hts⟩ (c_X3_cell l D cyI cyZ aS aC N (0 : Int32) vc hC) (cwV 1 hts gX3_has_X3_cell rfl rfl rfl (by decide +kernel) ⟨Nat.le_of_ble_eq_true rfl, Nat.le_of_ble_eq_true rfl⟩) hK hP hS [0, 1] rfl 0 rfl rfl rfl rfl hl.1 rfl (Nat.le_of_ble_eq_true rfl) ⟨Nat.zero_le _, Nat.zero_le _⟩ dX3_has_7 (fun H locs hP hS => ?_)
    refine lv_icmp_ge (tgt := 17) hx hb dX3_has_10 (by decide) (fun hc => ?_) (fun hc => ?_)
    · have hF := k_if_t hF hc
      refine lv_iconst (v := (0 : Int32)) hx hb dX3_has_17 (by decide) ?_
      exact W.zret hx hb hr rfl (fun t ht hW => ⟨⟨_, (), rfl, Option.some.inj hF, trivial⟩, hS.F ht⟩) hS.2.2 dX3_has_18
    · have hF := k_if_f hF hc
      refine lv_iconst (v := (1 : Int32)) hx hb dX3_has_13 (by decide) ?_
      refine lv_goto (tgt := 18) hx hb dX3_has_14 (by decide) ?_
      exact W.zret hx hb hr rfl (fun t ht hW => ⟨⟨_, (), rfl, Option.some.inj hF, trivial⟩, hS.F ht⟩) hS.2.2 dX3_has_18
set_option maxHeartbeats 4000000 in
set_option maxRecDepth 100000 in
theorem c_X3_teeth (l : Launch) (D : va_G) (cyI cyZ : ClassId) (aS aC : Nat) (N : Nat) (x1 : Int32) (vc : (Nat → Int32)) {r0 : Int32}  (hF : p_X3_teeth N x1 vc = some (r0)) : Met l yX3_teeth wsX3_teeth ({ frames := 1, cells := 0, slots := 0, locals := 21 }) (x_PR D cyI cyZ [.ref aS, .int x1] [(aS, .inr (3, [.ref aC])), (aC, .inl (cyI, 225, .inl vc))]) (x_QR r0) 0 0 (fun _ => False) := by
  refine Met.ofW (cc := cX3_teeth) (maxL := 2) (ret := (some .int)) (by decide) rfl ?_
  intro p e s m args below meth c s₁ B hml hv
  obtain ⟨rfl, hP, hK⟩ := hv
  have hx := B.exec
  have hb := B.bytes
  have hr := B.returns
  have hts := atoms_spec (ws := wsX3_teeth) B.pre
  have hown : s.vm.findClass RX3 = some m.cls := findClass_of_methodNamed B.named
  have hlocks := B.notSynchronized
  have hS : va_S (fun _ => False) s.heap s.heap [] := va_S.rf
  have hP : va_P D vwCl [(aS, .inr (3, [.ref aC])), (aC, .inl (cyI, 225, .inl vc))] s.heap := hP
  have hl := lv_entry ([.ref aS, .int x1]) (n := 2) (Nat.le_of_ble_eq_true rfl)
  rw [lg_entry_eq]
  generalize (lg_sl ([.ref aS, .int x1]) ++ List.replicate (2 - (lg_sl ([.ref aS, .int x1])).length) Slot.unset).toArray = ls at hl ⊢
  have hl : lv_has ls 2 [(0, .ref aS), (1, .int x1)] := hl
  unfold p_X3_teeth at hF
  refine lv_aload_n hx hb dX3_teeth_0 rfl (lv_at hl 0 rfl) ?_
  refine lv_iload_n hx hb dX3_teeth_1 rfl (lv_at hl 1 rfl) ?_
  obtain ⟨r2, hC, hF⟩ := k_c1_ex hF
  refine x_SR (As := [.int x1]) (rest := [.ref aS]) ⟨hx, hb, hml, hown, hts⟩ (c_X3_placeOf l D cyI cyZ N x1 hC) (va_cwS 1 hts gX3_teeth_X3_placeOf rfl rfl rfl (by decide +kernel) ⟨Nat.le_of_ble_eq_true rfl, Nat.le_of_ble_eq_true rfl⟩) hK hP hS [] rfl rfl hl.1 rfl (Nat.le_of_ble_eq_true rfl) ⟨Nat.zero_le _, Nat.zero_le _⟩ dX3_teeth_2 (fun H locs hP hS => ?_)
  refine lv_iconst (v := (0 : Int32)) hx hb dX3_teeth_5 (by decide) ?_
  refine lv_iadd hx hb dX3_teeth_6 ?_
  obtain ⟨r7, hC, hF⟩ := k_c1_ex hF
  refine x_VR (As := [.int (r2 + (0 : Int32))]) (rest := []) ⟨hx, hb, hml, hown, hts⟩ (c_X3_cell l D cyI cyZ aS aC N (r2 + (0 : Int32)) vc hC) (cwV 1 hts gX3_teeth_X3_cell rfl rfl rfl (by decide +kernel) ⟨Nat.le_of_ble_eq_true rfl, Nat.le_of_ble_eq_true rfl⟩) hK hP hS [0, 1] rfl 0 rfl rfl rfl rfl hl.1 rfl (Nat.le_of_ble_eq_true rfl) ⟨Nat.zero_le _, Nat.zero_le _⟩ dX3_teeth_7 (fun H locs hP hS => ?_)
  exact W.iret hx hb hr (fun t ht hW => ⟨⟨_, (), rfl, Option.some.inj hF, trivial⟩, hS.F ht⟩) hS.2.2 dX3_teeth_10
set_option maxHeartbeats 4000000 in
set_option maxRecDepth 100000 in
theorem c_X3_height (l : Launch) (D : va_G) (cyI cyZ : ClassId) (aS aC : Nat) (N : Nat) (x1 : Int32) (x2 : Int32) (vc : (Nat → Int32)) {r0 : Int32}  (hF : p_X3_height N x1 x2 vc = some (r0)) : Met l yX3_height wsX3_height ({ frames := 1, cells := 0, slots := 0, locals := 21 }) (x_PR D cyI cyZ [.ref aS, .int x1, .int x2] [(aS, .inr (3, [.ref aC])), (aC, .inl (cyI, 225, .inl vc))]) (x_QR r0) 0 0 (fun _ => False) := by
  refine Met.ofW (cc := cX3_height) (maxL := 3) (ret := (some .int)) (by decide) rfl ?_
  intro p e s m args below meth c s₁ B hml hv
  obtain ⟨rfl, hP, hK⟩ := hv
  have hx := B.exec
  have hb := B.bytes
  have hr := B.returns
  have hts := atoms_spec (ws := wsX3_height) B.pre
  have hown : s.vm.findClass RX3 = some m.cls := findClass_of_methodNamed B.named
  have hlocks := B.notSynchronized
  have hS : va_S (fun _ => False) s.heap s.heap [] := va_S.rf
  have hP : va_P D vwCl [(aS, .inr (3, [.ref aC])), (aC, .inl (cyI, 225, .inl vc))] s.heap := hP
  have hl := lv_entry ([.ref aS, .int x1, .int x2]) (n := 3) (Nat.le_of_ble_eq_true rfl)
  rw [lg_entry_eq]
  generalize (lg_sl ([.ref aS, .int x1, .int x2]) ++ List.replicate (3 - (lg_sl ([.ref aS, .int x1, .int x2])).length) Slot.unset).toArray = ls at hl ⊢
  have hl : lv_has ls 3 [(0, .ref aS), (1, .int x1), (2, .int x2)] := hl
  unfold p_X3_height at hF
  refine lv_aload_n hx hb dX3_height_0 rfl (lv_at hl 0 rfl) ?_
  refine lv_iload_n hx hb dX3_height_1 rfl (lv_at hl 1 rfl) ?_
  obtain ⟨r2, hC, hF⟩ := k_c1_ex hF
  refine x_SR (As := [.int x1]) (rest := [.ref aS]) ⟨hx, hb, hml, hown, hts⟩ (c_X3_placeOf l D cyI cyZ N x1 hC) (va_cwS 1 hts gX3_height_X3_placeOf rfl rfl rfl (by decide +kernel) ⟨Nat.le_of_ble_eq_true rfl, Nat.le_of_ble_eq_true rfl⟩) hK hP hS [] rfl rfl hl.1 rfl (Nat.le_of_ble_eq_true rfl) ⟨Nat.zero_le _, Nat.zero_le _⟩ dX3_height_2 (fun H locs hP hS => ?_)
  refine lv_iconst (v := (3 : Int32)) hx hb dX3_height_5 (by decide) ?_
  refine lv_iadd hx hb dX3_height_6 ?_
  refine lv_iload_n hx hb dX3_height_7 rfl (lv_at hl 2 rfl) ?_
  refine lv_iadd hx hb dX3_height_8 ?_
  obtain ⟨r9, hC, hF⟩ := k_c1_ex hF
  refine x_VR (As := [.int ((r2 + (3 : Int32)) + x2)]) (rest := []) ⟨hx, hb, hml, hown, hts⟩ (c_X3_cell l D cyI cyZ aS aC N ((r2 + (3 : Int32)) + x2) vc hC) (cwV 1 hts gX3_height_X3_cell rfl rfl rfl (by decide +kernel) ⟨Nat.le_of_ble_eq_true rfl, Nat.le_of_ble_eq_true rfl⟩) hK hP hS [0, 1] rfl 0 rfl rfl rfl rfl hl.1 rfl (Nat.le_of_ble_eq_true rfl) ⟨Nat.zero_le _, Nat.zero_le _⟩ dX3_height_9 (fun H locs hP hS => ?_)
  exact W.iret hx hb hr (fun t ht hW => ⟨⟨_, (), rfl, Option.some.inj hF, trivial⟩, hS.F ht⟩) hS.2.2 dX3_height_12
set_option maxHeartbeats 4000000 in
set_option maxRecDepth 100000 in
theorem c_X3_teethOfSign (l : Launch) (D : va_G) (cyI cyZ : ClassId) (aS aC : Nat) (N : Nat) (x1 : Int32) (x2 : Int32) (vc : (Nat → Int32)) {r0 : Int32}  (hF : p_X3_teethOfSign N x1 x2 vc = some (r0)) : Met l yX3_teethOfSign wsX3_teethOfSign ({ frames := 2, cells := 0, slots := 0, locals := 43 }) (x_PR D cyI cyZ [.ref aS, .int x1, .int x2] [(aS, .inr (3, [.ref aC])), (aC, .inl (cyI, 225, .inl vc))]) (x_QR r0) 0 0 (fun _ => False) := by
  refine Met.ofW (cc := cX3_teethOfSign) (maxL := 5) (ret := (some .int)) (by decide) rfl ?_
  intro p e s m args below meth c s₁ B hml hv
  obtain ⟨rfl, hP, hK⟩ := hv
  have hx := B.exec
  have hb := B.bytes
  have hr := B.returns
  have hts := atoms_spec (ws := wsX3_teethOfSign) B.pre
  have hown : s.vm.findClass RX3 = some m.cls := findClass_of_methodNamed B.named
  have hlocks := B.notSynchronized
  have hS : va_S (fun _ => False) s.heap s.heap [] := va_S.rf
  have hP : va_P D vwCl [(aS, .inr (3, [.ref aC])), (aC, .inl (cyI, 225, .inl vc))] s.heap := hP
  have hl := lv_entry ([.ref aS, .int x1, .int x2]) (n := 5) (Nat.le_of_ble_eq_true rfl)
  rw [lg_entry_eq]
  generalize (lg_sl ([.ref aS, .int x1, .int x2]) ++ List.replicate (5 - (lg_sl ([.ref aS, .int x1, .int x2])).length) Slot.unset).toArray = ls at hl ⊢
  have hl : lv_has ls 5 [(0, .ref aS), (1, .int x1), (2, .int x2)] := hl
  refine x_gen (fun G hG => ?_)
  have blk_5 : ∀ (n_5 : Nat) (x1 : Int32) (x2 : Int32) (x3 : Int32) (x4 : Int32), f_X3_teethOfSign_5 N n_5 x1 x2 x3 x4 vc = some (r0) → ∀ (H : Heap) (locs : List Loc) (ls : Array Slot), va_P D vwCl [(aS, .inr (3, [.ref aC])), (aC, .inl (cyI, 225, .inl vc))] H → va_S (fun _ => False) s.heap H locs → lv_has ls 5 [(0, .ref aS), (1, .int x1), (2, .int x2), (3, .int x3), (4, .int x4)] → G H locs (F0 m 5 ls []) := by
    intro n_5
    induction n_5 with
    | zero => intro x1 x2 x3 x4 hF; exact (k_none hF).elim
    | succ n_5 ih_5 =>
      intro x1 x2 x3 x4 hF H locs ls hP hS hl
      replace hF : b_X3_teethOfSign_5 N (f_X3_teethOfSign_5 N n_5) x1 x2 x3 x4 vc = some (r0) := hF
      unfold b_X3_teethOfSign_5 at hF
      refine (hG _ _ _).2 ?_
      refine lv_iload hx hb dX3_teethOfSign_5 (lv_at hl 4 rfl) ?_
      refine lv_aload_n hx hb dX3_teethOfSign_7 rfl (lv_at hl 0 rfl) ?_
      refine lv_iload_n hx hb dX3_teethOfSign_8 rfl (lv_at hl 1 rfl) ?_
      obtain ⟨r9, hC, hF⟩ := k_c1_ex hF
      refine x_VR (As := [.int x1]) (rest := [.int x4]) ⟨hx, hb, hml, hown, hts⟩ (c_X3_teeth l D cyI cyZ aS aC N x1 vc hC) (cwV 1 hts gX3_teethOfSign_X3_teeth rfl rfl rfl (by decide +kernel) ⟨Nat.le_of_ble_eq_true rfl, Nat.le_of_ble_eq_true rfl⟩) hK hP hS [0, 1] rfl 0 rfl rfl rfl rfl hl.1 rfl (Nat.le_of_ble_eq_true rfl) ⟨Nat.zero_le _, Nat.zero_le _⟩ dX3_teethOfSign_9 (fun H locs hP hS => ?_)
      refine lv_icmp_ge (tgt := 40) hx hb dX3_teethOfSign_12 (by decide) (fun hc => ?_) (fun hc => ?_)
      · have hF := k_if_t hF hc
        refine lv_iload_n hx hb dX3_teethOfSign_40 rfl (lv_at hl 3 rfl) ?_
        exact W.iret hx hb hr (fun t ht hW => ⟨⟨_, (), rfl, Option.some.inj hF, trivial⟩, hS.F ht⟩) hS.2.2 dX3_teethOfSign_41
      · have hF := k_if_f hF hc
        refine lv_aload_n hx hb dX3_teethOfSign_15 rfl (lv_at hl 0 rfl) ?_
        refine lv_iload_n hx hb dX3_teethOfSign_16 rfl (lv_at hl 1 rfl) ?_
        refine lv_iload hx hb dX3_teethOfSign_17 (lv_at hl 4 rfl) ?_
        obtain ⟨r19, hC, hF⟩ := k_c1_ex hF
        refine x_VR (As := [.int x1, .int x4]) (rest := []) ⟨hx, hb, hml, hown, hts⟩ (c_X3_height l D cyI cyZ aS aC N x1 x4 vc hC) (cwV 2 hts gX3_teethOfSign_X3_height rfl rfl rfl (by decide +kernel) ⟨Nat.le_of_ble_eq_true rfl, Nat.le_of_ble_eq_true rfl⟩) hK hP hS [0, 1] rfl 0 rfl rfl rfl rfl hl.1 rfl (Nat.le_of_ble_eq_true rfl) ⟨Nat.zero_le _, Nat.zero_le _⟩ dX3_teethOfSign_19 (fun H locs hP hS => ?_)
        refine lv_iload_n hx hb dX3_teethOfSign_22 rfl (lv_at hl 2 rfl) ?_
        refine lv_imul hx hb dX3_teethOfSign_23 ?_
        refine lv_if_le (tgt := 34) hx hb dX3_teethOfSign_24 (by decide) (fun hc => ?_) (fun hc => ?_)
        · have hF := k_if_t hF hc
          obtain ⟨x4_34, hn, hF⟩ := k_let_ex hF
          refine lv_iinc (v := x4_34) (lv' := [(4, .int x4_34), (0, .ref aS), (1, .int x1), (2, .int x2), (3, .int x3)]) hx hb dX3_teethOfSign_34 hl (k := 4) rfl (by rw [hn]; rfl) (by decide) rfl (fun ls hl => ?_)
          refine lv_goto (tgt := 5) hx hb dX3_teethOfSign_37 (by decide) ?_
          exact (hG _ _ _).1 (ih_5 x1 x2 x3 x4_34 hF _ _ _ hP hS (lv_sub hl [1, 2, 3, 4, 0] rfl))
        · have hF := k_if_f hF hc
          refine lv_iload_n hx hb dX3_teethOfSign_27 rfl (lv_at hl 3 rfl) ?_
          refine lv_iconst (v := (1 : Int32)) hx hb dX3_teethOfSign_28 (by decide) ?_
          refine lv_iload hx hb dX3_teethOfSign_29 (lv_at hl 4 rfl) ?_
          refine lv_ishl hx hb dX3_teethOfSign_31 ?_
          refine lv_ior hx hb dX3_teethOfSign_32 ?_
          obtain ⟨x3_33, hn, hF⟩ := k_let_ex hF
          refine x_nm hn ?_
          refine lv_istore_n (lv' := [(3, .int x3_33), (0, .ref aS), (1, .int x1), (2, .int x2), (4, .int x4)]) hx hb dX3_teethOfSign_33 rfl hl (by decide) rfl (fun ls hl => ?_)
          obtain ⟨x4_34, hn, hF⟩ := k_let_ex hF
          refine lv_iinc (v := x4_34) (lv' := [(4, .int x4_34), (3, .int x3_33), (0, .ref aS), (1, .int x1), (2, .int x2)]) hx hb dX3_teethOfSign_34 hl (k := 4) rfl (by rw [hn]; rfl) (by decide) rfl (fun ls hl => ?_)
          refine lv_goto (tgt := 5) hx hb dX3_teethOfSign_37 (by decide) ?_
          exact (hG _ _ _).1 (ih_5 x1 x2 x3_33 x4_34 hF _ _ _ hP hS (lv_sub hl [2, 3, 4, 1, 0] rfl))
  refine (hG _ _ _).2 ?_
  unfold p_X3_teethOfSign at hF
  refine lv_iconst (v := (0 : Int32)) hx hb dX3_teethOfSign_0 (by decide) ?_
  refine lv_istore_n (lv' := [(3, .int (0 : Int32)), (0, .ref aS), (1, .int x1), (2, .int x2)]) hx hb dX3_teethOfSign_1 rfl hl (by decide) rfl (fun ls hl => ?_)
  refine lv_iconst (v := (0 : Int32)) hx hb dX3_teethOfSign_2 (by decide) ?_
  refine lv_istore (lv' := [(4, .int (0 : Int32)), (3, .int (0 : Int32)), (0, .ref aS), (1, .int x1), (2, .int x2)]) hx hb dX3_teethOfSign_3 hl (by decide) rfl (fun ls hl => ?_)
  exact (hG _ _ _).1 (blk_5 N x1 x2 (0 : Int32) (0 : Int32) hF _ _ _ hP hS (lv_sub hl [2, 3, 4, 1, 0] rfl))
theorem mm_X3_greatestHeight_1 : Cond.methodLink RX3 55 Lib.Math.max.name ∈ wsX3_greatestHeight := List.mem_of_getElem? (i := 1) rfl
theorem mm_X3_greatestHeight_2 : Cond.static Lib.Math.max.name ∈ wsX3_greatestHeight := List.mem_of_getElem? (i := 2) rfl
theorem mm_X3_greatestHeight_3 : Cond.initialized "java/lang/Math" ∈ wsX3_greatestHeight := List.mem_of_getElem? (i := 3) rfl
theorem mm_X3_greatestHeight_4 : Cond.code Lib.Math.max.name Lib.Math.max.code 2 (some .int) ∈ wsX3_greatestHeight := List.mem_of_getElem? (i := 4) rfl
set_option maxHeartbeats 4000000 in
set_option maxRecDepth 100000 in
theorem c_X3_greatestHeight (l : Launch) (D : va_G) (cyI cyZ : ClassId) (aS aC : Nat) (N : Nat) (x1 : Int32) (vc : (Nat → Int32)) {r0 : Int32}  (hF : p_X3_greatestHeight N x1 vc = some (r0)) : Met l yX3_greatestHeight wsX3_greatestHeight ({ frames := 2, cells := 0, slots := 0, locals := 43 }) (x_PR D cyI cyZ [.ref aS, .int x1] [(aS, .inr (3, [.ref aC])), (aC, .inl (cyI, 225, .inl vc))]) (x_QR r0) 0 0 (fun _ => False) := by
  refine Met.ofW (cc := cX3_greatestHeight) (maxL := 4) (ret := (some .int)) (by decide) rfl ?_
  intro p e s m args below meth c s₁ B hml hv
  obtain ⟨rfl, hP, hK⟩ := hv
  have hx := B.exec
  have hb := B.bytes
  have hr := B.returns
  have hts := atoms_spec (ws := wsX3_greatestHeight) B.pre
  have hown : s.vm.findClass RX3 = some m.cls := findClass_of_methodNamed B.named
  have hlocks := B.notSynchronized
  have hS : va_S (fun _ => False) s.heap s.heap [] := va_S.rf
  have hP : va_P D vwCl [(aS, .inr (3, [.ref aC])), (aC, .inl (cyI, 225, .inl vc))] s.heap := hP
  have hl := lv_entry ([.ref aS, .int x1]) (n := 4) (Nat.le_of_ble_eq_true rfl)
  rw [lg_entry_eq]
  generalize (lg_sl ([.ref aS, .int x1]) ++ List.replicate (4 - (lg_sl ([.ref aS, .int x1])).length) Slot.unset).toArray = ls at hl ⊢
  have hl : lv_has ls 4 [(0, .ref aS), (1, .int x1)] := hl
  refine x_gen (fun G hG => ?_)
  have blk_9 : ∀ (n_9 : Nat) (x1 : Int32) (x2 : Int32) (x3 : Int32), f_X3_greatestHeight_9 N n_9 x1 x2 x3 vc = some (r0) → ∀ (H : Heap) (locs : List Loc) (ls : Array Slot), va_P D vwCl [(aS, .inr (3, [.ref aC])), (aC, .inl (cyI, 225, .inl vc))] H → va_S (fun _ => False) s.heap H locs → lv_has ls 4 [(0, .ref aS), (1, .int x1), (2, .int x2), (3, .int x3)] → G H locs (F0 m 9 ls []) := by
    intro n_9
    induction n_9 with
    | zero => intro x1 x2 x3 hF; exact (k_none hF).elim
    | succ n_9 ih_9 =>
      intro x1 x2 x3 hF H locs ls hP hS hl
      replace hF : b_X3_greatestHeight_9 N (f_X3_greatestHeight_9 N n_9) x1 x2 x3 vc = some (r0) := hF
      unfold b_X3_greatestHeight_9 at hF
      refine (hG _ _ _).2 ?_
      refine lv_iload_n hx hb dX3_greatestHeight_9 rfl (lv_at hl 3 rfl) ?_
      refine lv_aload_n hx hb dX3_greatestHeight_10 rfl (lv_at hl 0 rfl) ?_
      refine lv_iload_n hx hb dX3_greatestHeight_11 rfl (lv_at hl 1 rfl) ?_
      obtain ⟨r12, hC, hF⟩ := k_c1_ex hF
      refine x_VR (As := [.int x1]) (rest := [.int x3]) ⟨hx, hb, hml, hown, hts⟩ (c_X3_teeth l D cyI cyZ aS aC N x1 vc hC) (cwV 1 hts gX3_greatestHeight_X3_teeth rfl rfl rfl (by decide +kernel) ⟨Nat.le_of_ble_eq_true rfl, Nat.le_of_ble_eq_true rfl⟩) hK hP hS [0, 1] rfl 0 rfl rfl rfl rfl hl.1 rfl (Nat.le_of_ble_eq_true rfl) ⟨Nat.zero_le _, Nat.zero_le _⟩ dX3_greatestHeight_12 (fun H locs hP hS => ?_)
      refine lv_icmp_ge (tgt := 35) hx hb dX3_greatestHeight_15 (by decide) (fun hc => ?_) (fun hc => ?_)
      · have hF := k_if_t hF hc
        refine lv_iload_n hx hb dX3_greatestHeight_35 rfl (lv_at hl 2 rfl) ?_
        exact W.iret hx hb hr (fun t ht hW => ⟨⟨_, (), rfl, Option.some.inj hF, trivial⟩, hS.F ht⟩) hS.2.2 dX3_greatestHeight_36
      · have hF := k_if_f hF hc
        refine lv_iload_n hx hb dX3_greatestHeight_18 rfl (lv_at hl 2 rfl) ?_
        refine lv_aload_n hx hb dX3_greatestHeight_19 rfl (lv_at hl 0 rfl) ?_
        refine lv_iload_n hx hb dX3_greatestHeight_20 rfl (lv_at hl 1 rfl) ?_
        refine lv_iload_n hx hb dX3_greatestHeight_21 rfl (lv_at hl 3 rfl) ?_
        obtain ⟨r22, hC, hF⟩ := k_c1_ex hF
        refine x_VR (As := [.int x1, .int x3]) (rest := [.int x2]) ⟨hx, hb, hml, hown, hts⟩ (c_X3_height l D cyI cyZ aS aC N x1 x3 vc hC) (cwV 2 hts gX3_greatestHeight_X3_height rfl rfl rfl (by decide +kernel) ⟨Nat.le_of_ble_eq_true rfl, Nat.le_of_ble_eq_true rfl⟩) hK hP hS [0, 1] rfl 0 rfl rfl rfl rfl hl.1 rfl (Nat.le_of_ble_eq_true rfl) ⟨Nat.zero_le _, Nat.zero_le _⟩ dX3_greatestHeight_22 (fun H locs hP hS => ?_)
        obtain ⟨r25, hn, hF⟩ := k_let_ex hF
        refine va_mmax hx hb (hml.trans hl.1.symm) hown (hts _ mm_X3_greatestHeight_1) (hts _ mm_X3_greatestHeight_2) (hts _ mm_X3_greatestHeight_3) (hts _ mm_X3_greatestHeight_4) (Nat.le_of_ble_eq_true rfl) (Nat.le_of_ble_eq_true rfl) (Nat.zero_le _) (Nat.zero_le _) dX3_greatestHeight_25 ?_
        refine x_nm hn ?_
        refine lv_istore_n (lv' := [(2, .int r25), (0, .ref aS), (1, .int x1), (3, .int x3)]) hx hb dX3_greatestHeight_28 rfl hl (by decide) rfl (fun ls hl => ?_)
        obtain ⟨x3_29, hn, hF⟩ := k_let_ex hF
        refine lv_iinc (v := x3_29) (lv' := [(3, .int x3_29), (2, .int r25), (0, .ref aS), (1, .int x1)]) hx hb dX3_greatestHeight_29 hl (k := 3) rfl (by rw [hn]; rfl) (by decide) rfl (fun ls hl => ?_)
        refine lv_goto (tgt := 9) hx hb dX3_greatestHeight_32 (by decide) ?_
        exact (hG _ _ _).1 (ih_9 x1 r25 x3_29 hF _ _ _ hP hS (lv_sub hl [2, 3, 1, 0] rfl))
  refine (hG _ _ _).2 ?_
  unfold p_X3_greatestHeight at hF
  refine lv_aload_n hx hb dX3_greatestHeight_0 rfl (lv_at hl 0 rfl) ?_
  refine lv_iload_n hx hb dX3_greatestHeight_1 rfl (lv_at hl 1 rfl) ?_
  refine lv_iconst (v := (0 : Int32)) hx hb dX3_greatestHeight_2 (by decide) ?_
  obtain ⟨r3, hC, hF⟩ := k_c1_ex hF
  refine x_VR (As := [.int x1, .int (0 : Int32)]) (rest := []) ⟨hx, hb, hml, hown, hts⟩ (c_X3_height l D cyI cyZ aS aC N x1 (0 : Int32) vc hC) (cwV 2 hts gX3_greatestHeight_X3_height rfl rfl rfl (by decide +kernel) ⟨Nat.le_of_ble_eq_true rfl, Nat.le_of_ble_eq_true rfl⟩) hK hP hS [0, 1] rfl 0 rfl rfl rfl rfl hl.1 rfl (Nat.le_of_ble_eq_true rfl) ⟨Nat.zero_le _, Nat.zero_le _⟩ dX3_greatestHeight_3 (fun H locs hP hS => ?_)
  refine lv_istore_n (lv' := [(2, .int r3), (0, .ref aS), (1, .int x1)]) hx hb dX3_greatestHeight_6 rfl hl (by decide) rfl (fun ls hl => ?_)
  refine lv_iconst (v := (1 : Int32)) hx hb dX3_greatestHeight_7 (by decide) ?_
  refine lv_istore_n (lv' := [(3, .int (1 : Int32)), (2, .int r3), (0, .ref aS), (1, .int x1)]) hx hb dX3_greatestHeight_8 rfl hl (by decide) rfl (fun ls hl => ?_)
  exact (hG _ _ _).1 (blk_9 N x1 r3 (1 : Int32) hF _ _ _ hP hS (lv_sub hl [2, 3, 1, 0] rfl))
theorem mm_X3_leastHeight_1 : Cond.methodLink RX3 60 Lib.Math.min.name ∈ wsX3_leastHeight := List.mem_of_getElem? (i := 1) rfl
theorem mm_X3_leastHeight_2 : Cond.static Lib.Math.min.name ∈ wsX3_leastHeight := List.mem_of_getElem? (i := 2) rfl
theorem mm_X3_leastHeight_3 : Cond.initialized "java/lang/Math" ∈ wsX3_leastHeight := List.mem_of_getElem? (i := 3) rfl
theorem mm_X3_leastHeight_4 : Cond.code Lib.Math.min.name Lib.Math.min.code 2 (some .int) ∈ wsX3_leastHeight := List.mem_of_getElem? (i := 4) rfl
set_option maxHeartbeats 4000000 in
set_option maxRecDepth 100000 in
theorem c_X3_leastHeight (l : Launch) (D : va_G) (cyI cyZ : ClassId) (aS aC : Nat) (N : Nat) (x1 : Int32) (vc : (Nat → Int32)) {r0 : Int32}  (hF : p_X3_leastHeight N x1 vc = some (r0)) : Met l yX3_leastHeight wsX3_leastHeight ({ frames := 2, cells := 0, slots := 0, locals := 43 }) (x_PR D cyI cyZ [.ref aS, .int x1] [(aS, .inr (3, [.ref aC])), (aC, .inl (cyI, 225, .inl vc))]) (x_QR r0) 0 0 (fun _ => False) := by
  refine Met.ofW (cc := cX3_leastHeight) (maxL := 4) (ret := (some .int)) (by decide) rfl ?_
  intro p e s m args below meth c s₁ B hml hv
  obtain ⟨rfl, hP, hK⟩ := hv
  have hx := B.exec
  have hb := B.bytes
  have hr := B.returns
  have hts := atoms_spec (ws := wsX3_leastHeight) B.pre
  have hown : s.vm.findClass RX3 = some m.cls := findClass_of_methodNamed B.named
  have hlocks := B.notSynchronized
  have hS : va_S (fun _ => False) s.heap s.heap [] := va_S.rf
  have hP : va_P D vwCl [(aS, .inr (3, [.ref aC])), (aC, .inl (cyI, 225, .inl vc))] s.heap := hP
  have hl := lv_entry ([.ref aS, .int x1]) (n := 4) (Nat.le_of_ble_eq_true rfl)
  rw [lg_entry_eq]
  generalize (lg_sl ([.ref aS, .int x1]) ++ List.replicate (4 - (lg_sl ([.ref aS, .int x1])).length) Slot.unset).toArray = ls at hl ⊢
  have hl : lv_has ls 4 [(0, .ref aS), (1, .int x1)] := hl
  refine x_gen (fun G hG => ?_)
  have blk_9 : ∀ (n_9 : Nat) (x1 : Int32) (x2 : Int32) (x3 : Int32), f_X3_leastHeight_9 N n_9 x1 x2 x3 vc = some (r0) → ∀ (H : Heap) (locs : List Loc) (ls : Array Slot), va_P D vwCl [(aS, .inr (3, [.ref aC])), (aC, .inl (cyI, 225, .inl vc))] H → va_S (fun _ => False) s.heap H locs → lv_has ls 4 [(0, .ref aS), (1, .int x1), (2, .int x2), (3, .int x3)] → G H locs (F0 m 9 ls []) := by
    intro n_9
    induction n_9 with
    | zero => intro x1 x2 x3 hF; exact (k_none hF).elim
    | succ n_9 ih_9 =>
      intro x1 x2 x3 hF H locs ls hP hS hl
      replace hF : b_X3_leastHeight_9 N (f_X3_leastHeight_9 N n_9) x1 x2 x3 vc = some (r0) := hF
      unfold b_X3_leastHeight_9 at hF
      refine (hG _ _ _).2 ?_
      refine lv_iload_n hx hb dX3_leastHeight_9 rfl (lv_at hl 3 rfl) ?_
      refine lv_aload_n hx hb dX3_leastHeight_10 rfl (lv_at hl 0 rfl) ?_
      refine lv_iload_n hx hb dX3_leastHeight_11 rfl (lv_at hl 1 rfl) ?_
      obtain ⟨r12, hC, hF⟩ := k_c1_ex hF
      refine x_VR (As := [.int x1]) (rest := [.int x3]) ⟨hx, hb, hml, hown, hts⟩ (c_X3_teeth l D cyI cyZ aS aC N x1 vc hC) (cwV 1 hts gX3_leastHeight_X3_teeth rfl rfl rfl (by decide +kernel) ⟨Nat.le_of_ble_eq_true rfl, Nat.le_of_ble_eq_true rfl⟩) hK hP hS [0, 1] rfl 0 rfl rfl rfl rfl hl.1 rfl (Nat.le_of_ble_eq_true rfl) ⟨Nat.zero_le _, Nat.zero_le _⟩ dX3_leastHeight_12 (fun H locs hP hS => ?_)
      refine lv_icmp_ge (tgt := 35) hx hb dX3_leastHeight_15 (by decide) (fun hc => ?_) (fun hc => ?_)
      · have hF := k_if_t hF hc
        refine lv_iload_n hx hb dX3_leastHeight_35 rfl (lv_at hl 2 rfl) ?_
        exact W.iret hx hb hr (fun t ht hW => ⟨⟨_, (), rfl, Option.some.inj hF, trivial⟩, hS.F ht⟩) hS.2.2 dX3_leastHeight_36
      · have hF := k_if_f hF hc
        refine lv_iload_n hx hb dX3_leastHeight_18 rfl (lv_at hl 2 rfl) ?_
        refine lv_aload_n hx hb dX3_leastHeight_19 rfl (lv_at hl 0 rfl) ?_
        refine lv_iload_n hx hb dX3_leastHeight_20 rfl (lv_at hl 1 rfl) ?_
        refine lv_iload_n hx hb dX3_leastHeight_21 rfl (lv_at hl 3 rfl) ?_
        obtain ⟨r22, hC, hF⟩ := k_c1_ex hF
        refine x_VR (As := [.int x1, .int x3]) (rest := [.int x2]) ⟨hx, hb, hml, hown, hts⟩ (c_X3_height l D cyI cyZ aS aC N x1 x3 vc hC) (cwV 2 hts gX3_leastHeight_X3_height rfl rfl rfl (by decide +kernel) ⟨Nat.le_of_ble_eq_true rfl, Nat.le_of_ble_eq_true rfl⟩) hK hP hS [0, 1] rfl 0 rfl rfl rfl rfl hl.1 rfl (Nat.le_of_ble_eq_true rfl) ⟨Nat.zero_le _, Nat.zero_le _⟩ dX3_leastHeight_22 (fun H locs hP hS => ?_)
        obtain ⟨r25, hn, hF⟩ := k_let_ex hF
        refine va_mmin hx hb (hml.trans hl.1.symm) hown (hts _ mm_X3_leastHeight_1) (hts _ mm_X3_leastHeight_2) (hts _ mm_X3_leastHeight_3) (hts _ mm_X3_leastHeight_4) (Nat.le_of_ble_eq_true rfl) (Nat.le_of_ble_eq_true rfl) (Nat.zero_le _) (Nat.zero_le _) dX3_leastHeight_25 ?_
        refine x_nm hn ?_
        refine lv_istore_n (lv' := [(2, .int r25), (0, .ref aS), (1, .int x1), (3, .int x3)]) hx hb dX3_leastHeight_28 rfl hl (by decide) rfl (fun ls hl => ?_)
        obtain ⟨x3_29, hn, hF⟩ := k_let_ex hF
        refine lv_iinc (v := x3_29) (lv' := [(3, .int x3_29), (2, .int r25), (0, .ref aS), (1, .int x1)]) hx hb dX3_leastHeight_29 hl (k := 3) rfl (by rw [hn]; rfl) (by decide) rfl (fun ls hl => ?_)
        refine lv_goto (tgt := 9) hx hb dX3_leastHeight_32 (by decide) ?_
        exact (hG _ _ _).1 (ih_9 x1 r25 x3_29 hF _ _ _ hP hS (lv_sub hl [2, 3, 1, 0] rfl))
  refine (hG _ _ _).2 ?_
  unfold p_X3_leastHeight at hF
  refine lv_aload_n hx hb dX3_leastHeight_0 rfl (lv_at hl 0 rfl) ?_
  refine lv_iload_n hx hb dX3_leastHeight_1 rfl (lv_at hl 1 rfl) ?_
  refine lv_iconst (v := (0 : Int32)) hx hb dX3_leastHeight_2 (by decide) ?_
  obtain ⟨r3, hC, hF⟩ := k_c1_ex hF
  refine x_VR (As := [.int x1, .int (0 : Int32)]) (rest := []) ⟨hx, hb, hml, hown, hts⟩ (c_X3_height l D cyI cyZ aS aC N x1 (0 : Int32) vc hC) (cwV 2 hts gX3_leastHeight_X3_height rfl rfl rfl (by decide +kernel) ⟨Nat.le_of_ble_eq_true rfl, Nat.le_of_ble_eq_true rfl⟩) hK hP hS [0, 1] rfl 0 rfl rfl rfl rfl hl.1 rfl (Nat.le_of_ble_eq_true rfl) ⟨Nat.zero_le _, Nat.zero_le _⟩ dX3_leastHeight_3 (fun H locs hP hS => ?_)
  refine lv_istore_n (lv' := [(2, .int r3), (0, .ref aS), (1, .int x1)]) hx hb dX3_leastHeight_6 rfl hl (by decide) rfl (fun ls hl => ?_)
  refine lv_iconst (v := (1 : Int32)) hx hb dX3_leastHeight_7 (by decide) ?_
  refine lv_istore_n (lv' := [(3, .int (1 : Int32)), (2, .int r3), (0, .ref aS), (1, .int x1)]) hx hb dX3_leastHeight_8 rfl hl (by decide) rfl (fun ls hl => ?_)
  exact (hG _ _ _).1 (blk_9 N x1 r3 (1 : Int32) hF _ _ _ hP hS (lv_sub hl [2, 3, 1, 0] rfl))
set_option maxHeartbeats 4000000 in
set_option maxRecDepth 100000 in
theorem c_X3_stepsSinceWorn (l : Launch) (D : va_G) (cyI cyZ : ClassId) (aS aC : Nat) (N : Nat) (x1 : Int32) (vc : (Nat → Int32)) {r0 : Int32}  (hF : p_X3_stepsSinceWorn N x1 vc = some (r0)) : Met l yX3_stepsSinceWorn wsX3_stepsSinceWorn ({ frames := 1, cells := 0, slots := 0, locals := 21 }) (x_PR D cyI cyZ [.ref aS, .int x1] [(aS, .inr (3, [.ref aC])), (aC, .inl (cyI, 225, .inl vc))]) (x_QR r0) 0 0 (fun _ => False) := by
  refine Met.ofW (cc := cX3_stepsSinceWorn) (maxL := 2) (ret := (some .int)) (by decide) rfl ?_
  intro p e s m args below meth c s₁ B hml hv
  obtain ⟨rfl, hP, hK⟩ := hv
  have hx := B.exec
  have hb := B.bytes
  have hr := B.returns
  have hts := atoms_spec (ws := wsX3_stepsSinceWorn) B.pre
  have hown : s.vm.findClass RX3 = some m.cls := findClass_of_methodNamed B.named
  have hlocks := B.notSynchronized
  have hS : va_S (fun _ => False) s.heap s.heap [] := va_S.rf
  have hP : va_P D vwCl [(aS, .inr (3, [.ref aC])), (aC, .inl (cyI, 225, .inl vc))] s.heap := hP
  have hl := lv_entry ([.ref aS, .int x1]) (n := 2) (Nat.le_of_ble_eq_true rfl)
  rw [lg_entry_eq]
  generalize (lg_sl ([.ref aS, .int x1]) ++ List.replicate (2 - (lg_sl ([.ref aS, .int x1])).length) Slot.unset).toArray = ls at hl ⊢
  have hl : lv_has ls 2 [(0, .ref aS), (1, .int x1)] := hl
  unfold p_X3_stepsSinceWorn at hF
  refine lv_aload_n hx hb dX3_stepsSinceWorn_0 rfl (lv_at hl 0 rfl) ?_
  refine lv_iload_n hx hb dX3_stepsSinceWorn_1 rfl (lv_at hl 1 rfl) ?_
  obtain ⟨r2, hC, hF⟩ := k_c1_ex hF
  refine x_SR (As := [.int x1]) (rest := [.ref aS]) ⟨hx, hb, hml, hown, hts⟩ (c_X3_placeOf l D cyI cyZ N x1 hC) (va_cwS 1 hts gX3_stepsSinceWorn_X3_placeOf rfl rfl rfl (by decide +kernel) ⟨Nat.le_of_ble_eq_true rfl, Nat.le_of_ble_eq_true rfl⟩) hK hP hS [] rfl rfl hl.1 rfl (Nat.le_of_ble_eq_true rfl) ⟨Nat.zero_le _, Nat.zero_le _⟩ dX3_stepsSinceWorn_2 (fun H locs hP hS => ?_)
  refine lv_iconst (v := (1 : Int32)) hx hb dX3_stepsSinceWorn_5 (by decide) ?_
  refine lv_iadd hx hb dX3_stepsSinceWorn_6 ?_
  obtain ⟨r7, hC, hF⟩ := k_c1_ex hF
  refine x_VR (As := [.int (r2 + (1 : Int32))]) (rest := []) ⟨hx, hb, hml, hown, hts⟩ (c_X3_cell l D cyI cyZ aS aC N (r2 + (1 : Int32)) vc hC) (cwV 1 hts gX3_stepsSinceWorn_X3_cell rfl rfl rfl (by decide +kernel) ⟨Nat.le_of_ble_eq_true rfl, Nat.le_of_ble_eq_true rfl⟩) hK hP hS [0, 1] rfl 0 rfl rfl rfl rfl hl.1 rfl (Nat.le_of_ble_eq_true rfl) ⟨Nat.zero_le _, Nat.zero_le _⟩ dX3_stepsSinceWorn_7 (fun H locs hP hS => ?_)
  exact W.iret hx hb hr (fun t ht hW => ⟨⟨_, (), rfl, Option.some.inj hF, trivial⟩, hS.F ht⟩) hS.2.2 dX3_stepsSinceWorn_10
set_option maxHeartbeats 4000000 in
set_option maxRecDepth 100000 in
theorem c_X3_timesWorn (l : Launch) (D : va_G) (cyI cyZ : ClassId) (aS aC : Nat) (N : Nat) (x1 : Int32) (vc : (Nat → Int32)) {r0 : Int32}  (hF : p_X3_timesWorn N x1 vc = some (r0)) : Met l yX3_timesWorn wsX3_timesWorn ({ frames := 1, cells := 0, slots := 0, locals := 21 }) (x_PR D cyI cyZ [.ref aS, .int x1] [(aS, .inr (3, [.ref aC])), (aC, .inl (cyI, 225, .inl vc))]) (x_QR r0) 0 0 (fun _ => False) := by
  refine Met.ofW (cc := cX3_timesWorn) (maxL := 2) (ret := (some .int)) (by decide) rfl ?_
  intro p e s m args below meth c s₁ B hml hv
  obtain ⟨rfl, hP, hK⟩ := hv
  have hx := B.exec
  have hb := B.bytes
  have hr := B.returns
  have hts := atoms_spec (ws := wsX3_timesWorn) B.pre
  have hown : s.vm.findClass RX3 = some m.cls := findClass_of_methodNamed B.named
  have hlocks := B.notSynchronized
  have hS : va_S (fun _ => False) s.heap s.heap [] := va_S.rf
  have hP : va_P D vwCl [(aS, .inr (3, [.ref aC])), (aC, .inl (cyI, 225, .inl vc))] s.heap := hP
  have hl := lv_entry ([.ref aS, .int x1]) (n := 2) (Nat.le_of_ble_eq_true rfl)
  rw [lg_entry_eq]
  generalize (lg_sl ([.ref aS, .int x1]) ++ List.replicate (2 - (lg_sl ([.ref aS, .int x1])).length) Slot.unset).toArray = ls at hl ⊢
  have hl : lv_has ls 2 [(0, .ref aS), (1, .int x1)] := hl
  unfold p_X3_timesWorn at hF
  refine lv_aload_n hx hb dX3_timesWorn_0 rfl (lv_at hl 0 rfl) ?_
  refine lv_iload_n hx hb dX3_timesWorn_1 rfl (lv_at hl 1 rfl) ?_
  obtain ⟨r2, hC, hF⟩ := k_c1_ex hF
  refine x_SR (As := [.int x1]) (rest := [.ref aS]) ⟨hx, hb, hml, hown, hts⟩ (c_X3_placeOf l D cyI cyZ N x1 hC) (va_cwS 1 hts gX3_timesWorn_X3_placeOf rfl rfl rfl (by decide +kernel) ⟨Nat.le_of_ble_eq_true rfl, Nat.le_of_ble_eq_true rfl⟩) hK hP hS [] rfl rfl hl.1 rfl (Nat.le_of_ble_eq_true rfl) ⟨Nat.zero_le _, Nat.zero_le _⟩ dX3_timesWorn_2 (fun H locs hP hS => ?_)
  refine lv_iconst (v := (2 : Int32)) hx hb dX3_timesWorn_5 (by decide) ?_
  refine lv_iadd hx hb dX3_timesWorn_6 ?_
  obtain ⟨r7, hC, hF⟩ := k_c1_ex hF
  refine x_VR (As := [.int (r2 + (2 : Int32))]) (rest := []) ⟨hx, hb, hml, hown, hts⟩ (c_X3_cell l D cyI cyZ aS aC N (r2 + (2 : Int32)) vc hC) (cwV 1 hts gX3_timesWorn_X3_cell rfl rfl rfl (by decide +kernel) ⟨Nat.le_of_ble_eq_true rfl, Nat.le_of_ble_eq_true rfl⟩) hK hP hS [0, 1] rfl 0 rfl rfl rfl rfl hl.1 rfl (Nat.le_of_ble_eq_true rfl) ⟨Nat.zero_le _, Nat.zero_le _⟩ dX3_timesWorn_7 (fun H locs hP hS => ?_)
  exact W.iret hx hb hr (fun t ht hW => ⟨⟨_, (), rfl, Option.some.inj hF, trivial⟩, hS.F ht⟩) hS.2.2 dX3_timesWorn_10
set_option maxHeartbeats 4000000 in
set_option maxRecDepth 100000 in
theorem c_X3_hasTooth (l : Launch) (D : va_G) (cyI cyZ : ClassId) (aS aC : Nat) (N : Nat) (x1 : Int32) (x2 : Int32) (vc : (Nat → Int32)) {r0 : Int32}  (hF : p_X3_hasTooth N x1 x2 vc = some (r0)) : Met l yX3_hasTooth wsX3_hasTooth ({ frames := 2, cells := 0, slots := 0, locals := 42 }) (x_PR D cyI cyZ [.ref aS, .int x1, .int x2] [(aS, .inr (3, [.ref aC])), (aC, .inl (cyI, 225, .inl vc))]) (x_QR r0) 0 0 (fun _ => False) := by
  refine Met.ofW (cc := cX3_hasTooth) (maxL := 3) (ret := (some .boolean)) (by decide) rfl ?_
  intro p e s m args below meth c s₁ B hml hv
  obtain ⟨rfl, hP, hK⟩ := hv
  have hx := B.exec
  have hb := B.bytes
  have hr := B.returns
  have hts := atoms_spec (ws := wsX3_hasTooth) B.pre
  have hown : s.vm.findClass RX3 = some m.cls := findClass_of_methodNamed B.named
  have hlocks := B.notSynchronized
  have hS : va_S (fun _ => False) s.heap s.heap [] := va_S.rf
  have hP : va_P D vwCl [(aS, .inr (3, [.ref aC])), (aC, .inl (cyI, 225, .inl vc))] s.heap := hP
  have hl := lv_entry ([.ref aS, .int x1, .int x2]) (n := 3) (Nat.le_of_ble_eq_true rfl)
  rw [lg_entry_eq]
  generalize (lg_sl ([.ref aS, .int x1, .int x2]) ++ List.replicate (3 - (lg_sl ([.ref aS, .int x1, .int x2])).length) Slot.unset).toArray = ls at hl ⊢
  have hl : lv_has ls 3 [(0, .ref aS), (1, .int x1), (2, .int x2)] := hl
  unfold p_X3_hasTooth at hF
  refine lv_aload_n hx hb dX3_hasTooth_0 rfl (lv_at hl 0 rfl) ?_
  refine lv_iload_n hx hb dX3_hasTooth_1 rfl (lv_at hl 1 rfl) ?_
  obtain ⟨r2, hC, hF⟩ := k_c1_ex hF
  refine x_VR (As := [.int x1]) (rest := []) ⟨hx, hb, hml, hown, hts⟩ (c_X3_has l D cyI cyZ aS aC N x1 vc hC) (cwV 1 hts gX3_hasTooth_X3_has rfl rfl rfl (by decide +kernel) ⟨Nat.le_of_ble_eq_true rfl, Nat.le_of_ble_eq_true rfl⟩) hK hP hS [0, 1] rfl 0 rfl rfl rfl rfl hl.1 rfl (Nat.le_of_ble_eq_true rfl) ⟨Nat.zero_le _, Nat.zero_le _⟩ dX3_hasTooth_2 (fun H locs hP hS => ?_)
  refine lv_if_eq (tgt := 25) hx hb dX3_hasTooth_5 (by decide) (fun hc => ?_) (fun hc => ?_)
  · have hF := k_if_t hF hc
    refine lv_iconst (v := (0 : Int32)) hx hb dX3_hasTooth_25 (by decide) ?_
    exact W.zret hx hb hr rfl (fun t ht hW => ⟨⟨_, (), rfl, Option.some.inj hF, trivial⟩, hS.F ht⟩) hS.2.2 dX3_hasTooth_26
  · have hF := k_if_f hF hc
    refine lv_iload_n hx hb dX3_hasTooth_8 rfl (lv_at hl 2 rfl) ?_
    refine lv_if_lt (tgt := 25) hx hb dX3_hasTooth_9 (by decide) (fun hc => ?_) (fun hc => ?_)
    · have hF := k_if_t hF hc
      refine lv_iconst (v := (0 : Int32)) hx hb dX3_hasTooth_25 (by decide) ?_
      exact W.zret hx hb hr rfl (fun t ht hW => ⟨⟨_, (), rfl, Option.some.inj hF, trivial⟩, hS.F ht⟩) hS.2.2 dX3_hasTooth_26
    · have hF := k_if_f hF hc
      refine lv_iload_n hx hb dX3_hasTooth_12 rfl (lv_at hl 2 rfl) ?_
      refine lv_aload_n hx hb dX3_hasTooth_13 rfl (lv_at hl 0 rfl) ?_
      refine lv_iload_n hx hb dX3_hasTooth_14 rfl (lv_at hl 1 rfl) ?_
      obtain ⟨r15, hC, hF⟩ := k_c1_ex hF
      refine x_VR (As := [.int x1]) (rest := [.int x2]) ⟨hx, hb, hml, hown, hts⟩ (c_X3_teeth l D cyI cyZ aS aC N x1 vc hC) (cwV 1 hts gX3_hasTooth_X3_teeth rfl rfl rfl (by decide +kernel) ⟨Nat.le_of_ble_eq_true rfl, Nat.le_of_ble_eq_true rfl⟩) hK hP hS [0, 1] rfl 0 rfl rfl rfl rfl hl.1 rfl (Nat.le_of_ble_eq_true rfl) ⟨Nat.zero_le _, Nat.zero_le _⟩ dX3_hasTooth_15 (fun H locs hP hS => ?_)
      refine lv_icmp_ge (tgt := 25) hx hb dX3_hasTooth_18 (by decide) (fun hc => ?_) (fun hc => ?_)
      · have hF := k_if_t hF hc
        refine lv_iconst (v := (0 : Int32)) hx hb dX3_hasTooth_25 (by decide) ?_
        exact W.zret hx hb hr rfl (fun t ht hW => ⟨⟨_, (), rfl, Option.some.inj hF, trivial⟩, hS.F ht⟩) hS.2.2 dX3_hasTooth_26
      · have hF := k_if_f hF hc
        refine lv_iconst (v := (1 : Int32)) hx hb dX3_hasTooth_21 (by decide) ?_
        refine lv_goto (tgt := 26) hx hb dX3_hasTooth_22 (by decide) ?_
        exact W.zret hx hb hr rfl (fun t ht hW => ⟨⟨_, (), rfl, Option.some.inj hF, trivial⟩, hS.F ht⟩) hS.2.2 dX3_hasTooth_26
theorem mm_X3_fileTooth_22 : Cond.static yX6_outside ∈ wsX3_fileTooth := List.mem_of_getElem? (i := 22) rfl
theorem mm_X3_fileTooth_23 : Cond.initialized RX6 ∈ wsX3_fileTooth := List.mem_of_getElem? (i := 23) rfl
set_option maxHeartbeats 4000000 in
set_option maxRecDepth 100000 in
theorem c_X3_fileTooth (l : Launch) (D : va_G) (cyI cyZ : ClassId) (aS aC : Nat) (sz : Nat) (N : Nat) (x1 : Int32) (x2 : Int32) (x3 : Int32) (vc : (Nat → Int32)) {r0 : Int32} {vc' : (Nat → Int32)} (hF : p_X3_fileTooth N x1 x2 x3 vc = some (r0, vc')) : Met l yX3_fileTooth wsX3_fileTooth ({ frames := 3, cells := 0, slots := 0, locals := 64 }) (x_PM D cyI cyZ [.ref aS, .int x1, .int x2, .int x3] [(aS, .inr (3, [.ref aC])), (aC, .inl (cyI, 225, .inl vc))] sz) (x_QM D r0 (va_A [(aS, .inr (3, [.ref aC])), (aC, .inl (cyI, 225, .inl vc))] sz) [(aS, .inr (3, [.ref aC])), (aC, .inl (cyI, 225, .inl vc'))]) 0 0 (va_A [(aS, .inr (3, [.ref aC])), (aC, .inl (cyI, 225, .inl vc))] sz) := by
  refine Met.ofW (cc := cX3_fileTooth) (maxL := 5) (ret := (some .int)) (by decide) rfl ?_
  intro p e s m args below meth c s₁ B hml hv
  obtain ⟨rfl, hsz, hP, hK, hD0⟩ := hv
  have hx := B.exec
  have hb := B.bytes
  have hr := B.returns
  have hts := atoms_spec (ws := wsX3_fileTooth) B.pre
  have hown : s.vm.findClass RX3 = some m.cls := findClass_of_methodNamed B.named
  have hlocks := B.notSynchronized
  subst hsz
  have hD := hD0.self (sz := s.heap.size)
  generalize hAe : va_A [(aS, .inr (3, [.ref aC])), (aC, .inl (cyI, 225, .inl vc))] s.heap.size = A at hD ⊢
  have hA : ∀ q : Nat, s.heap.size ≤ q → A q := fun q h => by rw [← hAe]; exact Or.inr h
  have hS : va_S A s.heap s.heap [] := va_S.rf
  have hP : va_P D vwCl [(aS, .inr (3, [.ref aC])), (aC, .inl (cyI, 225, .inl vc))] s.heap := hP
  have hl := lv_entry ([.ref aS, .int x1, .int x2, .int x3]) (n := 5) (Nat.le_of_ble_eq_true rfl)
  rw [lg_entry_eq]
  generalize (lg_sl ([.ref aS, .int x1, .int x2, .int x3]) ++ List.replicate (5 - (lg_sl ([.ref aS, .int x1, .int x2, .int x3])).length) Slot.unset).toArray = ls at hl ⊢
  have hl : lv_has ls 5 [(0, .ref aS), (1, .int x1), (2, .int x2), (3, .int x3)] := hl
  unfold p_X3_fileTooth at hF
  refine lv_aload_n hx hb dX3_fileTooth_0 rfl (lv_at hl 0 rfl) ?_
  refine lv_iload_n hx hb dX3_fileTooth_1 rfl (lv_at hl 1 rfl) ?_
  refine lv_iload_n hx hb dX3_fileTooth_2 rfl (lv_at hl 2 rfl) ?_
  obtain ⟨r3, hC, hF⟩ := k_c1_ex hF
  refine x_VR (As := [.int x1, .int x2]) (rest := []) ⟨hx, hb, hml, hown, hts⟩ (c_X3_hasTooth l D cyI cyZ aS aC N x1 x2 vc hC) (cwV 2 hts gX3_fileTooth_X3_hasTooth rfl rfl rfl (by decide +kernel) ⟨Nat.le_of_ble_eq_true rfl, Nat.le_of_ble_eq_true rfl⟩) hK hP hS [0, 1] rfl 0 rfl rfl rfl rfl hl.1 rfl (Nat.le_of_ble_eq_true rfl) ⟨Nat.zero_le _, Nat.zero_le _⟩ dX3_fileTooth_3 (fun H locs hP hS => ?_)
  refine lv_if_ne (tgt := 11) hx hb dX3_fileTooth_6 (by decide) (fun hc => ?_) (fun hc => ?_)
  · have hF := k_if_f hF hc
    refine lv_iload_n hx hb dX3_fileTooth_11 rfl (lv_at hl 3 rfl) ?_
    refine lv_bipush (v := (-9 : Int32)) hx hb dX3_fileTooth_12 (by decide) ?_
    refine lv_bipush (v := (9 : Int32)) hx hb dX3_fileTooth_14 (by decide) ?_
    obtain ⟨r16, hC, hF⟩ := k_c1_ex hF
    refine x_NR (As := [.int x3, .int (-9 : Int32), .int (9 : Int32)]) (rest := []) ⟨hx, hb, hml, hown, hts⟩ (c_X6_outside l D cyI cyZ N x3 (-9 : Int32) (9 : Int32) hC) ⟨va_cnB 3 hts gX3_fileTooth_X6_outside_n23 rfl rfl rfl hK.2.1 (hts _ mm_X3_fileTooth_23) (by decide +kernel) ⟨Nat.le_of_ble_eq_true rfl, Nat.le_of_ble_eq_true rfl⟩, hts _ mm_X3_fileTooth_22, trivial⟩ hK hP hS [] rfl rfl hl.1 rfl (Nat.le_of_ble_eq_true rfl) ⟨Nat.zero_le _, Nat.zero_le _⟩ dX3_fileTooth_16 (fun H locs hP hS => ?_)
    refine lv_if_eq (tgt := 25) hx hb dX3_fileTooth_19 (by decide) (fun hc => ?_) (fun hc => ?_)
    · have hF := k_if_t hF hc
      refine lv_aload_n hx hb dX3_fileTooth_25 rfl (lv_at hl 0 rfl) ?_
      refine lv_iload_n hx hb dX3_fileTooth_26 rfl (lv_at hl 1 rfl) ?_
      refine lv_iload_n hx hb dX3_fileTooth_27 rfl (lv_at hl 2 rfl) ?_
      obtain ⟨r28, hC, hF⟩ := k_c1_ex hF
      refine x_VR (As := [.int x1, .int x2]) (rest := []) ⟨hx, hb, hml, hown, hts⟩ (c_X3_height l D cyI cyZ aS aC N x1 x2 vc hC) (cwV 2 hts gX3_fileTooth_X3_height rfl rfl rfl (by decide +kernel) ⟨Nat.le_of_ble_eq_true rfl, Nat.le_of_ble_eq_true rfl⟩) hK hP hS [0, 1] rfl 0 rfl rfl rfl rfl hl.1 rfl (Nat.le_of_ble_eq_true rfl) ⟨Nat.zero_le _, Nat.zero_le _⟩ dX3_fileTooth_28 (fun H locs hP hS => ?_)
      refine lv_istore (lv' := [(4, .int r28), (0, .ref aS), (1, .int x1), (2, .int x2), (3, .int x3)]) hx hb dX3_fileTooth_31 hl (by decide) rfl (fun ls hl => ?_)
      refine lv_aload_n hx hb dX3_fileTooth_33 rfl (lv_at hl 1 rfl) ?_
      refine lv_iload_n hx hb dX3_fileTooth_34 rfl (lv_at hl 2 rfl) ?_
      refine lv_iload_n hx hb dX3_fileTooth_35 rfl (lv_at hl 3 rfl) ?_
      refine lv_iload_n hx hb dX3_fileTooth_36 rfl (lv_at hl 4 rfl) ?_
      obtain ⟨vc_37, hC, hF⟩ := k_c1_ex hF
      refine x_VV (As := [.int x1, .int x2, .int x3]) (rest := []) ⟨hx, hb, hml, hown, hts⟩ (c_X3_shape l D cyI cyZ aS aC H.size N x1 x2 x3 vc hC) (cwV 3 hts gX3_fileTooth_X3_shape rfl rfl rfl (by decide +kernel) ⟨Nat.le_of_ble_eq_true rfl, Nat.le_of_ble_eq_true rfl⟩) hK hP hD hS hA [0, 1] rfl rfl rfl 0 rfl rfl rfl rfl hl.1 rfl (Nat.le_of_ble_eq_true rfl) ⟨Nat.zero_le _, Nat.zero_le _⟩ dX3_fileTooth_37 (fun H locs hP hD hS => ?_)
      have hP : va_P D vwCl [(aS, .inr (3, [.ref aC])), (aC, .inl (cyI, 225, .inl vc_37))] H := hP
      have hD : va_D A [(aS, .inr (3, [.ref aC])), (aC, .inl (cyI, 225, .inl vc_37))] := hD
      refine lv_iload hx hb dX3_fileTooth_40 (lv_at hl 0 rfl) ?_
      refine lv_bipush (v := (9 : Int32)) hx hb dX3_fileTooth_42 (by decide) ?_
      refine lv_iadd hx hb dX3_fileTooth_44 ?_
      obtain ⟨e0, e1⟩ := k_inj2 hF
      have hP9 : va_P D vwCl [(aS, .inr (3, [.ref aC])), (aC, .inl (cyI, 225, .inl vc'))] H := by rw [← e1]; exact hP
      exact W.iret hx hb hr (fun t ht hW => ⟨⟨_, (), rfl, e0, x_ret hP9 ht⟩, hS.F ht⟩) hS.2.2 dX3_fileTooth_45
    · have hF := k_if_f hF hc
      refine lv_bipush (v := (-2 : Int32)) hx hb dX3_fileTooth_22 (by decide) ?_
      obtain ⟨e0, e1⟩ := k_inj2 hF
      have hP9 : va_P D vwCl [(aS, .inr (3, [.ref aC])), (aC, .inl (cyI, 225, .inl vc'))] H := by rw [← e1]; exact hP
      exact W.iret hx hb hr (fun t ht hW => ⟨⟨_, (), rfl, e0, x_ret hP9 ht⟩, hS.F ht⟩) hS.2.2 dX3_fileTooth_24
  · have hF := k_if_t hF hc
    refine lv_iconst (v := (-1 : Int32)) hx hb dX3_fileTooth_9 (by decide) ?_
    obtain ⟨e0, e1⟩ := k_inj2 hF
    have hP9 : va_P D vwCl [(aS, .inr (3, [.ref aC])), (aC, .inl (cyI, 225, .inl vc'))] H := by rw [← e1]; exact hP
    exact W.iret hx hb hr (fun t ht hW => ⟨⟨_, (), rfl, e0, x_ret hP9 ht⟩, hS.F ht⟩) hS.2.2 dX3_fileTooth_10
theorem mm_X3_changeCard_1 : Cond.static yX6_outside ∈ wsX3_changeCard := List.mem_of_getElem? (i := 1) rfl
theorem mm_X3_changeCard_2 : Cond.initialized RX6 ∈ wsX3_changeCard := List.mem_of_getElem? (i := 2) rfl
set_option maxHeartbeats 4000000 in
set_option maxRecDepth 100000 in
theorem c_X3_changeCard (l : Launch) (D : va_G) (cyI cyZ : ClassId) (aS aC : Nat) (sz : Nat) (N : Nat) (x1 : Int32) (x2 : Int32) (vc : (Nat → Int32)) {r0 : Int32} {vc' : (Nat → Int32)} (hF : p_X3_changeCard N x1 x2 vc = some (r0, vc')) : Met l yX3_changeCard wsX3_changeCard ({ frames := 1, cells := 0, slots := 0, locals := 22 }) (x_PM D cyI cyZ [.ref aS, .int x1, .int x2] [(aS, .inr (3, [.ref aC])), (aC, .inl (cyI, 225, .inl vc))] sz) (x_QM D r0 (va_A [(aS, .inr (3, [.ref aC])), (aC, .inl (cyI, 225, .inl vc))] sz) [(aS, .inr (3, [.ref aC])), (aC, .inl (cyI, 225, .inl vc'))]) 0 0 (va_A [(aS, .inr (3, [.ref aC])), (aC, .inl (cyI, 225, .inl vc))] sz) := by
  refine Met.ofW (cc := cX3_changeCard) (maxL := 4) (ret := (some .int)) (by decide) rfl ?_
  intro p e s m args below meth c s₁ B hml hv
  obtain ⟨rfl, hsz, hP, hK, hD0⟩ := hv
  have hx := B.exec
  have hb := B.bytes
  have hr := B.returns
  have hts := atoms_spec (ws := wsX3_changeCard) B.pre
  have hown : s.vm.findClass RX3 = some m.cls := findClass_of_methodNamed B.named
  have hlocks := B.notSynchronized
  subst hsz
  have hD := hD0.self (sz := s.heap.size)
  generalize hAe : va_A [(aS, .inr (3, [.ref aC])), (aC, .inl (cyI, 225, .inl vc))] s.heap.size = A at hD ⊢
  have hA : ∀ q : Nat, s.heap.size ≤ q → A q := fun q h => by rw [← hAe]; exact Or.inr h
  have hS : va_S A s.heap s.heap [] := va_S.rf
  have hP : va_P D vwCl [(aS, .inr (3, [.ref aC])), (aC, .inl (cyI, 225, .inl vc))] s.heap := hP
  have hl := lv_entry ([.ref aS, .int x1, .int x2]) (n := 4) (Nat.le_of_ble_eq_true rfl)
  rw [lg_entry_eq]
  generalize (lg_sl ([.ref aS, .int x1, .int x2]) ++ List.replicate (4 - (lg_sl ([.ref aS, .int x1, .int x2])).length) Slot.unset).toArray = ls at hl ⊢
  have hl : lv_has ls 4 [(0, .ref aS), (1, .int x1), (2, .int x2)] := hl
  unfold p_X3_changeCard at hF
  refine lv_iload_n hx hb dX3_changeCard_0 rfl (lv_at hl 1 rfl) ?_
  refine lv_iconst (v := (1 : Int32)) hx hb dX3_changeCard_1 (by decide) ?_
  refine lv_bipush (v := (30 : Int32)) hx hb dX3_changeCard_2 (by decide) ?_
  obtain ⟨r4, hC, hF⟩ := k_c1_ex hF
  refine x_NR (As := [.int x1, .int (1 : Int32), .int (30 : Int32)]) (rest := []) ⟨hx, hb, hml, hown, hts⟩ (c_X6_outside l D cyI cyZ N x1 (1 : Int32) (30 : Int32) hC) ⟨va_cnB 3 hts gX3_changeCard_X6_outside_n23 rfl rfl rfl hK.2.1 (hts _ mm_X3_changeCard_2) (by decide +kernel) ⟨Nat.le_of_ble_eq_true rfl, Nat.le_of_ble_eq_true rfl⟩, hts _ mm_X3_changeCard_1, trivial⟩ hK hP hS [] rfl rfl hl.1 rfl (Nat.le_of_ble_eq_true rfl) ⟨Nat.zero_le _, Nat.zero_le _⟩ dX3_changeCard_4 (fun H locs hP hS => ?_)
  refine lv_if_ne (tgt := 20) hx hb dX3_changeCard_7 (by decide) (fun hc => ?_) (fun hc => ?_)
  · have hF := k_if_f hF hc
    refine lv_bipush (v := (-2 : Int32)) hx hb dX3_changeCard_20 (by decide) ?_
    obtain ⟨e0, e1⟩ := k_inj2 hF
    have hP9 : va_P D vwCl [(aS, .inr (3, [.ref aC])), (aC, .inl (cyI, 225, .inl vc'))] H := by rw [← e1]; exact hP
    exact W.iret hx hb hr (fun t ht hW => ⟨⟨_, (), rfl, e0, x_ret hP9 ht⟩, hS.F ht⟩) hS.2.2 dX3_changeCard_22
  · have hF := k_if_t hF hc
    refine lv_iload_n hx hb dX3_changeCard_10 rfl (lv_at hl 2 rfl) ?_
    refine lv_iconst (v := (0 : Int32)) hx hb dX3_changeCard_11 (by decide) ?_
    refine lv_bipush (v := (30 : Int32)) hx hb dX3_changeCard_12 (by decide) ?_
    obtain ⟨r14, hC, hF⟩ := k_c1_ex hF
    refine x_NR (As := [.int x2, .int (0 : Int32), .int (30 : Int32)]) (rest := []) ⟨hx, hb, hml, hown, hts⟩ (c_X6_outside l D cyI cyZ N x2 (0 : Int32) (30 : Int32) hC) ⟨va_cnB 3 hts gX3_changeCard_X6_outside_n23 rfl rfl rfl hK.2.1 (hts _ mm_X3_changeCard_2) (by decide +kernel) ⟨Nat.le_of_ble_eq_true rfl, Nat.le_of_ble_eq_true rfl⟩, hts _ mm_X3_changeCard_1, trivial⟩ hK hP hS [] rfl rfl hl.1 rfl (Nat.le_of_ble_eq_true rfl) ⟨Nat.zero_le _, Nat.zero_le _⟩ dX3_changeCard_14 (fun H locs hP hS => ?_)
    refine lv_if_eq (tgt := 23) hx hb dX3_changeCard_17 (by decide) (fun hc => ?_) (fun hc => ?_)
    · have hF := k_if_t hF hc
      refine lv_aload_n hx hb dX3_changeCard_23 rfl (lv_at hl 0 rfl) ?_
      refine lv_iconst (v := (1 : Int32)) hx hb dX3_changeCard_24 (by decide) ?_
      obtain ⟨r25, hC, hF⟩ := k_c1_ex hF
      refine x_VR (As := [.int (1 : Int32)]) (rest := []) ⟨hx, hb, hml, hown, hts⟩ (c_X3_cell l D cyI cyZ aS aC N (1 : Int32) vc hC) (cwV 1 hts gX3_changeCard_X3_cell rfl rfl rfl (by decide +kernel) ⟨Nat.le_of_ble_eq_true rfl, Nat.le_of_ble_eq_true rfl⟩) hK hP hS [0, 1] rfl 0 rfl rfl rfl rfl hl.1 rfl (Nat.le_of_ble_eq_true rfl) ⟨Nat.zero_le _, Nat.zero_le _⟩ dX3_changeCard_25 (fun H locs hP hS => ?_)
      refine lv_istore_n (lv' := [(3, .int r25), (0, .ref aS), (1, .int x1), (2, .int x2)]) hx hb dX3_changeCard_28 rfl hl (by decide) rfl (fun ls hl => ?_)
      refine lv_aload_n hx hb dX3_changeCard_29 rfl (lv_at hl 1 rfl) ?_
      refine lv_iconst (v := (1 : Int32)) hx hb dX3_changeCard_30 (by decide) ?_
      refine lv_iload_n hx hb dX3_changeCard_31 rfl (lv_at hl 2 rfl) ?_
      obtain ⟨vc_32, hC, hF⟩ := k_c1_ex hF
      refine x_VV (As := [.int (1 : Int32), .int x1]) (rest := []) ⟨hx, hb, hml, hown, hts⟩ (c_X3_change l D cyI cyZ aS aC H.size N (1 : Int32) x1 vc hC) (cwV 2 hts gX3_changeCard_X3_change rfl rfl rfl (by decide +kernel) ⟨Nat.le_of_ble_eq_true rfl, Nat.le_of_ble_eq_true rfl⟩) hK hP hD hS hA [0, 1] rfl rfl rfl 0 rfl rfl rfl rfl hl.1 rfl (Nat.le_of_ble_eq_true rfl) ⟨Nat.zero_le _, Nat.zero_le _⟩ dX3_changeCard_32 (fun H locs hP hD hS => ?_)
      have hP : va_P D vwCl [(aS, .inr (3, [.ref aC])), (aC, .inl (cyI, 225, .inl vc_32))] H := hP
      have hD : va_D A [(aS, .inr (3, [.ref aC])), (aC, .inl (cyI, 225, .inl vc_32))] := hD
      refine lv_aload_n hx hb dX3_changeCard_35 rfl (lv_at hl 1 rfl) ?_
      refine lv_iconst (v := (2 : Int32)) hx hb dX3_changeCard_36 (by decide) ?_
      refine lv_iload_n hx hb dX3_changeCard_37 rfl (lv_at hl 3 rfl) ?_
      obtain ⟨vc_38, hC, hF⟩ := k_c1_ex hF
      refine x_VV (As := [.int (2 : Int32), .int x2]) (rest := []) ⟨hx, hb, hml, hown, hts⟩ (c_X3_change l D cyI cyZ aS aC H.size N (2 : Int32) x2 vc_32 hC) (cwV 2 hts gX3_changeCard_X3_change rfl rfl rfl (by decide +kernel) ⟨Nat.le_of_ble_eq_true rfl, Nat.le_of_ble_eq_true rfl⟩) hK hP hD hS hA [0, 1] rfl rfl rfl 0 rfl rfl rfl rfl hl.1 rfl (Nat.le_of_ble_eq_true rfl) ⟨Nat.zero_le _, Nat.zero_le _⟩ dX3_changeCard_38 (fun H locs hP hD hS => ?_)
      have hP : va_P D vwCl [(aS, .inr (3, [.ref aC])), (aC, .inl (cyI, 225, .inl vc_38))] H := hP
      have hD : va_D A [(aS, .inr (3, [.ref aC])), (aC, .inl (cyI, 225, .inl vc_38))] := hD
      refine lv_iload_n hx hb dX3_changeCard_41 rfl (lv_at hl 0 rfl) ?_
      obtain ⟨e0, e1⟩ := k_inj2 hF
      have hP9 : va_P D vwCl [(aS, .inr (3, [.ref aC])), (aC, .inl (cyI, 225, .inl vc'))] H := by rw [← e1]; exact hP
      exact W.iret hx hb hr (fun t ht hW => ⟨⟨_, (), rfl, e0, x_ret hP9 ht⟩, hS.F ht⟩) hS.2.2 dX3_changeCard_42
    · have hF := k_if_f hF hc
      refine lv_bipush (v := (-2 : Int32)) hx hb dX3_changeCard_20 (by decide) ?_
      obtain ⟨e0, e1⟩ := k_inj2 hF
      have hP9 : va_P D vwCl [(aS, .inr (3, [.ref aC])), (aC, .inl (cyI, 225, .inl vc'))] H := by rw [← e1]; exact hP
      exact W.iret hx hb hr (fun t ht hW => ⟨⟨_, (), rfl, e0, x_ret hP9 ht⟩, hS.F ht⟩) hS.2.2 dX3_changeCard_22
set_option maxHeartbeats 4000000 in
set_option maxRecDepth 100000 in
theorem c_X3_setting (l : Launch) (D : va_G) (cyI cyZ : ClassId) (aS aC : Nat) (N : Nat) (x1 : Int32) (vc : (Nat → Int32)) {r0 : Int32}  (hF : p_X3_setting N x1 vc = some (r0)) : Met l yX3_setting wsX3_setting ({ frames := 1, cells := 0, slots := 0, locals := 21 }) (x_PR D cyI cyZ [.ref aS, .int x1] [(aS, .inr (3, [.ref aC])), (aC, .inl (cyI, 225, .inl vc))]) (x_QR r0) 0 0 (fun _ => False) := by
  refine Met.ofW (cc := cX3_setting) (maxL := 2) (ret := (some .int)) (by decide) rfl ?_
  intro p e s m args below meth c s₁ B hml hv
  obtain ⟨rfl, hP, hK⟩ := hv
  have hx := B.exec
  have hb := B.bytes
  have hr := B.returns
  have hts := atoms_spec (ws := wsX3_setting) B.pre
  have hown : s.vm.findClass RX3 = some m.cls := findClass_of_methodNamed B.named
  have hlocks := B.notSynchronized
  have hS : va_S (fun _ => False) s.heap s.heap [] := va_S.rf
  have hP : va_P D vwCl [(aS, .inr (3, [.ref aC])), (aC, .inl (cyI, 225, .inl vc))] s.heap := hP
  have hl := lv_entry ([.ref aS, .int x1]) (n := 2) (Nat.le_of_ble_eq_true rfl)
  rw [lg_entry_eq]
  generalize (lg_sl ([.ref aS, .int x1]) ++ List.replicate (2 - (lg_sl ([.ref aS, .int x1])).length) Slot.unset).toArray = ls at hl ⊢
  have hl : lv_has ls 2 [(0, .ref aS), (1, .int x1)] := hl
  unfold p_X3_setting at hF
  refine lv_aload_n hx hb dX3_setting_0 rfl (lv_at hl 0 rfl) ?_
  refine lv_bipush (v := (6 : Int32)) hx hb dX3_setting_1 (by decide) ?_
  refine lv_iload_n hx hb dX3_setting_3 rfl (lv_at hl 1 rfl) ?_
  refine lv_iadd hx hb dX3_setting_4 ?_
  obtain ⟨r5, hC, hF⟩ := k_c1_ex hF
  refine x_VR (As := [.int ((6 : Int32) + x1)]) (rest := []) ⟨hx, hb, hml, hown, hts⟩ (c_X3_cell l D cyI cyZ aS aC N ((6 : Int32) + x1) vc hC) (cwV 1 hts gX3_setting_X3_cell rfl rfl rfl (by decide +kernel) ⟨Nat.le_of_ble_eq_true rfl, Nat.le_of_ble_eq_true rfl⟩) hK hP hS [0, 1] rfl 0 rfl rfl rfl rfl hl.1 rfl (Nat.le_of_ble_eq_true rfl) ⟨Nat.zero_le _, Nat.zero_le _⟩ dX3_setting_5 (fun H locs hP hS => ?_)
  exact W.iret hx hb hr (fun t ht hW => ⟨⟨_, (), rfl, Option.some.inj hF, trivial⟩, hS.F ht⟩) hS.2.2 dX3_setting_8
theorem mm_X3_changeSetting_1 : Cond.static yX6_outside ∈ wsX3_changeSetting := List.mem_of_getElem? (i := 1) rfl
theorem mm_X3_changeSetting_2 : Cond.initialized RX6 ∈ wsX3_changeSetting := List.mem_of_getElem? (i := 2) rfl
set_option maxHeartbeats 4000000 in
set_option maxRecDepth 100000 in
theorem c_X3_changeSetting (l : Launch) (D : va_G) (cyI cyZ : ClassId) (aS aC : Nat) (sz : Nat) (N : Nat) (x1 : Int32) (x2 : Int32) (vc : (Nat → Int32)) {r0 : Int32} {vc' : (Nat → Int32)} (hF : p_X3_changeSetting N x1 x2 vc = some (r0, vc')) : Met l yX3_changeSetting wsX3_changeSetting ({ frames := 2, cells := 0, slots := 0, locals := 42 }) (x_PM D cyI cyZ [.ref aS, .int x1, .int x2] [(aS, .inr (3, [.ref aC])), (aC, .inl (cyI, 225, .inl vc))] sz) (x_QM D r0 (va_A [(aS, .inr (3, [.ref aC])), (aC, .inl (cyI, 225, .inl vc))] sz) [(aS, .inr (3, [.ref aC])), (aC, .inl (cyI, 225, .inl vc'))]) 0 0 (va_A [(aS, .inr (3, [.ref aC])), (aC, .inl (cyI, 225, .inl vc))] sz) := by
  refine Met.ofW (cc := cX3_changeSetting) (maxL := 5) (ret := (some .int)) (by decide) rfl ?_
  intro p e s m args below meth c s₁ B hml hv
  obtain ⟨rfl, hsz, hP, hK, hD0⟩ := hv
  have hx := B.exec
  have hb := B.bytes
  have hr := B.returns
  have hts := atoms_spec (ws := wsX3_changeSetting) B.pre
  have hown : s.vm.findClass RX3 = some m.cls := findClass_of_methodNamed B.named
  have hlocks := B.notSynchronized
  subst hsz
  have hD := hD0.self (sz := s.heap.size)
  generalize hAe : va_A [(aS, .inr (3, [.ref aC])), (aC, .inl (cyI, 225, .inl vc))] s.heap.size = A at hD ⊢
  have hA : ∀ q : Nat, s.heap.size ≤ q → A q := fun q h => by rw [← hAe]; exact Or.inr h
  have hS : va_S A s.heap s.heap [] := va_S.rf
  have hP : va_P D vwCl [(aS, .inr (3, [.ref aC])), (aC, .inl (cyI, 225, .inl vc))] s.heap := hP
  have hl := lv_entry ([.ref aS, .int x1, .int x2]) (n := 5) (Nat.le_of_ble_eq_true rfl)
  rw [lg_entry_eq]
  generalize (lg_sl ([.ref aS, .int x1, .int x2]) ++ List.replicate (5 - (lg_sl ([.ref aS, .int x1, .int x2])).length) Slot.unset).toArray = ls at hl ⊢
  have hl : lv_has ls 5 [(0, .ref aS), (1, .int x1), (2, .int x2)] := hl
  unfold p_X3_changeSetting at hF
  refine lv_iload_n hx hb dX3_changeSetting_0 rfl (lv_at hl 1 rfl) ?_
  refine lv_iconst (v := (0 : Int32)) hx hb dX3_changeSetting_1 (by decide) ?_
  refine lv_iconst (v := (2 : Int32)) hx hb dX3_changeSetting_2 (by decide) ?_
  obtain ⟨r3, hC, hF⟩ := k_c1_ex hF
  refine x_NR (As := [.int x1, .int (0 : Int32), .int (2 : Int32)]) (rest := []) ⟨hx, hb, hml, hown, hts⟩ (c_X6_outside l D cyI cyZ N x1 (0 : Int32) (2 : Int32) hC) ⟨va_cnB 3 hts gX3_changeSetting_X6_outside_n23 rfl rfl rfl hK.2.1 (hts _ mm_X3_changeSetting_2) (by decide +kernel) ⟨Nat.le_of_ble_eq_true rfl, Nat.le_of_ble_eq_true rfl⟩, hts _ mm_X3_changeSetting_1, trivial⟩ hK hP hS [] rfl rfl hl.1 rfl (Nat.le_of_ble_eq_true rfl) ⟨Nat.zero_le _, Nat.zero_le _⟩ dX3_changeSetting_3 (fun H locs hP hS => ?_)
  refine lv_if_eq (tgt := 12) hx hb dX3_changeSetting_6 (by decide) (fun hc => ?_) (fun hc => ?_)
  · have hF := k_if_t hF hc
    refine lv_iload_n hx hb dX3_changeSetting_12 rfl (lv_at hl 1 rfl) ?_
    refine lv_iconst (v := (2 : Int32)) hx hb dX3_changeSetting_13 (by decide) ?_
    refine lv_icmp_ne (tgt := 27) hx hb dX3_changeSetting_14 (by decide) (fun hc => ?_) (fun hc => ?_)
    · have hF := k_if_f hF hc
      refine lv_iload_n hx hb dX3_changeSetting_27 rfl (lv_at hl 2 rfl) ?_
      refine lv_iconst (v := (0 : Int32)) hx hb dX3_changeSetting_28 (by decide) ?_
      refine lv_bipush (v := (30 : Int32)) hx hb dX3_changeSetting_29 (by decide) ?_
      obtain ⟨r31, hC, hF⟩ := k_c1_ex hF
      refine x_NR (As := [.int x2, .int (0 : Int32), .int (30 : Int32)]) (rest := []) ⟨hx, hb, hml, hown, hts⟩ (c_X6_outside l D cyI cyZ N x2 (0 : Int32) (30 : Int32) hC) ⟨va_cnB 3 hts gX3_changeSetting_X6_outside_n23 rfl rfl rfl hK.2.1 (hts _ mm_X3_changeSetting_2) (by decide +kernel) ⟨Nat.le_of_ble_eq_true rfl, Nat.le_of_ble_eq_true rfl⟩, hts _ mm_X3_changeSetting_1, trivial⟩ hK hP hS [] rfl rfl hl.1 rfl (Nat.le_of_ble_eq_true rfl) ⟨Nat.zero_le _, Nat.zero_le _⟩ dX3_changeSetting_31 (fun H locs hP hS => ?_)
      refine lv_istore_n (lv' := [(3, .int r31), (0, .ref aS), (1, .int x1), (2, .int x2)]) hx hb dX3_changeSetting_34 rfl hl (by decide) rfl (fun ls hl => ?_)
      refine lv_iload_n hx hb dX3_changeSetting_35 rfl (lv_at hl 0 rfl) ?_
      refine lv_if_eq (tgt := 42) hx hb dX3_changeSetting_36 (by decide) (fun hc => ?_) (fun hc => ?_)
      · have hF := k_if_t hF hc
        refine lv_aload_n hx hb dX3_changeSetting_42 rfl (lv_at hl 1 rfl) ?_
        refine lv_iload_n hx hb dX3_changeSetting_43 rfl (lv_at hl 2 rfl) ?_
        obtain ⟨r44, hC, hF⟩ := k_c1_ex hF
        refine x_VR (As := [.int x1]) (rest := []) ⟨hx, hb, hml, hown, hts⟩ (c_X3_setting l D cyI cyZ aS aC N x1 vc hC) (cwV 1 hts gX3_changeSetting_X3_setting rfl rfl rfl (by decide +kernel) ⟨Nat.le_of_ble_eq_true rfl, Nat.le_of_ble_eq_true rfl⟩) hK hP hS [0, 1] rfl 0 rfl rfl rfl rfl hl.1 rfl (Nat.le_of_ble_eq_true rfl) ⟨Nat.zero_le _, Nat.zero_le _⟩ dX3_changeSetting_44 (fun H locs hP hS => ?_)
        refine lv_istore (lv' := [(4, .int r44), (3, .int r31), (0, .ref aS), (1, .int x1), (2, .int x2)]) hx hb dX3_changeSetting_47 hl (by decide) rfl (fun ls hl => ?_)
        refine lv_aload_n hx hb dX3_changeSetting_49 rfl (lv_at hl 2 rfl) ?_
        refine lv_bipush (v := (6 : Int32)) hx hb dX3_changeSetting_50 (by decide) ?_
        refine lv_iload_n hx hb dX3_changeSetting_52 rfl (lv_at hl 3 rfl) ?_
        refine lv_iadd hx hb dX3_changeSetting_53 ?_
        refine lv_iload_n hx hb dX3_changeSetting_54 rfl (lv_at hl 4 rfl) ?_
        obtain ⟨vc_55, hC, hF⟩ := k_c1_ex hF
        refine x_VV (As := [.int ((6 : Int32) + x1), .int x2]) (rest := []) ⟨hx, hb, hml, hown, hts⟩ (c_X3_change l D cyI cyZ aS aC H.size N ((6 : Int32) + x1) x2 vc hC) (cwV 2 hts gX3_changeSetting_X3_change rfl rfl rfl (by decide +kernel) ⟨Nat.le_of_ble_eq_true rfl, Nat.le_of_ble_eq_true rfl⟩) hK hP hD hS hA [0, 1] rfl rfl rfl 0 rfl rfl rfl rfl hl.1 rfl (Nat.le_of_ble_eq_true rfl) ⟨Nat.zero_le _, Nat.zero_le _⟩ dX3_changeSetting_55 (fun H locs hP hD hS => ?_)
        have hP : va_P D vwCl [(aS, .inr (3, [.ref aC])), (aC, .inl (cyI, 225, .inl vc_55))] H := hP
        have hD : va_D A [(aS, .inr (3, [.ref aC])), (aC, .inl (cyI, 225, .inl vc_55))] := hD
        refine lv_iload hx hb dX3_changeSetting_58 (lv_at hl 0 rfl) ?_
        obtain ⟨e0, e1⟩ := k_inj2 hF
        have hP9 : va_P D vwCl [(aS, .inr (3, [.ref aC])), (aC, .inl (cyI, 225, .inl vc'))] H := by rw [← e1]; exact hP
        exact W.iret hx hb hr (fun t ht hW => ⟨⟨_, (), rfl, e0, x_ret hP9 ht⟩, hS.F ht⟩) hS.2.2 dX3_changeSetting_60
      · have hF := k_if_f hF hc
        refine lv_bipush (v := (-2 : Int32)) hx hb dX3_changeSetting_39 (by decide) ?_
        obtain ⟨e0, e1⟩ := k_inj2 hF
        have hP9 : va_P D vwCl [(aS, .inr (3, [.ref aC])), (aC, .inl (cyI, 225, .inl vc'))] H := by rw [← e1]; exact hP
        exact W.iret hx hb hr (fun t ht hW => ⟨⟨_, (), rfl, e0, x_ret hP9 ht⟩, hS.F ht⟩) hS.2.2 dX3_changeSetting_41
    · have hF := k_if_t hF hc
      refine lv_iload_n hx hb dX3_changeSetting_17 rfl (lv_at hl 2 rfl) ?_
      refine lv_iconst (v := (1 : Int32)) hx hb dX3_changeSetting_18 (by decide) ?_
      refine lv_bipush (v := (99 : Int32)) hx hb dX3_changeSetting_19 (by decide) ?_
      obtain ⟨r21, hC, hF⟩ := k_c1_ex hF
      refine x_NR (As := [.int x2, .int (1 : Int32), .int (99 : Int32)]) (rest := []) ⟨hx, hb, hml, hown, hts⟩ (c_X6_outside l D cyI cyZ N x2 (1 : Int32) (99 : Int32) hC) ⟨va_cnB 3 hts gX3_changeSetting_X6_outside_n23 rfl rfl rfl hK.2.1 (hts _ mm_X3_changeSetting_2) (by decide +kernel) ⟨Nat.le_of_ble_eq_true rfl, Nat.le_of_ble_eq_true rfl⟩, hts _ mm_X3_changeSetting_1, trivial⟩ hK hP hS [] rfl rfl hl.1 rfl (Nat.le_of_ble_eq_true rfl) ⟨Nat.zero_le _, Nat.zero_le _⟩ dX3_changeSetting_21 (fun H locs hP hS => ?_)
      refine lv_goto (tgt := 34) hx hb dX3_changeSetting_24 (by decide) ?_
      refine lv_istore_n (lv' := [(3, .int r21), (0, .ref aS), (1, .int x1), (2, .int x2)]) hx hb dX3_changeSetting_34 rfl hl (by decide) rfl (fun ls hl => ?_)
      refine lv_iload_n hx hb dX3_changeSetting_35 rfl (lv_at hl 0 rfl) ?_
      refine lv_if_eq (tgt := 42) hx hb dX3_changeSetting_36 (by decide) (fun hc => ?_) (fun hc => ?_)
      · have hF := k_if_t hF hc
        refine lv_aload_n hx hb dX3_changeSetting_42 rfl (lv_at hl 1 rfl) ?_
        refine lv_iload_n hx hb dX3_changeSetting_43 rfl (lv_at hl 2 rfl) ?_
        obtain ⟨r44, hC, hF⟩ := k_c1_ex hF
        refine x_VR (As := [.int x1]) (rest := []) ⟨hx, hb, hml, hown, hts⟩ (c_X3_setting l D cyI cyZ aS aC N x1 vc hC) (cwV 1 hts gX3_changeSetting_X3_setting rfl rfl rfl (by decide +kernel) ⟨Nat.le_of_ble_eq_true rfl, Nat.le_of_ble_eq_true rfl⟩) hK hP hS [0, 1] rfl 0 rfl rfl rfl rfl hl.1 rfl (Nat.le_of_ble_eq_true rfl) ⟨Nat.zero_le _, Nat.zero_le _⟩ dX3_changeSetting_44 (fun H locs hP hS => ?_)
        refine lv_istore (lv' := [(4, .int r44), (3, .int r21), (0, .ref aS), (1, .int x1), (2, .int x2)]) hx hb dX3_changeSetting_47 hl (by decide) rfl (fun ls hl => ?_)
        refine lv_aload_n hx hb dX3_changeSetting_49 rfl (lv_at hl 2 rfl) ?_
        refine lv_bipush (v := (6 : Int32)) hx hb dX3_changeSetting_50 (by decide) ?_
        refine lv_iload_n hx hb dX3_changeSetting_52 rfl (lv_at hl 3 rfl) ?_
        refine lv_iadd hx hb dX3_changeSetting_53 ?_
        refine lv_iload_n hx hb dX3_changeSetting_54 rfl (lv_at hl 4 rfl) ?_
        obtain ⟨vc_55, hC, hF⟩ := k_c1_ex hF
        refine x_VV (As := [.int ((6 : Int32) + x1), .int x2]) (rest := []) ⟨hx, hb, hml, hown, hts⟩ (c_X3_change l D cyI cyZ aS aC H.size N ((6 : Int32) + x1) x2 vc hC) (cwV 2 hts gX3_changeSetting_X3_change rfl rfl rfl (by decide +kernel) ⟨Nat.le_of_ble_eq_true rfl, Nat.le_of_ble_eq_true rfl⟩) hK hP hD hS hA [0, 1] rfl rfl rfl 0 rfl rfl rfl rfl hl.1 rfl (Nat.le_of_ble_eq_true rfl) ⟨Nat.zero_le _, Nat.zero_le _⟩ dX3_changeSetting_55 (fun H locs hP hD hS => ?_)
        have hP : va_P D vwCl [(aS, .inr (3, [.ref aC])), (aC, .inl (cyI, 225, .inl vc_55))] H := hP
        have hD : va_D A [(aS, .inr (3, [.ref aC])), (aC, .inl (cyI, 225, .inl vc_55))] := hD
        refine lv_iload hx hb dX3_changeSetting_58 (lv_at hl 0 rfl) ?_
        obtain ⟨e0, e1⟩ := k_inj2 hF
        have hP9 : va_P D vwCl [(aS, .inr (3, [.ref aC])), (aC, .inl (cyI, 225, .inl vc'))] H := by rw [← e1]; exact hP
        exact W.iret hx hb hr (fun t ht hW => ⟨⟨_, (), rfl, e0, x_ret hP9 ht⟩, hS.F ht⟩) hS.2.2 dX3_changeSetting_60
      · have hF := k_if_f hF hc
        refine lv_bipush (v := (-2 : Int32)) hx hb dX3_changeSetting_39 (by decide) ?_
        obtain ⟨e0, e1⟩ := k_inj2 hF
        have hP9 : va_P D vwCl [(aS, .inr (3, [.ref aC])), (aC, .inl (cyI, 225, .inl vc'))] H := by rw [← e1]; exact hP
        exact W.iret hx hb hr (fun t ht hW => ⟨⟨_, (), rfl, e0, x_ret hP9 ht⟩, hS.F ht⟩) hS.2.2 dX3_changeSetting_41
  · have hF := k_if_f hF hc
    refine lv_bipush (v := (-2 : Int32)) hx hb dX3_changeSetting_9 (by decide) ?_
    obtain ⟨e0, e1⟩ := k_inj2 hF
    have hP9 : va_P D vwCl [(aS, .inr (3, [.ref aC])), (aC, .inl (cyI, 225, .inl vc'))] H := by rw [← e1]; exact hP
    exact W.iret hx hb hr (fun t ht hW => ⟨⟨_, (), rfl, e0, x_ret hP9 ht⟩, hS.F ht⟩) hS.2.2 dX3_changeSetting_11
set_option maxHeartbeats 4000000 in
set_option maxRecDepth 100000 in
theorem c_X3_countRun (l : Launch) (D : va_G) (cyI cyZ : ClassId) (aS aC : Nat) (sz : Nat) (N : Nat) (x1 : Int32) (x2 : Int32) (x3 : Int32) (vc : (Nat → Int32)) {vc' : (Nat → Int32)} (hF : p_X3_countRun N x1 x2 x3 vc = some (vc')) : Met l yX3_countRun wsX3_countRun ({ frames := 2, cells := 0, slots := 0, locals := 44 }) (x_PM D cyI cyZ [.ref aS, .int x1, .int x2, .int x3] [(aS, .inr (3, [.ref aC])), (aC, .inl (cyI, 225, .inl vc))] sz) (x_QV D (va_A [(aS, .inr (3, [.ref aC])), (aC, .inl (cyI, 225, .inl vc))] sz) [(aS, .inr (3, [.ref aC])), (aC, .inl (cyI, 225, .inl vc'))]) 0 0 (va_A [(aS, .inr (3, [.ref aC])), (aC, .inl (cyI, 225, .inl vc))] sz) := by
  refine Met.ofW (cc := cX3_countRun) (maxL := 4) (ret := none) (by decide) rfl ?_
  intro p e s m args below meth c s₁ B hml hv
  obtain ⟨rfl, hsz, hP, hK, hD0⟩ := hv
  have hx := B.exec
  have hb := B.bytes
  have hr := B.returns
  have hts := atoms_spec (ws := wsX3_countRun) B.pre
  have hown : s.vm.findClass RX3 = some m.cls := findClass_of_methodNamed B.named
  have hlocks := B.notSynchronized
  subst hsz
  have hD := hD0.self (sz := s.heap.size)
  generalize hAe : va_A [(aS, .inr (3, [.ref aC])), (aC, .inl (cyI, 225, .inl vc))] s.heap.size = A at hD ⊢
  have hA : ∀ q : Nat, s.heap.size ≤ q → A q := fun q h => by rw [← hAe]; exact Or.inr h
  have hS : va_S A s.heap s.heap [] := va_S.rf
  have hP : va_P D vwCl [(aS, .inr (3, [.ref aC])), (aC, .inl (cyI, 225, .inl vc))] s.heap := hP
  have hl := lv_entry ([.ref aS, .int x1, .int x2, .int x3]) (n := 4) (Nat.le_of_ble_eq_true rfl)
  rw [lg_entry_eq]
  generalize (lg_sl ([.ref aS, .int x1, .int x2, .int x3]) ++ List.replicate (4 - (lg_sl ([.ref aS, .int x1, .int x2, .int x3])).length) Slot.unset).toArray = ls at hl ⊢
  have hl : lv_has ls 4 [(0, .ref aS), (1, .int x1), (2, .int x2), (3, .int x3)] := hl
  unfold p_X3_countRun at hF
  refine lv_aload_n hx hb dX3_countRun_0 rfl (lv_at hl 0 rfl) ?_
  refine lv_iconst (v := (3 : Int32)) hx hb dX3_countRun_1 (by decide) ?_
  refine lv_iload_n hx hb dX3_countRun_2 rfl (lv_at hl 1 rfl) ?_
  obtain ⟨vc_3, hC, hF⟩ := k_c1_ex hF
  refine x_VV (As := [.int (3 : Int32), .int x1]) (rest := []) ⟨hx, hb, hml, hown, hts⟩ (c_X3_raise l D cyI cyZ aS aC s.heap.size N (3 : Int32) x1 vc hC) (cwV 2 hts gX3_countRun_X3_raise rfl rfl rfl (by decide +kernel) ⟨Nat.le_of_ble_eq_true rfl, Nat.le_of_ble_eq_true rfl⟩) hK hP hD hS hA [0, 1] rfl rfl rfl 0 rfl rfl rfl rfl hl.1 rfl (Nat.le_of_ble_eq_true rfl) ⟨Nat.zero_le _, Nat.zero_le _⟩ dX3_countRun_3 (fun H locs hP hD hS => ?_)
  have hP : va_P D vwCl [(aS, .inr (3, [.ref aC])), (aC, .inl (cyI, 225, .inl vc_3))] H := hP
  have hD : va_D A [(aS, .inr (3, [.ref aC])), (aC, .inl (cyI, 225, .inl vc_3))] := hD
  refine lv_aload_n hx hb dX3_countRun_6 rfl (lv_at hl 0 rfl) ?_
  refine lv_iconst (v := (4 : Int32)) hx hb dX3_countRun_7 (by decide) ?_
  refine lv_iload_n hx hb dX3_countRun_8 rfl (lv_at hl 2 rfl) ?_
  obtain ⟨vc_9, hC, hF⟩ := k_c1_ex hF
  refine x_VV (As := [.int (4 : Int32), .int x2]) (rest := []) ⟨hx, hb, hml, hown, hts⟩ (c_X3_raise l D cyI cyZ aS aC H.size N (4 : Int32) x2 vc_3 hC) (cwV 2 hts gX3_countRun_X3_raise rfl rfl rfl (by decide +kernel) ⟨Nat.le_of_ble_eq_true rfl, Nat.le_of_ble_eq_true rfl⟩) hK hP hD hS hA [0, 1] rfl rfl rfl 0 rfl rfl rfl rfl hl.1 rfl (Nat.le_of_ble_eq_true rfl) ⟨Nat.zero_le _, Nat.zero_le _⟩ dX3_countRun_9 (fun H locs hP hD hS => ?_)
  have hP : va_P D vwCl [(aS, .inr (3, [.ref aC])), (aC, .inl (cyI, 225, .inl vc_9))] H := hP
  have hD : va_D A [(aS, .inr (3, [.ref aC])), (aC, .inl (cyI, 225, .inl vc_9))] := hD
  refine lv_aload_n hx hb dX3_countRun_12 rfl (lv_at hl 0 rfl) ?_
  refine lv_iconst (v := (5 : Int32)) hx hb dX3_countRun_13 (by decide) ?_
  refine lv_iload_n hx hb dX3_countRun_14 rfl (lv_at hl 3 rfl) ?_
  obtain ⟨vc_15, hC, hF⟩ := k_c1_ex hF
  refine x_VV (As := [.int (5 : Int32), .int x3]) (rest := []) ⟨hx, hb, hml, hown, hts⟩ (c_X3_raise l D cyI cyZ aS aC H.size N (5 : Int32) x3 vc_9 hC) (cwV 2 hts gX3_countRun_X3_raise rfl rfl rfl (by decide +kernel) ⟨Nat.le_of_ble_eq_true rfl, Nat.le_of_ble_eq_true rfl⟩) hK hP hD hS hA [0, 1] rfl rfl rfl 0 rfl rfl rfl rfl hl.1 rfl (Nat.le_of_ble_eq_true rfl) ⟨Nat.zero_le _, Nat.zero_le _⟩ dX3_countRun_15 (fun H locs hP hD hS => ?_)
  have hP : va_P D vwCl [(aS, .inr (3, [.ref aC])), (aC, .inl (cyI, 225, .inl vc_15))] H := hP
  have hD : va_D A [(aS, .inr (3, [.ref aC])), (aC, .inl (cyI, 225, .inl vc_15))] := hD
  have e0 := k_inj1 hF
  have hP9 : va_P D vwCl [(aS, .inr (3, [.ref aC])), (aC, .inl (cyI, 225, .inl vc'))] H := by rw [← e0]; exact hP
  exact W.vret hx hb hr (fun t ht hW => ⟨⟨(), rfl, trivial, x_ret hP9 ht⟩, hS.F ht⟩) hS.2.2 dX3_countRun_18
set_option maxHeartbeats 4000000 in
set_option maxRecDepth 100000 in
theorem c_X3_wearDown (l : Launch) (D : va_G) (cyI cyZ : ClassId) (aS aC : Nat) (sz : Nat) (N : Nat) (x1 : Int32) (vc : (Nat → Int32)) {vc' : (Nat → Int32)} (hF : p_X3_wearDown N x1 vc = some (vc')) : Met l yX3_wearDown wsX3_wearDown ({ frames := 2, cells := 0, slots := 0, locals := 45 }) (x_PM D cyI cyZ [.ref aS, .int x1] [(aS, .inr (3, [.ref aC])), (aC, .inl (cyI, 225, .inl vc))] sz) (x_QV D (va_A [(aS, .inr (3, [.ref aC])), (aC, .inl (cyI, 225, .inl vc))] sz) [(aS, .inr (3, [.ref aC])), (aC, .inl (cyI, 225, .inl vc'))]) 0 0 (va_A [(aS, .inr (3, [.ref aC])), (aC, .inl (cyI, 225, .inl vc))] sz) := by
  refine Met.ofW (cc := cX3_wearDown) (maxL := 5) (ret := none) (by decide) rfl ?_
  intro p e s m args below meth c s₁ B hml hv
  obtain ⟨rfl, hsz, hP, hK, hD0⟩ := hv
  have hx := B.exec
  have hb := B.bytes
  have hr := B.returns
  have hts := atoms_spec (ws := wsX3_wearDown) B.pre
  have hown : s.vm.findClass RX3 = some m.cls := findClass_of_methodNamed B.named
  have hlocks := B.notSynchronized
  subst hsz
  have hD := hD0.self (sz := s.heap.size)
  generalize hAe : va_A [(aS, .inr (3, [.ref aC])), (aC, .inl (cyI, 225, .inl vc))] s.heap.size = A at hD ⊢
  have hA : ∀ q : Nat, s.heap.size ≤ q → A q := fun q h => by rw [← hAe]; exact Or.inr h
  have hS : va_S A s.heap s.heap [] := va_S.rf
  have hP : va_P D vwCl [(aS, .inr (3, [.ref aC])), (aC, .inl (cyI, 225, .inl vc))] s.heap := hP
  have hl := lv_entry ([.ref aS, .int x1]) (n := 5) (Nat.le_of_ble_eq_true rfl)
  rw [lg_entry_eq]
  generalize (lg_sl ([.ref aS, .int x1]) ++ List.replicate (5 - (lg_sl ([.ref aS, .int x1])).length) Slot.unset).toArray = ls at hl ⊢
  have hl : lv_has ls 5 [(0, .ref aS), (1, .int x1)] := hl
  refine x_gen (fun G hG => ?_)
  have blk_8 : ∀ (n_8 : Nat) (x1 : Int32) (x2 : Int32) (x3 : Int32) (vc : (Nat → Int32)), f_X3_wearDown_8 N n_8 x1 x2 x3 vc = some (vc') → ∀ (H : Heap) (locs : List Loc) (ls : Array Slot), va_P D vwCl [(aS, .inr (3, [.ref aC])), (aC, .inl (cyI, 225, .inl vc))] H → va_D A [(aS, .inr (3, [.ref aC])), (aC, .inl (cyI, 225, .inl vc))] → va_S A s.heap H locs → lv_has ls 5 [(0, .ref aS), (1, .int x1), (2, .int x2), (3, .int x3)] → G H locs (F0 m 8 ls []) := by
    intro n_8
    induction n_8 with
    | zero => intro x1 x2 x3 vc hF; exact (k_none hF).elim
    | succ n_8 ih_8 =>
      intro x1 x2 x3 vc hF H locs ls hP hD hS hl
      replace hF : b_X3_wearDown_8 N (f_X3_wearDown_8 N n_8) x1 x2 x3 vc = some (vc') := hF
      unfold b_X3_wearDown_8 at hF
      refine (hG _ _ _).2 ?_
      refine lv_iload_n hx hb dX3_wearDown_8 rfl (lv_at hl 3 rfl) ?_
      refine lv_iload_n hx hb dX3_wearDown_9 rfl (lv_at hl 2 rfl) ?_
      refine lv_icmp_ge (tgt := 42) hx hb dX3_wearDown_10 (by decide) (fun hc => ?_) (fun hc => ?_)
      · have hF := k_if_t hF hc
        refine lv_aload_n hx hb dX3_wearDown_42 rfl (lv_at hl 0 rfl) ?_
        refine lv_iload_n hx hb dX3_wearDown_43 rfl (lv_at hl 1 rfl) ?_
        obtain ⟨r44, hC, hF⟩ := k_c1_ex hF
        refine x_SR (As := [.int x1]) (rest := [.ref aS]) ⟨hx, hb, hml, hown, hts⟩ (c_X3_placeOf l D cyI cyZ N x1 hC) (va_cwS 1 hts gX3_wearDown_X3_placeOf rfl rfl rfl (by decide +kernel) ⟨Nat.le_of_ble_eq_true rfl, Nat.le_of_ble_eq_true rfl⟩) hK hP hS [] rfl rfl hl.1 rfl (Nat.le_of_ble_eq_true rfl) ⟨Nat.zero_le _, Nat.zero_le _⟩ dX3_wearDown_44 (fun H locs hP hS => ?_)
        refine lv_iconst (v := (1 : Int32)) hx hb dX3_wearDown_47 (by decide) ?_
        refine lv_iadd hx hb dX3_wearDown_48 ?_
        refine lv_iconst (v := (0 : Int32)) hx hb dX3_wearDown_49 (by decide) ?_
        obtain ⟨vc_50, hC, hF⟩ := k_c1_ex hF
        refine x_VV (As := [.int (r44 + (1 : Int32)), .int (0 : Int32)]) (rest := []) ⟨hx, hb, hml, hown, hts⟩ (c_X3_change l D cyI cyZ aS aC H.size N (r44 + (1 : Int32)) (0 : Int32) vc hC) (cwV 2 hts gX3_wearDown_X3_change rfl rfl rfl (by decide +kernel) ⟨Nat.le_of_ble_eq_true rfl, Nat.le_of_ble_eq_true rfl⟩) hK hP hD hS hA [0, 1] rfl rfl rfl 0 rfl rfl rfl rfl hl.1 rfl (Nat.le_of_ble_eq_true rfl) ⟨Nat.zero_le _, Nat.zero_le _⟩ dX3_wearDown_50 (fun H locs hP hD hS => ?_)
        have hP : va_P D vwCl [(aS, .inr (3, [.ref aC])), (aC, .inl (cyI, 225, .inl vc_50))] H := hP
        have hD : va_D A [(aS, .inr (3, [.ref aC])), (aC, .inl (cyI, 225, .inl vc_50))] := hD
        refine lv_aload_n hx hb dX3_wearDown_53 rfl (lv_at hl 0 rfl) ?_
        refine lv_iload_n hx hb dX3_wearDown_54 rfl (lv_at hl 1 rfl) ?_
        obtain ⟨r55, hC, hF⟩ := k_c1_ex hF
        refine x_SR (As := [.int x1]) (rest := [.ref aS]) ⟨hx, hb, hml, hown, hts⟩ (c_X3_placeOf l D cyI cyZ N x1 hC) (va_cwS 1 hts gX3_wearDown_X3_placeOf rfl rfl rfl (by decide +kernel) ⟨Nat.le_of_ble_eq_true rfl, Nat.le_of_ble_eq_true rfl⟩) hK hP hS [] rfl rfl hl.1 rfl (Nat.le_of_ble_eq_true rfl) ⟨Nat.zero_le _, Nat.zero_le _⟩ dX3_wearDown_55 (fun H locs hP hS => ?_)
        refine lv_iconst (v := (2 : Int32)) hx hb dX3_wearDown_58 (by decide) ?_
        refine lv_iadd hx hb dX3_wearDown_59 ?_
        refine lv_iconst (v := (1 : Int32)) hx hb dX3_wearDown_60 (by decide) ?_
        obtain ⟨vc_61, hC, hF⟩ := k_c1_ex hF
        refine x_VV (As := [.int (r55 + (2 : Int32)), .int (1 : Int32)]) (rest := []) ⟨hx, hb, hml, hown, hts⟩ (c_X3_raise l D cyI cyZ aS aC H.size N (r55 + (2 : Int32)) (1 : Int32) vc_50 hC) (cwV 2 hts gX3_wearDown_X3_raise rfl rfl rfl (by decide +kernel) ⟨Nat.le_of_ble_eq_true rfl, Nat.le_of_ble_eq_true rfl⟩) hK hP hD hS hA [0, 1] rfl rfl rfl 0 rfl rfl rfl rfl hl.1 rfl (Nat.le_of_ble_eq_true rfl) ⟨Nat.zero_le _, Nat.zero_le _⟩ dX3_wearDown_61 (fun H locs hP hD hS => ?_)
        have hP : va_P D vwCl [(aS, .inr (3, [.ref aC])), (aC, .inl (cyI, 225, .inl vc_61))] H := hP
        have hD : va_D A [(aS, .inr (3, [.ref aC])), (aC, .inl (cyI, 225, .inl vc_61))] := hD
        have e0 := k_inj1 hF
        have hP9 : va_P D vwCl [(aS, .inr (3, [.ref aC])), (aC, .inl (cyI, 225, .inl vc'))] H := by rw [← e0]; exact hP
        exact W.vret hx hb hr (fun t ht hW => ⟨⟨(), rfl, trivial, x_ret hP9 ht⟩, hS.F ht⟩) hS.2.2 dX3_wearDown_64
      · have hF := k_if_f hF hc
        refine lv_aload_n hx hb dX3_wearDown_13 rfl (lv_at hl 0 rfl) ?_
        refine lv_iload_n hx hb dX3_wearDown_14 rfl (lv_at hl 1 rfl) ?_
        refine lv_iload_n hx hb dX3_wearDown_15 rfl (lv_at hl 3 rfl) ?_
        obtain ⟨r16, hC, hF⟩ := k_c1_ex hF
        refine x_VR (As := [.int x1, .int x3]) (rest := []) ⟨hx, hb, hml, hown, hts⟩ (c_X3_height l D cyI cyZ aS aC N x1 x3 vc hC) (cwV 2 hts gX3_wearDown_X3_height rfl rfl rfl (by decide +kernel) ⟨Nat.le_of_ble_eq_true rfl, Nat.le_of_ble_eq_true rfl⟩) hK hP hS [0, 1] rfl 0 rfl rfl rfl rfl hl.1 rfl (Nat.le_of_ble_eq_true rfl) ⟨Nat.zero_le _, Nat.zero_le _⟩ dX3_wearDown_16 (fun H locs hP hS => ?_)
        refine lv_istore (lv' := [(4, .int r16), (0, .ref aS), (1, .int x1), (2, .int x2), (3, .int x3)]) hx hb dX3_wearDown_19 hl (by decide) rfl (fun ls hl => ?_)
        refine lv_iload hx hb dX3_wearDown_21 (lv_at hl 0 rfl) ?_
        refine lv_if_le (tgt := 36) hx hb dX3_wearDown_23 (by decide) (fun hc => ?_) (fun hc => ?_)
        · have hF := k_if_t hF hc
          obtain ⟨x3_36, hn, hF⟩ := k_let_ex hF
          refine lv_iinc (v := x3_36) (lv' := [(3, .int x3_36), (4, .int r16), (0, .ref aS), (1, .int x1), (2, .int x2)]) hx hb dX3_wearDown_36 hl (k := 4) rfl (by rw [hn]; rfl) (by decide) rfl (fun ls hl => ?_)
          refine lv_goto (tgt := 8) hx hb dX3_wearDown_39 (by decide) ?_
          exact (hG _ _ _).1 (ih_8 x1 x2 x3_36 vc hF _ _ _ hP hD hS (lv_sub hl [2, 3, 4, 0] rfl))
        · have hF := k_if_f hF hc
          refine lv_aload_n hx hb dX3_wearDown_26 rfl (lv_at hl 1 rfl) ?_
          refine lv_iload_n hx hb dX3_wearDown_27 rfl (lv_at hl 2 rfl) ?_
          refine lv_iload_n hx hb dX3_wearDown_28 rfl (lv_at hl 4 rfl) ?_
          refine lv_iload hx hb dX3_wearDown_29 (lv_at hl 0 rfl) ?_
          refine lv_iconst (v := (1 : Int32)) hx hb dX3_wearDown_31 (by decide) ?_
          refine lv_isub hx hb dX3_wearDown_32 ?_
          obtain ⟨vc_33, hC, hF⟩ := k_c1_ex hF
          refine x_VV (As := [.int x1, .int x3, .int (r16 - (1 : Int32))]) (rest := []) ⟨hx, hb, hml, hown, hts⟩ (c_X3_shape l D cyI cyZ aS aC H.size N x1 x3 (r16 - (1 : Int32)) vc hC) (cwV 3 hts gX3_wearDown_X3_shape rfl rfl rfl (by decide +kernel) ⟨Nat.le_of_ble_eq_true rfl, Nat.le_of_ble_eq_true rfl⟩) hK hP hD hS hA [0, 1] rfl rfl rfl 0 rfl rfl rfl rfl hl.1 rfl (Nat.le_of_ble_eq_true rfl) ⟨Nat.zero_le _, Nat.zero_le _⟩ dX3_wearDown_33 (fun H locs hP hD hS => ?_)
          have hP : va_P D vwCl [(aS, .inr (3, [.ref aC])), (aC, .inl (cyI, 225, .inl vc_33))] H := hP
          have hD : va_D A [(aS, .inr (3, [.ref aC])), (aC, .inl (cyI, 225, .inl vc_33))] := hD
          obtain ⟨x3_36, hn, hF⟩ := k_let_ex hF
          refine lv_iinc (v := x3_36) (lv' := [(3, .int x3_36), (4, .int r16), (0, .ref aS), (1, .int x1), (2, .int x2)]) hx hb dX3_wearDown_36 hl (k := 4) rfl (by rw [hn]; rfl) (by decide) rfl (fun ls hl => ?_)
          refine lv_goto (tgt := 8) hx hb dX3_wearDown_39 (by decide) ?_
          exact (hG _ _ _).1 (ih_8 x1 x2 x3_36 vc_33 hF _ _ _ hP hD hS (lv_sub hl [2, 3, 4, 0] rfl))
  refine (hG _ _ _).2 ?_
  unfold p_X3_wearDown at hF
  refine lv_aload_n hx hb dX3_wearDown_0 rfl (lv_at hl 0 rfl) ?_
  refine lv_iload_n hx hb dX3_wearDown_1 rfl (lv_at hl 1 rfl) ?_
  obtain ⟨r2, hC, hF⟩ := k_c1_ex hF
  refine x_VR (As := [.int x1]) (rest := []) ⟨hx, hb, hml, hown, hts⟩ (c_X3_teeth l D cyI cyZ aS aC N x1 vc hC) (cwV 1 hts gX3_wearDown_X3_teeth rfl rfl rfl (by decide +kernel) ⟨Nat.le_of_ble_eq_true rfl, Nat.le_of_ble_eq_true rfl⟩) hK hP hS [0, 1] rfl 0 rfl rfl rfl rfl hl.1 rfl (Nat.le_of_ble_eq_true rfl) ⟨Nat.zero_le _, Nat.zero_le _⟩ dX3_wearDown_2 (fun H locs hP hS => ?_)
  refine lv_istore_n (lv' := [(2, .int r2), (0, .ref aS), (1, .int x1)]) hx hb dX3_wearDown_5 rfl hl (by decide) rfl (fun ls hl => ?_)
  refine lv_iconst (v := (0 : Int32)) hx hb dX3_wearDown_6 (by decide) ?_
  refine lv_istore_n (lv' := [(3, .int (0 : Int32)), (2, .int r2), (0, .ref aS), (1, .int x1)]) hx hb dX3_wearDown_7 rfl hl (by decide) rfl (fun ls hl => ?_)
  exact (hG _ _ _).1 (blk_8 N x1 r2 (0 : Int32) vc hF _ _ _ hP hD hS (lv_sub hl [2, 3, 1, 0] rfl))
set_option maxHeartbeats 4000000 in
set_option maxRecDepth 100000 in
theorem c_X3_turnRoller (l : Launch) (D : va_G) (cyI cyZ : ClassId) (aS aC : Nat) (sz : Nat) (N : Nat) (x1 : Int32) (x2 : Int32) (vc : (Nat → Int32)) {vc' : (Nat → Int32)} (hF : p_X3_turnRoller N x1 x2 vc = some (vc')) : Met l yX3_turnRoller wsX3_turnRoller ({ frames := 3, cells := 0, slots := 0, locals := 69 }) (x_PM D cyI cyZ [.ref aS, .int x1, .int x2] [(aS, .inr (3, [.ref aC])), (aC, .inl (cyI, 225, .inl vc))] sz) (x_QV D (va_A [(aS, .inr (3, [.ref aC])), (aC, .inl (cyI, 225, .inl vc))] sz) [(aS, .inr (3, [.ref aC])), (aC, .inl (cyI, 225, .inl vc'))]) 0 0 (va_A [(aS, .inr (3, [.ref aC])), (aC, .inl (cyI, 225, .inl vc))] sz) := by
  refine Met.ofW (cc := cX3_turnRoller) (maxL := 3) (ret := none) (by decide) rfl ?_
  intro p e s m args below meth c s₁ B hml hv
  obtain ⟨rfl, hsz, hP, hK, hD0⟩ := hv
  have hx := B.exec
  have hb := B.bytes
  have hr := B.returns
  have hts := atoms_spec (ws := wsX3_turnRoller) B.pre
  have hown : s.vm.findClass RX3 = some m.cls := findClass_of_methodNamed B.named
  have hlocks := B.notSynchronized
  subst hsz
  have hD := hD0.self (sz := s.heap.size)
  generalize hAe : va_A [(aS, .inr (3, [.ref aC])), (aC, .inl (cyI, 225, .inl vc))] s.heap.size = A at hD ⊢
  have hA : ∀ q : Nat, s.heap.size ≤ q → A q := fun q h => by rw [← hAe]; exact Or.inr h
  have hS : va_S A s.heap s.heap [] := va_S.rf
  have hP : va_P D vwCl [(aS, .inr (3, [.ref aC])), (aC, .inl (cyI, 225, .inl vc))] s.heap := hP
  have hl := lv_entry ([.ref aS, .int x1, .int x2]) (n := 3) (Nat.le_of_ble_eq_true rfl)
  rw [lg_entry_eq]
  generalize (lg_sl ([.ref aS, .int x1, .int x2]) ++ List.replicate (3 - (lg_sl ([.ref aS, .int x1, .int x2])).length) Slot.unset).toArray = ls at hl ⊢
  have hl : lv_has ls 3 [(0, .ref aS), (1, .int x1), (2, .int x2)] := hl
  unfold p_X3_turnRoller at hF
  refine lv_aload_n hx hb dX3_turnRoller_0 rfl (lv_at hl 0 rfl) ?_
  refine lv_iload_n hx hb dX3_turnRoller_1 rfl (lv_at hl 1 rfl) ?_
  obtain ⟨r2, hC, hF⟩ := k_c1_ex hF
  refine x_SR (As := [.int x1]) (rest := [.ref aS]) ⟨hx, hb, hml, hown, hts⟩ (c_X3_placeOf l D cyI cyZ N x1 hC) (va_cwS 1 hts gX3_turnRoller_X3_placeOf rfl rfl rfl (by decide +kernel) ⟨Nat.le_of_ble_eq_true rfl, Nat.le_of_ble_eq_true rfl⟩) hK hP hS [] rfl rfl hl.1 rfl (Nat.le_of_ble_eq_true rfl) ⟨Nat.zero_le _, Nat.zero_le _⟩ dX3_turnRoller_2 (fun H locs hP hS => ?_)
  refine lv_iconst (v := (1 : Int32)) hx hb dX3_turnRoller_5 (by decide) ?_
  refine lv_iadd hx hb dX3_turnRoller_6 ?_
  refine lv_iload_n hx hb dX3_turnRoller_7 rfl (lv_at hl 2 rfl) ?_
  obtain ⟨vc_8, hC, hF⟩ := k_c1_ex hF
  refine x_VV (As := [.int (r2 + (1 : Int32)), .int x2]) (rest := []) ⟨hx, hb, hml, hown, hts⟩ (c_X3_raise l D cyI cyZ aS aC H.size N (r2 + (1 : Int32)) x2 vc hC) (cwV 2 hts gX3_turnRoller_X3_raise rfl rfl rfl (by decide +kernel) ⟨Nat.le_of_ble_eq_true rfl, Nat.le_of_ble_eq_true rfl⟩) hK hP hD hS hA [0, 1] rfl rfl rfl 0 rfl rfl rfl rfl hl.1 rfl (Nat.le_of_ble_eq_true rfl) ⟨Nat.zero_le _, Nat.zero_le _⟩ dX3_turnRoller_8 (fun H locs hP hD hS => ?_)
  have hP : va_P D vwCl [(aS, .inr (3, [.ref aC])), (aC, .inl (cyI, 225, .inl vc_8))] H := hP
  have hD : va_D A [(aS, .inr (3, [.ref aC])), (aC, .inl (cyI, 225, .inl vc_8))] := hD
  refine lv_aload_n hx hb dX3_turnRoller_11 rfl (lv_at hl 0 rfl) ?_
  refine lv_iload_n hx hb dX3_turnRoller_12 rfl (lv_at hl 1 rfl) ?_
  obtain ⟨r13, hC, hF⟩ := k_c1_ex hF
  refine x_VR (As := [.int x1]) (rest := []) ⟨hx, hb, hml, hown, hts⟩ (c_X3_stepsSinceWorn l D cyI cyZ aS aC N x1 vc_8 hC) (cwV 1 hts gX3_turnRoller_X3_stepsSinceWorn rfl rfl rfl (by decide +kernel) ⟨Nat.le_of_ble_eq_true rfl, Nat.le_of_ble_eq_true rfl⟩) hK hP hS [0, 1] rfl 0 rfl rfl rfl rfl hl.1 rfl (Nat.le_of_ble_eq_true rfl) ⟨Nat.zero_le _, Nat.zero_le _⟩ dX3_turnRoller_13 (fun H locs hP hS => ?_)
  refine lv_aload_n hx hb dX3_turnRoller_16 rfl (lv_at hl 0 rfl) ?_
  refine lv_iconst (v := (2 : Int32)) hx hb dX3_turnRoller_17 (by decide) ?_
  obtain ⟨r18, hC, hF⟩ := k_c1_ex hF
  refine x_VR (As := [.int (2 : Int32)]) (rest := [.int r13]) ⟨hx, hb, hml, hown, hts⟩ (c_X3_setting l D cyI cyZ aS aC N (2 : Int32) vc_8 hC) (cwV 1 hts gX3_turnRoller_X3_setting rfl rfl rfl (by decide +kernel) ⟨Nat.le_of_ble_eq_true rfl, Nat.le_of_ble_eq_true rfl⟩) hK hP hS [0, 1] rfl 0 rfl rfl rfl rfl hl.1 rfl (Nat.le_of_ble_eq_true rfl) ⟨Nat.zero_le _, Nat.zero_le _⟩ dX3_turnRoller_18 (fun H locs hP hS => ?_)
  refine lv_aload_n hx hb dX3_turnRoller_21 rfl (lv_at hl 0 rfl) ?_
  refine lv_iload_n hx hb dX3_turnRoller_22 rfl (lv_at hl 1 rfl) ?_
  obtain ⟨r23, hC, hF⟩ := k_c1_ex hF
  refine x_VR (As := [.int x1]) (rest := [.int r18, .int r13]) ⟨hx, hb, hml, hown, hts⟩ (c_X3_teeth l D cyI cyZ aS aC N x1 vc_8 hC) (cwV 1 hts gX3_turnRoller_X3_teeth rfl rfl rfl (by decide +kernel) ⟨Nat.le_of_ble_eq_true rfl, Nat.le_of_ble_eq_true rfl⟩) hK hP hS [0, 1] rfl 0 rfl rfl rfl rfl hl.1 rfl (Nat.le_of_ble_eq_true rfl) ⟨Nat.zero_le _, Nat.zero_le _⟩ dX3_turnRoller_23 (fun H locs hP hS => ?_)
  refine lv_imul hx hb dX3_turnRoller_26 ?_
  refine lv_icmp_lt (tgt := 35) hx hb dX3_turnRoller_27 (by decide) (fun hc => ?_) (fun hc => ?_)
  · have hF := k_if_t hF hc
    have e0 := k_inj1 hF
    have hP9 : va_P D vwCl [(aS, .inr (3, [.ref aC])), (aC, .inl (cyI, 225, .inl vc'))] H := by rw [← e0]; exact hP
    exact W.vret hx hb hr (fun t ht hW => ⟨⟨(), rfl, trivial, x_ret hP9 ht⟩, hS.F ht⟩) hS.2.2 dX3_turnRoller_35
  · have hF := k_if_f hF hc
    refine lv_aload_n hx hb dX3_turnRoller_30 rfl (lv_at hl 0 rfl) ?_
    refine lv_iload_n hx hb dX3_turnRoller_31 rfl (lv_at hl 1 rfl) ?_
    obtain ⟨vc_32, hC, hF⟩ := k_c1_ex hF
    refine x_VV (As := [.int x1]) (rest := []) ⟨hx, hb, hml, hown, hts⟩ (c_X3_wearDown l D cyI cyZ aS aC H.size N x1 vc_8 hC) (cwV 1 hts gX3_turnRoller_X3_wearDown rfl rfl rfl (by decide +kernel) ⟨Nat.le_of_ble_eq_true rfl, Nat.le_of_ble_eq_true rfl⟩) hK hP hD hS hA [0, 1] rfl rfl rfl 0 rfl rfl rfl rfl hl.1 rfl (Nat.le_of_ble_eq_true rfl) ⟨Nat.zero_le _, Nat.zero_le _⟩ dX3_turnRoller_32 (fun H locs hP hD hS => ?_)
    have hP : va_P D vwCl [(aS, .inr (3, [.ref aC])), (aC, .inl (cyI, 225, .inl vc_32))] H := hP
    have hD : va_D A [(aS, .inr (3, [.ref aC])), (aC, .inl (cyI, 225, .inl vc_32))] := hD
    have e0 := k_inj1 hF
    have hP9 : va_P D vwCl [(aS, .inr (3, [.ref aC])), (aC, .inl (cyI, 225, .inl vc'))] H := by rw [← e0]; exact hP
    exact W.vret hx hb hr (fun t ht hW => ⟨⟨(), rfl, trivial, x_ret hP9 ht⟩, hS.F ht⟩) hS.2.2 dX3_turnRoller_35
set_option maxHeartbeats 4000000 in
set_option maxRecDepth 100000 in
theorem c_X3_meltRoller (l : Launch) (D : va_G) (cyI cyZ : ClassId) (aS aC : Nat) (sz : Nat) (N : Nat) (x1 : Int32) (vc : (Nat → Int32)) {r0 : Int32} {vc' : (Nat → Int32)} (hF : p_X3_meltRoller N x1 vc = some (r0, vc')) : Met l yX3_meltRoller wsX3_meltRoller ({ frames := 2, cells := 0, slots := 0, locals := 42 }) (x_PM D cyI cyZ [.ref aS, .int x1] [(aS, .inr (3, [.ref aC])), (aC, .inl (cyI, 225, .inl vc))] sz) (x_QM D r0 (va_A [(aS, .inr (3, [.ref aC])), (aC, .inl (cyI, 225, .inl vc))] sz) [(aS, .inr (3, [.ref aC])), (aC, .inl (cyI, 225, .inl vc'))]) 0 0 (va_A [(aS, .inr (3, [.ref aC])), (aC, .inl (cyI, 225, .inl vc))] sz) := by
  refine Met.ofW (cc := cX3_meltRoller) (maxL := 4) (ret := (some .int)) (by decide) rfl ?_
  intro p e s m args below meth c s₁ B hml hv
  obtain ⟨rfl, hsz, hP, hK, hD0⟩ := hv
  have hx := B.exec
  have hb := B.bytes
  have hr := B.returns
  have hts := atoms_spec (ws := wsX3_meltRoller) B.pre
  have hown : s.vm.findClass RX3 = some m.cls := findClass_of_methodNamed B.named
  have hlocks := B.notSynchronized
  subst hsz
  have hD := hD0.self (sz := s.heap.size)
  generalize hAe : va_A [(aS, .inr (3, [.ref aC])), (aC, .inl (cyI, 225, .inl vc))] s.heap.size = A at hD ⊢
  have hA : ∀ q : Nat, s.heap.size ≤ q → A q := fun q h => by rw [← hAe]; exact Or.inr h
  have hS : va_S A s.heap s.heap [] := va_S.rf
  have hP : va_P D vwCl [(aS, .inr (3, [.ref aC])), (aC, .inl (cyI, 225, .inl vc))] s.heap := hP
  have hl := lv_entry ([.ref aS, .int x1]) (n := 4) (Nat.le_of_ble_eq_true rfl)
  rw [lg_entry_eq]
  generalize (lg_sl ([.ref aS, .int x1]) ++ List.replicate (4 - (lg_sl ([.ref aS, .int x1])).length) Slot.unset).toArray = ls at hl ⊢
  have hl : lv_has ls 4 [(0, .ref aS), (1, .int x1)] := hl
  refine x_gen (fun G hG => ?_)
  have blk_23 : ∀ (n_23 : Nat) (x2 : Int32) (x3 : Int32) (vc : (Nat → Int32)), f_X3_meltRoller_23 N n_23 x2 x3 vc = some (r0, vc') → ∀ (H : Heap) (locs : List Loc) (ls : Array Slot), va_P D vwCl [(aS, .inr (3, [.ref aC])), (aC, .inl (cyI, 225, .inl vc))] H → va_D A [(aS, .inr (3, [.ref aC])), (aC, .inl (cyI, 225, .inl vc))] → va_S A s.heap H locs → lv_has ls 4 [(0, .ref aS), (2, .int x2), (3, .int x3)] → G H locs (F0 m 23 ls []) := by
    intro n_23
    induction n_23 with
    | zero => intro x2 x3 vc hF; exact (k_none hF).elim
    | succ n_23 ih_23 =>
      intro x2 x3 vc hF H locs ls hP hD hS hl
      replace hF : b_X3_meltRoller_23 N (f_X3_meltRoller_23 N n_23) x2 x3 vc = some (r0, vc') := hF
      unfold b_X3_meltRoller_23 at hF
      refine (hG _ _ _).2 ?_
      refine lv_iload_n hx hb dX3_meltRoller_23 rfl (lv_at hl 2 rfl) ?_
      refine lv_iload_n hx hb dX3_meltRoller_24 rfl (lv_at hl 1 rfl) ?_
      obtain ⟨r25, hC, hF⟩ := k_c1_ex hF
      refine x_SR (As := [.int x2]) (rest := [.int x3]) ⟨hx, hb, hml, hown, hts⟩ (c_X3_placeOf l D cyI cyZ N x2 hC) (va_cwS 1 hts gX3_meltRoller_X3_placeOf rfl rfl rfl (by decide +kernel) ⟨Nat.le_of_ble_eq_true rfl, Nat.le_of_ble_eq_true rfl⟩) hK hP hS [] rfl rfl hl.1 rfl (Nat.le_of_ble_eq_true rfl) ⟨Nat.zero_le _, Nat.zero_le _⟩ dX3_meltRoller_25 (fun H locs hP hS => ?_)
      refine lv_icmp_ge (tgt := 50) hx hb dX3_meltRoller_28 (by decide) (fun hc => ?_) (fun hc => ?_)
      · have hF := k_if_t hF hc
        refine lv_aload_n hx hb dX3_meltRoller_50 rfl (lv_at hl 0 rfl) ?_
        refine lv_iconst (v := (0 : Int32)) hx hb dX3_meltRoller_51 (by decide) ?_
        refine lv_iload_n hx hb dX3_meltRoller_52 rfl (lv_at hl 1 rfl) ?_
        obtain ⟨vc_53, hC, hF⟩ := k_c1_ex hF
        refine x_VV (As := [.int (0 : Int32), .int x2]) (rest := []) ⟨hx, hb, hml, hown, hts⟩ (c_X3_change l D cyI cyZ aS aC H.size N (0 : Int32) x2 vc hC) (cwV 2 hts gX3_meltRoller_X3_change rfl rfl rfl (by decide +kernel) ⟨Nat.le_of_ble_eq_true rfl, Nat.le_of_ble_eq_true rfl⟩) hK hP hD hS hA [0, 1] rfl rfl rfl 0 rfl rfl rfl rfl hl.1 rfl (Nat.le_of_ble_eq_true rfl) ⟨Nat.zero_le _, Nat.zero_le _⟩ dX3_meltRoller_53 (fun H locs hP hD hS => ?_)
        have hP : va_P D vwCl [(aS, .inr (3, [.ref aC])), (aC, .inl (cyI, 225, .inl vc_53))] H := hP
        have hD : va_D A [(aS, .inr (3, [.ref aC])), (aC, .inl (cyI, 225, .inl vc_53))] := hD
        refine lv_iload_n hx hb dX3_meltRoller_56 rfl (lv_at hl 1 rfl) ?_
        obtain ⟨e0, e1⟩ := k_inj2 hF
        have hP9 : va_P D vwCl [(aS, .inr (3, [.ref aC])), (aC, .inl (cyI, 225, .inl vc'))] H := by rw [← e1]; exact hP
        exact W.iret hx hb hr (fun t ht hW => ⟨⟨_, (), rfl, e0, x_ret hP9 ht⟩, hS.F ht⟩) hS.2.2 dX3_meltRoller_57
      · have hF := k_if_f hF hc
        refine lv_aload_n hx hb dX3_meltRoller_31 rfl (lv_at hl 0 rfl) ?_
        refine lv_iload_n hx hb dX3_meltRoller_32 rfl (lv_at hl 2 rfl) ?_
        refine lv_aload_n hx hb dX3_meltRoller_33 rfl (lv_at hl 0 rfl) ?_
        refine lv_iload_n hx hb dX3_meltRoller_34 rfl (lv_at hl 2 rfl) ?_
        refine lv_bipush (v := (27 : Int32)) hx hb dX3_meltRoller_35 (by decide) ?_
        refine lv_iadd hx hb dX3_meltRoller_37 ?_
        obtain ⟨r38, hC, hF⟩ := k_c1_ex hF
        refine x_VR (As := [.int (x3 + (27 : Int32))]) (rest := [.int x3, .ref aS]) ⟨hx, hb, hml, hown, hts⟩ (c_X3_cell l D cyI cyZ aS aC N (x3 + (27 : Int32)) vc hC) (cwV 1 hts gX3_meltRoller_X3_cell rfl rfl rfl (by decide +kernel) ⟨Nat.le_of_ble_eq_true rfl, Nat.le_of_ble_eq_true rfl⟩) hK hP hS [0, 1] rfl 0 rfl rfl rfl rfl hl.1 rfl (Nat.le_of_ble_eq_true rfl) ⟨Nat.zero_le _, Nat.zero_le _⟩ dX3_meltRoller_38 (fun H locs hP hS => ?_)
        obtain ⟨vc_41, hC, hF⟩ := k_c1_ex hF
        refine x_VV (As := [.int x3, .int r38]) (rest := []) ⟨hx, hb, hml, hown, hts⟩ (c_X3_change l D cyI cyZ aS aC H.size N x3 r38 vc hC) (cwV 2 hts gX3_meltRoller_X3_change rfl rfl rfl (by decide +kernel) ⟨Nat.le_of_ble_eq_true rfl, Nat.le_of_ble_eq_true rfl⟩) hK hP hD hS hA [0, 1] rfl rfl rfl 0 rfl rfl rfl rfl hl.1 rfl (Nat.le_of_ble_eq_true rfl) ⟨Nat.zero_le _, Nat.zero_le _⟩ dX3_meltRoller_41 (fun H locs hP hD hS => ?_)
        have hP : va_P D vwCl [(aS, .inr (3, [.ref aC])), (aC, .inl (cyI, 225, .inl vc_41))] H := hP
        have hD : va_D A [(aS, .inr (3, [.ref aC])), (aC, .inl (cyI, 225, .inl vc_41))] := hD
        obtain ⟨x3_44, hn, hF⟩ := k_let_ex hF
        refine lv_iinc (v := x3_44) (lv' := [(3, .int x3_44), (0, .ref aS), (2, .int x2)]) hx hb dX3_meltRoller_44 hl (k := 2) rfl (by rw [hn]; rfl) (by decide) rfl (fun ls hl => ?_)
        refine lv_goto (tgt := 23) hx hb dX3_meltRoller_47 (by decide) ?_
        exact (hG _ _ _).1 (ih_23 x2 x3_44 vc_41 hF _ _ _ hP hD hS (lv_sub hl [1, 2, 0] rfl))
  refine (hG _ _ _).2 ?_
  unfold p_X3_meltRoller at hF
  refine lv_aload_n hx hb dX3_meltRoller_0 rfl (lv_at hl 0 rfl) ?_
  refine lv_iload_n hx hb dX3_meltRoller_1 rfl (lv_at hl 1 rfl) ?_
  obtain ⟨r2, hC, hF⟩ := k_c1_ex hF
  refine x_VR (As := [.int x1]) (rest := []) ⟨hx, hb, hml, hown, hts⟩ (c_X3_has l D cyI cyZ aS aC N x1 vc hC) (cwV 1 hts gX3_meltRoller_X3_has rfl rfl rfl (by decide +kernel) ⟨Nat.le_of_ble_eq_true rfl, Nat.le_of_ble_eq_true rfl⟩) hK hP hS [0, 1] rfl 0 rfl rfl rfl rfl hl.1 rfl (Nat.le_of_ble_eq_true rfl) ⟨Nat.zero_le _, Nat.zero_le _⟩ dX3_meltRoller_2 (fun H locs hP hS => ?_)
  refine lv_if_ne (tgt := 10) hx hb dX3_meltRoller_5 (by decide) (fun hc => ?_) (fun hc => ?_)
  · have hF := k_if_f hF hc
    refine lv_aload_n hx hb dX3_meltRoller_10 rfl (lv_at hl 0 rfl) ?_
    refine lv_iconst (v := (0 : Int32)) hx hb dX3_meltRoller_11 (by decide) ?_
    obtain ⟨r12, hC, hF⟩ := k_c1_ex hF
    refine x_VR (As := [.int (0 : Int32)]) (rest := []) ⟨hx, hb, hml, hown, hts⟩ (c_X3_cell l D cyI cyZ aS aC N (0 : Int32) vc hC) (cwV 1 hts gX3_meltRoller_X3_cell rfl rfl rfl (by decide +kernel) ⟨Nat.le_of_ble_eq_true rfl, Nat.le_of_ble_eq_true rfl⟩) hK hP hS [0, 1] rfl 0 rfl rfl rfl rfl hl.1 rfl (Nat.le_of_ble_eq_true rfl) ⟨Nat.zero_le _, Nat.zero_le _⟩ dX3_meltRoller_12 (fun H locs hP hS => ?_)
    refine lv_iconst (v := (1 : Int32)) hx hb dX3_meltRoller_15 (by decide) ?_
    refine lv_isub hx hb dX3_meltRoller_16 ?_
    obtain ⟨x2_17, hn, hF⟩ := k_let_ex hF
    refine x_nm hn ?_
    refine lv_istore_n (lv' := [(2, .int x2_17), (0, .ref aS), (1, .int x1)]) hx hb dX3_meltRoller_17 rfl hl (by decide) rfl (fun ls hl => ?_)
    refine lv_iload_n hx hb dX3_meltRoller_18 rfl (lv_at hl 2 rfl) ?_
    obtain ⟨r19, hC, hF⟩ := k_c1_ex hF
    refine x_SR (As := [.int x1]) (rest := []) ⟨hx, hb, hml, hown, hts⟩ (c_X3_placeOf l D cyI cyZ N x1 hC) (va_cwS 1 hts gX3_meltRoller_X3_placeOf rfl rfl rfl (by decide +kernel) ⟨Nat.le_of_ble_eq_true rfl, Nat.le_of_ble_eq_true rfl⟩) hK hP hS [] rfl rfl hl.1 rfl (Nat.le_of_ble_eq_true rfl) ⟨Nat.zero_le _, Nat.zero_le _⟩ dX3_meltRoller_19 (fun H locs hP hS => ?_)
    refine lv_istore_n (lv' := [(3, .int r19), (2, .int x2_17), (0, .ref aS), (1, .int x1)]) hx hb dX3_meltRoller_22 rfl hl (by decide) rfl (fun ls hl => ?_)
    exact (hG _ _ _).1 (blk_23 N x2_17 r19 vc hF _ _ _ hP hD hS (lv_sub hl [2, 1, 0] rfl))
  · have hF := k_if_t hF hc
    refine lv_iconst (v := (-1 : Int32)) hx hb dX3_meltRoller_8 (by decide) ?_
    obtain ⟨e0, e1⟩ := k_inj2 hF
    have hP9 : va_P D vwCl [(aS, .inr (3, [.ref aC])), (aC, .inl (cyI, 225, .inl vc'))] H := by rw [← e1]; exact hP
    exact W.iret hx hb hr (fun t ht hW => ⟨⟨_, (), rfl, e0, x_ret hP9 ht⟩, hS.F ht⟩) hS.2.2 dX3_meltRoller_9
theorem mm_X3_copyFrom_Ls_1 : Cond.fieldLink RX3 11 "RollerMesh$Shop" "cells" "[I" ∈ wsX3_copyFrom := List.mem_of_getElem? (i := 1) rfl
theorem mm_X3_copyFrom_Ls_2 : Cond.methodLink RX3 70 arraycopyName ∈ wsX3_copyFrom := List.mem_of_getElem? (i := 2) rfl
theorem mm_X3_copyFrom_Ls_3 : Cond.native arraycopyName ∈ wsX3_copyFrom := List.mem_of_getElem? (i := 3) rfl
theorem mm_X3_copyFrom_Ls_4 : Cond.static arraycopyName ∈ wsX3_copyFrom := List.mem_of_getElem? (i := 4) rfl
theorem mm_X3_copyFrom_Ls_5 : Cond.initialized "java/lang/System" ∈ wsX3_copyFrom := List.mem_of_getElem? (i := 5) rfl
theorem mi_X3_copyFrom_Ls_X3 : ∀ w ∈ wsX30, w ∈ wsX3_copyFrom := fun _ h => List.mem_cons_of_mem _ (List.mem_append_right _ h)
set_option maxHeartbeats 4000000 in
set_option maxRecDepth 100000 in
theorem c_X3_copyFrom_Ls (l : Launch) (D : va_G) (cyI cyZ : ClassId) (aS aC aLs : Nat) (sz : Nat) (N : Nat) (x2 : Int32) (vc : (Nat → Int32)) (vss : (Nat → Int32)) {vc' : (Nat → Int32)} (hF : p_X3_copyFrom_Ls N x2 vc vss = some (vc')) : Met l yX3_copyFrom wsX3_copyFrom ({ frames := 1, cells := 0, slots := 0, locals := 26 }) (x_PM D cyI cyZ [.ref aS, .ref aLs, .int x2] [(aS, .inr (3, [.ref aC])), (aC, .inl (cyI, 225, .inl vc)), (aLs, .inl (cyI, 450, .inl vss))] sz) (x_QV D (va_A [(aS, .inr (3, [.ref aC])), (aC, .inl (cyI, 225, .inl vc)), (aLs, .inl (cyI, 450, .inl vss))] sz) [(aS, .inr (3, [.ref aC])), (aC, .inl (cyI, 225, .inl vc')), (aLs, .inl (cyI, 450, .inl vss))]) 0 0 (va_A [(aS, .inr (3, [.ref aC])), (aC, .inl (cyI, 225, .inl vc)), (aLs, .inl (cyI, 450, .inl vss))] sz) := by
  refine Met.ofW (cc := cX3_copyFrom) (maxL := 3) (ret := none) (by decide) rfl ?_
  intro p e s m args below meth c s₁ B hml hv
  obtain ⟨rfl, hsz, hP, hK, hD0⟩ := hv
  have hx := B.exec
  have hb := B.bytes
  have hr := B.returns
  have hts := atoms_spec (ws := wsX3_copyFrom) B.pre
  have hown : s.vm.findClass RX3 = some m.cls := findClass_of_methodNamed B.named
  have hlocks := B.notSynchronized
  subst hsz
  have hD := hD0.self (sz := s.heap.size)
  generalize hAe : va_A [(aS, .inr (3, [.ref aC])), (aC, .inl (cyI, 225, .inl vc)), (aLs, .inl (cyI, 450, .inl vss))] s.heap.size = A at hD ⊢
  have hA : ∀ q : Nat, s.heap.size ≤ q → A q := fun q h => by rw [← hAe]; exact Or.inr h
  have hS : va_S A s.heap s.heap [] := va_S.rf
  have hP : va_P D vwCl [(aS, .inr (3, [.ref aC])), (aC, .inl (cyI, 225, .inl vc)), (aLs, .inl (cyI, 450, .inl vss))] s.heap := hP
  have hl := lv_entry ([.ref aS, .ref aLs, .int x2]) (n := 3) (Nat.le_of_ble_eq_true rfl)
  rw [lg_entry_eq]
  generalize (lg_sl ([.ref aS, .ref aLs, .int x2]) ++ List.replicate (3 - (lg_sl ([.ref aS, .ref aLs, .int x2])).length) Slot.unset).toArray = ls at hl ⊢
  have hl : lv_has ls 3 [(0, .ref aS), (1, .ref aLs), (2, .int x2)] := hl
  unfold p_X3_copyFrom_Ls at hF
  refine lv_iload_n hx hb dX3_copyFrom_0 rfl (lv_at hl 2 rfl) ?_
  refine lv_if_lt (tgt := 31) hx hb dX3_copyFrom_1 (by decide) (fun hc => ?_) (fun hc => ?_)
  · have hF := k_if_t hF hc
    have e0 := k_inj1 hF
    have hP9 : va_P D vwCl [(aS, .inr (3, [.ref aC])), (aC, .inl (cyI, 225, .inl vc')), (aLs, .inl (cyI, 450, .inl vss))] s.heap := by rw [← e0]; exact hP
    exact W.vret hx hb hr (fun t ht hW => ⟨⟨(), rfl, trivial, x_ret hP9 ht⟩, hS.F ht⟩) hS.2.2 dX3_copyFrom_31
  · have hF := k_if_f hF hc
    refine lv_iload_n hx hb dX3_copyFrom_4 rfl (lv_at hl 2 rfl) ?_
    refine lv_aload_n hx hb dX3_copyFrom_5 rfl (lv_at hl 1 rfl) ?_
    refine x_alen (v := (450 : Int32)) hx hb hK hP 2 rfl rfl dX3_copyFrom_6 ?_
    refine lv_sipush (v := (225 : Int32)) hx hb dX3_copyFrom_7 (by decide) ?_
    obtain ⟨hz, hF⟩ := k_nz_ex hF
    refine lv_idiv hx hb dX3_copyFrom_10 hz ?_
    refine lv_icmp_ge (tgt := 31) hx hb dX3_copyFrom_11 (by decide) (fun hc => ?_) (fun hc => ?_)
    · have hF := k_if_t hF hc
      have e0 := k_inj1 hF
      have hP9 : va_P D vwCl [(aS, .inr (3, [.ref aC])), (aC, .inl (cyI, 225, .inl vc')), (aLs, .inl (cyI, 450, .inl vss))] s.heap := by rw [← e0]; exact hP
      exact W.vret hx hb hr (fun t ht hW => ⟨⟨(), rfl, trivial, x_ret hP9 ht⟩, hS.F ht⟩) hS.2.2 dX3_copyFrom_31
    · have hF := k_if_f hF hc
      refine lv_aload_n hx hb dX3_copyFrom_14 rfl (lv_at hl 1 rfl) ?_
      refine lv_iload_n hx hb dX3_copyFrom_15 rfl (lv_at hl 2 rfl) ?_
      refine lv_sipush (v := (225 : Int32)) hx hb dX3_copyFrom_16 (by decide) ?_
      refine lv_imul hx hb dX3_copyFrom_19 ?_
      refine lv_aload_n hx hb dX3_copyFrom_20 rfl (lv_at hl 0 rfl) ?_
      refine va_get (D := D) (ci := 3) (v := .ref aC) (C := RX3) (T := TX3) (N := 1) hx hb hts mi_X3_copyFrom_Ls_X3 hown hK.1 hP 0 rfl rfl 0 (by decide) (hts _ mm_X3_copyFrom_Ls_1) (fun _ h9 => h9) rfl dX3_copyFrom_21 ?_
      refine lv_iconst (v := (0 : Int32)) hx hb dX3_copyFrom_24 (by decide) ?_
      refine lv_sipush (v := (225 : Int32)) hx hb dX3_copyFrom_25 (by decide) ?_
      obtain ⟨vc_28, ⟨hq1, hq2, hq3, hq4, hq5⟩, hn, hF⟩ := k_cpy_ex hF
      refine va_copyi hx hb (hml.trans hl.1.symm) hown (hts _ mm_X3_copyFrom_Ls_2) (hts _ mm_X3_copyFrom_Ls_3) (hts _ mm_X3_copyFrom_Ls_4) (hts _ mm_X3_copyFrom_Ls_5) hK.1 hP hD hS 2 1 0 0 rfl rfl rfl rfl rfl hq1 hq2 hq3 hq4 hq5 (fun _ _ => rfl) (Nat.le_of_ble_eq_true rfl) (Nat.le_of_ble_eq_true rfl) dX3_copyFrom_28 (fun H locs hP hD hS => ?_)
      rw [← hn] at hP hD
      have hP : va_P D vwCl [(aS, .inr (3, [.ref aC])), (aC, .inl (cyI, 225, .inl vc_28)), (aLs, .inl (cyI, 450, .inl vss))] H := hP
      have hD : va_D A [(aS, .inr (3, [.ref aC])), (aC, .inl (cyI, 225, .inl vc_28)), (aLs, .inl (cyI, 450, .inl vss))] := hD
      have e0 := k_inj1 hF
      have hP9 : va_P D vwCl [(aS, .inr (3, [.ref aC])), (aC, .inl (cyI, 225, .inl vc')), (aLs, .inl (cyI, 450, .inl vss))] H := by rw [← e0]; exact hP
      exact W.vret hx hb hr (fun t ht hW => ⟨⟨(), rfl, trivial, x_ret hP9 ht⟩, hS.F ht⟩) hS.2.2 dX3_copyFrom_31
theorem mm_X3_copyFrom_Hs_1 : Cond.fieldLink RX3 11 "RollerMesh$Shop" "cells" "[I" ∈ wsX3_copyFrom := List.mem_of_getElem? (i := 1) rfl
theorem mm_X3_copyFrom_Hs_2 : Cond.methodLink RX3 70 arraycopyName ∈ wsX3_copyFrom := List.mem_of_getElem? (i := 2) rfl
theorem mm_X3_copyFrom_Hs_3 : Cond.native arraycopyName ∈ wsX3_copyFrom := List.mem_of_getElem? (i := 3) rfl
theorem mm_X3_copyFrom_Hs_4 : Cond.static arraycopyName ∈ wsX3_copyFrom := List.mem_of_getElem? (i := 4) rfl
theorem mm_X3_copyFrom_Hs_5 : Cond.initialized "java/lang/System" ∈ wsX3_copyFrom := List.mem_of_getElem? (i := 5) rfl
theorem mi_X3_copyFrom_Hs_X3 : ∀ w ∈ wsX30, w ∈ wsX3_copyFrom := fun _ h => List.mem_cons_of_mem _ (List.mem_append_right _ h)
set_option maxHeartbeats 4000000 in
set_option maxRecDepth 100000 in
theorem c_X3_copyFrom_Hs (l : Launch) (D : va_G) (cyI cyZ : ClassId) (aS aC aHs : Nat) (sz : Nat) (N : Nat) (x2 : Int32) (vc : (Nat → Int32)) (vhs : (Nat → Int32)) {vc' : (Nat → Int32)} (hF : p_X3_copyFrom_Hs N x2 vc vhs = some (vc')) : Met l yX3_copyFrom wsX3_copyFrom ({ frames := 1, cells := 0, slots := 0, locals := 26 }) (x_PM D cyI cyZ [.ref aS, .ref aHs, .int x2] [(aS, .inr (3, [.ref aC])), (aC, .inl (cyI, 225, .inl vc)), (aHs, .inl (cyI, 1575, .inl vhs))] sz) (x_QV D (va_A [(aS, .inr (3, [.ref aC])), (aC, .inl (cyI, 225, .inl vc)), (aHs, .inl (cyI, 1575, .inl vhs))] sz) [(aS, .inr (3, [.ref aC])), (aC, .inl (cyI, 225, .inl vc')), (aHs, .inl (cyI, 1575, .inl vhs))]) 0 0 (va_A [(aS, .inr (3, [.ref aC])), (aC, .inl (cyI, 225, .inl vc)), (aHs, .inl (cyI, 1575, .inl vhs))] sz) := by
  refine Met.ofW (cc := cX3_copyFrom) (maxL := 3) (ret := none) (by decide) rfl ?_
  intro p e s m args below meth c s₁ B hml hv
  obtain ⟨rfl, hsz, hP, hK, hD0⟩ := hv
  have hx := B.exec
  have hb := B.bytes
  have hr := B.returns
  have hts := atoms_spec (ws := wsX3_copyFrom) B.pre
  have hown : s.vm.findClass RX3 = some m.cls := findClass_of_methodNamed B.named
  have hlocks := B.notSynchronized
  subst hsz
  have hD := hD0.self (sz := s.heap.size)
  generalize hAe : va_A [(aS, .inr (3, [.ref aC])), (aC, .inl (cyI, 225, .inl vc)), (aHs, .inl (cyI, 1575, .inl vhs))] s.heap.size = A at hD ⊢
  have hA : ∀ q : Nat, s.heap.size ≤ q → A q := fun q h => by rw [← hAe]; exact Or.inr h
  have hS : va_S A s.heap s.heap [] := va_S.rf
  have hP : va_P D vwCl [(aS, .inr (3, [.ref aC])), (aC, .inl (cyI, 225, .inl vc)), (aHs, .inl (cyI, 1575, .inl vhs))] s.heap := hP
  have hl := lv_entry ([.ref aS, .ref aHs, .int x2]) (n := 3) (Nat.le_of_ble_eq_true rfl)
  rw [lg_entry_eq]
  generalize (lg_sl ([.ref aS, .ref aHs, .int x2]) ++ List.replicate (3 - (lg_sl ([.ref aS, .ref aHs, .int x2])).length) Slot.unset).toArray = ls at hl ⊢
  have hl : lv_has ls 3 [(0, .ref aS), (1, .ref aHs), (2, .int x2)] := hl
  unfold p_X3_copyFrom_Hs at hF
  refine lv_iload_n hx hb dX3_copyFrom_0 rfl (lv_at hl 2 rfl) ?_
  refine lv_if_lt (tgt := 31) hx hb dX3_copyFrom_1 (by decide) (fun hc => ?_) (fun hc => ?_)
  · have hF := k_if_t hF hc
    have e0 := k_inj1 hF
    have hP9 : va_P D vwCl [(aS, .inr (3, [.ref aC])), (aC, .inl (cyI, 225, .inl vc')), (aHs, .inl (cyI, 1575, .inl vhs))] s.heap := by rw [← e0]; exact hP
    exact W.vret hx hb hr (fun t ht hW => ⟨⟨(), rfl, trivial, x_ret hP9 ht⟩, hS.F ht⟩) hS.2.2 dX3_copyFrom_31
  · have hF := k_if_f hF hc
    refine lv_iload_n hx hb dX3_copyFrom_4 rfl (lv_at hl 2 rfl) ?_
    refine lv_aload_n hx hb dX3_copyFrom_5 rfl (lv_at hl 1 rfl) ?_
    refine x_alen (v := (1575 : Int32)) hx hb hK hP 2 rfl rfl dX3_copyFrom_6 ?_
    refine lv_sipush (v := (225 : Int32)) hx hb dX3_copyFrom_7 (by decide) ?_
    obtain ⟨hz, hF⟩ := k_nz_ex hF
    refine lv_idiv hx hb dX3_copyFrom_10 hz ?_
    refine lv_icmp_ge (tgt := 31) hx hb dX3_copyFrom_11 (by decide) (fun hc => ?_) (fun hc => ?_)
    · have hF := k_if_t hF hc
      have e0 := k_inj1 hF
      have hP9 : va_P D vwCl [(aS, .inr (3, [.ref aC])), (aC, .inl (cyI, 225, .inl vc')), (aHs, .inl (cyI, 1575, .inl vhs))] s.heap := by rw [← e0]; exact hP
      exact W.vret hx hb hr (fun t ht hW => ⟨⟨(), rfl, trivial, x_ret hP9 ht⟩, hS.F ht⟩) hS.2.2 dX3_copyFrom_31
    · have hF := k_if_f hF hc
      refine lv_aload_n hx hb dX3_copyFrom_14 rfl (lv_at hl 1 rfl) ?_
      refine lv_iload_n hx hb dX3_copyFrom_15 rfl (lv_at hl 2 rfl) ?_
      refine lv_sipush (v := (225 : Int32)) hx hb dX3_copyFrom_16 (by decide) ?_
      refine lv_imul hx hb dX3_copyFrom_19 ?_
      refine lv_aload_n hx hb dX3_copyFrom_20 rfl (lv_at hl 0 rfl) ?_
      refine va_get (D := D) (ci := 3) (v := .ref aC) (C := RX3) (T := TX3) (N := 1) hx hb hts mi_X3_copyFrom_Hs_X3 hown hK.1 hP 0 rfl rfl 0 (by decide) (hts _ mm_X3_copyFrom_Hs_1) (fun _ h9 => h9) rfl dX3_copyFrom_21 ?_
      refine lv_iconst (v := (0 : Int32)) hx hb dX3_copyFrom_24 (by decide) ?_
      refine lv_sipush (v := (225 : Int32)) hx hb dX3_copyFrom_25 (by decide) ?_
      obtain ⟨vc_28, ⟨hq1, hq2, hq3, hq4, hq5⟩, hn, hF⟩ := k_cpy_ex hF
      refine va_copyi hx hb (hml.trans hl.1.symm) hown (hts _ mm_X3_copyFrom_Hs_2) (hts _ mm_X3_copyFrom_Hs_3) (hts _ mm_X3_copyFrom_Hs_4) (hts _ mm_X3_copyFrom_Hs_5) hK.1 hP hD hS 2 1 0 0 rfl rfl rfl rfl rfl hq1 hq2 hq3 hq4 hq5 (fun _ _ => rfl) (Nat.le_of_ble_eq_true rfl) (Nat.le_of_ble_eq_true rfl) dX3_copyFrom_28 (fun H locs hP hD hS => ?_)
      rw [← hn] at hP hD
      have hP : va_P D vwCl [(aS, .inr (3, [.ref aC])), (aC, .inl (cyI, 225, .inl vc_28)), (aHs, .inl (cyI, 1575, .inl vhs))] H := hP
      have hD : va_D A [(aS, .inr (3, [.ref aC])), (aC, .inl (cyI, 225, .inl vc_28)), (aHs, .inl (cyI, 1575, .inl vhs))] := hD
      have e0 := k_inj1 hF
      have hP9 : va_P D vwCl [(aS, .inr (3, [.ref aC])), (aC, .inl (cyI, 225, .inl vc')), (aHs, .inl (cyI, 1575, .inl vhs))] H := by rw [← e0]; exact hP
      exact W.vret hx hb hr (fun t ht hW => ⟨⟨(), rfl, trivial, x_ret hP9 ht⟩, hS.F ht⟩) hS.2.2 dX3_copyFrom_31
