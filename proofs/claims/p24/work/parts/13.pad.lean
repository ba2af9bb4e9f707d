theorem mm_X1_length_1 : Cond.fieldLink RX1 15 "RollerMesh$Pad" "length" "I" ∈ wsX1_length := List.mem_of_getElem? (i := 1) rfl
theorem mi_X1_length_X1 : ∀ w ∈ wsX10, w ∈ wsX1_length := fun _ h => List.mem_cons_of_mem _ (List.mem_append_right _ h)
set_option maxHeartbeats 4000000 in
set_option maxRecDepth 100000 in
theorem c_X1_length (l : Launch) (D : va_G) (cyI cyZ : ClassId) (aP aPc : Nat) (N : Nat) (vpl : Int32) {r0 : Int32}  (hF : p_X1_length N vpl = some (r0)) : Met l yX1_length wsX1_length ({ frames := 0, cells := 0, slots := 0, locals := 0 }) (x_PR D cyI cyZ [.ref aP] [(aP, .inr (1, [.ref aPc, .int vpl]))]) (x_QR r0) 0 0 (fun _ => False) := by
  refine Met.ofW (cc := cX1_length) (maxL := 1) (ret := (some .int)) (by decide) rfl ?_
  intro p e s m args below meth c s₁ B hml hv
  obtain ⟨rfl, hP, hK⟩ := hv
  have hx := B.exec
  have hb := B.bytes
  have hr := B.returns
  have hts := atoms_spec (ws := wsX1_length) B.pre
  have hown : s.vm.findClass RX1 = some m.cls := findClass_of_methodNamed B.named
  have hlocks := B.notSynchronized
  have hS : va_S (fun _ => False) s.heap s.heap [] := va_S.rf
  have hP : va_P D vwCl [(aP, .inr (1, [.ref aPc, .int vpl]))] s.heap := hP
  have hl := lv_entry ([.ref aP]) (n := 1) (Nat.le_of_ble_eq_true rfl)
  rw [lg_entry_eq]
  generalize (lg_sl ([.ref aP]) ++ List.replicate (1 - (lg_sl ([.ref aP])).length) Slot.unset).toArray = ls at hl ⊢
  have hl : lv_has ls 1 [(0, .ref aP)] := hl
  unfold p_X1_length at hF
  refine lv_aload_n hx hb dX1_length_0 rfl (lv_at hl 0 rfl) ?_
  refine va_get (D := D) (ci := 1) (v := .int vpl) (C := RX1) (T := TX1) (N := 2) hx hb hts mi_X1_length_X1 hown hK.1 hP 0 rfl rfl 1 (by decide) (hts _ mm_X1_length_1) (fun _ h9 => h9) rfl dX1_length_1 ?_
  exact W.iret hx hb hr (fun t ht hW => ⟨⟨_, (), rfl, Option.some.inj hF, trivial⟩, hS.F ht⟩) hS.2.2 dX1_length_4
theorem mm_X1_codeAt_1 : Cond.fieldLink RX1 15 "RollerMesh$Pad" "length" "I" ∈ wsX1_codeAt := List.mem_of_getElem? (i := 1) rfl
theorem mm_X1_codeAt_2 : Cond.fieldLink RX1 11 "RollerMesh$Pad" "codes" "[I" ∈ wsX1_codeAt := List.mem_of_getElem? (i := 2) rfl
theorem mi_X1_codeAt_X1 : ∀ w ∈ wsX10, w ∈ wsX1_codeAt := fun _ h => List.mem_cons_of_mem _ (List.mem_append_right _ h)
set_option maxHeartbeats 4000000 in
set_option maxRecDepth 100000 in
theorem c_X1_codeAt (l : Launch) (D : va_G) (cyI cyZ : ClassId) (aP aPc : Nat) (N : Nat) (x1 : Int32) (vpl : Int32) (vpp : (Nat → Int32)) {r0 : Int32}  (hF : p_X1_codeAt N x1 vpl vpp = some (r0)) : Met l yX1_codeAt wsX1_codeAt ({ frames := 0, cells := 0, slots := 0, locals := 0 }) (x_PR D cyI cyZ [.ref aP, .int x1] [(aP, .inr (1, [.ref aPc, .int vpl])), (aPc, .inl (cyI, 80, .inl vpp))]) (x_QR r0) 0 0 (fun _ => False) := by
  refine Met.ofW (cc := cX1_codeAt) (maxL := 2) (ret := (some .int)) (by decide) rfl ?_
  intro p e s m args below meth c s₁ B hml hv
  obtain ⟨rfl, hP, hK⟩ := hv
  have hx := B.exec
  have hb := B.bytes
  have hr := B.returns
  have hts := atoms_spec (ws := wsX1_codeAt) B.pre
  have hown : s.vm.findClass RX1 = some m.cls := findClass_of_methodNamed B.named
  have hlocks := B.notSynchronized
  have hS : va_S (fun _ => False) s.heap s.heap [] := va_S.rf
  have hP : va_P D vwCl [(aP, .inr (1, [.ref aPc, .int vpl])), (aPc, .inl (cyI, 80, .inl vpp))] s.heap := hP
  have hl := lv_entry ([.ref aP, .int x1]) (n := 2) (Nat.le_of_ble_eq_true rfl)
  rw [lg_entry_eq]
  generalize (lg_sl ([.ref aP, .int x1]) ++ List.replicate (2 - (lg_sl ([.ref aP, .int x1])).length) Slot.unset).toArray = ls at hl ⊢
  have hl : lv_has ls 2 [(0, .ref aP), (1, .int x1)] := hl
  unfold p_X1_codeAt at hF
  refine lv_iload_n hx hb dX1_codeAt_0 rfl (lv_at hl 1 rfl) ?_
  refine lv_if_lt (tgt := 30) hx hb dX1_codeAt_1 (by decide) (fun hc => ?_) (fun hc => ?_)
  · have hF := k_if_t hF hc
    refine lv_iconst (v := (0 : Int32)) hx hb dX1_codeAt_30 (by decide) ?_
    exact W.iret hx hb hr (fun t ht hW => ⟨⟨_, (), rfl, Option.some.inj hF, trivial⟩, hS.F ht⟩) hS.2.2 dX1_codeAt_31
  · have hF := k_if_f hF hc
    refine lv_iload_n hx hb dX1_codeAt_4 rfl (lv_at hl 1 rfl) ?_
    refine lv_aload_n hx hb dX1_codeAt_5 rfl (lv_at hl 0 rfl) ?_
    refine va_get (D := D) (ci := 1) (v := .int vpl) (C := RX1) (T := TX1) (N := 2) hx hb hts mi_X1_codeAt_X1 hown hK.1 hP 0 rfl rfl 1 (by decide) (hts _ mm_X1_codeAt_1) (fun _ h9 => h9) rfl dX1_codeAt_6 ?_
    refine lv_icmp_ge (tgt := 30) hx hb dX1_codeAt_9 (by decide) (fun hc => ?_) (fun hc => ?_)
    · have hF := k_if_t hF hc
      refine lv_iconst (v := (0 : Int32)) hx hb dX1_codeAt_30 (by decide) ?_
      exact W.iret hx hb hr (fun t ht hW => ⟨⟨_, (), rfl, Option.some.inj hF, trivial⟩, hS.F ht⟩) hS.2.2 dX1_codeAt_31
    · have hF := k_if_f hF hc
      refine lv_iload_n hx hb dX1_codeAt_12 rfl (lv_at hl 1 rfl) ?_
      refine lv_aload_n hx hb dX1_codeAt_13 rfl (lv_at hl 0 rfl) ?_
      refine va_get (D := D) (ci := 1) (v := .ref aPc) (C := RX1) (T := TX1) (N := 2) hx hb hts mi_X1_codeAt_X1 hown hK.1 hP 0 rfl rfl 0 (by decide) (hts _ mm_X1_codeAt_2) (fun _ h9 => h9) rfl dX1_codeAt_14 ?_
      refine x_alen (v := (80 : Int32)) hx hb hK hP 1 rfl rfl dX1_codeAt_17 ?_
      refine lv_icmp_ge (tgt := 30) hx hb dX1_codeAt_18 (by decide) (fun hc => ?_) (fun hc => ?_)
      · have hF := k_if_t hF hc
        refine lv_iconst (v := (0 : Int32)) hx hb dX1_codeAt_30 (by decide) ?_
        exact W.iret hx hb hr (fun t ht hW => ⟨⟨_, (), rfl, Option.some.inj hF, trivial⟩, hS.F ht⟩) hS.2.2 dX1_codeAt_31
      · have hF := k_if_f hF hc
        refine lv_aload_n hx hb dX1_codeAt_21 rfl (lv_at hl 0 rfl) ?_
        refine va_get (D := D) (ci := 1) (v := .ref aPc) (C := RX1) (T := TX1) (N := 2) hx hb hts mi_X1_codeAt_X1 hown hK.1 hP 0 rfl rfl 0 (by decide) (hts _ mm_X1_codeAt_2) (fun _ h9 => h9) rfl dX1_codeAt_22 ?_
        refine lv_iload_n hx hb dX1_codeAt_25 rfl (lv_at hl 1 rfl) ?_
        obtain ⟨r26, hin, hn, hF⟩ := k_ld_ex hF
        refine x_iald hx hb hK hP 1 rfl hin hn dX1_codeAt_26 ?_
        refine lv_goto (tgt := 31) hx hb dX1_codeAt_27 (by decide) ?_
        exact W.iret hx hb hr (fun t ht hW => ⟨⟨_, (), rfl, Option.some.inj hF, trivial⟩, hS.F ht⟩) hS.2.2 dX1_codeAt_31
theorem mm_X1_clear_1 : Cond.fieldLink RX1 15 "RollerMesh$Pad" "length" "I" ∈ wsX1_clear := List.mem_of_getElem? (i := 1) rfl
theorem mi_X1_clear_X1 : ∀ w ∈ wsX10, w ∈ wsX1_clear := fun _ h => List.mem_cons_of_mem _ (List.mem_append_right _ h)
set_option maxHeartbeats 4000000 in
set_option maxRecDepth 100000 in
theorem c_X1_clear (l : Launch) (D : va_G) (cyI cyZ : ClassId) (aP aPc : Nat) (sz : Nat) (N : Nat) (vpl : Int32) {r0 : Int32} {vpl' : Int32} (hF : p_X1_clear N vpl = some (r0, vpl')) : Met l yX1_clear wsX1_clear ({ frames := 0, cells := 0, slots := 0, locals := 0 }) (x_PM D cyI cyZ [.ref aP] [(aP, .inr (1, [.ref aPc, .int vpl]))] sz) (x_QM D r0 (va_A [(aP, .inr (1, [.ref aPc, .int vpl]))] sz) [(aP, .inr (1, [.ref aPc, .int vpl']))]) 0 0 (va_A [(aP, .inr (1, [.ref aPc, .int vpl]))] sz) := by
  refine Met.ofW (cc := cX1_clear) (maxL := 2) (ret := (some .int)) (by decide) rfl ?_
  intro p e s m args below meth c s₁ B hml hv
  obtain ⟨rfl, hsz, hP, hK, hD0⟩ := hv
  have hx := B.exec
  have hb := B.bytes
  have hr := B.returns
  have hts := atoms_spec (ws := wsX1_clear) B.pre
  have hown : s.vm.findClass RX1 = some m.cls := findClass_of_methodNamed B.named
  have hlocks := B.notSynchronized
  subst hsz
  have hD := hD0.self (sz := s.heap.size)
  generalize hAe : va_A [(aP, .inr (1, [.ref aPc, .int vpl]))] s.heap.size = A at hD ⊢
  have hA : ∀ q : Nat, s.heap.size ≤ q → A q := fun q h => by rw [← hAe]; exact Or.inr h
  have hS : va_S A s.heap s.heap [] := va_S.rf
  have hP : va_P D vwCl [(aP, .inr (1, [.ref aPc, .int vpl]))] s.heap := hP
  have hl := lv_entry ([.ref aP]) (n := 2) (Nat.le_of_ble_eq_true rfl)
  rw [lg_entry_eq]
  generalize (lg_sl ([.ref aP]) ++ List.replicate (2 - (lg_sl ([.ref aP])).length) Slot.unset).toArray = ls at hl ⊢
  have hl : lv_has ls 2 [(0, .ref aP)] := hl
  unfold p_X1_clear at hF
  refine lv_aload_n hx hb dX1_clear_0 rfl (lv_at hl 0 rfl) ?_
  refine va_get (D := D) (ci := 1) (v := .int vpl) (C := RX1) (T := TX1) (N := 2) hx hb hts mi_X1_clear_X1 hown hK.1 hP 0 rfl rfl 1 (by decide) (hts _ mm_X1_clear_1) (fun _ h9 => h9) rfl dX1_clear_1 ?_
  refine lv_istore_n (lv' := [(1, .int vpl), (0, .ref aP)]) hx hb dX1_clear_4 rfl hl (by decide) rfl (fun ls hl => ?_)
  refine lv_aload_n hx hb dX1_clear_5 rfl (lv_at hl 1 rfl) ?_
  refine lv_iconst (v := (0 : Int32)) hx hb dX1_clear_6 (by decide) ?_
  refine va_put (D := D) (ci := 1) (v := .int (0 : Int32)) (ty := .int) (C := RX1) (T := TX1) (N := 2) hx hb hts mi_X1_clear_X1 tyX1 tyX1_ok nmX1 hown hK.1 hP hD hS 0 rfl rfl 1 (by decide) (hts _ mm_X1_clear_1) (fun _ h9 => h9) rfl (by decide +kernel) rfl rfl (Nat.le_of_ble_eq_true rfl) dX1_clear_7 (fun H locs hP hD hS => ?_)
  have hP : va_P D vwCl [(aP, .inr (1, [.ref aPc, .int (0 : Int32)]))] H := hP
  have hD : va_D A [(aP, .inr (1, [.ref aPc, .int (0 : Int32)]))] := hD
  refine lv_iload_n hx hb dX1_clear_10 rfl (lv_at hl 0 rfl) ?_
  obtain ⟨e0, e1⟩ := k_inj2 hF
  have hP9 : va_P D vwCl [(aP, .inr (1, [.ref aPc, .int vpl']))] H := by rw [← e1]; exact hP
  exact W.iret hx hb hr (fun t ht hW => ⟨⟨_, (), rfl, e0, x_ret hP9 ht⟩, hS.F ht⟩) hS.2.2 dX1_clear_11
set_option maxHeartbeats 4000000 in
set_option maxRecDepth 100000 in
theorem c_X1_codeIn (l : Launch) (D : va_G) (cyI cyZ : ClassId) (N : Nat) (x0 : Int64) (x2 : Int32) {r0 : Int32}  (hF : p_X1_codeIn N x0 x2 = some (r0)) : Met l yX1_codeIn wsX1_codeIn ({ frames := 0, cells := 0, slots := 0, locals := 0 }) (x_PR D cyI cyZ [.long x0, .int x2] []) (x_QR r0) 0 0 (fun _ => False) := by
  refine Met.ofW (cc := cX1_codeIn) (maxL := 3) (ret := (some .int)) (by decide) rfl ?_
  intro p e s m args below meth c s₁ B hml hv
  obtain ⟨rfl, hP, hK⟩ := hv
  have hx := B.exec
  have hb := B.bytes
  have hr := B.returns
  have hts := atoms_spec (ws := wsX1_codeIn) B.pre
  have hown : s.vm.findClass RX1 = some m.cls := findClass_of_methodNamed B.named
  have hlocks := B.notSynchronized
  have hS : va_S (fun _ => False) s.heap s.heap [] := va_S.rf
  have hP : va_P D vwCl [] s.heap := hP
  have hl := lv_entry ([.long x0, .int x2]) (n := 3) (Nat.le_of_ble_eq_true rfl)
  rw [lg_entry_eq]
  generalize (lg_sl ([.long x0, .int x2]) ++ List.replicate (3 - (lg_sl ([.long x0, .int x2])).length) Slot.unset).toArray = ls at hl ⊢
  have hl : lv_has ls 3 [(0, .long x0), (2, .int x2)] := hl
  unfold p_X1_codeIn at hF
  refine lv_lload_n hx hb dX1_codeIn_0 rfl (lv_at hl 0 rfl) ?_
  refine lv_bipush (v := (8 : Int32)) hx hb dX1_codeIn_1 (by decide) ?_
  refine lv_iload_n hx hb dX1_codeIn_3 rfl (lv_at hl 1 rfl) ?_
  refine lv_imul hx hb dX1_codeIn_4 ?_
  refine lv_lushr (v := (k_ushr x0 ((8 : Int32) * x2))) hx hb dX1_codeIn_5 rfl ?_
  refine lv_l2i (v := (k_ushr x0 ((8 : Int32) * x2)).toInt32) hx hb dX1_codeIn_6 rfl ?_
  refine lv_sipush (v := (255 : Int32)) hx hb dX1_codeIn_7 (by decide) ?_
  refine lv_iand hx hb dX1_codeIn_10 ?_
  exact W.iret hx hb hr (fun t ht hW => ⟨⟨_, (), rfl, Option.some.inj hF, trivial⟩, hS.F ht⟩) hS.2.2 dX1_codeIn_11
theorem mm_X1_amountOf_5 : Cond.static yX6_outside ∈ wsX1_amountOf := List.mem_of_getElem? (i := 5) rfl
theorem mm_X1_amountOf_6 : Cond.initialized RX6 ∈ wsX1_amountOf := List.mem_of_getElem? (i := 6) rfl
set_option maxHeartbeats 4000000 in
set_option maxRecDepth 100000 in
theorem c_X1_amountOf (l : Launch) (D : va_G) (cyI cyZ : ClassId) (N : Nat) (x0 : Int64) {r0 : Int32}  (hF : p_X1_amountOf N x0 = some (r0)) : Met l yX1_amountOf wsX1_amountOf ({ frames := 1, cells := 0, slots := 0, locals := 22 }) (x_PR D cyI cyZ [.long x0] []) (x_QR r0) 0 0 (fun _ => False) := by
  refine Met.ofW (cc := cX1_amountOf) (maxL := 4) (ret := (some .int)) (by decide) rfl ?_
  intro p e s m args below meth c s₁ B hml hv
  obtain ⟨rfl, hP, hK⟩ := hv
  have hx := B.exec
  have hb := B.bytes
  have hr := B.returns
  have hts := atoms_spec (ws := wsX1_amountOf) B.pre
  have hown : s.vm.findClass RX1 = some m.cls := findClass_of_methodNamed B.named
  have hlocks := B.notSynchronized
  have hS : va_S (fun _ => False) s.heap s.heap [] := va_S.rf
  have hP : va_P D vwCl [] s.heap := hP
  have hl := lv_entry ([.long x0]) (n := 4) (Nat.le_of_ble_eq_true rfl)
  rw [lg_entry_eq]
  generalize (lg_sl ([.long x0]) ++ List.replicate (4 - (lg_sl ([.long x0])).length) Slot.unset).toArray = ls at hl ⊢
  have hl : lv_has ls 4 [(0, .long x0)] := hl
  refine x_gen (fun G hG => ?_)
  have blk_39 : ∀ (x0 : Int64) (x2 : Int32), b_X1_amountOf_39 N x0 x2 = some (r0) → ∀ (H : Heap) (locs : List Loc) (ls : Array Slot), va_P D vwCl [] H → va_S (fun _ => False) s.heap H locs → lv_has ls 4 [(0, .long x0), (2, .int x2)] → G H locs (F0 m 39 ls []) := by
    intro x0 x2 hF H locs ls hP hS hl
    unfold b_X1_amountOf_39 at hF
    refine (hG _ _ _).2 ?_
    refine lv_iload_n hx hb dX1_amountOf_39 rfl (lv_at hl 1 rfl) ?_
    refine lv_bipush (v := (8 : Int32)) hx hb dX1_amountOf_40 (by decide) ?_
    refine lv_icmp_ne (tgt := 49) hx hb dX1_amountOf_42 (by decide) (fun hc => ?_) (fun hc => ?_)
    · have hF := k_if_f hF hc
      refine lv_iconst (v := (0 : Int32)) hx hb dX1_amountOf_49 (by decide) ?_
      refine lv_istore_n (lv' := [(3, .int (0 : Int32)), (0, .long x0), (2, .int x2)]) hx hb dX1_amountOf_50 rfl hl (by decide) rfl (fun ls hl => ?_)
      refine lv_iload_n hx hb dX1_amountOf_51 rfl (lv_at hl 0 rfl) ?_
      refine lv_if_ne (tgt := 66) hx hb dX1_amountOf_52 (by decide) (fun hc => absurd hc (by decide)) (fun _ => ?_)
      refine lv_lload_n hx hb dX1_amountOf_55 rfl (lv_at hl 1 rfl) ?_
      refine lv_bipush (v := (8 : Int32)) hx hb dX1_amountOf_56 (by decide) ?_
      refine lv_iload_n hx hb dX1_amountOf_58 rfl (lv_at hl 2 rfl) ?_
      refine lv_imul hx hb dX1_amountOf_59 ?_
      refine lv_lushr (v := (k_ushr x0 ((8 : Int32) * x2))) hx hb dX1_amountOf_60 rfl ?_
      refine lv_lconst (v := (0 : Int64)) hx hb dX1_amountOf_61 (by decide) ?_
      refine W.lcmp hx hb dX1_amountOf_62 ?_
      refine lv_if_ne (tgt := 70) hx hb dX1_amountOf_63 (by decide) (fun hc => ?_) (fun hc => ?_)
      · have hF := k_if_f hF hc
        refine lv_iconst (v := (0 : Int32)) hx hb dX1_amountOf_70 (by decide) ?_
        exact W.iret hx hb hr (fun t ht hW => ⟨⟨_, (), rfl, Option.some.inj hF, trivial⟩, hS.F ht⟩) hS.2.2 dX1_amountOf_71
      · have hF := k_if_t hF hc
        refine lv_iload_n hx hb dX1_amountOf_66 rfl (lv_at hl 2 rfl) ?_
        refine lv_goto (tgt := 71) hx hb dX1_amountOf_67 (by decide) ?_
        exact W.iret hx hb hr (fun t ht hW => ⟨⟨_, (), rfl, Option.some.inj hF, trivial⟩, hS.F ht⟩) hS.2.2 dX1_amountOf_71
    · have hF := k_if_t hF hc
      refine lv_iconst (v := (1 : Int32)) hx hb dX1_amountOf_45 (by decide) ?_
      refine lv_goto (tgt := 50) hx hb dX1_amountOf_46 (by decide) ?_
      refine lv_istore_n (lv' := [(3, .int (1 : Int32)), (0, .long x0), (2, .int x2)]) hx hb dX1_amountOf_50 rfl hl (by decide) rfl (fun ls hl => ?_)
      refine lv_iload_n hx hb dX1_amountOf_51 rfl (lv_at hl 0 rfl) ?_
      refine lv_if_ne (tgt := 66) hx hb dX1_amountOf_52 (by decide) (fun _ => ?_) (fun hc => absurd hc (by decide))
      refine lv_iload_n hx hb dX1_amountOf_66 rfl (lv_at hl 2 rfl) ?_
      refine lv_goto (tgt := 71) hx hb dX1_amountOf_67 (by decide) ?_
      exact W.iret hx hb hr (fun t ht hW => ⟨⟨_, (), rfl, Option.some.inj hF, trivial⟩, hS.F ht⟩) hS.2.2 dX1_amountOf_71
  have blk_2 : ∀ (n_2 : Nat) (x0 : Int64) (x2 : Int32), f_X1_amountOf_2 N n_2 x0 x2 = some (r0) → ∀ (H : Heap) (locs : List Loc) (ls : Array Slot), va_P D vwCl [] H → va_S (fun _ => False) s.heap H locs → lv_has ls 4 [(0, .long x0), (2, .int x2)] → G H locs (F0 m 2 ls []) := by
    intro n_2
    induction n_2 with
    | zero => intro x0 x2 hF; exact (k_none hF).elim
    | succ n_2 ih_2 =>
      intro x0 x2 hF H locs ls hP hS hl
      replace hF : b_X1_amountOf_2 N (f_X1_amountOf_2 N n_2) x0 x2 = some (r0) := hF
      unfold b_X1_amountOf_2 at hF
      refine (hG _ _ _).2 ?_
      refine lv_iload_n hx hb dX1_amountOf_2 rfl (lv_at hl 1 rfl) ?_
      refine lv_bipush (v := (8 : Int32)) hx hb dX1_amountOf_3 (by decide) ?_
      refine lv_icmp_ge (tgt := 39) hx hb dX1_amountOf_5 (by decide) (fun hc => ?_) (fun hc => ?_)
      · have hF := k_if_t hF hc
        exact (hG _ _ _).1 (blk_39 x0 x2 hF _ _ _ hP hS (lv_sub hl [0, 1] rfl))
      · have hF := k_if_f hF hc
        refine lv_lload_n hx hb dX1_amountOf_8 rfl (lv_at hl 0 rfl) ?_
        refine lv_iload_n hx hb dX1_amountOf_9 rfl (lv_at hl 1 rfl) ?_
        obtain ⟨r10, hC, hF⟩ := k_c1_ex hF
        refine x_SR (As := [.long x0, .int x2]) (rest := []) ⟨hx, hb, hml, hown, hts⟩ (c_X1_codeIn l D cyI cyZ N x0 x2 hC) (va_cwS 2 hts gX1_amountOf_X1_codeIn rfl rfl rfl (by decide +kernel) ⟨Nat.le_of_ble_eq_true rfl, Nat.le_of_ble_eq_true rfl⟩) hK hP hS [] rfl rfl hl.1 rfl (Nat.le_of_ble_eq_true rfl) ⟨Nat.zero_le _, Nat.zero_le _⟩ dX1_amountOf_10 (fun H locs hP hS => ?_)
        refine lv_if_eq (tgt := 39) hx hb dX1_amountOf_13 (by decide) (fun hc => ?_) (fun hc => ?_)
        · have hF := k_if_t hF hc
          exact (hG _ _ _).1 (blk_39 x0 x2 hF _ _ _ hP hS (lv_sub hl [0, 1] rfl))
        · have hF := k_if_f hF hc
          refine lv_lload_n hx hb dX1_amountOf_16 rfl (lv_at hl 0 rfl) ?_
          refine lv_iload_n hx hb dX1_amountOf_17 rfl (lv_at hl 1 rfl) ?_
          obtain ⟨r18, hC, hF⟩ := k_c1_ex hF
          refine x_SR (As := [.long x0, .int x2]) (rest := []) ⟨hx, hb, hml, hown, hts⟩ (c_X1_codeIn l D cyI cyZ N x0 x2 hC) (va_cwS 2 hts gX1_amountOf_X1_codeIn rfl rfl rfl (by decide +kernel) ⟨Nat.le_of_ble_eq_true rfl, Nat.le_of_ble_eq_true rfl⟩) hK hP hS [] rfl rfl hl.1 rfl (Nat.le_of_ble_eq_true rfl) ⟨Nat.zero_le _, Nat.zero_le _⟩ dX1_amountOf_18 (fun H locs hP hS => ?_)
          refine lv_bipush (v := (33 : Int32)) hx hb dX1_amountOf_21 (by decide) ?_
          refine lv_bipush (v := (126 : Int32)) hx hb dX1_amountOf_23 (by decide) ?_
          obtain ⟨r25, hC, hF⟩ := k_c1_ex hF
          refine x_NR (As := [.int r18, .int (33 : Int32), .int (126 : Int32)]) (rest := []) ⟨hx, hb, hml, hown, hts⟩ (c_X6_outside l D cyI cyZ N r18 (33 : Int32) (126 : Int32) hC) ⟨va_cnB 3 hts gX1_amountOf_X6_outside_n31 rfl rfl rfl hK.2.2.1 (hts _ mm_X1_amountOf_6) (by decide +kernel) ⟨Nat.le_of_ble_eq_true rfl, Nat.le_of_ble_eq_true rfl⟩, hts _ mm_X1_amountOf_5, trivial⟩ hK hP hS [] rfl rfl hl.1 rfl (Nat.le_of_ble_eq_true rfl) ⟨Nat.zero_le _, Nat.zero_le _⟩ dX1_amountOf_25 (fun H locs hP hS => ?_)
          refine lv_if_eq (tgt := 33) hx hb dX1_amountOf_28 (by decide) (fun hc => ?_) (fun hc => ?_)
          · have hF := k_if_t hF hc
            obtain ⟨x2_33, hn, hF⟩ := k_let_ex hF
            refine lv_iinc (v := x2_33) (lv' := [(2, .int x2_33), (0, .long x0)]) hx hb dX1_amountOf_33 hl (k := 1) rfl (by rw [hn]; rfl) (by decide) rfl (fun ls hl => ?_)
            refine lv_goto (tgt := 2) hx hb dX1_amountOf_36 (by decide) ?_
            exact (hG _ _ _).1 (ih_2 x0 x2_33 hF _ _ _ hP hS (lv_sub hl [1, 0] rfl))
          · have hF := k_if_f hF hc
            refine lv_iconst (v := (0 : Int32)) hx hb dX1_amountOf_31 (by decide) ?_
            exact W.iret hx hb hr (fun t ht hW => ⟨⟨_, (), rfl, Option.some.inj hF, trivial⟩, hS.F ht⟩) hS.2.2 dX1_amountOf_32
  refine (hG _ _ _).2 ?_
  unfold p_X1_amountOf at hF
  refine lv_iconst (v := (0 : Int32)) hx hb dX1_amountOf_0 (by decide) ?_
  refine lv_istore_n (lv' := [(2, .int (0 : Int32)), (0, .long x0)]) hx hb dX1_amountOf_1 rfl hl (by decide) rfl (fun ls hl => ?_)
  exact (hG _ _ _).1 (blk_2 N x0 (0 : Int32) hF _ _ _ hP hS (lv_sub hl [1, 0] rfl))
theorem mm_X1_add_1 : Cond.fieldLink RX1 15 "RollerMesh$Pad" "length" "I" ∈ wsX1_add := List.mem_of_getElem? (i := 1) rfl
theorem mm_X1_add_2 : Cond.fieldLink RX1 11 "RollerMesh$Pad" "codes" "[I" ∈ wsX1_add := List.mem_of_getElem? (i := 2) rfl
theorem mi_X1_add_X1 : ∀ w ∈ wsX10, w ∈ wsX1_add := fun _ h => List.mem_cons_of_mem _ (List.mem_append_right _ h)
set_option maxHeartbeats 4000000 in
set_option maxRecDepth 100000 in
theorem c_X1_add (l : Launch) (D : va_G) (cyI cyZ : ClassId) (aP aPc : Nat) (sz : Nat) (N : Nat) (x1 : Int32) (vpl : Int32) (vpp : (Nat → Int32)) {vpl' : Int32} {vpp' : (Nat → Int32)} (hF : p_X1_add N x1 vpl vpp = some (vpl', vpp')) : Met l yX1_add wsX1_add ({ frames := 0, cells := 0, slots := 0, locals := 0 }) (x_PM D cyI cyZ [.ref aP, .int x1] [(aP, .inr (1, [.ref aPc, .int vpl])), (aPc, .inl (cyI, 80, .inl vpp))] sz) (x_QV D (va_A [(aP, .inr (1, [.ref aPc, .int vpl])), (aPc, .inl (cyI, 80, .inl vpp))] sz) [(aP, .inr (1, [.ref aPc, .int vpl'])), (aPc, .inl (cyI, 80, .inl vpp'))]) 0 0 (va_A [(aP, .inr (1, [.ref aPc, .int vpl])), (aPc, .inl (cyI, 80, .inl vpp))] sz) := by
  refine Met.ofW (cc := cX1_add) (maxL := 2) (ret := none) (by decide) rfl ?_
  intro p e s m args below meth c s₁ B hml hv
  obtain ⟨rfl, hsz, hP, hK, hD0⟩ := hv
  have hx := B.exec
  have hb := B.bytes
  have hr := B.returns
  have hts := atoms_spec (ws := wsX1_add) B.pre
  have hown : s.vm.findClass RX1 = some m.cls := findClass_of_methodNamed B.named
  have hlocks := B.notSynchronized
  subst hsz
  have hD := hD0.self (sz := s.heap.size)
  generalize hAe : va_A [(aP, .inr (1, [.ref aPc, .int vpl])), (aPc, .inl (cyI, 80, .inl vpp))] s.heap.size = A at hD ⊢
  have hA : ∀ q : Nat, s.heap.size ≤ q → A q := fun q h => by rw [← hAe]; exact Or.inr h
  have hS : va_S A s.heap s.heap [] := va_S.rf
  have hP : va_P D vwCl [(aP, .inr (1, [.ref aPc, .int vpl])), (aPc, .inl (cyI, 80, .inl vpp))] s.heap := hP
  have hl := lv_entry ([.ref aP, .int x1]) (n := 2) (Nat.le_of_ble_eq_true rfl)
  rw [lg_entry_eq]
  generalize (lg_sl ([.ref aP, .int x1]) ++ List.replicate (2 - (lg_sl ([.ref aP, .int x1])).length) Slot.unset).toArray = ls at hl ⊢
  have hl : lv_has ls 2 [(0, .ref aP), (1, .int x1)] := hl
  unfold p_X1_add at hF
  refine lv_aload_n hx hb dX1_add_0 rfl (lv_at hl 0 rfl) ?_
  refine va_get (D := D) (ci := 1) (v := .int vpl) (C := RX1) (T := TX1) (N := 2) hx hb hts mi_X1_add_X1 hown hK.1 hP 0 rfl rfl 1 (by decide) (hts _ mm_X1_add_1) (fun _ h9 => h9) rfl dX1_add_1 ?_
  refine lv_if_lt (tgt := 39) hx hb dX1_add_4 (by decide) (fun hc => ?_) (fun hc => ?_)
  · have hF := k_if_t hF hc
    obtain ⟨e0, e1⟩ := k_inj2 hF
    have hP9 : va_P D vwCl [(aP, .inr (1, [.ref aPc, .int vpl'])), (aPc, .inl (cyI, 80, .inl vpp'))] s.heap := by rw [← e0, ← e1]; exact hP
    exact W.vret hx hb hr (fun t ht hW => ⟨⟨(), rfl, trivial, x_ret hP9 ht⟩, hS.F ht⟩) hS.2.2 dX1_add_39
  · have hF := k_if_f hF hc
    refine lv_aload_n hx hb dX1_add_7 rfl (lv_at hl 0 rfl) ?_
    refine va_get (D := D) (ci := 1) (v := .int vpl) (C := RX1) (T := TX1) (N := 2) hx hb hts mi_X1_add_X1 hown hK.1 hP 0 rfl rfl 1 (by decide) (hts _ mm_X1_add_1) (fun _ h9 => h9) rfl dX1_add_8 ?_
    refine lv_aload_n hx hb dX1_add_11 rfl (lv_at hl 0 rfl) ?_
    refine va_get (D := D) (ci := 1) (v := .ref aPc) (C := RX1) (T := TX1) (N := 2) hx hb hts mi_X1_add_X1 hown hK.1 hP 0 rfl rfl 0 (by decide) (hts _ mm_X1_add_2) (fun _ h9 => h9) rfl dX1_add_12 ?_
    refine x_alen (v := (80 : Int32)) hx hb hK hP 1 rfl rfl dX1_add_15 ?_
    refine lv_icmp_ge (tgt := 39) hx hb dX1_add_16 (by decide) (fun hc => ?_) (fun hc => ?_)
    · have hF := k_if_t hF hc
      obtain ⟨e0, e1⟩ := k_inj2 hF
      have hP9 : va_P D vwCl [(aP, .inr (1, [.ref aPc, .int vpl'])), (aPc, .inl (cyI, 80, .inl vpp'))] s.heap := by rw [← e0, ← e1]; exact hP
      exact W.vret hx hb hr (fun t ht hW => ⟨⟨(), rfl, trivial, x_ret hP9 ht⟩, hS.F ht⟩) hS.2.2 dX1_add_39
    · have hF := k_if_f hF hc
      refine lv_aload_n hx hb dX1_add_19 rfl (lv_at hl 0 rfl) ?_
      refine va_get (D := D) (ci := 1) (v := .ref aPc) (C := RX1) (T := TX1) (N := 2) hx hb hts mi_X1_add_X1 hown hK.1 hP 0 rfl rfl 0 (by decide) (hts _ mm_X1_add_2) (fun _ h9 => h9) rfl dX1_add_20 ?_
      refine lv_aload_n hx hb dX1_add_23 rfl (lv_at hl 0 rfl) ?_
      refine va_get (D := D) (ci := 1) (v := .int vpl) (C := RX1) (T := TX1) (N := 2) hx hb hts mi_X1_add_X1 hown hK.1 hP 0 rfl rfl 1 (by decide) (hts _ mm_X1_add_1) (fun _ h9 => h9) rfl dX1_add_24 ?_
      refine lv_iload_n hx hb dX1_add_27 rfl (lv_at hl 1 rfl) ?_
      obtain ⟨vpp_28, hin, hn, hF⟩ := k_st_ex hF
      refine x_iast hx hb hK hP hD hS 1 rfl hin hn dX1_add_28 (fun H locs hP hD hS => ?_)
      have hP : va_P D vwCl [(aP, .inr (1, [.ref aPc, .int vpl])), (aPc, .inl (cyI, 80, .inl vpp_28))] H := hP
      have hD : va_D A [(aP, .inr (1, [.ref aPc, .int vpl])), (aPc, .inl (cyI, 80, .inl vpp_28))] := hD
      refine lv_aload_n hx hb dX1_add_29 rfl (lv_at hl 0 rfl) ?_
      refine lv_dup hx hb dX1_add_30 rfl ?_
      refine va_get (D := D) (ci := 1) (v := .int vpl) (C := RX1) (T := TX1) (N := 2) hx hb hts mi_X1_add_X1 hown hK.1 hP 0 rfl rfl 1 (by decide) (hts _ mm_X1_add_1) (fun _ h9 => h9) rfl dX1_add_31 ?_
      refine lv_iconst (v := (1 : Int32)) hx hb dX1_add_34 (by decide) ?_
      refine lv_iadd hx hb dX1_add_35 ?_
      obtain ⟨vpl_36, hn, hF⟩ := k_let_ex hF
      refine x_nm hn ?_
      refine va_put (D := D) (ci := 1) (v := .int vpl_36) (ty := .int) (C := RX1) (T := TX1) (N := 2) hx hb hts mi_X1_add_X1 tyX1 tyX1_ok nmX1 hown hK.1 hP hD hS 0 rfl rfl 1 (by decide) (hts _ mm_X1_add_1) (fun _ h9 => h9) rfl (by decide +kernel) rfl rfl (Nat.le_of_ble_eq_true rfl) dX1_add_36 (fun H locs hP hD hS => ?_)
      have hP : va_P D vwCl [(aP, .inr (1, [.ref aPc, .int vpl_36])), (aPc, .inl (cyI, 80, .inl vpp_28))] H := hP
      have hD : va_D A [(aP, .inr (1, [.ref aPc, .int vpl_36])), (aPc, .inl (cyI, 80, .inl vpp_28))] := hD
      obtain ⟨e0, e1⟩ := k_inj2 hF
      have hP9 : va_P D vwCl [(aP, .inr (1, [.ref aPc, .int vpl'])), (aPc, .inl (cyI, 80, .inl vpp'))] H := by rw [← e0, ← e1]; exact hP
      exact W.vret hx hb hr (fun t ht hW => ⟨⟨(), rfl, trivial, x_ret hP9 ht⟩, hS.F ht⟩) hS.2.2 dX1_add_39
theorem mm_X1_append_1 : Cond.fieldLink RX1 15 "RollerMesh$Pad" "length" "I" ∈ wsX1_append := List.mem_of_getElem? (i := 1) rfl
theorem mi_X1_append_X1 : ∀ w ∈ wsX10, w ∈ wsX1_append := fun _ h => List.mem_cons_of_mem _ (List.mem_append_right _ h)
set_option maxHeartbeats 4000000 in
set_option maxRecDepth 100000 in
theorem c_X1_append (l : Launch) (D : va_G) (cyI cyZ : ClassId) (aP aPc : Nat) (sz : Nat) (N : Nat) (x1 : Int64) (vpl : Int32) (vpp : (Nat → Int32)) {r0 : Int32} {vpl' : Int32} {vpp' : (Nat → Int32)} (hF : p_X1_append N x1 vpl vpp = some (r0, vpl', vpp')) : Met l yX1_append wsX1_append ({ frames := 2, cells := 0, slots := 0, locals := 45 }) (x_PM D cyI cyZ [.ref aP, .long x1] [(aP, .inr (1, [.ref aPc, .int vpl])), (aPc, .inl (cyI, 80, .inl vpp))] sz) (x_QM D r0 (va_A [(aP, .inr (1, [.ref aPc, .int vpl])), (aPc, .inl (cyI, 80, .inl vpp))] sz) [(aP, .inr (1, [.ref aPc, .int vpl'])), (aPc, .inl (cyI, 80, .inl vpp'))]) 0 0 (va_A [(aP, .inr (1, [.ref aPc, .int vpl])), (aPc, .inl (cyI, 80, .inl vpp))] sz) := by
  refine Met.ofW (cc := cX1_append) (maxL := 5) (ret := (some .int)) (by decide) rfl ?_
  intro p e s m args below meth c s₁ B hml hv
  obtain ⟨rfl, hsz, hP, hK, hD0⟩ := hv
  have hx := B.exec
  have hb := B.bytes
  have hr := B.returns
  have hts := atoms_spec (ws := wsX1_append) B.pre
  have hown : s.vm.findClass RX1 = some m.cls := findClass_of_methodNamed B.named
  have hlocks := B.notSynchronized
  subst hsz
  have hD := hD0.self (sz := s.heap.size)
  generalize hAe : va_A [(aP, .inr (1, [.ref aPc, .int vpl])), (aPc, .inl (cyI, 80, .inl vpp))] s.heap.size = A at hD ⊢
  have hA : ∀ q : Nat, s.heap.size ≤ q → A q := fun q h => by rw [← hAe]; exact Or.inr h
  have hS : va_S A s.heap s.heap [] := va_S.rf
  have hP : va_P D vwCl [(aP, .inr (1, [.ref aPc, .int vpl])), (aPc, .inl (cyI, 80, .inl vpp))] s.heap := hP
  have hl := lv_entry ([.ref aP, .long x1]) (n := 5) (Nat.le_of_ble_eq_true rfl)
  rw [lg_entry_eq]
  generalize (lg_sl ([.ref aP, .long x1]) ++ List.replicate (5 - (lg_sl ([.ref aP, .long x1])).length) Slot.unset).toArray = ls at hl ⊢
  have hl : lv_has ls 5 [(0, .ref aP), (1, .long x1)] := hl
  refine x_gen (fun G hG => ?_)
  have blk_31 : ∀ (n_31 : Nat) (x1 : Int64) (x4 : Int32) (vpl : Int32) (vpp : (Nat → Int32)), f_X1_append_31 N n_31 x1 x4 vpl vpp = some (r0, vpl', vpp') → ∀ (H : Heap) (locs : List Loc) (ls : Array Slot), va_P D vwCl [(aP, .inr (1, [.ref aPc, .int vpl])), (aPc, .inl (cyI, 80, .inl vpp))] H → va_D A [(aP, .inr (1, [.ref aPc, .int vpl])), (aPc, .inl (cyI, 80, .inl vpp))] → va_S A s.heap H locs → lv_has ls 5 [(0, .ref aP), (1, .long x1), (4, .int x4)] → G H locs (F0 m 31 ls []) := by
    intro n_31
    induction n_31 with
    | zero => intro x1 x4 vpl vpp hF; exact (k_none hF).elim
    | succ n_31 ih_31 =>
      intro x1 x4 vpl vpp hF H locs ls hP hD hS hl
      replace hF : b_X1_append_31 N (f_X1_append_31 N n_31) x1 x4 vpl vpp = some (r0, vpl', vpp') := hF
      unfold b_X1_append_31 at hF
      refine (hG _ _ _).2 ?_
      refine lv_iload hx hb dX1_append_31 (lv_at hl 2 rfl) ?_
      refine lv_if_lt (tgt := 52) hx hb dX1_append_33 (by decide) (fun hc => ?_) (fun hc => ?_)
      · have hF := k_if_t hF hc
        refine lv_aload_n hx hb dX1_append_52 rfl (lv_at hl 0 rfl) ?_
        refine va_get (D := D) (ci := 1) (v := .int vpl) (C := RX1) (T := TX1) (N := 2) hx hb hts mi_X1_append_X1 hown hK.1 hP 0 rfl rfl 1 (by decide) (hts _ mm_X1_append_1) (fun _ h9 => h9) rfl dX1_append_53 ?_
        obtain ⟨e0, e1, e2⟩ := k_inj3 hF
        have hP9 : va_P D vwCl [(aP, .inr (1, [.ref aPc, .int vpl'])), (aPc, .inl (cyI, 80, .inl vpp'))] H := by rw [← e1, ← e2]; exact hP
        exact W.iret hx hb hr (fun t ht hW => ⟨⟨_, (), rfl, e0, x_ret hP9 ht⟩, hS.F ht⟩) hS.2.2 dX1_append_56
      · have hF := k_if_f hF hc
        refine lv_aload_n hx hb dX1_append_36 rfl (lv_at hl 0 rfl) ?_
        refine lv_lload_n hx hb dX1_append_37 rfl (lv_at hl 1 rfl) ?_
        refine lv_iload hx hb dX1_append_38 (lv_at hl 2 rfl) ?_
        obtain ⟨r40, hC, hF⟩ := k_c1_ex hF
        refine x_SR (As := [.long x1, .int x4]) (rest := [.ref aP]) ⟨hx, hb, hml, hown, hts⟩ (c_X1_codeIn l D cyI cyZ N x1 x4 hC) (va_cwS 2 hts gX1_append_X1_codeIn rfl rfl rfl (by decide +kernel) ⟨Nat.le_of_ble_eq_true rfl, Nat.le_of_ble_eq_true rfl⟩) hK hP hS [] rfl rfl hl.1 rfl (Nat.le_of_ble_eq_true rfl) ⟨Nat.zero_le _, Nat.zero_le _⟩ dX1_append_40 (fun H locs hP hS => ?_)
        obtain ⟨vpl_43, vpp_43, hC, hF⟩ := k_c2_ex hF
        refine x_VV (As := [.int r40]) (rest := []) ⟨hx, hb, hml, hown, hts⟩ (c_X1_add l D cyI cyZ aP aPc H.size N r40 vpl vpp hC) (cwV 1 hts gX1_append_X1_add rfl rfl rfl (by decide +kernel) ⟨Nat.le_of_ble_eq_true rfl, Nat.le_of_ble_eq_true rfl⟩) hK hP hD hS hA [0, 1] rfl rfl rfl 0 rfl rfl rfl rfl hl.1 rfl (Nat.le_of_ble_eq_true rfl) ⟨Nat.zero_le _, Nat.zero_le _⟩ dX1_append_43 (fun H locs hP hD hS => ?_)
        have hP : va_P D vwCl [(aP, .inr (1, [.ref aPc, .int vpl_43])), (aPc, .inl (cyI, 80, .inl vpp_43))] H := hP
        have hD : va_D A [(aP, .inr (1, [.ref aPc, .int vpl_43])), (aPc, .inl (cyI, 80, .inl vpp_43))] := hD
        obtain ⟨x4_46, hn, hF⟩ := k_let_ex hF
        refine lv_iinc (v := x4_46) (lv' := [(4, .int x4_46), (0, .ref aP), (1, .long x1)]) hx hb dX1_append_46 hl (k := 2) rfl (by rw [hn]; rfl) (by decide) rfl (fun ls hl => ?_)
        refine lv_goto (tgt := 31) hx hb dX1_append_49 (by decide) ?_
        exact (hG _ _ _).1 (ih_31 x1 x4_46 vpl_43 vpp_43 hF _ _ _ hP hD hS (lv_sub hl [1, 2, 0] rfl))
  refine (hG _ _ _).2 ?_
  unfold p_X1_append at hF
  refine lv_lload_n hx hb dX1_append_0 rfl (lv_at hl 1 rfl) ?_
  obtain ⟨r1, hC, hF⟩ := k_c1_ex hF
  refine x_SR (As := [.long x1]) (rest := []) ⟨hx, hb, hml, hown, hts⟩ (c_X1_amountOf l D cyI cyZ N x1 hC) (va_cwS 1 hts gX1_append_X1_amountOf rfl rfl rfl (by decide +kernel) ⟨Nat.le_of_ble_eq_true rfl, Nat.le_of_ble_eq_true rfl⟩) hK hP hS [] rfl rfl hl.1 rfl (Nat.le_of_ble_eq_true rfl) ⟨Nat.zero_le _, Nat.zero_le _⟩ dX1_append_1 (fun H locs hP hS => ?_)
  refine lv_istore_n (lv' := [(3, .int r1), (0, .ref aP), (1, .long x1)]) hx hb dX1_append_4 rfl hl (by decide) rfl (fun ls hl => ?_)
  refine lv_iload_n hx hb dX1_append_5 rfl (lv_at hl 0 rfl) ?_
  refine lv_if_ne (tgt := 12) hx hb dX1_append_6 (by decide) (fun hc => ?_) (fun hc => ?_)
  · have hF := k_if_f hF hc
    refine lv_aload_n hx hb dX1_append_12 rfl (lv_at hl 1 rfl) ?_
    refine va_get (D := D) (ci := 1) (v := .int vpl) (C := RX1) (T := TX1) (N := 2) hx hb hts mi_X1_append_X1 hown hK.1 hP 0 rfl rfl 1 (by decide) (hts _ mm_X1_append_1) (fun _ h9 => h9) rfl dX1_append_13 ?_
    refine lv_iload_n hx hb dX1_append_16 rfl (lv_at hl 0 rfl) ?_
    refine lv_iadd hx hb dX1_append_17 ?_
    refine lv_bipush (v := (80 : Int32)) hx hb dX1_append_18 (by decide) ?_
    refine lv_icmp_le (tgt := 26) hx hb dX1_append_20 (by decide) (fun hc => ?_) (fun hc => ?_)
    · have hF := k_if_t hF hc
      refine lv_iload_n hx hb dX1_append_26 rfl (lv_at hl 0 rfl) ?_
      refine lv_iconst (v := (1 : Int32)) hx hb dX1_append_27 (by decide) ?_
      refine lv_isub hx hb dX1_append_28 ?_
      obtain ⟨x4_29, hn, hF⟩ := k_let_ex hF
      refine x_nm hn ?_
      refine lv_istore (lv' := [(4, .int x4_29), (3, .int r1), (0, .ref aP), (1, .long x1)]) hx hb dX1_append_29 hl (by decide) rfl (fun ls hl => ?_)
      exact (hG _ _ _).1 (blk_31 N x1 x4_29 vpl vpp hF _ _ _ hP hD hS (lv_sub hl [2, 3, 0] rfl))
    · have hF := k_if_f hF hc
      refine lv_bipush (v := (-4 : Int32)) hx hb dX1_append_23 (by decide) ?_
      obtain ⟨e0, e1, e2⟩ := k_inj3 hF
      have hP9 : va_P D vwCl [(aP, .inr (1, [.ref aPc, .int vpl'])), (aPc, .inl (cyI, 80, .inl vpp'))] H := by rw [← e1, ← e2]; exact hP
      exact W.iret hx hb hr (fun t ht hW => ⟨⟨_, (), rfl, e0, x_ret hP9 ht⟩, hS.F ht⟩) hS.2.2 dX1_append_25
  · have hF := k_if_t hF hc
    refine lv_bipush (v := (-2 : Int32)) hx hb dX1_append_9 (by decide) ?_
    obtain ⟨e0, e1, e2⟩ := k_inj3 hF
    have hP9 : va_P D vwCl [(aP, .inr (1, [.ref aPc, .int vpl'])), (aPc, .inl (cyI, 80, .inl vpp'))] H := by rw [← e1, ← e2]; exact hP
    exact W.iret hx hb hr (fun t ht hW => ⟨⟨_, (), rfl, e0, x_ret hP9 ht⟩, hS.F ht⟩) hS.2.2 dX1_append_11
