theorem mm_X0_prepare_1 : Cond.fieldLink RX0 13 "RollerMesh$History" "states" "[I" ∈ wsX0_prepare := List.mem_of_getElem? (i := 1) rfl
theorem mm_X0_prepare_2 : Cond.fieldLink RX0 21 "RollerMesh$History" "free" "I" ∈ wsX0_prepare := List.mem_of_getElem? (i := 2) rfl
theorem mi_X0_prepare_X0 : ∀ w ∈ wsX00, w ∈ wsX0_prepare := fun _ h => List.mem_cons_of_mem _ (List.mem_append_left _ (List.mem_append_right _ h))
set_option maxHeartbeats 4000000 in
set_option maxRecDepth 100000 in
theorem c_X0_prepare (l : Launch) (D : va_G) (cyI cyZ : ClassId) (aS aC aH aHs : Nat) (sz : Nat) (N : Nat) (vc : (Nat → Int32)) (vhf : Int32) (vhl : Int32) (vhs : (Nat → Int32)) {vhs' : (Nat → Int32)} (hF : p_X0_prepare N vc vhf vhl vhs = some (vhs')) : Met l yX0_prepare wsX0_prepare ({ frames := 2, cells := 0, slots := 0, locals := 48 }) (x_PM D cyI cyZ [.ref aH, .ref aS] [(aS, .inr (3, [.ref aC])), (aC, .inl (cyI, 225, .inl vc)), (aH, .inr (0, [.ref aHs, .int vhf, .int vhl])), (aHs, .inl (cyI, 1575, .inl vhs))] sz) (x_QV D (va_A [(aS, .inr (3, [.ref aC])), (aC, .inl (cyI, 225, .inl vc)), (aH, .inr (0, [.ref aHs, .int vhf, .int vhl])), (aHs, .inl (cyI, 1575, .inl vhs))] sz) [(aS, .inr (3, [.ref aC])), (aC, .inl (cyI, 225, .inl vc)), (aH, .inr (0, [.ref aHs, .int vhf, .int vhl])), (aHs, .inl (cyI, 1575, .inl vhs'))]) 0 0 (va_A [(aS, .inr (3, [.ref aC])), (aC, .inl (cyI, 225, .inl vc)), (aH, .inr (0, [.ref aHs, .int vhf, .int vhl])), (aHs, .inl (cyI, 1575, .inl vhs))] sz) := by
  refine Met.ofW (cc := cX0_prepare) (maxL := 2) (ret := none) (by decide) rfl ?_
  intro p e s m args below meth c s₁ B hml hv
  obtain ⟨rfl, hsz, hP, hK, hD0⟩ := hv
  have hx := B.exec
  have hb := B.bytes
  have hr := B.returns
  have hts := atoms_spec (ws := wsX0_prepare) B.pre
  have hown : s.vm.findClass RX0 = some m.cls := findClass_of_methodNamed B.named
  have hlocks := B.notSynchronized
  subst hsz
  have hD := hD0.self (sz := s.heap.size)
  generalize hAe : va_A [(aS, .inr (3, [.ref aC])), (aC, .inl (cyI, 225, .inl vc)), (aH, .inr (0, [.ref aHs, .int vhf, .int vhl])), (aHs, .inl (cyI, 1575, .inl vhs))] s.heap.size = A at hD ⊢
  have hA : ∀ q : Nat, s.heap.size ≤ q → A q := fun q h => by rw [← hAe]; exact Or.inr h
  have hS : va_S A s.heap s.heap [] := va_S.rf
  have hP : va_P D vwCl [(aS, .inr (3, [.ref aC])), (aC, .inl (cyI, 225, .inl vc)), (aH, .inr (0, [.ref aHs, .int vhf, .int vhl])), (aHs, .inl (cyI, 1575, .inl vhs))] s.heap := hP
  have hl := lv_entry ([.ref aH, .ref aS]) (n := 2) (Nat.le_of_ble_eq_true rfl)
  rw [lg_entry_eq]
  generalize (lg_sl ([.ref aH, .ref aS]) ++ List.replicate (2 - (lg_sl ([.ref aH, .ref aS])).length) Slot.unset).toArray = ls at hl ⊢
  have hl : lv_has ls 2 [(0, .ref aH), (1, .ref aS)] := hl
  unfold p_X0_prepare at hF
  refine lv_aload_n hx hb dX0_prepare_0 rfl (lv_at hl 1 rfl) ?_
  refine lv_aload_n hx hb dX0_prepare_1 rfl (lv_at hl 0 rfl) ?_
  refine va_get (D := D) (ci := 0) (v := .ref aHs) (C := RX0) (T := TX0) (N := 3) hx hb hts mi_X0_prepare_X0 hown hK.1 hP 2 rfl rfl 0 (by decide) (hts _ mm_X0_prepare_1) (fun _ h9 => h9) rfl dX0_prepare_2 ?_
  refine lv_aload_n hx hb dX0_prepare_5 rfl (lv_at hl 0 rfl) ?_
  refine va_get (D := D) (ci := 0) (v := .int vhf) (C := RX0) (T := TX0) (N := 3) hx hb hts mi_X0_prepare_X0 hown hK.1 hP 2 rfl rfl 1 (by decide) (hts _ mm_X0_prepare_2) (fun _ h9 => h9) rfl dX0_prepare_6 ?_
  obtain ⟨vhs_9, hC, hF⟩ := k_c1_ex hF
  refine x_VV (As := [.ref aHs, .int vhf]) (rest := []) ⟨hx, hb, hml, hown, hts⟩ (c_X3_copyTo_Hs l D cyI cyZ aS aC aHs s.heap.size N vhf vc vhs hC) (cwV 2 hts gX0_prepare_X3_copyTo rfl rfl rfl (by decide +kernel) ⟨Nat.le_of_ble_eq_true rfl, Nat.le_of_ble_eq_true rfl⟩) hK hP hD hS hA [0, 1, 3] rfl rfl rfl 0 rfl rfl rfl rfl hl.1 rfl (Nat.le_of_ble_eq_true rfl) ⟨Nat.zero_le _, Nat.zero_le _⟩ dX0_prepare_9 (fun H locs hP hD hS => ?_)
  have hP : va_P D vwCl [(aS, .inr (3, [.ref aC])), (aC, .inl (cyI, 225, .inl vc)), (aH, .inr (0, [.ref aHs, .int vhf, .int vhl])), (aHs, .inl (cyI, 1575, .inl vhs_9))] H := hP
  have hD : va_D A [(aS, .inr (3, [.ref aC])), (aC, .inl (cyI, 225, .inl vc)), (aH, .inr (0, [.ref aHs, .int vhf, .int vhl])), (aHs, .inl (cyI, 1575, .inl vhs_9))] := hD
  have e0 := k_inj1 hF
  have hP9 : va_P D vwCl [(aS, .inr (3, [.ref aC])), (aC, .inl (cyI, 225, .inl vc)), (aH, .inr (0, [.ref aHs, .int vhf, .int vhl])), (aHs, .inl (cyI, 1575, .inl vhs'))] H := by rw [← e0]; exact hP
  exact W.vret hx hb hr (fun t ht hW => ⟨⟨(), rfl, trivial, x_ret hP9 ht⟩, hS.F ht⟩) hS.2.2 dX0_prepare_12
theorem mm_X0_recorded_1 : Cond.fieldLink RX0 21 "RollerMesh$History" "free" "I" ∈ wsX0_recorded := List.mem_of_getElem? (i := 1) rfl
theorem mm_X0_recorded_2 : Cond.fieldLink RX0 17 "RollerMesh$History" "length" "I" ∈ wsX0_recorded := List.mem_of_getElem? (i := 2) rfl
theorem mm_X0_recorded_3 : Cond.methodLink RX0 28 Lib.Math.min.name ∈ wsX0_recorded := List.mem_of_getElem? (i := 3) rfl
theorem mm_X0_recorded_4 : Cond.static Lib.Math.min.name ∈ wsX0_recorded := List.mem_of_getElem? (i := 4) rfl
theorem mm_X0_recorded_5 : Cond.initialized "java/lang/Math" ∈ wsX0_recorded := List.mem_of_getElem? (i := 5) rfl
theorem mm_X0_recorded_6 : Cond.code Lib.Math.min.name Lib.Math.min.code 2 (some .int) ∈ wsX0_recorded := List.mem_of_getElem? (i := 6) rfl
theorem mi_X0_recorded_X0 : ∀ w ∈ wsX00, w ∈ wsX0_recorded := fun _ h => List.mem_cons_of_mem _ (List.mem_append_right _ h)
set_option maxHeartbeats 4000000 in
set_option maxRecDepth 100000 in
theorem c_X0_recorded (l : Launch) (D : va_G) (cyI cyZ : ClassId) (aH aHs : Nat) (sz : Nat) (N : Nat) (x1 : Int32) (vhf : Int32) (vhl : Int32) {r0 : Int32} {vhf' : Int32} {vhl' : Int32} (hF : p_X0_recorded N x1 vhf vhl = some (r0, vhf', vhl')) : Met l yX0_recorded wsX0_recorded ({ frames := 1, cells := 0, slots := 0, locals := 21 }) (x_PM D cyI cyZ [.ref aH, .int x1] [(aH, .inr (0, [.ref aHs, .int vhf, .int vhl]))] sz) (x_QM D r0 (va_A [(aH, .inr (0, [.ref aHs, .int vhf, .int vhl]))] sz) [(aH, .inr (0, [.ref aHs, .int vhf', .int vhl']))]) 0 0 (va_A [(aH, .inr (0, [.ref aHs, .int vhf, .int vhl]))] sz) := by
  refine Met.ofW (cc := cX0_recorded) (maxL := 2) (ret := (some .int)) (by decide) rfl ?_
  intro p e s m args below meth c s₁ B hml hv
  obtain ⟨rfl, hsz, hP, hK, hD0⟩ := hv
  have hx := B.exec
  have hb := B.bytes
  have hr := B.returns
  have hts := atoms_spec (ws := wsX0_recorded) B.pre
  have hown : s.vm.findClass RX0 = some m.cls := findClass_of_methodNamed B.named
  have hlocks := B.notSynchronized
  subst hsz
  have hD := hD0.self (sz := s.heap.size)
  generalize hAe : va_A [(aH, .inr (0, [.ref aHs, .int vhf, .int vhl]))] s.heap.size = A at hD ⊢
  have hA : ∀ q : Nat, s.heap.size ≤ q → A q := fun q h => by rw [← hAe]; exact Or.inr h
  have hS : va_S A s.heap s.heap [] := va_S.rf
  have hP : va_P D vwCl [(aH, .inr (0, [.ref aHs, .int vhf, .int vhl]))] s.heap := hP
  have hl := lv_entry ([.ref aH, .int x1]) (n := 2) (Nat.le_of_ble_eq_true rfl)
  rw [lg_entry_eq]
  generalize (lg_sl ([.ref aH, .int x1]) ++ List.replicate (2 - (lg_sl ([.ref aH, .int x1])).length) Slot.unset).toArray = ls at hl ⊢
  have hl : lv_has ls 2 [(0, .ref aH), (1, .int x1)] := hl
  unfold p_X0_recorded at hF
  refine lv_iload_n hx hb dX0_recorded_0 rfl (lv_at hl 1 rfl) ?_
  refine lv_if_lt (tgt := 44) hx hb dX0_recorded_1 (by decide) (fun hc => ?_) (fun hc => ?_)
  · have hF := k_if_t hF hc
    refine lv_iload_n hx hb dX0_recorded_44 rfl (lv_at hl 1 rfl) ?_
    obtain ⟨e0, e1, e2⟩ := k_inj3 hF
    have hP9 : va_P D vwCl [(aH, .inr (0, [.ref aHs, .int vhf', .int vhl']))] s.heap := by rw [← e1, ← e2]; exact hP
    exact W.iret hx hb hr (fun t ht hW => ⟨⟨_, (), rfl, e0, x_ret hP9 ht⟩, hS.F ht⟩) hS.2.2 dX0_recorded_45
  · have hF := k_if_f hF hc
    refine lv_aload_n hx hb dX0_recorded_4 rfl (lv_at hl 0 rfl) ?_
    refine lv_aload_n hx hb dX0_recorded_5 rfl (lv_at hl 0 rfl) ?_
    refine va_get (D := D) (ci := 0) (v := .int vhf) (C := RX0) (T := TX0) (N := 3) hx hb hts mi_X0_recorded_X0 hown hK.1 hP 0 rfl rfl 1 (by decide) (hts _ mm_X0_recorded_1) (fun _ h9 => h9) rfl dX0_recorded_6 ?_
    refine lv_iconst (v := (1 : Int32)) hx hb dX0_recorded_9 (by decide) ?_
    refine lv_iadd hx hb dX0_recorded_10 ?_
    refine lv_bipush (v := (7 : Int32)) hx hb dX0_recorded_11 (by decide) ?_
    refine lv_icmp_ge (tgt := 25) hx hb dX0_recorded_13 (by decide) (fun hc => ?_) (fun hc => ?_)
    · have hF := k_if_t hF hc
      refine lv_iconst (v := (0 : Int32)) hx hb dX0_recorded_25 (by decide) ?_
      refine va_put (D := D) (ci := 0) (v := .int (0 : Int32)) (ty := .int) (C := RX0) (T := TX0) (N := 3) hx hb hts mi_X0_recorded_X0 tyX0 tyX0_ok nmX0 hown hK.1 hP hD hS 0 rfl rfl 1 (by decide) (hts _ mm_X0_recorded_1) (fun _ h9 => h9) rfl (by decide +kernel) rfl rfl (Nat.le_of_ble_eq_true rfl) dX0_recorded_26 (fun H locs hP hD hS => ?_)
      have hP : va_P D vwCl [(aH, .inr (0, [.ref aHs, .int (0 : Int32), .int vhl]))] H := hP
      have hD : va_D A [(aH, .inr (0, [.ref aHs, .int (0 : Int32), .int vhl]))] := hD
      refine lv_aload_n hx hb dX0_recorded_29 rfl (lv_at hl 0 rfl) ?_
      refine lv_aload_n hx hb dX0_recorded_30 rfl (lv_at hl 0 rfl) ?_
      refine va_get (D := D) (ci := 0) (v := .int vhl) (C := RX0) (T := TX0) (N := 3) hx hb hts mi_X0_recorded_X0 hown hK.1 hP 0 rfl rfl 2 (by decide) (hts _ mm_X0_recorded_2) (fun _ h9 => h9) rfl dX0_recorded_31 ?_
      refine lv_iconst (v := (1 : Int32)) hx hb dX0_recorded_34 (by decide) ?_
      refine lv_iadd hx hb dX0_recorded_35 ?_
      refine lv_bipush (v := (6 : Int32)) hx hb dX0_recorded_36 (by decide) ?_
      obtain ⟨r38, hn, hF⟩ := k_let_ex hF
      refine va_mmin hx hb (hml.trans hl.1.symm) hown (hts _ mm_X0_recorded_3) (hts _ mm_X0_recorded_4) (hts _ mm_X0_recorded_5) (hts _ mm_X0_recorded_6) (Nat.le_of_ble_eq_true rfl) (Nat.le_of_ble_eq_true rfl) (Nat.zero_le _) (Nat.zero_le _) dX0_recorded_38 ?_
      refine x_nm hn ?_
      refine va_put (D := D) (ci := 0) (v := .int r38) (ty := .int) (C := RX0) (T := TX0) (N := 3) hx hb hts mi_X0_recorded_X0 tyX0 tyX0_ok nmX0 hown hK.1 hP hD hS 0 rfl rfl 2 (by decide) (hts _ mm_X0_recorded_2) (fun _ h9 => h9) rfl (by decide +kernel) rfl rfl (Nat.le_of_ble_eq_true rfl) dX0_recorded_41 (fun H locs hP hD hS => ?_)
      have hP : va_P D vwCl [(aH, .inr (0, [.ref aHs, .int (0 : Int32), .int r38]))] H := hP
      have hD : va_D A [(aH, .inr (0, [.ref aHs, .int (0 : Int32), .int r38]))] := hD
      refine lv_iload_n hx hb dX0_recorded_44 rfl (lv_at hl 1 rfl) ?_
      obtain ⟨e0, e1, e2⟩ := k_inj3 hF
      have hP9 : va_P D vwCl [(aH, .inr (0, [.ref aHs, .int vhf', .int vhl']))] H := by rw [← e1, ← e2]; exact hP
      exact W.iret hx hb hr (fun t ht hW => ⟨⟨_, (), rfl, e0, x_ret hP9 ht⟩, hS.F ht⟩) hS.2.2 dX0_recorded_45
    · have hF := k_if_f hF hc
      refine lv_aload_n hx hb dX0_recorded_16 rfl (lv_at hl 0 rfl) ?_
      refine va_get (D := D) (ci := 0) (v := .int vhf) (C := RX0) (T := TX0) (N := 3) hx hb hts mi_X0_recorded_X0 hown hK.1 hP 0 rfl rfl 1 (by decide) (hts _ mm_X0_recorded_1) (fun _ h9 => h9) rfl dX0_recorded_17 ?_
      refine lv_iconst (v := (1 : Int32)) hx hb dX0_recorded_20 (by decide) ?_
      refine lv_iadd hx hb dX0_recorded_21 ?_
      refine lv_goto (tgt := 26) hx hb dX0_recorded_22 (by decide) ?_
      obtain ⟨vhf_26, hn, hF⟩ := k_let_ex hF
      refine x_nm hn ?_
      refine va_put (D := D) (ci := 0) (v := .int vhf_26) (ty := .int) (C := RX0) (T := TX0) (N := 3) hx hb hts mi_X0_recorded_X0 tyX0 tyX0_ok nmX0 hown hK.1 hP hD hS 0 rfl rfl 1 (by decide) (hts _ mm_X0_recorded_1) (fun _ h9 => h9) rfl (by decide +kernel) rfl rfl (Nat.le_of_ble_eq_true rfl) dX0_recorded_26 (fun H locs hP hD hS => ?_)
      have hP : va_P D vwCl [(aH, .inr (0, [.ref aHs, .int vhf_26, .int vhl]))] H := hP
      have hD : va_D A [(aH, .inr (0, [.ref aHs, .int vhf_26, .int vhl]))] := hD
      refine lv_aload_n hx hb dX0_recorded_29 rfl (lv_at hl 0 rfl) ?_
      refine lv_aload_n hx hb dX0_recorded_30 rfl (lv_at hl 0 rfl) ?_
      refine va_get (D := D) (ci := 0) (v := .int vhl) (C := RX0) (T := TX0) (N := 3) hx hb hts mi_X0_recorded_X0 hown hK.1 hP 0 rfl rfl 2 (by decide) (hts _ mm_X0_recorded_2) (fun _ h9 => h9) rfl dX0_recorded_31 ?_
      refine lv_iconst (v := (1 : Int32)) hx hb dX0_recorded_34 (by decide) ?_
      refine lv_iadd hx hb dX0_recorded_35 ?_
      refine lv_bipush (v := (6 : Int32)) hx hb dX0_recorded_36 (by decide) ?_
      obtain ⟨r38, hn, hF⟩ := k_let_ex hF
      refine va_mmin hx hb (hml.trans hl.1.symm) hown (hts _ mm_X0_recorded_3) (hts _ mm_X0_recorded_4) (hts _ mm_X0_recorded_5) (hts _ mm_X0_recorded_6) (Nat.le_of_ble_eq_true rfl) (Nat.le_of_ble_eq_true rfl) (Nat.zero_le _) (Nat.zero_le _) dX0_recorded_38 ?_
      refine x_nm hn ?_
      refine va_put (D := D) (ci := 0) (v := .int r38) (ty := .int) (C := RX0) (T := TX0) (N := 3) hx hb hts mi_X0_recorded_X0 tyX0 tyX0_ok nmX0 hown hK.1 hP hD hS 0 rfl rfl 2 (by decide) (hts _ mm_X0_recorded_2) (fun _ h9 => h9) rfl (by decide +kernel) rfl rfl (Nat.le_of_ble_eq_true rfl) dX0_recorded_41 (fun H locs hP hD hS => ?_)
      have hP : va_P D vwCl [(aH, .inr (0, [.ref aHs, .int vhf_26, .int r38]))] H := hP
      have hD : va_D A [(aH, .inr (0, [.ref aHs, .int vhf_26, .int r38]))] := hD
      refine lv_iload_n hx hb dX0_recorded_44 rfl (lv_at hl 1 rfl) ?_
      obtain ⟨e0, e1, e2⟩ := k_inj3 hF
      have hP9 : va_P D vwCl [(aH, .inr (0, [.ref aHs, .int vhf', .int vhl']))] H := by rw [← e1, ← e2]; exact hP
      exact W.iret hx hb hr (fun t ht hW => ⟨⟨_, (), rfl, e0, x_ret hP9 ht⟩, hS.F ht⟩) hS.2.2 dX0_recorded_45
theorem mm_X0_length_1 : Cond.fieldLink RX0 17 "RollerMesh$History" "length" "I" ∈ wsX0_length := List.mem_of_getElem? (i := 1) rfl
theorem mi_X0_length_X0 : ∀ w ∈ wsX00, w ∈ wsX0_length := fun _ h => List.mem_cons_of_mem _ (List.mem_append_right _ h)
set_option maxHeartbeats 4000000 in
set_option maxRecDepth 100000 in
theorem c_X0_length (l : Launch) (D : va_G) (cyI cyZ : ClassId) (aH aHs : Nat) (N : Nat) (vhf : Int32) (vhl : Int32) {r0 : Int32}  (hF : p_X0_length N vhf vhl = some (r0)) : Met l yX0_length wsX0_length ({ frames := 0, cells := 0, slots := 0, locals := 0 }) (x_PR D cyI cyZ [.ref aH] [(aH, .inr (0, [.ref aHs, .int vhf, .int vhl]))]) (x_QR r0) 0 0 (fun _ => False) := by
  refine Met.ofW (cc := cX0_length) (maxL := 1) (ret := (some .int)) (by decide) rfl ?_
  intro p e s m args below meth c s₁ B hml hv
  obtain ⟨rfl, hP, hK⟩ := hv
  have hx := B.exec
  have hb := B.bytes
  have hr := B.returns
  have hts := atoms_spec (ws := wsX0_length) B.pre
  have hown : s.vm.findClass RX0 = some m.cls := findClass_of_methodNamed B.named
  have hlocks := B.notSynchronized
  have hS : va_S (fun _ => False) s.heap s.heap [] := va_S.rf
  have hP : va_P D vwCl [(aH, .inr (0, [.ref aHs, .int vhf, .int vhl]))] s.heap := hP
  have hl := lv_entry ([.ref aH]) (n := 1) (Nat.le_of_ble_eq_true rfl)
  rw [lg_entry_eq]
  generalize (lg_sl ([.ref aH]) ++ List.replicate (1 - (lg_sl ([.ref aH])).length) Slot.unset).toArray = ls at hl ⊢
  have hl : lv_has ls 1 [(0, .ref aH)] := hl
  unfold p_X0_length at hF
  refine lv_aload_n hx hb dX0_length_0 rfl (lv_at hl 0 rfl) ?_
  refine va_get (D := D) (ci := 0) (v := .int vhl) (C := RX0) (T := TX0) (N := 3) hx hb hts mi_X0_length_X0 hown hK.1 hP 0 rfl rfl 2 (by decide) (hts _ mm_X0_length_1) (fun _ h9 => h9) rfl dX0_length_1 ?_
  exact W.iret hx hb hr (fun t ht hW => ⟨⟨_, (), rfl, Option.some.inj hF, trivial⟩, hS.F ht⟩) hS.2.2 dX0_length_4
theorem mm_X0_stepBack_1 : Cond.fieldLink RX0 17 "RollerMesh$History" "length" "I" ∈ wsX0_stepBack := List.mem_of_getElem? (i := 1) rfl
theorem mm_X0_stepBack_2 : Cond.fieldLink RX0 21 "RollerMesh$History" "free" "I" ∈ wsX0_stepBack := List.mem_of_getElem? (i := 2) rfl
theorem mm_X0_stepBack_3 : Cond.fieldLink RX0 13 "RollerMesh$History" "states" "[I" ∈ wsX0_stepBack := List.mem_of_getElem? (i := 3) rfl
theorem mi_X0_stepBack_X0 : ∀ w ∈ wsX00, w ∈ wsX0_stepBack := fun _ h => List.mem_cons_of_mem _ (List.mem_append_left _ (List.mem_append_right _ h))
set_option maxHeartbeats 4000000 in
set_option maxRecDepth 100000 in
theorem c_X0_stepBack (l : Launch) (D : va_G) (cyI cyZ : ClassId) (aS aC aH aHs : Nat) (sz : Nat) (N : Nat) (vc : (Nat → Int32)) (vhf : Int32) (vhl : Int32) (vhs : (Nat → Int32)) {r0 : Int32} {vc' : (Nat → Int32)} {vhf' : Int32} {vhl' : Int32} (hF : p_X0_stepBack N vc vhf vhl vhs = some (r0, vc', vhf', vhl')) : Met l yX0_stepBack wsX0_stepBack ({ frames := 2, cells := 0, slots := 0, locals := 48 }) (x_PM D cyI cyZ [.ref aH, .ref aS] [(aS, .inr (3, [.ref aC])), (aC, .inl (cyI, 225, .inl vc)), (aH, .inr (0, [.ref aHs, .int vhf, .int vhl])), (aHs, .inl (cyI, 1575, .inl vhs))] sz) (x_QM D r0 (va_A [(aS, .inr (3, [.ref aC])), (aC, .inl (cyI, 225, .inl vc)), (aH, .inr (0, [.ref aHs, .int vhf, .int vhl])), (aHs, .inl (cyI, 1575, .inl vhs))] sz) [(aS, .inr (3, [.ref aC])), (aC, .inl (cyI, 225, .inl vc')), (aH, .inr (0, [.ref aHs, .int vhf', .int vhl'])), (aHs, .inl (cyI, 1575, .inl vhs))]) 0 0 (va_A [(aS, .inr (3, [.ref aC])), (aC, .inl (cyI, 225, .inl vc)), (aH, .inr (0, [.ref aHs, .int vhf, .int vhl])), (aHs, .inl (cyI, 1575, .inl vhs))] sz) := by
  refine Met.ofW (cc := cX0_stepBack) (maxL := 2) (ret := (some .int)) (by decide) rfl ?_
  intro p e s m args below meth c s₁ B hml hv
  obtain ⟨rfl, hsz, hP, hK, hD0⟩ := hv
  have hx := B.exec
  have hb := B.bytes
  have hr := B.returns
  have hts := atoms_spec (ws := wsX0_stepBack) B.pre
  have hown : s.vm.findClass RX0 = some m.cls := findClass_of_methodNamed B.named
  have hlocks := B.notSynchronized
  subst hsz
  have hD := hD0.self (sz := s.heap.size)
  generalize hAe : va_A [(aS, .inr (3, [.ref aC])), (aC, .inl (cyI, 225, .inl vc)), (aH, .inr (0, [.ref aHs, .int vhf, .int vhl])), (aHs, .inl (cyI, 1575, .inl vhs))] s.heap.size = A at hD ⊢
  have hA : ∀ q : Nat, s.heap.size ≤ q → A q := fun q h => by rw [← hAe]; exact Or.inr h
  have hS : va_S A s.heap s.heap [] := va_S.rf
  have hP : va_P D vwCl [(aS, .inr (3, [.ref aC])), (aC, .inl (cyI, 225, .inl vc)), (aH, .inr (0, [.ref aHs, .int vhf, .int vhl])), (aHs, .inl (cyI, 1575, .inl vhs))] s.heap := hP
  have hl := lv_entry ([.ref aH, .ref aS]) (n := 2) (Nat.le_of_ble_eq_true rfl)
  rw [lg_entry_eq]
  generalize (lg_sl ([.ref aH, .ref aS]) ++ List.replicate (2 - (lg_sl ([.ref aH, .ref aS])).length) Slot.unset).toArray = ls at hl ⊢
  have hl : lv_has ls 2 [(0, .ref aH), (1, .ref aS)] := hl
  unfold p_X0_stepBack at hF
  refine lv_aload_n hx hb dX0_stepBack_0 rfl (lv_at hl 0 rfl) ?_
  refine va_get (D := D) (ci := 0) (v := .int vhl) (C := RX0) (T := TX0) (N := 3) hx hb hts mi_X0_stepBack_X0 hown hK.1 hP 2 rfl rfl 2 (by decide) (hts _ mm_X0_stepBack_1) (fun _ h9 => h9) rfl dX0_stepBack_1 ?_
  refine lv_if_ne (tgt := 10) hx hb dX0_stepBack_4 (by decide) (fun hc => ?_) (fun hc => ?_)
  · have hF := k_if_f hF hc
    refine lv_aload_n hx hb dX0_stepBack_10 rfl (lv_at hl 0 rfl) ?_
    refine lv_aload_n hx hb dX0_stepBack_11 rfl (lv_at hl 0 rfl) ?_
    refine va_get (D := D) (ci := 0) (v := .int vhf) (C := RX0) (T := TX0) (N := 3) hx hb hts mi_X0_stepBack_X0 hown hK.1 hP 2 rfl rfl 1 (by decide) (hts _ mm_X0_stepBack_2) (fun _ h9 => h9) rfl dX0_stepBack_12 ?_
    refine lv_if_le (tgt := 27) hx hb dX0_stepBack_15 (by decide) (fun hc => ?_) (fun hc => ?_)
    · have hF := k_if_t hF hc
      refine lv_bipush (v := (6 : Int32)) hx hb dX0_stepBack_27 (by decide) ?_
      refine va_put (D := D) (ci := 0) (v := .int (6 : Int32)) (ty := .int) (C := RX0) (T := TX0) (N := 3) hx hb hts mi_X0_stepBack_X0 tyX0 tyX0_ok nmX0 hown hK.1 hP hD hS 2 rfl rfl 1 (by decide) (hts _ mm_X0_stepBack_2) (fun _ h9 => h9) rfl (by decide +kernel) rfl rfl (Nat.le_of_ble_eq_true rfl) dX0_stepBack_29 (fun H locs hP hD hS => ?_)
      have hP : va_P D vwCl [(aS, .inr (3, [.ref aC])), (aC, .inl (cyI, 225, .inl vc)), (aH, .inr (0, [.ref aHs, .int (6 : Int32), .int vhl])), (aHs, .inl (cyI, 1575, .inl vhs))] H := hP
      have hD : va_D A [(aS, .inr (3, [.ref aC])), (aC, .inl (cyI, 225, .inl vc)), (aH, .inr (0, [.ref aHs, .int (6 : Int32), .int vhl])), (aHs, .inl (cyI, 1575, .inl vhs))] := hD
      refine lv_aload_n hx hb dX0_stepBack_32 rfl (lv_at hl 0 rfl) ?_
      refine lv_dup hx hb dX0_stepBack_33 rfl ?_
      refine va_get (D := D) (ci := 0) (v := .int vhl) (C := RX0) (T := TX0) (N := 3) hx hb hts mi_X0_stepBack_X0 hown hK.1 hP 2 rfl rfl 2 (by decide) (hts _ mm_X0_stepBack_1) (fun _ h9 => h9) rfl dX0_stepBack_34 ?_
      refine lv_iconst (v := (1 : Int32)) hx hb dX0_stepBack_37 (by decide) ?_
      refine lv_isub hx hb dX0_stepBack_38 ?_
      obtain ⟨vhl_39, hn, hF⟩ := k_let_ex hF
      refine x_nm hn ?_
      refine va_put (D := D) (ci := 0) (v := .int vhl_39) (ty := .int) (C := RX0) (T := TX0) (N := 3) hx hb hts mi_X0_stepBack_X0 tyX0 tyX0_ok nmX0 hown hK.1 hP hD hS 2 rfl rfl 2 (by decide) (hts _ mm_X0_stepBack_1) (fun _ h9 => h9) rfl (by decide +kernel) rfl rfl (Nat.le_of_ble_eq_true rfl) dX0_stepBack_39 (fun H locs hP hD hS => ?_)
      have hP : va_P D vwCl [(aS, .inr (3, [.ref aC])), (aC, .inl (cyI, 225, .inl vc)), (aH, .inr (0, [.ref aHs, .int (6 : Int32), .int vhl_39])), (aHs, .inl (cyI, 1575, .inl vhs))] H := hP
      have hD : va_D A [(aS, .inr (3, [.ref aC])), (aC, .inl (cyI, 225, .inl vc)), (aH, .inr (0, [.ref aHs, .int (6 : Int32), .int vhl_39])), (aHs, .inl (cyI, 1575, .inl vhs))] := hD
      refine lv_aload_n hx hb dX0_stepBack_42 rfl (lv_at hl 1 rfl) ?_
      refine lv_aload_n hx hb dX0_stepBack_43 rfl (lv_at hl 0 rfl) ?_
      refine va_get (D := D) (ci := 0) (v := .ref aHs) (C := RX0) (T := TX0) (N := 3) hx hb hts mi_X0_stepBack_X0 hown hK.1 hP 2 rfl rfl 0 (by decide) (hts _ mm_X0_stepBack_3) (fun _ h9 => h9) rfl dX0_stepBack_44 ?_
      refine lv_aload_n hx hb dX0_stepBack_47 rfl (lv_at hl 0 rfl) ?_
      refine va_get (D := D) (ci := 0) (v := .int (6 : Int32)) (C := RX0) (T := TX0) (N := 3) hx hb hts mi_X0_stepBack_X0 hown hK.1 hP 2 rfl rfl 1 (by decide) (hts _ mm_X0_stepBack_2) (fun _ h9 => h9) rfl dX0_stepBack_48 ?_
      obtain ⟨vc_51, hC, hF⟩ := k_c1_ex hF
      refine x_VV (As := [.ref aHs, .int (6 : Int32)]) (rest := []) ⟨hx, hb, hml, hown, hts⟩ (c_X3_copyFrom_Hs l D cyI cyZ aS aC aHs H.size N (6 : Int32) vc vhs hC) (cwV 2 hts gX0_stepBack_X3_copyFrom rfl rfl rfl (by decide +kernel) ⟨Nat.le_of_ble_eq_true rfl, Nat.le_of_ble_eq_true rfl⟩) hK hP hD hS hA [0, 1, 3] rfl rfl rfl 0 rfl rfl rfl rfl hl.1 rfl (Nat.le_of_ble_eq_true rfl) ⟨Nat.zero_le _, Nat.zero_le _⟩ dX0_stepBack_51 (fun H locs hP hD hS => ?_)
      have hP : va_P D vwCl [(aS, .inr (3, [.ref aC])), (aC, .inl (cyI, 225, .inl vc_51)), (aH, .inr (0, [.ref aHs, .int (6 : Int32), .int vhl_39])), (aHs, .inl (cyI, 1575, .inl vhs))] H := hP
      have hD : va_D A [(aS, .inr (3, [.ref aC])), (aC, .inl (cyI, 225, .inl vc_51)), (aH, .inr (0, [.ref aHs, .int (6 : Int32), .int vhl_39])), (aHs, .inl (cyI, 1575, .inl vhs))] := hD
      refine lv_aload_n hx hb dX0_stepBack_54 rfl (lv_at hl 0 rfl) ?_
      refine va_get (D := D) (ci := 0) (v := .int vhl_39) (C := RX0) (T := TX0) (N := 3) hx hb hts mi_X0_stepBack_X0 hown hK.1 hP 2 rfl rfl 2 (by decide) (hts _ mm_X0_stepBack_1) (fun _ h9 => h9) rfl dX0_stepBack_55 ?_
      obtain ⟨e0, e1, e2, e3⟩ := k_inj4 hF
      have hP9 : va_P D vwCl [(aS, .inr (3, [.ref aC])), (aC, .inl (cyI, 225, .inl vc')), (aH, .inr (0, [.ref aHs, .int vhf', .int vhl'])), (aHs, .inl (cyI, 1575, .inl vhs))] H := by rw [← e1, ← e2, ← e3]; exact hP
      exact W.iret hx hb hr (fun t ht hW => ⟨⟨_, (), rfl, e0, x_ret hP9 ht⟩, hS.F ht⟩) hS.2.2 dX0_stepBack_58
    · have hF := k_if_f hF hc
      refine lv_aload_n hx hb dX0_stepBack_18 rfl (lv_at hl 0 rfl) ?_
      refine va_get (D := D) (ci := 0) (v := .int vhf) (C := RX0) (T := TX0) (N := 3) hx hb hts mi_X0_stepBack_X0 hown hK.1 hP 2 rfl rfl 1 (by decide) (hts _ mm_X0_stepBack_2) (fun _ h9 => h9) rfl dX0_stepBack_19 ?_
      refine lv_iconst (v := (1 : Int32)) hx hb dX0_stepBack_22 (by decide) ?_
      refine lv_isub hx hb dX0_stepBack_23 ?_
      refine lv_goto (tgt := 29) hx hb dX0_stepBack_24 (by decide) ?_
      obtain ⟨vhf_29, hn, hF⟩ := k_let_ex hF
      refine x_nm hn ?_
      refine va_put (D := D) (ci := 0) (v := .int vhf_29) (ty := .int) (C := RX0) (T := TX0) (N := 3) hx hb hts mi_X0_stepBack_X0 tyX0 tyX0_ok nmX0 hown hK.1 hP hD hS 2 rfl rfl 1 (by decide) (hts _ mm_X0_stepBack_2) (fun _ h9 => h9) rfl (by decide +kernel) rfl rfl (Nat.le_of_ble_eq_true rfl) dX0_stepBack_29 (fun H locs hP hD hS => ?_)
      have hP : va_P D vwCl [(aS, .inr (3, [.ref aC])), (aC, .inl (cyI, 225, .inl vc)), (aH, .inr (0, [.ref aHs, .int vhf_29, .int vhl])), (aHs, .inl (cyI, 1575, .inl vhs))] H := hP
      have hD : va_D A [(aS, .inr (3, [.ref aC])), (aC, .inl (cyI, 225, .inl vc)), (aH, .inr (0, [.ref aHs, .int vhf_29, .int vhl])), (aHs, .inl (cyI, 1575, .inl vhs))] := hD
      refine lv_aload_n hx hb dX0_stepBack_32 rfl (lv_at hl 0 rfl) ?_
      refine lv_dup hx hb dX0_stepBack_33 rfl ?_
      refine va_get (D := D) (ci := 0) (v := .int vhl) (C := RX0) (T := TX0) (N := 3) hx hb hts mi_X0_stepBack_X0 hown hK.1 hP 2 rfl rfl 2 (by decide) (hts _ mm_X0_stepBack_1) (fun _ h9 => h9) rfl dX0_stepBack_34 ?_
      refine lv_iconst (v := (1 : Int32)) hx hb dX0_stepBack_37 (by decide) ?_
      refine lv_isub hx hb dX0_stepBack_38 ?_
      obtain ⟨vhl_39, hn, hF⟩ := k_let_ex hF
      refine x_nm hn ?_
      refine va_put (D := D) (ci := 0) (v := .int vhl_39) (ty := .int) (C := RX0) (T := TX0) (N := 3) hx hb hts mi_X0_stepBack_X0 tyX0 tyX0_ok nmX0 hown hK.1 hP hD hS 2 rfl rfl 2 (by decide) (hts _ mm_X0_stepBack_1) (fun _ h9 => h9) rfl (by decide +kernel) rfl rfl (Nat.le_of_ble_eq_true rfl) dX0_stepBack_39 (fun H locs hP hD hS => ?_)
      have hP : va_P D vwCl [(aS, .inr (3, [.ref aC])), (aC, .inl (cyI, 225, .inl vc)), (aH, .inr (0, [.ref aHs, .int vhf_29, .int vhl_39])), (aHs, .inl (cyI, 1575, .inl vhs))] H := hP
      have hD : va_D A [(aS, .inr (3, [.ref aC])), (aC, .inl (cyI, 225, .inl vc)), (aH, .inr (0, [.ref aHs, .int vhf_29, .int vhl_39])), (aHs, .inl (cyI, 1575, .inl vhs))] := hD
      refine lv_aload_n hx hb dX0_stepBack_42 rfl (lv_at hl 1 rfl) ?_
      refine lv_aload_n hx hb dX0_stepBack_43 rfl (lv_at hl 0 rfl) ?_
      refine va_get (D := D) (ci := 0) (v := .ref aHs) (C := RX0) (T := TX0) (N := 3) hx hb hts mi_X0_stepBack_X0 hown hK.1 hP 2 rfl rfl 0 (by decide) (hts _ mm_X0_stepBack_3) (fun _ h9 => h9) rfl dX0_stepBack_44 ?_
      refine lv_aload_n hx hb dX0_stepBack_47 rfl (lv_at hl 0 rfl) ?_
      refine va_get (D := D) (ci := 0) (v := .int vhf_29) (C := RX0) (T := TX0) (N := 3) hx hb hts mi_X0_stepBack_X0 hown hK.1 hP 2 rfl rfl 1 (by decide) (hts _ mm_X0_stepBack_2) (fun _ h9 => h9) rfl dX0_stepBack_48 ?_
      obtain ⟨vc_51, hC, hF⟩ := k_c1_ex hF
      refine x_VV (As := [.ref aHs, .int vhf_29]) (rest := []) ⟨hx, hb, hml, hown, hts⟩ (c_X3_copyFrom_Hs l D cyI cyZ aS aC aHs H.size N vhf_29 vc vhs hC) (cwV 2 hts gX0_stepBack_X3_copyFrom rfl rfl rfl (by decide +kernel) ⟨Nat.le_of_ble_eq_true rfl, Nat.le_of_ble_eq_true rfl⟩) hK hP hD hS hA [0, 1, 3] rfl rfl rfl 0 rfl rfl rfl rfl hl.1 rfl (Nat.le_of_ble_eq_true rfl) ⟨Nat.zero_le _, Nat.zero_le _⟩ dX0_stepBack_51 (fun H locs hP hD hS => ?_)
      have hP : va_P D vwCl [(aS, .inr (3, [.ref aC])), (aC, .inl (cyI, 225, .inl vc_51)), (aH, .inr (0, [.ref aHs, .int vhf_29, .int vhl_39])), (aHs, .inl (cyI, 1575, .inl vhs))] H := hP
      have hD : va_D A [(aS, .inr (3, [.ref aC])), (aC, .inl (cyI, 225, .inl vc_51)), (aH, .inr (0, [.ref aHs, .int vhf_29, .int vhl_39])), (aHs, .inl (cyI, 1575, .inl vhs))] := hD
      refine lv_aload_n hx hb dX0_stepBack_54 rfl (lv_at hl 0 rfl) ?_
      refine va_get (D := D) (ci := 0) (v := .int vhl_39) (C := RX0) (T := TX0) (N := 3) hx hb hts mi_X0_stepBack_X0 hown hK.1 hP 2 rfl rfl 2 (by decide) (hts _ mm_X0_stepBack_1) (fun _ h9 => h9) rfl dX0_stepBack_55 ?_
      obtain ⟨e0, e1, e2, e3⟩ := k_inj4 hF
      have hP9 : va_P D vwCl [(aS, .inr (3, [.ref aC])), (aC, .inl (cyI, 225, .inl vc')), (aH, .inr (0, [.ref aHs, .int vhf', .int vhl'])), (aHs, .inl (cyI, 1575, .inl vhs))] H := by rw [← e1, ← e2, ← e3]; exact hP
      exact W.iret hx hb hr (fun t ht hW => ⟨⟨_, (), rfl, e0, x_ret hP9 ht⟩, hS.F ht⟩) hS.2.2 dX0_stepBack_58
  · have hF := k_if_t hF hc
    refine lv_bipush (v := (-5 : Int32)) hx hb dX0_stepBack_7 (by decide) ?_
    obtain ⟨e0, e1, e2, e3⟩ := k_inj4 hF
    have hP9 : va_P D vwCl [(aS, .inr (3, [.ref aC])), (aC, .inl (cyI, 225, .inl vc')), (aH, .inr (0, [.ref aHs, .int vhf', .int vhl'])), (aHs, .inl (cyI, 1575, .inl vhs))] s.heap := by rw [← e1, ← e2, ← e3]; exact hP
    exact W.iret hx hb hr (fun t ht hW => ⟨⟨_, (), rfl, e0, x_ret hP9 ht⟩, hS.F ht⟩) hS.2.2 dX0_stepBack_9
