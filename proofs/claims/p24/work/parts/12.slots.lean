theorem mm_X4_keep_1 : Cond.fieldLink RX4 13 "RollerMesh$Slots" "states" "[I" ∈ wsX4_keep := List.mem_of_getElem? (i := 1) rfl
theorem mm_X4_keep_2 : Cond.fieldLink RX4 25 "RollerMesh$Slots" "filled" "I" ∈ wsX4_keep := List.mem_of_getElem? (i := 2) rfl
theorem mm_X4_keep_3 : Cond.static yX6_outside ∈ wsX4_keep := List.mem_of_getElem? (i := 3) rfl
theorem mm_X4_keep_4 : Cond.initialized RX6 ∈ wsX4_keep := List.mem_of_getElem? (i := 4) rfl
theorem mi_X4_keep_X4 : ∀ w ∈ wsX40, w ∈ wsX4_keep := fun _ h => List.mem_cons_of_mem _ (List.mem_append_left _ (List.mem_append_right _ h))
set_option maxHeartbeats 4000000 in
set_option maxRecDepth 100000 in
theorem c_X4_keep (l : Launch) (D : va_G) (cyI cyZ : ClassId) (aS aC aL aLs : Nat) (sz : Nat) (N : Nat) (x1 : Int32) (vc : (Nat → Int32)) (vsf : Int32) (vss : (Nat → Int32)) {r0 : Int32} {vsf' : Int32} {vss' : (Nat → Int32)} (hF : p_X4_keep N x1 vc vsf vss = some (r0, vsf', vss')) : Met l yX4_keep wsX4_keep ({ frames := 2, cells := 0, slots := 0, locals := 48 }) (x_PM D cyI cyZ [.ref aL, .int x1, .ref aS] [(aS, .inr (3, [.ref aC])), (aC, .inl (cyI, 225, .inl vc)), (aL, .inr (4, [.ref aLs, .int vsf])), (aLs, .inl (cyI, 450, .inl vss))] sz) (x_QM D r0 (va_A [(aS, .inr (3, [.ref aC])), (aC, .inl (cyI, 225, .inl vc)), (aL, .inr (4, [.ref aLs, .int vsf])), (aLs, .inl (cyI, 450, .inl vss))] sz) [(aS, .inr (3, [.ref aC])), (aC, .inl (cyI, 225, .inl vc)), (aL, .inr (4, [.ref aLs, .int vsf'])), (aLs, .inl (cyI, 450, .inl vss'))]) 0 0 (va_A [(aS, .inr (3, [.ref aC])), (aC, .inl (cyI, 225, .inl vc)), (aL, .inr (4, [.ref aLs, .int vsf])), (aLs, .inl (cyI, 450, .inl vss))] sz) := by
  refine Met.ofW (cc := cX4_keep) (maxL := 3) (ret := (some .int)) (by decide) rfl ?_
  intro p e s m args below meth c s₁ B hml hv
  obtain ⟨rfl, hsz, hP, hK, hD0⟩ := hv
  have hx := B.exec
  have hb := B.bytes
  have hr := B.returns
  have hts := atoms_spec (ws := wsX4_keep) B.pre
  have hown : s.vm.findClass RX4 = some m.cls := findClass_of_methodNamed B.named
  have hlocks := B.notSynchronized
  subst hsz
  have hD := hD0.self (sz := s.heap.size)
  generalize hAe : va_A [(aS, .inr (3, [.ref aC])), (aC, .inl (cyI, 225, .inl vc)), (aL, .inr (4, [.ref aLs, .int vsf])), (aLs, .inl (cyI, 450, .inl vss))] s.heap.size = A at hD ⊢
  have hA : ∀ q : Nat, s.heap.size ≤ q → A q := fun q h => by rw [← hAe]; exact Or.inr h
  have hS : va_S A s.heap s.heap [] := va_S.rf
  have hP : va_P D vwCl [(aS, .inr (3, [.ref aC])), (aC, .inl (cyI, 225, .inl vc)), (aL, .inr (4, [.ref aLs, .int vsf])), (aLs, .inl (cyI, 450, .inl vss))] s.heap := hP
  have hl := lv_entry ([.ref aL, .int x1, .ref aS]) (n := 3) (Nat.le_of_ble_eq_true rfl)
  rw [lg_entry_eq]
  generalize (lg_sl ([.ref aL, .int x1, .ref aS]) ++ List.replicate (3 - (lg_sl ([.ref aL, .int x1, .ref aS])).length) Slot.unset).toArray = ls at hl ⊢
  have hl : lv_has ls 3 [(0, .ref aL), (1, .int x1), (2, .ref aS)] := hl
  unfold p_X4_keep at hF
  refine lv_iload_n hx hb dX4_keep_0 rfl (lv_at hl 1 rfl) ?_
  refine lv_iconst (v := (0 : Int32)) hx hb dX4_keep_1 (by decide) ?_
  refine lv_iconst (v := (1 : Int32)) hx hb dX4_keep_2 (by decide) ?_
  obtain ⟨r3, hC, hF⟩ := k_c1_ex hF
  refine x_NR (As := [.int x1, .int (0 : Int32), .int (1 : Int32)]) (rest := []) ⟨hx, hb, hml, hown, hts⟩ (c_X6_outside l D cyI cyZ N x1 (0 : Int32) (1 : Int32) hC) ⟨va_cnB 3 hts gX4_keep_X6_outside_n17 rfl rfl rfl hK.2.2.2.2.1 (hts _ mm_X4_keep_4) (by decide +kernel) ⟨Nat.le_of_ble_eq_true rfl, Nat.le_of_ble_eq_true rfl⟩, hts _ mm_X4_keep_3, trivial⟩ hK hP hS [] rfl rfl hl.1 rfl (Nat.le_of_ble_eq_true rfl) ⟨Nat.zero_le _, Nat.zero_le _⟩ dX4_keep_3 (fun H locs hP hS => ?_)
  refine lv_if_eq (tgt := 12) hx hb dX4_keep_6 (by decide) (fun hc => ?_) (fun hc => ?_)
  · have hF := k_if_t hF hc
    refine lv_aload_n hx hb dX4_keep_12 rfl (lv_at hl 2 rfl) ?_
    refine lv_aload_n hx hb dX4_keep_13 rfl (lv_at hl 0 rfl) ?_
    refine va_get (D := D) (ci := 4) (v := .ref aLs) (C := RX4) (T := TX4) (N := 2) hx hb hts mi_X4_keep_X4 hown hK.1 hP 2 rfl rfl 0 (by decide) (hts _ mm_X4_keep_1) (fun _ h9 => h9) rfl dX4_keep_14 ?_
    refine lv_iload_n hx hb dX4_keep_17 rfl (lv_at hl 1 rfl) ?_
    obtain ⟨vss_18, hC, hF⟩ := k_c1_ex hF
    refine x_VV (As := [.ref aLs, .int x1]) (rest := []) ⟨hx, hb, hml, hown, hts⟩ (c_X3_copyTo_Ls l D cyI cyZ aS aC aLs H.size N x1 vc vss hC) (cwV 2 hts gX4_keep_X3_copyTo rfl rfl rfl (by decide +kernel) ⟨Nat.le_of_ble_eq_true rfl, Nat.le_of_ble_eq_true rfl⟩) hK hP hD hS hA [0, 1, 3] rfl rfl rfl 0 rfl rfl rfl rfl hl.1 rfl (Nat.le_of_ble_eq_true rfl) ⟨Nat.zero_le _, Nat.zero_le _⟩ dX4_keep_18 (fun H locs hP hD hS => ?_)
    have hP : va_P D vwCl [(aS, .inr (3, [.ref aC])), (aC, .inl (cyI, 225, .inl vc)), (aL, .inr (4, [.ref aLs, .int vsf])), (aLs, .inl (cyI, 450, .inl vss_18))] H := hP
    have hD : va_D A [(aS, .inr (3, [.ref aC])), (aC, .inl (cyI, 225, .inl vc)), (aL, .inr (4, [.ref aLs, .int vsf])), (aLs, .inl (cyI, 450, .inl vss_18))] := hD
    refine lv_aload_n hx hb dX4_keep_21 rfl (lv_at hl 0 rfl) ?_
    refine lv_dup hx hb dX4_keep_22 rfl ?_
    refine va_get (D := D) (ci := 4) (v := .int vsf) (C := RX4) (T := TX4) (N := 2) hx hb hts mi_X4_keep_X4 hown hK.1 hP 2 rfl rfl 1 (by decide) (hts _ mm_X4_keep_2) (fun _ h9 => h9) rfl dX4_keep_23 ?_
    refine lv_iconst (v := (1 : Int32)) hx hb dX4_keep_26 (by decide) ?_
    refine lv_iload_n hx hb dX4_keep_27 rfl (lv_at hl 1 rfl) ?_
    refine lv_ishl hx hb dX4_keep_28 ?_
    refine lv_ior hx hb dX4_keep_29 ?_
    obtain ⟨vsf_30, hn, hF⟩ := k_let_ex hF
    refine x_nm hn ?_
    refine va_put (D := D) (ci := 4) (v := .int vsf_30) (ty := .int) (C := RX4) (T := TX4) (N := 2) hx hb hts mi_X4_keep_X4 tyX4 tyX4_ok nmX4 hown hK.1 hP hD hS 2 rfl rfl 1 (by decide) (hts _ mm_X4_keep_2) (fun _ h9 => h9) rfl (by decide +kernel) rfl rfl (Nat.le_of_ble_eq_true rfl) dX4_keep_30 (fun H locs hP hD hS => ?_)
    have hP : va_P D vwCl [(aS, .inr (3, [.ref aC])), (aC, .inl (cyI, 225, .inl vc)), (aL, .inr (4, [.ref aLs, .int vsf_30])), (aLs, .inl (cyI, 450, .inl vss_18))] H := hP
    have hD : va_D A [(aS, .inr (3, [.ref aC])), (aC, .inl (cyI, 225, .inl vc)), (aL, .inr (4, [.ref aLs, .int vsf_30])), (aLs, .inl (cyI, 450, .inl vss_18))] := hD
    refine lv_aload_n hx hb dX4_keep_33 rfl (lv_at hl 2 rfl) ?_
    refine lv_iconst (v := (0 : Int32)) hx hb dX4_keep_34 (by decide) ?_
    obtain ⟨r35, hC, hF⟩ := k_c1_ex hF
    refine x_VR (As := [.int (0 : Int32)]) (rest := []) ⟨hx, hb, hml, hown, hts⟩ (c_X3_cell l D cyI cyZ aS aC N (0 : Int32) vc hC) (cwV 1 hts gX4_keep_X3_cell rfl rfl rfl (by decide +kernel) ⟨Nat.le_of_ble_eq_true rfl, Nat.le_of_ble_eq_true rfl⟩) hK hP hS [0, 1] rfl 0 rfl rfl rfl rfl hl.1 rfl (Nat.le_of_ble_eq_true rfl) ⟨Nat.zero_le _, Nat.zero_le _⟩ dX4_keep_35 (fun H locs hP hS => ?_)
    obtain ⟨e0, e1, e2⟩ := k_inj3 hF
    have hP9 : va_P D vwCl [(aS, .inr (3, [.ref aC])), (aC, .inl (cyI, 225, .inl vc)), (aL, .inr (4, [.ref aLs, .int vsf'])), (aLs, .inl (cyI, 450, .inl vss'))] H := by rw [← e1, ← e2]; exact hP
    exact W.iret hx hb hr (fun t ht hW => ⟨⟨_, (), rfl, e0, x_ret hP9 ht⟩, hS.F ht⟩) hS.2.2 dX4_keep_38
  · have hF := k_if_f hF hc
    refine lv_bipush (v := (-2 : Int32)) hx hb dX4_keep_9 (by decide) ?_
    obtain ⟨e0, e1, e2⟩ := k_inj3 hF
    have hP9 : va_P D vwCl [(aS, .inr (3, [.ref aC])), (aC, .inl (cyI, 225, .inl vc)), (aL, .inr (4, [.ref aLs, .int vsf'])), (aLs, .inl (cyI, 450, .inl vss'))] H := by rw [← e1, ← e2]; exact hP
    exact W.iret hx hb hr (fun t ht hW => ⟨⟨_, (), rfl, e0, x_ret hP9 ht⟩, hS.F ht⟩) hS.2.2 dX4_keep_11
theorem mm_X4_fetch_1 : Cond.fieldLink RX4 25 "RollerMesh$Slots" "filled" "I" ∈ wsX4_fetch := List.mem_of_getElem? (i := 1) rfl
theorem mm_X4_fetch_2 : Cond.fieldLink RX4 13 "RollerMesh$Slots" "states" "[I" ∈ wsX4_fetch := List.mem_of_getElem? (i := 2) rfl
theorem mm_X4_fetch_3 : Cond.static yX6_outside ∈ wsX4_fetch := List.mem_of_getElem? (i := 3) rfl
theorem mm_X4_fetch_4 : Cond.initialized RX6 ∈ wsX4_fetch := List.mem_of_getElem? (i := 4) rfl
theorem mi_X4_fetch_X4 : ∀ w ∈ wsX40, w ∈ wsX4_fetch := fun _ h => List.mem_cons_of_mem _ (List.mem_append_left _ (List.mem_append_right _ h))
set_option maxHeartbeats 4000000 in
set_option maxRecDepth 100000 in
theorem c_X4_fetch (l : Launch) (D : va_G) (cyI cyZ : ClassId) (aS aC aL aLs : Nat) (sz : Nat) (N : Nat) (x1 : Int32) (vc : (Nat → Int32)) (vsf : Int32) (vss : (Nat → Int32)) {r0 : Int32} {vc' : (Nat → Int32)} (hF : p_X4_fetch N x1 vc vsf vss = some (r0, vc')) : Met l yX4_fetch wsX4_fetch ({ frames := 2, cells := 0, slots := 0, locals := 48 }) (x_PM D cyI cyZ [.ref aL, .int x1, .ref aS] [(aS, .inr (3, [.ref aC])), (aC, .inl (cyI, 225, .inl vc)), (aL, .inr (4, [.ref aLs, .int vsf])), (aLs, .inl (cyI, 450, .inl vss))] sz) (x_QM D r0 (va_A [(aS, .inr (3, [.ref aC])), (aC, .inl (cyI, 225, .inl vc)), (aL, .inr (4, [.ref aLs, .int vsf])), (aLs, .inl (cyI, 450, .inl vss))] sz) [(aS, .inr (3, [.ref aC])), (aC, .inl (cyI, 225, .inl vc')), (aL, .inr (4, [.ref aLs, .int vsf])), (aLs, .inl (cyI, 450, .inl vss))]) 0 0 (va_A [(aS, .inr (3, [.ref aC])), (aC, .inl (cyI, 225, .inl vc)), (aL, .inr (4, [.ref aLs, .int vsf])), (aLs, .inl (cyI, 450, .inl vss))] sz) := by
  refine Met.ofW (cc := cX4_fetch) (maxL := 3) (ret := (some .int)) (by decide) rfl ?_
  intro p e s m args below meth c s₁ B hml hv
  obtain ⟨rfl, hsz, hP, hK, hD0⟩ := hv
  have hx := B.exec
  have hb := B.bytes
  have hr := B.returns
  have hts := atoms_spec (ws := wsX4_fetch) B.pre
  have hown : s.vm.findClass RX4 = some m.cls := findClass_of_methodNamed B.named
  have hlocks := B.notSynchronized
  subst hsz
  have hD := hD0.self (sz := s.heap.size)
  generalize hAe : va_A [(aS, .inr (3, [.ref aC])), (aC, .inl (cyI, 225, .inl vc)), (aL, .inr (4, [.ref aLs, .int vsf])), (aLs, .inl (cyI, 450, .inl vss))] s.heap.size = A at hD ⊢
  have hA : ∀ q : Nat, s.heap.size ≤ q → A q := fun q h => by rw [← hAe]; exact Or.inr h
  have hS : va_S A s.heap s.heap [] := va_S.rf
  have hP : va_P D vwCl [(aS, .inr (3, [.ref aC])), (aC, .inl (cyI, 225, .inl vc)), (aL, .inr (4, [.ref aLs, .int vsf])), (aLs, .inl (cyI, 450, .inl vss))] s.heap := hP
  have hl := lv_entry ([.ref aL, .int x1, .ref aS]) (n := 3) (Nat.le_of_ble_eq_true rfl)
  rw [lg_entry_eq]
  generalize (lg_sl ([.ref aL, .int x1, .ref aS]) ++ List.replicate (3 - (lg_sl ([.ref aL, .int x1, .ref aS])).length) Slot.unset).toArray = ls at hl ⊢
  have hl : lv_has ls 3 [(0, .ref aL), (1, .int x1), (2, .ref aS)] := hl
  unfold p_X4_fetch at hF
  refine lv_iload_n hx hb dX4_fetch_0 rfl (lv_at hl 1 rfl) ?_
  refine lv_iconst (v := (0 : Int32)) hx hb dX4_fetch_1 (by decide) ?_
  refine lv_iconst (v := (1 : Int32)) hx hb dX4_fetch_2 (by decide) ?_
  obtain ⟨r3, hC, hF⟩ := k_c1_ex hF
  refine x_NR (As := [.int x1, .int (0 : Int32), .int (1 : Int32)]) (rest := []) ⟨hx, hb, hml, hown, hts⟩ (c_X6_outside l D cyI cyZ N x1 (0 : Int32) (1 : Int32) hC) ⟨va_cnB 3 hts gX4_fetch_X6_outside_n17 rfl rfl rfl hK.2.2.2.2.1 (hts _ mm_X4_fetch_4) (by decide +kernel) ⟨Nat.le_of_ble_eq_true rfl, Nat.le_of_ble_eq_true rfl⟩, hts _ mm_X4_fetch_3, trivial⟩ hK hP hS [] rfl rfl hl.1 rfl (Nat.le_of_ble_eq_true rfl) ⟨Nat.zero_le _, Nat.zero_le _⟩ dX4_fetch_3 (fun H locs hP hS => ?_)
  refine lv_if_eq (tgt := 12) hx hb dX4_fetch_6 (by decide) (fun hc => ?_) (fun hc => ?_)
  · have hF := k_if_t hF hc
    refine lv_aload_n hx hb dX4_fetch_12 rfl (lv_at hl 0 rfl) ?_
    refine va_get (D := D) (ci := 4) (v := .int vsf) (C := RX4) (T := TX4) (N := 2) hx hb hts mi_X4_fetch_X4 hown hK.1 hP 2 rfl rfl 1 (by decide) (hts _ mm_X4_fetch_1) (fun _ h9 => h9) rfl dX4_fetch_13 ?_
    refine lv_iconst (v := (1 : Int32)) hx hb dX4_fetch_16 (by decide) ?_
    refine lv_iload_n hx hb dX4_fetch_17 rfl (lv_at hl 1 rfl) ?_
    refine lv_ishl hx hb dX4_fetch_18 ?_
    refine lv_iand hx hb dX4_fetch_19 ?_
    refine lv_if_ne (tgt := 26) hx hb dX4_fetch_20 (by decide) (fun hc => ?_) (fun hc => ?_)
    · have hF := k_if_f hF hc
      refine lv_aload_n hx hb dX4_fetch_26 rfl (lv_at hl 2 rfl) ?_
      refine lv_aload_n hx hb dX4_fetch_27 rfl (lv_at hl 0 rfl) ?_
      refine va_get (D := D) (ci := 4) (v := .ref aLs) (C := RX4) (T := TX4) (N := 2) hx hb hts mi_X4_fetch_X4 hown hK.1 hP 2 rfl rfl 0 (by decide) (hts _ mm_X4_fetch_2) (fun _ h9 => h9) rfl dX4_fetch_28 ?_
      refine lv_iload_n hx hb dX4_fetch_31 rfl (lv_at hl 1 rfl) ?_
      obtain ⟨vc_32, hC, hF⟩ := k_c1_ex hF
      refine x_VV (As := [.ref aLs, .int x1]) (rest := []) ⟨hx, hb, hml, hown, hts⟩ (c_X3_copyFrom_Ls l D cyI cyZ aS aC aLs H.size N x1 vc vss hC) (cwV 2 hts gX4_fetch_X3_copyFrom rfl rfl rfl (by decide +kernel) ⟨Nat.le_of_ble_eq_true rfl, Nat.le_of_ble_eq_true rfl⟩) hK hP hD hS hA [0, 1, 3] rfl rfl rfl 0 rfl rfl rfl rfl hl.1 rfl (Nat.le_of_ble_eq_true rfl) ⟨Nat.zero_le _, Nat.zero_le _⟩ dX4_fetch_32 (fun H locs hP hD hS => ?_)
      have hP : va_P D vwCl [(aS, .inr (3, [.ref aC])), (aC, .inl (cyI, 225, .inl vc_32)), (aL, .inr (4, [.ref aLs, .int vsf])), (aLs, .inl (cyI, 450, .inl vss))] H := hP
      have hD : va_D A [(aS, .inr (3, [.ref aC])), (aC, .inl (cyI, 225, .inl vc_32)), (aL, .inr (4, [.ref aLs, .int vsf])), (aLs, .inl (cyI, 450, .inl vss))] := hD
      refine lv_aload_n hx hb dX4_fetch_35 rfl (lv_at hl 2 rfl) ?_
      refine lv_iconst (v := (0 : Int32)) hx hb dX4_fetch_36 (by decide) ?_
      obtain ⟨r37, hC, hF⟩ := k_c1_ex hF
      refine x_VR (As := [.int (0 : Int32)]) (rest := []) ⟨hx, hb, hml, hown, hts⟩ (c_X3_cell l D cyI cyZ aS aC N (0 : Int32) vc_32 hC) (cwV 1 hts gX4_fetch_X3_cell rfl rfl rfl (by decide +kernel) ⟨Nat.le_of_ble_eq_true rfl, Nat.le_of_ble_eq_true rfl⟩) hK hP hS [0, 1] rfl 0 rfl rfl rfl rfl hl.1 rfl (Nat.le_of_ble_eq_true rfl) ⟨Nat.zero_le _, Nat.zero_le _⟩ dX4_fetch_37 (fun H locs hP hS => ?_)
      obtain ⟨e0, e1⟩ := k_inj2 hF
      have hP9 : va_P D vwCl [(aS, .inr (3, [.ref aC])), (aC, .inl (cyI, 225, .inl vc')), (aL, .inr (4, [.ref aLs, .int vsf])), (aLs, .inl (cyI, 450, .inl vss))] H := by rw [← e1]; exact hP
      exact W.iret hx hb hr (fun t ht hW => ⟨⟨_, (), rfl, e0, x_ret hP9 ht⟩, hS.F ht⟩) hS.2.2 dX4_fetch_40
    · have hF := k_if_t hF hc
      refine lv_bipush (v := (-5 : Int32)) hx hb dX4_fetch_23 (by decide) ?_
      obtain ⟨e0, e1⟩ := k_inj2 hF
      have hP9 : va_P D vwCl [(aS, .inr (3, [.ref aC])), (aC, .inl (cyI, 225, .inl vc')), (aL, .inr (4, [.ref aLs, .int vsf])), (aLs, .inl (cyI, 450, .inl vss))] H := by rw [← e1]; exact hP
      exact W.iret hx hb hr (fun t ht hW => ⟨⟨_, (), rfl, e0, x_ret hP9 ht⟩, hS.F ht⟩) hS.2.2 dX4_fetch_25
  · have hF := k_if_f hF hc
    refine lv_bipush (v := (-2 : Int32)) hx hb dX4_fetch_9 (by decide) ?_
    obtain ⟨e0, e1⟩ := k_inj2 hF
    have hP9 : va_P D vwCl [(aS, .inr (3, [.ref aC])), (aC, .inl (cyI, 225, .inl vc')), (aL, .inr (4, [.ref aLs, .int vsf])), (aLs, .inl (cyI, 450, .inl vss))] H := by rw [← e1]; exact hP
    exact W.iret hx hb hr (fun t ht hW => ⟨⟨_, (), rfl, e0, x_ret hP9 ht⟩, hS.F ht⟩) hS.2.2 dX4_fetch_11
