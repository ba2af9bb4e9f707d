theorem mm_X6_roller_1 : Cond.fieldLink RX6 19 "RollerMesh" "history" "LRollerMesh$History;" ∈ wsX6_roller := List.mem_of_getElem? (i := 1) rfl
theorem mm_X6_roller_2 : Cond.fieldLink RX6 10 "RollerMesh" "shop" "LRollerMesh$Shop;" ∈ wsX6_roller := List.mem_of_getElem? (i := 2) rfl
theorem mi_X6_roller_X6 : ∀ w ∈ wsX60, w ∈ wsX6_roller := fun _ h => List.mem_cons_of_mem _ (List.mem_append_left _ (List.mem_append_left _ (List.mem_append_right _ h)))
set_option maxHeartbeats 4000000 in
set_option maxRecDepth 100000 in
theorem c_X6_roller (l : Launch) (D : va_G) (cyI cyZ : ClassId) (aM aS aC aH aHs aL aP aR aT : Nat) (sz : Nat) (N : Nat) (x1 : Int32) (x2 : Int32) (vc : (Nat → Int32)) (vhf : Int32) (vhl : Int32) (vhs : (Nat → Int32)) {r0 : Int32} {vc' : (Nat → Int32)} {vhf' : Int32} {vhl' : Int32} {vhs' : (Nat → Int32)} (hF : p_X6_roller N x1 x2 vc vhf vhl vhs = some (r0, vc', vhf', vhl', vhs')) : Met l yX6_roller wsX6_roller ({ frames := 3, cells := 0, slots := 0, locals := 69 }) (x_PM D cyI cyZ [.ref aM, .int x1, .int x2] [(aM, .inr (6, [.ref aS, .ref aH, .ref aL, .ref aP, .ref aR, .ref aT])), (aS, .inr (3, [.ref aC])), (aC, .inl (cyI, 225, .inl vc)), (aH, .inr (0, [.ref aHs, .int vhf, .int vhl])), (aHs, .inl (cyI, 1575, .inl vhs))] sz) (x_QM D r0 (va_A [(aM, .inr (6, [.ref aS, .ref aH, .ref aL, .ref aP, .ref aR, .ref aT])), (aS, .inr (3, [.ref aC])), (aC, .inl (cyI, 225, .inl vc)), (aH, .inr (0, [.ref aHs, .int vhf, .int vhl])), (aHs, .inl (cyI, 1575, .inl vhs))] sz) [(aM, .inr (6, [.ref aS, .ref aH, .ref aL, .ref aP, .ref aR, .ref aT])), (aS, .inr (3, [.ref aC])), (aC, .inl (cyI, 225, .inl vc')), (aH, .inr (0, [.ref aHs, .int vhf', .int vhl'])), (aHs, .inl (cyI, 1575, .inl vhs'))]) 0 0 (va_A [(aM, .inr (6, [.ref aS, .ref aH, .ref aL, .ref aP, .ref aR, .ref aT])), (aS, .inr (3, [.ref aC])), (aC, .inl (cyI, 225, .inl vc)), (aH, .inr (0, [.ref aHs, .int vhf, .int vhl])), (aHs, .inl (cyI, 1575, .inl vhs))] sz) := by
  refine Met.ofW (cc := cX6_roller) (maxL := 3) (ret := (some .int)) (by decide) rfl ?_
  intro p e s m args below meth c s₁ B hml hv
  obtain ⟨rfl, hsz, hP, hK, hD0⟩ := hv
  have hx := B.exec
  have hb := B.bytes
  have hr := B.returns
  have hts := atoms_spec (ws := wsX6_roller) B.pre
  have hown : s.vm.findClass RX6 = some m.cls := findClass_of_methodNamed B.named
  have hlocks := B.notSynchronized
  subst hsz
  have hD := hD0.self (sz := s.heap.size)
  generalize hAe : va_A [(aM, .inr (6, [.ref aS, .ref aH, .ref aL, .ref aP, .ref aR, .ref aT])), (aS, .inr (3, [.ref aC])), (aC, .inl (cyI, 225, .inl vc)), (aH, .inr (0, [.ref aHs, .int vhf, .int vhl])), (aHs, .inl (cyI, 1575, .inl vhs))] s.heap.size = A at hD ⊢
  have hA : ∀ q : Nat, s.heap.size ≤ q → A q := fun q h => by rw [← hAe]; exact Or.inr h
  have hS : va_S A s.heap s.heap [] := va_S.rf
  have hP : va_P D vwCl [(aM, .inr (6, [.ref aS, .ref aH, .ref aL, .ref aP, .ref aR, .ref aT])), (aS, .inr (3, [.ref aC])), (aC, .inl (cyI, 225, .inl vc)), (aH, .inr (0, [.ref aHs, .int vhf, .int vhl])), (aHs, .inl (cyI, 1575, .inl vhs))] s.heap := hP
  have hl := lv_entry ([.ref aM, .int x1, .int x2]) (n := 3) (Nat.le_of_ble_eq_true rfl)
  rw [lg_entry_eq]
  generalize (lg_sl ([.ref aM, .int x1, .int x2]) ++ List.replicate (3 - (lg_sl ([.ref aM, .int x1, .int x2])).length) Slot.unset).toArray = ls at hl ⊢
  have hl : lv_has ls 3 [(0, .ref aM), (1, .int x1), (2, .int x2)] := hl
  unfold p_X6_roller at hF
  refine lv_aload_n hx hb dX6_roller_0 rfl (lv_at hl 0 rfl) ?_
  refine va_get (D := D) (ci := 6) (v := .ref aH) (C := RX6) (T := TX6) (N := 6) hx hb hts mi_X6_roller_X6 hown hK.1 hP 0 rfl rfl 1 (by decide) (hts _ mm_X6_roller_1) (fun _ h9 => h9) rfl dX6_roller_1 ?_
  refine lv_aload_n hx hb dX6_roller_4 rfl (lv_at hl 0 rfl) ?_
  refine va_get (D := D) (ci := 6) (v := .ref aS) (C := RX6) (T := TX6) (N := 6) hx hb hts mi_X6_roller_X6 hown hK.1 hP 0 rfl rfl 0 (by decide) (hts _ mm_X6_roller_2) (fun _ h9 => h9) rfl dX6_roller_5 ?_
  obtain ⟨vhs_8, hC, hF⟩ := k_c1_ex hF
  refine x_VV (As := [.ref aS]) (rest := []) ⟨hx, hb, hml, hown, hts⟩ (c_X0_prepare l D cyI cyZ aS aC aH aHs s.heap.size N vc vhf vhl vhs hC) (cwV 1 hts gX6_roller_X0_prepare rfl rfl rfl (by decide +kernel) ⟨Nat.le_of_ble_eq_true rfl, Nat.le_of_ble_eq_true rfl⟩) hK hP hD hS hA [1, 2, 3, 4] rfl rfl rfl 3 rfl rfl rfl rfl hl.1 rfl (Nat.le_of_ble_eq_true rfl) ⟨Nat.zero_le _, Nat.zero_le _⟩ dX6_roller_8 (fun H locs hP hD hS => ?_)
  have hP : va_P D vwCl [(aM, .inr (6, [.ref aS, .ref aH, .ref aL, .ref aP, .ref aR, .ref aT])), (aS, .inr (3, [.ref aC])), (aC, .inl (cyI, 225, .inl vc)), (aH, .inr (0, [.ref aHs, .int vhf, .int vhl])), (aHs, .inl (cyI, 1575, .inl vhs_8))] H := hP
  have hD : va_D A [(aM, .inr (6, [.ref aS, .ref aH, .ref aL, .ref aP, .ref aR, .ref aT])), (aS, .inr (3, [.ref aC])), (aC, .inl (cyI, 225, .inl vc)), (aH, .inr (0, [.ref aHs, .int vhf, .int vhl])), (aHs, .inl (cyI, 1575, .inl vhs_8))] := hD
  refine lv_aload_n hx hb dX6_roller_11 rfl (lv_at hl 0 rfl) ?_
  refine va_get (D := D) (ci := 6) (v := .ref aH) (C := RX6) (T := TX6) (N := 6) hx hb hts mi_X6_roller_X6 hown hK.1 hP 0 rfl rfl 1 (by decide) (hts _ mm_X6_roller_1) (fun _ h9 => h9) rfl dX6_roller_12 ?_
  refine lv_aload_n hx hb dX6_roller_15 rfl (lv_at hl 0 rfl) ?_
  refine va_get (D := D) (ci := 6) (v := .ref aS) (C := RX6) (T := TX6) (N := 6) hx hb hts mi_X6_roller_X6 hown hK.1 hP 0 rfl rfl 0 (by decide) (hts _ mm_X6_roller_2) (fun _ h9 => h9) rfl dX6_roller_16 ?_
  refine lv_iload_n hx hb dX6_roller_19 rfl (lv_at hl 1 rfl) ?_
  refine lv_iload_n hx hb dX6_roller_20 rfl (lv_at hl 2 rfl) ?_
  obtain ⟨r21, vc_21, hC, hF⟩ := k_c2_ex hF
  refine x_VM (As := [.int x1, .int x2]) (rest := [.ref aH]) ⟨hx, hb, hml, hown, hts⟩ (c_X3_addRoller l D cyI cyZ aS aC H.size N x1 x2 vc hC) (cwV 2 hts gX6_roller_X3_addRoller rfl rfl rfl (by decide +kernel) ⟨Nat.le_of_ble_eq_true rfl, Nat.le_of_ble_eq_true rfl⟩) hK hP hD hS hA [1, 2] rfl rfl rfl 1 rfl rfl rfl rfl hl.1 rfl (Nat.le_of_ble_eq_true rfl) ⟨Nat.zero_le _, Nat.zero_le _⟩ dX6_roller_21 (fun H locs hP hD hS => ?_)
  have hP : va_P D vwCl [(aM, .inr (6, [.ref aS, .ref aH, .ref aL, .ref aP, .ref aR, .ref aT])), (aS, .inr (3, [.ref aC])), (aC, .inl (cyI, 225, .inl vc_21)), (aH, .inr (0, [.ref aHs, .int vhf, .int vhl])), (aHs, .inl (cyI, 1575, .inl vhs_8))] H := hP
  have hD : va_D A [(aM, .inr (6, [.ref aS, .ref aH, .ref aL, .ref aP, .ref aR, .ref aT])), (aS, .inr (3, [.ref aC])), (aC, .inl (cyI, 225, .inl vc_21)), (aH, .inr (0, [.ref aHs, .int vhf, .int vhl])), (aHs, .inl (cyI, 1575, .inl vhs_8))] := hD
  obtain ⟨r24, vhf_24, vhl_24, hC, hF⟩ := k_c3_ex hF
  refine x_VM (As := [.int r21]) (rest := []) ⟨hx, hb, hml, hown, hts⟩ (c_X0_recorded l D cyI cyZ aH aHs H.size N r21 vhf vhl hC) (cwV 1 hts gX6_roller_X0_recorded rfl rfl rfl (by decide +kernel) ⟨Nat.le_of_ble_eq_true rfl, Nat.le_of_ble_eq_true rfl⟩) hK hP hD hS hA [3] rfl rfl rfl 3 rfl rfl rfl rfl hl.1 rfl (Nat.le_of_ble_eq_true rfl) ⟨Nat.zero_le _, Nat.zero_le _⟩ dX6_roller_24 (fun H locs hP hD hS => ?_)
  have hP : va_P D vwCl [(aM, .inr (6, [.ref aS, .ref aH, .ref aL, .ref aP, .ref aR, .ref aT])), (aS, .inr (3, [.ref aC])), (aC, .inl (cyI, 225, .inl vc_21)), (aH, .inr (0, [.ref aHs, .int vhf_24, .int vhl_24])), (aHs, .inl (cyI, 1575, .inl vhs_8))] H := hP
  have hD : va_D A [(aM, .inr (6, [.ref aS, .ref aH, .ref aL, .ref aP, .ref aR, .ref aT])), (aS, .inr (3, [.ref aC])), (aC, .inl (cyI, 225, .inl vc_21)), (aH, .inr (0, [.ref aHs, .int vhf_24, .int vhl_24])), (aHs, .inl (cyI, 1575, .inl vhs_8))] := hD
  obtain ⟨e0, e1, e2, e3, e4⟩ := k_inj5 hF
  have hP9 : va_P D vwCl [(aM, .inr (6, [.ref aS, .ref aH, .ref aL, .ref aP, .ref aR, .ref aT])), (aS, .inr (3, [.ref aC])), (aC, .inl (cyI, 225, .inl vc')), (aH, .inr (0, [.ref aHs, .int vhf', .int vhl'])), (aHs, .inl (cyI, 1575, .inl vhs'))] H := by rw [← e1, ← e2, ← e3, ← e4]; exact hP
  exact W.iret hx hb hr (fun t ht hW => ⟨⟨_, (), rfl, e0, x_ret hP9 ht⟩, hS.F ht⟩) hS.2.2 dX6_roller_27
theorem mm_X6_save_1 : Cond.fieldLink RX6 26 "RollerMesh" "slots" "LRollerMesh$Slots;" ∈ wsX6_save := List.mem_of_getElem? (i := 1) rfl
theorem mm_X6_save_2 : Cond.fieldLink RX6 10 "RollerMesh" "shop" "LRollerMesh$Shop;" ∈ wsX6_save := List.mem_of_getElem? (i := 2) rfl
theorem mi_X6_save_X6 : ∀ w ∈ wsX60, w ∈ wsX6_save := fun _ h => List.mem_cons_of_mem _ (List.mem_append_left _ (List.mem_append_left _ (List.mem_append_right _ h)))
set_option maxHeartbeats 4000000 in
set_option maxRecDepth 100000 in
theorem c_X6_save (l : Launch) (D : va_G) (cyI cyZ : ClassId) (aM aS aC aH aL aLs aP aR aT : Nat) (sz : Nat) (N : Nat) (x1 : Int32) (vc : (Nat → Int32)) (vsf : Int32) (vss : (Nat → Int32)) {r0 : Int32} {vsf' : Int32} {vss' : (Nat → Int32)} (hF : p_X6_save N x1 vc vsf vss = some (r0, vsf', vss')) : Met l yX6_save wsX6_save ({ frames := 3, cells := 0, slots := 0, locals := 70 }) (x_PM D cyI cyZ [.ref aM, .int x1] [(aM, .inr (6, [.ref aS, .ref aH, .ref aL, .ref aP, .ref aR, .ref aT])), (aS, .inr (3, [.ref aC])), (aC, .inl (cyI, 225, .inl vc)), (aL, .inr (4, [.ref aLs, .int vsf])), (aLs, .inl (cyI, 450, .inl vss))] sz) (x_QM D r0 (va_A [(aM, .inr (6, [.ref aS, .ref aH, .ref aL, .ref aP, .ref aR, .ref aT])), (aS, .inr (3, [.ref aC])), (aC, .inl (cyI, 225, .inl vc)), (aL, .inr (4, [.ref aLs, .int vsf])), (aLs, .inl (cyI, 450, .inl vss))] sz) [(aM, .inr (6, [.ref aS, .ref aH, .ref aL, .ref aP, .ref aR, .ref aT])), (aS, .inr (3, [.ref aC])), (aC, .inl (cyI, 225, .inl vc)), (aL, .inr (4, [.ref aLs, .int vsf'])), (aLs, .inl (cyI, 450, .inl vss'))]) 0 0 (va_A [(aM, .inr (6, [.ref aS, .ref aH, .ref aL, .ref aP, .ref aR, .ref aT])), (aS, .inr (3, [.ref aC])), (aC, .inl (cyI, 225, .inl vc)), (aL, .inr (4, [.ref aLs, .int vsf])), (aLs, .inl (cyI, 450, .inl vss))] sz) := by
  refine Met.ofW (cc := cX6_save) (maxL := 2) (ret := (some .int)) (by decide) rfl ?_
  intro p e s m args below meth c s₁ B hml hv
  obtain ⟨rfl, hsz, hP, hK, hD0⟩ := hv
  have hx := B.exec
  have hb := B.bytes
  have hr := B.returns
  have hts := atoms_spec (ws := wsX6_save) B.pre
  have hown : s.vm.findClass RX6 = some m.cls := findClass_of_methodNamed B.named
  have hlocks := B.notSynchronized
  subst hsz
  have hD := hD0.self (sz := s.heap.size)
  generalize hAe : va_A [(aM, .inr (6, [.ref aS, .ref aH, .ref aL, .ref aP, .ref aR, .ref aT])), (aS, .inr (3, [.ref aC])), (aC, .inl (cyI, 225, .inl vc)), (aL, .inr (4, [.ref aLs, .int vsf])), (aLs, .inl (cyI, 450, .inl vss))] s.heap.size = A at hD ⊢
  have hA : ∀ q : Nat, s.heap.size ≤ q → A q := fun q h => by rw [← hAe]; exact Or.inr h
  have hS : va_S A s.heap s.heap [] := va_S.rf
  have hP : va_P D vwCl [(aM, .inr (6, [.ref aS, .ref aH, .ref aL, .ref aP, .ref aR, .ref aT])), (aS, .inr (3, [.ref aC])), (aC, .inl (cyI, 225, .inl vc)), (aL, .inr (4, [.ref aLs, .int vsf])), (aLs, .inl (cyI, 450, .inl vss))] s.heap := hP
  have hl := lv_entry ([.ref aM, .int x1]) (n := 2) (Nat.le_of_ble_eq_true rfl)
  rw [lg_entry_eq]
  generalize (lg_sl ([.ref aM, .int x1]) ++ List.replicate (2 - (lg_sl ([.ref aM, .int x1])).length) Slot.unset).toArray = ls at hl ⊢
  have hl : lv_has ls 2 [(0, .ref aM), (1, .int x1)] := hl
  unfold p_X6_save at hF
  refine lv_aload_n hx hb dX6_save_0 rfl (lv_at hl 0 rfl) ?_
  refine va_get (D := D) (ci := 6) (v := .ref aL) (C := RX6) (T := TX6) (N := 6) hx hb hts mi_X6_save_X6 hown hK.1 hP 0 rfl rfl 2 (by decide) (hts _ mm_X6_save_1) (fun _ h9 => h9) rfl dX6_save_1 ?_
  refine lv_iload_n hx hb dX6_save_4 rfl (lv_at hl 1 rfl) ?_
  refine lv_aload_n hx hb dX6_save_5 rfl (lv_at hl 0 rfl) ?_
  refine va_get (D := D) (ci := 6) (v := .ref aS) (C := RX6) (T := TX6) (N := 6) hx hb hts mi_X6_save_X6 hown hK.1 hP 0 rfl rfl 0 (by decide) (hts _ mm_X6_save_2) (fun _ h9 => h9) rfl dX6_save_6 ?_
  obtain ⟨r9, vsf_9, vss_9, hC, hF⟩ := k_c3_ex hF
  refine x_VM (As := [.int x1, .ref aS]) (rest := []) ⟨hx, hb, hml, hown, hts⟩ (c_X4_keep l D cyI cyZ aS aC aL aLs s.heap.size N x1 vc vsf vss hC) (cwV 2 hts gX6_save_X4_keep rfl rfl rfl (by decide +kernel) ⟨Nat.le_of_ble_eq_true rfl, Nat.le_of_ble_eq_true rfl⟩) hK hP hD hS hA [1, 2, 3, 4] rfl rfl rfl 3 rfl rfl rfl rfl hl.1 rfl (Nat.le_of_ble_eq_true rfl) ⟨Nat.zero_le _, Nat.zero_le _⟩ dX6_save_9 (fun H locs hP hD hS => ?_)
  have hP : va_P D vwCl [(aM, .inr (6, [.ref aS, .ref aH, .ref aL, .ref aP, .ref aR, .ref aT])), (aS, .inr (3, [.ref aC])), (aC, .inl (cyI, 225, .inl vc)), (aL, .inr (4, [.ref aLs, .int vsf_9])), (aLs, .inl (cyI, 450, .inl vss_9))] H := hP
  have hD : va_D A [(aM, .inr (6, [.ref aS, .ref aH, .ref aL, .ref aP, .ref aR, .ref aT])), (aS, .inr (3, [.ref aC])), (aC, .inl (cyI, 225, .inl vc)), (aL, .inr (4, [.ref aLs, .int vsf_9])), (aLs, .inl (cyI, 450, .inl vss_9))] := hD
  obtain ⟨e0, e1, e2⟩ := k_inj3 hF
  have hP9 : va_P D vwCl [(aM, .inr (6, [.ref aS, .ref aH, .ref aL, .ref aP, .ref aR, .ref aT])), (aS, .inr (3, [.ref aC])), (aC, .inl (cyI, 225, .inl vc)), (aL, .inr (4, [.ref aLs, .int vsf'])), (aLs, .inl (cyI, 450, .inl vss'))] H := by rw [← e1, ← e2]; exact hP
  exact W.iret hx hb hr (fun t ht hW => ⟨⟨_, (), rfl, e0, x_ret hP9 ht⟩, hS.F ht⟩) hS.2.2 dX6_save_12
theorem mm_X6_count_1 : Cond.fieldLink RX6 33 "RollerMesh" "pad" "LRollerMesh$Pad;" ∈ wsX6_count := List.mem_of_getElem? (i := 1) rfl
theorem mm_X6_count_2 : Cond.fieldLink RX6 19 "RollerMesh" "history" "LRollerMesh$History;" ∈ wsX6_count := List.mem_of_getElem? (i := 2) rfl
theorem mm_X6_count_3 : Cond.fieldLink RX6 10 "RollerMesh" "shop" "LRollerMesh$Shop;" ∈ wsX6_count := List.mem_of_getElem? (i := 3) rfl
theorem mi_X6_count_X6 : ∀ w ∈ wsX60, w ∈ wsX6_count := fun _ h => List.mem_cons_of_mem _ (List.mem_append_left _ (List.mem_append_left _ (List.mem_append_left _ (List.mem_append_right _ h))))
set_option maxHeartbeats 4000000 in
set_option maxRecDepth 100000 in
theorem c_X6_count (l : Launch) (D : va_G) (cyI cyZ : ClassId) (aM aS aC aH aHs aL aP aPc aR aT : Nat) (N : Nat) (x1 : Int32) (vc : (Nat → Int32)) (vhf : Int32) (vhl : Int32) (vpl : Int32) {r0 : Int32}  (hF : p_X6_count N x1 vc vhf vhl vpl = some (r0)) : Met l yX6_count wsX6_count ({ frames := 1, cells := 0, slots := 0, locals := 22 }) (x_PR D cyI cyZ [.ref aM, .int x1] [(aM, .inr (6, [.ref aS, .ref aH, .ref aL, .ref aP, .ref aR, .ref aT])), (aS, .inr (3, [.ref aC])), (aC, .inl (cyI, 225, .inl vc)), (aH, .inr (0, [.ref aHs, .int vhf, .int vhl])), (aP, .inr (1, [.ref aPc, .int vpl]))]) (x_QR r0) 0 0 (fun _ => False) := by
  refine Met.ofW (cc := cX6_count) (maxL := 2) (ret := (some .int)) (by decide) rfl ?_
  intro p e s m args below meth c s₁ B hml hv
  obtain ⟨rfl, hP, hK⟩ := hv
  have hx := B.exec
  have hb := B.bytes
  have hr := B.returns
  have hts := atoms_spec (ws := wsX6_count) B.pre
  have hown : s.vm.findClass RX6 = some m.cls := findClass_of_methodNamed B.named
  have hlocks := B.notSynchronized
  have hS : va_S (fun _ => False) s.heap s.heap [] := va_S.rf
  have hP : va_P D vwCl [(aM, .inr (6, [.ref aS, .ref aH, .ref aL, .ref aP, .ref aR, .ref aT])), (aS, .inr (3, [.ref aC])), (aC, .inl (cyI, 225, .inl vc)), (aH, .inr (0, [.ref aHs, .int vhf, .int vhl])), (aP, .inr (1, [.ref aPc, .int vpl]))] s.heap := hP
  have hl := lv_entry ([.ref aM, .int x1]) (n := 2) (Nat.le_of_ble_eq_true rfl)
  rw [lg_entry_eq]
  generalize (lg_sl ([.ref aM, .int x1]) ++ List.replicate (2 - (lg_sl ([.ref aM, .int x1])).length) Slot.unset).toArray = ls at hl ⊢
  have hl : lv_has ls 2 [(0, .ref aM), (1, .int x1)] := hl
  unfold p_X6_count at hF
  refine lv_iload_n hx hb dX6_count_0 rfl (lv_at hl 1 rfl) ?_
  refine lv_iconst (v := (0 : Int32)) hx hb dX6_count_1 (by decide) ?_
  refine lv_bipush (v := (10 : Int32)) hx hb dX6_count_2 (by decide) ?_
  obtain ⟨r4, hC, hF⟩ := k_c1_ex hF
  refine x_SR (As := [.int x1, .int (0 : Int32), .int (10 : Int32)]) (rest := []) ⟨hx, hb, hml, hown, hts⟩ (c_X6_outside l D cyI cyZ N x1 (0 : Int32) (10 : Int32) hC) (va_cwS 3 hts gX6_count_X6_outside rfl rfl rfl (by decide +kernel) ⟨Nat.le_of_ble_eq_true rfl, Nat.le_of_ble_eq_true rfl⟩) hK hP hS [] rfl rfl hl.1 rfl (Nat.le_of_ble_eq_true rfl) ⟨Nat.zero_le _, Nat.zero_le _⟩ dX6_count_4 (fun H locs hP hS => ?_)
  refine lv_if_eq (tgt := 13) hx hb dX6_count_7 (by decide) (fun hc => ?_) (fun hc => ?_)
  · have hF := k_if_t hF hc
    refine lv_iload_n hx hb dX6_count_13 rfl (lv_at hl 1 rfl) ?_
    refine lv_bipush (v := (9 : Int32)) hx hb dX6_count_14 (by decide) ?_
    refine lv_icmp_ne (tgt := 27) hx hb dX6_count_16 (by decide) (fun hc => ?_) (fun hc => ?_)
    · have hF := k_if_f hF hc
      refine lv_iload_n hx hb dX6_count_27 rfl (lv_at hl 1 rfl) ?_
      refine lv_bipush (v := (10 : Int32)) hx hb dX6_count_28 (by decide) ?_
      refine lv_icmp_ne (tgt := 43) hx hb dX6_count_30 (by decide) (fun hc => ?_) (fun hc => ?_)
      · have hF := k_if_f hF hc
        refine lv_aload_n hx hb dX6_count_43 rfl (lv_at hl 0 rfl) ?_
        refine va_get (D := D) (ci := 6) (v := .ref aS) (C := RX6) (T := TX6) (N := 6) hx hb hts mi_X6_count_X6 hown hK.1 hP 0 rfl rfl 0 (by decide) (hts _ mm_X6_count_3) (fun _ h9 => h9) rfl dX6_count_44 ?_
        refine lv_iload_n hx hb dX6_count_47 rfl (lv_at hl 1 rfl) ?_
        obtain ⟨r48, hC, hF⟩ := k_c1_ex hF
        refine x_VR (As := [.int x1]) (rest := []) ⟨hx, hb, hml, hown, hts⟩ (c_X3_cell l D cyI cyZ aS aC N x1 vc hC) (cwV 1 hts gX6_count_X3_cell rfl rfl rfl (by decide +kernel) ⟨Nat.le_of_ble_eq_true rfl, Nat.le_of_ble_eq_true rfl⟩) hK hP hS [1, 2] rfl 1 rfl rfl rfl rfl hl.1 rfl (Nat.le_of_ble_eq_true rfl) ⟨Nat.zero_le _, Nat.zero_le _⟩ dX6_count_48 (fun H locs hP hS => ?_)
        exact W.iret hx hb hr (fun t ht hW => ⟨⟨_, (), rfl, Option.some.inj hF, trivial⟩, hS.F ht⟩) hS.2.2 dX6_count_51
      · have hF := k_if_t hF hc
        refine lv_aload_n hx hb dX6_count_33 rfl (lv_at hl 0 rfl) ?_
        refine va_get (D := D) (ci := 6) (v := .ref aH) (C := RX6) (T := TX6) (N := 6) hx hb hts mi_X6_count_X6 hown hK.1 hP 0 rfl rfl 1 (by decide) (hts _ mm_X6_count_2) (fun _ h9 => h9) rfl dX6_count_34 ?_
        obtain ⟨r37, hC, hF⟩ := k_c1_ex hF
        refine x_VR (As := []) (rest := []) ⟨hx, hb, hml, hown, hts⟩ (c_X0_length l D cyI cyZ aH aHs N vhf vhl hC) (cwV 0 hts gX6_count_X0_length rfl rfl rfl (by decide +kernel) ⟨Nat.le_of_ble_eq_true rfl, Nat.le_of_ble_eq_true rfl⟩) hK hP hS [3] rfl 3 rfl rfl rfl rfl hl.1 rfl (Nat.le_of_ble_eq_true rfl) ⟨Nat.zero_le _, Nat.zero_le _⟩ dX6_count_37 (fun H locs hP hS => ?_)
        refine lv_goto (tgt := 51) hx hb dX6_count_40 (by decide) ?_
        exact W.iret hx hb hr (fun t ht hW => ⟨⟨_, (), rfl, Option.some.inj hF, trivial⟩, hS.F ht⟩) hS.2.2 dX6_count_51
    · have hF := k_if_t hF hc
      refine lv_aload_n hx hb dX6_count_19 rfl (lv_at hl 0 rfl) ?_
      refine va_get (D := D) (ci := 6) (v := .ref aP) (C := RX6) (T := TX6) (N := 6) hx hb hts mi_X6_count_X6 hown hK.1 hP 0 rfl rfl 3 (by decide) (hts _ mm_X6_count_1) (fun _ h9 => h9) rfl dX6_count_20 ?_
      obtain ⟨r23, hC, hF⟩ := k_c1_ex hF
      refine x_VR (As := []) (rest := []) ⟨hx, hb, hml, hown, hts⟩ (c_X1_length l D cyI cyZ aP aPc N vpl hC) (cwV 0 hts gX6_count_X1_length rfl rfl rfl (by decide +kernel) ⟨Nat.le_of_ble_eq_true rfl, Nat.le_of_ble_eq_true rfl⟩) hK hP hS [4] rfl 4 rfl rfl rfl rfl hl.1 rfl (Nat.le_of_ble_eq_true rfl) ⟨Nat.zero_le _, Nat.zero_le _⟩ dX6_count_23 (fun H locs hP hS => ?_)
      exact W.iret hx hb hr (fun t ht hW => ⟨⟨_, (), rfl, Option.some.inj hF, trivial⟩, hS.F ht⟩) hS.2.2 dX6_count_26
  · have hF := k_if_f hF hc
    refine lv_bipush (v := (-2 : Int32)) hx hb dX6_count_10 (by decide) ?_
    exact W.iret hx hb hr (fun t ht hW => ⟨⟨_, (), rfl, Option.some.inj hF, trivial⟩, hS.F ht⟩) hS.2.2 dX6_count_12
theorem mm_X6_of_1 : Cond.fieldLink RX6 10 "RollerMesh" "shop" "LRollerMesh$Shop;" ∈ wsX6_of := List.mem_of_getElem? (i := 1) rfl
theorem mi_X6_of_X6 : ∀ w ∈ wsX60, w ∈ wsX6_of := fun _ h => List.mem_cons_of_mem _ (List.mem_append_left _ (List.mem_append_right _ h))
set_option maxHeartbeats 4000000 in
set_option maxRecDepth 100000 in
theorem c_X6_of (l : Launch) (D : va_G) (cyI cyZ : ClassId) (aM aS aC aH aL aP aR aT : Nat) (N : Nat) (x1 : Int32) (x2 : Int32) (vc : (Nat → Int32)) {r0 : Int32}  (hF : p_X6_of N x1 x2 vc = some (r0)) : Met l yX6_of wsX6_of ({ frames := 3, cells := 0, slots := 0, locals := 67 }) (x_PR D cyI cyZ [.ref aM, .int x1, .int x2] [(aM, .inr (6, [.ref aS, .ref aH, .ref aL, .ref aP, .ref aR, .ref aT])), (aS, .inr (3, [.ref aC])), (aC, .inl (cyI, 225, .inl vc))]) (x_QR r0) 0 0 (fun _ => False) := by
  refine Met.ofW (cc := cX6_of) (maxL := 3) (ret := (some .int)) (by decide) rfl ?_
  intro p e s m args below meth c s₁ B hml hv
  obtain ⟨rfl, hP, hK⟩ := hv
  have hx := B.exec
  have hb := B.bytes
  have hr := B.returns
  have hts := atoms_spec (ws := wsX6_of) B.pre
  have hown : s.vm.findClass RX6 = some m.cls := findClass_of_methodNamed B.named
  have hlocks := B.notSynchronized
  have hS : va_S (fun _ => False) s.heap s.heap [] := va_S.rf
  have hP : va_P D vwCl [(aM, .inr (6, [.ref aS, .ref aH, .ref aL, .ref aP, .ref aR, .ref aT])), (aS, .inr (3, [.ref aC])), (aC, .inl (cyI, 225, .inl vc))] s.heap := hP
  have hl := lv_entry ([.ref aM, .int x1, .int x2]) (n := 3) (Nat.le_of_ble_eq_true rfl)
  rw [lg_entry_eq]
  generalize (lg_sl ([.ref aM, .int x1, .int x2]) ++ List.replicate (3 - (lg_sl ([.ref aM, .int x1, .int x2])).length) Slot.unset).toArray = ls at hl ⊢
  have hl : lv_has ls 3 [(0, .ref aM), (1, .int x1), (2, .int x2)] := hl
  unfold p_X6_of at hF
  refine lv_aload_n hx hb dX6_of_0 rfl (lv_at hl 0 rfl) ?_
  refine va_get (D := D) (ci := 6) (v := .ref aS) (C := RX6) (T := TX6) (N := 6) hx hb hts mi_X6_of_X6 hown hK.1 hP 0 rfl rfl 0 (by decide) (hts _ mm_X6_of_1) (fun _ h9 => h9) rfl dX6_of_1 ?_
  refine lv_iload_n hx hb dX6_of_4 rfl (lv_at hl 1 rfl) ?_
  obtain ⟨r5, hC, hF⟩ := k_c1_ex hF
  refine x_VR (As := [.int x1]) (rest := []) ⟨hx, hb, hml, hown, hts⟩ (c_X3_has l D cyI cyZ aS aC N x1 vc hC) (cwV 1 hts gX6_of_X3_has rfl rfl rfl (by decide +kernel) ⟨Nat.le_of_ble_eq_true rfl, Nat.le_of_ble_eq_true rfl⟩) hK hP hS [1, 2] rfl 1 rfl rfl rfl rfl hl.1 rfl (Nat.le_of_ble_eq_true rfl) ⟨Nat.zero_le _, Nat.zero_le _⟩ dX6_of_5 (fun H locs hP hS => ?_)
  refine lv_if_ne (tgt := 13) hx hb dX6_of_8 (by decide) (fun hc => ?_) (fun hc => ?_)
  · have hF := k_if_f hF hc
    refine lv_iload_n hx hb dX6_of_13 rfl (lv_at hl 2 rfl) ?_
    by_cases h0 : x2 = (0 : Int32)
    · have hF := k_if_t hF h0
      refine lv_tableIn (tgt := 56) (off := 42) hx hb dX6_of_14 (by rw [h0]; decide) (by rw [h0]; decide) (by rw [h0]; decide) (by decide) ?_
      refine lv_aload_n hx hb dX6_of_56 rfl (lv_at hl 0 rfl) ?_
      refine va_get (D := D) (ci := 6) (v := .ref aS) (C := RX6) (T := TX6) (N := 6) hx hb hts mi_X6_of_X6 hown hK.1 hP 0 rfl rfl 0 (by decide) (hts _ mm_X6_of_1) (fun _ h9 => h9) rfl dX6_of_57 ?_
      refine lv_iload_n hx hb dX6_of_60 rfl (lv_at hl 1 rfl) ?_
      obtain ⟨r61, hC, hF⟩ := k_c1_ex hF
      refine x_VR (As := [.int x1]) (rest := []) ⟨hx, hb, hml, hown, hts⟩ (c_X3_teeth l D cyI cyZ aS aC N x1 vc hC) (cwV 1 hts gX6_of_X3_teeth rfl rfl rfl (by decide +kernel) ⟨Nat.le_of_ble_eq_true rfl, Nat.le_of_ble_eq_true rfl⟩) hK hP hS [1, 2] rfl 1 rfl rfl rfl rfl hl.1 rfl (Nat.le_of_ble_eq_true rfl) ⟨Nat.zero_le _, Nat.zero_le _⟩ dX6_of_61 (fun H locs hP hS => ?_)
      exact W.iret hx hb hr (fun t ht hW => ⟨⟨_, (), rfl, Option.some.inj hF, trivial⟩, hS.F ht⟩) hS.2.2 dX6_of_64
    · have hF := k_if_f hF h0
      by_cases h1 : x2 = (1 : Int32)
      · have hF := k_if_t hF h1
        refine lv_tableIn (tgt := 65) (off := 51) hx hb dX6_of_14 (by rw [h1]; decide) (by rw [h1]; decide) (by rw [h1]; decide) (by decide) ?_
        refine lv_aload_n hx hb dX6_of_65 rfl (lv_at hl 0 rfl) ?_
        refine va_get (D := D) (ci := 6) (v := .ref aS) (C := RX6) (T := TX6) (N := 6) hx hb hts mi_X6_of_X6 hown hK.1 hP 0 rfl rfl 0 (by decide) (hts _ mm_X6_of_1) (fun _ h9 => h9) rfl dX6_of_66 ?_
        refine lv_iload_n hx hb dX6_of_69 rfl (lv_at hl 1 rfl) ?_
        refine lv_iconst (v := (1 : Int32)) hx hb dX6_of_70 (by decide) ?_
        obtain ⟨r71, hC, hF⟩ := k_c1_ex hF
        refine x_VR (As := [.int x1, .int (1 : Int32)]) (rest := []) ⟨hx, hb, hml, hown, hts⟩ (c_X3_teethOfSign l D cyI cyZ aS aC N x1 (1 : Int32) vc hC) (cwV 2 hts gX6_of_X3_teethOfSign rfl rfl rfl (by decide +kernel) ⟨Nat.le_of_ble_eq_true rfl, Nat.le_of_ble_eq_true rfl⟩) hK hP hS [1, 2] rfl 1 rfl rfl rfl rfl hl.1 rfl (Nat.le_of_ble_eq_true rfl) ⟨Nat.zero_le _, Nat.zero_le _⟩ dX6_of_71 (fun H locs hP hS => ?_)
        exact W.iret hx hb hr (fun t ht hW => ⟨⟨_, (), rfl, Option.some.inj hF, trivial⟩, hS.F ht⟩) hS.2.2 dX6_of_74
      · have hF := k_if_f hF h1
        by_cases h2 : x2 = (2 : Int32)
        · have hF := k_if_t hF h2
          refine lv_tableIn (tgt := 75) (off := 61) hx hb dX6_of_14 (by rw [h2]; decide) (by rw [h2]; decide) (by rw [h2]; decide) (by decide) ?_
          refine lv_aload_n hx hb dX6_of_75 rfl (lv_at hl 0 rfl) ?_
          refine va_get (D := D) (ci := 6) (v := .ref aS) (C := RX6) (T := TX6) (N := 6) hx hb hts mi_X6_of_X6 hown hK.1 hP 0 rfl rfl 0 (by decide) (hts _ mm_X6_of_1) (fun _ h9 => h9) rfl dX6_of_76 ?_
          refine lv_iload_n hx hb dX6_of_79 rfl (lv_at hl 1 rfl) ?_
          refine lv_iconst (v := (-1 : Int32)) hx hb dX6_of_80 (by decide) ?_
          obtain ⟨r81, hC, hF⟩ := k_c1_ex hF
          refine x_VR (As := [.int x1, .int (-1 : Int32)]) (rest := []) ⟨hx, hb, hml, hown, hts⟩ (c_X3_teethOfSign l D cyI cyZ aS aC N x1 (-1 : Int32) vc hC) (cwV 2 hts gX6_of_X3_teethOfSign rfl rfl rfl (by decide +kernel) ⟨Nat.le_of_ble_eq_true rfl, Nat.le_of_ble_eq_true rfl⟩) hK hP hS [1, 2] rfl 1 rfl rfl rfl rfl hl.1 rfl (Nat.le_of_ble_eq_true rfl) ⟨Nat.zero_le _, Nat.zero_le _⟩ dX6_of_81 (fun H locs hP hS => ?_)
          exact W.iret hx hb hr (fun t ht hW => ⟨⟨_, (), rfl, Option.some.inj hF, trivial⟩, hS.F ht⟩) hS.2.2 dX6_of_84
        · have hF := k_if_f hF h2
          by_cases h3 : x2 = (3 : Int32)
          · have hF := k_if_t hF h3
            refine lv_tableIn (tgt := 85) (off := 71) hx hb dX6_of_14 (by rw [h3]; decide) (by rw [h3]; decide) (by rw [h3]; decide) (by decide) ?_
            refine lv_aload_n hx hb dX6_of_85 rfl (lv_at hl 0 rfl) ?_
            refine va_get (D := D) (ci := 6) (v := .ref aS) (C := RX6) (T := TX6) (N := 6) hx hb hts mi_X6_of_X6 hown hK.1 hP 0 rfl rfl 0 (by decide) (hts _ mm_X6_of_1) (fun _ h9 => h9) rfl dX6_of_86 ?_
            refine lv_iload_n hx hb dX6_of_89 rfl (lv_at hl 1 rfl) ?_
            obtain ⟨r90, hC, hF⟩ := k_c1_ex hF
            refine x_VR (As := [.int x1]) (rest := []) ⟨hx, hb, hml, hown, hts⟩ (c_X3_greatestHeight l D cyI cyZ aS aC N x1 vc hC) (cwV 1 hts gX6_of_X3_greatestHeight rfl rfl rfl (by decide +kernel) ⟨Nat.le_of_ble_eq_true rfl, Nat.le_of_ble_eq_true rfl⟩) hK hP hS [1, 2] rfl 1 rfl rfl rfl rfl hl.1 rfl (Nat.le_of_ble_eq_true rfl) ⟨Nat.zero_le _, Nat.zero_le _⟩ dX6_of_90 (fun H locs hP hS => ?_)
            refine lv_bipush (v := (9 : Int32)) hx hb dX6_of_93 (by decide) ?_
            refine lv_iadd hx hb dX6_of_95 ?_
            exact W.iret hx hb hr (fun t ht hW => ⟨⟨_, (), rfl, Option.some.inj hF, trivial⟩, hS.F ht⟩) hS.2.2 dX6_of_96
          · have hF := k_if_f hF h3
            by_cases h4 : x2 = (4 : Int32)
            · have hF := k_if_t hF h4
              refine lv_tableIn (tgt := 97) (off := 83) hx hb dX6_of_14 (by rw [h4]; decide) (by rw [h4]; decide) (by rw [h4]; decide) (by decide) ?_
              refine lv_aload_n hx hb dX6_of_97 rfl (lv_at hl 0 rfl) ?_
              refine va_get (D := D) (ci := 6) (v := .ref aS) (C := RX6) (T := TX6) (N := 6) hx hb hts mi_X6_of_X6 hown hK.1 hP 0 rfl rfl 0 (by decide) (hts _ mm_X6_of_1) (fun _ h9 => h9) rfl dX6_of_98 ?_
              refine lv_iload_n hx hb dX6_of_101 rfl (lv_at hl 1 rfl) ?_
              obtain ⟨r102, hC, hF⟩ := k_c1_ex hF
              refine x_VR (As := [.int x1]) (rest := []) ⟨hx, hb, hml, hown, hts⟩ (c_X3_leastHeight l D cyI cyZ aS aC N x1 vc hC) (cwV 1 hts gX6_of_X3_leastHeight rfl rfl rfl (by decide +kernel) ⟨Nat.le_of_ble_eq_true rfl, Nat.le_of_ble_eq_true rfl⟩) hK hP hS [1, 2] rfl 1 rfl rfl rfl rfl hl.1 rfl (Nat.le_of_ble_eq_true rfl) ⟨Nat.zero_le _, Nat.zero_le _⟩ dX6_of_102 (fun H locs hP hS => ?_)
              refine lv_bipush (v := (9 : Int32)) hx hb dX6_of_105 (by decide) ?_
              refine lv_iadd hx hb dX6_of_107 ?_
              exact W.iret hx hb hr (fun t ht hW => ⟨⟨_, (), rfl, Option.some.inj hF, trivial⟩, hS.F ht⟩) hS.2.2 dX6_of_108
            · have hF := k_if_f hF h4
              by_cases h5 : x2 = (5 : Int32)
              · have hF := k_if_t hF h5
                refine lv_tableIn (tgt := 109) (off := 95) hx hb dX6_of_14 (by rw [h5]; decide) (by rw [h5]; decide) (by rw [h5]; decide) (by decide) ?_
                refine lv_aload_n hx hb dX6_of_109 rfl (lv_at hl 0 rfl) ?_
                refine va_get (D := D) (ci := 6) (v := .ref aS) (C := RX6) (T := TX6) (N := 6) hx hb hts mi_X6_of_X6 hown hK.1 hP 0 rfl rfl 0 (by decide) (hts _ mm_X6_of_1) (fun _ h9 => h9) rfl dX6_of_110 ?_
                refine lv_iload_n hx hb dX6_of_113 rfl (lv_at hl 1 rfl) ?_
                obtain ⟨r114, hC, hF⟩ := k_c1_ex hF
                refine x_VR (As := [.int x1]) (rest := []) ⟨hx, hb, hml, hown, hts⟩ (c_X3_stepsSinceWorn l D cyI cyZ aS aC N x1 vc hC) (cwV 1 hts gX6_of_X3_stepsSinceWorn rfl rfl rfl (by decide +kernel) ⟨Nat.le_of_ble_eq_true rfl, Nat.le_of_ble_eq_true rfl⟩) hK hP hS [1, 2] rfl 1 rfl rfl rfl rfl hl.1 rfl (Nat.le_of_ble_eq_true rfl) ⟨Nat.zero_le _, Nat.zero_le _⟩ dX6_of_114 (fun H locs hP hS => ?_)
                exact W.iret hx hb hr (fun t ht hW => ⟨⟨_, (), rfl, Option.some.inj hF, trivial⟩, hS.F ht⟩) hS.2.2 dX6_of_117
              · have hF := k_if_f hF h5
                by_cases h6 : x2 = (6 : Int32)
                · have hF := k_if_t hF h6
                  refine lv_tableIn (tgt := 118) (off := 104) hx hb dX6_of_14 (by rw [h6]; decide) (by rw [h6]; decide) (by rw [h6]; decide) (by decide) ?_
                  refine lv_aload_n hx hb dX6_of_118 rfl (lv_at hl 0 rfl) ?_
                  refine va_get (D := D) (ci := 6) (v := .ref aS) (C := RX6) (T := TX6) (N := 6) hx hb hts mi_X6_of_X6 hown hK.1 hP 0 rfl rfl 0 (by decide) (hts _ mm_X6_of_1) (fun _ h9 => h9) rfl dX6_of_119 ?_
                  refine lv_iload_n hx hb dX6_of_122 rfl (lv_at hl 1 rfl) ?_
                  obtain ⟨r123, hC, hF⟩ := k_c1_ex hF
                  refine x_VR (As := [.int x1]) (rest := []) ⟨hx, hb, hml, hown, hts⟩ (c_X3_timesWorn l D cyI cyZ aS aC N x1 vc hC) (cwV 1 hts gX6_of_X3_timesWorn rfl rfl rfl (by decide +kernel) ⟨Nat.le_of_ble_eq_true rfl, Nat.le_of_ble_eq_true rfl⟩) hK hP hS [1, 2] rfl 1 rfl rfl rfl rfl hl.1 rfl (Nat.le_of_ble_eq_true rfl) ⟨Nat.zero_le _, Nat.zero_le _⟩ dX6_of_123 (fun H locs hP hS => ?_)
                  exact W.iret hx hb hr (fun t ht hW => ⟨⟨_, (), rfl, Option.some.inj hF, trivial⟩, hS.F ht⟩) hS.2.2 dX6_of_126
                · have hF := k_if_f hF h6
                  have q0 := lv_neT (k := (0 : Int32)) (a := 0) h0 (by decide)
                  have q1 := lv_neT (k := (1 : Int32)) (a := 1) h1 (by decide)
                  have q2 := lv_neT (k := (2 : Int32)) (a := 2) h2 (by decide)
                  have q3 := lv_neT (k := (3 : Int32)) (a := 3) h3 (by decide)
                  have q4 := lv_neT (k := (4 : Int32)) (a := 4) h4 (by decide)
                  have q5 := lv_neT (k := (5 : Int32)) (a := 5) h5 (by decide)
                  have q6 := lv_neT (k := (6 : Int32)) (a := 6) h6 (by decide)
                  refine lv_tableOut (tgt := 127) hx hb dX6_of_14 (by omega) (by decide) ?_
                  refine lv_bipush (v := (-2 : Int32)) hx hb dX6_of_127 (by decide) ?_
                  exact W.iret hx hb hr (fun t ht hW => ⟨⟨_, (), rfl, Option.some.inj hF, trivial⟩, hS.F ht⟩) hS.2.2 dX6_of_129
  · have hF := k_if_t hF hc
    refine lv_iconst (v := (-1 : Int32)) hx hb dX6_of_11 (by decide) ?_
    exact W.iret hx hb hr (fun t ht hW => ⟨⟨_, (), rfl, Option.some.inj hF, trivial⟩, hS.F ht⟩) hS.2.2 dX6_of_12
theorem mm_X6_tooth_1 : Cond.fieldLink RX6 10 "RollerMesh" "shop" "LRollerMesh$Shop;" ∈ wsX6_tooth := List.mem_of_getElem? (i := 1) rfl
theorem mi_X6_tooth_X6 : ∀ w ∈ wsX60, w ∈ wsX6_tooth := fun _ h => List.mem_cons_of_mem _ (List.mem_append_left _ (List.mem_append_right _ h))
set_option maxHeartbeats 4000000 in
set_option maxRecDepth 100000 in
theorem c_X6_tooth (l : Launch) (D : va_G) (cyI cyZ : ClassId) (aM aS aC aH aL aP aR aT : Nat) (N : Nat) (x1 : Int32) (x2 : Int32) (vc : (Nat → Int32)) {r0 : Int32}  (hF : p_X6_tooth N x1 x2 vc = some (r0)) : Met l yX6_tooth wsX6_tooth ({ frames := 3, cells := 0, slots := 0, locals := 64 }) (x_PR D cyI cyZ [.ref aM, .int x1, .int x2] [(aM, .inr (6, [.ref aS, .ref aH, .ref aL, .ref aP, .ref aR, .ref aT])), (aS, .inr (3, [.ref aC])), (aC, .inl (cyI, 225, .inl vc))]) (x_QR r0) 0 0 (fun _ => False) := by
  refine Met.ofW (cc := cX6_tooth) (maxL := 3) (ret := (some .int)) (by decide) rfl ?_
  intro p e s m args below meth c s₁ B hml hv
  obtain ⟨rfl, hP, hK⟩ := hv
  have hx := B.exec
  have hb := B.bytes
  have hr := B.returns
  have hts := atoms_spec (ws := wsX6_tooth) B.pre
  have hown : s.vm.findClass RX6 = some m.cls := findClass_of_methodNamed B.named
  have hlocks := B.notSynchronized
  have hS : va_S (fun _ => False) s.heap s.heap [] := va_S.rf
  have hP : va_P D vwCl [(aM, .inr (6, [.ref aS, .ref aH, .ref aL, .ref aP, .ref aR, .ref aT])), (aS, .inr (3, [.ref aC])), (aC, .inl (cyI, 225, .inl vc))] s.heap := hP
  have hl := lv_entry ([.ref aM, .int x1, .int x2]) (n := 3) (Nat.le_of_ble_eq_true rfl)
  rw [lg_entry_eq]
  generalize (lg_sl ([.ref aM, .int x1, .int x2]) ++ List.replicate (3 - (lg_sl ([.ref aM, .int x1, .int x2])).length) Slot.unset).toArray = ls at hl ⊢
  have hl : lv_has ls 3 [(0, .ref aM), (1, .int x1), (2, .int x2)] := hl
  unfold p_X6_tooth at hF
  refine lv_aload_n hx hb dX6_tooth_0 rfl (lv_at hl 0 rfl) ?_
  refine va_get (D := D) (ci := 6) (v := .ref aS) (C := RX6) (T := TX6) (N := 6) hx hb hts mi_X6_tooth_X6 hown hK.1 hP 0 rfl rfl 0 (by decide) (hts _ mm_X6_tooth_1) (fun _ h9 => h9) rfl dX6_tooth_1 ?_
  refine lv_iload_n hx hb dX6_tooth_4 rfl (lv_at hl 1 rfl) ?_
  refine lv_iload_n hx hb dX6_tooth_5 rfl (lv_at hl 2 rfl) ?_
  obtain ⟨r6, hC, hF⟩ := k_c1_ex hF
  refine x_VR (As := [.int x1, .int x2]) (rest := []) ⟨hx, hb, hml, hown, hts⟩ (c_X3_hasTooth l D cyI cyZ aS aC N x1 x2 vc hC) (cwV 2 hts gX6_tooth_X3_hasTooth rfl rfl rfl (by decide +kernel) ⟨Nat.le_of_ble_eq_true rfl, Nat.le_of_ble_eq_true rfl⟩) hK hP hS [1, 2] rfl 1 rfl rfl rfl rfl hl.1 rfl (Nat.le_of_ble_eq_true rfl) ⟨Nat.zero_le _, Nat.zero_le _⟩ dX6_tooth_6 (fun H locs hP hS => ?_)
  refine lv_if_eq (tgt := 27) hx hb dX6_tooth_9 (by decide) (fun hc => ?_) (fun hc => ?_)
  · have hF := k_if_t hF hc
    refine lv_iconst (v := (-1 : Int32)) hx hb dX6_tooth_27 (by decide) ?_
    exact W.iret hx hb hr (fun t ht hW => ⟨⟨_, (), rfl, Option.some.inj hF, trivial⟩, hS.F ht⟩) hS.2.2 dX6_tooth_28
  · have hF := k_if_f hF hc
    refine lv_aload_n hx hb dX6_tooth_12 rfl (lv_at hl 0 rfl) ?_
    refine va_get (D := D) (ci := 6) (v := .ref aS) (C := RX6) (T := TX6) (N := 6) hx hb hts mi_X6_tooth_X6 hown hK.1 hP 0 rfl rfl 0 (by decide) (hts _ mm_X6_tooth_1) (fun _ h9 => h9) rfl dX6_tooth_13 ?_
    refine lv_iload_n hx hb dX6_tooth_16 rfl (lv_at hl 1 rfl) ?_
    refine lv_iload_n hx hb dX6_tooth_17 rfl (lv_at hl 2 rfl) ?_
    obtain ⟨r18, hC, hF⟩ := k_c1_ex hF
    refine x_VR (As := [.int x1, .int x2]) (rest := []) ⟨hx, hb, hml, hown, hts⟩ (c_X3_height l D cyI cyZ aS aC N x1 x2 vc hC) (cwV 2 hts gX6_tooth_X3_height rfl rfl rfl (by decide +kernel) ⟨Nat.le_of_ble_eq_true rfl, Nat.le_of_ble_eq_true rfl⟩) hK hP hS [1, 2] rfl 1 rfl rfl rfl rfl hl.1 rfl (Nat.le_of_ble_eq_true rfl) ⟨Nat.zero_le _, Nat.zero_le _⟩ dX6_tooth_18 (fun H locs hP hS => ?_)
    refine lv_bipush (v := (9 : Int32)) hx hb dX6_tooth_21 (by decide) ?_
    refine lv_iadd hx hb dX6_tooth_23 ?_
    refine lv_goto (tgt := 28) hx hb dX6_tooth_24 (by decide) ?_
    exact W.iret hx hb hr (fun t ht hW => ⟨⟨_, (), rfl, Option.some.inj hF, trivial⟩, hS.F ht⟩) hS.2.2 dX6_tooth_28
theorem mm_X6_file_1 : Cond.fieldLink RX6 19 "RollerMesh" "history" "LRollerMesh$History;" ∈ wsX6_file := List.mem_of_getElem? (i := 1) rfl
theorem mm_X6_file_2 : Cond.fieldLink RX6 10 "RollerMesh" "shop" "LRollerMesh$Shop;" ∈ wsX6_file := List.mem_of_getElem? (i := 2) rfl
theorem mi_X6_file_X6 : ∀ w ∈ wsX60, w ∈ wsX6_file := fun _ h => List.mem_cons_of_mem _ (List.mem_append_left _ (List.mem_append_left _ (List.mem_append_right _ h)))
set_option maxHeartbeats 4000000 in
set_option maxRecDepth 100000 in
theorem c_X6_file (l : Launch) (D : va_G) (cyI cyZ : ClassId) (aM aS aC aH aHs aL aP aR aT : Nat) (sz : Nat) (N : Nat) (x1 : Int32) (x2 : Int32) (x3 : Int32) (vc : (Nat → Int32)) (vhf : Int32) (vhl : Int32) (vhs : (Nat → Int32)) {r0 : Int32} {vc' : (Nat → Int32)} {vhf' : Int32} {vhl' : Int32} {vhs' : (Nat → Int32)} (hF : p_X6_file N x1 x2 x3 vc vhf vhl vhs = some (r0, vc', vhf', vhl', vhs')) : Met l yX6_file wsX6_file ({ frames := 4, cells := 0, slots := 0, locals := 88 }) (x_PM D cyI cyZ [.ref aM, .int x1, .int x2, .int x3] [(aM, .inr (6, [.ref aS, .ref aH, .ref aL, .ref aP, .ref aR, .ref aT])), (aS, .inr (3, [.ref aC])), (aC, .inl (cyI, 225, .inl vc)), (aH, .inr (0, [.ref aHs, .int vhf, .int vhl])), (aHs, .inl (cyI, 1575, .inl vhs))] sz) (x_QM D r0 (va_A [(aM, .inr (6, [.ref aS, .ref aH, .ref aL, .ref aP, .ref aR, .ref aT])), (aS, .inr (3, [.ref aC])), (aC, .inl (cyI, 225, .inl vc)), (aH, .inr (0, [.ref aHs, .int vhf, .int vhl])), (aHs, .inl (cyI, 1575, .inl vhs))] sz) [(aM, .inr (6, [.ref aS, .ref aH, .ref aL, .ref aP, .ref aR, .ref aT])), (aS, .inr (3, [.ref aC])), (aC, .inl (cyI, 225, .inl vc')), (aH, .inr (0, [.ref aHs, .int vhf', .int vhl'])), (aHs, .inl (cyI, 1575, .inl vhs'))]) 0 0 (va_A [(aM, .inr (6, [.ref aS, .ref aH, .ref aL, .ref aP, .ref aR, .ref aT])), (aS, .inr (3, [.ref aC])), (aC, .inl (cyI, 225, .inl vc)), (aH, .inr (0, [.ref aHs, .int vhf, .int vhl])), (aHs, .inl (cyI, 1575, .inl vhs))] sz) := by
  refine Met.ofW (cc := cX6_file) (maxL := 4) (ret := (some .int)) (by decide) rfl ?_
  intro p e s m args below meth c s₁ B hml hv
  obtain ⟨rfl, hsz, hP, hK, hD0⟩ := hv
  have hx := B.exec
  have hb := B.bytes
  have hr := B.returns
  have hts := atoms_spec (ws := wsX6_file) B.pre
  have hown : s.vm.findClass RX6 = some m.cls := findClass_of_methodNamed B.named
  have hlocks := B.notSynchronized
  subst hsz
  have hD := hD0.self (sz := s.heap.size)
  generalize hAe : va_A [(aM, .inr (6, [.ref aS, .ref aH, .ref aL, .ref aP, .ref aR, .ref aT])), (aS, .inr (3, [.ref aC])), (aC, .inl (cyI, 225, .inl vc)), (aH, .inr (0, [.ref aHs, .int vhf, .int vhl])), (aHs, .inl (cyI, 1575, .inl vhs))] s.heap.size = A at hD ⊢
  have hA : ∀ q : Nat, s.heap.size ≤ q → A q := fun q h => by rw [← hAe]; exact Or.inr h
  have hS : va_S A s.heap s.heap [] := va_S.rf
  have hP : va_P D vwCl [(aM, .inr (6, [.ref aS, .ref aH, .ref aL, .ref aP, .ref aR, .ref aT])), (aS, .inr (3, [.ref aC])), (aC, .inl (cyI, 225, .inl vc)), (aH, .inr (0, [.ref aHs, .int vhf, .int vhl])), (aHs, .inl (cyI, 1575, .inl vhs))] s.heap := hP
  have hl := lv_entry ([.ref aM, .int x1, .int x2, .int x3]) (n := 4) (Nat.le_of_ble_eq_true rfl)
  rw [lg_entry_eq]
  generalize (lg_sl ([.ref aM, .int x1, .int x2, .int x3]) ++ List.replicate (4 - (lg_sl ([.ref aM, .int x1, .int x2, .int x3])).length) Slot.unset).toArray = ls at hl ⊢
  have hl : lv_has ls 4 [(0, .ref aM), (1, .int x1), (2, .int x2), (3, .int x3)] := hl
  unfold p_X6_file at hF
  refine lv_aload_n hx hb dX6_file_0 rfl (lv_at hl 0 rfl) ?_
  refine va_get (D := D) (ci := 6) (v := .ref aH) (C := RX6) (T := TX6) (N := 6) hx hb hts mi_X6_file_X6 hown hK.1 hP 0 rfl rfl 1 (by decide) (hts _ mm_X6_file_1) (fun _ h9 => h9) rfl dX6_file_1 ?_
  refine lv_aload_n hx hb dX6_file_4 rfl (lv_at hl 0 rfl) ?_
  refine va_get (D := D) (ci := 6) (v := .ref aS) (C := RX6) (T := TX6) (N := 6) hx hb hts mi_X6_file_X6 hown hK.1 hP 0 rfl rfl 0 (by decide) (hts _ mm_X6_file_2) (fun _ h9 => h9) rfl dX6_file_5 ?_
  obtain ⟨vhs_8, hC, hF⟩ := k_c1_ex hF
  refine x_VV (As := [.ref aS]) (rest := []) ⟨hx, hb, hml, hown, hts⟩ (c_X0_prepare l D cyI cyZ aS aC aH aHs s.heap.size N vc vhf vhl vhs hC) (cwV 1 hts gX6_file_X0_prepare rfl rfl rfl (by decide +kernel) ⟨Nat.le_of_ble_eq_true rfl, Nat.le_of_ble_eq_true rfl⟩) hK hP hD hS hA [1, 2, 3, 4] rfl rfl rfl 3 rfl rfl rfl rfl hl.1 rfl (Nat.le_of_ble_eq_true rfl) ⟨Nat.zero_le _, Nat.zero_le _⟩ dX6_file_8 (fun H locs hP hD hS => ?_)
  have hP : va_P D vwCl [(aM, .inr (6, [.ref aS, .ref aH, .ref aL, .ref aP, .ref aR, .ref aT])), (aS, .inr (3, [.ref aC])), (aC, .inl (cyI, 225, .inl vc)), (aH, .inr (0, [.ref aHs, .int vhf, .int vhl])), (aHs, .inl (cyI, 1575, .inl vhs_8))] H := hP
  have hD : va_D A [(aM, .inr (6, [.ref aS, .ref aH, .ref aL, .ref aP, .ref aR, .ref aT])), (aS, .inr (3, [.ref aC])), (aC, .inl (cyI, 225, .inl vc)), (aH, .inr (0, [.ref aHs, .int vhf, .int vhl])), (aHs, .inl (cyI, 1575, .inl vhs_8))] := hD
  refine lv_aload_n hx hb dX6_file_11 rfl (lv_at hl 0 rfl) ?_
  refine va_get (D := D) (ci := 6) (v := .ref aH) (C := RX6) (T := TX6) (N := 6) hx hb hts mi_X6_file_X6 hown hK.1 hP 0 rfl rfl 1 (by decide) (hts _ mm_X6_file_1) (fun _ h9 => h9) rfl dX6_file_12 ?_
  refine lv_aload_n hx hb dX6_file_15 rfl (lv_at hl 0 rfl) ?_
  refine va_get (D := D) (ci := 6) (v := .ref aS) (C := RX6) (T := TX6) (N := 6) hx hb hts mi_X6_file_X6 hown hK.1 hP 0 rfl rfl 0 (by decide) (hts _ mm_X6_file_2) (fun _ h9 => h9) rfl dX6_file_16 ?_
  refine lv_iload_n hx hb dX6_file_19 rfl (lv_at hl 1 rfl) ?_
  refine lv_iload_n hx hb dX6_file_20 rfl (lv_at hl 2 rfl) ?_
  refine lv_iload_n hx hb dX6_file_21 rfl (lv_at hl 3 rfl) ?_
  obtain ⟨r22, vc_22, hC, hF⟩ := k_c2_ex hF
  refine x_VM (As := [.int x1, .int x2, .int x3]) (rest := [.ref aH]) ⟨hx, hb, hml, hown, hts⟩ (c_X3_fileTooth l D cyI cyZ aS aC H.size N x1 x2 x3 vc hC) (cwV 3 hts gX6_file_X3_fileTooth rfl rfl rfl (by decide +kernel) ⟨Nat.le_of_ble_eq_true rfl, Nat.le_of_ble_eq_true rfl⟩) hK hP hD hS hA [1, 2] rfl rfl rfl 1 rfl rfl rfl rfl hl.1 rfl (Nat.le_of_ble_eq_true rfl) ⟨Nat.zero_le _, Nat.zero_le _⟩ dX6_file_22 (fun H locs hP hD hS => ?_)
  have hP : va_P D vwCl [(aM, .inr (6, [.ref aS, .ref aH, .ref aL, .ref aP, .ref aR, .ref aT])), (aS, .inr (3, [.ref aC])), (aC, .inl (cyI, 225, .inl vc_22)), (aH, .inr (0, [.ref aHs, .int vhf, .int vhl])), (aHs, .inl (cyI, 1575, .inl vhs_8))] H := hP
  have hD : va_D A [(aM, .inr (6, [.ref aS, .ref aH, .ref aL, .ref aP, .ref aR, .ref aT])), (aS, .inr (3, [.ref aC])), (aC, .inl (cyI, 225, .inl vc_22)), (aH, .inr (0, [.ref aHs, .int vhf, .int vhl])), (aHs, .inl (cyI, 1575, .inl vhs_8))] := hD
  obtain ⟨r25, vhf_25, vhl_25, hC, hF⟩ := k_c3_ex hF
  refine x_VM (As := [.int r22]) (rest := []) ⟨hx, hb, hml, hown, hts⟩ (c_X0_recorded l D cyI cyZ aH aHs H.size N r22 vhf vhl hC) (cwV 1 hts gX6_file_X0_recorded rfl rfl rfl (by decide +kernel) ⟨Nat.le_of_ble_eq_true rfl, Nat.le_of_ble_eq_true rfl⟩) hK hP hD hS hA [3] rfl rfl rfl 3 rfl rfl rfl rfl hl.1 rfl (Nat.le_of_ble_eq_true rfl) ⟨Nat.zero_le _, Nat.zero_le _⟩ dX6_file_25 (fun H locs hP hD hS => ?_)
  have hP : va_P D vwCl [(aM, .inr (6, [.ref aS, .ref aH, .ref aL, .ref aP, .ref aR, .ref aT])), (aS, .inr (3, [.ref aC])), (aC, .inl (cyI, 225, .inl vc_22)), (aH, .inr (0, [.ref aHs, .int vhf_25, .int vhl_25])), (aHs, .inl (cyI, 1575, .inl vhs_8))] H := hP
  have hD : va_D A [(aM, .inr (6, [.ref aS, .ref aH, .ref aL, .ref aP, .ref aR, .ref aT])), (aS, .inr (3, [.ref aC])), (aC, .inl (cyI, 225, .inl vc_22)), (aH, .inr (0, [.ref aHs, .int vhf_25, .int vhl_25])), (aHs, .inl (cyI, 1575, .inl vhs_8))] := hD
  obtain ⟨e0, e1, e2, e3, e4⟩ := k_inj5 hF
  have hP9 : va_P D vwCl [(aM, .inr (6, [.ref aS, .ref aH, .ref aL, .ref aP, .ref aR, .ref aT])), (aS, .inr (3, [.ref aC])), (aC, .inl (cyI, 225, .inl vc')), (aH, .inr (0, [.ref aHs, .int vhf', .int vhl'])), (aHs, .inl (cyI, 1575, .inl vhs'))] H := by rw [← e1, ← e2, ← e3, ← e4]; exact hP
  exact W.iret hx hb hr (fun t ht hW => ⟨⟨_, (), rfl, e0, x_ret hP9 ht⟩, hS.F ht⟩) hS.2.2 dX6_file_28
theorem mm_X6_card_1 : Cond.fieldLink RX6 19 "RollerMesh" "history" "LRollerMesh$History;" ∈ wsX6_card := List.mem_of_getElem? (i := 1) rfl
theorem mm_X6_card_2 : Cond.fieldLink RX6 10 "RollerMesh" "shop" "LRollerMesh$Shop;" ∈ wsX6_card := List.mem_of_getElem? (i := 2) rfl
theorem mi_X6_card_X6 : ∀ w ∈ wsX60, w ∈ wsX6_card := fun _ h => List.mem_cons_of_mem _ (List.mem_append_left _ (List.mem_append_left _ (List.mem_append_right _ h)))
set_option maxHeartbeats 4000000 in
set_option maxRecDepth 100000 in
theorem c_X6_card (l : Launch) (D : va_G) (cyI cyZ : ClassId) (aM aS aC aH aHs aL aP aR aT : Nat) (sz : Nat) (N : Nat) (x1 : Int32) (x2 : Int32) (vc : (Nat → Int32)) (vhf : Int32) (vhl : Int32) (vhs : (Nat → Int32)) {r0 : Int32} {vc' : (Nat → Int32)} {vhf' : Int32} {vhl' : Int32} {vhs' : (Nat → Int32)} (hF : p_X6_card N x1 x2 vc vhf vhl vhs = some (r0, vc', vhf', vhl', vhs')) : Met l yX6_card wsX6_card ({ frames := 3, cells := 0, slots := 0, locals := 69 }) (x_PM D cyI cyZ [.ref aM, .int x1, .int x2] [(aM, .inr (6, [.ref aS, .ref aH, .ref aL, .ref aP, .ref aR, .ref aT])), (aS, .inr (3, [.ref aC])), (aC, .inl (cyI, 225, .inl vc)), (aH, .inr (0, [.ref aHs, .int vhf, .int vhl])), (aHs, .inl (cyI, 1575, .inl vhs))] sz) (x_QM D r0 (va_A [(aM, .inr (6, [.ref aS, .ref aH, .ref aL, .ref aP, .ref aR, .ref aT])), (aS, .inr (3, [.ref aC])), (aC, .inl (cyI, 225, .inl vc)), (aH, .inr (0, [.ref aHs, .int vhf, .int vhl])), (aHs, .inl (cyI, 1575, .inl vhs))] sz) [(aM, .inr (6, [.ref aS, .ref aH, .ref aL, .ref aP, .ref aR, .ref aT])), (aS, .inr (3, [.ref aC])), (aC, .inl (cyI, 225, .inl vc')), (aH, .inr (0, [.ref aHs, .int vhf', .int vhl'])), (aHs, .inl (cyI, 1575, .inl vhs'))]) 0 0 (va_A [(aM, .inr (6, [.ref aS, .ref aH, .ref aL, .ref aP, .ref aR, .ref aT])), (aS, .inr (3, [.ref aC])), (aC, .inl (cyI, 225, .inl vc)), (aH, .inr (0, [.ref aHs, .int vhf, .int vhl])), (aHs, .inl (cyI, 1575, .inl vhs))] sz) := by
  refine Met.ofW (cc := cX6_card) (maxL := 3) (ret := (some .int)) (by decide) rfl ?_
  intro p e s m args below meth c s₁ B hml hv
  obtain ⟨rfl, hsz, hP, hK, hD0⟩ := hv
  have hx := B.exec
  have hb := B.bytes
  have hr := B.returns
  have hts := atoms_spec (ws := wsX6_card) B.pre
  have hown : s.vm.findClass RX6 = some m.cls := findClass_of_methodNamed B.named
  have hlocks := B.notSynchronized
  subst hsz
  have hD := hD0.self (sz := s.heap.size)
  generalize hAe : va_A [(aM, .inr (6, [.ref aS, .ref aH, .ref aL, .ref aP, .ref aR, .ref aT])), (aS, .inr (3, [.ref aC])), (aC, .inl (cyI, 225, .inl vc)), (aH, .inr (0, [.ref aHs, .int vhf, .int vhl])), (aHs, .inl (cyI, 1575, .inl vhs))] s.heap.size = A at hD ⊢
  have hA : ∀ q : Nat, s.heap.size ≤ q → A q := fun q h => by rw [← hAe]; exact Or.inr h
  have hS : va_S A s.heap s.heap [] := va_S.rf
  have hP : va_P D vwCl [(aM, .inr (6, [.ref aS, .ref aH, .ref aL, .ref aP, .ref aR, .ref aT])), (aS, .inr (3, [.ref aC])), (aC, .inl (cyI, 225, .inl vc)), (aH, .inr (0, [.ref aHs, .int vhf, .int vhl])), (aHs, .inl (cyI, 1575, .inl vhs))] s.heap := hP
  have hl := lv_entry ([.ref aM, .int x1, .int x2]) (n := 3) (Nat.le_of_ble_eq_true rfl)
  rw [lg_entry_eq]
  generalize (lg_sl ([.ref aM, .int x1, .int x2]) ++ List.replicate (3 - (lg_sl ([.ref aM, .int x1, .int x2])).length) Slot.unset).toArray = ls at hl ⊢
  have hl : lv_has ls 3 [(0, .ref aM), (1, .int x1), (2, .int x2)] := hl
  unfold p_X6_card at hF
  refine lv_aload_n hx hb dX6_card_0 rfl (lv_at hl 0 rfl) ?_
  refine va_get (D := D) (ci := 6) (v := .ref aH) (C := RX6) (T := TX6) (N := 6) hx hb hts mi_X6_card_X6 hown hK.1 hP 0 rfl rfl 1 (by decide) (hts _ mm_X6_card_1) (fun _ h9 => h9) rfl dX6_card_1 ?_
  refine lv_aload_n hx hb dX6_card_4 rfl (lv_at hl 0 rfl) ?_
  refine va_get (D := D) (ci := 6) (v := .ref aS) (C := RX6) (T := TX6) (N := 6) hx hb hts mi_X6_card_X6 hown hK.1 hP 0 rfl rfl 0 (by decide) (hts _ mm_X6_card_2) (fun _ h9 => h9) rfl dX6_card_5 ?_
  obtain ⟨vhs_8, hC, hF⟩ := k_c1_ex hF
  refine x_VV (As := [.ref aS]) (rest := []) ⟨hx, hb, hml, hown, hts⟩ (c_X0_prepare l D cyI cyZ aS aC aH aHs s.heap.size N vc vhf vhl vhs hC) (cwV 1 hts gX6_card_X0_prepare rfl rfl rfl (by decide +kernel) ⟨Nat.le_of_ble_eq_true rfl, Nat.le_of_ble_eq_true rfl⟩) hK hP hD hS hA [1, 2, 3, 4] rfl rfl rfl 3 rfl rfl rfl rfl hl.1 rfl (Nat.le_of_ble_eq_true rfl) ⟨Nat.zero_le _, Nat.zero_le _⟩ dX6_card_8 (fun H locs hP hD hS => ?_)
  have hP : va_P D vwCl [(aM, .inr (6, [.ref aS, .ref aH, .ref aL, .ref aP, .ref aR, .ref aT])), (aS, .inr (3, [.ref aC])), (aC, .inl (cyI, 225, .inl vc)), (aH, .inr (0, [.ref aHs, .int vhf, .int vhl])), (aHs, .inl (cyI, 1575, .inl vhs_8))] H := hP
  have hD : va_D A [(aM, .inr (6, [.ref aS, .ref aH, .ref aL, .ref aP, .ref aR, .ref aT])), (aS, .inr (3, [.ref aC])), (aC, .inl (cyI, 225, .inl vc)), (aH, .inr (0, [.ref aHs, .int vhf, .int vhl])), (aHs, .inl (cyI, 1575, .inl vhs_8))] := hD
  refine lv_aload_n hx hb dX6_card_11 rfl (lv_at hl 0 rfl) ?_
  refine va_get (D := D) (ci := 6) (v := .ref aH) (C := RX6) (T := TX6) (N := 6) hx hb hts mi_X6_card_X6 hown hK.1 hP 0 rfl rfl 1 (by decide) (hts _ mm_X6_card_1) (fun _ h9 => h9) rfl dX6_card_12 ?_
  refine lv_aload_n hx hb dX6_card_15 rfl (lv_at hl 0 rfl) ?_
  refine va_get (D := D) (ci := 6) (v := .ref aS) (C := RX6) (T := TX6) (N := 6) hx hb hts mi_X6_card_X6 hown hK.1 hP 0 rfl rfl 0 (by decide) (hts _ mm_X6_card_2) (fun _ h9 => h9) rfl dX6_card_16 ?_
  refine lv_iload_n hx hb dX6_card_19 rfl (lv_at hl 1 rfl) ?_
  refine lv_iload_n hx hb dX6_card_20 rfl (lv_at hl 2 rfl) ?_
  obtain ⟨r21, vc_21, hC, hF⟩ := k_c2_ex hF
  refine x_VM (As := [.int x1, .int x2]) (rest := [.ref aH]) ⟨hx, hb, hml, hown, hts⟩ (c_X3_changeCard l D cyI cyZ aS aC H.size N x1 x2 vc hC) (cwV 2 hts gX6_card_X3_changeCard rfl rfl rfl (by decide +kernel) ⟨Nat.le_of_ble_eq_true rfl, Nat.le_of_ble_eq_true rfl⟩) hK hP hD hS hA [1, 2] rfl rfl rfl 1 rfl rfl rfl rfl hl.1 rfl (Nat.le_of_ble_eq_true rfl) ⟨Nat.zero_le _, Nat.zero_le _⟩ dX6_card_21 (fun H locs hP hD hS => ?_)
  have hP : va_P D vwCl [(aM, .inr (6, [.ref aS, .ref aH, .ref aL, .ref aP, .ref aR, .ref aT])), (aS, .inr (3, [.ref aC])), (aC, .inl (cyI, 225, .inl vc_21)), (aH, .inr (0, [.ref aHs, .int vhf, .int vhl])), (aHs, .inl (cyI, 1575, .inl vhs_8))] H := hP
  have hD : va_D A [(aM, .inr (6, [.ref aS, .ref aH, .ref aL, .ref aP, .ref aR, .ref aT])), (aS, .inr (3, [.ref aC])), (aC, .inl (cyI, 225, .inl vc_21)), (aH, .inr (0, [.ref aHs, .int vhf, .int vhl])), (aHs, .inl (cyI, 1575, .inl vhs_8))] := hD
  obtain ⟨r24, vhf_24, vhl_24, hC, hF⟩ := k_c3_ex hF
  refine x_VM (As := [.int r21]) (rest := []) ⟨hx, hb, hml, hown, hts⟩ (c_X0_recorded l D cyI cyZ aH aHs H.size N r21 vhf vhl hC) (cwV 1 hts gX6_card_X0_recorded rfl rfl rfl (by decide +kernel) ⟨Nat.le_of_ble_eq_true rfl, Nat.le_of_ble_eq_true rfl⟩) hK hP hD hS hA [3] rfl rfl rfl 3 rfl rfl rfl rfl hl.1 rfl (Nat.le_of_ble_eq_true rfl) ⟨Nat.zero_le _, Nat.zero_le _⟩ dX6_card_24 (fun H locs hP hD hS => ?_)
  have hP : va_P D vwCl [(aM, .inr (6, [.ref aS, .ref aH, .ref aL, .ref aP, .ref aR, .ref aT])), (aS, .inr (3, [.ref aC])), (aC, .inl (cyI, 225, .inl vc_21)), (aH, .inr (0, [.ref aHs, .int vhf_24, .int vhl_24])), (aHs, .inl (cyI, 1575, .inl vhs_8))] H := hP
  have hD : va_D A [(aM, .inr (6, [.ref aS, .ref aH, .ref aL, .ref aP, .ref aR, .ref aT])), (aS, .inr (3, [.ref aC])), (aC, .inl (cyI, 225, .inl vc_21)), (aH, .inr (0, [.ref aHs, .int vhf_24, .int vhl_24])), (aHs, .inl (cyI, 1575, .inl vhs_8))] := hD
  obtain ⟨e0, e1, e2, e3, e4⟩ := k_inj5 hF
  have hP9 : va_P D vwCl [(aM, .inr (6, [.ref aS, .ref aH, .ref aL, .ref aP, .ref aR, .ref aT])), (aS, .inr (3, [.ref aC])), (aC, .inl (cyI, 225, .inl vc')), (aH, .inr (0, [.ref aHs, .int vhf', .int vhl'])), (aHs, .inl (cyI, 1575, .inl vhs'))] H := by rw [← e1, ← e2, ← e3, ← e4]; exact hP
  exact W.iret hx hb hr (fun t ht hW => ⟨⟨_, (), rfl, e0, x_ret hP9 ht⟩, hS.F ht⟩) hS.2.2 dX6_card_27
theorem mm_X6_set_1 : Cond.fieldLink RX6 19 "RollerMesh" "history" "LRollerMesh$History;" ∈ wsX6_set := List.mem_of_getElem? (i := 1) rfl
theorem mm_X6_set_2 : Cond.fieldLink RX6 10 "RollerMesh" "shop" "LRollerMesh$Shop;" ∈ wsX6_set := List.mem_of_getElem? (i := 2) rfl
theorem mi_X6_set_X6 : ∀ w ∈ wsX60, w ∈ wsX6_set := fun _ h => List.mem_cons_of_mem _ (List.mem_append_left _ (List.mem_append_left _ (List.mem_append_right _ h)))
set_option maxHeartbeats 4000000 in
set_option maxRecDepth 100000 in
theorem c_X6_set (l : Launch) (D : va_G) (cyI cyZ : ClassId) (aM aS aC aH aHs aL aP aR aT : Nat) (sz : Nat) (N : Nat) (x1 : Int32) (x2 : Int32) (vc : (Nat → Int32)) (vhf : Int32) (vhl : Int32) (vhs : (Nat → Int32)) {r0 : Int32} {vc' : (Nat → Int32)} {vhf' : Int32} {vhl' : Int32} {vhs' : (Nat → Int32)} (hF : p_X6_set N x1 x2 vc vhf vhl vhs = some (r0, vc', vhf', vhl', vhs')) : Met l yX6_set wsX6_set ({ frames := 3, cells := 0, slots := 0, locals := 69 }) (x_PM D cyI cyZ [.ref aM, .int x1, .int x2] [(aM, .inr (6, [.ref aS, .ref aH, .ref aL, .ref aP, .ref aR, .ref aT])), (aS, .inr (3, [.ref aC])), (aC, .inl (cyI, 225, .inl vc)), (aH, .inr (0, [.ref aHs, .int vhf, .int vhl])), (aHs, .inl (cyI, 1575, .inl vhs))] sz) (x_QM D r0 (va_A [(aM, .inr (6, [.ref aS, .ref aH, .ref aL, .ref aP, .ref aR, .ref aT])), (aS, .inr (3, [.ref aC])), (aC, .inl (cyI, 225, .inl vc)), (aH, .inr (0, [.ref aHs, .int vhf, .int vhl])), (aHs, .inl (cyI, 1575, .inl vhs))] sz) [(aM, .inr (6, [.ref aS, .ref aH, .ref aL, .ref aP, .ref aR, .ref aT])), (aS, .inr (3, [.ref aC])), (aC, .inl (cyI, 225, .inl vc')), (aH, .inr (0, [.ref aHs, .int vhf', .int vhl'])), (aHs, .inl (cyI, 1575, .inl vhs'))]) 0 0 (va_A [(aM, .inr (6, [.ref aS, .ref aH, .ref aL, .ref aP, .ref aR, .ref aT])), (aS, .inr (3, [.ref aC])), (aC, .inl (cyI, 225, .inl vc)), (aH, .inr (0, [.ref aHs, .int vhf, .int vhl])), (aHs, .inl (cyI, 1575, .inl vhs))] sz) := by
  refine Met.ofW (cc := cX6_set) (maxL := 3) (ret := (some .int)) (by decide) rfl ?_
  intro p e s m args below meth c s₁ B hml hv
  obtain ⟨rfl, hsz, hP, hK, hD0⟩ := hv
  have hx := B.exec
  have hb := B.bytes
  have hr := B.returns
  have hts := atoms_spec (ws := wsX6_set) B.pre
  have hown : s.vm.findClass RX6 = some m.cls := findClass_of_methodNamed B.named
  have hlocks := B.notSynchronized
  subst hsz
  have hD := hD0.self (sz := s.heap.size)
  generalize hAe : va_A [(aM, .inr (6, [.ref aS, .ref aH, .ref aL, .ref aP, .ref aR, .ref aT])), (aS, .inr (3, [.ref aC])), (aC, .inl (cyI, 225, .inl vc)), (aH, .inr (0, [.ref aHs, .int vhf, .int vhl])), (aHs, .inl (cyI, 1575, .inl vhs))] s.heap.size = A at hD ⊢
  have hA : ∀ q : Nat, s.heap.size ≤ q → A q := fun q h => by rw [← hAe]; exact Or.inr h
  have hS : va_S A s.heap s.heap [] := va_S.rf
  have hP : va_P D vwCl [(aM, .inr (6, [.ref aS, .ref aH, .ref aL, .ref aP, .ref aR, .ref aT])), (aS, .inr (3, [.ref aC])), (aC, .inl (cyI, 225, .inl vc)), (aH, .inr (0, [.ref aHs, .int vhf, .int vhl])), (aHs, .inl (cyI, 1575, .inl vhs))] s.heap := hP
  have hl := lv_entry ([.ref aM, .int x1, .int x2]) (n := 3) (Nat.le_of_ble_eq_true rfl)
  rw [lg_entry_eq]
  generalize (lg_sl ([.ref aM, .int x1, .int x2]) ++ List.replicate (3 - (lg_sl ([.ref aM, .int x1, .int x2])).length) Slot.unset).toArray = ls at hl ⊢
  have hl : lv_has ls 3 [(0, .ref aM), (1, .int x1), (2, .int x2)] := hl
  unfold p_X6_set at hF
  refine lv_aload_n hx hb dX6_set_0 rfl (lv_at hl 0 rfl) ?_
  refine va_get (D := D) (ci := 6) (v := .ref aH) (C := RX6) (T := TX6) (N := 6) hx hb hts mi_X6_set_X6 hown hK.1 hP 0 rfl rfl 1 (by decide) (hts _ mm_X6_set_1) (fun _ h9 => h9) rfl dX6_set_1 ?_
  refine lv_aload_n hx hb dX6_set_4 rfl (lv_at hl 0 rfl) ?_
  refine va_get (D := D) (ci := 6) (v := .ref aS) (C := RX6) (T := TX6) (N := 6) hx hb hts mi_X6_set_X6 hown hK.1 hP 0 rfl rfl 0 (by decide) (hts _ mm_X6_set_2) (fun _ h9 => h9) rfl dX6_set_5 ?_
  obtain ⟨vhs_8, hC, hF⟩ := k_c1_ex hF
  refine x_VV (As := [.ref aS]) (rest := []) ⟨hx, hb, hml, hown, hts⟩ (c_X0_prepare l D cyI cyZ aS aC aH aHs s.heap.size N vc vhf vhl vhs hC) (cwV 1 hts gX6_set_X0_prepare rfl rfl rfl (by decide +kernel) ⟨Nat.le_of_ble_eq_true rfl, Nat.le_of_ble_eq_true rfl⟩) hK hP hD hS hA [1, 2, 3, 4] rfl rfl rfl 3 rfl rfl rfl rfl hl.1 rfl (Nat.le_of_ble_eq_true rfl) ⟨Nat.zero_le _, Nat.zero_le _⟩ dX6_set_8 (fun H locs hP hD hS => ?_)
  have hP : va_P D vwCl [(aM, .inr (6, [.ref aS, .ref aH, .ref aL, .ref aP, .ref aR, .ref aT])), (aS, .inr (3, [.ref aC])), (aC, .inl (cyI, 225, .inl vc)), (aH, .inr (0, [.ref aHs, .int vhf, .int vhl])), (aHs, .inl (cyI, 1575, .inl vhs_8))] H := hP
  have hD : va_D A [(aM, .inr (6, [.ref aS, .ref aH, .ref aL, .ref aP, .ref aR, .ref aT])), (aS, .inr (3, [.ref aC])), (aC, .inl (cyI, 225, .inl vc)), (aH, .inr (0, [.ref aHs, .int vhf, .int vhl])), (aHs, .inl (cyI, 1575, .inl vhs_8))] := hD
  refine lv_aload_n hx hb dX6_set_11 rfl (lv_at hl 0 rfl) ?_
  refine va_get (D := D) (ci := 6) (v := .ref aH) (C := RX6) (T := TX6) (N := 6) hx hb hts mi_X6_set_X6 hown hK.1 hP 0 rfl rfl 1 (by decide) (hts _ mm_X6_set_1) (fun _ h9 => h9) rfl dX6_set_12 ?_
  refine lv_aload_n hx hb dX6_set_15 rfl (lv_at hl 0 rfl) ?_
  refine va_get (D := D) (ci := 6) (v := .ref aS) (C := RX6) (T := TX6) (N := 6) hx hb hts mi_X6_set_X6 hown hK.1 hP 0 rfl rfl 0 (by decide) (hts _ mm_X6_set_2) (fun _ h9 => h9) rfl dX6_set_16 ?_
  refine lv_iload_n hx hb dX6_set_19 rfl (lv_at hl 1 rfl) ?_
  refine lv_iload_n hx hb dX6_set_20 rfl (lv_at hl 2 rfl) ?_
  obtain ⟨r21, vc_21, hC, hF⟩ := k_c2_ex hF
  refine x_VM (As := [.int x1, .int x2]) (rest := [.ref aH]) ⟨hx, hb, hml, hown, hts⟩ (c_X3_changeSetting l D cyI cyZ aS aC H.size N x1 x2 vc hC) (cwV 2 hts gX6_set_X3_changeSetting rfl rfl rfl (by decide +kernel) ⟨Nat.le_of_ble_eq_true rfl, Nat.le_of_ble_eq_true rfl⟩) hK hP hD hS hA [1, 2] rfl rfl rfl 1 rfl rfl rfl rfl hl.1 rfl (Nat.le_of_ble_eq_true rfl) ⟨Nat.zero_le _, Nat.zero_le _⟩ dX6_set_21 (fun H locs hP hD hS => ?_)
  have hP : va_P D vwCl [(aM, .inr (6, [.ref aS, .ref aH, .ref aL, .ref aP, .ref aR, .ref aT])), (aS, .inr (3, [.ref aC])), (aC, .inl (cyI, 225, .inl vc_21)), (aH, .inr (0, [.ref aHs, .int vhf, .int vhl])), (aHs, .inl (cyI, 1575, .inl vhs_8))] H := hP
  have hD : va_D A [(aM, .inr (6, [.ref aS, .ref aH, .ref aL, .ref aP, .ref aR, .ref aT])), (aS, .inr (3, [.ref aC])), (aC, .inl (cyI, 225, .inl vc_21)), (aH, .inr (0, [.ref aHs, .int vhf, .int vhl])), (aHs, .inl (cyI, 1575, .inl vhs_8))] := hD
  obtain ⟨r24, vhf_24, vhl_24, hC, hF⟩ := k_c3_ex hF
  refine x_VM (As := [.int r21]) (rest := []) ⟨hx, hb, hml, hown, hts⟩ (c_X0_recorded l D cyI cyZ aH aHs H.size N r21 vhf vhl hC) (cwV 1 hts gX6_set_X0_recorded rfl rfl rfl (by decide +kernel) ⟨Nat.le_of_ble_eq_true rfl, Nat.le_of_ble_eq_true rfl⟩) hK hP hD hS hA [3] rfl rfl rfl 3 rfl rfl rfl rfl hl.1 rfl (Nat.le_of_ble_eq_true rfl) ⟨Nat.zero_le _, Nat.zero_le _⟩ dX6_set_24 (fun H locs hP hD hS => ?_)
  have hP : va_P D vwCl [(aM, .inr (6, [.ref aS, .ref aH, .ref aL, .ref aP, .ref aR, .ref aT])), (aS, .inr (3, [.ref aC])), (aC, .inl (cyI, 225, .inl vc_21)), (aH, .inr (0, [.ref aHs, .int vhf_24, .int vhl_24])), (aHs, .inl (cyI, 1575, .inl vhs_8))] H := hP
  have hD : va_D A [(aM, .inr (6, [.ref aS, .ref aH, .ref aL, .ref aP, .ref aR, .ref aT])), (aS, .inr (3, [.ref aC])), (aC, .inl (cyI, 225, .inl vc_21)), (aH, .inr (0, [.ref aHs, .int vhf_24, .int vhl_24])), (aHs, .inl (cyI, 1575, .inl vhs_8))] := hD
  obtain ⟨e0, e1, e2, e3, e4⟩ := k_inj5 hF
  have hP9 : va_P D vwCl [(aM, .inr (6, [.ref aS, .ref aH, .ref aL, .ref aP, .ref aR, .ref aT])), (aS, .inr (3, [.ref aC])), (aC, .inl (cyI, 225, .inl vc')), (aH, .inr (0, [.ref aHs, .int vhf', .int vhl'])), (aHs, .inl (cyI, 1575, .inl vhs'))] H := by rw [← e1, ← e2, ← e3, ← e4]; exact hP
  exact W.iret hx hb hr (fun t ht hW => ⟨⟨_, (), rfl, e0, x_ret hP9 ht⟩, hS.F ht⟩) hS.2.2 dX6_set_27
theorem mm_X6_pairError_1 : Cond.fieldLink RX6 10 "RollerMesh" "shop" "LRollerMesh$Shop;" ∈ wsX6_pairError := List.mem_of_getElem? (i := 1) rfl
theorem mi_X6_pairError_X6 : ∀ w ∈ wsX60, w ∈ wsX6_pairError := fun _ h => List.mem_cons_of_mem _ (List.mem_append_left _ (List.mem_append_right _ h))
set_option maxHeartbeats 4000000 in
set_option maxRecDepth 100000 in
theorem c_X6_pairError (l : Launch) (D : va_G) (cyI cyZ : ClassId) (aM aS aC aH aL aP aR aT : Nat) (N : Nat) (x1 : Int32) (x2 : Int32) (x3 : Int32) (x4 : Int32) (vc : (Nat → Int32)) {r0 : Int32}  (hF : p_X6_pairError N x1 x2 x3 x4 vc = some (r0)) : Met l yX6_pairError wsX6_pairError ({ frames := 2, cells := 0, slots := 0, locals := 42 }) (x_PR D cyI cyZ [.ref aM, .int x1, .int x2, .int x3, .int x4] [(aM, .inr (6, [.ref aS, .ref aH, .ref aL, .ref aP, .ref aR, .ref aT])), (aS, .inr (3, [.ref aC])), (aC, .inl (cyI, 225, .inl vc))]) (x_QR r0) 0 0 (fun _ => False) := by
  refine Met.ofW (cc := cX6_pairError) (maxL := 6) (ret := (some .int)) (by decide) rfl ?_
  intro p e s m args below meth c s₁ B hml hv
  obtain ⟨rfl, hP, hK⟩ := hv
  have hx := B.exec
  have hb := B.bytes
  have hr := B.returns
  have hts := atoms_spec (ws := wsX6_pairError) B.pre
  have hown : s.vm.findClass RX6 = some m.cls := findClass_of_methodNamed B.named
  have hlocks := B.notSynchronized
  have hS : va_S (fun _ => False) s.heap s.heap [] := va_S.rf
  have hP : va_P D vwCl [(aM, .inr (6, [.ref aS, .ref aH, .ref aL, .ref aP, .ref aR, .ref aT])), (aS, .inr (3, [.ref aC])), (aC, .inl (cyI, 225, .inl vc))] s.heap := hP
  have hl := lv_entry ([.ref aM, .int x1, .int x2, .int x3, .int x4]) (n := 6) (Nat.le_of_ble_eq_true rfl)
  rw [lg_entry_eq]
  generalize (lg_sl ([.ref aM, .int x1, .int x2, .int x3, .int x4]) ++ List.replicate (6 - (lg_sl ([.ref aM, .int x1, .int x2, .int x3, .int x4])).length) Slot.unset).toArray = ls at hl ⊢
  have hl : lv_has ls 6 [(0, .ref aM), (1, .int x1), (2, .int x2), (3, .int x3), (4, .int x4)] := hl
  unfold p_X6_pairError at hF
  refine lv_aload_n hx hb dX6_pairError_0 rfl (lv_at hl 0 rfl) ?_
  refine va_get (D := D) (ci := 6) (v := .ref aS) (C := RX6) (T := TX6) (N := 6) hx hb hts mi_X6_pairError_X6 hown hK.1 hP 0 rfl rfl 0 (by decide) (hts _ mm_X6_pairError_1) (fun _ h9 => h9) rfl dX6_pairError_1 ?_
  refine lv_iload_n hx hb dX6_pairError_4 rfl (lv_at hl 1 rfl) ?_
  obtain ⟨r5, hC, hF⟩ := k_c1_ex hF
  refine x_VR (As := [.int x1]) (rest := []) ⟨hx, hb, hml, hown, hts⟩ (c_X3_has l D cyI cyZ aS aC N x1 vc hC) (cwV 1 hts gX6_pairError_X3_has rfl rfl rfl (by decide +kernel) ⟨Nat.le_of_ble_eq_true rfl, Nat.le_of_ble_eq_true rfl⟩) hK hP hS [1, 2] rfl 1 rfl rfl rfl rfl hl.1 rfl (Nat.le_of_ble_eq_true rfl) ⟨Nat.zero_le _, Nat.zero_le _⟩ dX6_pairError_5 (fun H locs hP hS => ?_)
  refine lv_if_eq (tgt := 22) hx hb dX6_pairError_8 (by decide) (fun hc => ?_) (fun hc => ?_)
  · have hF := k_if_t hF hc
    refine lv_iconst (v := (-1 : Int32)) hx hb dX6_pairError_22 (by decide) ?_
    exact W.iret hx hb hr (fun t ht hW => ⟨⟨_, (), rfl, Option.some.inj hF, trivial⟩, hS.F ht⟩) hS.2.2 dX6_pairError_23
  · have hF := k_if_f hF hc
    refine lv_aload_n hx hb dX6_pairError_11 rfl (lv_at hl 0 rfl) ?_
    refine va_get (D := D) (ci := 6) (v := .ref aS) (C := RX6) (T := TX6) (N := 6) hx hb hts mi_X6_pairError_X6 hown hK.1 hP 0 rfl rfl 0 (by decide) (hts _ mm_X6_pairError_1) (fun _ h9 => h9) rfl dX6_pairError_12 ?_
    refine lv_iload_n hx hb dX6_pairError_15 rfl (lv_at hl 2 rfl) ?_
    obtain ⟨r16, hC, hF⟩ := k_c1_ex hF
    refine x_VR (As := [.int x2]) (rest := []) ⟨hx, hb, hml, hown, hts⟩ (c_X3_has l D cyI cyZ aS aC N x2 vc hC) (cwV 1 hts gX6_pairError_X3_has rfl rfl rfl (by decide +kernel) ⟨Nat.le_of_ble_eq_true rfl, Nat.le_of_ble_eq_true rfl⟩) hK hP hS [1, 2] rfl 1 rfl rfl rfl rfl hl.1 rfl (Nat.le_of_ble_eq_true rfl) ⟨Nat.zero_le _, Nat.zero_le _⟩ dX6_pairError_16 (fun H locs hP hS => ?_)
    refine lv_if_ne (tgt := 24) hx hb dX6_pairError_19 (by decide) (fun hc => ?_) (fun hc => ?_)
    · have hF := k_if_f hF hc
      refine lv_iload_n hx hb dX6_pairError_24 rfl (lv_at hl 1 rfl) ?_
      refine lv_iload_n hx hb dX6_pairError_25 rfl (lv_at hl 2 rfl) ?_
      refine lv_icmp_eq (tgt := 50) hx hb dX6_pairError_26 (by decide) (fun hc => ?_) (fun hc => ?_)
      · have hF := k_if_t hF hc
        refine lv_iconst (v := (1 : Int32)) hx hb dX6_pairError_50 (by decide) ?_
        refine lv_goto (tgt := 55) hx hb dX6_pairError_51 (by decide) ?_
        refine lv_istore (lv' := [(5, .int (1 : Int32)), (0, .ref aM), (1, .int x1), (2, .int x2), (3, .int x3), (4, .int x4)]) hx hb dX6_pairError_55 hl (by decide) rfl (fun ls hl => ?_)
        refine lv_iload hx hb dX6_pairError_57 (lv_at hl 0 rfl) ?_
        refine lv_if_eq (tgt := 67) hx hb dX6_pairError_59 (by decide) (fun hc => absurd hc (by decide)) (fun _ => ?_)
        refine lv_bipush (v := (-2 : Int32)) hx hb dX6_pairError_62 (by decide) ?_
        refine lv_goto (tgt := 68) hx hb dX6_pairError_64 (by decide) ?_
        exact W.iret hx hb hr (fun t ht hW => ⟨⟨_, (), rfl, Option.some.inj hF, trivial⟩, hS.F ht⟩) hS.2.2 dX6_pairError_68
      · have hF := k_if_f hF hc
        refine lv_iload_n hx hb dX6_pairError_29 rfl (lv_at hl 3 rfl) ?_
        refine lv_iconst (v := (0 : Int32)) hx hb dX6_pairError_30 (by decide) ?_
        refine lv_bipush (v := (23 : Int32)) hx hb dX6_pairError_31 (by decide) ?_
        obtain ⟨r33, hC, hF⟩ := k_c1_ex hF
        refine x_SR (As := [.int x3, .int (0 : Int32), .int (23 : Int32)]) (rest := []) ⟨hx, hb, hml, hown, hts⟩ (c_X6_outside l D cyI cyZ N x3 (0 : Int32) (23 : Int32) hC) (va_cwS 3 hts gX6_pairError_X6_outside rfl rfl rfl (by decide +kernel) ⟨Nat.le_of_ble_eq_true rfl, Nat.le_of_ble_eq_true rfl⟩) hK hP hS [] rfl rfl hl.1 rfl (Nat.le_of_ble_eq_true rfl) ⟨Nat.zero_le _, Nat.zero_le _⟩ dX6_pairError_33 (fun H locs hP hS => ?_)
        refine lv_if_ne (tgt := 50) hx hb dX6_pairError_36 (by decide) (fun hc => ?_) (fun hc => ?_)
        · have hF := k_if_f hF hc
          refine lv_iconst (v := (1 : Int32)) hx hb dX6_pairError_50 (by decide) ?_
          refine lv_goto (tgt := 55) hx hb dX6_pairError_51 (by decide) ?_
          refine lv_istore (lv' := [(5, .int (1 : Int32)), (0, .ref aM), (1, .int x1), (2, .int x2), (3, .int x3), (4, .int x4)]) hx hb dX6_pairError_55 hl (by decide) rfl (fun ls hl => ?_)
          refine lv_iload hx hb dX6_pairError_57 (lv_at hl 0 rfl) ?_
          refine lv_if_eq (tgt := 67) hx hb dX6_pairError_59 (by decide) (fun hc => absurd hc (by decide)) (fun _ => ?_)
          refine lv_bipush (v := (-2 : Int32)) hx hb dX6_pairError_62 (by decide) ?_
          refine lv_goto (tgt := 68) hx hb dX6_pairError_64 (by decide) ?_
          exact W.iret hx hb hr (fun t ht hW => ⟨⟨_, (), rfl, Option.some.inj hF, trivial⟩, hS.F ht⟩) hS.2.2 dX6_pairError_68
        · have hF := k_if_t hF hc
          refine lv_iload hx hb dX6_pairError_39 (lv_at hl 4 rfl) ?_
          refine lv_iconst (v := (0 : Int32)) hx hb dX6_pairError_41 (by decide) ?_
          refine lv_bipush (v := (30 : Int32)) hx hb dX6_pairError_42 (by decide) ?_
          obtain ⟨r44, hC, hF⟩ := k_c1_ex hF
          refine x_SR (As := [.int x4, .int (0 : Int32), .int (30 : Int32)]) (rest := []) ⟨hx, hb, hml, hown, hts⟩ (c_X6_outside l D cyI cyZ N x4 (0 : Int32) (30 : Int32) hC) (va_cwS 3 hts gX6_pairError_X6_outside rfl rfl rfl (by decide +kernel) ⟨Nat.le_of_ble_eq_true rfl, Nat.le_of_ble_eq_true rfl⟩) hK hP hS [] rfl rfl hl.1 rfl (Nat.le_of_ble_eq_true rfl) ⟨Nat.zero_le _, Nat.zero_le _⟩ dX6_pairError_44 (fun H locs hP hS => ?_)
          refine lv_if_eq (tgt := 54) hx hb dX6_pairError_47 (by decide) (fun hc => ?_) (fun hc => ?_)
          · have hF := k_if_t hF hc
            refine lv_iconst (v := (0 : Int32)) hx hb dX6_pairError_54 (by decide) ?_
            refine lv_istore (lv' := [(5, .int (0 : Int32)), (0, .ref aM), (1, .int x1), (2, .int x2), (3, .int x3), (4, .int x4)]) hx hb dX6_pairError_55 hl (by decide) rfl (fun ls hl => ?_)
            refine lv_iload hx hb dX6_pairError_57 (lv_at hl 0 rfl) ?_
            refine lv_if_eq (tgt := 67) hx hb dX6_pairError_59 (by decide) (fun _ => ?_) (fun hc => absurd hc (by decide))
            refine lv_iconst (v := (0 : Int32)) hx hb dX6_pairError_67 (by decide) ?_
            exact W.iret hx hb hr (fun t ht hW => ⟨⟨_, (), rfl, Option.some.inj hF, trivial⟩, hS.F ht⟩) hS.2.2 dX6_pairError_68
          · have hF := k_if_f hF hc
            refine lv_iconst (v := (1 : Int32)) hx hb dX6_pairError_50 (by decide) ?_
            refine lv_goto (tgt := 55) hx hb dX6_pairError_51 (by decide) ?_
            refine lv_istore (lv' := [(5, .int (1 : Int32)), (0, .ref aM), (1, .int x1), (2, .int x2), (3, .int x3), (4, .int x4)]) hx hb dX6_pairError_55 hl (by decide) rfl (fun ls hl => ?_)
            refine lv_iload hx hb dX6_pairError_57 (lv_at hl 0 rfl) ?_
            refine lv_if_eq (tgt := 67) hx hb dX6_pairError_59 (by decide) (fun hc => absurd hc (by decide)) (fun _ => ?_)
            refine lv_bipush (v := (-2 : Int32)) hx hb dX6_pairError_62 (by decide) ?_
            refine lv_goto (tgt := 68) hx hb dX6_pairError_64 (by decide) ?_
            exact W.iret hx hb hr (fun t ht hW => ⟨⟨_, (), rfl, Option.some.inj hF, trivial⟩, hS.F ht⟩) hS.2.2 dX6_pairError_68
    · have hF := k_if_t hF hc
      refine lv_iconst (v := (-1 : Int32)) hx hb dX6_pairError_22 (by decide) ?_
      exact W.iret hx hb hr (fun t ht hW => ⟨⟨_, (), rfl, Option.some.inj hF, trivial⟩, hS.F ht⟩) hS.2.2 dX6_pairError_23
theorem mm_X6_runCards_1 : Cond.fieldLink RX6 49 "RollerMesh" "turn" "LRollerMesh$Turn;" ∈ wsX6_runCards := List.mem_of_getElem? (i := 1) rfl
theorem mm_X6_runCards_2 : Cond.fieldLink RX6 10 "RollerMesh" "shop" "LRollerMesh$Shop;" ∈ wsX6_runCards := List.mem_of_getElem? (i := 2) rfl
theorem mi_X6_runCards_X6 : ∀ w ∈ wsX60, w ∈ wsX6_runCards := fun _ h => List.mem_cons_of_mem _ (List.mem_append_left _ (List.mem_append_left _ (List.mem_append_right _ h)))
set_option maxHeartbeats 4000000 in
set_option maxRecDepth 100000 in
theorem c_X6_runCards (l : Launch) (D : va_G) (cyI cyZ : ClassId) (aM aS aC aH aL aP aR aT aTp : Nat) (sz : Nat) (N : Nat) (x1 : Int32) (x2 : Int32) (x3 : Int32) (x4 : Int32) (x5 : Int32) (x6 : Int32) (vc : (Nat → Int32)) (vtl : Int32) (vta : Int32) (vtt : Int32) (vtp : (Nat → Int32)) {r0 : Int32} {vc' : (Nat → Int32)} {vtl' : Int32} {vta' : Int32} {vtt' : Int32} {vtp' : (Nat → Int32)} (hF : p_X6_runCards N x1 x2 x3 x4 x5 x6 vc vtl vta vtt vtp = some (r0, vc', vtl', vta', vtt', vtp')) : Met l yX6_runCards wsX6_runCards ({ frames := 4, cells := 0, slots := 0, locals := 91 }) (x_PM D cyI cyZ [.ref aM, .int x1, .int x2, .int x3, .int x4, .int x5, .int x6] [(aM, .inr (6, [.ref aS, .ref aH, .ref aL, .ref aP, .ref aR, .ref aT])), (aS, .inr (3, [.ref aC])), (aC, .inl (cyI, 225, .inl vc)), (aT, .inr (5, [.ref aTp, .int vtl, .int vta, .int vtt])), (aTp, .inl (cyI, 552, .inl vtp))] sz) (x_QM D r0 (va_A [(aM, .inr (6, [.ref aS, .ref aH, .ref aL, .ref aP, .ref aR, .ref aT])), (aS, .inr (3, [.ref aC])), (aC, .inl (cyI, 225, .inl vc)), (aT, .inr (5, [.ref aTp, .int vtl, .int vta, .int vtt])), (aTp, .inl (cyI, 552, .inl vtp))] sz) [(aM, .inr (6, [.ref aS, .ref aH, .ref aL, .ref aP, .ref aR, .ref aT])), (aS, .inr (3, [.ref aC])), (aC, .inl (cyI, 225, .inl vc')), (aT, .inr (5, [.ref aTp, .int vtl', .int vta', .int vtt'])), (aTp, .inl (cyI, 552, .inl vtp'))]) 0 0 (va_A [(aM, .inr (6, [.ref aS, .ref aH, .ref aL, .ref aP, .ref aR, .ref aT])), (aS, .inr (3, [.ref aC])), (aC, .inl (cyI, 225, .inl vc)), (aT, .inr (5, [.ref aTp, .int vtl, .int vta, .int vtt])), (aTp, .inl (cyI, 552, .inl vtp))] sz) := by
  refine Met.ofW (cc := cX6_runCards) (maxL := 10) (ret := (some .int)) (by decide) rfl ?_
  intro p e s m args below meth c s₁ B hml hv
  obtain ⟨rfl, hsz, hP, hK, hD0⟩ := hv
  have hx := B.exec
  have hb := B.bytes
  have hr := B.returns
  have hts := atoms_spec (ws := wsX6_runCards) B.pre
  have hown : s.vm.findClass RX6 = some m.cls := findClass_of_methodNamed B.named
  have hlocks := B.notSynchronized
  subst hsz
  have hD := hD0.self (sz := s.heap.size)
  generalize hAe : va_A [(aM, .inr (6, [.ref aS, .ref aH, .ref aL, .ref aP, .ref aR, .ref aT])), (aS, .inr (3, [.ref aC])), (aC, .inl (cyI, 225, .inl vc)), (aT, .inr (5, [.ref aTp, .int vtl, .int vta, .int vtt])), (aTp, .inl (cyI, 552, .inl vtp))] s.heap.size = A at hD ⊢
  have hA : ∀ q : Nat, s.heap.size ≤ q → A q := fun q h => by rw [← hAe]; exact Or.inr h
  have hS : va_S A s.heap s.heap [] := va_S.rf
  have hP : va_P D vwCl [(aM, .inr (6, [.ref aS, .ref aH, .ref aL, .ref aP, .ref aR, .ref aT])), (aS, .inr (3, [.ref aC])), (aC, .inl (cyI, 225, .inl vc)), (aT, .inr (5, [.ref aTp, .int vtl, .int vta, .int vtt])), (aTp, .inl (cyI, 552, .inl vtp))] s.heap := hP
  have hl := lv_entry ([.ref aM, .int x1, .int x2, .int x3, .int x4, .int x5, .int x6]) (n := 10) (Nat.le_of_ble_eq_true rfl)
  rw [lg_entry_eq]
  generalize (lg_sl ([.ref aM, .int x1, .int x2, .int x3, .int x4, .int x5, .int x6]) ++ List.replicate (10 - (lg_sl ([.ref aM, .int x1, .int x2, .int x3, .int x4, .int x5, .int x6])).length) Slot.unset).toArray = ls at hl ⊢
  have hl : lv_has ls 10 [(0, .ref aM), (1, .int x1), (2, .int x2), (3, .int x3), (4, .int x4), (5, .int x5), (6, .int x6)] := hl
  refine x_gen (fun G hG => ?_)
  have blk_94 : ∀ (n_94 : Nat) (x1 : Int32) (x2 : Int32) (x5 : Int32) (x6 : Int32) (x8 : Int32) (x9 : Int32) (vc : (Nat → Int32)) (vtl : Int32) (vta : Int32) (vtt : Int32) (vtp : (Nat → Int32)), f_X6_runCards_94 N n_94 x1 x2 x5 x6 x8 x9 vc vtl vta vtt vtp = some (r0, vc', vtl', vta', vtt', vtp') → ∀ (H : Heap) (locs : List Loc) (ls : Array Slot), va_P D vwCl [(aM, .inr (6, [.ref aS, .ref aH, .ref aL, .ref aP, .ref aR, .ref aT])), (aS, .inr (3, [.ref aC])), (aC, .inl (cyI, 225, .inl vc)), (aT, .inr (5, [.ref aTp, .int vtl, .int vta, .int vtt])), (aTp, .inl (cyI, 552, .inl vtp))] H → va_D A [(aM, .inr (6, [.ref aS, .ref aH, .ref aL, .ref aP, .ref aR, .ref aT])), (aS, .inr (3, [.ref aC])), (aC, .inl (cyI, 225, .inl vc)), (aT, .inr (5, [.ref aTp, .int vtl, .int vta, .int vtt])), (aTp, .inl (cyI, 552, .inl vtp))] → va_S A s.heap H locs → lv_has ls 10 [(0, .ref aM), (1, .int x1), (2, .int x2), (5, .int x5), (6, .int x6), (8, .int x8), (9, .int x9)] → G H locs (F0 m 94 ls []) := by
    intro n_94
    induction n_94 with
    | zero => intro x1 x2 x5 x6 x8 x9 vc vtl vta vtt vtp hF; exact (k_none hF).elim
    | succ n_94 ih_94 =>
      intro x1 x2 x5 x6 x8 x9 vc vtl vta vtt vtp hF H locs ls hP hD hS hl
      replace hF : b_X6_runCards_94 N (f_X6_runCards_94 N n_94) x1 x2 x5 x6 x8 x9 vc vtl vta vtt vtp = some (r0, vc', vtl', vta', vtt', vtp') := hF
      unfold b_X6_runCards_94 at hF
      refine (hG _ _ _).2 ?_
      refine lv_iload hx hb dX6_runCards_94 (lv_at hl 6 rfl) ?_
      refine lv_iload hx hb dX6_runCards_96 (lv_at hl 3 rfl) ?_
      refine lv_icmp_ge (tgt := 146) hx hb dX6_runCards_98 (by decide) (fun hc => ?_) (fun hc => ?_)
      · have hF := k_if_t hF hc
        refine lv_aload_n hx hb dX6_runCards_146 rfl (lv_at hl 0 rfl) ?_
        refine va_get (D := D) (ci := 6) (v := .ref aS) (C := RX6) (T := TX6) (N := 6) hx hb hts mi_X6_runCards_X6 hown hK.1 hP 0 rfl rfl 0 (by decide) (hts _ mm_X6_runCards_2) (fun _ h9 => h9) rfl dX6_runCards_147 ?_
        refine lv_iload hx hb dX6_runCards_150 (lv_at hl 3 rfl) ?_
        refine lv_iload hx hb dX6_runCards_152 (lv_at hl 5 rfl) ?_
        refine lv_aload_n hx hb dX6_runCards_154 rfl (lv_at hl 0 rfl) ?_
        refine va_get (D := D) (ci := 6) (v := .ref aT) (C := RX6) (T := TX6) (N := 6) hx hb hts mi_X6_runCards_X6 hown hK.1 hP 0 rfl rfl 5 (by decide) (hts _ mm_X6_runCards_1) (fun _ h9 => h9) rfl dX6_runCards_155 ?_
        obtain ⟨r158, hC, hF⟩ := k_c1_ex hF
        refine x_VR (As := []) (rest := [.int x8, .int x5, .ref aS]) ⟨hx, hb, hml, hown, hts⟩ (c_X5_taken l D cyI cyZ aT aTp N vtl vta vtt hC) (cwV 0 hts gX6_runCards_X5_taken rfl rfl rfl (by decide +kernel) ⟨Nat.le_of_ble_eq_true rfl, Nat.le_of_ble_eq_true rfl⟩) hK hP hS [3] rfl 3 rfl rfl rfl rfl hl.1 rfl (Nat.le_of_ble_eq_true rfl) ⟨Nat.zero_le _, Nat.zero_le _⟩ dX6_runCards_158 (fun H locs hP hS => ?_)
        obtain ⟨vc_161, hC, hF⟩ := k_c1_ex hF
        refine x_VV (As := [.int x5, .int x8, .int r158]) (rest := []) ⟨hx, hb, hml, hown, hts⟩ (c_X3_countRun l D cyI cyZ aS aC H.size N x5 x8 r158 vc hC) (cwV 3 hts gX6_runCards_X3_countRun rfl rfl rfl (by decide +kernel) ⟨Nat.le_of_ble_eq_true rfl, Nat.le_of_ble_eq_true rfl⟩) hK hP hD hS hA [1, 2] rfl rfl rfl 1 rfl rfl rfl rfl hl.1 rfl (Nat.le_of_ble_eq_true rfl) ⟨Nat.zero_le _, Nat.zero_le _⟩ dX6_runCards_161 (fun H locs hP hD hS => ?_)
        have hP : va_P D vwCl [(aM, .inr (6, [.ref aS, .ref aH, .ref aL, .ref aP, .ref aR, .ref aT])), (aS, .inr (3, [.ref aC])), (aC, .inl (cyI, 225, .inl vc_161)), (aT, .inr (5, [.ref aTp, .int vtl, .int vta, .int vtt])), (aTp, .inl (cyI, 552, .inl vtp))] H := hP
        have hD : va_D A [(aM, .inr (6, [.ref aS, .ref aH, .ref aL, .ref aP, .ref aR, .ref aT])), (aS, .inr (3, [.ref aC])), (aC, .inl (cyI, 225, .inl vc_161)), (aT, .inr (5, [.ref aTp, .int vtl, .int vta, .int vtt])), (aTp, .inl (cyI, 552, .inl vtp))] := hD
        refine lv_aload_n hx hb dX6_runCards_164 rfl (lv_at hl 0 rfl) ?_
        refine va_get (D := D) (ci := 6) (v := .ref aS) (C := RX6) (T := TX6) (N := 6) hx hb hts mi_X6_runCards_X6 hown hK.1 hP 0 rfl rfl 0 (by decide) (hts _ mm_X6_runCards_2) (fun _ h9 => h9) rfl dX6_runCards_165 ?_
        refine lv_iload_n hx hb dX6_runCards_168 rfl (lv_at hl 1 rfl) ?_
        refine lv_aload_n hx hb dX6_runCards_169 rfl (lv_at hl 0 rfl) ?_
        refine va_get (D := D) (ci := 6) (v := .ref aT) (C := RX6) (T := TX6) (N := 6) hx hb hts mi_X6_runCards_X6 hown hK.1 hP 0 rfl rfl 5 (by decide) (hts _ mm_X6_runCards_1) (fun _ h9 => h9) rfl dX6_runCards_170 ?_
        obtain ⟨r173, hC, hF⟩ := k_c1_ex hF
        refine x_VR (As := []) (rest := [.int x1, .ref aS]) ⟨hx, hb, hml, hown, hts⟩ (c_X5_taken l D cyI cyZ aT aTp N vtl vta vtt hC) (cwV 0 hts gX6_runCards_X5_taken rfl rfl rfl (by decide +kernel) ⟨Nat.le_of_ble_eq_true rfl, Nat.le_of_ble_eq_true rfl⟩) hK hP hS [3] rfl 3 rfl rfl rfl rfl hl.1 rfl (Nat.le_of_ble_eq_true rfl) ⟨Nat.zero_le _, Nat.zero_le _⟩ dX6_runCards_173 (fun H locs hP hS => ?_)
        obtain ⟨vc_176, hC, hF⟩ := k_c1_ex hF
        refine x_VV (As := [.int x1, .int r173]) (rest := []) ⟨hx, hb, hml, hown, hts⟩ (c_X3_turnRoller l D cyI cyZ aS aC H.size N x1 r173 vc_161 hC) (cwV 2 hts gX6_runCards_X3_turnRoller rfl rfl rfl (by decide +kernel) ⟨Nat.le_of_ble_eq_true rfl, Nat.le_of_ble_eq_true rfl⟩) hK hP hD hS hA [1, 2] rfl rfl rfl 1 rfl rfl rfl rfl hl.1 rfl (Nat.le_of_ble_eq_true rfl) ⟨Nat.zero_le _, Nat.zero_le _⟩ dX6_runCards_176 (fun H locs hP hD hS => ?_)
        have hP : va_P D vwCl [(aM, .inr (6, [.ref aS, .ref aH, .ref aL, .ref aP, .ref aR, .ref aT])), (aS, .inr (3, [.ref aC])), (aC, .inl (cyI, 225, .inl vc_176)), (aT, .inr (5, [.ref aTp, .int vtl, .int vta, .int vtt])), (aTp, .inl (cyI, 552, .inl vtp))] H := hP
        have hD : va_D A [(aM, .inr (6, [.ref aS, .ref aH, .ref aL, .ref aP, .ref aR, .ref aT])), (aS, .inr (3, [.ref aC])), (aC, .inl (cyI, 225, .inl vc_176)), (aT, .inr (5, [.ref aTp, .int vtl, .int vta, .int vtt])), (aTp, .inl (cyI, 552, .inl vtp))] := hD
        refine lv_aload_n hx hb dX6_runCards_179 rfl (lv_at hl 0 rfl) ?_
        refine va_get (D := D) (ci := 6) (v := .ref aS) (C := RX6) (T := TX6) (N := 6) hx hb hts mi_X6_runCards_X6 hown hK.1 hP 0 rfl rfl 0 (by decide) (hts _ mm_X6_runCards_2) (fun _ h9 => h9) rfl dX6_runCards_180 ?_
        refine lv_iload_n hx hb dX6_runCards_183 rfl (lv_at hl 2 rfl) ?_
        refine lv_aload_n hx hb dX6_runCards_184 rfl (lv_at hl 0 rfl) ?_
        refine va_get (D := D) (ci := 6) (v := .ref aT) (C := RX6) (T := TX6) (N := 6) hx hb hts mi_X6_runCards_X6 hown hK.1 hP 0 rfl rfl 5 (by decide) (hts _ mm_X6_runCards_1) (fun _ h9 => h9) rfl dX6_runCards_185 ?_
        obtain ⟨r188, hC, hF⟩ := k_c1_ex hF
        refine x_VR (As := []) (rest := [.int x2, .ref aS]) ⟨hx, hb, hml, hown, hts⟩ (c_X5_taken l D cyI cyZ aT aTp N vtl vta vtt hC) (cwV 0 hts gX6_runCards_X5_taken rfl rfl rfl (by decide +kernel) ⟨Nat.le_of_ble_eq_true rfl, Nat.le_of_ble_eq_true rfl⟩) hK hP hS [3] rfl 3 rfl rfl rfl rfl hl.1 rfl (Nat.le_of_ble_eq_true rfl) ⟨Nat.zero_le _, Nat.zero_le _⟩ dX6_runCards_188 (fun H locs hP hS => ?_)
        obtain ⟨vc_191, hC, hF⟩ := k_c1_ex hF
        refine x_VV (As := [.int x2, .int r188]) (rest := []) ⟨hx, hb, hml, hown, hts⟩ (c_X3_turnRoller l D cyI cyZ aS aC H.size N x2 r188 vc_176 hC) (cwV 2 hts gX6_runCards_X3_turnRoller rfl rfl rfl (by decide +kernel) ⟨Nat.le_of_ble_eq_true rfl, Nat.le_of_ble_eq_true rfl⟩) hK hP hD hS hA [1, 2] rfl rfl rfl 1 rfl rfl rfl rfl hl.1 rfl (Nat.le_of_ble_eq_true rfl) ⟨Nat.zero_le _, Nat.zero_le _⟩ dX6_runCards_191 (fun H locs hP hD hS => ?_)
        have hP : va_P D vwCl [(aM, .inr (6, [.ref aS, .ref aH, .ref aL, .ref aP, .ref aR, .ref aT])), (aS, .inr (3, [.ref aC])), (aC, .inl (cyI, 225, .inl vc_191)), (aT, .inr (5, [.ref aTp, .int vtl, .int vta, .int vtt])), (aTp, .inl (cyI, 552, .inl vtp))] H := hP
        have hD : va_D A [(aM, .inr (6, [.ref aS, .ref aH, .ref aL, .ref aP, .ref aR, .ref aT])), (aS, .inr (3, [.ref aC])), (aC, .inl (cyI, 225, .inl vc_191)), (aT, .inr (5, [.ref aTp, .int vtl, .int vta, .int vtt])), (aTp, .inl (cyI, 552, .inl vtp))] := hD
        refine lv_iload hx hb dX6_runCards_194 (lv_at hl 5 rfl) ?_
        obtain ⟨e0, e1, e2, e3, e4, e5⟩ := k_inj6 hF
        have hP9 : va_P D vwCl [(aM, .inr (6, [.ref aS, .ref aH, .ref aL, .ref aP, .ref aR, .ref aT])), (aS, .inr (3, [.ref aC])), (aC, .inl (cyI, 225, .inl vc')), (aT, .inr (5, [.ref aTp, .int vtl', .int vta', .int vtt'])), (aTp, .inl (cyI, 552, .inl vtp'))] H := by rw [← e1, ← e2, ← e3, ← e4, ← e5]; exact hP
        exact W.iret hx hb hr (fun t ht hW => ⟨⟨_, (), rfl, e0, x_ret hP9 ht⟩, hS.F ht⟩) hS.2.2 dX6_runCards_196
      · have hF := k_if_f hF hc
        refine lv_aload_n hx hb dX6_runCards_101 rfl (lv_at hl 0 rfl) ?_
        refine va_get (D := D) (ci := 6) (v := .ref aT) (C := RX6) (T := TX6) (N := 6) hx hb hts mi_X6_runCards_X6 hown hK.1 hP 0 rfl rfl 5 (by decide) (hts _ mm_X6_runCards_1) (fun _ h9 => h9) rfl dX6_runCards_102 ?_
        refine lv_iload hx hb dX6_runCards_105 (lv_at hl 4 rfl) ?_
        refine lv_aload_n hx hb dX6_runCards_107 rfl (lv_at hl 0 rfl) ?_
        refine va_get (D := D) (ci := 6) (v := .ref aS) (C := RX6) (T := TX6) (N := 6) hx hb hts mi_X6_runCards_X6 hown hK.1 hP 0 rfl rfl 0 (by decide) (hts _ mm_X6_runCards_2) (fun _ h9 => h9) rfl dX6_runCards_108 ?_
        refine lv_iconst (v := (1 : Int32)) hx hb dX6_runCards_111 (by decide) ?_
        obtain ⟨r112, hC, hF⟩ := k_c1_ex hF
        refine x_VR (As := [.int (1 : Int32)]) (rest := [.int x6, .ref aT]) ⟨hx, hb, hml, hown, hts⟩ (c_X3_cell l D cyI cyZ aS aC N (1 : Int32) vc hC) (cwV 1 hts gX6_runCards_X3_cell rfl rfl rfl (by decide +kernel) ⟨Nat.le_of_ble_eq_true rfl, Nat.le_of_ble_eq_true rfl⟩) hK hP hS [1, 2] rfl 1 rfl rfl rfl rfl hl.1 rfl (Nat.le_of_ble_eq_true rfl) ⟨Nat.zero_le _, Nat.zero_le _⟩ dX6_runCards_112 (fun H locs hP hS => ?_)
        refine lv_aload_n hx hb dX6_runCards_115 rfl (lv_at hl 0 rfl) ?_
        refine va_get (D := D) (ci := 6) (v := .ref aS) (C := RX6) (T := TX6) (N := 6) hx hb hts mi_X6_runCards_X6 hown hK.1 hP 0 rfl rfl 0 (by decide) (hts _ mm_X6_runCards_2) (fun _ h9 => h9) rfl dX6_runCards_116 ?_
        refine lv_iconst (v := (2 : Int32)) hx hb dX6_runCards_119 (by decide) ?_
        obtain ⟨r120, hC, hF⟩ := k_c1_ex hF
        refine x_VR (As := [.int (2 : Int32)]) (rest := [.int r112, .int x6, .ref aT]) ⟨hx, hb, hml, hown, hts⟩ (c_X3_cell l D cyI cyZ aS aC N (2 : Int32) vc hC) (cwV 1 hts gX6_runCards_X3_cell rfl rfl rfl (by decide +kernel) ⟨Nat.le_of_ble_eq_true rfl, Nat.le_of_ble_eq_true rfl⟩) hK hP hS [1, 2] rfl 1 rfl rfl rfl rfl hl.1 rfl (Nat.le_of_ble_eq_true rfl) ⟨Nat.zero_le _, Nat.zero_le _⟩ dX6_runCards_120 (fun H locs hP hS => ?_)
        refine lv_aload_n hx hb dX6_runCards_123 rfl (lv_at hl 0 rfl) ?_
        refine va_get (D := D) (ci := 6) (v := .ref aS) (C := RX6) (T := TX6) (N := 6) hx hb hts mi_X6_runCards_X6 hown hK.1 hP 0 rfl rfl 0 (by decide) (hts _ mm_X6_runCards_2) (fun _ h9 => h9) rfl dX6_runCards_124 ?_
        refine lv_iconst (v := (1 : Int32)) hx hb dX6_runCards_127 (by decide) ?_
        obtain ⟨r128, hC, hF⟩ := k_c1_ex hF
        refine x_VR (As := [.int (1 : Int32)]) (rest := [.int r120, .int r112, .int x6, .ref aT]) ⟨hx, hb, hml, hown, hts⟩ (c_X3_setting l D cyI cyZ aS aC N (1 : Int32) vc hC) (cwV 1 hts gX6_runCards_X3_setting rfl rfl rfl (by decide +kernel) ⟨Nat.le_of_ble_eq_true rfl, Nat.le_of_ble_eq_true rfl⟩) hK hP hS [1, 2] rfl 1 rfl rfl rfl rfl hl.1 rfl (Nat.le_of_ble_eq_true rfl) ⟨Nat.zero_le _, Nat.zero_le _⟩ dX6_runCards_128 (fun H locs hP hS => ?_)
        obtain ⟨r131, vta_131, vtt_131, hC, hF⟩ := k_c3_ex hF
        refine x_VM (As := [.int x6, .int r112, .int r120, .int r128]) (rest := []) ⟨hx, hb, hml, hown, hts⟩ (c_X5_tears l D cyI cyZ aT aTp H.size N x6 r112 r120 r128 vtl vta vtt vtp hC) (cwV 4 hts gX6_runCards_X5_tears rfl rfl rfl (by decide +kernel) ⟨Nat.le_of_ble_eq_true rfl, Nat.le_of_ble_eq_true rfl⟩) hK hP hD hS hA [3, 4] rfl rfl rfl 3 rfl rfl rfl rfl hl.1 rfl (Nat.le_of_ble_eq_true rfl) ⟨Nat.zero_le _, Nat.zero_le _⟩ dX6_runCards_131 (fun H locs hP hD hS => ?_)
        have hP : va_P D vwCl [(aM, .inr (6, [.ref aS, .ref aH, .ref aL, .ref aP, .ref aR, .ref aT])), (aS, .inr (3, [.ref aC])), (aC, .inl (cyI, 225, .inl vc)), (aT, .inr (5, [.ref aTp, .int vtl, .int vta_131, .int vtt_131])), (aTp, .inl (cyI, 552, .inl vtp))] H := hP
        have hD : va_D A [(aM, .inr (6, [.ref aS, .ref aH, .ref aL, .ref aP, .ref aR, .ref aT])), (aS, .inr (3, [.ref aC])), (aC, .inl (cyI, 225, .inl vc)), (aT, .inr (5, [.ref aTp, .int vtl, .int vta_131, .int vtt_131])), (aTp, .inl (cyI, 552, .inl vtp))] := hD
        refine lv_if_eq (tgt := 140) hx hb dX6_runCards_134 (by decide) (fun hc => ?_) (fun hc => ?_)
        · have hF := k_if_t hF hc
          obtain ⟨x9_140, hn, hF⟩ := k_let_ex hF
          refine lv_iinc (v := x9_140) (lv' := [(9, .int x9_140), (0, .ref aM), (1, .int x1), (2, .int x2), (5, .int x5), (6, .int x6), (8, .int x8)]) hx hb dX6_runCards_140 hl (k := 6) rfl (by rw [hn]; rfl) (by decide) rfl (fun ls hl => ?_)
          refine lv_goto (tgt := 94) hx hb dX6_runCards_143 (by decide) ?_
          exact (hG _ _ _).1 (ih_94 x1 x2 x5 x6 x8 x9_140 vc vtl vta_131 vtt_131 vtp hF _ _ _ hP hD hS (lv_sub hl [1, 2, 3, 4, 5, 6, 0] rfl))
        · have hF := k_if_f hF hc
          obtain ⟨x8_137, hn, hF⟩ := k_let_ex hF
          refine lv_iinc (v := x8_137) (lv' := [(8, .int x8_137), (0, .ref aM), (1, .int x1), (2, .int x2), (5, .int x5), (6, .int x6), (9, .int x9)]) hx hb dX6_runCards_137 hl (k := 5) rfl (by rw [hn]; rfl) (by decide) rfl (fun ls hl => ?_)
          obtain ⟨x9_140, hn, hF⟩ := k_let_ex hF
          refine lv_iinc (v := x9_140) (lv' := [(9, .int x9_140), (8, .int x8_137), (0, .ref aM), (1, .int x1), (2, .int x2), (5, .int x5), (6, .int x6)]) hx hb dX6_runCards_140 hl (k := 6) rfl (by rw [hn]; rfl) (by decide) rfl (fun ls hl => ?_)
          refine lv_goto (tgt := 94) hx hb dX6_runCards_143 (by decide) ?_
          exact (hG _ _ _).1 (ih_94 x1 x2 x5 x6 x8_137 x9_140 vc vtl vta_131 vtt_131 vtp hF _ _ _ hP hD hS (lv_sub hl [2, 3, 4, 5, 6, 1, 0] rfl))
  refine (hG _ _ _).2 ?_
  unfold p_X6_runCards at hF
  refine lv_aload_n hx hb dX6_runCards_0 rfl (lv_at hl 0 rfl) ?_
  refine lv_iload_n hx hb dX6_runCards_1 rfl (lv_at hl 1 rfl) ?_
  refine lv_iload_n hx hb dX6_runCards_2 rfl (lv_at hl 2 rfl) ?_
  refine lv_iload_n hx hb dX6_runCards_3 rfl (lv_at hl 3 rfl) ?_
  refine lv_iload hx hb dX6_runCards_4 (lv_at hl 4 rfl) ?_
  obtain ⟨r6, hC, hF⟩ := k_c1_ex hF
  refine x_VR (As := [.int x1, .int x2, .int x3, .int x4]) (rest := []) ⟨hx, hb, hml, hown, hts⟩ (c_X6_pairError l D cyI cyZ aM aS aC aH aL aP aR aT N x1 x2 x3 x4 vc hC) (cwV 4 hts gX6_runCards_X6_pairError rfl rfl rfl (by decide +kernel) ⟨Nat.le_of_ble_eq_true rfl, Nat.le_of_ble_eq_true rfl⟩) hK hP hS [0, 1, 2] rfl 0 rfl rfl rfl rfl hl.1 rfl (Nat.le_of_ble_eq_true rfl) ⟨Nat.zero_le _, Nat.zero_le _⟩ dX6_runCards_6 (fun H locs hP hS => ?_)
  refine lv_istore (lv' := [(7, .int r6), (0, .ref aM), (1, .int x1), (2, .int x2), (3, .int x3), (4, .int x4), (5, .int x5), (6, .int x6)]) hx hb dX6_runCards_9 hl (by decide) rfl (fun ls hl => ?_)
  refine lv_iload hx hb dX6_runCards_11 (lv_at hl 0 rfl) ?_
  refine lv_if_eq (tgt := 19) hx hb dX6_runCards_13 (by decide) (fun hc => ?_) (fun hc => ?_)
  · have hF := k_if_t hF hc
    refine lv_iload hx hb dX6_runCards_19 (lv_at hl 6 rfl) ?_
    refine lv_iconst (v := (1 : Int32)) hx hb dX6_runCards_21 (by decide) ?_
    refine lv_bipush (v := (99 : Int32)) hx hb dX6_runCards_22 (by decide) ?_
    obtain ⟨r24, hC, hF⟩ := k_c1_ex hF
    refine x_SR (As := [.int x5, .int (1 : Int32), .int (99 : Int32)]) (rest := []) ⟨hx, hb, hml, hown, hts⟩ (c_X6_outside l D cyI cyZ N x5 (1 : Int32) (99 : Int32) hC) (va_cwS 3 hts gX6_runCards_X6_outside rfl rfl rfl (by decide +kernel) ⟨Nat.le_of_ble_eq_true rfl, Nat.le_of_ble_eq_true rfl⟩) hK hP hS [] rfl rfl hl.1 rfl (Nat.le_of_ble_eq_true rfl) ⟨Nat.zero_le _, Nat.zero_le _⟩ dX6_runCards_24 (fun H locs hP hS => ?_)
    refine lv_if_ne (tgt := 41) hx hb dX6_runCards_27 (by decide) (fun hc => ?_) (fun hc => ?_)
    · have hF := k_if_f hF hc
      refine lv_bipush (v := (-2 : Int32)) hx hb dX6_runCards_41 (by decide) ?_
      obtain ⟨e0, e1, e2, e3, e4, e5⟩ := k_inj6 hF
      have hP9 : va_P D vwCl [(aM, .inr (6, [.ref aS, .ref aH, .ref aL, .ref aP, .ref aR, .ref aT])), (aS, .inr (3, [.ref aC])), (aC, .inl (cyI, 225, .inl vc')), (aT, .inr (5, [.ref aTp, .int vtl', .int vta', .int vtt'])), (aTp, .inl (cyI, 552, .inl vtp'))] H := by rw [← e1, ← e2, ← e3, ← e4, ← e5]; exact hP
      exact W.iret hx hb hr (fun t ht hW => ⟨⟨_, (), rfl, e0, x_ret hP9 ht⟩, hS.F ht⟩) hS.2.2 dX6_runCards_43
    · have hF := k_if_t hF hc
      refine lv_iload hx hb dX6_runCards_30 (lv_at hl 7 rfl) ?_
      refine lv_iconst (v := (1 : Int32)) hx hb dX6_runCards_32 (by decide) ?_
      refine lv_bipush (v := (99 : Int32)) hx hb dX6_runCards_33 (by decide) ?_
      obtain ⟨r35, hC, hF⟩ := k_c1_ex hF
      refine x_SR (As := [.int x6, .int (1 : Int32), .int (99 : Int32)]) (rest := []) ⟨hx, hb, hml, hown, hts⟩ (c_X6_outside l D cyI cyZ N x6 (1 : Int32) (99 : Int32) hC) (va_cwS 3 hts gX6_runCards_X6_outside rfl rfl rfl (by decide +kernel) ⟨Nat.le_of_ble_eq_true rfl, Nat.le_of_ble_eq_true rfl⟩) hK hP hS [] rfl rfl hl.1 rfl (Nat.le_of_ble_eq_true rfl) ⟨Nat.zero_le _, Nat.zero_le _⟩ dX6_runCards_35 (fun H locs hP hS => ?_)
      refine lv_if_eq (tgt := 44) hx hb dX6_runCards_38 (by decide) (fun hc => ?_) (fun hc => ?_)
      · have hF := k_if_t hF hc
        refine lv_aload_n hx hb dX6_runCards_44 rfl (lv_at hl 1 rfl) ?_
        refine va_get (D := D) (ci := 6) (v := .ref aT) (C := RX6) (T := TX6) (N := 6) hx hb hts mi_X6_runCards_X6 hown hK.1 hP 0 rfl rfl 5 (by decide) (hts _ mm_X6_runCards_1) (fun _ h9 => h9) rfl dX6_runCards_45 ?_
        refine lv_aload_n hx hb dX6_runCards_48 rfl (lv_at hl 1 rfl) ?_
        refine va_get (D := D) (ci := 6) (v := .ref aS) (C := RX6) (T := TX6) (N := 6) hx hb hts mi_X6_runCards_X6 hown hK.1 hP 0 rfl rfl 0 (by decide) (hts _ mm_X6_runCards_2) (fun _ h9 => h9) rfl dX6_runCards_49 ?_
        refine lv_iload_n hx hb dX6_runCards_52 rfl (lv_at hl 2 rfl) ?_
        refine lv_iload_n hx hb dX6_runCards_53 rfl (lv_at hl 3 rfl) ?_
        refine lv_iload_n hx hb dX6_runCards_54 rfl (lv_at hl 4 rfl) ?_
        refine lv_iload hx hb dX6_runCards_55 (lv_at hl 5 rfl) ?_
        obtain ⟨vtl_57, vtp_57, hC, hF⟩ := k_c2_ex hF
        refine x_VV (As := [.ref aS, .int x1, .int x2, .int x3, .int x4]) (rest := []) ⟨hx, hb, hml, hown, hts⟩ (c_X5_lay l D cyI cyZ aS aC aT aTp H.size N x1 x2 x3 x4 vc vtl vta vtt vtp hC) (cwV 5 hts gX6_runCards_X5_lay rfl rfl rfl (by decide +kernel) ⟨Nat.le_of_ble_eq_true rfl, Nat.le_of_ble_eq_true rfl⟩) hK hP hD hS hA [1, 2, 3, 4] rfl rfl rfl 3 rfl rfl rfl rfl hl.1 rfl (Nat.le_of_ble_eq_true rfl) ⟨Nat.zero_le _, Nat.zero_le _⟩ dX6_runCards_57 (fun H locs hP hD hS => ?_)
        have hP : va_P D vwCl [(aM, .inr (6, [.ref aS, .ref aH, .ref aL, .ref aP, .ref aR, .ref aT])), (aS, .inr (3, [.ref aC])), (aC, .inl (cyI, 225, .inl vc)), (aT, .inr (5, [.ref aTp, .int vtl_57, .int vta, .int vtt])), (aTp, .inl (cyI, 552, .inl vtp_57))] H := hP
        have hD : va_D A [(aM, .inr (6, [.ref aS, .ref aH, .ref aL, .ref aP, .ref aR, .ref aT])), (aS, .inr (3, [.ref aC])), (aC, .inl (cyI, 225, .inl vc)), (aT, .inr (5, [.ref aTp, .int vtl_57, .int vta, .int vtt])), (aTp, .inl (cyI, 552, .inl vtp_57))] := hD
        refine lv_aload_n hx hb dX6_runCards_60 rfl (lv_at hl 1 rfl) ?_
        refine va_get (D := D) (ci := 6) (v := .ref aT) (C := RX6) (T := TX6) (N := 6) hx hb hts mi_X6_runCards_X6 hown hK.1 hP 0 rfl rfl 5 (by decide) (hts _ mm_X6_runCards_1) (fun _ h9 => h9) rfl dX6_runCards_61 ?_
        refine lv_aload_n hx hb dX6_runCards_64 rfl (lv_at hl 1 rfl) ?_
        refine va_get (D := D) (ci := 6) (v := .ref aS) (C := RX6) (T := TX6) (N := 6) hx hb hts mi_X6_runCards_X6 hown hK.1 hP 0 rfl rfl 0 (by decide) (hts _ mm_X6_runCards_2) (fun _ h9 => h9) rfl dX6_runCards_65 ?_
        refine lv_iconst (v := (0 : Int32)) hx hb dX6_runCards_68 (by decide) ?_
        obtain ⟨r69, hC, hF⟩ := k_c1_ex hF
        refine x_VR (As := [.int (0 : Int32)]) (rest := [.ref aT]) ⟨hx, hb, hml, hown, hts⟩ (c_X3_setting l D cyI cyZ aS aC N (0 : Int32) vc hC) (cwV 1 hts gX6_runCards_X3_setting rfl rfl rfl (by decide +kernel) ⟨Nat.le_of_ble_eq_true rfl, Nat.le_of_ble_eq_true rfl⟩) hK hP hS [1, 2] rfl 1 rfl rfl rfl rfl hl.1 rfl (Nat.le_of_ble_eq_true rfl) ⟨Nat.zero_le _, Nat.zero_le _⟩ dX6_runCards_69 (fun H locs hP hS => ?_)
        obtain ⟨r72, hC, hF⟩ := k_c1_ex hF
        refine x_VR (As := [.int r69]) (rest := []) ⟨hx, hb, hml, hown, hts⟩ (c_X5_meshes l D cyI cyZ aT aTp N r69 vtl_57 vta vtt vtp_57 hC) (cwV 1 hts gX6_runCards_X5_meshes rfl rfl rfl (by decide +kernel) ⟨Nat.le_of_ble_eq_true rfl, Nat.le_of_ble_eq_true rfl⟩) hK hP hS [3, 4] rfl 3 rfl rfl rfl rfl hl.1 rfl (Nat.le_of_ble_eq_true rfl) ⟨Nat.zero_le _, Nat.zero_le _⟩ dX6_runCards_72 (fun H locs hP hS => ?_)
        refine lv_if_ne (tgt := 81) hx hb dX6_runCards_75 (by decide) (fun hc => ?_) (fun hc => ?_)
        · have hF := k_if_f hF hc
          refine lv_aload_n hx hb dX6_runCards_81 rfl (lv_at hl 1 rfl) ?_
          refine va_get (D := D) (ci := 6) (v := .ref aT) (C := RX6) (T := TX6) (N := 6) hx hb hts mi_X6_runCards_X6 hown hK.1 hP 0 rfl rfl 5 (by decide) (hts _ mm_X6_runCards_1) (fun _ h9 => h9) rfl dX6_runCards_82 ?_
          obtain ⟨vta_85, vtt_85, hC, hF⟩ := k_c2_ex hF
          refine x_VV (As := []) (rest := []) ⟨hx, hb, hml, hown, hts⟩ (c_X5_begin l D cyI cyZ aT aTp H.size N vtl_57 vta vtt hC) (cwV 0 hts gX6_runCards_X5_begin rfl rfl rfl (by decide +kernel) ⟨Nat.le_of_ble_eq_true rfl, Nat.le_of_ble_eq_true rfl⟩) hK hP hD hS hA [3] rfl rfl rfl 3 rfl rfl rfl rfl hl.1 rfl (Nat.le_of_ble_eq_true rfl) ⟨Nat.zero_le _, Nat.zero_le _⟩ dX6_runCards_85 (fun H locs hP hD hS => ?_)
          have hP : va_P D vwCl [(aM, .inr (6, [.ref aS, .ref aH, .ref aL, .ref aP, .ref aR, .ref aT])), (aS, .inr (3, [.ref aC])), (aC, .inl (cyI, 225, .inl vc)), (aT, .inr (5, [.ref aTp, .int vtl_57, .int vta_85, .int vtt_85])), (aTp, .inl (cyI, 552, .inl vtp_57))] H := hP
          have hD : va_D A [(aM, .inr (6, [.ref aS, .ref aH, .ref aL, .ref aP, .ref aR, .ref aT])), (aS, .inr (3, [.ref aC])), (aC, .inl (cyI, 225, .inl vc)), (aT, .inr (5, [.ref aTp, .int vtl_57, .int vta_85, .int vtt_85])), (aTp, .inl (cyI, 552, .inl vtp_57))] := hD
          refine lv_iconst (v := (0 : Int32)) hx hb dX6_runCards_88 (by decide) ?_
          refine lv_istore (lv' := [(8, .int (0 : Int32)), (7, .int r6), (0, .ref aM), (1, .int x1), (2, .int x2), (3, .int x3), (4, .int x4), (5, .int x5), (6, .int x6)]) hx hb dX6_runCards_89 hl (by decide) rfl (fun ls hl => ?_)
          refine lv_iconst (v := (0 : Int32)) hx hb dX6_runCards_91 (by decide) ?_
          refine lv_istore (lv' := [(9, .int (0 : Int32)), (8, .int (0 : Int32)), (7, .int r6), (0, .ref aM), (1, .int x1), (2, .int x2), (3, .int x3), (4, .int x4), (5, .int x5), (6, .int x6)]) hx hb dX6_runCards_92 hl (by decide) rfl (fun ls hl => ?_)
          exact (hG _ _ _).1 (blk_94 N x1 x2 x5 x6 (0 : Int32) (0 : Int32) vc vtl_57 vta_85 vtt_85 vtp_57 hF _ _ _ hP hD hS (lv_sub hl [3, 4, 5, 8, 9, 1, 0] rfl))
        · have hF := k_if_t hF hc
          refine lv_bipush (v := (-5 : Int32)) hx hb dX6_runCards_78 (by decide) ?_
          obtain ⟨e0, e1, e2, e3, e4, e5⟩ := k_inj6 hF
          have hP9 : va_P D vwCl [(aM, .inr (6, [.ref aS, .ref aH, .ref aL, .ref aP, .ref aR, .ref aT])), (aS, .inr (3, [.ref aC])), (aC, .inl (cyI, 225, .inl vc')), (aT, .inr (5, [.ref aTp, .int vtl', .int vta', .int vtt'])), (aTp, .inl (cyI, 552, .inl vtp'))] H := by rw [← e1, ← e2, ← e3, ← e4, ← e5]; exact hP
          exact W.iret hx hb hr (fun t ht hW => ⟨⟨_, (), rfl, e0, x_ret hP9 ht⟩, hS.F ht⟩) hS.2.2 dX6_runCards_80
      · have hF := k_if_f hF hc
        refine lv_bipush (v := (-2 : Int32)) hx hb dX6_runCards_41 (by decide) ?_
        obtain ⟨e0, e1, e2, e3, e4, e5⟩ := k_inj6 hF
        have hP9 : va_P D vwCl [(aM, .inr (6, [.ref aS, .ref aH, .ref aL, .ref aP, .ref aR, .ref aT])), (aS, .inr (3, [.ref aC])), (aC, .inl (cyI, 225, .inl vc')), (aT, .inr (5, [.ref aTp, .int vtl', .int vta', .int vtt'])), (aTp, .inl (cyI, 552, .inl vtp'))] H := by rw [← e1, ← e2, ← e3, ← e4, ← e5]; exact hP
        exact W.iret hx hb hr (fun t ht hW => ⟨⟨_, (), rfl, e0, x_ret hP9 ht⟩, hS.F ht⟩) hS.2.2 dX6_runCards_43
  · have hF := k_if_f hF hc
    refine lv_iload hx hb dX6_runCards_16 (lv_at hl 0 rfl) ?_
    obtain ⟨e0, e1, e2, e3, e4, e5⟩ := k_inj6 hF
    have hP9 : va_P D vwCl [(aM, .inr (6, [.ref aS, .ref aH, .ref aL, .ref aP, .ref aR, .ref aT])), (aS, .inr (3, [.ref aC])), (aC, .inl (cyI, 225, .inl vc')), (aT, .inr (5, [.ref aTp, .int vtl', .int vta', .int vtt'])), (aTp, .inl (cyI, 552, .inl vtp'))] H := by rw [← e1, ← e2, ← e3, ← e4, ← e5]; exact hP
    exact W.iret hx hb hr (fun t ht hW => ⟨⟨_, (), rfl, e0, x_ret hP9 ht⟩, hS.F ht⟩) hS.2.2 dX6_runCards_18
theorem mm_X6_run_1 : Cond.fieldLink RX6 19 "RollerMesh" "history" "LRollerMesh$History;" ∈ wsX6_run := List.mem_of_getElem? (i := 1) rfl
theorem mm_X6_run_2 : Cond.fieldLink RX6 10 "RollerMesh" "shop" "LRollerMesh$Shop;" ∈ wsX6_run := List.mem_of_getElem? (i := 2) rfl
theorem mi_X6_run_X6 : ∀ w ∈ wsX60, w ∈ wsX6_run := fun _ h => List.mem_cons_of_mem _ (List.mem_append_left _ (List.mem_append_left _ (List.mem_append_left _ (List.mem_append_right _ h))))
set_option maxHeartbeats 4000000 in
set_option maxRecDepth 100000 in
theorem c_X6_run (l : Launch) (D : va_G) (cyI cyZ : ClassId) (aM aS aC aH aHs aL aP aR aT aTp : Nat) (sz : Nat) (N : Nat) (x1 : Int32) (x2 : Int32) (x3 : Int32) (x4 : Int32) (x5 : Int32) (x6 : Int32) (vc : (Nat → Int32)) (vhf : Int32) (vhl : Int32) (vhs : (Nat → Int32)) (vtl : Int32) (vta : Int32) (vtt : Int32) (vtp : (Nat → Int32)) {r0 : Int32} {vc' : (Nat → Int32)} {vhf' : Int32} {vhl' : Int32} {vhs' : (Nat → Int32)} {vtl' : Int32} {vta' : Int32} {vtt' : Int32} {vtp' : (Nat → Int32)} (hF : p_X6_run N x1 x2 x3 x4 x5 x6 vc vhf vhl vhs vtl vta vtt vtp = some (r0, vc', vhf', vhl', vhs', vtl', vta', vtt', vtp')) : Met l yX6_run wsX6_run ({ frames := 5, cells := 0, slots := 0, locals := 120 }) (x_PM D cyI cyZ [.ref aM, .int x1, .int x2, .int x3, .int x4, .int x5, .int x6] [(aM, .inr (6, [.ref aS, .ref aH, .ref aL, .ref aP, .ref aR, .ref aT])), (aS, .inr (3, [.ref aC])), (aC, .inl (cyI, 225, .inl vc)), (aH, .inr (0, [.ref aHs, .int vhf, .int vhl])), (aHs, .inl (cyI, 1575, .inl vhs)), (aT, .inr (5, [.ref aTp, .int vtl, .int vta, .int vtt])), (aTp, .inl (cyI, 552, .inl vtp))] sz) (x_QM D r0 (va_A [(aM, .inr (6, [.ref aS, .ref aH, .ref aL, .ref aP, .ref aR, .ref aT])), (aS, .inr (3, [.ref aC])), (aC, .inl (cyI, 225, .inl vc)), (aH, .inr (0, [.ref aHs, .int vhf, .int vhl])), (aHs, .inl (cyI, 1575, .inl vhs)), (aT, .inr (5, [.ref aTp, .int vtl, .int vta, .int vtt])), (aTp, .inl (cyI, 552, .inl vtp))] sz) [(aM, .inr (6, [.ref aS, .ref aH, .ref aL, .ref aP, .ref aR, .ref aT])), (aS, .inr (3, [.ref aC])), (aC, .inl (cyI, 225, .inl vc')), (aH, .inr (0, [.ref aHs, .int vhf', .int vhl'])), (aHs, .inl (cyI, 1575, .inl vhs')), (aT, .inr (5, [.ref aTp, .int vtl', .int vta', .int vtt'])), (aTp, .inl (cyI, 552, .inl vtp'))]) 0 0 (va_A [(aM, .inr (6, [.ref aS, .ref aH, .ref aL, .ref aP, .ref aR, .ref aT])), (aS, .inr (3, [.ref aC])), (aC, .inl (cyI, 225, .inl vc)), (aH, .inr (0, [.ref aHs, .int vhf, .int vhl])), (aHs, .inl (cyI, 1575, .inl vhs)), (aT, .inr (5, [.ref aTp, .int vtl, .int vta, .int vtt])), (aTp, .inl (cyI, 552, .inl vtp))] sz) := by
  refine Met.ofW (cc := cX6_run) (maxL := 7) (ret := (some .int)) (by decide) rfl ?_
  intro p e s m args below meth c s₁ B hml hv
  obtain ⟨rfl, hsz, hP, hK, hD0⟩ := hv
  have hx := B.exec
  have hb := B.bytes
  have hr := B.returns
  have hts := atoms_spec (ws := wsX6_run) B.pre
  have hown : s.vm.findClass RX6 = some m.cls := findClass_of_methodNamed B.named
  have hlocks := B.notSynchronized
  subst hsz
  have hD := hD0.self (sz := s.heap.size)
  generalize hAe : va_A [(aM, .inr (6, [.ref aS, .ref aH, .ref aL, .ref aP, .ref aR, .ref aT])), (aS, .inr (3, [.ref aC])), (aC, .inl (cyI, 225, .inl vc)), (aH, .inr (0, [.ref aHs, .int vhf, .int vhl])), (aHs, .inl (cyI, 1575, .inl vhs)), (aT, .inr (5, [.ref aTp, .int vtl, .int vta, .int vtt])), (aTp, .inl (cyI, 552, .inl vtp))] s.heap.size = A at hD ⊢
  have hA : ∀ q : Nat, s.heap.size ≤ q → A q := fun q h => by rw [← hAe]; exact Or.inr h
  have hS : va_S A s.heap s.heap [] := va_S.rf
  have hP : va_P D vwCl [(aM, .inr (6, [.ref aS, .ref aH, .ref aL, .ref aP, .ref aR, .ref aT])), (aS, .inr (3, [.ref aC])), (aC, .inl (cyI, 225, .inl vc)), (aH, .inr (0, [.ref aHs, .int vhf, .int vhl])), (aHs, .inl (cyI, 1575, .inl vhs)), (aT, .inr (5, [.ref aTp, .int vtl, .int vta, .int vtt])), (aTp, .inl (cyI, 552, .inl vtp))] s.heap := hP
  have hl := lv_entry ([.ref aM, .int x1, .int x2, .int x3, .int x4, .int x5, .int x6]) (n := 7) (Nat.le_of_ble_eq_true rfl)
  rw [lg_entry_eq]
  generalize (lg_sl ([.ref aM, .int x1, .int x2, .int x3, .int x4, .int x5, .int x6]) ++ List.replicate (7 - (lg_sl ([.ref aM, .int x1, .int x2, .int x3, .int x4, .int x5, .int x6])).length) Slot.unset).toArray = ls at hl ⊢
  have hl : lv_has ls 7 [(0, .ref aM), (1, .int x1), (2, .int x2), (3, .int x3), (4, .int x4), (5, .int x5), (6, .int x6)] := hl
  unfold p_X6_run at hF
  refine lv_aload_n hx hb dX6_run_0 rfl (lv_at hl 0 rfl) ?_
  refine va_get (D := D) (ci := 6) (v := .ref aH) (C := RX6) (T := TX6) (N := 6) hx hb hts mi_X6_run_X6 hown hK.1 hP 0 rfl rfl 1 (by decide) (hts _ mm_X6_run_1) (fun _ h9 => h9) rfl dX6_run_1 ?_
  refine lv_aload_n hx hb dX6_run_4 rfl (lv_at hl 0 rfl) ?_
  refine va_get (D := D) (ci := 6) (v := .ref aS) (C := RX6) (T := TX6) (N := 6) hx hb hts mi_X6_run_X6 hown hK.1 hP 0 rfl rfl 0 (by decide) (hts _ mm_X6_run_2) (fun _ h9 => h9) rfl dX6_run_5 ?_
  obtain ⟨vhs_8, hC, hF⟩ := k_c1_ex hF
  refine x_VV (As := [.ref aS]) (rest := []) ⟨hx, hb, hml, hown, hts⟩ (c_X0_prepare l D cyI cyZ aS aC aH aHs s.heap.size N vc vhf vhl vhs hC) (cwV 1 hts gX6_run_X0_prepare rfl rfl rfl (by decide +kernel) ⟨Nat.le_of_ble_eq_true rfl, Nat.le_of_ble_eq_true rfl⟩) hK hP hD hS hA [1, 2, 3, 4] rfl rfl rfl 3 rfl rfl rfl rfl hl.1 rfl (Nat.le_of_ble_eq_true rfl) ⟨Nat.zero_le _, Nat.zero_le _⟩ dX6_run_8 (fun H locs hP hD hS => ?_)
  have hP : va_P D vwCl [(aM, .inr (6, [.ref aS, .ref aH, .ref aL, .ref aP, .ref aR, .ref aT])), (aS, .inr (3, [.ref aC])), (aC, .inl (cyI, 225, .inl vc)), (aH, .inr (0, [.ref aHs, .int vhf, .int vhl])), (aHs, .inl (cyI, 1575, .inl vhs_8)), (aT, .inr (5, [.ref aTp, .int vtl, .int vta, .int vtt])), (aTp, .inl (cyI, 552, .inl vtp))] H := hP
  have hD : va_D A [(aM, .inr (6, [.ref aS, .ref aH, .ref aL, .ref aP, .ref aR, .ref aT])), (aS, .inr (3, [.ref aC])), (aC, .inl (cyI, 225, .inl vc)), (aH, .inr (0, [.ref aHs, .int vhf, .int vhl])), (aHs, .inl (cyI, 1575, .inl vhs_8)), (aT, .inr (5, [.ref aTp, .int vtl, .int vta, .int vtt])), (aTp, .inl (cyI, 552, .inl vtp))] := hD
  refine lv_aload_n hx hb dX6_run_11 rfl (lv_at hl 0 rfl) ?_
  refine va_get (D := D) (ci := 6) (v := .ref aH) (C := RX6) (T := TX6) (N := 6) hx hb hts mi_X6_run_X6 hown hK.1 hP 0 rfl rfl 1 (by decide) (hts _ mm_X6_run_1) (fun _ h9 => h9) rfl dX6_run_12 ?_
  refine lv_aload_n hx hb dX6_run_15 rfl (lv_at hl 0 rfl) ?_
  refine lv_iload_n hx hb dX6_run_16 rfl (lv_at hl 1 rfl) ?_
  refine lv_iload_n hx hb dX6_run_17 rfl (lv_at hl 2 rfl) ?_
  refine lv_iload_n hx hb dX6_run_18 rfl (lv_at hl 3 rfl) ?_
  refine lv_iload hx hb dX6_run_19 (lv_at hl 4 rfl) ?_
  refine lv_iload hx hb dX6_run_21 (lv_at hl 5 rfl) ?_
  refine lv_iload hx hb dX6_run_23 (lv_at hl 6 rfl) ?_
  obtain ⟨r25, vc_25, vtl_25, vta_25, vtt_25, vtp_25, hC, hF⟩ := k_c6_ex hF
  refine x_VM (As := [.int x1, .int x2, .int x3, .int x4, .int x5, .int x6]) (rest := [.ref aH]) ⟨hx, hb, hml, hown, hts⟩ (c_X6_runCards l D cyI cyZ aM aS aC aH aL aP aR aT aTp H.size N x1 x2 x3 x4 x5 x6 vc vtl vta vtt vtp hC) (cwV 6 hts gX6_run_X6_runCards rfl rfl rfl (by decide +kernel) ⟨Nat.le_of_ble_eq_true rfl, Nat.le_of_ble_eq_true rfl⟩) hK hP hD hS hA [0, 1, 2, 5, 6] rfl rfl rfl 0 rfl rfl rfl rfl hl.1 rfl (Nat.le_of_ble_eq_true rfl) ⟨Nat.zero_le _, Nat.zero_le _⟩ dX6_run_25 (fun H locs hP hD hS => ?_)
  have hP : va_P D vwCl [(aM, .inr (6, [.ref aS, .ref aH, .ref aL, .ref aP, .ref aR, .ref aT])), (aS, .inr (3, [.ref aC])), (aC, .inl (cyI, 225, .inl vc_25)), (aH, .inr (0, [.ref aHs, .int vhf, .int vhl])), (aHs, .inl (cyI, 1575, .inl vhs_8)), (aT, .inr (5, [.ref aTp, .int vtl_25, .int vta_25, .int vtt_25])), (aTp, .inl (cyI, 552, .inl vtp_25))] H := hP
  have hD : va_D A [(aM, .inr (6, [.ref aS, .ref aH, .ref aL, .ref aP, .ref aR, .ref aT])), (aS, .inr (3, [.ref aC])), (aC, .inl (cyI, 225, .inl vc_25)), (aH, .inr (0, [.ref aHs, .int vhf, .int vhl])), (aHs, .inl (cyI, 1575, .inl vhs_8)), (aT, .inr (5, [.ref aTp, .int vtl_25, .int vta_25, .int vtt_25])), (aTp, .inl (cyI, 552, .inl vtp_25))] := hD
  obtain ⟨r28, vhf_28, vhl_28, hC, hF⟩ := k_c3_ex hF
  refine x_VM (As := [.int r25]) (rest := []) ⟨hx, hb, hml, hown, hts⟩ (c_X0_recorded l D cyI cyZ aH aHs H.size N r25 vhf vhl hC) (cwV 1 hts gX6_run_X0_recorded rfl rfl rfl (by decide +kernel) ⟨Nat.le_of_ble_eq_true rfl, Nat.le_of_ble_eq_true rfl⟩) hK hP hD hS hA [3] rfl rfl rfl 3 rfl rfl rfl rfl hl.1 rfl (Nat.le_of_ble_eq_true rfl) ⟨Nat.zero_le _, Nat.zero_le _⟩ dX6_run_28 (fun H locs hP hD hS => ?_)
  have hP : va_P D vwCl [(aM, .inr (6, [.ref aS, .ref aH, .ref aL, .ref aP, .ref aR, .ref aT])), (aS, .inr (3, [.ref aC])), (aC, .inl (cyI, 225, .inl vc_25)), (aH, .inr (0, [.ref aHs, .int vhf_28, .int vhl_28])), (aHs, .inl (cyI, 1575, .inl vhs_8)), (aT, .inr (5, [.ref aTp, .int vtl_25, .int vta_25, .int vtt_25])), (aTp, .inl (cyI, 552, .inl vtp_25))] H := hP
  have hD : va_D A [(aM, .inr (6, [.ref aS, .ref aH, .ref aL, .ref aP, .ref aR, .ref aT])), (aS, .inr (3, [.ref aC])), (aC, .inl (cyI, 225, .inl vc_25)), (aH, .inr (0, [.ref aHs, .int vhf_28, .int vhl_28])), (aHs, .inl (cyI, 1575, .inl vhs_8)), (aT, .inr (5, [.ref aTp, .int vtl_25, .int vta_25, .int vtt_25])), (aTp, .inl (cyI, 552, .inl vtp_25))] := hD
  obtain ⟨e0, e1, e2, e3, e4, e5, e6, e7, e8⟩ := k_inj9 hF
  have hP9 : va_P D vwCl [(aM, .inr (6, [.ref aS, .ref aH, .ref aL, .ref aP, .ref aR, .ref aT])), (aS, .inr (3, [.ref aC])), (aC, .inl (cyI, 225, .inl vc')), (aH, .inr (0, [.ref aHs, .int vhf', .int vhl'])), (aHs, .inl (cyI, 1575, .inl vhs')), (aT, .inr (5, [.ref aTp, .int vtl', .int vta', .int vtt'])), (aTp, .inl (cyI, 552, .inl vtp'))] H := by rw [← e1, ← e2, ← e3, ← e4, ← e5, ← e6, ← e7, ← e8]; exact hP
  exact W.iret hx hb hr (fun t ht hW => ⟨⟨_, (), rfl, e0, x_ret hP9 ht⟩, hS.F ht⟩) hS.2.2 dX6_run_31
theorem mm_X6_melt_1 : Cond.fieldLink RX6 19 "RollerMesh" "history" "LRollerMesh$History;" ∈ wsX6_melt := List.mem_of_getElem? (i := 1) rfl
theorem mm_X6_melt_2 : Cond.fieldLink RX6 10 "RollerMesh" "shop" "LRollerMesh$Shop;" ∈ wsX6_melt := List.mem_of_getElem? (i := 2) rfl
theorem mi_X6_melt_X6 : ∀ w ∈ wsX60, w ∈ wsX6_melt := fun _ h => List.mem_cons_of_mem _ (List.mem_append_left _ (List.mem_append_left _ (List.mem_append_right _ h)))
set_option maxHeartbeats 4000000 in
set_option maxRecDepth 100000 in
theorem c_X6_melt (l : Launch) (D : va_G) (cyI cyZ : ClassId) (aM aS aC aH aHs aL aP aR aT : Nat) (sz : Nat) (N : Nat) (x1 : Int32) (vc : (Nat → Int32)) (vhf : Int32) (vhl : Int32) (vhs : (Nat → Int32)) {r0 : Int32} {vc' : (Nat → Int32)} {vhf' : Int32} {vhl' : Int32} {vhs' : (Nat → Int32)} (hF : p_X6_melt N x1 vc vhf vhl vhs = some (r0, vc', vhf', vhl', vhs')) : Met l yX6_melt wsX6_melt ({ frames := 3, cells := 0, slots := 0, locals := 69 }) (x_PM D cyI cyZ [.ref aM, .int x1] [(aM, .inr (6, [.ref aS, .ref aH, .ref aL, .ref aP, .ref aR, .ref aT])), (aS, .inr (3, [.ref aC])), (aC, .inl (cyI, 225, .inl vc)), (aH, .inr (0, [.ref aHs, .int vhf, .int vhl])), (aHs, .inl (cyI, 1575, .inl vhs))] sz) (x_QM D r0 (va_A [(aM, .inr (6, [.ref aS, .ref aH, .ref aL, .ref aP, .ref aR, .ref aT])), (aS, .inr (3, [.ref aC])), (aC, .inl (cyI, 225, .inl vc)), (aH, .inr (0, [.ref aHs, .int vhf, .int vhl])), (aHs, .inl (cyI, 1575, .inl vhs))] sz) [(aM, .inr (6, [.ref aS, .ref aH, .ref aL, .ref aP, .ref aR, .ref aT])), (aS, .inr (3, [.ref aC])), (aC, .inl (cyI, 225, .inl vc')), (aH, .inr (0, [.ref aHs, .int vhf', .int vhl'])), (aHs, .inl (cyI, 1575, .inl vhs'))]) 0 0 (va_A [(aM, .inr (6, [.ref aS, .ref aH, .ref aL, .ref aP, .ref aR, .ref aT])), (aS, .inr (3, [.ref aC])), (aC, .inl (cyI, 225, .inl vc)), (aH, .inr (0, [.ref aHs, .int vhf, .int vhl])), (aHs, .inl (cyI, 1575, .inl vhs))] sz) := by
  refine Met.ofW (cc := cX6_melt) (maxL := 2) (ret := (some .int)) (by decide) rfl ?_
  intro p e s m args below meth c s₁ B hml hv
  obtain ⟨rfl, hsz, hP, hK, hD0⟩ := hv
  have hx := B.exec
  have hb := B.bytes
  have hr := B.returns
  have hts := atoms_spec (ws := wsX6_melt) B.pre
  have hown : s.vm.findClass RX6 = some m.cls := findClass_of_methodNamed B.named
  have hlocks := B.notSynchronized
  subst hsz
  have hD := hD0.self (sz := s.heap.size)
  generalize hAe : va_A [(aM, .inr (6, [.ref aS, .ref aH, .ref aL, .ref aP, .ref aR, .ref aT])), (aS, .inr (3, [.ref aC])), (aC, .inl (cyI, 225, .inl vc)), (aH, .inr (0, [.ref aHs, .int vhf, .int vhl])), (aHs, .inl (cyI, 1575, .inl vhs))] s.heap.size = A at hD ⊢
  have hA : ∀ q : Nat, s.heap.size ≤ q → A q := fun q h => by rw [← hAe]; exact Or.inr h
  have hS : va_S A s.heap s.heap [] := va_S.rf
  have hP : va_P D vwCl [(aM, .inr (6, [.ref aS, .ref aH, .ref aL, .ref aP, .ref aR, .ref aT])), (aS, .inr (3, [.ref aC])), (aC, .inl (cyI, 225, .inl vc)), (aH, .inr (0, [.ref aHs, .int vhf, .int vhl])), (aHs, .inl (cyI, 1575, .inl vhs))] s.heap := hP
  have hl := lv_entry ([.ref aM, .int x1]) (n := 2) (Nat.le_of_ble_eq_true rfl)
  rw [lg_entry_eq]
  generalize (lg_sl ([.ref aM, .int x1]) ++ List.replicate (2 - (lg_sl ([.ref aM, .int x1])).length) Slot.unset).toArray = ls at hl ⊢
  have hl : lv_has ls 2 [(0, .ref aM), (1, .int x1)] := hl
  unfold p_X6_melt at hF
  refine lv_aload_n hx hb dX6_melt_0 rfl (lv_at hl 0 rfl) ?_
  refine va_get (D := D) (ci := 6) (v := .ref aH) (C := RX6) (T := TX6) (N := 6) hx hb hts mi_X6_melt_X6 hown hK.1 hP 0 rfl rfl 1 (by decide) (hts _ mm_X6_melt_1) (fun _ h9 => h9) rfl dX6_melt_1 ?_
  refine lv_aload_n hx hb dX6_melt_4 rfl (lv_at hl 0 rfl) ?_
  refine va_get (D := D) (ci := 6) (v := .ref aS) (C := RX6) (T := TX6) (N := 6) hx hb hts mi_X6_melt_X6 hown hK.1 hP 0 rfl rfl 0 (by decide) (hts _ mm_X6_melt_2) (fun _ h9 => h9) rfl dX6_melt_5 ?_
  obtain ⟨vhs_8, hC, hF⟩ := k_c1_ex hF
  refine x_VV (As := [.ref aS]) (rest := []) ⟨hx, hb, hml, hown, hts⟩ (c_X0_prepare l D cyI cyZ aS aC aH aHs s.heap.size N vc vhf vhl vhs hC) (cwV 1 hts gX6_melt_X0_prepare rfl rfl rfl (by decide +kernel) ⟨Nat.le_of_ble_eq_true rfl, Nat.le_of_ble_eq_true rfl⟩) hK hP hD hS hA [1, 2, 3, 4] rfl rfl rfl 3 rfl rfl rfl rfl hl.1 rfl (Nat.le_of_ble_eq_true rfl) ⟨Nat.zero_le _, Nat.zero_le _⟩ dX6_melt_8 (fun H locs hP hD hS => ?_)
  have hP : va_P D vwCl [(aM, .inr (6, [.ref aS, .ref aH, .ref aL, .ref aP, .ref aR, .ref aT])), (aS, .inr (3, [.ref aC])), (aC, .inl (cyI, 225, .inl vc)), (aH, .inr (0, [.ref aHs, .int vhf, .int vhl])), (aHs, .inl (cyI, 1575, .inl vhs_8))] H := hP
  have hD : va_D A [(aM, .inr (6, [.ref aS, .ref aH, .ref aL, .ref aP, .ref aR, .ref aT])), (aS, .inr (3, [.ref aC])), (aC, .inl (cyI, 225, .inl vc)), (aH, .inr (0, [.ref aHs, .int vhf, .int vhl])), (aHs, .inl (cyI, 1575, .inl vhs_8))] := hD
  refine lv_aload_n hx hb dX6_melt_11 rfl (lv_at hl 0 rfl) ?_
  refine va_get (D := D) (ci := 6) (v := .ref aH) (C := RX6) (T := TX6) (N := 6) hx hb hts mi_X6_melt_X6 hown hK.1 hP 0 rfl rfl 1 (by decide) (hts _ mm_X6_melt_1) (fun _ h9 => h9) rfl dX6_melt_12 ?_
  refine lv_aload_n hx hb dX6_melt_15 rfl (lv_at hl 0 rfl) ?_
  refine va_get (D := D) (ci := 6) (v := .ref aS) (C := RX6) (T := TX6) (N := 6) hx hb hts mi_X6_melt_X6 hown hK.1 hP 0 rfl rfl 0 (by decide) (hts _ mm_X6_melt_2) (fun _ h9 => h9) rfl dX6_melt_16 ?_
  refine lv_iload_n hx hb dX6_melt_19 rfl (lv_at hl 1 rfl) ?_
  obtain ⟨r20, vc_20, hC, hF⟩ := k_c2_ex hF
  refine x_VM (As := [.int x1]) (rest := [.ref aH]) ⟨hx, hb, hml, hown, hts⟩ (c_X3_meltRoller l D cyI cyZ aS aC H.size N x1 vc hC) (cwV 1 hts gX6_melt_X3_meltRoller rfl rfl rfl (by decide +kernel) ⟨Nat.le_of_ble_eq_true rfl, Nat.le_of_ble_eq_true rfl⟩) hK hP hD hS hA [1, 2] rfl rfl rfl 1 rfl rfl rfl rfl hl.1 rfl (Nat.le_of_ble_eq_true rfl) ⟨Nat.zero_le _, Nat.zero_le _⟩ dX6_melt_20 (fun H locs hP hD hS => ?_)
  have hP : va_P D vwCl [(aM, .inr (6, [.ref aS, .ref aH, .ref aL, .ref aP, .ref aR, .ref aT])), (aS, .inr (3, [.ref aC])), (aC, .inl (cyI, 225, .inl vc_20)), (aH, .inr (0, [.ref aHs, .int vhf, .int vhl])), (aHs, .inl (cyI, 1575, .inl vhs_8))] H := hP
  have hD : va_D A [(aM, .inr (6, [.ref aS, .ref aH, .ref aL, .ref aP, .ref aR, .ref aT])), (aS, .inr (3, [.ref aC])), (aC, .inl (cyI, 225, .inl vc_20)), (aH, .inr (0, [.ref aHs, .int vhf, .int vhl])), (aHs, .inl (cyI, 1575, .inl vhs_8))] := hD
  obtain ⟨r23, vhf_23, vhl_23, hC, hF⟩ := k_c3_ex hF
  refine x_VM (As := [.int r20]) (rest := []) ⟨hx, hb, hml, hown, hts⟩ (c_X0_recorded l D cyI cyZ aH aHs H.size N r20 vhf vhl hC) (cwV 1 hts gX6_melt_X0_recorded rfl rfl rfl (by decide +kernel) ⟨Nat.le_of_ble_eq_true rfl, Nat.le_of_ble_eq_true rfl⟩) hK hP hD hS hA [3] rfl rfl rfl 3 rfl rfl rfl rfl hl.1 rfl (Nat.le_of_ble_eq_true rfl) ⟨Nat.zero_le _, Nat.zero_le _⟩ dX6_melt_23 (fun H locs hP hD hS => ?_)
  have hP : va_P D vwCl [(aM, .inr (6, [.ref aS, .ref aH, .ref aL, .ref aP, .ref aR, .ref aT])), (aS, .inr (3, [.ref aC])), (aC, .inl (cyI, 225, .inl vc_20)), (aH, .inr (0, [.ref aHs, .int vhf_23, .int vhl_23])), (aHs, .inl (cyI, 1575, .inl vhs_8))] H := hP
  have hD : va_D A [(aM, .inr (6, [.ref aS, .ref aH, .ref aL, .ref aP, .ref aR, .ref aT])), (aS, .inr (3, [.ref aC])), (aC, .inl (cyI, 225, .inl vc_20)), (aH, .inr (0, [.ref aHs, .int vhf_23, .int vhl_23])), (aHs, .inl (cyI, 1575, .inl vhs_8))] := hD
  obtain ⟨e0, e1, e2, e3, e4⟩ := k_inj5 hF
  have hP9 : va_P D vwCl [(aM, .inr (6, [.ref aS, .ref aH, .ref aL, .ref aP, .ref aR, .ref aT])), (aS, .inr (3, [.ref aC])), (aC, .inl (cyI, 225, .inl vc')), (aH, .inr (0, [.ref aHs, .int vhf', .int vhl'])), (aHs, .inl (cyI, 1575, .inl vhs'))] H := by rw [← e1, ← e2, ← e3, ← e4]; exact hP
  exact W.iret hx hb hr (fun t ht hW => ⟨⟨_, (), rfl, e0, x_ret hP9 ht⟩, hS.F ht⟩) hS.2.2 dX6_melt_26
theorem mm_X6_restore_1 : Cond.fieldLink RX6 19 "RollerMesh" "history" "LRollerMesh$History;" ∈ wsX6_restore := List.mem_of_getElem? (i := 1) rfl
theorem mm_X6_restore_2 : Cond.fieldLink RX6 10 "RollerMesh" "shop" "LRollerMesh$Shop;" ∈ wsX6_restore := List.mem_of_getElem? (i := 2) rfl
theorem mm_X6_restore_3 : Cond.fieldLink RX6 26 "RollerMesh" "slots" "LRollerMesh$Slots;" ∈ wsX6_restore := List.mem_of_getElem? (i := 3) rfl
theorem mi_X6_restore_X6 : ∀ w ∈ wsX60, w ∈ wsX6_restore := fun _ h => List.mem_cons_of_mem _ (List.mem_append_left _ (List.mem_append_left _ (List.mem_append_left _ (List.mem_append_right _ h))))
set_option maxHeartbeats 4000000 in
set_option maxRecDepth 100000 in
theorem c_X6_restore (l : Launch) (D : va_G) (cyI cyZ : ClassId) (aM aS aC aH aHs aL aLs aP aR aT : Nat) (sz : Nat) (N : Nat) (x1 : Int32) (vc : (Nat → Int32)) (vhf : Int32) (vhl : Int32) (vhs : (Nat → Int32)) (vsf : Int32) (vss : (Nat → Int32)) {r0 : Int32} {vc' : (Nat → Int32)} {vhf' : Int32} {vhl' : Int32} {vhs' : (Nat → Int32)} (hF : p_X6_restore N x1 vc vhf vhl vhs vsf vss = some (r0, vc', vhf', vhl', vhs')) : Met l yX6_restore wsX6_restore ({ frames := 3, cells := 0, slots := 0, locals := 70 }) (x_PM D cyI cyZ [.ref aM, .int x1] [(aM, .inr (6, [.ref aS, .ref aH, .ref aL, .ref aP, .ref aR, .ref aT])), (aS, .inr (3, [.ref aC])), (aC, .inl (cyI, 225, .inl vc)), (aH, .inr (0, [.ref aHs, .int vhf, .int vhl])), (aHs, .inl (cyI, 1575, .inl vhs)), (aL, .inr (4, [.ref aLs, .int vsf])), (aLs, .inl (cyI, 450, .inl vss))] sz) (x_QM D r0 (va_A [(aM, .inr (6, [.ref aS, .ref aH, .ref aL, .ref aP, .ref aR, .ref aT])), (aS, .inr (3, [.ref aC])), (aC, .inl (cyI, 225, .inl vc)), (aH, .inr (0, [.ref aHs, .int vhf, .int vhl])), (aHs, .inl (cyI, 1575, .inl vhs)), (aL, .inr (4, [.ref aLs, .int vsf])), (aLs, .inl (cyI, 450, .inl vss))] sz) [(aM, .inr (6, [.ref aS, .ref aH, .ref aL, .ref aP, .ref aR, .ref aT])), (aS, .inr (3, [.ref aC])), (aC, .inl (cyI, 225, .inl vc')), (aH, .inr (0, [.ref aHs, .int vhf', .int vhl'])), (aHs, .inl (cyI, 1575, .inl vhs')), (aL, .inr (4, [.ref aLs, .int vsf])), (aLs, .inl (cyI, 450, .inl vss))]) 0 0 (va_A [(aM, .inr (6, [.ref aS, .ref aH, .ref aL, .ref aP, .ref aR, .ref aT])), (aS, .inr (3, [.ref aC])), (aC, .inl (cyI, 225, .inl vc)), (aH, .inr (0, [.ref aHs, .int vhf, .int vhl])), (aHs, .inl (cyI, 1575, .inl vhs)), (aL, .inr (4, [.ref aLs, .int vsf])), (aLs, .inl (cyI, 450, .inl vss))] sz) := by
  refine Met.ofW (cc := cX6_restore) (maxL := 2) (ret := (some .int)) (by decide) rfl ?_
  intro p e s m args below meth c s₁ B hml hv
  obtain ⟨rfl, hsz, hP, hK, hD0⟩ := hv
  have hx := B.exec
  have hb := B.bytes
  have hr := B.returns
  have hts := atoms_spec (ws := wsX6_restore) B.pre
  have hown : s.vm.findClass RX6 = some m.cls := findClass_of_methodNamed B.named
  have hlocks := B.notSynchronized
  subst hsz
  have hD := hD0.self (sz := s.heap.size)
  generalize hAe : va_A [(aM, .inr (6, [.ref aS, .ref aH, .ref aL, .ref aP, .ref aR, .ref aT])), (aS, .inr (3, [.ref aC])), (aC, .inl (cyI, 225, .inl vc)), (aH, .inr (0, [.ref aHs, .int vhf, .int vhl])), (aHs, .inl (cyI, 1575, .inl vhs)), (aL, .inr (4, [.ref aLs, .int vsf])), (aLs, .inl (cyI, 450, .inl vss))] s.heap.size = A at hD ⊢
  have hA : ∀ q : Nat, s.heap.size ≤ q → A q := fun q h => by rw [← hAe]; exact Or.inr h
  have hS : va_S A s.heap s.heap [] := va_S.rf
  have hP : va_P D vwCl [(aM, .inr (6, [.ref aS, .ref aH, .ref aL, .ref aP, .ref aR, .ref aT])), (aS, .inr (3, [.ref aC])), (aC, .inl (cyI, 225, .inl vc)), (aH, .inr (0, [.ref aHs, .int vhf, .int vhl])), (aHs, .inl (cyI, 1575, .inl vhs)), (aL, .inr (4, [.ref aLs, .int vsf])), (aLs, .inl (cyI, 450, .inl vss))] s.heap := hP
  have hl := lv_entry ([.ref aM, .int x1]) (n := 2) (Nat.le_of_ble_eq_true rfl)
  rw [lg_entry_eq]
  generalize (lg_sl ([.ref aM, .int x1]) ++ List.replicate (2 - (lg_sl ([.ref aM, .int x1])).length) Slot.unset).toArray = ls at hl ⊢
  have hl : lv_has ls 2 [(0, .ref aM), (1, .int x1)] := hl
  unfold p_X6_restore at hF
  refine lv_aload_n hx hb dX6_restore_0 rfl (lv_at hl 0 rfl) ?_
  refine va_get (D := D) (ci := 6) (v := .ref aH) (C := RX6) (T := TX6) (N := 6) hx hb hts mi_X6_restore_X6 hown hK.1 hP 0 rfl rfl 1 (by decide) (hts _ mm_X6_restore_1) (fun _ h9 => h9) rfl dX6_restore_1 ?_
  refine lv_aload_n hx hb dX6_restore_4 rfl (lv_at hl 0 rfl) ?_
  refine va_get (D := D) (ci := 6) (v := .ref aS) (C := RX6) (T := TX6) (N := 6) hx hb hts mi_X6_restore_X6 hown hK.1 hP 0 rfl rfl 0 (by decide) (hts _ mm_X6_restore_2) (fun _ h9 => h9) rfl dX6_restore_5 ?_
  obtain ⟨vhs_8, hC, hF⟩ := k_c1_ex hF
  refine x_VV (As := [.ref aS]) (rest := []) ⟨hx, hb, hml, hown, hts⟩ (c_X0_prepare l D cyI cyZ aS aC aH aHs s.heap.size N vc vhf vhl vhs hC) (cwV 1 hts gX6_restore_X0_prepare rfl rfl rfl (by decide +kernel) ⟨Nat.le_of_ble_eq_true rfl, Nat.le_of_ble_eq_true rfl⟩) hK hP hD hS hA [1, 2, 3, 4] rfl rfl rfl 3 rfl rfl rfl rfl hl.1 rfl (Nat.le_of_ble_eq_true rfl) ⟨Nat.zero_le _, Nat.zero_le _⟩ dX6_restore_8 (fun H locs hP hD hS => ?_)
  have hP : va_P D vwCl [(aM, .inr (6, [.ref aS, .ref aH, .ref aL, .ref aP, .ref aR, .ref aT])), (aS, .inr (3, [.ref aC])), (aC, .inl (cyI, 225, .inl vc)), (aH, .inr (0, [.ref aHs, .int vhf, .int vhl])), (aHs, .inl (cyI, 1575, .inl vhs_8)), (aL, .inr (4, [.ref aLs, .int vsf])), (aLs, .inl (cyI, 450, .inl vss))] H := hP
  have hD : va_D A [(aM, .inr (6, [.ref aS, .ref aH, .ref aL, .ref aP, .ref aR, .ref aT])), (aS, .inr (3, [.ref aC])), (aC, .inl (cyI, 225, .inl vc)), (aH, .inr (0, [.ref aHs, .int vhf, .int vhl])), (aHs, .inl (cyI, 1575, .inl vhs_8)), (aL, .inr (4, [.ref aLs, .int vsf])), (aLs, .inl (cyI, 450, .inl vss))] := hD
  refine lv_aload_n hx hb dX6_restore_11 rfl (lv_at hl 0 rfl) ?_
  refine va_get (D := D) (ci := 6) (v := .ref aH) (C := RX6) (T := TX6) (N := 6) hx hb hts mi_X6_restore_X6 hown hK.1 hP 0 rfl rfl 1 (by decide) (hts _ mm_X6_restore_1) (fun _ h9 => h9) rfl dX6_restore_12 ?_
  refine lv_aload_n hx hb dX6_restore_15 rfl (lv_at hl 0 rfl) ?_
  refine va_get (D := D) (ci := 6) (v := .ref aL) (C := RX6) (T := TX6) (N := 6) hx hb hts mi_X6_restore_X6 hown hK.1 hP 0 rfl rfl 2 (by decide) (hts _ mm_X6_restore_3) (fun _ h9 => h9) rfl dX6_restore_16 ?_
  refine lv_iload_n hx hb dX6_restore_19 rfl (lv_at hl 1 rfl) ?_
  refine lv_aload_n hx hb dX6_restore_20 rfl (lv_at hl 0 rfl) ?_
  refine va_get (D := D) (ci := 6) (v := .ref aS) (C := RX6) (T := TX6) (N := 6) hx hb hts mi_X6_restore_X6 hown hK.1 hP 0 rfl rfl 0 (by decide) (hts _ mm_X6_restore_2) (fun _ h9 => h9) rfl dX6_restore_21 ?_
  obtain ⟨r24, vc_24, hC, hF⟩ := k_c2_ex hF
  refine x_VM (As := [.int x1, .ref aS]) (rest := [.ref aH]) ⟨hx, hb, hml, hown, hts⟩ (c_X4_fetch l D cyI cyZ aS aC aL aLs H.size N x1 vc vsf vss hC) (cwV 2 hts gX6_restore_X4_fetch rfl rfl rfl (by decide +kernel) ⟨Nat.le_of_ble_eq_true rfl, Nat.le_of_ble_eq_true rfl⟩) hK hP hD hS hA [1, 2, 5, 6] rfl rfl rfl 5 rfl rfl rfl rfl hl.1 rfl (Nat.le_of_ble_eq_true rfl) ⟨Nat.zero_le _, Nat.zero_le _⟩ dX6_restore_24 (fun H locs hP hD hS => ?_)
  have hP : va_P D vwCl [(aM, .inr (6, [.ref aS, .ref aH, .ref aL, .ref aP, .ref aR, .ref aT])), (aS, .inr (3, [.ref aC])), (aC, .inl (cyI, 225, .inl vc_24)), (aH, .inr (0, [.ref aHs, .int vhf, .int vhl])), (aHs, .inl (cyI, 1575, .inl vhs_8)), (aL, .inr (4, [.ref aLs, .int vsf])), (aLs, .inl (cyI, 450, .inl vss))] H := hP
  have hD : va_D A [(aM, .inr (6, [.ref aS, .ref aH, .ref aL, .ref aP, .ref aR, .ref aT])), (aS, .inr (3, [.ref aC])), (aC, .inl (cyI, 225, .inl vc_24)), (aH, .inr (0, [.ref aHs, .int vhf, .int vhl])), (aHs, .inl (cyI, 1575, .inl vhs_8)), (aL, .inr (4, [.ref aLs, .int vsf])), (aLs, .inl (cyI, 450, .inl vss))] := hD
  obtain ⟨r27, vhf_27, vhl_27, hC, hF⟩ := k_c3_ex hF
  refine x_VM (As := [.int r24]) (rest := []) ⟨hx, hb, hml, hown, hts⟩ (c_X0_recorded l D cyI cyZ aH aHs H.size N r24 vhf vhl hC) (cwV 1 hts gX6_restore_X0_recorded rfl rfl rfl (by decide +kernel) ⟨Nat.le_of_ble_eq_true rfl, Nat.le_of_ble_eq_true rfl⟩) hK hP hD hS hA [3] rfl rfl rfl 3 rfl rfl rfl rfl hl.1 rfl (Nat.le_of_ble_eq_true rfl) ⟨Nat.zero_le _, Nat.zero_le _⟩ dX6_restore_27 (fun H locs hP hD hS => ?_)
  have hP : va_P D vwCl [(aM, .inr (6, [.ref aS, .ref aH, .ref aL, .ref aP, .ref aR, .ref aT])), (aS, .inr (3, [.ref aC])), (aC, .inl (cyI, 225, .inl vc_24)), (aH, .inr (0, [.ref aHs, .int vhf_27, .int vhl_27])), (aHs, .inl (cyI, 1575, .inl vhs_8)), (aL, .inr (4, [.ref aLs, .int vsf])), (aLs, .inl (cyI, 450, .inl vss))] H := hP
  have hD : va_D A [(aM, .inr (6, [.ref aS, .ref aH, .ref aL, .ref aP, .ref aR, .ref aT])), (aS, .inr (3, [.ref aC])), (aC, .inl (cyI, 225, .inl vc_24)), (aH, .inr (0, [.ref aHs, .int vhf_27, .int vhl_27])), (aHs, .inl (cyI, 1575, .inl vhs_8)), (aL, .inr (4, [.ref aLs, .int vsf])), (aLs, .inl (cyI, 450, .inl vss))] := hD
  obtain ⟨e0, e1, e2, e3, e4⟩ := k_inj5 hF
  have hP9 : va_P D vwCl [(aM, .inr (6, [.ref aS, .ref aH, .ref aL, .ref aP, .ref aR, .ref aT])), (aS, .inr (3, [.ref aC])), (aC, .inl (cyI, 225, .inl vc')), (aH, .inr (0, [.ref aHs, .int vhf', .int vhl'])), (aHs, .inl (cyI, 1575, .inl vhs')), (aL, .inr (4, [.ref aLs, .int vsf])), (aLs, .inl (cyI, 450, .inl vss))] H := by rw [← e1, ← e2, ← e3, ← e4]; exact hP
  exact W.iret hx hb hr (fun t ht hW => ⟨⟨_, (), rfl, e0, x_ret hP9 ht⟩, hS.F ht⟩) hS.2.2 dX6_restore_30
theorem mm_X6_addRollerOfText_1 : Cond.fieldLink RX6 42 "RollerMesh" "reader" "LRollerMesh$Reader;" ∈ wsX6_addRollerOfText := List.mem_of_getElem? (i := 1) rfl
theorem mm_X6_addRollerOfText_2 : Cond.fieldLink RX6 10 "RollerMesh" "shop" "LRollerMesh$Shop;" ∈ wsX6_addRollerOfText := List.mem_of_getElem? (i := 2) rfl
theorem mi_X6_addRollerOfText_X6 : ∀ w ∈ wsX60, w ∈ wsX6_addRollerOfText := fun _ h => List.mem_cons_of_mem _ (List.mem_append_left _ (List.mem_append_left _ (List.mem_append_right _ h)))
set_option maxHeartbeats 4000000 in
set_option maxRecDepth 100000 in
theorem c_X6_addRollerOfText (l : Launch) (D : va_G) (cyI cyZ : ClassId) (aM aS aC aH aL aP aR aRn aT : Nat) (sz : Nat) (N : Nat) (vc : (Nat → Int32)) (vra : Int32) (vrk : Int32) (vrt : Int32) (vrn : (Nat → Int32)) {r0 : Int32} {vc' : (Nat → Int32)} (hF : p_X6_addRollerOfText N vc vra vrk vrt vrn = some (r0, vc')) : Met l yX6_addRollerOfText wsX6_addRollerOfText ({ frames := 4, cells := 0, slots := 0, locals := 88 }) (x_PM D cyI cyZ [.ref aM] [(aM, .inr (6, [.ref aS, .ref aH, .ref aL, .ref aP, .ref aR, .ref aT])), (aS, .inr (3, [.ref aC])), (aC, .inl (cyI, 225, .inl vc)), (aR, .inr (2, [.ref aP, .ref aRn, .int vra, .int vrk, .int vrt])), (aRn, .inl (cyI, 40, .inl vrn))] sz) (x_QM D r0 (va_A [(aM, .inr (6, [.ref aS, .ref aH, .ref aL, .ref aP, .ref aR, .ref aT])), (aS, .inr (3, [.ref aC])), (aC, .inl (cyI, 225, .inl vc)), (aR, .inr (2, [.ref aP, .ref aRn, .int vra, .int vrk, .int vrt])), (aRn, .inl (cyI, 40, .inl vrn))] sz) [(aM, .inr (6, [.ref aS, .ref aH, .ref aL, .ref aP, .ref aR, .ref aT])), (aS, .inr (3, [.ref aC])), (aC, .inl (cyI, 225, .inl vc')), (aR, .inr (2, [.ref aP, .ref aRn, .int vra, .int vrk, .int vrt])), (aRn, .inl (cyI, 40, .inl vrn))]) 0 0 (va_A [(aM, .inr (6, [.ref aS, .ref aH, .ref aL, .ref aP, .ref aR, .ref aT])), (aS, .inr (3, [.ref aC])), (aC, .inl (cyI, 225, .inl vc)), (aR, .inr (2, [.ref aP, .ref aRn, .int vra, .int vrk, .int vrt])), (aRn, .inl (cyI, 40, .inl vrn))] sz) := by
  refine Met.ofW (cc := cX6_addRollerOfText) (maxL := 4) (ret := (some .int)) (by decide) rfl ?_
  intro p e s m args below meth c s₁ B hml hv
  obtain ⟨rfl, hsz, hP, hK, hD0⟩ := hv
  have hx := B.exec
  have hb := B.bytes
  have hr := B.returns
  have hts := atoms_spec (ws := wsX6_addRollerOfText) B.pre
  have hown : s.vm.findClass RX6 = some m.cls := findClass_of_methodNamed B.named
  have hlocks := B.notSynchronized
  subst hsz
  have hD := hD0.self (sz := s.heap.size)
  generalize hAe : va_A [(aM, .inr (6, [.ref aS, .ref aH, .ref aL, .ref aP, .ref aR, .ref aT])), (aS, .inr (3, [.ref aC])), (aC, .inl (cyI, 225, .inl vc)), (aR, .inr (2, [.ref aP, .ref aRn, .int vra, .int vrk, .int vrt])), (aRn, .inl (cyI, 40, .inl vrn))] s.heap.size = A at hD ⊢
  have hA : ∀ q : Nat, s.heap.size ≤ q → A q := fun q h => by rw [← hAe]; exact Or.inr h
  have hS : va_S A s.heap s.heap [] := va_S.rf
  have hP : va_P D vwCl [(aM, .inr (6, [.ref aS, .ref aH, .ref aL, .ref aP, .ref aR, .ref aT])), (aS, .inr (3, [.ref aC])), (aC, .inl (cyI, 225, .inl vc)), (aR, .inr (2, [.ref aP, .ref aRn, .int vra, .int vrk, .int vrt])), (aRn, .inl (cyI, 40, .inl vrn))] s.heap := hP
  have hl := lv_entry ([.ref aM]) (n := 4) (Nat.le_of_ble_eq_true rfl)
  rw [lg_entry_eq]
  generalize (lg_sl ([.ref aM]) ++ List.replicate (4 - (lg_sl ([.ref aM])).length) Slot.unset).toArray = ls at hl ⊢
  have hl : lv_has ls 4 [(0, .ref aM)] := hl
  refine x_gen (fun G hG => ?_)
  have blk_26 : ∀ (n_26 : Nat) (x1 : Int32) (x2 : Int32) (x3 : Int32) (vc : (Nat → Int32)), f_X6_addRollerOfText_26 N n_26 x1 x2 x3 vc vra vrk vrt vrn = some (r0, vc') → ∀ (H : Heap) (locs : List Loc) (ls : Array Slot), va_P D vwCl [(aM, .inr (6, [.ref aS, .ref aH, .ref aL, .ref aP, .ref aR, .ref aT])), (aS, .inr (3, [.ref aC])), (aC, .inl (cyI, 225, .inl vc)), (aR, .inr (2, [.ref aP, .ref aRn, .int vra, .int vrk, .int vrt])), (aRn, .inl (cyI, 40, .inl vrn))] H → va_D A [(aM, .inr (6, [.ref aS, .ref aH, .ref aL, .ref aP, .ref aR, .ref aT])), (aS, .inr (3, [.ref aC])), (aC, .inl (cyI, 225, .inl vc)), (aR, .inr (2, [.ref aP, .ref aRn, .int vra, .int vrk, .int vrt])), (aRn, .inl (cyI, 40, .inl vrn))] → va_S A s.heap H locs → lv_has ls 4 [(0, .ref aM), (1, .int x1), (2, .int x2), (3, .int x3)] → G H locs (F0 m 26 ls []) := by
    intro n_26
    induction n_26 with
    | zero => intro x1 x2 x3 vc hF; exact (k_none hF).elim
    | succ n_26 ih_26 =>
      intro x1 x2 x3 vc hF H locs ls hP hD hS hl
      replace hF : b_X6_addRollerOfText_26 N (f_X6_addRollerOfText_26 N n_26) x1 x2 x3 vc vra vrk vrt vrn = some (r0, vc') := hF
      unfold b_X6_addRollerOfText_26 at hF
      refine (hG _ _ _).2 ?_
      refine lv_iload_n hx hb dX6_addRollerOfText_26 rfl (lv_at hl 3 rfl) ?_
      refine lv_iload_n hx hb dX6_addRollerOfText_27 rfl (lv_at hl 1 rfl) ?_
      refine lv_icmp_ge (tgt := 55) hx hb dX6_addRollerOfText_28 (by decide) (fun hc => ?_) (fun hc => ?_)
      · have hF := k_if_t hF hc
        refine lv_iload_n hx hb dX6_addRollerOfText_55 rfl (lv_at hl 2 rfl) ?_
        obtain ⟨e0, e1⟩ := k_inj2 hF
        have hP9 : va_P D vwCl [(aM, .inr (6, [.ref aS, .ref aH, .ref aL, .ref aP, .ref aR, .ref aT])), (aS, .inr (3, [.ref aC])), (aC, .inl (cyI, 225, .inl vc')), (aR, .inr (2, [.ref aP, .ref aRn, .int vra, .int vrk, .int vrt])), (aRn, .inl (cyI, 40, .inl vrn))] H := by rw [← e1]; exact hP
        exact W.iret hx hb hr (fun t ht hW => ⟨⟨_, (), rfl, e0, x_ret hP9 ht⟩, hS.F ht⟩) hS.2.2 dX6_addRollerOfText_56
      · have hF := k_if_f hF hc
        refine lv_aload_n hx hb dX6_addRollerOfText_31 rfl (lv_at hl 0 rfl) ?_
        refine va_get (D := D) (ci := 6) (v := .ref aS) (C := RX6) (T := TX6) (N := 6) hx hb hts mi_X6_addRollerOfText_X6 hown hK.1 hP 0 rfl rfl 0 (by decide) (hts _ mm_X6_addRollerOfText_2) (fun _ h9 => h9) rfl dX6_addRollerOfText_32 ?_
        refine lv_iload_n hx hb dX6_addRollerOfText_35 rfl (lv_at hl 2 rfl) ?_
        refine lv_iload_n hx hb dX6_addRollerOfText_36 rfl (lv_at hl 3 rfl) ?_
        refine lv_aload_n hx hb dX6_addRollerOfText_37 rfl (lv_at hl 0 rfl) ?_
        refine va_get (D := D) (ci := 6) (v := .ref aR) (C := RX6) (T := TX6) (N := 6) hx hb hts mi_X6_addRollerOfText_X6 hown hK.1 hP 0 rfl rfl 4 (by decide) (hts _ mm_X6_addRollerOfText_1) (fun _ h9 => h9) rfl dX6_addRollerOfText_38 ?_
        refine lv_iload_n hx hb dX6_addRollerOfText_41 rfl (lv_at hl 3 rfl) ?_
        obtain ⟨r42, hC, hF⟩ := k_c1_ex hF
        refine x_VR (As := [.int x3]) (rest := [.int x3, .int x2, .ref aS]) ⟨hx, hb, hml, hown, hts⟩ (c_X2_number l D cyI cyZ aP aR aRn N x3 vra vrk vrt vrn hC) (cwV 1 hts gX6_addRollerOfText_X2_number rfl rfl rfl (by decide +kernel) ⟨Nat.le_of_ble_eq_true rfl, Nat.le_of_ble_eq_true rfl⟩) hK hP hS [3, 4] rfl 3 rfl rfl rfl rfl hl.1 rfl (Nat.le_of_ble_eq_true rfl) ⟨Nat.zero_le _, Nat.zero_le _⟩ dX6_addRollerOfText_42 (fun H locs hP hS => ?_)
        obtain ⟨r45, vc_45, hC, hF⟩ := k_c2_ex hF
        refine x_VM (As := [.int x2, .int x3, .int r42]) (rest := []) ⟨hx, hb, hml, hown, hts⟩ (c_X3_fileTooth l D cyI cyZ aS aC H.size N x2 x3 r42 vc hC) (cwV 3 hts gX6_addRollerOfText_X3_fileTooth rfl rfl rfl (by decide +kernel) ⟨Nat.le_of_ble_eq_true rfl, Nat.le_of_ble_eq_true rfl⟩) hK hP hD hS hA [1, 2] rfl rfl rfl 1 rfl rfl rfl rfl hl.1 rfl (Nat.le_of_ble_eq_true rfl) ⟨Nat.zero_le _, Nat.zero_le _⟩ dX6_addRollerOfText_45 (fun H locs hP hD hS => ?_)
        have hP : va_P D vwCl [(aM, .inr (6, [.ref aS, .ref aH, .ref aL, .ref aP, .ref aR, .ref aT])), (aS, .inr (3, [.ref aC])), (aC, .inl (cyI, 225, .inl vc_45)), (aR, .inr (2, [.ref aP, .ref aRn, .int vra, .int vrk, .int vrt])), (aRn, .inl (cyI, 40, .inl vrn))] H := hP
        have hD : va_D A [(aM, .inr (6, [.ref aS, .ref aH, .ref aL, .ref aP, .ref aR, .ref aT])), (aS, .inr (3, [.ref aC])), (aC, .inl (cyI, 225, .inl vc_45)), (aR, .inr (2, [.ref aP, .ref aRn, .int vra, .int vrk, .int vrt])), (aRn, .inl (cyI, 40, .inl vrn))] := hD
        refine lv_pop hx hb dX6_addRollerOfText_48 rfl ?_
        obtain ⟨x3_49, hn, hF⟩ := k_let_ex hF
        refine lv_iinc (v := x3_49) (lv' := [(3, .int x3_49), (0, .ref aM), (1, .int x1), (2, .int x2)]) hx hb dX6_addRollerOfText_49 hl (k := 3) rfl (by rw [hn]; rfl) (by decide) rfl (fun ls hl => ?_)
        refine lv_goto (tgt := 26) hx hb dX6_addRollerOfText_52 (by decide) ?_
        exact (hG _ _ _).1 (ih_26 x1 x2 x3_49 vc_45 hF _ _ _ hP hD hS (lv_sub hl [1, 2, 3, 0] rfl))
  refine (hG _ _ _).2 ?_
  unfold p_X6_addRollerOfText at hF
  refine lv_aload_n hx hb dX6_addRollerOfText_0 rfl (lv_at hl 0 rfl) ?_
  refine va_get (D := D) (ci := 6) (v := .ref aR) (C := RX6) (T := TX6) (N := 6) hx hb hts mi_X6_addRollerOfText_X6 hown hK.1 hP 0 rfl rfl 4 (by decide) (hts _ mm_X6_addRollerOfText_1) (fun _ h9 => h9) rfl dX6_addRollerOfText_1 ?_
  obtain ⟨r4, hC, hF⟩ := k_c1_ex hF
  refine x_VR (As := []) (rest := []) ⟨hx, hb, hml, hown, hts⟩ (c_X2_numbers l D cyI cyZ aP aR aRn N vra vrk vrt hC) (cwV 0 hts gX6_addRollerOfText_X2_numbers rfl rfl rfl (by decide +kernel) ⟨Nat.le_of_ble_eq_true rfl, Nat.le_of_ble_eq_true rfl⟩) hK hP hS [3] rfl 3 rfl rfl rfl rfl hl.1 rfl (Nat.le_of_ble_eq_true rfl) ⟨Nat.zero_le _, Nat.zero_le _⟩ dX6_addRollerOfText_4 (fun H locs hP hS => ?_)
  refine lv_istore_n (lv' := [(1, .int r4), (0, .ref aM)]) hx hb dX6_addRollerOfText_7 rfl hl (by decide) rfl (fun ls hl => ?_)
  refine lv_aload_n hx hb dX6_addRollerOfText_8 rfl (lv_at hl 1 rfl) ?_
  refine va_get (D := D) (ci := 6) (v := .ref aS) (C := RX6) (T := TX6) (N := 6) hx hb hts mi_X6_addRollerOfText_X6 hown hK.1 hP 0 rfl rfl 0 (by decide) (hts _ mm_X6_addRollerOfText_2) (fun _ h9 => h9) rfl dX6_addRollerOfText_9 ?_
  refine lv_iload_n hx hb dX6_addRollerOfText_12 rfl (lv_at hl 0 rfl) ?_
  refine lv_iconst (v := (0 : Int32)) hx hb dX6_addRollerOfText_13 (by decide) ?_
  obtain ⟨r14, vc_14, hC, hF⟩ := k_c2_ex hF
  refine x_VM (As := [.int r4, .int (0 : Int32)]) (rest := []) ⟨hx, hb, hml, hown, hts⟩ (c_X3_addRoller l D cyI cyZ aS aC H.size N r4 (0 : Int32) vc hC) (cwV 2 hts gX6_addRollerOfText_X3_addRoller rfl rfl rfl (by decide +kernel) ⟨Nat.le_of_ble_eq_true rfl, Nat.le_of_ble_eq_true rfl⟩) hK hP hD hS hA [1, 2] rfl rfl rfl 1 rfl rfl rfl rfl hl.1 rfl (Nat.le_of_ble_eq_true rfl) ⟨Nat.zero_le _, Nat.zero_le _⟩ dX6_addRollerOfText_14 (fun H locs hP hD hS => ?_)
  have hP : va_P D vwCl [(aM, .inr (6, [.ref aS, .ref aH, .ref aL, .ref aP, .ref aR, .ref aT])), (aS, .inr (3, [.ref aC])), (aC, .inl (cyI, 225, .inl vc_14)), (aR, .inr (2, [.ref aP, .ref aRn, .int vra, .int vrk, .int vrt])), (aRn, .inl (cyI, 40, .inl vrn))] H := hP
  have hD : va_D A [(aM, .inr (6, [.ref aS, .ref aH, .ref aL, .ref aP, .ref aR, .ref aT])), (aS, .inr (3, [.ref aC])), (aC, .inl (cyI, 225, .inl vc_14)), (aR, .inr (2, [.ref aP, .ref aRn, .int vra, .int vrk, .int vrt])), (aRn, .inl (cyI, 40, .inl vrn))] := hD
  refine lv_istore_n (lv' := [(2, .int r14), (1, .int r4), (0, .ref aM)]) hx hb dX6_addRollerOfText_17 rfl hl (by decide) rfl (fun ls hl => ?_)
  refine lv_iload_n hx hb dX6_addRollerOfText_18 rfl (lv_at hl 0 rfl) ?_
  refine lv_if_ge (tgt := 24) hx hb dX6_addRollerOfText_19 (by decide) (fun hc => ?_) (fun hc => ?_)
  · have hF := k_if_t hF hc
    refine lv_iconst (v := (0 : Int32)) hx hb dX6_addRollerOfText_24 (by decide) ?_
    refine lv_istore_n (lv' := [(3, .int (0 : Int32)), (2, .int r14), (1, .int r4), (0, .ref aM)]) hx hb dX6_addRollerOfText_25 rfl hl (by decide) rfl (fun ls hl => ?_)
    exact (hG _ _ _).1 (blk_26 N r4 r14 (0 : Int32) vc_14 hF _ _ _ hP hD hS (lv_sub hl [3, 2, 1, 0] rfl))
  · have hF := k_if_f hF hc
    refine lv_iload_n hx hb dX6_addRollerOfText_22 rfl (lv_at hl 0 rfl) ?_
    obtain ⟨e0, e1⟩ := k_inj2 hF
    have hP9 : va_P D vwCl [(aM, .inr (6, [.ref aS, .ref aH, .ref aL, .ref aP, .ref aR, .ref aT])), (aS, .inr (3, [.ref aC])), (aC, .inl (cyI, 225, .inl vc')), (aR, .inr (2, [.ref aP, .ref aRn, .int vra, .int vrk, .int vrt])), (aRn, .inl (cyI, 40, .inl vrn))] H := by rw [← e1]; exact hP
    exact W.iret hx hb hr (fun t ht hW => ⟨⟨_, (), rfl, e0, x_ret hP9 ht⟩, hS.F ht⟩) hS.2.2 dX6_addRollerOfText_23
theorem mm_X6_obey_1 : Cond.fieldLink RX6 42 "RollerMesh" "reader" "LRollerMesh$Reader;" ∈ wsX6_obey := List.mem_of_getElem? (i := 1) rfl
theorem mm_X6_obey_2 : Cond.fieldLink RX6 10 "RollerMesh" "shop" "LRollerMesh$Shop;" ∈ wsX6_obey := List.mem_of_getElem? (i := 2) rfl
theorem mi_X6_obey_X6 : ∀ w ∈ wsX60, w ∈ wsX6_obey := fun _ h => List.mem_cons_of_mem _ (List.mem_append_left _ (List.mem_append_left _ (List.mem_append_left _ (List.mem_append_right _ h))))
set_option maxHeartbeats 4000000 in
set_option maxRecDepth 100000 in
theorem c_X6_obey (l : Launch) (D : va_G) (cyI cyZ : ClassId) (aM aS aC aH aL aP aR aRn aT aTp : Nat) (sz : Nat) (N : Nat) (vc : (Nat → Int32)) (vra : Int32) (vrk : Int32) (vrt : Int32) (vrn : (Nat → Int32)) (vtl : Int32) (vta : Int32) (vtt : Int32) (vtp : (Nat → Int32)) {r0 : Int32} {vc' : (Nat → Int32)} {vtl' : Int32} {vta' : Int32} {vtt' : Int32} {vtp' : (Nat → Int32)} (hF : p_X6_obey N vc vra vrk vrt vrn vtl vta vtt vtp = some (r0, vc', vtl', vta', vtt', vtp')) : Met l yX6_obey wsX6_obey ({ frames := 5, cells := 0, slots := 0, locals := 120 }) (x_PM D cyI cyZ [.ref aM] [(aM, .inr (6, [.ref aS, .ref aH, .ref aL, .ref aP, .ref aR, .ref aT])), (aS, .inr (3, [.ref aC])), (aC, .inl (cyI, 225, .inl vc)), (aR, .inr (2, [.ref aP, .ref aRn, .int vra, .int vrk, .int vrt])), (aRn, .inl (cyI, 40, .inl vrn)), (aT, .inr (5, [.ref aTp, .int vtl, .int vta, .int vtt])), (aTp, .inl (cyI, 552, .inl vtp))] sz) (x_QM D r0 (va_A [(aM, .inr (6, [.ref aS, .ref aH, .ref aL, .ref aP, .ref aR, .ref aT])), (aS, .inr (3, [.ref aC])), (aC, .inl (cyI, 225, .inl vc)), (aR, .inr (2, [.ref aP, .ref aRn, .int vra, .int vrk, .int vrt])), (aRn, .inl (cyI, 40, .inl vrn)), (aT, .inr (5, [.ref aTp, .int vtl, .int vta, .int vtt])), (aTp, .inl (cyI, 552, .inl vtp))] sz) [(aM, .inr (6, [.ref aS, .ref aH, .ref aL, .ref aP, .ref aR, .ref aT])), (aS, .inr (3, [.ref aC])), (aC, .inl (cyI, 225, .inl vc')), (aR, .inr (2, [.ref aP, .ref aRn, .int vra, .int vrk, .int vrt])), (aRn, .inl (cyI, 40, .inl vrn)), (aT, .inr (5, [.ref aTp, .int vtl', .int vta', .int vtt'])), (aTp, .inl (cyI, 552, .inl vtp'))]) 0 0 (va_A [(aM, .inr (6, [.ref aS, .ref aH, .ref aL, .ref aP, .ref aR, .ref aT])), (aS, .inr (3, [.ref aC])), (aC, .inl (cyI, 225, .inl vc)), (aR, .inr (2, [.ref aP, .ref aRn, .int vra, .int vrk, .int vrt])), (aRn, .inl (cyI, 40, .inl vrn)), (aT, .inr (5, [.ref aTp, .int vtl, .int vta, .int vtt])), (aTp, .inl (cyI, 552, .inl vtp))] sz) := by
  refine Met.ofW (cc := cX6_obey) (maxL := 1) (ret := (some .int)) (by decide) rfl ?_
  intro p e s m args below meth c s₁ B hml hv
  obtain ⟨rfl, hsz, hP, hK, hD0⟩ := hv
  have hx := B.exec
  have hb := B.bytes
  have hr := B.returns
  have hts := atoms_spec (ws := wsX6_obey) B.pre
  have hown : s.vm.findClass RX6 = some m.cls := findClass_of_methodNamed B.named
  have hlocks := B.notSynchronized
  subst hsz
  have hD := hD0.self (sz := s.heap.size)
  generalize hAe : va_A [(aM, .inr (6, [.ref aS, .ref aH, .ref aL, .ref aP, .ref aR, .ref aT])), (aS, .inr (3, [.ref aC])), (aC, .inl (cyI, 225, .inl vc)), (aR, .inr (2, [.ref aP, .ref aRn, .int vra, .int vrk, .int vrt])), (aRn, .inl (cyI, 40, .inl vrn)), (aT, .inr (5, [.ref aTp, .int vtl, .int vta, .int vtt])), (aTp, .inl (cyI, 552, .inl vtp))] s.heap.size = A at hD ⊢
  have hA : ∀ q : Nat, s.heap.size ≤ q → A q := fun q h => by rw [← hAe]; exact Or.inr h
  have hS : va_S A s.heap s.heap [] := va_S.rf
  have hP : va_P D vwCl [(aM, .inr (6, [.ref aS, .ref aH, .ref aL, .ref aP, .ref aR, .ref aT])), (aS, .inr (3, [.ref aC])), (aC, .inl (cyI, 225, .inl vc)), (aR, .inr (2, [.ref aP, .ref aRn, .int vra, .int vrk, .int vrt])), (aRn, .inl (cyI, 40, .inl vrn)), (aT, .inr (5, [.ref aTp, .int vtl, .int vta, .int vtt])), (aTp, .inl (cyI, 552, .inl vtp))] s.heap := hP
  have hl := lv_entry ([.ref aM]) (n := 1) (Nat.le_of_ble_eq_true rfl)
  rw [lg_entry_eq]
  generalize (lg_sl ([.ref aM]) ++ List.replicate (1 - (lg_sl ([.ref aM])).length) Slot.unset).toArray = ls at hl ⊢
  have hl : lv_has ls 1 [(0, .ref aM)] := hl
  unfold p_X6_obey at hF
  refine lv_aload_n hx hb dX6_obey_0 rfl (lv_at hl 0 rfl) ?_
  refine va_get (D := D) (ci := 6) (v := .ref aR) (C := RX6) (T := TX6) (N := 6) hx hb hts mi_X6_obey_X6 hown hK.1 hP 0 rfl rfl 4 (by decide) (hts _ mm_X6_obey_1) (fun _ h9 => h9) rfl dX6_obey_1 ?_
  obtain ⟨r4, hC, hF⟩ := k_c1_ex hF
  refine x_VR (As := []) (rest := []) ⟨hx, hb, hml, hown, hts⟩ (c_X2_kind l D cyI cyZ aP aR aRn N vra vrk vrt hC) (cwV 0 hts gX6_obey_X2_kind rfl rfl rfl (by decide +kernel) ⟨Nat.le_of_ble_eq_true rfl, Nat.le_of_ble_eq_true rfl⟩) hK hP hS [3] rfl 3 rfl rfl rfl rfl hl.1 rfl (Nat.le_of_ble_eq_true rfl) ⟨Nat.zero_le _, Nat.zero_le _⟩ dX6_obey_4 (fun H locs hP hS => ?_)
  by_cases h43 : r4 = (43 : Int32)
  · have hF := k_if_t hF h43
    refine lv_lookup (tgt := 48) (off := 41) hx hb dX6_obey_7 (by decide) (by rw [h43]; decide) (by decide) ?_
    refine lv_aload_n hx hb dX6_obey_48 rfl (lv_at hl 0 rfl) ?_
    obtain ⟨r49, vc_49, hC, hF⟩ := k_c2_ex hF
    refine x_VM (As := []) (rest := []) ⟨hx, hb, hml, hown, hts⟩ (c_X6_addRollerOfText l D cyI cyZ aM aS aC aH aL aP aR aRn aT H.size N vc vra vrk vrt vrn hC) (cwV 0 hts gX6_obey_X6_addRollerOfText rfl rfl rfl (by decide +kernel) ⟨Nat.le_of_ble_eq_true rfl, Nat.le_of_ble_eq_true rfl⟩) hK hP hD hS hA [0, 1, 2, 3, 4] rfl rfl rfl 0 rfl rfl rfl rfl hl.1 rfl (Nat.le_of_ble_eq_true rfl) ⟨Nat.zero_le _, Nat.zero_le _⟩ dX6_obey_49 (fun H locs hP hD hS => ?_)
    have hP : va_P D vwCl [(aM, .inr (6, [.ref aS, .ref aH, .ref aL, .ref aP, .ref aR, .ref aT])), (aS, .inr (3, [.ref aC])), (aC, .inl (cyI, 225, .inl vc_49)), (aR, .inr (2, [.ref aP, .ref aRn, .int vra, .int vrk, .int vrt])), (aRn, .inl (cyI, 40, .inl vrn)), (aT, .inr (5, [.ref aTp, .int vtl, .int vta, .int vtt])), (aTp, .inl (cyI, 552, .inl vtp))] H := hP
    have hD : va_D A [(aM, .inr (6, [.ref aS, .ref aH, .ref aL, .ref aP, .ref aR, .ref aT])), (aS, .inr (3, [.ref aC])), (aC, .inl (cyI, 225, .inl vc_49)), (aR, .inr (2, [.ref aP, .ref aRn, .int vra, .int vrk, .int vrt])), (aRn, .inl (cyI, 40, .inl vrn)), (aT, .inr (5, [.ref aTp, .int vtl, .int vta, .int vtt])), (aTp, .inl (cyI, 552, .inl vtp))] := hD
    obtain ⟨e0, e1, e2, e3, e4, e5⟩ := k_inj6 hF
    have hP9 : va_P D vwCl [(aM, .inr (6, [.ref aS, .ref aH, .ref aL, .ref aP, .ref aR, .ref aT])), (aS, .inr (3, [.ref aC])), (aC, .inl (cyI, 225, .inl vc')), (aR, .inr (2, [.ref aP, .ref aRn, .int vra, .int vrk, .int vrt])), (aRn, .inl (cyI, 40, .inl vrn)), (aT, .inr (5, [.ref aTp, .int vtl', .int vta', .int vtt'])), (aTp, .inl (cyI, 552, .inl vtp'))] H := by rw [← e1, ← e2, ← e3, ← e4, ← e5]; exact hP
    exact W.iret hx hb hr (fun t ht hW => ⟨⟨_, (), rfl, e0, x_ret hP9 ht⟩, hS.F ht⟩) hS.2.2 dX6_obey_52
  · have hF := k_if_f hF h43
    by_cases h102 : r4 = (102 : Int32)
    · have hF := k_if_t hF h102
      refine lv_lookup (tgt := 122) (off := 115) hx hb dX6_obey_7 (by decide) (by rw [h102]; decide) (by decide) ?_
      refine lv_aload_n hx hb dX6_obey_122 rfl (lv_at hl 0 rfl) ?_
      refine va_get (D := D) (ci := 6) (v := .ref aS) (C := RX6) (T := TX6) (N := 6) hx hb hts mi_X6_obey_X6 hown hK.1 hP 0 rfl rfl 0 (by decide) (hts _ mm_X6_obey_2) (fun _ h9 => h9) rfl dX6_obey_123 ?_
      refine lv_aload_n hx hb dX6_obey_126 rfl (lv_at hl 0 rfl) ?_
      refine va_get (D := D) (ci := 6) (v := .ref aR) (C := RX6) (T := TX6) (N := 6) hx hb hts mi_X6_obey_X6 hown hK.1 hP 0 rfl rfl 4 (by decide) (hts _ mm_X6_obey_1) (fun _ h9 => h9) rfl dX6_obey_127 ?_
      refine lv_iconst (v := (0 : Int32)) hx hb dX6_obey_130 (by decide) ?_
      obtain ⟨r131, hC, hF⟩ := k_c1_ex hF
      refine x_VR (As := [.int (0 : Int32)]) (rest := [.ref aS]) ⟨hx, hb, hml, hown, hts⟩ (c_X2_number l D cyI cyZ aP aR aRn N (0 : Int32) vra vrk vrt vrn hC) (cwV 1 hts gX6_obey_X2_number rfl rfl rfl (by decide +kernel) ⟨Nat.le_of_ble_eq_true rfl, Nat.le_of_ble_eq_true rfl⟩) hK hP hS [3, 4] rfl 3 rfl rfl rfl rfl hl.1 rfl (Nat.le_of_ble_eq_true rfl) ⟨Nat.zero_le _, Nat.zero_le _⟩ dX6_obey_131 (fun H locs hP hS => ?_)
      refine lv_aload_n hx hb dX6_obey_134 rfl (lv_at hl 0 rfl) ?_
      refine va_get (D := D) (ci := 6) (v := .ref aR) (C := RX6) (T := TX6) (N := 6) hx hb hts mi_X6_obey_X6 hown hK.1 hP 0 rfl rfl 4 (by decide) (hts _ mm_X6_obey_1) (fun _ h9 => h9) rfl dX6_obey_135 ?_
      refine lv_iconst (v := (1 : Int32)) hx hb dX6_obey_138 (by decide) ?_
      obtain ⟨r139, hC, hF⟩ := k_c1_ex hF
      refine x_VR (As := [.int (1 : Int32)]) (rest := [.int r131, .ref aS]) ⟨hx, hb, hml, hown, hts⟩ (c_X2_number l D cyI cyZ aP aR aRn N (1 : Int32) vra vrk vrt vrn hC) (cwV 1 hts gX6_obey_X2_number rfl rfl rfl (by decide +kernel) ⟨Nat.le_of_ble_eq_true rfl, Nat.le_of_ble_eq_true rfl⟩) hK hP hS [3, 4] rfl 3 rfl rfl rfl rfl hl.1 rfl (Nat.le_of_ble_eq_true rfl) ⟨Nat.zero_le _, Nat.zero_le _⟩ dX6_obey_139 (fun H locs hP hS => ?_)
      refine lv_aload_n hx hb dX6_obey_142 rfl (lv_at hl 0 rfl) ?_
      refine va_get (D := D) (ci := 6) (v := .ref aR) (C := RX6) (T := TX6) (N := 6) hx hb hts mi_X6_obey_X6 hown hK.1 hP 0 rfl rfl 4 (by decide) (hts _ mm_X6_obey_1) (fun _ h9 => h9) rfl dX6_obey_143 ?_
      refine lv_iconst (v := (2 : Int32)) hx hb dX6_obey_146 (by decide) ?_
      obtain ⟨r147, hC, hF⟩ := k_c1_ex hF
      refine x_VR (As := [.int (2 : Int32)]) (rest := [.int r139, .int r131, .ref aS]) ⟨hx, hb, hml, hown, hts⟩ (c_X2_number l D cyI cyZ aP aR aRn N (2 : Int32) vra vrk vrt vrn hC) (cwV 1 hts gX6_obey_X2_number rfl rfl rfl (by decide +kernel) ⟨Nat.le_of_ble_eq_true rfl, Nat.le_of_ble_eq_true rfl⟩) hK hP hS [3, 4] rfl 3 rfl rfl rfl rfl hl.1 rfl (Nat.le_of_ble_eq_true rfl) ⟨Nat.zero_le _, Nat.zero_le _⟩ dX6_obey_147 (fun H locs hP hS => ?_)
      obtain ⟨r150, vc_150, hC, hF⟩ := k_c2_ex hF
      refine x_VM (As := [.int r131, .int r139, .int r147]) (rest := []) ⟨hx, hb, hml, hown, hts⟩ (c_X3_fileTooth l D cyI cyZ aS aC H.size N r131 r139 r147 vc hC) (cwV 3 hts gX6_obey_X3_fileTooth rfl rfl rfl (by decide +kernel) ⟨Nat.le_of_ble_eq_true rfl, Nat.le_of_ble_eq_true rfl⟩) hK hP hD hS hA [1, 2] rfl rfl rfl 1 rfl rfl rfl rfl hl.1 rfl (Nat.le_of_ble_eq_true rfl) ⟨Nat.zero_le _, Nat.zero_le _⟩ dX6_obey_150 (fun H locs hP hD hS => ?_)
      have hP : va_P D vwCl [(aM, .inr (6, [.ref aS, .ref aH, .ref aL, .ref aP, .ref aR, .ref aT])), (aS, .inr (3, [.ref aC])), (aC, .inl (cyI, 225, .inl vc_150)), (aR, .inr (2, [.ref aP, .ref aRn, .int vra, .int vrk, .int vrt])), (aRn, .inl (cyI, 40, .inl vrn)), (aT, .inr (5, [.ref aTp, .int vtl, .int vta, .int vtt])), (aTp, .inl (cyI, 552, .inl vtp))] H := hP
      have hD : va_D A [(aM, .inr (6, [.ref aS, .ref aH, .ref aL, .ref aP, .ref aR, .ref aT])), (aS, .inr (3, [.ref aC])), (aC, .inl (cyI, 225, .inl vc_150)), (aR, .inr (2, [.ref aP, .ref aRn, .int vra, .int vrk, .int vrt])), (aRn, .inl (cyI, 40, .inl vrn)), (aT, .inr (5, [.ref aTp, .int vtl, .int vta, .int vtt])), (aTp, .inl (cyI, 552, .inl vtp))] := hD
      obtain ⟨e0, e1, e2, e3, e4, e5⟩ := k_inj6 hF
      have hP9 : va_P D vwCl [(aM, .inr (6, [.ref aS, .ref aH, .ref aL, .ref aP, .ref aR, .ref aT])), (aS, .inr (3, [.ref aC])), (aC, .inl (cyI, 225, .inl vc')), (aR, .inr (2, [.ref aP, .ref aRn, .int vra, .int vrk, .int vrt])), (aRn, .inl (cyI, 40, .inl vrn)), (aT, .inr (5, [.ref aTp, .int vtl', .int vta', .int vtt'])), (aTp, .inl (cyI, 552, .inl vtp'))] H := by rw [← e1, ← e2, ← e3, ← e4, ← e5]; exact hP
      exact W.iret hx hb hr (fun t ht hW => ⟨⟨_, (), rfl, e0, x_ret hP9 ht⟩, hS.F ht⟩) hS.2.2 dX6_obey_153
    · have hF := k_if_f hF h102
      by_cases h109 : r4 = (109 : Int32)
      · have hF := k_if_t hF h109
        refine lv_lookup (tgt := 106) (off := 99) hx hb dX6_obey_7 (by decide) (by rw [h109]; decide) (by decide) ?_
        refine lv_aload_n hx hb dX6_obey_106 rfl (lv_at hl 0 rfl) ?_
        refine va_get (D := D) (ci := 6) (v := .ref aS) (C := RX6) (T := TX6) (N := 6) hx hb hts mi_X6_obey_X6 hown hK.1 hP 0 rfl rfl 0 (by decide) (hts _ mm_X6_obey_2) (fun _ h9 => h9) rfl dX6_obey_107 ?_
        refine lv_aload_n hx hb dX6_obey_110 rfl (lv_at hl 0 rfl) ?_
        refine va_get (D := D) (ci := 6) (v := .ref aR) (C := RX6) (T := TX6) (N := 6) hx hb hts mi_X6_obey_X6 hown hK.1 hP 0 rfl rfl 4 (by decide) (hts _ mm_X6_obey_1) (fun _ h9 => h9) rfl dX6_obey_111 ?_
        refine lv_iconst (v := (0 : Int32)) hx hb dX6_obey_114 (by decide) ?_
        obtain ⟨r115, hC, hF⟩ := k_c1_ex hF
        refine x_VR (As := [.int (0 : Int32)]) (rest := [.ref aS]) ⟨hx, hb, hml, hown, hts⟩ (c_X2_number l D cyI cyZ aP aR aRn N (0 : Int32) vra vrk vrt vrn hC) (cwV 1 hts gX6_obey_X2_number rfl rfl rfl (by decide +kernel) ⟨Nat.le_of_ble_eq_true rfl, Nat.le_of_ble_eq_true rfl⟩) hK hP hS [3, 4] rfl 3 rfl rfl rfl rfl hl.1 rfl (Nat.le_of_ble_eq_true rfl) ⟨Nat.zero_le _, Nat.zero_le _⟩ dX6_obey_115 (fun H locs hP hS => ?_)
        obtain ⟨r118, vc_118, hC, hF⟩ := k_c2_ex hF
        refine x_VM (As := [.int r115]) (rest := []) ⟨hx, hb, hml, hown, hts⟩ (c_X3_meltRoller l D cyI cyZ aS aC H.size N r115 vc hC) (cwV 1 hts gX6_obey_X3_meltRoller rfl rfl rfl (by decide +kernel) ⟨Nat.le_of_ble_eq_true rfl, Nat.le_of_ble_eq_true rfl⟩) hK hP hD hS hA [1, 2] rfl rfl rfl 1 rfl rfl rfl rfl hl.1 rfl (Nat.le_of_ble_eq_true rfl) ⟨Nat.zero_le _, Nat.zero_le _⟩ dX6_obey_118 (fun H locs hP hD hS => ?_)
        have hP : va_P D vwCl [(aM, .inr (6, [.ref aS, .ref aH, .ref aL, .ref aP, .ref aR, .ref aT])), (aS, .inr (3, [.ref aC])), (aC, .inl (cyI, 225, .inl vc_118)), (aR, .inr (2, [.ref aP, .ref aRn, .int vra, .int vrk, .int vrt])), (aRn, .inl (cyI, 40, .inl vrn)), (aT, .inr (5, [.ref aTp, .int vtl, .int vta, .int vtt])), (aTp, .inl (cyI, 552, .inl vtp))] H := hP
        have hD : va_D A [(aM, .inr (6, [.ref aS, .ref aH, .ref aL, .ref aP, .ref aR, .ref aT])), (aS, .inr (3, [.ref aC])), (aC, .inl (cyI, 225, .inl vc_118)), (aR, .inr (2, [.ref aP, .ref aRn, .int vra, .int vrk, .int vrt])), (aRn, .inl (cyI, 40, .inl vrn)), (aT, .inr (5, [.ref aTp, .int vtl, .int vta, .int vtt])), (aTp, .inl (cyI, 552, .inl vtp))] := hD
        obtain ⟨e0, e1, e2, e3, e4, e5⟩ := k_inj6 hF
        have hP9 : va_P D vwCl [(aM, .inr (6, [.ref aS, .ref aH, .ref aL, .ref aP, .ref aR, .ref aT])), (aS, .inr (3, [.ref aC])), (aC, .inl (cyI, 225, .inl vc')), (aR, .inr (2, [.ref aP, .ref aRn, .int vra, .int vrk, .int vrt])), (aRn, .inl (cyI, 40, .inl vrn)), (aT, .inr (5, [.ref aTp, .int vtl', .int vta', .int vtt'])), (aTp, .inl (cyI, 552, .inl vtp'))] H := by rw [← e1, ← e2, ← e3, ← e4, ← e5]; exact hP
        exact W.iret hx hb hr (fun t ht hW => ⟨⟨_, (), rfl, e0, x_ret hP9 ht⟩, hS.F ht⟩) hS.2.2 dX6_obey_121
      · have hF := k_if_f hF h109
        by_cases h114 : r4 = (114 : Int32)
        · have hF := k_if_t hF h114
          refine lv_lookup (tgt := 53) (off := 46) hx hb dX6_obey_7 (by decide) (by rw [h114]; decide) (by decide) ?_
          refine lv_aload_n hx hb dX6_obey_53 rfl (lv_at hl 0 rfl) ?_
          refine lv_aload_n hx hb dX6_obey_54 rfl (lv_at hl 0 rfl) ?_
          refine va_get (D := D) (ci := 6) (v := .ref aR) (C := RX6) (T := TX6) (N := 6) hx hb hts mi_X6_obey_X6 hown hK.1 hP 0 rfl rfl 4 (by decide) (hts _ mm_X6_obey_1) (fun _ h9 => h9) rfl dX6_obey_55 ?_
          refine lv_iconst (v := (0 : Int32)) hx hb dX6_obey_58 (by decide) ?_
          obtain ⟨r59, hC, hF⟩ := k_c1_ex hF
          refine x_VR (As := [.int (0 : Int32)]) (rest := [.ref aM]) ⟨hx, hb, hml, hown, hts⟩ (c_X2_number l D cyI cyZ aP aR aRn N (0 : Int32) vra vrk vrt vrn hC) (cwV 1 hts gX6_obey_X2_number rfl rfl rfl (by decide +kernel) ⟨Nat.le_of_ble_eq_true rfl, Nat.le_of_ble_eq_true rfl⟩) hK hP hS [3, 4] rfl 3 rfl rfl rfl rfl hl.1 rfl (Nat.le_of_ble_eq_true rfl) ⟨Nat.zero_le _, Nat.zero_le _⟩ dX6_obey_59 (fun H locs hP hS => ?_)
          refine lv_aload_n hx hb dX6_obey_62 rfl (lv_at hl 0 rfl) ?_
          refine va_get (D := D) (ci := 6) (v := .ref aR) (C := RX6) (T := TX6) (N := 6) hx hb hts mi_X6_obey_X6 hown hK.1 hP 0 rfl rfl 4 (by decide) (hts _ mm_X6_obey_1) (fun _ h9 => h9) rfl dX6_obey_63 ?_
          refine lv_iconst (v := (1 : Int32)) hx hb dX6_obey_66 (by decide) ?_
          obtain ⟨r67, hC, hF⟩ := k_c1_ex hF
          refine x_VR (As := [.int (1 : Int32)]) (rest := [.int r59, .ref aM]) ⟨hx, hb, hml, hown, hts⟩ (c_X2_number l D cyI cyZ aP aR aRn N (1 : Int32) vra vrk vrt vrn hC) (cwV 1 hts gX6_obey_X2_number rfl rfl rfl (by decide +kernel) ⟨Nat.le_of_ble_eq_true rfl, Nat.le_of_ble_eq_true rfl⟩) hK hP hS [3, 4] rfl 3 rfl rfl rfl rfl hl.1 rfl (Nat.le_of_ble_eq_true rfl) ⟨Nat.zero_le _, Nat.zero_le _⟩ dX6_obey_67 (fun H locs hP hS => ?_)
          refine lv_aload_n hx hb dX6_obey_70 rfl (lv_at hl 0 rfl) ?_
          refine va_get (D := D) (ci := 6) (v := .ref aR) (C := RX6) (T := TX6) (N := 6) hx hb hts mi_X6_obey_X6 hown hK.1 hP 0 rfl rfl 4 (by decide) (hts _ mm_X6_obey_1) (fun _ h9 => h9) rfl dX6_obey_71 ?_
          refine lv_iconst (v := (2 : Int32)) hx hb dX6_obey_74 (by decide) ?_
          obtain ⟨r75, hC, hF⟩ := k_c1_ex hF
          refine x_VR (As := [.int (2 : Int32)]) (rest := [.int r67, .int r59, .ref aM]) ⟨hx, hb, hml, hown, hts⟩ (c_X2_number l D cyI cyZ aP aR aRn N (2 : Int32) vra vrk vrt vrn hC) (cwV 1 hts gX6_obey_X2_number rfl rfl rfl (by decide +kernel) ⟨Nat.le_of_ble_eq_true rfl, Nat.le_of_ble_eq_true rfl⟩) hK hP hS [3, 4] rfl 3 rfl rfl rfl rfl hl.1 rfl (Nat.le_of_ble_eq_true rfl) ⟨Nat.zero_le _, Nat.zero_le _⟩ dX6_obey_75 (fun H locs hP hS => ?_)
          refine lv_aload_n hx hb dX6_obey_78 rfl (lv_at hl 0 rfl) ?_
          refine va_get (D := D) (ci := 6) (v := .ref aR) (C := RX6) (T := TX6) (N := 6) hx hb hts mi_X6_obey_X6 hown hK.1 hP 0 rfl rfl 4 (by decide) (hts _ mm_X6_obey_1) (fun _ h9 => h9) rfl dX6_obey_79 ?_
          refine lv_iconst (v := (3 : Int32)) hx hb dX6_obey_82 (by decide) ?_
          obtain ⟨r83, hC, hF⟩ := k_c1_ex hF
          refine x_VR (As := [.int (3 : Int32)]) (rest := [.int r75, .int r67, .int r59, .ref aM]) ⟨hx, hb, hml, hown, hts⟩ (c_X2_number l D cyI cyZ aP aR aRn N (3 : Int32) vra vrk vrt vrn hC) (cwV 1 hts gX6_obey_X2_number rfl rfl rfl (by decide +kernel) ⟨Nat.le_of_ble_eq_true rfl, Nat.le_of_ble_eq_true rfl⟩) hK hP hS [3, 4] rfl 3 rfl rfl rfl rfl hl.1 rfl (Nat.le_of_ble_eq_true rfl) ⟨Nat.zero_le _, Nat.zero_le _⟩ dX6_obey_83 (fun H locs hP hS => ?_)
          refine lv_aload_n hx hb dX6_obey_86 rfl (lv_at hl 0 rfl) ?_
          refine va_get (D := D) (ci := 6) (v := .ref aR) (C := RX6) (T := TX6) (N := 6) hx hb hts mi_X6_obey_X6 hown hK.1 hP 0 rfl rfl 4 (by decide) (hts _ mm_X6_obey_1) (fun _ h9 => h9) rfl dX6_obey_87 ?_
          refine lv_iconst (v := (4 : Int32)) hx hb dX6_obey_90 (by decide) ?_
          obtain ⟨r91, hC, hF⟩ := k_c1_ex hF
          refine x_VR (As := [.int (4 : Int32)]) (rest := [.int r83, .int r75, .int r67, .int r59, .ref aM]) ⟨hx, hb, hml, hown, hts⟩ (c_X2_number l D cyI cyZ aP aR aRn N (4 : Int32) vra vrk vrt vrn hC) (cwV 1 hts gX6_obey_X2_number rfl rfl rfl (by decide +kernel) ⟨Nat.le_of_ble_eq_true rfl, Nat.le_of_ble_eq_true rfl⟩) hK hP hS [3, 4] rfl 3 rfl rfl rfl rfl hl.1 rfl (Nat.le_of_ble_eq_true rfl) ⟨Nat.zero_le _, Nat.zero_le _⟩ dX6_obey_91 (fun H locs hP hS => ?_)
          refine lv_aload_n hx hb dX6_obey_94 rfl (lv_at hl 0 rfl) ?_
          refine va_get (D := D) (ci := 6) (v := .ref aR) (C := RX6) (T := TX6) (N := 6) hx hb hts mi_X6_obey_X6 hown hK.1 hP 0 rfl rfl 4 (by decide) (hts _ mm_X6_obey_1) (fun _ h9 => h9) rfl dX6_obey_95 ?_
          refine lv_iconst (v := (5 : Int32)) hx hb dX6_obey_98 (by decide) ?_
          obtain ⟨r99, hC, hF⟩ := k_c1_ex hF
          refine x_VR (As := [.int (5 : Int32)]) (rest := [.int r91, .int r83, .int r75, .int r67, .int r59, .ref aM]) ⟨hx, hb, hml, hown, hts⟩ (c_X2_number l D cyI cyZ aP aR aRn N (5 : Int32) vra vrk vrt vrn hC) (cwV 1 hts gX6_obey_X2_number rfl rfl rfl (by decide +kernel) ⟨Nat.le_of_ble_eq_true rfl, Nat.le_of_ble_eq_true rfl⟩) hK hP hS [3, 4] rfl 3 rfl rfl rfl rfl hl.1 rfl (Nat.le_of_ble_eq_true rfl) ⟨Nat.zero_le _, Nat.zero_le _⟩ dX6_obey_99 (fun H locs hP hS => ?_)
          obtain ⟨r102, vc_102, vtl_102, vta_102, vtt_102, vtp_102, hC, hF⟩ := k_c6_ex hF
          refine x_VM (As := [.int r59, .int r67, .int r75, .int r83, .int r91, .int r99]) (rest := []) ⟨hx, hb, hml, hown, hts⟩ (c_X6_runCards l D cyI cyZ aM aS aC aH aL aP aR aT aTp H.size N r59 r67 r75 r83 r91 r99 vc vtl vta vtt vtp hC) (cwV 6 hts gX6_obey_X6_runCards rfl rfl rfl (by decide +kernel) ⟨Nat.le_of_ble_eq_true rfl, Nat.le_of_ble_eq_true rfl⟩) hK hP hD hS hA [0, 1, 2, 5, 6] rfl rfl rfl 0 rfl rfl rfl rfl hl.1 rfl (Nat.le_of_ble_eq_true rfl) ⟨Nat.zero_le _, Nat.zero_le _⟩ dX6_obey_102 (fun H locs hP hD hS => ?_)
          have hP : va_P D vwCl [(aM, .inr (6, [.ref aS, .ref aH, .ref aL, .ref aP, .ref aR, .ref aT])), (aS, .inr (3, [.ref aC])), (aC, .inl (cyI, 225, .inl vc_102)), (aR, .inr (2, [.ref aP, .ref aRn, .int vra, .int vrk, .int vrt])), (aRn, .inl (cyI, 40, .inl vrn)), (aT, .inr (5, [.ref aTp, .int vtl_102, .int vta_102, .int vtt_102])), (aTp, .inl (cyI, 552, .inl vtp_102))] H := hP
          have hD : va_D A [(aM, .inr (6, [.ref aS, .ref aH, .ref aL, .ref aP, .ref aR, .ref aT])), (aS, .inr (3, [.ref aC])), (aC, .inl (cyI, 225, .inl vc_102)), (aR, .inr (2, [.ref aP, .ref aRn, .int vra, .int vrk, .int vrt])), (aRn, .inl (cyI, 40, .inl vrn)), (aT, .inr (5, [.ref aTp, .int vtl_102, .int vta_102, .int vtt_102])), (aTp, .inl (cyI, 552, .inl vtp_102))] := hD
          obtain ⟨e0, e1, e2, e3, e4, e5⟩ := k_inj6 hF
          have hP9 : va_P D vwCl [(aM, .inr (6, [.ref aS, .ref aH, .ref aL, .ref aP, .ref aR, .ref aT])), (aS, .inr (3, [.ref aC])), (aC, .inl (cyI, 225, .inl vc')), (aR, .inr (2, [.ref aP, .ref aRn, .int vra, .int vrk, .int vrt])), (aRn, .inl (cyI, 40, .inl vrn)), (aT, .inr (5, [.ref aTp, .int vtl', .int vta', .int vtt'])), (aTp, .inl (cyI, 552, .inl vtp'))] H := by rw [← e1, ← e2, ← e3, ← e4, ← e5]; exact hP
          exact W.iret hx hb hr (fun t ht hW => ⟨⟨_, (), rfl, e0, x_ret hP9 ht⟩, hS.F ht⟩) hS.2.2 dX6_obey_105
        · have hF := k_if_f hF h114
          refine lv_lookup (tgt := 154) (off := 147) hx hb dX6_obey_7 (by decide) (by show Op.lookupswitch.offset [(43, 41), (102, 115), (109, 99), (114, 46)] 147 r4.toInt = 147; rw [lv_osw (k := (43 : Int32)) (a := 43) h43 (by decide), lv_osw (k := (102 : Int32)) (a := 102) h102 (by decide), lv_osw (k := (109 : Int32)) (a := 109) h109 (by decide), lv_osw (k := (114 : Int32)) (a := 114) h114 (by decide)]; rfl) (by decide) ?_
          refine lv_bipush (v := (-3 : Int32)) hx hb dX6_obey_154 (by decide) ?_
          obtain ⟨e0, e1, e2, e3, e4, e5⟩ := k_inj6 hF
          have hP9 : va_P D vwCl [(aM, .inr (6, [.ref aS, .ref aH, .ref aL, .ref aP, .ref aR, .ref aT])), (aS, .inr (3, [.ref aC])), (aC, .inl (cyI, 225, .inl vc')), (aR, .inr (2, [.ref aP, .ref aRn, .int vra, .int vrk, .int vrt])), (aRn, .inl (cyI, 40, .inl vrn)), (aT, .inr (5, [.ref aTp, .int vtl', .int vta', .int vtt'])), (aTp, .inl (cyI, 552, .inl vtp'))] H := by rw [← e1, ← e2, ← e3, ← e4, ← e5]; exact hP
          exact W.iret hx hb hr (fun t ht hW => ⟨⟨_, (), rfl, e0, x_ret hP9 ht⟩, hS.F ht⟩) hS.2.2 dX6_obey_156
theorem mm_X6_carryOut_1 : Cond.fieldLink RX6 42 "RollerMesh" "reader" "LRollerMesh$Reader;" ∈ wsX6_carryOut := List.mem_of_getElem? (i := 1) rfl
theorem mm_X6_carryOut_2 : Cond.fieldLink RX6 19 "RollerMesh" "history" "LRollerMesh$History;" ∈ wsX6_carryOut := List.mem_of_getElem? (i := 2) rfl
theorem mm_X6_carryOut_3 : Cond.fieldLink RX6 10 "RollerMesh" "shop" "LRollerMesh$Shop;" ∈ wsX6_carryOut := List.mem_of_getElem? (i := 3) rfl
theorem mm_X6_carryOut_4 : Cond.fieldLink RX6 33 "RollerMesh" "pad" "LRollerMesh$Pad;" ∈ wsX6_carryOut := List.mem_of_getElem? (i := 4) rfl
theorem mi_X6_carryOut_X6 : ∀ w ∈ wsX60, w ∈ wsX6_carryOut := fun _ h => List.mem_cons_of_mem _ (List.mem_append_left _ (List.mem_append_left _ (List.mem_append_left _ (List.mem_append_left _ (List.mem_append_left _ (List.mem_append_right _ h))))))
set_option maxHeartbeats 4000000 in
set_option maxRecDepth 100000 in
theorem c_X6_carryOut (l : Launch) (D : va_G) (cyI cyZ : ClassId) (aM aS aC aH aHs aL aP aPc aR aRn aT aTp : Nat) (sz : Nat) (N : Nat) (vc : (Nat → Int32)) (vhf : Int32) (vhl : Int32) (vhs : (Nat → Int32)) (vpl : Int32) (vpp : (Nat → Int32)) (vra : Int32) (vrk : Int32) (vrt : Int32) (vrn : (Nat → Int32)) (vtl : Int32) (vta : Int32) (vtt : Int32) (vtp : (Nat → Int32)) {r0 : Int32} {vc' : (Nat → Int32)} {vhf' : Int32} {vhl' : Int32} {vhs' : (Nat → Int32)} {vpl' : Int32} {vra' : Int32} {vrk' : Int32} {vrt' : Int32} {vrn' : (Nat → Int32)} {vtl' : Int32} {vta' : Int32} {vtt' : Int32} {vtp' : (Nat → Int32)} (hF : p_X6_carryOut N vc vhf vhl vhs vpl vpp vra vrk vrt vrn vtl vta vtt vtp = some (r0, vc', vhf', vhl', vhs', vpl', vra', vrk', vrt', vrn', vtl', vta', vtt', vtp')) : Met l yX6_carryOut wsX6_carryOut ({ frames := 6, cells := 0, slots := 0, locals := 140 }) (x_PM D cyI cyZ [.ref aM] [(aM, .inr (6, [.ref aS, .ref aH, .ref aL, .ref aP, .ref aR, .ref aT])), (aS, .inr (3, [.ref aC])), (aC, .inl (cyI, 225, .inl vc)), (aH, .inr (0, [.ref aHs, .int vhf, .int vhl])), (aHs, .inl (cyI, 1575, .inl vhs)), (aP, .inr (1, [.ref aPc, .int vpl])), (aPc, .inl (cyI, 80, .inl vpp)), (aR, .inr (2, [.ref aP, .ref aRn, .int vra, .int vrk, .int vrt])), (aRn, .inl (cyI, 40, .inl vrn)), (aT, .inr (5, [.ref aTp, .int vtl, .int vta, .int vtt])), (aTp, .inl (cyI, 552, .inl vtp))] sz) (x_QM D r0 (va_A [(aM, .inr (6, [.ref aS, .ref aH, .ref aL, .ref aP, .ref aR, .ref aT])), (aS, .inr (3, [.ref aC])), (aC, .inl (cyI, 225, .inl vc)), (aH, .inr (0, [.ref aHs, .int vhf, .int vhl])), (aHs, .inl (cyI, 1575, .inl vhs)), (aP, .inr (1, [.ref aPc, .int vpl])), (aPc, .inl (cyI, 80, .inl vpp)), (aR, .inr (2, [.ref aP, .ref aRn, .int vra, .int vrk, .int vrt])), (aRn, .inl (cyI, 40, .inl vrn)), (aT, .inr (5, [.ref aTp, .int vtl, .int vta, .int vtt])), (aTp, .inl (cyI, 552, .inl vtp))] sz) [(aM, .inr (6, [.ref aS, .ref aH, .ref aL, .ref aP, .ref aR, .ref aT])), (aS, .inr (3, [.ref aC])), (aC, .inl (cyI, 225, .inl vc')), (aH, .inr (0, [.ref aHs, .int vhf', .int vhl'])), (aHs, .inl (cyI, 1575, .inl vhs')), (aP, .inr (1, [.ref aPc, .int vpl'])), (aPc, .inl (cyI, 80, .inl vpp)), (aR, .inr (2, [.ref aP, .ref aRn, .int vra', .int vrk', .int vrt'])), (aRn, .inl (cyI, 40, .inl vrn')), (aT, .inr (5, [.ref aTp, .int vtl', .int vta', .int vtt'])), (aTp, .inl (cyI, 552, .inl vtp'))]) 0 0 (va_A [(aM, .inr (6, [.ref aS, .ref aH, .ref aL, .ref aP, .ref aR, .ref aT])), (aS, .inr (3, [.ref aC])), (aC, .inl (cyI, 225, .inl vc)), (aH, .inr (0, [.ref aHs, .int vhf, .int vhl])), (aHs, .inl (cyI, 1575, .inl vhs)), (aP, .inr (1, [.ref aPc, .int vpl])), (aPc, .inl (cyI, 80, .inl vpp)), (aR, .inr (2, [.ref aP, .ref aRn, .int vra, .int vrk, .int vrt])), (aRn, .inl (cyI, 40, .inl vrn)), (aT, .inr (5, [.ref aTp, .int vtl, .int vta, .int vtt])), (aTp, .inl (cyI, 552, .inl vtp))] sz) := by
  refine Met.ofW (cc := cX6_carryOut) (maxL := 2) (ret := (some .int)) (by decide) rfl ?_
  intro p e s m args below meth c s₁ B hml hv
  obtain ⟨rfl, hsz, hP, hK, hD0⟩ := hv
  have hx := B.exec
  have hb := B.bytes
  have hr := B.returns
  have hts := atoms_spec (ws := wsX6_carryOut) B.pre
  have hown : s.vm.findClass RX6 = some m.cls := findClass_of_methodNamed B.named
  have hlocks := B.notSynchronized
  subst hsz
  have hD := hD0.self (sz := s.heap.size)
  generalize hAe : va_A [(aM, .inr (6, [.ref aS, .ref aH, .ref aL, .ref aP, .ref aR, .ref aT])), (aS, .inr (3, [.ref aC])), (aC, .inl (cyI, 225, .inl vc)), (aH, .inr (0, [.ref aHs, .int vhf, .int vhl])), (aHs, .inl (cyI, 1575, .inl vhs)), (aP, .inr (1, [.ref aPc, .int vpl])), (aPc, .inl (cyI, 80, .inl vpp)), (aR, .inr (2, [.ref aP, .ref aRn, .int vra, .int vrk, .int vrt])), (aRn, .inl (cyI, 40, .inl vrn)), (aT, .inr (5, [.ref aTp, .int vtl, .int vta, .int vtt])), (aTp, .inl (cyI, 552, .inl vtp))] s.heap.size = A at hD ⊢
  have hA : ∀ q : Nat, s.heap.size ≤ q → A q := fun q h => by rw [← hAe]; exact Or.inr h
  have hS : va_S A s.heap s.heap [] := va_S.rf
  have hP : va_P D vwCl [(aM, .inr (6, [.ref aS, .ref aH, .ref aL, .ref aP, .ref aR, .ref aT])), (aS, .inr (3, [.ref aC])), (aC, .inl (cyI, 225, .inl vc)), (aH, .inr (0, [.ref aHs, .int vhf, .int vhl])), (aHs, .inl (cyI, 1575, .inl vhs)), (aP, .inr (1, [.ref aPc, .int vpl])), (aPc, .inl (cyI, 80, .inl vpp)), (aR, .inr (2, [.ref aP, .ref aRn, .int vra, .int vrk, .int vrt])), (aRn, .inl (cyI, 40, .inl vrn)), (aT, .inr (5, [.ref aTp, .int vtl, .int vta, .int vtt])), (aTp, .inl (cyI, 552, .inl vtp))] s.heap := hP
  have hl := lv_entry ([.ref aM]) (n := 2) (Nat.le_of_ble_eq_true rfl)
  rw [lg_entry_eq]
  generalize (lg_sl ([.ref aM]) ++ List.replicate (2 - (lg_sl ([.ref aM])).length) Slot.unset).toArray = ls at hl ⊢
  have hl : lv_has ls 2 [(0, .ref aM)] := hl
  refine x_gen (fun G hG => ?_)
  have blk_35 : ∀ (n_35 : Nat) (x1 : Int32) (vc : (Nat → Int32)) (vhf : Int32) (vhl : Int32) (vhs : (Nat → Int32)) (vpl : Int32) (vra : Int32) (vrk : Int32) (vrt : Int32) (vrn : (Nat → Int32)) (vtl : Int32) (vta : Int32) (vtt : Int32) (vtp : (Nat → Int32)), f_X6_carryOut_35 N n_35 x1 vc vhf vhl vhs vpl vpp vra vrk vrt vrn vtl vta vtt vtp = some (r0, vc', vhf', vhl', vhs', vpl', vra', vrk', vrt', vrn', vtl', vta', vtt', vtp') → ∀ (H : Heap) (locs : List Loc) (ls : Array Slot), va_P D vwCl [(aM, .inr (6, [.ref aS, .ref aH, .ref aL, .ref aP, .ref aR, .ref aT])), (aS, .inr (3, [.ref aC])), (aC, .inl (cyI, 225, .inl vc)), (aH, .inr (0, [.ref aHs, .int vhf, .int vhl])), (aHs, .inl (cyI, 1575, .inl vhs)), (aP, .inr (1, [.ref aPc, .int vpl])), (aPc, .inl (cyI, 80, .inl vpp)), (aR, .inr (2, [.ref aP, .ref aRn, .int vra, .int vrk, .int vrt])), (aRn, .inl (cyI, 40, .inl vrn)), (aT, .inr (5, [.ref aTp, .int vtl, .int vta, .int vtt])), (aTp, .inl (cyI, 552, .inl vtp))] H → va_D A [(aM, .inr (6, [.ref aS, .ref aH, .ref aL, .ref aP, .ref aR, .ref aT])), (aS, .inr (3, [.ref aC])), (aC, .inl (cyI, 225, .inl vc)), (aH, .inr (0, [.ref aHs, .int vhf, .int vhl])), (aHs, .inl (cyI, 1575, .inl vhs)), (aP, .inr (1, [.ref aPc, .int vpl])), (aPc, .inl (cyI, 80, .inl vpp)), (aR, .inr (2, [.ref aP, .ref aRn, .int vra, .int vrk, .int vrt])), (aRn, .inl (cyI, 40, .inl vrn)), (aT, .inr (5, [.ref aTp, .int vtl, .int vta, .int vtt])), (aTp, .inl (cyI, 552, .inl vtp))] → va_S A s.heap H locs → lv_has ls 2 [(0, .ref aM), (1, .int x1)] → G H locs (F0 m 35 ls []) := by
    intro n_35
    induction n_35 with
    | zero => intro x1 vc vhf vhl vhs vpl vra vrk vrt vrn vtl vta vtt vtp hF; exact (k_none hF).elim
    | succ n_35 ih_35 =>
      intro x1 vc vhf vhl vhs vpl vra vrk vrt vrn vtl vta vtt vtp hF H locs ls hP hD hS hl
      replace hF : b_X6_carryOut_35 N (f_X6_carryOut_35 N n_35) x1 vc vhf vhl vhs vpl vpp vra vrk vrt vrn vtl vta vtt vtp = some (r0, vc', vhf', vhl', vhs', vpl', vra', vrk', vrt', vrn', vtl', vta', vtt', vtp') := hF
      unfold b_X6_carryOut_35 at hF
      refine (hG _ _ _).2 ?_
      refine lv_iload_n hx hb dX6_carryOut_35 rfl (lv_at hl 1 rfl) ?_
      refine lv_bipush (v := (80 : Int32)) hx hb dX6_carryOut_36 (by decide) ?_
      refine lv_icmp_ge (tgt := 74) hx hb dX6_carryOut_38 (by decide) (fun hc => ?_) (fun hc => ?_)
      · have hF := k_if_t hF hc
        refine lv_aload_n hx hb dX6_carryOut_74 rfl (lv_at hl 0 rfl) ?_
        refine va_get (D := D) (ci := 6) (v := .ref aP) (C := RX6) (T := TX6) (N := 6) hx hb hts mi_X6_carryOut_X6 hown hK.1 hP 0 rfl rfl 3 (by decide) (hts _ mm_X6_carryOut_4) (fun _ h9 => h9) rfl dX6_carryOut_75 ?_
        obtain ⟨r78, vpl_78, hC, hF⟩ := k_c2_ex hF
        refine x_VM (As := []) (rest := []) ⟨hx, hb, hml, hown, hts⟩ (c_X1_clear l D cyI cyZ aP aPc H.size N vpl hC) (cwV 0 hts gX6_carryOut_X1_clear rfl rfl rfl (by decide +kernel) ⟨Nat.le_of_ble_eq_true rfl, Nat.le_of_ble_eq_true rfl⟩) hK hP hD hS hA [5] rfl rfl rfl 5 rfl rfl rfl rfl hl.1 rfl (Nat.le_of_ble_eq_true rfl) ⟨Nat.zero_le _, Nat.zero_le _⟩ dX6_carryOut_78 (fun H locs hP hD hS => ?_)
        have hP : va_P D vwCl [(aM, .inr (6, [.ref aS, .ref aH, .ref aL, .ref aP, .ref aR, .ref aT])), (aS, .inr (3, [.ref aC])), (aC, .inl (cyI, 225, .inl vc)), (aH, .inr (0, [.ref aHs, .int vhf, .int vhl])), (aHs, .inl (cyI, 1575, .inl vhs)), (aP, .inr (1, [.ref aPc, .int vpl_78])), (aPc, .inl (cyI, 80, .inl vpp)), (aR, .inr (2, [.ref aP, .ref aRn, .int vra, .int vrk, .int vrt])), (aRn, .inl (cyI, 40, .inl vrn)), (aT, .inr (5, [.ref aTp, .int vtl, .int vta, .int vtt])), (aTp, .inl (cyI, 552, .inl vtp))] H := hP
        have hD : va_D A [(aM, .inr (6, [.ref aS, .ref aH, .ref aL, .ref aP, .ref aR, .ref aT])), (aS, .inr (3, [.ref aC])), (aC, .inl (cyI, 225, .inl vc)), (aH, .inr (0, [.ref aHs, .int vhf, .int vhl])), (aHs, .inl (cyI, 1575, .inl vhs)), (aP, .inr (1, [.ref aPc, .int vpl_78])), (aPc, .inl (cyI, 80, .inl vpp)), (aR, .inr (2, [.ref aP, .ref aRn, .int vra, .int vrk, .int vrt])), (aRn, .inl (cyI, 40, .inl vrn)), (aT, .inr (5, [.ref aTp, .int vtl, .int vta, .int vtt])), (aTp, .inl (cyI, 552, .inl vtp))] := hD
        refine lv_pop hx hb dX6_carryOut_81 rfl ?_
        refine lv_aload_n hx hb dX6_carryOut_82 rfl (lv_at hl 0 rfl) ?_
        refine va_get (D := D) (ci := 6) (v := .ref aH) (C := RX6) (T := TX6) (N := 6) hx hb hts mi_X6_carryOut_X6 hown hK.1 hP 0 rfl rfl 1 (by decide) (hts _ mm_X6_carryOut_2) (fun _ h9 => h9) rfl dX6_carryOut_83 ?_
        refine lv_iload_n hx hb dX6_carryOut_86 rfl (lv_at hl 1 rfl) ?_
        obtain ⟨r87, vhf_87, vhl_87, hC, hF⟩ := k_c3_ex hF
        refine x_VM (As := [.int x1]) (rest := []) ⟨hx, hb, hml, hown, hts⟩ (c_X0_recorded l D cyI cyZ aH aHs H.size N x1 vhf vhl hC) (cwV 1 hts gX6_carryOut_X0_recorded rfl rfl rfl (by decide +kernel) ⟨Nat.le_of_ble_eq_true rfl, Nat.le_of_ble_eq_true rfl⟩) hK hP hD hS hA [3] rfl rfl rfl 3 rfl rfl rfl rfl hl.1 rfl (Nat.le_of_ble_eq_true rfl) ⟨Nat.zero_le _, Nat.zero_le _⟩ dX6_carryOut_87 (fun H locs hP hD hS => ?_)
        have hP : va_P D vwCl [(aM, .inr (6, [.ref aS, .ref aH, .ref aL, .ref aP, .ref aR, .ref aT])), (aS, .inr (3, [.ref aC])), (aC, .inl (cyI, 225, .inl vc)), (aH, .inr (0, [.ref aHs, .int vhf_87, .int vhl_87])), (aHs, .inl (cyI, 1575, .inl vhs)), (aP, .inr (1, [.ref aPc, .int vpl_78])), (aPc, .inl (cyI, 80, .inl vpp)), (aR, .inr (2, [.ref aP, .ref aRn, .int vra, .int vrk, .int vrt])), (aRn, .inl (cyI, 40, .inl vrn)), (aT, .inr (5, [.ref aTp, .int vtl, .int vta, .int vtt])), (aTp, .inl (cyI, 552, .inl vtp))] H := hP
        have hD : va_D A [(aM, .inr (6, [.ref aS, .ref aH, .ref aL, .ref aP, .ref aR, .ref aT])), (aS, .inr (3, [.ref aC])), (aC, .inl (cyI, 225, .inl vc)), (aH, .inr (0, [.ref aHs, .int vhf_87, .int vhl_87])), (aHs, .inl (cyI, 1575, .inl vhs)), (aP, .inr (1, [.ref aPc, .int vpl_78])), (aPc, .inl (cyI, 80, .inl vpp)), (aR, .inr (2, [.ref aP, .ref aRn, .int vra, .int vrk, .int vrt])), (aRn, .inl (cyI, 40, .inl vrn)), (aT, .inr (5, [.ref aTp, .int vtl, .int vta, .int vtt])), (aTp, .inl (cyI, 552, .inl vtp))] := hD
        obtain ⟨e0, e1, e2, e3, e4, e5, e6, e7, e8, e9, e10, e11, e12, e13⟩ := k_inj14 hF
        have hP9 : va_P D vwCl [(aM, .inr (6, [.ref aS, .ref aH, .ref aL, .ref aP, .ref aR, .ref aT])), (aS, .inr (3, [.ref aC])), (aC, .inl (cyI, 225, .inl vc')), (aH, .inr (0, [.ref aHs, .int vhf', .int vhl'])), (aHs, .inl (cyI, 1575, .inl vhs')), (aP, .inr (1, [.ref aPc, .int vpl'])), (aPc, .inl (cyI, 80, .inl vpp)), (aR, .inr (2, [.ref aP, .ref aRn, .int vra', .int vrk', .int vrt'])), (aRn, .inl (cyI, 40, .inl vrn')), (aT, .inr (5, [.ref aTp, .int vtl', .int vta', .int vtt'])), (aTp, .inl (cyI, 552, .inl vtp'))] H := by rw [← e1, ← e2, ← e3, ← e4, ← e5, ← e6, ← e7, ← e8, ← e9, ← e10, ← e11, ← e12, ← e13]; exact hP
        exact W.iret hx hb hr (fun t ht hW => ⟨⟨_, (), rfl, e0, x_ret hP9 ht⟩, hS.F ht⟩) hS.2.2 dX6_carryOut_90
      · have hF := k_if_f hF hc
        refine lv_aload_n hx hb dX6_carryOut_41 rfl (lv_at hl 0 rfl) ?_
        refine va_get (D := D) (ci := 6) (v := .ref aR) (C := RX6) (T := TX6) (N := 6) hx hb hts mi_X6_carryOut_X6 hown hK.1 hP 0 rfl rfl 4 (by decide) (hts _ mm_X6_carryOut_1) (fun _ h9 => h9) rfl dX6_carryOut_42 ?_
        obtain ⟨r45, vra_45, vrk_45, vrt_45, vrn_45, hC, hF⟩ := k_c5_ex hF
        refine x_VM (As := []) (rest := []) ⟨hx, hb, hml, hown, hts⟩ (c_X2_readOrder l D cyI cyZ aP aPc aR aRn H.size N vpl vpp vra vrk vrt vrn hC) (cwV 0 hts gX6_carryOut_X2_readOrder rfl rfl rfl (by decide +kernel) ⟨Nat.le_of_ble_eq_true rfl, Nat.le_of_ble_eq_true rfl⟩) hK hP hD hS hA [5, 6, 7, 8] rfl rfl rfl 7 rfl rfl rfl rfl hl.1 rfl (Nat.le_of_ble_eq_true rfl) ⟨Nat.zero_le _, Nat.zero_le _⟩ dX6_carryOut_45 (fun H locs hP hD hS => ?_)
        have hP : va_P D vwCl [(aM, .inr (6, [.ref aS, .ref aH, .ref aL, .ref aP, .ref aR, .ref aT])), (aS, .inr (3, [.ref aC])), (aC, .inl (cyI, 225, .inl vc)), (aH, .inr (0, [.ref aHs, .int vhf, .int vhl])), (aHs, .inl (cyI, 1575, .inl vhs)), (aP, .inr (1, [.ref aPc, .int vpl])), (aPc, .inl (cyI, 80, .inl vpp)), (aR, .inr (2, [.ref aP, .ref aRn, .int vra_45, .int vrk_45, .int vrt_45])), (aRn, .inl (cyI, 40, .inl vrn_45)), (aT, .inr (5, [.ref aTp, .int vtl, .int vta, .int vtt])), (aTp, .inl (cyI, 552, .inl vtp))] H := hP
        have hD : va_D A [(aM, .inr (6, [.ref aS, .ref aH, .ref aL, .ref aP, .ref aR, .ref aT])), (aS, .inr (3, [.ref aC])), (aC, .inl (cyI, 225, .inl vc)), (aH, .inr (0, [.ref aHs, .int vhf, .int vhl])), (aHs, .inl (cyI, 1575, .inl vhs)), (aP, .inr (1, [.ref aPc, .int vpl])), (aPc, .inl (cyI, 80, .inl vpp)), (aR, .inr (2, [.ref aP, .ref aRn, .int vra_45, .int vrk_45, .int vrt_45])), (aRn, .inl (cyI, 40, .inl vrn_45)), (aT, .inr (5, [.ref aTp, .int vtl, .int vta, .int vtt])), (aTp, .inl (cyI, 552, .inl vtp))] := hD
        refine lv_if_eq (tgt := 74) hx hb dX6_carryOut_48 (by decide) (fun hc => ?_) (fun hc => ?_)
        · have hF := k_if_t hF hc
          refine lv_aload_n hx hb dX6_carryOut_74 rfl (lv_at hl 0 rfl) ?_
          refine va_get (D := D) (ci := 6) (v := .ref aP) (C := RX6) (T := TX6) (N := 6) hx hb hts mi_X6_carryOut_X6 hown hK.1 hP 0 rfl rfl 3 (by decide) (hts _ mm_X6_carryOut_4) (fun _ h9 => h9) rfl dX6_carryOut_75 ?_
          obtain ⟨r78, vpl_78, hC, hF⟩ := k_c2_ex hF
          refine x_VM (As := []) (rest := []) ⟨hx, hb, hml, hown, hts⟩ (c_X1_clear l D cyI cyZ aP aPc H.size N vpl hC) (cwV 0 hts gX6_carryOut_X1_clear rfl rfl rfl (by decide +kernel) ⟨Nat.le_of_ble_eq_true rfl, Nat.le_of_ble_eq_true rfl⟩) hK hP hD hS hA [5] rfl rfl rfl 5 rfl rfl rfl rfl hl.1 rfl (Nat.le_of_ble_eq_true rfl) ⟨Nat.zero_le _, Nat.zero_le _⟩ dX6_carryOut_78 (fun H locs hP hD hS => ?_)
          have hP : va_P D vwCl [(aM, .inr (6, [.ref aS, .ref aH, .ref aL, .ref aP, .ref aR, .ref aT])), (aS, .inr (3, [.ref aC])), (aC, .inl (cyI, 225, .inl vc)), (aH, .inr (0, [.ref aHs, .int vhf, .int vhl])), (aHs, .inl (cyI, 1575, .inl vhs)), (aP, .inr (1, [.ref aPc, .int vpl_78])), (aPc, .inl (cyI, 80, .inl vpp)), (aR, .inr (2, [.ref aP, .ref aRn, .int vra_45, .int vrk_45, .int vrt_45])), (aRn, .inl (cyI, 40, .inl vrn_45)), (aT, .inr (5, [.ref aTp, .int vtl, .int vta, .int vtt])), (aTp, .inl (cyI, 552, .inl vtp))] H := hP
          have hD : va_D A [(aM, .inr (6, [.ref aS, .ref aH, .ref aL, .ref aP, .ref aR, .ref aT])), (aS, .inr (3, [.ref aC])), (aC, .inl (cyI, 225, .inl vc)), (aH, .inr (0, [.ref aHs, .int vhf, .int vhl])), (aHs, .inl (cyI, 1575, .inl vhs)), (aP, .inr (1, [.ref aPc, .int vpl_78])), (aPc, .inl (cyI, 80, .inl vpp)), (aR, .inr (2, [.ref aP, .ref aRn, .int vra_45, .int vrk_45, .int vrt_45])), (aRn, .inl (cyI, 40, .inl vrn_45)), (aT, .inr (5, [.ref aTp, .int vtl, .int vta, .int vtt])), (aTp, .inl (cyI, 552, .inl vtp))] := hD
          refine lv_pop hx hb dX6_carryOut_81 rfl ?_
          refine lv_aload_n hx hb dX6_carryOut_82 rfl (lv_at hl 0 rfl) ?_
          refine va_get (D := D) (ci := 6) (v := .ref aH) (C := RX6) (T := TX6) (N := 6) hx hb hts mi_X6_carryOut_X6 hown hK.1 hP 0 rfl rfl 1 (by decide) (hts _ mm_X6_carryOut_2) (fun _ h9 => h9) rfl dX6_carryOut_83 ?_
          refine lv_iload_n hx hb dX6_carryOut_86 rfl (lv_at hl 1 rfl) ?_
          obtain ⟨r87, vhf_87, vhl_87, hC, hF⟩ := k_c3_ex hF
          refine x_VM (As := [.int x1]) (rest := []) ⟨hx, hb, hml, hown, hts⟩ (c_X0_recorded l D cyI cyZ aH aHs H.size N x1 vhf vhl hC) (cwV 1 hts gX6_carryOut_X0_recorded rfl rfl rfl (by decide +kernel) ⟨Nat.le_of_ble_eq_true rfl, Nat.le_of_ble_eq_true rfl⟩) hK hP hD hS hA [3] rfl rfl rfl 3 rfl rfl rfl rfl hl.1 rfl (Nat.le_of_ble_eq_true rfl) ⟨Nat.zero_le _, Nat.zero_le _⟩ dX6_carryOut_87 (fun H locs hP hD hS => ?_)
          have hP : va_P D vwCl [(aM, .inr (6, [.ref aS, .ref aH, .ref aL, .ref aP, .ref aR, .ref aT])), (aS, .inr (3, [.ref aC])), (aC, .inl (cyI, 225, .inl vc)), (aH, .inr (0, [.ref aHs, .int vhf_87, .int vhl_87])), (aHs, .inl (cyI, 1575, .inl vhs)), (aP, .inr (1, [.ref aPc, .int vpl_78])), (aPc, .inl (cyI, 80, .inl vpp)), (aR, .inr (2, [.ref aP, .ref aRn, .int vra_45, .int vrk_45, .int vrt_45])), (aRn, .inl (cyI, 40, .inl vrn_45)), (aT, .inr (5, [.ref aTp, .int vtl, .int vta, .int vtt])), (aTp, .inl (cyI, 552, .inl vtp))] H := hP
          have hD : va_D A [(aM, .inr (6, [.ref aS, .ref aH, .ref aL, .ref aP, .ref aR, .ref aT])), (aS, .inr (3, [.ref aC])), (aC, .inl (cyI, 225, .inl vc)), (aH, .inr (0, [.ref aHs, .int vhf_87, .int vhl_87])), (aHs, .inl (cyI, 1575, .inl vhs)), (aP, .inr (1, [.ref aPc, .int vpl_78])), (aPc, .inl (cyI, 80, .inl vpp)), (aR, .inr (2, [.ref aP, .ref aRn, .int vra_45, .int vrk_45, .int vrt_45])), (aRn, .inl (cyI, 40, .inl vrn_45)), (aT, .inr (5, [.ref aTp, .int vtl, .int vta, .int vtt])), (aTp, .inl (cyI, 552, .inl vtp))] := hD
          obtain ⟨e0, e1, e2, e3, e4, e5, e6, e7, e8, e9, e10, e11, e12, e13⟩ := k_inj14 hF
          have hP9 : va_P D vwCl [(aM, .inr (6, [.ref aS, .ref aH, .ref aL, .ref aP, .ref aR, .ref aT])), (aS, .inr (3, [.ref aC])), (aC, .inl (cyI, 225, .inl vc')), (aH, .inr (0, [.ref aHs, .int vhf', .int vhl'])), (aHs, .inl (cyI, 1575, .inl vhs')), (aP, .inr (1, [.ref aPc, .int vpl'])), (aPc, .inl (cyI, 80, .inl vpp)), (aR, .inr (2, [.ref aP, .ref aRn, .int vra', .int vrk', .int vrt'])), (aRn, .inl (cyI, 40, .inl vrn')), (aT, .inr (5, [.ref aTp, .int vtl', .int vta', .int vtt'])), (aTp, .inl (cyI, 552, .inl vtp'))] H := by rw [← e1, ← e2, ← e3, ← e4, ← e5, ← e6, ← e7, ← e8, ← e9, ← e10, ← e11, ← e12, ← e13]; exact hP
          exact W.iret hx hb hr (fun t ht hW => ⟨⟨_, (), rfl, e0, x_ret hP9 ht⟩, hS.F ht⟩) hS.2.2 dX6_carryOut_90
        · have hF := k_if_f hF hc
          refine lv_aload_n hx hb dX6_carryOut_51 rfl (lv_at hl 0 rfl) ?_
          obtain ⟨r52, vc_52, vtl_52, vta_52, vtt_52, vtp_52, hC, hF⟩ := k_c6_ex hF
          refine x_VM (As := []) (rest := []) ⟨hx, hb, hml, hown, hts⟩ (c_X6_obey l D cyI cyZ aM aS aC aH aL aP aR aRn aT aTp H.size N vc vra_45 vrk_45 vrt_45 vrn_45 vtl vta vtt vtp hC) (cwV 0 hts gX6_carryOut_X6_obey rfl rfl rfl (by decide +kernel) ⟨Nat.le_of_ble_eq_true rfl, Nat.le_of_ble_eq_true rfl⟩) hK hP hD hS hA [0, 1, 2, 7, 8, 9, 10] rfl rfl rfl 0 rfl rfl rfl rfl hl.1 rfl (Nat.le_of_ble_eq_true rfl) ⟨Nat.zero_le _, Nat.zero_le _⟩ dX6_carryOut_52 (fun H locs hP hD hS => ?_)
          have hP : va_P D vwCl [(aM, .inr (6, [.ref aS, .ref aH, .ref aL, .ref aP, .ref aR, .ref aT])), (aS, .inr (3, [.ref aC])), (aC, .inl (cyI, 225, .inl vc_52)), (aH, .inr (0, [.ref aHs, .int vhf, .int vhl])), (aHs, .inl (cyI, 1575, .inl vhs)), (aP, .inr (1, [.ref aPc, .int vpl])), (aPc, .inl (cyI, 80, .inl vpp)), (aR, .inr (2, [.ref aP, .ref aRn, .int vra_45, .int vrk_45, .int vrt_45])), (aRn, .inl (cyI, 40, .inl vrn_45)), (aT, .inr (5, [.ref aTp, .int vtl_52, .int vta_52, .int vtt_52])), (aTp, .inl (cyI, 552, .inl vtp_52))] H := hP
          have hD : va_D A [(aM, .inr (6, [.ref aS, .ref aH, .ref aL, .ref aP, .ref aR, .ref aT])), (aS, .inr (3, [.ref aC])), (aC, .inl (cyI, 225, .inl vc_52)), (aH, .inr (0, [.ref aHs, .int vhf, .int vhl])), (aHs, .inl (cyI, 1575, .inl vhs)), (aP, .inr (1, [.ref aPc, .int vpl])), (aPc, .inl (cyI, 80, .inl vpp)), (aR, .inr (2, [.ref aP, .ref aRn, .int vra_45, .int vrk_45, .int vrt_45])), (aRn, .inl (cyI, 40, .inl vrn_45)), (aT, .inr (5, [.ref aTp, .int vtl_52, .int vta_52, .int vtt_52])), (aTp, .inl (cyI, 552, .inl vtp_52))] := hD
          refine lv_if_lt (tgt := 74) hx hb dX6_carryOut_55 (by decide) (fun hc => ?_) (fun hc => ?_)
          · have hF := k_if_t hF hc
            refine lv_aload_n hx hb dX6_carryOut_74 rfl (lv_at hl 0 rfl) ?_
            refine va_get (D := D) (ci := 6) (v := .ref aP) (C := RX6) (T := TX6) (N := 6) hx hb hts mi_X6_carryOut_X6 hown hK.1 hP 0 rfl rfl 3 (by decide) (hts _ mm_X6_carryOut_4) (fun _ h9 => h9) rfl dX6_carryOut_75 ?_
            obtain ⟨r78, vpl_78, hC, hF⟩ := k_c2_ex hF
            refine x_VM (As := []) (rest := []) ⟨hx, hb, hml, hown, hts⟩ (c_X1_clear l D cyI cyZ aP aPc H.size N vpl hC) (cwV 0 hts gX6_carryOut_X1_clear rfl rfl rfl (by decide +kernel) ⟨Nat.le_of_ble_eq_true rfl, Nat.le_of_ble_eq_true rfl⟩) hK hP hD hS hA [5] rfl rfl rfl 5 rfl rfl rfl rfl hl.1 rfl (Nat.le_of_ble_eq_true rfl) ⟨Nat.zero_le _, Nat.zero_le _⟩ dX6_carryOut_78 (fun H locs hP hD hS => ?_)
            have hP : va_P D vwCl [(aM, .inr (6, [.ref aS, .ref aH, .ref aL, .ref aP, .ref aR, .ref aT])), (aS, .inr (3, [.ref aC])), (aC, .inl (cyI, 225, .inl vc_52)), (aH, .inr (0, [.ref aHs, .int vhf, .int vhl])), (aHs, .inl (cyI, 1575, .inl vhs)), (aP, .inr (1, [.ref aPc, .int vpl_78])), (aPc, .inl (cyI, 80, .inl vpp)), (aR, .inr (2, [.ref aP, .ref aRn, .int vra_45, .int vrk_45, .int vrt_45])), (aRn, .inl (cyI, 40, .inl vrn_45)), (aT, .inr (5, [.ref aTp, .int vtl_52, .int vta_52, .int vtt_52])), (aTp, .inl (cyI, 552, .inl vtp_52))] H := hP
            have hD : va_D A [(aM, .inr (6, [.ref aS, .ref aH, .ref aL, .ref aP, .ref aR, .ref aT])), (aS, .inr (3, [.ref aC])), (aC, .inl (cyI, 225, .inl vc_52)), (aH, .inr (0, [.ref aHs, .int vhf, .int vhl])), (aHs, .inl (cyI, 1575, .inl vhs)), (aP, .inr (1, [.ref aPc, .int vpl_78])), (aPc, .inl (cyI, 80, .inl vpp)), (aR, .inr (2, [.ref aP, .ref aRn, .int vra_45, .int vrk_45, .int vrt_45])), (aRn, .inl (cyI, 40, .inl vrn_45)), (aT, .inr (5, [.ref aTp, .int vtl_52, .int vta_52, .int vtt_52])), (aTp, .inl (cyI, 552, .inl vtp_52))] := hD
            refine lv_pop hx hb dX6_carryOut_81 rfl ?_
            refine lv_aload_n hx hb dX6_carryOut_82 rfl (lv_at hl 0 rfl) ?_
            refine va_get (D := D) (ci := 6) (v := .ref aH) (C := RX6) (T := TX6) (N := 6) hx hb hts mi_X6_carryOut_X6 hown hK.1 hP 0 rfl rfl 1 (by decide) (hts _ mm_X6_carryOut_2) (fun _ h9 => h9) rfl dX6_carryOut_83 ?_
            refine lv_iload_n hx hb dX6_carryOut_86 rfl (lv_at hl 1 rfl) ?_
            obtain ⟨r87, vhf_87, vhl_87, hC, hF⟩ := k_c3_ex hF
            refine x_VM (As := [.int x1]) (rest := []) ⟨hx, hb, hml, hown, hts⟩ (c_X0_recorded l D cyI cyZ aH aHs H.size N x1 vhf vhl hC) (cwV 1 hts gX6_carryOut_X0_recorded rfl rfl rfl (by decide +kernel) ⟨Nat.le_of_ble_eq_true rfl, Nat.le_of_ble_eq_true rfl⟩) hK hP hD hS hA [3] rfl rfl rfl 3 rfl rfl rfl rfl hl.1 rfl (Nat.le_of_ble_eq_true rfl) ⟨Nat.zero_le _, Nat.zero_le _⟩ dX6_carryOut_87 (fun H locs hP hD hS => ?_)
            have hP : va_P D vwCl [(aM, .inr (6, [.ref aS, .ref aH, .ref aL, .ref aP, .ref aR, .ref aT])), (aS, .inr (3, [.ref aC])), (aC, .inl (cyI, 225, .inl vc_52)), (aH, .inr (0, [.ref aHs, .int vhf_87, .int vhl_87])), (aHs, .inl (cyI, 1575, .inl vhs)), (aP, .inr (1, [.ref aPc, .int vpl_78])), (aPc, .inl (cyI, 80, .inl vpp)), (aR, .inr (2, [.ref aP, .ref aRn, .int vra_45, .int vrk_45, .int vrt_45])), (aRn, .inl (cyI, 40, .inl vrn_45)), (aT, .inr (5, [.ref aTp, .int vtl_52, .int vta_52, .int vtt_52])), (aTp, .inl (cyI, 552, .inl vtp_52))] H := hP
            have hD : va_D A [(aM, .inr (6, [.ref aS, .ref aH, .ref aL, .ref aP, .ref aR, .ref aT])), (aS, .inr (3, [.ref aC])), (aC, .inl (cyI, 225, .inl vc_52)), (aH, .inr (0, [.ref aHs, .int vhf_87, .int vhl_87])), (aHs, .inl (cyI, 1575, .inl vhs)), (aP, .inr (1, [.ref aPc, .int vpl_78])), (aPc, .inl (cyI, 80, .inl vpp)), (aR, .inr (2, [.ref aP, .ref aRn, .int vra_45, .int vrk_45, .int vrt_45])), (aRn, .inl (cyI, 40, .inl vrn_45)), (aT, .inr (5, [.ref aTp, .int vtl_52, .int vta_52, .int vtt_52])), (aTp, .inl (cyI, 552, .inl vtp_52))] := hD
            obtain ⟨e0, e1, e2, e3, e4, e5, e6, e7, e8, e9, e10, e11, e12, e13⟩ := k_inj14 hF
            have hP9 : va_P D vwCl [(aM, .inr (6, [.ref aS, .ref aH, .ref aL, .ref aP, .ref aR, .ref aT])), (aS, .inr (3, [.ref aC])), (aC, .inl (cyI, 225, .inl vc')), (aH, .inr (0, [.ref aHs, .int vhf', .int vhl'])), (aHs, .inl (cyI, 1575, .inl vhs')), (aP, .inr (1, [.ref aPc, .int vpl'])), (aPc, .inl (cyI, 80, .inl vpp)), (aR, .inr (2, [.ref aP, .ref aRn, .int vra', .int vrk', .int vrt'])), (aRn, .inl (cyI, 40, .inl vrn')), (aT, .inr (5, [.ref aTp, .int vtl', .int vta', .int vtt'])), (aTp, .inl (cyI, 552, .inl vtp'))] H := by rw [← e1, ← e2, ← e3, ← e4, ← e5, ← e6, ← e7, ← e8, ← e9, ← e10, ← e11, ← e12, ← e13]; exact hP
            exact W.iret hx hb hr (fun t ht hW => ⟨⟨_, (), rfl, e0, x_ret hP9 ht⟩, hS.F ht⟩) hS.2.2 dX6_carryOut_90
          · have hF := k_if_f hF hc
            obtain ⟨x1_58, hn, hF⟩ := k_let_ex hF
            refine lv_iinc (v := x1_58) (lv' := [(1, .int x1_58), (0, .ref aM)]) hx hb dX6_carryOut_58 hl (k := 1) rfl (by rw [hn]; rfl) (by decide) rfl (fun ls hl => ?_)
            refine lv_aload_n hx hb dX6_carryOut_61 rfl (lv_at hl 1 rfl) ?_
            refine va_get (D := D) (ci := 6) (v := .ref aR) (C := RX6) (T := TX6) (N := 6) hx hb hts mi_X6_carryOut_X6 hown hK.1 hP 0 rfl rfl 4 (by decide) (hts _ mm_X6_carryOut_1) (fun _ h9 => h9) rfl dX6_carryOut_62 ?_
            refine lv_bipush (v := (59 : Int32)) hx hb dX6_carryOut_65 (by decide) ?_
            obtain ⟨r67, vrt_67, hC, hF⟩ := k_c2_ex hF
            refine x_VM (As := [.int (59 : Int32)]) (rest := []) ⟨hx, hb, hml, hown, hts⟩ (c_X2_skip l D cyI cyZ aP aPc aR aRn H.size N (59 : Int32) vpl vpp vra_45 vrk_45 vrt_45 hC) (cwV 1 hts gX6_carryOut_X2_skip rfl rfl rfl (by decide +kernel) ⟨Nat.le_of_ble_eq_true rfl, Nat.le_of_ble_eq_true rfl⟩) hK hP hD hS hA [5, 6, 7] rfl rfl rfl 7 rfl rfl rfl rfl hl.1 rfl (Nat.le_of_ble_eq_true rfl) ⟨Nat.zero_le _, Nat.zero_le _⟩ dX6_carryOut_67 (fun H locs hP hD hS => ?_)
            have hP : va_P D vwCl [(aM, .inr (6, [.ref aS, .ref aH, .ref aL, .ref aP, .ref aR, .ref aT])), (aS, .inr (3, [.ref aC])), (aC, .inl (cyI, 225, .inl vc_52)), (aH, .inr (0, [.ref aHs, .int vhf, .int vhl])), (aHs, .inl (cyI, 1575, .inl vhs)), (aP, .inr (1, [.ref aPc, .int vpl])), (aPc, .inl (cyI, 80, .inl vpp)), (aR, .inr (2, [.ref aP, .ref aRn, .int vra_45, .int vrk_45, .int vrt_67])), (aRn, .inl (cyI, 40, .inl vrn_45)), (aT, .inr (5, [.ref aTp, .int vtl_52, .int vta_52, .int vtt_52])), (aTp, .inl (cyI, 552, .inl vtp_52))] H := hP
            have hD : va_D A [(aM, .inr (6, [.ref aS, .ref aH, .ref aL, .ref aP, .ref aR, .ref aT])), (aS, .inr (3, [.ref aC])), (aC, .inl (cyI, 225, .inl vc_52)), (aH, .inr (0, [.ref aHs, .int vhf, .int vhl])), (aHs, .inl (cyI, 1575, .inl vhs)), (aP, .inr (1, [.ref aPc, .int vpl])), (aPc, .inl (cyI, 80, .inl vpp)), (aR, .inr (2, [.ref aP, .ref aRn, .int vra_45, .int vrk_45, .int vrt_67])), (aRn, .inl (cyI, 40, .inl vrn_45)), (aT, .inr (5, [.ref aTp, .int vtl_52, .int vta_52, .int vtt_52])), (aTp, .inl (cyI, 552, .inl vtp_52))] := hD
            refine lv_pop hx hb dX6_carryOut_70 rfl ?_
            refine lv_goto (tgt := 35) hx hb dX6_carryOut_71 (by decide) ?_
            exact (hG _ _ _).1 (ih_35 x1_58 vc_52 vhf vhl vhs vpl vra_45 vrk_45 vrt_67 vrn_45 vtl_52 vta_52 vtt_52 vtp_52 hF _ _ _ hP hD hS (lv_sub hl [1, 0] rfl))
  refine (hG _ _ _).2 ?_
  unfold p_X6_carryOut at hF
  refine lv_aload_n hx hb dX6_carryOut_0 rfl (lv_at hl 0 rfl) ?_
  refine va_get (D := D) (ci := 6) (v := .ref aR) (C := RX6) (T := TX6) (N := 6) hx hb hts mi_X6_carryOut_X6 hown hK.1 hP 0 rfl rfl 4 (by decide) (hts _ mm_X6_carryOut_1) (fun _ h9 => h9) rfl dX6_carryOut_1 ?_
  obtain ⟨r4, vra_4, vrk_4, vrt_4, vrn_4, hC, hF⟩ := k_c5_ex hF
  refine x_VM (As := []) (rest := []) ⟨hx, hb, hml, hown, hts⟩ (c_X2_firstFault l D cyI cyZ aP aPc aR aRn s.heap.size N vpl vpp vra vrk vrt vrn hC) (cwV 0 hts gX6_carryOut_X2_firstFault rfl rfl rfl (by decide +kernel) ⟨Nat.le_of_ble_eq_true rfl, Nat.le_of_ble_eq_true rfl⟩) hK hP hD hS hA [5, 6, 7, 8] rfl rfl rfl 7 rfl rfl rfl rfl hl.1 rfl (Nat.le_of_ble_eq_true rfl) ⟨Nat.zero_le _, Nat.zero_le _⟩ dX6_carryOut_4 (fun H locs hP hD hS => ?_)
  have hP : va_P D vwCl [(aM, .inr (6, [.ref aS, .ref aH, .ref aL, .ref aP, .ref aR, .ref aT])), (aS, .inr (3, [.ref aC])), (aC, .inl (cyI, 225, .inl vc)), (aH, .inr (0, [.ref aHs, .int vhf, .int vhl])), (aHs, .inl (cyI, 1575, .inl vhs)), (aP, .inr (1, [.ref aPc, .int vpl])), (aPc, .inl (cyI, 80, .inl vpp)), (aR, .inr (2, [.ref aP, .ref aRn, .int vra_4, .int vrk_4, .int vrt_4])), (aRn, .inl (cyI, 40, .inl vrn_4)), (aT, .inr (5, [.ref aTp, .int vtl, .int vta, .int vtt])), (aTp, .inl (cyI, 552, .inl vtp))] H := hP
  have hD : va_D A [(aM, .inr (6, [.ref aS, .ref aH, .ref aL, .ref aP, .ref aR, .ref aT])), (aS, .inr (3, [.ref aC])), (aC, .inl (cyI, 225, .inl vc)), (aH, .inr (0, [.ref aHs, .int vhf, .int vhl])), (aHs, .inl (cyI, 1575, .inl vhs)), (aP, .inr (1, [.ref aPc, .int vpl])), (aPc, .inl (cyI, 80, .inl vpp)), (aR, .inr (2, [.ref aP, .ref aRn, .int vra_4, .int vrk_4, .int vrt_4])), (aRn, .inl (cyI, 40, .inl vrn_4)), (aT, .inr (5, [.ref aTp, .int vtl, .int vta, .int vtt])), (aTp, .inl (cyI, 552, .inl vtp))] := hD
  refine lv_bipush (v := (-6 : Int32)) hx hb dX6_carryOut_7 (by decide) ?_
  refine lv_icmp_eq (tgt := 15) hx hb dX6_carryOut_9 (by decide) (fun hc => ?_) (fun hc => ?_)
  · have hF := k_if_t hF hc
    refine lv_aload_n hx hb dX6_carryOut_15 rfl (lv_at hl 0 rfl) ?_
    refine va_get (D := D) (ci := 6) (v := .ref aH) (C := RX6) (T := TX6) (N := 6) hx hb hts mi_X6_carryOut_X6 hown hK.1 hP 0 rfl rfl 1 (by decide) (hts _ mm_X6_carryOut_2) (fun _ h9 => h9) rfl dX6_carryOut_16 ?_
    refine lv_aload_n hx hb dX6_carryOut_19 rfl (lv_at hl 0 rfl) ?_
    refine va_get (D := D) (ci := 6) (v := .ref aS) (C := RX6) (T := TX6) (N := 6) hx hb hts mi_X6_carryOut_X6 hown hK.1 hP 0 rfl rfl 0 (by decide) (hts _ mm_X6_carryOut_3) (fun _ h9 => h9) rfl dX6_carryOut_20 ?_
    obtain ⟨vhs_23, hC, hF⟩ := k_c1_ex hF
    refine x_VV (As := [.ref aS]) (rest := []) ⟨hx, hb, hml, hown, hts⟩ (c_X0_prepare l D cyI cyZ aS aC aH aHs H.size N vc vhf vhl vhs hC) (cwV 1 hts gX6_carryOut_X0_prepare rfl rfl rfl (by decide +kernel) ⟨Nat.le_of_ble_eq_true rfl, Nat.le_of_ble_eq_true rfl⟩) hK hP hD hS hA [1, 2, 3, 4] rfl rfl rfl 3 rfl rfl rfl rfl hl.1 rfl (Nat.le_of_ble_eq_true rfl) ⟨Nat.zero_le _, Nat.zero_le _⟩ dX6_carryOut_23 (fun H locs hP hD hS => ?_)
    have hP : va_P D vwCl [(aM, .inr (6, [.ref aS, .ref aH, .ref aL, .ref aP, .ref aR, .ref aT])), (aS, .inr (3, [.ref aC])), (aC, .inl (cyI, 225, .inl vc)), (aH, .inr (0, [.ref aHs, .int vhf, .int vhl])), (aHs, .inl (cyI, 1575, .inl vhs_23)), (aP, .inr (1, [.ref aPc, .int vpl])), (aPc, .inl (cyI, 80, .inl vpp)), (aR, .inr (2, [.ref aP, .ref aRn, .int vra_4, .int vrk_4, .int vrt_4])), (aRn, .inl (cyI, 40, .inl vrn_4)), (aT, .inr (5, [.ref aTp, .int vtl, .int vta, .int vtt])), (aTp, .inl (cyI, 552, .inl vtp))] H := hP
    have hD : va_D A [(aM, .inr (6, [.ref aS, .ref aH, .ref aL, .ref aP, .ref aR, .ref aT])), (aS, .inr (3, [.ref aC])), (aC, .inl (cyI, 225, .inl vc)), (aH, .inr (0, [.ref aHs, .int vhf, .int vhl])), (aHs, .inl (cyI, 1575, .inl vhs_23)), (aP, .inr (1, [.ref aPc, .int vpl])), (aPc, .inl (cyI, 80, .inl vpp)), (aR, .inr (2, [.ref aP, .ref aRn, .int vra_4, .int vrk_4, .int vrt_4])), (aRn, .inl (cyI, 40, .inl vrn_4)), (aT, .inr (5, [.ref aTp, .int vtl, .int vta, .int vtt])), (aTp, .inl (cyI, 552, .inl vtp))] := hD
    refine lv_aload_n hx hb dX6_carryOut_26 rfl (lv_at hl 0 rfl) ?_
    refine va_get (D := D) (ci := 6) (v := .ref aR) (C := RX6) (T := TX6) (N := 6) hx hb hts mi_X6_carryOut_X6 hown hK.1 hP 0 rfl rfl 4 (by decide) (hts _ mm_X6_carryOut_1) (fun _ h9 => h9) rfl dX6_carryOut_27 ?_
    obtain ⟨vrt_30, hC, hF⟩ := k_c1_ex hF
    refine x_VV (As := []) (rest := []) ⟨hx, hb, hml, hown, hts⟩ (c_X2_begin l D cyI cyZ aP aR aRn H.size N vra_4 vrk_4 vrt_4 hC) (cwV 0 hts gX6_carryOut_X2_begin rfl rfl rfl (by decide +kernel) ⟨Nat.le_of_ble_eq_true rfl, Nat.le_of_ble_eq_true rfl⟩) hK hP hD hS hA [7] rfl rfl rfl 7 rfl rfl rfl rfl hl.1 rfl (Nat.le_of_ble_eq_true rfl) ⟨Nat.zero_le _, Nat.zero_le _⟩ dX6_carryOut_30 (fun H locs hP hD hS => ?_)
    have hP : va_P D vwCl [(aM, .inr (6, [.ref aS, .ref aH, .ref aL, .ref aP, .ref aR, .ref aT])), (aS, .inr (3, [.ref aC])), (aC, .inl (cyI, 225, .inl vc)), (aH, .inr (0, [.ref aHs, .int vhf, .int vhl])), (aHs, .inl (cyI, 1575, .inl vhs_23)), (aP, .inr (1, [.ref aPc, .int vpl])), (aPc, .inl (cyI, 80, .inl vpp)), (aR, .inr (2, [.ref aP, .ref aRn, .int vra_4, .int vrk_4, .int vrt_30])), (aRn, .inl (cyI, 40, .inl vrn_4)), (aT, .inr (5, [.ref aTp, .int vtl, .int vta, .int vtt])), (aTp, .inl (cyI, 552, .inl vtp))] H := hP
    have hD : va_D A [(aM, .inr (6, [.ref aS, .ref aH, .ref aL, .ref aP, .ref aR, .ref aT])), (aS, .inr (3, [.ref aC])), (aC, .inl (cyI, 225, .inl vc)), (aH, .inr (0, [.ref aHs, .int vhf, .int vhl])), (aHs, .inl (cyI, 1575, .inl vhs_23)), (aP, .inr (1, [.ref aPc, .int vpl])), (aPc, .inl (cyI, 80, .inl vpp)), (aR, .inr (2, [.ref aP, .ref aRn, .int vra_4, .int vrk_4, .int vrt_30])), (aRn, .inl (cyI, 40, .inl vrn_4)), (aT, .inr (5, [.ref aTp, .int vtl, .int vta, .int vtt])), (aTp, .inl (cyI, 552, .inl vtp))] := hD
    refine lv_iconst (v := (0 : Int32)) hx hb dX6_carryOut_33 (by decide) ?_
    refine lv_istore_n (lv' := [(1, .int (0 : Int32)), (0, .ref aM)]) hx hb dX6_carryOut_34 rfl hl (by decide) rfl (fun ls hl => ?_)
    exact (hG _ _ _).1 (blk_35 N (0 : Int32) vc vhf vhl vhs_23 vpl vra_4 vrk_4 vrt_30 vrn_4 vtl vta vtt vtp hF _ _ _ hP hD hS (lv_sub hl [1, 0] rfl))
  · have hF := k_if_f hF hc
    refine lv_bipush (v := (-3 : Int32)) hx hb dX6_carryOut_12 (by decide) ?_
    obtain ⟨e0, e1, e2, e3, e4, e5, e6, e7, e8, e9, e10, e11, e12, e13⟩ := k_inj14 hF
    have hP9 : va_P D vwCl [(aM, .inr (6, [.ref aS, .ref aH, .ref aL, .ref aP, .ref aR, .ref aT])), (aS, .inr (3, [.ref aC])), (aC, .inl (cyI, 225, .inl vc')), (aH, .inr (0, [.ref aHs, .int vhf', .int vhl'])), (aHs, .inl (cyI, 1575, .inl vhs')), (aP, .inr (1, [.ref aPc, .int vpl'])), (aPc, .inl (cyI, 80, .inl vpp)), (aR, .inr (2, [.ref aP, .ref aRn, .int vra', .int vrk', .int vrt'])), (aRn, .inl (cyI, 40, .inl vrn')), (aT, .inr (5, [.ref aTp, .int vtl', .int vta', .int vtt'])), (aTp, .inl (cyI, 552, .inl vtp'))] H := by rw [← e1, ← e2, ← e3, ← e4, ← e5, ← e6, ← e7, ← e8, ← e9, ← e10, ← e11, ← e12, ← e13]; exact hP
    exact W.iret hx hb hr (fun t ht hW => ⟨⟨_, (), rfl, e0, x_ret hP9 ht⟩, hS.F ht⟩) hS.2.2 dX6_carryOut_14
set_option maxHeartbeats 4000000 in
set_option maxRecDepth 100000 in
theorem c_X6_questionError (l : Launch) (D : va_G) (cyI cyZ : ClassId) (aM aS aC aH aL aP aR aT : Nat) (N : Nat) (x1 : Int32) (x2 : Int32) (x3 : Int32) (x4 : Int32) (x5 : Int32) (x6 : Int32) (vc : (Nat → Int32)) {r0 : Int32}  (hF : p_X6_questionError N x1 x2 x3 x4 x5 x6 vc = some (r0)) : Met l yX6_questionError wsX6_questionError ({ frames := 3, cells := 0, slots := 0, locals := 67 }) (x_PR D cyI cyZ [.ref aM, .int x1, .int x2, .int x3, .int x4, .int x5, .int x6] [(aM, .inr (6, [.ref aS, .ref aH, .ref aL, .ref aP, .ref aR, .ref aT])), (aS, .inr (3, [.ref aC])), (aC, .inl (cyI, 225, .inl vc))]) (x_QR r0) 0 0 (fun _ => False) := by
  refine Met.ofW (cc := cX6_questionError) (maxL := 8) (ret := (some .int)) (by decide) rfl ?_
  intro p e s m args below meth c s₁ B hml hv
  obtain ⟨rfl, hP, hK⟩ := hv
  have hx := B.exec
  have hb := B.bytes
  have hr := B.returns
  have hts := atoms_spec (ws := wsX6_questionError) B.pre
  have hown : s.vm.findClass RX6 = some m.cls := findClass_of_methodNamed B.named
  have hlocks := B.notSynchronized
  have hS : va_S (fun _ => False) s.heap s.heap [] := va_S.rf
  have hP : va_P D vwCl [(aM, .inr (6, [.ref aS, .ref aH, .ref aL, .ref aP, .ref aR, .ref aT])), (aS, .inr (3, [.ref aC])), (aC, .inl (cyI, 225, .inl vc))] s.heap := hP
  have hl := lv_entry ([.ref aM, .int x1, .int x2, .int x3, .int x4, .int x5, .int x6]) (n := 8) (Nat.le_of_ble_eq_true rfl)
  rw [lg_entry_eq]
  generalize (lg_sl ([.ref aM, .int x1, .int x2, .int x3, .int x4, .int x5, .int x6]) ++ List.replicate (8 - (lg_sl ([.ref aM, .int x1, .int x2, .int x3, .int x4, .int x5, .int x6])).length) Slot.unset).toArray = ls at hl ⊢
  have hl : lv_has ls 8 [(0, .ref aM), (1, .int x1), (2, .int x2), (3, .int x3), (4, .int x4), (5, .int x5), (6, .int x6)] := hl
  unfold p_X6_questionError at hF
  refine lv_aload_n hx hb dX6_questionError_0 rfl (lv_at hl 0 rfl) ?_
  refine lv_iload_n hx hb dX6_questionError_1 rfl (lv_at hl 1 rfl) ?_
  refine lv_iload_n hx hb dX6_questionError_2 rfl (lv_at hl 2 rfl) ?_
  refine lv_iload_n hx hb dX6_questionError_3 rfl (lv_at hl 3 rfl) ?_
  refine lv_iload hx hb dX6_questionError_4 (lv_at hl 4 rfl) ?_
  obtain ⟨r6, hC, hF⟩ := k_c1_ex hF
  refine x_VR (As := [.int x1, .int x2, .int x3, .int x4]) (rest := []) ⟨hx, hb, hml, hown, hts⟩ (c_X6_pairError l D cyI cyZ aM aS aC aH aL aP aR aT N x1 x2 x3 x4 vc hC) (cwV 4 hts gX6_questionError_X6_pairError rfl rfl rfl (by decide +kernel) ⟨Nat.le_of_ble_eq_true rfl, Nat.le_of_ble_eq_true rfl⟩) hK hP hS [0, 1, 2] rfl 0 rfl rfl rfl rfl hl.1 rfl (Nat.le_of_ble_eq_true rfl) ⟨Nat.zero_le _, Nat.zero_le _⟩ dX6_questionError_6 (fun H locs hP hS => ?_)
  refine lv_istore (lv' := [(7, .int r6), (0, .ref aM), (1, .int x1), (2, .int x2), (3, .int x3), (4, .int x4), (5, .int x5), (6, .int x6)]) hx hb dX6_questionError_9 hl (by decide) rfl (fun ls hl => ?_)
  refine lv_iload hx hb dX6_questionError_11 (lv_at hl 0 rfl) ?_
  refine lv_if_eq (tgt := 19) hx hb dX6_questionError_13 (by decide) (fun hc => ?_) (fun hc => ?_)
  · have hF := k_if_t hF hc
    refine lv_iload hx hb dX6_questionError_19 (lv_at hl 6 rfl) ?_
    refine lv_iconst (v := (0 : Int32)) hx hb dX6_questionError_21 (by decide) ?_
    refine lv_iload hx hb dX6_questionError_22 (lv_at hl 7 rfl) ?_
    obtain ⟨r24, hC, hF⟩ := k_c1_ex hF
    refine x_SR (As := [.int x5, .int (0 : Int32), .int x6]) (rest := []) ⟨hx, hb, hml, hown, hts⟩ (c_X6_outside l D cyI cyZ N x5 (0 : Int32) x6 hC) (va_cwS 3 hts gX6_questionError_X6_outside rfl rfl rfl (by decide +kernel) ⟨Nat.le_of_ble_eq_true rfl, Nat.le_of_ble_eq_true rfl⟩) hK hP hS [] rfl rfl hl.1 rfl (Nat.le_of_ble_eq_true rfl) ⟨Nat.zero_le _, Nat.zero_le _⟩ dX6_questionError_24 (fun H locs hP hS => ?_)
    refine lv_if_eq (tgt := 35) hx hb dX6_questionError_27 (by decide) (fun hc => ?_) (fun hc => ?_)
    · have hF := k_if_t hF hc
      refine lv_iconst (v := (0 : Int32)) hx hb dX6_questionError_35 (by decide) ?_
      exact W.iret hx hb hr (fun t ht hW => ⟨⟨_, (), rfl, Option.some.inj hF, trivial⟩, hS.F ht⟩) hS.2.2 dX6_questionError_36
    · have hF := k_if_f hF hc
      refine lv_bipush (v := (-2 : Int32)) hx hb dX6_questionError_30 (by decide) ?_
      refine lv_goto (tgt := 36) hx hb dX6_questionError_32 (by decide) ?_
      exact W.iret hx hb hr (fun t ht hW => ⟨⟨_, (), rfl, Option.some.inj hF, trivial⟩, hS.F ht⟩) hS.2.2 dX6_questionError_36
  · have hF := k_if_f hF hc
    refine lv_iload hx hb dX6_questionError_16 (lv_at hl 0 rfl) ?_
    exact W.iret hx hb hr (fun t ht hW => ⟨⟨_, (), rfl, Option.some.inj hF, trivial⟩, hS.F ht⟩) hS.2.2 dX6_questionError_18
theorem mm_X6_pair_1 : Cond.fieldLink RX6 49 "RollerMesh" "turn" "LRollerMesh$Turn;" ∈ wsX6_pair := List.mem_of_getElem? (i := 1) rfl
theorem mm_X6_pair_2 : Cond.fieldLink RX6 10 "RollerMesh" "shop" "LRollerMesh$Shop;" ∈ wsX6_pair := List.mem_of_getElem? (i := 2) rfl
theorem mi_X6_pair_X6 : ∀ w ∈ wsX60, w ∈ wsX6_pair := fun _ h => List.mem_cons_of_mem _ (List.mem_append_left _ (List.mem_append_left _ (List.mem_append_right _ h)))
set_option maxHeartbeats 4000000 in
set_option maxRecDepth 100000 in
theorem c_X6_pair (l : Launch) (D : va_G) (cyI cyZ : ClassId) (aM aS aC aH aL aP aR aT aTp : Nat) (sz : Nat) (N : Nat) (x1 : Int32) (x2 : Int32) (x3 : Int32) (x4 : Int32) (x5 : Int32) (vc : (Nat → Int32)) (vtl : Int32) (vta : Int32) (vtt : Int32) (vtp : (Nat → Int32)) {r0 : Int32} {vtl' : Int32} {vtp' : (Nat → Int32)} (hF : p_X6_pair N x1 x2 x3 x4 x5 vc vtl vta vtt vtp = some (r0, vtl', vtp')) : Met l yX6_pair wsX6_pair ({ frames := 4, cells := 0, slots := 0, locals := 94 }) (x_PM D cyI cyZ [.ref aM, .int x1, .int x2, .int x3, .int x4, .int x5] [(aM, .inr (6, [.ref aS, .ref aH, .ref aL, .ref aP, .ref aR, .ref aT])), (aS, .inr (3, [.ref aC])), (aC, .inl (cyI, 225, .inl vc)), (aT, .inr (5, [.ref aTp, .int vtl, .int vta, .int vtt])), (aTp, .inl (cyI, 552, .inl vtp))] sz) (x_QM D r0 (va_A [(aM, .inr (6, [.ref aS, .ref aH, .ref aL, .ref aP, .ref aR, .ref aT])), (aS, .inr (3, [.ref aC])), (aC, .inl (cyI, 225, .inl vc)), (aT, .inr (5, [.ref aTp, .int vtl, .int vta, .int vtt])), (aTp, .inl (cyI, 552, .inl vtp))] sz) [(aM, .inr (6, [.ref aS, .ref aH, .ref aL, .ref aP, .ref aR, .ref aT])), (aS, .inr (3, [.ref aC])), (aC, .inl (cyI, 225, .inl vc)), (aT, .inr (5, [.ref aTp, .int vtl', .int vta, .int vtt])), (aTp, .inl (cyI, 552, .inl vtp'))]) 0 0 (va_A [(aM, .inr (6, [.ref aS, .ref aH, .ref aL, .ref aP, .ref aR, .ref aT])), (aS, .inr (3, [.ref aC])), (aC, .inl (cyI, 225, .inl vc)), (aT, .inr (5, [.ref aTp, .int vtl, .int vta, .int vtt])), (aTp, .inl (cyI, 552, .inl vtp))] sz) := by
  refine Met.ofW (cc := cX6_pair) (maxL := 7) (ret := (some .int)) (by decide) rfl ?_
  intro p e s m args below meth c s₁ B hml hv
  obtain ⟨rfl, hsz, hP, hK, hD0⟩ := hv
  have hx := B.exec
  have hb := B.bytes
  have hr := B.returns
  have hts := atoms_spec (ws := wsX6_pair) B.pre
  have hown : s.vm.findClass RX6 = some m.cls := findClass_of_methodNamed B.named
  have hlocks := B.notSynchronized
  subst hsz
  have hD := hD0.self (sz := s.heap.size)
  generalize hAe : va_A [(aM, .inr (6, [.ref aS, .ref aH, .ref aL, .ref aP, .ref aR, .ref aT])), (aS, .inr (3, [.ref aC])), (aC, .inl (cyI, 225, .inl vc)), (aT, .inr (5, [.ref aTp, .int vtl, .int vta, .int vtt])), (aTp, .inl (cyI, 552, .inl vtp))] s.heap.size = A at hD ⊢
  have hA : ∀ q : Nat, s.heap.size ≤ q → A q := fun q h => by rw [← hAe]; exact Or.inr h
  have hS : va_S A s.heap s.heap [] := va_S.rf
  have hP : va_P D vwCl [(aM, .inr (6, [.ref aS, .ref aH, .ref aL, .ref aP, .ref aR, .ref aT])), (aS, .inr (3, [.ref aC])), (aC, .inl (cyI, 225, .inl vc)), (aT, .inr (5, [.ref aTp, .int vtl, .int vta, .int vtt])), (aTp, .inl (cyI, 552, .inl vtp))] s.heap := hP
  have hl := lv_entry ([.ref aM, .int x1, .int x2, .int x3, .int x4, .int x5]) (n := 7) (Nat.le_of_ble_eq_true rfl)
  rw [lg_entry_eq]
  generalize (lg_sl ([.ref aM, .int x1, .int x2, .int x3, .int x4, .int x5]) ++ List.replicate (7 - (lg_sl ([.ref aM, .int x1, .int x2, .int x3, .int x4, .int x5])).length) Slot.unset).toArray = ls at hl ⊢
  have hl : lv_has ls 7 [(0, .ref aM), (1, .int x1), (2, .int x2), (3, .int x3), (4, .int x4), (5, .int x5)] := hl
  unfold p_X6_pair at hF
  refine lv_aload_n hx hb dX6_pair_0 rfl (lv_at hl 0 rfl) ?_
  refine lv_iload_n hx hb dX6_pair_1 rfl (lv_at hl 1 rfl) ?_
  refine lv_iload_n hx hb dX6_pair_2 rfl (lv_at hl 2 rfl) ?_
  refine lv_iload_n hx hb dX6_pair_3 rfl (lv_at hl 3 rfl) ?_
  refine lv_iload hx hb dX6_pair_4 (lv_at hl 4 rfl) ?_
  refine lv_iload hx hb dX6_pair_6 (lv_at hl 5 rfl) ?_
  refine lv_iconst (v := (3 : Int32)) hx hb dX6_pair_8 (by decide) ?_
  obtain ⟨r9, hC, hF⟩ := k_c1_ex hF
  refine x_VR (As := [.int x1, .int x2, .int x3, .int x4, .int x5, .int (3 : Int32)]) (rest := []) ⟨hx, hb, hml, hown, hts⟩ (c_X6_questionError l D cyI cyZ aM aS aC aH aL aP aR aT N x1 x2 x3 x4 x5 (3 : Int32) vc hC) (cwV 6 hts gX6_pair_X6_questionError rfl rfl rfl (by decide +kernel) ⟨Nat.le_of_ble_eq_true rfl, Nat.le_of_ble_eq_true rfl⟩) hK hP hS [0, 1, 2] rfl 0 rfl rfl rfl rfl hl.1 rfl (Nat.le_of_ble_eq_true rfl) ⟨Nat.zero_le _, Nat.zero_le _⟩ dX6_pair_9 (fun H locs hP hS => ?_)
  refine lv_istore (lv' := [(6, .int r9), (0, .ref aM), (1, .int x1), (2, .int x2), (3, .int x3), (4, .int x4), (5, .int x5)]) hx hb dX6_pair_12 hl (by decide) rfl (fun ls hl => ?_)
  refine lv_iload hx hb dX6_pair_14 (lv_at hl 0 rfl) ?_
  refine lv_if_eq (tgt := 22) hx hb dX6_pair_16 (by decide) (fun hc => ?_) (fun hc => ?_)
  · have hF := k_if_t hF hc
    refine lv_aload_n hx hb dX6_pair_22 rfl (lv_at hl 1 rfl) ?_
    refine va_get (D := D) (ci := 6) (v := .ref aT) (C := RX6) (T := TX6) (N := 6) hx hb hts mi_X6_pair_X6 hown hK.1 hP 0 rfl rfl 5 (by decide) (hts _ mm_X6_pair_1) (fun _ h9 => h9) rfl dX6_pair_23 ?_
    refine lv_aload_n hx hb dX6_pair_26 rfl (lv_at hl 1 rfl) ?_
    refine va_get (D := D) (ci := 6) (v := .ref aS) (C := RX6) (T := TX6) (N := 6) hx hb hts mi_X6_pair_X6 hown hK.1 hP 0 rfl rfl 0 (by decide) (hts _ mm_X6_pair_2) (fun _ h9 => h9) rfl dX6_pair_27 ?_
    refine lv_iload_n hx hb dX6_pair_30 rfl (lv_at hl 2 rfl) ?_
    refine lv_iload_n hx hb dX6_pair_31 rfl (lv_at hl 3 rfl) ?_
    refine lv_iload_n hx hb dX6_pair_32 rfl (lv_at hl 4 rfl) ?_
    refine lv_iload hx hb dX6_pair_33 (lv_at hl 5 rfl) ?_
    obtain ⟨vtl_35, vtp_35, hC, hF⟩ := k_c2_ex hF
    refine x_VV (As := [.ref aS, .int x1, .int x2, .int x3, .int x4]) (rest := []) ⟨hx, hb, hml, hown, hts⟩ (c_X5_lay l D cyI cyZ aS aC aT aTp H.size N x1 x2 x3 x4 vc vtl vta vtt vtp hC) (cwV 5 hts gX6_pair_X5_lay rfl rfl rfl (by decide +kernel) ⟨Nat.le_of_ble_eq_true rfl, Nat.le_of_ble_eq_true rfl⟩) hK hP hD hS hA [1, 2, 3, 4] rfl rfl rfl 3 rfl rfl rfl rfl hl.1 rfl (Nat.le_of_ble_eq_true rfl) ⟨Nat.zero_le _, Nat.zero_le _⟩ dX6_pair_35 (fun H locs hP hD hS => ?_)
    have hP : va_P D vwCl [(aM, .inr (6, [.ref aS, .ref aH, .ref aL, .ref aP, .ref aR, .ref aT])), (aS, .inr (3, [.ref aC])), (aC, .inl (cyI, 225, .inl vc)), (aT, .inr (5, [.ref aTp, .int vtl_35, .int vta, .int vtt])), (aTp, .inl (cyI, 552, .inl vtp_35))] H := hP
    have hD : va_D A [(aM, .inr (6, [.ref aS, .ref aH, .ref aL, .ref aP, .ref aR, .ref aT])), (aS, .inr (3, [.ref aC])), (aC, .inl (cyI, 225, .inl vc)), (aT, .inr (5, [.ref aTp, .int vtl_35, .int vta, .int vtt])), (aTp, .inl (cyI, 552, .inl vtp_35))] := hD
    refine lv_iload hx hb dX6_pair_38 (lv_at hl 6 rfl) ?_
    by_cases h0 : x5 = (0 : Int32)
    · have hF := k_if_t hF h0
      refine lv_tableIn (tgt := 68) (off := 28) hx hb dX6_pair_40 (by rw [h0]; decide) (by rw [h0]; decide) (by rw [h0]; decide) (by decide) ?_
      refine lv_aload_n hx hb dX6_pair_68 rfl (lv_at hl 1 rfl) ?_
      refine va_get (D := D) (ci := 6) (v := .ref aT) (C := RX6) (T := TX6) (N := 6) hx hb hts mi_X6_pair_X6 hown hK.1 hP 0 rfl rfl 5 (by decide) (hts _ mm_X6_pair_1) (fun _ h9 => h9) rfl dX6_pair_69 ?_
      obtain ⟨r72, hC, hF⟩ := k_c1_ex hF
      refine x_VR (As := []) (rest := []) ⟨hx, hb, hml, hown, hts⟩ (c_X5_length l D cyI cyZ aT aTp N vtl_35 vta vtt hC) (cwV 0 hts gX6_pair_X5_length rfl rfl rfl (by decide +kernel) ⟨Nat.le_of_ble_eq_true rfl, Nat.le_of_ble_eq_true rfl⟩) hK hP hS [3] rfl 3 rfl rfl rfl rfl hl.1 rfl (Nat.le_of_ble_eq_true rfl) ⟨Nat.zero_le _, Nat.zero_le _⟩ dX6_pair_72 (fun H locs hP hS => ?_)
      obtain ⟨e0, e1, e2⟩ := k_inj3 hF
      have hP9 : va_P D vwCl [(aM, .inr (6, [.ref aS, .ref aH, .ref aL, .ref aP, .ref aR, .ref aT])), (aS, .inr (3, [.ref aC])), (aC, .inl (cyI, 225, .inl vc)), (aT, .inr (5, [.ref aTp, .int vtl', .int vta, .int vtt])), (aTp, .inl (cyI, 552, .inl vtp'))] H := by rw [← e1, ← e2]; exact hP
      exact W.iret hx hb hr (fun t ht hW => ⟨⟨_, (), rfl, e0, x_ret hP9 ht⟩, hS.F ht⟩) hS.2.2 dX6_pair_75
    · have hF := k_if_f hF h0
      by_cases h1 : x5 = (1 : Int32)
      · have hF := k_if_t hF h1
        refine lv_tableIn (tgt := 76) (off := 36) hx hb dX6_pair_40 (by rw [h1]; decide) (by rw [h1]; decide) (by rw [h1]; decide) (by decide) ?_
        refine lv_aload_n hx hb dX6_pair_76 rfl (lv_at hl 1 rfl) ?_
        refine va_get (D := D) (ci := 6) (v := .ref aT) (C := RX6) (T := TX6) (N := 6) hx hb hts mi_X6_pair_X6 hown hK.1 hP 0 rfl rfl 5 (by decide) (hts _ mm_X6_pair_1) (fun _ h9 => h9) rfl dX6_pair_77 ?_
        obtain ⟨r80, hC, hF⟩ := k_c1_ex hF
        refine x_VR (As := []) (rest := []) ⟨hx, hb, hml, hown, hts⟩ (c_X5_leastPress l D cyI cyZ aT aTp N vtl_35 vta vtt vtp_35 hC) (cwV 0 hts gX6_pair_X5_leastPress rfl rfl rfl (by decide +kernel) ⟨Nat.le_of_ble_eq_true rfl, Nat.le_of_ble_eq_true rfl⟩) hK hP hS [3, 4] rfl 3 rfl rfl rfl rfl hl.1 rfl (Nat.le_of_ble_eq_true rfl) ⟨Nat.zero_le _, Nat.zero_le _⟩ dX6_pair_80 (fun H locs hP hS => ?_)
        refine lv_bipush (v := (100 : Int32)) hx hb dX6_pair_83 (by decide) ?_
        refine lv_iadd hx hb dX6_pair_85 ?_
        obtain ⟨e0, e1, e2⟩ := k_inj3 hF
        have hP9 : va_P D vwCl [(aM, .inr (6, [.ref aS, .ref aH, .ref aL, .ref aP, .ref aR, .ref aT])), (aS, .inr (3, [.ref aC])), (aC, .inl (cyI, 225, .inl vc)), (aT, .inr (5, [.ref aTp, .int vtl', .int vta, .int vtt])), (aTp, .inl (cyI, 552, .inl vtp'))] H := by rw [← e1, ← e2]; exact hP
        exact W.iret hx hb hr (fun t ht hW => ⟨⟨_, (), rfl, e0, x_ret hP9 ht⟩, hS.F ht⟩) hS.2.2 dX6_pair_86
      · have hF := k_if_f hF h1
        by_cases h2 : x5 = (2 : Int32)
        · have hF := k_if_t hF h2
          refine lv_tableIn (tgt := 87) (off := 47) hx hb dX6_pair_40 (by rw [h2]; decide) (by rw [h2]; decide) (by rw [h2]; decide) (by decide) ?_
          refine lv_aload_n hx hb dX6_pair_87 rfl (lv_at hl 1 rfl) ?_
          refine va_get (D := D) (ci := 6) (v := .ref aT) (C := RX6) (T := TX6) (N := 6) hx hb hts mi_X6_pair_X6 hown hK.1 hP 0 rfl rfl 5 (by decide) (hts _ mm_X6_pair_1) (fun _ h9 => h9) rfl dX6_pair_88 ?_
          obtain ⟨r91, hC, hF⟩ := k_c1_ex hF
          refine x_VR (As := []) (rest := []) ⟨hx, hb, hml, hown, hts⟩ (c_X5_greatestPress l D cyI cyZ aT aTp N vtl_35 vta vtt vtp_35 hC) (cwV 0 hts gX6_pair_X5_greatestPress rfl rfl rfl (by decide +kernel) ⟨Nat.le_of_ble_eq_true rfl, Nat.le_of_ble_eq_true rfl⟩) hK hP hS [3, 4] rfl 3 rfl rfl rfl rfl hl.1 rfl (Nat.le_of_ble_eq_true rfl) ⟨Nat.zero_le _, Nat.zero_le _⟩ dX6_pair_91 (fun H locs hP hS => ?_)
          refine lv_bipush (v := (100 : Int32)) hx hb dX6_pair_94 (by decide) ?_
          refine lv_iadd hx hb dX6_pair_96 ?_
          obtain ⟨e0, e1, e2⟩ := k_inj3 hF
          have hP9 : va_P D vwCl [(aM, .inr (6, [.ref aS, .ref aH, .ref aL, .ref aP, .ref aR, .ref aT])), (aS, .inr (3, [.ref aC])), (aC, .inl (cyI, 225, .inl vc)), (aT, .inr (5, [.ref aTp, .int vtl', .int vta, .int vtt])), (aTp, .inl (cyI, 552, .inl vtp'))] H := by rw [← e1, ← e2]; exact hP
          exact W.iret hx hb hr (fun t ht hW => ⟨⟨_, (), rfl, e0, x_ret hP9 ht⟩, hS.F ht⟩) hS.2.2 dX6_pair_97
        · have hF := k_if_f hF h2
          have q0 := lv_neT (k := (0 : Int32)) (a := 0) h0 (by decide)
          have q1 := lv_neT (k := (1 : Int32)) (a := 1) h1 (by decide)
          have q2 := lv_neT (k := (2 : Int32)) (a := 2) h2 (by decide)
          refine lv_tableOut (tgt := 98) hx hb dX6_pair_40 (by omega) (by decide) ?_
          refine lv_aload_n hx hb dX6_pair_98 rfl (lv_at hl 1 rfl) ?_
          refine va_get (D := D) (ci := 6) (v := .ref aT) (C := RX6) (T := TX6) (N := 6) hx hb hts mi_X6_pair_X6 hown hK.1 hP 0 rfl rfl 5 (by decide) (hts _ mm_X6_pair_1) (fun _ h9 => h9) rfl dX6_pair_99 ?_
          refine lv_aload_n hx hb dX6_pair_102 rfl (lv_at hl 1 rfl) ?_
          refine va_get (D := D) (ci := 6) (v := .ref aS) (C := RX6) (T := TX6) (N := 6) hx hb hts mi_X6_pair_X6 hown hK.1 hP 0 rfl rfl 0 (by decide) (hts _ mm_X6_pair_2) (fun _ h9 => h9) rfl dX6_pair_103 ?_
          refine lv_iconst (v := (0 : Int32)) hx hb dX6_pair_106 (by decide) ?_
          obtain ⟨r107, hC, hF⟩ := k_c1_ex hF
          refine x_VR (As := [.int (0 : Int32)]) (rest := [.ref aT]) ⟨hx, hb, hml, hown, hts⟩ (c_X3_setting l D cyI cyZ aS aC N (0 : Int32) vc hC) (cwV 1 hts gX6_pair_X3_setting rfl rfl rfl (by decide +kernel) ⟨Nat.le_of_ble_eq_true rfl, Nat.le_of_ble_eq_true rfl⟩) hK hP hS [1, 2] rfl 1 rfl rfl rfl rfl hl.1 rfl (Nat.le_of_ble_eq_true rfl) ⟨Nat.zero_le _, Nat.zero_le _⟩ dX6_pair_107 (fun H locs hP hS => ?_)
          obtain ⟨r110, hC, hF⟩ := k_c1_ex hF
          refine x_VR (As := [.int r107]) (rest := []) ⟨hx, hb, hml, hown, hts⟩ (c_X5_meshes l D cyI cyZ aT aTp N r107 vtl_35 vta vtt vtp_35 hC) (cwV 1 hts gX6_pair_X5_meshes rfl rfl rfl (by decide +kernel) ⟨Nat.le_of_ble_eq_true rfl, Nat.le_of_ble_eq_true rfl⟩) hK hP hS [3, 4] rfl 3 rfl rfl rfl rfl hl.1 rfl (Nat.le_of_ble_eq_true rfl) ⟨Nat.zero_le _, Nat.zero_le _⟩ dX6_pair_110 (fun H locs hP hS => ?_)
          refine lv_if_eq (tgt := 120) hx hb dX6_pair_113 (by decide) (fun hc => ?_) (fun hc => ?_)
          · have hF := k_if_t hF hc
            refine lv_iconst (v := (0 : Int32)) hx hb dX6_pair_120 (by decide) ?_
            obtain ⟨e0, e1, e2⟩ := k_inj3 hF
            have hP9 : va_P D vwCl [(aM, .inr (6, [.ref aS, .ref aH, .ref aL, .ref aP, .ref aR, .ref aT])), (aS, .inr (3, [.ref aC])), (aC, .inl (cyI, 225, .inl vc)), (aT, .inr (5, [.ref aTp, .int vtl', .int vta, .int vtt])), (aTp, .inl (cyI, 552, .inl vtp'))] H := by rw [← e1, ← e2]; exact hP
            exact W.iret hx hb hr (fun t ht hW => ⟨⟨_, (), rfl, e0, x_ret hP9 ht⟩, hS.F ht⟩) hS.2.2 dX6_pair_121
          · have hF := k_if_f hF hc
            refine lv_iconst (v := (1 : Int32)) hx hb dX6_pair_116 (by decide) ?_
            refine lv_goto (tgt := 121) hx hb dX6_pair_117 (by decide) ?_
            obtain ⟨e0, e1, e2⟩ := k_inj3 hF
            have hP9 : va_P D vwCl [(aM, .inr (6, [.ref aS, .ref aH, .ref aL, .ref aP, .ref aR, .ref aT])), (aS, .inr (3, [.ref aC])), (aC, .inl (cyI, 225, .inl vc)), (aT, .inr (5, [.ref aTp, .int vtl', .int vta, .int vtt])), (aTp, .inl (cyI, 552, .inl vtp'))] H := by rw [← e1, ← e2]; exact hP
            exact W.iret hx hb hr (fun t ht hW => ⟨⟨_, (), rfl, e0, x_ret hP9 ht⟩, hS.F ht⟩) hS.2.2 dX6_pair_121
  · have hF := k_if_f hF hc
    refine lv_iload hx hb dX6_pair_19 (lv_at hl 0 rfl) ?_
    obtain ⟨e0, e1, e2⟩ := k_inj3 hF
    have hP9 : va_P D vwCl [(aM, .inr (6, [.ref aS, .ref aH, .ref aL, .ref aP, .ref aR, .ref aT])), (aS, .inr (3, [.ref aC])), (aC, .inl (cyI, 225, .inl vc)), (aT, .inr (5, [.ref aTp, .int vtl', .int vta, .int vtt])), (aTp, .inl (cyI, 552, .inl vtp'))] H := by rw [← e1, ← e2]; exact hP
    exact W.iret hx hb hr (fun t ht hW => ⟨⟨_, (), rfl, e0, x_ret hP9 ht⟩, hS.F ht⟩) hS.2.2 dX6_pair_21
theorem mm_X6_why_1 : Cond.fieldLink RX6 49 "RollerMesh" "turn" "LRollerMesh$Turn;" ∈ wsX6_why := List.mem_of_getElem? (i := 1) rfl
theorem mm_X6_why_2 : Cond.fieldLink RX6 10 "RollerMesh" "shop" "LRollerMesh$Shop;" ∈ wsX6_why := List.mem_of_getElem? (i := 2) rfl
theorem mi_X6_why_X6 : ∀ w ∈ wsX60, w ∈ wsX6_why := fun _ h => List.mem_cons_of_mem _ (List.mem_append_left _ (List.mem_append_left _ (List.mem_append_right _ h)))
set_option maxHeartbeats 4000000 in
set_option maxRecDepth 100000 in
theorem c_X6_why (l : Launch) (D : va_G) (cyI cyZ : ClassId) (aM aS aC aH aL aP aR aT aTp : Nat) (sz : Nat) (N : Nat) (x1 : Int32) (x2 : Int32) (x3 : Int32) (x4 : Int32) (x5 : Int32) (vc : (Nat → Int32)) (vtl : Int32) (vta : Int32) (vtt : Int32) (vtp : (Nat → Int32)) {r0 : Int32} {vtl' : Int32} {vtp' : (Nat → Int32)} (hF : p_X6_why N x1 x2 x3 x4 x5 vc vtl vta vtt vtp = some (r0, vtl', vtp')) : Met l yX6_why wsX6_why ({ frames := 4, cells := 0, slots := 0, locals := 94 }) (x_PM D cyI cyZ [.ref aM, .int x1, .int x2, .int x3, .int x4, .int x5] [(aM, .inr (6, [.ref aS, .ref aH, .ref aL, .ref aP, .ref aR, .ref aT])), (aS, .inr (3, [.ref aC])), (aC, .inl (cyI, 225, .inl vc)), (aT, .inr (5, [.ref aTp, .int vtl, .int vta, .int vtt])), (aTp, .inl (cyI, 552, .inl vtp))] sz) (x_QM D r0 (va_A [(aM, .inr (6, [.ref aS, .ref aH, .ref aL, .ref aP, .ref aR, .ref aT])), (aS, .inr (3, [.ref aC])), (aC, .inl (cyI, 225, .inl vc)), (aT, .inr (5, [.ref aTp, .int vtl, .int vta, .int vtt])), (aTp, .inl (cyI, 552, .inl vtp))] sz) [(aM, .inr (6, [.ref aS, .ref aH, .ref aL, .ref aP, .ref aR, .ref aT])), (aS, .inr (3, [.ref aC])), (aC, .inl (cyI, 225, .inl vc)), (aT, .inr (5, [.ref aTp, .int vtl', .int vta, .int vtt])), (aTp, .inl (cyI, 552, .inl vtp'))]) 0 0 (va_A [(aM, .inr (6, [.ref aS, .ref aH, .ref aL, .ref aP, .ref aR, .ref aT])), (aS, .inr (3, [.ref aC])), (aC, .inl (cyI, 225, .inl vc)), (aT, .inr (5, [.ref aTp, .int vtl, .int vta, .int vtt])), (aTp, .inl (cyI, 552, .inl vtp))] sz) := by
  refine Met.ofW (cc := cX6_why) (maxL := 8) (ret := (some .int)) (by decide) rfl ?_
  intro p e s m args below meth c s₁ B hml hv
  obtain ⟨rfl, hsz, hP, hK, hD0⟩ := hv
  have hx := B.exec
  have hb := B.bytes
  have hr := B.returns
  have hts := atoms_spec (ws := wsX6_why) B.pre
  have hown : s.vm.findClass RX6 = some m.cls := findClass_of_methodNamed B.named
  have hlocks := B.notSynchronized
  subst hsz
  have hD := hD0.self (sz := s.heap.size)
  generalize hAe : va_A [(aM, .inr (6, [.ref aS, .ref aH, .ref aL, .ref aP, .ref aR, .ref aT])), (aS, .inr (3, [.ref aC])), (aC, .inl (cyI, 225, .inl vc)), (aT, .inr (5, [.ref aTp, .int vtl, .int vta, .int vtt])), (aTp, .inl (cyI, 552, .inl vtp))] s.heap.size = A at hD ⊢
  have hA : ∀ q : Nat, s.heap.size ≤ q → A q := fun q h => by rw [← hAe]; exact Or.inr h
  have hS : va_S A s.heap s.heap [] := va_S.rf
  have hP : va_P D vwCl [(aM, .inr (6, [.ref aS, .ref aH, .ref aL, .ref aP, .ref aR, .ref aT])), (aS, .inr (3, [.ref aC])), (aC, .inl (cyI, 225, .inl vc)), (aT, .inr (5, [.ref aTp, .int vtl, .int vta, .int vtt])), (aTp, .inl (cyI, 552, .inl vtp))] s.heap := hP
  have hl := lv_entry ([.ref aM, .int x1, .int x2, .int x3, .int x4, .int x5]) (n := 8) (Nat.le_of_ble_eq_true rfl)
  rw [lg_entry_eq]
  generalize (lg_sl ([.ref aM, .int x1, .int x2, .int x3, .int x4, .int x5]) ++ List.replicate (8 - (lg_sl ([.ref aM, .int x1, .int x2, .int x3, .int x4, .int x5])).length) Slot.unset).toArray = ls at hl ⊢
  have hl : lv_has ls 8 [(0, .ref aM), (1, .int x1), (2, .int x2), (3, .int x3), (4, .int x4), (5, .int x5)] := hl
  unfold p_X6_why at hF
  refine lv_aload_n hx hb dX6_why_0 rfl (lv_at hl 0 rfl) ?_
  refine lv_iload_n hx hb dX6_why_1 rfl (lv_at hl 1 rfl) ?_
  refine lv_iload_n hx hb dX6_why_2 rfl (lv_at hl 2 rfl) ?_
  refine lv_iload_n hx hb dX6_why_3 rfl (lv_at hl 3 rfl) ?_
  refine lv_iload hx hb dX6_why_4 (lv_at hl 4 rfl) ?_
  refine lv_iload hx hb dX6_why_6 (lv_at hl 5 rfl) ?_
  refine lv_iconst (v := (1 : Int32)) hx hb dX6_why_8 (by decide) ?_
  obtain ⟨r9, hC, hF⟩ := k_c1_ex hF
  refine x_VR (As := [.int x1, .int x2, .int x3, .int x4, .int x5, .int (1 : Int32)]) (rest := []) ⟨hx, hb, hml, hown, hts⟩ (c_X6_questionError l D cyI cyZ aM aS aC aH aL aP aR aT N x1 x2 x3 x4 x5 (1 : Int32) vc hC) (cwV 6 hts gX6_why_X6_questionError rfl rfl rfl (by decide +kernel) ⟨Nat.le_of_ble_eq_true rfl, Nat.le_of_ble_eq_true rfl⟩) hK hP hS [0, 1, 2] rfl 0 rfl rfl rfl rfl hl.1 rfl (Nat.le_of_ble_eq_true rfl) ⟨Nat.zero_le _, Nat.zero_le _⟩ dX6_why_9 (fun H locs hP hS => ?_)
  refine lv_istore (lv' := [(6, .int r9), (0, .ref aM), (1, .int x1), (2, .int x2), (3, .int x3), (4, .int x4), (5, .int x5)]) hx hb dX6_why_12 hl (by decide) rfl (fun ls hl => ?_)
  refine lv_iload hx hb dX6_why_14 (lv_at hl 0 rfl) ?_
  refine lv_if_eq (tgt := 22) hx hb dX6_why_16 (by decide) (fun hc => ?_) (fun hc => ?_)
  · have hF := k_if_t hF hc
    refine lv_aload_n hx hb dX6_why_22 rfl (lv_at hl 1 rfl) ?_
    refine va_get (D := D) (ci := 6) (v := .ref aT) (C := RX6) (T := TX6) (N := 6) hx hb hts mi_X6_why_X6 hown hK.1 hP 0 rfl rfl 5 (by decide) (hts _ mm_X6_why_1) (fun _ h9 => h9) rfl dX6_why_23 ?_
    refine lv_aload_n hx hb dX6_why_26 rfl (lv_at hl 1 rfl) ?_
    refine va_get (D := D) (ci := 6) (v := .ref aS) (C := RX6) (T := TX6) (N := 6) hx hb hts mi_X6_why_X6 hown hK.1 hP 0 rfl rfl 0 (by decide) (hts _ mm_X6_why_2) (fun _ h9 => h9) rfl dX6_why_27 ?_
    refine lv_iload_n hx hb dX6_why_30 rfl (lv_at hl 2 rfl) ?_
    refine lv_iload_n hx hb dX6_why_31 rfl (lv_at hl 3 rfl) ?_
    refine lv_iload_n hx hb dX6_why_32 rfl (lv_at hl 4 rfl) ?_
    refine lv_iload hx hb dX6_why_33 (lv_at hl 5 rfl) ?_
    obtain ⟨vtl_35, vtp_35, hC, hF⟩ := k_c2_ex hF
    refine x_VV (As := [.ref aS, .int x1, .int x2, .int x3, .int x4]) (rest := []) ⟨hx, hb, hml, hown, hts⟩ (c_X5_lay l D cyI cyZ aS aC aT aTp H.size N x1 x2 x3 x4 vc vtl vta vtt vtp hC) (cwV 5 hts gX6_why_X5_lay rfl rfl rfl (by decide +kernel) ⟨Nat.le_of_ble_eq_true rfl, Nat.le_of_ble_eq_true rfl⟩) hK hP hD hS hA [1, 2, 3, 4] rfl rfl rfl 3 rfl rfl rfl rfl hl.1 rfl (Nat.le_of_ble_eq_true rfl) ⟨Nat.zero_le _, Nat.zero_le _⟩ dX6_why_35 (fun H locs hP hD hS => ?_)
    have hP : va_P D vwCl [(aM, .inr (6, [.ref aS, .ref aH, .ref aL, .ref aP, .ref aR, .ref aT])), (aS, .inr (3, [.ref aC])), (aC, .inl (cyI, 225, .inl vc)), (aT, .inr (5, [.ref aTp, .int vtl_35, .int vta, .int vtt])), (aTp, .inl (cyI, 552, .inl vtp_35))] H := hP
    have hD : va_D A [(aM, .inr (6, [.ref aS, .ref aH, .ref aL, .ref aP, .ref aR, .ref aT])), (aS, .inr (3, [.ref aC])), (aC, .inl (cyI, 225, .inl vc)), (aT, .inr (5, [.ref aTp, .int vtl_35, .int vta, .int vtt])), (aTp, .inl (cyI, 552, .inl vtp_35))] := hD
    refine lv_aload_n hx hb dX6_why_38 rfl (lv_at hl 1 rfl) ?_
    refine va_get (D := D) (ci := 6) (v := .ref aT) (C := RX6) (T := TX6) (N := 6) hx hb hts mi_X6_why_X6 hown hK.1 hP 0 rfl rfl 5 (by decide) (hts _ mm_X6_why_1) (fun _ h9 => h9) rfl dX6_why_39 ?_
    refine lv_aload_n hx hb dX6_why_42 rfl (lv_at hl 1 rfl) ?_
    refine va_get (D := D) (ci := 6) (v := .ref aS) (C := RX6) (T := TX6) (N := 6) hx hb hts mi_X6_why_X6 hown hK.1 hP 0 rfl rfl 0 (by decide) (hts _ mm_X6_why_2) (fun _ h9 => h9) rfl dX6_why_43 ?_
    refine lv_iconst (v := (0 : Int32)) hx hb dX6_why_46 (by decide) ?_
    obtain ⟨r47, hC, hF⟩ := k_c1_ex hF
    refine x_VR (As := [.int (0 : Int32)]) (rest := [.ref aT]) ⟨hx, hb, hml, hown, hts⟩ (c_X3_setting l D cyI cyZ aS aC N (0 : Int32) vc hC) (cwV 1 hts gX6_why_X3_setting rfl rfl rfl (by decide +kernel) ⟨Nat.le_of_ble_eq_true rfl, Nat.le_of_ble_eq_true rfl⟩) hK hP hS [1, 2] rfl 1 rfl rfl rfl rfl hl.1 rfl (Nat.le_of_ble_eq_true rfl) ⟨Nat.zero_le _, Nat.zero_le _⟩ dX6_why_47 (fun H locs hP hS => ?_)
    obtain ⟨r50, hC, hF⟩ := k_c1_ex hF
    refine x_VR (As := [.int r47]) (rest := []) ⟨hx, hb, hml, hown, hts⟩ (c_X5_firstBadStep l D cyI cyZ aT aTp N r47 vtl_35 vta vtt vtp_35 hC) (cwV 1 hts gX6_why_X5_firstBadStep rfl rfl rfl (by decide +kernel) ⟨Nat.le_of_ble_eq_true rfl, Nat.le_of_ble_eq_true rfl⟩) hK hP hS [3, 4] rfl 3 rfl rfl rfl rfl hl.1 rfl (Nat.le_of_ble_eq_true rfl) ⟨Nat.zero_le _, Nat.zero_le _⟩ dX6_why_50 (fun H locs hP hS => ?_)
    refine lv_istore (lv' := [(7, .int r50), (6, .int r9), (0, .ref aM), (1, .int x1), (2, .int x2), (3, .int x3), (4, .int x4), (5, .int x5)]) hx hb dX6_why_53 hl (by decide) rfl (fun ls hl => ?_)
    refine lv_iload hx hb dX6_why_55 (lv_at hl 7 rfl) ?_
    refine lv_iconst (v := (1 : Int32)) hx hb dX6_why_57 (by decide) ?_
    refine lv_icmp_ne (tgt := 64) hx hb dX6_why_58 (by decide) (fun hc => ?_) (fun hc => ?_)
    · have hF := k_if_f hF hc
      refine lv_iload hx hb dX6_why_64 (lv_at hl 0 rfl) ?_
      refine lv_bipush (v := (-6 : Int32)) hx hb dX6_why_66 (by decide) ?_
      refine lv_icmp_ne (tgt := 73) hx hb dX6_why_68 (by decide) (fun hc => ?_) (fun hc => ?_)
      · have hF := k_if_f hF hc
        refine lv_aload_n hx hb dX6_why_73 rfl (lv_at hl 2 rfl) ?_
        refine va_get (D := D) (ci := 6) (v := .ref aT) (C := RX6) (T := TX6) (N := 6) hx hb hts mi_X6_why_X6 hown hK.1 hP 0 rfl rfl 5 (by decide) (hts _ mm_X6_why_1) (fun _ h9 => h9) rfl dX6_why_74 ?_
        refine lv_iload hx hb dX6_why_77 (lv_at hl 0 rfl) ?_
        obtain ⟨r79, hC, hF⟩ := k_c1_ex hF
        refine x_VR (As := [.int r50]) (rest := []) ⟨hx, hb, hml, hown, hts⟩ (c_X5_press l D cyI cyZ aT aTp N r50 vtl_35 vta vtt vtp_35 hC) (cwV 1 hts gX6_why_X5_press rfl rfl rfl (by decide +kernel) ⟨Nat.le_of_ble_eq_true rfl, Nat.le_of_ble_eq_true rfl⟩) hK hP hS [3, 4] rfl 3 rfl rfl rfl rfl hl.1 rfl (Nat.le_of_ble_eq_true rfl) ⟨Nat.zero_le _, Nat.zero_le _⟩ dX6_why_79 (fun H locs hP hS => ?_)
        refine lv_iconst (v := (1 : Int32)) hx hb dX6_why_82 (by decide) ?_
        refine lv_icmp_ge (tgt := 90) hx hb dX6_why_83 (by decide) (fun hc => ?_) (fun hc => ?_)
        · have hF := k_if_t hF hc
          refine lv_iconst (v := (2 : Int32)) hx hb dX6_why_90 (by decide) ?_
          obtain ⟨e0, e1, e2⟩ := k_inj3 hF
          have hP9 : va_P D vwCl [(aM, .inr (6, [.ref aS, .ref aH, .ref aL, .ref aP, .ref aR, .ref aT])), (aS, .inr (3, [.ref aC])), (aC, .inl (cyI, 225, .inl vc)), (aT, .inr (5, [.ref aTp, .int vtl', .int vta, .int vtt])), (aTp, .inl (cyI, 552, .inl vtp'))] H := by rw [← e1, ← e2]; exact hP
          exact W.iret hx hb hr (fun t ht hW => ⟨⟨_, (), rfl, e0, x_ret hP9 ht⟩, hS.F ht⟩) hS.2.2 dX6_why_91
        · have hF := k_if_f hF hc
          refine lv_iconst (v := (1 : Int32)) hx hb dX6_why_86 (by decide) ?_
          refine lv_goto (tgt := 91) hx hb dX6_why_87 (by decide) ?_
          obtain ⟨e0, e1, e2⟩ := k_inj3 hF
          have hP9 : va_P D vwCl [(aM, .inr (6, [.ref aS, .ref aH, .ref aL, .ref aP, .ref aR, .ref aT])), (aS, .inr (3, [.ref aC])), (aC, .inl (cyI, 225, .inl vc)), (aT, .inr (5, [.ref aTp, .int vtl', .int vta, .int vtt])), (aTp, .inl (cyI, 552, .inl vtp'))] H := by rw [← e1, ← e2]; exact hP
          exact W.iret hx hb hr (fun t ht hW => ⟨⟨_, (), rfl, e0, x_ret hP9 ht⟩, hS.F ht⟩) hS.2.2 dX6_why_91
      · have hF := k_if_t hF hc
        refine lv_iconst (v := (0 : Int32)) hx hb dX6_why_71 (by decide) ?_
        obtain ⟨e0, e1, e2⟩ := k_inj3 hF
        have hP9 : va_P D vwCl [(aM, .inr (6, [.ref aS, .ref aH, .ref aL, .ref aP, .ref aR, .ref aT])), (aS, .inr (3, [.ref aC])), (aC, .inl (cyI, 225, .inl vc)), (aT, .inr (5, [.ref aTp, .int vtl', .int vta, .int vtt])), (aTp, .inl (cyI, 552, .inl vtp'))] H := by rw [← e1, ← e2]; exact hP
        exact W.iret hx hb hr (fun t ht hW => ⟨⟨_, (), rfl, e0, x_ret hP9 ht⟩, hS.F ht⟩) hS.2.2 dX6_why_72
    · have hF := k_if_t hF hc
      refine lv_iload hx hb dX6_why_61 (lv_at hl 0 rfl) ?_
      obtain ⟨e0, e1, e2⟩ := k_inj3 hF
      have hP9 : va_P D vwCl [(aM, .inr (6, [.ref aS, .ref aH, .ref aL, .ref aP, .ref aR, .ref aT])), (aS, .inr (3, [.ref aC])), (aC, .inl (cyI, 225, .inl vc)), (aT, .inr (5, [.ref aTp, .int vtl', .int vta, .int vtt])), (aTp, .inl (cyI, 552, .inl vtp'))] H := by rw [← e1, ← e2]; exact hP
      exact W.iret hx hb hr (fun t ht hW => ⟨⟨_, (), rfl, e0, x_ret hP9 ht⟩, hS.F ht⟩) hS.2.2 dX6_why_63
  · have hF := k_if_f hF hc
    refine lv_iload hx hb dX6_why_19 (lv_at hl 0 rfl) ?_
    obtain ⟨e0, e1, e2⟩ := k_inj3 hF
    have hP9 : va_P D vwCl [(aM, .inr (6, [.ref aS, .ref aH, .ref aL, .ref aP, .ref aR, .ref aT])), (aS, .inr (3, [.ref aC])), (aC, .inl (cyI, 225, .inl vc)), (aT, .inr (5, [.ref aTp, .int vtl', .int vta, .int vtt])), (aTp, .inl (cyI, 552, .inl vtp'))] H := by rw [← e1, ← e2]; exact hP
    exact W.iret hx hb hr (fun t ht hW => ⟨⟨_, (), rfl, e0, x_ret hP9 ht⟩, hS.F ht⟩) hS.2.2 dX6_why_21
theorem mm_X6_gapToMesh_1 : Cond.fieldLink RX6 49 "RollerMesh" "turn" "LRollerMesh$Turn;" ∈ wsX6_gapToMesh := List.mem_of_getElem? (i := 1) rfl
theorem mm_X6_gapToMesh_2 : Cond.fieldLink RX6 10 "RollerMesh" "shop" "LRollerMesh$Shop;" ∈ wsX6_gapToMesh := List.mem_of_getElem? (i := 2) rfl
theorem mm_X6_gapToMesh_3 : Cond.methodLink RX6 182 Lib.Math.max.name ∈ wsX6_gapToMesh := List.mem_of_getElem? (i := 3) rfl
theorem mm_X6_gapToMesh_4 : Cond.static Lib.Math.max.name ∈ wsX6_gapToMesh := List.mem_of_getElem? (i := 4) rfl
theorem mm_X6_gapToMesh_5 : Cond.initialized "java/lang/Math" ∈ wsX6_gapToMesh := List.mem_of_getElem? (i := 5) rfl
theorem mm_X6_gapToMesh_6 : Cond.code Lib.Math.max.name Lib.Math.max.code 2 (some .int) ∈ wsX6_gapToMesh := List.mem_of_getElem? (i := 6) rfl
theorem mi_X6_gapToMesh_X6 : ∀ w ∈ wsX60, w ∈ wsX6_gapToMesh := fun _ h => List.mem_cons_of_mem _ (List.mem_append_left _ (List.mem_append_left _ (List.mem_append_right _ h)))
set_option maxHeartbeats 4000000 in
set_option maxRecDepth 100000 in
theorem c_X6_gapToMesh (l : Launch) (D : va_G) (cyI cyZ : ClassId) (aM aS aC aH aL aP aR aT aTp : Nat) (sz : Nat) (N : Nat) (x1 : Int32) (x2 : Int32) (x3 : Int32) (vc : (Nat → Int32)) (vtl : Int32) (vta : Int32) (vtt : Int32) (vtp : (Nat → Int32)) {r0 : Int32} {vtl' : Int32} {vtp' : (Nat → Int32)} (hF : p_X6_gapToMesh N x1 x2 x3 vc vtl vta vtt vtp = some (r0, vtl', vtp')) : Met l yX6_gapToMesh wsX6_gapToMesh ({ frames := 3, cells := 0, slots := 0, locals := 73 }) (x_PM D cyI cyZ [.ref aM, .int x1, .int x2, .int x3] [(aM, .inr (6, [.ref aS, .ref aH, .ref aL, .ref aP, .ref aR, .ref aT])), (aS, .inr (3, [.ref aC])), (aC, .inl (cyI, 225, .inl vc)), (aT, .inr (5, [.ref aTp, .int vtl, .int vta, .int vtt])), (aTp, .inl (cyI, 552, .inl vtp))] sz) (x_QM D r0 (va_A [(aM, .inr (6, [.ref aS, .ref aH, .ref aL, .ref aP, .ref aR, .ref aT])), (aS, .inr (3, [.ref aC])), (aC, .inl (cyI, 225, .inl vc)), (aT, .inr (5, [.ref aTp, .int vtl, .int vta, .int vtt])), (aTp, .inl (cyI, 552, .inl vtp))] sz) [(aM, .inr (6, [.ref aS, .ref aH, .ref aL, .ref aP, .ref aR, .ref aT])), (aS, .inr (3, [.ref aC])), (aC, .inl (cyI, 225, .inl vc)), (aT, .inr (5, [.ref aTp, .int vtl', .int vta, .int vtt])), (aTp, .inl (cyI, 552, .inl vtp'))]) 0 0 (va_A [(aM, .inr (6, [.ref aS, .ref aH, .ref aL, .ref aP, .ref aR, .ref aT])), (aS, .inr (3, [.ref aC])), (aC, .inl (cyI, 225, .inl vc)), (aT, .inr (5, [.ref aTp, .int vtl, .int vta, .int vtt])), (aTp, .inl (cyI, 552, .inl vtp))] sz) := by
  refine Met.ofW (cc := cX6_gapToMesh) (maxL := 5) (ret := (some .int)) (by decide) rfl ?_
  intro p e s m args below meth c s₁ B hml hv
  obtain ⟨rfl, hsz, hP, hK, hD0⟩ := hv
  have hx := B.exec
  have hb := B.bytes
  have hr := B.returns
  have hts := atoms_spec (ws := wsX6_gapToMesh) B.pre
  have hown : s.vm.findClass RX6 = some m.cls := findClass_of_methodNamed B.named
  have hlocks := B.notSynchronized
  subst hsz
  have hD := hD0.self (sz := s.heap.size)
  generalize hAe : va_A [(aM, .inr (6, [.ref aS, .ref aH, .ref aL, .ref aP, .ref aR, .ref aT])), (aS, .inr (3, [.ref aC])), (aC, .inl (cyI, 225, .inl vc)), (aT, .inr (5, [.ref aTp, .int vtl, .int vta, .int vtt])), (aTp, .inl (cyI, 552, .inl vtp))] s.heap.size = A at hD ⊢
  have hA : ∀ q : Nat, s.heap.size ≤ q → A q := fun q h => by rw [← hAe]; exact Or.inr h
  have hS : va_S A s.heap s.heap [] := va_S.rf
  have hP : va_P D vwCl [(aM, .inr (6, [.ref aS, .ref aH, .ref aL, .ref aP, .ref aR, .ref aT])), (aS, .inr (3, [.ref aC])), (aC, .inl (cyI, 225, .inl vc)), (aT, .inr (5, [.ref aTp, .int vtl, .int vta, .int vtt])), (aTp, .inl (cyI, 552, .inl vtp))] s.heap := hP
  have hl := lv_entry ([.ref aM, .int x1, .int x2, .int x3]) (n := 5) (Nat.le_of_ble_eq_true rfl)
  rw [lg_entry_eq]
  generalize (lg_sl ([.ref aM, .int x1, .int x2, .int x3]) ++ List.replicate (5 - (lg_sl ([.ref aM, .int x1, .int x2, .int x3])).length) Slot.unset).toArray = ls at hl ⊢
  have hl : lv_has ls 5 [(0, .ref aM), (1, .int x1), (2, .int x2), (3, .int x3)] := hl
  unfold p_X6_gapToMesh at hF
  refine lv_aload_n hx hb dX6_gapToMesh_0 rfl (lv_at hl 0 rfl) ?_
  refine va_get (D := D) (ci := 6) (v := .ref aT) (C := RX6) (T := TX6) (N := 6) hx hb hts mi_X6_gapToMesh_X6 hown hK.1 hP 0 rfl rfl 5 (by decide) (hts _ mm_X6_gapToMesh_1) (fun _ h9 => h9) rfl dX6_gapToMesh_1 ?_
  refine lv_aload_n hx hb dX6_gapToMesh_4 rfl (lv_at hl 0 rfl) ?_
  refine va_get (D := D) (ci := 6) (v := .ref aS) (C := RX6) (T := TX6) (N := 6) hx hb hts mi_X6_gapToMesh_X6 hown hK.1 hP 0 rfl rfl 0 (by decide) (hts _ mm_X6_gapToMesh_2) (fun _ h9 => h9) rfl dX6_gapToMesh_5 ?_
  refine lv_iload_n hx hb dX6_gapToMesh_8 rfl (lv_at hl 1 rfl) ?_
  refine lv_iload_n hx hb dX6_gapToMesh_9 rfl (lv_at hl 2 rfl) ?_
  refine lv_iload_n hx hb dX6_gapToMesh_10 rfl (lv_at hl 3 rfl) ?_
  refine lv_iconst (v := (0 : Int32)) hx hb dX6_gapToMesh_11 (by decide) ?_
  obtain ⟨vtl_12, vtp_12, hC, hF⟩ := k_c2_ex hF
  refine x_VV (As := [.ref aS, .int x1, .int x2, .int x3, .int (0 : Int32)]) (rest := []) ⟨hx, hb, hml, hown, hts⟩ (c_X5_lay l D cyI cyZ aS aC aT aTp s.heap.size N x1 x2 x3 (0 : Int32) vc vtl vta vtt vtp hC) (cwV 5 hts gX6_gapToMesh_X5_lay rfl rfl rfl (by decide +kernel) ⟨Nat.le_of_ble_eq_true rfl, Nat.le_of_ble_eq_true rfl⟩) hK hP hD hS hA [1, 2, 3, 4] rfl rfl rfl 3 rfl rfl rfl rfl hl.1 rfl (Nat.le_of_ble_eq_true rfl) ⟨Nat.zero_le _, Nat.zero_le _⟩ dX6_gapToMesh_12 (fun H locs hP hD hS => ?_)
  have hP : va_P D vwCl [(aM, .inr (6, [.ref aS, .ref aH, .ref aL, .ref aP, .ref aR, .ref aT])), (aS, .inr (3, [.ref aC])), (aC, .inl (cyI, 225, .inl vc)), (aT, .inr (5, [.ref aTp, .int vtl_12, .int vta, .int vtt])), (aTp, .inl (cyI, 552, .inl vtp_12))] H := hP
  have hD : va_D A [(aM, .inr (6, [.ref aS, .ref aH, .ref aL, .ref aP, .ref aR, .ref aT])), (aS, .inr (3, [.ref aC])), (aC, .inl (cyI, 225, .inl vc)), (aT, .inr (5, [.ref aTp, .int vtl_12, .int vta, .int vtt])), (aTp, .inl (cyI, 552, .inl vtp_12))] := hD
  refine lv_aload_n hx hb dX6_gapToMesh_15 rfl (lv_at hl 0 rfl) ?_
  refine va_get (D := D) (ci := 6) (v := .ref aT) (C := RX6) (T := TX6) (N := 6) hx hb hts mi_X6_gapToMesh_X6 hown hK.1 hP 0 rfl rfl 5 (by decide) (hts _ mm_X6_gapToMesh_1) (fun _ h9 => h9) rfl dX6_gapToMesh_16 ?_
  refine lv_aload_n hx hb dX6_gapToMesh_19 rfl (lv_at hl 0 rfl) ?_
  refine va_get (D := D) (ci := 6) (v := .ref aS) (C := RX6) (T := TX6) (N := 6) hx hb hts mi_X6_gapToMesh_X6 hown hK.1 hP 0 rfl rfl 0 (by decide) (hts _ mm_X6_gapToMesh_2) (fun _ h9 => h9) rfl dX6_gapToMesh_20 ?_
  refine lv_iconst (v := (0 : Int32)) hx hb dX6_gapToMesh_23 (by decide) ?_
  obtain ⟨r24, hC, hF⟩ := k_c1_ex hF
  refine x_VR (As := [.int (0 : Int32)]) (rest := [.ref aT]) ⟨hx, hb, hml, hown, hts⟩ (c_X3_setting l D cyI cyZ aS aC N (0 : Int32) vc hC) (cwV 1 hts gX6_gapToMesh_X3_setting rfl rfl rfl (by decide +kernel) ⟨Nat.le_of_ble_eq_true rfl, Nat.le_of_ble_eq_true rfl⟩) hK hP hS [1, 2] rfl 1 rfl rfl rfl rfl hl.1 rfl (Nat.le_of_ble_eq_true rfl) ⟨Nat.zero_le _, Nat.zero_le _⟩ dX6_gapToMesh_24 (fun H locs hP hS => ?_)
  obtain ⟨r27, hC, hF⟩ := k_c1_ex hF
  refine x_VR (As := [.int r24]) (rest := []) ⟨hx, hb, hml, hown, hts⟩ (c_X5_isSmooth l D cyI cyZ aT aTp N r24 vtl_12 vta vtt vtp_12 hC) (cwV 1 hts gX6_gapToMesh_X5_isSmooth rfl rfl rfl (by decide +kernel) ⟨Nat.le_of_ble_eq_true rfl, Nat.le_of_ble_eq_true rfl⟩) hK hP hS [3, 4] rfl 3 rfl rfl rfl rfl hl.1 rfl (Nat.le_of_ble_eq_true rfl) ⟨Nat.zero_le _, Nat.zero_le _⟩ dX6_gapToMesh_27 (fun H locs hP hS => ?_)
  refine lv_if_ne (tgt := 36) hx hb dX6_gapToMesh_30 (by decide) (fun hc => ?_) (fun hc => ?_)
  · have hF := k_if_f hF hc
    refine lv_iconst (v := (0 : Int32)) hx hb dX6_gapToMesh_36 (by decide) ?_
    refine lv_iconst (v := (1 : Int32)) hx hb dX6_gapToMesh_37 (by decide) ?_
    refine lv_aload_n hx hb dX6_gapToMesh_38 rfl (lv_at hl 0 rfl) ?_
    refine va_get (D := D) (ci := 6) (v := .ref aT) (C := RX6) (T := TX6) (N := 6) hx hb hts mi_X6_gapToMesh_X6 hown hK.1 hP 0 rfl rfl 5 (by decide) (hts _ mm_X6_gapToMesh_1) (fun _ h9 => h9) rfl dX6_gapToMesh_39 ?_
    obtain ⟨r42, hC, hF⟩ := k_c1_ex hF
    refine x_VR (As := []) (rest := [.int (1 : Int32), .int (0 : Int32)]) ⟨hx, hb, hml, hown, hts⟩ (c_X5_leastPress l D cyI cyZ aT aTp N vtl_12 vta vtt vtp_12 hC) (cwV 0 hts gX6_gapToMesh_X5_leastPress rfl rfl rfl (by decide +kernel) ⟨Nat.le_of_ble_eq_true rfl, Nat.le_of_ble_eq_true rfl⟩) hK hP hS [3, 4] rfl 3 rfl rfl rfl rfl hl.1 rfl (Nat.le_of_ble_eq_true rfl) ⟨Nat.zero_le _, Nat.zero_le _⟩ dX6_gapToMesh_42 (fun H locs hP hS => ?_)
    refine lv_isub hx hb dX6_gapToMesh_45 ?_
    obtain ⟨r46, hn, hF⟩ := k_let_ex hF
    refine va_mmax hx hb (hml.trans hl.1.symm) hown (hts _ mm_X6_gapToMesh_3) (hts _ mm_X6_gapToMesh_4) (hts _ mm_X6_gapToMesh_5) (hts _ mm_X6_gapToMesh_6) (Nat.le_of_ble_eq_true rfl) (Nat.le_of_ble_eq_true rfl) (Nat.zero_le _) (Nat.zero_le _) dX6_gapToMesh_46 ?_
    refine x_nm hn ?_
    refine lv_istore (lv' := [(4, .int r46), (0, .ref aM), (1, .int x1), (2, .int x2), (3, .int x3)]) hx hb dX6_gapToMesh_49 hl (by decide) rfl (fun ls hl => ?_)
    refine lv_iload hx hb dX6_gapToMesh_51 (lv_at hl 0 rfl) ?_
    refine lv_bipush (v := (30 : Int32)) hx hb dX6_gapToMesh_53 (by decide) ?_
    refine lv_icmp_gt (tgt := 63) hx hb dX6_gapToMesh_55 (by decide) (fun hc => ?_) (fun hc => ?_)
    · have hF := k_if_t hF hc
      refine lv_bipush (v := (-6 : Int32)) hx hb dX6_gapToMesh_63 (by decide) ?_
      obtain ⟨e0, e1, e2⟩ := k_inj3 hF
      have hP9 : va_P D vwCl [(aM, .inr (6, [.ref aS, .ref aH, .ref aL, .ref aP, .ref aR, .ref aT])), (aS, .inr (3, [.ref aC])), (aC, .inl (cyI, 225, .inl vc)), (aT, .inr (5, [.ref aTp, .int vtl', .int vta, .int vtt])), (aTp, .inl (cyI, 552, .inl vtp'))] H := by rw [← e1, ← e2]; exact hP
      exact W.iret hx hb hr (fun t ht hW => ⟨⟨_, (), rfl, e0, x_ret hP9 ht⟩, hS.F ht⟩) hS.2.2 dX6_gapToMesh_65
    · have hF := k_if_f hF hc
      refine lv_iload hx hb dX6_gapToMesh_58 (lv_at hl 0 rfl) ?_
      refine lv_goto (tgt := 65) hx hb dX6_gapToMesh_60 (by decide) ?_
      obtain ⟨e0, e1, e2⟩ := k_inj3 hF
      have hP9 : va_P D vwCl [(aM, .inr (6, [.ref aS, .ref aH, .ref aL, .ref aP, .ref aR, .ref aT])), (aS, .inr (3, [.ref aC])), (aC, .inl (cyI, 225, .inl vc)), (aT, .inr (5, [.ref aTp, .int vtl', .int vta, .int vtt])), (aTp, .inl (cyI, 552, .inl vtp'))] H := by rw [← e1, ← e2]; exact hP
      exact W.iret hx hb hr (fun t ht hW => ⟨⟨_, (), rfl, e0, x_ret hP9 ht⟩, hS.F ht⟩) hS.2.2 dX6_gapToMesh_65
  · have hF := k_if_t hF hc
    refine lv_bipush (v := (-6 : Int32)) hx hb dX6_gapToMesh_33 (by decide) ?_
    obtain ⟨e0, e1, e2⟩ := k_inj3 hF
    have hP9 : va_P D vwCl [(aM, .inr (6, [.ref aS, .ref aH, .ref aL, .ref aP, .ref aR, .ref aT])), (aS, .inr (3, [.ref aC])), (aC, .inl (cyI, 225, .inl vc)), (aT, .inr (5, [.ref aTp, .int vtl', .int vta, .int vtt])), (aTp, .inl (cyI, 552, .inl vtp'))] H := by rw [← e1, ← e2]; exact hP
    exact W.iret hx hb hr (fun t ht hW => ⟨⟨_, (), rfl, e0, x_ret hP9 ht⟩, hS.F ht⟩) hS.2.2 dX6_gapToMesh_35
set_option maxHeartbeats 4000000 in
set_option maxRecDepth 100000 in
theorem c_X6_leastGap (l : Launch) (D : va_G) (cyI cyZ : ClassId) (aM aS aC aH aL aP aR aT aTp : Nat) (sz : Nat) (N : Nat) (x1 : Int32) (x2 : Int32) (x3 : Int32) (vc : (Nat → Int32)) (vtl : Int32) (vta : Int32) (vtt : Int32) (vtp : (Nat → Int32)) {r0 : Int32} {vtl' : Int32} {vtp' : (Nat → Int32)} (hF : p_X6_leastGap N x1 x2 x3 vc vtl vta vtt vtp = some (r0, vtl', vtp')) : Met l yX6_leastGap wsX6_leastGap ({ frames := 4, cells := 0, slots := 0, locals := 97 }) (x_PM D cyI cyZ [.ref aM, .int x1, .int x2, .int x3] [(aM, .inr (6, [.ref aS, .ref aH, .ref aL, .ref aP, .ref aR, .ref aT])), (aS, .inr (3, [.ref aC])), (aC, .inl (cyI, 225, .inl vc)), (aT, .inr (5, [.ref aTp, .int vtl, .int vta, .int vtt])), (aTp, .inl (cyI, 552, .inl vtp))] sz) (x_QM D r0 (va_A [(aM, .inr (6, [.ref aS, .ref aH, .ref aL, .ref aP, .ref aR, .ref aT])), (aS, .inr (3, [.ref aC])), (aC, .inl (cyI, 225, .inl vc)), (aT, .inr (5, [.ref aTp, .int vtl, .int vta, .int vtt])), (aTp, .inl (cyI, 552, .inl vtp))] sz) [(aM, .inr (6, [.ref aS, .ref aH, .ref aL, .ref aP, .ref aR, .ref aT])), (aS, .inr (3, [.ref aC])), (aC, .inl (cyI, 225, .inl vc)), (aT, .inr (5, [.ref aTp, .int vtl', .int vta, .int vtt])), (aTp, .inl (cyI, 552, .inl vtp'))]) 0 0 (va_A [(aM, .inr (6, [.ref aS, .ref aH, .ref aL, .ref aP, .ref aR, .ref aT])), (aS, .inr (3, [.ref aC])), (aC, .inl (cyI, 225, .inl vc)), (aT, .inr (5, [.ref aTp, .int vtl, .int vta, .int vtt])), (aTp, .inl (cyI, 552, .inl vtp))] sz) := by
  refine Met.ofW (cc := cX6_leastGap) (maxL := 5) (ret := (some .int)) (by decide) rfl ?_
  intro p e s m args below meth c s₁ B hml hv
  obtain ⟨rfl, hsz, hP, hK, hD0⟩ := hv
  have hx := B.exec
  have hb := B.bytes
  have hr := B.returns
  have hts := atoms_spec (ws := wsX6_leastGap) B.pre
  have hown : s.vm.findClass RX6 = some m.cls := findClass_of_methodNamed B.named
  have hlocks := B.notSynchronized
  subst hsz
  have hD := hD0.self (sz := s.heap.size)
  generalize hAe : va_A [(aM, .inr (6, [.ref aS, .ref aH, .ref aL, .ref aP, .ref aR, .ref aT])), (aS, .inr (3, [.ref aC])), (aC, .inl (cyI, 225, .inl vc)), (aT, .inr (5, [.ref aTp, .int vtl, .int vta, .int vtt])), (aTp, .inl (cyI, 552, .inl vtp))] s.heap.size = A at hD ⊢
  have hA : ∀ q : Nat, s.heap.size ≤ q → A q := fun q h => by rw [← hAe]; exact Or.inr h
  have hS : va_S A s.heap s.heap [] := va_S.rf
  have hP : va_P D vwCl [(aM, .inr (6, [.ref aS, .ref aH, .ref aL, .ref aP, .ref aR, .ref aT])), (aS, .inr (3, [.ref aC])), (aC, .inl (cyI, 225, .inl vc)), (aT, .inr (5, [.ref aTp, .int vtl, .int vta, .int vtt])), (aTp, .inl (cyI, 552, .inl vtp))] s.heap := hP
  have hl := lv_entry ([.ref aM, .int x1, .int x2, .int x3]) (n := 5) (Nat.le_of_ble_eq_true rfl)
  rw [lg_entry_eq]
  generalize (lg_sl ([.ref aM, .int x1, .int x2, .int x3]) ++ List.replicate (5 - (lg_sl ([.ref aM, .int x1, .int x2, .int x3])).length) Slot.unset).toArray = ls at hl ⊢
  have hl : lv_has ls 5 [(0, .ref aM), (1, .int x1), (2, .int x2), (3, .int x3)] := hl
  unfold p_X6_leastGap at hF
  refine lv_aload_n hx hb dX6_leastGap_0 rfl (lv_at hl 0 rfl) ?_
  refine lv_iload_n hx hb dX6_leastGap_1 rfl (lv_at hl 1 rfl) ?_
  refine lv_iload_n hx hb dX6_leastGap_2 rfl (lv_at hl 2 rfl) ?_
  refine lv_iload_n hx hb dX6_leastGap_3 rfl (lv_at hl 3 rfl) ?_
  refine lv_iconst (v := (0 : Int32)) hx hb dX6_leastGap_4 (by decide) ?_
  obtain ⟨r5, hC, hF⟩ := k_c1_ex hF
  refine x_VR (As := [.int x1, .int x2, .int x3, .int (0 : Int32)]) (rest := []) ⟨hx, hb, hml, hown, hts⟩ (c_X6_pairError l D cyI cyZ aM aS aC aH aL aP aR aT N x1 x2 x3 (0 : Int32) vc hC) (cwV 4 hts gX6_leastGap_X6_pairError rfl rfl rfl (by decide +kernel) ⟨Nat.le_of_ble_eq_true rfl, Nat.le_of_ble_eq_true rfl⟩) hK hP hS [0, 1, 2] rfl 0 rfl rfl rfl rfl hl.1 rfl (Nat.le_of_ble_eq_true rfl) ⟨Nat.zero_le _, Nat.zero_le _⟩ dX6_leastGap_5 (fun H locs hP hS => ?_)
  refine lv_istore (lv' := [(4, .int r5), (0, .ref aM), (1, .int x1), (2, .int x2), (3, .int x3)]) hx hb dX6_leastGap_8 hl (by decide) rfl (fun ls hl => ?_)
  refine lv_iload hx hb dX6_leastGap_10 (lv_at hl 0 rfl) ?_
  refine lv_if_eq (tgt := 20) hx hb dX6_leastGap_12 (by decide) (fun hc => ?_) (fun hc => ?_)
  · have hF := k_if_t hF hc
    refine lv_aload_n hx hb dX6_leastGap_20 rfl (lv_at hl 1 rfl) ?_
    refine lv_iload_n hx hb dX6_leastGap_21 rfl (lv_at hl 2 rfl) ?_
    refine lv_iload_n hx hb dX6_leastGap_22 rfl (lv_at hl 3 rfl) ?_
    refine lv_iload_n hx hb dX6_leastGap_23 rfl (lv_at hl 4 rfl) ?_
    obtain ⟨r24, vtl_24, vtp_24, hC, hF⟩ := k_c3_ex hF
    refine x_VM (As := [.int x1, .int x2, .int x3]) (rest := []) ⟨hx, hb, hml, hown, hts⟩ (c_X6_gapToMesh l D cyI cyZ aM aS aC aH aL aP aR aT aTp H.size N x1 x2 x3 vc vtl vta vtt vtp hC) (cwV 3 hts gX6_leastGap_X6_gapToMesh rfl rfl rfl (by decide +kernel) ⟨Nat.le_of_ble_eq_true rfl, Nat.le_of_ble_eq_true rfl⟩) hK hP hD hS hA [0, 1, 2, 3, 4] rfl rfl rfl 0 rfl rfl rfl rfl hl.1 rfl (Nat.le_of_ble_eq_true rfl) ⟨Nat.zero_le _, Nat.zero_le _⟩ dX6_leastGap_24 (fun H locs hP hD hS => ?_)
    have hP : va_P D vwCl [(aM, .inr (6, [.ref aS, .ref aH, .ref aL, .ref aP, .ref aR, .ref aT])), (aS, .inr (3, [.ref aC])), (aC, .inl (cyI, 225, .inl vc)), (aT, .inr (5, [.ref aTp, .int vtl_24, .int vta, .int vtt])), (aTp, .inl (cyI, 552, .inl vtp_24))] H := hP
    have hD : va_D A [(aM, .inr (6, [.ref aS, .ref aH, .ref aL, .ref aP, .ref aR, .ref aT])), (aS, .inr (3, [.ref aC])), (aC, .inl (cyI, 225, .inl vc)), (aT, .inr (5, [.ref aTp, .int vtl_24, .int vta, .int vtt])), (aTp, .inl (cyI, 552, .inl vtp_24))] := hD
    obtain ⟨e0, e1, e2⟩ := k_inj3 hF
    have hP9 : va_P D vwCl [(aM, .inr (6, [.ref aS, .ref aH, .ref aL, .ref aP, .ref aR, .ref aT])), (aS, .inr (3, [.ref aC])), (aC, .inl (cyI, 225, .inl vc)), (aT, .inr (5, [.ref aTp, .int vtl', .int vta, .int vtt])), (aTp, .inl (cyI, 552, .inl vtp'))] H := by rw [← e1, ← e2]; exact hP
    exact W.iret hx hb hr (fun t ht hW => ⟨⟨_, (), rfl, e0, x_ret hP9 ht⟩, hS.F ht⟩) hS.2.2 dX6_leastGap_27
  · have hF := k_if_f hF hc
    refine lv_iload hx hb dX6_leastGap_15 (lv_at hl 0 rfl) ?_
    refine lv_goto (tgt := 27) hx hb dX6_leastGap_17 (by decide) ?_
    obtain ⟨e0, e1, e2⟩ := k_inj3 hF
    have hP9 : va_P D vwCl [(aM, .inr (6, [.ref aS, .ref aH, .ref aL, .ref aP, .ref aR, .ref aT])), (aS, .inr (3, [.ref aC])), (aC, .inl (cyI, 225, .inl vc)), (aT, .inr (5, [.ref aTp, .int vtl', .int vta, .int vtt])), (aTp, .inl (cyI, 552, .inl vtp'))] H := by rw [← e1, ← e2]; exact hP
    exact W.iret hx hb hr (fun t ht hW => ⟨⟨_, (), rfl, e0, x_ret hP9 ht⟩, hS.F ht⟩) hS.2.2 dX6_leastGap_27
theorem mm_X6_bestOffset_1 : Cond.fieldLink RX6 10 "RollerMesh" "shop" "LRollerMesh$Shop;" ∈ wsX6_bestOffset := List.mem_of_getElem? (i := 1) rfl
theorem mm_X6_bestOffset_2 : Cond.methodLink RX6 174 Lib.Math.min.name ∈ wsX6_bestOffset := List.mem_of_getElem? (i := 2) rfl
theorem mm_X6_bestOffset_3 : Cond.static Lib.Math.min.name ∈ wsX6_bestOffset := List.mem_of_getElem? (i := 3) rfl
theorem mm_X6_bestOffset_4 : Cond.initialized "java/lang/Math" ∈ wsX6_bestOffset := List.mem_of_getElem? (i := 4) rfl
theorem mm_X6_bestOffset_5 : Cond.code Lib.Math.min.name Lib.Math.min.code 2 (some .int) ∈ wsX6_bestOffset := List.mem_of_getElem? (i := 5) rfl
theorem mi_X6_bestOffset_X6 : ∀ w ∈ wsX60, w ∈ wsX6_bestOffset := fun _ h => List.mem_cons_of_mem _ (List.mem_append_left _ (List.mem_append_left _ (List.mem_append_right _ h)))
set_option maxHeartbeats 4000000 in
set_option maxRecDepth 100000 in
theorem c_X6_bestOffset (l : Launch) (D : va_G) (cyI cyZ : ClassId) (aM aS aC aH aL aP aR aT aTp : Nat) (sz : Nat) (N : Nat) (x1 : Int32) (x2 : Int32) (x3 : Int32) (vc : (Nat → Int32)) (vtl : Int32) (vta : Int32) (vtt : Int32) (vtp : (Nat → Int32)) {r0 : Int32} {vtl' : Int32} {vtp' : (Nat → Int32)} (hF : p_X6_bestOffset N x1 x2 x3 vc vtl vta vtt vtp = some (r0, vtl', vtp')) : Met l yX6_bestOffset wsX6_bestOffset ({ frames := 4, cells := 0, slots := 0, locals := 97 }) (x_PM D cyI cyZ [.ref aM, .int x1, .int x2, .int x3] [(aM, .inr (6, [.ref aS, .ref aH, .ref aL, .ref aP, .ref aR, .ref aT])), (aS, .inr (3, [.ref aC])), (aC, .inl (cyI, 225, .inl vc)), (aT, .inr (5, [.ref aTp, .int vtl, .int vta, .int vtt])), (aTp, .inl (cyI, 552, .inl vtp))] sz) (x_QM D r0 (va_A [(aM, .inr (6, [.ref aS, .ref aH, .ref aL, .ref aP, .ref aR, .ref aT])), (aS, .inr (3, [.ref aC])), (aC, .inl (cyI, 225, .inl vc)), (aT, .inr (5, [.ref aTp, .int vtl, .int vta, .int vtt])), (aTp, .inl (cyI, 552, .inl vtp))] sz) [(aM, .inr (6, [.ref aS, .ref aH, .ref aL, .ref aP, .ref aR, .ref aT])), (aS, .inr (3, [.ref aC])), (aC, .inl (cyI, 225, .inl vc)), (aT, .inr (5, [.ref aTp, .int vtl', .int vta, .int vtt])), (aTp, .inl (cyI, 552, .inl vtp'))]) 0 0 (va_A [(aM, .inr (6, [.ref aS, .ref aH, .ref aL, .ref aP, .ref aR, .ref aT])), (aS, .inr (3, [.ref aC])), (aC, .inl (cyI, 225, .inl vc)), (aT, .inr (5, [.ref aTp, .int vtl, .int vta, .int vtt])), (aTp, .inl (cyI, 552, .inl vtp))] sz) := by
  refine Met.ofW (cc := cX6_bestOffset) (maxL := 10) (ret := (some .int)) (by decide) rfl ?_
  intro p e s m args below meth c s₁ B hml hv
  obtain ⟨rfl, hsz, hP, hK, hD0⟩ := hv
  have hx := B.exec
  have hb := B.bytes
  have hr := B.returns
  have hts := atoms_spec (ws := wsX6_bestOffset) B.pre
  have hown : s.vm.findClass RX6 = some m.cls := findClass_of_methodNamed B.named
  have hlocks := B.notSynchronized
  subst hsz
  have hD := hD0.self (sz := s.heap.size)
  generalize hAe : va_A [(aM, .inr (6, [.ref aS, .ref aH, .ref aL, .ref aP, .ref aR, .ref aT])), (aS, .inr (3, [.ref aC])), (aC, .inl (cyI, 225, .inl vc)), (aT, .inr (5, [.ref aTp, .int vtl, .int vta, .int vtt])), (aTp, .inl (cyI, 552, .inl vtp))] s.heap.size = A at hD ⊢
  have hA : ∀ q : Nat, s.heap.size ≤ q → A q := fun q h => by rw [← hAe]; exact Or.inr h
  have hS : va_S A s.heap s.heap [] := va_S.rf
  have hP : va_P D vwCl [(aM, .inr (6, [.ref aS, .ref aH, .ref aL, .ref aP, .ref aR, .ref aT])), (aS, .inr (3, [.ref aC])), (aC, .inl (cyI, 225, .inl vc)), (aT, .inr (5, [.ref aTp, .int vtl, .int vta, .int vtt])), (aTp, .inl (cyI, 552, .inl vtp))] s.heap := hP
  have hl := lv_entry ([.ref aM, .int x1, .int x2, .int x3]) (n := 10) (Nat.le_of_ble_eq_true rfl)
  rw [lg_entry_eq]
  generalize (lg_sl ([.ref aM, .int x1, .int x2, .int x3]) ++ List.replicate (10 - (lg_sl ([.ref aM, .int x1, .int x2, .int x3])).length) Slot.unset).toArray = ls at hl ⊢
  have hl : lv_has ls 10 [(0, .ref aM), (1, .int x1), (2, .int x2), (3, .int x3)] := hl
  refine x_gen (fun G hG => ?_)
  have blk_46 : ∀ (n_46 : Nat) (x1 : Int32) (x2 : Int32) (x3 : Int32) (x5 : Int32) (x6 : Int32) (x7 : Int32) (x8 : Int32) (vtl : Int32) (vtp : (Nat → Int32)), f_X6_bestOffset_46 N n_46 x1 x2 x3 x5 x6 x7 x8 vc vtl vta vtt vtp = some (r0, vtl', vtp') → ∀ (H : Heap) (locs : List Loc) (ls : Array Slot), va_P D vwCl [(aM, .inr (6, [.ref aS, .ref aH, .ref aL, .ref aP, .ref aR, .ref aT])), (aS, .inr (3, [.ref aC])), (aC, .inl (cyI, 225, .inl vc)), (aT, .inr (5, [.ref aTp, .int vtl, .int vta, .int vtt])), (aTp, .inl (cyI, 552, .inl vtp))] H → va_D A [(aM, .inr (6, [.ref aS, .ref aH, .ref aL, .ref aP, .ref aR, .ref aT])), (aS, .inr (3, [.ref aC])), (aC, .inl (cyI, 225, .inl vc)), (aT, .inr (5, [.ref aTp, .int vtl, .int vta, .int vtt])), (aTp, .inl (cyI, 552, .inl vtp))] → va_S A s.heap H locs → lv_has ls 10 [(0, .ref aM), (1, .int x1), (2, .int x2), (3, .int x3), (5, .int x5), (6, .int x6), (7, .int x7), (8, .int x8)] → G H locs (F0 m 46 ls []) := by
    intro n_46
    induction n_46 with
    | zero => intro x1 x2 x3 x5 x6 x7 x8 vtl vtp hF; exact (k_none hF).elim
    | succ n_46 ih_46 =>
      intro x1 x2 x3 x5 x6 x7 x8 vtl vtp hF H locs ls hP hD hS hl
      replace hF : b_X6_bestOffset_46 N (f_X6_bestOffset_46 N n_46) x1 x2 x3 x5 x6 x7 x8 vc vtl vta vtt vtp = some (r0, vtl', vtp') := hF
      unfold b_X6_bestOffset_46 at hF
      refine (hG _ _ _).2 ?_
      refine lv_iload hx hb dX6_bestOffset_46 (lv_at hl 7 rfl) ?_
      refine lv_iload hx hb dX6_bestOffset_48 (lv_at hl 6 rfl) ?_
      refine lv_icmp_ge (tgt := 98) hx hb dX6_bestOffset_50 (by decide) (fun hc => ?_) (fun hc => ?_)
      · have hF := k_if_t hF hc
        refine lv_iload_n hx hb dX6_bestOffset_98 rfl (lv_at hl 3 rfl) ?_
        refine lv_if_ne (tgt := 107) hx hb dX6_bestOffset_99 (by decide) (fun hc => ?_) (fun hc => ?_)
        · have hF := k_if_f hF hc
          refine lv_iload hx hb dX6_bestOffset_107 (lv_at hl 5 rfl) ?_
          obtain ⟨e0, e1, e2⟩ := k_inj3 hF
          have hP9 : va_P D vwCl [(aM, .inr (6, [.ref aS, .ref aH, .ref aL, .ref aP, .ref aR, .ref aT])), (aS, .inr (3, [.ref aC])), (aC, .inl (cyI, 225, .inl vc)), (aT, .inr (5, [.ref aTp, .int vtl', .int vta, .int vtt])), (aTp, .inl (cyI, 552, .inl vtp'))] H := by rw [← e1, ← e2]; exact hP
          exact W.iret hx hb hr (fun t ht hW => ⟨⟨_, (), rfl, e0, x_ret hP9 ht⟩, hS.F ht⟩) hS.2.2 dX6_bestOffset_109
        · have hF := k_if_t hF hc
          refine lv_iload hx hb dX6_bestOffset_102 (lv_at hl 4 rfl) ?_
          refine lv_goto (tgt := 109) hx hb dX6_bestOffset_104 (by decide) ?_
          obtain ⟨e0, e1, e2⟩ := k_inj3 hF
          have hP9 : va_P D vwCl [(aM, .inr (6, [.ref aS, .ref aH, .ref aL, .ref aP, .ref aR, .ref aT])), (aS, .inr (3, [.ref aC])), (aC, .inl (cyI, 225, .inl vc)), (aT, .inr (5, [.ref aTp, .int vtl', .int vta, .int vtt])), (aTp, .inl (cyI, 552, .inl vtp'))] H := by rw [← e1, ← e2]; exact hP
          exact W.iret hx hb hr (fun t ht hW => ⟨⟨_, (), rfl, e0, x_ret hP9 ht⟩, hS.F ht⟩) hS.2.2 dX6_bestOffset_109
      · have hF := k_if_f hF hc
        refine lv_aload_n hx hb dX6_bestOffset_53 rfl (lv_at hl 0 rfl) ?_
        refine lv_iload_n hx hb dX6_bestOffset_54 rfl (lv_at hl 1 rfl) ?_
        refine lv_iload_n hx hb dX6_bestOffset_55 rfl (lv_at hl 2 rfl) ?_
        refine lv_iload hx hb dX6_bestOffset_56 (lv_at hl 7 rfl) ?_
        obtain ⟨r58, vtl_58, vtp_58, hC, hF⟩ := k_c3_ex hF
        refine x_VM (As := [.int x1, .int x2, .int x8]) (rest := []) ⟨hx, hb, hml, hown, hts⟩ (c_X6_gapToMesh l D cyI cyZ aM aS aC aH aL aP aR aT aTp H.size N x1 x2 x8 vc vtl vta vtt vtp hC) (cwV 3 hts gX6_bestOffset_X6_gapToMesh rfl rfl rfl (by decide +kernel) ⟨Nat.le_of_ble_eq_true rfl, Nat.le_of_ble_eq_true rfl⟩) hK hP hD hS hA [0, 1, 2, 3, 4] rfl rfl rfl 0 rfl rfl rfl rfl hl.1 rfl (Nat.le_of_ble_eq_true rfl) ⟨Nat.zero_le _, Nat.zero_le _⟩ dX6_bestOffset_58 (fun H locs hP hD hS => ?_)
        have hP : va_P D vwCl [(aM, .inr (6, [.ref aS, .ref aH, .ref aL, .ref aP, .ref aR, .ref aT])), (aS, .inr (3, [.ref aC])), (aC, .inl (cyI, 225, .inl vc)), (aT, .inr (5, [.ref aTp, .int vtl_58, .int vta, .int vtt])), (aTp, .inl (cyI, 552, .inl vtp_58))] H := hP
        have hD : va_D A [(aM, .inr (6, [.ref aS, .ref aH, .ref aL, .ref aP, .ref aR, .ref aT])), (aS, .inr (3, [.ref aC])), (aC, .inl (cyI, 225, .inl vc)), (aT, .inr (5, [.ref aTp, .int vtl_58, .int vta, .int vtt])), (aTp, .inl (cyI, 552, .inl vtp_58))] := hD
        refine lv_istore (lv' := [(9, .int r58), (0, .ref aM), (1, .int x1), (2, .int x2), (3, .int x3), (5, .int x5), (6, .int x6), (7, .int x7), (8, .int x8)]) hx hb dX6_bestOffset_61 hl (by decide) rfl (fun ls hl => ?_)
        refine lv_iload hx hb dX6_bestOffset_63 (lv_at hl 0 rfl) ?_
        refine lv_bipush (v := (-6 : Int32)) hx hb dX6_bestOffset_65 (by decide) ?_
        refine lv_icmp_eq (tgt := 92) hx hb dX6_bestOffset_67 (by decide) (fun hc => ?_) (fun hc => ?_)
        · have hF := k_if_t hF hc
          obtain ⟨x8_92, hn, hF⟩ := k_let_ex hF
          refine lv_iinc (v := x8_92) (lv' := [(8, .int x8_92), (9, .int r58), (0, .ref aM), (1, .int x1), (2, .int x2), (3, .int x3), (5, .int x5), (6, .int x6), (7, .int x7)]) hx hb dX6_bestOffset_92 hl (k := 8) rfl (by rw [hn]; rfl) (by decide) rfl (fun ls hl => ?_)
          refine lv_goto (tgt := 46) hx hb dX6_bestOffset_95 (by decide) ?_
          exact (hG _ _ _).1 (ih_46 x1 x2 x3 x5 x6 x7 x8_92 vtl_58 vtp_58 hF _ _ _ hP hD hS (lv_sub hl [2, 3, 4, 5, 6, 7, 8, 0] rfl))
        · have hF := k_if_f hF hc
          refine lv_iload hx hb dX6_bestOffset_70 (lv_at hl 6 rfl) ?_
          refine lv_bipush (v := (-6 : Int32)) hx hb dX6_bestOffset_72 (by decide) ?_
          refine lv_icmp_eq (tgt := 84) hx hb dX6_bestOffset_74 (by decide) (fun hc => ?_) (fun hc => ?_)
          · have hF := k_if_t hF hc
            refine lv_iload hx hb dX6_bestOffset_84 (lv_at hl 8 rfl) ?_
            refine lv_istore (lv' := [(5, .int x8), (9, .int r58), (0, .ref aM), (1, .int x1), (2, .int x2), (3, .int x3), (6, .int x6), (7, .int x7), (8, .int x8)]) hx hb dX6_bestOffset_86 hl (by decide) rfl (fun ls hl => ?_)
            refine lv_iload hx hb dX6_bestOffset_88 (lv_at hl 1 rfl) ?_
            refine lv_istore (lv' := [(6, .int r58), (5, .int x8), (9, .int r58), (0, .ref aM), (1, .int x1), (2, .int x2), (3, .int x3), (7, .int x7), (8, .int x8)]) hx hb dX6_bestOffset_90 hl (by decide) rfl (fun ls hl => ?_)
            obtain ⟨x8_92, hn, hF⟩ := k_let_ex hF
            refine lv_iinc (v := x8_92) (lv' := [(8, .int x8_92), (6, .int r58), (5, .int x8), (9, .int r58), (0, .ref aM), (1, .int x1), (2, .int x2), (3, .int x3), (7, .int x7)]) hx hb dX6_bestOffset_92 hl (k := 8) rfl (by rw [hn]; rfl) (by decide) rfl (fun ls hl => ?_)
            refine lv_goto (tgt := 46) hx hb dX6_bestOffset_95 (by decide) ?_
            exact (hG _ _ _).1 (ih_46 x1 x2 x3 x8 r58 x7 x8_92 vtl_58 vtp_58 hF _ _ _ hP hD hS (lv_sub hl [4, 5, 6, 7, 2, 1, 8, 0] rfl))
          · have hF := k_if_f hF hc
            refine lv_iload hx hb dX6_bestOffset_77 (lv_at hl 0 rfl) ?_
            refine lv_iload hx hb dX6_bestOffset_79 (lv_at hl 6 rfl) ?_
            refine lv_icmp_ge (tgt := 92) hx hb dX6_bestOffset_81 (by decide) (fun hc => ?_) (fun hc => ?_)
            · have hF := k_if_t hF hc
              obtain ⟨x8_92, hn, hF⟩ := k_let_ex hF
              refine lv_iinc (v := x8_92) (lv' := [(8, .int x8_92), (9, .int r58), (0, .ref aM), (1, .int x1), (2, .int x2), (3, .int x3), (5, .int x5), (6, .int x6), (7, .int x7)]) hx hb dX6_bestOffset_92 hl (k := 8) rfl (by rw [hn]; rfl) (by decide) rfl (fun ls hl => ?_)
              refine lv_goto (tgt := 46) hx hb dX6_bestOffset_95 (by decide) ?_
              exact (hG _ _ _).1 (ih_46 x1 x2 x3 x5 x6 x7 x8_92 vtl_58 vtp_58 hF _ _ _ hP hD hS (lv_sub hl [2, 3, 4, 5, 6, 7, 8, 0] rfl))
            · have hF := k_if_f hF hc
              refine lv_iload hx hb dX6_bestOffset_84 (lv_at hl 8 rfl) ?_
              refine lv_istore (lv' := [(5, .int x8), (9, .int r58), (0, .ref aM), (1, .int x1), (2, .int x2), (3, .int x3), (6, .int x6), (7, .int x7), (8, .int x8)]) hx hb dX6_bestOffset_86 hl (by decide) rfl (fun ls hl => ?_)
              refine lv_iload hx hb dX6_bestOffset_88 (lv_at hl 1 rfl) ?_
              refine lv_istore (lv' := [(6, .int r58), (5, .int x8), (9, .int r58), (0, .ref aM), (1, .int x1), (2, .int x2), (3, .int x3), (7, .int x7), (8, .int x8)]) hx hb dX6_bestOffset_90 hl (by decide) rfl (fun ls hl => ?_)
              obtain ⟨x8_92, hn, hF⟩ := k_let_ex hF
              refine lv_iinc (v := x8_92) (lv' := [(8, .int x8_92), (6, .int r58), (5, .int x8), (9, .int r58), (0, .ref aM), (1, .int x1), (2, .int x2), (3, .int x3), (7, .int x7)]) hx hb dX6_bestOffset_92 hl (k := 8) rfl (by rw [hn]; rfl) (by decide) rfl (fun ls hl => ?_)
              refine lv_goto (tgt := 46) hx hb dX6_bestOffset_95 (by decide) ?_
              exact (hG _ _ _).1 (ih_46 x1 x2 x3 x8 r58 x7 x8_92 vtl_58 vtp_58 hF _ _ _ hP hD hS (lv_sub hl [4, 5, 6, 7, 2, 1, 8, 0] rfl))
  refine (hG _ _ _).2 ?_
  unfold p_X6_bestOffset at hF
  refine lv_aload_n hx hb dX6_bestOffset_0 rfl (lv_at hl 0 rfl) ?_
  refine lv_iload_n hx hb dX6_bestOffset_1 rfl (lv_at hl 1 rfl) ?_
  refine lv_iload_n hx hb dX6_bestOffset_2 rfl (lv_at hl 2 rfl) ?_
  refine lv_iconst (v := (0 : Int32)) hx hb dX6_bestOffset_3 (by decide) ?_
  refine lv_iconst (v := (0 : Int32)) hx hb dX6_bestOffset_4 (by decide) ?_
  refine lv_iload_n hx hb dX6_bestOffset_5 rfl (lv_at hl 3 rfl) ?_
  refine lv_iconst (v := (1 : Int32)) hx hb dX6_bestOffset_6 (by decide) ?_
  obtain ⟨r7, hC, hF⟩ := k_c1_ex hF
  refine x_VR (As := [.int x1, .int x2, .int (0 : Int32), .int (0 : Int32), .int x3, .int (1 : Int32)]) (rest := []) ⟨hx, hb, hml, hown, hts⟩ (c_X6_questionError l D cyI cyZ aM aS aC aH aL aP aR aT N x1 x2 (0 : Int32) (0 : Int32) x3 (1 : Int32) vc hC) (cwV 6 hts gX6_bestOffset_X6_questionError rfl rfl rfl (by decide +kernel) ⟨Nat.le_of_ble_eq_true rfl, Nat.le_of_ble_eq_true rfl⟩) hK hP hS [0, 1, 2] rfl 0 rfl rfl rfl rfl hl.1 rfl (Nat.le_of_ble_eq_true rfl) ⟨Nat.zero_le _, Nat.zero_le _⟩ dX6_bestOffset_7 (fun H locs hP hS => ?_)
  refine lv_istore (lv' := [(4, .int r7), (0, .ref aM), (1, .int x1), (2, .int x2), (3, .int x3)]) hx hb dX6_bestOffset_10 hl (by decide) rfl (fun ls hl => ?_)
  refine lv_iload hx hb dX6_bestOffset_12 (lv_at hl 0 rfl) ?_
  refine lv_if_eq (tgt := 20) hx hb dX6_bestOffset_14 (by decide) (fun hc => ?_) (fun hc => ?_)
  · have hF := k_if_t hF hc
    refine lv_bipush (v := (-6 : Int32)) hx hb dX6_bestOffset_20 (by decide) ?_
    refine lv_istore (lv' := [(5, .int (-6 : Int32)), (4, .int r7), (0, .ref aM), (1, .int x1), (2, .int x2), (3, .int x3)]) hx hb dX6_bestOffset_22 hl (by decide) rfl (fun ls hl => ?_)
    refine lv_bipush (v := (-6 : Int32)) hx hb dX6_bestOffset_24 (by decide) ?_
    refine lv_istore (lv' := [(6, .int (-6 : Int32)), (5, .int (-6 : Int32)), (4, .int r7), (0, .ref aM), (1, .int x1), (2, .int x2), (3, .int x3)]) hx hb dX6_bestOffset_26 hl (by decide) rfl (fun ls hl => ?_)
    refine lv_aload_n hx hb dX6_bestOffset_28 rfl (lv_at hl 3 rfl) ?_
    refine va_get (D := D) (ci := 6) (v := .ref aS) (C := RX6) (T := TX6) (N := 6) hx hb hts mi_X6_bestOffset_X6 hown hK.1 hP 0 rfl rfl 0 (by decide) (hts _ mm_X6_bestOffset_1) (fun _ h9 => h9) rfl dX6_bestOffset_29 ?_
    refine lv_iload_n hx hb dX6_bestOffset_32 rfl (lv_at hl 5 rfl) ?_
    obtain ⟨r33, hC, hF⟩ := k_c1_ex hF
    refine x_VR (As := [.int x2]) (rest := []) ⟨hx, hb, hml, hown, hts⟩ (c_X3_teeth l D cyI cyZ aS aC N x2 vc hC) (cwV 1 hts gX6_bestOffset_X3_teeth rfl rfl rfl (by decide +kernel) ⟨Nat.le_of_ble_eq_true rfl, Nat.le_of_ble_eq_true rfl⟩) hK hP hS [1, 2] rfl 1 rfl rfl rfl rfl hl.1 rfl (Nat.le_of_ble_eq_true rfl) ⟨Nat.zero_le _, Nat.zero_le _⟩ dX6_bestOffset_33 (fun H locs hP hS => ?_)
    refine lv_bipush (v := (24 : Int32)) hx hb dX6_bestOffset_36 (by decide) ?_
    obtain ⟨r38, hn, hF⟩ := k_let_ex hF
    refine va_mmin hx hb (hml.trans hl.1.symm) hown (hts _ mm_X6_bestOffset_2) (hts _ mm_X6_bestOffset_3) (hts _ mm_X6_bestOffset_4) (hts _ mm_X6_bestOffset_5) (Nat.le_of_ble_eq_true rfl) (Nat.le_of_ble_eq_true rfl) (Nat.zero_le _) (Nat.zero_le _) dX6_bestOffset_38 ?_
    refine x_nm hn ?_
    refine lv_istore (lv' := [(7, .int r38), (6, .int (-6 : Int32)), (5, .int (-6 : Int32)), (4, .int r7), (0, .ref aM), (1, .int x1), (2, .int x2), (3, .int x3)]) hx hb dX6_bestOffset_41 hl (by decide) rfl (fun ls hl => ?_)
    refine lv_iconst (v := (0 : Int32)) hx hb dX6_bestOffset_43 (by decide) ?_
    refine lv_istore (lv' := [(8, .int (0 : Int32)), (7, .int r38), (6, .int (-6 : Int32)), (5, .int (-6 : Int32)), (4, .int r7), (0, .ref aM), (1, .int x1), (2, .int x2), (3, .int x3)]) hx hb dX6_bestOffset_44 hl (by decide) rfl (fun ls hl => ?_)
    exact (hG _ _ _).1 (blk_46 N x1 x2 x3 (-6 : Int32) (-6 : Int32) r38 (0 : Int32) vtl vtp hF _ _ _ hP hD hS (lv_sub hl [5, 6, 7, 8, 3, 2, 1, 0] rfl))
  · have hF := k_if_f hF hc
    refine lv_iload hx hb dX6_bestOffset_17 (lv_at hl 0 rfl) ?_
    obtain ⟨e0, e1, e2⟩ := k_inj3 hF
    have hP9 : va_P D vwCl [(aM, .inr (6, [.ref aS, .ref aH, .ref aL, .ref aP, .ref aR, .ref aT])), (aS, .inr (3, [.ref aC])), (aC, .inl (cyI, 225, .inl vc)), (aT, .inr (5, [.ref aTp, .int vtl', .int vta, .int vtt])), (aTp, .inl (cyI, 552, .inl vtp'))] H := by rw [← e1, ← e2]; exact hP
    exact W.iret hx hb hr (fun t ht hW => ⟨⟨_, (), rfl, e0, x_ret hP9 ht⟩, hS.F ht⟩) hS.2.2 dX6_bestOffset_19
theorem mm_X6_thickest_1 : Cond.fieldLink RX6 49 "RollerMesh" "turn" "LRollerMesh$Turn;" ∈ wsX6_thickest := List.mem_of_getElem? (i := 1) rfl
theorem mm_X6_thickest_2 : Cond.fieldLink RX6 10 "RollerMesh" "shop" "LRollerMesh$Shop;" ∈ wsX6_thickest := List.mem_of_getElem? (i := 2) rfl
theorem mi_X6_thickest_X6 : ∀ w ∈ wsX60, w ∈ wsX6_thickest := fun _ h => List.mem_cons_of_mem _ (List.mem_append_left _ (List.mem_append_left _ (List.mem_append_right _ h)))
set_option maxHeartbeats 4000000 in
set_option maxRecDepth 100000 in
theorem c_X6_thickest (l : Launch) (D : va_G) (cyI cyZ : ClassId) (aM aS aC aH aL aP aR aT aTp : Nat) (sz : Nat) (N : Nat) (x1 : Int32) (x2 : Int32) (x3 : Int32) (x4 : Int32) (vc : (Nat → Int32)) (vtl : Int32) (vta : Int32) (vtt : Int32) (vtp : (Nat → Int32)) {r0 : Int32} {vtl' : Int32} {vta' : Int32} {vtt' : Int32} {vtp' : (Nat → Int32)} (hF : p_X6_thickest N x1 x2 x3 x4 vc vtl vta vtt vtp = some (r0, vtl', vta', vtt', vtp')) : Met l yX6_thickest wsX6_thickest ({ frames := 4, cells := 0, slots := 0, locals := 87 }) (x_PM D cyI cyZ [.ref aM, .int x1, .int x2, .int x3, .int x4] [(aM, .inr (6, [.ref aS, .ref aH, .ref aL, .ref aP, .ref aR, .ref aT])), (aS, .inr (3, [.ref aC])), (aC, .inl (cyI, 225, .inl vc)), (aT, .inr (5, [.ref aTp, .int vtl, .int vta, .int vtt])), (aTp, .inl (cyI, 552, .inl vtp))] sz) (x_QM D r0 (va_A [(aM, .inr (6, [.ref aS, .ref aH, .ref aL, .ref aP, .ref aR, .ref aT])), (aS, .inr (3, [.ref aC])), (aC, .inl (cyI, 225, .inl vc)), (aT, .inr (5, [.ref aTp, .int vtl, .int vta, .int vtt])), (aTp, .inl (cyI, 552, .inl vtp))] sz) [(aM, .inr (6, [.ref aS, .ref aH, .ref aL, .ref aP, .ref aR, .ref aT])), (aS, .inr (3, [.ref aC])), (aC, .inl (cyI, 225, .inl vc)), (aT, .inr (5, [.ref aTp, .int vtl', .int vta', .int vtt'])), (aTp, .inl (cyI, 552, .inl vtp'))]) 0 0 (va_A [(aM, .inr (6, [.ref aS, .ref aH, .ref aL, .ref aP, .ref aR, .ref aT])), (aS, .inr (3, [.ref aC])), (aC, .inl (cyI, 225, .inl vc)), (aT, .inr (5, [.ref aTp, .int vtl, .int vta, .int vtt])), (aTp, .inl (cyI, 552, .inl vtp))] sz) := by
  refine Met.ofW (cc := cX6_thickest) (maxL := 7) (ret := (some .int)) (by decide) rfl ?_
  intro p e s m args below meth c s₁ B hml hv
  obtain ⟨rfl, hsz, hP, hK, hD0⟩ := hv
  have hx := B.exec
  have hb := B.bytes
  have hr := B.returns
  have hts := atoms_spec (ws := wsX6_thickest) B.pre
  have hown : s.vm.findClass RX6 = some m.cls := findClass_of_methodNamed B.named
  have hlocks := B.notSynchronized
  subst hsz
  have hD := hD0.self (sz := s.heap.size)
  generalize hAe : va_A [(aM, .inr (6, [.ref aS, .ref aH, .ref aL, .ref aP, .ref aR, .ref aT])), (aS, .inr (3, [.ref aC])), (aC, .inl (cyI, 225, .inl vc)), (aT, .inr (5, [.ref aTp, .int vtl, .int vta, .int vtt])), (aTp, .inl (cyI, 552, .inl vtp))] s.heap.size = A at hD ⊢
  have hA : ∀ q : Nat, s.heap.size ≤ q → A q := fun q h => by rw [← hAe]; exact Or.inr h
  have hS : va_S A s.heap s.heap [] := va_S.rf
  have hP : va_P D vwCl [(aM, .inr (6, [.ref aS, .ref aH, .ref aL, .ref aP, .ref aR, .ref aT])), (aS, .inr (3, [.ref aC])), (aC, .inl (cyI, 225, .inl vc)), (aT, .inr (5, [.ref aTp, .int vtl, .int vta, .int vtt])), (aTp, .inl (cyI, 552, .inl vtp))] s.heap := hP
  have hl := lv_entry ([.ref aM, .int x1, .int x2, .int x3, .int x4]) (n := 7) (Nat.le_of_ble_eq_true rfl)
  rw [lg_entry_eq]
  generalize (lg_sl ([.ref aM, .int x1, .int x2, .int x3, .int x4]) ++ List.replicate (7 - (lg_sl ([.ref aM, .int x1, .int x2, .int x3, .int x4])).length) Slot.unset).toArray = ls at hl ⊢
  have hl : lv_has ls 7 [(0, .ref aM), (1, .int x1), (2, .int x2), (3, .int x3), (4, .int x4)] := hl
  refine x_gen (fun G hG => ?_)
  have blk_60 : ∀ (n_60 : Nat) (x6 : Int32) (vtl : Int32) (vta : Int32) (vtt : Int32) (vtp : (Nat → Int32)), f_X6_thickest_60 N n_60 x6 vc vtl vta vtt vtp = some (r0, vtl', vta', vtt', vtp') → ∀ (H : Heap) (locs : List Loc) (ls : Array Slot), va_P D vwCl [(aM, .inr (6, [.ref aS, .ref aH, .ref aL, .ref aP, .ref aR, .ref aT])), (aS, .inr (3, [.ref aC])), (aC, .inl (cyI, 225, .inl vc)), (aT, .inr (5, [.ref aTp, .int vtl, .int vta, .int vtt])), (aTp, .inl (cyI, 552, .inl vtp))] H → va_D A [(aM, .inr (6, [.ref aS, .ref aH, .ref aL, .ref aP, .ref aR, .ref aT])), (aS, .inr (3, [.ref aC])), (aC, .inl (cyI, 225, .inl vc)), (aT, .inr (5, [.ref aTp, .int vtl, .int vta, .int vtt])), (aTp, .inl (cyI, 552, .inl vtp))] → va_S A s.heap H locs → lv_has ls 7 [(0, .ref aM), (6, .int x6)] → G H locs (F0 m 60 ls []) := by
    intro n_60
    induction n_60 with
    | zero => intro x6 vtl vta vtt vtp hF; exact (k_none hF).elim
    | succ n_60 ih_60 =>
      intro x6 vtl vta vtt vtp hF H locs ls hP hD hS hl
      replace hF : b_X6_thickest_60 N (f_X6_thickest_60 N n_60) x6 vc vtl vta vtt vtp = some (r0, vtl', vta', vtt', vtp') := hF
      unfold b_X6_thickest_60 at hF
      refine (hG _ _ _).2 ?_
      refine lv_iload hx hb dX6_thickest_60 (lv_at hl 1 rfl) ?_
      refine lv_iconst (v := (1 : Int32)) hx hb dX6_thickest_62 (by decide) ?_
      refine lv_icmp_lt (tgt := 117) hx hb dX6_thickest_63 (by decide) (fun hc => ?_) (fun hc => ?_)
      · have hF := k_if_t hF hc
        refine lv_bipush (v := (-6 : Int32)) hx hb dX6_thickest_117 (by decide) ?_
        obtain ⟨e0, e1, e2, e3, e4⟩ := k_inj5 hF
        have hP9 : va_P D vwCl [(aM, .inr (6, [.ref aS, .ref aH, .ref aL, .ref aP, .ref aR, .ref aT])), (aS, .inr (3, [.ref aC])), (aC, .inl (cyI, 225, .inl vc)), (aT, .inr (5, [.ref aTp, .int vtl', .int vta', .int vtt'])), (aTp, .inl (cyI, 552, .inl vtp'))] H := by rw [← e1, ← e2, ← e3, ← e4]; exact hP
        exact W.iret hx hb hr (fun t ht hW => ⟨⟨_, (), rfl, e0, x_ret hP9 ht⟩, hS.F ht⟩) hS.2.2 dX6_thickest_119
      · have hF := k_if_f hF hc
        refine lv_aload_n hx hb dX6_thickest_66 rfl (lv_at hl 0 rfl) ?_
        refine va_get (D := D) (ci := 6) (v := .ref aT) (C := RX6) (T := TX6) (N := 6) hx hb hts mi_X6_thickest_X6 hown hK.1 hP 0 rfl rfl 5 (by decide) (hts _ mm_X6_thickest_1) (fun _ h9 => h9) rfl dX6_thickest_67 ?_
        obtain ⟨vta_70, vtt_70, hC, hF⟩ := k_c2_ex hF
        refine x_VV (As := []) (rest := []) ⟨hx, hb, hml, hown, hts⟩ (c_X5_begin l D cyI cyZ aT aTp H.size N vtl vta vtt hC) (cwV 0 hts gX6_thickest_X5_begin rfl rfl rfl (by decide +kernel) ⟨Nat.le_of_ble_eq_true rfl, Nat.le_of_ble_eq_true rfl⟩) hK hP hD hS hA [3] rfl rfl rfl 3 rfl rfl rfl rfl hl.1 rfl (Nat.le_of_ble_eq_true rfl) ⟨Nat.zero_le _, Nat.zero_le _⟩ dX6_thickest_70 (fun H locs hP hD hS => ?_)
        have hP : va_P D vwCl [(aM, .inr (6, [.ref aS, .ref aH, .ref aL, .ref aP, .ref aR, .ref aT])), (aS, .inr (3, [.ref aC])), (aC, .inl (cyI, 225, .inl vc)), (aT, .inr (5, [.ref aTp, .int vtl, .int vta_70, .int vtt_70])), (aTp, .inl (cyI, 552, .inl vtp))] H := hP
        have hD : va_D A [(aM, .inr (6, [.ref aS, .ref aH, .ref aL, .ref aP, .ref aR, .ref aT])), (aS, .inr (3, [.ref aC])), (aC, .inl (cyI, 225, .inl vc)), (aT, .inr (5, [.ref aTp, .int vtl, .int vta_70, .int vtt_70])), (aTp, .inl (cyI, 552, .inl vtp))] := hD
        refine lv_aload_n hx hb dX6_thickest_73 rfl (lv_at hl 0 rfl) ?_
        refine va_get (D := D) (ci := 6) (v := .ref aT) (C := RX6) (T := TX6) (N := 6) hx hb hts mi_X6_thickest_X6 hown hK.1 hP 0 rfl rfl 5 (by decide) (hts _ mm_X6_thickest_1) (fun _ h9 => h9) rfl dX6_thickest_74 ?_
        refine lv_aload_n hx hb dX6_thickest_77 rfl (lv_at hl 0 rfl) ?_
        refine va_get (D := D) (ci := 6) (v := .ref aT) (C := RX6) (T := TX6) (N := 6) hx hb hts mi_X6_thickest_X6 hown hK.1 hP 0 rfl rfl 5 (by decide) (hts _ mm_X6_thickest_1) (fun _ h9 => h9) rfl dX6_thickest_78 ?_
        obtain ⟨r81, hC, hF⟩ := k_c1_ex hF
        refine x_VR (As := []) (rest := [.ref aT]) ⟨hx, hb, hml, hown, hts⟩ (c_X5_length l D cyI cyZ aT aTp N vtl vta_70 vtt_70 hC) (cwV 0 hts gX6_thickest_X5_length rfl rfl rfl (by decide +kernel) ⟨Nat.le_of_ble_eq_true rfl, Nat.le_of_ble_eq_true rfl⟩) hK hP hS [3] rfl 3 rfl rfl rfl rfl hl.1 rfl (Nat.le_of_ble_eq_true rfl) ⟨Nat.zero_le _, Nat.zero_le _⟩ dX6_thickest_81 (fun H locs hP hS => ?_)
        refine lv_iload hx hb dX6_thickest_84 (lv_at hl 1 rfl) ?_
        refine lv_aload_n hx hb dX6_thickest_86 rfl (lv_at hl 0 rfl) ?_
        refine va_get (D := D) (ci := 6) (v := .ref aS) (C := RX6) (T := TX6) (N := 6) hx hb hts mi_X6_thickest_X6 hown hK.1 hP 0 rfl rfl 0 (by decide) (hts _ mm_X6_thickest_2) (fun _ h9 => h9) rfl dX6_thickest_87 ?_
        refine lv_iconst (v := (2 : Int32)) hx hb dX6_thickest_90 (by decide) ?_
        obtain ⟨r91, hC, hF⟩ := k_c1_ex hF
        refine x_VR (As := [.int (2 : Int32)]) (rest := [.int x6, .int r81, .ref aT]) ⟨hx, hb, hml, hown, hts⟩ (c_X3_cell l D cyI cyZ aS aC N (2 : Int32) vc hC) (cwV 1 hts gX6_thickest_X3_cell rfl rfl rfl (by decide +kernel) ⟨Nat.le_of_ble_eq_true rfl, Nat.le_of_ble_eq_true rfl⟩) hK hP hS [1, 2] rfl 1 rfl rfl rfl rfl hl.1 rfl (Nat.le_of_ble_eq_true rfl) ⟨Nat.zero_le _, Nat.zero_le _⟩ dX6_thickest_91 (fun H locs hP hS => ?_)
        refine lv_aload_n hx hb dX6_thickest_94 rfl (lv_at hl 0 rfl) ?_
        refine va_get (D := D) (ci := 6) (v := .ref aS) (C := RX6) (T := TX6) (N := 6) hx hb hts mi_X6_thickest_X6 hown hK.1 hP 0 rfl rfl 0 (by decide) (hts _ mm_X6_thickest_2) (fun _ h9 => h9) rfl dX6_thickest_95 ?_
        refine lv_iconst (v := (1 : Int32)) hx hb dX6_thickest_98 (by decide) ?_
        obtain ⟨r99, hC, hF⟩ := k_c1_ex hF
        refine x_VR (As := [.int (1 : Int32)]) (rest := [.int r91, .int x6, .int r81, .ref aT]) ⟨hx, hb, hml, hown, hts⟩ (c_X3_setting l D cyI cyZ aS aC N (1 : Int32) vc hC) (cwV 1 hts gX6_thickest_X3_setting rfl rfl rfl (by decide +kernel) ⟨Nat.le_of_ble_eq_true rfl, Nat.le_of_ble_eq_true rfl⟩) hK hP hS [1, 2] rfl 1 rfl rfl rfl rfl hl.1 rfl (Nat.le_of_ble_eq_true rfl) ⟨Nat.zero_le _, Nat.zero_le _⟩ dX6_thickest_99 (fun H locs hP hS => ?_)
        obtain ⟨r102, vta_102, vtt_102, hC, hF⟩ := k_c3_ex hF
        refine x_VM (As := [.int r81, .int x6, .int r91, .int r99]) (rest := []) ⟨hx, hb, hml, hown, hts⟩ (c_X5_tears l D cyI cyZ aT aTp H.size N r81 x6 r91 r99 vtl vta_70 vtt_70 vtp hC) (cwV 4 hts gX6_thickest_X5_tears rfl rfl rfl (by decide +kernel) ⟨Nat.le_of_ble_eq_true rfl, Nat.le_of_ble_eq_true rfl⟩) hK hP hD hS hA [3, 4] rfl rfl rfl 3 rfl rfl rfl rfl hl.1 rfl (Nat.le_of_ble_eq_true rfl) ⟨Nat.zero_le _, Nat.zero_le _⟩ dX6_thickest_102 (fun H locs hP hD hS => ?_)
        have hP : va_P D vwCl [(aM, .inr (6, [.ref aS, .ref aH, .ref aL, .ref aP, .ref aR, .ref aT])), (aS, .inr (3, [.ref aC])), (aC, .inl (cyI, 225, .inl vc)), (aT, .inr (5, [.ref aTp, .int vtl, .int vta_102, .int vtt_102])), (aTp, .inl (cyI, 552, .inl vtp))] H := hP
        have hD : va_D A [(aM, .inr (6, [.ref aS, .ref aH, .ref aL, .ref aP, .ref aR, .ref aT])), (aS, .inr (3, [.ref aC])), (aC, .inl (cyI, 225, .inl vc)), (aT, .inr (5, [.ref aTp, .int vtl, .int vta_102, .int vtt_102])), (aTp, .inl (cyI, 552, .inl vtp))] := hD
        refine lv_if_ne (tgt := 111) hx hb dX6_thickest_105 (by decide) (fun hc => ?_) (fun hc => ?_)
        · have hF := k_if_f hF hc
          obtain ⟨x6_111, hn, hF⟩ := k_let_ex hF
          refine lv_iinc (v := x6_111) (lv' := [(6, .int x6_111), (0, .ref aM)]) hx hb dX6_thickest_111 hl (k := 1) rfl (by rw [hn]; rfl) (by decide) rfl (fun ls hl => ?_)
          refine lv_goto (tgt := 60) hx hb dX6_thickest_114 (by decide) ?_
          exact (hG _ _ _).1 (ih_60 x6_111 vtl vta_102 vtt_102 vtp hF _ _ _ hP hD hS (lv_sub hl [1, 0] rfl))
        · have hF := k_if_t hF hc
          refine lv_iload hx hb dX6_thickest_108 (lv_at hl 1 rfl) ?_
          obtain ⟨e0, e1, e2, e3, e4⟩ := k_inj5 hF
          have hP9 : va_P D vwCl [(aM, .inr (6, [.ref aS, .ref aH, .ref aL, .ref aP, .ref aR, .ref aT])), (aS, .inr (3, [.ref aC])), (aC, .inl (cyI, 225, .inl vc)), (aT, .inr (5, [.ref aTp, .int vtl', .int vta', .int vtt'])), (aTp, .inl (cyI, 552, .inl vtp'))] H := by rw [← e1, ← e2, ← e3, ← e4]; exact hP
          exact W.iret hx hb hr (fun t ht hW => ⟨⟨_, (), rfl, e0, x_ret hP9 ht⟩, hS.F ht⟩) hS.2.2 dX6_thickest_110
  refine (hG _ _ _).2 ?_
  unfold p_X6_thickest at hF
  refine lv_aload_n hx hb dX6_thickest_0 rfl (lv_at hl 0 rfl) ?_
  refine lv_iload_n hx hb dX6_thickest_1 rfl (lv_at hl 1 rfl) ?_
  refine lv_iload_n hx hb dX6_thickest_2 rfl (lv_at hl 2 rfl) ?_
  refine lv_iload_n hx hb dX6_thickest_3 rfl (lv_at hl 3 rfl) ?_
  refine lv_iload hx hb dX6_thickest_4 (lv_at hl 4 rfl) ?_
  obtain ⟨r6, hC, hF⟩ := k_c1_ex hF
  refine x_VR (As := [.int x1, .int x2, .int x3, .int x4]) (rest := []) ⟨hx, hb, hml, hown, hts⟩ (c_X6_pairError l D cyI cyZ aM aS aC aH aL aP aR aT N x1 x2 x3 x4 vc hC) (cwV 4 hts gX6_thickest_X6_pairError rfl rfl rfl (by decide +kernel) ⟨Nat.le_of_ble_eq_true rfl, Nat.le_of_ble_eq_true rfl⟩) hK hP hS [0, 1, 2] rfl 0 rfl rfl rfl rfl hl.1 rfl (Nat.le_of_ble_eq_true rfl) ⟨Nat.zero_le _, Nat.zero_le _⟩ dX6_thickest_6 (fun H locs hP hS => ?_)
  refine lv_istore (lv' := [(5, .int r6), (0, .ref aM), (1, .int x1), (2, .int x2), (3, .int x3), (4, .int x4)]) hx hb dX6_thickest_9 hl (by decide) rfl (fun ls hl => ?_)
  refine lv_iload hx hb dX6_thickest_11 (lv_at hl 0 rfl) ?_
  refine lv_if_eq (tgt := 19) hx hb dX6_thickest_13 (by decide) (fun hc => ?_) (fun hc => ?_)
  · have hF := k_if_t hF hc
    refine lv_aload_n hx hb dX6_thickest_19 rfl (lv_at hl 1 rfl) ?_
    refine va_get (D := D) (ci := 6) (v := .ref aT) (C := RX6) (T := TX6) (N := 6) hx hb hts mi_X6_thickest_X6 hown hK.1 hP 0 rfl rfl 5 (by decide) (hts _ mm_X6_thickest_1) (fun _ h9 => h9) rfl dX6_thickest_20 ?_
    refine lv_aload_n hx hb dX6_thickest_23 rfl (lv_at hl 1 rfl) ?_
    refine va_get (D := D) (ci := 6) (v := .ref aS) (C := RX6) (T := TX6) (N := 6) hx hb hts mi_X6_thickest_X6 hown hK.1 hP 0 rfl rfl 0 (by decide) (hts _ mm_X6_thickest_2) (fun _ h9 => h9) rfl dX6_thickest_24 ?_
    refine lv_iload_n hx hb dX6_thickest_27 rfl (lv_at hl 2 rfl) ?_
    refine lv_iload_n hx hb dX6_thickest_28 rfl (lv_at hl 3 rfl) ?_
    refine lv_iload_n hx hb dX6_thickest_29 rfl (lv_at hl 4 rfl) ?_
    refine lv_iload hx hb dX6_thickest_30 (lv_at hl 5 rfl) ?_
    obtain ⟨vtl_32, vtp_32, hC, hF⟩ := k_c2_ex hF
    refine x_VV (As := [.ref aS, .int x1, .int x2, .int x3, .int x4]) (rest := []) ⟨hx, hb, hml, hown, hts⟩ (c_X5_lay l D cyI cyZ aS aC aT aTp H.size N x1 x2 x3 x4 vc vtl vta vtt vtp hC) (cwV 5 hts gX6_thickest_X5_lay rfl rfl rfl (by decide +kernel) ⟨Nat.le_of_ble_eq_true rfl, Nat.le_of_ble_eq_true rfl⟩) hK hP hD hS hA [1, 2, 3, 4] rfl rfl rfl 3 rfl rfl rfl rfl hl.1 rfl (Nat.le_of_ble_eq_true rfl) ⟨Nat.zero_le _, Nat.zero_le _⟩ dX6_thickest_32 (fun H locs hP hD hS => ?_)
    have hP : va_P D vwCl [(aM, .inr (6, [.ref aS, .ref aH, .ref aL, .ref aP, .ref aR, .ref aT])), (aS, .inr (3, [.ref aC])), (aC, .inl (cyI, 225, .inl vc)), (aT, .inr (5, [.ref aTp, .int vtl_32, .int vta, .int vtt])), (aTp, .inl (cyI, 552, .inl vtp_32))] H := hP
    have hD : va_D A [(aM, .inr (6, [.ref aS, .ref aH, .ref aL, .ref aP, .ref aR, .ref aT])), (aS, .inr (3, [.ref aC])), (aC, .inl (cyI, 225, .inl vc)), (aT, .inr (5, [.ref aTp, .int vtl_32, .int vta, .int vtt])), (aTp, .inl (cyI, 552, .inl vtp_32))] := hD
    refine lv_aload_n hx hb dX6_thickest_35 rfl (lv_at hl 1 rfl) ?_
    refine va_get (D := D) (ci := 6) (v := .ref aT) (C := RX6) (T := TX6) (N := 6) hx hb hts mi_X6_thickest_X6 hown hK.1 hP 0 rfl rfl 5 (by decide) (hts _ mm_X6_thickest_1) (fun _ h9 => h9) rfl dX6_thickest_36 ?_
    refine lv_aload_n hx hb dX6_thickest_39 rfl (lv_at hl 1 rfl) ?_
    refine va_get (D := D) (ci := 6) (v := .ref aS) (C := RX6) (T := TX6) (N := 6) hx hb hts mi_X6_thickest_X6 hown hK.1 hP 0 rfl rfl 0 (by decide) (hts _ mm_X6_thickest_2) (fun _ h9 => h9) rfl dX6_thickest_40 ?_
    refine lv_iconst (v := (0 : Int32)) hx hb dX6_thickest_43 (by decide) ?_
    obtain ⟨r44, hC, hF⟩ := k_c1_ex hF
    refine x_VR (As := [.int (0 : Int32)]) (rest := [.ref aT]) ⟨hx, hb, hml, hown, hts⟩ (c_X3_setting l D cyI cyZ aS aC N (0 : Int32) vc hC) (cwV 1 hts gX6_thickest_X3_setting rfl rfl rfl (by decide +kernel) ⟨Nat.le_of_ble_eq_true rfl, Nat.le_of_ble_eq_true rfl⟩) hK hP hS [1, 2] rfl 1 rfl rfl rfl rfl hl.1 rfl (Nat.le_of_ble_eq_true rfl) ⟨Nat.zero_le _, Nat.zero_le _⟩ dX6_thickest_44 (fun H locs hP hS => ?_)
    obtain ⟨r47, hC, hF⟩ := k_c1_ex hF
    refine x_VR (As := [.int r44]) (rest := []) ⟨hx, hb, hml, hown, hts⟩ (c_X5_meshes l D cyI cyZ aT aTp N r44 vtl_32 vta vtt vtp_32 hC) (cwV 1 hts gX6_thickest_X5_meshes rfl rfl rfl (by decide +kernel) ⟨Nat.le_of_ble_eq_true rfl, Nat.le_of_ble_eq_true rfl⟩) hK hP hS [3, 4] rfl 3 rfl rfl rfl rfl hl.1 rfl (Nat.le_of_ble_eq_true rfl) ⟨Nat.zero_le _, Nat.zero_le _⟩ dX6_thickest_47 (fun H locs hP hS => ?_)
    refine lv_if_ne (tgt := 56) hx hb dX6_thickest_50 (by decide) (fun hc => ?_) (fun hc => ?_)
    · have hF := k_if_f hF hc
      refine lv_bipush (v := (30 : Int32)) hx hb dX6_thickest_56 (by decide) ?_
      refine lv_istore (lv' := [(6, .int (30 : Int32)), (5, .int r6), (0, .ref aM), (1, .int x1), (2, .int x2), (3, .int x3), (4, .int x4)]) hx hb dX6_thickest_58 hl (by decide) rfl (fun ls hl => ?_)
      exact (hG _ _ _).1 (blk_60 N (30 : Int32) vtl_32 vta vtt vtp_32 hF _ _ _ hP hD hS (lv_sub hl [2, 0] rfl))
    · have hF := k_if_t hF hc
      refine lv_bipush (v := (-6 : Int32)) hx hb dX6_thickest_53 (by decide) ?_
      obtain ⟨e0, e1, e2, e3, e4⟩ := k_inj5 hF
      have hP9 : va_P D vwCl [(aM, .inr (6, [.ref aS, .ref aH, .ref aL, .ref aP, .ref aR, .ref aT])), (aS, .inr (3, [.ref aC])), (aC, .inl (cyI, 225, .inl vc)), (aT, .inr (5, [.ref aTp, .int vtl', .int vta', .int vtt'])), (aTp, .inl (cyI, 552, .inl vtp'))] H := by rw [← e1, ← e2, ← e3, ← e4]; exact hP
      exact W.iret hx hb hr (fun t ht hW => ⟨⟨_, (), rfl, e0, x_ret hP9 ht⟩, hS.F ht⟩) hS.2.2 dX6_thickest_55
  · have hF := k_if_f hF hc
    refine lv_iload hx hb dX6_thickest_16 (lv_at hl 0 rfl) ?_
    obtain ⟨e0, e1, e2, e3, e4⟩ := k_inj5 hF
    have hP9 : va_P D vwCl [(aM, .inr (6, [.ref aS, .ref aH, .ref aL, .ref aP, .ref aR, .ref aT])), (aS, .inr (3, [.ref aC])), (aC, .inl (cyI, 225, .inl vc)), (aT, .inr (5, [.ref aTp, .int vtl', .int vta', .int vtt'])), (aTp, .inl (cyI, 552, .inl vtp'))] H := by rw [← e1, ← e2, ← e3, ← e4]; exact hP
    exact W.iret hx hb hr (fun t ht hW => ⟨⟨_, (), rfl, e0, x_ret hP9 ht⟩, hS.F ht⟩) hS.2.2 dX6_thickest_18
theorem mm_X6_put_1 : Cond.fieldLink RX6 33 "RollerMesh" "pad" "LRollerMesh$Pad;" ∈ wsX6_put := List.mem_of_getElem? (i := 1) rfl
theorem mi_X6_put_X6 : ∀ w ∈ wsX60, w ∈ wsX6_put := fun _ h => List.mem_cons_of_mem _ (List.mem_append_left _ (List.mem_append_right _ h))
set_option maxHeartbeats 4000000 in
set_option maxRecDepth 100000 in
theorem c_X6_put (l : Launch) (D : va_G) (cyI cyZ : ClassId) (aM aS aH aL aP aPc aR aT : Nat) (sz : Nat) (N : Nat) (x1 : Int64) (vpl : Int32) (vpp : (Nat → Int32)) {r0 : Int32} {vpl' : Int32} {vpp' : (Nat → Int32)} (hF : p_X6_put N x1 vpl vpp = some (r0, vpl', vpp')) : Met l yX6_put wsX6_put ({ frames := 3, cells := 0, slots := 0, locals := 69 }) (x_PM D cyI cyZ [.ref aM, .long x1] [(aM, .inr (6, [.ref aS, .ref aH, .ref aL, .ref aP, .ref aR, .ref aT])), (aP, .inr (1, [.ref aPc, .int vpl])), (aPc, .inl (cyI, 80, .inl vpp))] sz) (x_QM D r0 (va_A [(aM, .inr (6, [.ref aS, .ref aH, .ref aL, .ref aP, .ref aR, .ref aT])), (aP, .inr (1, [.ref aPc, .int vpl])), (aPc, .inl (cyI, 80, .inl vpp))] sz) [(aM, .inr (6, [.ref aS, .ref aH, .ref aL, .ref aP, .ref aR, .ref aT])), (aP, .inr (1, [.ref aPc, .int vpl'])), (aPc, .inl (cyI, 80, .inl vpp'))]) 0 0 (va_A [(aM, .inr (6, [.ref aS, .ref aH, .ref aL, .ref aP, .ref aR, .ref aT])), (aP, .inr (1, [.ref aPc, .int vpl])), (aPc, .inl (cyI, 80, .inl vpp))] sz) := by
  refine Met.ofW (cc := cX6_put) (maxL := 3) (ret := (some .int)) (by decide) rfl ?_
  intro p e s m args below meth c s₁ B hml hv
  obtain ⟨rfl, hsz, hP, hK, hD0⟩ := hv
  have hx := B.exec
  have hb := B.bytes
  have hr := B.returns
  have hts := atoms_spec (ws := wsX6_put) B.pre
  have hown : s.vm.findClass RX6 = some m.cls := findClass_of_methodNamed B.named
  have hlocks := B.notSynchronized
  subst hsz
  have hD := hD0.self (sz := s.heap.size)
  generalize hAe : va_A [(aM, .inr (6, [.ref aS, .ref aH, .ref aL, .ref aP, .ref aR, .ref aT])), (aP, .inr (1, [.ref aPc, .int vpl])), (aPc, .inl (cyI, 80, .inl vpp))] s.heap.size = A at hD ⊢
  have hA : ∀ q : Nat, s.heap.size ≤ q → A q := fun q h => by rw [← hAe]; exact Or.inr h
  have hS : va_S A s.heap s.heap [] := va_S.rf
  have hP : va_P D vwCl [(aM, .inr (6, [.ref aS, .ref aH, .ref aL, .ref aP, .ref aR, .ref aT])), (aP, .inr (1, [.ref aPc, .int vpl])), (aPc, .inl (cyI, 80, .inl vpp))] s.heap := hP
  have hl := lv_entry ([.ref aM, .long x1]) (n := 3) (Nat.le_of_ble_eq_true rfl)
  rw [lg_entry_eq]
  generalize (lg_sl ([.ref aM, .long x1]) ++ List.replicate (3 - (lg_sl ([.ref aM, .long x1])).length) Slot.unset).toArray = ls at hl ⊢
  have hl : lv_has ls 3 [(0, .ref aM), (1, .long x1)] := hl
  unfold p_X6_put at hF
  refine lv_aload_n hx hb dX6_put_0 rfl (lv_at hl 0 rfl) ?_
  refine va_get (D := D) (ci := 6) (v := .ref aP) (C := RX6) (T := TX6) (N := 6) hx hb hts mi_X6_put_X6 hown hK.1 hP 0 rfl rfl 3 (by decide) (hts _ mm_X6_put_1) (fun _ h9 => h9) rfl dX6_put_1 ?_
  refine lv_lload_n hx hb dX6_put_4 rfl (lv_at hl 1 rfl) ?_
  obtain ⟨r5, vpl_5, vpp_5, hC, hF⟩ := k_c3_ex hF
  refine x_VM (As := [.long x1]) (rest := []) ⟨hx, hb, hml, hown, hts⟩ (c_X1_append l D cyI cyZ aP aPc s.heap.size N x1 vpl vpp hC) (cwV 1 hts gX6_put_X1_append rfl rfl rfl (by decide +kernel) ⟨Nat.le_of_ble_eq_true rfl, Nat.le_of_ble_eq_true rfl⟩) hK hP hD hS hA [1, 2] rfl rfl rfl 1 rfl rfl rfl rfl hl.1 rfl (Nat.le_of_ble_eq_true rfl) ⟨Nat.zero_le _, Nat.zero_le _⟩ dX6_put_5 (fun H locs hP hD hS => ?_)
  have hP : va_P D vwCl [(aM, .inr (6, [.ref aS, .ref aH, .ref aL, .ref aP, .ref aR, .ref aT])), (aP, .inr (1, [.ref aPc, .int vpl_5])), (aPc, .inl (cyI, 80, .inl vpp_5))] H := hP
  have hD : va_D A [(aM, .inr (6, [.ref aS, .ref aH, .ref aL, .ref aP, .ref aR, .ref aT])), (aP, .inr (1, [.ref aPc, .int vpl_5])), (aPc, .inl (cyI, 80, .inl vpp_5))] := hD
  obtain ⟨e0, e1, e2⟩ := k_inj3 hF
  have hP9 : va_P D vwCl [(aM, .inr (6, [.ref aS, .ref aH, .ref aL, .ref aP, .ref aR, .ref aT])), (aP, .inr (1, [.ref aPc, .int vpl'])), (aPc, .inl (cyI, 80, .inl vpp'))] H := by rw [← e1, ← e2]; exact hP
  exact W.iret hx hb hr (fun t ht hW => ⟨⟨_, (), rfl, e0, x_ret hP9 ht⟩, hS.F ht⟩) hS.2.2 dX6_put_8
theorem mm_X6_undo_1 : Cond.fieldLink RX6 19 "RollerMesh" "history" "LRollerMesh$History;" ∈ wsX6_undo := List.mem_of_getElem? (i := 1) rfl
theorem mm_X6_undo_2 : Cond.fieldLink RX6 10 "RollerMesh" "shop" "LRollerMesh$Shop;" ∈ wsX6_undo := List.mem_of_getElem? (i := 2) rfl
theorem mi_X6_undo_X6 : ∀ w ∈ wsX60, w ∈ wsX6_undo := fun _ h => List.mem_cons_of_mem _ (List.mem_append_left _ (List.mem_append_left _ (List.mem_append_right _ h)))
set_option maxHeartbeats 4000000 in
set_option maxRecDepth 100000 in
theorem c_X6_undo (l : Launch) (D : va_G) (cyI cyZ : ClassId) (aM aS aC aH aHs aL aP aR aT : Nat) (sz : Nat) (N : Nat) (vc : (Nat → Int32)) (vhf : Int32) (vhl : Int32) (vhs : (Nat → Int32)) {r0 : Int32} {vc' : (Nat → Int32)} {vhf' : Int32} {vhl' : Int32} (hF : p_X6_undo N vc vhf vhl vhs = some (r0, vc', vhf', vhl')) : Met l yX6_undo wsX6_undo ({ frames := 3, cells := 0, slots := 0, locals := 69 }) (x_PM D cyI cyZ [.ref aM] [(aM, .inr (6, [.ref aS, .ref aH, .ref aL, .ref aP, .ref aR, .ref aT])), (aS, .inr (3, [.ref aC])), (aC, .inl (cyI, 225, .inl vc)), (aH, .inr (0, [.ref aHs, .int vhf, .int vhl])), (aHs, .inl (cyI, 1575, .inl vhs))] sz) (x_QM D r0 (va_A [(aM, .inr (6, [.ref aS, .ref aH, .ref aL, .ref aP, .ref aR, .ref aT])), (aS, .inr (3, [.ref aC])), (aC, .inl (cyI, 225, .inl vc)), (aH, .inr (0, [.ref aHs, .int vhf, .int vhl])), (aHs, .inl (cyI, 1575, .inl vhs))] sz) [(aM, .inr (6, [.ref aS, .ref aH, .ref aL, .ref aP, .ref aR, .ref aT])), (aS, .inr (3, [.ref aC])), (aC, .inl (cyI, 225, .inl vc')), (aH, .inr (0, [.ref aHs, .int vhf', .int vhl'])), (aHs, .inl (cyI, 1575, .inl vhs))]) 0 0 (va_A [(aM, .inr (6, [.ref aS, .ref aH, .ref aL, .ref aP, .ref aR, .ref aT])), (aS, .inr (3, [.ref aC])), (aC, .inl (cyI, 225, .inl vc)), (aH, .inr (0, [.ref aHs, .int vhf, .int vhl])), (aHs, .inl (cyI, 1575, .inl vhs))] sz) := by
  refine Met.ofW (cc := cX6_undo) (maxL := 1) (ret := (some .int)) (by decide) rfl ?_
  intro p e s m args below meth c s₁ B hml hv
  obtain ⟨rfl, hsz, hP, hK, hD0⟩ := hv
  have hx := B.exec
  have hb := B.bytes
  have hr := B.returns
  have hts := atoms_spec (ws := wsX6_undo) B.pre
  have hown : s.vm.findClass RX6 = some m.cls := findClass_of_methodNamed B.named
  have hlocks := B.notSynchronized
  subst hsz
  have hD := hD0.self (sz := s.heap.size)
  generalize hAe : va_A [(aM, .inr (6, [.ref aS, .ref aH, .ref aL, .ref aP, .ref aR, .ref aT])), (aS, .inr (3, [.ref aC])), (aC, .inl (cyI, 225, .inl vc)), (aH, .inr (0, [.ref aHs, .int vhf, .int vhl])), (aHs, .inl (cyI, 1575, .inl vhs))] s.heap.size = A at hD ⊢
  have hA : ∀ q : Nat, s.heap.size ≤ q → A q := fun q h => by rw [← hAe]; exact Or.inr h
  have hS : va_S A s.heap s.heap [] := va_S.rf
  have hP : va_P D vwCl [(aM, .inr (6, [.ref aS, .ref aH, .ref aL, .ref aP, .ref aR, .ref aT])), (aS, .inr (3, [.ref aC])), (aC, .inl (cyI, 225, .inl vc)), (aH, .inr (0, [.ref aHs, .int vhf, .int vhl])), (aHs, .inl (cyI, 1575, .inl vhs))] s.heap := hP
  have hl := lv_entry ([.ref aM]) (n := 1) (Nat.le_of_ble_eq_true rfl)
  rw [lg_entry_eq]
  generalize (lg_sl ([.ref aM]) ++ List.replicate (1 - (lg_sl ([.ref aM])).length) Slot.unset).toArray = ls at hl ⊢
  have hl : lv_has ls 1 [(0, .ref aM)] := hl
  unfold p_X6_undo at hF
  refine lv_aload_n hx hb dX6_undo_0 rfl (lv_at hl 0 rfl) ?_
  refine va_get (D := D) (ci := 6) (v := .ref aH) (C := RX6) (T := TX6) (N := 6) hx hb hts mi_X6_undo_X6 hown hK.1 hP 0 rfl rfl 1 (by decide) (hts _ mm_X6_undo_1) (fun _ h9 => h9) rfl dX6_undo_1 ?_
  refine lv_aload_n hx hb dX6_undo_4 rfl (lv_at hl 0 rfl) ?_
  refine va_get (D := D) (ci := 6) (v := .ref aS) (C := RX6) (T := TX6) (N := 6) hx hb hts mi_X6_undo_X6 hown hK.1 hP 0 rfl rfl 0 (by decide) (hts _ mm_X6_undo_2) (fun _ h9 => h9) rfl dX6_undo_5 ?_
  obtain ⟨r8, vc_8, vhf_8, vhl_8, hC, hF⟩ := k_c4_ex hF
  refine x_VM (As := [.ref aS]) (rest := []) ⟨hx, hb, hml, hown, hts⟩ (c_X0_stepBack l D cyI cyZ aS aC aH aHs s.heap.size N vc vhf vhl vhs hC) (cwV 1 hts gX6_undo_X0_stepBack rfl rfl rfl (by decide +kernel) ⟨Nat.le_of_ble_eq_true rfl, Nat.le_of_ble_eq_true rfl⟩) hK hP hD hS hA [1, 2, 3, 4] rfl rfl rfl 3 rfl rfl rfl rfl hl.1 rfl (Nat.le_of_ble_eq_true rfl) ⟨Nat.zero_le _, Nat.zero_le _⟩ dX6_undo_8 (fun H locs hP hD hS => ?_)
  have hP : va_P D vwCl [(aM, .inr (6, [.ref aS, .ref aH, .ref aL, .ref aP, .ref aR, .ref aT])), (aS, .inr (3, [.ref aC])), (aC, .inl (cyI, 225, .inl vc_8)), (aH, .inr (0, [.ref aHs, .int vhf_8, .int vhl_8])), (aHs, .inl (cyI, 1575, .inl vhs))] H := hP
  have hD : va_D A [(aM, .inr (6, [.ref aS, .ref aH, .ref aL, .ref aP, .ref aR, .ref aT])), (aS, .inr (3, [.ref aC])), (aC, .inl (cyI, 225, .inl vc_8)), (aH, .inr (0, [.ref aHs, .int vhf_8, .int vhl_8])), (aHs, .inl (cyI, 1575, .inl vhs))] := hD
  obtain ⟨e0, e1, e2, e3⟩ := k_inj4 hF
  have hP9 : va_P D vwCl [(aM, .inr (6, [.ref aS, .ref aH, .ref aL, .ref aP, .ref aR, .ref aT])), (aS, .inr (3, [.ref aC])), (aC, .inl (cyI, 225, .inl vc')), (aH, .inr (0, [.ref aHs, .int vhf', .int vhl'])), (aHs, .inl (cyI, 1575, .inl vhs))] H := by rw [← e1, ← e2, ← e3]; exact hP
  exact W.iret hx hb hr (fun t ht hW => ⟨⟨_, (), rfl, e0, x_ret hP9 ht⟩, hS.F ht⟩) hS.2.2 dX6_undo_11
theorem mm_X6_fault_1 : Cond.fieldLink RX6 42 "RollerMesh" "reader" "LRollerMesh$Reader;" ∈ wsX6_fault := List.mem_of_getElem? (i := 1) rfl
theorem mi_X6_fault_X6 : ∀ w ∈ wsX60, w ∈ wsX6_fault := fun _ h => List.mem_cons_of_mem _ (List.mem_append_left _ (List.mem_append_left _ (List.mem_append_right _ h)))
set_option maxHeartbeats 4000000 in
set_option maxRecDepth 100000 in
theorem c_X6_fault (l : Launch) (D : va_G) (cyI cyZ : ClassId) (aM aS aH aL aP aPc aR aRn aT : Nat) (sz : Nat) (N : Nat) (vpl : Int32) (vpp : (Nat → Int32)) (vra : Int32) (vrk : Int32) (vrt : Int32) (vrn : (Nat → Int32)) {r0 : Int32} {vra' : Int32} {vrk' : Int32} {vrt' : Int32} {vrn' : (Nat → Int32)} (hF : p_X6_fault N vpl vpp vra vrk vrt vrn = some (r0, vra', vrk', vrt', vrn')) : Met l yX6_fault wsX6_fault ({ frames := 6, cells := 0, slots := 0, locals := 126 }) (x_PM D cyI cyZ [.ref aM] [(aM, .inr (6, [.ref aS, .ref aH, .ref aL, .ref aP, .ref aR, .ref aT])), (aP, .inr (1, [.ref aPc, .int vpl])), (aPc, .inl (cyI, 80, .inl vpp)), (aR, .inr (2, [.ref aP, .ref aRn, .int vra, .int vrk, .int vrt])), (aRn, .inl (cyI, 40, .inl vrn))] sz) (x_QM D r0 (va_A [(aM, .inr (6, [.ref aS, .ref aH, .ref aL, .ref aP, .ref aR, .ref aT])), (aP, .inr (1, [.ref aPc, .int vpl])), (aPc, .inl (cyI, 80, .inl vpp)), (aR, .inr (2, [.ref aP, .ref aRn, .int vra, .int vrk, .int vrt])), (aRn, .inl (cyI, 40, .inl vrn))] sz) [(aM, .inr (6, [.ref aS, .ref aH, .ref aL, .ref aP, .ref aR, .ref aT])), (aP, .inr (1, [.ref aPc, .int vpl])), (aPc, .inl (cyI, 80, .inl vpp)), (aR, .inr (2, [.ref aP, .ref aRn, .int vra', .int vrk', .int vrt'])), (aRn, .inl (cyI, 40, .inl vrn'))]) 0 0 (va_A [(aM, .inr (6, [.ref aS, .ref aH, .ref aL, .ref aP, .ref aR, .ref aT])), (aP, .inr (1, [.ref aPc, .int vpl])), (aPc, .inl (cyI, 80, .inl vpp)), (aR, .inr (2, [.ref aP, .ref aRn, .int vra, .int vrk, .int vrt])), (aRn, .inl (cyI, 40, .inl vrn))] sz) := by
  refine Met.ofW (cc := cX6_fault) (maxL := 1) (ret := (some .int)) (by decide) rfl ?_
  intro p e s m args below meth c s₁ B hml hv
  obtain ⟨rfl, hsz, hP, hK, hD0⟩ := hv
  have hx := B.exec
  have hb := B.bytes
  have hr := B.returns
  have hts := atoms_spec (ws := wsX6_fault) B.pre
  have hown : s.vm.findClass RX6 = some m.cls := findClass_of_methodNamed B.named
  have hlocks := B.notSynchronized
  subst hsz
  have hD := hD0.self (sz := s.heap.size)
  generalize hAe : va_A [(aM, .inr (6, [.ref aS, .ref aH, .ref aL, .ref aP, .ref aR, .ref aT])), (aP, .inr (1, [.ref aPc, .int vpl])), (aPc, .inl (cyI, 80, .inl vpp)), (aR, .inr (2, [.ref aP, .ref aRn, .int vra, .int vrk, .int vrt])), (aRn, .inl (cyI, 40, .inl vrn))] s.heap.size = A at hD ⊢
  have hA : ∀ q : Nat, s.heap.size ≤ q → A q := fun q h => by rw [← hAe]; exact Or.inr h
  have hS : va_S A s.heap s.heap [] := va_S.rf
  have hP : va_P D vwCl [(aM, .inr (6, [.ref aS, .ref aH, .ref aL, .ref aP, .ref aR, .ref aT])), (aP, .inr (1, [.ref aPc, .int vpl])), (aPc, .inl (cyI, 80, .inl vpp)), (aR, .inr (2, [.ref aP, .ref aRn, .int vra, .int vrk, .int vrt])), (aRn, .inl (cyI, 40, .inl vrn))] s.heap := hP
  have hl := lv_entry ([.ref aM]) (n := 1) (Nat.le_of_ble_eq_true rfl)
  rw [lg_entry_eq]
  generalize (lg_sl ([.ref aM]) ++ List.replicate (1 - (lg_sl ([.ref aM])).length) Slot.unset).toArray = ls at hl ⊢
  have hl : lv_has ls 1 [(0, .ref aM)] := hl
  unfold p_X6_fault at hF
  refine lv_aload_n hx hb dX6_fault_0 rfl (lv_at hl 0 rfl) ?_
  refine va_get (D := D) (ci := 6) (v := .ref aR) (C := RX6) (T := TX6) (N := 6) hx hb hts mi_X6_fault_X6 hown hK.1 hP 0 rfl rfl 4 (by decide) (hts _ mm_X6_fault_1) (fun _ h9 => h9) rfl dX6_fault_1 ?_
  obtain ⟨r4, vra_4, vrk_4, vrt_4, vrn_4, hC, hF⟩ := k_c5_ex hF
  refine x_VM (As := []) (rest := []) ⟨hx, hb, hml, hown, hts⟩ (c_X2_firstFault l D cyI cyZ aP aPc aR aRn s.heap.size N vpl vpp vra vrk vrt vrn hC) (cwV 0 hts gX6_fault_X2_firstFault rfl rfl rfl (by decide +kernel) ⟨Nat.le_of_ble_eq_true rfl, Nat.le_of_ble_eq_true rfl⟩) hK hP hD hS hA [1, 2, 3, 4] rfl rfl rfl 3 rfl rfl rfl rfl hl.1 rfl (Nat.le_of_ble_eq_true rfl) ⟨Nat.zero_le _, Nat.zero_le _⟩ dX6_fault_4 (fun H locs hP hD hS => ?_)
  have hP : va_P D vwCl [(aM, .inr (6, [.ref aS, .ref aH, .ref aL, .ref aP, .ref aR, .ref aT])), (aP, .inr (1, [.ref aPc, .int vpl])), (aPc, .inl (cyI, 80, .inl vpp)), (aR, .inr (2, [.ref aP, .ref aRn, .int vra_4, .int vrk_4, .int vrt_4])), (aRn, .inl (cyI, 40, .inl vrn_4))] H := hP
  have hD : va_D A [(aM, .inr (6, [.ref aS, .ref aH, .ref aL, .ref aP, .ref aR, .ref aT])), (aP, .inr (1, [.ref aPc, .int vpl])), (aPc, .inl (cyI, 80, .inl vpp)), (aR, .inr (2, [.ref aP, .ref aRn, .int vra_4, .int vrk_4, .int vrt_4])), (aRn, .inl (cyI, 40, .inl vrn_4))] := hD
  obtain ⟨e0, e1, e2, e3, e4⟩ := k_inj5 hF
  have hP9 : va_P D vwCl [(aM, .inr (6, [.ref aS, .ref aH, .ref aL, .ref aP, .ref aR, .ref aT])), (aP, .inr (1, [.ref aPc, .int vpl])), (aPc, .inl (cyI, 80, .inl vpp)), (aR, .inr (2, [.ref aP, .ref aRn, .int vra', .int vrk', .int vrt'])), (aRn, .inl (cyI, 40, .inl vrn'))] H := by rw [← e1, ← e2, ← e3, ← e4]; exact hP
  exact W.iret hx hb hr (fun t ht hW => ⟨⟨_, (), rfl, e0, x_ret hP9 ht⟩, hS.F ht⟩) hS.2.2 dX6_fault_7
theorem mm_X6_wipe_1 : Cond.fieldLink RX6 33 "RollerMesh" "pad" "LRollerMesh$Pad;" ∈ wsX6_wipe := List.mem_of_getElem? (i := 1) rfl
theorem mi_X6_wipe_X6 : ∀ w ∈ wsX60, w ∈ wsX6_wipe := fun _ h => List.mem_cons_of_mem _ (List.mem_append_left _ (List.mem_append_right _ h))
set_option maxHeartbeats 4000000 in
set_option maxRecDepth 100000 in
theorem c_X6_wipe (l : Launch) (D : va_G) (cyI cyZ : ClassId) (aM aS aH aL aP aPc aR aT : Nat) (sz : Nat) (N : Nat) (vpl : Int32) {r0 : Int32} {vpl' : Int32} (hF : p_X6_wipe N vpl = some (r0, vpl')) : Met l yX6_wipe wsX6_wipe ({ frames := 1, cells := 0, slots := 0, locals := 21 }) (x_PM D cyI cyZ [.ref aM] [(aM, .inr (6, [.ref aS, .ref aH, .ref aL, .ref aP, .ref aR, .ref aT])), (aP, .inr (1, [.ref aPc, .int vpl]))] sz) (x_QM D r0 (va_A [(aM, .inr (6, [.ref aS, .ref aH, .ref aL, .ref aP, .ref aR, .ref aT])), (aP, .inr (1, [.ref aPc, .int vpl]))] sz) [(aM, .inr (6, [.ref aS, .ref aH, .ref aL, .ref aP, .ref aR, .ref aT])), (aP, .inr (1, [.ref aPc, .int vpl']))]) 0 0 (va_A [(aM, .inr (6, [.ref aS, .ref aH, .ref aL, .ref aP, .ref aR, .ref aT])), (aP, .inr (1, [.ref aPc, .int vpl]))] sz) := by
  refine Met.ofW (cc := cX6_wipe) (maxL := 1) (ret := (some .int)) (by decide) rfl ?_
  intro p e s m args below meth c s₁ B hml hv
  obtain ⟨rfl, hsz, hP, hK, hD0⟩ := hv
  have hx := B.exec
  have hb := B.bytes
  have hr := B.returns
  have hts := atoms_spec (ws := wsX6_wipe) B.pre
  have hown : s.vm.findClass RX6 = some m.cls := findClass_of_methodNamed B.named
  have hlocks := B.notSynchronized
  subst hsz
  have hD := hD0.self (sz := s.heap.size)
  generalize hAe : va_A [(aM, .inr (6, [.ref aS, .ref aH, .ref aL, .ref aP, .ref aR, .ref aT])), (aP, .inr (1, [.ref aPc, .int vpl]))] s.heap.size = A at hD ⊢
  have hA : ∀ q : Nat, s.heap.size ≤ q → A q := fun q h => by rw [← hAe]; exact Or.inr h
  have hS : va_S A s.heap s.heap [] := va_S.rf
  have hP : va_P D vwCl [(aM, .inr (6, [.ref aS, .ref aH, .ref aL, .ref aP, .ref aR, .ref aT])), (aP, .inr (1, [.ref aPc, .int vpl]))] s.heap := hP
  have hl := lv_entry ([.ref aM]) (n := 1) (Nat.le_of_ble_eq_true rfl)
  rw [lg_entry_eq]
  generalize (lg_sl ([.ref aM]) ++ List.replicate (1 - (lg_sl ([.ref aM])).length) Slot.unset).toArray = ls at hl ⊢
  have hl : lv_has ls 1 [(0, .ref aM)] := hl
  unfold p_X6_wipe at hF
  refine lv_aload_n hx hb dX6_wipe_0 rfl (lv_at hl 0 rfl) ?_
  refine va_get (D := D) (ci := 6) (v := .ref aP) (C := RX6) (T := TX6) (N := 6) hx hb hts mi_X6_wipe_X6 hown hK.1 hP 0 rfl rfl 3 (by decide) (hts _ mm_X6_wipe_1) (fun _ h9 => h9) rfl dX6_wipe_1 ?_
  obtain ⟨r4, vpl_4, hC, hF⟩ := k_c2_ex hF
  refine x_VM (As := []) (rest := []) ⟨hx, hb, hml, hown, hts⟩ (c_X1_clear l D cyI cyZ aP aPc s.heap.size N vpl hC) (cwV 0 hts gX6_wipe_X1_clear rfl rfl rfl (by decide +kernel) ⟨Nat.le_of_ble_eq_true rfl, Nat.le_of_ble_eq_true rfl⟩) hK hP hD hS hA [1] rfl rfl rfl 1 rfl rfl rfl rfl hl.1 rfl (Nat.le_of_ble_eq_true rfl) ⟨Nat.zero_le _, Nat.zero_le _⟩ dX6_wipe_4 (fun H locs hP hD hS => ?_)
  have hP : va_P D vwCl [(aM, .inr (6, [.ref aS, .ref aH, .ref aL, .ref aP, .ref aR, .ref aT])), (aP, .inr (1, [.ref aPc, .int vpl_4]))] H := hP
  have hD : va_D A [(aM, .inr (6, [.ref aS, .ref aH, .ref aL, .ref aP, .ref aR, .ref aT])), (aP, .inr (1, [.ref aPc, .int vpl_4]))] := hD
  obtain ⟨e0, e1⟩ := k_inj2 hF
  have hP9 : va_P D vwCl [(aM, .inr (6, [.ref aS, .ref aH, .ref aL, .ref aP, .ref aR, .ref aT])), (aP, .inr (1, [.ref aPc, .int vpl']))] H := by rw [← e1]; exact hP
  exact W.iret hx hb hr (fun t ht hW => ⟨⟨_, (), rfl, e0, x_ret hP9 ht⟩, hS.F ht⟩) hS.2.2 dX6_wipe_7
