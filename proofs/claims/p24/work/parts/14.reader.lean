theorem mm_X2_begin_1 : Cond.fieldLink RX2 28 "RollerMesh$Reader" "at" "I" ∈ wsX2_begin := List.mem_of_getElem? (i := 1) rfl
theorem mi_X2_begin_X2 : ∀ w ∈ wsX20, w ∈ wsX2_begin := fun _ h => List.mem_cons_of_mem _ (List.mem_append_right _ h)
set_option maxHeartbeats 4000000 in
set_option maxRecDepth 100000 in
theorem c_X2_begin (l : Launch) (D : va_G) (cyI cyZ : ClassId) (aP aR aRn : Nat) (sz : Nat) (N : Nat) (vra : Int32) (vrk : Int32) (vrt : Int32) {vrt' : Int32} (hF : p_X2_begin N vra vrk vrt = some (vrt')) : Met l yX2_begin wsX2_begin ({ frames := 0, cells := 0, slots := 0, locals := 0 }) (x_PM D cyI cyZ [.ref aR] [(aR, .inr (2, [.ref aP, .ref aRn, .int vra, .int vrk, .int vrt]))] sz) (x_QV D (va_A [(aR, .inr (2, [.ref aP, .ref aRn, .int vra, .int vrk, .int vrt]))] sz) [(aR, .inr (2, [.ref aP, .ref aRn, .int vra, .int vrk, .int vrt']))]) 0 0 (va_A [(aR, .inr (2, [.ref aP, .ref aRn, .int vra, .int vrk, .int vrt]))] sz) := by
  refine Met.ofW (cc := cX2_begin) (maxL := 1) (ret := none) (by decide) rfl ?_
  intro p e s m args below meth c s₁ B hml hv
  obtain ⟨rfl, hsz, hP, hK, hD0⟩ := hv
  have hx := B.exec
  have hb := B.bytes
  have hr := B.returns
  have hts := atoms_spec (ws := wsX2_begin) B.pre
  have hown : s.vm.findClass RX2 = some m.cls := findClass_of_methodNamed B.named
  have hlocks := B.notSynchronized
  subst hsz
  have hD := hD0.self (sz := s.heap.size)
  generalize hAe : va_A [(aR, .inr (2, [.ref aP, .ref aRn, .int vra, .int vrk, .int vrt]))] s.heap.size = A at hD ⊢
  have hA : ∀ q : Nat, s.heap.size ≤ q → A q := fun q h => by rw [← hAe]; exact Or.inr h
  have hS : va_S A s.heap s.heap [] := va_S.rf
  have hP : va_P D vwCl [(aR, .inr (2, [.ref aP, .ref aRn, .int vra, .int vrk, .int vrt]))] s.heap := hP
  have hl := lv_entry ([.ref aR]) (n := 1) (Nat.le_of_ble_eq_true rfl)
  rw [lg_entry_eq]
  generalize (lg_sl ([.ref aR]) ++ List.replicate (1 - (lg_sl ([.ref aR])).length) Slot.unset).toArray = ls at hl ⊢
  have hl : lv_has ls 1 [(0, .ref aR)] := hl
  unfold p_X2_begin at hF
  refine lv_aload_n hx hb dX2_begin_0 rfl (lv_at hl 0 rfl) ?_
  refine lv_iconst (v := (0 : Int32)) hx hb dX2_begin_1 (by decide) ?_
  refine va_put (D := D) (ci := 2) (v := .int (0 : Int32)) (ty := .int) (C := RX2) (T := TX2) (N := 5) hx hb hts mi_X2_begin_X2 tyX2 tyX2_ok nmX2 hown hK.1 hP hD hS 0 rfl rfl 4 (by decide) (hts _ mm_X2_begin_1) (fun _ h9 => h9) rfl (by decide +kernel) rfl rfl (Nat.le_of_ble_eq_true rfl) dX2_begin_2 (fun H locs hP hD hS => ?_)
  have hP : va_P D vwCl [(aR, .inr (2, [.ref aP, .ref aRn, .int vra, .int vrk, .int (0 : Int32)]))] H := hP
  have hD : va_D A [(aR, .inr (2, [.ref aP, .ref aRn, .int vra, .int vrk, .int (0 : Int32)]))] := hD
  have e0 := k_inj1 hF
  have hP9 : va_P D vwCl [(aR, .inr (2, [.ref aP, .ref aRn, .int vra, .int vrk, .int vrt']))] H := by rw [← e0]; exact hP
  exact W.vret hx hb hr (fun t ht hW => ⟨⟨(), rfl, trivial, x_ret hP9 ht⟩, hS.F ht⟩) hS.2.2 dX2_begin_5
theorem mm_X2_skip_1 : Cond.fieldLink RX2 17 "RollerMesh$Reader" "pad" "LRollerMesh$Pad;" ∈ wsX2_skip := List.mem_of_getElem? (i := 1) rfl
theorem mm_X2_skip_2 : Cond.fieldLink RX2 28 "RollerMesh$Reader" "at" "I" ∈ wsX2_skip := List.mem_of_getElem? (i := 2) rfl
theorem mi_X2_skip_X2 : ∀ w ∈ wsX20, w ∈ wsX2_skip := fun _ h => List.mem_cons_of_mem _ (List.mem_append_left _ (List.mem_append_right _ h))
set_option maxHeartbeats 4000000 in
set_option maxRecDepth 100000 in
theorem c_X2_skip (l : Launch) (D : va_G) (cyI cyZ : ClassId) (aP aPc aR aRn : Nat) (sz : Nat) (N : Nat) (x1 : Int32) (vpl : Int32) (vpp : (Nat → Int32)) (vra : Int32) (vrk : Int32) (vrt : Int32) {r0 : Int32} {vrt' : Int32} (hF : p_X2_skip N x1 vpl vpp vra vrk vrt = some (r0, vrt')) : Met l yX2_skip wsX2_skip ({ frames := 1, cells := 0, slots := 0, locals := 21 }) (x_PM D cyI cyZ [.ref aR, .int x1] [(aP, .inr (1, [.ref aPc, .int vpl])), (aPc, .inl (cyI, 80, .inl vpp)), (aR, .inr (2, [.ref aP, .ref aRn, .int vra, .int vrk, .int vrt]))] sz) (x_QM D r0 (va_A [(aP, .inr (1, [.ref aPc, .int vpl])), (aPc, .inl (cyI, 80, .inl vpp)), (aR, .inr (2, [.ref aP, .ref aRn, .int vra, .int vrk, .int vrt]))] sz) [(aP, .inr (1, [.ref aPc, .int vpl])), (aPc, .inl (cyI, 80, .inl vpp)), (aR, .inr (2, [.ref aP, .ref aRn, .int vra, .int vrk, .int vrt']))]) 0 0 (va_A [(aP, .inr (1, [.ref aPc, .int vpl])), (aPc, .inl (cyI, 80, .inl vpp)), (aR, .inr (2, [.ref aP, .ref aRn, .int vra, .int vrk, .int vrt]))] sz) := by
  refine Met.ofW (cc := cX2_skip) (maxL := 2) (ret := (some .boolean)) (by decide) rfl ?_
  intro p e s m args below meth c s₁ B hml hv
  obtain ⟨rfl, hsz, hP, hK, hD0⟩ := hv
  have hx := B.exec
  have hb := B.bytes
  have hr := B.returns
  have hts := atoms_spec (ws := wsX2_skip) B.pre
  have hown : s.vm.findClass RX2 = some m.cls := findClass_of_methodNamed B.named
  have hlocks := B.notSynchronized
  subst hsz
  have hD := hD0.self (sz := s.heap.size)
  generalize hAe : va_A [(aP, .inr (1, [.ref aPc, .int vpl])), (aPc, .inl (cyI, 80, .inl vpp)), (aR, .inr (2, [.ref aP, .ref aRn, .int vra, .int vrk, .int vrt]))] s.heap.size = A at hD ⊢
  have hA : ∀ q : Nat, s.heap.size ≤ q → A q := fun q h => by rw [← hAe]; exact Or.inr h
  have hS : va_S A s.heap s.heap [] := va_S.rf
  have hP : va_P D vwCl [(aP, .inr (1, [.ref aPc, .int vpl])), (aPc, .inl (cyI, 80, .inl vpp)), (aR, .inr (2, [.ref aP, .ref aRn, .int vra, .int vrk, .int vrt]))] s.heap := hP
  have hl := lv_entry ([.ref aR, .int x1]) (n := 2) (Nat.le_of_ble_eq_true rfl)
  rw [lg_entry_eq]
  generalize (lg_sl ([.ref aR, .int x1]) ++ List.replicate (2 - (lg_sl ([.ref aR, .int x1])).length) Slot.unset).toArray = ls at hl ⊢
  have hl : lv_has ls 2 [(0, .ref aR), (1, .int x1)] := hl
  unfold p_X2_skip at hF
  refine lv_aload_n hx hb dX2_skip_0 rfl (lv_at hl 0 rfl) ?_
  refine va_get (D := D) (ci := 2) (v := .ref aP) (C := RX2) (T := TX2) (N := 5) hx hb hts mi_X2_skip_X2 hown hK.1 hP 2 rfl rfl 0 (by decide) (hts _ mm_X2_skip_1) (fun _ h9 => h9) rfl dX2_skip_1 ?_
  refine lv_aload_n hx hb dX2_skip_4 rfl (lv_at hl 0 rfl) ?_
  refine va_get (D := D) (ci := 2) (v := .int vrt) (C := RX2) (T := TX2) (N := 5) hx hb hts mi_X2_skip_X2 hown hK.1 hP 2 rfl rfl 4 (by decide) (hts _ mm_X2_skip_2) (fun _ h9 => h9) rfl dX2_skip_5 ?_
  obtain ⟨r8, hC, hF⟩ := k_c1_ex hF
  refine x_VR (As := [.int vrt]) (rest := []) ⟨hx, hb, hml, hown, hts⟩ (c_X1_codeAt l D cyI cyZ aP aPc N vrt vpl vpp hC) (cwV 1 hts gX2_skip_X1_codeAt rfl rfl rfl (by decide +kernel) ⟨Nat.le_of_ble_eq_true rfl, Nat.le_of_ble_eq_true rfl⟩) hK hP hS [0, 1] rfl 0 rfl rfl rfl rfl hl.1 rfl (Nat.le_of_ble_eq_true rfl) ⟨Nat.zero_le _, Nat.zero_le _⟩ dX2_skip_8 (fun H locs hP hS => ?_)
  refine lv_iload_n hx hb dX2_skip_11 rfl (lv_at hl 1 rfl) ?_
  refine lv_icmp_eq (tgt := 17) hx hb dX2_skip_12 (by decide) (fun hc => ?_) (fun hc => ?_)
  · have hF := k_if_t hF hc
    refine lv_aload_n hx hb dX2_skip_17 rfl (lv_at hl 0 rfl) ?_
    refine lv_dup hx hb dX2_skip_18 rfl ?_
    refine va_get (D := D) (ci := 2) (v := .int vrt) (C := RX2) (T := TX2) (N := 5) hx hb hts mi_X2_skip_X2 hown hK.1 hP 2 rfl rfl 4 (by decide) (hts _ mm_X2_skip_2) (fun _ h9 => h9) rfl dX2_skip_19 ?_
    refine lv_iconst (v := (1 : Int32)) hx hb dX2_skip_22 (by decide) ?_
    refine lv_iadd hx hb dX2_skip_23 ?_
    obtain ⟨vrt_24, hn, hF⟩ := k_let_ex hF
    refine x_nm hn ?_
    refine va_put (D := D) (ci := 2) (v := .int vrt_24) (ty := .int) (C := RX2) (T := TX2) (N := 5) hx hb hts mi_X2_skip_X2 tyX2 tyX2_ok nmX2 hown hK.1 hP hD hS 2 rfl rfl 4 (by decide) (hts _ mm_X2_skip_2) (fun _ h9 => h9) rfl (by decide +kernel) rfl rfl (Nat.le_of_ble_eq_true rfl) dX2_skip_24 (fun H locs hP hD hS => ?_)
    have hP : va_P D vwCl [(aP, .inr (1, [.ref aPc, .int vpl])), (aPc, .inl (cyI, 80, .inl vpp)), (aR, .inr (2, [.ref aP, .ref aRn, .int vra, .int vrk, .int vrt_24]))] H := hP
    have hD : va_D A [(aP, .inr (1, [.ref aPc, .int vpl])), (aPc, .inl (cyI, 80, .inl vpp)), (aR, .inr (2, [.ref aP, .ref aRn, .int vra, .int vrk, .int vrt_24]))] := hD
    refine lv_iconst (v := (1 : Int32)) hx hb dX2_skip_27 (by decide) ?_
    obtain ⟨e0, e1⟩ := k_inj2 hF
    have hP9 : va_P D vwCl [(aP, .inr (1, [.ref aPc, .int vpl])), (aPc, .inl (cyI, 80, .inl vpp)), (aR, .inr (2, [.ref aP, .ref aRn, .int vra, .int vrk, .int vrt']))] H := by rw [← e1]; exact hP
    exact W.zret hx hb hr rfl (fun t ht hW => ⟨⟨_, (), rfl, e0, x_ret hP9 ht⟩, hS.F ht⟩) hS.2.2 dX2_skip_28
  · have hF := k_if_f hF hc
    refine lv_iconst (v := (0 : Int32)) hx hb dX2_skip_15 (by decide) ?_
    obtain ⟨e0, e1⟩ := k_inj2 hF
    have hP9 : va_P D vwCl [(aP, .inr (1, [.ref aPc, .int vpl])), (aPc, .inl (cyI, 80, .inl vpp)), (aR, .inr (2, [.ref aP, .ref aRn, .int vra, .int vrk, .int vrt']))] H := by rw [← e1]; exact hP
    exact W.zret hx hb hr rfl (fun t ht hW => ⟨⟨_, (), rfl, e0, x_ret hP9 ht⟩, hS.F ht⟩) hS.2.2 dX2_skip_16
theorem mm_X2_isDigit_1 : Cond.fieldLink RX2 17 "RollerMesh$Reader" "pad" "LRollerMesh$Pad;" ∈ wsX2_isDigit := List.mem_of_getElem? (i := 1) rfl
theorem mm_X2_isDigit_2 : Cond.fieldLink RX2 28 "RollerMesh$Reader" "at" "I" ∈ wsX2_isDigit := List.mem_of_getElem? (i := 2) rfl
theorem mm_X2_isDigit_10 : Cond.static yX6_outside ∈ wsX2_isDigit := List.mem_of_getElem? (i := 10) rfl
theorem mm_X2_isDigit_11 : Cond.initialized RX6 ∈ wsX2_isDigit := List.mem_of_getElem? (i := 11) rfl
theorem mi_X2_isDigit_X2 : ∀ w ∈ wsX20, w ∈ wsX2_isDigit := fun _ h => List.mem_cons_of_mem _ (List.mem_append_left _ (List.mem_append_right _ h))
set_option maxHeartbeats 4000000 in
set_option maxRecDepth 100000 in
theorem c_X2_isDigit (l : Launch) (D : va_G) (cyI cyZ : ClassId) (aP aPc aR aRn : Nat) (N : Nat) (vpl : Int32) (vpp : (Nat → Int32)) (vra : Int32) (vrk : Int32) (vrt : Int32) {r0 : Int32}  (hF : p_X2_isDigit N vpl vpp vra vrk vrt = some (r0)) : Met l yX2_isDigit wsX2_isDigit ({ frames := 1, cells := 0, slots := 0, locals := 22 }) (x_PR D cyI cyZ [.ref aR] [(aP, .inr (1, [.ref aPc, .int vpl])), (aPc, .inl (cyI, 80, .inl vpp)), (aR, .inr (2, [.ref aP, .ref aRn, .int vra, .int vrk, .int vrt]))]) (x_QR r0) 0 0 (fun _ => False) := by
  refine Met.ofW (cc := cX2_isDigit) (maxL := 1) (ret := (some .boolean)) (by decide) rfl ?_
  intro p e s m args below meth c s₁ B hml hv
  obtain ⟨rfl, hP, hK⟩ := hv
  have hx := B.exec
  have hb := B.bytes
  have hr := B.returns
  have hts := atoms_spec (ws := wsX2_isDigit) B.pre
  have hown : s.vm.findClass RX2 = some m.cls := findClass_of_methodNamed B.named
  have hlocks := B.notSynchronized
  have hS : va_S (fun _ => False) s.heap s.heap [] := va_S.rf
  have hP : va_P D vwCl [(aP, .inr (1, [.ref aPc, .int vpl])), (aPc, .inl (cyI, 80, .inl vpp)), (aR, .inr (2, [.ref aP, .ref aRn, .int vra, .int vrk, .int vrt]))] s.heap := hP
  have hl := lv_entry ([.ref aR]) (n := 1) (Nat.le_of_ble_eq_true rfl)
  rw [lg_entry_eq]
  generalize (lg_sl ([.ref aR]) ++ List.replicate (1 - (lg_sl ([.ref aR])).length) Slot.unset).toArray = ls at hl ⊢
  have hl : lv_has ls 1 [(0, .ref aR)] := hl
  unfold p_X2_isDigit at hF
  refine lv_aload_n hx hb dX2_isDigit_0 rfl (lv_at hl 0 rfl) ?_
  refine va_get (D := D) (ci := 2) (v := .ref aP) (C := RX2) (T := TX2) (N := 5) hx hb hts mi_X2_isDigit_X2 hown hK.1 hP 2 rfl rfl 0 (by decide) (hts _ mm_X2_isDigit_1) (fun _ h9 => h9) rfl dX2_isDigit_1 ?_
  refine lv_aload_n hx hb dX2_isDigit_4 rfl (lv_at hl 0 rfl) ?_
  refine va_get (D := D) (ci := 2) (v := .int vrt) (C := RX2) (T := TX2) (N := 5) hx hb hts mi_X2_isDigit_X2 hown hK.1 hP 2 rfl rfl 4 (by decide) (hts _ mm_X2_isDigit_2) (fun _ h9 => h9) rfl dX2_isDigit_5 ?_
  obtain ⟨r8, hC, hF⟩ := k_c1_ex hF
  refine x_VR (As := [.int vrt]) (rest := []) ⟨hx, hb, hml, hown, hts⟩ (c_X1_codeAt l D cyI cyZ aP aPc N vrt vpl vpp hC) (cwV 1 hts gX2_isDigit_X1_codeAt rfl rfl rfl (by decide +kernel) ⟨Nat.le_of_ble_eq_true rfl, Nat.le_of_ble_eq_true rfl⟩) hK hP hS [0, 1] rfl 0 rfl rfl rfl rfl hl.1 rfl (Nat.le_of_ble_eq_true rfl) ⟨Nat.zero_le _, Nat.zero_le _⟩ dX2_isDigit_8 (fun H locs hP hS => ?_)
  refine lv_bipush (v := (48 : Int32)) hx hb dX2_isDigit_11 (by decide) ?_
  refine lv_bipush (v := (57 : Int32)) hx hb dX2_isDigit_13 (by decide) ?_
  obtain ⟨r15, hC, hF⟩ := k_c1_ex hF
  refine x_NR (As := [.int r8, .int (48 : Int32), .int (57 : Int32)]) (rest := []) ⟨hx, hb, hml, hown, hts⟩ (c_X6_outside l D cyI cyZ N r8 (48 : Int32) (57 : Int32) hC) ⟨va_cnB 3 hts gX2_isDigit_X6_outside_n69 rfl rfl rfl hK.2.2.2.1 (hts _ mm_X2_isDigit_11) (by decide +kernel) ⟨Nat.le_of_ble_eq_true rfl, Nat.le_of_ble_eq_true rfl⟩, hts _ mm_X2_isDigit_10, trivial⟩ hK hP hS [] rfl rfl hl.1 rfl (Nat.le_of_ble_eq_true rfl) ⟨Nat.zero_le _, Nat.zero_le _⟩ dX2_isDigit_15 (fun H locs hP hS => ?_)
  refine lv_if_ne (tgt := 25) hx hb dX2_isDigit_18 (by decide) (fun hc => ?_) (fun hc => ?_)
  · have hF := k_if_f hF hc
    refine lv_iconst (v := (0 : Int32)) hx hb dX2_isDigit_25 (by decide) ?_
    exact W.zret hx hb hr rfl (fun t ht hW => ⟨⟨_, (), rfl, Option.some.inj hF, trivial⟩, hS.F ht⟩) hS.2.2 dX2_isDigit_26
  · have hF := k_if_t hF hc
    refine lv_iconst (v := (1 : Int32)) hx hb dX2_isDigit_21 (by decide) ?_
    refine lv_goto (tgt := 26) hx hb dX2_isDigit_22 (by decide) ?_
    exact W.zret hx hb hr rfl (fun t ht hW => ⟨⟨_, (), rfl, Option.some.inj hF, trivial⟩, hS.F ht⟩) hS.2.2 dX2_isDigit_26
theorem mm_X2_readDigit_1 : Cond.fieldLink RX2 17 "RollerMesh$Reader" "pad" "LRollerMesh$Pad;" ∈ wsX2_readDigit := List.mem_of_getElem? (i := 1) rfl
theorem mm_X2_readDigit_2 : Cond.fieldLink RX2 28 "RollerMesh$Reader" "at" "I" ∈ wsX2_readDigit := List.mem_of_getElem? (i := 2) rfl
theorem mi_X2_readDigit_X2 : ∀ w ∈ wsX20, w ∈ wsX2_readDigit := fun _ h => List.mem_cons_of_mem _ (List.mem_append_left _ (List.mem_append_right _ h))
set_option maxHeartbeats 4000000 in
set_option maxRecDepth 100000 in
theorem c_X2_readDigit (l : Launch) (D : va_G) (cyI cyZ : ClassId) (aP aPc aR aRn : Nat) (sz : Nat) (N : Nat) (vpl : Int32) (vpp : (Nat → Int32)) (vra : Int32) (vrk : Int32) (vrt : Int32) {r0 : Int32} {vrt' : Int32} (hF : p_X2_readDigit N vpl vpp vra vrk vrt = some (r0, vrt')) : Met l yX2_readDigit wsX2_readDigit ({ frames := 1, cells := 0, slots := 0, locals := 21 }) (x_PM D cyI cyZ [.ref aR] [(aP, .inr (1, [.ref aPc, .int vpl])), (aPc, .inl (cyI, 80, .inl vpp)), (aR, .inr (2, [.ref aP, .ref aRn, .int vra, .int vrk, .int vrt]))] sz) (x_QM D r0 (va_A [(aP, .inr (1, [.ref aPc, .int vpl])), (aPc, .inl (cyI, 80, .inl vpp)), (aR, .inr (2, [.ref aP, .ref aRn, .int vra, .int vrk, .int vrt]))] sz) [(aP, .inr (1, [.ref aPc, .int vpl])), (aPc, .inl (cyI, 80, .inl vpp)), (aR, .inr (2, [.ref aP, .ref aRn, .int vra, .int vrk, .int vrt']))]) 0 0 (va_A [(aP, .inr (1, [.ref aPc, .int vpl])), (aPc, .inl (cyI, 80, .inl vpp)), (aR, .inr (2, [.ref aP, .ref aRn, .int vra, .int vrk, .int vrt]))] sz) := by
  refine Met.ofW (cc := cX2_readDigit) (maxL := 2) (ret := (some .int)) (by decide) rfl ?_
  intro p e s m args below meth c s₁ B hml hv
  obtain ⟨rfl, hsz, hP, hK, hD0⟩ := hv
  have hx := B.exec
  have hb := B.bytes
  have hr := B.returns
  have hts := atoms_spec (ws := wsX2_readDigit) B.pre
  have hown : s.vm.findClass RX2 = some m.cls := findClass_of_methodNamed B.named
  have hlocks := B.notSynchronized
  subst hsz
  have hD := hD0.self (sz := s.heap.size)
  generalize hAe : va_A [(aP, .inr (1, [.ref aPc, .int vpl])), (aPc, .inl (cyI, 80, .inl vpp)), (aR, .inr (2, [.ref aP, .ref aRn, .int vra, .int vrk, .int vrt]))] s.heap.size = A at hD ⊢
  have hA : ∀ q : Nat, s.heap.size ≤ q → A q := fun q h => by rw [← hAe]; exact Or.inr h
  have hS : va_S A s.heap s.heap [] := va_S.rf
  have hP : va_P D vwCl [(aP, .inr (1, [.ref aPc, .int vpl])), (aPc, .inl (cyI, 80, .inl vpp)), (aR, .inr (2, [.ref aP, .ref aRn, .int vra, .int vrk, .int vrt]))] s.heap := hP
  have hl := lv_entry ([.ref aR]) (n := 2) (Nat.le_of_ble_eq_true rfl)
  rw [lg_entry_eq]
  generalize (lg_sl ([.ref aR]) ++ List.replicate (2 - (lg_sl ([.ref aR])).length) Slot.unset).toArray = ls at hl ⊢
  have hl : lv_has ls 2 [(0, .ref aR)] := hl
  unfold p_X2_readDigit at hF
  refine lv_aload_n hx hb dX2_readDigit_0 rfl (lv_at hl 0 rfl) ?_
  refine va_get (D := D) (ci := 2) (v := .ref aP) (C := RX2) (T := TX2) (N := 5) hx hb hts mi_X2_readDigit_X2 hown hK.1 hP 2 rfl rfl 0 (by decide) (hts _ mm_X2_readDigit_1) (fun _ h9 => h9) rfl dX2_readDigit_1 ?_
  refine lv_aload_n hx hb dX2_readDigit_4 rfl (lv_at hl 0 rfl) ?_
  refine va_get (D := D) (ci := 2) (v := .int vrt) (C := RX2) (T := TX2) (N := 5) hx hb hts mi_X2_readDigit_X2 hown hK.1 hP 2 rfl rfl 4 (by decide) (hts _ mm_X2_readDigit_2) (fun _ h9 => h9) rfl dX2_readDigit_5 ?_
  obtain ⟨r8, hC, hF⟩ := k_c1_ex hF
  refine x_VR (As := [.int vrt]) (rest := []) ⟨hx, hb, hml, hown, hts⟩ (c_X1_codeAt l D cyI cyZ aP aPc N vrt vpl vpp hC) (cwV 1 hts gX2_readDigit_X1_codeAt rfl rfl rfl (by decide +kernel) ⟨Nat.le_of_ble_eq_true rfl, Nat.le_of_ble_eq_true rfl⟩) hK hP hS [0, 1] rfl 0 rfl rfl rfl rfl hl.1 rfl (Nat.le_of_ble_eq_true rfl) ⟨Nat.zero_le _, Nat.zero_le _⟩ dX2_readDigit_8 (fun H locs hP hS => ?_)
  refine lv_bipush (v := (48 : Int32)) hx hb dX2_readDigit_11 (by decide) ?_
  refine lv_isub hx hb dX2_readDigit_13 ?_
  obtain ⟨x1_14, hn, hF⟩ := k_let_ex hF
  refine x_nm hn ?_
  refine lv_istore_n (lv' := [(1, .int x1_14), (0, .ref aR)]) hx hb dX2_readDigit_14 rfl hl (by decide) rfl (fun ls hl => ?_)
  refine lv_aload_n hx hb dX2_readDigit_15 rfl (lv_at hl 1 rfl) ?_
  refine lv_dup hx hb dX2_readDigit_16 rfl ?_
  refine va_get (D := D) (ci := 2) (v := .int vrt) (C := RX2) (T := TX2) (N := 5) hx hb hts mi_X2_readDigit_X2 hown hK.1 hP 2 rfl rfl 4 (by decide) (hts _ mm_X2_readDigit_2) (fun _ h9 => h9) rfl dX2_readDigit_17 ?_
  refine lv_iconst (v := (1 : Int32)) hx hb dX2_readDigit_20 (by decide) ?_
  refine lv_iadd hx hb dX2_readDigit_21 ?_
  obtain ⟨vrt_22, hn, hF⟩ := k_let_ex hF
  refine x_nm hn ?_
  refine va_put (D := D) (ci := 2) (v := .int vrt_22) (ty := .int) (C := RX2) (T := TX2) (N := 5) hx hb hts mi_X2_readDigit_X2 tyX2 tyX2_ok nmX2 hown hK.1 hP hD hS 2 rfl rfl 4 (by decide) (hts _ mm_X2_readDigit_2) (fun _ h9 => h9) rfl (by decide +kernel) rfl rfl (Nat.le_of_ble_eq_true rfl) dX2_readDigit_22 (fun H locs hP hD hS => ?_)
  have hP : va_P D vwCl [(aP, .inr (1, [.ref aPc, .int vpl])), (aPc, .inl (cyI, 80, .inl vpp)), (aR, .inr (2, [.ref aP, .ref aRn, .int vra, .int vrk, .int vrt_22]))] H := hP
  have hD : va_D A [(aP, .inr (1, [.ref aPc, .int vpl])), (aPc, .inl (cyI, 80, .inl vpp)), (aR, .inr (2, [.ref aP, .ref aRn, .int vra, .int vrk, .int vrt_22]))] := hD
  refine lv_iload_n hx hb dX2_readDigit_25 rfl (lv_at hl 0 rfl) ?_
  obtain ⟨e0, e1⟩ := k_inj2 hF
  have hP9 : va_P D vwCl [(aP, .inr (1, [.ref aPc, .int vpl])), (aPc, .inl (cyI, 80, .inl vpp)), (aR, .inr (2, [.ref aP, .ref aRn, .int vra, .int vrk, .int vrt']))] H := by rw [← e1]; exact hP
  exact W.iret hx hb hr (fun t ht hW => ⟨⟨_, (), rfl, e0, x_ret hP9 ht⟩, hS.F ht⟩) hS.2.2 dX2_readDigit_26
theorem mm_X2_note_1 : Cond.fieldLink RX2 25 "RollerMesh$Reader" "amount" "I" ∈ wsX2_note := List.mem_of_getElem? (i := 1) rfl
theorem mm_X2_note_2 : Cond.fieldLink RX2 13 "RollerMesh$Reader" "numbers" "[I" ∈ wsX2_note := List.mem_of_getElem? (i := 2) rfl
theorem mi_X2_note_X2 : ∀ w ∈ wsX20, w ∈ wsX2_note := fun _ h => List.mem_cons_of_mem _ (List.mem_append_right _ h)
set_option maxHeartbeats 4000000 in
set_option maxRecDepth 100000 in
theorem c_X2_note (l : Launch) (D : va_G) (cyI cyZ : ClassId) (aP aR aRn : Nat) (sz : Nat) (N : Nat) (x1 : Int32) (vra : Int32) (vrk : Int32) (vrt : Int32) (vrn : (Nat → Int32)) {vra' : Int32} {vrn' : (Nat → Int32)} (hF : p_X2_note N x1 vra vrk vrt vrn = some (vra', vrn')) : Met l yX2_note wsX2_note ({ frames := 0, cells := 0, slots := 0, locals := 0 }) (x_PM D cyI cyZ [.ref aR, .int x1] [(aR, .inr (2, [.ref aP, .ref aRn, .int vra, .int vrk, .int vrt])), (aRn, .inl (cyI, 40, .inl vrn))] sz) (x_QV D (va_A [(aR, .inr (2, [.ref aP, .ref aRn, .int vra, .int vrk, .int vrt])), (aRn, .inl (cyI, 40, .inl vrn))] sz) [(aR, .inr (2, [.ref aP, .ref aRn, .int vra', .int vrk, .int vrt])), (aRn, .inl (cyI, 40, .inl vrn'))]) 0 0 (va_A [(aR, .inr (2, [.ref aP, .ref aRn, .int vra, .int vrk, .int vrt])), (aRn, .inl (cyI, 40, .inl vrn))] sz) := by
  refine Met.ofW (cc := cX2_note) (maxL := 2) (ret := none) (by decide) rfl ?_
  intro p e s m args below meth c s₁ B hml hv
  obtain ⟨rfl, hsz, hP, hK, hD0⟩ := hv
  have hx := B.exec
  have hb := B.bytes
  have hr := B.returns
  have hts := atoms_spec (ws := wsX2_note) B.pre
  have hown : s.vm.findClass RX2 = some m.cls := findClass_of_methodNamed B.named
  have hlocks := B.notSynchronized
  subst hsz
  have hD := hD0.self (sz := s.heap.size)
  generalize hAe : va_A [(aR, .inr (2, [.ref aP, .ref aRn, .int vra, .int vrk, .int vrt])), (aRn, .inl (cyI, 40, .inl vrn))] s.heap.size = A at hD ⊢
  have hA : ∀ q : Nat, s.heap.size ≤ q → A q := fun q h => by rw [← hAe]; exact Or.inr h
  have hS : va_S A s.heap s.heap [] := va_S.rf
  have hP : va_P D vwCl [(aR, .inr (2, [.ref aP, .ref aRn, .int vra, .int vrk, .int vrt])), (aRn, .inl (cyI, 40, .inl vrn))] s.heap := hP
  have hl := lv_entry ([.ref aR, .int x1]) (n := 2) (Nat.le_of_ble_eq_true rfl)
  rw [lg_entry_eq]
  generalize (lg_sl ([.ref aR, .int x1]) ++ List.replicate (2 - (lg_sl ([.ref aR, .int x1])).length) Slot.unset).toArray = ls at hl ⊢
  have hl : lv_has ls 2 [(0, .ref aR), (1, .int x1)] := hl
  unfold p_X2_note at hF
  refine lv_aload_n hx hb dX2_note_0 rfl (lv_at hl 0 rfl) ?_
  refine va_get (D := D) (ci := 2) (v := .int vra) (C := RX2) (T := TX2) (N := 5) hx hb hts mi_X2_note_X2 hown hK.1 hP 0 rfl rfl 2 (by decide) (hts _ mm_X2_note_1) (fun _ h9 => h9) rfl dX2_note_1 ?_
  refine lv_if_lt (tgt := 39) hx hb dX2_note_4 (by decide) (fun hc => ?_) (fun hc => ?_)
  · have hF := k_if_t hF hc
    obtain ⟨e0, e1⟩ := k_inj2 hF
    have hP9 : va_P D vwCl [(aR, .inr (2, [.ref aP, .ref aRn, .int vra', .int vrk, .int vrt])), (aRn, .inl (cyI, 40, .inl vrn'))] s.heap := by rw [← e0, ← e1]; exact hP
    exact W.vret hx hb hr (fun t ht hW => ⟨⟨(), rfl, trivial, x_ret hP9 ht⟩, hS.F ht⟩) hS.2.2 dX2_note_39
  · have hF := k_if_f hF hc
    refine lv_aload_n hx hb dX2_note_7 rfl (lv_at hl 0 rfl) ?_
    refine va_get (D := D) (ci := 2) (v := .int vra) (C := RX2) (T := TX2) (N := 5) hx hb hts mi_X2_note_X2 hown hK.1 hP 0 rfl rfl 2 (by decide) (hts _ mm_X2_note_1) (fun _ h9 => h9) rfl dX2_note_8 ?_
    refine lv_aload_n hx hb dX2_note_11 rfl (lv_at hl 0 rfl) ?_
    refine va_get (D := D) (ci := 2) (v := .ref aRn) (C := RX2) (T := TX2) (N := 5) hx hb hts mi_X2_note_X2 hown hK.1 hP 0 rfl rfl 1 (by decide) (hts _ mm_X2_note_2) (fun _ h9 => h9) rfl dX2_note_12 ?_
    refine x_alen (v := (40 : Int32)) hx hb hK hP 1 rfl rfl dX2_note_15 ?_
    refine lv_icmp_ge (tgt := 39) hx hb dX2_note_16 (by decide) (fun hc => ?_) (fun hc => ?_)
    · have hF := k_if_t hF hc
      obtain ⟨e0, e1⟩ := k_inj2 hF
      have hP9 : va_P D vwCl [(aR, .inr (2, [.ref aP, .ref aRn, .int vra', .int vrk, .int vrt])), (aRn, .inl (cyI, 40, .inl vrn'))] s.heap := by rw [← e0, ← e1]; exact hP
      exact W.vret hx hb hr (fun t ht hW => ⟨⟨(), rfl, trivial, x_ret hP9 ht⟩, hS.F ht⟩) hS.2.2 dX2_note_39
    · have hF := k_if_f hF hc
      refine lv_aload_n hx hb dX2_note_19 rfl (lv_at hl 0 rfl) ?_
      refine va_get (D := D) (ci := 2) (v := .ref aRn) (C := RX2) (T := TX2) (N := 5) hx hb hts mi_X2_note_X2 hown hK.1 hP 0 rfl rfl 1 (by decide) (hts _ mm_X2_note_2) (fun _ h9 => h9) rfl dX2_note_20 ?_
      refine lv_aload_n hx hb dX2_note_23 rfl (lv_at hl 0 rfl) ?_
      refine va_get (D := D) (ci := 2) (v := .int vra) (C := RX2) (T := TX2) (N := 5) hx hb hts mi_X2_note_X2 hown hK.1 hP 0 rfl rfl 2 (by decide) (hts _ mm_X2_note_1) (fun _ h9 => h9) rfl dX2_note_24 ?_
      refine lv_iload_n hx hb dX2_note_27 rfl (lv_at hl 1 rfl) ?_
      obtain ⟨vrn_28, hin, hn, hF⟩ := k_st_ex hF
      refine x_iast hx hb hK hP hD hS 1 rfl hin hn dX2_note_28 (fun H locs hP hD hS => ?_)
      have hP : va_P D vwCl [(aR, .inr (2, [.ref aP, .ref aRn, .int vra, .int vrk, .int vrt])), (aRn, .inl (cyI, 40, .inl vrn_28))] H := hP
      have hD : va_D A [(aR, .inr (2, [.ref aP, .ref aRn, .int vra, .int vrk, .int vrt])), (aRn, .inl (cyI, 40, .inl vrn_28))] := hD
      refine lv_aload_n hx hb dX2_note_29 rfl (lv_at hl 0 rfl) ?_
      refine lv_dup hx hb dX2_note_30 rfl ?_
      refine va_get (D := D) (ci := 2) (v := .int vra) (C := RX2) (T := TX2) (N := 5) hx hb hts mi_X2_note_X2 hown hK.1 hP 0 rfl rfl 2 (by decide) (hts _ mm_X2_note_1) (fun _ h9 => h9) rfl dX2_note_31 ?_
      refine lv_iconst (v := (1 : Int32)) hx hb dX2_note_34 (by decide) ?_
      refine lv_iadd hx hb dX2_note_35 ?_
      obtain ⟨vra_36, hn, hF⟩ := k_let_ex hF
      refine x_nm hn ?_
      refine va_put (D := D) (ci := 2) (v := .int vra_36) (ty := .int) (C := RX2) (T := TX2) (N := 5) hx hb hts mi_X2_note_X2 tyX2 tyX2_ok nmX2 hown hK.1 hP hD hS 0 rfl rfl 2 (by decide) (hts _ mm_X2_note_1) (fun _ h9 => h9) rfl (by decide +kernel) rfl rfl (Nat.le_of_ble_eq_true rfl) dX2_note_36 (fun H locs hP hD hS => ?_)
      have hP : va_P D vwCl [(aR, .inr (2, [.ref aP, .ref aRn, .int vra_36, .int vrk, .int vrt])), (aRn, .inl (cyI, 40, .inl vrn_28))] H := hP
      have hD : va_D A [(aR, .inr (2, [.ref aP, .ref aRn, .int vra_36, .int vrk, .int vrt])), (aRn, .inl (cyI, 40, .inl vrn_28))] := hD
      obtain ⟨e0, e1⟩ := k_inj2 hF
      have hP9 : va_P D vwCl [(aR, .inr (2, [.ref aP, .ref aRn, .int vra', .int vrk, .int vrt])), (aRn, .inl (cyI, 40, .inl vrn'))] H := by rw [← e0, ← e1]; exact hP
      exact W.vret hx hb hr (fun t ht hW => ⟨⟨(), rfl, trivial, x_ret hP9 ht⟩, hS.F ht⟩) hS.2.2 dX2_note_39
set_option maxHeartbeats 4000000 in
set_option maxRecDepth 100000 in
theorem c_X2_readValue (l : Launch) (D : va_G) (cyI cyZ : ClassId) (aP aPc aR aRn : Nat) (sz : Nat) (N : Nat) (vpl : Int32) (vpp : (Nat → Int32)) (vra : Int32) (vrk : Int32) (vrt : Int32) (vrn : (Nat → Int32)) {r0 : Int32} {vra' : Int32} {vrt' : Int32} {vrn' : (Nat → Int32)} (hF : p_X2_readValue N vpl vpp vra vrk vrt vrn = some (r0, vra', vrt', vrn')) : Met l yX2_readValue wsX2_readValue ({ frames := 2, cells := 0, slots := 0, locals := 42 }) (x_PM D cyI cyZ [.ref aR] [(aP, .inr (1, [.ref aPc, .int vpl])), (aPc, .inl (cyI, 80, .inl vpp)), (aR, .inr (2, [.ref aP, .ref aRn, .int vra, .int vrk, .int vrt])), (aRn, .inl (cyI, 40, .inl vrn))] sz) (x_QM D r0 (va_A [(aP, .inr (1, [.ref aPc, .int vpl])), (aPc, .inl (cyI, 80, .inl vpp)), (aR, .inr (2, [.ref aP, .ref aRn, .int vra, .int vrk, .int vrt])), (aRn, .inl (cyI, 40, .inl vrn))] sz) [(aP, .inr (1, [.ref aPc, .int vpl])), (aPc, .inl (cyI, 80, .inl vpp)), (aR, .inr (2, [.ref aP, .ref aRn, .int vra', .int vrk, .int vrt'])), (aRn, .inl (cyI, 40, .inl vrn'))]) 0 0 (va_A [(aP, .inr (1, [.ref aPc, .int vpl])), (aPc, .inl (cyI, 80, .inl vpp)), (aR, .inr (2, [.ref aP, .ref aRn, .int vra, .int vrk, .int vrt])), (aRn, .inl (cyI, 40, .inl vrn))] sz) := by
  refine Met.ofW (cc := cX2_readValue) (maxL := 2) (ret := (some .boolean)) (by decide) rfl ?_
  intro p e s m args below meth c s₁ B hml hv
  obtain ⟨rfl, hsz, hP, hK, hD0⟩ := hv
  have hx := B.exec
  have hb := B.bytes
  have hr := B.returns
  have hts := atoms_spec (ws := wsX2_readValue) B.pre
  have hown : s.vm.findClass RX2 = some m.cls := findClass_of_methodNamed B.named
  have hlocks := B.notSynchronized
  subst hsz
  have hD := hD0.self (sz := s.heap.size)
  generalize hAe : va_A [(aP, .inr (1, [.ref aPc, .int vpl])), (aPc, .inl (cyI, 80, .inl vpp)), (aR, .inr (2, [.ref aP, .ref aRn, .int vra, .int vrk, .int vrt])), (aRn, .inl (cyI, 40, .inl vrn))] s.heap.size = A at hD ⊢
  have hA : ∀ q : Nat, s.heap.size ≤ q → A q := fun q h => by rw [← hAe]; exact Or.inr h
  have hS : va_S A s.heap s.heap [] := va_S.rf
  have hP : va_P D vwCl [(aP, .inr (1, [.ref aPc, .int vpl])), (aPc, .inl (cyI, 80, .inl vpp)), (aR, .inr (2, [.ref aP, .ref aRn, .int vra, .int vrk, .int vrt])), (aRn, .inl (cyI, 40, .inl vrn))] s.heap := hP
  have hl := lv_entry ([.ref aR]) (n := 2) (Nat.le_of_ble_eq_true rfl)
  rw [lg_entry_eq]
  generalize (lg_sl ([.ref aR]) ++ List.replicate (2 - (lg_sl ([.ref aR])).length) Slot.unset).toArray = ls at hl ⊢
  have hl : lv_has ls 2 [(0, .ref aR)] := hl
  unfold p_X2_readValue at hF
  refine lv_aload_n hx hb dX2_readValue_0 rfl (lv_at hl 0 rfl) ?_
  refine lv_bipush (v := (45 : Int32)) hx hb dX2_readValue_1 (by decide) ?_
  obtain ⟨r3, vrt_3, hC, hF⟩ := k_c2_ex hF
  refine x_VM (As := [.int (45 : Int32)]) (rest := []) ⟨hx, hb, hml, hown, hts⟩ (c_X2_skip l D cyI cyZ aP aPc aR aRn s.heap.size N (45 : Int32) vpl vpp vra vrk vrt hC) (cwV 1 hts gX2_readValue_X2_skip rfl rfl rfl (by decide +kernel) ⟨Nat.le_of_ble_eq_true rfl, Nat.le_of_ble_eq_true rfl⟩) hK hP hD hS hA [0, 1, 2] rfl rfl rfl 2 rfl rfl rfl rfl hl.1 rfl (Nat.le_of_ble_eq_true rfl) ⟨Nat.zero_le _, Nat.zero_le _⟩ dX2_readValue_3 (fun H locs hP hD hS => ?_)
  have hP : va_P D vwCl [(aP, .inr (1, [.ref aPc, .int vpl])), (aPc, .inl (cyI, 80, .inl vpp)), (aR, .inr (2, [.ref aP, .ref aRn, .int vra, .int vrk, .int vrt_3])), (aRn, .inl (cyI, 40, .inl vrn))] H := hP
  have hD : va_D A [(aP, .inr (1, [.ref aPc, .int vpl])), (aPc, .inl (cyI, 80, .inl vpp)), (aR, .inr (2, [.ref aP, .ref aRn, .int vra, .int vrk, .int vrt_3])), (aRn, .inl (cyI, 40, .inl vrn))] := hD
  refine lv_if_eq (tgt := 13) hx hb dX2_readValue_6 (by decide) (fun hc => ?_) (fun hc => ?_)
  · have hF := k_if_t hF hc
    refine lv_iconst (v := (1 : Int32)) hx hb dX2_readValue_13 (by decide) ?_
    refine lv_istore_n (lv' := [(1, .int (1 : Int32)), (0, .ref aR)]) hx hb dX2_readValue_14 rfl hl (by decide) rfl (fun ls hl => ?_)
    refine lv_aload_n hx hb dX2_readValue_15 rfl (lv_at hl 1 rfl) ?_
    obtain ⟨r16, hC, hF⟩ := k_c1_ex hF
    refine x_VR (As := []) (rest := []) ⟨hx, hb, hml, hown, hts⟩ (c_X2_isDigit l D cyI cyZ aP aPc aR aRn N vpl vpp vra vrk vrt_3 hC) (cwV 0 hts gX2_readValue_X2_isDigit rfl rfl rfl (by decide +kernel) ⟨Nat.le_of_ble_eq_true rfl, Nat.le_of_ble_eq_true rfl⟩) hK hP hS [0, 1, 2] rfl 2 rfl rfl rfl rfl hl.1 rfl (Nat.le_of_ble_eq_true rfl) ⟨Nat.zero_le _, Nat.zero_le _⟩ dX2_readValue_16 (fun H locs hP hS => ?_)
    refine lv_if_ne (tgt := 24) hx hb dX2_readValue_19 (by decide) (fun hc => ?_) (fun hc => ?_)
    · have hF := k_if_f hF hc
      refine lv_aload_n hx hb dX2_readValue_24 rfl (lv_at hl 1 rfl) ?_
      refine lv_iload_n hx hb dX2_readValue_25 rfl (lv_at hl 0 rfl) ?_
      refine lv_aload_n hx hb dX2_readValue_26 rfl (lv_at hl 1 rfl) ?_
      obtain ⟨r27, vrt_27, hC, hF⟩ := k_c2_ex hF
      refine x_VM (As := []) (rest := [.int (1 : Int32), .ref aR]) ⟨hx, hb, hml, hown, hts⟩ (c_X2_readDigit l D cyI cyZ aP aPc aR aRn H.size N vpl vpp vra vrk vrt_3 hC) (cwV 0 hts gX2_readValue_X2_readDigit rfl rfl rfl (by decide +kernel) ⟨Nat.le_of_ble_eq_true rfl, Nat.le_of_ble_eq_true rfl⟩) hK hP hD hS hA [0, 1, 2] rfl rfl rfl 2 rfl rfl rfl rfl hl.1 rfl (Nat.le_of_ble_eq_true rfl) ⟨Nat.zero_le _, Nat.zero_le _⟩ dX2_readValue_27 (fun H locs hP hD hS => ?_)
      have hP : va_P D vwCl [(aP, .inr (1, [.ref aPc, .int vpl])), (aPc, .inl (cyI, 80, .inl vpp)), (aR, .inr (2, [.ref aP, .ref aRn, .int vra, .int vrk, .int vrt_27])), (aRn, .inl (cyI, 40, .inl vrn))] H := hP
      have hD : va_D A [(aP, .inr (1, [.ref aPc, .int vpl])), (aPc, .inl (cyI, 80, .inl vpp)), (aR, .inr (2, [.ref aP, .ref aRn, .int vra, .int vrk, .int vrt_27])), (aRn, .inl (cyI, 40, .inl vrn))] := hD
      refine lv_imul hx hb dX2_readValue_30 ?_
      obtain ⟨vra_31, vrn_31, hC, hF⟩ := k_c2_ex hF
      refine x_VV (As := [.int ((1 : Int32) * r27)]) (rest := []) ⟨hx, hb, hml, hown, hts⟩ (c_X2_note l D cyI cyZ aP aR aRn H.size N ((1 : Int32) * r27) vra vrk vrt_27 vrn hC) (cwV 1 hts gX2_readValue_X2_note rfl rfl rfl (by decide +kernel) ⟨Nat.le_of_ble_eq_true rfl, Nat.le_of_ble_eq_true rfl⟩) hK hP hD hS hA [2, 3] rfl rfl rfl 2 rfl rfl rfl rfl hl.1 rfl (Nat.le_of_ble_eq_true rfl) ⟨Nat.zero_le _, Nat.zero_le _⟩ dX2_readValue_31 (fun H locs hP hD hS => ?_)
      have hP : va_P D vwCl [(aP, .inr (1, [.ref aPc, .int vpl])), (aPc, .inl (cyI, 80, .inl vpp)), (aR, .inr (2, [.ref aP, .ref aRn, .int vra_31, .int vrk, .int vrt_27])), (aRn, .inl (cyI, 40, .inl vrn_31))] H := hP
      have hD : va_D A [(aP, .inr (1, [.ref aPc, .int vpl])), (aPc, .inl (cyI, 80, .inl vpp)), (aR, .inr (2, [.ref aP, .ref aRn, .int vra_31, .int vrk, .int vrt_27])), (aRn, .inl (cyI, 40, .inl vrn_31))] := hD
      refine lv_iconst (v := (1 : Int32)) hx hb dX2_readValue_34 (by decide) ?_
      obtain ⟨e0, e1, e2, e3⟩ := k_inj4 hF
      have hP9 : va_P D vwCl [(aP, .inr (1, [.ref aPc, .int vpl])), (aPc, .inl (cyI, 80, .inl vpp)), (aR, .inr (2, [.ref aP, .ref aRn, .int vra', .int vrk, .int vrt'])), (aRn, .inl (cyI, 40, .inl vrn'))] H := by rw [← e1, ← e2, ← e3]; exact hP
      exact W.zret hx hb hr rfl (fun t ht hW => ⟨⟨_, (), rfl, e0, x_ret hP9 ht⟩, hS.F ht⟩) hS.2.2 dX2_readValue_35
    · have hF := k_if_t hF hc
      refine lv_iconst (v := (0 : Int32)) hx hb dX2_readValue_22 (by decide) ?_
      obtain ⟨e0, e1, e2, e3⟩ := k_inj4 hF
      have hP9 : va_P D vwCl [(aP, .inr (1, [.ref aPc, .int vpl])), (aPc, .inl (cyI, 80, .inl vpp)), (aR, .inr (2, [.ref aP, .ref aRn, .int vra', .int vrk, .int vrt'])), (aRn, .inl (cyI, 40, .inl vrn'))] H := by rw [← e1, ← e2, ← e3]; exact hP
      exact W.zret hx hb hr rfl (fun t ht hW => ⟨⟨_, (), rfl, e0, x_ret hP9 ht⟩, hS.F ht⟩) hS.2.2 dX2_readValue_23
  · have hF := k_if_f hF hc
    refine lv_iconst (v := (-1 : Int32)) hx hb dX2_readValue_9 (by decide) ?_
    refine lv_goto (tgt := 14) hx hb dX2_readValue_10 (by decide) ?_
    refine lv_istore_n (lv' := [(1, .int (-1 : Int32)), (0, .ref aR)]) hx hb dX2_readValue_14 rfl hl (by decide) rfl (fun ls hl => ?_)
    refine lv_aload_n hx hb dX2_readValue_15 rfl (lv_at hl 1 rfl) ?_
    obtain ⟨r16, hC, hF⟩ := k_c1_ex hF
    refine x_VR (As := []) (rest := []) ⟨hx, hb, hml, hown, hts⟩ (c_X2_isDigit l D cyI cyZ aP aPc aR aRn N vpl vpp vra vrk vrt_3 hC) (cwV 0 hts gX2_readValue_X2_isDigit rfl rfl rfl (by decide +kernel) ⟨Nat.le_of_ble_eq_true rfl, Nat.le_of_ble_eq_true rfl⟩) hK hP hS [0, 1, 2] rfl 2 rfl rfl rfl rfl hl.1 rfl (Nat.le_of_ble_eq_true rfl) ⟨Nat.zero_le _, Nat.zero_le _⟩ dX2_readValue_16 (fun H locs hP hS => ?_)
    refine lv_if_ne (tgt := 24) hx hb dX2_readValue_19 (by decide) (fun hc => ?_) (fun hc => ?_)
    · have hF := k_if_f hF hc
      refine lv_aload_n hx hb dX2_readValue_24 rfl (lv_at hl 1 rfl) ?_
      refine lv_iload_n hx hb dX2_readValue_25 rfl (lv_at hl 0 rfl) ?_
      refine lv_aload_n hx hb dX2_readValue_26 rfl (lv_at hl 1 rfl) ?_
      obtain ⟨r27, vrt_27, hC, hF⟩ := k_c2_ex hF
      refine x_VM (As := []) (rest := [.int (-1 : Int32), .ref aR]) ⟨hx, hb, hml, hown, hts⟩ (c_X2_readDigit l D cyI cyZ aP aPc aR aRn H.size N vpl vpp vra vrk vrt_3 hC) (cwV 0 hts gX2_readValue_X2_readDigit rfl rfl rfl (by decide +kernel) ⟨Nat.le_of_ble_eq_true rfl, Nat.le_of_ble_eq_true rfl⟩) hK hP hD hS hA [0, 1, 2] rfl rfl rfl 2 rfl rfl rfl rfl hl.1 rfl (Nat.le_of_ble_eq_true rfl) ⟨Nat.zero_le _, Nat.zero_le _⟩ dX2_readValue_27 (fun H locs hP hD hS => ?_)
      have hP : va_P D vwCl [(aP, .inr (1, [.ref aPc, .int vpl])), (aPc, .inl (cyI, 80, .inl vpp)), (aR, .inr (2, [.ref aP, .ref aRn, .int vra, .int vrk, .int vrt_27])), (aRn, .inl (cyI, 40, .inl vrn))] H := hP
      have hD : va_D A [(aP, .inr (1, [.ref aPc, .int vpl])), (aPc, .inl (cyI, 80, .inl vpp)), (aR, .inr (2, [.ref aP, .ref aRn, .int vra, .int vrk, .int vrt_27])), (aRn, .inl (cyI, 40, .inl vrn))] := hD
      refine lv_imul hx hb dX2_readValue_30 ?_
      obtain ⟨vra_31, vrn_31, hC, hF⟩ := k_c2_ex hF
      refine x_VV (As := [.int ((-1 : Int32) * r27)]) (rest := []) ⟨hx, hb, hml, hown, hts⟩ (c_X2_note l D cyI cyZ aP aR aRn H.size N ((-1 : Int32) * r27) vra vrk vrt_27 vrn hC) (cwV 1 hts gX2_readValue_X2_note rfl rfl rfl (by decide +kernel) ⟨Nat.le_of_ble_eq_true rfl, Nat.le_of_ble_eq_true rfl⟩) hK hP hD hS hA [2, 3] rfl rfl rfl 2 rfl rfl rfl rfl hl.1 rfl (Nat.le_of_ble_eq_true rfl) ⟨Nat.zero_le _, Nat.zero_le _⟩ dX2_readValue_31 (fun H locs hP hD hS => ?_)
      have hP : va_P D vwCl [(aP, .inr (1, [.ref aPc, .int vpl])), (aPc, .inl (cyI, 80, .inl vpp)), (aR, .inr (2, [.ref aP, .ref aRn, .int vra_31, .int vrk, .int vrt_27])), (aRn, .inl (cyI, 40, .inl vrn_31))] H := hP
      have hD : va_D A [(aP, .inr (1, [.ref aPc, .int vpl])), (aPc, .inl (cyI, 80, .inl vpp)), (aR, .inr (2, [.ref aP, .ref aRn, .int vra_31, .int vrk, .int vrt_27])), (aRn, .inl (cyI, 40, .inl vrn_31))] := hD
      refine lv_iconst (v := (1 : Int32)) hx hb dX2_readValue_34 (by decide) ?_
      obtain ⟨e0, e1, e2, e3⟩ := k_inj4 hF
      have hP9 : va_P D vwCl [(aP, .inr (1, [.ref aPc, .int vpl])), (aPc, .inl (cyI, 80, .inl vpp)), (aR, .inr (2, [.ref aP, .ref aRn, .int vra', .int vrk, .int vrt'])), (aRn, .inl (cyI, 40, .inl vrn'))] H := by rw [← e1, ← e2, ← e3]; exact hP
      exact W.zret hx hb hr rfl (fun t ht hW => ⟨⟨_, (), rfl, e0, x_ret hP9 ht⟩, hS.F ht⟩) hS.2.2 dX2_readValue_35
    · have hF := k_if_t hF hc
      refine lv_iconst (v := (0 : Int32)) hx hb dX2_readValue_22 (by decide) ?_
      obtain ⟨e0, e1, e2, e3⟩ := k_inj4 hF
      have hP9 : va_P D vwCl [(aP, .inr (1, [.ref aPc, .int vpl])), (aPc, .inl (cyI, 80, .inl vpp)), (aR, .inr (2, [.ref aP, .ref aRn, .int vra', .int vrk, .int vrt'])), (aRn, .inl (cyI, 40, .inl vrn'))] H := by rw [← e1, ← e2, ← e3]; exact hP
      exact W.zret hx hb hr rfl (fun t ht hW => ⟨⟨_, (), rfl, e0, x_ret hP9 ht⟩, hS.F ht⟩) hS.2.2 dX2_readValue_23
set_option maxHeartbeats 4000000 in
set_option maxRecDepth 100000 in
theorem c_X2_readValues (l : Launch) (D : va_G) (cyI cyZ : ClassId) (aP aPc aR aRn : Nat) (sz : Nat) (N : Nat) (vpl : Int32) (vpp : (Nat → Int32)) (vra : Int32) (vrk : Int32) (vrt : Int32) (vrn : (Nat → Int32)) {r0 : Int32} {vra' : Int32} {vrt' : Int32} {vrn' : (Nat → Int32)} (hF : p_X2_readValues N vpl vpp vra vrk vrt vrn = some (r0, vra', vrt', vrn')) : Met l yX2_readValues wsX2_readValues ({ frames := 3, cells := 0, slots := 0, locals := 63 }) (x_PM D cyI cyZ [.ref aR] [(aP, .inr (1, [.ref aPc, .int vpl])), (aPc, .inl (cyI, 80, .inl vpp)), (aR, .inr (2, [.ref aP, .ref aRn, .int vra, .int vrk, .int vrt])), (aRn, .inl (cyI, 40, .inl vrn))] sz) (x_QM D r0 (va_A [(aP, .inr (1, [.ref aPc, .int vpl])), (aPc, .inl (cyI, 80, .inl vpp)), (aR, .inr (2, [.ref aP, .ref aRn, .int vra, .int vrk, .int vrt])), (aRn, .inl (cyI, 40, .inl vrn))] sz) [(aP, .inr (1, [.ref aPc, .int vpl])), (aPc, .inl (cyI, 80, .inl vpp)), (aR, .inr (2, [.ref aP, .ref aRn, .int vra', .int vrk, .int vrt'])), (aRn, .inl (cyI, 40, .inl vrn'))]) 0 0 (va_A [(aP, .inr (1, [.ref aPc, .int vpl])), (aPc, .inl (cyI, 80, .inl vpp)), (aR, .inr (2, [.ref aP, .ref aRn, .int vra, .int vrk, .int vrt])), (aRn, .inl (cyI, 40, .inl vrn))] sz) := by
  refine Met.ofW (cc := cX2_readValues) (maxL := 3) (ret := (some .boolean)) (by decide) rfl ?_
  intro p e s m args below meth c s₁ B hml hv
  obtain ⟨rfl, hsz, hP, hK, hD0⟩ := hv
  have hx := B.exec
  have hb := B.bytes
  have hr := B.returns
  have hts := atoms_spec (ws := wsX2_readValues) B.pre
  have hown : s.vm.findClass RX2 = some m.cls := findClass_of_methodNamed B.named
  have hlocks := B.notSynchronized
  subst hsz
  have hD := hD0.self (sz := s.heap.size)
  generalize hAe : va_A [(aP, .inr (1, [.ref aPc, .int vpl])), (aPc, .inl (cyI, 80, .inl vpp)), (aR, .inr (2, [.ref aP, .ref aRn, .int vra, .int vrk, .int vrt])), (aRn, .inl (cyI, 40, .inl vrn))] s.heap.size = A at hD ⊢
  have hA : ∀ q : Nat, s.heap.size ≤ q → A q := fun q h => by rw [← hAe]; exact Or.inr h
  have hS : va_S A s.heap s.heap [] := va_S.rf
  have hP : va_P D vwCl [(aP, .inr (1, [.ref aPc, .int vpl])), (aPc, .inl (cyI, 80, .inl vpp)), (aR, .inr (2, [.ref aP, .ref aRn, .int vra, .int vrk, .int vrt])), (aRn, .inl (cyI, 40, .inl vrn))] s.heap := hP
  have hl := lv_entry ([.ref aR]) (n := 3) (Nat.le_of_ble_eq_true rfl)
  rw [lg_entry_eq]
  generalize (lg_sl ([.ref aR]) ++ List.replicate (3 - (lg_sl ([.ref aR])).length) Slot.unset).toArray = ls at hl ⊢
  have hl : lv_has ls 3 [(0, .ref aR)] := hl
  refine x_gen (fun G hG => ?_)
  have blk_7 : ∀ (n_7 : Nat) (x1 : Int32) (x2 : Int32) (vra : Int32) (vrt : Int32) (vrn : (Nat → Int32)), f_X2_readValues_7 N n_7 x1 x2 vpl vpp vra vrk vrt vrn = some (r0, vra', vrt', vrn') → ∀ (H : Heap) (locs : List Loc) (ls : Array Slot), va_P D vwCl [(aP, .inr (1, [.ref aPc, .int vpl])), (aPc, .inl (cyI, 80, .inl vpp)), (aR, .inr (2, [.ref aP, .ref aRn, .int vra, .int vrk, .int vrt])), (aRn, .inl (cyI, 40, .inl vrn))] H → va_D A [(aP, .inr (1, [.ref aPc, .int vpl])), (aPc, .inl (cyI, 80, .inl vpp)), (aR, .inr (2, [.ref aP, .ref aRn, .int vra, .int vrk, .int vrt])), (aRn, .inl (cyI, 40, .inl vrn))] → va_S A s.heap H locs → lv_has ls 3 [(0, .ref aR), (1, .int x1), (2, .int x2)] → G H locs (F0 m 7 ls []) := by
    intro n_7
    induction n_7 with
    | zero => intro x1 x2 vra vrt vrn hF; exact (k_none hF).elim
    | succ n_7 ih_7 =>
      intro x1 x2 vra vrt vrn hF H locs ls hP hD hS hl
      replace hF : b_X2_readValues_7 N (f_X2_readValues_7 N n_7) x1 x2 vpl vpp vra vrk vrt vrn = some (r0, vra', vrt', vrn') := hF
      unfold b_X2_readValues_7 at hF
      refine (hG _ _ _).2 ?_
      refine lv_iload_n hx hb dX2_readValues_7 rfl (lv_at hl 2 rfl) ?_
      refine lv_bipush (v := (40 : Int32)) hx hb dX2_readValues_8 (by decide) ?_
      refine lv_icmp_ge (tgt := 37) hx hb dX2_readValues_10 (by decide) (fun hc => ?_) (fun hc => ?_)
      · have hF := k_if_t hF hc
        refine lv_iload_n hx hb dX2_readValues_37 rfl (lv_at hl 1 rfl) ?_
        obtain ⟨hbit, hF⟩ := k_bit_ex hF
        obtain ⟨e0, e1, e2, e3⟩ := k_inj4 hF
        have hP9 : va_P D vwCl [(aP, .inr (1, [.ref aPc, .int vpl])), (aPc, .inl (cyI, 80, .inl vpp)), (aR, .inr (2, [.ref aP, .ref aRn, .int vra', .int vrk, .int vrt'])), (aRn, .inl (cyI, 40, .inl vrn'))] H := by rw [← e1, ← e2, ← e3]; exact hP
        exact W.zret hx hb hr (congrArg Value.int hbit) (fun t ht hW => ⟨⟨_, (), rfl, e0, x_ret hP9 ht⟩, hS.F ht⟩) hS.2.2 dX2_readValues_38
      · have hF := k_if_f hF hc
        refine lv_iload_n hx hb dX2_readValues_13 rfl (lv_at hl 1 rfl) ?_
        refine lv_if_eq (tgt := 37) hx hb dX2_readValues_14 (by decide) (fun hc => ?_) (fun hc => ?_)
        · have hF := k_if_t hF hc
          refine lv_iload_n hx hb dX2_readValues_37 rfl (lv_at hl 1 rfl) ?_
          obtain ⟨hbit, hF⟩ := k_bit_ex hF
          obtain ⟨e0, e1, e2, e3⟩ := k_inj4 hF
          have hP9 : va_P D vwCl [(aP, .inr (1, [.ref aPc, .int vpl])), (aPc, .inl (cyI, 80, .inl vpp)), (aR, .inr (2, [.ref aP, .ref aRn, .int vra', .int vrk, .int vrt'])), (aRn, .inl (cyI, 40, .inl vrn'))] H := by rw [← e1, ← e2, ← e3]; exact hP
          exact W.zret hx hb hr (congrArg Value.int hbit) (fun t ht hW => ⟨⟨_, (), rfl, e0, x_ret hP9 ht⟩, hS.F ht⟩) hS.2.2 dX2_readValues_38
        · have hF := k_if_f hF hc
          refine lv_aload_n hx hb dX2_readValues_17 rfl (lv_at hl 0 rfl) ?_
          refine lv_bipush (v := (44 : Int32)) hx hb dX2_readValues_18 (by decide) ?_
          obtain ⟨r20, vrt_20, hC, hF⟩ := k_c2_ex hF
          refine x_VM (As := [.int (44 : Int32)]) (rest := []) ⟨hx, hb, hml, hown, hts⟩ (c_X2_skip l D cyI cyZ aP aPc aR aRn H.size N (44 : Int32) vpl vpp vra vrk vrt hC) (cwV 1 hts gX2_readValues_X2_skip rfl rfl rfl (by decide +kernel) ⟨Nat.le_of_ble_eq_true rfl, Nat.le_of_ble_eq_true rfl⟩) hK hP hD hS hA [0, 1, 2] rfl rfl rfl 2 rfl rfl rfl rfl hl.1 rfl (Nat.le_of_ble_eq_true rfl) ⟨Nat.zero_le _, Nat.zero_le _⟩ dX2_readValues_20 (fun H locs hP hD hS => ?_)
          have hP : va_P D vwCl [(aP, .inr (1, [.ref aPc, .int vpl])), (aPc, .inl (cyI, 80, .inl vpp)), (aR, .inr (2, [.ref aP, .ref aRn, .int vra, .int vrk, .int vrt_20])), (aRn, .inl (cyI, 40, .inl vrn))] H := hP
          have hD : va_D A [(aP, .inr (1, [.ref aPc, .int vpl])), (aPc, .inl (cyI, 80, .inl vpp)), (aR, .inr (2, [.ref aP, .ref aRn, .int vra, .int vrk, .int vrt_20])), (aRn, .inl (cyI, 40, .inl vrn))] := hD
          refine lv_if_eq (tgt := 37) hx hb dX2_readValues_23 (by decide) (fun hc => ?_) (fun hc => ?_)
          · have hF := k_if_t hF hc
            refine lv_iload_n hx hb dX2_readValues_37 rfl (lv_at hl 1 rfl) ?_
            obtain ⟨hbit, hF⟩ := k_bit_ex hF
            obtain ⟨e0, e1, e2, e3⟩ := k_inj4 hF
            have hP9 : va_P D vwCl [(aP, .inr (1, [.ref aPc, .int vpl])), (aPc, .inl (cyI, 80, .inl vpp)), (aR, .inr (2, [.ref aP, .ref aRn, .int vra', .int vrk, .int vrt'])), (aRn, .inl (cyI, 40, .inl vrn'))] H := by rw [← e1, ← e2, ← e3]; exact hP
            exact W.zret hx hb hr (congrArg Value.int hbit) (fun t ht hW => ⟨⟨_, (), rfl, e0, x_ret hP9 ht⟩, hS.F ht⟩) hS.2.2 dX2_readValues_38
          · have hF := k_if_f hF hc
            refine lv_aload_n hx hb dX2_readValues_26 rfl (lv_at hl 0 rfl) ?_
            obtain ⟨r27, vra_27, vrt_27, vrn_27, hC, hF⟩ := k_c4_ex hF
            refine x_VM (As := []) (rest := []) ⟨hx, hb, hml, hown, hts⟩ (c_X2_readValue l D cyI cyZ aP aPc aR aRn H.size N vpl vpp vra vrk vrt_20 vrn hC) (cwV 0 hts gX2_readValues_X2_readValue rfl rfl rfl (by decide +kernel) ⟨Nat.le_of_ble_eq_true rfl, Nat.le_of_ble_eq_true rfl⟩) hK hP hD hS hA [0, 1, 2, 3] rfl rfl rfl 2 rfl rfl rfl rfl hl.1 rfl (Nat.le_of_ble_eq_true rfl) ⟨Nat.zero_le _, Nat.zero_le _⟩ dX2_readValues_27 (fun H locs hP hD hS => ?_)
            have hP : va_P D vwCl [(aP, .inr (1, [.ref aPc, .int vpl])), (aPc, .inl (cyI, 80, .inl vpp)), (aR, .inr (2, [.ref aP, .ref aRn, .int vra_27, .int vrk, .int vrt_27])), (aRn, .inl (cyI, 40, .inl vrn_27))] H := hP
            have hD : va_D A [(aP, .inr (1, [.ref aPc, .int vpl])), (aPc, .inl (cyI, 80, .inl vpp)), (aR, .inr (2, [.ref aP, .ref aRn, .int vra_27, .int vrk, .int vrt_27])), (aRn, .inl (cyI, 40, .inl vrn_27))] := hD
            refine lv_istore_n (lv' := [(1, .int r27), (0, .ref aR), (2, .int x2)]) hx hb dX2_readValues_30 rfl hl (by decide) rfl (fun ls hl => ?_)
            obtain ⟨x2_31, hn, hF⟩ := k_let_ex hF
            refine lv_iinc (v := x2_31) (lv' := [(2, .int x2_31), (1, .int r27), (0, .ref aR)]) hx hb dX2_readValues_31 hl (k := 2) rfl (by rw [hn]; rfl) (by decide) rfl (fun ls hl => ?_)
            refine lv_goto (tgt := 7) hx hb dX2_readValues_34 (by decide) ?_
            exact (hG _ _ _).1 (ih_7 r27 x2_31 vra_27 vrt_27 vrn_27 hF _ _ _ hP hD hS (lv_sub hl [2, 1, 0] rfl))
  refine (hG _ _ _).2 ?_
  unfold p_X2_readValues at hF
  refine lv_aload_n hx hb dX2_readValues_0 rfl (lv_at hl 0 rfl) ?_
  obtain ⟨r1, vra_1, vrt_1, vrn_1, hC, hF⟩ := k_c4_ex hF
  refine x_VM (As := []) (rest := []) ⟨hx, hb, hml, hown, hts⟩ (c_X2_readValue l D cyI cyZ aP aPc aR aRn s.heap.size N vpl vpp vra vrk vrt vrn hC) (cwV 0 hts gX2_readValues_X2_readValue rfl rfl rfl (by decide +kernel) ⟨Nat.le_of_ble_eq_true rfl, Nat.le_of_ble_eq_true rfl⟩) hK hP hD hS hA [0, 1, 2, 3] rfl rfl rfl 2 rfl rfl rfl rfl hl.1 rfl (Nat.le_of_ble_eq_true rfl) ⟨Nat.zero_le _, Nat.zero_le _⟩ dX2_readValues_1 (fun H locs hP hD hS => ?_)
  have hP : va_P D vwCl [(aP, .inr (1, [.ref aPc, .int vpl])), (aPc, .inl (cyI, 80, .inl vpp)), (aR, .inr (2, [.ref aP, .ref aRn, .int vra_1, .int vrk, .int vrt_1])), (aRn, .inl (cyI, 40, .inl vrn_1))] H := hP
  have hD : va_D A [(aP, .inr (1, [.ref aPc, .int vpl])), (aPc, .inl (cyI, 80, .inl vpp)), (aR, .inr (2, [.ref aP, .ref aRn, .int vra_1, .int vrk, .int vrt_1])), (aRn, .inl (cyI, 40, .inl vrn_1))] := hD
  refine lv_istore_n (lv' := [(1, .int r1), (0, .ref aR)]) hx hb dX2_readValues_4 rfl hl (by decide) rfl (fun ls hl => ?_)
  refine lv_iconst (v := (1 : Int32)) hx hb dX2_readValues_5 (by decide) ?_
  refine lv_istore_n (lv' := [(2, .int (1 : Int32)), (1, .int r1), (0, .ref aR)]) hx hb dX2_readValues_6 rfl hl (by decide) rfl (fun ls hl => ?_)
  exact (hG _ _ _).1 (blk_7 N r1 (1 : Int32) vra_1 vrt_1 vrn_1 hF _ _ _ hP hD hS (lv_sub hl [2, 1, 0] rfl))
set_option maxHeartbeats 4000000 in
set_option maxRecDepth 100000 in
theorem c_X2_readNumber (l : Launch) (D : va_G) (cyI cyZ : ClassId) (aP aPc aR aRn : Nat) (sz : Nat) (N : Nat) (vpl : Int32) (vpp : (Nat → Int32)) (vra : Int32) (vrk : Int32) (vrt : Int32) (vrn : (Nat → Int32)) {r0 : Int32} {vra' : Int32} {vrt' : Int32} {vrn' : (Nat → Int32)} (hF : p_X2_readNumber N vpl vpp vra vrk vrt vrn = some (r0, vra', vrt', vrn')) : Met l yX2_readNumber wsX2_readNumber ({ frames := 2, cells := 0, slots := 0, locals := 42 }) (x_PM D cyI cyZ [.ref aR] [(aP, .inr (1, [.ref aPc, .int vpl])), (aPc, .inl (cyI, 80, .inl vpp)), (aR, .inr (2, [.ref aP, .ref aRn, .int vra, .int vrk, .int vrt])), (aRn, .inl (cyI, 40, .inl vrn))] sz) (x_QM D r0 (va_A [(aP, .inr (1, [.ref aPc, .int vpl])), (aPc, .inl (cyI, 80, .inl vpp)), (aR, .inr (2, [.ref aP, .ref aRn, .int vra, .int vrk, .int vrt])), (aRn, .inl (cyI, 40, .inl vrn))] sz) [(aP, .inr (1, [.ref aPc, .int vpl])), (aPc, .inl (cyI, 80, .inl vpp)), (aR, .inr (2, [.ref aP, .ref aRn, .int vra', .int vrk, .int vrt'])), (aRn, .inl (cyI, 40, .inl vrn'))]) 0 0 (va_A [(aP, .inr (1, [.ref aPc, .int vpl])), (aPc, .inl (cyI, 80, .inl vpp)), (aR, .inr (2, [.ref aP, .ref aRn, .int vra, .int vrk, .int vrt])), (aRn, .inl (cyI, 40, .inl vrn))] sz) := by
  refine Met.ofW (cc := cX2_readNumber) (maxL := 2) (ret := (some .boolean)) (by decide) rfl ?_
  intro p e s m args below meth c s₁ B hml hv
  obtain ⟨rfl, hsz, hP, hK, hD0⟩ := hv
  have hx := B.exec
  have hb := B.bytes
  have hr := B.returns
  have hts := atoms_spec (ws := wsX2_readNumber) B.pre
  have hown : s.vm.findClass RX2 = some m.cls := findClass_of_methodNamed B.named
  have hlocks := B.notSynchronized
  subst hsz
  have hD := hD0.self (sz := s.heap.size)
  generalize hAe : va_A [(aP, .inr (1, [.ref aPc, .int vpl])), (aPc, .inl (cyI, 80, .inl vpp)), (aR, .inr (2, [.ref aP, .ref aRn, .int vra, .int vrk, .int vrt])), (aRn, .inl (cyI, 40, .inl vrn))] s.heap.size = A at hD ⊢
  have hA : ∀ q : Nat, s.heap.size ≤ q → A q := fun q h => by rw [← hAe]; exact Or.inr h
  have hS : va_S A s.heap s.heap [] := va_S.rf
  have hP : va_P D vwCl [(aP, .inr (1, [.ref aPc, .int vpl])), (aPc, .inl (cyI, 80, .inl vpp)), (aR, .inr (2, [.ref aP, .ref aRn, .int vra, .int vrk, .int vrt])), (aRn, .inl (cyI, 40, .inl vrn))] s.heap := hP
  have hl := lv_entry ([.ref aR]) (n := 2) (Nat.le_of_ble_eq_true rfl)
  rw [lg_entry_eq]
  generalize (lg_sl ([.ref aR]) ++ List.replicate (2 - (lg_sl ([.ref aR])).length) Slot.unset).toArray = ls at hl ⊢
  have hl : lv_has ls 2 [(0, .ref aR)] := hl
  unfold p_X2_readNumber at hF
  refine lv_aload_n hx hb dX2_readNumber_0 rfl (lv_at hl 0 rfl) ?_
  obtain ⟨r1, hC, hF⟩ := k_c1_ex hF
  refine x_VR (As := []) (rest := []) ⟨hx, hb, hml, hown, hts⟩ (c_X2_isDigit l D cyI cyZ aP aPc aR aRn N vpl vpp vra vrk vrt hC) (cwV 0 hts gX2_readNumber_X2_isDigit rfl rfl rfl (by decide +kernel) ⟨Nat.le_of_ble_eq_true rfl, Nat.le_of_ble_eq_true rfl⟩) hK hP hS [0, 1, 2] rfl 2 rfl rfl rfl rfl hl.1 rfl (Nat.le_of_ble_eq_true rfl) ⟨Nat.zero_le _, Nat.zero_le _⟩ dX2_readNumber_1 (fun H locs hP hS => ?_)
  refine lv_if_ne (tgt := 9) hx hb dX2_readNumber_4 (by decide) (fun hc => ?_) (fun hc => ?_)
  · have hF := k_if_f hF hc
    refine lv_aload_n hx hb dX2_readNumber_9 rfl (lv_at hl 0 rfl) ?_
    obtain ⟨r10, vrt_10, hC, hF⟩ := k_c2_ex hF
    refine x_VM (As := []) (rest := []) ⟨hx, hb, hml, hown, hts⟩ (c_X2_readDigit l D cyI cyZ aP aPc aR aRn H.size N vpl vpp vra vrk vrt hC) (cwV 0 hts gX2_readNumber_X2_readDigit rfl rfl rfl (by decide +kernel) ⟨Nat.le_of_ble_eq_true rfl, Nat.le_of_ble_eq_true rfl⟩) hK hP hD hS hA [0, 1, 2] rfl rfl rfl 2 rfl rfl rfl rfl hl.1 rfl (Nat.le_of_ble_eq_true rfl) ⟨Nat.zero_le _, Nat.zero_le _⟩ dX2_readNumber_10 (fun H locs hP hD hS => ?_)
    have hP : va_P D vwCl [(aP, .inr (1, [.ref aPc, .int vpl])), (aPc, .inl (cyI, 80, .inl vpp)), (aR, .inr (2, [.ref aP, .ref aRn, .int vra, .int vrk, .int vrt_10])), (aRn, .inl (cyI, 40, .inl vrn))] H := hP
    have hD : va_D A [(aP, .inr (1, [.ref aPc, .int vpl])), (aPc, .inl (cyI, 80, .inl vpp)), (aR, .inr (2, [.ref aP, .ref aRn, .int vra, .int vrk, .int vrt_10])), (aRn, .inl (cyI, 40, .inl vrn))] := hD
    refine lv_istore_n (lv' := [(1, .int r10), (0, .ref aR)]) hx hb dX2_readNumber_13 rfl hl (by decide) rfl (fun ls hl => ?_)
    refine lv_iload_n hx hb dX2_readNumber_14 rfl (lv_at hl 0 rfl) ?_
    refine lv_if_le (tgt := 35) hx hb dX2_readNumber_15 (by decide) (fun hc => ?_) (fun hc => ?_)
    · have hF := k_if_t hF hc
      refine lv_aload_n hx hb dX2_readNumber_35 rfl (lv_at hl 1 rfl) ?_
      refine lv_iload_n hx hb dX2_readNumber_36 rfl (lv_at hl 0 rfl) ?_
      obtain ⟨vra_37, vrn_37, hC, hF⟩ := k_c2_ex hF
      refine x_VV (As := [.int r10]) (rest := []) ⟨hx, hb, hml, hown, hts⟩ (c_X2_note l D cyI cyZ aP aR aRn H.size N r10 vra vrk vrt_10 vrn hC) (cwV 1 hts gX2_readNumber_X2_note rfl rfl rfl (by decide +kernel) ⟨Nat.le_of_ble_eq_true rfl, Nat.le_of_ble_eq_true rfl⟩) hK hP hD hS hA [2, 3] rfl rfl rfl 2 rfl rfl rfl rfl hl.1 rfl (Nat.le_of_ble_eq_true rfl) ⟨Nat.zero_le _, Nat.zero_le _⟩ dX2_readNumber_37 (fun H locs hP hD hS => ?_)
      have hP : va_P D vwCl [(aP, .inr (1, [.ref aPc, .int vpl])), (aPc, .inl (cyI, 80, .inl vpp)), (aR, .inr (2, [.ref aP, .ref aRn, .int vra_37, .int vrk, .int vrt_10])), (aRn, .inl (cyI, 40, .inl vrn_37))] H := hP
      have hD : va_D A [(aP, .inr (1, [.ref aPc, .int vpl])), (aPc, .inl (cyI, 80, .inl vpp)), (aR, .inr (2, [.ref aP, .ref aRn, .int vra_37, .int vrk, .int vrt_10])), (aRn, .inl (cyI, 40, .inl vrn_37))] := hD
      refine lv_iconst (v := (1 : Int32)) hx hb dX2_readNumber_40 (by decide) ?_
      obtain ⟨e0, e1, e2, e3⟩ := k_inj4 hF
      have hP9 : va_P D vwCl [(aP, .inr (1, [.ref aPc, .int vpl])), (aPc, .inl (cyI, 80, .inl vpp)), (aR, .inr (2, [.ref aP, .ref aRn, .int vra', .int vrk, .int vrt'])), (aRn, .inl (cyI, 40, .inl vrn'))] H := by rw [← e1, ← e2, ← e3]; exact hP
      exact W.zret hx hb hr rfl (fun t ht hW => ⟨⟨_, (), rfl, e0, x_ret hP9 ht⟩, hS.F ht⟩) hS.2.2 dX2_readNumber_41
    · have hF := k_if_f hF hc
      refine lv_aload_n hx hb dX2_readNumber_18 rfl (lv_at hl 1 rfl) ?_
      obtain ⟨r19, hC, hF⟩ := k_c1_ex hF
      refine x_VR (As := []) (rest := []) ⟨hx, hb, hml, hown, hts⟩ (c_X2_isDigit l D cyI cyZ aP aPc aR aRn N vpl vpp vra vrk vrt_10 hC) (cwV 0 hts gX2_readNumber_X2_isDigit rfl rfl rfl (by decide +kernel) ⟨Nat.le_of_ble_eq_true rfl, Nat.le_of_ble_eq_true rfl⟩) hK hP hS [0, 1, 2] rfl 2 rfl rfl rfl rfl hl.1 rfl (Nat.le_of_ble_eq_true rfl) ⟨Nat.zero_le _, Nat.zero_le _⟩ dX2_readNumber_19 (fun H locs hP hS => ?_)
      refine lv_if_eq (tgt := 35) hx hb dX2_readNumber_22 (by decide) (fun hc => ?_) (fun hc => ?_)
      · have hF := k_if_t hF hc
        refine lv_aload_n hx hb dX2_readNumber_35 rfl (lv_at hl 1 rfl) ?_
        refine lv_iload_n hx hb dX2_readNumber_36 rfl (lv_at hl 0 rfl) ?_
        obtain ⟨vra_37, vrn_37, hC, hF⟩ := k_c2_ex hF
        refine x_VV (As := [.int r10]) (rest := []) ⟨hx, hb, hml, hown, hts⟩ (c_X2_note l D cyI cyZ aP aR aRn H.size N r10 vra vrk vrt_10 vrn hC) (cwV 1 hts gX2_readNumber_X2_note rfl rfl rfl (by decide +kernel) ⟨Nat.le_of_ble_eq_true rfl, Nat.le_of_ble_eq_true rfl⟩) hK hP hD hS hA [2, 3] rfl rfl rfl 2 rfl rfl rfl rfl hl.1 rfl (Nat.le_of_ble_eq_true rfl) ⟨Nat.zero_le _, Nat.zero_le _⟩ dX2_readNumber_37 (fun H locs hP hD hS => ?_)
        have hP : va_P D vwCl [(aP, .inr (1, [.ref aPc, .int vpl])), (aPc, .inl (cyI, 80, .inl vpp)), (aR, .inr (2, [.ref aP, .ref aRn, .int vra_37, .int vrk, .int vrt_10])), (aRn, .inl (cyI, 40, .inl vrn_37))] H := hP
        have hD : va_D A [(aP, .inr (1, [.ref aPc, .int vpl])), (aPc, .inl (cyI, 80, .inl vpp)), (aR, .inr (2, [.ref aP, .ref aRn, .int vra_37, .int vrk, .int vrt_10])), (aRn, .inl (cyI, 40, .inl vrn_37))] := hD
        refine lv_iconst (v := (1 : Int32)) hx hb dX2_readNumber_40 (by decide) ?_
        obtain ⟨e0, e1, e2, e3⟩ := k_inj4 hF
        have hP9 : va_P D vwCl [(aP, .inr (1, [.ref aPc, .int vpl])), (aPc, .inl (cyI, 80, .inl vpp)), (aR, .inr (2, [.ref aP, .ref aRn, .int vra', .int vrk, .int vrt'])), (aRn, .inl (cyI, 40, .inl vrn'))] H := by rw [← e1, ← e2, ← e3]; exact hP
        exact W.zret hx hb hr rfl (fun t ht hW => ⟨⟨_, (), rfl, e0, x_ret hP9 ht⟩, hS.F ht⟩) hS.2.2 dX2_readNumber_41
      · have hF := k_if_f hF hc
        refine lv_bipush (v := (10 : Int32)) hx hb dX2_readNumber_25 (by decide) ?_
        refine lv_iload_n hx hb dX2_readNumber_27 rfl (lv_at hl 0 rfl) ?_
        refine lv_imul hx hb dX2_readNumber_28 ?_
        refine lv_aload_n hx hb dX2_readNumber_29 rfl (lv_at hl 1 rfl) ?_
        obtain ⟨r30, vrt_30, hC, hF⟩ := k_c2_ex hF
        refine x_VM (As := []) (rest := [.int ((10 : Int32) * r10)]) ⟨hx, hb, hml, hown, hts⟩ (c_X2_readDigit l D cyI cyZ aP aPc aR aRn H.size N vpl vpp vra vrk vrt_10 hC) (cwV 0 hts gX2_readNumber_X2_readDigit rfl rfl rfl (by decide +kernel) ⟨Nat.le_of_ble_eq_true rfl, Nat.le_of_ble_eq_true rfl⟩) hK hP hD hS hA [0, 1, 2] rfl rfl rfl 2 rfl rfl rfl rfl hl.1 rfl (Nat.le_of_ble_eq_true rfl) ⟨Nat.zero_le _, Nat.zero_le _⟩ dX2_readNumber_30 (fun H locs hP hD hS => ?_)
        have hP : va_P D vwCl [(aP, .inr (1, [.ref aPc, .int vpl])), (aPc, .inl (cyI, 80, .inl vpp)), (aR, .inr (2, [.ref aP, .ref aRn, .int vra, .int vrk, .int vrt_30])), (aRn, .inl (cyI, 40, .inl vrn))] H := hP
        have hD : va_D A [(aP, .inr (1, [.ref aPc, .int vpl])), (aPc, .inl (cyI, 80, .inl vpp)), (aR, .inr (2, [.ref aP, .ref aRn, .int vra, .int vrk, .int vrt_30])), (aRn, .inl (cyI, 40, .inl vrn))] := hD
        refine lv_iadd hx hb dX2_readNumber_33 ?_
        obtain ⟨x1_34, hn, hF⟩ := k_let_ex hF
        refine x_nm hn ?_
        refine lv_istore_n (lv' := [(1, .int x1_34), (0, .ref aR)]) hx hb dX2_readNumber_34 rfl hl (by decide) rfl (fun ls hl => ?_)
        refine lv_aload_n hx hb dX2_readNumber_35 rfl (lv_at hl 1 rfl) ?_
        refine lv_iload_n hx hb dX2_readNumber_36 rfl (lv_at hl 0 rfl) ?_
        obtain ⟨vra_37, vrn_37, hC, hF⟩ := k_c2_ex hF
        refine x_VV (As := [.int x1_34]) (rest := []) ⟨hx, hb, hml, hown, hts⟩ (c_X2_note l D cyI cyZ aP aR aRn H.size N x1_34 vra vrk vrt_30 vrn hC) (cwV 1 hts gX2_readNumber_X2_note rfl rfl rfl (by decide +kernel) ⟨Nat.le_of_ble_eq_true rfl, Nat.le_of_ble_eq_true rfl⟩) hK hP hD hS hA [2, 3] rfl rfl rfl 2 rfl rfl rfl rfl hl.1 rfl (Nat.le_of_ble_eq_true rfl) ⟨Nat.zero_le _, Nat.zero_le _⟩ dX2_readNumber_37 (fun H locs hP hD hS => ?_)
        have hP : va_P D vwCl [(aP, .inr (1, [.ref aPc, .int vpl])), (aPc, .inl (cyI, 80, .inl vpp)), (aR, .inr (2, [.ref aP, .ref aRn, .int vra_37, .int vrk, .int vrt_30])), (aRn, .inl (cyI, 40, .inl vrn_37))] H := hP
        have hD : va_D A [(aP, .inr (1, [.ref aPc, .int vpl])), (aPc, .inl (cyI, 80, .inl vpp)), (aR, .inr (2, [.ref aP, .ref aRn, .int vra_37, .int vrk, .int vrt_30])), (aRn, .inl (cyI, 40, .inl vrn_37))] := hD
        refine lv_iconst (v := (1 : Int32)) hx hb dX2_readNumber_40 (by decide) ?_
        obtain ⟨e0, e1, e2, e3⟩ := k_inj4 hF
        have hP9 : va_P D vwCl [(aP, .inr (1, [.ref aPc, .int vpl])), (aPc, .inl (cyI, 80, .inl vpp)), (aR, .inr (2, [.ref aP, .ref aRn, .int vra', .int vrk, .int vrt'])), (aRn, .inl (cyI, 40, .inl vrn'))] H := by rw [← e1, ← e2, ← e3]; exact hP
        exact W.zret hx hb hr rfl (fun t ht hW => ⟨⟨_, (), rfl, e0, x_ret hP9 ht⟩, hS.F ht⟩) hS.2.2 dX2_readNumber_41
  · have hF := k_if_t hF hc
    refine lv_iconst (v := (0 : Int32)) hx hb dX2_readNumber_7 (by decide) ?_
    obtain ⟨e0, e1, e2, e3⟩ := k_inj4 hF
    have hP9 : va_P D vwCl [(aP, .inr (1, [.ref aPc, .int vpl])), (aPc, .inl (cyI, 80, .inl vpp)), (aR, .inr (2, [.ref aP, .ref aRn, .int vra', .int vrk, .int vrt'])), (aRn, .inl (cyI, 40, .inl vrn'))] H := by rw [← e1, ← e2, ← e3]; exact hP
    exact W.zret hx hb hr rfl (fun t ht hW => ⟨⟨_, (), rfl, e0, x_ret hP9 ht⟩, hS.F ht⟩) hS.2.2 dX2_readNumber_8
theorem mm_X2_readOrder_1 : Cond.fieldLink RX2 25 "RollerMesh$Reader" "amount" "I" ∈ wsX2_readOrder := List.mem_of_getElem? (i := 1) rfl
theorem mm_X2_readOrder_2 : Cond.fieldLink RX2 17 "RollerMesh$Reader" "pad" "LRollerMesh$Pad;" ∈ wsX2_readOrder := List.mem_of_getElem? (i := 2) rfl
theorem mm_X2_readOrder_3 : Cond.fieldLink RX2 28 "RollerMesh$Reader" "at" "I" ∈ wsX2_readOrder := List.mem_of_getElem? (i := 3) rfl
theorem mm_X2_readOrder_4 : Cond.fieldLink RX2 21 "RollerMesh$Reader" "kind" "I" ∈ wsX2_readOrder := List.mem_of_getElem? (i := 4) rfl
theorem mi_X2_readOrder_X2 : ∀ w ∈ wsX20, w ∈ wsX2_readOrder := fun _ h => List.mem_cons_of_mem _ (List.mem_append_left _ (List.mem_append_right _ h))
set_option maxHeartbeats 4000000 in
set_option maxRecDepth 100000 in
theorem c_X2_readOrder (l : Launch) (D : va_G) (cyI cyZ : ClassId) (aP aPc aR aRn : Nat) (sz : Nat) (N : Nat) (vpl : Int32) (vpp : (Nat → Int32)) (vra : Int32) (vrk : Int32) (vrt : Int32) (vrn : (Nat → Int32)) {r0 : Int32} {vra' : Int32} {vrk' : Int32} {vrt' : Int32} {vrn' : (Nat → Int32)} (hF : p_X2_readOrder N vpl vpp vra vrk vrt vrn = some (r0, vra', vrk', vrt', vrn')) : Met l yX2_readOrder wsX2_readOrder ({ frames := 4, cells := 0, slots := 0, locals := 85 }) (x_PM D cyI cyZ [.ref aR] [(aP, .inr (1, [.ref aPc, .int vpl])), (aPc, .inl (cyI, 80, .inl vpp)), (aR, .inr (2, [.ref aP, .ref aRn, .int vra, .int vrk, .int vrt])), (aRn, .inl (cyI, 40, .inl vrn))] sz) (x_QM D r0 (va_A [(aP, .inr (1, [.ref aPc, .int vpl])), (aPc, .inl (cyI, 80, .inl vpp)), (aR, .inr (2, [.ref aP, .ref aRn, .int vra, .int vrk, .int vrt])), (aRn, .inl (cyI, 40, .inl vrn))] sz) [(aP, .inr (1, [.ref aPc, .int vpl])), (aPc, .inl (cyI, 80, .inl vpp)), (aR, .inr (2, [.ref aP, .ref aRn, .int vra', .int vrk', .int vrt'])), (aRn, .inl (cyI, 40, .inl vrn'))]) 0 0 (va_A [(aP, .inr (1, [.ref aPc, .int vpl])), (aPc, .inl (cyI, 80, .inl vpp)), (aR, .inr (2, [.ref aP, .ref aRn, .int vra, .int vrk, .int vrt])), (aRn, .inl (cyI, 40, .inl vrn))] sz) := by
  refine Met.ofW (cc := cX2_readOrder) (maxL := 1) (ret := (some .boolean)) (by decide) rfl ?_
  intro p e s m args below meth c s₁ B hml hv
  obtain ⟨rfl, hsz, hP, hK, hD0⟩ := hv
  have hx := B.exec
  have hb := B.bytes
  have hr := B.returns
  have hts := atoms_spec (ws := wsX2_readOrder) B.pre
  have hown : s.vm.findClass RX2 = some m.cls := findClass_of_methodNamed B.named
  have hlocks := B.notSynchronized
  subst hsz
  have hD := hD0.self (sz := s.heap.size)
  generalize hAe : va_A [(aP, .inr (1, [.ref aPc, .int vpl])), (aPc, .inl (cyI, 80, .inl vpp)), (aR, .inr (2, [.ref aP, .ref aRn, .int vra, .int vrk, .int vrt])), (aRn, .inl (cyI, 40, .inl vrn))] s.heap.size = A at hD ⊢
  have hA : ∀ q : Nat, s.heap.size ≤ q → A q := fun q h => by rw [← hAe]; exact Or.inr h
  have hS : va_S A s.heap s.heap [] := va_S.rf
  have hP : va_P D vwCl [(aP, .inr (1, [.ref aPc, .int vpl])), (aPc, .inl (cyI, 80, .inl vpp)), (aR, .inr (2, [.ref aP, .ref aRn, .int vra, .int vrk, .int vrt])), (aRn, .inl (cyI, 40, .inl vrn))] s.heap := hP
  have hl := lv_entry ([.ref aR]) (n := 1) (Nat.le_of_ble_eq_true rfl)
  rw [lg_entry_eq]
  generalize (lg_sl ([.ref aR]) ++ List.replicate (1 - (lg_sl ([.ref aR])).length) Slot.unset).toArray = ls at hl ⊢
  have hl : lv_has ls 1 [(0, .ref aR)] := hl
  unfold p_X2_readOrder at hF
  refine lv_aload_n hx hb dX2_readOrder_0 rfl (lv_at hl 0 rfl) ?_
  refine lv_iconst (v := (0 : Int32)) hx hb dX2_readOrder_1 (by decide) ?_
  refine va_put (D := D) (ci := 2) (v := .int (0 : Int32)) (ty := .int) (C := RX2) (T := TX2) (N := 5) hx hb hts mi_X2_readOrder_X2 tyX2 tyX2_ok nmX2 hown hK.1 hP hD hS 2 rfl rfl 2 (by decide) (hts _ mm_X2_readOrder_1) (fun _ h9 => h9) rfl (by decide +kernel) rfl rfl (Nat.le_of_ble_eq_true rfl) dX2_readOrder_2 (fun H locs hP hD hS => ?_)
  have hP : va_P D vwCl [(aP, .inr (1, [.ref aPc, .int vpl])), (aPc, .inl (cyI, 80, .inl vpp)), (aR, .inr (2, [.ref aP, .ref aRn, .int (0 : Int32), .int vrk, .int vrt])), (aRn, .inl (cyI, 40, .inl vrn))] H := hP
  have hD : va_D A [(aP, .inr (1, [.ref aPc, .int vpl])), (aPc, .inl (cyI, 80, .inl vpp)), (aR, .inr (2, [.ref aP, .ref aRn, .int (0 : Int32), .int vrk, .int vrt])), (aRn, .inl (cyI, 40, .inl vrn))] := hD
  refine lv_aload_n hx hb dX2_readOrder_5 rfl (lv_at hl 0 rfl) ?_
  refine lv_aload_n hx hb dX2_readOrder_6 rfl (lv_at hl 0 rfl) ?_
  refine va_get (D := D) (ci := 2) (v := .ref aP) (C := RX2) (T := TX2) (N := 5) hx hb hts mi_X2_readOrder_X2 hown hK.1 hP 2 rfl rfl 0 (by decide) (hts _ mm_X2_readOrder_2) (fun _ h9 => h9) rfl dX2_readOrder_7 ?_
  refine lv_aload_n hx hb dX2_readOrder_10 rfl (lv_at hl 0 rfl) ?_
  refine va_get (D := D) (ci := 2) (v := .int vrt) (C := RX2) (T := TX2) (N := 5) hx hb hts mi_X2_readOrder_X2 hown hK.1 hP 2 rfl rfl 4 (by decide) (hts _ mm_X2_readOrder_3) (fun _ h9 => h9) rfl dX2_readOrder_11 ?_
  obtain ⟨r14, hC, hF⟩ := k_c1_ex hF
  refine x_VR (As := [.int vrt]) (rest := [.ref aR]) ⟨hx, hb, hml, hown, hts⟩ (c_X1_codeAt l D cyI cyZ aP aPc N vrt vpl vpp hC) (cwV 1 hts gX2_readOrder_X1_codeAt rfl rfl rfl (by decide +kernel) ⟨Nat.le_of_ble_eq_true rfl, Nat.le_of_ble_eq_true rfl⟩) hK hP hS [0, 1] rfl 0 rfl rfl rfl rfl hl.1 rfl (Nat.le_of_ble_eq_true rfl) ⟨Nat.zero_le _, Nat.zero_le _⟩ dX2_readOrder_14 (fun H locs hP hS => ?_)
  refine va_put (D := D) (ci := 2) (v := .int r14) (ty := .int) (C := RX2) (T := TX2) (N := 5) hx hb hts mi_X2_readOrder_X2 tyX2 tyX2_ok nmX2 hown hK.1 hP hD hS 2 rfl rfl 3 (by decide) (hts _ mm_X2_readOrder_4) (fun _ h9 => h9) rfl (by decide +kernel) rfl rfl (Nat.le_of_ble_eq_true rfl) dX2_readOrder_17 (fun H locs hP hD hS => ?_)
  have hP : va_P D vwCl [(aP, .inr (1, [.ref aPc, .int vpl])), (aPc, .inl (cyI, 80, .inl vpp)), (aR, .inr (2, [.ref aP, .ref aRn, .int (0 : Int32), .int r14, .int vrt])), (aRn, .inl (cyI, 40, .inl vrn))] H := hP
  have hD : va_D A [(aP, .inr (1, [.ref aPc, .int vpl])), (aPc, .inl (cyI, 80, .inl vpp)), (aR, .inr (2, [.ref aP, .ref aRn, .int (0 : Int32), .int r14, .int vrt])), (aRn, .inl (cyI, 40, .inl vrn))] := hD
  refine lv_aload_n hx hb dX2_readOrder_20 rfl (lv_at hl 0 rfl) ?_
  refine va_get (D := D) (ci := 2) (v := .int r14) (C := RX2) (T := TX2) (N := 5) hx hb hts mi_X2_readOrder_X2 hown hK.1 hP 2 rfl rfl 3 (by decide) (hts _ mm_X2_readOrder_4) (fun _ h9 => h9) rfl dX2_readOrder_21 ?_
  by_cases h43 : r14 = (43 : Int32)
  · have hF := k_if_t hF h43
    refine lv_lookup (tgt := 68) (off := 44) hx hb dX2_readOrder_24 (by decide) (by rw [h43]; decide) (by decide) ?_
    refine lv_aload_n hx hb dX2_readOrder_68 rfl (lv_at hl 0 rfl) ?_
    refine lv_bipush (v := (43 : Int32)) hx hb dX2_readOrder_69 (by decide) ?_
    obtain ⟨r71, vrt_71, hC, hF⟩ := k_c2_ex hF
    refine x_VM (As := [.int (43 : Int32)]) (rest := []) ⟨hx, hb, hml, hown, hts⟩ (c_X2_skip l D cyI cyZ aP aPc aR aRn H.size N (43 : Int32) vpl vpp (0 : Int32) r14 vrt hC) (cwV 1 hts gX2_readOrder_X2_skip rfl rfl rfl (by decide +kernel) ⟨Nat.le_of_ble_eq_true rfl, Nat.le_of_ble_eq_true rfl⟩) hK hP hD hS hA [0, 1, 2] rfl rfl rfl 2 rfl rfl rfl rfl hl.1 rfl (Nat.le_of_ble_eq_true rfl) ⟨Nat.zero_le _, Nat.zero_le _⟩ dX2_readOrder_71 (fun H locs hP hD hS => ?_)
    have hP : va_P D vwCl [(aP, .inr (1, [.ref aPc, .int vpl])), (aPc, .inl (cyI, 80, .inl vpp)), (aR, .inr (2, [.ref aP, .ref aRn, .int (0 : Int32), .int r14, .int vrt_71])), (aRn, .inl (cyI, 40, .inl vrn))] H := hP
    have hD : va_D A [(aP, .inr (1, [.ref aPc, .int vpl])), (aPc, .inl (cyI, 80, .inl vpp)), (aR, .inr (2, [.ref aP, .ref aRn, .int (0 : Int32), .int r14, .int vrt_71])), (aRn, .inl (cyI, 40, .inl vrn))] := hD
    refine lv_if_eq (tgt := 88) hx hb dX2_readOrder_74 (by decide) (fun hc => ?_) (fun hc => ?_)
    · have hF := k_if_t hF hc
      refine lv_iconst (v := (0 : Int32)) hx hb dX2_readOrder_88 (by decide) ?_
      obtain ⟨e0, e1, e2, e3, e4⟩ := k_inj5 hF
      have hP9 : va_P D vwCl [(aP, .inr (1, [.ref aPc, .int vpl])), (aPc, .inl (cyI, 80, .inl vpp)), (aR, .inr (2, [.ref aP, .ref aRn, .int vra', .int vrk', .int vrt'])), (aRn, .inl (cyI, 40, .inl vrn'))] H := by rw [← e1, ← e2, ← e3, ← e4]; exact hP
      exact W.zret hx hb hr rfl (fun t ht hW => ⟨⟨_, (), rfl, e0, x_ret hP9 ht⟩, hS.F ht⟩) hS.2.2 dX2_readOrder_89
    · have hF := k_if_f hF hc
      refine lv_aload_n hx hb dX2_readOrder_77 rfl (lv_at hl 0 rfl) ?_
      obtain ⟨r78, vra_78, vrt_78, vrn_78, hC, hF⟩ := k_c4_ex hF
      refine x_VM (As := []) (rest := []) ⟨hx, hb, hml, hown, hts⟩ (c_X2_readValues l D cyI cyZ aP aPc aR aRn H.size N vpl vpp (0 : Int32) r14 vrt_71 vrn hC) (cwV 0 hts gX2_readOrder_X2_readValues rfl rfl rfl (by decide +kernel) ⟨Nat.le_of_ble_eq_true rfl, Nat.le_of_ble_eq_true rfl⟩) hK hP hD hS hA [0, 1, 2, 3] rfl rfl rfl 2 rfl rfl rfl rfl hl.1 rfl (Nat.le_of_ble_eq_true rfl) ⟨Nat.zero_le _, Nat.zero_le _⟩ dX2_readOrder_78 (fun H locs hP hD hS => ?_)
      have hP : va_P D vwCl [(aP, .inr (1, [.ref aPc, .int vpl])), (aPc, .inl (cyI, 80, .inl vpp)), (aR, .inr (2, [.ref aP, .ref aRn, .int vra_78, .int r14, .int vrt_78])), (aRn, .inl (cyI, 40, .inl vrn_78))] H := hP
      have hD : va_D A [(aP, .inr (1, [.ref aPc, .int vpl])), (aPc, .inl (cyI, 80, .inl vpp)), (aR, .inr (2, [.ref aP, .ref aRn, .int vra_78, .int r14, .int vrt_78])), (aRn, .inl (cyI, 40, .inl vrn_78))] := hD
      refine lv_if_eq (tgt := 88) hx hb dX2_readOrder_81 (by decide) (fun hc => ?_) (fun hc => ?_)
      · have hF := k_if_t hF hc
        refine lv_iconst (v := (0 : Int32)) hx hb dX2_readOrder_88 (by decide) ?_
        obtain ⟨e0, e1, e2, e3, e4⟩ := k_inj5 hF
        have hP9 : va_P D vwCl [(aP, .inr (1, [.ref aPc, .int vpl])), (aPc, .inl (cyI, 80, .inl vpp)), (aR, .inr (2, [.ref aP, .ref aRn, .int vra', .int vrk', .int vrt'])), (aRn, .inl (cyI, 40, .inl vrn'))] H := by rw [← e1, ← e2, ← e3, ← e4]; exact hP
        exact W.zret hx hb hr rfl (fun t ht hW => ⟨⟨_, (), rfl, e0, x_ret hP9 ht⟩, hS.F ht⟩) hS.2.2 dX2_readOrder_89
      · have hF := k_if_f hF hc
        refine lv_iconst (v := (1 : Int32)) hx hb dX2_readOrder_84 (by decide) ?_
        refine lv_goto (tgt := 89) hx hb dX2_readOrder_85 (by decide) ?_
        obtain ⟨e0, e1, e2, e3, e4⟩ := k_inj5 hF
        have hP9 : va_P D vwCl [(aP, .inr (1, [.ref aPc, .int vpl])), (aPc, .inl (cyI, 80, .inl vpp)), (aR, .inr (2, [.ref aP, .ref aRn, .int vra', .int vrk', .int vrt'])), (aRn, .inl (cyI, 40, .inl vrn'))] H := by rw [← e1, ← e2, ← e3, ← e4]; exact hP
        exact W.zret hx hb hr rfl (fun t ht hW => ⟨⟨_, (), rfl, e0, x_ret hP9 ht⟩, hS.F ht⟩) hS.2.2 dX2_readOrder_89
  · have hF := k_if_f hF h43
    by_cases h102 : r14 = (102 : Int32)
    · have hF := k_if_t hF h102
      refine lv_lookup (tgt := 214) (off := 190) hx hb dX2_readOrder_24 (by decide) (by rw [h102]; decide) (by decide) ?_
      refine lv_aload_n hx hb dX2_readOrder_214 rfl (lv_at hl 0 rfl) ?_
      refine lv_bipush (v := (102 : Int32)) hx hb dX2_readOrder_215 (by decide) ?_
      obtain ⟨r217, vrt_217, hC, hF⟩ := k_c2_ex hF
      refine x_VM (As := [.int (102 : Int32)]) (rest := []) ⟨hx, hb, hml, hown, hts⟩ (c_X2_skip l D cyI cyZ aP aPc aR aRn H.size N (102 : Int32) vpl vpp (0 : Int32) r14 vrt hC) (cwV 1 hts gX2_readOrder_X2_skip rfl rfl rfl (by decide +kernel) ⟨Nat.le_of_ble_eq_true rfl, Nat.le_of_ble_eq_true rfl⟩) hK hP hD hS hA [0, 1, 2] rfl rfl rfl 2 rfl rfl rfl rfl hl.1 rfl (Nat.le_of_ble_eq_true rfl) ⟨Nat.zero_le _, Nat.zero_le _⟩ dX2_readOrder_217 (fun H locs hP hD hS => ?_)
      have hP : va_P D vwCl [(aP, .inr (1, [.ref aPc, .int vpl])), (aPc, .inl (cyI, 80, .inl vpp)), (aR, .inr (2, [.ref aP, .ref aRn, .int (0 : Int32), .int r14, .int vrt_217])), (aRn, .inl (cyI, 40, .inl vrn))] H := hP
      have hD : va_D A [(aP, .inr (1, [.ref aPc, .int vpl])), (aPc, .inl (cyI, 80, .inl vpp)), (aR, .inr (2, [.ref aP, .ref aRn, .int (0 : Int32), .int r14, .int vrt_217])), (aRn, .inl (cyI, 40, .inl vrn))] := hD
      refine lv_if_eq (tgt := 266) hx hb dX2_readOrder_220 (by decide) (fun hc => ?_) (fun hc => ?_)
      · have hF := k_if_t hF hc
        refine lv_iconst (v := (0 : Int32)) hx hb dX2_readOrder_266 (by decide) ?_
        obtain ⟨e0, e1, e2, e3, e4⟩ := k_inj5 hF
        have hP9 : va_P D vwCl [(aP, .inr (1, [.ref aPc, .int vpl])), (aPc, .inl (cyI, 80, .inl vpp)), (aR, .inr (2, [.ref aP, .ref aRn, .int vra', .int vrk', .int vrt'])), (aRn, .inl (cyI, 40, .inl vrn'))] H := by rw [← e1, ← e2, ← e3, ← e4]; exact hP
        exact W.zret hx hb hr rfl (fun t ht hW => ⟨⟨_, (), rfl, e0, x_ret hP9 ht⟩, hS.F ht⟩) hS.2.2 dX2_readOrder_267
      · have hF := k_if_f hF hc
        refine lv_aload_n hx hb dX2_readOrder_223 rfl (lv_at hl 0 rfl) ?_
        obtain ⟨r224, vra_224, vrt_224, vrn_224, hC, hF⟩ := k_c4_ex hF
        refine x_VM (As := []) (rest := []) ⟨hx, hb, hml, hown, hts⟩ (c_X2_readNumber l D cyI cyZ aP aPc aR aRn H.size N vpl vpp (0 : Int32) r14 vrt_217 vrn hC) (cwV 0 hts gX2_readOrder_X2_readNumber rfl rfl rfl (by decide +kernel) ⟨Nat.le_of_ble_eq_true rfl, Nat.le_of_ble_eq_true rfl⟩) hK hP hD hS hA [0, 1, 2, 3] rfl rfl rfl 2 rfl rfl rfl rfl hl.1 rfl (Nat.le_of_ble_eq_true rfl) ⟨Nat.zero_le _, Nat.zero_le _⟩ dX2_readOrder_224 (fun H locs hP hD hS => ?_)
        have hP : va_P D vwCl [(aP, .inr (1, [.ref aPc, .int vpl])), (aPc, .inl (cyI, 80, .inl vpp)), (aR, .inr (2, [.ref aP, .ref aRn, .int vra_224, .int r14, .int vrt_224])), (aRn, .inl (cyI, 40, .inl vrn_224))] H := hP
        have hD : va_D A [(aP, .inr (1, [.ref aPc, .int vpl])), (aPc, .inl (cyI, 80, .inl vpp)), (aR, .inr (2, [.ref aP, .ref aRn, .int vra_224, .int r14, .int vrt_224])), (aRn, .inl (cyI, 40, .inl vrn_224))] := hD
        refine lv_if_eq (tgt := 266) hx hb dX2_readOrder_227 (by decide) (fun hc => ?_) (fun hc => ?_)
        · have hF := k_if_t hF hc
          refine lv_iconst (v := (0 : Int32)) hx hb dX2_readOrder_266 (by decide) ?_
          obtain ⟨e0, e1, e2, e3, e4⟩ := k_inj5 hF
          have hP9 : va_P D vwCl [(aP, .inr (1, [.ref aPc, .int vpl])), (aPc, .inl (cyI, 80, .inl vpp)), (aR, .inr (2, [.ref aP, .ref aRn, .int vra', .int vrk', .int vrt'])), (aRn, .inl (cyI, 40, .inl vrn'))] H := by rw [← e1, ← e2, ← e3, ← e4]; exact hP
          exact W.zret hx hb hr rfl (fun t ht hW => ⟨⟨_, (), rfl, e0, x_ret hP9 ht⟩, hS.F ht⟩) hS.2.2 dX2_readOrder_267
        · have hF := k_if_f hF hc
          refine lv_aload_n hx hb dX2_readOrder_230 rfl (lv_at hl 0 rfl) ?_
          refine lv_bipush (v := (46 : Int32)) hx hb dX2_readOrder_231 (by decide) ?_
          obtain ⟨r233, vrt_233, hC, hF⟩ := k_c2_ex hF
          refine x_VM (As := [.int (46 : Int32)]) (rest := []) ⟨hx, hb, hml, hown, hts⟩ (c_X2_skip l D cyI cyZ aP aPc aR aRn H.size N (46 : Int32) vpl vpp vra_224 r14 vrt_224 hC) (cwV 1 hts gX2_readOrder_X2_skip rfl rfl rfl (by decide +kernel) ⟨Nat.le_of_ble_eq_true rfl, Nat.le_of_ble_eq_true rfl⟩) hK hP hD hS hA [0, 1, 2] rfl rfl rfl 2 rfl rfl rfl rfl hl.1 rfl (Nat.le_of_ble_eq_true rfl) ⟨Nat.zero_le _, Nat.zero_le _⟩ dX2_readOrder_233 (fun H locs hP hD hS => ?_)
          have hP : va_P D vwCl [(aP, .inr (1, [.ref aPc, .int vpl])), (aPc, .inl (cyI, 80, .inl vpp)), (aR, .inr (2, [.ref aP, .ref aRn, .int vra_224, .int r14, .int vrt_233])), (aRn, .inl (cyI, 40, .inl vrn_224))] H := hP
          have hD : va_D A [(aP, .inr (1, [.ref aPc, .int vpl])), (aPc, .inl (cyI, 80, .inl vpp)), (aR, .inr (2, [.ref aP, .ref aRn, .int vra_224, .int r14, .int vrt_233])), (aRn, .inl (cyI, 40, .inl vrn_224))] := hD
          refine lv_if_eq (tgt := 266) hx hb dX2_readOrder_236 (by decide) (fun hc => ?_) (fun hc => ?_)
          · have hF := k_if_t hF hc
            refine lv_iconst (v := (0 : Int32)) hx hb dX2_readOrder_266 (by decide) ?_
            obtain ⟨e0, e1, e2, e3, e4⟩ := k_inj5 hF
            have hP9 : va_P D vwCl [(aP, .inr (1, [.ref aPc, .int vpl])), (aPc, .inl (cyI, 80, .inl vpp)), (aR, .inr (2, [.ref aP, .ref aRn, .int vra', .int vrk', .int vrt'])), (aRn, .inl (cyI, 40, .inl vrn'))] H := by rw [← e1, ← e2, ← e3, ← e4]; exact hP
            exact W.zret hx hb hr rfl (fun t ht hW => ⟨⟨_, (), rfl, e0, x_ret hP9 ht⟩, hS.F ht⟩) hS.2.2 dX2_readOrder_267
          · have hF := k_if_f hF hc
            refine lv_aload_n hx hb dX2_readOrder_239 rfl (lv_at hl 0 rfl) ?_
            obtain ⟨r240, vra_240, vrt_240, vrn_240, hC, hF⟩ := k_c4_ex hF
            refine x_VM (As := []) (rest := []) ⟨hx, hb, hml, hown, hts⟩ (c_X2_readNumber l D cyI cyZ aP aPc aR aRn H.size N vpl vpp vra_224 r14 vrt_233 vrn_224 hC) (cwV 0 hts gX2_readOrder_X2_readNumber rfl rfl rfl (by decide +kernel) ⟨Nat.le_of_ble_eq_true rfl, Nat.le_of_ble_eq_true rfl⟩) hK hP hD hS hA [0, 1, 2, 3] rfl rfl rfl 2 rfl rfl rfl rfl hl.1 rfl (Nat.le_of_ble_eq_true rfl) ⟨Nat.zero_le _, Nat.zero_le _⟩ dX2_readOrder_240 (fun H locs hP hD hS => ?_)
            have hP : va_P D vwCl [(aP, .inr (1, [.ref aPc, .int vpl])), (aPc, .inl (cyI, 80, .inl vpp)), (aR, .inr (2, [.ref aP, .ref aRn, .int vra_240, .int r14, .int vrt_240])), (aRn, .inl (cyI, 40, .inl vrn_240))] H := hP
            have hD : va_D A [(aP, .inr (1, [.ref aPc, .int vpl])), (aPc, .inl (cyI, 80, .inl vpp)), (aR, .inr (2, [.ref aP, .ref aRn, .int vra_240, .int r14, .int vrt_240])), (aRn, .inl (cyI, 40, .inl vrn_240))] := hD
            refine lv_if_eq (tgt := 266) hx hb dX2_readOrder_243 (by decide) (fun hc => ?_) (fun hc => ?_)
            · have hF := k_if_t hF hc
              refine lv_iconst (v := (0 : Int32)) hx hb dX2_readOrder_266 (by decide) ?_
              obtain ⟨e0, e1, e2, e3, e4⟩ := k_inj5 hF
              have hP9 : va_P D vwCl [(aP, .inr (1, [.ref aPc, .int vpl])), (aPc, .inl (cyI, 80, .inl vpp)), (aR, .inr (2, [.ref aP, .ref aRn, .int vra', .int vrk', .int vrt'])), (aRn, .inl (cyI, 40, .inl vrn'))] H := by rw [← e1, ← e2, ← e3, ← e4]; exact hP
              exact W.zret hx hb hr rfl (fun t ht hW => ⟨⟨_, (), rfl, e0, x_ret hP9 ht⟩, hS.F ht⟩) hS.2.2 dX2_readOrder_267
            · have hF := k_if_f hF hc
              refine lv_aload_n hx hb dX2_readOrder_246 rfl (lv_at hl 0 rfl) ?_
              refine lv_bipush (v := (61 : Int32)) hx hb dX2_readOrder_247 (by decide) ?_
              obtain ⟨r249, vrt_249, hC, hF⟩ := k_c2_ex hF
              refine x_VM (As := [.int (61 : Int32)]) (rest := []) ⟨hx, hb, hml, hown, hts⟩ (c_X2_skip l D cyI cyZ aP aPc aR aRn H.size N (61 : Int32) vpl vpp vra_240 r14 vrt_240 hC) (cwV 1 hts gX2_readOrder_X2_skip rfl rfl rfl (by decide +kernel) ⟨Nat.le_of_ble_eq_true rfl, Nat.le_of_ble_eq_true rfl⟩) hK hP hD hS hA [0, 1, 2] rfl rfl rfl 2 rfl rfl rfl rfl hl.1 rfl (Nat.le_of_ble_eq_true rfl) ⟨Nat.zero_le _, Nat.zero_le _⟩ dX2_readOrder_249 (fun H locs hP hD hS => ?_)
              have hP : va_P D vwCl [(aP, .inr (1, [.ref aPc, .int vpl])), (aPc, .inl (cyI, 80, .inl vpp)), (aR, .inr (2, [.ref aP, .ref aRn, .int vra_240, .int r14, .int vrt_249])), (aRn, .inl (cyI, 40, .inl vrn_240))] H := hP
              have hD : va_D A [(aP, .inr (1, [.ref aPc, .int vpl])), (aPc, .inl (cyI, 80, .inl vpp)), (aR, .inr (2, [.ref aP, .ref aRn, .int vra_240, .int r14, .int vrt_249])), (aRn, .inl (cyI, 40, .inl vrn_240))] := hD
              refine lv_if_eq (tgt := 266) hx hb dX2_readOrder_252 (by decide) (fun hc => ?_) (fun hc => ?_)
              · have hF := k_if_t hF hc
                refine lv_iconst (v := (0 : Int32)) hx hb dX2_readOrder_266 (by decide) ?_
                obtain ⟨e0, e1, e2, e3, e4⟩ := k_inj5 hF
                have hP9 : va_P D vwCl [(aP, .inr (1, [.ref aPc, .int vpl])), (aPc, .inl (cyI, 80, .inl vpp)), (aR, .inr (2, [.ref aP, .ref aRn, .int vra', .int vrk', .int vrt'])), (aRn, .inl (cyI, 40, .inl vrn'))] H := by rw [← e1, ← e2, ← e3, ← e4]; exact hP
                exact W.zret hx hb hr rfl (fun t ht hW => ⟨⟨_, (), rfl, e0, x_ret hP9 ht⟩, hS.F ht⟩) hS.2.2 dX2_readOrder_267
              · have hF := k_if_f hF hc
                refine lv_aload_n hx hb dX2_readOrder_255 rfl (lv_at hl 0 rfl) ?_
                obtain ⟨r256, vra_256, vrt_256, vrn_256, hC, hF⟩ := k_c4_ex hF
                refine x_VM (As := []) (rest := []) ⟨hx, hb, hml, hown, hts⟩ (c_X2_readValue l D cyI cyZ aP aPc aR aRn H.size N vpl vpp vra_240 r14 vrt_249 vrn_240 hC) (cwV 0 hts gX2_readOrder_X2_readValue rfl rfl rfl (by decide +kernel) ⟨Nat.le_of_ble_eq_true rfl, Nat.le_of_ble_eq_true rfl⟩) hK hP hD hS hA [0, 1, 2, 3] rfl rfl rfl 2 rfl rfl rfl rfl hl.1 rfl (Nat.le_of_ble_eq_true rfl) ⟨Nat.zero_le _, Nat.zero_le _⟩ dX2_readOrder_256 (fun H locs hP hD hS => ?_)
                have hP : va_P D vwCl [(aP, .inr (1, [.ref aPc, .int vpl])), (aPc, .inl (cyI, 80, .inl vpp)), (aR, .inr (2, [.ref aP, .ref aRn, .int vra_256, .int r14, .int vrt_256])), (aRn, .inl (cyI, 40, .inl vrn_256))] H := hP
                have hD : va_D A [(aP, .inr (1, [.ref aPc, .int vpl])), (aPc, .inl (cyI, 80, .inl vpp)), (aR, .inr (2, [.ref aP, .ref aRn, .int vra_256, .int r14, .int vrt_256])), (aRn, .inl (cyI, 40, .inl vrn_256))] := hD
                refine lv_if_eq (tgt := 266) hx hb dX2_readOrder_259 (by decide) (fun hc => ?_) (fun hc => ?_)
                · have hF := k_if_t hF hc
                  refine lv_iconst (v := (0 : Int32)) hx hb dX2_readOrder_266 (by decide) ?_
                  obtain ⟨e0, e1, e2, e3, e4⟩ := k_inj5 hF
                  have hP9 : va_P D vwCl [(aP, .inr (1, [.ref aPc, .int vpl])), (aPc, .inl (cyI, 80, .inl vpp)), (aR, .inr (2, [.ref aP, .ref aRn, .int vra', .int vrk', .int vrt'])), (aRn, .inl (cyI, 40, .inl vrn'))] H := by rw [← e1, ← e2, ← e3, ← e4]; exact hP
                  exact W.zret hx hb hr rfl (fun t ht hW => ⟨⟨_, (), rfl, e0, x_ret hP9 ht⟩, hS.F ht⟩) hS.2.2 dX2_readOrder_267
                · have hF := k_if_f hF hc
                  refine lv_iconst (v := (1 : Int32)) hx hb dX2_readOrder_262 (by decide) ?_
                  refine lv_goto (tgt := 267) hx hb dX2_readOrder_263 (by decide) ?_
                  obtain ⟨e0, e1, e2, e3, e4⟩ := k_inj5 hF
                  have hP9 : va_P D vwCl [(aP, .inr (1, [.ref aPc, .int vpl])), (aPc, .inl (cyI, 80, .inl vpp)), (aR, .inr (2, [.ref aP, .ref aRn, .int vra', .int vrk', .int vrt'])), (aRn, .inl (cyI, 40, .inl vrn'))] H := by rw [← e1, ← e2, ← e3, ← e4]; exact hP
                  exact W.zret hx hb hr rfl (fun t ht hW => ⟨⟨_, (), rfl, e0, x_ret hP9 ht⟩, hS.F ht⟩) hS.2.2 dX2_readOrder_267
    · have hF := k_if_f hF h102
      by_cases h109 : r14 = (109 : Int32)
      · have hF := k_if_t hF h109
        refine lv_lookup (tgt := 192) (off := 168) hx hb dX2_readOrder_24 (by decide) (by rw [h109]; decide) (by decide) ?_
        refine lv_aload_n hx hb dX2_readOrder_192 rfl (lv_at hl 0 rfl) ?_
        refine lv_bipush (v := (109 : Int32)) hx hb dX2_readOrder_193 (by decide) ?_
        obtain ⟨r195, vrt_195, hC, hF⟩ := k_c2_ex hF
        refine x_VM (As := [.int (109 : Int32)]) (rest := []) ⟨hx, hb, hml, hown, hts⟩ (c_X2_skip l D cyI cyZ aP aPc aR aRn H.size N (109 : Int32) vpl vpp (0 : Int32) r14 vrt hC) (cwV 1 hts gX2_readOrder_X2_skip rfl rfl rfl (by decide +kernel) ⟨Nat.le_of_ble_eq_true rfl, Nat.le_of_ble_eq_true rfl⟩) hK hP hD hS hA [0, 1, 2] rfl rfl rfl 2 rfl rfl rfl rfl hl.1 rfl (Nat.le_of_ble_eq_true rfl) ⟨Nat.zero_le _, Nat.zero_le _⟩ dX2_readOrder_195 (fun H locs hP hD hS => ?_)
        have hP : va_P D vwCl [(aP, .inr (1, [.ref aPc, .int vpl])), (aPc, .inl (cyI, 80, .inl vpp)), (aR, .inr (2, [.ref aP, .ref aRn, .int (0 : Int32), .int r14, .int vrt_195])), (aRn, .inl (cyI, 40, .inl vrn))] H := hP
        have hD : va_D A [(aP, .inr (1, [.ref aPc, .int vpl])), (aPc, .inl (cyI, 80, .inl vpp)), (aR, .inr (2, [.ref aP, .ref aRn, .int (0 : Int32), .int r14, .int vrt_195])), (aRn, .inl (cyI, 40, .inl vrn))] := hD
        refine lv_if_eq (tgt := 212) hx hb dX2_readOrder_198 (by decide) (fun hc => ?_) (fun hc => ?_)
        · have hF := k_if_t hF hc
          refine lv_iconst (v := (0 : Int32)) hx hb dX2_readOrder_212 (by decide) ?_
          obtain ⟨e0, e1, e2, e3, e4⟩ := k_inj5 hF
          have hP9 : va_P D vwCl [(aP, .inr (1, [.ref aPc, .int vpl])), (aPc, .inl (cyI, 80, .inl vpp)), (aR, .inr (2, [.ref aP, .ref aRn, .int vra', .int vrk', .int vrt'])), (aRn, .inl (cyI, 40, .inl vrn'))] H := by rw [← e1, ← e2, ← e3, ← e4]; exact hP
          exact W.zret hx hb hr rfl (fun t ht hW => ⟨⟨_, (), rfl, e0, x_ret hP9 ht⟩, hS.F ht⟩) hS.2.2 dX2_readOrder_213
        · have hF := k_if_f hF hc
          refine lv_aload_n hx hb dX2_readOrder_201 rfl (lv_at hl 0 rfl) ?_
          obtain ⟨r202, vra_202, vrt_202, vrn_202, hC, hF⟩ := k_c4_ex hF
          refine x_VM (As := []) (rest := []) ⟨hx, hb, hml, hown, hts⟩ (c_X2_readNumber l D cyI cyZ aP aPc aR aRn H.size N vpl vpp (0 : Int32) r14 vrt_195 vrn hC) (cwV 0 hts gX2_readOrder_X2_readNumber rfl rfl rfl (by decide +kernel) ⟨Nat.le_of_ble_eq_true rfl, Nat.le_of_ble_eq_true rfl⟩) hK hP hD hS hA [0, 1, 2, 3] rfl rfl rfl 2 rfl rfl rfl rfl hl.1 rfl (Nat.le_of_ble_eq_true rfl) ⟨Nat.zero_le _, Nat.zero_le _⟩ dX2_readOrder_202 (fun H locs hP hD hS => ?_)
          have hP : va_P D vwCl [(aP, .inr (1, [.ref aPc, .int vpl])), (aPc, .inl (cyI, 80, .inl vpp)), (aR, .inr (2, [.ref aP, .ref aRn, .int vra_202, .int r14, .int vrt_202])), (aRn, .inl (cyI, 40, .inl vrn_202))] H := hP
          have hD : va_D A [(aP, .inr (1, [.ref aPc, .int vpl])), (aPc, .inl (cyI, 80, .inl vpp)), (aR, .inr (2, [.ref aP, .ref aRn, .int vra_202, .int r14, .int vrt_202])), (aRn, .inl (cyI, 40, .inl vrn_202))] := hD
          refine lv_if_eq (tgt := 212) hx hb dX2_readOrder_205 (by decide) (fun hc => ?_) (fun hc => ?_)
          · have hF := k_if_t hF hc
            refine lv_iconst (v := (0 : Int32)) hx hb dX2_readOrder_212 (by decide) ?_
            obtain ⟨e0, e1, e2, e3, e4⟩ := k_inj5 hF
            have hP9 : va_P D vwCl [(aP, .inr (1, [.ref aPc, .int vpl])), (aPc, .inl (cyI, 80, .inl vpp)), (aR, .inr (2, [.ref aP, .ref aRn, .int vra', .int vrk', .int vrt'])), (aRn, .inl (cyI, 40, .inl vrn'))] H := by rw [← e1, ← e2, ← e3, ← e4]; exact hP
            exact W.zret hx hb hr rfl (fun t ht hW => ⟨⟨_, (), rfl, e0, x_ret hP9 ht⟩, hS.F ht⟩) hS.2.2 dX2_readOrder_213
          · have hF := k_if_f hF hc
            refine lv_iconst (v := (1 : Int32)) hx hb dX2_readOrder_208 (by decide) ?_
            refine lv_goto (tgt := 213) hx hb dX2_readOrder_209 (by decide) ?_
            obtain ⟨e0, e1, e2, e3, e4⟩ := k_inj5 hF
            have hP9 : va_P D vwCl [(aP, .inr (1, [.ref aPc, .int vpl])), (aPc, .inl (cyI, 80, .inl vpp)), (aR, .inr (2, [.ref aP, .ref aRn, .int vra', .int vrk', .int vrt'])), (aRn, .inl (cyI, 40, .inl vrn'))] H := by rw [← e1, ← e2, ← e3, ← e4]; exact hP
            exact W.zret hx hb hr rfl (fun t ht hW => ⟨⟨_, (), rfl, e0, x_ret hP9 ht⟩, hS.F ht⟩) hS.2.2 dX2_readOrder_213
      · have hF := k_if_f hF h109
        by_cases h114 : r14 = (114 : Int32)
        · have hF := k_if_t hF h114
          refine lv_lookup (tgt := 90) (off := 66) hx hb dX2_readOrder_24 (by decide) (by rw [h114]; decide) (by decide) ?_
          refine lv_aload_n hx hb dX2_readOrder_90 rfl (lv_at hl 0 rfl) ?_
          refine lv_bipush (v := (114 : Int32)) hx hb dX2_readOrder_91 (by decide) ?_
          obtain ⟨r93, vrt_93, hC, hF⟩ := k_c2_ex hF
          refine x_VM (As := [.int (114 : Int32)]) (rest := []) ⟨hx, hb, hml, hown, hts⟩ (c_X2_skip l D cyI cyZ aP aPc aR aRn H.size N (114 : Int32) vpl vpp (0 : Int32) r14 vrt hC) (cwV 1 hts gX2_readOrder_X2_skip rfl rfl rfl (by decide +kernel) ⟨Nat.le_of_ble_eq_true rfl, Nat.le_of_ble_eq_true rfl⟩) hK hP hD hS hA [0, 1, 2] rfl rfl rfl 2 rfl rfl rfl rfl hl.1 rfl (Nat.le_of_ble_eq_true rfl) ⟨Nat.zero_le _, Nat.zero_le _⟩ dX2_readOrder_93 (fun H locs hP hD hS => ?_)
          have hP : va_P D vwCl [(aP, .inr (1, [.ref aPc, .int vpl])), (aPc, .inl (cyI, 80, .inl vpp)), (aR, .inr (2, [.ref aP, .ref aRn, .int (0 : Int32), .int r14, .int vrt_93])), (aRn, .inl (cyI, 40, .inl vrn))] H := hP
          have hD : va_D A [(aP, .inr (1, [.ref aPc, .int vpl])), (aPc, .inl (cyI, 80, .inl vpp)), (aR, .inr (2, [.ref aP, .ref aRn, .int (0 : Int32), .int r14, .int vrt_93])), (aRn, .inl (cyI, 40, .inl vrn))] := hD
          refine lv_if_eq (tgt := 190) hx hb dX2_readOrder_96 (by decide) (fun hc => ?_) (fun hc => ?_)
          · have hF := k_if_t hF hc
            refine lv_iconst (v := (0 : Int32)) hx hb dX2_readOrder_190 (by decide) ?_
            obtain ⟨e0, e1, e2, e3, e4⟩ := k_inj5 hF
            have hP9 : va_P D vwCl [(aP, .inr (1, [.ref aPc, .int vpl])), (aPc, .inl (cyI, 80, .inl vpp)), (aR, .inr (2, [.ref aP, .ref aRn, .int vra', .int vrk', .int vrt'])), (aRn, .inl (cyI, 40, .inl vrn'))] H := by rw [← e1, ← e2, ← e3, ← e4]; exact hP
            exact W.zret hx hb hr rfl (fun t ht hW => ⟨⟨_, (), rfl, e0, x_ret hP9 ht⟩, hS.F ht⟩) hS.2.2 dX2_readOrder_191
          · have hF := k_if_f hF hc
            refine lv_aload_n hx hb dX2_readOrder_99 rfl (lv_at hl 0 rfl) ?_
            obtain ⟨r100, vra_100, vrt_100, vrn_100, hC, hF⟩ := k_c4_ex hF
            refine x_VM (As := []) (rest := []) ⟨hx, hb, hml, hown, hts⟩ (c_X2_readNumber l D cyI cyZ aP aPc aR aRn H.size N vpl vpp (0 : Int32) r14 vrt_93 vrn hC) (cwV 0 hts gX2_readOrder_X2_readNumber rfl rfl rfl (by decide +kernel) ⟨Nat.le_of_ble_eq_true rfl, Nat.le_of_ble_eq_true rfl⟩) hK hP hD hS hA [0, 1, 2, 3] rfl rfl rfl 2 rfl rfl rfl rfl hl.1 rfl (Nat.le_of_ble_eq_true rfl) ⟨Nat.zero_le _, Nat.zero_le _⟩ dX2_readOrder_100 (fun H locs hP hD hS => ?_)
            have hP : va_P D vwCl [(aP, .inr (1, [.ref aPc, .int vpl])), (aPc, .inl (cyI, 80, .inl vpp)), (aR, .inr (2, [.ref aP, .ref aRn, .int vra_100, .int r14, .int vrt_100])), (aRn, .inl (cyI, 40, .inl vrn_100))] H := hP
            have hD : va_D A [(aP, .inr (1, [.ref aPc, .int vpl])), (aPc, .inl (cyI, 80, .inl vpp)), (aR, .inr (2, [.ref aP, .ref aRn, .int vra_100, .int r14, .int vrt_100])), (aRn, .inl (cyI, 40, .inl vrn_100))] := hD
            refine lv_if_eq (tgt := 190) hx hb dX2_readOrder_103 (by decide) (fun hc => ?_) (fun hc => ?_)
            · have hF := k_if_t hF hc
              refine lv_iconst (v := (0 : Int32)) hx hb dX2_readOrder_190 (by decide) ?_
              obtain ⟨e0, e1, e2, e3, e4⟩ := k_inj5 hF
              have hP9 : va_P D vwCl [(aP, .inr (1, [.ref aPc, .int vpl])), (aPc, .inl (cyI, 80, .inl vpp)), (aR, .inr (2, [.ref aP, .ref aRn, .int vra', .int vrk', .int vrt'])), (aRn, .inl (cyI, 40, .inl vrn'))] H := by rw [← e1, ← e2, ← e3, ← e4]; exact hP
              exact W.zret hx hb hr rfl (fun t ht hW => ⟨⟨_, (), rfl, e0, x_ret hP9 ht⟩, hS.F ht⟩) hS.2.2 dX2_readOrder_191
            · have hF := k_if_f hF hc
              refine lv_aload_n hx hb dX2_readOrder_106 rfl (lv_at hl 0 rfl) ?_
              refine lv_bipush (v := (47 : Int32)) hx hb dX2_readOrder_107 (by decide) ?_
              obtain ⟨r109, vrt_109, hC, hF⟩ := k_c2_ex hF
              refine x_VM (As := [.int (47 : Int32)]) (rest := []) ⟨hx, hb, hml, hown, hts⟩ (c_X2_skip l D cyI cyZ aP aPc aR aRn H.size N (47 : Int32) vpl vpp vra_100 r14 vrt_100 hC) (cwV 1 hts gX2_readOrder_X2_skip rfl rfl rfl (by decide +kernel) ⟨Nat.le_of_ble_eq_true rfl, Nat.le_of_ble_eq_true rfl⟩) hK hP hD hS hA [0, 1, 2] rfl rfl rfl 2 rfl rfl rfl rfl hl.1 rfl (Nat.le_of_ble_eq_true rfl) ⟨Nat.zero_le _, Nat.zero_le _⟩ dX2_readOrder_109 (fun H locs hP hD hS => ?_)
              have hP : va_P D vwCl [(aP, .inr (1, [.ref aPc, .int vpl])), (aPc, .inl (cyI, 80, .inl vpp)), (aR, .inr (2, [.ref aP, .ref aRn, .int vra_100, .int r14, .int vrt_109])), (aRn, .inl (cyI, 40, .inl vrn_100))] H := hP
              have hD : va_D A [(aP, .inr (1, [.ref aPc, .int vpl])), (aPc, .inl (cyI, 80, .inl vpp)), (aR, .inr (2, [.ref aP, .ref aRn, .int vra_100, .int r14, .int vrt_109])), (aRn, .inl (cyI, 40, .inl vrn_100))] := hD
              refine lv_if_eq (tgt := 190) hx hb dX2_readOrder_112 (by decide) (fun hc => ?_) (fun hc => ?_)
              · have hF := k_if_t hF hc
                refine lv_iconst (v := (0 : Int32)) hx hb dX2_readOrder_190 (by decide) ?_
                obtain ⟨e0, e1, e2, e3, e4⟩ := k_inj5 hF
                have hP9 : va_P D vwCl [(aP, .inr (1, [.ref aPc, .int vpl])), (aPc, .inl (cyI, 80, .inl vpp)), (aR, .inr (2, [.ref aP, .ref aRn, .int vra', .int vrk', .int vrt'])), (aRn, .inl (cyI, 40, .inl vrn'))] H := by rw [← e1, ← e2, ← e3, ← e4]; exact hP
                exact W.zret hx hb hr rfl (fun t ht hW => ⟨⟨_, (), rfl, e0, x_ret hP9 ht⟩, hS.F ht⟩) hS.2.2 dX2_readOrder_191
              · have hF := k_if_f hF hc
                refine lv_aload_n hx hb dX2_readOrder_115 rfl (lv_at hl 0 rfl) ?_
                obtain ⟨r116, vra_116, vrt_116, vrn_116, hC, hF⟩ := k_c4_ex hF
                refine x_VM (As := []) (rest := []) ⟨hx, hb, hml, hown, hts⟩ (c_X2_readNumber l D cyI cyZ aP aPc aR aRn H.size N vpl vpp vra_100 r14 vrt_109 vrn_100 hC) (cwV 0 hts gX2_readOrder_X2_readNumber rfl rfl rfl (by decide +kernel) ⟨Nat.le_of_ble_eq_true rfl, Nat.le_of_ble_eq_true rfl⟩) hK hP hD hS hA [0, 1, 2, 3] rfl rfl rfl 2 rfl rfl rfl rfl hl.1 rfl (Nat.le_of_ble_eq_true rfl) ⟨Nat.zero_le _, Nat.zero_le _⟩ dX2_readOrder_116 (fun H locs hP hD hS => ?_)
                have hP : va_P D vwCl [(aP, .inr (1, [.ref aPc, .int vpl])), (aPc, .inl (cyI, 80, .inl vpp)), (aR, .inr (2, [.ref aP, .ref aRn, .int vra_116, .int r14, .int vrt_116])), (aRn, .inl (cyI, 40, .inl vrn_116))] H := hP
                have hD : va_D A [(aP, .inr (1, [.ref aPc, .int vpl])), (aPc, .inl (cyI, 80, .inl vpp)), (aR, .inr (2, [.ref aP, .ref aRn, .int vra_116, .int r14, .int vrt_116])), (aRn, .inl (cyI, 40, .inl vrn_116))] := hD
                refine lv_if_eq (tgt := 190) hx hb dX2_readOrder_119 (by decide) (fun hc => ?_) (fun hc => ?_)
                · have hF := k_if_t hF hc
                  refine lv_iconst (v := (0 : Int32)) hx hb dX2_readOrder_190 (by decide) ?_
                  obtain ⟨e0, e1, e2, e3, e4⟩ := k_inj5 hF
                  have hP9 : va_P D vwCl [(aP, .inr (1, [.ref aPc, .int vpl])), (aPc, .inl (cyI, 80, .inl vpp)), (aR, .inr (2, [.ref aP, .ref aRn, .int vra', .int vrk', .int vrt'])), (aRn, .inl (cyI, 40, .inl vrn'))] H := by rw [← e1, ← e2, ← e3, ← e4]; exact hP
                  exact W.zret hx hb hr rfl (fun t ht hW => ⟨⟨_, (), rfl, e0, x_ret hP9 ht⟩, hS.F ht⟩) hS.2.2 dX2_readOrder_191
                · have hF := k_if_f hF hc
                  refine lv_aload_n hx hb dX2_readOrder_122 rfl (lv_at hl 0 rfl) ?_
                  refine lv_bipush (v := (64 : Int32)) hx hb dX2_readOrder_123 (by decide) ?_
                  obtain ⟨r125, vrt_125, hC, hF⟩ := k_c2_ex hF
                  refine x_VM (As := [.int (64 : Int32)]) (rest := []) ⟨hx, hb, hml, hown, hts⟩ (c_X2_skip l D cyI cyZ aP aPc aR aRn H.size N (64 : Int32) vpl vpp vra_116 r14 vrt_116 hC) (cwV 1 hts gX2_readOrder_X2_skip rfl rfl rfl (by decide +kernel) ⟨Nat.le_of_ble_eq_true rfl, Nat.le_of_ble_eq_true rfl⟩) hK hP hD hS hA [0, 1, 2] rfl rfl rfl 2 rfl rfl rfl rfl hl.1 rfl (Nat.le_of_ble_eq_true rfl) ⟨Nat.zero_le _, Nat.zero_le _⟩ dX2_readOrder_125 (fun H locs hP hD hS => ?_)
                  have hP : va_P D vwCl [(aP, .inr (1, [.ref aPc, .int vpl])), (aPc, .inl (cyI, 80, .inl vpp)), (aR, .inr (2, [.ref aP, .ref aRn, .int vra_116, .int r14, .int vrt_125])), (aRn, .inl (cyI, 40, .inl vrn_116))] H := hP
                  have hD : va_D A [(aP, .inr (1, [.ref aPc, .int vpl])), (aPc, .inl (cyI, 80, .inl vpp)), (aR, .inr (2, [.ref aP, .ref aRn, .int vra_116, .int r14, .int vrt_125])), (aRn, .inl (cyI, 40, .inl vrn_116))] := hD
                  refine lv_if_eq (tgt := 190) hx hb dX2_readOrder_128 (by decide) (fun hc => ?_) (fun hc => ?_)
                  · have hF := k_if_t hF hc
                    refine lv_iconst (v := (0 : Int32)) hx hb dX2_readOrder_190 (by decide) ?_
                    obtain ⟨e0, e1, e2, e3, e4⟩ := k_inj5 hF
                    have hP9 : va_P D vwCl [(aP, .inr (1, [.ref aPc, .int vpl])), (aPc, .inl (cyI, 80, .inl vpp)), (aR, .inr (2, [.ref aP, .ref aRn, .int vra', .int vrk', .int vrt'])), (aRn, .inl (cyI, 40, .inl vrn'))] H := by rw [← e1, ← e2, ← e3, ← e4]; exact hP
                    exact W.zret hx hb hr rfl (fun t ht hW => ⟨⟨_, (), rfl, e0, x_ret hP9 ht⟩, hS.F ht⟩) hS.2.2 dX2_readOrder_191
                  · have hF := k_if_f hF hc
                    refine lv_aload_n hx hb dX2_readOrder_131 rfl (lv_at hl 0 rfl) ?_
                    obtain ⟨r132, vra_132, vrt_132, vrn_132, hC, hF⟩ := k_c4_ex hF
                    refine x_VM (As := []) (rest := []) ⟨hx, hb, hml, hown, hts⟩ (c_X2_readNumber l D cyI cyZ aP aPc aR aRn H.size N vpl vpp vra_116 r14 vrt_125 vrn_116 hC) (cwV 0 hts gX2_readOrder_X2_readNumber rfl rfl rfl (by decide +kernel) ⟨Nat.le_of_ble_eq_true rfl, Nat.le_of_ble_eq_true rfl⟩) hK hP hD hS hA [0, 1, 2, 3] rfl rfl rfl 2 rfl rfl rfl rfl hl.1 rfl (Nat.le_of_ble_eq_true rfl) ⟨Nat.zero_le _, Nat.zero_le _⟩ dX2_readOrder_132 (fun H locs hP hD hS => ?_)
                    have hP : va_P D vwCl [(aP, .inr (1, [.ref aPc, .int vpl])), (aPc, .inl (cyI, 80, .inl vpp)), (aR, .inr (2, [.ref aP, .ref aRn, .int vra_132, .int r14, .int vrt_132])), (aRn, .inl (cyI, 40, .inl vrn_132))] H := hP
                    have hD : va_D A [(aP, .inr (1, [.ref aPc, .int vpl])), (aPc, .inl (cyI, 80, .inl vpp)), (aR, .inr (2, [.ref aP, .ref aRn, .int vra_132, .int r14, .int vrt_132])), (aRn, .inl (cyI, 40, .inl vrn_132))] := hD
                    refine lv_if_eq (tgt := 190) hx hb dX2_readOrder_135 (by decide) (fun hc => ?_) (fun hc => ?_)
                    · have hF := k_if_t hF hc
                      refine lv_iconst (v := (0 : Int32)) hx hb dX2_readOrder_190 (by decide) ?_
                      obtain ⟨e0, e1, e2, e3, e4⟩ := k_inj5 hF
                      have hP9 : va_P D vwCl [(aP, .inr (1, [.ref aPc, .int vpl])), (aPc, .inl (cyI, 80, .inl vpp)), (aR, .inr (2, [.ref aP, .ref aRn, .int vra', .int vrk', .int vrt'])), (aRn, .inl (cyI, 40, .inl vrn'))] H := by rw [← e1, ← e2, ← e3, ← e4]; exact hP
                      exact W.zret hx hb hr rfl (fun t ht hW => ⟨⟨_, (), rfl, e0, x_ret hP9 ht⟩, hS.F ht⟩) hS.2.2 dX2_readOrder_191
                    · have hF := k_if_f hF hc
                      refine lv_aload_n hx hb dX2_readOrder_138 rfl (lv_at hl 0 rfl) ?_
                      refine lv_bipush (v := (95 : Int32)) hx hb dX2_readOrder_139 (by decide) ?_
                      obtain ⟨r141, vrt_141, hC, hF⟩ := k_c2_ex hF
                      refine x_VM (As := [.int (95 : Int32)]) (rest := []) ⟨hx, hb, hml, hown, hts⟩ (c_X2_skip l D cyI cyZ aP aPc aR aRn H.size N (95 : Int32) vpl vpp vra_132 r14 vrt_132 hC) (cwV 1 hts gX2_readOrder_X2_skip rfl rfl rfl (by decide +kernel) ⟨Nat.le_of_ble_eq_true rfl, Nat.le_of_ble_eq_true rfl⟩) hK hP hD hS hA [0, 1, 2] rfl rfl rfl 2 rfl rfl rfl rfl hl.1 rfl (Nat.le_of_ble_eq_true rfl) ⟨Nat.zero_le _, Nat.zero_le _⟩ dX2_readOrder_141 (fun H locs hP hD hS => ?_)
                      have hP : va_P D vwCl [(aP, .inr (1, [.ref aPc, .int vpl])), (aPc, .inl (cyI, 80, .inl vpp)), (aR, .inr (2, [.ref aP, .ref aRn, .int vra_132, .int r14, .int vrt_141])), (aRn, .inl (cyI, 40, .inl vrn_132))] H := hP
                      have hD : va_D A [(aP, .inr (1, [.ref aPc, .int vpl])), (aPc, .inl (cyI, 80, .inl vpp)), (aR, .inr (2, [.ref aP, .ref aRn, .int vra_132, .int r14, .int vrt_141])), (aRn, .inl (cyI, 40, .inl vrn_132))] := hD
                      refine lv_if_eq (tgt := 190) hx hb dX2_readOrder_144 (by decide) (fun hc => ?_) (fun hc => ?_)
                      · have hF := k_if_t hF hc
                        refine lv_iconst (v := (0 : Int32)) hx hb dX2_readOrder_190 (by decide) ?_
                        obtain ⟨e0, e1, e2, e3, e4⟩ := k_inj5 hF
                        have hP9 : va_P D vwCl [(aP, .inr (1, [.ref aPc, .int vpl])), (aPc, .inl (cyI, 80, .inl vpp)), (aR, .inr (2, [.ref aP, .ref aRn, .int vra', .int vrk', .int vrt'])), (aRn, .inl (cyI, 40, .inl vrn'))] H := by rw [← e1, ← e2, ← e3, ← e4]; exact hP
                        exact W.zret hx hb hr rfl (fun t ht hW => ⟨⟨_, (), rfl, e0, x_ret hP9 ht⟩, hS.F ht⟩) hS.2.2 dX2_readOrder_191
                      · have hF := k_if_f hF hc
                        refine lv_aload_n hx hb dX2_readOrder_147 rfl (lv_at hl 0 rfl) ?_
                        obtain ⟨r148, vra_148, vrt_148, vrn_148, hC, hF⟩ := k_c4_ex hF
                        refine x_VM (As := []) (rest := []) ⟨hx, hb, hml, hown, hts⟩ (c_X2_readNumber l D cyI cyZ aP aPc aR aRn H.size N vpl vpp vra_132 r14 vrt_141 vrn_132 hC) (cwV 0 hts gX2_readOrder_X2_readNumber rfl rfl rfl (by decide +kernel) ⟨Nat.le_of_ble_eq_true rfl, Nat.le_of_ble_eq_true rfl⟩) hK hP hD hS hA [0, 1, 2, 3] rfl rfl rfl 2 rfl rfl rfl rfl hl.1 rfl (Nat.le_of_ble_eq_true rfl) ⟨Nat.zero_le _, Nat.zero_le _⟩ dX2_readOrder_148 (fun H locs hP hD hS => ?_)
                        have hP : va_P D vwCl [(aP, .inr (1, [.ref aPc, .int vpl])), (aPc, .inl (cyI, 80, .inl vpp)), (aR, .inr (2, [.ref aP, .ref aRn, .int vra_148, .int r14, .int vrt_148])), (aRn, .inl (cyI, 40, .inl vrn_148))] H := hP
                        have hD : va_D A [(aP, .inr (1, [.ref aPc, .int vpl])), (aPc, .inl (cyI, 80, .inl vpp)), (aR, .inr (2, [.ref aP, .ref aRn, .int vra_148, .int r14, .int vrt_148])), (aRn, .inl (cyI, 40, .inl vrn_148))] := hD
                        refine lv_if_eq (tgt := 190) hx hb dX2_readOrder_151 (by decide) (fun hc => ?_) (fun hc => ?_)
                        · have hF := k_if_t hF hc
                          refine lv_iconst (v := (0 : Int32)) hx hb dX2_readOrder_190 (by decide) ?_
                          obtain ⟨e0, e1, e2, e3, e4⟩ := k_inj5 hF
                          have hP9 : va_P D vwCl [(aP, .inr (1, [.ref aPc, .int vpl])), (aPc, .inl (cyI, 80, .inl vpp)), (aR, .inr (2, [.ref aP, .ref aRn, .int vra', .int vrk', .int vrt'])), (aRn, .inl (cyI, 40, .inl vrn'))] H := by rw [← e1, ← e2, ← e3, ← e4]; exact hP
                          exact W.zret hx hb hr rfl (fun t ht hW => ⟨⟨_, (), rfl, e0, x_ret hP9 ht⟩, hS.F ht⟩) hS.2.2 dX2_readOrder_191
                        · have hF := k_if_f hF hc
                          refine lv_aload_n hx hb dX2_readOrder_154 rfl (lv_at hl 0 rfl) ?_
                          refine lv_bipush (v := (58 : Int32)) hx hb dX2_readOrder_155 (by decide) ?_
                          obtain ⟨r157, vrt_157, hC, hF⟩ := k_c2_ex hF
                          refine x_VM (As := [.int (58 : Int32)]) (rest := []) ⟨hx, hb, hml, hown, hts⟩ (c_X2_skip l D cyI cyZ aP aPc aR aRn H.size N (58 : Int32) vpl vpp vra_148 r14 vrt_148 hC) (cwV 1 hts gX2_readOrder_X2_skip rfl rfl rfl (by decide +kernel) ⟨Nat.le_of_ble_eq_true rfl, Nat.le_of_ble_eq_true rfl⟩) hK hP hD hS hA [0, 1, 2] rfl rfl rfl 2 rfl rfl rfl rfl hl.1 rfl (Nat.le_of_ble_eq_true rfl) ⟨Nat.zero_le _, Nat.zero_le _⟩ dX2_readOrder_157 (fun H locs hP hD hS => ?_)
                          have hP : va_P D vwCl [(aP, .inr (1, [.ref aPc, .int vpl])), (aPc, .inl (cyI, 80, .inl vpp)), (aR, .inr (2, [.ref aP, .ref aRn, .int vra_148, .int r14, .int vrt_157])), (aRn, .inl (cyI, 40, .inl vrn_148))] H := hP
                          have hD : va_D A [(aP, .inr (1, [.ref aPc, .int vpl])), (aPc, .inl (cyI, 80, .inl vpp)), (aR, .inr (2, [.ref aP, .ref aRn, .int vra_148, .int r14, .int vrt_157])), (aRn, .inl (cyI, 40, .inl vrn_148))] := hD
                          refine lv_if_eq (tgt := 190) hx hb dX2_readOrder_160 (by decide) (fun hc => ?_) (fun hc => ?_)
                          · have hF := k_if_t hF hc
                            refine lv_iconst (v := (0 : Int32)) hx hb dX2_readOrder_190 (by decide) ?_
                            obtain ⟨e0, e1, e2, e3, e4⟩ := k_inj5 hF
                            have hP9 : va_P D vwCl [(aP, .inr (1, [.ref aPc, .int vpl])), (aPc, .inl (cyI, 80, .inl vpp)), (aR, .inr (2, [.ref aP, .ref aRn, .int vra', .int vrk', .int vrt'])), (aRn, .inl (cyI, 40, .inl vrn'))] H := by rw [← e1, ← e2, ← e3, ← e4]; exact hP
                            exact W.zret hx hb hr rfl (fun t ht hW => ⟨⟨_, (), rfl, e0, x_ret hP9 ht⟩, hS.F ht⟩) hS.2.2 dX2_readOrder_191
                          · have hF := k_if_f hF hc
                            refine lv_aload_n hx hb dX2_readOrder_163 rfl (lv_at hl 0 rfl) ?_
                            obtain ⟨r164, vra_164, vrt_164, vrn_164, hC, hF⟩ := k_c4_ex hF
                            refine x_VM (As := []) (rest := []) ⟨hx, hb, hml, hown, hts⟩ (c_X2_readNumber l D cyI cyZ aP aPc aR aRn H.size N vpl vpp vra_148 r14 vrt_157 vrn_148 hC) (cwV 0 hts gX2_readOrder_X2_readNumber rfl rfl rfl (by decide +kernel) ⟨Nat.le_of_ble_eq_true rfl, Nat.le_of_ble_eq_true rfl⟩) hK hP hD hS hA [0, 1, 2, 3] rfl rfl rfl 2 rfl rfl rfl rfl hl.1 rfl (Nat.le_of_ble_eq_true rfl) ⟨Nat.zero_le _, Nat.zero_le _⟩ dX2_readOrder_164 (fun H locs hP hD hS => ?_)
                            have hP : va_P D vwCl [(aP, .inr (1, [.ref aPc, .int vpl])), (aPc, .inl (cyI, 80, .inl vpp)), (aR, .inr (2, [.ref aP, .ref aRn, .int vra_164, .int r14, .int vrt_164])), (aRn, .inl (cyI, 40, .inl vrn_164))] H := hP
                            have hD : va_D A [(aP, .inr (1, [.ref aPc, .int vpl])), (aPc, .inl (cyI, 80, .inl vpp)), (aR, .inr (2, [.ref aP, .ref aRn, .int vra_164, .int r14, .int vrt_164])), (aRn, .inl (cyI, 40, .inl vrn_164))] := hD
                            refine lv_if_eq (tgt := 190) hx hb dX2_readOrder_167 (by decide) (fun hc => ?_) (fun hc => ?_)
                            · have hF := k_if_t hF hc
                              refine lv_iconst (v := (0 : Int32)) hx hb dX2_readOrder_190 (by decide) ?_
                              obtain ⟨e0, e1, e2, e3, e4⟩ := k_inj5 hF
                              have hP9 : va_P D vwCl [(aP, .inr (1, [.ref aPc, .int vpl])), (aPc, .inl (cyI, 80, .inl vpp)), (aR, .inr (2, [.ref aP, .ref aRn, .int vra', .int vrk', .int vrt'])), (aRn, .inl (cyI, 40, .inl vrn'))] H := by rw [← e1, ← e2, ← e3, ← e4]; exact hP
                              exact W.zret hx hb hr rfl (fun t ht hW => ⟨⟨_, (), rfl, e0, x_ret hP9 ht⟩, hS.F ht⟩) hS.2.2 dX2_readOrder_191
                            · have hF := k_if_f hF hc
                              refine lv_aload_n hx hb dX2_readOrder_170 rfl (lv_at hl 0 rfl) ?_
                              refine lv_bipush (v := (42 : Int32)) hx hb dX2_readOrder_171 (by decide) ?_
                              obtain ⟨r173, vrt_173, hC, hF⟩ := k_c2_ex hF
                              refine x_VM (As := [.int (42 : Int32)]) (rest := []) ⟨hx, hb, hml, hown, hts⟩ (c_X2_skip l D cyI cyZ aP aPc aR aRn H.size N (42 : Int32) vpl vpp vra_164 r14 vrt_164 hC) (cwV 1 hts gX2_readOrder_X2_skip rfl rfl rfl (by decide +kernel) ⟨Nat.le_of_ble_eq_true rfl, Nat.le_of_ble_eq_true rfl⟩) hK hP hD hS hA [0, 1, 2] rfl rfl rfl 2 rfl rfl rfl rfl hl.1 rfl (Nat.le_of_ble_eq_true rfl) ⟨Nat.zero_le _, Nat.zero_le _⟩ dX2_readOrder_173 (fun H locs hP hD hS => ?_)
                              have hP : va_P D vwCl [(aP, .inr (1, [.ref aPc, .int vpl])), (aPc, .inl (cyI, 80, .inl vpp)), (aR, .inr (2, [.ref aP, .ref aRn, .int vra_164, .int r14, .int vrt_173])), (aRn, .inl (cyI, 40, .inl vrn_164))] H := hP
                              have hD : va_D A [(aP, .inr (1, [.ref aPc, .int vpl])), (aPc, .inl (cyI, 80, .inl vpp)), (aR, .inr (2, [.ref aP, .ref aRn, .int vra_164, .int r14, .int vrt_173])), (aRn, .inl (cyI, 40, .inl vrn_164))] := hD
                              refine lv_if_eq (tgt := 190) hx hb dX2_readOrder_176 (by decide) (fun hc => ?_) (fun hc => ?_)
                              · have hF := k_if_t hF hc
                                refine lv_iconst (v := (0 : Int32)) hx hb dX2_readOrder_190 (by decide) ?_
                                obtain ⟨e0, e1, e2, e3, e4⟩ := k_inj5 hF
                                have hP9 : va_P D vwCl [(aP, .inr (1, [.ref aPc, .int vpl])), (aPc, .inl (cyI, 80, .inl vpp)), (aR, .inr (2, [.ref aP, .ref aRn, .int vra', .int vrk', .int vrt'])), (aRn, .inl (cyI, 40, .inl vrn'))] H := by rw [← e1, ← e2, ← e3, ← e4]; exact hP
                                exact W.zret hx hb hr rfl (fun t ht hW => ⟨⟨_, (), rfl, e0, x_ret hP9 ht⟩, hS.F ht⟩) hS.2.2 dX2_readOrder_191
                              · have hF := k_if_f hF hc
                                refine lv_aload_n hx hb dX2_readOrder_179 rfl (lv_at hl 0 rfl) ?_
                                obtain ⟨r180, vra_180, vrt_180, vrn_180, hC, hF⟩ := k_c4_ex hF
                                refine x_VM (As := []) (rest := []) ⟨hx, hb, hml, hown, hts⟩ (c_X2_readNumber l D cyI cyZ aP aPc aR aRn H.size N vpl vpp vra_164 r14 vrt_173 vrn_164 hC) (cwV 0 hts gX2_readOrder_X2_readNumber rfl rfl rfl (by decide +kernel) ⟨Nat.le_of_ble_eq_true rfl, Nat.le_of_ble_eq_true rfl⟩) hK hP hD hS hA [0, 1, 2, 3] rfl rfl rfl 2 rfl rfl rfl rfl hl.1 rfl (Nat.le_of_ble_eq_true rfl) ⟨Nat.zero_le _, Nat.zero_le _⟩ dX2_readOrder_180 (fun H locs hP hD hS => ?_)
                                have hP : va_P D vwCl [(aP, .inr (1, [.ref aPc, .int vpl])), (aPc, .inl (cyI, 80, .inl vpp)), (aR, .inr (2, [.ref aP, .ref aRn, .int vra_180, .int r14, .int vrt_180])), (aRn, .inl (cyI, 40, .inl vrn_180))] H := hP
                                have hD : va_D A [(aP, .inr (1, [.ref aPc, .int vpl])), (aPc, .inl (cyI, 80, .inl vpp)), (aR, .inr (2, [.ref aP, .ref aRn, .int vra_180, .int r14, .int vrt_180])), (aRn, .inl (cyI, 40, .inl vrn_180))] := hD
                                refine lv_if_eq (tgt := 190) hx hb dX2_readOrder_183 (by decide) (fun hc => ?_) (fun hc => ?_)
                                · have hF := k_if_t hF hc
                                  refine lv_iconst (v := (0 : Int32)) hx hb dX2_readOrder_190 (by decide) ?_
                                  obtain ⟨e0, e1, e2, e3, e4⟩ := k_inj5 hF
                                  have hP9 : va_P D vwCl [(aP, .inr (1, [.ref aPc, .int vpl])), (aPc, .inl (cyI, 80, .inl vpp)), (aR, .inr (2, [.ref aP, .ref aRn, .int vra', .int vrk', .int vrt'])), (aRn, .inl (cyI, 40, .inl vrn'))] H := by rw [← e1, ← e2, ← e3, ← e4]; exact hP
                                  exact W.zret hx hb hr rfl (fun t ht hW => ⟨⟨_, (), rfl, e0, x_ret hP9 ht⟩, hS.F ht⟩) hS.2.2 dX2_readOrder_191
                                · have hF := k_if_f hF hc
                                  refine lv_iconst (v := (1 : Int32)) hx hb dX2_readOrder_186 (by decide) ?_
                                  refine lv_goto (tgt := 191) hx hb dX2_readOrder_187 (by decide) ?_
                                  obtain ⟨e0, e1, e2, e3, e4⟩ := k_inj5 hF
                                  have hP9 : va_P D vwCl [(aP, .inr (1, [.ref aPc, .int vpl])), (aPc, .inl (cyI, 80, .inl vpp)), (aR, .inr (2, [.ref aP, .ref aRn, .int vra', .int vrk', .int vrt'])), (aRn, .inl (cyI, 40, .inl vrn'))] H := by rw [← e1, ← e2, ← e3, ← e4]; exact hP
                                  exact W.zret hx hb hr rfl (fun t ht hW => ⟨⟨_, (), rfl, e0, x_ret hP9 ht⟩, hS.F ht⟩) hS.2.2 dX2_readOrder_191
        · have hF := k_if_f hF h114
          refine lv_lookup (tgt := 268) (off := 244) hx hb dX2_readOrder_24 (by decide) (by show Op.lookupswitch.offset [(43, 44), (102, 190), (109, 168), (114, 66)] 244 r14.toInt = 244; rw [lv_osw (k := (43 : Int32)) (a := 43) h43 (by decide), lv_osw (k := (102 : Int32)) (a := 102) h102 (by decide), lv_osw (k := (109 : Int32)) (a := 109) h109 (by decide), lv_osw (k := (114 : Int32)) (a := 114) h114 (by decide)]; rfl) (by decide) ?_
          refine lv_iconst (v := (0 : Int32)) hx hb dX2_readOrder_268 (by decide) ?_
          obtain ⟨e0, e1, e2, e3, e4⟩ := k_inj5 hF
          have hP9 : va_P D vwCl [(aP, .inr (1, [.ref aPc, .int vpl])), (aPc, .inl (cyI, 80, .inl vpp)), (aR, .inr (2, [.ref aP, .ref aRn, .int vra', .int vrk', .int vrt'])), (aRn, .inl (cyI, 40, .inl vrn'))] H := by rw [← e1, ← e2, ← e3, ← e4]; exact hP
          exact W.zret hx hb hr rfl (fun t ht hW => ⟨⟨_, (), rfl, e0, x_ret hP9 ht⟩, hS.F ht⟩) hS.2.2 dX2_readOrder_269
theorem mm_X2_firstFault_1 : Cond.fieldLink RX2 28 "RollerMesh$Reader" "at" "I" ∈ wsX2_firstFault := List.mem_of_getElem? (i := 1) rfl
theorem mm_X2_firstFault_2 : Cond.fieldLink RX2 17 "RollerMesh$Reader" "pad" "LRollerMesh$Pad;" ∈ wsX2_firstFault := List.mem_of_getElem? (i := 2) rfl
theorem mi_X2_firstFault_X2 : ∀ w ∈ wsX20, w ∈ wsX2_firstFault := fun _ h => List.mem_cons_of_mem _ (List.mem_append_left _ (List.mem_append_right _ h))
set_option maxHeartbeats 4000000 in
set_option maxRecDepth 100000 in
theorem c_X2_firstFault (l : Launch) (D : va_G) (cyI cyZ : ClassId) (aP aPc aR aRn : Nat) (sz : Nat) (N : Nat) (vpl : Int32) (vpp : (Nat → Int32)) (vra : Int32) (vrk : Int32) (vrt : Int32) (vrn : (Nat → Int32)) {r0 : Int32} {vra' : Int32} {vrk' : Int32} {vrt' : Int32} {vrn' : (Nat → Int32)} (hF : p_X2_firstFault N vpl vpp vra vrk vrt vrn = some (r0, vra', vrk', vrt', vrn')) : Met l yX2_firstFault wsX2_firstFault ({ frames := 5, cells := 0, slots := 0, locals := 105 }) (x_PM D cyI cyZ [.ref aR] [(aP, .inr (1, [.ref aPc, .int vpl])), (aPc, .inl (cyI, 80, .inl vpp)), (aR, .inr (2, [.ref aP, .ref aRn, .int vra, .int vrk, .int vrt])), (aRn, .inl (cyI, 40, .inl vrn))] sz) (x_QM D r0 (va_A [(aP, .inr (1, [.ref aPc, .int vpl])), (aPc, .inl (cyI, 80, .inl vpp)), (aR, .inr (2, [.ref aP, .ref aRn, .int vra, .int vrk, .int vrt])), (aRn, .inl (cyI, 40, .inl vrn))] sz) [(aP, .inr (1, [.ref aPc, .int vpl])), (aPc, .inl (cyI, 80, .inl vpp)), (aR, .inr (2, [.ref aP, .ref aRn, .int vra', .int vrk', .int vrt'])), (aRn, .inl (cyI, 40, .inl vrn'))]) 0 0 (va_A [(aP, .inr (1, [.ref aPc, .int vpl])), (aPc, .inl (cyI, 80, .inl vpp)), (aR, .inr (2, [.ref aP, .ref aRn, .int vra, .int vrk, .int vrt])), (aRn, .inl (cyI, 40, .inl vrn))] sz) := by
  refine Met.ofW (cc := cX2_firstFault) (maxL := 2) (ret := (some .int)) (by decide) rfl ?_
  intro p e s m args below meth c s₁ B hml hv
  obtain ⟨rfl, hsz, hP, hK, hD0⟩ := hv
  have hx := B.exec
  have hb := B.bytes
  have hr := B.returns
  have hts := atoms_spec (ws := wsX2_firstFault) B.pre
  have hown : s.vm.findClass RX2 = some m.cls := findClass_of_methodNamed B.named
  have hlocks := B.notSynchronized
  subst hsz
  have hD := hD0.self (sz := s.heap.size)
  generalize hAe : va_A [(aP, .inr (1, [.ref aPc, .int vpl])), (aPc, .inl (cyI, 80, .inl vpp)), (aR, .inr (2, [.ref aP, .ref aRn, .int vra, .int vrk, .int vrt])), (aRn, .inl (cyI, 40, .inl vrn))] s.heap.size = A at hD ⊢
  have hA : ∀ q : Nat, s.heap.size ≤ q → A q := fun q h => by rw [← hAe]; exact Or.inr h
  have hS : va_S A s.heap s.heap [] := va_S.rf
  have hP : va_P D vwCl [(aP, .inr (1, [.ref aPc, .int vpl])), (aPc, .inl (cyI, 80, .inl vpp)), (aR, .inr (2, [.ref aP, .ref aRn, .int vra, .int vrk, .int vrt])), (aRn, .inl (cyI, 40, .inl vrn))] s.heap := hP
  have hl := lv_entry ([.ref aR]) (n := 2) (Nat.le_of_ble_eq_true rfl)
  rw [lg_entry_eq]
  generalize (lg_sl ([.ref aR]) ++ List.replicate (2 - (lg_sl ([.ref aR])).length) Slot.unset).toArray = ls at hl ⊢
  have hl : lv_has ls 2 [(0, .ref aR)] := hl
  refine x_gen (fun G hG => ?_)
  have blk_6 : ∀ (n_6 : Nat) (x1 : Int32) (vra : Int32) (vrk : Int32) (vrt : Int32) (vrn : (Nat → Int32)), f_X2_firstFault_6 N n_6 x1 vpl vpp vra vrk vrt vrn = some (r0, vra', vrk', vrt', vrn') → ∀ (H : Heap) (locs : List Loc) (ls : Array Slot), va_P D vwCl [(aP, .inr (1, [.ref aPc, .int vpl])), (aPc, .inl (cyI, 80, .inl vpp)), (aR, .inr (2, [.ref aP, .ref aRn, .int vra, .int vrk, .int vrt])), (aRn, .inl (cyI, 40, .inl vrn))] H → va_D A [(aP, .inr (1, [.ref aPc, .int vpl])), (aPc, .inl (cyI, 80, .inl vpp)), (aR, .inr (2, [.ref aP, .ref aRn, .int vra, .int vrk, .int vrt])), (aRn, .inl (cyI, 40, .inl vrn))] → va_S A s.heap H locs → lv_has ls 2 [(0, .ref aR), (1, .int x1)] → G H locs (F0 m 6 ls []) := by
    intro n_6
    induction n_6 with
    | zero => intro x1 vra vrk vrt vrn hF; exact (k_none hF).elim
    | succ n_6 ih_6 =>
      intro x1 vra vrk vrt vrn hF H locs ls hP hD hS hl
      replace hF : b_X2_firstFault_6 N (f_X2_firstFault_6 N n_6) x1 vpl vpp vra vrk vrt vrn = some (r0, vra', vrk', vrt', vrn') := hF
      unfold b_X2_firstFault_6 at hF
      refine (hG _ _ _).2 ?_
      refine lv_iload_n hx hb dX2_firstFault_6 rfl (lv_at hl 1 rfl) ?_
      refine lv_bipush (v := (80 : Int32)) hx hb dX2_firstFault_7 (by decide) ?_
      refine lv_icmp_ge (tgt := 61) hx hb dX2_firstFault_9 (by decide) (fun hc => ?_) (fun hc => ?_)
      · have hF := k_if_t hF hc
        refine lv_aload_n hx hb dX2_firstFault_61 rfl (lv_at hl 0 rfl) ?_
        refine va_get (D := D) (ci := 2) (v := .int vrt) (C := RX2) (T := TX2) (N := 5) hx hb hts mi_X2_firstFault_X2 hown hK.1 hP 2 rfl rfl 4 (by decide) (hts _ mm_X2_firstFault_1) (fun _ h9 => h9) rfl dX2_firstFault_62 ?_
        obtain ⟨e0, e1, e2, e3, e4⟩ := k_inj5 hF
        have hP9 : va_P D vwCl [(aP, .inr (1, [.ref aPc, .int vpl])), (aPc, .inl (cyI, 80, .inl vpp)), (aR, .inr (2, [.ref aP, .ref aRn, .int vra', .int vrk', .int vrt'])), (aRn, .inl (cyI, 40, .inl vrn'))] H := by rw [← e1, ← e2, ← e3, ← e4]; exact hP
        exact W.iret hx hb hr (fun t ht hW => ⟨⟨_, (), rfl, e0, x_ret hP9 ht⟩, hS.F ht⟩) hS.2.2 dX2_firstFault_65
      · have hF := k_if_f hF hc
        refine lv_aload_n hx hb dX2_firstFault_12 rfl (lv_at hl 0 rfl) ?_
        obtain ⟨r13, vra_13, vrk_13, vrt_13, vrn_13, hC, hF⟩ := k_c5_ex hF
        refine x_VM (As := []) (rest := []) ⟨hx, hb, hml, hown, hts⟩ (c_X2_readOrder l D cyI cyZ aP aPc aR aRn H.size N vpl vpp vra vrk vrt vrn hC) (cwV 0 hts gX2_firstFault_X2_readOrder rfl rfl rfl (by decide +kernel) ⟨Nat.le_of_ble_eq_true rfl, Nat.le_of_ble_eq_true rfl⟩) hK hP hD hS hA [0, 1, 2, 3] rfl rfl rfl 2 rfl rfl rfl rfl hl.1 rfl (Nat.le_of_ble_eq_true rfl) ⟨Nat.zero_le _, Nat.zero_le _⟩ dX2_firstFault_13 (fun H locs hP hD hS => ?_)
        have hP : va_P D vwCl [(aP, .inr (1, [.ref aPc, .int vpl])), (aPc, .inl (cyI, 80, .inl vpp)), (aR, .inr (2, [.ref aP, .ref aRn, .int vra_13, .int vrk_13, .int vrt_13])), (aRn, .inl (cyI, 40, .inl vrn_13))] H := hP
        have hD : va_D A [(aP, .inr (1, [.ref aPc, .int vpl])), (aPc, .inl (cyI, 80, .inl vpp)), (aR, .inr (2, [.ref aP, .ref aRn, .int vra_13, .int vrk_13, .int vrt_13])), (aRn, .inl (cyI, 40, .inl vrn_13))] := hD
        refine lv_if_ne (tgt := 24) hx hb dX2_firstFault_16 (by decide) (fun hc => ?_) (fun hc => ?_)
        · have hF := k_if_f hF hc
          refine lv_aload_n hx hb dX2_firstFault_24 rfl (lv_at hl 0 rfl) ?_
          refine va_get (D := D) (ci := 2) (v := .int vrt_13) (C := RX2) (T := TX2) (N := 5) hx hb hts mi_X2_firstFault_X2 hown hK.1 hP 2 rfl rfl 4 (by decide) (hts _ mm_X2_firstFault_1) (fun _ h9 => h9) rfl dX2_firstFault_25 ?_
          refine lv_aload_n hx hb dX2_firstFault_28 rfl (lv_at hl 0 rfl) ?_
          refine va_get (D := D) (ci := 2) (v := .ref aP) (C := RX2) (T := TX2) (N := 5) hx hb hts mi_X2_firstFault_X2 hown hK.1 hP 2 rfl rfl 0 (by decide) (hts _ mm_X2_firstFault_2) (fun _ h9 => h9) rfl dX2_firstFault_29 ?_
          obtain ⟨r32, hC, hF⟩ := k_c1_ex hF
          refine x_VR (As := []) (rest := [.int vrt_13]) ⟨hx, hb, hml, hown, hts⟩ (c_X1_length l D cyI cyZ aP aPc N vpl hC) (cwV 0 hts gX2_firstFault_X1_length rfl rfl rfl (by decide +kernel) ⟨Nat.le_of_ble_eq_true rfl, Nat.le_of_ble_eq_true rfl⟩) hK hP hS [0] rfl 0 rfl rfl rfl rfl hl.1 rfl (Nat.le_of_ble_eq_true rfl) ⟨Nat.zero_le _, Nat.zero_le _⟩ dX2_firstFault_32 (fun H locs hP hS => ?_)
          refine lv_icmp_ne (tgt := 41) hx hb dX2_firstFault_35 (by decide) (fun hc => ?_) (fun hc => ?_)
          · have hF := k_if_f hF hc
            refine lv_aload_n hx hb dX2_firstFault_41 rfl (lv_at hl 0 rfl) ?_
            refine lv_bipush (v := (59 : Int32)) hx hb dX2_firstFault_42 (by decide) ?_
            obtain ⟨r44, vrt_44, hC, hF⟩ := k_c2_ex hF
            refine x_VM (As := [.int (59 : Int32)]) (rest := []) ⟨hx, hb, hml, hown, hts⟩ (c_X2_skip l D cyI cyZ aP aPc aR aRn H.size N (59 : Int32) vpl vpp vra_13 vrk_13 vrt_13 hC) (cwV 1 hts gX2_firstFault_X2_skip rfl rfl rfl (by decide +kernel) ⟨Nat.le_of_ble_eq_true rfl, Nat.le_of_ble_eq_true rfl⟩) hK hP hD hS hA [0, 1, 2] rfl rfl rfl 2 rfl rfl rfl rfl hl.1 rfl (Nat.le_of_ble_eq_true rfl) ⟨Nat.zero_le _, Nat.zero_le _⟩ dX2_firstFault_44 (fun H locs hP hD hS => ?_)
            have hP : va_P D vwCl [(aP, .inr (1, [.ref aPc, .int vpl])), (aPc, .inl (cyI, 80, .inl vpp)), (aR, .inr (2, [.ref aP, .ref aRn, .int vra_13, .int vrk_13, .int vrt_44])), (aRn, .inl (cyI, 40, .inl vrn_13))] H := hP
            have hD : va_D A [(aP, .inr (1, [.ref aPc, .int vpl])), (aPc, .inl (cyI, 80, .inl vpp)), (aR, .inr (2, [.ref aP, .ref aRn, .int vra_13, .int vrk_13, .int vrt_44])), (aRn, .inl (cyI, 40, .inl vrn_13))] := hD
            refine lv_if_ne (tgt := 55) hx hb dX2_firstFault_47 (by decide) (fun hc => ?_) (fun hc => ?_)
            · have hF := k_if_f hF hc
              obtain ⟨x1_55, hn, hF⟩ := k_let_ex hF
              refine lv_iinc (v := x1_55) (lv' := [(1, .int x1_55), (0, .ref aR)]) hx hb dX2_firstFault_55 hl (k := 1) rfl (by rw [hn]; rfl) (by decide) rfl (fun ls hl => ?_)
              refine lv_goto (tgt := 6) hx hb dX2_firstFault_58 (by decide) ?_
              exact (hG _ _ _).1 (ih_6 x1_55 vra_13 vrk_13 vrt_44 vrn_13 hF _ _ _ hP hD hS (lv_sub hl [1, 0] rfl))
            · have hF := k_if_t hF hc
              refine lv_aload_n hx hb dX2_firstFault_50 rfl (lv_at hl 0 rfl) ?_
              refine va_get (D := D) (ci := 2) (v := .int vrt_44) (C := RX2) (T := TX2) (N := 5) hx hb hts mi_X2_firstFault_X2 hown hK.1 hP 2 rfl rfl 4 (by decide) (hts _ mm_X2_firstFault_1) (fun _ h9 => h9) rfl dX2_firstFault_51 ?_
              obtain ⟨e0, e1, e2, e3, e4⟩ := k_inj5 hF
              have hP9 : va_P D vwCl [(aP, .inr (1, [.ref aPc, .int vpl])), (aPc, .inl (cyI, 80, .inl vpp)), (aR, .inr (2, [.ref aP, .ref aRn, .int vra', .int vrk', .int vrt'])), (aRn, .inl (cyI, 40, .inl vrn'))] H := by rw [← e1, ← e2, ← e3, ← e4]; exact hP
              exact W.iret hx hb hr (fun t ht hW => ⟨⟨_, (), rfl, e0, x_ret hP9 ht⟩, hS.F ht⟩) hS.2.2 dX2_firstFault_54
          · have hF := k_if_t hF hc
            refine lv_bipush (v := (-6 : Int32)) hx hb dX2_firstFault_38 (by decide) ?_
            obtain ⟨e0, e1, e2, e3, e4⟩ := k_inj5 hF
            have hP9 : va_P D vwCl [(aP, .inr (1, [.ref aPc, .int vpl])), (aPc, .inl (cyI, 80, .inl vpp)), (aR, .inr (2, [.ref aP, .ref aRn, .int vra', .int vrk', .int vrt'])), (aRn, .inl (cyI, 40, .inl vrn'))] H := by rw [← e1, ← e2, ← e3, ← e4]; exact hP
            exact W.iret hx hb hr (fun t ht hW => ⟨⟨_, (), rfl, e0, x_ret hP9 ht⟩, hS.F ht⟩) hS.2.2 dX2_firstFault_40
        · have hF := k_if_t hF hc
          refine lv_aload_n hx hb dX2_firstFault_19 rfl (lv_at hl 0 rfl) ?_
          refine va_get (D := D) (ci := 2) (v := .int vrt_13) (C := RX2) (T := TX2) (N := 5) hx hb hts mi_X2_firstFault_X2 hown hK.1 hP 2 rfl rfl 4 (by decide) (hts _ mm_X2_firstFault_1) (fun _ h9 => h9) rfl dX2_firstFault_20 ?_
          obtain ⟨e0, e1, e2, e3, e4⟩ := k_inj5 hF
          have hP9 : va_P D vwCl [(aP, .inr (1, [.ref aPc, .int vpl])), (aPc, .inl (cyI, 80, .inl vpp)), (aR, .inr (2, [.ref aP, .ref aRn, .int vra', .int vrk', .int vrt'])), (aRn, .inl (cyI, 40, .inl vrn'))] H := by rw [← e1, ← e2, ← e3, ← e4]; exact hP
          exact W.iret hx hb hr (fun t ht hW => ⟨⟨_, (), rfl, e0, x_ret hP9 ht⟩, hS.F ht⟩) hS.2.2 dX2_firstFault_23
  refine (hG _ _ _).2 ?_
  unfold p_X2_firstFault at hF
  refine lv_aload_n hx hb dX2_firstFault_0 rfl (lv_at hl 0 rfl) ?_
  obtain ⟨vrt_1, hC, hF⟩ := k_c1_ex hF
  refine x_VV (As := []) (rest := []) ⟨hx, hb, hml, hown, hts⟩ (c_X2_begin l D cyI cyZ aP aR aRn s.heap.size N vra vrk vrt hC) (cwV 0 hts gX2_firstFault_X2_begin rfl rfl rfl (by decide +kernel) ⟨Nat.le_of_ble_eq_true rfl, Nat.le_of_ble_eq_true rfl⟩) hK hP hD hS hA [2] rfl rfl rfl 2 rfl rfl rfl rfl hl.1 rfl (Nat.le_of_ble_eq_true rfl) ⟨Nat.zero_le _, Nat.zero_le _⟩ dX2_firstFault_1 (fun H locs hP hD hS => ?_)
  have hP : va_P D vwCl [(aP, .inr (1, [.ref aPc, .int vpl])), (aPc, .inl (cyI, 80, .inl vpp)), (aR, .inr (2, [.ref aP, .ref aRn, .int vra, .int vrk, .int vrt_1])), (aRn, .inl (cyI, 40, .inl vrn))] H := hP
  have hD : va_D A [(aP, .inr (1, [.ref aPc, .int vpl])), (aPc, .inl (cyI, 80, .inl vpp)), (aR, .inr (2, [.ref aP, .ref aRn, .int vra, .int vrk, .int vrt_1])), (aRn, .inl (cyI, 40, .inl vrn))] := hD
  refine lv_iconst (v := (0 : Int32)) hx hb dX2_firstFault_4 (by decide) ?_
  refine lv_istore_n (lv' := [(1, .int (0 : Int32)), (0, .ref aR)]) hx hb dX2_firstFault_5 rfl hl (by decide) rfl (fun ls hl => ?_)
  exact (hG _ _ _).1 (blk_6 N (0 : Int32) vra vrk vrt_1 vrn hF _ _ _ hP hD hS (lv_sub hl [1, 0] rfl))
theorem mm_X2_kind_1 : Cond.fieldLink RX2 21 "RollerMesh$Reader" "kind" "I" ∈ wsX2_kind := List.mem_of_getElem? (i := 1) rfl
theorem mi_X2_kind_X2 : ∀ w ∈ wsX20, w ∈ wsX2_kind := fun _ h => List.mem_cons_of_mem _ (List.mem_append_right _ h)
set_option maxHeartbeats 4000000 in
set_option maxRecDepth 100000 in
theorem c_X2_kind (l : Launch) (D : va_G) (cyI cyZ : ClassId) (aP aR aRn : Nat) (N : Nat) (vra : Int32) (vrk : Int32) (vrt : Int32) {r0 : Int32}  (hF : p_X2_kind N vra vrk vrt = some (r0)) : Met l yX2_kind wsX2_kind ({ frames := 0, cells := 0, slots := 0, locals := 0 }) (x_PR D cyI cyZ [.ref aR] [(aR, .inr (2, [.ref aP, .ref aRn, .int vra, .int vrk, .int vrt]))]) (x_QR r0) 0 0 (fun _ => False) := by
  refine Met.ofW (cc := cX2_kind) (maxL := 1) (ret := (some .int)) (by decide) rfl ?_
  intro p e s m args below meth c s₁ B hml hv
  obtain ⟨rfl, hP, hK⟩ := hv
  have hx := B.exec
  have hb := B.bytes
  have hr := B.returns
  have hts := atoms_spec (ws := wsX2_kind) B.pre
  have hown : s.vm.findClass RX2 = some m.cls := findClass_of_methodNamed B.named
  have hlocks := B.notSynchronized
  have hS : va_S (fun _ => False) s.heap s.heap [] := va_S.rf
  have hP : va_P D vwCl [(aR, .inr (2, [.ref aP, .ref aRn, .int vra, .int vrk, .int vrt]))] s.heap := hP
  have hl := lv_entry ([.ref aR]) (n := 1) (Nat.le_of_ble_eq_true rfl)
  rw [lg_entry_eq]
  generalize (lg_sl ([.ref aR]) ++ List.replicate (1 - (lg_sl ([.ref aR])).length) Slot.unset).toArray = ls at hl ⊢
  have hl : lv_has ls 1 [(0, .ref aR)] := hl
  unfold p_X2_kind at hF
  refine lv_aload_n hx hb dX2_kind_0 rfl (lv_at hl 0 rfl) ?_
  refine va_get (D := D) (ci := 2) (v := .int vrk) (C := RX2) (T := TX2) (N := 5) hx hb hts mi_X2_kind_X2 hown hK.1 hP 0 rfl rfl 3 (by decide) (hts _ mm_X2_kind_1) (fun _ h9 => h9) rfl dX2_kind_1 ?_
  exact W.iret hx hb hr (fun t ht hW => ⟨⟨_, (), rfl, Option.some.inj hF, trivial⟩, hS.F ht⟩) hS.2.2 dX2_kind_4
theorem mm_X2_numbers_1 : Cond.fieldLink RX2 25 "RollerMesh$Reader" "amount" "I" ∈ wsX2_numbers := List.mem_of_getElem? (i := 1) rfl
theorem mi_X2_numbers_X2 : ∀ w ∈ wsX20, w ∈ wsX2_numbers := fun _ h => List.mem_cons_of_mem _ (List.mem_append_right _ h)
set_option maxHeartbeats 4000000 in
set_option maxRecDepth 100000 in
theorem c_X2_numbers (l : Launch) (D : va_G) (cyI cyZ : ClassId) (aP aR aRn : Nat) (N : Nat) (vra : Int32) (vrk : Int32) (vrt : Int32) {r0 : Int32}  (hF : p_X2_numbers N vra vrk vrt = some (r0)) : Met l yX2_numbers wsX2_numbers ({ frames := 0, cells := 0, slots := 0, locals := 0 }) (x_PR D cyI cyZ [.ref aR] [(aR, .inr (2, [.ref aP, .ref aRn, .int vra, .int vrk, .int vrt]))]) (x_QR r0) 0 0 (fun _ => False) := by
  refine Met.ofW (cc := cX2_numbers) (maxL := 1) (ret := (some .int)) (by decide) rfl ?_
  intro p e s m args below meth c s₁ B hml hv
  obtain ⟨rfl, hP, hK⟩ := hv
  have hx := B.exec
  have hb := B.bytes
  have hr := B.returns
  have hts := atoms_spec (ws := wsX2_numbers) B.pre
  have hown : s.vm.findClass RX2 = some m.cls := findClass_of_methodNamed B.named
  have hlocks := B.notSynchronized
  have hS : va_S (fun _ => False) s.heap s.heap [] := va_S.rf
  have hP : va_P D vwCl [(aR, .inr (2, [.ref aP, .ref aRn, .int vra, .int vrk, .int vrt]))] s.heap := hP
  have hl := lv_entry ([.ref aR]) (n := 1) (Nat.le_of_ble_eq_true rfl)
  rw [lg_entry_eq]
  generalize (lg_sl ([.ref aR]) ++ List.replicate (1 - (lg_sl ([.ref aR])).length) Slot.unset).toArray = ls at hl ⊢
  have hl : lv_has ls 1 [(0, .ref aR)] := hl
  unfold p_X2_numbers at hF
  refine lv_aload_n hx hb dX2_numbers_0 rfl (lv_at hl 0 rfl) ?_
  refine va_get (D := D) (ci := 2) (v := .int vra) (C := RX2) (T := TX2) (N := 5) hx hb hts mi_X2_numbers_X2 hown hK.1 hP 0 rfl rfl 2 (by decide) (hts _ mm_X2_numbers_1) (fun _ h9 => h9) rfl dX2_numbers_1 ?_
  exact W.iret hx hb hr (fun t ht hW => ⟨⟨_, (), rfl, Option.some.inj hF, trivial⟩, hS.F ht⟩) hS.2.2 dX2_numbers_4
theorem mm_X2_number_1 : Cond.fieldLink RX2 13 "RollerMesh$Reader" "numbers" "[I" ∈ wsX2_number := List.mem_of_getElem? (i := 1) rfl
theorem mi_X2_number_X2 : ∀ w ∈ wsX20, w ∈ wsX2_number := fun _ h => List.mem_cons_of_mem _ (List.mem_append_right _ h)
set_option maxHeartbeats 4000000 in
set_option maxRecDepth 100000 in
theorem c_X2_number (l : Launch) (D : va_G) (cyI cyZ : ClassId) (aP aR aRn : Nat) (N : Nat) (x1 : Int32) (vra : Int32) (vrk : Int32) (vrt : Int32) (vrn : (Nat → Int32)) {r0 : Int32}  (hF : p_X2_number N x1 vra vrk vrt vrn = some (r0)) : Met l yX2_number wsX2_number ({ frames := 0, cells := 0, slots := 0, locals := 0 }) (x_PR D cyI cyZ [.ref aR, .int x1] [(aR, .inr (2, [.ref aP, .ref aRn, .int vra, .int vrk, .int vrt])), (aRn, .inl (cyI, 40, .inl vrn))]) (x_QR r0) 0 0 (fun _ => False) := by
  refine Met.ofW (cc := cX2_number) (maxL := 2) (ret := (some .int)) (by decide) rfl ?_
  intro p e s m args below meth c s₁ B hml hv
  obtain ⟨rfl, hP, hK⟩ := hv
  have hx := B.exec
  have hb := B.bytes
  have hr := B.returns
  have hts := atoms_spec (ws := wsX2_number) B.pre
  have hown : s.vm.findClass RX2 = some m.cls := findClass_of_methodNamed B.named
  have hlocks := B.notSynchronized
  have hS : va_S (fun _ => False) s.heap s.heap [] := va_S.rf
  have hP : va_P D vwCl [(aR, .inr (2, [.ref aP, .ref aRn, .int vra, .int vrk, .int vrt])), (aRn, .inl (cyI, 40, .inl vrn))] s.heap := hP
  have hl := lv_entry ([.ref aR, .int x1]) (n := 2) (Nat.le_of_ble_eq_true rfl)
  rw [lg_entry_eq]
  generalize (lg_sl ([.ref aR, .int x1]) ++ List.replicate (2 - (lg_sl ([.ref aR, .int x1])).length) Slot.unset).toArray = ls at hl ⊢
  have hl : lv_has ls 2 [(0, .ref aR), (1, .int x1)] := hl
  unfold p_X2_number at hF
  refine lv_iload_n hx hb dX2_number_0 rfl (lv_at hl 1 rfl) ?_
  refine lv_if_lt (tgt := 22) hx hb dX2_number_1 (by decide) (fun hc => ?_) (fun hc => ?_)
  · have hF := k_if_t hF hc
    refine lv_iconst (v := (0 : Int32)) hx hb dX2_number_22 (by decide) ?_
    exact W.iret hx hb hr (fun t ht hW => ⟨⟨_, (), rfl, Option.some.inj hF, trivial⟩, hS.F ht⟩) hS.2.2 dX2_number_23
  · have hF := k_if_f hF hc
    refine lv_iload_n hx hb dX2_number_4 rfl (lv_at hl 1 rfl) ?_
    refine lv_aload_n hx hb dX2_number_5 rfl (lv_at hl 0 rfl) ?_
    refine va_get (D := D) (ci := 2) (v := .ref aRn) (C := RX2) (T := TX2) (N := 5) hx hb hts mi_X2_number_X2 hown hK.1 hP 0 rfl rfl 1 (by decide) (hts _ mm_X2_number_1) (fun _ h9 => h9) rfl dX2_number_6 ?_
    refine x_alen (v := (40 : Int32)) hx hb hK hP 1 rfl rfl dX2_number_9 ?_
    refine lv_icmp_ge (tgt := 22) hx hb dX2_number_10 (by decide) (fun hc => ?_) (fun hc => ?_)
    · have hF := k_if_t hF hc
      refine lv_iconst (v := (0 : Int32)) hx hb dX2_number_22 (by decide) ?_
      exact W.iret hx hb hr (fun t ht hW => ⟨⟨_, (), rfl, Option.some.inj hF, trivial⟩, hS.F ht⟩) hS.2.2 dX2_number_23
    · have hF := k_if_f hF hc
      refine lv_aload_n hx hb dX2_number_13 rfl (lv_at hl 0 rfl) ?_
      refine va_get (D := D) (ci := 2) (v := .ref aRn) (C := RX2) (T := TX2) (N := 5) hx hb hts mi_X2_number_X2 hown hK.1 hP 0 rfl rfl 1 (by decide) (hts _ mm_X2_number_1) (fun _ h9 => h9) rfl dX2_number_14 ?_
      refine lv_iload_n hx hb dX2_number_17 rfl (lv_at hl 1 rfl) ?_
      obtain ⟨r18, hin, hn, hF⟩ := k_ld_ex hF
      refine x_iald hx hb hK hP 1 rfl hin hn dX2_number_18 ?_
      refine lv_goto (tgt := 23) hx hb dX2_number_19 (by decide) ?_
      exact W.iret hx hb hr (fun t ht hW => ⟨⟨_, (), rfl, Option.some.inj hF, trivial⟩, hS.F ht⟩) hS.2.2 dX2_number_23
