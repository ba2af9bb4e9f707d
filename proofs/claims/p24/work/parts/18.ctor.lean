theorem mm_X3_init_1 : Cond.methodLink RX3 5 objectInit ∈ wsX3_init := List.mem_of_getElem? (i := 1) rfl
theorem mm_X3_init_2 : Cond.instanceMethod objectInit ∈ wsX3_init := List.mem_of_getElem? (i := 2) rfl
theorem mm_X3_init_3 : Cond.code objectInit ⟨#[0xb1]⟩ 1 none ∈ wsX3_init := List.mem_of_getElem? (i := 3) rfl
theorem mm_X3_init_4 : Cond.arrayClass .int ∈ wsX3_init := List.mem_of_getElem? (i := 4) rfl
theorem mm_X3_init_5 : Cond.fieldLink RX3 11 "RollerMesh$Shop" "cells" "[I" ∈ wsX3_init := List.mem_of_getElem? (i := 5) rfl
theorem mi_X3_init_X3 : ∀ w ∈ wsX30, w ∈ wsX3_init := fun _ h => List.mem_cons_of_mem _ (List.mem_append_right _ h)
set_option maxHeartbeats 4000000 in
set_option maxRecDepth 100000 in
theorem c_X3_init (l : Launch) (D : va_G) (cyI cyZ : ClassId) (aS sz : Nat) : Met l yX3_init wsX3_init ({ frames := 1, cells := 1, slots := 225, locals := 20 }) (x_PM D cyI cyZ [.ref aS] [(aS, .inr (3, [.null]))] sz) (va_Qv (fun (_ : Unit) => True) (fun _ => fun t => ∃ aC : Nat, va_P D vwCl [(aS, .inr (3, [.ref aC])), (aC, .inl (cyI, 225, .inl (upd (upd (upd (upd (upd (fun _ => 0) 1 (5 : Int32)) 2 (5 : Int32)) 6 (6 : Int32)) 7 (4 : Int32)) 8 (20 : Int32))))] t.heap ∧ va_D (va_A [(aS, .inr (3, [.null]))] sz) [(aS, .inr (3, [.ref aC])), (aC, .inl (cyI, 225, .inl (upd (upd (upd (upd (upd (fun _ => 0) 1 (5 : Int32)) 2 (5 : Int32)) 6 (6 : Int32)) 7 (4 : Int32)) 8 (20 : Int32))))]) (va_A [(aS, .inr (3, [.null]))] sz)) 1 225 (va_A [(aS, .inr (3, [.null]))] sz) := by
  refine Met.ofW (cc := cX3_init) (maxL := 1) (ret := none) (by decide) rfl ?_
  intro p e s m args below meth c s₁ B hml hv
  obtain ⟨rfl, hsz, hP, hK, hD0⟩ := hv
  have hx := B.exec
  have hb := B.bytes
  have hr := B.returns
  have hts := atoms_spec (ws := wsX3_init) B.pre
  have hown : s.vm.findClass RX3 = some m.cls := findClass_of_methodNamed B.named
  have hlocks := B.notSynchronized
  have hin : meth.name = "<init>" := (name_of_methodNamed B.named B.method).1
  subst hsz
  have hD := hD0.self (sz := s.heap.size)
  generalize hAe : va_A [(aS, .inr (3, [.null]))] s.heap.size = A at hD ⊢
  have hA : ∀ q : Nat, s.heap.size ≤ q → A q := fun q h => by rw [← hAe]; exact Or.inr h
  have hS : va_S A s.heap s.heap [] := va_S.rf
  have hP : va_P D vwCl [(aS, .inr (3, [.null]))] s.heap := hP
  have hl := lv_entry ([.ref aS]) (n := 1) (Nat.le_of_ble_eq_true rfl)
  rw [lg_entry_eq]
  generalize (lg_sl ([.ref aS]) ++ List.replicate (1 - (lg_sl ([.ref aS])).length) Slot.unset).toArray = ls at hl ⊢
  have hl : lv_has ls 1 [(0, .ref aS)] := hl
  refine lv_aload_n hx hb dX3_init_0 rfl (lv_at hl 0 rfl) ?_
  refine W.objInit hx hb hown (hts _ mm_X3_init_1) (hts _ mm_X3_init_2) (hts _ mm_X3_init_3) rfl (by rw [hml]; exact hl.1) rfl dX3_init_1 (Nat.le_of_ble_eq_true rfl) (Nat.le_of_ble_eq_true rfl) ?_
  refine W.eq (g2 := F0 m 4 ls []) rfl ?_
  refine lv_aload_n hx hb dX3_init_4 rfl (lv_at hl 0 rfl) ?_
  refine lv_sipush (v := (225 : Int32)) hx hb dX3_init_5 (by decide) ?_
  refine x_newI (N' := 225) (f0 := fun _ => 0) hx hb (hts _ mm_X3_init_4) hK hP hD hS hA (by decide) (by decide) (Nat.le_of_ble_eq_true rfl) (Nat.le_of_ble_eq_true rfl) (Nat.le_of_ble_eq_true rfl) (fun _ => rfl) dX3_init_8 (fun aC H hP hD hS => ?_)
  have hP : va_P D vwCl [(aS, .inr (3, [.null])), (aC, .inl (cyI, 225, .inl (fun _ => 0)))] H := hP
  have hD : va_D A [(aS, .inr (3, [.null])), (aC, .inl (cyI, 225, .inl (fun _ => 0)))] := hD
  refine W.widen (k := 1) (n := 225) (Nat.le_of_ble_eq_true rfl) (Nat.le_of_ble_eq_true rfl) ?_
  refine va_putF (D := D) (ci := 3) (v := .ref aC) (ty := .array .int) (C := RX3) (T := TX3) (N := 1) hx hb hts mi_X3_init_X3 tyX3 tyX3_ok nmX3 hown hK.1 hP hD hS 0 rfl rfl 0 (by decide) (hts _ mm_X3_init_5) (fun _ h9 => h9) rfl hin rfl (by decide +kernel) rfl rfl (Nat.le_of_ble_eq_true rfl) dX3_init_10 (fun H locs hP hD hS => ?_)
  have hP : va_P D vwCl [(aS, .inr (3, [.ref aC])), (aC, .inl (cyI, 225, .inl (fun _ => 0)))] H := hP
  have hD : va_D A [(aS, .inr (3, [.ref aC])), (aC, .inl (cyI, 225, .inl (fun _ => 0)))] := hD
  refine lv_aload_n hx hb dX3_init_13 rfl (lv_at hl 0 rfl) ?_
  refine va_get (D := D) (ci := 3) (v := .ref aC) (C := RX3) (T := TX3) (N := 1) hx hb hts mi_X3_init_X3 hown hK.1 hP 0 rfl rfl 0 (by decide) (hts _ mm_X3_init_5) (fun _ h9 => h9) rfl dX3_init_14 ?_
  refine lv_iconst (v := (1 : Int32)) hx hb dX3_init_17 (by decide) ?_
  refine lv_iconst (v := (5 : Int32)) hx hb dX3_init_18 (by decide) ?_
  refine x_iast (f1 := (upd (fun _ => 0) 1 (5 : Int32))) hx hb hK hP hD hS 1 rfl (show ¬ ((1 : Int32) < 0 ∨ 225 ≤ (1 : Int32).toNatClampNeg) by decide) (by rw [show (1 : Int32).toNatClampNeg = 1 from by decide]) dX3_init_19 (fun H locs hP hD hS => ?_)
  have hP : va_P D vwCl [(aS, .inr (3, [.ref aC])), (aC, .inl (cyI, 225, .inl (upd (fun _ => 0) 1 (5 : Int32))))] H := hP
  have hD : va_D A [(aS, .inr (3, [.ref aC])), (aC, .inl (cyI, 225, .inl (upd (fun _ => 0) 1 (5 : Int32))))] := hD
  refine lv_aload_n hx hb dX3_init_20 rfl (lv_at hl 0 rfl) ?_
  refine va_get (D := D) (ci := 3) (v := .ref aC) (C := RX3) (T := TX3) (N := 1) hx hb hts mi_X3_init_X3 hown hK.1 hP 0 rfl rfl 0 (by decide) (hts _ mm_X3_init_5) (fun _ h9 => h9) rfl dX3_init_21 ?_
  refine lv_iconst (v := (2 : Int32)) hx hb dX3_init_24 (by decide) ?_
  refine lv_iconst (v := (5 : Int32)) hx hb dX3_init_25 (by decide) ?_
  refine x_iast (f1 := (upd (upd (fun _ => 0) 1 (5 : Int32)) 2 (5 : Int32))) hx hb hK hP hD hS 1 rfl (show ¬ ((2 : Int32) < 0 ∨ 225 ≤ (2 : Int32).toNatClampNeg) by decide) (by rw [show (2 : Int32).toNatClampNeg = 2 from by decide]) dX3_init_26 (fun H locs hP hD hS => ?_)
  have hP : va_P D vwCl [(aS, .inr (3, [.ref aC])), (aC, .inl (cyI, 225, .inl (upd (upd (fun _ => 0) 1 (5 : Int32)) 2 (5 : Int32))))] H := hP
  have hD : va_D A [(aS, .inr (3, [.ref aC])), (aC, .inl (cyI, 225, .inl (upd (upd (fun _ => 0) 1 (5 : Int32)) 2 (5 : Int32))))] := hD
  refine lv_aload_n hx hb dX3_init_27 rfl (lv_at hl 0 rfl) ?_
  refine va_get (D := D) (ci := 3) (v := .ref aC) (C := RX3) (T := TX3) (N := 1) hx hb hts mi_X3_init_X3 hown hK.1 hP 0 rfl rfl 0 (by decide) (hts _ mm_X3_init_5) (fun _ h9 => h9) rfl dX3_init_28 ?_
  refine lv_bipush (v := (6 : Int32)) hx hb dX3_init_31 (by decide) ?_
  refine lv_bipush (v := (6 : Int32)) hx hb dX3_init_33 (by decide) ?_
  refine x_iast (f1 := (upd (upd (upd (fun _ => 0) 1 (5 : Int32)) 2 (5 : Int32)) 6 (6 : Int32))) hx hb hK hP hD hS 1 rfl (show ¬ ((6 : Int32) < 0 ∨ 225 ≤ (6 : Int32).toNatClampNeg) by decide) (by rw [show (6 : Int32).toNatClampNeg = 6 from by decide]) dX3_init_35 (fun H locs hP hD hS => ?_)
  have hP : va_P D vwCl [(aS, .inr (3, [.ref aC])), (aC, .inl (cyI, 225, .inl (upd (upd (upd (fun _ => 0) 1 (5 : Int32)) 2 (5 : Int32)) 6 (6 : Int32))))] H := hP
  have hD : va_D A [(aS, .inr (3, [.ref aC])), (aC, .inl (cyI, 225, .inl (upd (upd (upd (fun _ => 0) 1 (5 : Int32)) 2 (5 : Int32)) 6 (6 : Int32))))] := hD
  refine lv_aload_n hx hb dX3_init_36 rfl (lv_at hl 0 rfl) ?_
  refine va_get (D := D) (ci := 3) (v := .ref aC) (C := RX3) (T := TX3) (N := 1) hx hb hts mi_X3_init_X3 hown hK.1 hP 0 rfl rfl 0 (by decide) (hts _ mm_X3_init_5) (fun _ h9 => h9) rfl dX3_init_37 ?_
  refine lv_bipush (v := (7 : Int32)) hx hb dX3_init_40 (by decide) ?_
  refine lv_iconst (v := (4 : Int32)) hx hb dX3_init_42 (by decide) ?_
  refine x_iast (f1 := (upd (upd (upd (upd (fun _ => 0) 1 (5 : Int32)) 2 (5 : Int32)) 6 (6 : Int32)) 7 (4 : Int32))) hx hb hK hP hD hS 1 rfl (show ¬ ((7 : Int32) < 0 ∨ 225 ≤ (7 : Int32).toNatClampNeg) by decide) (by rw [show (7 : Int32).toNatClampNeg = 7 from by decide]) dX3_init_43 (fun H locs hP hD hS => ?_)
  have hP : va_P D vwCl [(aS, .inr (3, [.ref aC])), (aC, .inl (cyI, 225, .inl (upd (upd (upd (upd (fun _ => 0) 1 (5 : Int32)) 2 (5 : Int32)) 6 (6 : Int32)) 7 (4 : Int32))))] H := hP
  have hD : va_D A [(aS, .inr (3, [.ref aC])), (aC, .inl (cyI, 225, .inl (upd (upd (upd (upd (fun _ => 0) 1 (5 : Int32)) 2 (5 : Int32)) 6 (6 : Int32)) 7 (4 : Int32))))] := hD
  refine lv_aload_n hx hb dX3_init_44 rfl (lv_at hl 0 rfl) ?_
  refine va_get (D := D) (ci := 3) (v := .ref aC) (C := RX3) (T := TX3) (N := 1) hx hb hts mi_X3_init_X3 hown hK.1 hP 0 rfl rfl 0 (by decide) (hts _ mm_X3_init_5) (fun _ h9 => h9) rfl dX3_init_45 ?_
  refine lv_bipush (v := (8 : Int32)) hx hb dX3_init_48 (by decide) ?_
  refine lv_bipush (v := (20 : Int32)) hx hb dX3_init_50 (by decide) ?_
  refine x_iast (f1 := (upd (upd (upd (upd (upd (fun _ => 0) 1 (5 : Int32)) 2 (5 : Int32)) 6 (6 : Int32)) 7 (4 : Int32)) 8 (20 : Int32))) hx hb hK hP hD hS 1 rfl (show ¬ ((8 : Int32) < 0 ∨ 225 ≤ (8 : Int32).toNatClampNeg) by decide) (by rw [show (8 : Int32).toNatClampNeg = 8 from by decide]) dX3_init_52 (fun H locs hP hD hS => ?_)
  have hP : va_P D vwCl [(aS, .inr (3, [.ref aC])), (aC, .inl (cyI, 225, .inl (upd (upd (upd (upd (upd (fun _ => 0) 1 (5 : Int32)) 2 (5 : Int32)) 6 (6 : Int32)) 7 (4 : Int32)) 8 (20 : Int32))))] H := hP
  have hD : va_D A [(aS, .inr (3, [.ref aC])), (aC, .inl (cyI, 225, .inl (upd (upd (upd (upd (upd (fun _ => 0) 1 (5 : Int32)) 2 (5 : Int32)) 6 (6 : Int32)) 7 (4 : Int32)) 8 (20 : Int32))))] := hD
  have hP9 := hP.sub (ws' := [(aS, .inr (3, [.ref aC])), (aC, .inl (cyI, 225, .inl (upd (upd (upd (upd (upd (fun _ => 0) 1 (5 : Int32)) 2 (5 : Int32)) 6 (6 : Int32)) 7 (4 : Int32)) 8 (20 : Int32))))]) [0, 1] rfl
  have hD9 := hD.sub (ws' := [(aS, .inr (3, [.ref aC])), (aC, .inl (cyI, 225, .inl (upd (upd (upd (upd (upd (fun _ => 0) 1 (5 : Int32)) 2 (5 : Int32)) 6 (6 : Int32)) 7 (4 : Int32)) 8 (20 : Int32))))]) [0, 1] (by decide) rfl
  exact W.vret hx hb hr (fun t ht hW => ⟨⟨(), rfl, trivial, aC, by rw [ht]; exact hP9, hD9⟩, hS.F ht⟩) hS.2.2 dX3_init_53
theorem mm_X0_init_1 : Cond.methodLink RX0 5 objectInit ∈ wsX0_init := List.mem_of_getElem? (i := 1) rfl
theorem mm_X0_init_2 : Cond.instanceMethod objectInit ∈ wsX0_init := List.mem_of_getElem? (i := 2) rfl
theorem mm_X0_init_3 : Cond.code objectInit ⟨#[0xb1]⟩ 1 none ∈ wsX0_init := List.mem_of_getElem? (i := 3) rfl
theorem mm_X0_init_4 : Cond.arrayClass .int ∈ wsX0_init := List.mem_of_getElem? (i := 4) rfl
theorem mm_X0_init_5 : Cond.fieldLink RX0 13 "RollerMesh$History" "states" "[I" ∈ wsX0_init := List.mem_of_getElem? (i := 5) rfl
theorem mi_X0_init_X0 : ∀ w ∈ wsX00, w ∈ wsX0_init := fun _ h => List.mem_cons_of_mem _ (List.mem_append_right _ h)
set_option maxHeartbeats 4000000 in
set_option maxRecDepth 100000 in
theorem c_X0_init (l : Launch) (D : va_G) (cyI cyZ : ClassId) (aH sz : Nat) : Met l yX0_init wsX0_init ({ frames := 1, cells := 1, slots := 1575, locals := 20 }) (x_PM D cyI cyZ [.ref aH] [(aH, .inr (0, [.null, .int 0, .int 0]))] sz) (va_Qv (fun (_ : Unit) => True) (fun _ => fun t => ∃ aHs : Nat, va_P D vwCl [(aH, .inr (0, [.ref aHs, .int 0, .int 0])), (aHs, .inl (cyI, 1575, .inl (fun _ => 0)))] t.heap ∧ va_D (va_A [(aH, .inr (0, [.null, .int 0, .int 0]))] sz) [(aH, .inr (0, [.ref aHs, .int 0, .int 0])), (aHs, .inl (cyI, 1575, .inl (fun _ => 0)))]) (va_A [(aH, .inr (0, [.null, .int 0, .int 0]))] sz)) 1 1575 (va_A [(aH, .inr (0, [.null, .int 0, .int 0]))] sz) := by
  refine Met.ofW (cc := cX0_init) (maxL := 1) (ret := none) (by decide) rfl ?_
  intro p e s m args below meth c s₁ B hml hv
  obtain ⟨rfl, hsz, hP, hK, hD0⟩ := hv
  have hx := B.exec
  have hb := B.bytes
  have hr := B.returns
  have hts := atoms_spec (ws := wsX0_init) B.pre
  have hown : s.vm.findClass RX0 = some m.cls := findClass_of_methodNamed B.named
  have hlocks := B.notSynchronized
  have hin : meth.name = "<init>" := (name_of_methodNamed B.named B.method).1
  subst hsz
  have hD := hD0.self (sz := s.heap.size)
  generalize hAe : va_A [(aH, .inr (0, [.null, .int 0, .int 0]))] s.heap.size = A at hD ⊢
  have hA : ∀ q : Nat, s.heap.size ≤ q → A q := fun q h => by rw [← hAe]; exact Or.inr h
  have hS : va_S A s.heap s.heap [] := va_S.rf
  have hP : va_P D vwCl [(aH, .inr (0, [.null, .int 0, .int 0]))] s.heap := hP
  have hl := lv_entry ([.ref aH]) (n := 1) (Nat.le_of_ble_eq_true rfl)
  rw [lg_entry_eq]
  generalize (lg_sl ([.ref aH]) ++ List.replicate (1 - (lg_sl ([.ref aH])).length) Slot.unset).toArray = ls at hl ⊢
  have hl : lv_has ls 1 [(0, .ref aH)] := hl
  refine lv_aload_n hx hb dX0_init_0 rfl (lv_at hl 0 rfl) ?_
  refine W.objInit hx hb hown (hts _ mm_X0_init_1) (hts _ mm_X0_init_2) (hts _ mm_X0_init_3) rfl (by rw [hml]; exact hl.1) rfl dX0_init_1 (Nat.le_of_ble_eq_true rfl) (Nat.le_of_ble_eq_true rfl) ?_
  refine W.eq (g2 := F0 m 4 ls []) rfl ?_
  refine lv_aload_n hx hb dX0_init_4 rfl (lv_at hl 0 rfl) ?_
  refine lv_sipush (v := (1575 : Int32)) hx hb dX0_init_5 (by decide) ?_
  refine x_newI (N' := 1575) (f0 := fun _ => 0) hx hb (hts _ mm_X0_init_4) hK hP hD hS hA (by decide) (by decide) (Nat.le_of_ble_eq_true rfl) (Nat.le_of_ble_eq_true rfl) (Nat.le_of_ble_eq_true rfl) (fun _ => rfl) dX0_init_8 (fun aHs H hP hD hS => ?_)
  have hP : va_P D vwCl [(aH, .inr (0, [.null, .int 0, .int 0])), (aHs, .inl (cyI, 1575, .inl (fun _ => 0)))] H := hP
  have hD : va_D A [(aH, .inr (0, [.null, .int 0, .int 0])), (aHs, .inl (cyI, 1575, .inl (fun _ => 0)))] := hD
  refine W.widen (k := 1) (n := 1575) (Nat.le_of_ble_eq_true rfl) (Nat.le_of_ble_eq_true rfl) ?_
  refine va_putF (D := D) (ci := 0) (v := .ref aHs) (ty := .array .int) (C := RX0) (T := TX0) (N := 3) hx hb hts mi_X0_init_X0 tyX0 tyX0_ok nmX0 hown hK.1 hP hD hS 0 rfl rfl 0 (by decide) (hts _ mm_X0_init_5) (fun _ h9 => h9) rfl hin rfl (by decide +kernel) rfl rfl (Nat.le_of_ble_eq_true rfl) dX0_init_10 (fun H locs hP hD hS => ?_)
  have hP : va_P D vwCl [(aH, .inr (0, [.ref aHs, .int 0, .int 0])), (aHs, .inl (cyI, 1575, .inl (fun _ => 0)))] H := hP
  have hD : va_D A [(aH, .inr (0, [.ref aHs, .int 0, .int 0])), (aHs, .inl (cyI, 1575, .inl (fun _ => 0)))] := hD
  have hP9 := hP.sub (ws' := [(aH, .inr (0, [.ref aHs, .int 0, .int 0])), (aHs, .inl (cyI, 1575, .inl (fun _ => 0)))]) [0, 1] rfl
  have hD9 := hD.sub (ws' := [(aH, .inr (0, [.ref aHs, .int 0, .int 0])), (aHs, .inl (cyI, 1575, .inl (fun _ => 0)))]) [0, 1] (by decide) rfl
  exact W.vret hx hb hr (fun t ht hW => ⟨⟨(), rfl, trivial, aHs, by rw [ht]; exact hP9, hD9⟩, hS.F ht⟩) hS.2.2 dX0_init_13
theorem mm_X4_init_1 : Cond.methodLink RX4 3 objectInit ∈ wsX4_init := List.mem_of_getElem? (i := 1) rfl
theorem mm_X4_init_2 : Cond.instanceMethod objectInit ∈ wsX4_init := List.mem_of_getElem? (i := 2) rfl
theorem mm_X4_init_3 : Cond.code objectInit ⟨#[0xb1]⟩ 1 none ∈ wsX4_init := List.mem_of_getElem? (i := 3) rfl
theorem mm_X4_init_4 : Cond.arrayClass .int ∈ wsX4_init := List.mem_of_getElem? (i := 4) rfl
theorem mm_X4_init_5 : Cond.fieldLink RX4 13 "RollerMesh$Slots" "states" "[I" ∈ wsX4_init := List.mem_of_getElem? (i := 5) rfl
theorem mi_X4_init_X4 : ∀ w ∈ wsX40, w ∈ wsX4_init := fun _ h => List.mem_cons_of_mem _ (List.mem_append_right _ h)
set_option maxHeartbeats 4000000 in
set_option maxRecDepth 100000 in
theorem c_X4_init (l : Launch) (D : va_G) (cyI cyZ : ClassId) (aL sz : Nat) : Met l yX4_init wsX4_init ({ frames := 1, cells := 1, slots := 450, locals := 20 }) (x_PM D cyI cyZ [.ref aL] [(aL, .inr (4, [.null, .int 0]))] sz) (va_Qv (fun (_ : Unit) => True) (fun _ => fun t => ∃ aLs : Nat, va_P D vwCl [(aL, .inr (4, [.ref aLs, .int 0])), (aLs, .inl (cyI, 450, .inl (fun _ => 0)))] t.heap ∧ va_D (va_A [(aL, .inr (4, [.null, .int 0]))] sz) [(aL, .inr (4, [.ref aLs, .int 0])), (aLs, .inl (cyI, 450, .inl (fun _ => 0)))]) (va_A [(aL, .inr (4, [.null, .int 0]))] sz)) 1 450 (va_A [(aL, .inr (4, [.null, .int 0]))] sz) := by
  refine Met.ofW (cc := cX4_init) (maxL := 1) (ret := none) (by decide) rfl ?_
  intro p e s m args below meth c s₁ B hml hv
  obtain ⟨rfl, hsz, hP, hK, hD0⟩ := hv
  have hx := B.exec
  have hb := B.bytes
  have hr := B.returns
  have hts := atoms_spec (ws := wsX4_init) B.pre
  have hown : s.vm.findClass RX4 = some m.cls := findClass_of_methodNamed B.named
  have hlocks := B.notSynchronized
  have hin : meth.name = "<init>" := (name_of_methodNamed B.named B.method).1
  subst hsz
  have hD := hD0.self (sz := s.heap.size)
  generalize hAe : va_A [(aL, .inr (4, [.null, .int 0]))] s.heap.size = A at hD ⊢
  have hA : ∀ q : Nat, s.heap.size ≤ q → A q := fun q h => by rw [← hAe]; exact Or.inr h
  have hS : va_S A s.heap s.heap [] := va_S.rf
  have hP : va_P D vwCl [(aL, .inr (4, [.null, .int 0]))] s.heap := hP
  have hl := lv_entry ([.ref aL]) (n := 1) (Nat.le_of_ble_eq_true rfl)
  rw [lg_entry_eq]
  generalize (lg_sl ([.ref aL]) ++ List.replicate (1 - (lg_sl ([.ref aL])).length) Slot.unset).toArray = ls at hl ⊢
  have hl : lv_has ls 1 [(0, .ref aL)] := hl
  refine lv_aload_n hx hb dX4_init_0 rfl (lv_at hl 0 rfl) ?_
  refine W.objInit hx hb hown (hts _ mm_X4_init_1) (hts _ mm_X4_init_2) (hts _ mm_X4_init_3) rfl (by rw [hml]; exact hl.1) rfl dX4_init_1 (Nat.le_of_ble_eq_true rfl) (Nat.le_of_ble_eq_true rfl) ?_
  refine W.eq (g2 := F0 m 4 ls []) rfl ?_
  refine lv_aload_n hx hb dX4_init_4 rfl (lv_at hl 0 rfl) ?_
  refine lv_sipush (v := (450 : Int32)) hx hb dX4_init_5 (by decide) ?_
  refine x_newI (N' := 450) (f0 := fun _ => 0) hx hb (hts _ mm_X4_init_4) hK hP hD hS hA (by decide) (by decide) (Nat.le_of_ble_eq_true rfl) (Nat.le_of_ble_eq_true rfl) (Nat.le_of_ble_eq_true rfl) (fun _ => rfl) dX4_init_8 (fun aLs H hP hD hS => ?_)
  have hP : va_P D vwCl [(aL, .inr (4, [.null, .int 0])), (aLs, .inl (cyI, 450, .inl (fun _ => 0)))] H := hP
  have hD : va_D A [(aL, .inr (4, [.null, .int 0])), (aLs, .inl (cyI, 450, .inl (fun _ => 0)))] := hD
  refine W.widen (k := 1) (n := 450) (Nat.le_of_ble_eq_true rfl) (Nat.le_of_ble_eq_true rfl) ?_
  refine va_putF (D := D) (ci := 4) (v := .ref aLs) (ty := .array .int) (C := RX4) (T := TX4) (N := 2) hx hb hts mi_X4_init_X4 tyX4 tyX4_ok nmX4 hown hK.1 hP hD hS 0 rfl rfl 0 (by decide) (hts _ mm_X4_init_5) (fun _ h9 => h9) rfl hin rfl (by decide +kernel) rfl rfl (Nat.le_of_ble_eq_true rfl) dX4_init_10 (fun H locs hP hD hS => ?_)
  have hP : va_P D vwCl [(aL, .inr (4, [.ref aLs, .int 0])), (aLs, .inl (cyI, 450, .inl (fun _ => 0)))] H := hP
  have hD : va_D A [(aL, .inr (4, [.ref aLs, .int 0])), (aLs, .inl (cyI, 450, .inl (fun _ => 0)))] := hD
  have hP9 := hP.sub (ws' := [(aL, .inr (4, [.ref aLs, .int 0])), (aLs, .inl (cyI, 450, .inl (fun _ => 0)))]) [0, 1] rfl
  have hD9 := hD.sub (ws' := [(aL, .inr (4, [.ref aLs, .int 0])), (aLs, .inl (cyI, 450, .inl (fun _ => 0)))]) [0, 1] (by decide) rfl
  exact W.vret hx hb hr (fun t ht hW => ⟨⟨(), rfl, trivial, aLs, by rw [ht]; exact hP9, hD9⟩, hS.F ht⟩) hS.2.2 dX4_init_13
theorem mm_X1_init_1 : Cond.methodLink RX1 3 objectInit ∈ wsX1_init := List.mem_of_getElem? (i := 1) rfl
theorem mm_X1_init_2 : Cond.instanceMethod objectInit ∈ wsX1_init := List.mem_of_getElem? (i := 2) rfl
theorem mm_X1_init_3 : Cond.code objectInit ⟨#[0xb1]⟩ 1 none ∈ wsX1_init := List.mem_of_getElem? (i := 3) rfl
theorem mm_X1_init_4 : Cond.arrayClass .int ∈ wsX1_init := List.mem_of_getElem? (i := 4) rfl
theorem mm_X1_init_5 : Cond.fieldLink RX1 11 "RollerMesh$Pad" "codes" "[I" ∈ wsX1_init := List.mem_of_getElem? (i := 5) rfl
theorem mi_X1_init_X1 : ∀ w ∈ wsX10, w ∈ wsX1_init := fun _ h => List.mem_cons_of_mem _ (List.mem_append_right _ h)
set_option maxHeartbeats 4000000 in
set_option maxRecDepth 100000 in
theorem c_X1_init (l : Launch) (D : va_G) (cyI cyZ : ClassId) (aP sz : Nat) : Met l yX1_init wsX1_init ({ frames := 1, cells := 1, slots := 80, locals := 20 }) (x_PM D cyI cyZ [.ref aP] [(aP, .inr (1, [.null, .int 0]))] sz) (va_Qv (fun (_ : Unit) => True) (fun _ => fun t => ∃ aPc : Nat, va_P D vwCl [(aP, .inr (1, [.ref aPc, .int 0])), (aPc, .inl (cyI, 80, .inl (fun _ => 0)))] t.heap ∧ va_D (va_A [(aP, .inr (1, [.null, .int 0]))] sz) [(aP, .inr (1, [.ref aPc, .int 0])), (aPc, .inl (cyI, 80, .inl (fun _ => 0)))]) (va_A [(aP, .inr (1, [.null, .int 0]))] sz)) 1 80 (va_A [(aP, .inr (1, [.null, .int 0]))] sz) := by
  refine Met.ofW (cc := cX1_init) (maxL := 1) (ret := none) (by decide) rfl ?_
  intro p e s m args below meth c s₁ B hml hv
  obtain ⟨rfl, hsz, hP, hK, hD0⟩ := hv
  have hx := B.exec
  have hb := B.bytes
  have hr := B.returns
  have hts := atoms_spec (ws := wsX1_init) B.pre
  have hown : s.vm.findClass RX1 = some m.cls := findClass_of_methodNamed B.named
  have hlocks := B.notSynchronized
  have hin : meth.name = "<init>" := (name_of_methodNamed B.named B.method).1
  subst hsz
  have hD := hD0.self (sz := s.heap.size)
  generalize hAe : va_A [(aP, .inr (1, [.null, .int 0]))] s.heap.size = A at hD ⊢
  have hA : ∀ q : Nat, s.heap.size ≤ q → A q := fun q h => by rw [← hAe]; exact Or.inr h
  have hS : va_S A s.heap s.heap [] := va_S.rf
  have hP : va_P D vwCl [(aP, .inr (1, [.null, .int 0]))] s.heap := hP
  have hl := lv_entry ([.ref aP]) (n := 1) (Nat.le_of_ble_eq_true rfl)
  rw [lg_entry_eq]
  generalize (lg_sl ([.ref aP]) ++ List.replicate (1 - (lg_sl ([.ref aP])).length) Slot.unset).toArray = ls at hl ⊢
  have hl : lv_has ls 1 [(0, .ref aP)] := hl
  refine lv_aload_n hx hb dX1_init_0 rfl (lv_at hl 0 rfl) ?_
  refine W.objInit hx hb hown (hts _ mm_X1_init_1) (hts _ mm_X1_init_2) (hts _ mm_X1_init_3) rfl (by rw [hml]; exact hl.1) rfl dX1_init_1 (Nat.le_of_ble_eq_true rfl) (Nat.le_of_ble_eq_true rfl) ?_
  refine W.eq (g2 := F0 m 4 ls []) rfl ?_
  refine lv_aload_n hx hb dX1_init_4 rfl (lv_at hl 0 rfl) ?_
  refine lv_bipush (v := (80 : Int32)) hx hb dX1_init_5 (by decide) ?_
  refine x_newI (N' := 80) (f0 := fun _ => 0) hx hb (hts _ mm_X1_init_4) hK hP hD hS hA (by decide) (by decide) (Nat.le_of_ble_eq_true rfl) (Nat.le_of_ble_eq_true rfl) (Nat.le_of_ble_eq_true rfl) (fun _ => rfl) dX1_init_7 (fun aPc H hP hD hS => ?_)
  have hP : va_P D vwCl [(aP, .inr (1, [.null, .int 0])), (aPc, .inl (cyI, 80, .inl (fun _ => 0)))] H := hP
  have hD : va_D A [(aP, .inr (1, [.null, .int 0])), (aPc, .inl (cyI, 80, .inl (fun _ => 0)))] := hD
  refine W.widen (k := 1) (n := 80) (Nat.le_of_ble_eq_true rfl) (Nat.le_of_ble_eq_true rfl) ?_
  refine va_putF (D := D) (ci := 1) (v := .ref aPc) (ty := .array .int) (C := RX1) (T := TX1) (N := 2) hx hb hts mi_X1_init_X1 tyX1 tyX1_ok nmX1 hown hK.1 hP hD hS 0 rfl rfl 0 (by decide) (hts _ mm_X1_init_5) (fun _ h9 => h9) rfl hin rfl (by decide +kernel) rfl rfl (Nat.le_of_ble_eq_true rfl) dX1_init_9 (fun H locs hP hD hS => ?_)
  have hP : va_P D vwCl [(aP, .inr (1, [.ref aPc, .int 0])), (aPc, .inl (cyI, 80, .inl (fun _ => 0)))] H := hP
  have hD : va_D A [(aP, .inr (1, [.ref aPc, .int 0])), (aPc, .inl (cyI, 80, .inl (fun _ => 0)))] := hD
  have hP9 := hP.sub (ws' := [(aP, .inr (1, [.ref aPc, .int 0])), (aPc, .inl (cyI, 80, .inl (fun _ => 0)))]) [0, 1] rfl
  have hD9 := hD.sub (ws' := [(aP, .inr (1, [.ref aPc, .int 0])), (aPc, .inl (cyI, 80, .inl (fun _ => 0)))]) [0, 1] (by decide) rfl
  exact W.vret hx hb hr (fun t ht hW => ⟨⟨(), rfl, trivial, aPc, by rw [ht]; exact hP9, hD9⟩, hS.F ht⟩) hS.2.2 dX1_init_12
theorem mm_X2_init_1 : Cond.methodLink RX2 5 objectInit ∈ wsX2_init := List.mem_of_getElem? (i := 1) rfl
theorem mm_X2_init_2 : Cond.instanceMethod objectInit ∈ wsX2_init := List.mem_of_getElem? (i := 2) rfl
theorem mm_X2_init_3 : Cond.code objectInit ⟨#[0xb1]⟩ 1 none ∈ wsX2_init := List.mem_of_getElem? (i := 3) rfl
theorem mm_X2_init_4 : Cond.arrayClass .int ∈ wsX2_init := List.mem_of_getElem? (i := 4) rfl
theorem mm_X2_init_5 : Cond.fieldLink RX2 13 "RollerMesh$Reader" "numbers" "[I" ∈ wsX2_init := List.mem_of_getElem? (i := 5) rfl
theorem mm_X2_init_6 : Cond.fieldLink RX2 17 "RollerMesh$Reader" "pad" "LRollerMesh$Pad;" ∈ wsX2_init := List.mem_of_getElem? (i := 6) rfl
theorem mi_X2_init_X2 : ∀ w ∈ wsX20, w ∈ wsX2_init := fun _ h => List.mem_cons_of_mem _ (List.mem_append_right _ h)
set_option maxHeartbeats 4000000 in
set_option maxRecDepth 100000 in
theorem c_X2_init (l : Launch) (D : va_G) (cyI cyZ : ClassId) (aR aP sz : Nat) : Met l yX2_init wsX2_init ({ frames := 1, cells := 1, slots := 40, locals := 20 }) (x_PM D cyI cyZ [.ref aR, .ref aP] [(aR, .inr (2, [.null, .null, .int 0, .int 0, .int 0]))] sz) (va_Qv (fun (_ : Unit) => True) (fun _ => fun t => ∃ aRn : Nat, va_P D vwCl [(aR, .inr (2, [.ref aP, .ref aRn, .int 0, .int 0, .int 0])), (aRn, .inl (cyI, 40, .inl (fun _ => 0)))] t.heap ∧ va_D (va_A [(aR, .inr (2, [.null, .null, .int 0, .int 0, .int 0]))] sz) [(aR, .inr (2, [.ref aP, .ref aRn, .int 0, .int 0, .int 0])), (aRn, .inl (cyI, 40, .inl (fun _ => 0)))]) (va_A [(aR, .inr (2, [.null, .null, .int 0, .int 0, .int 0]))] sz)) 1 40 (va_A [(aR, .inr (2, [.null, .null, .int 0, .int 0, .int 0]))] sz) := by
  refine Met.ofW (cc := cX2_init) (maxL := 2) (ret := none) (by decide) rfl ?_
  intro p e s m args below meth c s₁ B hml hv
  obtain ⟨rfl, hsz, hP, hK, hD0⟩ := hv
  have hx := B.exec
  have hb := B.bytes
  have hr := B.returns
  have hts := atoms_spec (ws := wsX2_init) B.pre
  have hown : s.vm.findClass RX2 = some m.cls := findClass_of_methodNamed B.named
  have hlocks := B.notSynchronized
  have hin : meth.name = "<init>" := (name_of_methodNamed B.named B.method).1
  subst hsz
  have hD := hD0.self (sz := s.heap.size)
  generalize hAe : va_A [(aR, .inr (2, [.null, .null, .int 0, .int 0, .int 0]))] s.heap.size = A at hD ⊢
  have hA : ∀ q : Nat, s.heap.size ≤ q → A q := fun q h => by rw [← hAe]; exact Or.inr h
  have hS : va_S A s.heap s.heap [] := va_S.rf
  have hP : va_P D vwCl [(aR, .inr (2, [.null, .null, .int 0, .int 0, .int 0]))] s.heap := hP
  have hl := lv_entry ([.ref aR, .ref aP]) (n := 2) (Nat.le_of_ble_eq_true rfl)
  rw [lg_entry_eq]
  generalize (lg_sl ([.ref aR, .ref aP]) ++ List.replicate (2 - (lg_sl ([.ref aR, .ref aP])).length) Slot.unset).toArray = ls at hl ⊢
  have hl : lv_has ls 2 [(0, .ref aR), (1, .ref aP)] := hl
  refine lv_aload_n hx hb dX2_init_0 rfl (lv_at hl 0 rfl) ?_
  refine W.objInit hx hb hown (hts _ mm_X2_init_1) (hts _ mm_X2_init_2) (hts _ mm_X2_init_3) rfl (by rw [hml]; exact hl.1) rfl dX2_init_1 (Nat.le_of_ble_eq_true rfl) (Nat.le_of_ble_eq_true rfl) ?_
  refine W.eq (g2 := F0 m 4 ls []) rfl ?_
  refine lv_aload_n hx hb dX2_init_4 rfl (lv_at hl 0 rfl) ?_
  refine lv_bipush (v := (40 : Int32)) hx hb dX2_init_5 (by decide) ?_
  refine x_newI (N' := 40) (f0 := fun _ => 0) hx hb (hts _ mm_X2_init_4) hK hP hD hS hA (by decide) (by decide) (Nat.le_of_ble_eq_true rfl) (Nat.le_of_ble_eq_true rfl) (Nat.le_of_ble_eq_true rfl) (fun _ => rfl) dX2_init_7 (fun aRn H hP hD hS => ?_)
  have hP : va_P D vwCl [(aR, .inr (2, [.null, .null, .int 0, .int 0, .int 0])), (aRn, .inl (cyI, 40, .inl (fun _ => 0)))] H := hP
  have hD : va_D A [(aR, .inr (2, [.null, .null, .int 0, .int 0, .int 0])), (aRn, .inl (cyI, 40, .inl (fun _ => 0)))] := hD
  refine W.widen (k := 1) (n := 40) (Nat.le_of_ble_eq_true rfl) (Nat.le_of_ble_eq_true rfl) ?_
  refine va_putF (D := D) (ci := 2) (v := .ref aRn) (ty := .array .int) (C := RX2) (T := TX2) (N := 5) hx hb hts mi_X2_init_X2 tyX2 tyX2_ok nmX2 hown hK.1 hP hD hS 0 rfl rfl 1 (by decide) (hts _ mm_X2_init_5) (fun _ h9 => h9) rfl hin rfl (by decide +kernel) rfl rfl (Nat.le_of_ble_eq_true rfl) dX2_init_9 (fun H locs hP hD hS => ?_)
  have hP : va_P D vwCl [(aR, .inr (2, [.null, .ref aRn, .int 0, .int 0, .int 0])), (aRn, .inl (cyI, 40, .inl (fun _ => 0)))] H := hP
  have hD : va_D A [(aR, .inr (2, [.null, .ref aRn, .int 0, .int 0, .int 0])), (aRn, .inl (cyI, 40, .inl (fun _ => 0)))] := hD
  refine lv_aload_n hx hb dX2_init_12 rfl (lv_at hl 0 rfl) ?_
  refine lv_aload_n hx hb dX2_init_13 rfl (lv_at hl 1 rfl) ?_
  refine va_putF (D := D) (ci := 2) (v := .ref aP) (ty := .object "RollerMesh$Pad") (C := RX2) (T := TX2) (N := 5) hx hb hts mi_X2_init_X2 tyX2 tyX2_ok nmX2 hown hK.1 hP hD hS 0 rfl rfl 0 (by decide) (hts _ mm_X2_init_6) (fun _ h9 => h9) rfl hin rfl (by decide +kernel) rfl rfl (Nat.le_of_ble_eq_true rfl) dX2_init_14 (fun H locs hP hD hS => ?_)
  have hP : va_P D vwCl [(aR, .inr (2, [.ref aP, .ref aRn, .int 0, .int 0, .int 0])), (aRn, .inl (cyI, 40, .inl (fun _ => 0)))] H := hP
  have hD : va_D A [(aR, .inr (2, [.ref aP, .ref aRn, .int 0, .int 0, .int 0])), (aRn, .inl (cyI, 40, .inl (fun _ => 0)))] := hD
  have hP9 := hP.sub (ws' := [(aR, .inr (2, [.ref aP, .ref aRn, .int 0, .int 0, .int 0])), (aRn, .inl (cyI, 40, .inl (fun _ => 0)))]) [0, 1] rfl
  have hD9 := hD.sub (ws' := [(aR, .inr (2, [.ref aP, .ref aRn, .int 0, .int 0, .int 0])), (aRn, .inl (cyI, 40, .inl (fun _ => 0)))]) [0, 1] (by decide) rfl
  exact W.vret hx hb hr (fun t ht hW => ⟨⟨(), rfl, trivial, aRn, by rw [ht]; exact hP9, hD9⟩, hS.F ht⟩) hS.2.2 dX2_init_17
theorem mm_X5_init_1 : Cond.methodLink RX5 3 objectInit ∈ wsX5_init := List.mem_of_getElem? (i := 1) rfl
theorem mm_X5_init_2 : Cond.instanceMethod objectInit ∈ wsX5_init := List.mem_of_getElem? (i := 2) rfl
theorem mm_X5_init_3 : Cond.code objectInit ⟨#[0xb1]⟩ 1 none ∈ wsX5_init := List.mem_of_getElem? (i := 3) rfl
theorem mm_X5_init_4 : Cond.arrayClass .int ∈ wsX5_init := List.mem_of_getElem? (i := 4) rfl
theorem mm_X5_init_5 : Cond.fieldLink RX5 11 "RollerMesh$Turn" "presses" "[I" ∈ wsX5_init := List.mem_of_getElem? (i := 5) rfl
theorem mi_X5_init_X5 : ∀ w ∈ wsX50, w ∈ wsX5_init := fun _ h => List.mem_cons_of_mem _ (List.mem_append_right _ h)
set_option maxHeartbeats 4000000 in
set_option maxRecDepth 100000 in
theorem c_X5_init (l : Launch) (D : va_G) (cyI cyZ : ClassId) (aT sz : Nat) : Met l yX5_init wsX5_init ({ frames := 1, cells := 1, slots := 552, locals := 20 }) (x_PM D cyI cyZ [.ref aT] [(aT, .inr (5, [.null, .int 0, .int 0, .int 0]))] sz) (va_Qv (fun (_ : Unit) => True) (fun _ => fun t => ∃ aTp : Nat, va_P D vwCl [(aT, .inr (5, [.ref aTp, .int 0, .int 0, .int 0])), (aTp, .inl (cyI, 552, .inl (fun _ => 0)))] t.heap ∧ va_D (va_A [(aT, .inr (5, [.null, .int 0, .int 0, .int 0]))] sz) [(aT, .inr (5, [.ref aTp, .int 0, .int 0, .int 0])), (aTp, .inl (cyI, 552, .inl (fun _ => 0)))]) (va_A [(aT, .inr (5, [.null, .int 0, .int 0, .int 0]))] sz)) 1 552 (va_A [(aT, .inr (5, [.null, .int 0, .int 0, .int 0]))] sz) := by
  refine Met.ofW (cc := cX5_init) (maxL := 1) (ret := none) (by decide) rfl ?_
  intro p e s m args below meth c s₁ B hml hv
  obtain ⟨rfl, hsz, hP, hK, hD0⟩ := hv
  have hx := B.exec
  have hb := B.bytes
  have hr := B.returns
  have hts := atoms_spec (ws := wsX5_init) B.pre
  have hown : s.vm.findClass RX5 = some m.cls := findClass_of_methodNamed B.named
  have hlocks := B.notSynchronized
  have hin : meth.name = "<init>" := (name_of_methodNamed B.named B.method).1
  subst hsz
  have hD := hD0.self (sz := s.heap.size)
  generalize hAe : va_A [(aT, .inr (5, [.null, .int 0, .int 0, .int 0]))] s.heap.size = A at hD ⊢
  have hA : ∀ q : Nat, s.heap.size ≤ q → A q := fun q h => by rw [← hAe]; exact Or.inr h
  have hS : va_S A s.heap s.heap [] := va_S.rf
  have hP : va_P D vwCl [(aT, .inr (5, [.null, .int 0, .int 0, .int 0]))] s.heap := hP
  have hl := lv_entry ([.ref aT]) (n := 1) (Nat.le_of_ble_eq_true rfl)
  rw [lg_entry_eq]
  generalize (lg_sl ([.ref aT]) ++ List.replicate (1 - (lg_sl ([.ref aT])).length) Slot.unset).toArray = ls at hl ⊢
  have hl : lv_has ls 1 [(0, .ref aT)] := hl
  refine lv_aload_n hx hb dX5_init_0 rfl (lv_at hl 0 rfl) ?_
  refine W.objInit hx hb hown (hts _ mm_X5_init_1) (hts _ mm_X5_init_2) (hts _ mm_X5_init_3) rfl (by rw [hml]; exact hl.1) rfl dX5_init_1 (Nat.le_of_ble_eq_true rfl) (Nat.le_of_ble_eq_true rfl) ?_
  refine W.eq (g2 := F0 m 4 ls []) rfl ?_
  refine lv_aload_n hx hb dX5_init_4 rfl (lv_at hl 0 rfl) ?_
  refine lv_sipush (v := (552 : Int32)) hx hb dX5_init_5 (by decide) ?_
  refine x_newI (N' := 552) (f0 := fun _ => 0) hx hb (hts _ mm_X5_init_4) hK hP hD hS hA (by decide) (by decide) (Nat.le_of_ble_eq_true rfl) (Nat.le_of_ble_eq_true rfl) (Nat.le_of_ble_eq_true rfl) (fun _ => rfl) dX5_init_8 (fun aTp H hP hD hS => ?_)
  have hP : va_P D vwCl [(aT, .inr (5, [.null, .int 0, .int 0, .int 0])), (aTp, .inl (cyI, 552, .inl (fun _ => 0)))] H := hP
  have hD : va_D A [(aT, .inr (5, [.null, .int 0, .int 0, .int 0])), (aTp, .inl (cyI, 552, .inl (fun _ => 0)))] := hD
  refine W.widen (k := 1) (n := 552) (Nat.le_of_ble_eq_true rfl) (Nat.le_of_ble_eq_true rfl) ?_
  refine va_putF (D := D) (ci := 5) (v := .ref aTp) (ty := .array .int) (C := RX5) (T := TX5) (N := 4) hx hb hts mi_X5_init_X5 tyX5 tyX5_ok nmX5 hown hK.1 hP hD hS 0 rfl rfl 0 (by decide) (hts _ mm_X5_init_5) (fun _ h9 => h9) rfl hin rfl (by decide +kernel) rfl rfl (Nat.le_of_ble_eq_true rfl) dX5_init_10 (fun H locs hP hD hS => ?_)
  have hP : va_P D vwCl [(aT, .inr (5, [.ref aTp, .int 0, .int 0, .int 0])), (aTp, .inl (cyI, 552, .inl (fun _ => 0)))] H := hP
  have hD : va_D A [(aT, .inr (5, [.ref aTp, .int 0, .int 0, .int 0])), (aTp, .inl (cyI, 552, .inl (fun _ => 0)))] := hD
  have hP9 := hP.sub (ws' := [(aT, .inr (5, [.ref aTp, .int 0, .int 0, .int 0])), (aTp, .inl (cyI, 552, .inl (fun _ => 0)))]) [0, 1] rfl
  have hD9 := hD.sub (ws' := [(aT, .inr (5, [.ref aTp, .int 0, .int 0, .int 0])), (aTp, .inl (cyI, 552, .inl (fun _ => 0)))]) [0, 1] (by decide) rfl
  exact W.vret hx hb hr (fun t ht hW => ⟨⟨(), rfl, trivial, aTp, by rw [ht]; exact hP9, hD9⟩, hS.F ht⟩) hS.2.2 dX5_init_13
theorem mm_X6_init_1 : Cond.methodLink RX6 1 objectInit ∈ wsX6_init := List.mem_of_getElem? (i := 1) rfl
theorem mm_X6_init_2 : Cond.instanceMethod objectInit ∈ wsX6_init := List.mem_of_getElem? (i := 2) rfl
theorem mm_X6_init_3 : Cond.code objectInit ⟨#[0xb1]⟩ 1 none ∈ wsX6_init := List.mem_of_getElem? (i := 3) rfl
theorem mm_X6_init_4 : Cond.classLink RX6 7 RX3 ∈ wsX6_init := List.mem_of_getElem? (i := 4) rfl
theorem mm_X6_init_5 : Cond.instantiable RX3 1 ∈ wsX6_init := List.mem_of_getElem? (i := 5) rfl
theorem mm_X6_init_6 : Cond.initialized RX3 ∈ wsX6_init := List.mem_of_getElem? (i := 6) rfl
theorem mm_X6_init_7 : Cond.fieldLink RX6 10 "RollerMesh" "shop" "LRollerMesh$Shop;" ∈ wsX6_init := List.mem_of_getElem? (i := 7) rfl
theorem mm_X6_init_8 : Cond.classLink RX6 16 RX0 ∈ wsX6_init := List.mem_of_getElem? (i := 8) rfl
theorem mm_X6_init_9 : Cond.instantiable RX0 3 ∈ wsX6_init := List.mem_of_getElem? (i := 9) rfl
theorem mm_X6_init_10 : Cond.initialized RX0 ∈ wsX6_init := List.mem_of_getElem? (i := 10) rfl
theorem mm_X6_init_11 : Cond.fieldLink RX6 19 "RollerMesh" "history" "LRollerMesh$History;" ∈ wsX6_init := List.mem_of_getElem? (i := 11) rfl
theorem mm_X6_init_12 : Cond.classLink RX6 23 RX4 ∈ wsX6_init := List.mem_of_getElem? (i := 12) rfl
theorem mm_X6_init_13 : Cond.instantiable RX4 2 ∈ wsX6_init := List.mem_of_getElem? (i := 13) rfl
theorem mm_X6_init_14 : Cond.initialized RX4 ∈ wsX6_init := List.mem_of_getElem? (i := 14) rfl
theorem mm_X6_init_15 : Cond.fieldLink RX6 26 "RollerMesh" "slots" "LRollerMesh$Slots;" ∈ wsX6_init := List.mem_of_getElem? (i := 15) rfl
theorem mm_X6_init_16 : Cond.classLink RX6 30 RX1 ∈ wsX6_init := List.mem_of_getElem? (i := 16) rfl
theorem mm_X6_init_17 : Cond.instantiable RX1 2 ∈ wsX6_init := List.mem_of_getElem? (i := 17) rfl
theorem mm_X6_init_18 : Cond.initialized RX1 ∈ wsX6_init := List.mem_of_getElem? (i := 18) rfl
theorem mm_X6_init_19 : Cond.fieldLink RX6 33 "RollerMesh" "pad" "LRollerMesh$Pad;" ∈ wsX6_init := List.mem_of_getElem? (i := 19) rfl
theorem mm_X6_init_20 : Cond.classLink RX6 37 RX2 ∈ wsX6_init := List.mem_of_getElem? (i := 20) rfl
theorem mm_X6_init_21 : Cond.instantiable RX2 5 ∈ wsX6_init := List.mem_of_getElem? (i := 21) rfl
theorem mm_X6_init_22 : Cond.initialized RX2 ∈ wsX6_init := List.mem_of_getElem? (i := 22) rfl
theorem mm_X6_init_23 : Cond.fieldLink RX6 42 "RollerMesh" "reader" "LRollerMesh$Reader;" ∈ wsX6_init := List.mem_of_getElem? (i := 23) rfl
theorem mm_X6_init_24 : Cond.classLink RX6 46 RX5 ∈ wsX6_init := List.mem_of_getElem? (i := 24) rfl
theorem mm_X6_init_25 : Cond.instantiable RX5 4 ∈ wsX6_init := List.mem_of_getElem? (i := 25) rfl
theorem mm_X6_init_26 : Cond.initialized RX5 ∈ wsX6_init := List.mem_of_getElem? (i := 26) rfl
theorem mm_X6_init_27 : Cond.fieldLink RX6 49 "RollerMesh" "turn" "LRollerMesh$Turn;" ∈ wsX6_init := List.mem_of_getElem? (i := 27) rfl
theorem mm_X6_init_28 : Cond.methodLink RX6 9 yX3_init ∈ wsX6_init := List.mem_of_getElem? (i := 28) rfl
theorem mm_X6_init_29 : Cond.instanceMethod yX3_init ∈ wsX6_init := List.mem_of_getElem? (i := 29) rfl
theorem mm_X6_init_34 : Cond.instanceMethod yX0_init ∈ wsX6_init := List.mem_of_getElem? (i := 34) rfl
theorem mm_X6_init_38 : Cond.instanceMethod yX4_init ∈ wsX6_init := List.mem_of_getElem? (i := 38) rfl
theorem mm_X6_init_42 : Cond.instanceMethod yX1_init ∈ wsX6_init := List.mem_of_getElem? (i := 42) rfl
theorem mm_X6_init_46 : Cond.methodLink RX6 39 yX2_init ∈ wsX6_init := List.mem_of_getElem? (i := 46) rfl
theorem mm_X6_init_47 : Cond.instanceMethod yX2_init ∈ wsX6_init := List.mem_of_getElem? (i := 47) rfl
theorem mm_X6_init_52 : Cond.instanceMethod yX5_init ∈ wsX6_init := List.mem_of_getElem? (i := 52) rfl
theorem mi_X6_init_X0 : ∀ w ∈ wsX00, w ∈ wsX6_init := fun _ h => List.mem_cons_of_mem _ (List.mem_append_left _ (List.mem_append_left _ (List.mem_append_left _ (List.mem_append_left _ (List.mem_append_right _ h)))))
theorem mi_X6_init_X1 : ∀ w ∈ wsX10, w ∈ wsX6_init := fun _ h => List.mem_cons_of_mem _ (List.mem_append_left _ (List.mem_append_left _ (List.mem_append_right _ h)))
theorem mi_X6_init_X2 : ∀ w ∈ wsX20, w ∈ wsX6_init := fun _ h => List.mem_cons_of_mem _ (List.mem_append_left _ (List.mem_append_right _ h))
theorem mi_X6_init_X3 : ∀ w ∈ wsX30, w ∈ wsX6_init := fun _ h => List.mem_cons_of_mem _ (List.mem_append_left _ (List.mem_append_left _ (List.mem_append_left _ (List.mem_append_left _ (List.mem_append_left _ (List.mem_append_left _ (List.mem_append_right _ h)))))))
theorem mi_X6_init_X4 : ∀ w ∈ wsX40, w ∈ wsX6_init := fun _ h => List.mem_cons_of_mem _ (List.mem_append_left _ (List.mem_append_left _ (List.mem_append_left _ (List.mem_append_right _ h))))
theorem mi_X6_init_X5 : ∀ w ∈ wsX50, w ∈ wsX6_init := fun _ h => List.mem_cons_of_mem _ (List.mem_append_right _ h)
theorem mi_X6_init_X6 : ∀ w ∈ wsX60, w ∈ wsX6_init := fun _ h => List.mem_cons_of_mem _ (List.mem_append_left _ (List.mem_append_left _ (List.mem_append_left _ (List.mem_append_left _ (List.mem_append_left _ (List.mem_append_right _ h))))))
set_option maxHeartbeats 4000000 in
set_option maxRecDepth 100000 in
theorem c_X6_init (l : Launch) (D : va_G) (cyI cyZ : ClassId) (aM sz : Nat) : Met l yX6_init wsX6_init ({ frames := 2, cells := 12, slots := 2939, locals := 41 }) (x_PM D cyI cyZ [.ref aM] [(aM, .inr (6, [.null, .null, .null, .null, .null, .null]))] sz) (va_Qv (fun (_ : Unit) => True) (fun _ => fun t => ∃ aS aC aH aHs aL aLs aP aPc aR aRn aT aTp : Nat, va_P D vwCl [(aM, .inr (6, [.ref aS, .ref aH, .ref aL, .ref aP, .ref aR, .ref aT])), (aS, .inr (3, [.ref aC])), (aC, .inl (cyI, 225, .inl (upd (upd (upd (upd (upd (fun _ => 0) 1 (5 : Int32)) 2 (5 : Int32)) 6 (6 : Int32)) 7 (4 : Int32)) 8 (20 : Int32)))), (aH, .inr (0, [.ref aHs, .int 0, .int 0])), (aHs, .inl (cyI, 1575, .inl (fun _ => 0))), (aL, .inr (4, [.ref aLs, .int 0])), (aLs, .inl (cyI, 450, .inl (fun _ => 0))), (aP, .inr (1, [.ref aPc, .int 0])), (aPc, .inl (cyI, 80, .inl (fun _ => 0))), (aR, .inr (2, [.ref aP, .ref aRn, .int 0, .int 0, .int 0])), (aRn, .inl (cyI, 40, .inl (fun _ => 0))), (aT, .inr (5, [.ref aTp, .int 0, .int 0, .int 0])), (aTp, .inl (cyI, 552, .inl (fun _ => 0)))] t.heap ∧ va_D (va_A [(aM, .inr (6, [.null, .null, .null, .null, .null, .null]))] sz) [(aM, .inr (6, [.ref aS, .ref aH, .ref aL, .ref aP, .ref aR, .ref aT])), (aS, .inr (3, [.ref aC])), (aC, .inl (cyI, 225, .inl (upd (upd (upd (upd (upd (fun _ => 0) 1 (5 : Int32)) 2 (5 : Int32)) 6 (6 : Int32)) 7 (4 : Int32)) 8 (20 : Int32)))), (aH, .inr (0, [.ref aHs, .int 0, .int 0])), (aHs, .inl (cyI, 1575, .inl (fun _ => 0))), (aL, .inr (4, [.ref aLs, .int 0])), (aLs, .inl (cyI, 450, .inl (fun _ => 0))), (aP, .inr (1, [.ref aPc, .int 0])), (aPc, .inl (cyI, 80, .inl (fun _ => 0))), (aR, .inr (2, [.ref aP, .ref aRn, .int 0, .int 0, .int 0])), (aRn, .inl (cyI, 40, .inl (fun _ => 0))), (aT, .inr (5, [.ref aTp, .int 0, .int 0, .int 0])), (aTp, .inl (cyI, 552, .inl (fun _ => 0)))]) (va_A [(aM, .inr (6, [.null, .null, .null, .null, .null, .null]))] sz)) 12 2939 (va_A [(aM, .inr (6, [.null, .null, .null, .null, .null, .null]))] sz) := by
  refine Met.ofW (cc := cX6_init) (maxL := 1) (ret := none) (by decide) rfl ?_
  intro p e s m args below meth c s₁ B hml hv
  obtain ⟨rfl, hsz, hP, hK, hD0⟩ := hv
  have hx := B.exec
  have hb := B.bytes
  have hr := B.returns
  have hts := atoms_spec (ws := wsX6_init) B.pre
  have hown : s.vm.findClass RX6 = some m.cls := findClass_of_methodNamed B.named
  have hlocks := B.notSynchronized
  have hin : meth.name = "<init>" := (name_of_methodNamed B.named B.method).1
  subst hsz
  have hD := hD0.self (sz := s.heap.size)
  generalize hAe : va_A [(aM, .inr (6, [.null, .null, .null, .null, .null, .null]))] s.heap.size = A at hD ⊢
  have hA : ∀ q : Nat, s.heap.size ≤ q → A q := fun q h => by rw [← hAe]; exact Or.inr h
  have hS : va_S A s.heap s.heap [] := va_S.rf
  have hP : va_P D vwCl [(aM, .inr (6, [.null, .null, .null, .null, .null, .null]))] s.heap := hP
  have hl := lv_entry ([.ref aM]) (n := 1) (Nat.le_of_ble_eq_true rfl)
  rw [lg_entry_eq]
  generalize (lg_sl ([.ref aM]) ++ List.replicate (1 - (lg_sl ([.ref aM])).length) Slot.unset).toArray = ls at hl ⊢
  have hl : lv_has ls 1 [(0, .ref aM)] := hl
  refine lv_aload_n hx hb dX6_init_0 rfl (lv_at hl 0 rfl) ?_
  refine W.objInit hx hb hown (hts _ mm_X6_init_1) (hts _ mm_X6_init_2) (hts _ mm_X6_init_3) rfl (by rw [hml]; exact hl.1) rfl dX6_init_1 (Nat.le_of_ble_eq_true rfl) (Nat.le_of_ble_eq_true rfl) ?_
  refine W.eq (g2 := F0 m 4 ls []) rfl ?_
  refine lv_aload_n hx hb dX6_init_4 rfl (lv_at hl 0 rfl) ?_
  refine va_new (ci := 3) (fs := [.null]) (C := RX3) (T := TX3) (N := 1) hx hb hts mi_X6_init_X3 tyX3 tyX3_ok hown (hts _ mm_X6_init_4) (hts _ mm_X6_init_5) (hts _ mm_X6_init_6) hK.1 hP hD hS hA rfl (fun j hj => by rcases (show j = 0 by omega) with rfl <;> rfl) (Nat.le_of_ble_eq_true rfl) (Nat.le_of_ble_eq_true rfl) dX6_init_5 (fun aS H hP hD hS => ?_)
  have hP : va_P D vwCl [(aM, .inr (6, [.null, .null, .null, .null, .null, .null])), (aS, .inr (3, [.null]))] H := hP
  have hD : va_D A [(aM, .inr (6, [.null, .null, .null, .null, .null, .null])), (aS, .inr (3, [.null]))] := hD
  refine W.widen (k := 1) (n := 1) (Nat.le_of_ble_eq_true rfl) (Nat.le_of_ble_eq_true rfl) ?_
  refine lv_dup hx hb dX6_init_8 rfl ?_
  have hFc := va_free (wc := [(aS, .inr (3, [.null]))]) hD hS hA [1] rfl
  refine va_callv (va_runI (As := []) (rest := [.ref aS, .ref aM]) ⟨hx, hb, hml, hown, hts⟩ (c_X3_init l D cyI cyZ aS H.size) (cwI 0 hts gX6_init_X3_init rfl rfl rfl (hts _ mm_X6_init_6) (hts _ mm_X6_init_28) (hts _ mm_X6_init_29) rfl (by decide +kernel) ⟨Nat.le_of_ble_eq_true rfl, Nat.le_of_ble_eq_true rfl⟩) ⟨x_blindM, x_preM hK hP hD [1] rfl rfl⟩ rfl rfl hl.1 rfl (lv_room (Nat.le_of_ble_eq_true rfl)) dX6_init_9 ⟨Nat.le_of_ble_eq_true rfl, Nat.le_of_ble_eq_true rfl⟩) hS (fun q _ h => hFc q h) hFc (fun u t H1 locs ht hvm hw hB hz1 hk1 hS => ?_)
  obtain ⟨aC, hP1, hD1⟩ := hB
  rw [ht] at hP1
  obtain ⟨hP, hD⟩ := va_join (wr := [(aM, .inr (6, [.null, .null, .null, .null, .null, .null]))]) (w1 := [(aS, .inr (3, [.ref aC])), (aC, .inl (cyI, 225, .inl (upd (upd (upd (upd (upd (fun _ => 0) 1 (5 : Int32)) 2 (5 : Int32)) 6 (6 : Int32)) 7 (4 : Int32)) 8 (20 : Int32))))]) hP hD [1] [0] rfl rfl (by decide) (by decide) hk1 hFc hP1 hD1
  generalize H1 = H at hP hS ⊢
  have hP : va_P D vwCl [(aM, .inr (6, [.null, .null, .null, .null, .null, .null])), (aS, .inr (3, [.ref aC])), (aC, .inl (cyI, 225, .inl (upd (upd (upd (upd (upd (fun _ => 0) 1 (5 : Int32)) 2 (5 : Int32)) 6 (6 : Int32)) 7 (4 : Int32)) 8 (20 : Int32))))] H := hP
  have hD : va_D A [(aM, .inr (6, [.null, .null, .null, .null, .null, .null])), (aS, .inr (3, [.ref aC])), (aC, .inl (cyI, 225, .inl (upd (upd (upd (upd (upd (fun _ => 0) 1 (5 : Int32)) 2 (5 : Int32)) 6 (6 : Int32)) 7 (4 : Int32)) 8 (20 : Int32))))] := hD
  refine W.widen (k := 2) (n := 226) (Nat.le_of_ble_eq_true rfl) (Nat.le_of_ble_eq_true rfl) ?_
  refine va_putF (D := D) (ci := 6) (v := .ref aS) (ty := .object "RollerMesh$Shop") (C := RX6) (T := TX6) (N := 6) hx hb hts mi_X6_init_X6 tyX6 tyX6_ok nmX6 hown hK.1 hP hD hS 0 rfl rfl 0 (by decide) (hts _ mm_X6_init_7) (fun _ h9 => h9) rfl hin rfl (by decide +kernel) rfl rfl (Nat.le_of_ble_eq_true rfl) dX6_init_12 (fun H locs hP hD hS => ?_)
  have hP : va_P D vwCl [(aM, .inr (6, [.ref aS, .null, .null, .null, .null, .null])), (aS, .inr (3, [.ref aC])), (aC, .inl (cyI, 225, .inl (upd (upd (upd (upd (upd (fun _ => 0) 1 (5 : Int32)) 2 (5 : Int32)) 6 (6 : Int32)) 7 (4 : Int32)) 8 (20 : Int32))))] H := hP
  have hD : va_D A [(aM, .inr (6, [.ref aS, .null, .null, .null, .null, .null])), (aS, .inr (3, [.ref aC])), (aC, .inl (cyI, 225, .inl (upd (upd (upd (upd (upd (fun _ => 0) 1 (5 : Int32)) 2 (5 : Int32)) 6 (6 : Int32)) 7 (4 : Int32)) 8 (20 : Int32))))] := hD
  refine lv_aload_n hx hb dX6_init_15 rfl (lv_at hl 0 rfl) ?_
  refine va_new (ci := 0) (fs := [.null, .int 0, .int 0]) (C := RX0) (T := TX0) (N := 3) hx hb hts mi_X6_init_X0 tyX0 tyX0_ok hown (hts _ mm_X6_init_8) (hts _ mm_X6_init_9) (hts _ mm_X6_init_10) hK.1 hP hD hS hA rfl (fun j hj => by rcases (show j = 0 ∨ j = 1 ∨ j = 2 by omega) with rfl | rfl | rfl <;> rfl) (Nat.le_of_ble_eq_true rfl) (Nat.le_of_ble_eq_true rfl) dX6_init_16 (fun aH H hP hD hS => ?_)
  have hP : va_P D vwCl [(aM, .inr (6, [.ref aS, .null, .null, .null, .null, .null])), (aS, .inr (3, [.ref aC])), (aC, .inl (cyI, 225, .inl (upd (upd (upd (upd (upd (fun _ => 0) 1 (5 : Int32)) 2 (5 : Int32)) 6 (6 : Int32)) 7 (4 : Int32)) 8 (20 : Int32)))), (aH, .inr (0, [.null, .int 0, .int 0]))] H := hP
  have hD : va_D A [(aM, .inr (6, [.ref aS, .null, .null, .null, .null, .null])), (aS, .inr (3, [.ref aC])), (aC, .inl (cyI, 225, .inl (upd (upd (upd (upd (upd (fun _ => 0) 1 (5 : Int32)) 2 (5 : Int32)) 6 (6 : Int32)) 7 (4 : Int32)) 8 (20 : Int32)))), (aH, .inr (0, [.null, .int 0, .int 0]))] := hD
  refine W.widen (k := 3) (n := 229) (Nat.le_of_ble_eq_true rfl) (Nat.le_of_ble_eq_true rfl) ?_
  refine lv_dup hx hb dX6_init_19 rfl ?_
  have hFc := va_free (wc := [(aH, .inr (0, [.null, .int 0, .int 0]))]) hD hS hA [3] rfl
  refine va_callv (va_runIN (As := []) (rest := [.ref aH, .ref aM]) ⟨hx, hb, hml, hown, hts⟩ (c_X0_init l D cyI cyZ aH H.size) ⟨va_cnB 0 hts gX6_init_X0_init_n18 rfl rfl rfl hK.2.2.2.2.2.1 (hts _ mm_X6_init_10) (by decide +kernel) ⟨Nat.le_of_ble_eq_true rfl, Nat.le_of_ble_eq_true rfl⟩, rfl, hts _ mm_X6_init_34⟩ ⟨x_blindM, x_preM hK hP hD [3] rfl rfl⟩ rfl rfl hl.1 rfl (lv_room (Nat.le_of_ble_eq_true rfl)) dX6_init_20 ⟨Nat.le_of_ble_eq_true rfl, Nat.le_of_ble_eq_true rfl⟩) hS (fun q _ h => hFc q h) hFc (fun u t H1 locs ht hvm hw hB hz1 hk1 hS => ?_)
  obtain ⟨aHs, hP1, hD1⟩ := hB
  rw [ht] at hP1
  obtain ⟨hP, hD⟩ := va_join (wr := [(aM, .inr (6, [.ref aS, .null, .null, .null, .null, .null])), (aS, .inr (3, [.ref aC])), (aC, .inl (cyI, 225, .inl (upd (upd (upd (upd (upd (fun _ => 0) 1 (5 : Int32)) 2 (5 : Int32)) 6 (6 : Int32)) 7 (4 : Int32)) 8 (20 : Int32))))]) (w1 := [(aH, .inr (0, [.ref aHs, .int 0, .int 0])), (aHs, .inl (cyI, 1575, .inl (fun _ => 0)))]) hP hD [3] [0, 1, 2] rfl rfl (by decide) (by decide) hk1 hFc hP1 hD1
  generalize H1 = H at hP hS ⊢
  have hP : va_P D vwCl [(aM, .inr (6, [.ref aS, .null, .null, .null, .null, .null])), (aS, .inr (3, [.ref aC])), (aC, .inl (cyI, 225, .inl (upd (upd (upd (upd (upd (fun _ => 0) 1 (5 : Int32)) 2 (5 : Int32)) 6 (6 : Int32)) 7 (4 : Int32)) 8 (20 : Int32)))), (aH, .inr (0, [.ref aHs, .int 0, .int 0])), (aHs, .inl (cyI, 1575, .inl (fun _ => 0)))] H := hP
  have hD : va_D A [(aM, .inr (6, [.ref aS, .null, .null, .null, .null, .null])), (aS, .inr (3, [.ref aC])), (aC, .inl (cyI, 225, .inl (upd (upd (upd (upd (upd (fun _ => 0) 1 (5 : Int32)) 2 (5 : Int32)) 6 (6 : Int32)) 7 (4 : Int32)) 8 (20 : Int32)))), (aH, .inr (0, [.ref aHs, .int 0, .int 0])), (aHs, .inl (cyI, 1575, .inl (fun _ => 0)))] := hD
  refine W.widen (k := 4) (n := 1804) (Nat.le_of_ble_eq_true rfl) (Nat.le_of_ble_eq_true rfl) ?_
  refine va_putF (D := D) (ci := 6) (v := .ref aH) (ty := .object "RollerMesh$History") (C := RX6) (T := TX6) (N := 6) hx hb hts mi_X6_init_X6 tyX6 tyX6_ok nmX6 hown hK.1 hP hD hS 0 rfl rfl 1 (by decide) (hts _ mm_X6_init_11) (fun _ h9 => h9) rfl hin rfl (by decide +kernel) rfl rfl (Nat.le_of_ble_eq_true rfl) dX6_init_23 (fun H locs hP hD hS => ?_)
  have hP : va_P D vwCl [(aM, .inr (6, [.ref aS, .ref aH, .null, .null, .null, .null])), (aS, .inr (3, [.ref aC])), (aC, .inl (cyI, 225, .inl (upd (upd (upd (upd (upd (fun _ => 0) 1 (5 : Int32)) 2 (5 : Int32)) 6 (6 : Int32)) 7 (4 : Int32)) 8 (20 : Int32)))), (aH, .inr (0, [.ref aHs, .int 0, .int 0])), (aHs, .inl (cyI, 1575, .inl (fun _ => 0)))] H := hP
  have hD : va_D A [(aM, .inr (6, [.ref aS, .ref aH, .null, .null, .null, .null])), (aS, .inr (3, [.ref aC])), (aC, .inl (cyI, 225, .inl (upd (upd (upd (upd (upd (fun _ => 0) 1 (5 : Int32)) 2 (5 : Int32)) 6 (6 : Int32)) 7 (4 : Int32)) 8 (20 : Int32)))), (aH, .inr (0, [.ref aHs, .int 0, .int 0])), (aHs, .inl (cyI, 1575, .inl (fun _ => 0)))] := hD
  refine lv_aload_n hx hb dX6_init_26 rfl (lv_at hl 0 rfl) ?_
  refine va_new (ci := 4) (fs := [.null, .int 0]) (C := RX4) (T := TX4) (N := 2) hx hb hts mi_X6_init_X4 tyX4 tyX4_ok hown (hts _ mm_X6_init_12) (hts _ mm_X6_init_13) (hts _ mm_X6_init_14) hK.1 hP hD hS hA rfl (fun j hj => by rcases (show j = 0 ∨ j = 1 by omega) with rfl | rfl <;> rfl) (Nat.le_of_ble_eq_true rfl) (Nat.le_of_ble_eq_true rfl) dX6_init_27 (fun aL H hP hD hS => ?_)
  have hP : va_P D vwCl [(aM, .inr (6, [.ref aS, .ref aH, .null, .null, .null, .null])), (aS, .inr (3, [.ref aC])), (aC, .inl (cyI, 225, .inl (upd (upd (upd (upd (upd (fun _ => 0) 1 (5 : Int32)) 2 (5 : Int32)) 6 (6 : Int32)) 7 (4 : Int32)) 8 (20 : Int32)))), (aH, .inr (0, [.ref aHs, .int 0, .int 0])), (aHs, .inl (cyI, 1575, .inl (fun _ => 0))), (aL, .inr (4, [.null, .int 0]))] H := hP
  have hD : va_D A [(aM, .inr (6, [.ref aS, .ref aH, .null, .null, .null, .null])), (aS, .inr (3, [.ref aC])), (aC, .inl (cyI, 225, .inl (upd (upd (upd (upd (upd (fun _ => 0) 1 (5 : Int32)) 2 (5 : Int32)) 6 (6 : Int32)) 7 (4 : Int32)) 8 (20 : Int32)))), (aH, .inr (0, [.ref aHs, .int 0, .int 0])), (aHs, .inl (cyI, 1575, .inl (fun _ => 0))), (aL, .inr (4, [.null, .int 0]))] := hD
  refine W.widen (k := 5) (n := 1806) (Nat.le_of_ble_eq_true rfl) (Nat.le_of_ble_eq_true rfl) ?_
  refine lv_dup hx hb dX6_init_30 rfl ?_
  have hFc := va_free (wc := [(aL, .inr (4, [.null, .int 0]))]) hD hS hA [5] rfl
  refine va_callv (va_runIN (As := []) (rest := [.ref aL, .ref aM]) ⟨hx, hb, hml, hown, hts⟩ (c_X4_init l D cyI cyZ aL H.size) ⟨va_cnB 0 hts gX6_init_X4_init_n25 rfl rfl rfl hK.2.2.2.2.2.2.1 (hts _ mm_X6_init_14) (by decide +kernel) ⟨Nat.le_of_ble_eq_true rfl, Nat.le_of_ble_eq_true rfl⟩, rfl, hts _ mm_X6_init_38⟩ ⟨x_blindM, x_preM hK hP hD [5] rfl rfl⟩ rfl rfl hl.1 rfl (lv_room (Nat.le_of_ble_eq_true rfl)) dX6_init_31 ⟨Nat.le_of_ble_eq_true rfl, Nat.le_of_ble_eq_true rfl⟩) hS (fun q _ h => hFc q h) hFc (fun u t H1 locs ht hvm hw hB hz1 hk1 hS => ?_)
  obtain ⟨aLs, hP1, hD1⟩ := hB
  rw [ht] at hP1
  obtain ⟨hP, hD⟩ := va_join (wr := [(aM, .inr (6, [.ref aS, .ref aH, .null, .null, .null, .null])), (aS, .inr (3, [.ref aC])), (aC, .inl (cyI, 225, .inl (upd (upd (upd (upd (upd (fun _ => 0) 1 (5 : Int32)) 2 (5 : Int32)) 6 (6 : Int32)) 7 (4 : Int32)) 8 (20 : Int32)))), (aH, .inr (0, [.ref aHs, .int 0, .int 0])), (aHs, .inl (cyI, 1575, .inl (fun _ => 0)))]) (w1 := [(aL, .inr (4, [.ref aLs, .int 0])), (aLs, .inl (cyI, 450, .inl (fun _ => 0)))]) hP hD [5] [0, 1, 2, 3, 4] rfl rfl (by decide) (by decide) hk1 hFc hP1 hD1
  generalize H1 = H at hP hS ⊢
  have hP : va_P D vwCl [(aM, .inr (6, [.ref aS, .ref aH, .null, .null, .null, .null])), (aS, .inr (3, [.ref aC])), (aC, .inl (cyI, 225, .inl (upd (upd (upd (upd (upd (fun _ => 0) 1 (5 : Int32)) 2 (5 : Int32)) 6 (6 : Int32)) 7 (4 : Int32)) 8 (20 : Int32)))), (aH, .inr (0, [.ref aHs, .int 0, .int 0])), (aHs, .inl (cyI, 1575, .inl (fun _ => 0))), (aL, .inr (4, [.ref aLs, .int 0])), (aLs, .inl (cyI, 450, .inl (fun _ => 0)))] H := hP
  have hD : va_D A [(aM, .inr (6, [.ref aS, .ref aH, .null, .null, .null, .null])), (aS, .inr (3, [.ref aC])), (aC, .inl (cyI, 225, .inl (upd (upd (upd (upd (upd (fun _ => 0) 1 (5 : Int32)) 2 (5 : Int32)) 6 (6 : Int32)) 7 (4 : Int32)) 8 (20 : Int32)))), (aH, .inr (0, [.ref aHs, .int 0, .int 0])), (aHs, .inl (cyI, 1575, .inl (fun _ => 0))), (aL, .inr (4, [.ref aLs, .int 0])), (aLs, .inl (cyI, 450, .inl (fun _ => 0)))] := hD
  refine W.widen (k := 6) (n := 2256) (Nat.le_of_ble_eq_true rfl) (Nat.le_of_ble_eq_true rfl) ?_
  refine va_putF (D := D) (ci := 6) (v := .ref aL) (ty := .object "RollerMesh$Slots") (C := RX6) (T := TX6) (N := 6) hx hb hts mi_X6_init_X6 tyX6 tyX6_ok nmX6 hown hK.1 hP hD hS 0 rfl rfl 2 (by decide) (hts _ mm_X6_init_15) (fun _ h9 => h9) rfl hin rfl (by decide +kernel) rfl rfl (Nat.le_of_ble_eq_true rfl) dX6_init_34 (fun H locs hP hD hS => ?_)
  have hP : va_P D vwCl [(aM, .inr (6, [.ref aS, .ref aH, .ref aL, .null, .null, .null])), (aS, .inr (3, [.ref aC])), (aC, .inl (cyI, 225, .inl (upd (upd (upd (upd (upd (fun _ => 0) 1 (5 : Int32)) 2 (5 : Int32)) 6 (6 : Int32)) 7 (4 : Int32)) 8 (20 : Int32)))), (aH, .inr (0, [.ref aHs, .int 0, .int 0])), (aHs, .inl (cyI, 1575, .inl (fun _ => 0))), (aL, .inr (4, [.ref aLs, .int 0])), (aLs, .inl (cyI, 450, .inl (fun _ => 0)))] H := hP
  have hD : va_D A [(aM, .inr (6, [.ref aS, .ref aH, .ref aL, .null, .null, .null])), (aS, .inr (3, [.ref aC])), (aC, .inl (cyI, 225, .inl (upd (upd (upd (upd (upd (fun _ => 0) 1 (5 : Int32)) 2 (5 : Int32)) 6 (6 : Int32)) 7 (4 : Int32)) 8 (20 : Int32)))), (aH, .inr (0, [.ref aHs, .int 0, .int 0])), (aHs, .inl (cyI, 1575, .inl (fun _ => 0))), (aL, .inr (4, [.ref aLs, .int 0])), (aLs, .inl (cyI, 450, .inl (fun _ => 0)))] := hD
  refine lv_aload_n hx hb dX6_init_37 rfl (lv_at hl 0 rfl) ?_
  refine va_new (ci := 1) (fs := [.null, .int 0]) (C := RX1) (T := TX1) (N := 2) hx hb hts mi_X6_init_X1 tyX1 tyX1_ok hown (hts _ mm_X6_init_16) (hts _ mm_X6_init_17) (hts _ mm_X6_init_18) hK.1 hP hD hS hA rfl (fun j hj => by rcases (show j = 0 ∨ j = 1 by omega) with rfl | rfl <;> rfl) (Nat.le_of_ble_eq_true rfl) (Nat.le_of_ble_eq_true rfl) dX6_init_38 (fun aP H hP hD hS => ?_)
  have hP : va_P D vwCl [(aM, .inr (6, [.ref aS, .ref aH, .ref aL, .null, .null, .null])), (aS, .inr (3, [.ref aC])), (aC, .inl (cyI, 225, .inl (upd (upd (upd (upd (upd (fun _ => 0) 1 (5 : Int32)) 2 (5 : Int32)) 6 (6 : Int32)) 7 (4 : Int32)) 8 (20 : Int32)))), (aH, .inr (0, [.ref aHs, .int 0, .int 0])), (aHs, .inl (cyI, 1575, .inl (fun _ => 0))), (aL, .inr (4, [.ref aLs, .int 0])), (aLs, .inl (cyI, 450, .inl (fun _ => 0))), (aP, .inr (1, [.null, .int 0]))] H := hP
  have hD : va_D A [(aM, .inr (6, [.ref aS, .ref aH, .ref aL, .null, .null, .null])), (aS, .inr (3, [.ref aC])), (aC, .inl (cyI, 225, .inl (upd (upd (upd (upd (upd (fun _ => 0) 1 (5 : Int32)) 2 (5 : Int32)) 6 (6 : Int32)) 7 (4 : Int32)) 8 (20 : Int32)))), (aH, .inr (0, [.ref aHs, .int 0, .int 0])), (aHs, .inl (cyI, 1575, .inl (fun _ => 0))), (aL, .inr (4, [.ref aLs, .int 0])), (aLs, .inl (cyI, 450, .inl (fun _ => 0))), (aP, .inr (1, [.null, .int 0]))] := hD
  refine W.widen (k := 7) (n := 2258) (Nat.le_of_ble_eq_true rfl) (Nat.le_of_ble_eq_true rfl) ?_
  refine lv_dup hx hb dX6_init_41 rfl ?_
  have hFc := va_free (wc := [(aP, .inr (1, [.null, .int 0]))]) hD hS hA [7] rfl
  refine va_callv (va_runIN (As := []) (rest := [.ref aP, .ref aM]) ⟨hx, hb, hml, hown, hts⟩ (c_X1_init l D cyI cyZ aP H.size) ⟨va_cnB 0 hts gX6_init_X1_init_n32 rfl rfl rfl hK.2.2.2.2.2.2.2.1 (hts _ mm_X6_init_18) (by decide +kernel) ⟨Nat.le_of_ble_eq_true rfl, Nat.le_of_ble_eq_true rfl⟩, rfl, hts _ mm_X6_init_42⟩ ⟨x_blindM, x_preM hK hP hD [7] rfl rfl⟩ rfl rfl hl.1 rfl (lv_room (Nat.le_of_ble_eq_true rfl)) dX6_init_42 ⟨Nat.le_of_ble_eq_true rfl, Nat.le_of_ble_eq_true rfl⟩) hS (fun q _ h => hFc q h) hFc (fun u t H1 locs ht hvm hw hB hz1 hk1 hS => ?_)
  obtain ⟨aPc, hP1, hD1⟩ := hB
  rw [ht] at hP1
  obtain ⟨hP, hD⟩ := va_join (wr := [(aM, .inr (6, [.ref aS, .ref aH, .ref aL, .null, .null, .null])), (aS, .inr (3, [.ref aC])), (aC, .inl (cyI, 225, .inl (upd (upd (upd (upd (upd (fun _ => 0) 1 (5 : Int32)) 2 (5 : Int32)) 6 (6 : Int32)) 7 (4 : Int32)) 8 (20 : Int32)))), (aH, .inr (0, [.ref aHs, .int 0, .int 0])), (aHs, .inl (cyI, 1575, .inl (fun _ => 0))), (aL, .inr (4, [.ref aLs, .int 0])), (aLs, .inl (cyI, 450, .inl (fun _ => 0)))]) (w1 := [(aP, .inr (1, [.ref aPc, .int 0])), (aPc, .inl (cyI, 80, .inl (fun _ => 0)))]) hP hD [7] [0, 1, 2, 3, 4, 5, 6] rfl rfl (by decide) (by decide) hk1 hFc hP1 hD1
  generalize H1 = H at hP hS ⊢
  have hP : va_P D vwCl [(aM, .inr (6, [.ref aS, .ref aH, .ref aL, .null, .null, .null])), (aS, .inr (3, [.ref aC])), (aC, .inl (cyI, 225, .inl (upd (upd (upd (upd (upd (fun _ => 0) 1 (5 : Int32)) 2 (5 : Int32)) 6 (6 : Int32)) 7 (4 : Int32)) 8 (20 : Int32)))), (aH, .inr (0, [.ref aHs, .int 0, .int 0])), (aHs, .inl (cyI, 1575, .inl (fun _ => 0))), (aL, .inr (4, [.ref aLs, .int 0])), (aLs, .inl (cyI, 450, .inl (fun _ => 0))), (aP, .inr (1, [.ref aPc, .int 0])), (aPc, .inl (cyI, 80, .inl (fun _ => 0)))] H := hP
  have hD : va_D A [(aM, .inr (6, [.ref aS, .ref aH, .ref aL, .null, .null, .null])), (aS, .inr (3, [.ref aC])), (aC, .inl (cyI, 225, .inl (upd (upd (upd (upd (upd (fun _ => 0) 1 (5 : Int32)) 2 (5 : Int32)) 6 (6 : Int32)) 7 (4 : Int32)) 8 (20 : Int32)))), (aH, .inr (0, [.ref aHs, .int 0, .int 0])), (aHs, .inl (cyI, 1575, .inl (fun _ => 0))), (aL, .inr (4, [.ref aLs, .int 0])), (aLs, .inl (cyI, 450, .inl (fun _ => 0))), (aP, .inr (1, [.ref aPc, .int 0])), (aPc, .inl (cyI, 80, .inl (fun _ => 0)))] := hD
  refine W.widen (k := 8) (n := 2338) (Nat.le_of_ble_eq_true rfl) (Nat.le_of_ble_eq_true rfl) ?_
  refine va_putF (D := D) (ci := 6) (v := .ref aP) (ty := .object "RollerMesh$Pad") (C := RX6) (T := TX6) (N := 6) hx hb hts mi_X6_init_X6 tyX6 tyX6_ok nmX6 hown hK.1 hP hD hS 0 rfl rfl 3 (by decide) (hts _ mm_X6_init_19) (fun _ h9 => h9) rfl hin rfl (by decide +kernel) rfl rfl (Nat.le_of_ble_eq_true rfl) dX6_init_45 (fun H locs hP hD hS => ?_)
  have hP : va_P D vwCl [(aM, .inr (6, [.ref aS, .ref aH, .ref aL, .ref aP, .null, .null])), (aS, .inr (3, [.ref aC])), (aC, .inl (cyI, 225, .inl (upd (upd (upd (upd (upd (fun _ => 0) 1 (5 : Int32)) 2 (5 : Int32)) 6 (6 : Int32)) 7 (4 : Int32)) 8 (20 : Int32)))), (aH, .inr (0, [.ref aHs, .int 0, .int 0])), (aHs, .inl (cyI, 1575, .inl (fun _ => 0))), (aL, .inr (4, [.ref aLs, .int 0])), (aLs, .inl (cyI, 450, .inl (fun _ => 0))), (aP, .inr (1, [.ref aPc, .int 0])), (aPc, .inl (cyI, 80, .inl (fun _ => 0)))] H := hP
  have hD : va_D A [(aM, .inr (6, [.ref aS, .ref aH, .ref aL, .ref aP, .null, .null])), (aS, .inr (3, [.ref aC])), (aC, .inl (cyI, 225, .inl (upd (upd (upd (upd (upd (fun _ => 0) 1 (5 : Int32)) 2 (5 : Int32)) 6 (6 : Int32)) 7 (4 : Int32)) 8 (20 : Int32)))), (aH, .inr (0, [.ref aHs, .int 0, .int 0])), (aHs, .inl (cyI, 1575, .inl (fun _ => 0))), (aL, .inr (4, [.ref aLs, .int 0])), (aLs, .inl (cyI, 450, .inl (fun _ => 0))), (aP, .inr (1, [.ref aPc, .int 0])), (aPc, .inl (cyI, 80, .inl (fun _ => 0)))] := hD
  refine lv_aload_n hx hb dX6_init_48 rfl (lv_at hl 0 rfl) ?_
  refine va_new (ci := 2) (fs := [.null, .null, .int 0, .int 0, .int 0]) (C := RX2) (T := TX2) (N := 5) hx hb hts mi_X6_init_X2 tyX2 tyX2_ok hown (hts _ mm_X6_init_20) (hts _ mm_X6_init_21) (hts _ mm_X6_init_22) hK.1 hP hD hS hA rfl (fun j hj => by rcases (show j = 0 ∨ j = 1 ∨ j = 2 ∨ j = 3 ∨ j = 4 by omega) with rfl | rfl | rfl | rfl | rfl <;> rfl) (Nat.le_of_ble_eq_true rfl) (Nat.le_of_ble_eq_true rfl) dX6_init_49 (fun aR H hP hD hS => ?_)
  have hP : va_P D vwCl [(aM, .inr (6, [.ref aS, .ref aH, .ref aL, .ref aP, .null, .null])), (aS, .inr (3, [.ref aC])), (aC, .inl (cyI, 225, .inl (upd (upd (upd (upd (upd (fun _ => 0) 1 (5 : Int32)) 2 (5 : Int32)) 6 (6 : Int32)) 7 (4 : Int32)) 8 (20 : Int32)))), (aH, .inr (0, [.ref aHs, .int 0, .int 0])), (aHs, .inl (cyI, 1575, .inl (fun _ => 0))), (aL, .inr (4, [.ref aLs, .int 0])), (aLs, .inl (cyI, 450, .inl (fun _ => 0))), (aP, .inr (1, [.ref aPc, .int 0])), (aPc, .inl (cyI, 80, .inl (fun _ => 0))), (aR, .inr (2, [.null, .null, .int 0, .int 0, .int 0]))] H := hP
  have hD : va_D A [(aM, .inr (6, [.ref aS, .ref aH, .ref aL, .ref aP, .null, .null])), (aS, .inr (3, [.ref aC])), (aC, .inl (cyI, 225, .inl (upd (upd (upd (upd (upd (fun _ => 0) 1 (5 : Int32)) 2 (5 : Int32)) 6 (6 : Int32)) 7 (4 : Int32)) 8 (20 : Int32)))), (aH, .inr (0, [.ref aHs, .int 0, .int 0])), (aHs, .inl (cyI, 1575, .inl (fun _ => 0))), (aL, .inr (4, [.ref aLs, .int 0])), (aLs, .inl (cyI, 450, .inl (fun _ => 0))), (aP, .inr (1, [.ref aPc, .int 0])), (aPc, .inl (cyI, 80, .inl (fun _ => 0))), (aR, .inr (2, [.null, .null, .int 0, .int 0, .int 0]))] := hD
  refine W.widen (k := 9) (n := 2343) (Nat.le_of_ble_eq_true rfl) (Nat.le_of_ble_eq_true rfl) ?_
  refine lv_dup hx hb dX6_init_52 rfl ?_
  refine lv_aload_n hx hb dX6_init_53 rfl (lv_at hl 0 rfl) ?_
  refine va_get (D := D) (ci := 6) (v := .ref aP) (C := RX6) (T := TX6) (N := 6) hx hb hts mi_X6_init_X6 hown hK.1 hP 0 rfl rfl 3 (by decide) (hts _ mm_X6_init_19) (fun _ h9 => h9) rfl dX6_init_54 ?_
  have hFc := va_free (wc := [(aR, .inr (2, [.null, .null, .int 0, .int 0, .int 0]))]) hD hS hA [9] rfl
  refine va_callv (va_runI (As := [.ref aP]) (rest := [.ref aR, .ref aM]) ⟨hx, hb, hml, hown, hts⟩ (c_X2_init l D cyI cyZ aR aP H.size) (cwI 1 hts gX6_init_X2_init rfl rfl rfl (hts _ mm_X6_init_22) (hts _ mm_X6_init_46) (hts _ mm_X6_init_47) rfl (by decide +kernel) ⟨Nat.le_of_ble_eq_true rfl, Nat.le_of_ble_eq_true rfl⟩) ⟨x_blindM, x_preM hK hP hD [9] rfl rfl⟩ rfl rfl hl.1 rfl (lv_room (Nat.le_of_ble_eq_true rfl)) dX6_init_57 ⟨Nat.le_of_ble_eq_true rfl, Nat.le_of_ble_eq_true rfl⟩) hS (fun q _ h => hFc q h) hFc (fun u t H1 locs ht hvm hw hB hz1 hk1 hS => ?_)
  obtain ⟨aRn, hP1, hD1⟩ := hB
  rw [ht] at hP1
  obtain ⟨hP, hD⟩ := va_join (wr := [(aM, .inr (6, [.ref aS, .ref aH, .ref aL, .ref aP, .null, .null])), (aS, .inr (3, [.ref aC])), (aC, .inl (cyI, 225, .inl (upd (upd (upd (upd (upd (fun _ => 0) 1 (5 : Int32)) 2 (5 : Int32)) 6 (6 : Int32)) 7 (4 : Int32)) 8 (20 : Int32)))), (aH, .inr (0, [.ref aHs, .int 0, .int 0])), (aHs, .inl (cyI, 1575, .inl (fun _ => 0))), (aL, .inr (4, [.ref aLs, .int 0])), (aLs, .inl (cyI, 450, .inl (fun _ => 0))), (aP, .inr (1, [.ref aPc, .int 0])), (aPc, .inl (cyI, 80, .inl (fun _ => 0)))]) (w1 := [(aR, .inr (2, [.ref aP, .ref aRn, .int 0, .int 0, .int 0])), (aRn, .inl (cyI, 40, .inl (fun _ => 0)))]) hP hD [9] [0, 1, 2, 3, 4, 5, 6, 7, 8] rfl rfl (by decide) (by decide) hk1 hFc hP1 hD1
  generalize H1 = H at hP hS ⊢
  have hP : va_P D vwCl [(aM, .inr (6, [.ref aS, .ref aH, .ref aL, .ref aP, .null, .null])), (aS, .inr (3, [.ref aC])), (aC, .inl (cyI, 225, .inl (upd (upd (upd (upd (upd (fun _ => 0) 1 (5 : Int32)) 2 (5 : Int32)) 6 (6 : Int32)) 7 (4 : Int32)) 8 (20 : Int32)))), (aH, .inr (0, [.ref aHs, .int 0, .int 0])), (aHs, .inl (cyI, 1575, .inl (fun _ => 0))), (aL, .inr (4, [.ref aLs, .int 0])), (aLs, .inl (cyI, 450, .inl (fun _ => 0))), (aP, .inr (1, [.ref aPc, .int 0])), (aPc, .inl (cyI, 80, .inl (fun _ => 0))), (aR, .inr (2, [.ref aP, .ref aRn, .int 0, .int 0, .int 0])), (aRn, .inl (cyI, 40, .inl (fun _ => 0)))] H := hP
  have hD : va_D A [(aM, .inr (6, [.ref aS, .ref aH, .ref aL, .ref aP, .null, .null])), (aS, .inr (3, [.ref aC])), (aC, .inl (cyI, 225, .inl (upd (upd (upd (upd (upd (fun _ => 0) 1 (5 : Int32)) 2 (5 : Int32)) 6 (6 : Int32)) 7 (4 : Int32)) 8 (20 : Int32)))), (aH, .inr (0, [.ref aHs, .int 0, .int 0])), (aHs, .inl (cyI, 1575, .inl (fun _ => 0))), (aL, .inr (4, [.ref aLs, .int 0])), (aLs, .inl (cyI, 450, .inl (fun _ => 0))), (aP, .inr (1, [.ref aPc, .int 0])), (aPc, .inl (cyI, 80, .inl (fun _ => 0))), (aR, .inr (2, [.ref aP, .ref aRn, .int 0, .int 0, .int 0])), (aRn, .inl (cyI, 40, .inl (fun _ => 0)))] := hD
  refine W.widen (k := 10) (n := 2383) (Nat.le_of_ble_eq_true rfl) (Nat.le_of_ble_eq_true rfl) ?_
  refine va_putF (D := D) (ci := 6) (v := .ref aR) (ty := .object "RollerMesh$Reader") (C := RX6) (T := TX6) (N := 6) hx hb hts mi_X6_init_X6 tyX6 tyX6_ok nmX6 hown hK.1 hP hD hS 0 rfl rfl 4 (by decide) (hts _ mm_X6_init_23) (fun _ h9 => h9) rfl hin rfl (by decide +kernel) rfl rfl (Nat.le_of_ble_eq_true rfl) dX6_init_60 (fun H locs hP hD hS => ?_)
  have hP : va_P D vwCl [(aM, .inr (6, [.ref aS, .ref aH, .ref aL, .ref aP, .ref aR, .null])), (aS, .inr (3, [.ref aC])), (aC, .inl (cyI, 225, .inl (upd (upd (upd (upd (upd (fun _ => 0) 1 (5 : Int32)) 2 (5 : Int32)) 6 (6 : Int32)) 7 (4 : Int32)) 8 (20 : Int32)))), (aH, .inr (0, [.ref aHs, .int 0, .int 0])), (aHs, .inl (cyI, 1575, .inl (fun _ => 0))), (aL, .inr (4, [.ref aLs, .int 0])), (aLs, .inl (cyI, 450, .inl (fun _ => 0))), (aP, .inr (1, [.ref aPc, .int 0])), (aPc, .inl (cyI, 80, .inl (fun _ => 0))), (aR, .inr (2, [.ref aP, .ref aRn, .int 0, .int 0, .int 0])), (aRn, .inl (cyI, 40, .inl (fun _ => 0)))] H := hP
  have hD : va_D A [(aM, .inr (6, [.ref aS, .ref aH, .ref aL, .ref aP, .ref aR, .null])), (aS, .inr (3, [.ref aC])), (aC, .inl (cyI, 225, .inl (upd (upd (upd (upd (upd (fun _ => 0) 1 (5 : Int32)) 2 (5 : Int32)) 6 (6 : Int32)) 7 (4 : Int32)) 8 (20 : Int32)))), (aH, .inr (0, [.ref aHs, .int 0, .int 0])), (aHs, .inl (cyI, 1575, .inl (fun _ => 0))), (aL, .inr (4, [.ref aLs, .int 0])), (aLs, .inl (cyI, 450, .inl (fun _ => 0))), (aP, .inr (1, [.ref aPc, .int 0])), (aPc, .inl (cyI, 80, .inl (fun _ => 0))), (aR, .inr (2, [.ref aP, .ref aRn, .int 0, .int 0, .int 0])), (aRn, .inl (cyI, 40, .inl (fun _ => 0)))] := hD
  refine lv_aload_n hx hb dX6_init_63 rfl (lv_at hl 0 rfl) ?_
  refine va_new (ci := 5) (fs := [.null, .int 0, .int 0, .int 0]) (C := RX5) (T := TX5) (N := 4) hx hb hts mi_X6_init_X5 tyX5 tyX5_ok hown (hts _ mm_X6_init_24) (hts _ mm_X6_init_25) (hts _ mm_X6_init_26) hK.1 hP hD hS hA rfl (fun j hj => by rcases (show j = 0 ∨ j = 1 ∨ j = 2 ∨ j = 3 by omega) with rfl | rfl | rfl | rfl <;> rfl) (Nat.le_of_ble_eq_true rfl) (Nat.le_of_ble_eq_true rfl) dX6_init_64 (fun aT H hP hD hS => ?_)
  have hP : va_P D vwCl [(aM, .inr (6, [.ref aS, .ref aH, .ref aL, .ref aP, .ref aR, .null])), (aS, .inr (3, [.ref aC])), (aC, .inl (cyI, 225, .inl (upd (upd (upd (upd (upd (fun _ => 0) 1 (5 : Int32)) 2 (5 : Int32)) 6 (6 : Int32)) 7 (4 : Int32)) 8 (20 : Int32)))), (aH, .inr (0, [.ref aHs, .int 0, .int 0])), (aHs, .inl (cyI, 1575, .inl (fun _ => 0))), (aL, .inr (4, [.ref aLs, .int 0])), (aLs, .inl (cyI, 450, .inl (fun _ => 0))), (aP, .inr (1, [.ref aPc, .int 0])), (aPc, .inl (cyI, 80, .inl (fun _ => 0))), (aR, .inr (2, [.ref aP, .ref aRn, .int 0, .int 0, .int 0])), (aRn, .inl (cyI, 40, .inl (fun _ => 0))), (aT, .inr (5, [.null, .int 0, .int 0, .int 0]))] H := hP
  have hD : va_D A [(aM, .inr (6, [.ref aS, .ref aH, .ref aL, .ref aP, .ref aR, .null])), (aS, .inr (3, [.ref aC])), (aC, .inl (cyI, 225, .inl (upd (upd (upd (upd (upd (fun _ => 0) 1 (5 : Int32)) 2 (5 : Int32)) 6 (6 : Int32)) 7 (4 : Int32)) 8 (20 : Int32)))), (aH, .inr (0, [.ref aHs, .int 0, .int 0])), (aHs, .inl (cyI, 1575, .inl (fun _ => 0))), (aL, .inr (4, [.ref aLs, .int 0])), (aLs, .inl (cyI, 450, .inl (fun _ => 0))), (aP, .inr (1, [.ref aPc, .int 0])), (aPc, .inl (cyI, 80, .inl (fun _ => 0))), (aR, .inr (2, [.ref aP, .ref aRn, .int 0, .int 0, .int 0])), (aRn, .inl (cyI, 40, .inl (fun _ => 0))), (aT, .inr (5, [.null, .int 0, .int 0, .int 0]))] := hD
  refine W.widen (k := 11) (n := 2387) (Nat.le_of_ble_eq_true rfl) (Nat.le_of_ble_eq_true rfl) ?_
  refine lv_dup hx hb dX6_init_67 rfl ?_
  have hFc := va_free (wc := [(aT, .inr (5, [.null, .int 0, .int 0, .int 0]))]) hD hS hA [11] rfl
  refine va_callv (va_runIN (As := []) (rest := [.ref aT, .ref aM]) ⟨hx, hb, hml, hown, hts⟩ (c_X5_init l D cyI cyZ aT H.size) ⟨va_cnB 0 hts gX6_init_X5_init_n48 rfl rfl rfl hK.2.2.2.2.2.2.2.2 (hts _ mm_X6_init_26) (by decide +kernel) ⟨Nat.le_of_ble_eq_true rfl, Nat.le_of_ble_eq_true rfl⟩, rfl, hts _ mm_X6_init_52⟩ ⟨x_blindM, x_preM hK hP hD [11] rfl rfl⟩ rfl rfl hl.1 rfl (lv_room (Nat.le_of_ble_eq_true rfl)) dX6_init_68 ⟨Nat.le_of_ble_eq_true rfl, Nat.le_of_ble_eq_true rfl⟩) hS (fun q _ h => hFc q h) hFc (fun u t H1 locs ht hvm hw hB hz1 hk1 hS => ?_)
  obtain ⟨aTp, hP1, hD1⟩ := hB
  rw [ht] at hP1
  obtain ⟨hP, hD⟩ := va_join (wr := [(aM, .inr (6, [.ref aS, .ref aH, .ref aL, .ref aP, .ref aR, .null])), (aS, .inr (3, [.ref aC])), (aC, .inl (cyI, 225, .inl (upd (upd (upd (upd (upd (fun _ => 0) 1 (5 : Int32)) 2 (5 : Int32)) 6 (6 : Int32)) 7 (4 : Int32)) 8 (20 : Int32)))), (aH, .inr (0, [.ref aHs, .int 0, .int 0])), (aHs, .inl (cyI, 1575, .inl (fun _ => 0))), (aL, .inr (4, [.ref aLs, .int 0])), (aLs, .inl (cyI, 450, .inl (fun _ => 0))), (aP, .inr (1, [.ref aPc, .int 0])), (aPc, .inl (cyI, 80, .inl (fun _ => 0))), (aR, .inr (2, [.ref aP, .ref aRn, .int 0, .int 0, .int 0])), (aRn, .inl (cyI, 40, .inl (fun _ => 0)))]) (w1 := [(aT, .inr (5, [.ref aTp, .int 0, .int 0, .int 0])), (aTp, .inl (cyI, 552, .inl (fun _ => 0)))]) hP hD [11] [0, 1, 2, 3, 4, 5, 6, 7, 8, 9, 10] rfl rfl (by decide) (by decide) hk1 hFc hP1 hD1
  generalize H1 = H at hP hS ⊢
  have hP : va_P D vwCl [(aM, .inr (6, [.ref aS, .ref aH, .ref aL, .ref aP, .ref aR, .null])), (aS, .inr (3, [.ref aC])), (aC, .inl (cyI, 225, .inl (upd (upd (upd (upd (upd (fun _ => 0) 1 (5 : Int32)) 2 (5 : Int32)) 6 (6 : Int32)) 7 (4 : Int32)) 8 (20 : Int32)))), (aH, .inr (0, [.ref aHs, .int 0, .int 0])), (aHs, .inl (cyI, 1575, .inl (fun _ => 0))), (aL, .inr (4, [.ref aLs, .int 0])), (aLs, .inl (cyI, 450, .inl (fun _ => 0))), (aP, .inr (1, [.ref aPc, .int 0])), (aPc, .inl (cyI, 80, .inl (fun _ => 0))), (aR, .inr (2, [.ref aP, .ref aRn, .int 0, .int 0, .int 0])), (aRn, .inl (cyI, 40, .inl (fun _ => 0))), (aT, .inr (5, [.ref aTp, .int 0, .int 0, .int 0])), (aTp, .inl (cyI, 552, .inl (fun _ => 0)))] H := hP
  have hD : va_D A [(aM, .inr (6, [.ref aS, .ref aH, .ref aL, .ref aP, .ref aR, .null])), (aS, .inr (3, [.ref aC])), (aC, .inl (cyI, 225, .inl (upd (upd (upd (upd (upd (fun _ => 0) 1 (5 : Int32)) 2 (5 : Int32)) 6 (6 : Int32)) 7 (4 : Int32)) 8 (20 : Int32)))), (aH, .inr (0, [.ref aHs, .int 0, .int 0])), (aHs, .inl (cyI, 1575, .inl (fun _ => 0))), (aL, .inr (4, [.ref aLs, .int 0])), (aLs, .inl (cyI, 450, .inl (fun _ => 0))), (aP, .inr (1, [.ref aPc, .int 0])), (aPc, .inl (cyI, 80, .inl (fun _ => 0))), (aR, .inr (2, [.ref aP, .ref aRn, .int 0, .int 0, .int 0])), (aRn, .inl (cyI, 40, .inl (fun _ => 0))), (aT, .inr (5, [.ref aTp, .int 0, .int 0, .int 0])), (aTp, .inl (cyI, 552, .inl (fun _ => 0)))] := hD
  refine W.widen (k := 12) (n := 2939) (Nat.le_of_ble_eq_true rfl) (Nat.le_of_ble_eq_true rfl) ?_
  refine va_putF (D := D) (ci := 6) (v := .ref aT) (ty := .object "RollerMesh$Turn") (C := RX6) (T := TX6) (N := 6) hx hb hts mi_X6_init_X6 tyX6 tyX6_ok nmX6 hown hK.1 hP hD hS 0 rfl rfl 5 (by decide) (hts _ mm_X6_init_27) (fun _ h9 => h9) rfl hin rfl (by decide +kernel) rfl rfl (Nat.le_of_ble_eq_true rfl) dX6_init_71 (fun H locs hP hD hS => ?_)
  have hP : va_P D vwCl [(aM, .inr (6, [.ref aS, .ref aH, .ref aL, .ref aP, .ref aR, .ref aT])), (aS, .inr (3, [.ref aC])), (aC, .inl (cyI, 225, .inl (upd (upd (upd (upd (upd (fun _ => 0) 1 (5 : Int32)) 2 (5 : Int32)) 6 (6 : Int32)) 7 (4 : Int32)) 8 (20 : Int32)))), (aH, .inr (0, [.ref aHs, .int 0, .int 0])), (aHs, .inl (cyI, 1575, .inl (fun _ => 0))), (aL, .inr (4, [.ref aLs, .int 0])), (aLs, .inl (cyI, 450, .inl (fun _ => 0))), (aP, .inr (1, [.ref aPc, .int 0])), (aPc, .inl (cyI, 80, .inl (fun _ => 0))), (aR, .inr (2, [.ref aP, .ref aRn, .int 0, .int 0, .int 0])), (aRn, .inl (cyI, 40, .inl (fun _ => 0))), (aT, .inr (5, [.ref aTp, .int 0, .int 0, .int 0])), (aTp, .inl (cyI, 552, .inl (fun _ => 0)))] H := hP
  have hD : va_D A [(aM, .inr (6, [.ref aS, .ref aH, .ref aL, .ref aP, .ref aR, .ref aT])), (aS, .inr (3, [.ref aC])), (aC, .inl (cyI, 225, .inl (upd (upd (upd (upd (upd (fun _ => 0) 1 (5 : Int32)) 2 (5 : Int32)) 6 (6 : Int32)) 7 (4 : Int32)) 8 (20 : Int32)))), (aH, .inr (0, [.ref aHs, .int 0, .int 0])), (aHs, .inl (cyI, 1575, .inl (fun _ => 0))), (aL, .inr (4, [.ref aLs, .int 0])), (aLs, .inl (cyI, 450, .inl (fun _ => 0))), (aP, .inr (1, [.ref aPc, .int 0])), (aPc, .inl (cyI, 80, .inl (fun _ => 0))), (aR, .inr (2, [.ref aP, .ref aRn, .int 0, .int 0, .int 0])), (aRn, .inl (cyI, 40, .inl (fun _ => 0))), (aT, .inr (5, [.ref aTp, .int 0, .int 0, .int 0])), (aTp, .inl (cyI, 552, .inl (fun _ => 0)))] := hD
  have hP9 := hP.sub (ws' := [(aM, .inr (6, [.ref aS, .ref aH, .ref aL, .ref aP, .ref aR, .ref aT])), (aS, .inr (3, [.ref aC])), (aC, .inl (cyI, 225, .inl (upd (upd (upd (upd (upd (fun _ => 0) 1 (5 : Int32)) 2 (5 : Int32)) 6 (6 : Int32)) 7 (4 : Int32)) 8 (20 : Int32)))), (aH, .inr (0, [.ref aHs, .int 0, .int 0])), (aHs, .inl (cyI, 1575, .inl (fun _ => 0))), (aL, .inr (4, [.ref aLs, .int 0])), (aLs, .inl (cyI, 450, .inl (fun _ => 0))), (aP, .inr (1, [.ref aPc, .int 0])), (aPc, .inl (cyI, 80, .inl (fun _ => 0))), (aR, .inr (2, [.ref aP, .ref aRn, .int 0, .int 0, .int 0])), (aRn, .inl (cyI, 40, .inl (fun _ => 0))), (aT, .inr (5, [.ref aTp, .int 0, .int 0, .int 0])), (aTp, .inl (cyI, 552, .inl (fun _ => 0)))]) [0, 1, 2, 3, 4, 5, 6, 7, 8, 9, 10, 11, 12] rfl
  have hD9 := hD.sub (ws' := [(aM, .inr (6, [.ref aS, .ref aH, .ref aL, .ref aP, .ref aR, .ref aT])), (aS, .inr (3, [.ref aC])), (aC, .inl (cyI, 225, .inl (upd (upd (upd (upd (upd (fun _ => 0) 1 (5 : Int32)) 2 (5 : Int32)) 6 (6 : Int32)) 7 (4 : Int32)) 8 (20 : Int32)))), (aH, .inr (0, [.ref aHs, .int 0, .int 0])), (aHs, .inl (cyI, 1575, .inl (fun _ => 0))), (aL, .inr (4, [.ref aLs, .int 0])), (aLs, .inl (cyI, 450, .inl (fun _ => 0))), (aP, .inr (1, [.ref aPc, .int 0])), (aPc, .inl (cyI, 80, .inl (fun _ => 0))), (aR, .inr (2, [.ref aP, .ref aRn, .int 0, .int 0, .int 0])), (aRn, .inl (cyI, 40, .inl (fun _ => 0))), (aT, .inr (5, [.ref aTp, .int 0, .int 0, .int 0])), (aTp, .inl (cyI, 552, .inl (fun _ => 0)))]) [0, 1, 2, 3, 4, 5, 6, 7, 8, 9, 10, 11, 12] (by decide) rfl
  exact W.vret hx hb hr (fun t ht hW => ⟨⟨(), rfl, trivial, aS, aC, aH, aHs, aL, aLs, aP, aPc, aR, aRn, aT, aTp, by rw [ht]; exact hP9, hD9⟩, hS.F ht⟩) hS.2.2 dX6_init_74
