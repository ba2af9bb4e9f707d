theorem mm_L_drawn_script_1 : Cond.constant RL 8 (2654435) ∈ wsL_drawn := List.mem_of_getElem? (i := 1) rfl
set_option maxHeartbeats 4000000 in
set_option maxRecDepth 100000 in
theorem c_L_drawn_script (l : Launch) (N b : Nat) (L : Nat) (xs : Nat → Int32) (x1 : Int32) {r0 : Int32}  (hF : p_L_drawn_script N L xs x1 = some (r0)) : Met l yL_drawn wsL_drawn ({ frames := 0, cells := 0, slots := 0, locals := 0 }) (x_PX [.ref b, .int x1] b L xs) (x_QR r0) 0 0 (fun _ => False) := by
  refine Met.ofW (cc := cL_drawn) (maxL := 2) (ret := (some .int)) (by decide) rfl ?_
  intro p e s m args below meth c s₁ B hml hv
  obtain ⟨rfl, hbl, hX⟩ := hv
  have hx := B.exec
  have hb := B.bytes
  have hr := B.returns
  have hts := atoms_spec (ws := wsL_drawn) B.pre
  have hown : s.vm.findClass RL = some m.cls := findClass_of_methodNamed B.named
  have hlocks := B.notSynchronized
  have hS : va_S (fun _ => False) s.heap s.heap [] := va_S.rf
  have hl := lv_entry ([.ref b, .int x1]) (n := 2) (Nat.le_of_ble_eq_true rfl)
  rw [lg_entry_eq]
  generalize (lg_sl ([.ref b, .int x1]) ++ List.replicate (2 - (lg_sl ([.ref b, .int x1])).length) Slot.unset).toArray = ls at hl ⊢
  have hl : lv_has ls 2 [(0, .ref b), (1, .int x1)] := hl
  have hbA : ¬ (fun _ : Nat => False) b := fun h => h
  unfold p_L_drawn_script at hF
  refine lv_aload_n hx hb dL_drawn_0 rfl (lv_at hl 0 rfl) ?_
  refine va_slen hx hb hX hbl hbA hS dL_drawn_1 ?_
  refine lv_if_ne (tgt := 15) hx hb dL_drawn_2 (by decide) (fun hc => ?_) (fun hc => ?_)
  · have hF := k_if_f hF hc
    refine lv_aload_n hx hb dL_drawn_15 rfl (lv_at hl 0 rfl) ?_
    refine lv_iload_n hx hb dL_drawn_16 rfl (lv_at hl 1 rfl) ?_
    refine lv_aload_n hx hb dL_drawn_17 rfl (lv_at hl 0 rfl) ?_
    refine va_slen hx hb hX hbl hbA hS dL_drawn_18 ?_
    obtain ⟨hz, hF⟩ := k_nz_ex hF
    refine lv_irem hx hb dL_drawn_19 hz ?_
    obtain ⟨r20, hin, hn, hF⟩ := k_ld_ex hF
    refine va_sld hx hb hX hbl hbA hS hin dL_drawn_20 ?_
    refine x_nm hn ?_
    refine lv_iload_n hx hb dL_drawn_21 rfl (lv_at hl 1 rfl) ?_
    refine lv_bipush (v := (7 : Int32)) hx hb dL_drawn_22 (by decide) ?_
    obtain ⟨hz, hF⟩ := k_nz_ex hF
    refine lv_irem hx hb dL_drawn_24 hz ?_
    refine lv_ishr hx hb dL_drawn_25 ?_
    refine lv_iload_n hx hb dL_drawn_26 rfl (lv_at hl 1 rfl) ?_
    refine lv_aload_n hx hb dL_drawn_27 rfl (lv_at hl 0 rfl) ?_
    refine va_slen hx hb hX hbl hbA hS dL_drawn_28 ?_
    obtain ⟨hz, hF⟩ := k_nz_ex hF
    refine lv_idiv hx hb dL_drawn_29 hz ?_
    refine lv_bipush (v := (31 : Int32)) hx hb dL_drawn_30 (by decide) ?_
    refine lv_imul hx hb dL_drawn_32 ?_
    refine lv_ixor hx hb dL_drawn_33 ?_
    refine lv_iload_n hx hb dL_drawn_34 rfl (lv_at hl 1 rfl) ?_
    refine lv_ldc (v := (2654435 : Int32)) hx hb hown (hts _ mm_L_drawn_script_1) dL_drawn_35 ?_
    refine lv_imul hx hb dL_drawn_37 ?_
    refine lv_ixor hx hb dL_drawn_38 ?_
    exact W.iret hx hb hr (fun t ht hW => ⟨⟨_, (), rfl, Option.some.inj hF, trivial⟩, hS.F ht⟩) hS.2.2 dL_drawn_39
  · have hF := k_if_t hF hc
    refine lv_sipush (v := (7919 : Int32)) hx hb dL_drawn_5 (by decide) ?_
    refine lv_iload_n hx hb dL_drawn_8 rfl (lv_at hl 1 rfl) ?_
    refine lv_imul hx hb dL_drawn_9 ?_
    refine lv_iconst (v := (3 : Int32)) hx hb dL_drawn_10 (by decide) ?_
    refine lv_iadd hx hb dL_drawn_11 ?_
    refine lv_goto (tgt := 39) hx hb dL_drawn_12 (by decide) ?_
    exact W.iret hx hb hr (fun t ht hW => ⟨⟨_, (), rfl, Option.some.inj hF, trivial⟩, hS.F ht⟩) hS.2.2 dL_drawn_39
