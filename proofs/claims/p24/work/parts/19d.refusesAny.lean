theorem mm_L_refusesAny_1 : Cond.constantLong RL 75 (32) ∈ wsL_refusesAny := List.mem_of_getElem? (i := 1) rfl
theorem mm_L_refusesAny_2 : Cond.constantLong RL 81 (127) ∈ wsL_refusesAny := List.mem_of_getElem? (i := 2) rfl
theorem mm_L_refusesAny_3 : Cond.constantLong RL 83 (11008) ∈ wsL_refusesAny := List.mem_of_getElem? (i := 3) rfl
set_option maxHeartbeats 4000000 in
set_option maxRecDepth 100000 in
theorem c_L_refusesAny (l : Launch) (D : va_G) (cyI cyZ : ClassId) (aM aS aC aH aHs aL aLs aP aPc aR aRn aT aTp : Nat) (sz : Nat) (N : Nat) (x1 : Int32) (vc : (Nat → Int32)) (vhf : Int32) (vhl : Int32) (vhs : (Nat → Int32)) (vsf : Int32) (vss : (Nat → Int32)) (vpl : Int32) (vpp : (Nat → Int32)) (vra : Int32) (vrk : Int32) (vrt : Int32) (vrn : (Nat → Int32)) (vtl : Int32) (vta : Int32) (vtt : Int32) (vtp : (Nat → Int32)) {r0 : Int32} {vc' : (Nat → Int32)} {vhf' : Int32} {vhl' : Int32} {vhs' : (Nat → Int32)} {vsf' : Int32} {vss' : (Nat → Int32)} {vpl' : Int32} {vpp' : (Nat → Int32)} {vra' : Int32} {vrk' : Int32} {vrt' : Int32} {vrn' : (Nat → Int32)} {vtl' : Int32} {vta' : Int32} {vtt' : Int32} {vtp' : (Nat → Int32)} (hF : p_L_refusesAny N x1 vc vhf vhl vhs vsf vss vpl vpp vra vrk vrt vrn vtl vta vtt vtp = some (r0, vc', vhf', vhl', vhs', vsf', vss', vpl', vpp', vra', vrk', vrt', vrn', vtl', vta', vtt', vtp')) : Met l yL_refusesAny wsL_refusesAny ({ frames := 7, cells := 0, slots := 0, locals := 161 }) (x_PM D cyI cyZ [.ref aM, .int x1] [(aM, .inr (6, [.ref aS, .ref aH, .ref aL, .ref aP, .ref aR, .ref aT])), (aS, .inr (3, [.ref aC])), (aC, .inl (cyI, 225, .inl vc)), (aH, .inr (0, [.ref aHs, .int vhf, .int vhl])), (aHs, .inl (cyI, 1575, .inl vhs)), (aL, .inr (4, [.ref aLs, .int vsf])), (aLs, .inl (cyI, 450, .inl vss)), (aP, .inr (1, [.ref aPc, .int vpl])), (aPc, .inl (cyI, 80, .inl vpp)), (aR, .inr (2, [.ref aP, .ref aRn, .int vra, .int vrk, .int vrt])), (aRn, .inl (cyI, 40, .inl vrn)), (aT, .inr (5, [.ref aTp, .int vtl, .int vta, .int vtt])), (aTp, .inl (cyI, 552, .inl vtp))] sz) (x_QM D r0 (va_A [(aM, .inr (6, [.ref aS, .ref aH, .ref aL, .ref aP, .ref aR, .ref aT])), (aS, .inr (3, [.ref aC])), (aC, .inl (cyI, 225, .inl vc)), (aH, .inr (0, [.ref aHs, .int vhf, .int vhl])), (aHs, .inl (cyI, 1575, .inl vhs)), (aL, .inr (4, [.ref aLs, .int vsf])), (aLs, .inl (cyI, 450, .inl vss)), (aP, .inr (1, [.ref aPc, .int vpl])), (aPc, .inl (cyI, 80, .inl vpp)), (aR, .inr (2, [.ref aP, .ref aRn, .int vra, .int vrk, .int vrt])), (aRn, .inl (cyI, 40, .inl vrn)), (aT, .inr (5, [.ref aTp, .int vtl, .int vta, .int vtt])), (aTp, .inl (cyI, 552, .inl vtp))] sz) [(aM, .inr (6, [.ref aS, .ref aH, .ref aL, .ref aP, .ref aR, .ref aT])), (aS, .inr (3, [.ref aC])), (aC, .inl (cyI, 225, .inl vc')), (aH, .inr (0, [.ref aHs, .int vhf', .int vhl'])), (aHs, .inl (cyI, 1575, .inl vhs')), (aL, .inr (4, [.ref aLs, .int vsf'])), (aLs, .inl (cyI, 450, .inl vss')), (aP, .inr (1, [.ref aPc, .int vpl'])), (aPc, .inl (cyI, 80, .inl vpp')), (aR, .inr (2, [.ref aP, .ref aRn, .int vra', .int vrk', .int vrt'])), (aRn, .inl (cyI, 40, .inl vrn')), (aT, .inr (5, [.ref aTp, .int vtl', .int vta', .int vtt'])), (aTp, .inl (cyI, 552, .inl vtp'))]) 0 0 (va_A [(aM, .inr (6, [.ref aS, .ref aH, .ref aL, .ref aP, .ref aR, .ref aT])), (aS, .inr (3, [.ref aC])), (aC, .inl (cyI, 225, .inl vc)), (aH, .inr (0, [.ref aHs, .int vhf, .int vhl])), (aHs, .inl (cyI, 1575, .inl vhs)), (aL, .inr (4, [.ref aLs, .int vsf])), (aLs, .inl (cyI, 450, .inl vss)), (aP, .inr (1, [.ref aPc, .int vpl])), (aPc, .inl (cyI, 80, .inl vpp)), (aR, .inr (2, [.ref aP, .ref aRn, .int vra, .int vrk, .int vrt])), (aRn, .inl (cyI, 40, .inl vrn)), (aT, .inr (5, [.ref aTp, .int vtl, .int vta, .int vtt])), (aTp, .inl (cyI, 552, .inl vtp))] sz) := by
  refine Met.ofW (cc := cL_refusesAny) (maxL := 5) (ret := (some .boolean)) (by decide) rfl ?_
  intro p e s m args below meth c s₁ B hml hv
  obtain ⟨rfl, hsz, hP, hK, hD0⟩ := hv
  have hx := B.exec
  have hb := B.bytes
  have hr := B.returns
  have hts := atoms_spec (ws := wsL_refusesAny) B.pre
  have hown : s.vm.findClass RL = some m.cls := findClass_of_methodNamed B.named
  have hlocks := B.notSynchronized
  subst hsz
  have hD := hD0.self (sz := s.heap.size)
  generalize hAe : va_A [(aM, .inr (6, [.ref aS, .ref aH, .ref aL, .ref aP, .ref aR, .ref aT])), (aS, .inr (3, [.ref aC])), (aC, .inl (cyI, 225, .inl vc)), (aH, .inr (0, [.ref aHs, .int vhf, .int vhl])), (aHs, .inl (cyI, 1575, .inl vhs)), (aL, .inr (4, [.ref aLs, .int vsf])), (aLs, .inl (cyI, 450, .inl vss)), (aP, .inr (1, [.ref aPc, .int vpl])), (aPc, .inl (cyI, 80, .inl vpp)), (aR, .inr (2, [.ref aP, .ref aRn, .int vra, .int vrk, .int vrt])), (aRn, .inl (cyI, 40, .inl vrn)), (aT, .inr (5, [.ref aTp, .int vtl, .int vta, .int vtt])), (aTp, .inl (cyI, 552, .inl vtp))] s.heap.size = A at hD ⊢
  have hA : ∀ q : Nat, s.heap.size ≤ q → A q := fun q h => by rw [← hAe]; exact Or.inr h
  have hS : va_S A s.heap s.heap [] := va_S.rf
  have hP : va_P D vwCl [(aM, .inr (6, [.ref aS, .ref aH, .ref aL, .ref aP, .ref aR, .ref aT])), (aS, .inr (3, [.ref aC])), (aC, .inl (cyI, 225, .inl vc)), (aH, .inr (0, [.ref aHs, .int vhf, .int vhl])), (aHs, .inl (cyI, 1575, .inl vhs)), (aL, .inr (4, [.ref aLs, .int vsf])), (aLs, .inl (cyI, 450, .inl vss)), (aP, .inr (1, [.ref aPc, .int vpl])), (aPc, .inl (cyI, 80, .inl vpp)), (aR, .inr (2, [.ref aP, .ref aRn, .int vra, .int vrk, .int vrt])), (aRn, .inl (cyI, 40, .inl vrn)), (aT, .inr (5, [.ref aTp, .int vtl, .int vta, .int vtt])), (aTp, .inl (cyI, 552, .inl vtp))] s.heap := hP
  have hl := lv_entry ([.ref aM, .int x1]) (n := 5) (Nat.le_of_ble_eq_true rfl)
  rw [lg_entry_eq]
  generalize (lg_sl ([.ref aM, .int x1]) ++ List.replicate (5 - (lg_sl ([.ref aM, .int x1])).length) Slot.unset).toArray = ls at hl ⊢
  have hl : lv_has ls 5 [(0, .ref aM), (1, .int x1)] := hl
  refine x_gen (fun G hG => ?_)
  have blk_749 : ∀ (x1 : Int32) (t0 : Int64) (vc : (Nat → Int32)) (vhf : Int32) (vhl : Int32) (vhs : (Nat → Int32)) (vsf : Int32) (vss : (Nat → Int32)) (vpl : Int32) (vpp : (Nat → Int32)) (vra : Int32) (vrk : Int32) (vrt : Int32) (vrn : (Nat → Int32)) (vtl : Int32) (vta : Int32) (vtt : Int32) (vtp : (Nat → Int32)), b_L_refusesAny_749 N x1 t0 vc vhf vhl vhs vsf vss vpl vpp vra vrk vrt vrn vtl vta vtt vtp = some (r0, vc', vhf', vhl', vhs', vsf', vss', vpl', vpp', vra', vrk', vrt', vrn', vtl', vta', vtt', vtp') → ∀ (H : Heap) (locs : List Loc) (ls : Array Slot), va_P D vwCl [(aM, .inr (6, [.ref aS, .ref aH, .ref aL, .ref aP, .ref aR, .ref aT])), (aS, .inr (3, [.ref aC])), (aC, .inl (cyI, 225, .inl vc)), (aH, .inr (0, [.ref aHs, .int vhf, .int vhl])), (aHs, .inl (cyI, 1575, .inl vhs)), (aL, .inr (4, [.ref aLs, .int vsf])), (aLs, .inl (cyI, 450, .inl vss)), (aP, .inr (1, [.ref aPc, .int vpl])), (aPc, .inl (cyI, 80, .inl vpp)), (aR, .inr (2, [.ref aP, .ref aRn, .int vra, .int vrk, .int vrt])), (aRn, .inl (cyI, 40, .inl vrn)), (aT, .inr (5, [.ref aTp, .int vtl, .int vta, .int vtt])), (aTp, .inl (cyI, 552, .inl vtp))] H → va_D A [(aM, .inr (6, [.ref aS, .ref aH, .ref aL, .ref aP, .ref aR, .ref aT])), (aS, .inr (3, [.ref aC])), (aC, .inl (cyI, 225, .inl vc)), (aH, .inr (0, [.ref aHs, .int vhf, .int vhl])), (aHs, .inl (cyI, 1575, .inl vhs)), (aL, .inr (4, [.ref aLs, .int vsf])), (aLs, .inl (cyI, 450, .inl vss)), (aP, .inr (1, [.ref aPc, .int vpl])), (aPc, .inl (cyI, 80, .inl vpp)), (aR, .inr (2, [.ref aP, .ref aRn, .int vra, .int vrk, .int vrt])), (aRn, .inl (cyI, 40, .inl vrn)), (aT, .inr (5, [.ref aTp, .int vtl, .int vta, .int vtt])), (aTp, .inl (cyI, 552, .inl vtp))] → va_S A s.heap H locs → lv_has ls 5 [(0, .ref aM), (1, .int x1)] → G H locs (F0 m 749 ls [.long t0, .ref aM]) := by
    intro x1 t0 vc vhf vhl vhs vsf vss vpl vpp vra vrk vrt vrn vtl vta vtt vtp hF H locs ls hP hD hS hl
    unfold b_L_refusesAny_749 at hF
    refine (hG _ _ _).2 ?_
    obtain ⟨r749, vpl_749, vpp_749, hC, hF⟩ := k_c3_ex hF
    refine x_VM (As := [.long t0]) (rest := []) ⟨hx, hb, hml, hown, hts⟩ (c_X6_put l D cyI cyZ aM aS aH aL aP aPc aR aT H.size N t0 vpl vpp hC) (cwV 1 hts gL_refusesAny_X6_put rfl rfl rfl (by decide +kernel) ⟨Nat.le_of_ble_eq_true rfl, Nat.le_of_ble_eq_true rfl⟩) hK hP hD hS hA [0, 7, 8] rfl rfl rfl 0 rfl rfl rfl rfl hl.1 rfl (Nat.le_of_ble_eq_true rfl) ⟨Nat.zero_le _, Nat.zero_le _⟩ dL_refusesAny_749 (fun H locs hP hD hS => ?_)
    have hP : va_P D vwCl [(aM, .inr (6, [.ref aS, .ref aH, .ref aL, .ref aP, .ref aR, .ref aT])), (aS, .inr (3, [.ref aC])), (aC, .inl (cyI, 225, .inl vc)), (aH, .inr (0, [.ref aHs, .int vhf, .int vhl])), (aHs, .inl (cyI, 1575, .inl vhs)), (aL, .inr (4, [.ref aLs, .int vsf])), (aLs, .inl (cyI, 450, .inl vss)), (aP, .inr (1, [.ref aPc, .int vpl_749])), (aPc, .inl (cyI, 80, .inl vpp_749)), (aR, .inr (2, [.ref aP, .ref aRn, .int vra, .int vrk, .int vrt])), (aRn, .inl (cyI, 40, .inl vrn)), (aT, .inr (5, [.ref aTp, .int vtl, .int vta, .int vtt])), (aTp, .inl (cyI, 552, .inl vtp))] H := hP
    have hD : va_D A [(aM, .inr (6, [.ref aS, .ref aH, .ref aL, .ref aP, .ref aR, .ref aT])), (aS, .inr (3, [.ref aC])), (aC, .inl (cyI, 225, .inl vc)), (aH, .inr (0, [.ref aHs, .int vhf, .int vhl])), (aHs, .inl (cyI, 1575, .inl vhs)), (aL, .inr (4, [.ref aLs, .int vsf])), (aLs, .inl (cyI, 450, .inl vss)), (aP, .inr (1, [.ref aPc, .int vpl_749])), (aPc, .inl (cyI, 80, .inl vpp_749)), (aR, .inr (2, [.ref aP, .ref aRn, .int vra, .int vrk, .int vrt])), (aRn, .inl (cyI, 40, .inl vrn)), (aT, .inr (5, [.ref aTp, .int vtl, .int vta, .int vtt])), (aTp, .inl (cyI, 552, .inl vtp))] := hD
    refine lv_bipush (v := (-2 : Int32)) hx hb dL_refusesAny_752 (by decide) ?_
    refine lv_icmp_ne (tgt := 783) hx hb dL_refusesAny_754 (by decide) (fun hc => ?_) (fun hc => ?_)
    · have hF := k_if_f hF hc
      refine lv_iconst (v := (0 : Int32)) hx hb dL_refusesAny_783 (by decide) ?_
      obtain ⟨e0, e1, e2, e3, e4, e5, e6, e7, e8, e9, e10, e11, e12, e13, e14, e15, e16⟩ := k_inj17 hF
      have hP9 : va_P D vwCl [(aM, .inr (6, [.ref aS, .ref aH, .ref aL, .ref aP, .ref aR, .ref aT])), (aS, .inr (3, [.ref aC])), (aC, .inl (cyI, 225, .inl vc')), (aH, .inr (0, [.ref aHs, .int vhf', .int vhl'])), (aHs, .inl (cyI, 1575, .inl vhs')), (aL, .inr (4, [.ref aLs, .int vsf'])), (aLs, .inl (cyI, 450, .inl vss')), (aP, .inr (1, [.ref aPc, .int vpl'])), (aPc, .inl (cyI, 80, .inl vpp')), (aR, .inr (2, [.ref aP, .ref aRn, .int vra', .int vrk', .int vrt'])), (aRn, .inl (cyI, 40, .inl vrn')), (aT, .inr (5, [.ref aTp, .int vtl', .int vta', .int vtt'])), (aTp, .inl (cyI, 552, .inl vtp'))] H := by rw [← e1, ← e2, ← e3, ← e4, ← e5, ← e6, ← e7, ← e8, ← e9, ← e10, ← e11, ← e12, ← e13, ← e14, ← e15, ← e16]; exact hP
      exact W.zret hx hb hr rfl (fun t ht hW => ⟨⟨_, (), rfl, e0, x_ret hP9 ht⟩, hS.F ht⟩) hS.2.2 dL_refusesAny_784
    · have hF := k_if_t hF hc
      refine lv_aload_n hx hb dL_refusesAny_757 rfl (lv_at hl 0 rfl) ?_
      refine lv_iload_n hx hb dL_refusesAny_758 rfl (lv_at hl 1 rfl) ?_
      refine lv_if_ne (tgt := 768) hx hb dL_refusesAny_759 (by decide) (fun hc => ?_) (fun hc => ?_)
      · have hF := k_if_f hF hc
        refine lv_ldc2 (v := (11008 : Int64)) hx hb hown (hts _ mm_L_refusesAny_3) dL_refusesAny_768 ?_
        obtain ⟨r771, vpl_771, vpp_771, hC, hF⟩ := k_c3_ex hF
        refine x_VM (As := [.long (11008 : Int64)]) (rest := []) ⟨hx, hb, hml, hown, hts⟩ (c_X6_put l D cyI cyZ aM aS aH aL aP aPc aR aT H.size N (11008 : Int64) vpl_749 vpp_749 hC) (cwV 1 hts gL_refusesAny_X6_put rfl rfl rfl (by decide +kernel) ⟨Nat.le_of_ble_eq_true rfl, Nat.le_of_ble_eq_true rfl⟩) hK hP hD hS hA [0, 7, 8] rfl rfl rfl 0 rfl rfl rfl rfl hl.1 rfl (Nat.le_of_ble_eq_true rfl) ⟨Nat.zero_le _, Nat.zero_le _⟩ dL_refusesAny_771 (fun H locs hP hD hS => ?_)
        have hP : va_P D vwCl [(aM, .inr (6, [.ref aS, .ref aH, .ref aL, .ref aP, .ref aR, .ref aT])), (aS, .inr (3, [.ref aC])), (aC, .inl (cyI, 225, .inl vc)), (aH, .inr (0, [.ref aHs, .int vhf, .int vhl])), (aHs, .inl (cyI, 1575, .inl vhs)), (aL, .inr (4, [.ref aLs, .int vsf])), (aLs, .inl (cyI, 450, .inl vss)), (aP, .inr (1, [.ref aPc, .int vpl_771])), (aPc, .inl (cyI, 80, .inl vpp_771)), (aR, .inr (2, [.ref aP, .ref aRn, .int vra, .int vrk, .int vrt])), (aRn, .inl (cyI, 40, .inl vrn)), (aT, .inr (5, [.ref aTp, .int vtl, .int vta, .int vtt])), (aTp, .inl (cyI, 552, .inl vtp))] H := hP
        have hD : va_D A [(aM, .inr (6, [.ref aS, .ref aH, .ref aL, .ref aP, .ref aR, .ref aT])), (aS, .inr (3, [.ref aC])), (aC, .inl (cyI, 225, .inl vc)), (aH, .inr (0, [.ref aHs, .int vhf, .int vhl])), (aHs, .inl (cyI, 1575, .inl vhs)), (aL, .inr (4, [.ref aLs, .int vsf])), (aLs, .inl (cyI, 450, .inl vss)), (aP, .inr (1, [.ref aPc, .int vpl_771])), (aPc, .inl (cyI, 80, .inl vpp_771)), (aR, .inr (2, [.ref aP, .ref aRn, .int vra, .int vrk, .int vrt])), (aRn, .inl (cyI, 40, .inl vrn)), (aT, .inr (5, [.ref aTp, .int vtl, .int vta, .int vtt])), (aTp, .inl (cyI, 552, .inl vtp))] := hD
        refine lv_bipush (v := (-2 : Int32)) hx hb dL_refusesAny_774 (by decide) ?_
        refine lv_icmp_ne (tgt := 783) hx hb dL_refusesAny_776 (by decide) (fun hc => ?_) (fun hc => ?_)
        · have hF := k_if_f hF hc
          refine lv_iconst (v := (0 : Int32)) hx hb dL_refusesAny_783 (by decide) ?_
          obtain ⟨e0, e1, e2, e3, e4, e5, e6, e7, e8, e9, e10, e11, e12, e13, e14, e15, e16⟩ := k_inj17 hF
          have hP9 : va_P D vwCl [(aM, .inr (6, [.ref aS, .ref aH, .ref aL, .ref aP, .ref aR, .ref aT])), (aS, .inr (3, [.ref aC])), (aC, .inl (cyI, 225, .inl vc')), (aH, .inr (0, [.ref aHs, .int vhf', .int vhl'])), (aHs, .inl (cyI, 1575, .inl vhs')), (aL, .inr (4, [.ref aLs, .int vsf'])), (aLs, .inl (cyI, 450, .inl vss')), (aP, .inr (1, [.ref aPc, .int vpl'])), (aPc, .inl (cyI, 80, .inl vpp')), (aR, .inr (2, [.ref aP, .ref aRn, .int vra', .int vrk', .int vrt'])), (aRn, .inl (cyI, 40, .inl vrn')), (aT, .inr (5, [.ref aTp, .int vtl', .int vta', .int vtt'])), (aTp, .inl (cyI, 552, .inl vtp'))] H := by rw [← e1, ← e2, ← e3, ← e4, ← e5, ← e6, ← e7, ← e8, ← e9, ← e10, ← e11, ← e12, ← e13, ← e14, ← e15, ← e16]; exact hP
          exact W.zret hx hb hr rfl (fun t ht hW => ⟨⟨_, (), rfl, e0, x_ret hP9 ht⟩, hS.F ht⟩) hS.2.2 dL_refusesAny_784
        · have hF := k_if_t hF hc
          refine lv_iconst (v := (1 : Int32)) hx hb dL_refusesAny_779 (by decide) ?_
          refine lv_goto (tgt := 784) hx hb dL_refusesAny_780 (by decide) ?_
          obtain ⟨e0, e1, e2, e3, e4, e5, e6, e7, e8, e9, e10, e11, e12, e13, e14, e15, e16⟩ := k_inj17 hF
          have hP9 : va_P D vwCl [(aM, .inr (6, [.ref aS, .ref aH, .ref aL, .ref aP, .ref aR, .ref aT])), (aS, .inr (3, [.ref aC])), (aC, .inl (cyI, 225, .inl vc')), (aH, .inr (0, [.ref aHs, .int vhf', .int vhl'])), (aHs, .inl (cyI, 1575, .inl vhs')), (aL, .inr (4, [.ref aLs, .int vsf'])), (aLs, .inl (cyI, 450, .inl vss')), (aP, .inr (1, [.ref aPc, .int vpl'])), (aPc, .inl (cyI, 80, .inl vpp')), (aR, .inr (2, [.ref aP, .ref aRn, .int vra', .int vrk', .int vrt'])), (aRn, .inl (cyI, 40, .inl vrn')), (aT, .inr (5, [.ref aTp, .int vtl', .int vta', .int vtt'])), (aTp, .inl (cyI, 552, .inl vtp'))] H := by rw [← e1, ← e2, ← e3, ← e4, ← e5, ← e6, ← e7, ← e8, ← e9, ← e10, ← e11, ← e12, ← e13, ← e14, ← e15, ← e16]; exact hP
          exact W.zret hx hb hr rfl (fun t ht hW => ⟨⟨_, (), rfl, e0, x_ret hP9 ht⟩, hS.F ht⟩) hS.2.2 dL_refusesAny_784
      · have hF := k_if_t hF hc
        refine lv_ldc2 (v := (127 : Int64)) hx hb hown (hts _ mm_L_refusesAny_2) dL_refusesAny_762 ?_
        refine lv_goto (tgt := 771) hx hb dL_refusesAny_765 (by decide) ?_
        obtain ⟨r771, vpl_771, vpp_771, hC, hF⟩ := k_c3_ex hF
        refine x_VM (As := [.long (127 : Int64)]) (rest := []) ⟨hx, hb, hml, hown, hts⟩ (c_X6_put l D cyI cyZ aM aS aH aL aP aPc aR aT H.size N (127 : Int64) vpl_749 vpp_749 hC) (cwV 1 hts gL_refusesAny_X6_put rfl rfl rfl (by decide +kernel) ⟨Nat.le_of_ble_eq_true rfl, Nat.le_of_ble_eq_true rfl⟩) hK hP hD hS hA [0, 7, 8] rfl rfl rfl 0 rfl rfl rfl rfl hl.1 rfl (Nat.le_of_ble_eq_true rfl) ⟨Nat.zero_le _, Nat.zero_le _⟩ dL_refusesAny_771 (fun H locs hP hD hS => ?_)
        have hP : va_P D vwCl [(aM, .inr (6, [.ref aS, .ref aH, .ref aL, .ref aP, .ref aR, .ref aT])), (aS, .inr (3, [.ref aC])), (aC, .inl (cyI, 225, .inl vc)), (aH, .inr (0, [.ref aHs, .int vhf, .int vhl])), (aHs, .inl (cyI, 1575, .inl vhs)), (aL, .inr (4, [.ref aLs, .int vsf])), (aLs, .inl (cyI, 450, .inl vss)), (aP, .inr (1, [.ref aPc, .int vpl_771])), (aPc, .inl (cyI, 80, .inl vpp_771)), (aR, .inr (2, [.ref aP, .ref aRn, .int vra, .int vrk, .int vrt])), (aRn, .inl (cyI, 40, .inl vrn)), (aT, .inr (5, [.ref aTp, .int vtl, .int vta, .int vtt])), (aTp, .inl (cyI, 552, .inl vtp))] H := hP
        have hD : va_D A [(aM, .inr (6, [.ref aS, .ref aH, .ref aL, .ref aP, .ref aR, .ref aT])), (aS, .inr (3, [.ref aC])), (aC, .inl (cyI, 225, .inl vc)), (aH, .inr (0, [.ref aHs, .int vhf, .int vhl])), (aHs, .inl (cyI, 1575, .inl vhs)), (aL, .inr (4, [.ref aLs, .int vsf])), (aLs, .inl (cyI, 450, .inl vss)), (aP, .inr (1, [.ref aPc, .int vpl_771])), (aPc, .inl (cyI, 80, .inl vpp_771)), (aR, .inr (2, [.ref aP, .ref aRn, .int vra, .int vrk, .int vrt])), (aRn, .inl (cyI, 40, .inl vrn)), (aT, .inr (5, [.ref aTp, .int vtl, .int vta, .int vtt])), (aTp, .inl (cyI, 552, .inl vtp))] := hD
        refine lv_bipush (v := (-2 : Int32)) hx hb dL_refusesAny_774 (by decide) ?_
        refine lv_icmp_ne (tgt := 783) hx hb dL_refusesAny_776 (by decide) (fun hc => ?_) (fun hc => ?_)
        · have hF := k_if_f hF hc
          refine lv_iconst (v := (0 : Int32)) hx hb dL_refusesAny_783 (by decide) ?_
          obtain ⟨e0, e1, e2, e3, e4, e5, e6, e7, e8, e9, e10, e11, e12, e13, e14, e15, e16⟩ := k_inj17 hF
          have hP9 : va_P D vwCl [(aM, .inr (6, [.ref aS, .ref aH, .ref aL, .ref aP, .ref aR, .ref aT])), (aS, .inr (3, [.ref aC])), (aC, .inl (cyI, 225, .inl vc')), (aH, .inr (0, [.ref aHs, .int vhf', .int vhl'])), (aHs, .inl (cyI, 1575, .inl vhs')), (aL, .inr (4, [.ref aLs, .int vsf'])), (aLs, .inl (cyI, 450, .inl vss')), (aP, .inr (1, [.ref aPc, .int vpl'])), (aPc, .inl (cyI, 80, .inl vpp')), (aR, .inr (2, [.ref aP, .ref aRn, .int vra', .int vrk', .int vrt'])), (aRn, .inl (cyI, 40, .inl vrn')), (aT, .inr (5, [.ref aTp, .int vtl', .int vta', .int vtt'])), (aTp, .inl (cyI, 552, .inl vtp'))] H := by rw [← e1, ← e2, ← e3, ← e4, ← e5, ← e6, ← e7, ← e8, ← e9, ← e10, ← e11, ← e12, ← e13, ← e14, ← e15, ← e16]; exact hP
          exact W.zret hx hb hr rfl (fun t ht hW => ⟨⟨_, (), rfl, e0, x_ret hP9 ht⟩, hS.F ht⟩) hS.2.2 dL_refusesAny_784
        · have hF := k_if_t hF hc
          refine lv_iconst (v := (1 : Int32)) hx hb dL_refusesAny_779 (by decide) ?_
          refine lv_goto (tgt := 784) hx hb dL_refusesAny_780 (by decide) ?_
          obtain ⟨e0, e1, e2, e3, e4, e5, e6, e7, e8, e9, e10, e11, e12, e13, e14, e15, e16⟩ := k_inj17 hF
          have hP9 : va_P D vwCl [(aM, .inr (6, [.ref aS, .ref aH, .ref aL, .ref aP, .ref aR, .ref aT])), (aS, .inr (3, [.ref aC])), (aC, .inl (cyI, 225, .inl vc')), (aH, .inr (0, [.ref aHs, .int vhf', .int vhl'])), (aHs, .inl (cyI, 1575, .inl vhs')), (aL, .inr (4, [.ref aLs, .int vsf'])), (aLs, .inl (cyI, 450, .inl vss')), (aP, .inr (1, [.ref aPc, .int vpl'])), (aPc, .inl (cyI, 80, .inl vpp')), (aR, .inr (2, [.ref aP, .ref aRn, .int vra', .int vrk', .int vrt'])), (aRn, .inl (cyI, 40, .inl vrn')), (aT, .inr (5, [.ref aTp, .int vtl', .int vta', .int vtt'])), (aTp, .inl (cyI, 552, .inl vtp'))] H := by rw [← e1, ← e2, ← e3, ← e4, ← e5, ← e6, ← e7, ← e8, ← e9, ← e10, ← e11, ← e12, ← e13, ← e14, ← e15, ← e16]; exact hP
          exact W.zret hx hb hr rfl (fun t ht hW => ⟨⟨_, (), rfl, e0, x_ret hP9 ht⟩, hS.F ht⟩) hS.2.2 dL_refusesAny_784
  have blk_711 : ∀ (x1 : Int32) (t0 : Int32) (vc : (Nat → Int32)) (vhf : Int32) (vhl : Int32) (vhs : (Nat → Int32)) (vsf : Int32) (vss : (Nat → Int32)) (vpl : Int32) (vpp : (Nat → Int32)) (vra : Int32) (vrk : Int32) (vrt : Int32) (vrn : (Nat → Int32)) (vtl : Int32) (vta : Int32) (vtt : Int32) (vtp : (Nat → Int32)), b_L_refusesAny_711 N x1 t0 vc vhf vhl vhs vsf vss vpl vpp vra vrk vrt vrn vtl vta vtt vtp = some (r0, vc', vhf', vhl', vhs', vsf', vss', vpl', vpp', vra', vrk', vrt', vrn', vtl', vta', vtt', vtp') → ∀ (H : Heap) (locs : List Loc) (ls : Array Slot), va_P D vwCl [(aM, .inr (6, [.ref aS, .ref aH, .ref aL, .ref aP, .ref aR, .ref aT])), (aS, .inr (3, [.ref aC])), (aC, .inl (cyI, 225, .inl vc)), (aH, .inr (0, [.ref aHs, .int vhf, .int vhl])), (aHs, .inl (cyI, 1575, .inl vhs)), (aL, .inr (4, [.ref aLs, .int vsf])), (aLs, .inl (cyI, 450, .inl vss)), (aP, .inr (1, [.ref aPc, .int vpl])), (aPc, .inl (cyI, 80, .inl vpp)), (aR, .inr (2, [.ref aP, .ref aRn, .int vra, .int vrk, .int vrt])), (aRn, .inl (cyI, 40, .inl vrn)), (aT, .inr (5, [.ref aTp, .int vtl, .int vta, .int vtt])), (aTp, .inl (cyI, 552, .inl vtp))] H → va_D A [(aM, .inr (6, [.ref aS, .ref aH, .ref aL, .ref aP, .ref aR, .ref aT])), (aS, .inr (3, [.ref aC])), (aC, .inl (cyI, 225, .inl vc)), (aH, .inr (0, [.ref aHs, .int vhf, .int vhl])), (aHs, .inl (cyI, 1575, .inl vhs)), (aL, .inr (4, [.ref aLs, .int vsf])), (aLs, .inl (cyI, 450, .inl vss)), (aP, .inr (1, [.ref aPc, .int vpl])), (aPc, .inl (cyI, 80, .inl vpp)), (aR, .inr (2, [.ref aP, .ref aRn, .int vra, .int vrk, .int vrt])), (aRn, .inl (cyI, 40, .inl vrn)), (aT, .inr (5, [.ref aTp, .int vtl, .int vta, .int vtt])), (aTp, .inl (cyI, 552, .inl vtp))] → va_S A s.heap H locs → lv_has ls 5 [(0, .ref aM), (1, .int x1)] → G H locs (F0 m 711 ls [.int t0, .ref aM]) := by
    intro x1 t0 vc vhf vhl vhs vsf vss vpl vpp vra vrk vrt vrn vtl vta vtt vtp hF H locs ls hP hD hS hl
    unfold b_L_refusesAny_711 at hF
    refine (hG _ _ _).2 ?_
    obtain ⟨r711, vsf_711, vss_711, hC, hF⟩ := k_c3_ex hF
    refine x_VM (As := [.int t0]) (rest := []) ⟨hx, hb, hml, hown, hts⟩ (c_X6_save l D cyI cyZ aM aS aC aH aL aLs aP aR aT H.size N t0 vc vsf vss hC) (cwV 1 hts gL_refusesAny_X6_save rfl rfl rfl (by decide +kernel) ⟨Nat.le_of_ble_eq_true rfl, Nat.le_of_ble_eq_true rfl⟩) hK hP hD hS hA [0, 1, 2, 5, 6] rfl rfl rfl 0 rfl rfl rfl rfl hl.1 rfl (Nat.le_of_ble_eq_true rfl) ⟨Nat.zero_le _, Nat.zero_le _⟩ dL_refusesAny_711 (fun H locs hP hD hS => ?_)
    have hP : va_P D vwCl [(aM, .inr (6, [.ref aS, .ref aH, .ref aL, .ref aP, .ref aR, .ref aT])), (aS, .inr (3, [.ref aC])), (aC, .inl (cyI, 225, .inl vc)), (aH, .inr (0, [.ref aHs, .int vhf, .int vhl])), (aHs, .inl (cyI, 1575, .inl vhs)), (aL, .inr (4, [.ref aLs, .int vsf_711])), (aLs, .inl (cyI, 450, .inl vss_711)), (aP, .inr (1, [.ref aPc, .int vpl])), (aPc, .inl (cyI, 80, .inl vpp)), (aR, .inr (2, [.ref aP, .ref aRn, .int vra, .int vrk, .int vrt])), (aRn, .inl (cyI, 40, .inl vrn)), (aT, .inr (5, [.ref aTp, .int vtl, .int vta, .int vtt])), (aTp, .inl (cyI, 552, .inl vtp))] H := hP
    have hD : va_D A [(aM, .inr (6, [.ref aS, .ref aH, .ref aL, .ref aP, .ref aR, .ref aT])), (aS, .inr (3, [.ref aC])), (aC, .inl (cyI, 225, .inl vc)), (aH, .inr (0, [.ref aHs, .int vhf, .int vhl])), (aHs, .inl (cyI, 1575, .inl vhs)), (aL, .inr (4, [.ref aLs, .int vsf_711])), (aLs, .inl (cyI, 450, .inl vss_711)), (aP, .inr (1, [.ref aPc, .int vpl])), (aPc, .inl (cyI, 80, .inl vpp)), (aR, .inr (2, [.ref aP, .ref aRn, .int vra, .int vrk, .int vrt])), (aRn, .inl (cyI, 40, .inl vrn)), (aT, .inr (5, [.ref aTp, .int vtl, .int vta, .int vtt])), (aTp, .inl (cyI, 552, .inl vtp))] := hD
    refine lv_bipush (v := (-2 : Int32)) hx hb dL_refusesAny_714 (by decide) ?_
    refine lv_icmp_ne (tgt := 783) hx hb dL_refusesAny_716 (by decide) (fun hc => ?_) (fun hc => ?_)
    · have hF := k_if_f hF hc
      refine lv_iconst (v := (0 : Int32)) hx hb dL_refusesAny_783 (by decide) ?_
      obtain ⟨e0, e1, e2, e3, e4, e5, e6, e7, e8, e9, e10, e11, e12, e13, e14, e15, e16⟩ := k_inj17 hF
      have hP9 : va_P D vwCl [(aM, .inr (6, [.ref aS, .ref aH, .ref aL, .ref aP, .ref aR, .ref aT])), (aS, .inr (3, [.ref aC])), (aC, .inl (cyI, 225, .inl vc')), (aH, .inr (0, [.ref aHs, .int vhf', .int vhl'])), (aHs, .inl (cyI, 1575, .inl vhs')), (aL, .inr (4, [.ref aLs, .int vsf'])), (aLs, .inl (cyI, 450, .inl vss')), (aP, .inr (1, [.ref aPc, .int vpl'])), (aPc, .inl (cyI, 80, .inl vpp')), (aR, .inr (2, [.ref aP, .ref aRn, .int vra', .int vrk', .int vrt'])), (aRn, .inl (cyI, 40, .inl vrn')), (aT, .inr (5, [.ref aTp, .int vtl', .int vta', .int vtt'])), (aTp, .inl (cyI, 552, .inl vtp'))] H := by rw [← e1, ← e2, ← e3, ← e4, ← e5, ← e6, ← e7, ← e8, ← e9, ← e10, ← e11, ← e12, ← e13, ← e14, ← e15, ← e16]; exact hP
      exact W.zret hx hb hr rfl (fun t ht hW => ⟨⟨_, (), rfl, e0, x_ret hP9 ht⟩, hS.F ht⟩) hS.2.2 dL_refusesAny_784
    · have hF := k_if_t hF hc
      refine lv_aload_n hx hb dL_refusesAny_719 rfl (lv_at hl 0 rfl) ?_
      refine lv_iload_n hx hb dL_refusesAny_720 rfl (lv_at hl 1 rfl) ?_
      refine lv_if_ne (tgt := 728) hx hb dL_refusesAny_721 (by decide) (fun hc => ?_) (fun hc => ?_)
      · have hF := k_if_f hF hc
        refine lv_iconst (v := (2 : Int32)) hx hb dL_refusesAny_728 (by decide) ?_
        obtain ⟨r729, vc_729, vhf_729, vhl_729, vhs_729, hC, hF⟩ := k_c5_ex hF
        refine x_VM (As := [.int (2 : Int32)]) (rest := []) ⟨hx, hb, hml, hown, hts⟩ (c_X6_restore l D cyI cyZ aM aS aC aH aHs aL aLs aP aR aT H.size N (2 : Int32) vc vhf vhl vhs vsf_711 vss_711 hC) (cwV 1 hts gL_refusesAny_X6_restore rfl rfl rfl (by decide +kernel) ⟨Nat.le_of_ble_eq_true rfl, Nat.le_of_ble_eq_true rfl⟩) hK hP hD hS hA [0, 1, 2, 3, 4, 5, 6] rfl rfl rfl 0 rfl rfl rfl rfl hl.1 rfl (Nat.le_of_ble_eq_true rfl) ⟨Nat.zero_le _, Nat.zero_le _⟩ dL_refusesAny_729 (fun H locs hP hD hS => ?_)
        have hP : va_P D vwCl [(aM, .inr (6, [.ref aS, .ref aH, .ref aL, .ref aP, .ref aR, .ref aT])), (aS, .inr (3, [.ref aC])), (aC, .inl (cyI, 225, .inl vc_729)), (aH, .inr (0, [.ref aHs, .int vhf_729, .int vhl_729])), (aHs, .inl (cyI, 1575, .inl vhs_729)), (aL, .inr (4, [.ref aLs, .int vsf_711])), (aLs, .inl (cyI, 450, .inl vss_711)), (aP, .inr (1, [.ref aPc, .int vpl])), (aPc, .inl (cyI, 80, .inl vpp)), (aR, .inr (2, [.ref aP, .ref aRn, .int vra, .int vrk, .int vrt])), (aRn, .inl (cyI, 40, .inl vrn)), (aT, .inr (5, [.ref aTp, .int vtl, .int vta, .int vtt])), (aTp, .inl (cyI, 552, .inl vtp))] H := hP
        have hD : va_D A [(aM, .inr (6, [.ref aS, .ref aH, .ref aL, .ref aP, .ref aR, .ref aT])), (aS, .inr (3, [.ref aC])), (aC, .inl (cyI, 225, .inl vc_729)), (aH, .inr (0, [.ref aHs, .int vhf_729, .int vhl_729])), (aHs, .inl (cyI, 1575, .inl vhs_729)), (aL, .inr (4, [.ref aLs, .int vsf_711])), (aLs, .inl (cyI, 450, .inl vss_711)), (aP, .inr (1, [.ref aPc, .int vpl])), (aPc, .inl (cyI, 80, .inl vpp)), (aR, .inr (2, [.ref aP, .ref aRn, .int vra, .int vrk, .int vrt])), (aRn, .inl (cyI, 40, .inl vrn)), (aT, .inr (5, [.ref aTp, .int vtl, .int vta, .int vtt])), (aTp, .inl (cyI, 552, .inl vtp))] := hD
        refine lv_bipush (v := (-2 : Int32)) hx hb dL_refusesAny_732 (by decide) ?_
        refine lv_icmp_ne (tgt := 783) hx hb dL_refusesAny_734 (by decide) (fun hc => ?_) (fun hc => ?_)
        · have hF := k_if_f hF hc
          refine lv_iconst (v := (0 : Int32)) hx hb dL_refusesAny_783 (by decide) ?_
          obtain ⟨e0, e1, e2, e3, e4, e5, e6, e7, e8, e9, e10, e11, e12, e13, e14, e15, e16⟩ := k_inj17 hF
          have hP9 : va_P D vwCl [(aM, .inr (6, [.ref aS, .ref aH, .ref aL, .ref aP, .ref aR, .ref aT])), (aS, .inr (3, [.ref aC])), (aC, .inl (cyI, 225, .inl vc')), (aH, .inr (0, [.ref aHs, .int vhf', .int vhl'])), (aHs, .inl (cyI, 1575, .inl vhs')), (aL, .inr (4, [.ref aLs, .int vsf'])), (aLs, .inl (cyI, 450, .inl vss')), (aP, .inr (1, [.ref aPc, .int vpl'])), (aPc, .inl (cyI, 80, .inl vpp')), (aR, .inr (2, [.ref aP, .ref aRn, .int vra', .int vrk', .int vrt'])), (aRn, .inl (cyI, 40, .inl vrn')), (aT, .inr (5, [.ref aTp, .int vtl', .int vta', .int vtt'])), (aTp, .inl (cyI, 552, .inl vtp'))] H := by rw [← e1, ← e2, ← e3, ← e4, ← e5, ← e6, ← e7, ← e8, ← e9, ← e10, ← e11, ← e12, ← e13, ← e14, ← e15, ← e16]; exact hP
          exact W.zret hx hb hr rfl (fun t ht hW => ⟨⟨_, (), rfl, e0, x_ret hP9 ht⟩, hS.F ht⟩) hS.2.2 dL_refusesAny_784
        · have hF := k_if_t hF hc
          refine lv_aload_n hx hb dL_refusesAny_737 rfl (lv_at hl 0 rfl) ?_
          refine lv_iload_n hx hb dL_refusesAny_738 rfl (lv_at hl 1 rfl) ?_
          refine lv_if_ne (tgt := 746) hx hb dL_refusesAny_739 (by decide) (fun hc => ?_) (fun hc => ?_)
          · have hF := k_if_f hF hc
            refine lv_ldc2 (v := (32 : Int64)) hx hb hown (hts _ mm_L_refusesAny_1) dL_refusesAny_746 ?_
            exact (hG _ _ _).1 (blk_749 x1 (32 : Int64) vc_729 vhf_729 vhl_729 vhs_729 vsf_711 vss_711 vpl vpp vra vrk vrt vrn vtl vta vtt vtp hF _ _ _ hP hD hS (lv_sub hl [0, 1] rfl))
          · have hF := k_if_t hF hc
            refine lv_lconst (v := (0 : Int64)) hx hb dL_refusesAny_742 (by decide) ?_
            refine lv_goto (tgt := 749) hx hb dL_refusesAny_743 (by decide) ?_
            exact (hG _ _ _).1 (blk_749 x1 (0 : Int64) vc_729 vhf_729 vhl_729 vhs_729 vsf_711 vss_711 vpl vpp vra vrk vrt vrn vtl vta vtt vtp hF _ _ _ hP hD hS (lv_sub hl [0, 1] rfl))
      · have hF := k_if_t hF hc
        refine lv_iconst (v := (-1 : Int32)) hx hb dL_refusesAny_724 (by decide) ?_
        refine lv_goto (tgt := 729) hx hb dL_refusesAny_725 (by decide) ?_
        obtain ⟨r729, vc_729, vhf_729, vhl_729, vhs_729, hC, hF⟩ := k_c5_ex hF
        refine x_VM (As := [.int (-1 : Int32)]) (rest := []) ⟨hx, hb, hml, hown, hts⟩ (c_X6_restore l D cyI cyZ aM aS aC aH aHs aL aLs aP aR aT H.size N (-1 : Int32) vc vhf vhl vhs vsf_711 vss_711 hC) (cwV 1 hts gL_refusesAny_X6_restore rfl rfl rfl (by decide +kernel) ⟨Nat.le_of_ble_eq_true rfl, Nat.le_of_ble_eq_true rfl⟩) hK hP hD hS hA [0, 1, 2, 3, 4, 5, 6] rfl rfl rfl 0 rfl rfl rfl rfl hl.1 rfl (Nat.le_of_ble_eq_true rfl) ⟨Nat.zero_le _, Nat.zero_le _⟩ dL_refusesAny_729 (fun H locs hP hD hS => ?_)
        have hP : va_P D vwCl [(aM, .inr (6, [.ref aS, .ref aH, .ref aL, .ref aP, .ref aR, .ref aT])), (aS, .inr (3, [.ref aC])), (aC, .inl (cyI, 225, .inl vc_729)), (aH, .inr (0, [.ref aHs, .int vhf_729, .int vhl_729])), (aHs, .inl (cyI, 1575, .inl vhs_729)), (aL, .inr (4, [.ref aLs, .int vsf_711])), (aLs, .inl (cyI, 450, .inl vss_711)), (aP, .inr (1, [.ref aPc, .int vpl])), (aPc, .inl (cyI, 80, .inl vpp)), (aR, .inr (2, [.ref aP, .ref aRn, .int vra, .int vrk, .int vrt])), (aRn, .inl (cyI, 40, .inl vrn)), (aT, .inr (5, [.ref aTp, .int vtl, .int vta, .int vtt])), (aTp, .inl (cyI, 552, .inl vtp))] H := hP
        have hD : va_D A [(aM, .inr (6, [.ref aS, .ref aH, .ref aL, .ref aP, .ref aR, .ref aT])), (aS, .inr (3, [.ref aC])), (aC, .inl (cyI, 225, .inl vc_729)), (aH, .inr (0, [.ref aHs, .int vhf_729, .int vhl_729])), (aHs, .inl (cyI, 1575, .inl vhs_729)), (aL, .inr (4, [.ref aLs, .int vsf_711])), (aLs, .inl (cyI, 450, .inl vss_711)), (aP, .inr (1, [.ref aPc, .int vpl])), (aPc, .inl (cyI, 80, .inl vpp)), (aR, .inr (2, [.ref aP, .ref aRn, .int vra, .int vrk, .int vrt])), (aRn, .inl (cyI, 40, .inl vrn)), (aT, .inr (5, [.ref aTp, .int vtl, .int vta, .int vtt])), (aTp, .inl (cyI, 552, .inl vtp))] := hD
        refine lv_bipush (v := (-2 : Int32)) hx hb dL_refusesAny_732 (by decide) ?_
        refine lv_icmp_ne (tgt := 783) hx hb dL_refusesAny_734 (by decide) (fun hc => ?_) (fun hc => ?_)
        · have hF := k_if_f hF hc
          refine lv_iconst (v := (0 : Int32)) hx hb dL_refusesAny_783 (by decide) ?_
          obtain ⟨e0, e1, e2, e3, e4, e5, e6, e7, e8, e9, e10, e11, e12, e13, e14, e15, e16⟩ := k_inj17 hF
          have hP9 : va_P D vwCl [(aM, .inr (6, [.ref aS, .ref aH, .ref aL, .ref aP, .ref aR, .ref aT])), (aS, .inr (3, [.ref aC])), (aC, .inl (cyI, 225, .inl vc')), (aH, .inr (0, [.ref aHs, .int vhf', .int vhl'])), (aHs, .inl (cyI, 1575, .inl vhs')), (aL, .inr (4, [.ref aLs, .int vsf'])), (aLs, .inl (cyI, 450, .inl vss')), (aP, .inr (1, [.ref aPc, .int vpl'])), (aPc, .inl (cyI, 80, .inl vpp')), (aR, .inr (2, [.ref aP, .ref aRn, .int vra', .int vrk', .int vrt'])), (aRn, .inl (cyI, 40, .inl vrn')), (aT, .inr (5, [.ref aTp, .int vtl', .int vta', .int vtt'])), (aTp, .inl (cyI, 552, .inl vtp'))] H := by rw [← e1, ← e2, ← e3, ← e4, ← e5, ← e6, ← e7, ← e8, ← e9, ← e10, ← e11, ← e12, ← e13, ← e14, ← e15, ← e16]; exact hP
          exact W.zret hx hb hr rfl (fun t ht hW => ⟨⟨_, (), rfl, e0, x_ret hP9 ht⟩, hS.F ht⟩) hS.2.2 dL_refusesAny_784
        · have hF := k_if_t hF hc
          refine lv_aload_n hx hb dL_refusesAny_737 rfl (lv_at hl 0 rfl) ?_
          refine lv_iload_n hx hb dL_refusesAny_738 rfl (lv_at hl 1 rfl) ?_
          refine lv_if_ne (tgt := 746) hx hb dL_refusesAny_739 (by decide) (fun hc => ?_) (fun hc => ?_)
          · have hF := k_if_f hF hc
            refine lv_ldc2 (v := (32 : Int64)) hx hb hown (hts _ mm_L_refusesAny_1) dL_refusesAny_746 ?_
            exact (hG _ _ _).1 (blk_749 x1 (32 : Int64) vc_729 vhf_729 vhl_729 vhs_729 vsf_711 vss_711 vpl vpp vra vrk vrt vrn vtl vta vtt vtp hF _ _ _ hP hD hS (lv_sub hl [0, 1] rfl))
          · have hF := k_if_t hF hc
            refine lv_lconst (v := (0 : Int64)) hx hb dL_refusesAny_742 (by decide) ?_
            refine lv_goto (tgt := 749) hx hb dL_refusesAny_743 (by decide) ?_
            exact (hG _ _ _).1 (blk_749 x1 (0 : Int64) vc_729 vhf_729 vhl_729 vhs_729 vsf_711 vss_711 vpl vpp vra vrk vrt vrn vtl vta vtt vtp hF _ _ _ hP hD hS (lv_sub hl [0, 1] rfl))
  have blk_653 : ∀ (x1 : Int32) (x2 : Int32) (x4 : Int32) (t0 : Int32) (t1 : Int32) (t2 : Int32) (vc : (Nat → Int32)) (vhf : Int32) (vhl : Int32) (vhs : (Nat → Int32)) (vsf : Int32) (vss : (Nat → Int32)) (vpl : Int32) (vpp : (Nat → Int32)) (vra : Int32) (vrk : Int32) (vrt : Int32) (vrn : (Nat → Int32)) (vtl : Int32) (vta : Int32) (vtt : Int32) (vtp : (Nat → Int32)), b_L_refusesAny_653 N x1 x2 x4 t0 t1 t2 vc vhf vhl vhs vsf vss vpl vpp vra vrk vrt vrn vtl vta vtt vtp = some (r0, vc', vhf', vhl', vhs', vsf', vss', vpl', vpp', vra', vrk', vrt', vrn', vtl', vta', vtt', vtp') → ∀ (H : Heap) (locs : List Loc) (ls : Array Slot), va_P D vwCl [(aM, .inr (6, [.ref aS, .ref aH, .ref aL, .ref aP, .ref aR, .ref aT])), (aS, .inr (3, [.ref aC])), (aC, .inl (cyI, 225, .inl vc)), (aH, .inr (0, [.ref aHs, .int vhf, .int vhl])), (aHs, .inl (cyI, 1575, .inl vhs)), (aL, .inr (4, [.ref aLs, .int vsf])), (aLs, .inl (cyI, 450, .inl vss)), (aP, .inr (1, [.ref aPc, .int vpl])), (aPc, .inl (cyI, 80, .inl vpp)), (aR, .inr (2, [.ref aP, .ref aRn, .int vra, .int vrk, .int vrt])), (aRn, .inl (cyI, 40, .inl vrn)), (aT, .inr (5, [.ref aTp, .int vtl, .int vta, .int vtt])), (aTp, .inl (cyI, 552, .inl vtp))] H → va_D A [(aM, .inr (6, [.ref aS, .ref aH, .ref aL, .ref aP, .ref aR, .ref aT])), (aS, .inr (3, [.ref aC])), (aC, .inl (cyI, 225, .inl vc)), (aH, .inr (0, [.ref aHs, .int vhf, .int vhl])), (aHs, .inl (cyI, 1575, .inl vhs)), (aL, .inr (4, [.ref aLs, .int vsf])), (aLs, .inl (cyI, 450, .inl vss)), (aP, .inr (1, [.ref aPc, .int vpl])), (aPc, .inl (cyI, 80, .inl vpp)), (aR, .inr (2, [.ref aP, .ref aRn, .int vra, .int vrk, .int vrt])), (aRn, .inl (cyI, 40, .inl vrn)), (aT, .inr (5, [.ref aTp, .int vtl, .int vta, .int vtt])), (aTp, .inl (cyI, 552, .inl vtp))] → va_S A s.heap H locs → lv_has ls 5 [(0, .ref aM), (1, .int x1), (2, .int x2), (4, .int x4)] → G H locs (F0 m 653 ls [.int t0, .int t1, .int t2, .ref aM]) := by
    intro x1 x2 x4 t0 t1 t2 vc vhf vhl vhs vsf vss vpl vpp vra vrk vrt vrn vtl vta vtt vtp hF H locs ls hP hD hS hl
    unfold b_L_refusesAny_653 at hF
    refine (hG _ _ _).2 ?_
    obtain ⟨r653, vtl_653, vtp_653, hC, hF⟩ := k_c3_ex hF
    refine x_VM (As := [.int t2, .int t1, .int t0]) (rest := []) ⟨hx, hb, hml, hown, hts⟩ (c_X6_bestOffset l D cyI cyZ aM aS aC aH aL aP aR aT aTp H.size N t2 t1 t0 vc vtl vta vtt vtp hC) (cwV 3 hts gL_refusesAny_X6_bestOffset rfl rfl rfl (by decide +kernel) ⟨Nat.le_of_ble_eq_true rfl, Nat.le_of_ble_eq_true rfl⟩) hK hP hD hS hA [0, 1, 2, 11, 12] rfl rfl rfl 0 rfl rfl rfl rfl hl.1 rfl (Nat.le_of_ble_eq_true rfl) ⟨Nat.zero_le _, Nat.zero_le _⟩ dL_refusesAny_653 (fun H locs hP hD hS => ?_)
    have hP : va_P D vwCl [(aM, .inr (6, [.ref aS, .ref aH, .ref aL, .ref aP, .ref aR, .ref aT])), (aS, .inr (3, [.ref aC])), (aC, .inl (cyI, 225, .inl vc)), (aH, .inr (0, [.ref aHs, .int vhf, .int vhl])), (aHs, .inl (cyI, 1575, .inl vhs)), (aL, .inr (4, [.ref aLs, .int vsf])), (aLs, .inl (cyI, 450, .inl vss)), (aP, .inr (1, [.ref aPc, .int vpl])), (aPc, .inl (cyI, 80, .inl vpp)), (aR, .inr (2, [.ref aP, .ref aRn, .int vra, .int vrk, .int vrt])), (aRn, .inl (cyI, 40, .inl vrn)), (aT, .inr (5, [.ref aTp, .int vtl_653, .int vta, .int vtt])), (aTp, .inl (cyI, 552, .inl vtp_653))] H := hP
    have hD : va_D A [(aM, .inr (6, [.ref aS, .ref aH, .ref aL, .ref aP, .ref aR, .ref aT])), (aS, .inr (3, [.ref aC])), (aC, .inl (cyI, 225, .inl vc)), (aH, .inr (0, [.ref aHs, .int vhf, .int vhl])), (aHs, .inl (cyI, 1575, .inl vhs)), (aL, .inr (4, [.ref aLs, .int vsf])), (aLs, .inl (cyI, 450, .inl vss)), (aP, .inr (1, [.ref aPc, .int vpl])), (aPc, .inl (cyI, 80, .inl vpp)), (aR, .inr (2, [.ref aP, .ref aRn, .int vra, .int vrk, .int vrt])), (aRn, .inl (cyI, 40, .inl vrn)), (aT, .inr (5, [.ref aTp, .int vtl_653, .int vta, .int vtt])), (aTp, .inl (cyI, 552, .inl vtp_653))] := hD
    refine lv_bipush (v := (-2 : Int32)) hx hb dL_refusesAny_656 (by decide) ?_
    refine lv_icmp_ne (tgt := 699) hx hb dL_refusesAny_658 (by decide) (fun hc => ?_) (fun hc => ?_)
    · have hF := k_if_f hF hc
      refine lv_iconst (v := (0 : Int32)) hx hb dL_refusesAny_699 (by decide) ?_
      obtain ⟨e0, e1, e2, e3, e4, e5, e6, e7, e8, e9, e10, e11, e12, e13, e14, e15, e16⟩ := k_inj17 hF
      have hP9 : va_P D vwCl [(aM, .inr (6, [.ref aS, .ref aH, .ref aL, .ref aP, .ref aR, .ref aT])), (aS, .inr (3, [.ref aC])), (aC, .inl (cyI, 225, .inl vc')), (aH, .inr (0, [.ref aHs, .int vhf', .int vhl'])), (aHs, .inl (cyI, 1575, .inl vhs')), (aL, .inr (4, [.ref aLs, .int vsf'])), (aLs, .inl (cyI, 450, .inl vss')), (aP, .inr (1, [.ref aPc, .int vpl'])), (aPc, .inl (cyI, 80, .inl vpp')), (aR, .inr (2, [.ref aP, .ref aRn, .int vra', .int vrk', .int vrt'])), (aRn, .inl (cyI, 40, .inl vrn')), (aT, .inr (5, [.ref aTp, .int vtl', .int vta', .int vtt'])), (aTp, .inl (cyI, 552, .inl vtp'))] H := by rw [← e1, ← e2, ← e3, ← e4, ← e5, ← e6, ← e7, ← e8, ← e9, ← e10, ← e11, ← e12, ← e13, ← e14, ← e15, ← e16]; exact hP
      exact W.zret hx hb hr rfl (fun t ht hW => ⟨⟨_, (), rfl, e0, x_ret hP9 ht⟩, hS.F ht⟩) hS.2.2 dL_refusesAny_700
    · have hF := k_if_t hF hc
      refine lv_aload_n hx hb dL_refusesAny_661 rfl (lv_at hl 0 rfl) ?_
      refine lv_iconst (v := (1 : Int32)) hx hb dL_refusesAny_662 (by decide) ?_
      refine lv_iconst (v := (1 : Int32)) hx hb dL_refusesAny_663 (by decide) ?_
      refine lv_iconst (v := (0 : Int32)) hx hb dL_refusesAny_664 (by decide) ?_
      obtain ⟨r665, vtl_665, vtp_665, hC, hF⟩ := k_c3_ex hF
      refine x_VM (As := [.int (1 : Int32), .int (1 : Int32), .int (0 : Int32)]) (rest := []) ⟨hx, hb, hml, hown, hts⟩ (c_X6_bestOffset l D cyI cyZ aM aS aC aH aL aP aR aT aTp H.size N (1 : Int32) (1 : Int32) (0 : Int32) vc vtl_653 vta vtt vtp_653 hC) (cwV 3 hts gL_refusesAny_X6_bestOffset rfl rfl rfl (by decide +kernel) ⟨Nat.le_of_ble_eq_true rfl, Nat.le_of_ble_eq_true rfl⟩) hK hP hD hS hA [0, 1, 2, 11, 12] rfl rfl rfl 0 rfl rfl rfl rfl hl.1 rfl (Nat.le_of_ble_eq_true rfl) ⟨Nat.zero_le _, Nat.zero_le _⟩ dL_refusesAny_665 (fun H locs hP hD hS => ?_)
      have hP : va_P D vwCl [(aM, .inr (6, [.ref aS, .ref aH, .ref aL, .ref aP, .ref aR, .ref aT])), (aS, .inr (3, [.ref aC])), (aC, .inl (cyI, 225, .inl vc)), (aH, .inr (0, [.ref aHs, .int vhf, .int vhl])), (aHs, .inl (cyI, 1575, .inl vhs)), (aL, .inr (4, [.ref aLs, .int vsf])), (aLs, .inl (cyI, 450, .inl vss)), (aP, .inr (1, [.ref aPc, .int vpl])), (aPc, .inl (cyI, 80, .inl vpp)), (aR, .inr (2, [.ref aP, .ref aRn, .int vra, .int vrk, .int vrt])), (aRn, .inl (cyI, 40, .inl vrn)), (aT, .inr (5, [.ref aTp, .int vtl_665, .int vta, .int vtt])), (aTp, .inl (cyI, 552, .inl vtp_665))] H := hP
      have hD : va_D A [(aM, .inr (6, [.ref aS, .ref aH, .ref aL, .ref aP, .ref aR, .ref aT])), (aS, .inr (3, [.ref aC])), (aC, .inl (cyI, 225, .inl vc)), (aH, .inr (0, [.ref aHs, .int vhf, .int vhl])), (aHs, .inl (cyI, 1575, .inl vhs)), (aL, .inr (4, [.ref aLs, .int vsf])), (aLs, .inl (cyI, 450, .inl vss)), (aP, .inr (1, [.ref aPc, .int vpl])), (aPc, .inl (cyI, 80, .inl vpp)), (aR, .inr (2, [.ref aP, .ref aRn, .int vra, .int vrk, .int vrt])), (aRn, .inl (cyI, 40, .inl vrn)), (aT, .inr (5, [.ref aTp, .int vtl_665, .int vta, .int vtt])), (aTp, .inl (cyI, 552, .inl vtp_665))] := hD
      refine lv_bipush (v := (-2 : Int32)) hx hb dL_refusesAny_668 (by decide) ?_
      refine lv_icmp_ne (tgt := 699) hx hb dL_refusesAny_670 (by decide) (fun hc => ?_) (fun hc => ?_)
      · have hF := k_if_f hF hc
        refine lv_iconst (v := (0 : Int32)) hx hb dL_refusesAny_699 (by decide) ?_
        obtain ⟨e0, e1, e2, e3, e4, e5, e6, e7, e8, e9, e10, e11, e12, e13, e14, e15, e16⟩ := k_inj17 hF
        have hP9 : va_P D vwCl [(aM, .inr (6, [.ref aS, .ref aH, .ref aL, .ref aP, .ref aR, .ref aT])), (aS, .inr (3, [.ref aC])), (aC, .inl (cyI, 225, .inl vc')), (aH, .inr (0, [.ref aHs, .int vhf', .int vhl'])), (aHs, .inl (cyI, 1575, .inl vhs')), (aL, .inr (4, [.ref aLs, .int vsf'])), (aLs, .inl (cyI, 450, .inl vss')), (aP, .inr (1, [.ref aPc, .int vpl'])), (aPc, .inl (cyI, 80, .inl vpp')), (aR, .inr (2, [.ref aP, .ref aRn, .int vra', .int vrk', .int vrt'])), (aRn, .inl (cyI, 40, .inl vrn')), (aT, .inr (5, [.ref aTp, .int vtl', .int vta', .int vtt'])), (aTp, .inl (cyI, 552, .inl vtp'))] H := by rw [← e1, ← e2, ← e3, ← e4, ← e5, ← e6, ← e7, ← e8, ← e9, ← e10, ← e11, ← e12, ← e13, ← e14, ← e15, ← e16]; exact hP
        exact W.zret hx hb hr rfl (fun t ht hW => ⟨⟨_, (), rfl, e0, x_ret hP9 ht⟩, hS.F ht⟩) hS.2.2 dL_refusesAny_700
      · have hF := k_if_t hF hc
        refine lv_aload_n hx hb dL_refusesAny_673 rfl (lv_at hl 0 rfl) ?_
        refine lv_iload_n hx hb dL_refusesAny_674 rfl (lv_at hl 2 rfl) ?_
        refine lv_iconst (v := (0 : Int32)) hx hb dL_refusesAny_675 (by decide) ?_
        refine lv_iconst (v := (0 : Int32)) hx hb dL_refusesAny_676 (by decide) ?_
        refine lv_iconst (v := (0 : Int32)) hx hb dL_refusesAny_677 (by decide) ?_
        obtain ⟨r678, vtl_678, vta_678, vtt_678, vtp_678, hC, hF⟩ := k_c5_ex hF
        refine x_VM (As := [.int x2, .int (0 : Int32), .int (0 : Int32), .int (0 : Int32)]) (rest := []) ⟨hx, hb, hml, hown, hts⟩ (c_X6_thickest l D cyI cyZ aM aS aC aH aL aP aR aT aTp H.size N x2 (0 : Int32) (0 : Int32) (0 : Int32) vc vtl_665 vta vtt vtp_665 hC) (cwV 4 hts gL_refusesAny_X6_thickest rfl rfl rfl (by decide +kernel) ⟨Nat.le_of_ble_eq_true rfl, Nat.le_of_ble_eq_true rfl⟩) hK hP hD hS hA [0, 1, 2, 11, 12] rfl rfl rfl 0 rfl rfl rfl rfl hl.1 rfl (Nat.le_of_ble_eq_true rfl) ⟨Nat.zero_le _, Nat.zero_le _⟩ dL_refusesAny_678 (fun H locs hP hD hS => ?_)
        have hP : va_P D vwCl [(aM, .inr (6, [.ref aS, .ref aH, .ref aL, .ref aP, .ref aR, .ref aT])), (aS, .inr (3, [.ref aC])), (aC, .inl (cyI, 225, .inl vc)), (aH, .inr (0, [.ref aHs, .int vhf, .int vhl])), (aHs, .inl (cyI, 1575, .inl vhs)), (aL, .inr (4, [.ref aLs, .int vsf])), (aLs, .inl (cyI, 450, .inl vss)), (aP, .inr (1, [.ref aPc, .int vpl])), (aPc, .inl (cyI, 80, .inl vpp)), (aR, .inr (2, [.ref aP, .ref aRn, .int vra, .int vrk, .int vrt])), (aRn, .inl (cyI, 40, .inl vrn)), (aT, .inr (5, [.ref aTp, .int vtl_678, .int vta_678, .int vtt_678])), (aTp, .inl (cyI, 552, .inl vtp_678))] H := hP
        have hD : va_D A [(aM, .inr (6, [.ref aS, .ref aH, .ref aL, .ref aP, .ref aR, .ref aT])), (aS, .inr (3, [.ref aC])), (aC, .inl (cyI, 225, .inl vc)), (aH, .inr (0, [.ref aHs, .int vhf, .int vhl])), (aHs, .inl (cyI, 1575, .inl vhs)), (aL, .inr (4, [.ref aLs, .int vsf])), (aLs, .inl (cyI, 450, .inl vss)), (aP, .inr (1, [.ref aPc, .int vpl])), (aPc, .inl (cyI, 80, .inl vpp)), (aR, .inr (2, [.ref aP, .ref aRn, .int vra, .int vrk, .int vrt])), (aRn, .inl (cyI, 40, .inl vrn)), (aT, .inr (5, [.ref aTp, .int vtl_678, .int vta_678, .int vtt_678])), (aTp, .inl (cyI, 552, .inl vtp_678))] := hD
        refine lv_iconst (v := (-1 : Int32)) hx hb dL_refusesAny_681 (by decide) ?_
        refine lv_icmp_ne (tgt := 699) hx hb dL_refusesAny_682 (by decide) (fun hc => ?_) (fun hc => ?_)
        · have hF := k_if_f hF hc
          refine lv_iconst (v := (0 : Int32)) hx hb dL_refusesAny_699 (by decide) ?_
          obtain ⟨e0, e1, e2, e3, e4, e5, e6, e7, e8, e9, e10, e11, e12, e13, e14, e15, e16⟩ := k_inj17 hF
          have hP9 : va_P D vwCl [(aM, .inr (6, [.ref aS, .ref aH, .ref aL, .ref aP, .ref aR, .ref aT])), (aS, .inr (3, [.ref aC])), (aC, .inl (cyI, 225, .inl vc')), (aH, .inr (0, [.ref aHs, .int vhf', .int vhl'])), (aHs, .inl (cyI, 1575, .inl vhs')), (aL, .inr (4, [.ref aLs, .int vsf'])), (aLs, .inl (cyI, 450, .inl vss')), (aP, .inr (1, [.ref aPc, .int vpl'])), (aPc, .inl (cyI, 80, .inl vpp')), (aR, .inr (2, [.ref aP, .ref aRn, .int vra', .int vrk', .int vrt'])), (aRn, .inl (cyI, 40, .inl vrn')), (aT, .inr (5, [.ref aTp, .int vtl', .int vta', .int vtt'])), (aTp, .inl (cyI, 552, .inl vtp'))] H := by rw [← e1, ← e2, ← e3, ← e4, ← e5, ← e6, ← e7, ← e8, ← e9, ← e10, ← e11, ← e12, ← e13, ← e14, ← e15, ← e16]; exact hP
          exact W.zret hx hb hr rfl (fun t ht hW => ⟨⟨_, (), rfl, e0, x_ret hP9 ht⟩, hS.F ht⟩) hS.2.2 dL_refusesAny_700
        · have hF := k_if_t hF hc
          refine lv_aload_n hx hb dL_refusesAny_685 rfl (lv_at hl 0 rfl) ?_
          refine lv_iconst (v := (0 : Int32)) hx hb dL_refusesAny_686 (by decide) ?_
          refine lv_iconst (v := (1 : Int32)) hx hb dL_refusesAny_687 (by decide) ?_
          refine lv_iconst (v := (0 : Int32)) hx hb dL_refusesAny_688 (by decide) ?_
          refine lv_iload hx hb dL_refusesAny_689 (lv_at hl 3 rfl) ?_
          obtain ⟨r691, vtl_691, vta_691, vtt_691, vtp_691, hC, hF⟩ := k_c5_ex hF
          refine x_VM (As := [.int (0 : Int32), .int (1 : Int32), .int (0 : Int32), .int x4]) (rest := []) ⟨hx, hb, hml, hown, hts⟩ (c_X6_thickest l D cyI cyZ aM aS aC aH aL aP aR aT aTp H.size N (0 : Int32) (1 : Int32) (0 : Int32) x4 vc vtl_678 vta_678 vtt_678 vtp_678 hC) (cwV 4 hts gL_refusesAny_X6_thickest rfl rfl rfl (by decide +kernel) ⟨Nat.le_of_ble_eq_true rfl, Nat.le_of_ble_eq_true rfl⟩) hK hP hD hS hA [0, 1, 2, 11, 12] rfl rfl rfl 0 rfl rfl rfl rfl hl.1 rfl (Nat.le_of_ble_eq_true rfl) ⟨Nat.zero_le _, Nat.zero_le _⟩ dL_refusesAny_691 (fun H locs hP hD hS => ?_)
          have hP : va_P D vwCl [(aM, .inr (6, [.ref aS, .ref aH, .ref aL, .ref aP, .ref aR, .ref aT])), (aS, .inr (3, [.ref aC])), (aC, .inl (cyI, 225, .inl vc)), (aH, .inr (0, [.ref aHs, .int vhf, .int vhl])), (aHs, .inl (cyI, 1575, .inl vhs)), (aL, .inr (4, [.ref aLs, .int vsf])), (aLs, .inl (cyI, 450, .inl vss)), (aP, .inr (1, [.ref aPc, .int vpl])), (aPc, .inl (cyI, 80, .inl vpp)), (aR, .inr (2, [.ref aP, .ref aRn, .int vra, .int vrk, .int vrt])), (aRn, .inl (cyI, 40, .inl vrn)), (aT, .inr (5, [.ref aTp, .int vtl_691, .int vta_691, .int vtt_691])), (aTp, .inl (cyI, 552, .inl vtp_691))] H := hP
          have hD : va_D A [(aM, .inr (6, [.ref aS, .ref aH, .ref aL, .ref aP, .ref aR, .ref aT])), (aS, .inr (3, [.ref aC])), (aC, .inl (cyI, 225, .inl vc)), (aH, .inr (0, [.ref aHs, .int vhf, .int vhl])), (aHs, .inl (cyI, 1575, .inl vhs)), (aL, .inr (4, [.ref aLs, .int vsf])), (aLs, .inl (cyI, 450, .inl vss)), (aP, .inr (1, [.ref aPc, .int vpl])), (aPc, .inl (cyI, 80, .inl vpp)), (aR, .inr (2, [.ref aP, .ref aRn, .int vra, .int vrk, .int vrt])), (aRn, .inl (cyI, 40, .inl vrn)), (aT, .inr (5, [.ref aTp, .int vtl_691, .int vta_691, .int vtt_691])), (aTp, .inl (cyI, 552, .inl vtp_691))] := hD
          refine lv_bipush (v := (-2 : Int32)) hx hb dL_refusesAny_694 (by decide) ?_
          refine lv_icmp_eq (tgt := 701) hx hb dL_refusesAny_696 (by decide) (fun hc => ?_) (fun hc => ?_)
          · have hF := k_if_t hF hc
            refine lv_aload_n hx hb dL_refusesAny_701 rfl (lv_at hl 0 rfl) ?_
            refine lv_iload_n hx hb dL_refusesAny_702 rfl (lv_at hl 1 rfl) ?_
            refine lv_if_ne (tgt := 710) hx hb dL_refusesAny_703 (by decide) (fun hc => ?_) (fun hc => ?_)
            · have hF := k_if_f hF hc
              refine lv_iconst (v := (2 : Int32)) hx hb dL_refusesAny_710 (by decide) ?_
              exact (hG _ _ _).1 (blk_711 x1 (2 : Int32) vc vhf vhl vhs vsf vss vpl vpp vra vrk vrt vrn vtl_691 vta_691 vtt_691 vtp_691 hF _ _ _ hP hD hS (lv_sub hl [0, 1] rfl))
            · have hF := k_if_t hF hc
              refine lv_iconst (v := (-1 : Int32)) hx hb dL_refusesAny_706 (by decide) ?_
              refine lv_goto (tgt := 711) hx hb dL_refusesAny_707 (by decide) ?_
              exact (hG _ _ _).1 (blk_711 x1 (-1 : Int32) vc vhf vhl vhs vsf vss vpl vpp vra vrk vrt vrn vtl_691 vta_691 vtt_691 vtp_691 hF _ _ _ hP hD hS (lv_sub hl [0, 1] rfl))
          · have hF := k_if_f hF hc
            refine lv_iconst (v := (0 : Int32)) hx hb dL_refusesAny_699 (by decide) ?_
            obtain ⟨e0, e1, e2, e3, e4, e5, e6, e7, e8, e9, e10, e11, e12, e13, e14, e15, e16⟩ := k_inj17 hF
            have hP9 : va_P D vwCl [(aM, .inr (6, [.ref aS, .ref aH, .ref aL, .ref aP, .ref aR, .ref aT])), (aS, .inr (3, [.ref aC])), (aC, .inl (cyI, 225, .inl vc')), (aH, .inr (0, [.ref aHs, .int vhf', .int vhl'])), (aHs, .inl (cyI, 1575, .inl vhs')), (aL, .inr (4, [.ref aLs, .int vsf'])), (aLs, .inl (cyI, 450, .inl vss')), (aP, .inr (1, [.ref aPc, .int vpl'])), (aPc, .inl (cyI, 80, .inl vpp')), (aR, .inr (2, [.ref aP, .ref aRn, .int vra', .int vrk', .int vrt'])), (aRn, .inl (cyI, 40, .inl vrn')), (aT, .inr (5, [.ref aTp, .int vtl', .int vta', .int vtt'])), (aTp, .inl (cyI, 552, .inl vtp'))] H := by rw [← e1, ← e2, ← e3, ← e4, ← e5, ← e6, ← e7, ← e8, ← e9, ← e10, ← e11, ← e12, ← e13, ← e14, ← e15, ← e16]; exact hP
            exact W.zret hx hb hr rfl (fun t ht hW => ⟨⟨_, (), rfl, e0, x_ret hP9 ht⟩, hS.F ht⟩) hS.2.2 dL_refusesAny_700
  have blk_585 : ∀ (x1 : Int32) (x2 : Int32) (x3 : Int32) (x4 : Int32) (t0 : Int32) (t1 : Int32) (t2 : Int32) (t3 : Int32) (t4 : Int32) (vc : (Nat → Int32)) (vhf : Int32) (vhl : Int32) (vhs : (Nat → Int32)) (vsf : Int32) (vss : (Nat → Int32)) (vpl : Int32) (vpp : (Nat → Int32)) (vra : Int32) (vrk : Int32) (vrt : Int32) (vrn : (Nat → Int32)) (vtl : Int32) (vta : Int32) (vtt : Int32) (vtp : (Nat → Int32)), b_L_refusesAny_585 N x1 x2 x3 x4 t0 t1 t2 t3 t4 vc vhf vhl vhs vsf vss vpl vpp vra vrk vrt vrn vtl vta vtt vtp = some (r0, vc', vhf', vhl', vhs', vsf', vss', vpl', vpp', vra', vrk', vrt', vrn', vtl', vta', vtt', vtp') → ∀ (H : Heap) (locs : List Loc) (ls : Array Slot), va_P D vwCl [(aM, .inr (6, [.ref aS, .ref aH, .ref aL, .ref aP, .ref aR, .ref aT])), (aS, .inr (3, [.ref aC])), (aC, .inl (cyI, 225, .inl vc)), (aH, .inr (0, [.ref aHs, .int vhf, .int vhl])), (aHs, .inl (cyI, 1575, .inl vhs)), (aL, .inr (4, [.ref aLs, .int vsf])), (aLs, .inl (cyI, 450, .inl vss)), (aP, .inr (1, [.ref aPc, .int vpl])), (aPc, .inl (cyI, 80, .inl vpp)), (aR, .inr (2, [.ref aP, .ref aRn, .int vra, .int vrk, .int vrt])), (aRn, .inl (cyI, 40, .inl vrn)), (aT, .inr (5, [.ref aTp, .int vtl, .int vta, .int vtt])), (aTp, .inl (cyI, 552, .inl vtp))] H → va_D A [(aM, .inr (6, [.ref aS, .ref aH, .ref aL, .ref aP, .ref aR, .ref aT])), (aS, .inr (3, [.ref aC])), (aC, .inl (cyI, 225, .inl vc)), (aH, .inr (0, [.ref aHs, .int vhf, .int vhl])), (aHs, .inl (cyI, 1575, .inl vhs)), (aL, .inr (4, [.ref aLs, .int vsf])), (aLs, .inl (cyI, 450, .inl vss)), (aP, .inr (1, [.ref aPc, .int vpl])), (aPc, .inl (cyI, 80, .inl vpp)), (aR, .inr (2, [.ref aP, .ref aRn, .int vra, .int vrk, .int vrt])), (aRn, .inl (cyI, 40, .inl vrn)), (aT, .inr (5, [.ref aTp, .int vtl, .int vta, .int vtt])), (aTp, .inl (cyI, 552, .inl vtp))] → va_S A s.heap H locs → lv_has ls 5 [(0, .ref aM), (1, .int x1), (2, .int x2), (3, .int x3), (4, .int x4)] → G H locs (F0 m 585 ls [.int t0, .int t1, .int t2, .int t3, .int t4, .ref aM]) := by
    intro x1 x2 x3 x4 t0 t1 t2 t3 t4 vc vhf vhl vhs vsf vss vpl vpp vra vrk vrt vrn vtl vta vtt vtp hF H locs ls hP hD hS hl
    unfold b_L_refusesAny_585 at hF
    refine (hG _ _ _).2 ?_
    obtain ⟨r585, vtl_585, vtp_585, hC, hF⟩ := k_c3_ex hF
    refine x_VM (As := [.int t4, .int t3, .int t2, .int t1, .int t0]) (rest := []) ⟨hx, hb, hml, hown, hts⟩ (c_X6_why l D cyI cyZ aM aS aC aH aL aP aR aT aTp H.size N t4 t3 t2 t1 t0 vc vtl vta vtt vtp hC) (cwV 5 hts gL_refusesAny_X6_why rfl rfl rfl (by decide +kernel) ⟨Nat.le_of_ble_eq_true rfl, Nat.le_of_ble_eq_true rfl⟩) hK hP hD hS hA [0, 1, 2, 11, 12] rfl rfl rfl 0 rfl rfl rfl rfl hl.1 rfl (Nat.le_of_ble_eq_true rfl) ⟨Nat.zero_le _, Nat.zero_le _⟩ dL_refusesAny_585 (fun H locs hP hD hS => ?_)
    have hP : va_P D vwCl [(aM, .inr (6, [.ref aS, .ref aH, .ref aL, .ref aP, .ref aR, .ref aT])), (aS, .inr (3, [.ref aC])), (aC, .inl (cyI, 225, .inl vc)), (aH, .inr (0, [.ref aHs, .int vhf, .int vhl])), (aHs, .inl (cyI, 1575, .inl vhs)), (aL, .inr (4, [.ref aLs, .int vsf])), (aLs, .inl (cyI, 450, .inl vss)), (aP, .inr (1, [.ref aPc, .int vpl])), (aPc, .inl (cyI, 80, .inl vpp)), (aR, .inr (2, [.ref aP, .ref aRn, .int vra, .int vrk, .int vrt])), (aRn, .inl (cyI, 40, .inl vrn)), (aT, .inr (5, [.ref aTp, .int vtl_585, .int vta, .int vtt])), (aTp, .inl (cyI, 552, .inl vtp_585))] H := hP
    have hD : va_D A [(aM, .inr (6, [.ref aS, .ref aH, .ref aL, .ref aP, .ref aR, .ref aT])), (aS, .inr (3, [.ref aC])), (aC, .inl (cyI, 225, .inl vc)), (aH, .inr (0, [.ref aHs, .int vhf, .int vhl])), (aHs, .inl (cyI, 1575, .inl vhs)), (aL, .inr (4, [.ref aLs, .int vsf])), (aLs, .inl (cyI, 450, .inl vss)), (aP, .inr (1, [.ref aPc, .int vpl])), (aPc, .inl (cyI, 80, .inl vpp)), (aR, .inr (2, [.ref aP, .ref aRn, .int vra, .int vrk, .int vrt])), (aRn, .inl (cyI, 40, .inl vrn)), (aT, .inr (5, [.ref aTp, .int vtl_585, .int vta, .int vtt])), (aTp, .inl (cyI, 552, .inl vtp_585))] := hD
    refine lv_bipush (v := (-2 : Int32)) hx hb dL_refusesAny_588 (by decide) ?_
    refine lv_icmp_ne (tgt := 699) hx hb dL_refusesAny_590 (by decide) (fun hc => ?_) (fun hc => ?_)
    · have hF := k_if_f hF hc
      refine lv_iconst (v := (0 : Int32)) hx hb dL_refusesAny_699 (by decide) ?_
      obtain ⟨e0, e1, e2, e3, e4, e5, e6, e7, e8, e9, e10, e11, e12, e13, e14, e15, e16⟩ := k_inj17 hF
      have hP9 : va_P D vwCl [(aM, .inr (6, [.ref aS, .ref aH, .ref aL, .ref aP, .ref aR, .ref aT])), (aS, .inr (3, [.ref aC])), (aC, .inl (cyI, 225, .inl vc')), (aH, .inr (0, [.ref aHs, .int vhf', .int vhl'])), (aHs, .inl (cyI, 1575, .inl vhs')), (aL, .inr (4, [.ref aLs, .int vsf'])), (aLs, .inl (cyI, 450, .inl vss')), (aP, .inr (1, [.ref aPc, .int vpl'])), (aPc, .inl (cyI, 80, .inl vpp')), (aR, .inr (2, [.ref aP, .ref aRn, .int vra', .int vrk', .int vrt'])), (aRn, .inl (cyI, 40, .inl vrn')), (aT, .inr (5, [.ref aTp, .int vtl', .int vta', .int vtt'])), (aTp, .inl (cyI, 552, .inl vtp'))] H := by rw [← e1, ← e2, ← e3, ← e4, ← e5, ← e6, ← e7, ← e8, ← e9, ← e10, ← e11, ← e12, ← e13, ← e14, ← e15, ← e16]; exact hP
      exact W.zret hx hb hr rfl (fun t ht hW => ⟨⟨_, (), rfl, e0, x_ret hP9 ht⟩, hS.F ht⟩) hS.2.2 dL_refusesAny_700
    · have hF := k_if_t hF hc
      refine lv_aload_n hx hb dL_refusesAny_593 rfl (lv_at hl 0 rfl) ?_
      refine lv_iconst (v := (0 : Int32)) hx hb dL_refusesAny_594 (by decide) ?_
      refine lv_iconst (v := (1 : Int32)) hx hb dL_refusesAny_595 (by decide) ?_
      refine lv_iload_n hx hb dL_refusesAny_596 rfl (lv_at hl 3 rfl) ?_
      refine lv_iconst (v := (0 : Int32)) hx hb dL_refusesAny_597 (by decide) ?_
      refine lv_iconst (v := (0 : Int32)) hx hb dL_refusesAny_598 (by decide) ?_
      obtain ⟨r599, vtl_599, vtp_599, hC, hF⟩ := k_c3_ex hF
      refine x_VM (As := [.int (0 : Int32), .int (1 : Int32), .int x3, .int (0 : Int32), .int (0 : Int32)]) (rest := []) ⟨hx, hb, hml, hown, hts⟩ (c_X6_why l D cyI cyZ aM aS aC aH aL aP aR aT aTp H.size N (0 : Int32) (1 : Int32) x3 (0 : Int32) (0 : Int32) vc vtl_585 vta vtt vtp_585 hC) (cwV 5 hts gL_refusesAny_X6_why rfl rfl rfl (by decide +kernel) ⟨Nat.le_of_ble_eq_true rfl, Nat.le_of_ble_eq_true rfl⟩) hK hP hD hS hA [0, 1, 2, 11, 12] rfl rfl rfl 0 rfl rfl rfl rfl hl.1 rfl (Nat.le_of_ble_eq_true rfl) ⟨Nat.zero_le _, Nat.zero_le _⟩ dL_refusesAny_599 (fun H locs hP hD hS => ?_)
      have hP : va_P D vwCl [(aM, .inr (6, [.ref aS, .ref aH, .ref aL, .ref aP, .ref aR, .ref aT])), (aS, .inr (3, [.ref aC])), (aC, .inl (cyI, 225, .inl vc)), (aH, .inr (0, [.ref aHs, .int vhf, .int vhl])), (aHs, .inl (cyI, 1575, .inl vhs)), (aL, .inr (4, [.ref aLs, .int vsf])), (aLs, .inl (cyI, 450, .inl vss)), (aP, .inr (1, [.ref aPc, .int vpl])), (aPc, .inl (cyI, 80, .inl vpp)), (aR, .inr (2, [.ref aP, .ref aRn, .int vra, .int vrk, .int vrt])), (aRn, .inl (cyI, 40, .inl vrn)), (aT, .inr (5, [.ref aTp, .int vtl_599, .int vta, .int vtt])), (aTp, .inl (cyI, 552, .inl vtp_599))] H := hP
      have hD : va_D A [(aM, .inr (6, [.ref aS, .ref aH, .ref aL, .ref aP, .ref aR, .ref aT])), (aS, .inr (3, [.ref aC])), (aC, .inl (cyI, 225, .inl vc)), (aH, .inr (0, [.ref aHs, .int vhf, .int vhl])), (aHs, .inl (cyI, 1575, .inl vhs)), (aL, .inr (4, [.ref aLs, .int vsf])), (aLs, .inl (cyI, 450, .inl vss)), (aP, .inr (1, [.ref aPc, .int vpl])), (aPc, .inl (cyI, 80, .inl vpp)), (aR, .inr (2, [.ref aP, .ref aRn, .int vra, .int vrk, .int vrt])), (aRn, .inl (cyI, 40, .inl vrn)), (aT, .inr (5, [.ref aTp, .int vtl_599, .int vta, .int vtt])), (aTp, .inl (cyI, 552, .inl vtp_599))] := hD
      refine lv_bipush (v := (-2 : Int32)) hx hb dL_refusesAny_602 (by decide) ?_
      refine lv_icmp_ne (tgt := 699) hx hb dL_refusesAny_604 (by decide) (fun hc => ?_) (fun hc => ?_)
      · have hF := k_if_f hF hc
        refine lv_iconst (v := (0 : Int32)) hx hb dL_refusesAny_699 (by decide) ?_
        obtain ⟨e0, e1, e2, e3, e4, e5, e6, e7, e8, e9, e10, e11, e12, e13, e14, e15, e16⟩ := k_inj17 hF
        have hP9 : va_P D vwCl [(aM, .inr (6, [.ref aS, .ref aH, .ref aL, .ref aP, .ref aR, .ref aT])), (aS, .inr (3, [.ref aC])), (aC, .inl (cyI, 225, .inl vc')), (aH, .inr (0, [.ref aHs, .int vhf', .int vhl'])), (aHs, .inl (cyI, 1575, .inl vhs')), (aL, .inr (4, [.ref aLs, .int vsf'])), (aLs, .inl (cyI, 450, .inl vss')), (aP, .inr (1, [.ref aPc, .int vpl'])), (aPc, .inl (cyI, 80, .inl vpp')), (aR, .inr (2, [.ref aP, .ref aRn, .int vra', .int vrk', .int vrt'])), (aRn, .inl (cyI, 40, .inl vrn')), (aT, .inr (5, [.ref aTp, .int vtl', .int vta', .int vtt'])), (aTp, .inl (cyI, 552, .inl vtp'))] H := by rw [← e1, ← e2, ← e3, ← e4, ← e5, ← e6, ← e7, ← e8, ← e9, ← e10, ← e11, ← e12, ← e13, ← e14, ← e15, ← e16]; exact hP
        exact W.zret hx hb hr rfl (fun t ht hW => ⟨⟨_, (), rfl, e0, x_ret hP9 ht⟩, hS.F ht⟩) hS.2.2 dL_refusesAny_700
      · have hF := k_if_t hF hc
        refine lv_aload_n hx hb dL_refusesAny_607 rfl (lv_at hl 0 rfl) ?_
        refine lv_iload_n hx hb dL_refusesAny_608 rfl (lv_at hl 2 rfl) ?_
        refine lv_iconst (v := (0 : Int32)) hx hb dL_refusesAny_609 (by decide) ?_
        refine lv_iconst (v := (0 : Int32)) hx hb dL_refusesAny_610 (by decide) ?_
        obtain ⟨r611, vtl_611, vtp_611, hC, hF⟩ := k_c3_ex hF
        refine x_VM (As := [.int x2, .int (0 : Int32), .int (0 : Int32)]) (rest := []) ⟨hx, hb, hml, hown, hts⟩ (c_X6_leastGap l D cyI cyZ aM aS aC aH aL aP aR aT aTp H.size N x2 (0 : Int32) (0 : Int32) vc vtl_599 vta vtt vtp_599 hC) (cwV 3 hts gL_refusesAny_X6_leastGap rfl rfl rfl (by decide +kernel) ⟨Nat.le_of_ble_eq_true rfl, Nat.le_of_ble_eq_true rfl⟩) hK hP hD hS hA [0, 1, 2, 11, 12] rfl rfl rfl 0 rfl rfl rfl rfl hl.1 rfl (Nat.le_of_ble_eq_true rfl) ⟨Nat.zero_le _, Nat.zero_le _⟩ dL_refusesAny_611 (fun H locs hP hD hS => ?_)
        have hP : va_P D vwCl [(aM, .inr (6, [.ref aS, .ref aH, .ref aL, .ref aP, .ref aR, .ref aT])), (aS, .inr (3, [.ref aC])), (aC, .inl (cyI, 225, .inl vc)), (aH, .inr (0, [.ref aHs, .int vhf, .int vhl])), (aHs, .inl (cyI, 1575, .inl vhs)), (aL, .inr (4, [.ref aLs, .int vsf])), (aLs, .inl (cyI, 450, .inl vss)), (aP, .inr (1, [.ref aPc, .int vpl])), (aPc, .inl (cyI, 80, .inl vpp)), (aR, .inr (2, [.ref aP, .ref aRn, .int vra, .int vrk, .int vrt])), (aRn, .inl (cyI, 40, .inl vrn)), (aT, .inr (5, [.ref aTp, .int vtl_611, .int vta, .int vtt])), (aTp, .inl (cyI, 552, .inl vtp_611))] H := hP
        have hD : va_D A [(aM, .inr (6, [.ref aS, .ref aH, .ref aL, .ref aP, .ref aR, .ref aT])), (aS, .inr (3, [.ref aC])), (aC, .inl (cyI, 225, .inl vc)), (aH, .inr (0, [.ref aHs, .int vhf, .int vhl])), (aHs, .inl (cyI, 1575, .inl vhs)), (aL, .inr (4, [.ref aLs, .int vsf])), (aLs, .inl (cyI, 450, .inl vss)), (aP, .inr (1, [.ref aPc, .int vpl])), (aPc, .inl (cyI, 80, .inl vpp)), (aR, .inr (2, [.ref aP, .ref aRn, .int vra, .int vrk, .int vrt])), (aRn, .inl (cyI, 40, .inl vrn)), (aT, .inr (5, [.ref aTp, .int vtl_611, .int vta, .int vtt])), (aTp, .inl (cyI, 552, .inl vtp_611))] := hD
        refine lv_iconst (v := (-1 : Int32)) hx hb dL_refusesAny_614 (by decide) ?_
        refine lv_icmp_ne (tgt := 699) hx hb dL_refusesAny_615 (by decide) (fun hc => ?_) (fun hc => ?_)
        · have hF := k_if_f hF hc
          refine lv_iconst (v := (0 : Int32)) hx hb dL_refusesAny_699 (by decide) ?_
          obtain ⟨e0, e1, e2, e3, e4, e5, e6, e7, e8, e9, e10, e11, e12, e13, e14, e15, e16⟩ := k_inj17 hF
          have hP9 : va_P D vwCl [(aM, .inr (6, [.ref aS, .ref aH, .ref aL, .ref aP, .ref aR, .ref aT])), (aS, .inr (3, [.ref aC])), (aC, .inl (cyI, 225, .inl vc')), (aH, .inr (0, [.ref aHs, .int vhf', .int vhl'])), (aHs, .inl (cyI, 1575, .inl vhs')), (aL, .inr (4, [.ref aLs, .int vsf'])), (aLs, .inl (cyI, 450, .inl vss')), (aP, .inr (1, [.ref aPc, .int vpl'])), (aPc, .inl (cyI, 80, .inl vpp')), (aR, .inr (2, [.ref aP, .ref aRn, .int vra', .int vrk', .int vrt'])), (aRn, .inl (cyI, 40, .inl vrn')), (aT, .inr (5, [.ref aTp, .int vtl', .int vta', .int vtt'])), (aTp, .inl (cyI, 552, .inl vtp'))] H := by rw [← e1, ← e2, ← e3, ← e4, ← e5, ← e6, ← e7, ← e8, ← e9, ← e10, ← e11, ← e12, ← e13, ← e14, ← e15, ← e16]; exact hP
          exact W.zret hx hb hr rfl (fun t ht hW => ⟨⟨_, (), rfl, e0, x_ret hP9 ht⟩, hS.F ht⟩) hS.2.2 dL_refusesAny_700
        · have hF := k_if_t hF hc
          refine lv_aload_n hx hb dL_refusesAny_618 rfl (lv_at hl 0 rfl) ?_
          refine lv_iconst (v := (0 : Int32)) hx hb dL_refusesAny_619 (by decide) ?_
          refine lv_iconst (v := (1 : Int32)) hx hb dL_refusesAny_620 (by decide) ?_
          refine lv_iload_n hx hb dL_refusesAny_621 rfl (lv_at hl 3 rfl) ?_
          obtain ⟨r622, vtl_622, vtp_622, hC, hF⟩ := k_c3_ex hF
          refine x_VM (As := [.int (0 : Int32), .int (1 : Int32), .int x3]) (rest := []) ⟨hx, hb, hml, hown, hts⟩ (c_X6_leastGap l D cyI cyZ aM aS aC aH aL aP aR aT aTp H.size N (0 : Int32) (1 : Int32) x3 vc vtl_611 vta vtt vtp_611 hC) (cwV 3 hts gL_refusesAny_X6_leastGap rfl rfl rfl (by decide +kernel) ⟨Nat.le_of_ble_eq_true rfl, Nat.le_of_ble_eq_true rfl⟩) hK hP hD hS hA [0, 1, 2, 11, 12] rfl rfl rfl 0 rfl rfl rfl rfl hl.1 rfl (Nat.le_of_ble_eq_true rfl) ⟨Nat.zero_le _, Nat.zero_le _⟩ dL_refusesAny_622 (fun H locs hP hD hS => ?_)
          have hP : va_P D vwCl [(aM, .inr (6, [.ref aS, .ref aH, .ref aL, .ref aP, .ref aR, .ref aT])), (aS, .inr (3, [.ref aC])), (aC, .inl (cyI, 225, .inl vc)), (aH, .inr (0, [.ref aHs, .int vhf, .int vhl])), (aHs, .inl (cyI, 1575, .inl vhs)), (aL, .inr (4, [.ref aLs, .int vsf])), (aLs, .inl (cyI, 450, .inl vss)), (aP, .inr (1, [.ref aPc, .int vpl])), (aPc, .inl (cyI, 80, .inl vpp)), (aR, .inr (2, [.ref aP, .ref aRn, .int vra, .int vrk, .int vrt])), (aRn, .inl (cyI, 40, .inl vrn)), (aT, .inr (5, [.ref aTp, .int vtl_622, .int vta, .int vtt])), (aTp, .inl (cyI, 552, .inl vtp_622))] H := hP
          have hD : va_D A [(aM, .inr (6, [.ref aS, .ref aH, .ref aL, .ref aP, .ref aR, .ref aT])), (aS, .inr (3, [.ref aC])), (aC, .inl (cyI, 225, .inl vc)), (aH, .inr (0, [.ref aHs, .int vhf, .int vhl])), (aHs, .inl (cyI, 1575, .inl vhs)), (aL, .inr (4, [.ref aLs, .int vsf])), (aLs, .inl (cyI, 450, .inl vss)), (aP, .inr (1, [.ref aPc, .int vpl])), (aPc, .inl (cyI, 80, .inl vpp)), (aR, .inr (2, [.ref aP, .ref aRn, .int vra, .int vrk, .int vrt])), (aRn, .inl (cyI, 40, .inl vrn)), (aT, .inr (5, [.ref aTp, .int vtl_622, .int vta, .int vtt])), (aTp, .inl (cyI, 552, .inl vtp_622))] := hD
          refine lv_bipush (v := (-2 : Int32)) hx hb dL_refusesAny_625 (by decide) ?_
          refine lv_icmp_ne (tgt := 699) hx hb dL_refusesAny_627 (by decide) (fun hc => ?_) (fun hc => ?_)
          · have hF := k_if_f hF hc
            refine lv_iconst (v := (0 : Int32)) hx hb dL_refusesAny_699 (by decide) ?_
            obtain ⟨e0, e1, e2, e3, e4, e5, e6, e7, e8, e9, e10, e11, e12, e13, e14, e15, e16⟩ := k_inj17 hF
            have hP9 : va_P D vwCl [(aM, .inr (6, [.ref aS, .ref aH, .ref aL, .ref aP, .ref aR, .ref aT])), (aS, .inr (3, [.ref aC])), (aC, .inl (cyI, 225, .inl vc')), (aH, .inr (0, [.ref aHs, .int vhf', .int vhl'])), (aHs, .inl (cyI, 1575, .inl vhs')), (aL, .inr (4, [.ref aLs, .int vsf'])), (aLs, .inl (cyI, 450, .inl vss')), (aP, .inr (1, [.ref aPc, .int vpl'])), (aPc, .inl (cyI, 80, .inl vpp')), (aR, .inr (2, [.ref aP, .ref aRn, .int vra', .int vrk', .int vrt'])), (aRn, .inl (cyI, 40, .inl vrn')), (aT, .inr (5, [.ref aTp, .int vtl', .int vta', .int vtt'])), (aTp, .inl (cyI, 552, .inl vtp'))] H := by rw [← e1, ← e2, ← e3, ← e4, ← e5, ← e6, ← e7, ← e8, ← e9, ← e10, ← e11, ← e12, ← e13, ← e14, ← e15, ← e16]; exact hP
            exact W.zret hx hb hr rfl (fun t ht hW => ⟨⟨_, (), rfl, e0, x_ret hP9 ht⟩, hS.F ht⟩) hS.2.2 dL_refusesAny_700
          · have hF := k_if_t hF hc
            refine lv_aload_n hx hb dL_refusesAny_630 rfl (lv_at hl 0 rfl) ?_
            refine lv_iconst (v := (0 : Int32)) hx hb dL_refusesAny_631 (by decide) ?_
            refine lv_iload_n hx hb dL_refusesAny_632 rfl (lv_at hl 2 rfl) ?_
            refine lv_iconst (v := (0 : Int32)) hx hb dL_refusesAny_633 (by decide) ?_
            obtain ⟨r634, vtl_634, vtp_634, hC, hF⟩ := k_c3_ex hF
            refine x_VM (As := [.int (0 : Int32), .int x2, .int (0 : Int32)]) (rest := []) ⟨hx, hb, hml, hown, hts⟩ (c_X6_bestOffset l D cyI cyZ aM aS aC aH aL aP aR aT aTp H.size N (0 : Int32) x2 (0 : Int32) vc vtl_622 vta vtt vtp_622 hC) (cwV 3 hts gL_refusesAny_X6_bestOffset rfl rfl rfl (by decide +kernel) ⟨Nat.le_of_ble_eq_true rfl, Nat.le_of_ble_eq_true rfl⟩) hK hP hD hS hA [0, 1, 2, 11, 12] rfl rfl rfl 0 rfl rfl rfl rfl hl.1 rfl (Nat.le_of_ble_eq_true rfl) ⟨Nat.zero_le _, Nat.zero_le _⟩ dL_refusesAny_634 (fun H locs hP hD hS => ?_)
            have hP : va_P D vwCl [(aM, .inr (6, [.ref aS, .ref aH, .ref aL, .ref aP, .ref aR, .ref aT])), (aS, .inr (3, [.ref aC])), (aC, .inl (cyI, 225, .inl vc)), (aH, .inr (0, [.ref aHs, .int vhf, .int vhl])), (aHs, .inl (cyI, 1575, .inl vhs)), (aL, .inr (4, [.ref aLs, .int vsf])), (aLs, .inl (cyI, 450, .inl vss)), (aP, .inr (1, [.ref aPc, .int vpl])), (aPc, .inl (cyI, 80, .inl vpp)), (aR, .inr (2, [.ref aP, .ref aRn, .int vra, .int vrk, .int vrt])), (aRn, .inl (cyI, 40, .inl vrn)), (aT, .inr (5, [.ref aTp, .int vtl_634, .int vta, .int vtt])), (aTp, .inl (cyI, 552, .inl vtp_634))] H := hP
            have hD : va_D A [(aM, .inr (6, [.ref aS, .ref aH, .ref aL, .ref aP, .ref aR, .ref aT])), (aS, .inr (3, [.ref aC])), (aC, .inl (cyI, 225, .inl vc)), (aH, .inr (0, [.ref aHs, .int vhf, .int vhl])), (aHs, .inl (cyI, 1575, .inl vhs)), (aL, .inr (4, [.ref aLs, .int vsf])), (aLs, .inl (cyI, 450, .inl vss)), (aP, .inr (1, [.ref aPc, .int vpl])), (aPc, .inl (cyI, 80, .inl vpp)), (aR, .inr (2, [.ref aP, .ref aRn, .int vra, .int vrk, .int vrt])), (aRn, .inl (cyI, 40, .inl vrn)), (aT, .inr (5, [.ref aTp, .int vtl_634, .int vta, .int vtt])), (aTp, .inl (cyI, 552, .inl vtp_634))] := hD
            refine lv_iconst (v := (-1 : Int32)) hx hb dL_refusesAny_637 (by decide) ?_
            refine lv_icmp_ne (tgt := 699) hx hb dL_refusesAny_638 (by decide) (fun hc => ?_) (fun hc => ?_)
            · have hF := k_if_f hF hc
              refine lv_iconst (v := (0 : Int32)) hx hb dL_refusesAny_699 (by decide) ?_
              obtain ⟨e0, e1, e2, e3, e4, e5, e6, e7, e8, e9, e10, e11, e12, e13, e14, e15, e16⟩ := k_inj17 hF
              have hP9 : va_P D vwCl [(aM, .inr (6, [.ref aS, .ref aH, .ref aL, .ref aP, .ref aR, .ref aT])), (aS, .inr (3, [.ref aC])), (aC, .inl (cyI, 225, .inl vc')), (aH, .inr (0, [.ref aHs, .int vhf', .int vhl'])), (aHs, .inl (cyI, 1575, .inl vhs')), (aL, .inr (4, [.ref aLs, .int vsf'])), (aLs, .inl (cyI, 450, .inl vss')), (aP, .inr (1, [.ref aPc, .int vpl'])), (aPc, .inl (cyI, 80, .inl vpp')), (aR, .inr (2, [.ref aP, .ref aRn, .int vra', .int vrk', .int vrt'])), (aRn, .inl (cyI, 40, .inl vrn')), (aT, .inr (5, [.ref aTp, .int vtl', .int vta', .int vtt'])), (aTp, .inl (cyI, 552, .inl vtp'))] H := by rw [← e1, ← e2, ← e3, ← e4, ← e5, ← e6, ← e7, ← e8, ← e9, ← e10, ← e11, ← e12, ← e13, ← e14, ← e15, ← e16]; exact hP
              exact W.zret hx hb hr rfl (fun t ht hW => ⟨⟨_, (), rfl, e0, x_ret hP9 ht⟩, hS.F ht⟩) hS.2.2 dL_refusesAny_700
            · have hF := k_if_t hF hc
              refine lv_aload_n hx hb dL_refusesAny_641 rfl (lv_at hl 0 rfl) ?_
              refine lv_iconst (v := (0 : Int32)) hx hb dL_refusesAny_642 (by decide) ?_
              refine lv_iconst (v := (1 : Int32)) hx hb dL_refusesAny_643 (by decide) ?_
              refine lv_iload_n hx hb dL_refusesAny_644 rfl (lv_at hl 1 rfl) ?_
              refine lv_if_ne (tgt := 652) hx hb dL_refusesAny_645 (by decide) (fun hc => ?_) (fun hc => ?_)
              · have hF := k_if_f hF hc
                refine lv_iconst (v := (2 : Int32)) hx hb dL_refusesAny_652 (by decide) ?_
                exact (hG _ _ _).1 (blk_653 x1 x2 x4 (2 : Int32) (1 : Int32) (0 : Int32) vc vhf vhl vhs vsf vss vpl vpp vra vrk vrt vrn vtl_634 vta vtt vtp_634 hF _ _ _ hP hD hS (lv_sub hl [0, 1, 2, 4] rfl))
              · have hF := k_if_t hF hc
                refine lv_iconst (v := (-1 : Int32)) hx hb dL_refusesAny_648 (by decide) ?_
                refine lv_goto (tgt := 653) hx hb dL_refusesAny_649 (by decide) ?_
                exact (hG _ _ _).1 (blk_653 x1 x2 x4 (-1 : Int32) (1 : Int32) (0 : Int32) vc vhf vhl vhs vsf vss vpl vpp vra vrk vrt vrn vtl_634 vta vtt vtp_634 hF _ _ _ hP hD hS (lv_sub hl [0, 1, 2, 4] rfl))
  have blk_535 : ∀ (x1 : Int32) (x2 : Int32) (x3 : Int32) (x4 : Int32) (t0 : Int32) (t1 : Int32) (t2 : Int32) (t3 : Int32) (t4 : Int32) (vc : (Nat → Int32)) (vhf : Int32) (vhl : Int32) (vhs : (Nat → Int32)) (vsf : Int32) (vss : (Nat → Int32)) (vpl : Int32) (vpp : (Nat → Int32)) (vra : Int32) (vrk : Int32) (vrt : Int32) (vrn : (Nat → Int32)) (vtl : Int32) (vta : Int32) (vtt : Int32) (vtp : (Nat → Int32)), b_L_refusesAny_535 N x1 x2 x3 x4 t0 t1 t2 t3 t4 vc vhf vhl vhs vsf vss vpl vpp vra vrk vrt vrn vtl vta vtt vtp = some (r0, vc', vhf', vhl', vhs', vsf', vss', vpl', vpp', vra', vrk', vrt', vrn', vtl', vta', vtt', vtp') → ∀ (H : Heap) (locs : List Loc) (ls : Array Slot), va_P D vwCl [(aM, .inr (6, [.ref aS, .ref aH, .ref aL, .ref aP, .ref aR, .ref aT])), (aS, .inr (3, [.ref aC])), (aC, .inl (cyI, 225, .inl vc)), (aH, .inr (0, [.ref aHs, .int vhf, .int vhl])), (aHs, .inl (cyI, 1575, .inl vhs)), (aL, .inr (4, [.ref aLs, .int vsf])), (aLs, .inl (cyI, 450, .inl vss)), (aP, .inr (1, [.ref aPc, .int vpl])), (aPc, .inl (cyI, 80, .inl vpp)), (aR, .inr (2, [.ref aP, .ref aRn, .int vra, .int vrk, .int vrt])), (aRn, .inl (cyI, 40, .inl vrn)), (aT, .inr (5, [.ref aTp, .int vtl, .int vta, .int vtt])), (aTp, .inl (cyI, 552, .inl vtp))] H → va_D A [(aM, .inr (6, [.ref aS, .ref aH, .ref aL, .ref aP, .ref aR, .ref aT])), (aS, .inr (3, [.ref aC])), (aC, .inl (cyI, 225, .inl vc)), (aH, .inr (0, [.ref aHs, .int vhf, .int vhl])), (aHs, .inl (cyI, 1575, .inl vhs)), (aL, .inr (4, [.ref aLs, .int vsf])), (aLs, .inl (cyI, 450, .inl vss)), (aP, .inr (1, [.ref aPc, .int vpl])), (aPc, .inl (cyI, 80, .inl vpp)), (aR, .inr (2, [.ref aP, .ref aRn, .int vra, .int vrk, .int vrt])), (aRn, .inl (cyI, 40, .inl vrn)), (aT, .inr (5, [.ref aTp, .int vtl, .int vta, .int vtt])), (aTp, .inl (cyI, 552, .inl vtp))] → va_S A s.heap H locs → lv_has ls 5 [(0, .ref aM), (1, .int x1), (2, .int x2), (3, .int x3), (4, .int x4)] → G H locs (F0 m 535 ls [.int t0, .int t1, .int t2, .int t3, .int t4, .ref aM]) := by
    intro x1 x2 x3 x4 t0 t1 t2 t3 t4 vc vhf vhl vhs vsf vss vpl vpp vra vrk vrt vrn vtl vta vtt vtp hF H locs ls hP hD hS hl
    unfold b_L_refusesAny_535 at hF
    refine (hG _ _ _).2 ?_
    obtain ⟨r535, vtl_535, vtp_535, hC, hF⟩ := k_c3_ex hF
    refine x_VM (As := [.int t4, .int t3, .int t2, .int t1, .int t0]) (rest := []) ⟨hx, hb, hml, hown, hts⟩ (c_X6_pair l D cyI cyZ aM aS aC aH aL aP aR aT aTp H.size N t4 t3 t2 t1 t0 vc vtl vta vtt vtp hC) (cwV 5 hts gL_refusesAny_X6_pair rfl rfl rfl (by decide +kernel) ⟨Nat.le_of_ble_eq_true rfl, Nat.le_of_ble_eq_true rfl⟩) hK hP hD hS hA [0, 1, 2, 11, 12] rfl rfl rfl 0 rfl rfl rfl rfl hl.1 rfl (Nat.le_of_ble_eq_true rfl) ⟨Nat.zero_le _, Nat.zero_le _⟩ dL_refusesAny_535 (fun H locs hP hD hS => ?_)
    have hP : va_P D vwCl [(aM, .inr (6, [.ref aS, .ref aH, .ref aL, .ref aP, .ref aR, .ref aT])), (aS, .inr (3, [.ref aC])), (aC, .inl (cyI, 225, .inl vc)), (aH, .inr (0, [.ref aHs, .int vhf, .int vhl])), (aHs, .inl (cyI, 1575, .inl vhs)), (aL, .inr (4, [.ref aLs, .int vsf])), (aLs, .inl (cyI, 450, .inl vss)), (aP, .inr (1, [.ref aPc, .int vpl])), (aPc, .inl (cyI, 80, .inl vpp)), (aR, .inr (2, [.ref aP, .ref aRn, .int vra, .int vrk, .int vrt])), (aRn, .inl (cyI, 40, .inl vrn)), (aT, .inr (5, [.ref aTp, .int vtl_535, .int vta, .int vtt])), (aTp, .inl (cyI, 552, .inl vtp_535))] H := hP
    have hD : va_D A [(aM, .inr (6, [.ref aS, .ref aH, .ref aL, .ref aP, .ref aR, .ref aT])), (aS, .inr (3, [.ref aC])), (aC, .inl (cyI, 225, .inl vc)), (aH, .inr (0, [.ref aHs, .int vhf, .int vhl])), (aHs, .inl (cyI, 1575, .inl vhs)), (aL, .inr (4, [.ref aLs, .int vsf])), (aLs, .inl (cyI, 450, .inl vss)), (aP, .inr (1, [.ref aPc, .int vpl])), (aPc, .inl (cyI, 80, .inl vpp)), (aR, .inr (2, [.ref aP, .ref aRn, .int vra, .int vrk, .int vrt])), (aRn, .inl (cyI, 40, .inl vrn)), (aT, .inr (5, [.ref aTp, .int vtl_535, .int vta, .int vtt])), (aTp, .inl (cyI, 552, .inl vtp_535))] := hD
    refine lv_bipush (v := (-2 : Int32)) hx hb dL_refusesAny_538 (by decide) ?_
    refine lv_icmp_ne (tgt := 699) hx hb dL_refusesAny_540 (by decide) (fun hc => ?_) (fun hc => ?_)
    · have hF := k_if_f hF hc
      refine lv_iconst (v := (0 : Int32)) hx hb dL_refusesAny_699 (by decide) ?_
      obtain ⟨e0, e1, e2, e3, e4, e5, e6, e7, e8, e9, e10, e11, e12, e13, e14, e15, e16⟩ := k_inj17 hF
      have hP9 : va_P D vwCl [(aM, .inr (6, [.ref aS, .ref aH, .ref aL, .ref aP, .ref aR, .ref aT])), (aS, .inr (3, [.ref aC])), (aC, .inl (cyI, 225, .inl vc')), (aH, .inr (0, [.ref aHs, .int vhf', .int vhl'])), (aHs, .inl (cyI, 1575, .inl vhs')), (aL, .inr (4, [.ref aLs, .int vsf'])), (aLs, .inl (cyI, 450, .inl vss')), (aP, .inr (1, [.ref aPc, .int vpl'])), (aPc, .inl (cyI, 80, .inl vpp')), (aR, .inr (2, [.ref aP, .ref aRn, .int vra', .int vrk', .int vrt'])), (aRn, .inl (cyI, 40, .inl vrn')), (aT, .inr (5, [.ref aTp, .int vtl', .int vta', .int vtt'])), (aTp, .inl (cyI, 552, .inl vtp'))] H := by rw [← e1, ← e2, ← e3, ← e4, ← e5, ← e6, ← e7, ← e8, ← e9, ← e10, ← e11, ← e12, ← e13, ← e14, ← e15, ← e16]; exact hP
      exact W.zret hx hb hr rfl (fun t ht hW => ⟨⟨_, (), rfl, e0, x_ret hP9 ht⟩, hS.F ht⟩) hS.2.2 dL_refusesAny_700
    · have hF := k_if_t hF hc
      refine lv_aload_n hx hb dL_refusesAny_543 rfl (lv_at hl 0 rfl) ?_
      refine lv_iconst (v := (0 : Int32)) hx hb dL_refusesAny_544 (by decide) ?_
      refine lv_iconst (v := (0 : Int32)) hx hb dL_refusesAny_545 (by decide) ?_
      refine lv_iconst (v := (0 : Int32)) hx hb dL_refusesAny_546 (by decide) ?_
      refine lv_iconst (v := (0 : Int32)) hx hb dL_refusesAny_547 (by decide) ?_
      refine lv_iconst (v := (0 : Int32)) hx hb dL_refusesAny_548 (by decide) ?_
      obtain ⟨r549, vtl_549, vtp_549, hC, hF⟩ := k_c3_ex hF
      refine x_VM (As := [.int (0 : Int32), .int (0 : Int32), .int (0 : Int32), .int (0 : Int32), .int (0 : Int32)]) (rest := []) ⟨hx, hb, hml, hown, hts⟩ (c_X6_pair l D cyI cyZ aM aS aC aH aL aP aR aT aTp H.size N (0 : Int32) (0 : Int32) (0 : Int32) (0 : Int32) (0 : Int32) vc vtl_535 vta vtt vtp_535 hC) (cwV 5 hts gL_refusesAny_X6_pair rfl rfl rfl (by decide +kernel) ⟨Nat.le_of_ble_eq_true rfl, Nat.le_of_ble_eq_true rfl⟩) hK hP hD hS hA [0, 1, 2, 11, 12] rfl rfl rfl 0 rfl rfl rfl rfl hl.1 rfl (Nat.le_of_ble_eq_true rfl) ⟨Nat.zero_le _, Nat.zero_le _⟩ dL_refusesAny_549 (fun H locs hP hD hS => ?_)
      have hP : va_P D vwCl [(aM, .inr (6, [.ref aS, .ref aH, .ref aL, .ref aP, .ref aR, .ref aT])), (aS, .inr (3, [.ref aC])), (aC, .inl (cyI, 225, .inl vc)), (aH, .inr (0, [.ref aHs, .int vhf, .int vhl])), (aHs, .inl (cyI, 1575, .inl vhs)), (aL, .inr (4, [.ref aLs, .int vsf])), (aLs, .inl (cyI, 450, .inl vss)), (aP, .inr (1, [.ref aPc, .int vpl])), (aPc, .inl (cyI, 80, .inl vpp)), (aR, .inr (2, [.ref aP, .ref aRn, .int vra, .int vrk, .int vrt])), (aRn, .inl (cyI, 40, .inl vrn)), (aT, .inr (5, [.ref aTp, .int vtl_549, .int vta, .int vtt])), (aTp, .inl (cyI, 552, .inl vtp_549))] H := hP
      have hD : va_D A [(aM, .inr (6, [.ref aS, .ref aH, .ref aL, .ref aP, .ref aR, .ref aT])), (aS, .inr (3, [.ref aC])), (aC, .inl (cyI, 225, .inl vc)), (aH, .inr (0, [.ref aHs, .int vhf, .int vhl])), (aHs, .inl (cyI, 1575, .inl vhs)), (aL, .inr (4, [.ref aLs, .int vsf])), (aLs, .inl (cyI, 450, .inl vss)), (aP, .inr (1, [.ref aPc, .int vpl])), (aPc, .inl (cyI, 80, .inl vpp)), (aR, .inr (2, [.ref aP, .ref aRn, .int vra, .int vrk, .int vrt])), (aRn, .inl (cyI, 40, .inl vrn)), (aT, .inr (5, [.ref aTp, .int vtl_549, .int vta, .int vtt])), (aTp, .inl (cyI, 552, .inl vtp_549))] := hD
      refine lv_bipush (v := (-2 : Int32)) hx hb dL_refusesAny_552 (by decide) ?_
      refine lv_icmp_ne (tgt := 699) hx hb dL_refusesAny_554 (by decide) (fun hc => ?_) (fun hc => ?_)
      · have hF := k_if_f hF hc
        refine lv_iconst (v := (0 : Int32)) hx hb dL_refusesAny_699 (by decide) ?_
        obtain ⟨e0, e1, e2, e3, e4, e5, e6, e7, e8, e9, e10, e11, e12, e13, e14, e15, e16⟩ := k_inj17 hF
        have hP9 : va_P D vwCl [(aM, .inr (6, [.ref aS, .ref aH, .ref aL, .ref aP, .ref aR, .ref aT])), (aS, .inr (3, [.ref aC])), (aC, .inl (cyI, 225, .inl vc')), (aH, .inr (0, [.ref aHs, .int vhf', .int vhl'])), (aHs, .inl (cyI, 1575, .inl vhs')), (aL, .inr (4, [.ref aLs, .int vsf'])), (aLs, .inl (cyI, 450, .inl vss')), (aP, .inr (1, [.ref aPc, .int vpl'])), (aPc, .inl (cyI, 80, .inl vpp')), (aR, .inr (2, [.ref aP, .ref aRn, .int vra', .int vrk', .int vrt'])), (aRn, .inl (cyI, 40, .inl vrn')), (aT, .inr (5, [.ref aTp, .int vtl', .int vta', .int vtt'])), (aTp, .inl (cyI, 552, .inl vtp'))] H := by rw [← e1, ← e2, ← e3, ← e4, ← e5, ← e6, ← e7, ← e8, ← e9, ← e10, ← e11, ← e12, ← e13, ← e14, ← e15, ← e16]; exact hP
        exact W.zret hx hb hr rfl (fun t ht hW => ⟨⟨_, (), rfl, e0, x_ret hP9 ht⟩, hS.F ht⟩) hS.2.2 dL_refusesAny_700
      · have hF := k_if_t hF hc
        refine lv_aload_n hx hb dL_refusesAny_557 rfl (lv_at hl 0 rfl) ?_
        refine lv_iconst (v := (0 : Int32)) hx hb dL_refusesAny_558 (by decide) ?_
        refine lv_iload_n hx hb dL_refusesAny_559 rfl (lv_at hl 2 rfl) ?_
        refine lv_iconst (v := (0 : Int32)) hx hb dL_refusesAny_560 (by decide) ?_
        refine lv_iconst (v := (0 : Int32)) hx hb dL_refusesAny_561 (by decide) ?_
        refine lv_bipush (v := (9 : Int32)) hx hb dL_refusesAny_562 (by decide) ?_
        obtain ⟨r564, vtl_564, vtp_564, hC, hF⟩ := k_c3_ex hF
        refine x_VM (As := [.int (0 : Int32), .int x2, .int (0 : Int32), .int (0 : Int32), .int (9 : Int32)]) (rest := []) ⟨hx, hb, hml, hown, hts⟩ (c_X6_why l D cyI cyZ aM aS aC aH aL aP aR aT aTp H.size N (0 : Int32) x2 (0 : Int32) (0 : Int32) (9 : Int32) vc vtl_549 vta vtt vtp_549 hC) (cwV 5 hts gL_refusesAny_X6_why rfl rfl rfl (by decide +kernel) ⟨Nat.le_of_ble_eq_true rfl, Nat.le_of_ble_eq_true rfl⟩) hK hP hD hS hA [0, 1, 2, 11, 12] rfl rfl rfl 0 rfl rfl rfl rfl hl.1 rfl (Nat.le_of_ble_eq_true rfl) ⟨Nat.zero_le _, Nat.zero_le _⟩ dL_refusesAny_564 (fun H locs hP hD hS => ?_)
        have hP : va_P D vwCl [(aM, .inr (6, [.ref aS, .ref aH, .ref aL, .ref aP, .ref aR, .ref aT])), (aS, .inr (3, [.ref aC])), (aC, .inl (cyI, 225, .inl vc)), (aH, .inr (0, [.ref aHs, .int vhf, .int vhl])), (aHs, .inl (cyI, 1575, .inl vhs)), (aL, .inr (4, [.ref aLs, .int vsf])), (aLs, .inl (cyI, 450, .inl vss)), (aP, .inr (1, [.ref aPc, .int vpl])), (aPc, .inl (cyI, 80, .inl vpp)), (aR, .inr (2, [.ref aP, .ref aRn, .int vra, .int vrk, .int vrt])), (aRn, .inl (cyI, 40, .inl vrn)), (aT, .inr (5, [.ref aTp, .int vtl_564, .int vta, .int vtt])), (aTp, .inl (cyI, 552, .inl vtp_564))] H := hP
        have hD : va_D A [(aM, .inr (6, [.ref aS, .ref aH, .ref aL, .ref aP, .ref aR, .ref aT])), (aS, .inr (3, [.ref aC])), (aC, .inl (cyI, 225, .inl vc)), (aH, .inr (0, [.ref aHs, .int vhf, .int vhl])), (aHs, .inl (cyI, 1575, .inl vhs)), (aL, .inr (4, [.ref aLs, .int vsf])), (aLs, .inl (cyI, 450, .inl vss)), (aP, .inr (1, [.ref aPc, .int vpl])), (aPc, .inl (cyI, 80, .inl vpp)), (aR, .inr (2, [.ref aP, .ref aRn, .int vra, .int vrk, .int vrt])), (aRn, .inl (cyI, 40, .inl vrn)), (aT, .inr (5, [.ref aTp, .int vtl_564, .int vta, .int vtt])), (aTp, .inl (cyI, 552, .inl vtp_564))] := hD
        refine lv_iconst (v := (-1 : Int32)) hx hb dL_refusesAny_567 (by decide) ?_
        refine lv_icmp_ne (tgt := 699) hx hb dL_refusesAny_568 (by decide) (fun hc => ?_) (fun hc => ?_)
        · have hF := k_if_f hF hc
          refine lv_iconst (v := (0 : Int32)) hx hb dL_refusesAny_699 (by decide) ?_
          obtain ⟨e0, e1, e2, e3, e4, e5, e6, e7, e8, e9, e10, e11, e12, e13, e14, e15, e16⟩ := k_inj17 hF
          have hP9 : va_P D vwCl [(aM, .inr (6, [.ref aS, .ref aH, .ref aL, .ref aP, .ref aR, .ref aT])), (aS, .inr (3, [.ref aC])), (aC, .inl (cyI, 225, .inl vc')), (aH, .inr (0, [.ref aHs, .int vhf', .int vhl'])), (aHs, .inl (cyI, 1575, .inl vhs')), (aL, .inr (4, [.ref aLs, .int vsf'])), (aLs, .inl (cyI, 450, .inl vss')), (aP, .inr (1, [.ref aPc, .int vpl'])), (aPc, .inl (cyI, 80, .inl vpp')), (aR, .inr (2, [.ref aP, .ref aRn, .int vra', .int vrk', .int vrt'])), (aRn, .inl (cyI, 40, .inl vrn')), (aT, .inr (5, [.ref aTp, .int vtl', .int vta', .int vtt'])), (aTp, .inl (cyI, 552, .inl vtp'))] H := by rw [← e1, ← e2, ← e3, ← e4, ← e5, ← e6, ← e7, ← e8, ← e9, ← e10, ← e11, ← e12, ← e13, ← e14, ← e15, ← e16]; exact hP
          exact W.zret hx hb hr rfl (fun t ht hW => ⟨⟨_, (), rfl, e0, x_ret hP9 ht⟩, hS.F ht⟩) hS.2.2 dL_refusesAny_700
        · have hF := k_if_t hF hc
          refine lv_aload_n hx hb dL_refusesAny_571 rfl (lv_at hl 0 rfl) ?_
          refine lv_iconst (v := (0 : Int32)) hx hb dL_refusesAny_572 (by decide) ?_
          refine lv_iconst (v := (1 : Int32)) hx hb dL_refusesAny_573 (by decide) ?_
          refine lv_iconst (v := (0 : Int32)) hx hb dL_refusesAny_574 (by decide) ?_
          refine lv_iconst (v := (0 : Int32)) hx hb dL_refusesAny_575 (by decide) ?_
          refine lv_iload_n hx hb dL_refusesAny_576 rfl (lv_at hl 1 rfl) ?_
          refine lv_if_ne (tgt := 584) hx hb dL_refusesAny_577 (by decide) (fun hc => ?_) (fun hc => ?_)
          · have hF := k_if_f hF hc
            refine lv_iconst (v := (2 : Int32)) hx hb dL_refusesAny_584 (by decide) ?_
            exact (hG _ _ _).1 (blk_585 x1 x2 x3 x4 (2 : Int32) (0 : Int32) (0 : Int32) (1 : Int32) (0 : Int32) vc vhf vhl vhs vsf vss vpl vpp vra vrk vrt vrn vtl_564 vta vtt vtp_564 hF _ _ _ hP hD hS (lv_sub hl [0, 1, 2, 3, 4] rfl))
          · have hF := k_if_t hF hc
            refine lv_iconst (v := (-1 : Int32)) hx hb dL_refusesAny_580 (by decide) ?_
            refine lv_goto (tgt := 585) hx hb dL_refusesAny_581 (by decide) ?_
            exact (hG _ _ _).1 (blk_585 x1 x2 x3 x4 (-1 : Int32) (0 : Int32) (0 : Int32) (1 : Int32) (0 : Int32) vc vhf vhl vhs vsf vss vpl vpp vra vrk vrt vrn vtl_564 vta vtt vtp_564 hF _ _ _ hP hD hS (lv_sub hl [0, 1, 2, 3, 4] rfl))
  have blk_468 : ∀ (x1 : Int32) (x2 : Int32) (x3 : Int32) (x4 : Int32) (t0 : Int32) (vc : (Nat → Int32)) (vhf : Int32) (vhl : Int32) (vhs : (Nat → Int32)) (vsf : Int32) (vss : (Nat → Int32)) (vpl : Int32) (vpp : (Nat → Int32)) (vra : Int32) (vrk : Int32) (vrt : Int32) (vrn : (Nat → Int32)) (vtl : Int32) (vta : Int32) (vtt : Int32) (vtp : (Nat → Int32)), b_L_refusesAny_468 N x1 x2 x3 x4 t0 vc vhf vhl vhs vsf vss vpl vpp vra vrk vrt vrn vtl vta vtt vtp = some (r0, vc', vhf', vhl', vhs', vsf', vss', vpl', vpp', vra', vrk', vrt', vrn', vtl', vta', vtt', vtp') → ∀ (H : Heap) (locs : List Loc) (ls : Array Slot), va_P D vwCl [(aM, .inr (6, [.ref aS, .ref aH, .ref aL, .ref aP, .ref aR, .ref aT])), (aS, .inr (3, [.ref aC])), (aC, .inl (cyI, 225, .inl vc)), (aH, .inr (0, [.ref aHs, .int vhf, .int vhl])), (aHs, .inl (cyI, 1575, .inl vhs)), (aL, .inr (4, [.ref aLs, .int vsf])), (aLs, .inl (cyI, 450, .inl vss)), (aP, .inr (1, [.ref aPc, .int vpl])), (aPc, .inl (cyI, 80, .inl vpp)), (aR, .inr (2, [.ref aP, .ref aRn, .int vra, .int vrk, .int vrt])), (aRn, .inl (cyI, 40, .inl vrn)), (aT, .inr (5, [.ref aTp, .int vtl, .int vta, .int vtt])), (aTp, .inl (cyI, 552, .inl vtp))] H → va_D A [(aM, .inr (6, [.ref aS, .ref aH, .ref aL, .ref aP, .ref aR, .ref aT])), (aS, .inr (3, [.ref aC])), (aC, .inl (cyI, 225, .inl vc)), (aH, .inr (0, [.ref aHs, .int vhf, .int vhl])), (aHs, .inl (cyI, 1575, .inl vhs)), (aL, .inr (4, [.ref aLs, .int vsf])), (aLs, .inl (cyI, 450, .inl vss)), (aP, .inr (1, [.ref aPc, .int vpl])), (aPc, .inl (cyI, 80, .inl vpp)), (aR, .inr (2, [.ref aP, .ref aRn, .int vra, .int vrk, .int vrt])), (aRn, .inl (cyI, 40, .inl vrn)), (aT, .inr (5, [.ref aTp, .int vtl, .int vta, .int vtt])), (aTp, .inl (cyI, 552, .inl vtp))] → va_S A s.heap H locs → lv_has ls 5 [(0, .ref aM), (1, .int x1), (2, .int x2), (3, .int x3), (4, .int x4)] → G H locs (F0 m 468 ls [.int t0, .ref aM]) := by
    intro x1 x2 x3 x4 t0 vc vhf vhl vhs vsf vss vpl vpp vra vrk vrt vrn vtl vta vtt vtp hF H locs ls hP hD hS hl
    unfold b_L_refusesAny_468 at hF
    refine (hG _ _ _).2 ?_
    obtain ⟨r468, hC, hF⟩ := k_c1_ex hF
    refine x_VR (As := [.int t0]) (rest := []) ⟨hx, hb, hml, hown, hts⟩ (c_X6_count l D cyI cyZ aM aS aC aH aHs aL aP aPc aR aT N t0 vc vhf vhl vpl hC) (cwV 1 hts gL_refusesAny_X6_count rfl rfl rfl (by decide +kernel) ⟨Nat.le_of_ble_eq_true rfl, Nat.le_of_ble_eq_true rfl⟩) hK hP hS [0, 1, 2, 3, 7] rfl 0 rfl rfl rfl rfl hl.1 rfl (Nat.le_of_ble_eq_true rfl) ⟨Nat.zero_le _, Nat.zero_le _⟩ dL_refusesAny_468 (fun H locs hP hS => ?_)
    refine lv_bipush (v := (-2 : Int32)) hx hb dL_refusesAny_471 (by decide) ?_
    refine lv_icmp_eq (tgt := 478) hx hb dL_refusesAny_473 (by decide) (fun hc => ?_) (fun hc => ?_)
    · have hF := k_if_t hF hc
      refine lv_aload_n hx hb dL_refusesAny_478 rfl (lv_at hl 0 rfl) ?_
      refine lv_iload_n hx hb dL_refusesAny_479 rfl (lv_at hl 2 rfl) ?_
      refine lv_iconst (v := (0 : Int32)) hx hb dL_refusesAny_480 (by decide) ?_
      refine lv_iconst (v := (0 : Int32)) hx hb dL_refusesAny_481 (by decide) ?_
      refine lv_iconst (v := (0 : Int32)) hx hb dL_refusesAny_482 (by decide) ?_
      refine lv_bipush (v := (9 : Int32)) hx hb dL_refusesAny_483 (by decide) ?_
      obtain ⟨r485, vtl_485, vtp_485, hC, hF⟩ := k_c3_ex hF
      refine x_VM (As := [.int x2, .int (0 : Int32), .int (0 : Int32), .int (0 : Int32), .int (9 : Int32)]) (rest := []) ⟨hx, hb, hml, hown, hts⟩ (c_X6_pair l D cyI cyZ aM aS aC aH aL aP aR aT aTp H.size N x2 (0 : Int32) (0 : Int32) (0 : Int32) (9 : Int32) vc vtl vta vtt vtp hC) (cwV 5 hts gL_refusesAny_X6_pair rfl rfl rfl (by decide +kernel) ⟨Nat.le_of_ble_eq_true rfl, Nat.le_of_ble_eq_true rfl⟩) hK hP hD hS hA [0, 1, 2, 11, 12] rfl rfl rfl 0 rfl rfl rfl rfl hl.1 rfl (Nat.le_of_ble_eq_true rfl) ⟨Nat.zero_le _, Nat.zero_le _⟩ dL_refusesAny_485 (fun H locs hP hD hS => ?_)
      have hP : va_P D vwCl [(aM, .inr (6, [.ref aS, .ref aH, .ref aL, .ref aP, .ref aR, .ref aT])), (aS, .inr (3, [.ref aC])), (aC, .inl (cyI, 225, .inl vc)), (aH, .inr (0, [.ref aHs, .int vhf, .int vhl])), (aHs, .inl (cyI, 1575, .inl vhs)), (aL, .inr (4, [.ref aLs, .int vsf])), (aLs, .inl (cyI, 450, .inl vss)), (aP, .inr (1, [.ref aPc, .int vpl])), (aPc, .inl (cyI, 80, .inl vpp)), (aR, .inr (2, [.ref aP, .ref aRn, .int vra, .int vrk, .int vrt])), (aRn, .inl (cyI, 40, .inl vrn)), (aT, .inr (5, [.ref aTp, .int vtl_485, .int vta, .int vtt])), (aTp, .inl (cyI, 552, .inl vtp_485))] H := hP
      have hD : va_D A [(aM, .inr (6, [.ref aS, .ref aH, .ref aL, .ref aP, .ref aR, .ref aT])), (aS, .inr (3, [.ref aC])), (aC, .inl (cyI, 225, .inl vc)), (aH, .inr (0, [.ref aHs, .int vhf, .int vhl])), (aHs, .inl (cyI, 1575, .inl vhs)), (aL, .inr (4, [.ref aLs, .int vsf])), (aLs, .inl (cyI, 450, .inl vss)), (aP, .inr (1, [.ref aPc, .int vpl])), (aPc, .inl (cyI, 80, .inl vpp)), (aR, .inr (2, [.ref aP, .ref aRn, .int vra, .int vrk, .int vrt])), (aRn, .inl (cyI, 40, .inl vrn)), (aT, .inr (5, [.ref aTp, .int vtl_485, .int vta, .int vtt])), (aTp, .inl (cyI, 552, .inl vtp_485))] := hD
      refine lv_iconst (v := (-1 : Int32)) hx hb dL_refusesAny_488 (by decide) ?_
      refine lv_icmp_ne (tgt := 699) hx hb dL_refusesAny_489 (by decide) (fun hc => ?_) (fun hc => ?_)
      · have hF := k_if_f hF hc
        refine lv_iconst (v := (0 : Int32)) hx hb dL_refusesAny_699 (by decide) ?_
        obtain ⟨e0, e1, e2, e3, e4, e5, e6, e7, e8, e9, e10, e11, e12, e13, e14, e15, e16⟩ := k_inj17 hF
        have hP9 : va_P D vwCl [(aM, .inr (6, [.ref aS, .ref aH, .ref aL, .ref aP, .ref aR, .ref aT])), (aS, .inr (3, [.ref aC])), (aC, .inl (cyI, 225, .inl vc')), (aH, .inr (0, [.ref aHs, .int vhf', .int vhl'])), (aHs, .inl (cyI, 1575, .inl vhs')), (aL, .inr (4, [.ref aLs, .int vsf'])), (aLs, .inl (cyI, 450, .inl vss')), (aP, .inr (1, [.ref aPc, .int vpl'])), (aPc, .inl (cyI, 80, .inl vpp')), (aR, .inr (2, [.ref aP, .ref aRn, .int vra', .int vrk', .int vrt'])), (aRn, .inl (cyI, 40, .inl vrn')), (aT, .inr (5, [.ref aTp, .int vtl', .int vta', .int vtt'])), (aTp, .inl (cyI, 552, .inl vtp'))] H := by rw [← e1, ← e2, ← e3, ← e4, ← e5, ← e6, ← e7, ← e8, ← e9, ← e10, ← e11, ← e12, ← e13, ← e14, ← e15, ← e16]; exact hP
        exact W.zret hx hb hr rfl (fun t ht hW => ⟨⟨_, (), rfl, e0, x_ret hP9 ht⟩, hS.F ht⟩) hS.2.2 dL_refusesAny_700
      · have hF := k_if_t hF hc
        refine lv_aload_n hx hb dL_refusesAny_492 rfl (lv_at hl 0 rfl) ?_
        refine lv_iconst (v := (0 : Int32)) hx hb dL_refusesAny_493 (by decide) ?_
        refine lv_iconst (v := (1 : Int32)) hx hb dL_refusesAny_494 (by decide) ?_
        refine lv_iload_n hx hb dL_refusesAny_495 rfl (lv_at hl 3 rfl) ?_
        refine lv_iconst (v := (0 : Int32)) hx hb dL_refusesAny_496 (by decide) ?_
        refine lv_iconst (v := (0 : Int32)) hx hb dL_refusesAny_497 (by decide) ?_
        obtain ⟨r498, vtl_498, vtp_498, hC, hF⟩ := k_c3_ex hF
        refine x_VM (As := [.int (0 : Int32), .int (1 : Int32), .int x3, .int (0 : Int32), .int (0 : Int32)]) (rest := []) ⟨hx, hb, hml, hown, hts⟩ (c_X6_pair l D cyI cyZ aM aS aC aH aL aP aR aT aTp H.size N (0 : Int32) (1 : Int32) x3 (0 : Int32) (0 : Int32) vc vtl_485 vta vtt vtp_485 hC) (cwV 5 hts gL_refusesAny_X6_pair rfl rfl rfl (by decide +kernel) ⟨Nat.le_of_ble_eq_true rfl, Nat.le_of_ble_eq_true rfl⟩) hK hP hD hS hA [0, 1, 2, 11, 12] rfl rfl rfl 0 rfl rfl rfl rfl hl.1 rfl (Nat.le_of_ble_eq_true rfl) ⟨Nat.zero_le _, Nat.zero_le _⟩ dL_refusesAny_498 (fun H locs hP hD hS => ?_)
        have hP : va_P D vwCl [(aM, .inr (6, [.ref aS, .ref aH, .ref aL, .ref aP, .ref aR, .ref aT])), (aS, .inr (3, [.ref aC])), (aC, .inl (cyI, 225, .inl vc)), (aH, .inr (0, [.ref aHs, .int vhf, .int vhl])), (aHs, .inl (cyI, 1575, .inl vhs)), (aL, .inr (4, [.ref aLs, .int vsf])), (aLs, .inl (cyI, 450, .inl vss)), (aP, .inr (1, [.ref aPc, .int vpl])), (aPc, .inl (cyI, 80, .inl vpp)), (aR, .inr (2, [.ref aP, .ref aRn, .int vra, .int vrk, .int vrt])), (aRn, .inl (cyI, 40, .inl vrn)), (aT, .inr (5, [.ref aTp, .int vtl_498, .int vta, .int vtt])), (aTp, .inl (cyI, 552, .inl vtp_498))] H := hP
        have hD : va_D A [(aM, .inr (6, [.ref aS, .ref aH, .ref aL, .ref aP, .ref aR, .ref aT])), (aS, .inr (3, [.ref aC])), (aC, .inl (cyI, 225, .inl vc)), (aH, .inr (0, [.ref aHs, .int vhf, .int vhl])), (aHs, .inl (cyI, 1575, .inl vhs)), (aL, .inr (4, [.ref aLs, .int vsf])), (aLs, .inl (cyI, 450, .inl vss)), (aP, .inr (1, [.ref aPc, .int vpl])), (aPc, .inl (cyI, 80, .inl vpp)), (aR, .inr (2, [.ref aP, .ref aRn, .int vra, .int vrk, .int vrt])), (aRn, .inl (cyI, 40, .inl vrn)), (aT, .inr (5, [.ref aTp, .int vtl_498, .int vta, .int vtt])), (aTp, .inl (cyI, 552, .inl vtp_498))] := hD
        refine lv_bipush (v := (-2 : Int32)) hx hb dL_refusesAny_501 (by decide) ?_
        refine lv_icmp_ne (tgt := 699) hx hb dL_refusesAny_503 (by decide) (fun hc => ?_) (fun hc => ?_)
        · have hF := k_if_f hF hc
          refine lv_iconst (v := (0 : Int32)) hx hb dL_refusesAny_699 (by decide) ?_
          obtain ⟨e0, e1, e2, e3, e4, e5, e6, e7, e8, e9, e10, e11, e12, e13, e14, e15, e16⟩ := k_inj17 hF
          have hP9 : va_P D vwCl [(aM, .inr (6, [.ref aS, .ref aH, .ref aL, .ref aP, .ref aR, .ref aT])), (aS, .inr (3, [.ref aC])), (aC, .inl (cyI, 225, .inl vc')), (aH, .inr (0, [.ref aHs, .int vhf', .int vhl'])), (aHs, .inl (cyI, 1575, .inl vhs')), (aL, .inr (4, [.ref aLs, .int vsf'])), (aLs, .inl (cyI, 450, .inl vss')), (aP, .inr (1, [.ref aPc, .int vpl'])), (aPc, .inl (cyI, 80, .inl vpp')), (aR, .inr (2, [.ref aP, .ref aRn, .int vra', .int vrk', .int vrt'])), (aRn, .inl (cyI, 40, .inl vrn')), (aT, .inr (5, [.ref aTp, .int vtl', .int vta', .int vtt'])), (aTp, .inl (cyI, 552, .inl vtp'))] H := by rw [← e1, ← e2, ← e3, ← e4, ← e5, ← e6, ← e7, ← e8, ← e9, ← e10, ← e11, ← e12, ← e13, ← e14, ← e15, ← e16]; exact hP
          exact W.zret hx hb hr rfl (fun t ht hW => ⟨⟨_, (), rfl, e0, x_ret hP9 ht⟩, hS.F ht⟩) hS.2.2 dL_refusesAny_700
        · have hF := k_if_t hF hc
          refine lv_aload_n hx hb dL_refusesAny_506 rfl (lv_at hl 0 rfl) ?_
          refine lv_iconst (v := (0 : Int32)) hx hb dL_refusesAny_507 (by decide) ?_
          refine lv_iconst (v := (1 : Int32)) hx hb dL_refusesAny_508 (by decide) ?_
          refine lv_iconst (v := (0 : Int32)) hx hb dL_refusesAny_509 (by decide) ?_
          refine lv_iload hx hb dL_refusesAny_510 (lv_at hl 4 rfl) ?_
          refine lv_iconst (v := (0 : Int32)) hx hb dL_refusesAny_512 (by decide) ?_
          obtain ⟨r513, vtl_513, vtp_513, hC, hF⟩ := k_c3_ex hF
          refine x_VM (As := [.int (0 : Int32), .int (1 : Int32), .int (0 : Int32), .int x4, .int (0 : Int32)]) (rest := []) ⟨hx, hb, hml, hown, hts⟩ (c_X6_pair l D cyI cyZ aM aS aC aH aL aP aR aT aTp H.size N (0 : Int32) (1 : Int32) (0 : Int32) x4 (0 : Int32) vc vtl_498 vta vtt vtp_498 hC) (cwV 5 hts gL_refusesAny_X6_pair rfl rfl rfl (by decide +kernel) ⟨Nat.le_of_ble_eq_true rfl, Nat.le_of_ble_eq_true rfl⟩) hK hP hD hS hA [0, 1, 2, 11, 12] rfl rfl rfl 0 rfl rfl rfl rfl hl.1 rfl (Nat.le_of_ble_eq_true rfl) ⟨Nat.zero_le _, Nat.zero_le _⟩ dL_refusesAny_513 (fun H locs hP hD hS => ?_)
          have hP : va_P D vwCl [(aM, .inr (6, [.ref aS, .ref aH, .ref aL, .ref aP, .ref aR, .ref aT])), (aS, .inr (3, [.ref aC])), (aC, .inl (cyI, 225, .inl vc)), (aH, .inr (0, [.ref aHs, .int vhf, .int vhl])), (aHs, .inl (cyI, 1575, .inl vhs)), (aL, .inr (4, [.ref aLs, .int vsf])), (aLs, .inl (cyI, 450, .inl vss)), (aP, .inr (1, [.ref aPc, .int vpl])), (aPc, .inl (cyI, 80, .inl vpp)), (aR, .inr (2, [.ref aP, .ref aRn, .int vra, .int vrk, .int vrt])), (aRn, .inl (cyI, 40, .inl vrn)), (aT, .inr (5, [.ref aTp, .int vtl_513, .int vta, .int vtt])), (aTp, .inl (cyI, 552, .inl vtp_513))] H := hP
          have hD : va_D A [(aM, .inr (6, [.ref aS, .ref aH, .ref aL, .ref aP, .ref aR, .ref aT])), (aS, .inr (3, [.ref aC])), (aC, .inl (cyI, 225, .inl vc)), (aH, .inr (0, [.ref aHs, .int vhf, .int vhl])), (aHs, .inl (cyI, 1575, .inl vhs)), (aL, .inr (4, [.ref aLs, .int vsf])), (aLs, .inl (cyI, 450, .inl vss)), (aP, .inr (1, [.ref aPc, .int vpl])), (aPc, .inl (cyI, 80, .inl vpp)), (aR, .inr (2, [.ref aP, .ref aRn, .int vra, .int vrk, .int vrt])), (aRn, .inl (cyI, 40, .inl vrn)), (aT, .inr (5, [.ref aTp, .int vtl_513, .int vta, .int vtt])), (aTp, .inl (cyI, 552, .inl vtp_513))] := hD
          refine lv_bipush (v := (-2 : Int32)) hx hb dL_refusesAny_516 (by decide) ?_
          refine lv_icmp_ne (tgt := 699) hx hb dL_refusesAny_518 (by decide) (fun hc => ?_) (fun hc => ?_)
          · have hF := k_if_f hF hc
            refine lv_iconst (v := (0 : Int32)) hx hb dL_refusesAny_699 (by decide) ?_
            obtain ⟨e0, e1, e2, e3, e4, e5, e6, e7, e8, e9, e10, e11, e12, e13, e14, e15, e16⟩ := k_inj17 hF
            have hP9 : va_P D vwCl [(aM, .inr (6, [.ref aS, .ref aH, .ref aL, .ref aP, .ref aR, .ref aT])), (aS, .inr (3, [.ref aC])), (aC, .inl (cyI, 225, .inl vc')), (aH, .inr (0, [.ref aHs, .int vhf', .int vhl'])), (aHs, .inl (cyI, 1575, .inl vhs')), (aL, .inr (4, [.ref aLs, .int vsf'])), (aLs, .inl (cyI, 450, .inl vss')), (aP, .inr (1, [.ref aPc, .int vpl'])), (aPc, .inl (cyI, 80, .inl vpp')), (aR, .inr (2, [.ref aP, .ref aRn, .int vra', .int vrk', .int vrt'])), (aRn, .inl (cyI, 40, .inl vrn')), (aT, .inr (5, [.ref aTp, .int vtl', .int vta', .int vtt'])), (aTp, .inl (cyI, 552, .inl vtp'))] H := by rw [← e1, ← e2, ← e3, ← e4, ← e5, ← e6, ← e7, ← e8, ← e9, ← e10, ← e11, ← e12, ← e13, ← e14, ← e15, ← e16]; exact hP
            exact W.zret hx hb hr rfl (fun t ht hW => ⟨⟨_, (), rfl, e0, x_ret hP9 ht⟩, hS.F ht⟩) hS.2.2 dL_refusesAny_700
          · have hF := k_if_t hF hc
            refine lv_aload_n hx hb dL_refusesAny_521 rfl (lv_at hl 0 rfl) ?_
            refine lv_iconst (v := (0 : Int32)) hx hb dL_refusesAny_522 (by decide) ?_
            refine lv_iconst (v := (1 : Int32)) hx hb dL_refusesAny_523 (by decide) ?_
            refine lv_iconst (v := (0 : Int32)) hx hb dL_refusesAny_524 (by decide) ?_
            refine lv_iconst (v := (0 : Int32)) hx hb dL_refusesAny_525 (by decide) ?_
            refine lv_iload_n hx hb dL_refusesAny_526 rfl (lv_at hl 1 rfl) ?_
            refine lv_if_ne (tgt := 534) hx hb dL_refusesAny_527 (by decide) (fun hc => ?_) (fun hc => ?_)
            · have hF := k_if_f hF hc
              refine lv_iconst (v := (4 : Int32)) hx hb dL_refusesAny_534 (by decide) ?_
              exact (hG _ _ _).1 (blk_535 x1 x2 x3 x4 (4 : Int32) (0 : Int32) (0 : Int32) (1 : Int32) (0 : Int32) vc vhf vhl vhs vsf vss vpl vpp vra vrk vrt vrn vtl_513 vta vtt vtp_513 hF _ _ _ hP hD hS (lv_sub hl [0, 1, 2, 3, 4] rfl))
            · have hF := k_if_t hF hc
              refine lv_iconst (v := (-1 : Int32)) hx hb dL_refusesAny_530 (by decide) ?_
              refine lv_goto (tgt := 535) hx hb dL_refusesAny_531 (by decide) ?_
              exact (hG _ _ _).1 (blk_535 x1 x2 x3 x4 (-1 : Int32) (0 : Int32) (0 : Int32) (1 : Int32) (0 : Int32) vc vhf vhl vhs vsf vss vpl vpp vra vrk vrt vrn vtl_513 vta vtt vtp_513 hF _ _ _ hP hD hS (lv_sub hl [0, 1, 2, 3, 4] rfl))
    · have hF := k_if_f hF hc
      refine lv_iconst (v := (0 : Int32)) hx hb dL_refusesAny_476 (by decide) ?_
      obtain ⟨e0, e1, e2, e3, e4, e5, e6, e7, e8, e9, e10, e11, e12, e13, e14, e15, e16⟩ := k_inj17 hF
      have hP9 : va_P D vwCl [(aM, .inr (6, [.ref aS, .ref aH, .ref aL, .ref aP, .ref aR, .ref aT])), (aS, .inr (3, [.ref aC])), (aC, .inl (cyI, 225, .inl vc')), (aH, .inr (0, [.ref aHs, .int vhf', .int vhl'])), (aHs, .inl (cyI, 1575, .inl vhs')), (aL, .inr (4, [.ref aLs, .int vsf'])), (aLs, .inl (cyI, 450, .inl vss')), (aP, .inr (1, [.ref aPc, .int vpl'])), (aPc, .inl (cyI, 80, .inl vpp')), (aR, .inr (2, [.ref aP, .ref aRn, .int vra', .int vrk', .int vrt'])), (aRn, .inl (cyI, 40, .inl vrn')), (aT, .inr (5, [.ref aTp, .int vtl', .int vta', .int vtt'])), (aTp, .inl (cyI, 552, .inl vtp'))] H := by rw [← e1, ← e2, ← e3, ← e4, ← e5, ← e6, ← e7, ← e8, ← e9, ← e10, ← e11, ← e12, ← e13, ← e14, ← e15, ← e16]; exact hP
      exact W.zret hx hb hr rfl (fun t ht hW => ⟨⟨_, (), rfl, e0, x_ret hP9 ht⟩, hS.F ht⟩) hS.2.2 dL_refusesAny_477
  have blk_420 : ∀ (x1 : Int32) (x2 : Int32) (x3 : Int32) (x4 : Int32) (t0 : Int32) (t1 : Int32) (vc : (Nat → Int32)) (vhf : Int32) (vhl : Int32) (vhs : (Nat → Int32)) (vsf : Int32) (vss : (Nat → Int32)) (vpl : Int32) (vpp : (Nat → Int32)) (vra : Int32) (vrk : Int32) (vrt : Int32) (vrn : (Nat → Int32)) (vtl : Int32) (vta : Int32) (vtt : Int32) (vtp : (Nat → Int32)), b_L_refusesAny_420 N x1 x2 x3 x4 t0 t1 vc vhf vhl vhs vsf vss vpl vpp vra vrk vrt vrn vtl vta vtt vtp = some (r0, vc', vhf', vhl', vhs', vsf', vss', vpl', vpp', vra', vrk', vrt', vrn', vtl', vta', vtt', vtp') → ∀ (H : Heap) (locs : List Loc) (ls : Array Slot), va_P D vwCl [(aM, .inr (6, [.ref aS, .ref aH, .ref aL, .ref aP, .ref aR, .ref aT])), (aS, .inr (3, [.ref aC])), (aC, .inl (cyI, 225, .inl vc)), (aH, .inr (0, [.ref aHs, .int vhf, .int vhl])), (aHs, .inl (cyI, 1575, .inl vhs)), (aL, .inr (4, [.ref aLs, .int vsf])), (aLs, .inl (cyI, 450, .inl vss)), (aP, .inr (1, [.ref aPc, .int vpl])), (aPc, .inl (cyI, 80, .inl vpp)), (aR, .inr (2, [.ref aP, .ref aRn, .int vra, .int vrk, .int vrt])), (aRn, .inl (cyI, 40, .inl vrn)), (aT, .inr (5, [.ref aTp, .int vtl, .int vta, .int vtt])), (aTp, .inl (cyI, 552, .inl vtp))] H → va_D A [(aM, .inr (6, [.ref aS, .ref aH, .ref aL, .ref aP, .ref aR, .ref aT])), (aS, .inr (3, [.ref aC])), (aC, .inl (cyI, 225, .inl vc)), (aH, .inr (0, [.ref aHs, .int vhf, .int vhl])), (aHs, .inl (cyI, 1575, .inl vhs)), (aL, .inr (4, [.ref aLs, .int vsf])), (aLs, .inl (cyI, 450, .inl vss)), (aP, .inr (1, [.ref aPc, .int vpl])), (aPc, .inl (cyI, 80, .inl vpp)), (aR, .inr (2, [.ref aP, .ref aRn, .int vra, .int vrk, .int vrt])), (aRn, .inl (cyI, 40, .inl vrn)), (aT, .inr (5, [.ref aTp, .int vtl, .int vta, .int vtt])), (aTp, .inl (cyI, 552, .inl vtp))] → va_S A s.heap H locs → lv_has ls 5 [(0, .ref aM), (1, .int x1), (2, .int x2), (3, .int x3), (4, .int x4)] → G H locs (F0 m 420 ls [.int t0, .int t1, .ref aM]) := by
    intro x1 x2 x3 x4 t0 t1 vc vhf vhl vhs vsf vss vpl vpp vra vrk vrt vrn vtl vta vtt vtp hF H locs ls hP hD hS hl
    unfold b_L_refusesAny_420 at hF
    refine (hG _ _ _).2 ?_
    obtain ⟨r420, hC, hF⟩ := k_c1_ex hF
    refine x_VR (As := [.int t1, .int t0]) (rest := []) ⟨hx, hb, hml, hown, hts⟩ (c_X6_of l D cyI cyZ aM aS aC aH aL aP aR aT N t1 t0 vc hC) (cwV 2 hts gL_refusesAny_X6_of rfl rfl rfl (by decide +kernel) ⟨Nat.le_of_ble_eq_true rfl, Nat.le_of_ble_eq_true rfl⟩) hK hP hS [0, 1, 2] rfl 0 rfl rfl rfl rfl hl.1 rfl (Nat.le_of_ble_eq_true rfl) ⟨Nat.zero_le _, Nat.zero_le _⟩ dL_refusesAny_420 (fun H locs hP hS => ?_)
    refine lv_bipush (v := (-2 : Int32)) hx hb dL_refusesAny_423 (by decide) ?_
    refine lv_icmp_ne (tgt := 476) hx hb dL_refusesAny_425 (by decide) (fun hc => ?_) (fun hc => ?_)
    · have hF := k_if_f hF hc
      refine lv_iconst (v := (0 : Int32)) hx hb dL_refusesAny_476 (by decide) ?_
      obtain ⟨e0, e1, e2, e3, e4, e5, e6, e7, e8, e9, e10, e11, e12, e13, e14, e15, e16⟩ := k_inj17 hF
      have hP9 : va_P D vwCl [(aM, .inr (6, [.ref aS, .ref aH, .ref aL, .ref aP, .ref aR, .ref aT])), (aS, .inr (3, [.ref aC])), (aC, .inl (cyI, 225, .inl vc')), (aH, .inr (0, [.ref aHs, .int vhf', .int vhl'])), (aHs, .inl (cyI, 1575, .inl vhs')), (aL, .inr (4, [.ref aLs, .int vsf'])), (aLs, .inl (cyI, 450, .inl vss')), (aP, .inr (1, [.ref aPc, .int vpl'])), (aPc, .inl (cyI, 80, .inl vpp')), (aR, .inr (2, [.ref aP, .ref aRn, .int vra', .int vrk', .int vrt'])), (aRn, .inl (cyI, 40, .inl vrn')), (aT, .inr (5, [.ref aTp, .int vtl', .int vta', .int vtt'])), (aTp, .inl (cyI, 552, .inl vtp'))] H := by rw [← e1, ← e2, ← e3, ← e4, ← e5, ← e6, ← e7, ← e8, ← e9, ← e10, ← e11, ← e12, ← e13, ← e14, ← e15, ← e16]; exact hP
      exact W.zret hx hb hr rfl (fun t ht hW => ⟨⟨_, (), rfl, e0, x_ret hP9 ht⟩, hS.F ht⟩) hS.2.2 dL_refusesAny_477
    · have hF := k_if_t hF hc
      refine lv_aload_n hx hb dL_refusesAny_428 rfl (lv_at hl 0 rfl) ?_
      refine lv_iload_n hx hb dL_refusesAny_429 rfl (lv_at hl 2 rfl) ?_
      refine lv_iconst (v := (0 : Int32)) hx hb dL_refusesAny_430 (by decide) ?_
      obtain ⟨r431, hC, hF⟩ := k_c1_ex hF
      refine x_VR (As := [.int x2, .int (0 : Int32)]) (rest := []) ⟨hx, hb, hml, hown, hts⟩ (c_X6_tooth l D cyI cyZ aM aS aC aH aL aP aR aT N x2 (0 : Int32) vc hC) (cwV 2 hts gL_refusesAny_X6_tooth rfl rfl rfl (by decide +kernel) ⟨Nat.le_of_ble_eq_true rfl, Nat.le_of_ble_eq_true rfl⟩) hK hP hS [0, 1, 2] rfl 0 rfl rfl rfl rfl hl.1 rfl (Nat.le_of_ble_eq_true rfl) ⟨Nat.zero_le _, Nat.zero_le _⟩ dL_refusesAny_431 (fun H locs hP hS => ?_)
      refine lv_iconst (v := (-1 : Int32)) hx hb dL_refusesAny_434 (by decide) ?_
      refine lv_icmp_ne (tgt := 476) hx hb dL_refusesAny_435 (by decide) (fun hc => ?_) (fun hc => ?_)
      · have hF := k_if_f hF hc
        refine lv_iconst (v := (0 : Int32)) hx hb dL_refusesAny_476 (by decide) ?_
        obtain ⟨e0, e1, e2, e3, e4, e5, e6, e7, e8, e9, e10, e11, e12, e13, e14, e15, e16⟩ := k_inj17 hF
        have hP9 : va_P D vwCl [(aM, .inr (6, [.ref aS, .ref aH, .ref aL, .ref aP, .ref aR, .ref aT])), (aS, .inr (3, [.ref aC])), (aC, .inl (cyI, 225, .inl vc')), (aH, .inr (0, [.ref aHs, .int vhf', .int vhl'])), (aHs, .inl (cyI, 1575, .inl vhs')), (aL, .inr (4, [.ref aLs, .int vsf'])), (aLs, .inl (cyI, 450, .inl vss')), (aP, .inr (1, [.ref aPc, .int vpl'])), (aPc, .inl (cyI, 80, .inl vpp')), (aR, .inr (2, [.ref aP, .ref aRn, .int vra', .int vrk', .int vrt'])), (aRn, .inl (cyI, 40, .inl vrn')), (aT, .inr (5, [.ref aTp, .int vtl', .int vta', .int vtt'])), (aTp, .inl (cyI, 552, .inl vtp'))] H := by rw [← e1, ← e2, ← e3, ← e4, ← e5, ← e6, ← e7, ← e8, ← e9, ← e10, ← e11, ← e12, ← e13, ← e14, ← e15, ← e16]; exact hP
        exact W.zret hx hb hr rfl (fun t ht hW => ⟨⟨_, (), rfl, e0, x_ret hP9 ht⟩, hS.F ht⟩) hS.2.2 dL_refusesAny_477
      · have hF := k_if_t hF hc
        refine lv_aload_n hx hb dL_refusesAny_438 rfl (lv_at hl 0 rfl) ?_
        refine lv_iconst (v := (0 : Int32)) hx hb dL_refusesAny_439 (by decide) ?_
        refine lv_iload_n hx hb dL_refusesAny_440 rfl (lv_at hl 1 rfl) ?_
        refine lv_if_ne (tgt := 448) hx hb dL_refusesAny_441 (by decide) (fun hc => ?_) (fun hc => ?_)
        · have hF := k_if_f hF hc
          refine lv_bipush (v := (24 : Int32)) hx hb dL_refusesAny_448 (by decide) ?_
          obtain ⟨r450, hC, hF⟩ := k_c1_ex hF
          refine x_VR (As := [.int (0 : Int32), .int (24 : Int32)]) (rest := []) ⟨hx, hb, hml, hown, hts⟩ (c_X6_tooth l D cyI cyZ aM aS aC aH aL aP aR aT N (0 : Int32) (24 : Int32) vc hC) (cwV 2 hts gL_refusesAny_X6_tooth rfl rfl rfl (by decide +kernel) ⟨Nat.le_of_ble_eq_true rfl, Nat.le_of_ble_eq_true rfl⟩) hK hP hS [0, 1, 2] rfl 0 rfl rfl rfl rfl hl.1 rfl (Nat.le_of_ble_eq_true rfl) ⟨Nat.zero_le _, Nat.zero_le _⟩ dL_refusesAny_450 (fun H locs hP hS => ?_)
          refine lv_iconst (v := (-1 : Int32)) hx hb dL_refusesAny_453 (by decide) ?_
          refine lv_icmp_ne (tgt := 476) hx hb dL_refusesAny_454 (by decide) (fun hc => ?_) (fun hc => ?_)
          · have hF := k_if_f hF hc
            refine lv_iconst (v := (0 : Int32)) hx hb dL_refusesAny_476 (by decide) ?_
            obtain ⟨e0, e1, e2, e3, e4, e5, e6, e7, e8, e9, e10, e11, e12, e13, e14, e15, e16⟩ := k_inj17 hF
            have hP9 : va_P D vwCl [(aM, .inr (6, [.ref aS, .ref aH, .ref aL, .ref aP, .ref aR, .ref aT])), (aS, .inr (3, [.ref aC])), (aC, .inl (cyI, 225, .inl vc')), (aH, .inr (0, [.ref aHs, .int vhf', .int vhl'])), (aHs, .inl (cyI, 1575, .inl vhs')), (aL, .inr (4, [.ref aLs, .int vsf'])), (aLs, .inl (cyI, 450, .inl vss')), (aP, .inr (1, [.ref aPc, .int vpl'])), (aPc, .inl (cyI, 80, .inl vpp')), (aR, .inr (2, [.ref aP, .ref aRn, .int vra', .int vrk', .int vrt'])), (aRn, .inl (cyI, 40, .inl vrn')), (aT, .inr (5, [.ref aTp, .int vtl', .int vta', .int vtt'])), (aTp, .inl (cyI, 552, .inl vtp'))] H := by rw [← e1, ← e2, ← e3, ← e4, ← e5, ← e6, ← e7, ← e8, ← e9, ← e10, ← e11, ← e12, ← e13, ← e14, ← e15, ← e16]; exact hP
            exact W.zret hx hb hr rfl (fun t ht hW => ⟨⟨_, (), rfl, e0, x_ret hP9 ht⟩, hS.F ht⟩) hS.2.2 dL_refusesAny_477
          · have hF := k_if_t hF hc
            refine lv_aload_n hx hb dL_refusesAny_457 rfl (lv_at hl 0 rfl) ?_
            refine lv_iload_n hx hb dL_refusesAny_458 rfl (lv_at hl 1 rfl) ?_
            refine lv_if_ne (tgt := 466) hx hb dL_refusesAny_459 (by decide) (fun hc => ?_) (fun hc => ?_)
            · have hF := k_if_f hF hc
              refine lv_bipush (v := (11 : Int32)) hx hb dL_refusesAny_466 (by decide) ?_
              exact (hG _ _ _).1 (blk_468 x1 x2 x3 x4 (11 : Int32) vc vhf vhl vhs vsf vss vpl vpp vra vrk vrt vrn vtl vta vtt vtp hF _ _ _ hP hD hS (lv_sub hl [0, 1, 2, 3, 4] rfl))
            · have hF := k_if_t hF hc
              refine lv_iconst (v := (-1 : Int32)) hx hb dL_refusesAny_462 (by decide) ?_
              refine lv_goto (tgt := 468) hx hb dL_refusesAny_463 (by decide) ?_
              exact (hG _ _ _).1 (blk_468 x1 x2 x3 x4 (-1 : Int32) vc vhf vhl vhs vsf vss vpl vpp vra vrk vrt vrn vtl vta vtt vtp hF _ _ _ hP hD hS (lv_sub hl [0, 1, 2, 3, 4] rfl))
        · have hF := k_if_t hF hc
          refine lv_iconst (v := (-1 : Int32)) hx hb dL_refusesAny_444 (by decide) ?_
          refine lv_goto (tgt := 450) hx hb dL_refusesAny_445 (by decide) ?_
          obtain ⟨r450, hC, hF⟩ := k_c1_ex hF
          refine x_VR (As := [.int (0 : Int32), .int (-1 : Int32)]) (rest := []) ⟨hx, hb, hml, hown, hts⟩ (c_X6_tooth l D cyI cyZ aM aS aC aH aL aP aR aT N (0 : Int32) (-1 : Int32) vc hC) (cwV 2 hts gL_refusesAny_X6_tooth rfl rfl rfl (by decide +kernel) ⟨Nat.le_of_ble_eq_true rfl, Nat.le_of_ble_eq_true rfl⟩) hK hP hS [0, 1, 2] rfl 0 rfl rfl rfl rfl hl.1 rfl (Nat.le_of_ble_eq_true rfl) ⟨Nat.zero_le _, Nat.zero_le _⟩ dL_refusesAny_450 (fun H locs hP hS => ?_)
          refine lv_iconst (v := (-1 : Int32)) hx hb dL_refusesAny_453 (by decide) ?_
          refine lv_icmp_ne (tgt := 476) hx hb dL_refusesAny_454 (by decide) (fun hc => ?_) (fun hc => ?_)
          · have hF := k_if_f hF hc
            refine lv_iconst (v := (0 : Int32)) hx hb dL_refusesAny_476 (by decide) ?_
            obtain ⟨e0, e1, e2, e3, e4, e5, e6, e7, e8, e9, e10, e11, e12, e13, e14, e15, e16⟩ := k_inj17 hF
            have hP9 : va_P D vwCl [(aM, .inr (6, [.ref aS, .ref aH, .ref aL, .ref aP, .ref aR, .ref aT])), (aS, .inr (3, [.ref aC])), (aC, .inl (cyI, 225, .inl vc')), (aH, .inr (0, [.ref aHs, .int vhf', .int vhl'])), (aHs, .inl (cyI, 1575, .inl vhs')), (aL, .inr (4, [.ref aLs, .int vsf'])), (aLs, .inl (cyI, 450, .inl vss')), (aP, .inr (1, [.ref aPc, .int vpl'])), (aPc, .inl (cyI, 80, .inl vpp')), (aR, .inr (2, [.ref aP, .ref aRn, .int vra', .int vrk', .int vrt'])), (aRn, .inl (cyI, 40, .inl vrn')), (aT, .inr (5, [.ref aTp, .int vtl', .int vta', .int vtt'])), (aTp, .inl (cyI, 552, .inl vtp'))] H := by rw [← e1, ← e2, ← e3, ← e4, ← e5, ← e6, ← e7, ← e8, ← e9, ← e10, ← e11, ← e12, ← e13, ← e14, ← e15, ← e16]; exact hP
            exact W.zret hx hb hr rfl (fun t ht hW => ⟨⟨_, (), rfl, e0, x_ret hP9 ht⟩, hS.F ht⟩) hS.2.2 dL_refusesAny_477
          · have hF := k_if_t hF hc
            refine lv_aload_n hx hb dL_refusesAny_457 rfl (lv_at hl 0 rfl) ?_
            refine lv_iload_n hx hb dL_refusesAny_458 rfl (lv_at hl 1 rfl) ?_
            refine lv_if_ne (tgt := 466) hx hb dL_refusesAny_459 (by decide) (fun hc => ?_) (fun hc => ?_)
            · have hF := k_if_f hF hc
              refine lv_bipush (v := (11 : Int32)) hx hb dL_refusesAny_466 (by decide) ?_
              exact (hG _ _ _).1 (blk_468 x1 x2 x3 x4 (11 : Int32) vc vhf vhl vhs vsf vss vpl vpp vra vrk vrt vrn vtl vta vtt vtp hF _ _ _ hP hD hS (lv_sub hl [0, 1, 2, 3, 4] rfl))
            · have hF := k_if_t hF hc
              refine lv_iconst (v := (-1 : Int32)) hx hb dL_refusesAny_462 (by decide) ?_
              refine lv_goto (tgt := 468) hx hb dL_refusesAny_463 (by decide) ?_
              exact (hG _ _ _).1 (blk_468 x1 x2 x3 x4 (-1 : Int32) vc vhf vhl vhs vsf vss vpl vpp vra vrk vrt vrn vtl vta vtt vtp hF _ _ _ hP hD hS (lv_sub hl [0, 1, 2, 3, 4] rfl))
  have blk_373 : ∀ (x1 : Int32) (x2 : Int32) (x3 : Int32) (x4 : Int32) (t0 : Int32) (t1 : Int32) (t2 : Int32) (t3 : Int32) (t4 : Int32) (t5 : Int32) (vc : (Nat → Int32)) (vhf : Int32) (vhl : Int32) (vhs : (Nat → Int32)) (vsf : Int32) (vss : (Nat → Int32)) (vpl : Int32) (vpp : (Nat → Int32)) (vra : Int32) (vrk : Int32) (vrt : Int32) (vrn : (Nat → Int32)) (vtl : Int32) (vta : Int32) (vtt : Int32) (vtp : (Nat → Int32)), b_L_refusesAny_373 N x1 x2 x3 x4 t0 t1 t2 t3 t4 t5 vc vhf vhl vhs vsf vss vpl vpp vra vrk vrt vrn vtl vta vtt vtp = some (r0, vc', vhf', vhl', vhs', vsf', vss', vpl', vpp', vra', vrk', vrt', vrn', vtl', vta', vtt', vtp') → ∀ (H : Heap) (locs : List Loc) (ls : Array Slot), va_P D vwCl [(aM, .inr (6, [.ref aS, .ref aH, .ref aL, .ref aP, .ref aR, .ref aT])), (aS, .inr (3, [.ref aC])), (aC, .inl (cyI, 225, .inl vc)), (aH, .inr (0, [.ref aHs, .int vhf, .int vhl])), (aHs, .inl (cyI, 1575, .inl vhs)), (aL, .inr (4, [.ref aLs, .int vsf])), (aLs, .inl (cyI, 450, .inl vss)), (aP, .inr (1, [.ref aPc, .int vpl])), (aPc, .inl (cyI, 80, .inl vpp)), (aR, .inr (2, [.ref aP, .ref aRn, .int vra, .int vrk, .int vrt])), (aRn, .inl (cyI, 40, .inl vrn)), (aT, .inr (5, [.ref aTp, .int vtl, .int vta, .int vtt])), (aTp, .inl (cyI, 552, .inl vtp))] H → va_D A [(aM, .inr (6, [.ref aS, .ref aH, .ref aL, .ref aP, .ref aR, .ref aT])), (aS, .inr (3, [.ref aC])), (aC, .inl (cyI, 225, .inl vc)), (aH, .inr (0, [.ref aHs, .int vhf, .int vhl])), (aHs, .inl (cyI, 1575, .inl vhs)), (aL, .inr (4, [.ref aLs, .int vsf])), (aLs, .inl (cyI, 450, .inl vss)), (aP, .inr (1, [.ref aPc, .int vpl])), (aPc, .inl (cyI, 80, .inl vpp)), (aR, .inr (2, [.ref aP, .ref aRn, .int vra, .int vrk, .int vrt])), (aRn, .inl (cyI, 40, .inl vrn)), (aT, .inr (5, [.ref aTp, .int vtl, .int vta, .int vtt])), (aTp, .inl (cyI, 552, .inl vtp))] → va_S A s.heap H locs → lv_has ls 5 [(0, .ref aM), (1, .int x1), (2, .int x2), (3, .int x3), (4, .int x4)] → G H locs (F0 m 373 ls [.int t0, .int t1, .int t2, .int t3, .int t4, .int t5, .ref aM]) := by
    intro x1 x2 x3 x4 t0 t1 t2 t3 t4 t5 vc vhf vhl vhs vsf vss vpl vpp vra vrk vrt vrn vtl vta vtt vtp hF H locs ls hP hD hS hl
    unfold b_L_refusesAny_373 at hF
    refine (hG _ _ _).2 ?_
    obtain ⟨r373, vc_373, vhf_373, vhl_373, vhs_373, vtl_373, vta_373, vtt_373, vtp_373, hC, hF⟩ := k_c9_ex hF
    refine x_VM (As := [.int t5, .int t4, .int t3, .int t2, .int t1, .int t0]) (rest := []) ⟨hx, hb, hml, hown, hts⟩ (c_X6_run l D cyI cyZ aM aS aC aH aHs aL aP aR aT aTp H.size N t5 t4 t3 t2 t1 t0 vc vhf vhl vhs vtl vta vtt vtp hC) (cwV 6 hts gL_refusesAny_X6_run rfl rfl rfl (by decide +kernel) ⟨Nat.le_of_ble_eq_true rfl, Nat.le_of_ble_eq_true rfl⟩) hK hP hD hS hA [0, 1, 2, 3, 4, 11, 12] rfl rfl rfl 0 rfl rfl rfl rfl hl.1 rfl (Nat.le_of_ble_eq_true rfl) ⟨Nat.zero_le _, Nat.zero_le _⟩ dL_refusesAny_373 (fun H locs hP hD hS => ?_)
    have hP : va_P D vwCl [(aM, .inr (6, [.ref aS, .ref aH, .ref aL, .ref aP, .ref aR, .ref aT])), (aS, .inr (3, [.ref aC])), (aC, .inl (cyI, 225, .inl vc_373)), (aH, .inr (0, [.ref aHs, .int vhf_373, .int vhl_373])), (aHs, .inl (cyI, 1575, .inl vhs_373)), (aL, .inr (4, [.ref aLs, .int vsf])), (aLs, .inl (cyI, 450, .inl vss)), (aP, .inr (1, [.ref aPc, .int vpl])), (aPc, .inl (cyI, 80, .inl vpp)), (aR, .inr (2, [.ref aP, .ref aRn, .int vra, .int vrk, .int vrt])), (aRn, .inl (cyI, 40, .inl vrn)), (aT, .inr (5, [.ref aTp, .int vtl_373, .int vta_373, .int vtt_373])), (aTp, .inl (cyI, 552, .inl vtp_373))] H := hP
    have hD : va_D A [(aM, .inr (6, [.ref aS, .ref aH, .ref aL, .ref aP, .ref aR, .ref aT])), (aS, .inr (3, [.ref aC])), (aC, .inl (cyI, 225, .inl vc_373)), (aH, .inr (0, [.ref aHs, .int vhf_373, .int vhl_373])), (aHs, .inl (cyI, 1575, .inl vhs_373)), (aL, .inr (4, [.ref aLs, .int vsf])), (aLs, .inl (cyI, 450, .inl vss)), (aP, .inr (1, [.ref aPc, .int vpl])), (aPc, .inl (cyI, 80, .inl vpp)), (aR, .inr (2, [.ref aP, .ref aRn, .int vra, .int vrk, .int vrt])), (aRn, .inl (cyI, 40, .inl vrn)), (aT, .inr (5, [.ref aTp, .int vtl_373, .int vta_373, .int vtt_373])), (aTp, .inl (cyI, 552, .inl vtp_373))] := hD
    refine lv_bipush (v := (-2 : Int32)) hx hb dL_refusesAny_376 (by decide) ?_
    refine lv_icmp_ne (tgt := 476) hx hb dL_refusesAny_378 (by decide) (fun hc => ?_) (fun hc => ?_)
    · have hF := k_if_f hF hc
      refine lv_iconst (v := (0 : Int32)) hx hb dL_refusesAny_476 (by decide) ?_
      obtain ⟨e0, e1, e2, e3, e4, e5, e6, e7, e8, e9, e10, e11, e12, e13, e14, e15, e16⟩ := k_inj17 hF
      have hP9 : va_P D vwCl [(aM, .inr (6, [.ref aS, .ref aH, .ref aL, .ref aP, .ref aR, .ref aT])), (aS, .inr (3, [.ref aC])), (aC, .inl (cyI, 225, .inl vc')), (aH, .inr (0, [.ref aHs, .int vhf', .int vhl'])), (aHs, .inl (cyI, 1575, .inl vhs')), (aL, .inr (4, [.ref aLs, .int vsf'])), (aLs, .inl (cyI, 450, .inl vss')), (aP, .inr (1, [.ref aPc, .int vpl'])), (aPc, .inl (cyI, 80, .inl vpp')), (aR, .inr (2, [.ref aP, .ref aRn, .int vra', .int vrk', .int vrt'])), (aRn, .inl (cyI, 40, .inl vrn')), (aT, .inr (5, [.ref aTp, .int vtl', .int vta', .int vtt'])), (aTp, .inl (cyI, 552, .inl vtp'))] H := by rw [← e1, ← e2, ← e3, ← e4, ← e5, ← e6, ← e7, ← e8, ← e9, ← e10, ← e11, ← e12, ← e13, ← e14, ← e15, ← e16]; exact hP
      exact W.zret hx hb hr rfl (fun t ht hW => ⟨⟨_, (), rfl, e0, x_ret hP9 ht⟩, hS.F ht⟩) hS.2.2 dL_refusesAny_477
    · have hF := k_if_t hF hc
      refine lv_aload_n hx hb dL_refusesAny_381 rfl (lv_at hl 0 rfl) ?_
      refine lv_iconst (v := (1 : Int32)) hx hb dL_refusesAny_382 (by decide) ?_
      refine lv_iconst (v := (1 : Int32)) hx hb dL_refusesAny_383 (by decide) ?_
      refine lv_iconst (v := (0 : Int32)) hx hb dL_refusesAny_384 (by decide) ?_
      refine lv_bipush (v := (30 : Int32)) hx hb dL_refusesAny_385 (by decide) ?_
      refine lv_iconst (v := (1 : Int32)) hx hb dL_refusesAny_387 (by decide) ?_
      refine lv_iconst (v := (1 : Int32)) hx hb dL_refusesAny_388 (by decide) ?_
      obtain ⟨r389, vc_389, vhf_389, vhl_389, vhs_389, vtl_389, vta_389, vtt_389, vtp_389, hC, hF⟩ := k_c9_ex hF
      refine x_VM (As := [.int (1 : Int32), .int (1 : Int32), .int (0 : Int32), .int (30 : Int32), .int (1 : Int32), .int (1 : Int32)]) (rest := []) ⟨hx, hb, hml, hown, hts⟩ (c_X6_run l D cyI cyZ aM aS aC aH aHs aL aP aR aT aTp H.size N (1 : Int32) (1 : Int32) (0 : Int32) (30 : Int32) (1 : Int32) (1 : Int32) vc_373 vhf_373 vhl_373 vhs_373 vtl_373 vta_373 vtt_373 vtp_373 hC) (cwV 6 hts gL_refusesAny_X6_run rfl rfl rfl (by decide +kernel) ⟨Nat.le_of_ble_eq_true rfl, Nat.le_of_ble_eq_true rfl⟩) hK hP hD hS hA [0, 1, 2, 3, 4, 11, 12] rfl rfl rfl 0 rfl rfl rfl rfl hl.1 rfl (Nat.le_of_ble_eq_true rfl) ⟨Nat.zero_le _, Nat.zero_le _⟩ dL_refusesAny_389 (fun H locs hP hD hS => ?_)
      have hP : va_P D vwCl [(aM, .inr (6, [.ref aS, .ref aH, .ref aL, .ref aP, .ref aR, .ref aT])), (aS, .inr (3, [.ref aC])), (aC, .inl (cyI, 225, .inl vc_389)), (aH, .inr (0, [.ref aHs, .int vhf_389, .int vhl_389])), (aHs, .inl (cyI, 1575, .inl vhs_389)), (aL, .inr (4, [.ref aLs, .int vsf])), (aLs, .inl (cyI, 450, .inl vss)), (aP, .inr (1, [.ref aPc, .int vpl])), (aPc, .inl (cyI, 80, .inl vpp)), (aR, .inr (2, [.ref aP, .ref aRn, .int vra, .int vrk, .int vrt])), (aRn, .inl (cyI, 40, .inl vrn)), (aT, .inr (5, [.ref aTp, .int vtl_389, .int vta_389, .int vtt_389])), (aTp, .inl (cyI, 552, .inl vtp_389))] H := hP
      have hD : va_D A [(aM, .inr (6, [.ref aS, .ref aH, .ref aL, .ref aP, .ref aR, .ref aT])), (aS, .inr (3, [.ref aC])), (aC, .inl (cyI, 225, .inl vc_389)), (aH, .inr (0, [.ref aHs, .int vhf_389, .int vhl_389])), (aHs, .inl (cyI, 1575, .inl vhs_389)), (aL, .inr (4, [.ref aLs, .int vsf])), (aLs, .inl (cyI, 450, .inl vss)), (aP, .inr (1, [.ref aPc, .int vpl])), (aPc, .inl (cyI, 80, .inl vpp)), (aR, .inr (2, [.ref aP, .ref aRn, .int vra, .int vrk, .int vrt])), (aRn, .inl (cyI, 40, .inl vrn)), (aT, .inr (5, [.ref aTp, .int vtl_389, .int vta_389, .int vtt_389])), (aTp, .inl (cyI, 552, .inl vtp_389))] := hD
      refine lv_bipush (v := (-2 : Int32)) hx hb dL_refusesAny_392 (by decide) ?_
      refine lv_icmp_ne (tgt := 476) hx hb dL_refusesAny_394 (by decide) (fun hc => ?_) (fun hc => ?_)
      · have hF := k_if_f hF hc
        refine lv_iconst (v := (0 : Int32)) hx hb dL_refusesAny_476 (by decide) ?_
        obtain ⟨e0, e1, e2, e3, e4, e5, e6, e7, e8, e9, e10, e11, e12, e13, e14, e15, e16⟩ := k_inj17 hF
        have hP9 : va_P D vwCl [(aM, .inr (6, [.ref aS, .ref aH, .ref aL, .ref aP, .ref aR, .ref aT])), (aS, .inr (3, [.ref aC])), (aC, .inl (cyI, 225, .inl vc')), (aH, .inr (0, [.ref aHs, .int vhf', .int vhl'])), (aHs, .inl (cyI, 1575, .inl vhs')), (aL, .inr (4, [.ref aLs, .int vsf'])), (aLs, .inl (cyI, 450, .inl vss')), (aP, .inr (1, [.ref aPc, .int vpl'])), (aPc, .inl (cyI, 80, .inl vpp')), (aR, .inr (2, [.ref aP, .ref aRn, .int vra', .int vrk', .int vrt'])), (aRn, .inl (cyI, 40, .inl vrn')), (aT, .inr (5, [.ref aTp, .int vtl', .int vta', .int vtt'])), (aTp, .inl (cyI, 552, .inl vtp'))] H := by rw [← e1, ← e2, ← e3, ← e4, ← e5, ← e6, ← e7, ← e8, ← e9, ← e10, ← e11, ← e12, ← e13, ← e14, ← e15, ← e16]; exact hP
        exact W.zret hx hb hr rfl (fun t ht hW => ⟨⟨_, (), rfl, e0, x_ret hP9 ht⟩, hS.F ht⟩) hS.2.2 dL_refusesAny_477
      · have hF := k_if_t hF hc
        refine lv_aload_n hx hb dL_refusesAny_397 rfl (lv_at hl 0 rfl) ?_
        refine lv_iload_n hx hb dL_refusesAny_398 rfl (lv_at hl 2 rfl) ?_
        refine lv_bipush (v := (9 : Int32)) hx hb dL_refusesAny_399 (by decide) ?_
        obtain ⟨r401, hC, hF⟩ := k_c1_ex hF
        refine x_VR (As := [.int x2, .int (9 : Int32)]) (rest := []) ⟨hx, hb, hml, hown, hts⟩ (c_X6_of l D cyI cyZ aM aS aC aH aL aP aR aT N x2 (9 : Int32) vc_389 hC) (cwV 2 hts gL_refusesAny_X6_of rfl rfl rfl (by decide +kernel) ⟨Nat.le_of_ble_eq_true rfl, Nat.le_of_ble_eq_true rfl⟩) hK hP hS [0, 1, 2] rfl 0 rfl rfl rfl rfl hl.1 rfl (Nat.le_of_ble_eq_true rfl) ⟨Nat.zero_le _, Nat.zero_le _⟩ dL_refusesAny_401 (fun H locs hP hS => ?_)
        refine lv_iconst (v := (-1 : Int32)) hx hb dL_refusesAny_404 (by decide) ?_
        refine lv_icmp_ne (tgt := 476) hx hb dL_refusesAny_405 (by decide) (fun hc => ?_) (fun hc => ?_)
        · have hF := k_if_f hF hc
          refine lv_iconst (v := (0 : Int32)) hx hb dL_refusesAny_476 (by decide) ?_
          obtain ⟨e0, e1, e2, e3, e4, e5, e6, e7, e8, e9, e10, e11, e12, e13, e14, e15, e16⟩ := k_inj17 hF
          have hP9 : va_P D vwCl [(aM, .inr (6, [.ref aS, .ref aH, .ref aL, .ref aP, .ref aR, .ref aT])), (aS, .inr (3, [.ref aC])), (aC, .inl (cyI, 225, .inl vc')), (aH, .inr (0, [.ref aHs, .int vhf', .int vhl'])), (aHs, .inl (cyI, 1575, .inl vhs')), (aL, .inr (4, [.ref aLs, .int vsf'])), (aLs, .inl (cyI, 450, .inl vss')), (aP, .inr (1, [.ref aPc, .int vpl'])), (aPc, .inl (cyI, 80, .inl vpp')), (aR, .inr (2, [.ref aP, .ref aRn, .int vra', .int vrk', .int vrt'])), (aRn, .inl (cyI, 40, .inl vrn')), (aT, .inr (5, [.ref aTp, .int vtl', .int vta', .int vtt'])), (aTp, .inl (cyI, 552, .inl vtp'))] H := by rw [← e1, ← e2, ← e3, ← e4, ← e5, ← e6, ← e7, ← e8, ← e9, ← e10, ← e11, ← e12, ← e13, ← e14, ← e15, ← e16]; exact hP
          exact W.zret hx hb hr rfl (fun t ht hW => ⟨⟨_, (), rfl, e0, x_ret hP9 ht⟩, hS.F ht⟩) hS.2.2 dL_refusesAny_477
        · have hF := k_if_t hF hc
          refine lv_aload_n hx hb dL_refusesAny_408 rfl (lv_at hl 0 rfl) ?_
          refine lv_iconst (v := (0 : Int32)) hx hb dL_refusesAny_409 (by decide) ?_
          refine lv_iload_n hx hb dL_refusesAny_410 rfl (lv_at hl 1 rfl) ?_
          refine lv_if_ne (tgt := 418) hx hb dL_refusesAny_411 (by decide) (fun hc => ?_) (fun hc => ?_)
          · have hF := k_if_f hF hc
            refine lv_bipush (v := (7 : Int32)) hx hb dL_refusesAny_418 (by decide) ?_
            exact (hG _ _ _).1 (blk_420 x1 x2 x3 x4 (7 : Int32) (0 : Int32) vc_389 vhf_389 vhl_389 vhs_389 vsf vss vpl vpp vra vrk vrt vrn vtl_389 vta_389 vtt_389 vtp_389 hF _ _ _ hP hD hS (lv_sub hl [0, 1, 2, 3, 4] rfl))
          · have hF := k_if_t hF hc
            refine lv_iconst (v := (-1 : Int32)) hx hb dL_refusesAny_414 (by decide) ?_
            refine lv_goto (tgt := 420) hx hb dL_refusesAny_415 (by decide) ?_
            exact (hG _ _ _).1 (blk_420 x1 x2 x3 x4 (-1 : Int32) (0 : Int32) vc_389 vhf_389 vhl_389 vhs_389 vsf vss vpl vpp vra vrk vrt vrn vtl_389 vta_389 vtt_389 vtp_389 hF _ _ _ hP hD hS (lv_sub hl [0, 1, 2, 3, 4] rfl))
  have blk_253 : ∀ (x1 : Int32) (x2 : Int32) (x3 : Int32) (x4 : Int32) (t0 : Int32) (t1 : Int32) (vc : (Nat → Int32)) (vhf : Int32) (vhl : Int32) (vhs : (Nat → Int32)) (vsf : Int32) (vss : (Nat → Int32)) (vpl : Int32) (vpp : (Nat → Int32)) (vra : Int32) (vrk : Int32) (vrt : Int32) (vrn : (Nat → Int32)) (vtl : Int32) (vta : Int32) (vtt : Int32) (vtp : (Nat → Int32)), b_L_refusesAny_253 N x1 x2 x3 x4 t0 t1 vc vhf vhl vhs vsf vss vpl vpp vra vrk vrt vrn vtl vta vtt vtp = some (r0, vc', vhf', vhl', vhs', vsf', vss', vpl', vpp', vra', vrk', vrt', vrn', vtl', vta', vtt', vtp') → ∀ (H : Heap) (locs : List Loc) (ls : Array Slot), va_P D vwCl [(aM, .inr (6, [.ref aS, .ref aH, .ref aL, .ref aP, .ref aR, .ref aT])), (aS, .inr (3, [.ref aC])), (aC, .inl (cyI, 225, .inl vc)), (aH, .inr (0, [.ref aHs, .int vhf, .int vhl])), (aHs, .inl (cyI, 1575, .inl vhs)), (aL, .inr (4, [.ref aLs, .int vsf])), (aLs, .inl (cyI, 450, .inl vss)), (aP, .inr (1, [.ref aPc, .int vpl])), (aPc, .inl (cyI, 80, .inl vpp)), (aR, .inr (2, [.ref aP, .ref aRn, .int vra, .int vrk, .int vrt])), (aRn, .inl (cyI, 40, .inl vrn)), (aT, .inr (5, [.ref aTp, .int vtl, .int vta, .int vtt])), (aTp, .inl (cyI, 552, .inl vtp))] H → va_D A [(aM, .inr (6, [.ref aS, .ref aH, .ref aL, .ref aP, .ref aR, .ref aT])), (aS, .inr (3, [.ref aC])), (aC, .inl (cyI, 225, .inl vc)), (aH, .inr (0, [.ref aHs, .int vhf, .int vhl])), (aHs, .inl (cyI, 1575, .inl vhs)), (aL, .inr (4, [.ref aLs, .int vsf])), (aLs, .inl (cyI, 450, .inl vss)), (aP, .inr (1, [.ref aPc, .int vpl])), (aPc, .inl (cyI, 80, .inl vpp)), (aR, .inr (2, [.ref aP, .ref aRn, .int vra, .int vrk, .int vrt])), (aRn, .inl (cyI, 40, .inl vrn)), (aT, .inr (5, [.ref aTp, .int vtl, .int vta, .int vtt])), (aTp, .inl (cyI, 552, .inl vtp))] → va_S A s.heap H locs → lv_has ls 5 [(0, .ref aM), (1, .int x1), (2, .int x2), (3, .int x3), (4, .int x4)] → G H locs (F0 m 253 ls [.int t0, .int t1, .ref aM]) := by
    intro x1 x2 x3 x4 t0 t1 vc vhf vhl vhs vsf vss vpl vpp vra vrk vrt vrn vtl vta vtt vtp hF H locs ls hP hD hS hl
    unfold b_L_refusesAny_253 at hF
    refine (hG _ _ _).2 ?_
    obtain ⟨r253, vc_253, vhf_253, vhl_253, vhs_253, hC, hF⟩ := k_c5_ex hF
    refine x_VM (As := [.int t1, .int t0]) (rest := []) ⟨hx, hb, hml, hown, hts⟩ (c_X6_card l D cyI cyZ aM aS aC aH aHs aL aP aR aT H.size N t1 t0 vc vhf vhl vhs hC) (cwV 2 hts gL_refusesAny_X6_card rfl rfl rfl (by decide +kernel) ⟨Nat.le_of_ble_eq_true rfl, Nat.le_of_ble_eq_true rfl⟩) hK hP hD hS hA [0, 1, 2, 3, 4] rfl rfl rfl 0 rfl rfl rfl rfl hl.1 rfl (Nat.le_of_ble_eq_true rfl) ⟨Nat.zero_le _, Nat.zero_le _⟩ dL_refusesAny_253 (fun H locs hP hD hS => ?_)
    have hP : va_P D vwCl [(aM, .inr (6, [.ref aS, .ref aH, .ref aL, .ref aP, .ref aR, .ref aT])), (aS, .inr (3, [.ref aC])), (aC, .inl (cyI, 225, .inl vc_253)), (aH, .inr (0, [.ref aHs, .int vhf_253, .int vhl_253])), (aHs, .inl (cyI, 1575, .inl vhs_253)), (aL, .inr (4, [.ref aLs, .int vsf])), (aLs, .inl (cyI, 450, .inl vss)), (aP, .inr (1, [.ref aPc, .int vpl])), (aPc, .inl (cyI, 80, .inl vpp)), (aR, .inr (2, [.ref aP, .ref aRn, .int vra, .int vrk, .int vrt])), (aRn, .inl (cyI, 40, .inl vrn)), (aT, .inr (5, [.ref aTp, .int vtl, .int vta, .int vtt])), (aTp, .inl (cyI, 552, .inl vtp))] H := hP
    have hD : va_D A [(aM, .inr (6, [.ref aS, .ref aH, .ref aL, .ref aP, .ref aR, .ref aT])), (aS, .inr (3, [.ref aC])), (aC, .inl (cyI, 225, .inl vc_253)), (aH, .inr (0, [.ref aHs, .int vhf_253, .int vhl_253])), (aHs, .inl (cyI, 1575, .inl vhs_253)), (aL, .inr (4, [.ref aLs, .int vsf])), (aLs, .inl (cyI, 450, .inl vss)), (aP, .inr (1, [.ref aPc, .int vpl])), (aPc, .inl (cyI, 80, .inl vpp)), (aR, .inr (2, [.ref aP, .ref aRn, .int vra, .int vrk, .int vrt])), (aRn, .inl (cyI, 40, .inl vrn)), (aT, .inr (5, [.ref aTp, .int vtl, .int vta, .int vtt])), (aTp, .inl (cyI, 552, .inl vtp))] := hD
    refine lv_bipush (v := (-2 : Int32)) hx hb dL_refusesAny_256 (by decide) ?_
    refine lv_icmp_ne (tgt := 270) hx hb dL_refusesAny_258 (by decide) (fun hc => ?_) (fun hc => ?_)
    · have hF := k_if_f hF hc
      refine lv_iconst (v := (0 : Int32)) hx hb dL_refusesAny_270 (by decide) ?_
      obtain ⟨e0, e1, e2, e3, e4, e5, e6, e7, e8, e9, e10, e11, e12, e13, e14, e15, e16⟩ := k_inj17 hF
      have hP9 : va_P D vwCl [(aM, .inr (6, [.ref aS, .ref aH, .ref aL, .ref aP, .ref aR, .ref aT])), (aS, .inr (3, [.ref aC])), (aC, .inl (cyI, 225, .inl vc')), (aH, .inr (0, [.ref aHs, .int vhf', .int vhl'])), (aHs, .inl (cyI, 1575, .inl vhs')), (aL, .inr (4, [.ref aLs, .int vsf'])), (aLs, .inl (cyI, 450, .inl vss')), (aP, .inr (1, [.ref aPc, .int vpl'])), (aPc, .inl (cyI, 80, .inl vpp')), (aR, .inr (2, [.ref aP, .ref aRn, .int vra', .int vrk', .int vrt'])), (aRn, .inl (cyI, 40, .inl vrn')), (aT, .inr (5, [.ref aTp, .int vtl', .int vta', .int vtt'])), (aTp, .inl (cyI, 552, .inl vtp'))] H := by rw [← e1, ← e2, ← e3, ← e4, ← e5, ← e6, ← e7, ← e8, ← e9, ← e10, ← e11, ← e12, ← e13, ← e14, ← e15, ← e16]; exact hP
      exact W.zret hx hb hr rfl (fun t ht hW => ⟨⟨_, (), rfl, e0, x_ret hP9 ht⟩, hS.F ht⟩) hS.2.2 dL_refusesAny_271
    · have hF := k_if_t hF hc
      refine lv_aload_n hx hb dL_refusesAny_261 rfl (lv_at hl 0 rfl) ?_
      obtain ⟨r262, vc_262, vhf_262, vhl_262, vhs_262, vpl_262, vra_262, vrk_262, vrt_262, vrn_262, vtl_262, vta_262, vtt_262, vtp_262, hC, hF⟩ := k_c14_ex hF
      refine x_VM (As := []) (rest := []) ⟨hx, hb, hml, hown, hts⟩ (c_X6_carryOut l D cyI cyZ aM aS aC aH aHs aL aP aPc aR aRn aT aTp H.size N vc_253 vhf_253 vhl_253 vhs_253 vpl vpp vra vrk vrt vrn vtl vta vtt vtp hC) (cwV 0 hts gL_refusesAny_X6_carryOut rfl rfl rfl (by decide +kernel) ⟨Nat.le_of_ble_eq_true rfl, Nat.le_of_ble_eq_true rfl⟩) hK hP hD hS hA [0, 1, 2, 3, 4, 7, 8, 9, 10, 11, 12] rfl rfl rfl 0 rfl rfl rfl rfl hl.1 rfl (Nat.le_of_ble_eq_true rfl) ⟨Nat.zero_le _, Nat.zero_le _⟩ dL_refusesAny_262 (fun H locs hP hD hS => ?_)
      have hP : va_P D vwCl [(aM, .inr (6, [.ref aS, .ref aH, .ref aL, .ref aP, .ref aR, .ref aT])), (aS, .inr (3, [.ref aC])), (aC, .inl (cyI, 225, .inl vc_262)), (aH, .inr (0, [.ref aHs, .int vhf_262, .int vhl_262])), (aHs, .inl (cyI, 1575, .inl vhs_262)), (aL, .inr (4, [.ref aLs, .int vsf])), (aLs, .inl (cyI, 450, .inl vss)), (aP, .inr (1, [.ref aPc, .int vpl_262])), (aPc, .inl (cyI, 80, .inl vpp)), (aR, .inr (2, [.ref aP, .ref aRn, .int vra_262, .int vrk_262, .int vrt_262])), (aRn, .inl (cyI, 40, .inl vrn_262)), (aT, .inr (5, [.ref aTp, .int vtl_262, .int vta_262, .int vtt_262])), (aTp, .inl (cyI, 552, .inl vtp_262))] H := hP
      have hD : va_D A [(aM, .inr (6, [.ref aS, .ref aH, .ref aL, .ref aP, .ref aR, .ref aT])), (aS, .inr (3, [.ref aC])), (aC, .inl (cyI, 225, .inl vc_262)), (aH, .inr (0, [.ref aHs, .int vhf_262, .int vhl_262])), (aHs, .inl (cyI, 1575, .inl vhs_262)), (aL, .inr (4, [.ref aLs, .int vsf])), (aLs, .inl (cyI, 450, .inl vss)), (aP, .inr (1, [.ref aPc, .int vpl_262])), (aPc, .inl (cyI, 80, .inl vpp)), (aR, .inr (2, [.ref aP, .ref aRn, .int vra_262, .int vrk_262, .int vrt_262])), (aRn, .inl (cyI, 40, .inl vrn_262)), (aT, .inr (5, [.ref aTp, .int vtl_262, .int vta_262, .int vtt_262])), (aTp, .inl (cyI, 552, .inl vtp_262))] := hD
      refine lv_bipush (v := (-3 : Int32)) hx hb dL_refusesAny_265 (by decide) ?_
      refine lv_icmp_eq (tgt := 272) hx hb dL_refusesAny_267 (by decide) (fun hc => ?_) (fun hc => ?_)
      · have hF := k_if_t hF hc
        refine lv_aload_n hx hb dL_refusesAny_272 rfl (lv_at hl 0 rfl) ?_
        refine lv_iload_n hx hb dL_refusesAny_273 rfl (lv_at hl 2 rfl) ?_
        refine lv_iconst (v := (0 : Int32)) hx hb dL_refusesAny_274 (by decide) ?_
        refine lv_bipush (v := (24 : Int32)) hx hb dL_refusesAny_275 (by decide) ?_
        refine lv_iconst (v := (0 : Int32)) hx hb dL_refusesAny_277 (by decide) ?_
        refine lv_iconst (v := (1 : Int32)) hx hb dL_refusesAny_278 (by decide) ?_
        refine lv_iconst (v := (1 : Int32)) hx hb dL_refusesAny_279 (by decide) ?_
        obtain ⟨r280, vc_280, vhf_280, vhl_280, vhs_280, vtl_280, vta_280, vtt_280, vtp_280, hC, hF⟩ := k_c9_ex hF
        refine x_VM (As := [.int x2, .int (0 : Int32), .int (24 : Int32), .int (0 : Int32), .int (1 : Int32), .int (1 : Int32)]) (rest := []) ⟨hx, hb, hml, hown, hts⟩ (c_X6_run l D cyI cyZ aM aS aC aH aHs aL aP aR aT aTp H.size N x2 (0 : Int32) (24 : Int32) (0 : Int32) (1 : Int32) (1 : Int32) vc_262 vhf_262 vhl_262 vhs_262 vtl_262 vta_262 vtt_262 vtp_262 hC) (cwV 6 hts gL_refusesAny_X6_run rfl rfl rfl (by decide +kernel) ⟨Nat.le_of_ble_eq_true rfl, Nat.le_of_ble_eq_true rfl⟩) hK hP hD hS hA [0, 1, 2, 3, 4, 11, 12] rfl rfl rfl 0 rfl rfl rfl rfl hl.1 rfl (Nat.le_of_ble_eq_true rfl) ⟨Nat.zero_le _, Nat.zero_le _⟩ dL_refusesAny_280 (fun H locs hP hD hS => ?_)
        have hP : va_P D vwCl [(aM, .inr (6, [.ref aS, .ref aH, .ref aL, .ref aP, .ref aR, .ref aT])), (aS, .inr (3, [.ref aC])), (aC, .inl (cyI, 225, .inl vc_280)), (aH, .inr (0, [.ref aHs, .int vhf_280, .int vhl_280])), (aHs, .inl (cyI, 1575, .inl vhs_280)), (aL, .inr (4, [.ref aLs, .int vsf])), (aLs, .inl (cyI, 450, .inl vss)), (aP, .inr (1, [.ref aPc, .int vpl_262])), (aPc, .inl (cyI, 80, .inl vpp)), (aR, .inr (2, [.ref aP, .ref aRn, .int vra_262, .int vrk_262, .int vrt_262])), (aRn, .inl (cyI, 40, .inl vrn_262)), (aT, .inr (5, [.ref aTp, .int vtl_280, .int vta_280, .int vtt_280])), (aTp, .inl (cyI, 552, .inl vtp_280))] H := hP
        have hD : va_D A [(aM, .inr (6, [.ref aS, .ref aH, .ref aL, .ref aP, .ref aR, .ref aT])), (aS, .inr (3, [.ref aC])), (aC, .inl (cyI, 225, .inl vc_280)), (aH, .inr (0, [.ref aHs, .int vhf_280, .int vhl_280])), (aHs, .inl (cyI, 1575, .inl vhs_280)), (aL, .inr (4, [.ref aLs, .int vsf])), (aLs, .inl (cyI, 450, .inl vss)), (aP, .inr (1, [.ref aPc, .int vpl_262])), (aPc, .inl (cyI, 80, .inl vpp)), (aR, .inr (2, [.ref aP, .ref aRn, .int vra_262, .int vrk_262, .int vrt_262])), (aRn, .inl (cyI, 40, .inl vrn_262)), (aT, .inr (5, [.ref aTp, .int vtl_280, .int vta_280, .int vtt_280])), (aTp, .inl (cyI, 552, .inl vtp_280))] := hD
        refine lv_iconst (v := (-1 : Int32)) hx hb dL_refusesAny_283 (by decide) ?_
        refine lv_icmp_ne (tgt := 476) hx hb dL_refusesAny_284 (by decide) (fun hc => ?_) (fun hc => ?_)
        · have hF := k_if_f hF hc
          refine lv_iconst (v := (0 : Int32)) hx hb dL_refusesAny_476 (by decide) ?_
          obtain ⟨e0, e1, e2, e3, e4, e5, e6, e7, e8, e9, e10, e11, e12, e13, e14, e15, e16⟩ := k_inj17 hF
          have hP9 : va_P D vwCl [(aM, .inr (6, [.ref aS, .ref aH, .ref aL, .ref aP, .ref aR, .ref aT])), (aS, .inr (3, [.ref aC])), (aC, .inl (cyI, 225, .inl vc')), (aH, .inr (0, [.ref aHs, .int vhf', .int vhl'])), (aHs, .inl (cyI, 1575, .inl vhs')), (aL, .inr (4, [.ref aLs, .int vsf'])), (aLs, .inl (cyI, 450, .inl vss')), (aP, .inr (1, [.ref aPc, .int vpl'])), (aPc, .inl (cyI, 80, .inl vpp')), (aR, .inr (2, [.ref aP, .ref aRn, .int vra', .int vrk', .int vrt'])), (aRn, .inl (cyI, 40, .inl vrn')), (aT, .inr (5, [.ref aTp, .int vtl', .int vta', .int vtt'])), (aTp, .inl (cyI, 552, .inl vtp'))] H := by rw [← e1, ← e2, ← e3, ← e4, ← e5, ← e6, ← e7, ← e8, ← e9, ← e10, ← e11, ← e12, ← e13, ← e14, ← e15, ← e16]; exact hP
          exact W.zret hx hb hr rfl (fun t ht hW => ⟨⟨_, (), rfl, e0, x_ret hP9 ht⟩, hS.F ht⟩) hS.2.2 dL_refusesAny_477
        · have hF := k_if_t hF hc
          refine lv_aload_n hx hb dL_refusesAny_287 rfl (lv_at hl 0 rfl) ?_
          refine lv_iconst (v := (0 : Int32)) hx hb dL_refusesAny_288 (by decide) ?_
          refine lv_iload_n hx hb dL_refusesAny_289 rfl (lv_at hl 2 rfl) ?_
          refine lv_bipush (v := (24 : Int32)) hx hb dL_refusesAny_290 (by decide) ?_
          refine lv_iconst (v := (0 : Int32)) hx hb dL_refusesAny_292 (by decide) ?_
          refine lv_iconst (v := (1 : Int32)) hx hb dL_refusesAny_293 (by decide) ?_
          refine lv_iconst (v := (1 : Int32)) hx hb dL_refusesAny_294 (by decide) ?_
          obtain ⟨r295, vc_295, vhf_295, vhl_295, vhs_295, vtl_295, vta_295, vtt_295, vtp_295, hC, hF⟩ := k_c9_ex hF
          refine x_VM (As := [.int (0 : Int32), .int x2, .int (24 : Int32), .int (0 : Int32), .int (1 : Int32), .int (1 : Int32)]) (rest := []) ⟨hx, hb, hml, hown, hts⟩ (c_X6_run l D cyI cyZ aM aS aC aH aHs aL aP aR aT aTp H.size N (0 : Int32) x2 (24 : Int32) (0 : Int32) (1 : Int32) (1 : Int32) vc_280 vhf_280 vhl_280 vhs_280 vtl_280 vta_280 vtt_280 vtp_280 hC) (cwV 6 hts gL_refusesAny_X6_run rfl rfl rfl (by decide +kernel) ⟨Nat.le_of_ble_eq_true rfl, Nat.le_of_ble_eq_true rfl⟩) hK hP hD hS hA [0, 1, 2, 3, 4, 11, 12] rfl rfl rfl 0 rfl rfl rfl rfl hl.1 rfl (Nat.le_of_ble_eq_true rfl) ⟨Nat.zero_le _, Nat.zero_le _⟩ dL_refusesAny_295 (fun H locs hP hD hS => ?_)
          have hP : va_P D vwCl [(aM, .inr (6, [.ref aS, .ref aH, .ref aL, .ref aP, .ref aR, .ref aT])), (aS, .inr (3, [.ref aC])), (aC, .inl (cyI, 225, .inl vc_295)), (aH, .inr (0, [.ref aHs, .int vhf_295, .int vhl_295])), (aHs, .inl (cyI, 1575, .inl vhs_295)), (aL, .inr (4, [.ref aLs, .int vsf])), (aLs, .inl (cyI, 450, .inl vss)), (aP, .inr (1, [.ref aPc, .int vpl_262])), (aPc, .inl (cyI, 80, .inl vpp)), (aR, .inr (2, [.ref aP, .ref aRn, .int vra_262, .int vrk_262, .int vrt_262])), (aRn, .inl (cyI, 40, .inl vrn_262)), (aT, .inr (5, [.ref aTp, .int vtl_295, .int vta_295, .int vtt_295])), (aTp, .inl (cyI, 552, .inl vtp_295))] H := hP
          have hD : va_D A [(aM, .inr (6, [.ref aS, .ref aH, .ref aL, .ref aP, .ref aR, .ref aT])), (aS, .inr (3, [.ref aC])), (aC, .inl (cyI, 225, .inl vc_295)), (aH, .inr (0, [.ref aHs, .int vhf_295, .int vhl_295])), (aHs, .inl (cyI, 1575, .inl vhs_295)), (aL, .inr (4, [.ref aLs, .int vsf])), (aLs, .inl (cyI, 450, .inl vss)), (aP, .inr (1, [.ref aPc, .int vpl_262])), (aPc, .inl (cyI, 80, .inl vpp)), (aR, .inr (2, [.ref aP, .ref aRn, .int vra_262, .int vrk_262, .int vrt_262])), (aRn, .inl (cyI, 40, .inl vrn_262)), (aT, .inr (5, [.ref aTp, .int vtl_295, .int vta_295, .int vtt_295])), (aTp, .inl (cyI, 552, .inl vtp_295))] := hD
          refine lv_iconst (v := (-1 : Int32)) hx hb dL_refusesAny_298 (by decide) ?_
          refine lv_icmp_ne (tgt := 476) hx hb dL_refusesAny_299 (by decide) (fun hc => ?_) (fun hc => ?_)
          · have hF := k_if_f hF hc
            refine lv_iconst (v := (0 : Int32)) hx hb dL_refusesAny_476 (by decide) ?_
            obtain ⟨e0, e1, e2, e3, e4, e5, e6, e7, e8, e9, e10, e11, e12, e13, e14, e15, e16⟩ := k_inj17 hF
            have hP9 : va_P D vwCl [(aM, .inr (6, [.ref aS, .ref aH, .ref aL, .ref aP, .ref aR, .ref aT])), (aS, .inr (3, [.ref aC])), (aC, .inl (cyI, 225, .inl vc')), (aH, .inr (0, [.ref aHs, .int vhf', .int vhl'])), (aHs, .inl (cyI, 1575, .inl vhs')), (aL, .inr (4, [.ref aLs, .int vsf'])), (aLs, .inl (cyI, 450, .inl vss')), (aP, .inr (1, [.ref aPc, .int vpl'])), (aPc, .inl (cyI, 80, .inl vpp')), (aR, .inr (2, [.ref aP, .ref aRn, .int vra', .int vrk', .int vrt'])), (aRn, .inl (cyI, 40, .inl vrn')), (aT, .inr (5, [.ref aTp, .int vtl', .int vta', .int vtt'])), (aTp, .inl (cyI, 552, .inl vtp'))] H := by rw [← e1, ← e2, ← e3, ← e4, ← e5, ← e6, ← e7, ← e8, ← e9, ← e10, ← e11, ← e12, ← e13, ← e14, ← e15, ← e16]; exact hP
            exact W.zret hx hb hr rfl (fun t ht hW => ⟨⟨_, (), rfl, e0, x_ret hP9 ht⟩, hS.F ht⟩) hS.2.2 dL_refusesAny_477
          · have hF := k_if_t hF hc
            refine lv_aload_n hx hb dL_refusesAny_302 rfl (lv_at hl 0 rfl) ?_
            refine lv_iconst (v := (0 : Int32)) hx hb dL_refusesAny_303 (by decide) ?_
            refine lv_iconst (v := (1 : Int32)) hx hb dL_refusesAny_304 (by decide) ?_
            refine lv_iload_n hx hb dL_refusesAny_305 rfl (lv_at hl 3 rfl) ?_
            refine lv_iconst (v := (0 : Int32)) hx hb dL_refusesAny_306 (by decide) ?_
            refine lv_iconst (v := (1 : Int32)) hx hb dL_refusesAny_307 (by decide) ?_
            refine lv_iconst (v := (1 : Int32)) hx hb dL_refusesAny_308 (by decide) ?_
            obtain ⟨r309, vc_309, vhf_309, vhl_309, vhs_309, vtl_309, vta_309, vtt_309, vtp_309, hC, hF⟩ := k_c9_ex hF
            refine x_VM (As := [.int (0 : Int32), .int (1 : Int32), .int x3, .int (0 : Int32), .int (1 : Int32), .int (1 : Int32)]) (rest := []) ⟨hx, hb, hml, hown, hts⟩ (c_X6_run l D cyI cyZ aM aS aC aH aHs aL aP aR aT aTp H.size N (0 : Int32) (1 : Int32) x3 (0 : Int32) (1 : Int32) (1 : Int32) vc_295 vhf_295 vhl_295 vhs_295 vtl_295 vta_295 vtt_295 vtp_295 hC) (cwV 6 hts gL_refusesAny_X6_run rfl rfl rfl (by decide +kernel) ⟨Nat.le_of_ble_eq_true rfl, Nat.le_of_ble_eq_true rfl⟩) hK hP hD hS hA [0, 1, 2, 3, 4, 11, 12] rfl rfl rfl 0 rfl rfl rfl rfl hl.1 rfl (Nat.le_of_ble_eq_true rfl) ⟨Nat.zero_le _, Nat.zero_le _⟩ dL_refusesAny_309 (fun H locs hP hD hS => ?_)
            have hP : va_P D vwCl [(aM, .inr (6, [.ref aS, .ref aH, .ref aL, .ref aP, .ref aR, .ref aT])), (aS, .inr (3, [.ref aC])), (aC, .inl (cyI, 225, .inl vc_309)), (aH, .inr (0, [.ref aHs, .int vhf_309, .int vhl_309])), (aHs, .inl (cyI, 1575, .inl vhs_309)), (aL, .inr (4, [.ref aLs, .int vsf])), (aLs, .inl (cyI, 450, .inl vss)), (aP, .inr (1, [.ref aPc, .int vpl_262])), (aPc, .inl (cyI, 80, .inl vpp)), (aR, .inr (2, [.ref aP, .ref aRn, .int vra_262, .int vrk_262, .int vrt_262])), (aRn, .inl (cyI, 40, .inl vrn_262)), (aT, .inr (5, [.ref aTp, .int vtl_309, .int vta_309, .int vtt_309])), (aTp, .inl (cyI, 552, .inl vtp_309))] H := hP
            have hD : va_D A [(aM, .inr (6, [.ref aS, .ref aH, .ref aL, .ref aP, .ref aR, .ref aT])), (aS, .inr (3, [.ref aC])), (aC, .inl (cyI, 225, .inl vc_309)), (aH, .inr (0, [.ref aHs, .int vhf_309, .int vhl_309])), (aHs, .inl (cyI, 1575, .inl vhs_309)), (aL, .inr (4, [.ref aLs, .int vsf])), (aLs, .inl (cyI, 450, .inl vss)), (aP, .inr (1, [.ref aPc, .int vpl_262])), (aPc, .inl (cyI, 80, .inl vpp)), (aR, .inr (2, [.ref aP, .ref aRn, .int vra_262, .int vrk_262, .int vrt_262])), (aRn, .inl (cyI, 40, .inl vrn_262)), (aT, .inr (5, [.ref aTp, .int vtl_309, .int vta_309, .int vtt_309])), (aTp, .inl (cyI, 552, .inl vtp_309))] := hD
            refine lv_bipush (v := (-2 : Int32)) hx hb dL_refusesAny_312 (by decide) ?_
            refine lv_icmp_ne (tgt := 476) hx hb dL_refusesAny_314 (by decide) (fun hc => ?_) (fun hc => ?_)
            · have hF := k_if_f hF hc
              refine lv_iconst (v := (0 : Int32)) hx hb dL_refusesAny_476 (by decide) ?_
              obtain ⟨e0, e1, e2, e3, e4, e5, e6, e7, e8, e9, e10, e11, e12, e13, e14, e15, e16⟩ := k_inj17 hF
              have hP9 : va_P D vwCl [(aM, .inr (6, [.ref aS, .ref aH, .ref aL, .ref aP, .ref aR, .ref aT])), (aS, .inr (3, [.ref aC])), (aC, .inl (cyI, 225, .inl vc')), (aH, .inr (0, [.ref aHs, .int vhf', .int vhl'])), (aHs, .inl (cyI, 1575, .inl vhs')), (aL, .inr (4, [.ref aLs, .int vsf'])), (aLs, .inl (cyI, 450, .inl vss')), (aP, .inr (1, [.ref aPc, .int vpl'])), (aPc, .inl (cyI, 80, .inl vpp')), (aR, .inr (2, [.ref aP, .ref aRn, .int vra', .int vrk', .int vrt'])), (aRn, .inl (cyI, 40, .inl vrn')), (aT, .inr (5, [.ref aTp, .int vtl', .int vta', .int vtt'])), (aTp, .inl (cyI, 552, .inl vtp'))] H := by rw [← e1, ← e2, ← e3, ← e4, ← e5, ← e6, ← e7, ← e8, ← e9, ← e10, ← e11, ← e12, ← e13, ← e14, ← e15, ← e16]; exact hP
              exact W.zret hx hb hr rfl (fun t ht hW => ⟨⟨_, (), rfl, e0, x_ret hP9 ht⟩, hS.F ht⟩) hS.2.2 dL_refusesAny_477
            · have hF := k_if_t hF hc
              refine lv_aload_n hx hb dL_refusesAny_317 rfl (lv_at hl 0 rfl) ?_
              refine lv_iconst (v := (0 : Int32)) hx hb dL_refusesAny_318 (by decide) ?_
              refine lv_iconst (v := (1 : Int32)) hx hb dL_refusesAny_319 (by decide) ?_
              refine lv_iconst (v := (0 : Int32)) hx hb dL_refusesAny_320 (by decide) ?_
              refine lv_iload hx hb dL_refusesAny_321 (lv_at hl 4 rfl) ?_
              refine lv_iconst (v := (1 : Int32)) hx hb dL_refusesAny_323 (by decide) ?_
              refine lv_iconst (v := (1 : Int32)) hx hb dL_refusesAny_324 (by decide) ?_
              obtain ⟨r325, vc_325, vhf_325, vhl_325, vhs_325, vtl_325, vta_325, vtt_325, vtp_325, hC, hF⟩ := k_c9_ex hF
              refine x_VM (As := [.int (0 : Int32), .int (1 : Int32), .int (0 : Int32), .int x4, .int (1 : Int32), .int (1 : Int32)]) (rest := []) ⟨hx, hb, hml, hown, hts⟩ (c_X6_run l D cyI cyZ aM aS aC aH aHs aL aP aR aT aTp H.size N (0 : Int32) (1 : Int32) (0 : Int32) x4 (1 : Int32) (1 : Int32) vc_309 vhf_309 vhl_309 vhs_309 vtl_309 vta_309 vtt_309 vtp_309 hC) (cwV 6 hts gL_refusesAny_X6_run rfl rfl rfl (by decide +kernel) ⟨Nat.le_of_ble_eq_true rfl, Nat.le_of_ble_eq_true rfl⟩) hK hP hD hS hA [0, 1, 2, 3, 4, 11, 12] rfl rfl rfl 0 rfl rfl rfl rfl hl.1 rfl (Nat.le_of_ble_eq_true rfl) ⟨Nat.zero_le _, Nat.zero_le _⟩ dL_refusesAny_325 (fun H locs hP hD hS => ?_)
              have hP : va_P D vwCl [(aM, .inr (6, [.ref aS, .ref aH, .ref aL, .ref aP, .ref aR, .ref aT])), (aS, .inr (3, [.ref aC])), (aC, .inl (cyI, 225, .inl vc_325)), (aH, .inr (0, [.ref aHs, .int vhf_325, .int vhl_325])), (aHs, .inl (cyI, 1575, .inl vhs_325)), (aL, .inr (4, [.ref aLs, .int vsf])), (aLs, .inl (cyI, 450, .inl vss)), (aP, .inr (1, [.ref aPc, .int vpl_262])), (aPc, .inl (cyI, 80, .inl vpp)), (aR, .inr (2, [.ref aP, .ref aRn, .int vra_262, .int vrk_262, .int vrt_262])), (aRn, .inl (cyI, 40, .inl vrn_262)), (aT, .inr (5, [.ref aTp, .int vtl_325, .int vta_325, .int vtt_325])), (aTp, .inl (cyI, 552, .inl vtp_325))] H := hP
              have hD : va_D A [(aM, .inr (6, [.ref aS, .ref aH, .ref aL, .ref aP, .ref aR, .ref aT])), (aS, .inr (3, [.ref aC])), (aC, .inl (cyI, 225, .inl vc_325)), (aH, .inr (0, [.ref aHs, .int vhf_325, .int vhl_325])), (aHs, .inl (cyI, 1575, .inl vhs_325)), (aL, .inr (4, [.ref aLs, .int vsf])), (aLs, .inl (cyI, 450, .inl vss)), (aP, .inr (1, [.ref aPc, .int vpl_262])), (aPc, .inl (cyI, 80, .inl vpp)), (aR, .inr (2, [.ref aP, .ref aRn, .int vra_262, .int vrk_262, .int vrt_262])), (aRn, .inl (cyI, 40, .inl vrn_262)), (aT, .inr (5, [.ref aTp, .int vtl_325, .int vta_325, .int vtt_325])), (aTp, .inl (cyI, 552, .inl vtp_325))] := hD
              refine lv_bipush (v := (-2 : Int32)) hx hb dL_refusesAny_328 (by decide) ?_
              refine lv_icmp_ne (tgt := 476) hx hb dL_refusesAny_330 (by decide) (fun hc => ?_) (fun hc => ?_)
              · have hF := k_if_f hF hc
                refine lv_iconst (v := (0 : Int32)) hx hb dL_refusesAny_476 (by decide) ?_
                obtain ⟨e0, e1, e2, e3, e4, e5, e6, e7, e8, e9, e10, e11, e12, e13, e14, e15, e16⟩ := k_inj17 hF
                have hP9 : va_P D vwCl [(aM, .inr (6, [.ref aS, .ref aH, .ref aL, .ref aP, .ref aR, .ref aT])), (aS, .inr (3, [.ref aC])), (aC, .inl (cyI, 225, .inl vc')), (aH, .inr (0, [.ref aHs, .int vhf', .int vhl'])), (aHs, .inl (cyI, 1575, .inl vhs')), (aL, .inr (4, [.ref aLs, .int vsf'])), (aLs, .inl (cyI, 450, .inl vss')), (aP, .inr (1, [.ref aPc, .int vpl'])), (aPc, .inl (cyI, 80, .inl vpp')), (aR, .inr (2, [.ref aP, .ref aRn, .int vra', .int vrk', .int vrt'])), (aRn, .inl (cyI, 40, .inl vrn')), (aT, .inr (5, [.ref aTp, .int vtl', .int vta', .int vtt'])), (aTp, .inl (cyI, 552, .inl vtp'))] H := by rw [← e1, ← e2, ← e3, ← e4, ← e5, ← e6, ← e7, ← e8, ← e9, ← e10, ← e11, ← e12, ← e13, ← e14, ← e15, ← e16]; exact hP
                exact W.zret hx hb hr rfl (fun t ht hW => ⟨⟨_, (), rfl, e0, x_ret hP9 ht⟩, hS.F ht⟩) hS.2.2 dL_refusesAny_477
              · have hF := k_if_t hF hc
                refine lv_aload_n hx hb dL_refusesAny_333 rfl (lv_at hl 0 rfl) ?_
                refine lv_iconst (v := (0 : Int32)) hx hb dL_refusesAny_334 (by decide) ?_
                refine lv_iconst (v := (1 : Int32)) hx hb dL_refusesAny_335 (by decide) ?_
                refine lv_iconst (v := (0 : Int32)) hx hb dL_refusesAny_336 (by decide) ?_
                refine lv_iconst (v := (0 : Int32)) hx hb dL_refusesAny_337 (by decide) ?_
                refine lv_iload_n hx hb dL_refusesAny_338 rfl (lv_at hl 1 rfl) ?_
                refine lv_if_ne (tgt := 346) hx hb dL_refusesAny_339 (by decide) (fun hc => ?_) (fun hc => ?_)
                · have hF := k_if_f hF hc
                  refine lv_bipush (v := (100 : Int32)) hx hb dL_refusesAny_346 (by decide) ?_
                  refine lv_iconst (v := (1 : Int32)) hx hb dL_refusesAny_348 (by decide) ?_
                  obtain ⟨r349, vc_349, vhf_349, vhl_349, vhs_349, vtl_349, vta_349, vtt_349, vtp_349, hC, hF⟩ := k_c9_ex hF
                  refine x_VM (As := [.int (0 : Int32), .int (1 : Int32), .int (0 : Int32), .int (0 : Int32), .int (100 : Int32), .int (1 : Int32)]) (rest := []) ⟨hx, hb, hml, hown, hts⟩ (c_X6_run l D cyI cyZ aM aS aC aH aHs aL aP aR aT aTp H.size N (0 : Int32) (1 : Int32) (0 : Int32) (0 : Int32) (100 : Int32) (1 : Int32) vc_325 vhf_325 vhl_325 vhs_325 vtl_325 vta_325 vtt_325 vtp_325 hC) (cwV 6 hts gL_refusesAny_X6_run rfl rfl rfl (by decide +kernel) ⟨Nat.le_of_ble_eq_true rfl, Nat.le_of_ble_eq_true rfl⟩) hK hP hD hS hA [0, 1, 2, 3, 4, 11, 12] rfl rfl rfl 0 rfl rfl rfl rfl hl.1 rfl (Nat.le_of_ble_eq_true rfl) ⟨Nat.zero_le _, Nat.zero_le _⟩ dL_refusesAny_349 (fun H locs hP hD hS => ?_)
                  have hP : va_P D vwCl [(aM, .inr (6, [.ref aS, .ref aH, .ref aL, .ref aP, .ref aR, .ref aT])), (aS, .inr (3, [.ref aC])), (aC, .inl (cyI, 225, .inl vc_349)), (aH, .inr (0, [.ref aHs, .int vhf_349, .int vhl_349])), (aHs, .inl (cyI, 1575, .inl vhs_349)), (aL, .inr (4, [.ref aLs, .int vsf])), (aLs, .inl (cyI, 450, .inl vss)), (aP, .inr (1, [.ref aPc, .int vpl_262])), (aPc, .inl (cyI, 80, .inl vpp)), (aR, .inr (2, [.ref aP, .ref aRn, .int vra_262, .int vrk_262, .int vrt_262])), (aRn, .inl (cyI, 40, .inl vrn_262)), (aT, .inr (5, [.ref aTp, .int vtl_349, .int vta_349, .int vtt_349])), (aTp, .inl (cyI, 552, .inl vtp_349))] H := hP
                  have hD : va_D A [(aM, .inr (6, [.ref aS, .ref aH, .ref aL, .ref aP, .ref aR, .ref aT])), (aS, .inr (3, [.ref aC])), (aC, .inl (cyI, 225, .inl vc_349)), (aH, .inr (0, [.ref aHs, .int vhf_349, .int vhl_349])), (aHs, .inl (cyI, 1575, .inl vhs_349)), (aL, .inr (4, [.ref aLs, .int vsf])), (aLs, .inl (cyI, 450, .inl vss)), (aP, .inr (1, [.ref aPc, .int vpl_262])), (aPc, .inl (cyI, 80, .inl vpp)), (aR, .inr (2, [.ref aP, .ref aRn, .int vra_262, .int vrk_262, .int vrt_262])), (aRn, .inl (cyI, 40, .inl vrn_262)), (aT, .inr (5, [.ref aTp, .int vtl_349, .int vta_349, .int vtt_349])), (aTp, .inl (cyI, 552, .inl vtp_349))] := hD
                  refine lv_bipush (v := (-2 : Int32)) hx hb dL_refusesAny_352 (by decide) ?_
                  refine lv_icmp_ne (tgt := 476) hx hb dL_refusesAny_354 (by decide) (fun hc => ?_) (fun hc => ?_)
                  · have hF := k_if_f hF hc
                    refine lv_iconst (v := (0 : Int32)) hx hb dL_refusesAny_476 (by decide) ?_
                    obtain ⟨e0, e1, e2, e3, e4, e5, e6, e7, e8, e9, e10, e11, e12, e13, e14, e15, e16⟩ := k_inj17 hF
                    have hP9 : va_P D vwCl [(aM, .inr (6, [.ref aS, .ref aH, .ref aL, .ref aP, .ref aR, .ref aT])), (aS, .inr (3, [.ref aC])), (aC, .inl (cyI, 225, .inl vc')), (aH, .inr (0, [.ref aHs, .int vhf', .int vhl'])), (aHs, .inl (cyI, 1575, .inl vhs')), (aL, .inr (4, [.ref aLs, .int vsf'])), (aLs, .inl (cyI, 450, .inl vss')), (aP, .inr (1, [.ref aPc, .int vpl'])), (aPc, .inl (cyI, 80, .inl vpp')), (aR, .inr (2, [.ref aP, .ref aRn, .int vra', .int vrk', .int vrt'])), (aRn, .inl (cyI, 40, .inl vrn')), (aT, .inr (5, [.ref aTp, .int vtl', .int vta', .int vtt'])), (aTp, .inl (cyI, 552, .inl vtp'))] H := by rw [← e1, ← e2, ← e3, ← e4, ← e5, ← e6, ← e7, ← e8, ← e9, ← e10, ← e11, ← e12, ← e13, ← e14, ← e15, ← e16]; exact hP
                    exact W.zret hx hb hr rfl (fun t ht hW => ⟨⟨_, (), rfl, e0, x_ret hP9 ht⟩, hS.F ht⟩) hS.2.2 dL_refusesAny_477
                  · have hF := k_if_t hF hc
                    refine lv_aload_n hx hb dL_refusesAny_357 rfl (lv_at hl 0 rfl) ?_
                    refine lv_iconst (v := (0 : Int32)) hx hb dL_refusesAny_358 (by decide) ?_
                    refine lv_iconst (v := (1 : Int32)) hx hb dL_refusesAny_359 (by decide) ?_
                    refine lv_iconst (v := (0 : Int32)) hx hb dL_refusesAny_360 (by decide) ?_
                    refine lv_iconst (v := (0 : Int32)) hx hb dL_refusesAny_361 (by decide) ?_
                    refine lv_iconst (v := (1 : Int32)) hx hb dL_refusesAny_362 (by decide) ?_
                    refine lv_iload_n hx hb dL_refusesAny_363 rfl (lv_at hl 1 rfl) ?_
                    refine lv_if_ne (tgt := 371) hx hb dL_refusesAny_364 (by decide) (fun hc => ?_) (fun hc => ?_)
                    · have hF := k_if_f hF hc
                      refine lv_bipush (v := (100 : Int32)) hx hb dL_refusesAny_371 (by decide) ?_
                      exact (hG _ _ _).1 (blk_373 x1 x2 x3 x4 (100 : Int32) (1 : Int32) (0 : Int32) (0 : Int32) (1 : Int32) (0 : Int32) vc_349 vhf_349 vhl_349 vhs_349 vsf vss vpl_262 vpp vra_262 vrk_262 vrt_262 vrn_262 vtl_349 vta_349 vtt_349 vtp_349 hF _ _ _ hP hD hS (lv_sub hl [0, 1, 2, 3, 4] rfl))
                    · have hF := k_if_t hF hc
                      refine lv_iconst (v := (0 : Int32)) hx hb dL_refusesAny_367 (by decide) ?_
                      refine lv_goto (tgt := 373) hx hb dL_refusesAny_368 (by decide) ?_
                      exact (hG _ _ _).1 (blk_373 x1 x2 x3 x4 (0 : Int32) (1 : Int32) (0 : Int32) (0 : Int32) (1 : Int32) (0 : Int32) vc_349 vhf_349 vhl_349 vhs_349 vsf vss vpl_262 vpp vra_262 vrk_262 vrt_262 vrn_262 vtl_349 vta_349 vtt_349 vtp_349 hF _ _ _ hP hD hS (lv_sub hl [0, 1, 2, 3, 4] rfl))
                · have hF := k_if_t hF hc
                  refine lv_iconst (v := (0 : Int32)) hx hb dL_refusesAny_342 (by decide) ?_
                  refine lv_goto (tgt := 348) hx hb dL_refusesAny_343 (by decide) ?_
                  refine lv_iconst (v := (1 : Int32)) hx hb dL_refusesAny_348 (by decide) ?_
                  obtain ⟨r349, vc_349, vhf_349, vhl_349, vhs_349, vtl_349, vta_349, vtt_349, vtp_349, hC, hF⟩ := k_c9_ex hF
                  refine x_VM (As := [.int (0 : Int32), .int (1 : Int32), .int (0 : Int32), .int (0 : Int32), .int (0 : Int32), .int (1 : Int32)]) (rest := []) ⟨hx, hb, hml, hown, hts⟩ (c_X6_run l D cyI cyZ aM aS aC aH aHs aL aP aR aT aTp H.size N (0 : Int32) (1 : Int32) (0 : Int32) (0 : Int32) (0 : Int32) (1 : Int32) vc_325 vhf_325 vhl_325 vhs_325 vtl_325 vta_325 vtt_325 vtp_325 hC) (cwV 6 hts gL_refusesAny_X6_run rfl rfl rfl (by decide +kernel) ⟨Nat.le_of_ble_eq_true rfl, Nat.le_of_ble_eq_true rfl⟩) hK hP hD hS hA [0, 1, 2, 3, 4, 11, 12] rfl rfl rfl 0 rfl rfl rfl rfl hl.1 rfl (Nat.le_of_ble_eq_true rfl) ⟨Nat.zero_le _, Nat.zero_le _⟩ dL_refusesAny_349 (fun H locs hP hD hS => ?_)
                  have hP : va_P D vwCl [(aM, .inr (6, [.ref aS, .ref aH, .ref aL, .ref aP, .ref aR, .ref aT])), (aS, .inr (3, [.ref aC])), (aC, .inl (cyI, 225, .inl vc_349)), (aH, .inr (0, [.ref aHs, .int vhf_349, .int vhl_349])), (aHs, .inl (cyI, 1575, .inl vhs_349)), (aL, .inr (4, [.ref aLs, .int vsf])), (aLs, .inl (cyI, 450, .inl vss)), (aP, .inr (1, [.ref aPc, .int vpl_262])), (aPc, .inl (cyI, 80, .inl vpp)), (aR, .inr (2, [.ref aP, .ref aRn, .int vra_262, .int vrk_262, .int vrt_262])), (aRn, .inl (cyI, 40, .inl vrn_262)), (aT, .inr (5, [.ref aTp, .int vtl_349, .int vta_349, .int vtt_349])), (aTp, .inl (cyI, 552, .inl vtp_349))] H := hP
                  have hD : va_D A [(aM, .inr (6, [.ref aS, .ref aH, .ref aL, .ref aP, .ref aR, .ref aT])), (aS, .inr (3, [.ref aC])), (aC, .inl (cyI, 225, .inl vc_349)), (aH, .inr (0, [.ref aHs, .int vhf_349, .int vhl_349])), (aHs, .inl (cyI, 1575, .inl vhs_349)), (aL, .inr (4, [.ref aLs, .int vsf])), (aLs, .inl (cyI, 450, .inl vss)), (aP, .inr (1, [.ref aPc, .int vpl_262])), (aPc, .inl (cyI, 80, .inl vpp)), (aR, .inr (2, [.ref aP, .ref aRn, .int vra_262, .int vrk_262, .int vrt_262])), (aRn, .inl (cyI, 40, .inl vrn_262)), (aT, .inr (5, [.ref aTp, .int vtl_349, .int vta_349, .int vtt_349])), (aTp, .inl (cyI, 552, .inl vtp_349))] := hD
                  refine lv_bipush (v := (-2 : Int32)) hx hb dL_refusesAny_352 (by decide) ?_
                  refine lv_icmp_ne (tgt := 476) hx hb dL_refusesAny_354 (by decide) (fun hc => ?_) (fun hc => ?_)
                  · have hF := k_if_f hF hc
                    refine lv_iconst (v := (0 : Int32)) hx hb dL_refusesAny_476 (by decide) ?_
                    obtain ⟨e0, e1, e2, e3, e4, e5, e6, e7, e8, e9, e10, e11, e12, e13, e14, e15, e16⟩ := k_inj17 hF
                    have hP9 : va_P D vwCl [(aM, .inr (6, [.ref aS, .ref aH, .ref aL, .ref aP, .ref aR, .ref aT])), (aS, .inr (3, [.ref aC])), (aC, .inl (cyI, 225, .inl vc')), (aH, .inr (0, [.ref aHs, .int vhf', .int vhl'])), (aHs, .inl (cyI, 1575, .inl vhs')), (aL, .inr (4, [.ref aLs, .int vsf'])), (aLs, .inl (cyI, 450, .inl vss')), (aP, .inr (1, [.ref aPc, .int vpl'])), (aPc, .inl (cyI, 80, .inl vpp')), (aR, .inr (2, [.ref aP, .ref aRn, .int vra', .int vrk', .int vrt'])), (aRn, .inl (cyI, 40, .inl vrn')), (aT, .inr (5, [.ref aTp, .int vtl', .int vta', .int vtt'])), (aTp, .inl (cyI, 552, .inl vtp'))] H := by rw [← e1, ← e2, ← e3, ← e4, ← e5, ← e6, ← e7, ← e8, ← e9, ← e10, ← e11, ← e12, ← e13, ← e14, ← e15, ← e16]; exact hP
                    exact W.zret hx hb hr rfl (fun t ht hW => ⟨⟨_, (), rfl, e0, x_ret hP9 ht⟩, hS.F ht⟩) hS.2.2 dL_refusesAny_477
                  · have hF := k_if_t hF hc
                    refine lv_aload_n hx hb dL_refusesAny_357 rfl (lv_at hl 0 rfl) ?_
                    refine lv_iconst (v := (0 : Int32)) hx hb dL_refusesAny_358 (by decide) ?_
                    refine lv_iconst (v := (1 : Int32)) hx hb dL_refusesAny_359 (by decide) ?_
                    refine lv_iconst (v := (0 : Int32)) hx hb dL_refusesAny_360 (by decide) ?_
                    refine lv_iconst (v := (0 : Int32)) hx hb dL_refusesAny_361 (by decide) ?_
                    refine lv_iconst (v := (1 : Int32)) hx hb dL_refusesAny_362 (by decide) ?_
                    refine lv_iload_n hx hb dL_refusesAny_363 rfl (lv_at hl 1 rfl) ?_
                    refine lv_if_ne (tgt := 371) hx hb dL_refusesAny_364 (by decide) (fun hc => ?_) (fun hc => ?_)
                    · have hF := k_if_f hF hc
                      refine lv_bipush (v := (100 : Int32)) hx hb dL_refusesAny_371 (by decide) ?_
                      exact (hG _ _ _).1 (blk_373 x1 x2 x3 x4 (100 : Int32) (1 : Int32) (0 : Int32) (0 : Int32) (1 : Int32) (0 : Int32) vc_349 vhf_349 vhl_349 vhs_349 vsf vss vpl_262 vpp vra_262 vrk_262 vrt_262 vrn_262 vtl_349 vta_349 vtt_349 vtp_349 hF _ _ _ hP hD hS (lv_sub hl [0, 1, 2, 3, 4] rfl))
                    · have hF := k_if_t hF hc
                      refine lv_iconst (v := (0 : Int32)) hx hb dL_refusesAny_367 (by decide) ?_
                      refine lv_goto (tgt := 373) hx hb dL_refusesAny_368 (by decide) ?_
                      exact (hG _ _ _).1 (blk_373 x1 x2 x3 x4 (0 : Int32) (1 : Int32) (0 : Int32) (0 : Int32) (1 : Int32) (0 : Int32) vc_349 vhf_349 vhl_349 vhs_349 vsf vss vpl_262 vpp vra_262 vrk_262 vrt_262 vrn_262 vtl_349 vta_349 vtt_349 vtp_349 hF _ _ _ hP hD hS (lv_sub hl [0, 1, 2, 3, 4] rfl))
      · have hF := k_if_f hF hc
        refine lv_iconst (v := (0 : Int32)) hx hb dL_refusesAny_270 (by decide) ?_
        obtain ⟨e0, e1, e2, e3, e4, e5, e6, e7, e8, e9, e10, e11, e12, e13, e14, e15, e16⟩ := k_inj17 hF
        have hP9 : va_P D vwCl [(aM, .inr (6, [.ref aS, .ref aH, .ref aL, .ref aP, .ref aR, .ref aT])), (aS, .inr (3, [.ref aC])), (aC, .inl (cyI, 225, .inl vc')), (aH, .inr (0, [.ref aHs, .int vhf', .int vhl'])), (aHs, .inl (cyI, 1575, .inl vhs')), (aL, .inr (4, [.ref aLs, .int vsf'])), (aLs, .inl (cyI, 450, .inl vss')), (aP, .inr (1, [.ref aPc, .int vpl'])), (aPc, .inl (cyI, 80, .inl vpp')), (aR, .inr (2, [.ref aP, .ref aRn, .int vra', .int vrk', .int vrt'])), (aRn, .inl (cyI, 40, .inl vrn')), (aT, .inr (5, [.ref aTp, .int vtl', .int vta', .int vtt'])), (aTp, .inl (cyI, 552, .inl vtp'))] H := by rw [← e1, ← e2, ← e3, ← e4, ← e5, ← e6, ← e7, ← e8, ← e9, ← e10, ← e11, ← e12, ← e13, ← e14, ← e15, ← e16]; exact hP
        exact W.zret hx hb hr rfl (fun t ht hW => ⟨⟨_, (), rfl, e0, x_ret hP9 ht⟩, hS.F ht⟩) hS.2.2 dL_refusesAny_271
  have blk_204 : ∀ (x1 : Int32) (x2 : Int32) (x3 : Int32) (x4 : Int32) (t0 : Int32) (t1 : Int32) (t2 : Int32) (vc : (Nat → Int32)) (vhf : Int32) (vhl : Int32) (vhs : (Nat → Int32)) (vsf : Int32) (vss : (Nat → Int32)) (vpl : Int32) (vpp : (Nat → Int32)) (vra : Int32) (vrk : Int32) (vrt : Int32) (vrn : (Nat → Int32)) (vtl : Int32) (vta : Int32) (vtt : Int32) (vtp : (Nat → Int32)), b_L_refusesAny_204 N x1 x2 x3 x4 t0 t1 t2 vc vhf vhl vhs vsf vss vpl vpp vra vrk vrt vrn vtl vta vtt vtp = some (r0, vc', vhf', vhl', vhs', vsf', vss', vpl', vpp', vra', vrk', vrt', vrn', vtl', vta', vtt', vtp') → ∀ (H : Heap) (locs : List Loc) (ls : Array Slot), va_P D vwCl [(aM, .inr (6, [.ref aS, .ref aH, .ref aL, .ref aP, .ref aR, .ref aT])), (aS, .inr (3, [.ref aC])), (aC, .inl (cyI, 225, .inl vc)), (aH, .inr (0, [.ref aHs, .int vhf, .int vhl])), (aHs, .inl (cyI, 1575, .inl vhs)), (aL, .inr (4, [.ref aLs, .int vsf])), (aLs, .inl (cyI, 450, .inl vss)), (aP, .inr (1, [.ref aPc, .int vpl])), (aPc, .inl (cyI, 80, .inl vpp)), (aR, .inr (2, [.ref aP, .ref aRn, .int vra, .int vrk, .int vrt])), (aRn, .inl (cyI, 40, .inl vrn)), (aT, .inr (5, [.ref aTp, .int vtl, .int vta, .int vtt])), (aTp, .inl (cyI, 552, .inl vtp))] H → va_D A [(aM, .inr (6, [.ref aS, .ref aH, .ref aL, .ref aP, .ref aR, .ref aT])), (aS, .inr (3, [.ref aC])), (aC, .inl (cyI, 225, .inl vc)), (aH, .inr (0, [.ref aHs, .int vhf, .int vhl])), (aHs, .inl (cyI, 1575, .inl vhs)), (aL, .inr (4, [.ref aLs, .int vsf])), (aLs, .inl (cyI, 450, .inl vss)), (aP, .inr (1, [.ref aPc, .int vpl])), (aPc, .inl (cyI, 80, .inl vpp)), (aR, .inr (2, [.ref aP, .ref aRn, .int vra, .int vrk, .int vrt])), (aRn, .inl (cyI, 40, .inl vrn)), (aT, .inr (5, [.ref aTp, .int vtl, .int vta, .int vtt])), (aTp, .inl (cyI, 552, .inl vtp))] → va_S A s.heap H locs → lv_has ls 5 [(0, .ref aM), (1, .int x1), (2, .int x2), (3, .int x3), (4, .int x4)] → G H locs (F0 m 204 ls [.int t0, .int t1, .int t2, .ref aM]) := by
    intro x1 x2 x3 x4 t0 t1 t2 vc vhf vhl vhs vsf vss vpl vpp vra vrk vrt vrn vtl vta vtt vtp hF H locs ls hP hD hS hl
    unfold b_L_refusesAny_204 at hF
    refine (hG _ _ _).2 ?_
    obtain ⟨r204, vc_204, vhf_204, vhl_204, vhs_204, hC, hF⟩ := k_c5_ex hF
    refine x_VM (As := [.int t2, .int t1, .int t0]) (rest := []) ⟨hx, hb, hml, hown, hts⟩ (c_X6_file l D cyI cyZ aM aS aC aH aHs aL aP aR aT H.size N t2 t1 t0 vc vhf vhl vhs hC) (cwV 3 hts gL_refusesAny_X6_file rfl rfl rfl (by decide +kernel) ⟨Nat.le_of_ble_eq_true rfl, Nat.le_of_ble_eq_true rfl⟩) hK hP hD hS hA [0, 1, 2, 3, 4] rfl rfl rfl 0 rfl rfl rfl rfl hl.1 rfl (Nat.le_of_ble_eq_true rfl) ⟨Nat.zero_le _, Nat.zero_le _⟩ dL_refusesAny_204 (fun H locs hP hD hS => ?_)
    have hP : va_P D vwCl [(aM, .inr (6, [.ref aS, .ref aH, .ref aL, .ref aP, .ref aR, .ref aT])), (aS, .inr (3, [.ref aC])), (aC, .inl (cyI, 225, .inl vc_204)), (aH, .inr (0, [.ref aHs, .int vhf_204, .int vhl_204])), (aHs, .inl (cyI, 1575, .inl vhs_204)), (aL, .inr (4, [.ref aLs, .int vsf])), (aLs, .inl (cyI, 450, .inl vss)), (aP, .inr (1, [.ref aPc, .int vpl])), (aPc, .inl (cyI, 80, .inl vpp)), (aR, .inr (2, [.ref aP, .ref aRn, .int vra, .int vrk, .int vrt])), (aRn, .inl (cyI, 40, .inl vrn)), (aT, .inr (5, [.ref aTp, .int vtl, .int vta, .int vtt])), (aTp, .inl (cyI, 552, .inl vtp))] H := hP
    have hD : va_D A [(aM, .inr (6, [.ref aS, .ref aH, .ref aL, .ref aP, .ref aR, .ref aT])), (aS, .inr (3, [.ref aC])), (aC, .inl (cyI, 225, .inl vc_204)), (aH, .inr (0, [.ref aHs, .int vhf_204, .int vhl_204])), (aHs, .inl (cyI, 1575, .inl vhs_204)), (aL, .inr (4, [.ref aLs, .int vsf])), (aLs, .inl (cyI, 450, .inl vss)), (aP, .inr (1, [.ref aPc, .int vpl])), (aPc, .inl (cyI, 80, .inl vpp)), (aR, .inr (2, [.ref aP, .ref aRn, .int vra, .int vrk, .int vrt])), (aRn, .inl (cyI, 40, .inl vrn)), (aT, .inr (5, [.ref aTp, .int vtl, .int vta, .int vtt])), (aTp, .inl (cyI, 552, .inl vtp))] := hD
    refine lv_bipush (v := (-2 : Int32)) hx hb dL_refusesAny_207 (by decide) ?_
    refine lv_icmp_ne (tgt := 270) hx hb dL_refusesAny_209 (by decide) (fun hc => ?_) (fun hc => ?_)
    · have hF := k_if_f hF hc
      refine lv_iconst (v := (0 : Int32)) hx hb dL_refusesAny_270 (by decide) ?_
      obtain ⟨e0, e1, e2, e3, e4, e5, e6, e7, e8, e9, e10, e11, e12, e13, e14, e15, e16⟩ := k_inj17 hF
      have hP9 : va_P D vwCl [(aM, .inr (6, [.ref aS, .ref aH, .ref aL, .ref aP, .ref aR, .ref aT])), (aS, .inr (3, [.ref aC])), (aC, .inl (cyI, 225, .inl vc')), (aH, .inr (0, [.ref aHs, .int vhf', .int vhl'])), (aHs, .inl (cyI, 1575, .inl vhs')), (aL, .inr (4, [.ref aLs, .int vsf'])), (aLs, .inl (cyI, 450, .inl vss')), (aP, .inr (1, [.ref aPc, .int vpl'])), (aPc, .inl (cyI, 80, .inl vpp')), (aR, .inr (2, [.ref aP, .ref aRn, .int vra', .int vrk', .int vrt'])), (aRn, .inl (cyI, 40, .inl vrn')), (aT, .inr (5, [.ref aTp, .int vtl', .int vta', .int vtt'])), (aTp, .inl (cyI, 552, .inl vtp'))] H := by rw [← e1, ← e2, ← e3, ← e4, ← e5, ← e6, ← e7, ← e8, ← e9, ← e10, ← e11, ← e12, ← e13, ← e14, ← e15, ← e16]; exact hP
      exact W.zret hx hb hr rfl (fun t ht hW => ⟨⟨_, (), rfl, e0, x_ret hP9 ht⟩, hS.F ht⟩) hS.2.2 dL_refusesAny_271
    · have hF := k_if_t hF hc
      refine lv_aload_n hx hb dL_refusesAny_212 rfl (lv_at hl 0 rfl) ?_
      refine lv_iload_n hx hb dL_refusesAny_213 rfl (lv_at hl 2 rfl) ?_
      obtain ⟨r214, vc_214, vhf_214, vhl_214, vhs_214, hC, hF⟩ := k_c5_ex hF
      refine x_VM (As := [.int x2]) (rest := []) ⟨hx, hb, hml, hown, hts⟩ (c_X6_melt l D cyI cyZ aM aS aC aH aHs aL aP aR aT H.size N x2 vc_204 vhf_204 vhl_204 vhs_204 hC) (cwV 1 hts gL_refusesAny_X6_melt rfl rfl rfl (by decide +kernel) ⟨Nat.le_of_ble_eq_true rfl, Nat.le_of_ble_eq_true rfl⟩) hK hP hD hS hA [0, 1, 2, 3, 4] rfl rfl rfl 0 rfl rfl rfl rfl hl.1 rfl (Nat.le_of_ble_eq_true rfl) ⟨Nat.zero_le _, Nat.zero_le _⟩ dL_refusesAny_214 (fun H locs hP hD hS => ?_)
      have hP : va_P D vwCl [(aM, .inr (6, [.ref aS, .ref aH, .ref aL, .ref aP, .ref aR, .ref aT])), (aS, .inr (3, [.ref aC])), (aC, .inl (cyI, 225, .inl vc_214)), (aH, .inr (0, [.ref aHs, .int vhf_214, .int vhl_214])), (aHs, .inl (cyI, 1575, .inl vhs_214)), (aL, .inr (4, [.ref aLs, .int vsf])), (aLs, .inl (cyI, 450, .inl vss)), (aP, .inr (1, [.ref aPc, .int vpl])), (aPc, .inl (cyI, 80, .inl vpp)), (aR, .inr (2, [.ref aP, .ref aRn, .int vra, .int vrk, .int vrt])), (aRn, .inl (cyI, 40, .inl vrn)), (aT, .inr (5, [.ref aTp, .int vtl, .int vta, .int vtt])), (aTp, .inl (cyI, 552, .inl vtp))] H := hP
      have hD : va_D A [(aM, .inr (6, [.ref aS, .ref aH, .ref aL, .ref aP, .ref aR, .ref aT])), (aS, .inr (3, [.ref aC])), (aC, .inl (cyI, 225, .inl vc_214)), (aH, .inr (0, [.ref aHs, .int vhf_214, .int vhl_214])), (aHs, .inl (cyI, 1575, .inl vhs_214)), (aL, .inr (4, [.ref aLs, .int vsf])), (aLs, .inl (cyI, 450, .inl vss)), (aP, .inr (1, [.ref aPc, .int vpl])), (aPc, .inl (cyI, 80, .inl vpp)), (aR, .inr (2, [.ref aP, .ref aRn, .int vra, .int vrk, .int vrt])), (aRn, .inl (cyI, 40, .inl vrn)), (aT, .inr (5, [.ref aTp, .int vtl, .int vta, .int vtt])), (aTp, .inl (cyI, 552, .inl vtp))] := hD
      refine lv_iconst (v := (-1 : Int32)) hx hb dL_refusesAny_217 (by decide) ?_
      refine lv_icmp_ne (tgt := 270) hx hb dL_refusesAny_218 (by decide) (fun hc => ?_) (fun hc => ?_)
      · have hF := k_if_f hF hc
        refine lv_iconst (v := (0 : Int32)) hx hb dL_refusesAny_270 (by decide) ?_
        obtain ⟨e0, e1, e2, e3, e4, e5, e6, e7, e8, e9, e10, e11, e12, e13, e14, e15, e16⟩ := k_inj17 hF
        have hP9 : va_P D vwCl [(aM, .inr (6, [.ref aS, .ref aH, .ref aL, .ref aP, .ref aR, .ref aT])), (aS, .inr (3, [.ref aC])), (aC, .inl (cyI, 225, .inl vc')), (aH, .inr (0, [.ref aHs, .int vhf', .int vhl'])), (aHs, .inl (cyI, 1575, .inl vhs')), (aL, .inr (4, [.ref aLs, .int vsf'])), (aLs, .inl (cyI, 450, .inl vss')), (aP, .inr (1, [.ref aPc, .int vpl'])), (aPc, .inl (cyI, 80, .inl vpp')), (aR, .inr (2, [.ref aP, .ref aRn, .int vra', .int vrk', .int vrt'])), (aRn, .inl (cyI, 40, .inl vrn')), (aT, .inr (5, [.ref aTp, .int vtl', .int vta', .int vtt'])), (aTp, .inl (cyI, 552, .inl vtp'))] H := by rw [← e1, ← e2, ← e3, ← e4, ← e5, ← e6, ← e7, ← e8, ← e9, ← e10, ← e11, ← e12, ← e13, ← e14, ← e15, ← e16]; exact hP
        exact W.zret hx hb hr rfl (fun t ht hW => ⟨⟨_, (), rfl, e0, x_ret hP9 ht⟩, hS.F ht⟩) hS.2.2 dL_refusesAny_271
      · have hF := k_if_t hF hc
        refine lv_aload_n hx hb dL_refusesAny_221 rfl (lv_at hl 0 rfl) ?_
        refine lv_iload_n hx hb dL_refusesAny_222 rfl (lv_at hl 1 rfl) ?_
        refine lv_if_ne (tgt := 230) hx hb dL_refusesAny_223 (by decide) (fun hc => ?_) (fun hc => ?_)
        · have hF := k_if_f hF hc
          refine lv_bipush (v := (31 : Int32)) hx hb dL_refusesAny_230 (by decide) ?_
          refine lv_iconst (v := (0 : Int32)) hx hb dL_refusesAny_232 (by decide) ?_
          obtain ⟨r233, vc_233, vhf_233, vhl_233, vhs_233, hC, hF⟩ := k_c5_ex hF
          refine x_VM (As := [.int (31 : Int32), .int (0 : Int32)]) (rest := []) ⟨hx, hb, hml, hown, hts⟩ (c_X6_card l D cyI cyZ aM aS aC aH aHs aL aP aR aT H.size N (31 : Int32) (0 : Int32) vc_214 vhf_214 vhl_214 vhs_214 hC) (cwV 2 hts gL_refusesAny_X6_card rfl rfl rfl (by decide +kernel) ⟨Nat.le_of_ble_eq_true rfl, Nat.le_of_ble_eq_true rfl⟩) hK hP hD hS hA [0, 1, 2, 3, 4] rfl rfl rfl 0 rfl rfl rfl rfl hl.1 rfl (Nat.le_of_ble_eq_true rfl) ⟨Nat.zero_le _, Nat.zero_le _⟩ dL_refusesAny_233 (fun H locs hP hD hS => ?_)
          have hP : va_P D vwCl [(aM, .inr (6, [.ref aS, .ref aH, .ref aL, .ref aP, .ref aR, .ref aT])), (aS, .inr (3, [.ref aC])), (aC, .inl (cyI, 225, .inl vc_233)), (aH, .inr (0, [.ref aHs, .int vhf_233, .int vhl_233])), (aHs, .inl (cyI, 1575, .inl vhs_233)), (aL, .inr (4, [.ref aLs, .int vsf])), (aLs, .inl (cyI, 450, .inl vss)), (aP, .inr (1, [.ref aPc, .int vpl])), (aPc, .inl (cyI, 80, .inl vpp)), (aR, .inr (2, [.ref aP, .ref aRn, .int vra, .int vrk, .int vrt])), (aRn, .inl (cyI, 40, .inl vrn)), (aT, .inr (5, [.ref aTp, .int vtl, .int vta, .int vtt])), (aTp, .inl (cyI, 552, .inl vtp))] H := hP
          have hD : va_D A [(aM, .inr (6, [.ref aS, .ref aH, .ref aL, .ref aP, .ref aR, .ref aT])), (aS, .inr (3, [.ref aC])), (aC, .inl (cyI, 225, .inl vc_233)), (aH, .inr (0, [.ref aHs, .int vhf_233, .int vhl_233])), (aHs, .inl (cyI, 1575, .inl vhs_233)), (aL, .inr (4, [.ref aLs, .int vsf])), (aLs, .inl (cyI, 450, .inl vss)), (aP, .inr (1, [.ref aPc, .int vpl])), (aPc, .inl (cyI, 80, .inl vpp)), (aR, .inr (2, [.ref aP, .ref aRn, .int vra, .int vrk, .int vrt])), (aRn, .inl (cyI, 40, .inl vrn)), (aT, .inr (5, [.ref aTp, .int vtl, .int vta, .int vtt])), (aTp, .inl (cyI, 552, .inl vtp))] := hD
          refine lv_bipush (v := (-2 : Int32)) hx hb dL_refusesAny_236 (by decide) ?_
          refine lv_icmp_ne (tgt := 270) hx hb dL_refusesAny_238 (by decide) (fun hc => ?_) (fun hc => ?_)
          · have hF := k_if_f hF hc
            refine lv_iconst (v := (0 : Int32)) hx hb dL_refusesAny_270 (by decide) ?_
            obtain ⟨e0, e1, e2, e3, e4, e5, e6, e7, e8, e9, e10, e11, e12, e13, e14, e15, e16⟩ := k_inj17 hF
            have hP9 : va_P D vwCl [(aM, .inr (6, [.ref aS, .ref aH, .ref aL, .ref aP, .ref aR, .ref aT])), (aS, .inr (3, [.ref aC])), (aC, .inl (cyI, 225, .inl vc')), (aH, .inr (0, [.ref aHs, .int vhf', .int vhl'])), (aHs, .inl (cyI, 1575, .inl vhs')), (aL, .inr (4, [.ref aLs, .int vsf'])), (aLs, .inl (cyI, 450, .inl vss')), (aP, .inr (1, [.ref aPc, .int vpl'])), (aPc, .inl (cyI, 80, .inl vpp')), (aR, .inr (2, [.ref aP, .ref aRn, .int vra', .int vrk', .int vrt'])), (aRn, .inl (cyI, 40, .inl vrn')), (aT, .inr (5, [.ref aTp, .int vtl', .int vta', .int vtt'])), (aTp, .inl (cyI, 552, .inl vtp'))] H := by rw [← e1, ← e2, ← e3, ← e4, ← e5, ← e6, ← e7, ← e8, ← e9, ← e10, ← e11, ← e12, ← e13, ← e14, ← e15, ← e16]; exact hP
            exact W.zret hx hb hr rfl (fun t ht hW => ⟨⟨_, (), rfl, e0, x_ret hP9 ht⟩, hS.F ht⟩) hS.2.2 dL_refusesAny_271
          · have hF := k_if_t hF hc
            refine lv_aload_n hx hb dL_refusesAny_241 rfl (lv_at hl 0 rfl) ?_
            refine lv_iconst (v := (1 : Int32)) hx hb dL_refusesAny_242 (by decide) ?_
            refine lv_iload_n hx hb dL_refusesAny_243 rfl (lv_at hl 1 rfl) ?_
            refine lv_if_ne (tgt := 251) hx hb dL_refusesAny_244 (by decide) (fun hc => ?_) (fun hc => ?_)
            · have hF := k_if_f hF hc
              refine lv_bipush (v := (31 : Int32)) hx hb dL_refusesAny_251 (by decide) ?_
              exact (hG _ _ _).1 (blk_253 x1 x2 x3 x4 (31 : Int32) (1 : Int32) vc_233 vhf_233 vhl_233 vhs_233 vsf vss vpl vpp vra vrk vrt vrn vtl vta vtt vtp hF _ _ _ hP hD hS (lv_sub hl [0, 1, 2, 3, 4] rfl))
            · have hF := k_if_t hF hc
              refine lv_iconst (v := (-1 : Int32)) hx hb dL_refusesAny_247 (by decide) ?_
              refine lv_goto (tgt := 253) hx hb dL_refusesAny_248 (by decide) ?_
              exact (hG _ _ _).1 (blk_253 x1 x2 x3 x4 (-1 : Int32) (1 : Int32) vc_233 vhf_233 vhl_233 vhs_233 vsf vss vpl vpp vra vrk vrt vrn vtl vta vtt vtp hF _ _ _ hP hD hS (lv_sub hl [0, 1, 2, 3, 4] rfl))
        · have hF := k_if_t hF hc
          refine lv_iconst (v := (0 : Int32)) hx hb dL_refusesAny_226 (by decide) ?_
          refine lv_goto (tgt := 232) hx hb dL_refusesAny_227 (by decide) ?_
          refine lv_iconst (v := (0 : Int32)) hx hb dL_refusesAny_232 (by decide) ?_
          obtain ⟨r233, vc_233, vhf_233, vhl_233, vhs_233, hC, hF⟩ := k_c5_ex hF
          refine x_VM (As := [.int (0 : Int32), .int (0 : Int32)]) (rest := []) ⟨hx, hb, hml, hown, hts⟩ (c_X6_card l D cyI cyZ aM aS aC aH aHs aL aP aR aT H.size N (0 : Int32) (0 : Int32) vc_214 vhf_214 vhl_214 vhs_214 hC) (cwV 2 hts gL_refusesAny_X6_card rfl rfl rfl (by decide +kernel) ⟨Nat.le_of_ble_eq_true rfl, Nat.le_of_ble_eq_true rfl⟩) hK hP hD hS hA [0, 1, 2, 3, 4] rfl rfl rfl 0 rfl rfl rfl rfl hl.1 rfl (Nat.le_of_ble_eq_true rfl) ⟨Nat.zero_le _, Nat.zero_le _⟩ dL_refusesAny_233 (fun H locs hP hD hS => ?_)
          have hP : va_P D vwCl [(aM, .inr (6, [.ref aS, .ref aH, .ref aL, .ref aP, .ref aR, .ref aT])), (aS, .inr (3, [.ref aC])), (aC, .inl (cyI, 225, .inl vc_233)), (aH, .inr (0, [.ref aHs, .int vhf_233, .int vhl_233])), (aHs, .inl (cyI, 1575, .inl vhs_233)), (aL, .inr (4, [.ref aLs, .int vsf])), (aLs, .inl (cyI, 450, .inl vss)), (aP, .inr (1, [.ref aPc, .int vpl])), (aPc, .inl (cyI, 80, .inl vpp)), (aR, .inr (2, [.ref aP, .ref aRn, .int vra, .int vrk, .int vrt])), (aRn, .inl (cyI, 40, .inl vrn)), (aT, .inr (5, [.ref aTp, .int vtl, .int vta, .int vtt])), (aTp, .inl (cyI, 552, .inl vtp))] H := hP
          have hD : va_D A [(aM, .inr (6, [.ref aS, .ref aH, .ref aL, .ref aP, .ref aR, .ref aT])), (aS, .inr (3, [.ref aC])), (aC, .inl (cyI, 225, .inl vc_233)), (aH, .inr (0, [.ref aHs, .int vhf_233, .int vhl_233])), (aHs, .inl (cyI, 1575, .inl vhs_233)), (aL, .inr (4, [.ref aLs, .int vsf])), (aLs, .inl (cyI, 450, .inl vss)), (aP, .inr (1, [.ref aPc, .int vpl])), (aPc, .inl (cyI, 80, .inl vpp)), (aR, .inr (2, [.ref aP, .ref aRn, .int vra, .int vrk, .int vrt])), (aRn, .inl (cyI, 40, .inl vrn)), (aT, .inr (5, [.ref aTp, .int vtl, .int vta, .int vtt])), (aTp, .inl (cyI, 552, .inl vtp))] := hD
          refine lv_bipush (v := (-2 : Int32)) hx hb dL_refusesAny_236 (by decide) ?_
          refine lv_icmp_ne (tgt := 270) hx hb dL_refusesAny_238 (by decide) (fun hc => ?_) (fun hc => ?_)
          · have hF := k_if_f hF hc
            refine lv_iconst (v := (0 : Int32)) hx hb dL_refusesAny_270 (by decide) ?_
            obtain ⟨e0, e1, e2, e3, e4, e5, e6, e7, e8, e9, e10, e11, e12, e13, e14, e15, e16⟩ := k_inj17 hF
            have hP9 : va_P D vwCl [(aM, .inr (6, [.ref aS, .ref aH, .ref aL, .ref aP, .ref aR, .ref aT])), (aS, .inr (3, [.ref aC])), (aC, .inl (cyI, 225, .inl vc')), (aH, .inr (0, [.ref aHs, .int vhf', .int vhl'])), (aHs, .inl (cyI, 1575, .inl vhs')), (aL, .inr (4, [.ref aLs, .int vsf'])), (aLs, .inl (cyI, 450, .inl vss')), (aP, .inr (1, [.ref aPc, .int vpl'])), (aPc, .inl (cyI, 80, .inl vpp')), (aR, .inr (2, [.ref aP, .ref aRn, .int vra', .int vrk', .int vrt'])), (aRn, .inl (cyI, 40, .inl vrn')), (aT, .inr (5, [.ref aTp, .int vtl', .int vta', .int vtt'])), (aTp, .inl (cyI, 552, .inl vtp'))] H := by rw [← e1, ← e2, ← e3, ← e4, ← e5, ← e6, ← e7, ← e8, ← e9, ← e10, ← e11, ← e12, ← e13, ← e14, ← e15, ← e16]; exact hP
            exact W.zret hx hb hr rfl (fun t ht hW => ⟨⟨_, (), rfl, e0, x_ret hP9 ht⟩, hS.F ht⟩) hS.2.2 dL_refusesAny_271
          · have hF := k_if_t hF hc
            refine lv_aload_n hx hb dL_refusesAny_241 rfl (lv_at hl 0 rfl) ?_
            refine lv_iconst (v := (1 : Int32)) hx hb dL_refusesAny_242 (by decide) ?_
            refine lv_iload_n hx hb dL_refusesAny_243 rfl (lv_at hl 1 rfl) ?_
            refine lv_if_ne (tgt := 251) hx hb dL_refusesAny_244 (by decide) (fun hc => ?_) (fun hc => ?_)
            · have hF := k_if_f hF hc
              refine lv_bipush (v := (31 : Int32)) hx hb dL_refusesAny_251 (by decide) ?_
              exact (hG _ _ _).1 (blk_253 x1 x2 x3 x4 (31 : Int32) (1 : Int32) vc_233 vhf_233 vhl_233 vhs_233 vsf vss vpl vpp vra vrk vrt vrn vtl vta vtt vtp hF _ _ _ hP hD hS (lv_sub hl [0, 1, 2, 3, 4] rfl))
            · have hF := k_if_t hF hc
              refine lv_iconst (v := (-1 : Int32)) hx hb dL_refusesAny_247 (by decide) ?_
              refine lv_goto (tgt := 253) hx hb dL_refusesAny_248 (by decide) ?_
              exact (hG _ _ _).1 (blk_253 x1 x2 x3 x4 (-1 : Int32) (1 : Int32) vc_233 vhf_233 vhl_233 vhs_233 vsf vss vpl vpp vra vrk vrt vrn vtl vta vtt vtp hF _ _ _ hP hD hS (lv_sub hl [0, 1, 2, 3, 4] rfl))
  have blk_149 : ∀ (x1 : Int32) (x2 : Int32) (x3 : Int32) (x4 : Int32) (t0 : Int32) (t1 : Int32) (vc : (Nat → Int32)) (vhf : Int32) (vhl : Int32) (vhs : (Nat → Int32)) (vsf : Int32) (vss : (Nat → Int32)) (vpl : Int32) (vpp : (Nat → Int32)) (vra : Int32) (vrk : Int32) (vrt : Int32) (vrn : (Nat → Int32)) (vtl : Int32) (vta : Int32) (vtt : Int32) (vtp : (Nat → Int32)), b_L_refusesAny_149 N x1 x2 x3 x4 t0 t1 vc vhf vhl vhs vsf vss vpl vpp vra vrk vrt vrn vtl vta vtt vtp = some (r0, vc', vhf', vhl', vhs', vsf', vss', vpl', vpp', vra', vrk', vrt', vrn', vtl', vta', vtt', vtp') → ∀ (H : Heap) (locs : List Loc) (ls : Array Slot), va_P D vwCl [(aM, .inr (6, [.ref aS, .ref aH, .ref aL, .ref aP, .ref aR, .ref aT])), (aS, .inr (3, [.ref aC])), (aC, .inl (cyI, 225, .inl vc)), (aH, .inr (0, [.ref aHs, .int vhf, .int vhl])), (aHs, .inl (cyI, 1575, .inl vhs)), (aL, .inr (4, [.ref aLs, .int vsf])), (aLs, .inl (cyI, 450, .inl vss)), (aP, .inr (1, [.ref aPc, .int vpl])), (aPc, .inl (cyI, 80, .inl vpp)), (aR, .inr (2, [.ref aP, .ref aRn, .int vra, .int vrk, .int vrt])), (aRn, .inl (cyI, 40, .inl vrn)), (aT, .inr (5, [.ref aTp, .int vtl, .int vta, .int vtt])), (aTp, .inl (cyI, 552, .inl vtp))] H → va_D A [(aM, .inr (6, [.ref aS, .ref aH, .ref aL, .ref aP, .ref aR, .ref aT])), (aS, .inr (3, [.ref aC])), (aC, .inl (cyI, 225, .inl vc)), (aH, .inr (0, [.ref aHs, .int vhf, .int vhl])), (aHs, .inl (cyI, 1575, .inl vhs)), (aL, .inr (4, [.ref aLs, .int vsf])), (aLs, .inl (cyI, 450, .inl vss)), (aP, .inr (1, [.ref aPc, .int vpl])), (aPc, .inl (cyI, 80, .inl vpp)), (aR, .inr (2, [.ref aP, .ref aRn, .int vra, .int vrk, .int vrt])), (aRn, .inl (cyI, 40, .inl vrn)), (aT, .inr (5, [.ref aTp, .int vtl, .int vta, .int vtt])), (aTp, .inl (cyI, 552, .inl vtp))] → va_S A s.heap H locs → lv_has ls 5 [(0, .ref aM), (1, .int x1), (2, .int x2), (3, .int x3), (4, .int x4)] → G H locs (F0 m 149 ls [.int t0, .int t1, .ref aM]) := by
    intro x1 x2 x3 x4 t0 t1 vc vhf vhl vhs vsf vss vpl vpp vra vrk vrt vrn vtl vta vtt vtp hF H locs ls hP hD hS hl
    unfold b_L_refusesAny_149 at hF
    refine (hG _ _ _).2 ?_
    obtain ⟨r149, vc_149, vhf_149, vhl_149, vhs_149, hC, hF⟩ := k_c5_ex hF
    refine x_VM (As := [.int t1, .int t0]) (rest := []) ⟨hx, hb, hml, hown, hts⟩ (c_X6_roller l D cyI cyZ aM aS aC aH aHs aL aP aR aT H.size N t1 t0 vc vhf vhl vhs hC) (cwV 2 hts gL_refusesAny_X6_roller rfl rfl rfl (by decide +kernel) ⟨Nat.le_of_ble_eq_true rfl, Nat.le_of_ble_eq_true rfl⟩) hK hP hD hS hA [0, 1, 2, 3, 4] rfl rfl rfl 0 rfl rfl rfl rfl hl.1 rfl (Nat.le_of_ble_eq_true rfl) ⟨Nat.zero_le _, Nat.zero_le _⟩ dL_refusesAny_149 (fun H locs hP hD hS => ?_)
    have hP : va_P D vwCl [(aM, .inr (6, [.ref aS, .ref aH, .ref aL, .ref aP, .ref aR, .ref aT])), (aS, .inr (3, [.ref aC])), (aC, .inl (cyI, 225, .inl vc_149)), (aH, .inr (0, [.ref aHs, .int vhf_149, .int vhl_149])), (aHs, .inl (cyI, 1575, .inl vhs_149)), (aL, .inr (4, [.ref aLs, .int vsf])), (aLs, .inl (cyI, 450, .inl vss)), (aP, .inr (1, [.ref aPc, .int vpl])), (aPc, .inl (cyI, 80, .inl vpp)), (aR, .inr (2, [.ref aP, .ref aRn, .int vra, .int vrk, .int vrt])), (aRn, .inl (cyI, 40, .inl vrn)), (aT, .inr (5, [.ref aTp, .int vtl, .int vta, .int vtt])), (aTp, .inl (cyI, 552, .inl vtp))] H := hP
    have hD : va_D A [(aM, .inr (6, [.ref aS, .ref aH, .ref aL, .ref aP, .ref aR, .ref aT])), (aS, .inr (3, [.ref aC])), (aC, .inl (cyI, 225, .inl vc_149)), (aH, .inr (0, [.ref aHs, .int vhf_149, .int vhl_149])), (aHs, .inl (cyI, 1575, .inl vhs_149)), (aL, .inr (4, [.ref aLs, .int vsf])), (aLs, .inl (cyI, 450, .inl vss)), (aP, .inr (1, [.ref aPc, .int vpl])), (aPc, .inl (cyI, 80, .inl vpp)), (aR, .inr (2, [.ref aP, .ref aRn, .int vra, .int vrk, .int vrt])), (aRn, .inl (cyI, 40, .inl vrn)), (aT, .inr (5, [.ref aTp, .int vtl, .int vta, .int vtt])), (aTp, .inl (cyI, 552, .inl vtp))] := hD
    refine lv_bipush (v := (-2 : Int32)) hx hb dL_refusesAny_152 (by decide) ?_
    refine lv_icmp_ne (tgt := 270) hx hb dL_refusesAny_154 (by decide) (fun hc => ?_) (fun hc => ?_)
    · have hF := k_if_f hF hc
      refine lv_iconst (v := (0 : Int32)) hx hb dL_refusesAny_270 (by decide) ?_
      obtain ⟨e0, e1, e2, e3, e4, e5, e6, e7, e8, e9, e10, e11, e12, e13, e14, e15, e16⟩ := k_inj17 hF
      have hP9 : va_P D vwCl [(aM, .inr (6, [.ref aS, .ref aH, .ref aL, .ref aP, .ref aR, .ref aT])), (aS, .inr (3, [.ref aC])), (aC, .inl (cyI, 225, .inl vc')), (aH, .inr (0, [.ref aHs, .int vhf', .int vhl'])), (aHs, .inl (cyI, 1575, .inl vhs')), (aL, .inr (4, [.ref aLs, .int vsf'])), (aLs, .inl (cyI, 450, .inl vss')), (aP, .inr (1, [.ref aPc, .int vpl'])), (aPc, .inl (cyI, 80, .inl vpp')), (aR, .inr (2, [.ref aP, .ref aRn, .int vra', .int vrk', .int vrt'])), (aRn, .inl (cyI, 40, .inl vrn')), (aT, .inr (5, [.ref aTp, .int vtl', .int vta', .int vtt'])), (aTp, .inl (cyI, 552, .inl vtp'))] H := by rw [← e1, ← e2, ← e3, ← e4, ← e5, ← e6, ← e7, ← e8, ← e9, ← e10, ← e11, ← e12, ← e13, ← e14, ← e15, ← e16]; exact hP
      exact W.zret hx hb hr rfl (fun t ht hW => ⟨⟨_, (), rfl, e0, x_ret hP9 ht⟩, hS.F ht⟩) hS.2.2 dL_refusesAny_271
    · have hF := k_if_t hF hc
      refine lv_aload_n hx hb dL_refusesAny_157 rfl (lv_at hl 0 rfl) ?_
      refine lv_iload_n hx hb dL_refusesAny_158 rfl (lv_at hl 2 rfl) ?_
      refine lv_iconst (v := (0 : Int32)) hx hb dL_refusesAny_159 (by decide) ?_
      refine lv_bipush (v := (10 : Int32)) hx hb dL_refusesAny_160 (by decide) ?_
      obtain ⟨r162, vc_162, vhf_162, vhl_162, vhs_162, hC, hF⟩ := k_c5_ex hF
      refine x_VM (As := [.int x2, .int (0 : Int32), .int (10 : Int32)]) (rest := []) ⟨hx, hb, hml, hown, hts⟩ (c_X6_file l D cyI cyZ aM aS aC aH aHs aL aP aR aT H.size N x2 (0 : Int32) (10 : Int32) vc_149 vhf_149 vhl_149 vhs_149 hC) (cwV 3 hts gL_refusesAny_X6_file rfl rfl rfl (by decide +kernel) ⟨Nat.le_of_ble_eq_true rfl, Nat.le_of_ble_eq_true rfl⟩) hK hP hD hS hA [0, 1, 2, 3, 4] rfl rfl rfl 0 rfl rfl rfl rfl hl.1 rfl (Nat.le_of_ble_eq_true rfl) ⟨Nat.zero_le _, Nat.zero_le _⟩ dL_refusesAny_162 (fun H locs hP hD hS => ?_)
      have hP : va_P D vwCl [(aM, .inr (6, [.ref aS, .ref aH, .ref aL, .ref aP, .ref aR, .ref aT])), (aS, .inr (3, [.ref aC])), (aC, .inl (cyI, 225, .inl vc_162)), (aH, .inr (0, [.ref aHs, .int vhf_162, .int vhl_162])), (aHs, .inl (cyI, 1575, .inl vhs_162)), (aL, .inr (4, [.ref aLs, .int vsf])), (aLs, .inl (cyI, 450, .inl vss)), (aP, .inr (1, [.ref aPc, .int vpl])), (aPc, .inl (cyI, 80, .inl vpp)), (aR, .inr (2, [.ref aP, .ref aRn, .int vra, .int vrk, .int vrt])), (aRn, .inl (cyI, 40, .inl vrn)), (aT, .inr (5, [.ref aTp, .int vtl, .int vta, .int vtt])), (aTp, .inl (cyI, 552, .inl vtp))] H := hP
      have hD : va_D A [(aM, .inr (6, [.ref aS, .ref aH, .ref aL, .ref aP, .ref aR, .ref aT])), (aS, .inr (3, [.ref aC])), (aC, .inl (cyI, 225, .inl vc_162)), (aH, .inr (0, [.ref aHs, .int vhf_162, .int vhl_162])), (aHs, .inl (cyI, 1575, .inl vhs_162)), (aL, .inr (4, [.ref aLs, .int vsf])), (aLs, .inl (cyI, 450, .inl vss)), (aP, .inr (1, [.ref aPc, .int vpl])), (aPc, .inl (cyI, 80, .inl vpp)), (aR, .inr (2, [.ref aP, .ref aRn, .int vra, .int vrk, .int vrt])), (aRn, .inl (cyI, 40, .inl vrn)), (aT, .inr (5, [.ref aTp, .int vtl, .int vta, .int vtt])), (aTp, .inl (cyI, 552, .inl vtp))] := hD
      refine lv_iconst (v := (-1 : Int32)) hx hb dL_refusesAny_165 (by decide) ?_
      refine lv_icmp_ne (tgt := 270) hx hb dL_refusesAny_166 (by decide) (fun hc => ?_) (fun hc => ?_)
      · have hF := k_if_f hF hc
        refine lv_iconst (v := (0 : Int32)) hx hb dL_refusesAny_270 (by decide) ?_
        obtain ⟨e0, e1, e2, e3, e4, e5, e6, e7, e8, e9, e10, e11, e12, e13, e14, e15, e16⟩ := k_inj17 hF
        have hP9 : va_P D vwCl [(aM, .inr (6, [.ref aS, .ref aH, .ref aL, .ref aP, .ref aR, .ref aT])), (aS, .inr (3, [.ref aC])), (aC, .inl (cyI, 225, .inl vc')), (aH, .inr (0, [.ref aHs, .int vhf', .int vhl'])), (aHs, .inl (cyI, 1575, .inl vhs')), (aL, .inr (4, [.ref aLs, .int vsf'])), (aLs, .inl (cyI, 450, .inl vss')), (aP, .inr (1, [.ref aPc, .int vpl'])), (aPc, .inl (cyI, 80, .inl vpp')), (aR, .inr (2, [.ref aP, .ref aRn, .int vra', .int vrk', .int vrt'])), (aRn, .inl (cyI, 40, .inl vrn')), (aT, .inr (5, [.ref aTp, .int vtl', .int vta', .int vtt'])), (aTp, .inl (cyI, 552, .inl vtp'))] H := by rw [← e1, ← e2, ← e3, ← e4, ← e5, ← e6, ← e7, ← e8, ← e9, ← e10, ← e11, ← e12, ← e13, ← e14, ← e15, ← e16]; exact hP
        exact W.zret hx hb hr rfl (fun t ht hW => ⟨⟨_, (), rfl, e0, x_ret hP9 ht⟩, hS.F ht⟩) hS.2.2 dL_refusesAny_271
      · have hF := k_if_t hF hc
        refine lv_aload_n hx hb dL_refusesAny_169 rfl (lv_at hl 0 rfl) ?_
        refine lv_iconst (v := (0 : Int32)) hx hb dL_refusesAny_170 (by decide) ?_
        refine lv_iload_n hx hb dL_refusesAny_171 rfl (lv_at hl 1 rfl) ?_
        refine lv_if_ne (tgt := 179) hx hb dL_refusesAny_172 (by decide) (fun hc => ?_) (fun hc => ?_)
        · have hF := k_if_f hF hc
          refine lv_bipush (v := (24 : Int32)) hx hb dL_refusesAny_179 (by decide) ?_
          refine lv_bipush (v := (10 : Int32)) hx hb dL_refusesAny_181 (by decide) ?_
          obtain ⟨r183, vc_183, vhf_183, vhl_183, vhs_183, hC, hF⟩ := k_c5_ex hF
          refine x_VM (As := [.int (0 : Int32), .int (24 : Int32), .int (10 : Int32)]) (rest := []) ⟨hx, hb, hml, hown, hts⟩ (c_X6_file l D cyI cyZ aM aS aC aH aHs aL aP aR aT H.size N (0 : Int32) (24 : Int32) (10 : Int32) vc_162 vhf_162 vhl_162 vhs_162 hC) (cwV 3 hts gL_refusesAny_X6_file rfl rfl rfl (by decide +kernel) ⟨Nat.le_of_ble_eq_true rfl, Nat.le_of_ble_eq_true rfl⟩) hK hP hD hS hA [0, 1, 2, 3, 4] rfl rfl rfl 0 rfl rfl rfl rfl hl.1 rfl (Nat.le_of_ble_eq_true rfl) ⟨Nat.zero_le _, Nat.zero_le _⟩ dL_refusesAny_183 (fun H locs hP hD hS => ?_)
          have hP : va_P D vwCl [(aM, .inr (6, [.ref aS, .ref aH, .ref aL, .ref aP, .ref aR, .ref aT])), (aS, .inr (3, [.ref aC])), (aC, .inl (cyI, 225, .inl vc_183)), (aH, .inr (0, [.ref aHs, .int vhf_183, .int vhl_183])), (aHs, .inl (cyI, 1575, .inl vhs_183)), (aL, .inr (4, [.ref aLs, .int vsf])), (aLs, .inl (cyI, 450, .inl vss)), (aP, .inr (1, [.ref aPc, .int vpl])), (aPc, .inl (cyI, 80, .inl vpp)), (aR, .inr (2, [.ref aP, .ref aRn, .int vra, .int vrk, .int vrt])), (aRn, .inl (cyI, 40, .inl vrn)), (aT, .inr (5, [.ref aTp, .int vtl, .int vta, .int vtt])), (aTp, .inl (cyI, 552, .inl vtp))] H := hP
          have hD : va_D A [(aM, .inr (6, [.ref aS, .ref aH, .ref aL, .ref aP, .ref aR, .ref aT])), (aS, .inr (3, [.ref aC])), (aC, .inl (cyI, 225, .inl vc_183)), (aH, .inr (0, [.ref aHs, .int vhf_183, .int vhl_183])), (aHs, .inl (cyI, 1575, .inl vhs_183)), (aL, .inr (4, [.ref aLs, .int vsf])), (aLs, .inl (cyI, 450, .inl vss)), (aP, .inr (1, [.ref aPc, .int vpl])), (aPc, .inl (cyI, 80, .inl vpp)), (aR, .inr (2, [.ref aP, .ref aRn, .int vra, .int vrk, .int vrt])), (aRn, .inl (cyI, 40, .inl vrn)), (aT, .inr (5, [.ref aTp, .int vtl, .int vta, .int vtt])), (aTp, .inl (cyI, 552, .inl vtp))] := hD
          refine lv_iconst (v := (-1 : Int32)) hx hb dL_refusesAny_186 (by decide) ?_
          refine lv_icmp_ne (tgt := 270) hx hb dL_refusesAny_187 (by decide) (fun hc => ?_) (fun hc => ?_)
          · have hF := k_if_f hF hc
            refine lv_iconst (v := (0 : Int32)) hx hb dL_refusesAny_270 (by decide) ?_
            obtain ⟨e0, e1, e2, e3, e4, e5, e6, e7, e8, e9, e10, e11, e12, e13, e14, e15, e16⟩ := k_inj17 hF
            have hP9 : va_P D vwCl [(aM, .inr (6, [.ref aS, .ref aH, .ref aL, .ref aP, .ref aR, .ref aT])), (aS, .inr (3, [.ref aC])), (aC, .inl (cyI, 225, .inl vc')), (aH, .inr (0, [.ref aHs, .int vhf', .int vhl'])), (aHs, .inl (cyI, 1575, .inl vhs')), (aL, .inr (4, [.ref aLs, .int vsf'])), (aLs, .inl (cyI, 450, .inl vss')), (aP, .inr (1, [.ref aPc, .int vpl'])), (aPc, .inl (cyI, 80, .inl vpp')), (aR, .inr (2, [.ref aP, .ref aRn, .int vra', .int vrk', .int vrt'])), (aRn, .inl (cyI, 40, .inl vrn')), (aT, .inr (5, [.ref aTp, .int vtl', .int vta', .int vtt'])), (aTp, .inl (cyI, 552, .inl vtp'))] H := by rw [← e1, ← e2, ← e3, ← e4, ← e5, ← e6, ← e7, ← e8, ← e9, ← e10, ← e11, ← e12, ← e13, ← e14, ← e15, ← e16]; exact hP
            exact W.zret hx hb hr rfl (fun t ht hW => ⟨⟨_, (), rfl, e0, x_ret hP9 ht⟩, hS.F ht⟩) hS.2.2 dL_refusesAny_271
          · have hF := k_if_t hF hc
            refine lv_aload_n hx hb dL_refusesAny_190 rfl (lv_at hl 0 rfl) ?_
            refine lv_iconst (v := (0 : Int32)) hx hb dL_refusesAny_191 (by decide) ?_
            refine lv_iconst (v := (0 : Int32)) hx hb dL_refusesAny_192 (by decide) ?_
            refine lv_iload_n hx hb dL_refusesAny_193 rfl (lv_at hl 1 rfl) ?_
            refine lv_if_ne (tgt := 202) hx hb dL_refusesAny_194 (by decide) (fun hc => ?_) (fun hc => ?_)
            · have hF := k_if_f hF hc
              refine lv_bipush (v := (10 : Int32)) hx hb dL_refusesAny_202 (by decide) ?_
              exact (hG _ _ _).1 (blk_204 x1 x2 x3 x4 (10 : Int32) (0 : Int32) (0 : Int32) vc_183 vhf_183 vhl_183 vhs_183 vsf vss vpl vpp vra vrk vrt vrn vtl vta vtt vtp hF _ _ _ hP hD hS (lv_sub hl [0, 1, 2, 3, 4] rfl))
            · have hF := k_if_t hF hc
              refine lv_bipush (v := (-10 : Int32)) hx hb dL_refusesAny_197 (by decide) ?_
              refine lv_goto (tgt := 204) hx hb dL_refusesAny_199 (by decide) ?_
              exact (hG _ _ _).1 (blk_204 x1 x2 x3 x4 (-10 : Int32) (0 : Int32) (0 : Int32) vc_183 vhf_183 vhl_183 vhs_183 vsf vss vpl vpp vra vrk vrt vrn vtl vta vtt vtp hF _ _ _ hP hD hS (lv_sub hl [0, 1, 2, 3, 4] rfl))
        · have hF := k_if_t hF hc
          refine lv_iconst (v := (-1 : Int32)) hx hb dL_refusesAny_175 (by decide) ?_
          refine lv_goto (tgt := 181) hx hb dL_refusesAny_176 (by decide) ?_
          refine lv_bipush (v := (10 : Int32)) hx hb dL_refusesAny_181 (by decide) ?_
          obtain ⟨r183, vc_183, vhf_183, vhl_183, vhs_183, hC, hF⟩ := k_c5_ex hF
          refine x_VM (As := [.int (0 : Int32), .int (-1 : Int32), .int (10 : Int32)]) (rest := []) ⟨hx, hb, hml, hown, hts⟩ (c_X6_file l D cyI cyZ aM aS aC aH aHs aL aP aR aT H.size N (0 : Int32) (-1 : Int32) (10 : Int32) vc_162 vhf_162 vhl_162 vhs_162 hC) (cwV 3 hts gL_refusesAny_X6_file rfl rfl rfl (by decide +kernel) ⟨Nat.le_of_ble_eq_true rfl, Nat.le_of_ble_eq_true rfl⟩) hK hP hD hS hA [0, 1, 2, 3, 4] rfl rfl rfl 0 rfl rfl rfl rfl hl.1 rfl (Nat.le_of_ble_eq_true rfl) ⟨Nat.zero_le _, Nat.zero_le _⟩ dL_refusesAny_183 (fun H locs hP hD hS => ?_)
          have hP : va_P D vwCl [(aM, .inr (6, [.ref aS, .ref aH, .ref aL, .ref aP, .ref aR, .ref aT])), (aS, .inr (3, [.ref aC])), (aC, .inl (cyI, 225, .inl vc_183)), (aH, .inr (0, [.ref aHs, .int vhf_183, .int vhl_183])), (aHs, .inl (cyI, 1575, .inl vhs_183)), (aL, .inr (4, [.ref aLs, .int vsf])), (aLs, .inl (cyI, 450, .inl vss)), (aP, .inr (1, [.ref aPc, .int vpl])), (aPc, .inl (cyI, 80, .inl vpp)), (aR, .inr (2, [.ref aP, .ref aRn, .int vra, .int vrk, .int vrt])), (aRn, .inl (cyI, 40, .inl vrn)), (aT, .inr (5, [.ref aTp, .int vtl, .int vta, .int vtt])), (aTp, .inl (cyI, 552, .inl vtp))] H := hP
          have hD : va_D A [(aM, .inr (6, [.ref aS, .ref aH, .ref aL, .ref aP, .ref aR, .ref aT])), (aS, .inr (3, [.ref aC])), (aC, .inl (cyI, 225, .inl vc_183)), (aH, .inr (0, [.ref aHs, .int vhf_183, .int vhl_183])), (aHs, .inl (cyI, 1575, .inl vhs_183)), (aL, .inr (4, [.ref aLs, .int vsf])), (aLs, .inl (cyI, 450, .inl vss)), (aP, .inr (1, [.ref aPc, .int vpl])), (aPc, .inl (cyI, 80, .inl vpp)), (aR, .inr (2, [.ref aP, .ref aRn, .int vra, .int vrk, .int vrt])), (aRn, .inl (cyI, 40, .inl vrn)), (aT, .inr (5, [.ref aTp, .int vtl, .int vta, .int vtt])), (aTp, .inl (cyI, 552, .inl vtp))] := hD
          refine lv_iconst (v := (-1 : Int32)) hx hb dL_refusesAny_186 (by decide) ?_
          refine lv_icmp_ne (tgt := 270) hx hb dL_refusesAny_187 (by decide) (fun hc => ?_) (fun hc => ?_)
          · have hF := k_if_f hF hc
            refine lv_iconst (v := (0 : Int32)) hx hb dL_refusesAny_270 (by decide) ?_
            obtain ⟨e0, e1, e2, e3, e4, e5, e6, e7, e8, e9, e10, e11, e12, e13, e14, e15, e16⟩ := k_inj17 hF
            have hP9 : va_P D vwCl [(aM, .inr (6, [.ref aS, .ref aH, .ref aL, .ref aP, .ref aR, .ref aT])), (aS, .inr (3, [.ref aC])), (aC, .inl (cyI, 225, .inl vc')), (aH, .inr (0, [.ref aHs, .int vhf', .int vhl'])), (aHs, .inl (cyI, 1575, .inl vhs')), (aL, .inr (4, [.ref aLs, .int vsf'])), (aLs, .inl (cyI, 450, .inl vss')), (aP, .inr (1, [.ref aPc, .int vpl'])), (aPc, .inl (cyI, 80, .inl vpp')), (aR, .inr (2, [.ref aP, .ref aRn, .int vra', .int vrk', .int vrt'])), (aRn, .inl (cyI, 40, .inl vrn')), (aT, .inr (5, [.ref aTp, .int vtl', .int vta', .int vtt'])), (aTp, .inl (cyI, 552, .inl vtp'))] H := by rw [← e1, ← e2, ← e3, ← e4, ← e5, ← e6, ← e7, ← e8, ← e9, ← e10, ← e11, ← e12, ← e13, ← e14, ← e15, ← e16]; exact hP
            exact W.zret hx hb hr rfl (fun t ht hW => ⟨⟨_, (), rfl, e0, x_ret hP9 ht⟩, hS.F ht⟩) hS.2.2 dL_refusesAny_271
          · have hF := k_if_t hF hc
            refine lv_aload_n hx hb dL_refusesAny_190 rfl (lv_at hl 0 rfl) ?_
            refine lv_iconst (v := (0 : Int32)) hx hb dL_refusesAny_191 (by decide) ?_
            refine lv_iconst (v := (0 : Int32)) hx hb dL_refusesAny_192 (by decide) ?_
            refine lv_iload_n hx hb dL_refusesAny_193 rfl (lv_at hl 1 rfl) ?_
            refine lv_if_ne (tgt := 202) hx hb dL_refusesAny_194 (by decide) (fun hc => ?_) (fun hc => ?_)
            · have hF := k_if_f hF hc
              refine lv_bipush (v := (10 : Int32)) hx hb dL_refusesAny_202 (by decide) ?_
              exact (hG _ _ _).1 (blk_204 x1 x2 x3 x4 (10 : Int32) (0 : Int32) (0 : Int32) vc_183 vhf_183 vhl_183 vhs_183 vsf vss vpl vpp vra vrk vrt vrn vtl vta vtt vtp hF _ _ _ hP hD hS (lv_sub hl [0, 1, 2, 3, 4] rfl))
            · have hF := k_if_t hF hc
              refine lv_bipush (v := (-10 : Int32)) hx hb dL_refusesAny_197 (by decide) ?_
              refine lv_goto (tgt := 204) hx hb dL_refusesAny_199 (by decide) ?_
              exact (hG _ _ _).1 (blk_204 x1 x2 x3 x4 (-10 : Int32) (0 : Int32) (0 : Int32) vc_183 vhf_183 vhl_183 vhs_183 vsf vss vpl vpp vra vrk vrt vrn vtl vta vtt vtp hF _ _ _ hP hD hS (lv_sub hl [0, 1, 2, 3, 4] rfl))
  have blk_108 : ∀ (x1 : Int32) (x2 : Int32) (x3 : Int32) (x4 : Int32) (t0 : Int32) (t1 : Int32) (vc : (Nat → Int32)) (vhf : Int32) (vhl : Int32) (vhs : (Nat → Int32)) (vsf : Int32) (vss : (Nat → Int32)) (vpl : Int32) (vpp : (Nat → Int32)) (vra : Int32) (vrk : Int32) (vrt : Int32) (vrn : (Nat → Int32)) (vtl : Int32) (vta : Int32) (vtt : Int32) (vtp : (Nat → Int32)), b_L_refusesAny_108 N x1 x2 x3 x4 t0 t1 vc vhf vhl vhs vsf vss vpl vpp vra vrk vrt vrn vtl vta vtt vtp = some (r0, vc', vhf', vhl', vhs', vsf', vss', vpl', vpp', vra', vrk', vrt', vrn', vtl', vta', vtt', vtp') → ∀ (H : Heap) (locs : List Loc) (ls : Array Slot), va_P D vwCl [(aM, .inr (6, [.ref aS, .ref aH, .ref aL, .ref aP, .ref aR, .ref aT])), (aS, .inr (3, [.ref aC])), (aC, .inl (cyI, 225, .inl vc)), (aH, .inr (0, [.ref aHs, .int vhf, .int vhl])), (aHs, .inl (cyI, 1575, .inl vhs)), (aL, .inr (4, [.ref aLs, .int vsf])), (aLs, .inl (cyI, 450, .inl vss)), (aP, .inr (1, [.ref aPc, .int vpl])), (aPc, .inl (cyI, 80, .inl vpp)), (aR, .inr (2, [.ref aP, .ref aRn, .int vra, .int vrk, .int vrt])), (aRn, .inl (cyI, 40, .inl vrn)), (aT, .inr (5, [.ref aTp, .int vtl, .int vta, .int vtt])), (aTp, .inl (cyI, 552, .inl vtp))] H → va_D A [(aM, .inr (6, [.ref aS, .ref aH, .ref aL, .ref aP, .ref aR, .ref aT])), (aS, .inr (3, [.ref aC])), (aC, .inl (cyI, 225, .inl vc)), (aH, .inr (0, [.ref aHs, .int vhf, .int vhl])), (aHs, .inl (cyI, 1575, .inl vhs)), (aL, .inr (4, [.ref aLs, .int vsf])), (aLs, .inl (cyI, 450, .inl vss)), (aP, .inr (1, [.ref aPc, .int vpl])), (aPc, .inl (cyI, 80, .inl vpp)), (aR, .inr (2, [.ref aP, .ref aRn, .int vra, .int vrk, .int vrt])), (aRn, .inl (cyI, 40, .inl vrn)), (aT, .inr (5, [.ref aTp, .int vtl, .int vta, .int vtt])), (aTp, .inl (cyI, 552, .inl vtp))] → va_S A s.heap H locs → lv_has ls 5 [(0, .ref aM), (1, .int x1), (2, .int x2), (3, .int x3), (4, .int x4)] → G H locs (F0 m 108 ls [.int t0, .int t1, .ref aM]) := by
    intro x1 x2 x3 x4 t0 t1 vc vhf vhl vhs vsf vss vpl vpp vra vrk vrt vrn vtl vta vtt vtp hF H locs ls hP hD hS hl
    unfold b_L_refusesAny_108 at hF
    refine (hG _ _ _).2 ?_
    obtain ⟨r108, vc_108, vhf_108, vhl_108, vhs_108, hC, hF⟩ := k_c5_ex hF
    refine x_VM (As := [.int t1, .int t0]) (rest := []) ⟨hx, hb, hml, hown, hts⟩ (c_X6_set l D cyI cyZ aM aS aC aH aHs aL aP aR aT H.size N t1 t0 vc vhf vhl vhs hC) (cwV 2 hts gL_refusesAny_X6_set rfl rfl rfl (by decide +kernel) ⟨Nat.le_of_ble_eq_true rfl, Nat.le_of_ble_eq_true rfl⟩) hK hP hD hS hA [0, 1, 2, 3, 4] rfl rfl rfl 0 rfl rfl rfl rfl hl.1 rfl (Nat.le_of_ble_eq_true rfl) ⟨Nat.zero_le _, Nat.zero_le _⟩ dL_refusesAny_108 (fun H locs hP hD hS => ?_)
    have hP : va_P D vwCl [(aM, .inr (6, [.ref aS, .ref aH, .ref aL, .ref aP, .ref aR, .ref aT])), (aS, .inr (3, [.ref aC])), (aC, .inl (cyI, 225, .inl vc_108)), (aH, .inr (0, [.ref aHs, .int vhf_108, .int vhl_108])), (aHs, .inl (cyI, 1575, .inl vhs_108)), (aL, .inr (4, [.ref aLs, .int vsf])), (aLs, .inl (cyI, 450, .inl vss)), (aP, .inr (1, [.ref aPc, .int vpl])), (aPc, .inl (cyI, 80, .inl vpp)), (aR, .inr (2, [.ref aP, .ref aRn, .int vra, .int vrk, .int vrt])), (aRn, .inl (cyI, 40, .inl vrn)), (aT, .inr (5, [.ref aTp, .int vtl, .int vta, .int vtt])), (aTp, .inl (cyI, 552, .inl vtp))] H := hP
    have hD : va_D A [(aM, .inr (6, [.ref aS, .ref aH, .ref aL, .ref aP, .ref aR, .ref aT])), (aS, .inr (3, [.ref aC])), (aC, .inl (cyI, 225, .inl vc_108)), (aH, .inr (0, [.ref aHs, .int vhf_108, .int vhl_108])), (aHs, .inl (cyI, 1575, .inl vhs_108)), (aL, .inr (4, [.ref aLs, .int vsf])), (aLs, .inl (cyI, 450, .inl vss)), (aP, .inr (1, [.ref aPc, .int vpl])), (aPc, .inl (cyI, 80, .inl vpp)), (aR, .inr (2, [.ref aP, .ref aRn, .int vra, .int vrk, .int vrt])), (aRn, .inl (cyI, 40, .inl vrn)), (aT, .inr (5, [.ref aTp, .int vtl, .int vta, .int vtt])), (aTp, .inl (cyI, 552, .inl vtp))] := hD
    refine lv_bipush (v := (-2 : Int32)) hx hb dL_refusesAny_111 (by decide) ?_
    refine lv_icmp_ne (tgt := 270) hx hb dL_refusesAny_113 (by decide) (fun hc => ?_) (fun hc => ?_)
    · have hF := k_if_f hF hc
      refine lv_iconst (v := (0 : Int32)) hx hb dL_refusesAny_270 (by decide) ?_
      obtain ⟨e0, e1, e2, e3, e4, e5, e6, e7, e8, e9, e10, e11, e12, e13, e14, e15, e16⟩ := k_inj17 hF
      have hP9 : va_P D vwCl [(aM, .inr (6, [.ref aS, .ref aH, .ref aL, .ref aP, .ref aR, .ref aT])), (aS, .inr (3, [.ref aC])), (aC, .inl (cyI, 225, .inl vc')), (aH, .inr (0, [.ref aHs, .int vhf', .int vhl'])), (aHs, .inl (cyI, 1575, .inl vhs')), (aL, .inr (4, [.ref aLs, .int vsf'])), (aLs, .inl (cyI, 450, .inl vss')), (aP, .inr (1, [.ref aPc, .int vpl'])), (aPc, .inl (cyI, 80, .inl vpp')), (aR, .inr (2, [.ref aP, .ref aRn, .int vra', .int vrk', .int vrt'])), (aRn, .inl (cyI, 40, .inl vrn')), (aT, .inr (5, [.ref aTp, .int vtl', .int vta', .int vtt'])), (aTp, .inl (cyI, 552, .inl vtp'))] H := by rw [← e1, ← e2, ← e3, ← e4, ← e5, ← e6, ← e7, ← e8, ← e9, ← e10, ← e11, ← e12, ← e13, ← e14, ← e15, ← e16]; exact hP
      exact W.zret hx hb hr rfl (fun t ht hW => ⟨⟨_, (), rfl, e0, x_ret hP9 ht⟩, hS.F ht⟩) hS.2.2 dL_refusesAny_271
    · have hF := k_if_t hF hc
      refine lv_aload_n hx hb dL_refusesAny_116 rfl (lv_at hl 0 rfl) ?_
      refine lv_iload_n hx hb dL_refusesAny_117 rfl (lv_at hl 1 rfl) ?_
      refine lv_if_ne (tgt := 125) hx hb dL_refusesAny_118 (by decide) (fun hc => ?_) (fun hc => ?_)
      · have hF := k_if_f hF hc
        refine lv_bipush (v := (25 : Int32)) hx hb dL_refusesAny_125 (by decide) ?_
        refine lv_iconst (v := (0 : Int32)) hx hb dL_refusesAny_127 (by decide) ?_
        obtain ⟨r128, vc_128, vhf_128, vhl_128, vhs_128, hC, hF⟩ := k_c5_ex hF
        refine x_VM (As := [.int (25 : Int32), .int (0 : Int32)]) (rest := []) ⟨hx, hb, hml, hown, hts⟩ (c_X6_roller l D cyI cyZ aM aS aC aH aHs aL aP aR aT H.size N (25 : Int32) (0 : Int32) vc_108 vhf_108 vhl_108 vhs_108 hC) (cwV 2 hts gL_refusesAny_X6_roller rfl rfl rfl (by decide +kernel) ⟨Nat.le_of_ble_eq_true rfl, Nat.le_of_ble_eq_true rfl⟩) hK hP hD hS hA [0, 1, 2, 3, 4] rfl rfl rfl 0 rfl rfl rfl rfl hl.1 rfl (Nat.le_of_ble_eq_true rfl) ⟨Nat.zero_le _, Nat.zero_le _⟩ dL_refusesAny_128 (fun H locs hP hD hS => ?_)
        have hP : va_P D vwCl [(aM, .inr (6, [.ref aS, .ref aH, .ref aL, .ref aP, .ref aR, .ref aT])), (aS, .inr (3, [.ref aC])), (aC, .inl (cyI, 225, .inl vc_128)), (aH, .inr (0, [.ref aHs, .int vhf_128, .int vhl_128])), (aHs, .inl (cyI, 1575, .inl vhs_128)), (aL, .inr (4, [.ref aLs, .int vsf])), (aLs, .inl (cyI, 450, .inl vss)), (aP, .inr (1, [.ref aPc, .int vpl])), (aPc, .inl (cyI, 80, .inl vpp)), (aR, .inr (2, [.ref aP, .ref aRn, .int vra, .int vrk, .int vrt])), (aRn, .inl (cyI, 40, .inl vrn)), (aT, .inr (5, [.ref aTp, .int vtl, .int vta, .int vtt])), (aTp, .inl (cyI, 552, .inl vtp))] H := hP
        have hD : va_D A [(aM, .inr (6, [.ref aS, .ref aH, .ref aL, .ref aP, .ref aR, .ref aT])), (aS, .inr (3, [.ref aC])), (aC, .inl (cyI, 225, .inl vc_128)), (aH, .inr (0, [.ref aHs, .int vhf_128, .int vhl_128])), (aHs, .inl (cyI, 1575, .inl vhs_128)), (aL, .inr (4, [.ref aLs, .int vsf])), (aLs, .inl (cyI, 450, .inl vss)), (aP, .inr (1, [.ref aPc, .int vpl])), (aPc, .inl (cyI, 80, .inl vpp)), (aR, .inr (2, [.ref aP, .ref aRn, .int vra, .int vrk, .int vrt])), (aRn, .inl (cyI, 40, .inl vrn)), (aT, .inr (5, [.ref aTp, .int vtl, .int vta, .int vtt])), (aTp, .inl (cyI, 552, .inl vtp))] := hD
        refine lv_bipush (v := (-2 : Int32)) hx hb dL_refusesAny_131 (by decide) ?_
        refine lv_icmp_ne (tgt := 270) hx hb dL_refusesAny_133 (by decide) (fun hc => ?_) (fun hc => ?_)
        · have hF := k_if_f hF hc
          refine lv_iconst (v := (0 : Int32)) hx hb dL_refusesAny_270 (by decide) ?_
          obtain ⟨e0, e1, e2, e3, e4, e5, e6, e7, e8, e9, e10, e11, e12, e13, e14, e15, e16⟩ := k_inj17 hF
          have hP9 : va_P D vwCl [(aM, .inr (6, [.ref aS, .ref aH, .ref aL, .ref aP, .ref aR, .ref aT])), (aS, .inr (3, [.ref aC])), (aC, .inl (cyI, 225, .inl vc')), (aH, .inr (0, [.ref aHs, .int vhf', .int vhl'])), (aHs, .inl (cyI, 1575, .inl vhs')), (aL, .inr (4, [.ref aLs, .int vsf'])), (aLs, .inl (cyI, 450, .inl vss')), (aP, .inr (1, [.ref aPc, .int vpl'])), (aPc, .inl (cyI, 80, .inl vpp')), (aR, .inr (2, [.ref aP, .ref aRn, .int vra', .int vrk', .int vrt'])), (aRn, .inl (cyI, 40, .inl vrn')), (aT, .inr (5, [.ref aTp, .int vtl', .int vta', .int vtt'])), (aTp, .inl (cyI, 552, .inl vtp'))] H := by rw [← e1, ← e2, ← e3, ← e4, ← e5, ← e6, ← e7, ← e8, ← e9, ← e10, ← e11, ← e12, ← e13, ← e14, ← e15, ← e16]; exact hP
          exact W.zret hx hb hr rfl (fun t ht hW => ⟨⟨_, (), rfl, e0, x_ret hP9 ht⟩, hS.F ht⟩) hS.2.2 dL_refusesAny_271
        · have hF := k_if_t hF hc
          refine lv_aload_n hx hb dL_refusesAny_136 rfl (lv_at hl 0 rfl) ?_
          refine lv_iconst (v := (2 : Int32)) hx hb dL_refusesAny_137 (by decide) ?_
          refine lv_iload_n hx hb dL_refusesAny_138 rfl (lv_at hl 1 rfl) ?_
          refine lv_if_ne (tgt := 147) hx hb dL_refusesAny_139 (by decide) (fun hc => ?_) (fun hc => ?_)
          · have hF := k_if_f hF hc
            refine lv_bipush (v := (10 : Int32)) hx hb dL_refusesAny_147 (by decide) ?_
            exact (hG _ _ _).1 (blk_149 x1 x2 x3 x4 (10 : Int32) (2 : Int32) vc_128 vhf_128 vhl_128 vhs_128 vsf vss vpl vpp vra vrk vrt vrn vtl vta vtt vtp hF _ _ _ hP hD hS (lv_sub hl [0, 1, 2, 3, 4] rfl))
          · have hF := k_if_t hF hc
            refine lv_bipush (v := (-10 : Int32)) hx hb dL_refusesAny_142 (by decide) ?_
            refine lv_goto (tgt := 149) hx hb dL_refusesAny_144 (by decide) ?_
            exact (hG _ _ _).1 (blk_149 x1 x2 x3 x4 (-10 : Int32) (2 : Int32) vc_128 vhf_128 vhl_128 vhs_128 vsf vss vpl vpp vra vrk vrt vrn vtl vta vtt vtp hF _ _ _ hP hD hS (lv_sub hl [0, 1, 2, 3, 4] rfl))
      · have hF := k_if_t hF hc
        refine lv_iconst (v := (1 : Int32)) hx hb dL_refusesAny_121 (by decide) ?_
        refine lv_goto (tgt := 127) hx hb dL_refusesAny_122 (by decide) ?_
        refine lv_iconst (v := (0 : Int32)) hx hb dL_refusesAny_127 (by decide) ?_
        obtain ⟨r128, vc_128, vhf_128, vhl_128, vhs_128, hC, hF⟩ := k_c5_ex hF
        refine x_VM (As := [.int (1 : Int32), .int (0 : Int32)]) (rest := []) ⟨hx, hb, hml, hown, hts⟩ (c_X6_roller l D cyI cyZ aM aS aC aH aHs aL aP aR aT H.size N (1 : Int32) (0 : Int32) vc_108 vhf_108 vhl_108 vhs_108 hC) (cwV 2 hts gL_refusesAny_X6_roller rfl rfl rfl (by decide +kernel) ⟨Nat.le_of_ble_eq_true rfl, Nat.le_of_ble_eq_true rfl⟩) hK hP hD hS hA [0, 1, 2, 3, 4] rfl rfl rfl 0 rfl rfl rfl rfl hl.1 rfl (Nat.le_of_ble_eq_true rfl) ⟨Nat.zero_le _, Nat.zero_le _⟩ dL_refusesAny_128 (fun H locs hP hD hS => ?_)
        have hP : va_P D vwCl [(aM, .inr (6, [.ref aS, .ref aH, .ref aL, .ref aP, .ref aR, .ref aT])), (aS, .inr (3, [.ref aC])), (aC, .inl (cyI, 225, .inl vc_128)), (aH, .inr (0, [.ref aHs, .int vhf_128, .int vhl_128])), (aHs, .inl (cyI, 1575, .inl vhs_128)), (aL, .inr (4, [.ref aLs, .int vsf])), (aLs, .inl (cyI, 450, .inl vss)), (aP, .inr (1, [.ref aPc, .int vpl])), (aPc, .inl (cyI, 80, .inl vpp)), (aR, .inr (2, [.ref aP, .ref aRn, .int vra, .int vrk, .int vrt])), (aRn, .inl (cyI, 40, .inl vrn)), (aT, .inr (5, [.ref aTp, .int vtl, .int vta, .int vtt])), (aTp, .inl (cyI, 552, .inl vtp))] H := hP
        have hD : va_D A [(aM, .inr (6, [.ref aS, .ref aH, .ref aL, .ref aP, .ref aR, .ref aT])), (aS, .inr (3, [.ref aC])), (aC, .inl (cyI, 225, .inl vc_128)), (aH, .inr (0, [.ref aHs, .int vhf_128, .int vhl_128])), (aHs, .inl (cyI, 1575, .inl vhs_128)), (aL, .inr (4, [.ref aLs, .int vsf])), (aLs, .inl (cyI, 450, .inl vss)), (aP, .inr (1, [.ref aPc, .int vpl])), (aPc, .inl (cyI, 80, .inl vpp)), (aR, .inr (2, [.ref aP, .ref aRn, .int vra, .int vrk, .int vrt])), (aRn, .inl (cyI, 40, .inl vrn)), (aT, .inr (5, [.ref aTp, .int vtl, .int vta, .int vtt])), (aTp, .inl (cyI, 552, .inl vtp))] := hD
        refine lv_bipush (v := (-2 : Int32)) hx hb dL_refusesAny_131 (by decide) ?_
        refine lv_icmp_ne (tgt := 270) hx hb dL_refusesAny_133 (by decide) (fun hc => ?_) (fun hc => ?_)
        · have hF := k_if_f hF hc
          refine lv_iconst (v := (0 : Int32)) hx hb dL_refusesAny_270 (by decide) ?_
          obtain ⟨e0, e1, e2, e3, e4, e5, e6, e7, e8, e9, e10, e11, e12, e13, e14, e15, e16⟩ := k_inj17 hF
          have hP9 : va_P D vwCl [(aM, .inr (6, [.ref aS, .ref aH, .ref aL, .ref aP, .ref aR, .ref aT])), (aS, .inr (3, [.ref aC])), (aC, .inl (cyI, 225, .inl vc')), (aH, .inr (0, [.ref aHs, .int vhf', .int vhl'])), (aHs, .inl (cyI, 1575, .inl vhs')), (aL, .inr (4, [.ref aLs, .int vsf'])), (aLs, .inl (cyI, 450, .inl vss')), (aP, .inr (1, [.ref aPc, .int vpl'])), (aPc, .inl (cyI, 80, .inl vpp')), (aR, .inr (2, [.ref aP, .ref aRn, .int vra', .int vrk', .int vrt'])), (aRn, .inl (cyI, 40, .inl vrn')), (aT, .inr (5, [.ref aTp, .int vtl', .int vta', .int vtt'])), (aTp, .inl (cyI, 552, .inl vtp'))] H := by rw [← e1, ← e2, ← e3, ← e4, ← e5, ← e6, ← e7, ← e8, ← e9, ← e10, ← e11, ← e12, ← e13, ← e14, ← e15, ← e16]; exact hP
          exact W.zret hx hb hr rfl (fun t ht hW => ⟨⟨_, (), rfl, e0, x_ret hP9 ht⟩, hS.F ht⟩) hS.2.2 dL_refusesAny_271
        · have hF := k_if_t hF hc
          refine lv_aload_n hx hb dL_refusesAny_136 rfl (lv_at hl 0 rfl) ?_
          refine lv_iconst (v := (2 : Int32)) hx hb dL_refusesAny_137 (by decide) ?_
          refine lv_iload_n hx hb dL_refusesAny_138 rfl (lv_at hl 1 rfl) ?_
          refine lv_if_ne (tgt := 147) hx hb dL_refusesAny_139 (by decide) (fun hc => ?_) (fun hc => ?_)
          · have hF := k_if_f hF hc
            refine lv_bipush (v := (10 : Int32)) hx hb dL_refusesAny_147 (by decide) ?_
            exact (hG _ _ _).1 (blk_149 x1 x2 x3 x4 (10 : Int32) (2 : Int32) vc_128 vhf_128 vhl_128 vhs_128 vsf vss vpl vpp vra vrk vrt vrn vtl vta vtt vtp hF _ _ _ hP hD hS (lv_sub hl [0, 1, 2, 3, 4] rfl))
          · have hF := k_if_t hF hc
            refine lv_bipush (v := (-10 : Int32)) hx hb dL_refusesAny_142 (by decide) ?_
            refine lv_goto (tgt := 149) hx hb dL_refusesAny_144 (by decide) ?_
            exact (hG _ _ _).1 (blk_149 x1 x2 x3 x4 (-10 : Int32) (2 : Int32) vc_128 vhf_128 vhl_128 vhs_128 vsf vss vpl vpp vra vrk vrt vrn vtl vta vtt vtp hF _ _ _ hP hD hS (lv_sub hl [0, 1, 2, 3, 4] rfl))
  have blk_68 : ∀ (x1 : Int32) (x2 : Int32) (x3 : Int32) (x4 : Int32) (t0 : Int32) (t1 : Int32) (vc : (Nat → Int32)) (vhf : Int32) (vhl : Int32) (vhs : (Nat → Int32)) (vsf : Int32) (vss : (Nat → Int32)) (vpl : Int32) (vpp : (Nat → Int32)) (vra : Int32) (vrk : Int32) (vrt : Int32) (vrn : (Nat → Int32)) (vtl : Int32) (vta : Int32) (vtt : Int32) (vtp : (Nat → Int32)), b_L_refusesAny_68 N x1 x2 x3 x4 t0 t1 vc vhf vhl vhs vsf vss vpl vpp vra vrk vrt vrn vtl vta vtt vtp = some (r0, vc', vhf', vhl', vhs', vsf', vss', vpl', vpp', vra', vrk', vrt', vrn', vtl', vta', vtt', vtp') → ∀ (H : Heap) (locs : List Loc) (ls : Array Slot), va_P D vwCl [(aM, .inr (6, [.ref aS, .ref aH, .ref aL, .ref aP, .ref aR, .ref aT])), (aS, .inr (3, [.ref aC])), (aC, .inl (cyI, 225, .inl vc)), (aH, .inr (0, [.ref aHs, .int vhf, .int vhl])), (aHs, .inl (cyI, 1575, .inl vhs)), (aL, .inr (4, [.ref aLs, .int vsf])), (aLs, .inl (cyI, 450, .inl vss)), (aP, .inr (1, [.ref aPc, .int vpl])), (aPc, .inl (cyI, 80, .inl vpp)), (aR, .inr (2, [.ref aP, .ref aRn, .int vra, .int vrk, .int vrt])), (aRn, .inl (cyI, 40, .inl vrn)), (aT, .inr (5, [.ref aTp, .int vtl, .int vta, .int vtt])), (aTp, .inl (cyI, 552, .inl vtp))] H → va_D A [(aM, .inr (6, [.ref aS, .ref aH, .ref aL, .ref aP, .ref aR, .ref aT])), (aS, .inr (3, [.ref aC])), (aC, .inl (cyI, 225, .inl vc)), (aH, .inr (0, [.ref aHs, .int vhf, .int vhl])), (aHs, .inl (cyI, 1575, .inl vhs)), (aL, .inr (4, [.ref aLs, .int vsf])), (aLs, .inl (cyI, 450, .inl vss)), (aP, .inr (1, [.ref aPc, .int vpl])), (aPc, .inl (cyI, 80, .inl vpp)), (aR, .inr (2, [.ref aP, .ref aRn, .int vra, .int vrk, .int vrt])), (aRn, .inl (cyI, 40, .inl vrn)), (aT, .inr (5, [.ref aTp, .int vtl, .int vta, .int vtt])), (aTp, .inl (cyI, 552, .inl vtp))] → va_S A s.heap H locs → lv_has ls 5 [(0, .ref aM), (1, .int x1), (2, .int x2), (3, .int x3), (4, .int x4)] → G H locs (F0 m 68 ls [.int t0, .int t1, .ref aM]) := by
    intro x1 x2 x3 x4 t0 t1 vc vhf vhl vhs vsf vss vpl vpp vra vrk vrt vrn vtl vta vtt vtp hF H locs ls hP hD hS hl
    unfold b_L_refusesAny_68 at hF
    refine (hG _ _ _).2 ?_
    obtain ⟨r68, vc_68, vhf_68, vhl_68, vhs_68, hC, hF⟩ := k_c5_ex hF
    refine x_VM (As := [.int t1, .int t0]) (rest := []) ⟨hx, hb, hml, hown, hts⟩ (c_X6_set l D cyI cyZ aM aS aC aH aHs aL aP aR aT H.size N t1 t0 vc vhf vhl vhs hC) (cwV 2 hts gL_refusesAny_X6_set rfl rfl rfl (by decide +kernel) ⟨Nat.le_of_ble_eq_true rfl, Nat.le_of_ble_eq_true rfl⟩) hK hP hD hS hA [0, 1, 2, 3, 4] rfl rfl rfl 0 rfl rfl rfl rfl hl.1 rfl (Nat.le_of_ble_eq_true rfl) ⟨Nat.zero_le _, Nat.zero_le _⟩ dL_refusesAny_68 (fun H locs hP hD hS => ?_)
    have hP : va_P D vwCl [(aM, .inr (6, [.ref aS, .ref aH, .ref aL, .ref aP, .ref aR, .ref aT])), (aS, .inr (3, [.ref aC])), (aC, .inl (cyI, 225, .inl vc_68)), (aH, .inr (0, [.ref aHs, .int vhf_68, .int vhl_68])), (aHs, .inl (cyI, 1575, .inl vhs_68)), (aL, .inr (4, [.ref aLs, .int vsf])), (aLs, .inl (cyI, 450, .inl vss)), (aP, .inr (1, [.ref aPc, .int vpl])), (aPc, .inl (cyI, 80, .inl vpp)), (aR, .inr (2, [.ref aP, .ref aRn, .int vra, .int vrk, .int vrt])), (aRn, .inl (cyI, 40, .inl vrn)), (aT, .inr (5, [.ref aTp, .int vtl, .int vta, .int vtt])), (aTp, .inl (cyI, 552, .inl vtp))] H := hP
    have hD : va_D A [(aM, .inr (6, [.ref aS, .ref aH, .ref aL, .ref aP, .ref aR, .ref aT])), (aS, .inr (3, [.ref aC])), (aC, .inl (cyI, 225, .inl vc_68)), (aH, .inr (0, [.ref aHs, .int vhf_68, .int vhl_68])), (aHs, .inl (cyI, 1575, .inl vhs_68)), (aL, .inr (4, [.ref aLs, .int vsf])), (aLs, .inl (cyI, 450, .inl vss)), (aP, .inr (1, [.ref aPc, .int vpl])), (aPc, .inl (cyI, 80, .inl vpp)), (aR, .inr (2, [.ref aP, .ref aRn, .int vra, .int vrk, .int vrt])), (aRn, .inl (cyI, 40, .inl vrn)), (aT, .inr (5, [.ref aTp, .int vtl, .int vta, .int vtt])), (aTp, .inl (cyI, 552, .inl vtp))] := hD
    refine lv_bipush (v := (-2 : Int32)) hx hb dL_refusesAny_71 (by decide) ?_
    refine lv_icmp_ne (tgt := 270) hx hb dL_refusesAny_73 (by decide) (fun hc => ?_) (fun hc => ?_)
    · have hF := k_if_f hF hc
      refine lv_iconst (v := (0 : Int32)) hx hb dL_refusesAny_270 (by decide) ?_
      obtain ⟨e0, e1, e2, e3, e4, e5, e6, e7, e8, e9, e10, e11, e12, e13, e14, e15, e16⟩ := k_inj17 hF
      have hP9 : va_P D vwCl [(aM, .inr (6, [.ref aS, .ref aH, .ref aL, .ref aP, .ref aR, .ref aT])), (aS, .inr (3, [.ref aC])), (aC, .inl (cyI, 225, .inl vc')), (aH, .inr (0, [.ref aHs, .int vhf', .int vhl'])), (aHs, .inl (cyI, 1575, .inl vhs')), (aL, .inr (4, [.ref aLs, .int vsf'])), (aLs, .inl (cyI, 450, .inl vss')), (aP, .inr (1, [.ref aPc, .int vpl'])), (aPc, .inl (cyI, 80, .inl vpp')), (aR, .inr (2, [.ref aP, .ref aRn, .int vra', .int vrk', .int vrt'])), (aRn, .inl (cyI, 40, .inl vrn')), (aT, .inr (5, [.ref aTp, .int vtl', .int vta', .int vtt'])), (aTp, .inl (cyI, 552, .inl vtp'))] H := by rw [← e1, ← e2, ← e3, ← e4, ← e5, ← e6, ← e7, ← e8, ← e9, ← e10, ← e11, ← e12, ← e13, ← e14, ← e15, ← e16]; exact hP
      exact W.zret hx hb hr rfl (fun t ht hW => ⟨⟨_, (), rfl, e0, x_ret hP9 ht⟩, hS.F ht⟩) hS.2.2 dL_refusesAny_271
    · have hF := k_if_t hF hc
      refine lv_aload_n hx hb dL_refusesAny_76 rfl (lv_at hl 0 rfl) ?_
      refine lv_iconst (v := (1 : Int32)) hx hb dL_refusesAny_77 (by decide) ?_
      refine lv_iload_n hx hb dL_refusesAny_78 rfl (lv_at hl 1 rfl) ?_
      refine lv_if_ne (tgt := 86) hx hb dL_refusesAny_79 (by decide) (fun hc => ?_) (fun hc => ?_)
      · have hF := k_if_f hF hc
        refine lv_bipush (v := (31 : Int32)) hx hb dL_refusesAny_86 (by decide) ?_
        obtain ⟨r88, vc_88, vhf_88, vhl_88, vhs_88, hC, hF⟩ := k_c5_ex hF
        refine x_VM (As := [.int (1 : Int32), .int (31 : Int32)]) (rest := []) ⟨hx, hb, hml, hown, hts⟩ (c_X6_set l D cyI cyZ aM aS aC aH aHs aL aP aR aT H.size N (1 : Int32) (31 : Int32) vc_68 vhf_68 vhl_68 vhs_68 hC) (cwV 2 hts gL_refusesAny_X6_set rfl rfl rfl (by decide +kernel) ⟨Nat.le_of_ble_eq_true rfl, Nat.le_of_ble_eq_true rfl⟩) hK hP hD hS hA [0, 1, 2, 3, 4] rfl rfl rfl 0 rfl rfl rfl rfl hl.1 rfl (Nat.le_of_ble_eq_true rfl) ⟨Nat.zero_le _, Nat.zero_le _⟩ dL_refusesAny_88 (fun H locs hP hD hS => ?_)
        have hP : va_P D vwCl [(aM, .inr (6, [.ref aS, .ref aH, .ref aL, .ref aP, .ref aR, .ref aT])), (aS, .inr (3, [.ref aC])), (aC, .inl (cyI, 225, .inl vc_88)), (aH, .inr (0, [.ref aHs, .int vhf_88, .int vhl_88])), (aHs, .inl (cyI, 1575, .inl vhs_88)), (aL, .inr (4, [.ref aLs, .int vsf])), (aLs, .inl (cyI, 450, .inl vss)), (aP, .inr (1, [.ref aPc, .int vpl])), (aPc, .inl (cyI, 80, .inl vpp)), (aR, .inr (2, [.ref aP, .ref aRn, .int vra, .int vrk, .int vrt])), (aRn, .inl (cyI, 40, .inl vrn)), (aT, .inr (5, [.ref aTp, .int vtl, .int vta, .int vtt])), (aTp, .inl (cyI, 552, .inl vtp))] H := hP
        have hD : va_D A [(aM, .inr (6, [.ref aS, .ref aH, .ref aL, .ref aP, .ref aR, .ref aT])), (aS, .inr (3, [.ref aC])), (aC, .inl (cyI, 225, .inl vc_88)), (aH, .inr (0, [.ref aHs, .int vhf_88, .int vhl_88])), (aHs, .inl (cyI, 1575, .inl vhs_88)), (aL, .inr (4, [.ref aLs, .int vsf])), (aLs, .inl (cyI, 450, .inl vss)), (aP, .inr (1, [.ref aPc, .int vpl])), (aPc, .inl (cyI, 80, .inl vpp)), (aR, .inr (2, [.ref aP, .ref aRn, .int vra, .int vrk, .int vrt])), (aRn, .inl (cyI, 40, .inl vrn)), (aT, .inr (5, [.ref aTp, .int vtl, .int vta, .int vtt])), (aTp, .inl (cyI, 552, .inl vtp))] := hD
        refine lv_bipush (v := (-2 : Int32)) hx hb dL_refusesAny_91 (by decide) ?_
        refine lv_icmp_ne (tgt := 270) hx hb dL_refusesAny_93 (by decide) (fun hc => ?_) (fun hc => ?_)
        · have hF := k_if_f hF hc
          refine lv_iconst (v := (0 : Int32)) hx hb dL_refusesAny_270 (by decide) ?_
          obtain ⟨e0, e1, e2, e3, e4, e5, e6, e7, e8, e9, e10, e11, e12, e13, e14, e15, e16⟩ := k_inj17 hF
          have hP9 : va_P D vwCl [(aM, .inr (6, [.ref aS, .ref aH, .ref aL, .ref aP, .ref aR, .ref aT])), (aS, .inr (3, [.ref aC])), (aC, .inl (cyI, 225, .inl vc')), (aH, .inr (0, [.ref aHs, .int vhf', .int vhl'])), (aHs, .inl (cyI, 1575, .inl vhs')), (aL, .inr (4, [.ref aLs, .int vsf'])), (aLs, .inl (cyI, 450, .inl vss')), (aP, .inr (1, [.ref aPc, .int vpl'])), (aPc, .inl (cyI, 80, .inl vpp')), (aR, .inr (2, [.ref aP, .ref aRn, .int vra', .int vrk', .int vrt'])), (aRn, .inl (cyI, 40, .inl vrn')), (aT, .inr (5, [.ref aTp, .int vtl', .int vta', .int vtt'])), (aTp, .inl (cyI, 552, .inl vtp'))] H := by rw [← e1, ← e2, ← e3, ← e4, ← e5, ← e6, ← e7, ← e8, ← e9, ← e10, ← e11, ← e12, ← e13, ← e14, ← e15, ← e16]; exact hP
          exact W.zret hx hb hr rfl (fun t ht hW => ⟨⟨_, (), rfl, e0, x_ret hP9 ht⟩, hS.F ht⟩) hS.2.2 dL_refusesAny_271
        · have hF := k_if_t hF hc
          refine lv_aload_n hx hb dL_refusesAny_96 rfl (lv_at hl 0 rfl) ?_
          refine lv_iconst (v := (2 : Int32)) hx hb dL_refusesAny_97 (by decide) ?_
          refine lv_iload_n hx hb dL_refusesAny_98 rfl (lv_at hl 1 rfl) ?_
          refine lv_if_ne (tgt := 106) hx hb dL_refusesAny_99 (by decide) (fun hc => ?_) (fun hc => ?_)
          · have hF := k_if_f hF hc
            refine lv_bipush (v := (100 : Int32)) hx hb dL_refusesAny_106 (by decide) ?_
            exact (hG _ _ _).1 (blk_108 x1 x2 x3 x4 (100 : Int32) (2 : Int32) vc_88 vhf_88 vhl_88 vhs_88 vsf vss vpl vpp vra vrk vrt vrn vtl vta vtt vtp hF _ _ _ hP hD hS (lv_sub hl [0, 1, 2, 3, 4] rfl))
          · have hF := k_if_t hF hc
            refine lv_iconst (v := (0 : Int32)) hx hb dL_refusesAny_102 (by decide) ?_
            refine lv_goto (tgt := 108) hx hb dL_refusesAny_103 (by decide) ?_
            exact (hG _ _ _).1 (blk_108 x1 x2 x3 x4 (0 : Int32) (2 : Int32) vc_88 vhf_88 vhl_88 vhs_88 vsf vss vpl vpp vra vrk vrt vrn vtl vta vtt vtp hF _ _ _ hP hD hS (lv_sub hl [0, 1, 2, 3, 4] rfl))
      · have hF := k_if_t hF hc
        refine lv_iconst (v := (-1 : Int32)) hx hb dL_refusesAny_82 (by decide) ?_
        refine lv_goto (tgt := 88) hx hb dL_refusesAny_83 (by decide) ?_
        obtain ⟨r88, vc_88, vhf_88, vhl_88, vhs_88, hC, hF⟩ := k_c5_ex hF
        refine x_VM (As := [.int (1 : Int32), .int (-1 : Int32)]) (rest := []) ⟨hx, hb, hml, hown, hts⟩ (c_X6_set l D cyI cyZ aM aS aC aH aHs aL aP aR aT H.size N (1 : Int32) (-1 : Int32) vc_68 vhf_68 vhl_68 vhs_68 hC) (cwV 2 hts gL_refusesAny_X6_set rfl rfl rfl (by decide +kernel) ⟨Nat.le_of_ble_eq_true rfl, Nat.le_of_ble_eq_true rfl⟩) hK hP hD hS hA [0, 1, 2, 3, 4] rfl rfl rfl 0 rfl rfl rfl rfl hl.1 rfl (Nat.le_of_ble_eq_true rfl) ⟨Nat.zero_le _, Nat.zero_le _⟩ dL_refusesAny_88 (fun H locs hP hD hS => ?_)
        have hP : va_P D vwCl [(aM, .inr (6, [.ref aS, .ref aH, .ref aL, .ref aP, .ref aR, .ref aT])), (aS, .inr (3, [.ref aC])), (aC, .inl (cyI, 225, .inl vc_88)), (aH, .inr (0, [.ref aHs, .int vhf_88, .int vhl_88])), (aHs, .inl (cyI, 1575, .inl vhs_88)), (aL, .inr (4, [.ref aLs, .int vsf])), (aLs, .inl (cyI, 450, .inl vss)), (aP, .inr (1, [.ref aPc, .int vpl])), (aPc, .inl (cyI, 80, .inl vpp)), (aR, .inr (2, [.ref aP, .ref aRn, .int vra, .int vrk, .int vrt])), (aRn, .inl (cyI, 40, .inl vrn)), (aT, .inr (5, [.ref aTp, .int vtl, .int vta, .int vtt])), (aTp, .inl (cyI, 552, .inl vtp))] H := hP
        have hD : va_D A [(aM, .inr (6, [.ref aS, .ref aH, .ref aL, .ref aP, .ref aR, .ref aT])), (aS, .inr (3, [.ref aC])), (aC, .inl (cyI, 225, .inl vc_88)), (aH, .inr (0, [.ref aHs, .int vhf_88, .int vhl_88])), (aHs, .inl (cyI, 1575, .inl vhs_88)), (aL, .inr (4, [.ref aLs, .int vsf])), (aLs, .inl (cyI, 450, .inl vss)), (aP, .inr (1, [.ref aPc, .int vpl])), (aPc, .inl (cyI, 80, .inl vpp)), (aR, .inr (2, [.ref aP, .ref aRn, .int vra, .int vrk, .int vrt])), (aRn, .inl (cyI, 40, .inl vrn)), (aT, .inr (5, [.ref aTp, .int vtl, .int vta, .int vtt])), (aTp, .inl (cyI, 552, .inl vtp))] := hD
        refine lv_bipush (v := (-2 : Int32)) hx hb dL_refusesAny_91 (by decide) ?_
        refine lv_icmp_ne (tgt := 270) hx hb dL_refusesAny_93 (by decide) (fun hc => ?_) (fun hc => ?_)
        · have hF := k_if_f hF hc
          refine lv_iconst (v := (0 : Int32)) hx hb dL_refusesAny_270 (by decide) ?_
          obtain ⟨e0, e1, e2, e3, e4, e5, e6, e7, e8, e9, e10, e11, e12, e13, e14, e15, e16⟩ := k_inj17 hF
          have hP9 : va_P D vwCl [(aM, .inr (6, [.ref aS, .ref aH, .ref aL, .ref aP, .ref aR, .ref aT])), (aS, .inr (3, [.ref aC])), (aC, .inl (cyI, 225, .inl vc')), (aH, .inr (0, [.ref aHs, .int vhf', .int vhl'])), (aHs, .inl (cyI, 1575, .inl vhs')), (aL, .inr (4, [.ref aLs, .int vsf'])), (aLs, .inl (cyI, 450, .inl vss')), (aP, .inr (1, [.ref aPc, .int vpl'])), (aPc, .inl (cyI, 80, .inl vpp')), (aR, .inr (2, [.ref aP, .ref aRn, .int vra', .int vrk', .int vrt'])), (aRn, .inl (cyI, 40, .inl vrn')), (aT, .inr (5, [.ref aTp, .int vtl', .int vta', .int vtt'])), (aTp, .inl (cyI, 552, .inl vtp'))] H := by rw [← e1, ← e2, ← e3, ← e4, ← e5, ← e6, ← e7, ← e8, ← e9, ← e10, ← e11, ← e12, ← e13, ← e14, ← e15, ← e16]; exact hP
          exact W.zret hx hb hr rfl (fun t ht hW => ⟨⟨_, (), rfl, e0, x_ret hP9 ht⟩, hS.F ht⟩) hS.2.2 dL_refusesAny_271
        · have hF := k_if_t hF hc
          refine lv_aload_n hx hb dL_refusesAny_96 rfl (lv_at hl 0 rfl) ?_
          refine lv_iconst (v := (2 : Int32)) hx hb dL_refusesAny_97 (by decide) ?_
          refine lv_iload_n hx hb dL_refusesAny_98 rfl (lv_at hl 1 rfl) ?_
          refine lv_if_ne (tgt := 106) hx hb dL_refusesAny_99 (by decide) (fun hc => ?_) (fun hc => ?_)
          · have hF := k_if_f hF hc
            refine lv_bipush (v := (100 : Int32)) hx hb dL_refusesAny_106 (by decide) ?_
            exact (hG _ _ _).1 (blk_108 x1 x2 x3 x4 (100 : Int32) (2 : Int32) vc_88 vhf_88 vhl_88 vhs_88 vsf vss vpl vpp vra vrk vrt vrn vtl vta vtt vtp hF _ _ _ hP hD hS (lv_sub hl [0, 1, 2, 3, 4] rfl))
          · have hF := k_if_t hF hc
            refine lv_iconst (v := (0 : Int32)) hx hb dL_refusesAny_102 (by decide) ?_
            refine lv_goto (tgt := 108) hx hb dL_refusesAny_103 (by decide) ?_
            exact (hG _ _ _).1 (blk_108 x1 x2 x3 x4 (0 : Int32) (2 : Int32) vc_88 vhf_88 vhl_88 vhs_88 vsf vss vpl vpp vra vrk vrt vrn vtl vta vtt vtp hF _ _ _ hP hD hS (lv_sub hl [0, 1, 2, 3, 4] rfl))
  have blk_35 : ∀ (x1 : Int32) (x2 : Int32) (x3 : Int32) (t0 : Int32) (vc : (Nat → Int32)) (vhf : Int32) (vhl : Int32) (vhs : (Nat → Int32)) (vsf : Int32) (vss : (Nat → Int32)) (vpl : Int32) (vpp : (Nat → Int32)) (vra : Int32) (vrk : Int32) (vrt : Int32) (vrn : (Nat → Int32)) (vtl : Int32) (vta : Int32) (vtt : Int32) (vtp : (Nat → Int32)), b_L_refusesAny_35 N x1 x2 x3 t0 vc vhf vhl vhs vsf vss vpl vpp vra vrk vrt vrn vtl vta vtt vtp = some (r0, vc', vhf', vhl', vhs', vsf', vss', vpl', vpp', vra', vrk', vrt', vrn', vtl', vta', vtt', vtp') → ∀ (H : Heap) (locs : List Loc) (ls : Array Slot), va_P D vwCl [(aM, .inr (6, [.ref aS, .ref aH, .ref aL, .ref aP, .ref aR, .ref aT])), (aS, .inr (3, [.ref aC])), (aC, .inl (cyI, 225, .inl vc)), (aH, .inr (0, [.ref aHs, .int vhf, .int vhl])), (aHs, .inl (cyI, 1575, .inl vhs)), (aL, .inr (4, [.ref aLs, .int vsf])), (aLs, .inl (cyI, 450, .inl vss)), (aP, .inr (1, [.ref aPc, .int vpl])), (aPc, .inl (cyI, 80, .inl vpp)), (aR, .inr (2, [.ref aP, .ref aRn, .int vra, .int vrk, .int vrt])), (aRn, .inl (cyI, 40, .inl vrn)), (aT, .inr (5, [.ref aTp, .int vtl, .int vta, .int vtt])), (aTp, .inl (cyI, 552, .inl vtp))] H → va_D A [(aM, .inr (6, [.ref aS, .ref aH, .ref aL, .ref aP, .ref aR, .ref aT])), (aS, .inr (3, [.ref aC])), (aC, .inl (cyI, 225, .inl vc)), (aH, .inr (0, [.ref aHs, .int vhf, .int vhl])), (aHs, .inl (cyI, 1575, .inl vhs)), (aL, .inr (4, [.ref aLs, .int vsf])), (aLs, .inl (cyI, 450, .inl vss)), (aP, .inr (1, [.ref aPc, .int vpl])), (aPc, .inl (cyI, 80, .inl vpp)), (aR, .inr (2, [.ref aP, .ref aRn, .int vra, .int vrk, .int vrt])), (aRn, .inl (cyI, 40, .inl vrn)), (aT, .inr (5, [.ref aTp, .int vtl, .int vta, .int vtt])), (aTp, .inl (cyI, 552, .inl vtp))] → va_S A s.heap H locs → lv_has ls 5 [(0, .ref aM), (1, .int x1), (2, .int x2), (3, .int x3)] → G H locs (F0 m 35 ls [.int t0]) := by
    intro x1 x2 x3 t0 vc vhf vhl vhs vsf vss vpl vpp vra vrk vrt vrn vtl vta vtt vtp hF H locs ls hP hD hS hl
    unfold b_L_refusesAny_35 at hF
    refine (hG _ _ _).2 ?_
    refine lv_istore (lv' := [(4, .int t0), (0, .ref aM), (1, .int x1), (2, .int x2), (3, .int x3)]) hx hb dL_refusesAny_35 hl (by decide) rfl (fun ls hl => ?_)
    refine lv_aload_n hx hb dL_refusesAny_37 rfl (lv_at hl 1 rfl) ?_
    refine lv_iload_n hx hb dL_refusesAny_38 rfl (lv_at hl 2 rfl) ?_
    refine lv_if_ne (tgt := 46) hx hb dL_refusesAny_39 (by decide) (fun hc => ?_) (fun hc => ?_)
    · have hF := k_if_f hF hc
      refine lv_iconst (v := (3 : Int32)) hx hb dL_refusesAny_46 (by decide) ?_
      refine lv_iconst (v := (1 : Int32)) hx hb dL_refusesAny_47 (by decide) ?_
      obtain ⟨r48, vc_48, vhf_48, vhl_48, vhs_48, hC, hF⟩ := k_c5_ex hF
      refine x_VM (As := [.int (3 : Int32), .int (1 : Int32)]) (rest := []) ⟨hx, hb, hml, hown, hts⟩ (c_X6_set l D cyI cyZ aM aS aC aH aHs aL aP aR aT H.size N (3 : Int32) (1 : Int32) vc vhf vhl vhs hC) (cwV 2 hts gL_refusesAny_X6_set rfl rfl rfl (by decide +kernel) ⟨Nat.le_of_ble_eq_true rfl, Nat.le_of_ble_eq_true rfl⟩) hK hP hD hS hA [0, 1, 2, 3, 4] rfl rfl rfl 0 rfl rfl rfl rfl hl.1 rfl (Nat.le_of_ble_eq_true rfl) ⟨Nat.zero_le _, Nat.zero_le _⟩ dL_refusesAny_48 (fun H locs hP hD hS => ?_)
      have hP : va_P D vwCl [(aM, .inr (6, [.ref aS, .ref aH, .ref aL, .ref aP, .ref aR, .ref aT])), (aS, .inr (3, [.ref aC])), (aC, .inl (cyI, 225, .inl vc_48)), (aH, .inr (0, [.ref aHs, .int vhf_48, .int vhl_48])), (aHs, .inl (cyI, 1575, .inl vhs_48)), (aL, .inr (4, [.ref aLs, .int vsf])), (aLs, .inl (cyI, 450, .inl vss)), (aP, .inr (1, [.ref aPc, .int vpl])), (aPc, .inl (cyI, 80, .inl vpp)), (aR, .inr (2, [.ref aP, .ref aRn, .int vra, .int vrk, .int vrt])), (aRn, .inl (cyI, 40, .inl vrn)), (aT, .inr (5, [.ref aTp, .int vtl, .int vta, .int vtt])), (aTp, .inl (cyI, 552, .inl vtp))] H := hP
      have hD : va_D A [(aM, .inr (6, [.ref aS, .ref aH, .ref aL, .ref aP, .ref aR, .ref aT])), (aS, .inr (3, [.ref aC])), (aC, .inl (cyI, 225, .inl vc_48)), (aH, .inr (0, [.ref aHs, .int vhf_48, .int vhl_48])), (aHs, .inl (cyI, 1575, .inl vhs_48)), (aL, .inr (4, [.ref aLs, .int vsf])), (aLs, .inl (cyI, 450, .inl vss)), (aP, .inr (1, [.ref aPc, .int vpl])), (aPc, .inl (cyI, 80, .inl vpp)), (aR, .inr (2, [.ref aP, .ref aRn, .int vra, .int vrk, .int vrt])), (aRn, .inl (cyI, 40, .inl vrn)), (aT, .inr (5, [.ref aTp, .int vtl, .int vta, .int vtt])), (aTp, .inl (cyI, 552, .inl vtp))] := hD
      refine lv_bipush (v := (-2 : Int32)) hx hb dL_refusesAny_51 (by decide) ?_
      refine lv_icmp_ne (tgt := 270) hx hb dL_refusesAny_53 (by decide) (fun hc => ?_) (fun hc => ?_)
      · have hF := k_if_f hF hc
        refine lv_iconst (v := (0 : Int32)) hx hb dL_refusesAny_270 (by decide) ?_
        obtain ⟨e0, e1, e2, e3, e4, e5, e6, e7, e8, e9, e10, e11, e12, e13, e14, e15, e16⟩ := k_inj17 hF
        have hP9 : va_P D vwCl [(aM, .inr (6, [.ref aS, .ref aH, .ref aL, .ref aP, .ref aR, .ref aT])), (aS, .inr (3, [.ref aC])), (aC, .inl (cyI, 225, .inl vc')), (aH, .inr (0, [.ref aHs, .int vhf', .int vhl'])), (aHs, .inl (cyI, 1575, .inl vhs')), (aL, .inr (4, [.ref aLs, .int vsf'])), (aLs, .inl (cyI, 450, .inl vss')), (aP, .inr (1, [.ref aPc, .int vpl'])), (aPc, .inl (cyI, 80, .inl vpp')), (aR, .inr (2, [.ref aP, .ref aRn, .int vra', .int vrk', .int vrt'])), (aRn, .inl (cyI, 40, .inl vrn')), (aT, .inr (5, [.ref aTp, .int vtl', .int vta', .int vtt'])), (aTp, .inl (cyI, 552, .inl vtp'))] H := by rw [← e1, ← e2, ← e3, ← e4, ← e5, ← e6, ← e7, ← e8, ← e9, ← e10, ← e11, ← e12, ← e13, ← e14, ← e15, ← e16]; exact hP
        exact W.zret hx hb hr rfl (fun t ht hW => ⟨⟨_, (), rfl, e0, x_ret hP9 ht⟩, hS.F ht⟩) hS.2.2 dL_refusesAny_271
      · have hF := k_if_t hF hc
        refine lv_aload_n hx hb dL_refusesAny_56 rfl (lv_at hl 1 rfl) ?_
        refine lv_iconst (v := (0 : Int32)) hx hb dL_refusesAny_57 (by decide) ?_
        refine lv_iload_n hx hb dL_refusesAny_58 rfl (lv_at hl 2 rfl) ?_
        refine lv_if_ne (tgt := 66) hx hb dL_refusesAny_59 (by decide) (fun hc => ?_) (fun hc => ?_)
        · have hF := k_if_f hF hc
          refine lv_bipush (v := (31 : Int32)) hx hb dL_refusesAny_66 (by decide) ?_
          exact (hG _ _ _).1 (blk_68 x1 x2 x3 t0 (31 : Int32) (0 : Int32) vc_48 vhf_48 vhl_48 vhs_48 vsf vss vpl vpp vra vrk vrt vrn vtl vta vtt vtp hF _ _ _ hP hD hS (lv_sub hl [1, 2, 3, 4, 0] rfl))
        · have hF := k_if_t hF hc
          refine lv_iconst (v := (-1 : Int32)) hx hb dL_refusesAny_62 (by decide) ?_
          refine lv_goto (tgt := 68) hx hb dL_refusesAny_63 (by decide) ?_
          exact (hG _ _ _).1 (blk_68 x1 x2 x3 t0 (-1 : Int32) (0 : Int32) vc_48 vhf_48 vhl_48 vhs_48 vsf vss vpl vpp vra vrk vrt vrn vtl vta vtt vtp hF _ _ _ hP hD hS (lv_sub hl [1, 2, 3, 4, 0] rfl))
    · have hF := k_if_t hF hc
      refine lv_iconst (v := (-1 : Int32)) hx hb dL_refusesAny_42 (by decide) ?_
      refine lv_goto (tgt := 47) hx hb dL_refusesAny_43 (by decide) ?_
      refine lv_iconst (v := (1 : Int32)) hx hb dL_refusesAny_47 (by decide) ?_
      obtain ⟨r48, vc_48, vhf_48, vhl_48, vhs_48, hC, hF⟩ := k_c5_ex hF
      refine x_VM (As := [.int (-1 : Int32), .int (1 : Int32)]) (rest := []) ⟨hx, hb, hml, hown, hts⟩ (c_X6_set l D cyI cyZ aM aS aC aH aHs aL aP aR aT H.size N (-1 : Int32) (1 : Int32) vc vhf vhl vhs hC) (cwV 2 hts gL_refusesAny_X6_set rfl rfl rfl (by decide +kernel) ⟨Nat.le_of_ble_eq_true rfl, Nat.le_of_ble_eq_true rfl⟩) hK hP hD hS hA [0, 1, 2, 3, 4] rfl rfl rfl 0 rfl rfl rfl rfl hl.1 rfl (Nat.le_of_ble_eq_true rfl) ⟨Nat.zero_le _, Nat.zero_le _⟩ dL_refusesAny_48 (fun H locs hP hD hS => ?_)
      have hP : va_P D vwCl [(aM, .inr (6, [.ref aS, .ref aH, .ref aL, .ref aP, .ref aR, .ref aT])), (aS, .inr (3, [.ref aC])), (aC, .inl (cyI, 225, .inl vc_48)), (aH, .inr (0, [.ref aHs, .int vhf_48, .int vhl_48])), (aHs, .inl (cyI, 1575, .inl vhs_48)), (aL, .inr (4, [.ref aLs, .int vsf])), (aLs, .inl (cyI, 450, .inl vss)), (aP, .inr (1, [.ref aPc, .int vpl])), (aPc, .inl (cyI, 80, .inl vpp)), (aR, .inr (2, [.ref aP, .ref aRn, .int vra, .int vrk, .int vrt])), (aRn, .inl (cyI, 40, .inl vrn)), (aT, .inr (5, [.ref aTp, .int vtl, .int vta, .int vtt])), (aTp, .inl (cyI, 552, .inl vtp))] H := hP
      have hD : va_D A [(aM, .inr (6, [.ref aS, .ref aH, .ref aL, .ref aP, .ref aR, .ref aT])), (aS, .inr (3, [.ref aC])), (aC, .inl (cyI, 225, .inl vc_48)), (aH, .inr (0, [.ref aHs, .int vhf_48, .int vhl_48])), (aHs, .inl (cyI, 1575, .inl vhs_48)), (aL, .inr (4, [.ref aLs, .int vsf])), (aLs, .inl (cyI, 450, .inl vss)), (aP, .inr (1, [.ref aPc, .int vpl])), (aPc, .inl (cyI, 80, .inl vpp)), (aR, .inr (2, [.ref aP, .ref aRn, .int vra, .int vrk, .int vrt])), (aRn, .inl (cyI, 40, .inl vrn)), (aT, .inr (5, [.ref aTp, .int vtl, .int vta, .int vtt])), (aTp, .inl (cyI, 552, .inl vtp))] := hD
      refine lv_bipush (v := (-2 : Int32)) hx hb dL_refusesAny_51 (by decide) ?_
      refine lv_icmp_ne (tgt := 270) hx hb dL_refusesAny_53 (by decide) (fun hc => ?_) (fun hc => ?_)
      · have hF := k_if_f hF hc
        refine lv_iconst (v := (0 : Int32)) hx hb dL_refusesAny_270 (by decide) ?_
        obtain ⟨e0, e1, e2, e3, e4, e5, e6, e7, e8, e9, e10, e11, e12, e13, e14, e15, e16⟩ := k_inj17 hF
        have hP9 : va_P D vwCl [(aM, .inr (6, [.ref aS, .ref aH, .ref aL, .ref aP, .ref aR, .ref aT])), (aS, .inr (3, [.ref aC])), (aC, .inl (cyI, 225, .inl vc')), (aH, .inr (0, [.ref aHs, .int vhf', .int vhl'])), (aHs, .inl (cyI, 1575, .inl vhs')), (aL, .inr (4, [.ref aLs, .int vsf'])), (aLs, .inl (cyI, 450, .inl vss')), (aP, .inr (1, [.ref aPc, .int vpl'])), (aPc, .inl (cyI, 80, .inl vpp')), (aR, .inr (2, [.ref aP, .ref aRn, .int vra', .int vrk', .int vrt'])), (aRn, .inl (cyI, 40, .inl vrn')), (aT, .inr (5, [.ref aTp, .int vtl', .int vta', .int vtt'])), (aTp, .inl (cyI, 552, .inl vtp'))] H := by rw [← e1, ← e2, ← e3, ← e4, ← e5, ← e6, ← e7, ← e8, ← e9, ← e10, ← e11, ← e12, ← e13, ← e14, ← e15, ← e16]; exact hP
        exact W.zret hx hb hr rfl (fun t ht hW => ⟨⟨_, (), rfl, e0, x_ret hP9 ht⟩, hS.F ht⟩) hS.2.2 dL_refusesAny_271
      · have hF := k_if_t hF hc
        refine lv_aload_n hx hb dL_refusesAny_56 rfl (lv_at hl 1 rfl) ?_
        refine lv_iconst (v := (0 : Int32)) hx hb dL_refusesAny_57 (by decide) ?_
        refine lv_iload_n hx hb dL_refusesAny_58 rfl (lv_at hl 2 rfl) ?_
        refine lv_if_ne (tgt := 66) hx hb dL_refusesAny_59 (by decide) (fun hc => ?_) (fun hc => ?_)
        · have hF := k_if_f hF hc
          refine lv_bipush (v := (31 : Int32)) hx hb dL_refusesAny_66 (by decide) ?_
          exact (hG _ _ _).1 (blk_68 x1 x2 x3 t0 (31 : Int32) (0 : Int32) vc_48 vhf_48 vhl_48 vhs_48 vsf vss vpl vpp vra vrk vrt vrn vtl vta vtt vtp hF _ _ _ hP hD hS (lv_sub hl [1, 2, 3, 4, 0] rfl))
        · have hF := k_if_t hF hc
          refine lv_iconst (v := (-1 : Int32)) hx hb dL_refusesAny_62 (by decide) ?_
          refine lv_goto (tgt := 68) hx hb dL_refusesAny_63 (by decide) ?_
          exact (hG _ _ _).1 (blk_68 x1 x2 x3 t0 (-1 : Int32) (0 : Int32) vc_48 vhf_48 vhl_48 vhs_48 vsf vss vpl vpp vra vrk vrt vrn vtl vta vtt vtp hF _ _ _ hP hD hS (lv_sub hl [1, 2, 3, 4, 0] rfl))
  refine (hG _ _ _).2 ?_
  unfold p_L_refusesAny at hF
  refine lv_iload_n hx hb dL_refusesAny_0 rfl (lv_at hl 1 rfl) ?_
  refine lv_if_ne (tgt := 8) hx hb dL_refusesAny_1 (by decide) (fun hc => ?_) (fun hc => ?_)
  · have hF := k_if_f hF hc
    refine lv_aload_n hx hb dL_refusesAny_8 rfl (lv_at hl 0 rfl) ?_
    refine lv_iconst (v := (0 : Int32)) hx hb dL_refusesAny_9 (by decide) ?_
    obtain ⟨r10, hC, hF⟩ := k_c1_ex hF
    refine x_VR (As := [.int (0 : Int32)]) (rest := []) ⟨hx, hb, hml, hown, hts⟩ (c_X6_count l D cyI cyZ aM aS aC aH aHs aL aP aPc aR aT N (0 : Int32) vc vhf vhl vpl hC) (cwV 1 hts gL_refusesAny_X6_count rfl rfl rfl (by decide +kernel) ⟨Nat.le_of_ble_eq_true rfl, Nat.le_of_ble_eq_true rfl⟩) hK hP hS [0, 1, 2, 3, 7] rfl 0 rfl rfl rfl rfl hl.1 rfl (Nat.le_of_ble_eq_true rfl) ⟨Nat.zero_le _, Nat.zero_le _⟩ dL_refusesAny_10 (fun H locs hP hS => ?_)
    refine lv_istore_n (lv' := [(2, .int r10), (0, .ref aM), (1, .int x1)]) hx hb dL_refusesAny_13 rfl hl (by decide) rfl (fun ls hl => ?_)
    refine lv_iload_n hx hb dL_refusesAny_14 rfl (lv_at hl 2 rfl) ?_
    refine lv_if_ne (tgt := 22) hx hb dL_refusesAny_15 (by decide) (fun hc => ?_) (fun hc => ?_)
    · have hF := k_if_f hF hc
      refine lv_bipush (v := (24 : Int32)) hx hb dL_refusesAny_22 (by decide) ?_
      refine lv_istore_n (lv' := [(3, .int (24 : Int32)), (2, .int r10), (0, .ref aM), (1, .int x1)]) hx hb dL_refusesAny_24 rfl hl (by decide) rfl (fun ls hl => ?_)
      refine lv_iload_n hx hb dL_refusesAny_25 rfl (lv_at hl 3 rfl) ?_
      refine lv_if_ne (tgt := 33) hx hb dL_refusesAny_26 (by decide) (fun hc => ?_) (fun hc => ?_)
      · have hF := k_if_f hF hc
        refine lv_bipush (v := (31 : Int32)) hx hb dL_refusesAny_33 (by decide) ?_
        exact (hG _ _ _).1 (blk_35 x1 r10 (24 : Int32) (31 : Int32) vc vhf vhl vhs vsf vss vpl vpp vra vrk vrt vrn vtl vta vtt vtp hF _ _ _ hP hD hS (lv_sub hl [2, 3, 1, 0] rfl))
      · have hF := k_if_t hF hc
        refine lv_iconst (v := (-1 : Int32)) hx hb dL_refusesAny_29 (by decide) ?_
        refine lv_goto (tgt := 35) hx hb dL_refusesAny_30 (by decide) ?_
        exact (hG _ _ _).1 (blk_35 x1 r10 (24 : Int32) (-1 : Int32) vc vhf vhl vhs vsf vss vpl vpp vra vrk vrt vrn vtl vta vtt vtp hF _ _ _ hP hD hS (lv_sub hl [2, 3, 1, 0] rfl))
    · have hF := k_if_t hF hc
      refine lv_iconst (v := (-1 : Int32)) hx hb dL_refusesAny_18 (by decide) ?_
      refine lv_goto (tgt := 24) hx hb dL_refusesAny_19 (by decide) ?_
      refine lv_istore_n (lv' := [(3, .int (-1 : Int32)), (2, .int r10), (0, .ref aM), (1, .int x1)]) hx hb dL_refusesAny_24 rfl hl (by decide) rfl (fun ls hl => ?_)
      refine lv_iload_n hx hb dL_refusesAny_25 rfl (lv_at hl 3 rfl) ?_
      refine lv_if_ne (tgt := 33) hx hb dL_refusesAny_26 (by decide) (fun hc => ?_) (fun hc => ?_)
      · have hF := k_if_f hF hc
        refine lv_bipush (v := (31 : Int32)) hx hb dL_refusesAny_33 (by decide) ?_
        exact (hG _ _ _).1 (blk_35 x1 r10 (-1 : Int32) (31 : Int32) vc vhf vhl vhs vsf vss vpl vpp vra vrk vrt vrn vtl vta vtt vtp hF _ _ _ hP hD hS (lv_sub hl [2, 3, 1, 0] rfl))
      · have hF := k_if_t hF hc
        refine lv_iconst (v := (-1 : Int32)) hx hb dL_refusesAny_29 (by decide) ?_
        refine lv_goto (tgt := 35) hx hb dL_refusesAny_30 (by decide) ?_
        exact (hG _ _ _).1 (blk_35 x1 r10 (-1 : Int32) (-1 : Int32) vc vhf vhl vhs vsf vss vpl vpp vra vrk vrt vrn vtl vta vtt vtp hF _ _ _ hP hD hS (lv_sub hl [2, 3, 1, 0] rfl))
  · have hF := k_if_t hF hc
    refine lv_iconst (v := (-1 : Int32)) hx hb dL_refusesAny_4 (by decide) ?_
    refine lv_goto (tgt := 13) hx hb dL_refusesAny_5 (by decide) ?_
    refine lv_istore_n (lv' := [(2, .int (-1 : Int32)), (0, .ref aM), (1, .int x1)]) hx hb dL_refusesAny_13 rfl hl (by decide) rfl (fun ls hl => ?_)
    refine lv_iload_n hx hb dL_refusesAny_14 rfl (lv_at hl 2 rfl) ?_
    refine lv_if_ne (tgt := 22) hx hb dL_refusesAny_15 (by decide) (fun hc => ?_) (fun hc => ?_)
    · have hF := k_if_f hF hc
      refine lv_bipush (v := (24 : Int32)) hx hb dL_refusesAny_22 (by decide) ?_
      refine lv_istore_n (lv' := [(3, .int (24 : Int32)), (2, .int (-1 : Int32)), (0, .ref aM), (1, .int x1)]) hx hb dL_refusesAny_24 rfl hl (by decide) rfl (fun ls hl => ?_)
      refine lv_iload_n hx hb dL_refusesAny_25 rfl (lv_at hl 3 rfl) ?_
      refine lv_if_ne (tgt := 33) hx hb dL_refusesAny_26 (by decide) (fun hc => ?_) (fun hc => ?_)
      · have hF := k_if_f hF hc
        refine lv_bipush (v := (31 : Int32)) hx hb dL_refusesAny_33 (by decide) ?_
        exact (hG _ _ _).1 (blk_35 x1 (-1 : Int32) (24 : Int32) (31 : Int32) vc vhf vhl vhs vsf vss vpl vpp vra vrk vrt vrn vtl vta vtt vtp hF _ _ _ hP hD hS (lv_sub hl [2, 3, 1, 0] rfl))
      · have hF := k_if_t hF hc
        refine lv_iconst (v := (-1 : Int32)) hx hb dL_refusesAny_29 (by decide) ?_
        refine lv_goto (tgt := 35) hx hb dL_refusesAny_30 (by decide) ?_
        exact (hG _ _ _).1 (blk_35 x1 (-1 : Int32) (24 : Int32) (-1 : Int32) vc vhf vhl vhs vsf vss vpl vpp vra vrk vrt vrn vtl vta vtt vtp hF _ _ _ hP hD hS (lv_sub hl [2, 3, 1, 0] rfl))
    · have hF := k_if_t hF hc
      refine lv_iconst (v := (-1 : Int32)) hx hb dL_refusesAny_18 (by decide) ?_
      refine lv_goto (tgt := 24) hx hb dL_refusesAny_19 (by decide) ?_
      refine lv_istore_n (lv' := [(3, .int (-1 : Int32)), (2, .int (-1 : Int32)), (0, .ref aM), (1, .int x1)]) hx hb dL_refusesAny_24 rfl hl (by decide) rfl (fun ls hl => ?_)
      refine lv_iload_n hx hb dL_refusesAny_25 rfl (lv_at hl 3 rfl) ?_
      refine lv_if_ne (tgt := 33) hx hb dL_refusesAny_26 (by decide) (fun hc => ?_) (fun hc => ?_)
      · have hF := k_if_f hF hc
        refine lv_bipush (v := (31 : Int32)) hx hb dL_refusesAny_33 (by decide) ?_
        exact (hG _ _ _).1 (blk_35 x1 (-1 : Int32) (-1 : Int32) (31 : Int32) vc vhf vhl vhs vsf vss vpl vpp vra vrk vrt vrn vtl vta vtt vtp hF _ _ _ hP hD hS (lv_sub hl [2, 3, 1, 0] rfl))
      · have hF := k_if_t hF hc
        refine lv_iconst (v := (-1 : Int32)) hx hb dL_refusesAny_29 (by decide) ?_
        refine lv_goto (tgt := 35) hx hb dL_refusesAny_30 (by decide) ?_
        exact (hG _ _ _).1 (blk_35 x1 (-1 : Int32) (-1 : Int32) (-1 : Int32) vc vhf vhl vhs vsf vss vpl vpp vra vrk vrt vrn vtl vta vtt vtp hF _ _ _ hP hD hS (lv_sub hl [2, 3, 1, 0] rfl))
