theorem mm_L_limits_1 : Cond.classLink RL 14 RX6 ∈ wsL_limits := List.mem_of_getElem? (i := 1) rfl
theorem mm_L_limits_2 : Cond.instantiable RX6 6 ∈ wsL_limits := List.mem_of_getElem? (i := 2) rfl
theorem mm_L_limits_3 : Cond.initialized RX6 ∈ wsL_limits := List.mem_of_getElem? (i := 3) rfl
theorem mm_L_limits_4 : Cond.methodLink RL 93 yX6_init ∈ wsL_limits := List.mem_of_getElem? (i := 4) rfl
theorem mm_L_limits_5 : Cond.instanceMethod yX6_init ∈ wsL_limits := List.mem_of_getElem? (i := 5) rfl
theorem mi_L_limits_X6 : ∀ w ∈ wsX60, w ∈ wsL_limits := fun _ h => List.mem_cons_of_mem _ (List.mem_append_left _ (List.mem_append_left _ (List.mem_append_left _ (List.mem_append_left _ (List.mem_append_left _ (List.mem_append_left _ (List.mem_append_right _ h)))))))
set_option maxHeartbeats 8000000 in
set_option maxRecDepth 100000 in
theorem c_L_limits (l : Launch) (D : va_G) (cyI cyZ : ClassId) (sz N : Nat) (hF : b_L_limits_8 N (upd (upd (upd (upd (upd (fun _ => 0) 1 (5 : Int32)) 2 (5 : Int32)) 6 (6 : Int32)) 7 (4 : Int32)) 8 (20 : Int32)) (0 : Int32) (0 : Int32) (fun _ => 0) (0 : Int32) (fun _ => 0) (0 : Int32) (fun _ => 0) (0 : Int32) (0 : Int32) (0 : Int32) (fun _ => 0) (0 : Int32) (0 : Int32) (0 : Int32) (fun _ => 0) = some 1) : Met l yL_limits wsL_limits ({ frames := 9, cells := 13, slots := 2945, locals := 208 }) (x_PM D cyI cyZ [] [] sz) (va_Qi (fun r (_ : Unit) => r = 1) (fun _ _ => True) (va_A [] sz)) 13 2945 (va_A [] sz) := by
  refine Met.ofW (cc := cL_limits) (maxL := 2) (ret := (some .boolean)) (by decide) rfl ?_
  intro p e s m args below meth c s₁ B hml hv
  obtain ⟨rfl, hsz, hP, hK, hD0⟩ := hv
  have hx := B.exec
  have hb := B.bytes
  have hr := B.returns
  have hts := atoms_spec (ws := wsL_limits) B.pre
  have hown : s.vm.findClass RL = some m.cls := findClass_of_methodNamed B.named
  have hlocks := B.notSynchronized
  subst hsz
  rw [x_A0]
  have hA : ∀ q : Nat, s.heap.size ≤ q → (fun q : Nat => s.heap.size ≤ q) q := fun _ h => h
  have hD : va_D (fun q : Nat => s.heap.size ≤ q) [] := ⟨fun i j p q h => by simp at h, fun k q h => by simp at h⟩
  have hS : va_S (fun q : Nat => s.heap.size ≤ q) s.heap s.heap [] := va_S.rf
  have hl := lv_entry ([]) (n := 2) (Nat.le_of_ble_eq_true rfl)
  rw [lg_entry_eq]
  generalize (lg_sl ([]) ++ List.replicate (2 - (lg_sl ([])).length) Slot.unset).toArray = ls at hl ⊢
  have hl : lv_has ls 2 [] := hl
  refine va_new (ci := 6) (fs := [.null, .null, .null, .null, .null, .null]) (C := RX6) (T := TX6) (N := 6) hx hb hts mi_L_limits_X6 tyX6 tyX6_ok hown (hts _ mm_L_limits_1) (hts _ mm_L_limits_2) (hts _ mm_L_limits_3) hK.1 hP hD hS hA rfl (fun j hj => by rcases (show j = 0 ∨ j = 1 ∨ j = 2 ∨ j = 3 ∨ j = 4 ∨ j = 5 by omega) with rfl | rfl | rfl | rfl | rfl | rfl <;> rfl) (Nat.le_of_ble_eq_true rfl) (Nat.le_of_ble_eq_true rfl) dL_limits_0 (fun aM H hP hD hS => ?_)
  have hP : va_P D vwCl [(aM, .inr (6, [.null, .null, .null, .null, .null, .null]))] H := hP
  have hD : va_D (fun q : Nat => s.heap.size ≤ q) [(aM, .inr (6, [.null, .null, .null, .null, .null, .null]))] := hD
  refine W.widen (k := 1) (n := 6) (Nat.le_of_ble_eq_true rfl) (Nat.le_of_ble_eq_true rfl) ?_
  refine lv_dup hx hb dL_limits_3 rfl ?_
  have hFc := va_free (wc := [(aM, .inr (6, [.null, .null, .null, .null, .null, .null]))]) hD hS hA [0] rfl
  refine va_callv (va_runI (As := []) (rest := [.ref aM]) ⟨hx, hb, hml, hown, hts⟩ (c_X6_init l D cyI cyZ aM H.size) (cwI 0 hts gL_limits_X6_init rfl rfl rfl (hts _ mm_L_limits_3) (hts _ mm_L_limits_4) (hts _ mm_L_limits_5) rfl (by decide +kernel) ⟨Nat.le_of_ble_eq_true rfl, Nat.le_of_ble_eq_true rfl⟩) ⟨x_blindM, x_preM hK hP hD [0] rfl rfl⟩ rfl rfl hl.1 rfl (lv_room (Nat.le_of_ble_eq_true rfl)) dL_limits_4 ⟨Nat.le_of_ble_eq_true rfl, Nat.le_of_ble_eq_true rfl⟩) hS (fun q _ h => hFc q h) hFc (fun u t H1 locs ht hvm hw hB hz1 hk1 hS => ?_)
  obtain ⟨aS, aC, aH, aHs, aL, aLs, aP, aPc, aR, aRn, aT, aTp, hP1, hD1⟩ := hB
  rw [ht] at hP1
  obtain ⟨hP, hD⟩ := va_join (wr := []) (w1 := [(aM, .inr (6, [.ref aS, .ref aH, .ref aL, .ref aP, .ref aR, .ref aT])), (aS, .inr (3, [.ref aC])), (aC, .inl (cyI, 225, .inl (upd (upd (upd (upd (upd (fun _ => 0) 1 (5 : Int32)) 2 (5 : Int32)) 6 (6 : Int32)) 7 (4 : Int32)) 8 (20 : Int32)))), (aH, .inr (0, [.ref aHs, .int 0, .int 0])), (aHs, .inl (cyI, 1575, .inl (fun _ => 0))), (aL, .inr (4, [.ref aLs, .int 0])), (aLs, .inl (cyI, 450, .inl (fun _ => 0))), (aP, .inr (1, [.ref aPc, .int 0])), (aPc, .inl (cyI, 80, .inl (fun _ => 0))), (aR, .inr (2, [.ref aP, .ref aRn, .int 0, .int 0, .int 0])), (aRn, .inl (cyI, 40, .inl (fun _ => 0))), (aT, .inr (5, [.ref aTp, .int 0, .int 0, .int 0])), (aTp, .inl (cyI, 552, .inl (fun _ => 0)))]) hP hD [0] [] rfl rfl (by decide) (by decide) hk1 hFc hP1 hD1
  generalize H1 = H at hP hS ⊢
  have hP : va_P D vwCl [(aM, .inr (6, [.ref aS, .ref aH, .ref aL, .ref aP, .ref aR, .ref aT])), (aS, .inr (3, [.ref aC])), (aC, .inl (cyI, 225, .inl (upd (upd (upd (upd (upd (fun _ => 0) 1 (5 : Int32)) 2 (5 : Int32)) 6 (6 : Int32)) 7 (4 : Int32)) 8 (20 : Int32)))), (aH, .inr (0, [.ref aHs, .int 0, .int 0])), (aHs, .inl (cyI, 1575, .inl (fun _ => 0))), (aL, .inr (4, [.ref aLs, .int 0])), (aLs, .inl (cyI, 450, .inl (fun _ => 0))), (aP, .inr (1, [.ref aPc, .int 0])), (aPc, .inl (cyI, 80, .inl (fun _ => 0))), (aR, .inr (2, [.ref aP, .ref aRn, .int 0, .int 0, .int 0])), (aRn, .inl (cyI, 40, .inl (fun _ => 0))), (aT, .inr (5, [.ref aTp, .int 0, .int 0, .int 0])), (aTp, .inl (cyI, 552, .inl (fun _ => 0)))] H := hP
  have hD : va_D (fun q : Nat => s.heap.size ≤ q) [(aM, .inr (6, [.ref aS, .ref aH, .ref aL, .ref aP, .ref aR, .ref aT])), (aS, .inr (3, [.ref aC])), (aC, .inl (cyI, 225, .inl (upd (upd (upd (upd (upd (fun _ => 0) 1 (5 : Int32)) 2 (5 : Int32)) 6 (6 : Int32)) 7 (4 : Int32)) 8 (20 : Int32)))), (aH, .inr (0, [.ref aHs, .int 0, .int 0])), (aHs, .inl (cyI, 1575, .inl (fun _ => 0))), (aL, .inr (4, [.ref aLs, .int 0])), (aLs, .inl (cyI, 450, .inl (fun _ => 0))), (aP, .inr (1, [.ref aPc, .int 0])), (aPc, .inl (cyI, 80, .inl (fun _ => 0))), (aR, .inr (2, [.ref aP, .ref aRn, .int 0, .int 0, .int 0])), (aRn, .inl (cyI, 40, .inl (fun _ => 0))), (aT, .inr (5, [.ref aTp, .int 0, .int 0, .int 0])), (aTp, .inl (cyI, 552, .inl (fun _ => 0)))] := hD
  refine W.widen (k := 13) (n := 2945) (Nat.le_of_ble_eq_true rfl) (Nat.le_of_ble_eq_true rfl) ?_
  refine lv_astore_n (lv' := [(0, .ref aM)]) hx hb dL_limits_7 rfl hl (by decide) rfl (fun ls hl => ?_)
  refine x_gen (fun G hG => ?_)
  have blk_254 : ∀ (vc : (Nat → Int32)) (vhf : Int32) (vhl : Int32) (vhs : (Nat → Int32)) (vsf : Int32) (vss : (Nat → Int32)) (vpl : Int32) (vpp : (Nat → Int32)) (vra : Int32) (vrk : Int32) (vrt : Int32) (vrn : (Nat → Int32)) (vtl : Int32) (vta : Int32) (vtt : Int32) (vtp : (Nat → Int32)), b_L_limits_254 N vc vhf vhl vhs vsf vss vpl vpp vra vrk vrt vrn vtl vta vtt vtp = some 1 → ∀ (H : Heap) (locs : List Loc) (ls : Array Slot), va_P D vwCl [(aM, .inr (6, [.ref aS, .ref aH, .ref aL, .ref aP, .ref aR, .ref aT])), (aS, .inr (3, [.ref aC])), (aC, .inl (cyI, 225, .inl vc)), (aH, .inr (0, [.ref aHs, .int vhf, .int vhl])), (aHs, .inl (cyI, 1575, .inl vhs)), (aL, .inr (4, [.ref aLs, .int vsf])), (aLs, .inl (cyI, 450, .inl vss)), (aP, .inr (1, [.ref aPc, .int vpl])), (aPc, .inl (cyI, 80, .inl vpp)), (aR, .inr (2, [.ref aP, .ref aRn, .int vra, .int vrk, .int vrt])), (aRn, .inl (cyI, 40, .inl vrn)), (aT, .inr (5, [.ref aTp, .int vtl, .int vta, .int vtt])), (aTp, .inl (cyI, 552, .inl vtp))] H → va_D (fun q : Nat => s.heap.size ≤ q) [(aM, .inr (6, [.ref aS, .ref aH, .ref aL, .ref aP, .ref aR, .ref aT])), (aS, .inr (3, [.ref aC])), (aC, .inl (cyI, 225, .inl vc)), (aH, .inr (0, [.ref aHs, .int vhf, .int vhl])), (aHs, .inl (cyI, 1575, .inl vhs)), (aL, .inr (4, [.ref aLs, .int vsf])), (aLs, .inl (cyI, 450, .inl vss)), (aP, .inr (1, [.ref aPc, .int vpl])), (aPc, .inl (cyI, 80, .inl vpp)), (aR, .inr (2, [.ref aP, .ref aRn, .int vra, .int vrk, .int vrt])), (aRn, .inl (cyI, 40, .inl vrn)), (aT, .inr (5, [.ref aTp, .int vtl, .int vta, .int vtt])), (aTp, .inl (cyI, 552, .inl vtp))] → va_S (fun q : Nat => s.heap.size ≤ q) s.heap H locs → lv_has ls 2 [] → G H locs (F0 m 254 ls []) := by
    intro vc vhf vhl vhs vsf vss vpl vpp vra vrk vrt vrn vtl vta vtt vtp hF H locs ls hP hD hS hl
    unfold b_L_limits_254 at hF
    refine (hG _ _ _).2 ?_
    refine lv_iconst (v := (0 : Int32)) hx hb dL_limits_254 (by decide) ?_
    exact absurd (Option.some.inj hF) (by decide)
  have blk_10 : ∀ (n_10 : Nat) (x1 : Int32) (vc : (Nat → Int32)) (vhf : Int32) (vhl : Int32) (vhs : (Nat → Int32)) (vsf : Int32) (vss : (Nat → Int32)) (vpl : Int32) (vpp : (Nat → Int32)) (vra : Int32) (vrk : Int32) (vrt : Int32) (vrn : (Nat → Int32)) (vtl : Int32) (vta : Int32) (vtt : Int32) (vtp : (Nat → Int32)), f_L_limits_10 N n_10 x1 vc vhf vhl vhs vsf vss vpl vpp vra vrk vrt vrn vtl vta vtt vtp = some 1 → ∀ (H : Heap) (locs : List Loc) (ls : Array Slot), va_P D vwCl [(aM, .inr (6, [.ref aS, .ref aH, .ref aL, .ref aP, .ref aR, .ref aT])), (aS, .inr (3, [.ref aC])), (aC, .inl (cyI, 225, .inl vc)), (aH, .inr (0, [.ref aHs, .int vhf, .int vhl])), (aHs, .inl (cyI, 1575, .inl vhs)), (aL, .inr (4, [.ref aLs, .int vsf])), (aLs, .inl (cyI, 450, .inl vss)), (aP, .inr (1, [.ref aPc, .int vpl])), (aPc, .inl (cyI, 80, .inl vpp)), (aR, .inr (2, [.ref aP, .ref aRn, .int vra, .int vrk, .int vrt])), (aRn, .inl (cyI, 40, .inl vrn)), (aT, .inr (5, [.ref aTp, .int vtl, .int vta, .int vtt])), (aTp, .inl (cyI, 552, .inl vtp))] H → va_D (fun q : Nat => s.heap.size ≤ q) [(aM, .inr (6, [.ref aS, .ref aH, .ref aL, .ref aP, .ref aR, .ref aT])), (aS, .inr (3, [.ref aC])), (aC, .inl (cyI, 225, .inl vc)), (aH, .inr (0, [.ref aHs, .int vhf, .int vhl])), (aHs, .inl (cyI, 1575, .inl vhs)), (aL, .inr (4, [.ref aLs, .int vsf])), (aLs, .inl (cyI, 450, .inl vss)), (aP, .inr (1, [.ref aPc, .int vpl])), (aPc, .inl (cyI, 80, .inl vpp)), (aR, .inr (2, [.ref aP, .ref aRn, .int vra, .int vrk, .int vrt])), (aRn, .inl (cyI, 40, .inl vrn)), (aT, .inr (5, [.ref aTp, .int vtl, .int vta, .int vtt])), (aTp, .inl (cyI, 552, .inl vtp))] → va_S (fun q : Nat => s.heap.size ≤ q) s.heap H locs → lv_has ls 2 [(0, .ref aM), (1, .int x1)] → G H locs (F0 m 10 ls []) := by
    intro n_10
    induction n_10 with
    | zero => intro x1 vc vhf vhl vhs vsf vss vpl vpp vra vrk vrt vrn vtl vta vtt vtp hF; exact (k_none hF).elim
    | succ n_10 ih_10 =>
      intro x1 vc vhf vhl vhs vsf vss vpl vpp vra vrk vrt vrn vtl vta vtt vtp hF H locs ls hP hD hS hl
      replace hF : b_L_limits_10 N (f_L_limits_10 N n_10) x1 vc vhf vhl vhs vsf vss vpl vpp vra vrk vrt vrn vtl vta vtt vtp = some 1 := hF
      unfold b_L_limits_10 at hF
      refine (hG _ _ _).2 ?_
      refine lv_iload_n hx hb dL_limits_10 rfl (lv_at hl 1 rfl) ?_
      refine lv_bipush (v := (8 : Int32)) hx hb dL_limits_11 (by decide) ?_
      refine lv_icmp_ge (tgt := 38) hx hb dL_limits_13 (by decide) (fun hc => ?_) (fun hc => ?_)
      · have hF := k_if_t hF hc
        refine lv_aload_n hx hb dL_limits_38 rfl (lv_at hl 0 rfl) ?_
        refine lv_iconst (v := (2 : Int32)) hx hb dL_limits_39 (by decide) ?_
        refine lv_iconst (v := (0 : Int32)) hx hb dL_limits_40 (by decide) ?_
        obtain ⟨r41, vc_41, vhf_41, vhl_41, vhs_41, hC, hF⟩ := k_c5_ex hF
        refine x_VM (As := [.int (2 : Int32), .int (0 : Int32)]) (rest := []) ⟨hx, hb, hml, hown, hts⟩ (c_X6_roller l D cyI cyZ aM aS aC aH aHs aL aP aR aT H.size N (2 : Int32) (0 : Int32) vc vhf vhl vhs hC) (cwV 2 hts gL_limits_X6_roller rfl rfl rfl (by decide +kernel) ⟨Nat.le_of_ble_eq_true rfl, Nat.le_of_ble_eq_true rfl⟩) hK hP hD hS hA [0, 1, 2, 3, 4] rfl rfl rfl 0 rfl rfl rfl rfl hl.1 rfl (Nat.le_of_ble_eq_true rfl) ⟨Nat.le_of_ble_eq_true rfl, Nat.le_of_ble_eq_true rfl⟩ dL_limits_41 (fun H locs hP hD hS => ?_)
        have hP : va_P D vwCl [(aM, .inr (6, [.ref aS, .ref aH, .ref aL, .ref aP, .ref aR, .ref aT])), (aS, .inr (3, [.ref aC])), (aC, .inl (cyI, 225, .inl vc_41)), (aH, .inr (0, [.ref aHs, .int vhf_41, .int vhl_41])), (aHs, .inl (cyI, 1575, .inl vhs_41)), (aL, .inr (4, [.ref aLs, .int vsf])), (aLs, .inl (cyI, 450, .inl vss)), (aP, .inr (1, [.ref aPc, .int vpl])), (aPc, .inl (cyI, 80, .inl vpp)), (aR, .inr (2, [.ref aP, .ref aRn, .int vra, .int vrk, .int vrt])), (aRn, .inl (cyI, 40, .inl vrn)), (aT, .inr (5, [.ref aTp, .int vtl, .int vta, .int vtt])), (aTp, .inl (cyI, 552, .inl vtp))] H := hP
        have hD : va_D (fun q : Nat => s.heap.size ≤ q) [(aM, .inr (6, [.ref aS, .ref aH, .ref aL, .ref aP, .ref aR, .ref aT])), (aS, .inr (3, [.ref aC])), (aC, .inl (cyI, 225, .inl vc_41)), (aH, .inr (0, [.ref aHs, .int vhf_41, .int vhl_41])), (aHs, .inl (cyI, 1575, .inl vhs_41)), (aL, .inr (4, [.ref aLs, .int vsf])), (aLs, .inl (cyI, 450, .inl vss)), (aP, .inr (1, [.ref aPc, .int vpl])), (aPc, .inl (cyI, 80, .inl vpp)), (aR, .inr (2, [.ref aP, .ref aRn, .int vra, .int vrk, .int vrt])), (aRn, .inl (cyI, 40, .inl vrn)), (aT, .inr (5, [.ref aTp, .int vtl, .int vta, .int vtt])), (aTp, .inl (cyI, 552, .inl vtp))] := hD
        refine lv_bipush (v := (-4 : Int32)) hx hb dL_limits_44 (by decide) ?_
        refine lv_icmp_ne (tgt := 254) hx hb dL_limits_46 (by decide) (fun hc => ?_) (fun hc => ?_)
        · have hF := k_if_f hF hc
          exact (hG _ _ _).1 (blk_254 vc_41 vhf_41 vhl_41 vhs_41 vsf vss vpl vpp vra vrk vrt vrn vtl vta vtt vtp hF _ _ _ hP hD hS (lv_sub hl [] rfl))
        · have hF := k_if_t hF hc
          refine lv_aload_n hx hb dL_limits_49 rfl (lv_at hl 0 rfl) ?_
          refine lv_iconst (v := (1 : Int32)) hx hb dL_limits_50 (by decide) ?_
          refine lv_iconst (v := (0 : Int32)) hx hb dL_limits_51 (by decide) ?_
          obtain ⟨r52, vc_52, vhf_52, vhl_52, vhs_52, hC, hF⟩ := k_c5_ex hF
          refine x_VM (As := [.int (1 : Int32), .int (0 : Int32)]) (rest := []) ⟨hx, hb, hml, hown, hts⟩ (c_X6_roller l D cyI cyZ aM aS aC aH aHs aL aP aR aT H.size N (1 : Int32) (0 : Int32) vc_41 vhf_41 vhl_41 vhs_41 hC) (cwV 2 hts gL_limits_X6_roller rfl rfl rfl (by decide +kernel) ⟨Nat.le_of_ble_eq_true rfl, Nat.le_of_ble_eq_true rfl⟩) hK hP hD hS hA [0, 1, 2, 3, 4] rfl rfl rfl 0 rfl rfl rfl rfl hl.1 rfl (Nat.le_of_ble_eq_true rfl) ⟨Nat.le_of_ble_eq_true rfl, Nat.le_of_ble_eq_true rfl⟩ dL_limits_52 (fun H locs hP hD hS => ?_)
          have hP : va_P D vwCl [(aM, .inr (6, [.ref aS, .ref aH, .ref aL, .ref aP, .ref aR, .ref aT])), (aS, .inr (3, [.ref aC])), (aC, .inl (cyI, 225, .inl vc_52)), (aH, .inr (0, [.ref aHs, .int vhf_52, .int vhl_52])), (aHs, .inl (cyI, 1575, .inl vhs_52)), (aL, .inr (4, [.ref aLs, .int vsf])), (aLs, .inl (cyI, 450, .inl vss)), (aP, .inr (1, [.ref aPc, .int vpl])), (aPc, .inl (cyI, 80, .inl vpp)), (aR, .inr (2, [.ref aP, .ref aRn, .int vra, .int vrk, .int vrt])), (aRn, .inl (cyI, 40, .inl vrn)), (aT, .inr (5, [.ref aTp, .int vtl, .int vta, .int vtt])), (aTp, .inl (cyI, 552, .inl vtp))] H := hP
          have hD : va_D (fun q : Nat => s.heap.size ≤ q) [(aM, .inr (6, [.ref aS, .ref aH, .ref aL, .ref aP, .ref aR, .ref aT])), (aS, .inr (3, [.ref aC])), (aC, .inl (cyI, 225, .inl vc_52)), (aH, .inr (0, [.ref aHs, .int vhf_52, .int vhl_52])), (aHs, .inl (cyI, 1575, .inl vhs_52)), (aL, .inr (4, [.ref aLs, .int vsf])), (aLs, .inl (cyI, 450, .inl vss)), (aP, .inr (1, [.ref aPc, .int vpl])), (aPc, .inl (cyI, 80, .inl vpp)), (aR, .inr (2, [.ref aP, .ref aRn, .int vra, .int vrk, .int vrt])), (aRn, .inl (cyI, 40, .inl vrn)), (aT, .inr (5, [.ref aTp, .int vtl, .int vta, .int vtt])), (aTp, .inl (cyI, 552, .inl vtp))] := hD
          refine lv_bipush (v := (-2 : Int32)) hx hb dL_limits_55 (by decide) ?_
          refine lv_icmp_ne (tgt := 254) hx hb dL_limits_57 (by decide) (fun hc => ?_) (fun hc => ?_)
          · have hF := k_if_f hF hc
            exact (hG _ _ _).1 (blk_254 vc_52 vhf_52 vhl_52 vhs_52 vsf vss vpl vpp vra vrk vrt vrn vtl vta vtt vtp hF _ _ _ hP hD hS (lv_sub hl [] rfl))
          · have hF := k_if_t hF hc
            refine lv_aload_n hx hb dL_limits_60 rfl (lv_at hl 0 rfl) ?_
            refine lv_iconst (v := (0 : Int32)) hx hb dL_limits_61 (by decide) ?_
            refine lv_iconst (v := (1 : Int32)) hx hb dL_limits_62 (by decide) ?_
            refine lv_bipush (v := (23 : Int32)) hx hb dL_limits_63 (by decide) ?_
            refine lv_bipush (v := (30 : Int32)) hx hb dL_limits_65 (by decide) ?_
            refine lv_iconst (v := (0 : Int32)) hx hb dL_limits_67 (by decide) ?_
            obtain ⟨r68, vtl_68, vtp_68, hC, hF⟩ := k_c3_ex hF
            refine x_VM (As := [.int (0 : Int32), .int (1 : Int32), .int (23 : Int32), .int (30 : Int32), .int (0 : Int32)]) (rest := []) ⟨hx, hb, hml, hown, hts⟩ (c_X6_pair l D cyI cyZ aM aS aC aH aL aP aR aT aTp H.size N (0 : Int32) (1 : Int32) (23 : Int32) (30 : Int32) (0 : Int32) vc_52 vtl vta vtt vtp hC) (cwV 5 hts gL_limits_X6_pair rfl rfl rfl (by decide +kernel) ⟨Nat.le_of_ble_eq_true rfl, Nat.le_of_ble_eq_true rfl⟩) hK hP hD hS hA [0, 1, 2, 11, 12] rfl rfl rfl 0 rfl rfl rfl rfl hl.1 rfl (Nat.le_of_ble_eq_true rfl) ⟨Nat.le_of_ble_eq_true rfl, Nat.le_of_ble_eq_true rfl⟩ dL_limits_68 (fun H locs hP hD hS => ?_)
            have hP : va_P D vwCl [(aM, .inr (6, [.ref aS, .ref aH, .ref aL, .ref aP, .ref aR, .ref aT])), (aS, .inr (3, [.ref aC])), (aC, .inl (cyI, 225, .inl vc_52)), (aH, .inr (0, [.ref aHs, .int vhf_52, .int vhl_52])), (aHs, .inl (cyI, 1575, .inl vhs_52)), (aL, .inr (4, [.ref aLs, .int vsf])), (aLs, .inl (cyI, 450, .inl vss)), (aP, .inr (1, [.ref aPc, .int vpl])), (aPc, .inl (cyI, 80, .inl vpp)), (aR, .inr (2, [.ref aP, .ref aRn, .int vra, .int vrk, .int vrt])), (aRn, .inl (cyI, 40, .inl vrn)), (aT, .inr (5, [.ref aTp, .int vtl_68, .int vta, .int vtt])), (aTp, .inl (cyI, 552, .inl vtp_68))] H := hP
            have hD : va_D (fun q : Nat => s.heap.size ≤ q) [(aM, .inr (6, [.ref aS, .ref aH, .ref aL, .ref aP, .ref aR, .ref aT])), (aS, .inr (3, [.ref aC])), (aC, .inl (cyI, 225, .inl vc_52)), (aH, .inr (0, [.ref aHs, .int vhf_52, .int vhl_52])), (aHs, .inl (cyI, 1575, .inl vhs_52)), (aL, .inr (4, [.ref aLs, .int vsf])), (aLs, .inl (cyI, 450, .inl vss)), (aP, .inr (1, [.ref aPc, .int vpl])), (aPc, .inl (cyI, 80, .inl vpp)), (aR, .inr (2, [.ref aP, .ref aRn, .int vra, .int vrk, .int vrt])), (aRn, .inl (cyI, 40, .inl vrn)), (aT, .inr (5, [.ref aTp, .int vtl_68, .int vta, .int vtt])), (aTp, .inl (cyI, 552, .inl vtp_68))] := hD
            refine lv_sipush (v := (552 : Int32)) hx hb dL_limits_71 (by decide) ?_
            refine lv_icmp_ne (tgt := 254) hx hb dL_limits_74 (by decide) (fun hc => ?_) (fun hc => ?_)
            · have hF := k_if_f hF hc
              exact (hG _ _ _).1 (blk_254 vc_52 vhf_52 vhl_52 vhs_52 vsf vss vpl vpp vra vrk vrt vrn vtl_68 vta vtt vtp_68 hF _ _ _ hP hD hS (lv_sub hl [] rfl))
            · have hF := k_if_t hF hc
              refine lv_aload_n hx hb dL_limits_77 rfl (lv_at hl 0 rfl) ?_
              refine lv_iconst (v := (0 : Int32)) hx hb dL_limits_78 (by decide) ?_
              refine lv_iconst (v := (1 : Int32)) hx hb dL_limits_79 (by decide) ?_
              refine lv_bipush (v := (23 : Int32)) hx hb dL_limits_80 (by decide) ?_
              refine lv_bipush (v := (30 : Int32)) hx hb dL_limits_82 (by decide) ?_
              refine lv_iconst (v := (1 : Int32)) hx hb dL_limits_84 (by decide) ?_
              obtain ⟨r85, vtl_85, vtp_85, hC, hF⟩ := k_c3_ex hF
              refine x_VM (As := [.int (0 : Int32), .int (1 : Int32), .int (23 : Int32), .int (30 : Int32), .int (1 : Int32)]) (rest := []) ⟨hx, hb, hml, hown, hts⟩ (c_X6_pair l D cyI cyZ aM aS aC aH aL aP aR aT aTp H.size N (0 : Int32) (1 : Int32) (23 : Int32) (30 : Int32) (1 : Int32) vc_52 vtl_68 vta vtt vtp_68 hC) (cwV 5 hts gL_limits_X6_pair rfl rfl rfl (by decide +kernel) ⟨Nat.le_of_ble_eq_true rfl, Nat.le_of_ble_eq_true rfl⟩) hK hP hD hS hA [0, 1, 2, 11, 12] rfl rfl rfl 0 rfl rfl rfl rfl hl.1 rfl (Nat.le_of_ble_eq_true rfl) ⟨Nat.le_of_ble_eq_true rfl, Nat.le_of_ble_eq_true rfl⟩ dL_limits_85 (fun H locs hP hD hS => ?_)
              have hP : va_P D vwCl [(aM, .inr (6, [.ref aS, .ref aH, .ref aL, .ref aP, .ref aR, .ref aT])), (aS, .inr (3, [.ref aC])), (aC, .inl (cyI, 225, .inl vc_52)), (aH, .inr (0, [.ref aHs, .int vhf_52, .int vhl_52])), (aHs, .inl (cyI, 1575, .inl vhs_52)), (aL, .inr (4, [.ref aLs, .int vsf])), (aLs, .inl (cyI, 450, .inl vss)), (aP, .inr (1, [.ref aPc, .int vpl])), (aPc, .inl (cyI, 80, .inl vpp)), (aR, .inr (2, [.ref aP, .ref aRn, .int vra, .int vrk, .int vrt])), (aRn, .inl (cyI, 40, .inl vrn)), (aT, .inr (5, [.ref aTp, .int vtl_85, .int vta, .int vtt])), (aTp, .inl (cyI, 552, .inl vtp_85))] H := hP
              have hD : va_D (fun q : Nat => s.heap.size ≤ q) [(aM, .inr (6, [.ref aS, .ref aH, .ref aL, .ref aP, .ref aR, .ref aT])), (aS, .inr (3, [.ref aC])), (aC, .inl (cyI, 225, .inl vc_52)), (aH, .inr (0, [.ref aHs, .int vhf_52, .int vhl_52])), (aHs, .inl (cyI, 1575, .inl vhs_52)), (aL, .inr (4, [.ref aLs, .int vsf])), (aLs, .inl (cyI, 450, .inl vss)), (aP, .inr (1, [.ref aPc, .int vpl])), (aPc, .inl (cyI, 80, .inl vpp)), (aR, .inr (2, [.ref aP, .ref aRn, .int vra, .int vrk, .int vrt])), (aRn, .inl (cyI, 40, .inl vrn)), (aT, .inr (5, [.ref aTp, .int vtl_85, .int vta, .int vtt])), (aTp, .inl (cyI, 552, .inl vtp_85))] := hD
              refine lv_bipush (v := (112 : Int32)) hx hb dL_limits_88 (by decide) ?_
              refine lv_icmp_ne (tgt := 254) hx hb dL_limits_90 (by decide) (fun hc => ?_) (fun hc => ?_)
              · have hF := k_if_f hF hc
                exact (hG _ _ _).1 (blk_254 vc_52 vhf_52 vhl_52 vhs_52 vsf vss vpl vpp vra vrk vrt vrn vtl_85 vta vtt vtp_85 hF _ _ _ hP hD hS (lv_sub hl [] rfl))
              · have hF := k_if_t hF hc
                refine lv_aload_n hx hb dL_limits_93 rfl (lv_at hl 0 rfl) ?_
                refine lv_bipush (v := (7 : Int32)) hx hb dL_limits_94 (by decide) ?_
                refine lv_iconst (v := (3 : Int32)) hx hb dL_limits_96 (by decide) ?_
                refine lv_bipush (v := (9 : Int32)) hx hb dL_limits_97 (by decide) ?_
                obtain ⟨r99, vtl_99, vtp_99, hC, hF⟩ := k_c3_ex hF
                refine x_VM (As := [.int (7 : Int32), .int (3 : Int32), .int (9 : Int32)]) (rest := []) ⟨hx, hb, hml, hown, hts⟩ (c_X6_leastGap l D cyI cyZ aM aS aC aH aL aP aR aT aTp H.size N (7 : Int32) (3 : Int32) (9 : Int32) vc_52 vtl_85 vta vtt vtp_85 hC) (cwV 3 hts gL_limits_X6_leastGap rfl rfl rfl (by decide +kernel) ⟨Nat.le_of_ble_eq_true rfl, Nat.le_of_ble_eq_true rfl⟩) hK hP hD hS hA [0, 1, 2, 11, 12] rfl rfl rfl 0 rfl rfl rfl rfl hl.1 rfl (Nat.le_of_ble_eq_true rfl) ⟨Nat.le_of_ble_eq_true rfl, Nat.le_of_ble_eq_true rfl⟩ dL_limits_99 (fun H locs hP hD hS => ?_)
                have hP : va_P D vwCl [(aM, .inr (6, [.ref aS, .ref aH, .ref aL, .ref aP, .ref aR, .ref aT])), (aS, .inr (3, [.ref aC])), (aC, .inl (cyI, 225, .inl vc_52)), (aH, .inr (0, [.ref aHs, .int vhf_52, .int vhl_52])), (aHs, .inl (cyI, 1575, .inl vhs_52)), (aL, .inr (4, [.ref aLs, .int vsf])), (aLs, .inl (cyI, 450, .inl vss)), (aP, .inr (1, [.ref aPc, .int vpl])), (aPc, .inl (cyI, 80, .inl vpp)), (aR, .inr (2, [.ref aP, .ref aRn, .int vra, .int vrk, .int vrt])), (aRn, .inl (cyI, 40, .inl vrn)), (aT, .inr (5, [.ref aTp, .int vtl_99, .int vta, .int vtt])), (aTp, .inl (cyI, 552, .inl vtp_99))] H := hP
                have hD : va_D (fun q : Nat => s.heap.size ≤ q) [(aM, .inr (6, [.ref aS, .ref aH, .ref aL, .ref aP, .ref aR, .ref aT])), (aS, .inr (3, [.ref aC])), (aC, .inl (cyI, 225, .inl vc_52)), (aH, .inr (0, [.ref aHs, .int vhf_52, .int vhl_52])), (aHs, .inl (cyI, 1575, .inl vhs_52)), (aL, .inr (4, [.ref aLs, .int vsf])), (aLs, .inl (cyI, 450, .inl vss)), (aP, .inr (1, [.ref aPc, .int vpl])), (aPc, .inl (cyI, 80, .inl vpp)), (aR, .inr (2, [.ref aP, .ref aRn, .int vra, .int vrk, .int vrt])), (aRn, .inl (cyI, 40, .inl vrn)), (aT, .inr (5, [.ref aTp, .int vtl_99, .int vta, .int vtt])), (aTp, .inl (cyI, 552, .inl vtp_99))] := hD
                refine lv_bipush (v := (19 : Int32)) hx hb dL_limits_102 (by decide) ?_
                refine lv_icmp_ne (tgt := 254) hx hb dL_limits_104 (by decide) (fun hc => ?_) (fun hc => ?_)
                · have hF := k_if_f hF hc
                  exact (hG _ _ _).1 (blk_254 vc_52 vhf_52 vhl_52 vhs_52 vsf vss vpl vpp vra vrk vrt vrn vtl_99 vta vtt vtp_99 hF _ _ _ hP hD hS (lv_sub hl [] rfl))
                · have hF := k_if_t hF hc
                  refine lv_aload_n hx hb dL_limits_107 rfl (lv_at hl 0 rfl) ?_
                  refine lv_bipush (v := (7 : Int32)) hx hb dL_limits_108 (by decide) ?_
                  refine lv_iconst (v := (3 : Int32)) hx hb dL_limits_110 (by decide) ?_
                  refine lv_bipush (v := (24 : Int32)) hx hb dL_limits_111 (by decide) ?_
                  obtain ⟨r113, vtl_113, vtp_113, hC, hF⟩ := k_c3_ex hF
                  refine x_VM (As := [.int (7 : Int32), .int (3 : Int32), .int (24 : Int32)]) (rest := []) ⟨hx, hb, hml, hown, hts⟩ (c_X6_leastGap l D cyI cyZ aM aS aC aH aL aP aR aT aTp H.size N (7 : Int32) (3 : Int32) (24 : Int32) vc_52 vtl_99 vta vtt vtp_99 hC) (cwV 3 hts gL_limits_X6_leastGap rfl rfl rfl (by decide +kernel) ⟨Nat.le_of_ble_eq_true rfl, Nat.le_of_ble_eq_true rfl⟩) hK hP hD hS hA [0, 1, 2, 11, 12] rfl rfl rfl 0 rfl rfl rfl rfl hl.1 rfl (Nat.le_of_ble_eq_true rfl) ⟨Nat.le_of_ble_eq_true rfl, Nat.le_of_ble_eq_true rfl⟩ dL_limits_113 (fun H locs hP hD hS => ?_)
                  have hP : va_P D vwCl [(aM, .inr (6, [.ref aS, .ref aH, .ref aL, .ref aP, .ref aR, .ref aT])), (aS, .inr (3, [.ref aC])), (aC, .inl (cyI, 225, .inl vc_52)), (aH, .inr (0, [.ref aHs, .int vhf_52, .int vhl_52])), (aHs, .inl (cyI, 1575, .inl vhs_52)), (aL, .inr (4, [.ref aLs, .int vsf])), (aLs, .inl (cyI, 450, .inl vss)), (aP, .inr (1, [.ref aPc, .int vpl])), (aPc, .inl (cyI, 80, .inl vpp)), (aR, .inr (2, [.ref aP, .ref aRn, .int vra, .int vrk, .int vrt])), (aRn, .inl (cyI, 40, .inl vrn)), (aT, .inr (5, [.ref aTp, .int vtl_113, .int vta, .int vtt])), (aTp, .inl (cyI, 552, .inl vtp_113))] H := hP
                  have hD : va_D (fun q : Nat => s.heap.size ≤ q) [(aM, .inr (6, [.ref aS, .ref aH, .ref aL, .ref aP, .ref aR, .ref aT])), (aS, .inr (3, [.ref aC])), (aC, .inl (cyI, 225, .inl vc_52)), (aH, .inr (0, [.ref aHs, .int vhf_52, .int vhl_52])), (aHs, .inl (cyI, 1575, .inl vhs_52)), (aL, .inr (4, [.ref aLs, .int vsf])), (aLs, .inl (cyI, 450, .inl vss)), (aP, .inr (1, [.ref aPc, .int vpl])), (aPc, .inl (cyI, 80, .inl vpp)), (aR, .inr (2, [.ref aP, .ref aRn, .int vra, .int vrk, .int vrt])), (aRn, .inl (cyI, 40, .inl vrn)), (aT, .inr (5, [.ref aTp, .int vtl_113, .int vta, .int vtt])), (aTp, .inl (cyI, 552, .inl vtp_113))] := hD
                  refine lv_bipush (v := (-2 : Int32)) hx hb dL_limits_116 (by decide) ?_
                  refine lv_icmp_ne (tgt := 254) hx hb dL_limits_118 (by decide) (fun hc => ?_) (fun hc => ?_)
                  · have hF := k_if_f hF hc
                    exact (hG _ _ _).1 (blk_254 vc_52 vhf_52 vhl_52 vhs_52 vsf vss vpl vpp vra vrk vrt vrn vtl_113 vta vtt vtp_113 hF _ _ _ hP hD hS (lv_sub hl [] rfl))
                  · have hF := k_if_t hF hc
                    refine lv_aload_n hx hb dL_limits_121 rfl (lv_at hl 0 rfl) ?_
                    refine lv_iconst (v := (0 : Int32)) hx hb dL_limits_122 (by decide) ?_
                    refine lv_iconst (v := (1 : Int32)) hx hb dL_limits_123 (by decide) ?_
                    refine lv_iconst (v := (0 : Int32)) hx hb dL_limits_124 (by decide) ?_
                    refine lv_bipush (v := (30 : Int32)) hx hb dL_limits_125 (by decide) ?_
                    obtain ⟨r127, vtl_127, vta_127, vtt_127, vtp_127, hC, hF⟩ := k_c5_ex hF
                    refine x_VM (As := [.int (0 : Int32), .int (1 : Int32), .int (0 : Int32), .int (30 : Int32)]) (rest := []) ⟨hx, hb, hml, hown, hts⟩ (c_X6_thickest l D cyI cyZ aM aS aC aH aL aP aR aT aTp H.size N (0 : Int32) (1 : Int32) (0 : Int32) (30 : Int32) vc_52 vtl_113 vta vtt vtp_113 hC) (cwV 4 hts gL_limits_X6_thickest rfl rfl rfl (by decide +kernel) ⟨Nat.le_of_ble_eq_true rfl, Nat.le_of_ble_eq_true rfl⟩) hK hP hD hS hA [0, 1, 2, 11, 12] rfl rfl rfl 0 rfl rfl rfl rfl hl.1 rfl (Nat.le_of_ble_eq_true rfl) ⟨Nat.le_of_ble_eq_true rfl, Nat.le_of_ble_eq_true rfl⟩ dL_limits_127 (fun H locs hP hD hS => ?_)
                    have hP : va_P D vwCl [(aM, .inr (6, [.ref aS, .ref aH, .ref aL, .ref aP, .ref aR, .ref aT])), (aS, .inr (3, [.ref aC])), (aC, .inl (cyI, 225, .inl vc_52)), (aH, .inr (0, [.ref aHs, .int vhf_52, .int vhl_52])), (aHs, .inl (cyI, 1575, .inl vhs_52)), (aL, .inr (4, [.ref aLs, .int vsf])), (aLs, .inl (cyI, 450, .inl vss)), (aP, .inr (1, [.ref aPc, .int vpl])), (aPc, .inl (cyI, 80, .inl vpp)), (aR, .inr (2, [.ref aP, .ref aRn, .int vra, .int vrk, .int vrt])), (aRn, .inl (cyI, 40, .inl vrn)), (aT, .inr (5, [.ref aTp, .int vtl_127, .int vta_127, .int vtt_127])), (aTp, .inl (cyI, 552, .inl vtp_127))] H := hP
                    have hD : va_D (fun q : Nat => s.heap.size ≤ q) [(aM, .inr (6, [.ref aS, .ref aH, .ref aL, .ref aP, .ref aR, .ref aT])), (aS, .inr (3, [.ref aC])), (aC, .inl (cyI, 225, .inl vc_52)), (aH, .inr (0, [.ref aHs, .int vhf_52, .int vhl_52])), (aHs, .inl (cyI, 1575, .inl vhs_52)), (aL, .inr (4, [.ref aLs, .int vsf])), (aLs, .inl (cyI, 450, .inl vss)), (aP, .inr (1, [.ref aPc, .int vpl])), (aPc, .inl (cyI, 80, .inl vpp)), (aR, .inr (2, [.ref aP, .ref aRn, .int vra, .int vrk, .int vrt])), (aRn, .inl (cyI, 40, .inl vrn)), (aT, .inr (5, [.ref aTp, .int vtl_127, .int vta_127, .int vtt_127])), (aTp, .inl (cyI, 552, .inl vtp_127))] := hD
                    refine lv_bipush (v := (17 : Int32)) hx hb dL_limits_130 (by decide) ?_
                    refine lv_icmp_ne (tgt := 254) hx hb dL_limits_132 (by decide) (fun hc => ?_) (fun hc => ?_)
                    · have hF := k_if_f hF hc
                      exact (hG _ _ _).1 (blk_254 vc_52 vhf_52 vhl_52 vhs_52 vsf vss vpl vpp vra vrk vrt vrn vtl_127 vta_127 vtt_127 vtp_127 hF _ _ _ hP hD hS (lv_sub hl [] rfl))
                    · have hF := k_if_t hF hc
                      refine lv_aload_n hx hb dL_limits_135 rfl (lv_at hl 0 rfl) ?_
                      refine lv_bipush (v := (30 : Int32)) hx hb dL_limits_136 (by decide) ?_
                      refine lv_bipush (v := (30 : Int32)) hx hb dL_limits_138 (by decide) ?_
                      obtain ⟨r140, vc_140, vhf_140, vhl_140, vhs_140, hC, hF⟩ := k_c5_ex hF
                      refine x_VM (As := [.int (30 : Int32), .int (30 : Int32)]) (rest := []) ⟨hx, hb, hml, hown, hts⟩ (c_X6_card l D cyI cyZ aM aS aC aH aHs aL aP aR aT H.size N (30 : Int32) (30 : Int32) vc_52 vhf_52 vhl_52 vhs_52 hC) (cwV 2 hts gL_limits_X6_card rfl rfl rfl (by decide +kernel) ⟨Nat.le_of_ble_eq_true rfl, Nat.le_of_ble_eq_true rfl⟩) hK hP hD hS hA [0, 1, 2, 3, 4] rfl rfl rfl 0 rfl rfl rfl rfl hl.1 rfl (Nat.le_of_ble_eq_true rfl) ⟨Nat.le_of_ble_eq_true rfl, Nat.le_of_ble_eq_true rfl⟩ dL_limits_140 (fun H locs hP hD hS => ?_)
                      have hP : va_P D vwCl [(aM, .inr (6, [.ref aS, .ref aH, .ref aL, .ref aP, .ref aR, .ref aT])), (aS, .inr (3, [.ref aC])), (aC, .inl (cyI, 225, .inl vc_140)), (aH, .inr (0, [.ref aHs, .int vhf_140, .int vhl_140])), (aHs, .inl (cyI, 1575, .inl vhs_140)), (aL, .inr (4, [.ref aLs, .int vsf])), (aLs, .inl (cyI, 450, .inl vss)), (aP, .inr (1, [.ref aPc, .int vpl])), (aPc, .inl (cyI, 80, .inl vpp)), (aR, .inr (2, [.ref aP, .ref aRn, .int vra, .int vrk, .int vrt])), (aRn, .inl (cyI, 40, .inl vrn)), (aT, .inr (5, [.ref aTp, .int vtl_127, .int vta_127, .int vtt_127])), (aTp, .inl (cyI, 552, .inl vtp_127))] H := hP
                      have hD : va_D (fun q : Nat => s.heap.size ≤ q) [(aM, .inr (6, [.ref aS, .ref aH, .ref aL, .ref aP, .ref aR, .ref aT])), (aS, .inr (3, [.ref aC])), (aC, .inl (cyI, 225, .inl vc_140)), (aH, .inr (0, [.ref aHs, .int vhf_140, .int vhl_140])), (aHs, .inl (cyI, 1575, .inl vhs_140)), (aL, .inr (4, [.ref aLs, .int vsf])), (aLs, .inl (cyI, 450, .inl vss)), (aP, .inr (1, [.ref aPc, .int vpl])), (aPc, .inl (cyI, 80, .inl vpp)), (aR, .inr (2, [.ref aP, .ref aRn, .int vra, .int vrk, .int vrt])), (aRn, .inl (cyI, 40, .inl vrn)), (aT, .inr (5, [.ref aTp, .int vtl_127, .int vta_127, .int vtt_127])), (aTp, .inl (cyI, 552, .inl vtp_127))] := hD
                      refine lv_iconst (v := (5 : Int32)) hx hb dL_limits_143 (by decide) ?_
                      refine lv_icmp_ne (tgt := 254) hx hb dL_limits_144 (by decide) (fun hc => ?_) (fun hc => ?_)
                      · have hF := k_if_f hF hc
                        exact (hG _ _ _).1 (blk_254 vc_140 vhf_140 vhl_140 vhs_140 vsf vss vpl vpp vra vrk vrt vrn vtl_127 vta_127 vtt_127 vtp_127 hF _ _ _ hP hD hS (lv_sub hl [] rfl))
                      · have hF := k_if_t hF hc
                        refine lv_aload_n hx hb dL_limits_147 rfl (lv_at hl 0 rfl) ?_
                        refine lv_iconst (v := (0 : Int32)) hx hb dL_limits_148 (by decide) ?_
                        refine lv_iconst (v := (1 : Int32)) hx hb dL_limits_149 (by decide) ?_
                        refine lv_iconst (v := (0 : Int32)) hx hb dL_limits_150 (by decide) ?_
                        refine lv_bipush (v := (30 : Int32)) hx hb dL_limits_151 (by decide) ?_
                        obtain ⟨r153, vtl_153, vta_153, vtt_153, vtp_153, hC, hF⟩ := k_c5_ex hF
                        refine x_VM (As := [.int (0 : Int32), .int (1 : Int32), .int (0 : Int32), .int (30 : Int32)]) (rest := []) ⟨hx, hb, hml, hown, hts⟩ (c_X6_thickest l D cyI cyZ aM aS aC aH aL aP aR aT aTp H.size N (0 : Int32) (1 : Int32) (0 : Int32) (30 : Int32) vc_140 vtl_127 vta_127 vtt_127 vtp_127 hC) (cwV 4 hts gL_limits_X6_thickest rfl rfl rfl (by decide +kernel) ⟨Nat.le_of_ble_eq_true rfl, Nat.le_of_ble_eq_true rfl⟩) hK hP hD hS hA [0, 1, 2, 11, 12] rfl rfl rfl 0 rfl rfl rfl rfl hl.1 rfl (Nat.le_of_ble_eq_true rfl) ⟨Nat.le_of_ble_eq_true rfl, Nat.le_of_ble_eq_true rfl⟩ dL_limits_153 (fun H locs hP hD hS => ?_)
                        have hP : va_P D vwCl [(aM, .inr (6, [.ref aS, .ref aH, .ref aL, .ref aP, .ref aR, .ref aT])), (aS, .inr (3, [.ref aC])), (aC, .inl (cyI, 225, .inl vc_140)), (aH, .inr (0, [.ref aHs, .int vhf_140, .int vhl_140])), (aHs, .inl (cyI, 1575, .inl vhs_140)), (aL, .inr (4, [.ref aLs, .int vsf])), (aLs, .inl (cyI, 450, .inl vss)), (aP, .inr (1, [.ref aPc, .int vpl])), (aPc, .inl (cyI, 80, .inl vpp)), (aR, .inr (2, [.ref aP, .ref aRn, .int vra, .int vrk, .int vrt])), (aRn, .inl (cyI, 40, .inl vrn)), (aT, .inr (5, [.ref aTp, .int vtl_153, .int vta_153, .int vtt_153])), (aTp, .inl (cyI, 552, .inl vtp_153))] H := hP
                        have hD : va_D (fun q : Nat => s.heap.size ≤ q) [(aM, .inr (6, [.ref aS, .ref aH, .ref aL, .ref aP, .ref aR, .ref aT])), (aS, .inr (3, [.ref aC])), (aC, .inl (cyI, 225, .inl vc_140)), (aH, .inr (0, [.ref aHs, .int vhf_140, .int vhl_140])), (aHs, .inl (cyI, 1575, .inl vhs_140)), (aL, .inr (4, [.ref aLs, .int vsf])), (aLs, .inl (cyI, 450, .inl vss)), (aP, .inr (1, [.ref aPc, .int vpl])), (aPc, .inl (cyI, 80, .inl vpp)), (aR, .inr (2, [.ref aP, .ref aRn, .int vra, .int vrk, .int vrt])), (aRn, .inl (cyI, 40, .inl vrn)), (aT, .inr (5, [.ref aTp, .int vtl_153, .int vta_153, .int vtt_153])), (aTp, .inl (cyI, 552, .inl vtp_153))] := hD
                        refine lv_bipush (v := (30 : Int32)) hx hb dL_limits_156 (by decide) ?_
                        refine lv_icmp_ne (tgt := 254) hx hb dL_limits_158 (by decide) (fun hc => ?_) (fun hc => ?_)
                        · have hF := k_if_f hF hc
                          exact (hG _ _ _).1 (blk_254 vc_140 vhf_140 vhl_140 vhs_140 vsf vss vpl vpp vra vrk vrt vrn vtl_153 vta_153 vtt_153 vtp_153 hF _ _ _ hP hD hS (lv_sub hl [] rfl))
                        · have hF := k_if_t hF hc
                          refine lv_aload_n hx hb dL_limits_161 rfl (lv_at hl 0 rfl) ?_
                          refine lv_iconst (v := (0 : Int32)) hx hb dL_limits_162 (by decide) ?_
                          refine lv_iconst (v := (1 : Int32)) hx hb dL_limits_163 (by decide) ?_
                          refine lv_iconst (v := (0 : Int32)) hx hb dL_limits_164 (by decide) ?_
                          refine lv_bipush (v := (30 : Int32)) hx hb dL_limits_165 (by decide) ?_
                          refine lv_bipush (v := (99 : Int32)) hx hb dL_limits_167 (by decide) ?_
                          refine lv_bipush (v := (99 : Int32)) hx hb dL_limits_169 (by decide) ?_
                          obtain ⟨r171, vc_171, vhf_171, vhl_171, vhs_171, vtl_171, vta_171, vtt_171, vtp_171, hC, hF⟩ := k_c9_ex hF
                          refine x_VM (As := [.int (0 : Int32), .int (1 : Int32), .int (0 : Int32), .int (30 : Int32), .int (99 : Int32), .int (99 : Int32)]) (rest := []) ⟨hx, hb, hml, hown, hts⟩ (c_X6_run l D cyI cyZ aM aS aC aH aHs aL aP aR aT aTp H.size N (0 : Int32) (1 : Int32) (0 : Int32) (30 : Int32) (99 : Int32) (99 : Int32) vc_140 vhf_140 vhl_140 vhs_140 vtl_153 vta_153 vtt_153 vtp_153 hC) (cwV 6 hts gL_limits_X6_run rfl rfl rfl (by decide +kernel) ⟨Nat.le_of_ble_eq_true rfl, Nat.le_of_ble_eq_true rfl⟩) hK hP hD hS hA [0, 1, 2, 3, 4, 11, 12] rfl rfl rfl 0 rfl rfl rfl rfl hl.1 rfl (Nat.le_of_ble_eq_true rfl) ⟨Nat.le_of_ble_eq_true rfl, Nat.le_of_ble_eq_true rfl⟩ dL_limits_171 (fun H locs hP hD hS => ?_)
                          have hP : va_P D vwCl [(aM, .inr (6, [.ref aS, .ref aH, .ref aL, .ref aP, .ref aR, .ref aT])), (aS, .inr (3, [.ref aC])), (aC, .inl (cyI, 225, .inl vc_171)), (aH, .inr (0, [.ref aHs, .int vhf_171, .int vhl_171])), (aHs, .inl (cyI, 1575, .inl vhs_171)), (aL, .inr (4, [.ref aLs, .int vsf])), (aLs, .inl (cyI, 450, .inl vss)), (aP, .inr (1, [.ref aPc, .int vpl])), (aPc, .inl (cyI, 80, .inl vpp)), (aR, .inr (2, [.ref aP, .ref aRn, .int vra, .int vrk, .int vrt])), (aRn, .inl (cyI, 40, .inl vrn)), (aT, .inr (5, [.ref aTp, .int vtl_171, .int vta_171, .int vtt_171])), (aTp, .inl (cyI, 552, .inl vtp_171))] H := hP
                          have hD : va_D (fun q : Nat => s.heap.size ≤ q) [(aM, .inr (6, [.ref aS, .ref aH, .ref aL, .ref aP, .ref aR, .ref aT])), (aS, .inr (3, [.ref aC])), (aC, .inl (cyI, 225, .inl vc_171)), (aH, .inr (0, [.ref aHs, .int vhf_171, .int vhl_171])), (aHs, .inl (cyI, 1575, .inl vhs_171)), (aL, .inr (4, [.ref aLs, .int vsf])), (aLs, .inl (cyI, 450, .inl vss)), (aP, .inr (1, [.ref aPc, .int vpl])), (aPc, .inl (cyI, 80, .inl vpp)), (aR, .inr (2, [.ref aP, .ref aRn, .int vra, .int vrk, .int vrt])), (aRn, .inl (cyI, 40, .inl vrn)), (aT, .inr (5, [.ref aTp, .int vtl_171, .int vta_171, .int vtt_171])), (aTp, .inl (cyI, 552, .inl vtp_171))] := hD
                          refine lv_if_ne (tgt := 254) hx hb dL_limits_174 (by decide) (fun hc => ?_) (fun hc => ?_)
                          · have hF := k_if_f hF hc
                            exact (hG _ _ _).1 (blk_254 vc_171 vhf_171 vhl_171 vhs_171 vsf vss vpl vpp vra vrk vrt vrn vtl_171 vta_171 vtt_171 vtp_171 hF _ _ _ hP hD hS (lv_sub hl [] rfl))
                          · have hF := k_if_t hF hc
                            refine lv_aload_n hx hb dL_limits_177 rfl (lv_at hl 0 rfl) ?_
                            refine lv_iconst (v := (5 : Int32)) hx hb dL_limits_178 (by decide) ?_
                            obtain ⟨r179, hC, hF⟩ := k_c1_ex hF
                            refine x_VR (As := [.int (5 : Int32)]) (rest := []) ⟨hx, hb, hml, hown, hts⟩ (c_X6_count l D cyI cyZ aM aS aC aH aHs aL aP aPc aR aT N (5 : Int32) vc_171 vhf_171 vhl_171 vpl hC) (cwV 1 hts gL_limits_X6_count rfl rfl rfl (by decide +kernel) ⟨Nat.le_of_ble_eq_true rfl, Nat.le_of_ble_eq_true rfl⟩) hK hP hS [0, 1, 2, 3, 7] rfl 0 rfl rfl rfl rfl hl.1 rfl (Nat.le_of_ble_eq_true rfl) ⟨Nat.le_of_ble_eq_true rfl, Nat.le_of_ble_eq_true rfl⟩ dL_limits_179 (fun H locs hP hS => ?_)
                            refine lv_sipush (v := (9801 : Int32)) hx hb dL_limits_182 (by decide) ?_
                            refine lv_icmp_ne (tgt := 254) hx hb dL_limits_185 (by decide) (fun hc => ?_) (fun hc => ?_)
                            · have hF := k_if_f hF hc
                              exact (hG _ _ _).1 (blk_254 vc_171 vhf_171 vhl_171 vhs_171 vsf vss vpl vpp vra vrk vrt vrn vtl_171 vta_171 vtt_171 vtp_171 hF _ _ _ hP hD hS (lv_sub hl [] rfl))
                            · have hF := k_if_t hF hc
                              refine lv_aload_n hx hb dL_limits_188 rfl (lv_at hl 0 rfl) ?_
                              refine lv_iconst (v := (0 : Int32)) hx hb dL_limits_189 (by decide) ?_
                              refine lv_bipush (v := (6 : Int32)) hx hb dL_limits_190 (by decide) ?_
                              obtain ⟨r192, hC, hF⟩ := k_c1_ex hF
                              refine x_VR (As := [.int (0 : Int32), .int (6 : Int32)]) (rest := []) ⟨hx, hb, hml, hown, hts⟩ (c_X6_of l D cyI cyZ aM aS aC aH aL aP aR aT N (0 : Int32) (6 : Int32) vc_171 hC) (cwV 2 hts gL_limits_X6_of rfl rfl rfl (by decide +kernel) ⟨Nat.le_of_ble_eq_true rfl, Nat.le_of_ble_eq_true rfl⟩) hK hP hS [0, 1, 2] rfl 0 rfl rfl rfl rfl hl.1 rfl (Nat.le_of_ble_eq_true rfl) ⟨Nat.le_of_ble_eq_true rfl, Nat.le_of_ble_eq_true rfl⟩ dL_limits_192 (fun H locs hP hS => ?_)
                              refine lv_iconst (v := (1 : Int32)) hx hb dL_limits_195 (by decide) ?_
                              refine lv_icmp_ne (tgt := 254) hx hb dL_limits_196 (by decide) (fun hc => ?_) (fun hc => ?_)
                              · have hF := k_if_f hF hc
                                exact (hG _ _ _).1 (blk_254 vc_171 vhf_171 vhl_171 vhs_171 vsf vss vpl vpp vra vrk vrt vrn vtl_171 vta_171 vtt_171 vtp_171 hF _ _ _ hP hD hS (lv_sub hl [] rfl))
                              · have hF := k_if_t hF hc
                                refine lv_aload_n hx hb dL_limits_199 rfl (lv_at hl 0 rfl) ?_
                                refine lv_iconst (v := (0 : Int32)) hx hb dL_limits_200 (by decide) ?_
                                refine lv_bipush (v := (23 : Int32)) hx hb dL_limits_201 (by decide) ?_
                                obtain ⟨r203, hC, hF⟩ := k_c1_ex hF
                                refine x_VR (As := [.int (0 : Int32), .int (23 : Int32)]) (rest := []) ⟨hx, hb, hml, hown, hts⟩ (c_X6_tooth l D cyI cyZ aM aS aC aH aL aP aR aT N (0 : Int32) (23 : Int32) vc_171 hC) (cwV 2 hts gL_limits_X6_tooth rfl rfl rfl (by decide +kernel) ⟨Nat.le_of_ble_eq_true rfl, Nat.le_of_ble_eq_true rfl⟩) hK hP hS [0, 1, 2] rfl 0 rfl rfl rfl rfl hl.1 rfl (Nat.le_of_ble_eq_true rfl) ⟨Nat.le_of_ble_eq_true rfl, Nat.le_of_ble_eq_true rfl⟩ dL_limits_203 (fun H locs hP hS => ?_)
                                refine lv_bipush (v := (17 : Int32)) hx hb dL_limits_206 (by decide) ?_
                                refine lv_icmp_ne (tgt := 254) hx hb dL_limits_208 (by decide) (fun hc => ?_) (fun hc => ?_)
                                · have hF := k_if_f hF hc
                                  exact (hG _ _ _).1 (blk_254 vc_171 vhf_171 vhl_171 vhs_171 vsf vss vpl vpp vra vrk vrt vrn vtl_171 vta_171 vtt_171 vtp_171 hF _ _ _ hP hD hS (lv_sub hl [] rfl))
                                · have hF := k_if_t hF hc
                                  refine lv_aload_n hx hb dL_limits_211 rfl (lv_at hl 0 rfl) ?_
                                  refine lv_iconst (v := (1 : Int32)) hx hb dL_limits_212 (by decide) ?_
                                  refine lv_bipush (v := (22 : Int32)) hx hb dL_limits_213 (by decide) ?_
                                  obtain ⟨r215, hC, hF⟩ := k_c1_ex hF
                                  refine x_VR (As := [.int (1 : Int32), .int (22 : Int32)]) (rest := []) ⟨hx, hb, hml, hown, hts⟩ (c_X6_tooth l D cyI cyZ aM aS aC aH aL aP aR aT N (1 : Int32) (22 : Int32) vc_171 hC) (cwV 2 hts gL_limits_X6_tooth rfl rfl rfl (by decide +kernel) ⟨Nat.le_of_ble_eq_true rfl, Nat.le_of_ble_eq_true rfl⟩) hK hP hS [0, 1, 2] rfl 0 rfl rfl rfl rfl hl.1 rfl (Nat.le_of_ble_eq_true rfl) ⟨Nat.le_of_ble_eq_true rfl, Nat.le_of_ble_eq_true rfl⟩ dL_limits_215 (fun H locs hP hS => ?_)
                                  refine lv_bipush (v := (17 : Int32)) hx hb dL_limits_218 (by decide) ?_
                                  refine lv_icmp_ne (tgt := 254) hx hb dL_limits_220 (by decide) (fun hc => ?_) (fun hc => ?_)
                                  · have hF := k_if_f hF hc
                                    exact (hG _ _ _).1 (blk_254 vc_171 vhf_171 vhl_171 vhs_171 vsf vss vpl vpp vra vrk vrt vrn vtl_171 vta_171 vtt_171 vtp_171 hF _ _ _ hP hD hS (lv_sub hl [] rfl))
                                  · have hF := k_if_t hF hc
                                    refine lv_aload_n hx hb dL_limits_223 rfl (lv_at hl 0 rfl) ?_
                                    refine lv_iconst (v := (2 : Int32)) hx hb dL_limits_224 (by decide) ?_
                                    refine lv_iconst (v := (5 : Int32)) hx hb dL_limits_225 (by decide) ?_
                                    obtain ⟨r226, hC, hF⟩ := k_c1_ex hF
                                    refine x_VR (As := [.int (2 : Int32), .int (5 : Int32)]) (rest := []) ⟨hx, hb, hml, hown, hts⟩ (c_X6_of l D cyI cyZ aM aS aC aH aL aP aR aT N (2 : Int32) (5 : Int32) vc_171 hC) (cwV 2 hts gL_limits_X6_of rfl rfl rfl (by decide +kernel) ⟨Nat.le_of_ble_eq_true rfl, Nat.le_of_ble_eq_true rfl⟩) hK hP hS [0, 1, 2] rfl 0 rfl rfl rfl rfl hl.1 rfl (Nat.le_of_ble_eq_true rfl) ⟨Nat.le_of_ble_eq_true rfl, Nat.le_of_ble_eq_true rfl⟩ dL_limits_226 (fun H locs hP hS => ?_)
                                    refine lv_if_ne (tgt := 254) hx hb dL_limits_229 (by decide) (fun hc => ?_) (fun hc => ?_)
                                    · have hF := k_if_f hF hc
                                      exact (hG _ _ _).1 (blk_254 vc_171 vhf_171 vhl_171 vhs_171 vsf vss vpl vpp vra vrk vrt vrn vtl_171 vta_171 vtt_171 vtp_171 hF _ _ _ hP hD hS (lv_sub hl [] rfl))
                                    · have hF := k_if_t hF hc
                                      refine lv_aload_n hx hb dL_limits_232 rfl (lv_at hl 0 rfl) ?_
                                      refine lv_bipush (v := (10 : Int32)) hx hb dL_limits_233 (by decide) ?_
                                      obtain ⟨r235, hC, hF⟩ := k_c1_ex hF
                                      refine x_VR (As := [.int (10 : Int32)]) (rest := []) ⟨hx, hb, hml, hown, hts⟩ (c_X6_count l D cyI cyZ aM aS aC aH aHs aL aP aPc aR aT N (10 : Int32) vc_171 vhf_171 vhl_171 vpl hC) (cwV 1 hts gL_limits_X6_count rfl rfl rfl (by decide +kernel) ⟨Nat.le_of_ble_eq_true rfl, Nat.le_of_ble_eq_true rfl⟩) hK hP hS [0, 1, 2, 3, 7] rfl 0 rfl rfl rfl rfl hl.1 rfl (Nat.le_of_ble_eq_true rfl) ⟨Nat.le_of_ble_eq_true rfl, Nat.le_of_ble_eq_true rfl⟩ dL_limits_235 (fun H locs hP hS => ?_)
                                      refine lv_bipush (v := (6 : Int32)) hx hb dL_limits_238 (by decide) ?_
                                      refine lv_icmp_ne (tgt := 254) hx hb dL_limits_240 (by decide) (fun hc => ?_) (fun hc => ?_)
                                      · have hF := k_if_f hF hc
                                        exact (hG _ _ _).1 (blk_254 vc_171 vhf_171 vhl_171 vhs_171 vsf vss vpl vpp vra vrk vrt vrn vtl_171 vta_171 vtt_171 vtp_171 hF _ _ _ hP hD hS (lv_sub hl [] rfl))
                                      · have hF := k_if_t hF hc
                                        refine lv_aload_n hx hb dL_limits_243 rfl (lv_at hl 0 rfl) ?_
                                        obtain ⟨r244, vc_244, vhf_244, vhl_244, vhs_244, vsf_244, vss_244, vpl_244, vpp_244, vra_244, vrk_244, vrt_244, vrn_244, vtl_244, vta_244, vtt_244, vtp_244, hC, hF⟩ := k_c17_ex hF
                                        refine x_SM (As := [.ref aM]) (rest := []) ⟨hx, hb, hml, hown, hts⟩ (c_L_refused l D cyI cyZ aM aS aC aH aHs aL aLs aP aPc aR aRn aT aTp H.size N vc_171 vhf_171 vhl_171 vhs_171 vsf vss vpl vpp vra vrk vrt vrn vtl_171 vta_171 vtt_171 vtp_171 hC) (va_cwS 1 hts gL_limits_L_refused rfl rfl rfl (by decide +kernel) ⟨Nat.le_of_ble_eq_true rfl, Nat.le_of_ble_eq_true rfl⟩) hK hP hD hS hA [0, 1, 2, 3, 4, 5, 6, 7, 8, 9, 10, 11, 12] rfl rfl rfl rfl hl.1 rfl (Nat.le_of_ble_eq_true rfl) ⟨Nat.le_of_ble_eq_true rfl, Nat.le_of_ble_eq_true rfl⟩ dL_limits_244 (fun H locs hP hD hS => ?_)
                                        have hP : va_P D vwCl [(aM, .inr (6, [.ref aS, .ref aH, .ref aL, .ref aP, .ref aR, .ref aT])), (aS, .inr (3, [.ref aC])), (aC, .inl (cyI, 225, .inl vc_244)), (aH, .inr (0, [.ref aHs, .int vhf_244, .int vhl_244])), (aHs, .inl (cyI, 1575, .inl vhs_244)), (aL, .inr (4, [.ref aLs, .int vsf_244])), (aLs, .inl (cyI, 450, .inl vss_244)), (aP, .inr (1, [.ref aPc, .int vpl_244])), (aPc, .inl (cyI, 80, .inl vpp_244)), (aR, .inr (2, [.ref aP, .ref aRn, .int vra_244, .int vrk_244, .int vrt_244])), (aRn, .inl (cyI, 40, .inl vrn_244)), (aT, .inr (5, [.ref aTp, .int vtl_244, .int vta_244, .int vtt_244])), (aTp, .inl (cyI, 552, .inl vtp_244))] H := hP
                                        have hD : va_D (fun q : Nat => s.heap.size ≤ q) [(aM, .inr (6, [.ref aS, .ref aH, .ref aL, .ref aP, .ref aR, .ref aT])), (aS, .inr (3, [.ref aC])), (aC, .inl (cyI, 225, .inl vc_244)), (aH, .inr (0, [.ref aHs, .int vhf_244, .int vhl_244])), (aHs, .inl (cyI, 1575, .inl vhs_244)), (aL, .inr (4, [.ref aLs, .int vsf_244])), (aLs, .inl (cyI, 450, .inl vss_244)), (aP, .inr (1, [.ref aPc, .int vpl_244])), (aPc, .inl (cyI, 80, .inl vpp_244)), (aR, .inr (2, [.ref aP, .ref aRn, .int vra_244, .int vrk_244, .int vrt_244])), (aRn, .inl (cyI, 40, .inl vrn_244)), (aT, .inr (5, [.ref aTp, .int vtl_244, .int vta_244, .int vtt_244])), (aTp, .inl (cyI, 552, .inl vtp_244))] := hD
                                        refine lv_if_eq (tgt := 254) hx hb dL_limits_247 (by decide) (fun hc => ?_) (fun hc => ?_)
                                        · have hF := k_if_t hF hc
                                          exact (hG _ _ _).1 (blk_254 vc_244 vhf_244 vhl_244 vhs_244 vsf_244 vss_244 vpl_244 vpp_244 vra_244 vrk_244 vrt_244 vrn_244 vtl_244 vta_244 vtt_244 vtp_244 hF _ _ _ hP hD hS (lv_sub hl [] rfl))
                                        · have hF := k_if_f hF hc
                                          refine lv_iconst (v := (1 : Int32)) hx hb dL_limits_250 (by decide) ?_
                                          refine lv_goto (tgt := 255) hx hb dL_limits_251 (by decide) ?_
                                          exact W.zret hx hb hr rfl (fun t ht hW => ⟨⟨_, (), rfl, rfl, trivial⟩, hS.F ht⟩) hS.2.2 dL_limits_255
      · have hF := k_if_f hF hc
        refine lv_aload_n hx hb dL_limits_16 rfl (lv_at hl 0 rfl) ?_
        refine lv_bipush (v := (24 : Int32)) hx hb dL_limits_17 (by decide) ?_
        refine lv_iload_n hx hb dL_limits_19 rfl (lv_at hl 1 rfl) ?_
        refine lv_isub hx hb dL_limits_20 ?_
        refine lv_bipush (v := (9 : Int32)) hx hb dL_limits_21 (by decide) ?_
        obtain ⟨r23, vc_23, vhf_23, vhl_23, vhs_23, hC, hF⟩ := k_c5_ex hF
        refine x_VM (As := [.int ((24 : Int32) - x1), .int (9 : Int32)]) (rest := []) ⟨hx, hb, hml, hown, hts⟩ (c_X6_roller l D cyI cyZ aM aS aC aH aHs aL aP aR aT H.size N ((24 : Int32) - x1) (9 : Int32) vc vhf vhl vhs hC) (cwV 2 hts gL_limits_X6_roller rfl rfl rfl (by decide +kernel) ⟨Nat.le_of_ble_eq_true rfl, Nat.le_of_ble_eq_true rfl⟩) hK hP hD hS hA [0, 1, 2, 3, 4] rfl rfl rfl 0 rfl rfl rfl rfl hl.1 rfl (Nat.le_of_ble_eq_true rfl) ⟨Nat.le_of_ble_eq_true rfl, Nat.le_of_ble_eq_true rfl⟩ dL_limits_23 (fun H locs hP hD hS => ?_)
        have hP : va_P D vwCl [(aM, .inr (6, [.ref aS, .ref aH, .ref aL, .ref aP, .ref aR, .ref aT])), (aS, .inr (3, [.ref aC])), (aC, .inl (cyI, 225, .inl vc_23)), (aH, .inr (0, [.ref aHs, .int vhf_23, .int vhl_23])), (aHs, .inl (cyI, 1575, .inl vhs_23)), (aL, .inr (4, [.ref aLs, .int vsf])), (aLs, .inl (cyI, 450, .inl vss)), (aP, .inr (1, [.ref aPc, .int vpl])), (aPc, .inl (cyI, 80, .inl vpp)), (aR, .inr (2, [.ref aP, .ref aRn, .int vra, .int vrk, .int vrt])), (aRn, .inl (cyI, 40, .inl vrn)), (aT, .inr (5, [.ref aTp, .int vtl, .int vta, .int vtt])), (aTp, .inl (cyI, 552, .inl vtp))] H := hP
        have hD : va_D (fun q : Nat => s.heap.size ≤ q) [(aM, .inr (6, [.ref aS, .ref aH, .ref aL, .ref aP, .ref aR, .ref aT])), (aS, .inr (3, [.ref aC])), (aC, .inl (cyI, 225, .inl vc_23)), (aH, .inr (0, [.ref aHs, .int vhf_23, .int vhl_23])), (aHs, .inl (cyI, 1575, .inl vhs_23)), (aL, .inr (4, [.ref aLs, .int vsf])), (aLs, .inl (cyI, 450, .inl vss)), (aP, .inr (1, [.ref aPc, .int vpl])), (aPc, .inl (cyI, 80, .inl vpp)), (aR, .inr (2, [.ref aP, .ref aRn, .int vra, .int vrk, .int vrt])), (aRn, .inl (cyI, 40, .inl vrn)), (aT, .inr (5, [.ref aTp, .int vtl, .int vta, .int vtt])), (aTp, .inl (cyI, 552, .inl vtp))] := hD
        refine lv_iload_n hx hb dL_limits_26 rfl (lv_at hl 1 rfl) ?_
        refine lv_icmp_eq (tgt := 32) hx hb dL_limits_27 (by decide) (fun hc => ?_) (fun hc => ?_)
        · have hF := k_if_t hF hc
          obtain ⟨x1_32, hn, hF⟩ := k_let_ex hF
          refine lv_iinc (v := x1_32) (lv' := [(1, .int x1_32), (0, .ref aM)]) hx hb dL_limits_32 hl (k := 1) rfl (by rw [hn]; rfl) (by decide) rfl (fun ls hl => ?_)
          refine lv_goto (tgt := 10) hx hb dL_limits_35 (by decide) ?_
          exact (hG _ _ _).1 (ih_10 x1_32 vc_23 vhf_23 vhl_23 vhs_23 vsf vss vpl vpp vra vrk vrt vrn vtl vta vtt vtp hF _ _ _ hP hD hS (lv_sub hl [1, 0] rfl))
        · have hF := k_if_f hF hc
          refine lv_iconst (v := (0 : Int32)) hx hb dL_limits_30 (by decide) ?_
          exact absurd (Option.some.inj hF) (by decide)
  have blk_8 : ∀ (vc : (Nat → Int32)) (vhf : Int32) (vhl : Int32) (vhs : (Nat → Int32)) (vsf : Int32) (vss : (Nat → Int32)) (vpl : Int32) (vpp : (Nat → Int32)) (vra : Int32) (vrk : Int32) (vrt : Int32) (vrn : (Nat → Int32)) (vtl : Int32) (vta : Int32) (vtt : Int32) (vtp : (Nat → Int32)), b_L_limits_8 N vc vhf vhl vhs vsf vss vpl vpp vra vrk vrt vrn vtl vta vtt vtp = some 1 → ∀ (H : Heap) (locs : List Loc) (ls : Array Slot), va_P D vwCl [(aM, .inr (6, [.ref aS, .ref aH, .ref aL, .ref aP, .ref aR, .ref aT])), (aS, .inr (3, [.ref aC])), (aC, .inl (cyI, 225, .inl vc)), (aH, .inr (0, [.ref aHs, .int vhf, .int vhl])), (aHs, .inl (cyI, 1575, .inl vhs)), (aL, .inr (4, [.ref aLs, .int vsf])), (aLs, .inl (cyI, 450, .inl vss)), (aP, .inr (1, [.ref aPc, .int vpl])), (aPc, .inl (cyI, 80, .inl vpp)), (aR, .inr (2, [.ref aP, .ref aRn, .int vra, .int vrk, .int vrt])), (aRn, .inl (cyI, 40, .inl vrn)), (aT, .inr (5, [.ref aTp, .int vtl, .int vta, .int vtt])), (aTp, .inl (cyI, 552, .inl vtp))] H → va_D (fun q : Nat => s.heap.size ≤ q) [(aM, .inr (6, [.ref aS, .ref aH, .ref aL, .ref aP, .ref aR, .ref aT])), (aS, .inr (3, [.ref aC])), (aC, .inl (cyI, 225, .inl vc)), (aH, .inr (0, [.ref aHs, .int vhf, .int vhl])), (aHs, .inl (cyI, 1575, .inl vhs)), (aL, .inr (4, [.ref aLs, .int vsf])), (aLs, .inl (cyI, 450, .inl vss)), (aP, .inr (1, [.ref aPc, .int vpl])), (aPc, .inl (cyI, 80, .inl vpp)), (aR, .inr (2, [.ref aP, .ref aRn, .int vra, .int vrk, .int vrt])), (aRn, .inl (cyI, 40, .inl vrn)), (aT, .inr (5, [.ref aTp, .int vtl, .int vta, .int vtt])), (aTp, .inl (cyI, 552, .inl vtp))] → va_S (fun q : Nat => s.heap.size ≤ q) s.heap H locs → lv_has ls 2 [(0, .ref aM)] → G H locs (F0 m 8 ls []) := by
    intro vc vhf vhl vhs vsf vss vpl vpp vra vrk vrt vrn vtl vta vtt vtp hF H locs ls hP hD hS hl
    unfold b_L_limits_8 at hF
    refine (hG _ _ _).2 ?_
    refine lv_iconst (v := (0 : Int32)) hx hb dL_limits_8 (by decide) ?_
    refine lv_istore_n (lv' := [(1, .int (0 : Int32)), (0, .ref aM)]) hx hb dL_limits_9 rfl hl (by decide) rfl (fun ls hl => ?_)
    exact (hG _ _ _).1 (blk_10 N (0 : Int32) vc vhf vhl vhs vsf vss vpl vpp vra vrk vrt vrn vtl vta vtt vtp hF _ _ _ hP hD hS (lv_sub hl [1, 0] rfl))
  exact blk_8 (upd (upd (upd (upd (upd (fun _ => 0) 1 (5 : Int32)) 2 (5 : Int32)) 6 (6 : Int32)) 7 (4 : Int32)) 8 (20 : Int32)) (0 : Int32) (0 : Int32) (fun _ => 0) (0 : Int32) (fun _ => 0) (0 : Int32) (fun _ => 0) (0 : Int32) (0 : Int32) (0 : Int32) (fun _ => 0) (0 : Int32) (0 : Int32) (0 : Int32) (fun _ => 0) hF _ _ _ hP hD hS hl
