theorem mm_L_mesh_1 : Cond.classLink RL 14 RX6 ∈ wsL_mesh := List.mem_of_getElem? (i := 1) rfl
theorem mm_L_mesh_2 : Cond.instantiable RX6 6 ∈ wsL_mesh := List.mem_of_getElem? (i := 2) rfl
theorem mm_L_mesh_3 : Cond.initialized RX6 ∈ wsL_mesh := List.mem_of_getElem? (i := 3) rfl
theorem mm_L_mesh_4 : Cond.methodLink RL 93 yX6_init ∈ wsL_mesh := List.mem_of_getElem? (i := 4) rfl
theorem mm_L_mesh_5 : Cond.instanceMethod yX6_init ∈ wsL_mesh := List.mem_of_getElem? (i := 5) rfl
theorem mi_L_mesh_X6 : ∀ w ∈ wsX60, w ∈ wsL_mesh := fun _ h => List.mem_cons_of_mem _ (List.mem_append_left _ (List.mem_append_left _ (List.mem_append_left _ (List.mem_append_left _ (List.mem_append_left _ (List.mem_append_left _ (List.mem_append_right _ h)))))))
set_option maxHeartbeats 8000000 in
set_option maxRecDepth 100000 in
theorem c_L_mesh (l : Launch) (D : va_G) (cyI cyZ : ClassId) (sz N : Nat) (hF : b_L_mesh_8 N (upd (upd (upd (upd (upd (fun _ => 0) 1 (5 : Int32)) 2 (5 : Int32)) 6 (6 : Int32)) 7 (4 : Int32)) 8 (20 : Int32)) (0 : Int32) (0 : Int32) (fun _ => 0) (0 : Int32) (fun _ => 0) (0 : Int32) (fun _ => 0) (0 : Int32) (0 : Int32) (0 : Int32) (fun _ => 0) (0 : Int32) (0 : Int32) (0 : Int32) (fun _ => 0) = some 1) : Met l yL_mesh wsL_mesh ({ frames := 9, cells := 13, slots := 2945, locals := 208 }) (x_PM D cyI cyZ [] [] sz) (va_Qi (fun r (_ : Unit) => r = 1) (fun _ _ => True) (va_A [] sz)) 13 2945 (va_A [] sz) := by
  refine Met.ofW (cc := cL_mesh) (maxL := 1) (ret := (some .boolean)) (by decide) rfl ?_
  intro p e s m args below meth c s₁ B hml hv
  obtain ⟨rfl, hsz, hP, hK, hD0⟩ := hv
  have hx := B.exec
  have hb := B.bytes
  have hr := B.returns
  have hts := atoms_spec (ws := wsL_mesh) B.pre
  have hown : s.vm.findClass RL = some m.cls := findClass_of_methodNamed B.named
  have hlocks := B.notSynchronized
  subst hsz
  rw [x_A0]
  have hA : ∀ q : Nat, s.heap.size ≤ q → (fun q : Nat => s.heap.size ≤ q) q := fun _ h => h
  have hD : va_D (fun q : Nat => s.heap.size ≤ q) [] := ⟨fun i j p q h => by simp at h, fun k q h => by simp at h⟩
  have hS : va_S (fun q : Nat => s.heap.size ≤ q) s.heap s.heap [] := va_S.rf
  have hl := lv_entry ([]) (n := 1) (Nat.le_of_ble_eq_true rfl)
  rw [lg_entry_eq]
  generalize (lg_sl ([]) ++ List.replicate (1 - (lg_sl ([])).length) Slot.unset).toArray = ls at hl ⊢
  have hl : lv_has ls 1 [] := hl
  refine va_new (ci := 6) (fs := [.null, .null, .null, .null, .null, .null]) (C := RX6) (T := TX6) (N := 6) hx hb hts mi_L_mesh_X6 tyX6 tyX6_ok hown (hts _ mm_L_mesh_1) (hts _ mm_L_mesh_2) (hts _ mm_L_mesh_3) hK.1 hP hD hS hA rfl (fun j hj => by rcases (show j = 0 ∨ j = 1 ∨ j = 2 ∨ j = 3 ∨ j = 4 ∨ j = 5 by omega) with rfl | rfl | rfl | rfl | rfl | rfl <;> rfl) (Nat.le_of_ble_eq_true rfl) (Nat.le_of_ble_eq_true rfl) dL_mesh_0 (fun aM H hP hD hS => ?_)
  have hP : va_P D vwCl [(aM, .inr (6, [.null, .null, .null, .null, .null, .null]))] H := hP
  have hD : va_D (fun q : Nat => s.heap.size ≤ q) [(aM, .inr (6, [.null, .null, .null, .null, .null, .null]))] := hD
  refine W.widen (k := 1) (n := 6) (Nat.le_of_ble_eq_true rfl) (Nat.le_of_ble_eq_true rfl) ?_
  refine lv_dup hx hb dL_mesh_3 rfl ?_
  have hFc := va_free (wc := [(aM, .inr (6, [.null, .null, .null, .null, .null, .null]))]) hD hS hA [0] rfl
  refine va_callv (va_runI (As := []) (rest := [.ref aM]) ⟨hx, hb, hml, hown, hts⟩ (c_X6_init l D cyI cyZ aM H.size) (cwI 0 hts gL_mesh_X6_init rfl rfl rfl (hts _ mm_L_mesh_3) (hts _ mm_L_mesh_4) (hts _ mm_L_mesh_5) rfl (by decide +kernel) ⟨Nat.le_of_ble_eq_true rfl, Nat.le_of_ble_eq_true rfl⟩) ⟨x_blindM, x_preM hK hP hD [0] rfl rfl⟩ rfl rfl hl.1 rfl (lv_room (Nat.le_of_ble_eq_true rfl)) dL_mesh_4 ⟨Nat.le_of_ble_eq_true rfl, Nat.le_of_ble_eq_true rfl⟩) hS (fun q _ h => hFc q h) hFc (fun u t H1 locs ht hvm hw hB hz1 hk1 hS => ?_)
  obtain ⟨aS, aC, aH, aHs, aL, aLs, aP, aPc, aR, aRn, aT, aTp, hP1, hD1⟩ := hB
  rw [ht] at hP1
  obtain ⟨hP, hD⟩ := va_join (wr := []) (w1 := [(aM, .inr (6, [.ref aS, .ref aH, .ref aL, .ref aP, .ref aR, .ref aT])), (aS, .inr (3, [.ref aC])), (aC, .inl (cyI, 225, .inl (upd (upd (upd (upd (upd (fun _ => 0) 1 (5 : Int32)) 2 (5 : Int32)) 6 (6 : Int32)) 7 (4 : Int32)) 8 (20 : Int32)))), (aH, .inr (0, [.ref aHs, .int 0, .int 0])), (aHs, .inl (cyI, 1575, .inl (fun _ => 0))), (aL, .inr (4, [.ref aLs, .int 0])), (aLs, .inl (cyI, 450, .inl (fun _ => 0))), (aP, .inr (1, [.ref aPc, .int 0])), (aPc, .inl (cyI, 80, .inl (fun _ => 0))), (aR, .inr (2, [.ref aP, .ref aRn, .int 0, .int 0, .int 0])), (aRn, .inl (cyI, 40, .inl (fun _ => 0))), (aT, .inr (5, [.ref aTp, .int 0, .int 0, .int 0])), (aTp, .inl (cyI, 552, .inl (fun _ => 0)))]) hP hD [0] [] rfl rfl (by decide) (by decide) hk1 hFc hP1 hD1
  generalize H1 = H at hP hS ⊢
  have hP : va_P D vwCl [(aM, .inr (6, [.ref aS, .ref aH, .ref aL, .ref aP, .ref aR, .ref aT])), (aS, .inr (3, [.ref aC])), (aC, .inl (cyI, 225, .inl (upd (upd (upd (upd (upd (fun _ => 0) 1 (5 : Int32)) 2 (5 : Int32)) 6 (6 : Int32)) 7 (4 : Int32)) 8 (20 : Int32)))), (aH, .inr (0, [.ref aHs, .int 0, .int 0])), (aHs, .inl (cyI, 1575, .inl (fun _ => 0))), (aL, .inr (4, [.ref aLs, .int 0])), (aLs, .inl (cyI, 450, .inl (fun _ => 0))), (aP, .inr (1, [.ref aPc, .int 0])), (aPc, .inl (cyI, 80, .inl (fun _ => 0))), (aR, .inr (2, [.ref aP, .ref aRn, .int 0, .int 0, .int 0])), (aRn, .inl (cyI, 40, .inl (fun _ => 0))), (aT, .inr (5, [.ref aTp, .int 0, .int 0, .int 0])), (aTp, .inl (cyI, 552, .inl (fun _ => 0)))] H := hP
  have hD : va_D (fun q : Nat => s.heap.size ≤ q) [(aM, .inr (6, [.ref aS, .ref aH, .ref aL, .ref aP, .ref aR, .ref aT])), (aS, .inr (3, [.ref aC])), (aC, .inl (cyI, 225, .inl (upd (upd (upd (upd (upd (fun _ => 0) 1 (5 : Int32)) 2 (5 : Int32)) 6 (6 : Int32)) 7 (4 : Int32)) 8 (20 : Int32)))), (aH, .inr (0, [.ref aHs, .int 0, .int 0])), (aHs, .inl (cyI, 1575, .inl (fun _ => 0))), (aL, .inr (4, [.ref aLs, .int 0])), (aLs, .inl (cyI, 450, .inl (fun _ => 0))), (aP, .inr (1, [.ref aPc, .int 0])), (aPc, .inl (cyI, 80, .inl (fun _ => 0))), (aR, .inr (2, [.ref aP, .ref aRn, .int 0, .int 0, .int 0])), (aRn, .inl (cyI, 40, .inl (fun _ => 0))), (aT, .inr (5, [.ref aTp, .int 0, .int 0, .int 0])), (aTp, .inl (cyI, 552, .inl (fun _ => 0)))] := hD
  refine W.widen (k := 13) (n := 2945) (Nat.le_of_ble_eq_true rfl) (Nat.le_of_ble_eq_true rfl) ?_
  refine lv_astore_n (lv' := [(0, .ref aM)]) hx hb dL_mesh_7 rfl hl (by decide) rfl (fun ls hl => ?_)
  refine x_gen (fun G hG => ?_)
  have blk_384 : ∀ (vc : (Nat → Int32)) (vhf : Int32) (vhl : Int32) (vhs : (Nat → Int32)) (vsf : Int32) (vss : (Nat → Int32)) (vpl : Int32) (vpp : (Nat → Int32)) (vra : Int32) (vrk : Int32) (vrt : Int32) (vrn : (Nat → Int32)) (vtl : Int32) (vta : Int32) (vtt : Int32) (vtp : (Nat → Int32)), b_L_mesh_384 N vc vhf vhl vhs vsf vss vpl vpp vra vrk vrt vrn vtl vta vtt vtp = some 1 → ∀ (H : Heap) (locs : List Loc) (ls : Array Slot), va_P D vwCl [(aM, .inr (6, [.ref aS, .ref aH, .ref aL, .ref aP, .ref aR, .ref aT])), (aS, .inr (3, [.ref aC])), (aC, .inl (cyI, 225, .inl vc)), (aH, .inr (0, [.ref aHs, .int vhf, .int vhl])), (aHs, .inl (cyI, 1575, .inl vhs)), (aL, .inr (4, [.ref aLs, .int vsf])), (aLs, .inl (cyI, 450, .inl vss)), (aP, .inr (1, [.ref aPc, .int vpl])), (aPc, .inl (cyI, 80, .inl vpp)), (aR, .inr (2, [.ref aP, .ref aRn, .int vra, .int vrk, .int vrt])), (aRn, .inl (cyI, 40, .inl vrn)), (aT, .inr (5, [.ref aTp, .int vtl, .int vta, .int vtt])), (aTp, .inl (cyI, 552, .inl vtp))] H → va_D (fun q : Nat => s.heap.size ≤ q) [(aM, .inr (6, [.ref aS, .ref aH, .ref aL, .ref aP, .ref aR, .ref aT])), (aS, .inr (3, [.ref aC])), (aC, .inl (cyI, 225, .inl vc)), (aH, .inr (0, [.ref aHs, .int vhf, .int vhl])), (aHs, .inl (cyI, 1575, .inl vhs)), (aL, .inr (4, [.ref aLs, .int vsf])), (aLs, .inl (cyI, 450, .inl vss)), (aP, .inr (1, [.ref aPc, .int vpl])), (aPc, .inl (cyI, 80, .inl vpp)), (aR, .inr (2, [.ref aP, .ref aRn, .int vra, .int vrk, .int vrt])), (aRn, .inl (cyI, 40, .inl vrn)), (aT, .inr (5, [.ref aTp, .int vtl, .int vta, .int vtt])), (aTp, .inl (cyI, 552, .inl vtp))] → va_S (fun q : Nat => s.heap.size ≤ q) s.heap H locs → lv_has ls 1 [] → G H locs (F0 m 384 ls []) := by
    intro vc vhf vhl vhs vsf vss vpl vpp vra vrk vrt vrn vtl vta vtt vtp hF H locs ls hP hD hS hl
    unfold b_L_mesh_384 at hF
    refine (hG _ _ _).2 ?_
    refine lv_iconst (v := (0 : Int32)) hx hb dL_mesh_384 (by decide) ?_
    exact absurd (Option.some.inj hF) (by decide)
  have blk_718 : ∀ (vc : (Nat → Int32)) (vhf : Int32) (vhl : Int32) (vhs : (Nat → Int32)) (vsf : Int32) (vss : (Nat → Int32)) (vpl : Int32) (vpp : (Nat → Int32)) (vra : Int32) (vrk : Int32) (vrt : Int32) (vrn : (Nat → Int32)) (vtl : Int32) (vta : Int32) (vtt : Int32) (vtp : (Nat → Int32)), b_L_mesh_718 N vc vhf vhl vhs vsf vss vpl vpp vra vrk vrt vrn vtl vta vtt vtp = some 1 → ∀ (H : Heap) (locs : List Loc) (ls : Array Slot), va_P D vwCl [(aM, .inr (6, [.ref aS, .ref aH, .ref aL, .ref aP, .ref aR, .ref aT])), (aS, .inr (3, [.ref aC])), (aC, .inl (cyI, 225, .inl vc)), (aH, .inr (0, [.ref aHs, .int vhf, .int vhl])), (aHs, .inl (cyI, 1575, .inl vhs)), (aL, .inr (4, [.ref aLs, .int vsf])), (aLs, .inl (cyI, 450, .inl vss)), (aP, .inr (1, [.ref aPc, .int vpl])), (aPc, .inl (cyI, 80, .inl vpp)), (aR, .inr (2, [.ref aP, .ref aRn, .int vra, .int vrk, .int vrt])), (aRn, .inl (cyI, 40, .inl vrn)), (aT, .inr (5, [.ref aTp, .int vtl, .int vta, .int vtt])), (aTp, .inl (cyI, 552, .inl vtp))] H → va_D (fun q : Nat => s.heap.size ≤ q) [(aM, .inr (6, [.ref aS, .ref aH, .ref aL, .ref aP, .ref aR, .ref aT])), (aS, .inr (3, [.ref aC])), (aC, .inl (cyI, 225, .inl vc)), (aH, .inr (0, [.ref aHs, .int vhf, .int vhl])), (aHs, .inl (cyI, 1575, .inl vhs)), (aL, .inr (4, [.ref aLs, .int vsf])), (aLs, .inl (cyI, 450, .inl vss)), (aP, .inr (1, [.ref aPc, .int vpl])), (aPc, .inl (cyI, 80, .inl vpp)), (aR, .inr (2, [.ref aP, .ref aRn, .int vra, .int vrk, .int vrt])), (aRn, .inl (cyI, 40, .inl vrn)), (aT, .inr (5, [.ref aTp, .int vtl, .int vta, .int vtt])), (aTp, .inl (cyI, 552, .inl vtp))] → va_S (fun q : Nat => s.heap.size ≤ q) s.heap H locs → lv_has ls 1 [] → G H locs (F0 m 718 ls []) := by
    intro vc vhf vhl vhs vsf vss vpl vpp vra vrk vrt vrn vtl vta vtt vtp hF H locs ls hP hD hS hl
    unfold b_L_mesh_718 at hF
    refine (hG _ _ _).2 ?_
    refine lv_iconst (v := (0 : Int32)) hx hb dL_mesh_718 (by decide) ?_
    exact absurd (Option.some.inj hF) (by decide)
  have blk_909 : ∀ (vc : (Nat → Int32)) (vhf : Int32) (vhl : Int32) (vhs : (Nat → Int32)) (vsf : Int32) (vss : (Nat → Int32)) (vpl : Int32) (vpp : (Nat → Int32)) (vra : Int32) (vrk : Int32) (vrt : Int32) (vrn : (Nat → Int32)) (vtl : Int32) (vta : Int32) (vtt : Int32) (vtp : (Nat → Int32)), b_L_mesh_909 N vc vhf vhl vhs vsf vss vpl vpp vra vrk vrt vrn vtl vta vtt vtp = some 1 → ∀ (H : Heap) (locs : List Loc) (ls : Array Slot), va_P D vwCl [(aM, .inr (6, [.ref aS, .ref aH, .ref aL, .ref aP, .ref aR, .ref aT])), (aS, .inr (3, [.ref aC])), (aC, .inl (cyI, 225, .inl vc)), (aH, .inr (0, [.ref aHs, .int vhf, .int vhl])), (aHs, .inl (cyI, 1575, .inl vhs)), (aL, .inr (4, [.ref aLs, .int vsf])), (aLs, .inl (cyI, 450, .inl vss)), (aP, .inr (1, [.ref aPc, .int vpl])), (aPc, .inl (cyI, 80, .inl vpp)), (aR, .inr (2, [.ref aP, .ref aRn, .int vra, .int vrk, .int vrt])), (aRn, .inl (cyI, 40, .inl vrn)), (aT, .inr (5, [.ref aTp, .int vtl, .int vta, .int vtt])), (aTp, .inl (cyI, 552, .inl vtp))] H → va_D (fun q : Nat => s.heap.size ≤ q) [(aM, .inr (6, [.ref aS, .ref aH, .ref aL, .ref aP, .ref aR, .ref aT])), (aS, .inr (3, [.ref aC])), (aC, .inl (cyI, 225, .inl vc)), (aH, .inr (0, [.ref aHs, .int vhf, .int vhl])), (aHs, .inl (cyI, 1575, .inl vhs)), (aL, .inr (4, [.ref aLs, .int vsf])), (aLs, .inl (cyI, 450, .inl vss)), (aP, .inr (1, [.ref aPc, .int vpl])), (aPc, .inl (cyI, 80, .inl vpp)), (aR, .inr (2, [.ref aP, .ref aRn, .int vra, .int vrk, .int vrt])), (aRn, .inl (cyI, 40, .inl vrn)), (aT, .inr (5, [.ref aTp, .int vtl, .int vta, .int vtt])), (aTp, .inl (cyI, 552, .inl vtp))] → va_S (fun q : Nat => s.heap.size ≤ q) s.heap H locs → lv_has ls 1 [] → G H locs (F0 m 909 ls []) := by
    intro vc vhf vhl vhs vsf vss vpl vpp vra vrk vrt vrn vtl vta vtt vtp hF H locs ls hP hD hS hl
    unfold b_L_mesh_909 at hF
    refine (hG _ _ _).2 ?_
    refine lv_iconst (v := (0 : Int32)) hx hb dL_mesh_909 (by decide) ?_
    exact absurd (Option.some.inj hF) (by decide)
  have blk_945 : ∀ (vc : (Nat → Int32)) (vhf : Int32) (vhl : Int32) (vhs : (Nat → Int32)) (vsf : Int32) (vss : (Nat → Int32)) (vpl : Int32) (vpp : (Nat → Int32)) (vra : Int32) (vrk : Int32) (vrt : Int32) (vrn : (Nat → Int32)) (vtl : Int32) (vta : Int32) (vtt : Int32) (vtp : (Nat → Int32)), b_L_mesh_945 N vc vhf vhl vhs vsf vss vpl vpp vra vrk vrt vrn vtl vta vtt vtp = some 1 → ∀ (H : Heap) (locs : List Loc) (ls : Array Slot), va_P D vwCl [(aM, .inr (6, [.ref aS, .ref aH, .ref aL, .ref aP, .ref aR, .ref aT])), (aS, .inr (3, [.ref aC])), (aC, .inl (cyI, 225, .inl vc)), (aH, .inr (0, [.ref aHs, .int vhf, .int vhl])), (aHs, .inl (cyI, 1575, .inl vhs)), (aL, .inr (4, [.ref aLs, .int vsf])), (aLs, .inl (cyI, 450, .inl vss)), (aP, .inr (1, [.ref aPc, .int vpl])), (aPc, .inl (cyI, 80, .inl vpp)), (aR, .inr (2, [.ref aP, .ref aRn, .int vra, .int vrk, .int vrt])), (aRn, .inl (cyI, 40, .inl vrn)), (aT, .inr (5, [.ref aTp, .int vtl, .int vta, .int vtt])), (aTp, .inl (cyI, 552, .inl vtp))] H → va_D (fun q : Nat => s.heap.size ≤ q) [(aM, .inr (6, [.ref aS, .ref aH, .ref aL, .ref aP, .ref aR, .ref aT])), (aS, .inr (3, [.ref aC])), (aC, .inl (cyI, 225, .inl vc)), (aH, .inr (0, [.ref aHs, .int vhf, .int vhl])), (aHs, .inl (cyI, 1575, .inl vhs)), (aL, .inr (4, [.ref aLs, .int vsf])), (aLs, .inl (cyI, 450, .inl vss)), (aP, .inr (1, [.ref aPc, .int vpl])), (aPc, .inl (cyI, 80, .inl vpp)), (aR, .inr (2, [.ref aP, .ref aRn, .int vra, .int vrk, .int vrt])), (aRn, .inl (cyI, 40, .inl vrn)), (aT, .inr (5, [.ref aTp, .int vtl, .int vta, .int vtt])), (aTp, .inl (cyI, 552, .inl vtp))] → va_S (fun q : Nat => s.heap.size ≤ q) s.heap H locs → lv_has ls 1 [(0, .ref aM)] → G H locs (F0 m 945 ls []) := by
    intro vc vhf vhl vhs vsf vss vpl vpp vra vrk vrt vrn vtl vta vtt vtp hF H locs ls hP hD hS hl
    unfold b_L_mesh_945 at hF
    refine (hG _ _ _).2 ?_
    refine lv_aload_n hx hb dL_mesh_945 rfl (lv_at hl 0 rfl) ?_
    obtain ⟨r946, vc_946, vhf_946, vhl_946, hC, hF⟩ := k_c4_ex hF
    refine x_VM (As := []) (rest := []) ⟨hx, hb, hml, hown, hts⟩ (c_X6_undo l D cyI cyZ aM aS aC aH aHs aL aP aR aT H.size N vc vhf vhl vhs hC) (cwV 0 hts gL_mesh_X6_undo rfl rfl rfl (by decide +kernel) ⟨Nat.le_of_ble_eq_true rfl, Nat.le_of_ble_eq_true rfl⟩) hK hP hD hS hA [0, 1, 2, 3, 4] rfl rfl rfl 0 rfl rfl rfl rfl hl.1 rfl (Nat.le_of_ble_eq_true rfl) ⟨Nat.le_of_ble_eq_true rfl, Nat.le_of_ble_eq_true rfl⟩ dL_mesh_946 (fun H locs hP hD hS => ?_)
    have hP : va_P D vwCl [(aM, .inr (6, [.ref aS, .ref aH, .ref aL, .ref aP, .ref aR, .ref aT])), (aS, .inr (3, [.ref aC])), (aC, .inl (cyI, 225, .inl vc_946)), (aH, .inr (0, [.ref aHs, .int vhf_946, .int vhl_946])), (aHs, .inl (cyI, 1575, .inl vhs)), (aL, .inr (4, [.ref aLs, .int vsf])), (aLs, .inl (cyI, 450, .inl vss)), (aP, .inr (1, [.ref aPc, .int vpl])), (aPc, .inl (cyI, 80, .inl vpp)), (aR, .inr (2, [.ref aP, .ref aRn, .int vra, .int vrk, .int vrt])), (aRn, .inl (cyI, 40, .inl vrn)), (aT, .inr (5, [.ref aTp, .int vtl, .int vta, .int vtt])), (aTp, .inl (cyI, 552, .inl vtp))] H := hP
    have hD : va_D (fun q : Nat => s.heap.size ≤ q) [(aM, .inr (6, [.ref aS, .ref aH, .ref aL, .ref aP, .ref aR, .ref aT])), (aS, .inr (3, [.ref aC])), (aC, .inl (cyI, 225, .inl vc_946)), (aH, .inr (0, [.ref aHs, .int vhf_946, .int vhl_946])), (aHs, .inl (cyI, 1575, .inl vhs)), (aL, .inr (4, [.ref aLs, .int vsf])), (aLs, .inl (cyI, 450, .inl vss)), (aP, .inr (1, [.ref aPc, .int vpl])), (aPc, .inl (cyI, 80, .inl vpp)), (aR, .inr (2, [.ref aP, .ref aRn, .int vra, .int vrk, .int vrt])), (aRn, .inl (cyI, 40, .inl vrn)), (aT, .inr (5, [.ref aTp, .int vtl, .int vta, .int vtt])), (aTp, .inl (cyI, 552, .inl vtp))] := hD
    refine lv_iconst (v := (3 : Int32)) hx hb dL_mesh_949 (by decide) ?_
    refine lv_icmp_ne (tgt := 1015) hx hb dL_mesh_950 (by decide) (fun hc => ?_) (fun hc => ?_)
    · have hF := k_if_f hF hc
      refine lv_iconst (v := (0 : Int32)) hx hb dL_mesh_1015 (by decide) ?_
      exact absurd (Option.some.inj hF) (by decide)
    · have hF := k_if_t hF hc
      refine lv_aload_n hx hb dL_mesh_953 rfl (lv_at hl 0 rfl) ?_
      refine lv_iconst (v := (5 : Int32)) hx hb dL_mesh_954 (by decide) ?_
      obtain ⟨r955, hC, hF⟩ := k_c1_ex hF
      refine x_VR (As := [.int (5 : Int32)]) (rest := []) ⟨hx, hb, hml, hown, hts⟩ (c_X6_count l D cyI cyZ aM aS aC aH aHs aL aP aPc aR aT N (5 : Int32) vc_946 vhf_946 vhl_946 vpl hC) (cwV 1 hts gL_mesh_X6_count rfl rfl rfl (by decide +kernel) ⟨Nat.le_of_ble_eq_true rfl, Nat.le_of_ble_eq_true rfl⟩) hK hP hS [0, 1, 2, 3, 7] rfl 0 rfl rfl rfl rfl hl.1 rfl (Nat.le_of_ble_eq_true rfl) ⟨Nat.le_of_ble_eq_true rfl, Nat.le_of_ble_eq_true rfl⟩ dL_mesh_955 (fun H locs hP hS => ?_)
      refine lv_bipush (v := (20 : Int32)) hx hb dL_mesh_958 (by decide) ?_
      refine lv_icmp_ne (tgt := 1015) hx hb dL_mesh_960 (by decide) (fun hc => ?_) (fun hc => ?_)
      · have hF := k_if_f hF hc
        refine lv_iconst (v := (0 : Int32)) hx hb dL_mesh_1015 (by decide) ?_
        exact absurd (Option.some.inj hF) (by decide)
      · have hF := k_if_t hF hc
        refine lv_aload_n hx hb dL_mesh_963 rfl (lv_at hl 0 rfl) ?_
        refine lv_iconst (v := (1 : Int32)) hx hb dL_mesh_964 (by decide) ?_
        refine lv_iconst (v := (5 : Int32)) hx hb dL_mesh_965 (by decide) ?_
        obtain ⟨r966, hC, hF⟩ := k_c1_ex hF
        refine x_VR (As := [.int (1 : Int32), .int (5 : Int32)]) (rest := []) ⟨hx, hb, hml, hown, hts⟩ (c_X6_of l D cyI cyZ aM aS aC aH aL aP aR aT N (1 : Int32) (5 : Int32) vc_946 hC) (cwV 2 hts gL_mesh_X6_of rfl rfl rfl (by decide +kernel) ⟨Nat.le_of_ble_eq_true rfl, Nat.le_of_ble_eq_true rfl⟩) hK hP hS [0, 1, 2] rfl 0 rfl rfl rfl rfl hl.1 rfl (Nat.le_of_ble_eq_true rfl) ⟨Nat.le_of_ble_eq_true rfl, Nat.le_of_ble_eq_true rfl⟩ dL_mesh_966 (fun H locs hP hS => ?_)
        refine lv_if_ne (tgt := 1015) hx hb dL_mesh_969 (by decide) (fun hc => ?_) (fun hc => ?_)
        · have hF := k_if_f hF hc
          refine lv_iconst (v := (0 : Int32)) hx hb dL_mesh_1015 (by decide) ?_
          exact absurd (Option.some.inj hF) (by decide)
        · have hF := k_if_t hF hc
          refine lv_aload_n hx hb dL_mesh_972 rfl (lv_at hl 0 rfl) ?_
          refine lv_iconst (v := (1 : Int32)) hx hb dL_mesh_973 (by decide) ?_
          obtain ⟨r974, vsf_974, vss_974, hC, hF⟩ := k_c3_ex hF
          refine x_VM (As := [.int (1 : Int32)]) (rest := []) ⟨hx, hb, hml, hown, hts⟩ (c_X6_save l D cyI cyZ aM aS aC aH aL aLs aP aR aT H.size N (1 : Int32) vc_946 vsf vss hC) (cwV 1 hts gL_mesh_X6_save rfl rfl rfl (by decide +kernel) ⟨Nat.le_of_ble_eq_true rfl, Nat.le_of_ble_eq_true rfl⟩) hK hP hD hS hA [0, 1, 2, 5, 6] rfl rfl rfl 0 rfl rfl rfl rfl hl.1 rfl (Nat.le_of_ble_eq_true rfl) ⟨Nat.le_of_ble_eq_true rfl, Nat.le_of_ble_eq_true rfl⟩ dL_mesh_974 (fun H locs hP hD hS => ?_)
          have hP : va_P D vwCl [(aM, .inr (6, [.ref aS, .ref aH, .ref aL, .ref aP, .ref aR, .ref aT])), (aS, .inr (3, [.ref aC])), (aC, .inl (cyI, 225, .inl vc_946)), (aH, .inr (0, [.ref aHs, .int vhf_946, .int vhl_946])), (aHs, .inl (cyI, 1575, .inl vhs)), (aL, .inr (4, [.ref aLs, .int vsf_974])), (aLs, .inl (cyI, 450, .inl vss_974)), (aP, .inr (1, [.ref aPc, .int vpl])), (aPc, .inl (cyI, 80, .inl vpp)), (aR, .inr (2, [.ref aP, .ref aRn, .int vra, .int vrk, .int vrt])), (aRn, .inl (cyI, 40, .inl vrn)), (aT, .inr (5, [.ref aTp, .int vtl, .int vta, .int vtt])), (aTp, .inl (cyI, 552, .inl vtp))] H := hP
          have hD : va_D (fun q : Nat => s.heap.size ≤ q) [(aM, .inr (6, [.ref aS, .ref aH, .ref aL, .ref aP, .ref aR, .ref aT])), (aS, .inr (3, [.ref aC])), (aC, .inl (cyI, 225, .inl vc_946)), (aH, .inr (0, [.ref aHs, .int vhf_946, .int vhl_946])), (aHs, .inl (cyI, 1575, .inl vhs)), (aL, .inr (4, [.ref aLs, .int vsf_974])), (aLs, .inl (cyI, 450, .inl vss_974)), (aP, .inr (1, [.ref aPc, .int vpl])), (aPc, .inl (cyI, 80, .inl vpp)), (aR, .inr (2, [.ref aP, .ref aRn, .int vra, .int vrk, .int vrt])), (aRn, .inl (cyI, 40, .inl vrn)), (aT, .inr (5, [.ref aTp, .int vtl, .int vta, .int vtt])), (aTp, .inl (cyI, 552, .inl vtp))] := hD
          refine lv_iconst (v := (2 : Int32)) hx hb dL_mesh_977 (by decide) ?_
          refine lv_icmp_ne (tgt := 1015) hx hb dL_mesh_978 (by decide) (fun hc => ?_) (fun hc => ?_)
          · have hF := k_if_f hF hc
            refine lv_iconst (v := (0 : Int32)) hx hb dL_mesh_1015 (by decide) ?_
            exact absurd (Option.some.inj hF) (by decide)
          · have hF := k_if_t hF hc
            refine lv_aload_n hx hb dL_mesh_981 rfl (lv_at hl 0 rfl) ?_
            refine lv_bipush (v := (24 : Int32)) hx hb dL_mesh_982 (by decide) ?_
            refine lv_bipush (v := (-9 : Int32)) hx hb dL_mesh_984 (by decide) ?_
            obtain ⟨r986, vc_986, vhf_986, vhl_986, vhs_986, hC, hF⟩ := k_c5_ex hF
            refine x_VM (As := [.int (24 : Int32), .int (-9 : Int32)]) (rest := []) ⟨hx, hb, hml, hown, hts⟩ (c_X6_roller l D cyI cyZ aM aS aC aH aHs aL aP aR aT H.size N (24 : Int32) (-9 : Int32) vc_946 vhf_946 vhl_946 vhs hC) (cwV 2 hts gL_mesh_X6_roller rfl rfl rfl (by decide +kernel) ⟨Nat.le_of_ble_eq_true rfl, Nat.le_of_ble_eq_true rfl⟩) hK hP hD hS hA [0, 1, 2, 3, 4] rfl rfl rfl 0 rfl rfl rfl rfl hl.1 rfl (Nat.le_of_ble_eq_true rfl) ⟨Nat.le_of_ble_eq_true rfl, Nat.le_of_ble_eq_true rfl⟩ dL_mesh_986 (fun H locs hP hD hS => ?_)
            have hP : va_P D vwCl [(aM, .inr (6, [.ref aS, .ref aH, .ref aL, .ref aP, .ref aR, .ref aT])), (aS, .inr (3, [.ref aC])), (aC, .inl (cyI, 225, .inl vc_986)), (aH, .inr (0, [.ref aHs, .int vhf_986, .int vhl_986])), (aHs, .inl (cyI, 1575, .inl vhs_986)), (aL, .inr (4, [.ref aLs, .int vsf_974])), (aLs, .inl (cyI, 450, .inl vss_974)), (aP, .inr (1, [.ref aPc, .int vpl])), (aPc, .inl (cyI, 80, .inl vpp)), (aR, .inr (2, [.ref aP, .ref aRn, .int vra, .int vrk, .int vrt])), (aRn, .inl (cyI, 40, .inl vrn)), (aT, .inr (5, [.ref aTp, .int vtl, .int vta, .int vtt])), (aTp, .inl (cyI, 552, .inl vtp))] H := hP
            have hD : va_D (fun q : Nat => s.heap.size ≤ q) [(aM, .inr (6, [.ref aS, .ref aH, .ref aL, .ref aP, .ref aR, .ref aT])), (aS, .inr (3, [.ref aC])), (aC, .inl (cyI, 225, .inl vc_986)), (aH, .inr (0, [.ref aHs, .int vhf_986, .int vhl_986])), (aHs, .inl (cyI, 1575, .inl vhs_986)), (aL, .inr (4, [.ref aLs, .int vsf_974])), (aLs, .inl (cyI, 450, .inl vss_974)), (aP, .inr (1, [.ref aPc, .int vpl])), (aPc, .inl (cyI, 80, .inl vpp)), (aR, .inr (2, [.ref aP, .ref aRn, .int vra, .int vrk, .int vrt])), (aRn, .inl (cyI, 40, .inl vrn)), (aT, .inr (5, [.ref aTp, .int vtl, .int vta, .int vtt])), (aTp, .inl (cyI, 552, .inl vtp))] := hD
            refine lv_iconst (v := (2 : Int32)) hx hb dL_mesh_989 (by decide) ?_
            refine lv_icmp_ne (tgt := 1015) hx hb dL_mesh_990 (by decide) (fun hc => ?_) (fun hc => ?_)
            · have hF := k_if_f hF hc
              refine lv_iconst (v := (0 : Int32)) hx hb dL_mesh_1015 (by decide) ?_
              exact absurd (Option.some.inj hF) (by decide)
            · have hF := k_if_t hF hc
              refine lv_aload_n hx hb dL_mesh_993 rfl (lv_at hl 0 rfl) ?_
              refine lv_iconst (v := (1 : Int32)) hx hb dL_mesh_994 (by decide) ?_
              obtain ⟨r995, vc_995, vhf_995, vhl_995, vhs_995, hC, hF⟩ := k_c5_ex hF
              refine x_VM (As := [.int (1 : Int32)]) (rest := []) ⟨hx, hb, hml, hown, hts⟩ (c_X6_restore l D cyI cyZ aM aS aC aH aHs aL aLs aP aR aT H.size N (1 : Int32) vc_986 vhf_986 vhl_986 vhs_986 vsf_974 vss_974 hC) (cwV 1 hts gL_mesh_X6_restore rfl rfl rfl (by decide +kernel) ⟨Nat.le_of_ble_eq_true rfl, Nat.le_of_ble_eq_true rfl⟩) hK hP hD hS hA [0, 1, 2, 3, 4, 5, 6] rfl rfl rfl 0 rfl rfl rfl rfl hl.1 rfl (Nat.le_of_ble_eq_true rfl) ⟨Nat.le_of_ble_eq_true rfl, Nat.le_of_ble_eq_true rfl⟩ dL_mesh_995 (fun H locs hP hD hS => ?_)
              have hP : va_P D vwCl [(aM, .inr (6, [.ref aS, .ref aH, .ref aL, .ref aP, .ref aR, .ref aT])), (aS, .inr (3, [.ref aC])), (aC, .inl (cyI, 225, .inl vc_995)), (aH, .inr (0, [.ref aHs, .int vhf_995, .int vhl_995])), (aHs, .inl (cyI, 1575, .inl vhs_995)), (aL, .inr (4, [.ref aLs, .int vsf_974])), (aLs, .inl (cyI, 450, .inl vss_974)), (aP, .inr (1, [.ref aPc, .int vpl])), (aPc, .inl (cyI, 80, .inl vpp)), (aR, .inr (2, [.ref aP, .ref aRn, .int vra, .int vrk, .int vrt])), (aRn, .inl (cyI, 40, .inl vrn)), (aT, .inr (5, [.ref aTp, .int vtl, .int vta, .int vtt])), (aTp, .inl (cyI, 552, .inl vtp))] H := hP
              have hD : va_D (fun q : Nat => s.heap.size ≤ q) [(aM, .inr (6, [.ref aS, .ref aH, .ref aL, .ref aP, .ref aR, .ref aT])), (aS, .inr (3, [.ref aC])), (aC, .inl (cyI, 225, .inl vc_995)), (aH, .inr (0, [.ref aHs, .int vhf_995, .int vhl_995])), (aHs, .inl (cyI, 1575, .inl vhs_995)), (aL, .inr (4, [.ref aLs, .int vsf_974])), (aLs, .inl (cyI, 450, .inl vss_974)), (aP, .inr (1, [.ref aPc, .int vpl])), (aPc, .inl (cyI, 80, .inl vpp)), (aR, .inr (2, [.ref aP, .ref aRn, .int vra, .int vrk, .int vrt])), (aRn, .inl (cyI, 40, .inl vrn)), (aT, .inr (5, [.ref aTp, .int vtl, .int vta, .int vtt])), (aTp, .inl (cyI, 552, .inl vtp))] := hD
              refine lv_iconst (v := (2 : Int32)) hx hb dL_mesh_998 (by decide) ?_
              refine lv_icmp_ne (tgt := 1015) hx hb dL_mesh_999 (by decide) (fun hc => ?_) (fun hc => ?_)
              · have hF := k_if_f hF hc
                refine lv_iconst (v := (0 : Int32)) hx hb dL_mesh_1015 (by decide) ?_
                exact absurd (Option.some.inj hF) (by decide)
              · have hF := k_if_t hF hc
                refine lv_aload_n hx hb dL_mesh_1002 rfl (lv_at hl 0 rfl) ?_
                refine lv_iconst (v := (0 : Int32)) hx hb dL_mesh_1003 (by decide) ?_
                obtain ⟨r1004, hC, hF⟩ := k_c1_ex hF
                refine x_VR (As := [.int (0 : Int32)]) (rest := []) ⟨hx, hb, hml, hown, hts⟩ (c_X6_count l D cyI cyZ aM aS aC aH aHs aL aP aPc aR aT N (0 : Int32) vc_995 vhf_995 vhl_995 vpl hC) (cwV 1 hts gL_mesh_X6_count rfl rfl rfl (by decide +kernel) ⟨Nat.le_of_ble_eq_true rfl, Nat.le_of_ble_eq_true rfl⟩) hK hP hS [0, 1, 2, 3, 7] rfl 0 rfl rfl rfl rfl hl.1 rfl (Nat.le_of_ble_eq_true rfl) ⟨Nat.le_of_ble_eq_true rfl, Nat.le_of_ble_eq_true rfl⟩ dL_mesh_1004 (fun H locs hP hS => ?_)
                refine lv_iconst (v := (2 : Int32)) hx hb dL_mesh_1007 (by decide) ?_
                refine lv_icmp_ne (tgt := 1015) hx hb dL_mesh_1008 (by decide) (fun hc => ?_) (fun hc => ?_)
                · have hF := k_if_f hF hc
                  refine lv_iconst (v := (0 : Int32)) hx hb dL_mesh_1015 (by decide) ?_
                  exact absurd (Option.some.inj hF) (by decide)
                · have hF := k_if_t hF hc
                  refine lv_iconst (v := (1 : Int32)) hx hb dL_mesh_1011 (by decide) ?_
                  refine lv_goto (tgt := 1016) hx hb dL_mesh_1012 (by decide) ?_
                  exact W.zret hx hb hr rfl (fun t ht hW => ⟨⟨_, (), rfl, rfl, trivial⟩, hS.F ht⟩) hS.2.2 dL_mesh_1016
  have blk_858 : ∀ (vc : (Nat → Int32)) (vhf : Int32) (vhl : Int32) (vhs : (Nat → Int32)) (vsf : Int32) (vss : (Nat → Int32)) (vpl : Int32) (vpp : (Nat → Int32)) (vra : Int32) (vrk : Int32) (vrt : Int32) (vrn : (Nat → Int32)) (vtl : Int32) (vta : Int32) (vtt : Int32) (vtp : (Nat → Int32)), b_L_mesh_858 N vc vhf vhl vhs vsf vss vpl vpp vra vrk vrt vrn vtl vta vtt vtp = some 1 → ∀ (H : Heap) (locs : List Loc) (ls : Array Slot), va_P D vwCl [(aM, .inr (6, [.ref aS, .ref aH, .ref aL, .ref aP, .ref aR, .ref aT])), (aS, .inr (3, [.ref aC])), (aC, .inl (cyI, 225, .inl vc)), (aH, .inr (0, [.ref aHs, .int vhf, .int vhl])), (aHs, .inl (cyI, 1575, .inl vhs)), (aL, .inr (4, [.ref aLs, .int vsf])), (aLs, .inl (cyI, 450, .inl vss)), (aP, .inr (1, [.ref aPc, .int vpl])), (aPc, .inl (cyI, 80, .inl vpp)), (aR, .inr (2, [.ref aP, .ref aRn, .int vra, .int vrk, .int vrt])), (aRn, .inl (cyI, 40, .inl vrn)), (aT, .inr (5, [.ref aTp, .int vtl, .int vta, .int vtt])), (aTp, .inl (cyI, 552, .inl vtp))] H → va_D (fun q : Nat => s.heap.size ≤ q) [(aM, .inr (6, [.ref aS, .ref aH, .ref aL, .ref aP, .ref aR, .ref aT])), (aS, .inr (3, [.ref aC])), (aC, .inl (cyI, 225, .inl vc)), (aH, .inr (0, [.ref aHs, .int vhf, .int vhl])), (aHs, .inl (cyI, 1575, .inl vhs)), (aL, .inr (4, [.ref aLs, .int vsf])), (aLs, .inl (cyI, 450, .inl vss)), (aP, .inr (1, [.ref aPc, .int vpl])), (aPc, .inl (cyI, 80, .inl vpp)), (aR, .inr (2, [.ref aP, .ref aRn, .int vra, .int vrk, .int vrt])), (aRn, .inl (cyI, 40, .inl vrn)), (aT, .inr (5, [.ref aTp, .int vtl, .int vta, .int vtt])), (aTp, .inl (cyI, 552, .inl vtp))] → va_S (fun q : Nat => s.heap.size ≤ q) s.heap H locs → lv_has ls 1 [(0, .ref aM)] → G H locs (F0 m 858 ls []) := by
    intro vc vhf vhl vhs vsf vss vpl vpp vra vrk vrt vrn vtl vta vtt vtp hF H locs ls hP hD hS hl
    unfold b_L_mesh_858 at hF
    refine (hG _ _ _).2 ?_
    refine lv_aload_n hx hb dL_mesh_858 rfl (lv_at hl 0 rfl) ?_
    refine lv_iconst (v := (0 : Int32)) hx hb dL_mesh_859 (by decide) ?_
    obtain ⟨r860, vc_860, vhf_860, vhl_860, vhs_860, hC, hF⟩ := k_c5_ex hF
    refine x_VM (As := [.int (0 : Int32)]) (rest := []) ⟨hx, hb, hml, hown, hts⟩ (c_X6_melt l D cyI cyZ aM aS aC aH aHs aL aP aR aT H.size N (0 : Int32) vc vhf vhl vhs hC) (cwV 1 hts gL_mesh_X6_melt rfl rfl rfl (by decide +kernel) ⟨Nat.le_of_ble_eq_true rfl, Nat.le_of_ble_eq_true rfl⟩) hK hP hD hS hA [0, 1, 2, 3, 4] rfl rfl rfl 0 rfl rfl rfl rfl hl.1 rfl (Nat.le_of_ble_eq_true rfl) ⟨Nat.le_of_ble_eq_true rfl, Nat.le_of_ble_eq_true rfl⟩ dL_mesh_860 (fun H locs hP hD hS => ?_)
    have hP : va_P D vwCl [(aM, .inr (6, [.ref aS, .ref aH, .ref aL, .ref aP, .ref aR, .ref aT])), (aS, .inr (3, [.ref aC])), (aC, .inl (cyI, 225, .inl vc_860)), (aH, .inr (0, [.ref aHs, .int vhf_860, .int vhl_860])), (aHs, .inl (cyI, 1575, .inl vhs_860)), (aL, .inr (4, [.ref aLs, .int vsf])), (aLs, .inl (cyI, 450, .inl vss)), (aP, .inr (1, [.ref aPc, .int vpl])), (aPc, .inl (cyI, 80, .inl vpp)), (aR, .inr (2, [.ref aP, .ref aRn, .int vra, .int vrk, .int vrt])), (aRn, .inl (cyI, 40, .inl vrn)), (aT, .inr (5, [.ref aTp, .int vtl, .int vta, .int vtt])), (aTp, .inl (cyI, 552, .inl vtp))] H := hP
    have hD : va_D (fun q : Nat => s.heap.size ≤ q) [(aM, .inr (6, [.ref aS, .ref aH, .ref aL, .ref aP, .ref aR, .ref aT])), (aS, .inr (3, [.ref aC])), (aC, .inl (cyI, 225, .inl vc_860)), (aH, .inr (0, [.ref aHs, .int vhf_860, .int vhl_860])), (aHs, .inl (cyI, 1575, .inl vhs_860)), (aL, .inr (4, [.ref aLs, .int vsf])), (aLs, .inl (cyI, 450, .inl vss)), (aP, .inr (1, [.ref aPc, .int vpl])), (aPc, .inl (cyI, 80, .inl vpp)), (aR, .inr (2, [.ref aP, .ref aRn, .int vra, .int vrk, .int vrt])), (aRn, .inl (cyI, 40, .inl vrn)), (aT, .inr (5, [.ref aTp, .int vtl, .int vta, .int vtt])), (aTp, .inl (cyI, 552, .inl vtp))] := hD
    refine lv_iconst (v := (2 : Int32)) hx hb dL_mesh_863 (by decide) ?_
    refine lv_icmp_ne (tgt := 909) hx hb dL_mesh_864 (by decide) (fun hc => ?_) (fun hc => ?_)
    · have hF := k_if_f hF hc
      exact (hG _ _ _).1 (blk_909 vc_860 vhf_860 vhl_860 vhs_860 vsf vss vpl vpp vra vrk vrt vrn vtl vta vtt vtp hF _ _ _ hP hD hS (lv_sub hl [] rfl))
    · have hF := k_if_t hF hc
      refine lv_aload_n hx hb dL_mesh_867 rfl (lv_at hl 0 rfl) ?_
      refine lv_iconst (v := (0 : Int32)) hx hb dL_mesh_868 (by decide) ?_
      refine lv_bipush (v := (6 : Int32)) hx hb dL_mesh_869 (by decide) ?_
      obtain ⟨r871, hC, hF⟩ := k_c1_ex hF
      refine x_VR (As := [.int (0 : Int32), .int (6 : Int32)]) (rest := []) ⟨hx, hb, hml, hown, hts⟩ (c_X6_of l D cyI cyZ aM aS aC aH aL aP aR aT N (0 : Int32) (6 : Int32) vc_860 hC) (cwV 2 hts gL_mesh_X6_of rfl rfl rfl (by decide +kernel) ⟨Nat.le_of_ble_eq_true rfl, Nat.le_of_ble_eq_true rfl⟩) hK hP hS [0, 1, 2] rfl 0 rfl rfl rfl rfl hl.1 rfl (Nat.le_of_ble_eq_true rfl) ⟨Nat.le_of_ble_eq_true rfl, Nat.le_of_ble_eq_true rfl⟩ dL_mesh_871 (fun H locs hP hS => ?_)
      refine lv_iconst (v := (1 : Int32)) hx hb dL_mesh_874 (by decide) ?_
      refine lv_icmp_ne (tgt := 909) hx hb dL_mesh_875 (by decide) (fun hc => ?_) (fun hc => ?_)
      · have hF := k_if_f hF hc
        exact (hG _ _ _).1 (blk_909 vc_860 vhf_860 vhl_860 vhs_860 vsf vss vpl vpp vra vrk vrt vrn vtl vta vtt vtp hF _ _ _ hP hD hS (lv_sub hl [] rfl))
      · have hF := k_if_t hF hc
        refine lv_aload_n hx hb dL_mesh_878 rfl (lv_at hl 0 rfl) ?_
        refine lv_iconst (v := (1 : Int32)) hx hb dL_mesh_879 (by decide) ?_
        refine lv_iconst (v := (0 : Int32)) hx hb dL_mesh_880 (by decide) ?_
        obtain ⟨r881, hC, hF⟩ := k_c1_ex hF
        refine x_VR (As := [.int (1 : Int32), .int (0 : Int32)]) (rest := []) ⟨hx, hb, hml, hown, hts⟩ (c_X6_of l D cyI cyZ aM aS aC aH aL aP aR aT N (1 : Int32) (0 : Int32) vc_860 hC) (cwV 2 hts gL_mesh_X6_of rfl rfl rfl (by decide +kernel) ⟨Nat.le_of_ble_eq_true rfl, Nat.le_of_ble_eq_true rfl⟩) hK hP hS [0, 1, 2] rfl 0 rfl rfl rfl rfl hl.1 rfl (Nat.le_of_ble_eq_true rfl) ⟨Nat.le_of_ble_eq_true rfl, Nat.le_of_ble_eq_true rfl⟩ dL_mesh_881 (fun H locs hP hS => ?_)
        refine lv_bipush (v := (6 : Int32)) hx hb dL_mesh_884 (by decide) ?_
        refine lv_icmp_ne (tgt := 909) hx hb dL_mesh_886 (by decide) (fun hc => ?_) (fun hc => ?_)
        · have hF := k_if_f hF hc
          exact (hG _ _ _).1 (blk_909 vc_860 vhf_860 vhl_860 vhs_860 vsf vss vpl vpp vra vrk vrt vrn vtl vta vtt vtp hF _ _ _ hP hD hS (lv_sub hl [] rfl))
        · have hF := k_if_t hF hc
          refine lv_aload_n hx hb dL_mesh_889 rfl (lv_at hl 0 rfl) ?_
          refine lv_iconst (v := (1 : Int32)) hx hb dL_mesh_890 (by decide) ?_
          refine lv_iconst (v := (5 : Int32)) hx hb dL_mesh_891 (by decide) ?_
          obtain ⟨r892, hC, hF⟩ := k_c1_ex hF
          refine x_VR (As := [.int (1 : Int32), .int (5 : Int32)]) (rest := []) ⟨hx, hb, hml, hown, hts⟩ (c_X6_of l D cyI cyZ aM aS aC aH aL aP aR aT N (1 : Int32) (5 : Int32) vc_860 hC) (cwV 2 hts gL_mesh_X6_of rfl rfl rfl (by decide +kernel) ⟨Nat.le_of_ble_eq_true rfl, Nat.le_of_ble_eq_true rfl⟩) hK hP hS [0, 1, 2] rfl 0 rfl rfl rfl rfl hl.1 rfl (Nat.le_of_ble_eq_true rfl) ⟨Nat.le_of_ble_eq_true rfl, Nat.le_of_ble_eq_true rfl⟩ dL_mesh_892 (fun H locs hP hS => ?_)
          refine lv_if_ne (tgt := 909) hx hb dL_mesh_895 (by decide) (fun hc => ?_) (fun hc => ?_)
          · have hF := k_if_f hF hc
            exact (hG _ _ _).1 (blk_909 vc_860 vhf_860 vhl_860 vhs_860 vsf vss vpl vpp vra vrk vrt vrn vtl vta vtt vtp hF _ _ _ hP hD hS (lv_sub hl [] rfl))
          · have hF := k_if_t hF hc
            refine lv_aload_n hx hb dL_mesh_898 rfl (lv_at hl 0 rfl) ?_
            refine lv_bipush (v := (10 : Int32)) hx hb dL_mesh_899 (by decide) ?_
            obtain ⟨r901, hC, hF⟩ := k_c1_ex hF
            refine x_VR (As := [.int (10 : Int32)]) (rest := []) ⟨hx, hb, hml, hown, hts⟩ (c_X6_count l D cyI cyZ aM aS aC aH aHs aL aP aPc aR aT N (10 : Int32) vc_860 vhf_860 vhl_860 vpl hC) (cwV 1 hts gL_mesh_X6_count rfl rfl rfl (by decide +kernel) ⟨Nat.le_of_ble_eq_true rfl, Nat.le_of_ble_eq_true rfl⟩) hK hP hS [0, 1, 2, 3, 7] rfl 0 rfl rfl rfl rfl hl.1 rfl (Nat.le_of_ble_eq_true rfl) ⟨Nat.le_of_ble_eq_true rfl, Nat.le_of_ble_eq_true rfl⟩ dL_mesh_901 (fun H locs hP hS => ?_)
            refine lv_bipush (v := (6 : Int32)) hx hb dL_mesh_904 (by decide) ?_
            refine lv_icmp_eq (tgt := 911) hx hb dL_mesh_906 (by decide) (fun hc => ?_) (fun hc => ?_)
            · have hF := k_if_t hF hc
              refine lv_aload_n hx hb dL_mesh_911 rfl (lv_at hl 0 rfl) ?_
              obtain ⟨r912, vc_912, vhf_912, vhl_912, hC, hF⟩ := k_c4_ex hF
              refine x_VM (As := []) (rest := []) ⟨hx, hb, hml, hown, hts⟩ (c_X6_undo l D cyI cyZ aM aS aC aH aHs aL aP aR aT H.size N vc_860 vhf_860 vhl_860 vhs_860 hC) (cwV 0 hts gL_mesh_X6_undo rfl rfl rfl (by decide +kernel) ⟨Nat.le_of_ble_eq_true rfl, Nat.le_of_ble_eq_true rfl⟩) hK hP hD hS hA [0, 1, 2, 3, 4] rfl rfl rfl 0 rfl rfl rfl rfl hl.1 rfl (Nat.le_of_ble_eq_true rfl) ⟨Nat.le_of_ble_eq_true rfl, Nat.le_of_ble_eq_true rfl⟩ dL_mesh_912 (fun H locs hP hD hS => ?_)
              have hP : va_P D vwCl [(aM, .inr (6, [.ref aS, .ref aH, .ref aL, .ref aP, .ref aR, .ref aT])), (aS, .inr (3, [.ref aC])), (aC, .inl (cyI, 225, .inl vc_912)), (aH, .inr (0, [.ref aHs, .int vhf_912, .int vhl_912])), (aHs, .inl (cyI, 1575, .inl vhs_860)), (aL, .inr (4, [.ref aLs, .int vsf])), (aLs, .inl (cyI, 450, .inl vss)), (aP, .inr (1, [.ref aPc, .int vpl])), (aPc, .inl (cyI, 80, .inl vpp)), (aR, .inr (2, [.ref aP, .ref aRn, .int vra, .int vrk, .int vrt])), (aRn, .inl (cyI, 40, .inl vrn)), (aT, .inr (5, [.ref aTp, .int vtl, .int vta, .int vtt])), (aTp, .inl (cyI, 552, .inl vtp))] H := hP
              have hD : va_D (fun q : Nat => s.heap.size ≤ q) [(aM, .inr (6, [.ref aS, .ref aH, .ref aL, .ref aP, .ref aR, .ref aT])), (aS, .inr (3, [.ref aC])), (aC, .inl (cyI, 225, .inl vc_912)), (aH, .inr (0, [.ref aHs, .int vhf_912, .int vhl_912])), (aHs, .inl (cyI, 1575, .inl vhs_860)), (aL, .inr (4, [.ref aLs, .int vsf])), (aLs, .inl (cyI, 450, .inl vss)), (aP, .inr (1, [.ref aPc, .int vpl])), (aPc, .inl (cyI, 80, .inl vpp)), (aR, .inr (2, [.ref aP, .ref aRn, .int vra, .int vrk, .int vrt])), (aRn, .inl (cyI, 40, .inl vrn)), (aT, .inr (5, [.ref aTp, .int vtl, .int vta, .int vtt])), (aTp, .inl (cyI, 552, .inl vtp))] := hD
              refine lv_iconst (v := (5 : Int32)) hx hb dL_mesh_915 (by decide) ?_
              refine lv_icmp_ne (tgt := 1015) hx hb dL_mesh_916 (by decide) (fun hc => ?_) (fun hc => ?_)
              · have hF := k_if_f hF hc
                refine lv_iconst (v := (0 : Int32)) hx hb dL_mesh_1015 (by decide) ?_
                exact absurd (Option.some.inj hF) (by decide)
              · have hF := k_if_t hF hc
                refine lv_aload_n hx hb dL_mesh_919 rfl (lv_at hl 0 rfl) ?_
                refine lv_iconst (v := (0 : Int32)) hx hb dL_mesh_920 (by decide) ?_
                obtain ⟨r921, hC, hF⟩ := k_c1_ex hF
                refine x_VR (As := [.int (0 : Int32)]) (rest := []) ⟨hx, hb, hml, hown, hts⟩ (c_X6_count l D cyI cyZ aM aS aC aH aHs aL aP aPc aR aT N (0 : Int32) vc_912 vhf_912 vhl_912 vpl hC) (cwV 1 hts gL_mesh_X6_count rfl rfl rfl (by decide +kernel) ⟨Nat.le_of_ble_eq_true rfl, Nat.le_of_ble_eq_true rfl⟩) hK hP hS [0, 1, 2, 3, 7] rfl 0 rfl rfl rfl rfl hl.1 rfl (Nat.le_of_ble_eq_true rfl) ⟨Nat.le_of_ble_eq_true rfl, Nat.le_of_ble_eq_true rfl⟩ dL_mesh_921 (fun H locs hP hS => ?_)
                refine lv_iconst (v := (3 : Int32)) hx hb dL_mesh_924 (by decide) ?_
                refine lv_icmp_ne (tgt := 1015) hx hb dL_mesh_925 (by decide) (fun hc => ?_) (fun hc => ?_)
                · have hF := k_if_f hF hc
                  refine lv_iconst (v := (0 : Int32)) hx hb dL_mesh_1015 (by decide) ?_
                  exact absurd (Option.some.inj hF) (by decide)
                · have hF := k_if_t hF hc
                  refine lv_aload_n hx hb dL_mesh_928 rfl (lv_at hl 0 rfl) ?_
                  obtain ⟨r929, vc_929, vhf_929, vhl_929, hC, hF⟩ := k_c4_ex hF
                  refine x_VM (As := []) (rest := []) ⟨hx, hb, hml, hown, hts⟩ (c_X6_undo l D cyI cyZ aM aS aC aH aHs aL aP aR aT H.size N vc_912 vhf_912 vhl_912 vhs_860 hC) (cwV 0 hts gL_mesh_X6_undo rfl rfl rfl (by decide +kernel) ⟨Nat.le_of_ble_eq_true rfl, Nat.le_of_ble_eq_true rfl⟩) hK hP hD hS hA [0, 1, 2, 3, 4] rfl rfl rfl 0 rfl rfl rfl rfl hl.1 rfl (Nat.le_of_ble_eq_true rfl) ⟨Nat.le_of_ble_eq_true rfl, Nat.le_of_ble_eq_true rfl⟩ dL_mesh_929 (fun H locs hP hD hS => ?_)
                  have hP : va_P D vwCl [(aM, .inr (6, [.ref aS, .ref aH, .ref aL, .ref aP, .ref aR, .ref aT])), (aS, .inr (3, [.ref aC])), (aC, .inl (cyI, 225, .inl vc_929)), (aH, .inr (0, [.ref aHs, .int vhf_929, .int vhl_929])), (aHs, .inl (cyI, 1575, .inl vhs_860)), (aL, .inr (4, [.ref aLs, .int vsf])), (aLs, .inl (cyI, 450, .inl vss)), (aP, .inr (1, [.ref aPc, .int vpl])), (aPc, .inl (cyI, 80, .inl vpp)), (aR, .inr (2, [.ref aP, .ref aRn, .int vra, .int vrk, .int vrt])), (aRn, .inl (cyI, 40, .inl vrn)), (aT, .inr (5, [.ref aTp, .int vtl, .int vta, .int vtt])), (aTp, .inl (cyI, 552, .inl vtp))] H := hP
                  have hD : va_D (fun q : Nat => s.heap.size ≤ q) [(aM, .inr (6, [.ref aS, .ref aH, .ref aL, .ref aP, .ref aR, .ref aT])), (aS, .inr (3, [.ref aC])), (aC, .inl (cyI, 225, .inl vc_929)), (aH, .inr (0, [.ref aHs, .int vhf_929, .int vhl_929])), (aHs, .inl (cyI, 1575, .inl vhs_860)), (aL, .inr (4, [.ref aLs, .int vsf])), (aLs, .inl (cyI, 450, .inl vss)), (aP, .inr (1, [.ref aPc, .int vpl])), (aPc, .inl (cyI, 80, .inl vpp)), (aR, .inr (2, [.ref aP, .ref aRn, .int vra, .int vrk, .int vrt])), (aRn, .inl (cyI, 40, .inl vrn)), (aT, .inr (5, [.ref aTp, .int vtl, .int vta, .int vtt])), (aTp, .inl (cyI, 552, .inl vtp))] := hD
                  refine lv_iconst (v := (4 : Int32)) hx hb dL_mesh_932 (by decide) ?_
                  refine lv_icmp_ne (tgt := 1015) hx hb dL_mesh_933 (by decide) (fun hc => ?_) (fun hc => ?_)
                  · have hF := k_if_f hF hc
                    refine lv_iconst (v := (0 : Int32)) hx hb dL_mesh_1015 (by decide) ?_
                    exact absurd (Option.some.inj hF) (by decide)
                  · have hF := k_if_t hF hc
                    refine lv_aload_n hx hb dL_mesh_936 rfl (lv_at hl 0 rfl) ?_
                    refine lv_iconst (v := (0 : Int32)) hx hb dL_mesh_937 (by decide) ?_
                    obtain ⟨r938, hC, hF⟩ := k_c1_ex hF
                    refine x_VR (As := [.int (0 : Int32)]) (rest := []) ⟨hx, hb, hml, hown, hts⟩ (c_X6_count l D cyI cyZ aM aS aC aH aHs aL aP aPc aR aT N (0 : Int32) vc_929 vhf_929 vhl_929 vpl hC) (cwV 1 hts gL_mesh_X6_count rfl rfl rfl (by decide +kernel) ⟨Nat.le_of_ble_eq_true rfl, Nat.le_of_ble_eq_true rfl⟩) hK hP hS [0, 1, 2, 3, 7] rfl 0 rfl rfl rfl rfl hl.1 rfl (Nat.le_of_ble_eq_true rfl) ⟨Nat.le_of_ble_eq_true rfl, Nat.le_of_ble_eq_true rfl⟩ dL_mesh_938 (fun H locs hP hS => ?_)
                    refine lv_iconst (v := (2 : Int32)) hx hb dL_mesh_941 (by decide) ?_
                    refine lv_icmp_ne (tgt := 1015) hx hb dL_mesh_942 (by decide) (fun hc => ?_) (fun hc => ?_)
                    · have hF := k_if_f hF hc
                      refine lv_iconst (v := (0 : Int32)) hx hb dL_mesh_1015 (by decide) ?_
                      exact absurd (Option.some.inj hF) (by decide)
                    · have hF := k_if_t hF hc
                      exact (hG _ _ _).1 (blk_945 vc_929 vhf_929 vhl_929 vhs_860 vsf vss vpl vpp vra vrk vrt vrn vtl vta vtt vtp hF _ _ _ hP hD hS (lv_sub hl [0] rfl))
            · have hF := k_if_f hF hc
              exact (hG _ _ _).1 (blk_909 vc_860 vhf_860 vhl_860 vhs_860 vsf vss vpl vpp vra vrk vrt vrn vtl vta vtt vtp hF _ _ _ hP hD hS (lv_sub hl [] rfl))
  have blk_765 : ∀ (vc : (Nat → Int32)) (vhf : Int32) (vhl : Int32) (vhs : (Nat → Int32)) (vsf : Int32) (vss : (Nat → Int32)) (vpl : Int32) (vpp : (Nat → Int32)) (vra : Int32) (vrk : Int32) (vrt : Int32) (vrn : (Nat → Int32)) (vtl : Int32) (vta : Int32) (vtt : Int32) (vtp : (Nat → Int32)), b_L_mesh_765 N vc vhf vhl vhs vsf vss vpl vpp vra vrk vrt vrn vtl vta vtt vtp = some 1 → ∀ (H : Heap) (locs : List Loc) (ls : Array Slot), va_P D vwCl [(aM, .inr (6, [.ref aS, .ref aH, .ref aL, .ref aP, .ref aR, .ref aT])), (aS, .inr (3, [.ref aC])), (aC, .inl (cyI, 225, .inl vc)), (aH, .inr (0, [.ref aHs, .int vhf, .int vhl])), (aHs, .inl (cyI, 1575, .inl vhs)), (aL, .inr (4, [.ref aLs, .int vsf])), (aLs, .inl (cyI, 450, .inl vss)), (aP, .inr (1, [.ref aPc, .int vpl])), (aPc, .inl (cyI, 80, .inl vpp)), (aR, .inr (2, [.ref aP, .ref aRn, .int vra, .int vrk, .int vrt])), (aRn, .inl (cyI, 40, .inl vrn)), (aT, .inr (5, [.ref aTp, .int vtl, .int vta, .int vtt])), (aTp, .inl (cyI, 552, .inl vtp))] H → va_D (fun q : Nat => s.heap.size ≤ q) [(aM, .inr (6, [.ref aS, .ref aH, .ref aL, .ref aP, .ref aR, .ref aT])), (aS, .inr (3, [.ref aC])), (aC, .inl (cyI, 225, .inl vc)), (aH, .inr (0, [.ref aHs, .int vhf, .int vhl])), (aHs, .inl (cyI, 1575, .inl vhs)), (aL, .inr (4, [.ref aLs, .int vsf])), (aLs, .inl (cyI, 450, .inl vss)), (aP, .inr (1, [.ref aPc, .int vpl])), (aPc, .inl (cyI, 80, .inl vpp)), (aR, .inr (2, [.ref aP, .ref aRn, .int vra, .int vrk, .int vrt])), (aRn, .inl (cyI, 40, .inl vrn)), (aT, .inr (5, [.ref aTp, .int vtl, .int vta, .int vtt])), (aTp, .inl (cyI, 552, .inl vtp))] → va_S (fun q : Nat => s.heap.size ≤ q) s.heap H locs → lv_has ls 1 [(0, .ref aM)] → G H locs (F0 m 765 ls []) := by
    intro vc vhf vhl vhs vsf vss vpl vpp vra vrk vrt vrn vtl vta vtt vtp hF H locs ls hP hD hS hl
    unfold b_L_mesh_765 at hF
    refine (hG _ _ _).2 ?_
    refine lv_aload_n hx hb dL_mesh_765 rfl (lv_at hl 0 rfl) ?_
    refine lv_iconst (v := (4 : Int32)) hx hb dL_mesh_766 (by decide) ?_
    obtain ⟨r767, hC, hF⟩ := k_c1_ex hF
    refine x_VR (As := [.int (4 : Int32)]) (rest := []) ⟨hx, hb, hml, hown, hts⟩ (c_X6_count l D cyI cyZ aM aS aC aH aHs aL aP aPc aR aT N (4 : Int32) vc vhf vhl vpl hC) (cwV 1 hts gL_mesh_X6_count rfl rfl rfl (by decide +kernel) ⟨Nat.le_of_ble_eq_true rfl, Nat.le_of_ble_eq_true rfl⟩) hK hP hS [0, 1, 2, 3, 7] rfl 0 rfl rfl rfl rfl hl.1 rfl (Nat.le_of_ble_eq_true rfl) ⟨Nat.le_of_ble_eq_true rfl, Nat.le_of_ble_eq_true rfl⟩ dL_mesh_767 (fun H locs hP hS => ?_)
    refine lv_bipush (v := (7 : Int32)) hx hb dL_mesh_770 (by decide) ?_
    refine lv_icmp_ne (tgt := 909) hx hb dL_mesh_772 (by decide) (fun hc => ?_) (fun hc => ?_)
    · have hF := k_if_f hF hc
      exact (hG _ _ _).1 (blk_909 vc vhf vhl vhs vsf vss vpl vpp vra vrk vrt vrn vtl vta vtt vtp hF _ _ _ hP hD hS (lv_sub hl [] rfl))
    · have hF := k_if_t hF hc
      refine lv_aload_n hx hb dL_mesh_775 rfl (lv_at hl 0 rfl) ?_
      refine lv_iconst (v := (5 : Int32)) hx hb dL_mesh_776 (by decide) ?_
      obtain ⟨r777, hC, hF⟩ := k_c1_ex hF
      refine x_VR (As := [.int (5 : Int32)]) (rest := []) ⟨hx, hb, hml, hown, hts⟩ (c_X6_count l D cyI cyZ aM aS aC aH aHs aL aP aPc aR aT N (5 : Int32) vc vhf vhl vpl hC) (cwV 1 hts gL_mesh_X6_count rfl rfl rfl (by decide +kernel) ⟨Nat.le_of_ble_eq_true rfl, Nat.le_of_ble_eq_true rfl⟩) hK hP hS [0, 1, 2, 3, 7] rfl 0 rfl rfl rfl rfl hl.1 rfl (Nat.le_of_ble_eq_true rfl) ⟨Nat.le_of_ble_eq_true rfl, Nat.le_of_ble_eq_true rfl⟩ dL_mesh_777 (fun H locs hP hS => ?_)
      refine lv_bipush (v := (24 : Int32)) hx hb dL_mesh_780 (by decide) ?_
      refine lv_icmp_ne (tgt := 909) hx hb dL_mesh_782 (by decide) (fun hc => ?_) (fun hc => ?_)
      · have hF := k_if_f hF hc
        exact (hG _ _ _).1 (blk_909 vc vhf vhl vhs vsf vss vpl vpp vra vrk vrt vrn vtl vta vtt vtp hF _ _ _ hP hD hS (lv_sub hl [] rfl))
      · have hF := k_if_t hF hc
        refine lv_aload_n hx hb dL_mesh_785 rfl (lv_at hl 0 rfl) ?_
        refine lv_iconst (v := (1 : Int32)) hx hb dL_mesh_786 (by decide) ?_
        refine lv_iconst (v := (5 : Int32)) hx hb dL_mesh_787 (by decide) ?_
        obtain ⟨r788, hC, hF⟩ := k_c1_ex hF
        refine x_VR (As := [.int (1 : Int32), .int (5 : Int32)]) (rest := []) ⟨hx, hb, hml, hown, hts⟩ (c_X6_of l D cyI cyZ aM aS aC aH aL aP aR aT N (1 : Int32) (5 : Int32) vc hC) (cwV 2 hts gL_mesh_X6_of rfl rfl rfl (by decide +kernel) ⟨Nat.le_of_ble_eq_true rfl, Nat.le_of_ble_eq_true rfl⟩) hK hP hS [0, 1, 2] rfl 0 rfl rfl rfl rfl hl.1 rfl (Nat.le_of_ble_eq_true rfl) ⟨Nat.le_of_ble_eq_true rfl, Nat.le_of_ble_eq_true rfl⟩ dL_mesh_788 (fun H locs hP hS => ?_)
        refine lv_iconst (v := (4 : Int32)) hx hb dL_mesh_791 (by decide) ?_
        refine lv_icmp_ne (tgt := 909) hx hb dL_mesh_792 (by decide) (fun hc => ?_) (fun hc => ?_)
        · have hF := k_if_f hF hc
          exact (hG _ _ _).1 (blk_909 vc vhf vhl vhs vsf vss vpl vpp vra vrk vrt vrn vtl vta vtt vtp hF _ _ _ hP hD hS (lv_sub hl [] rfl))
        · have hF := k_if_t hF hc
          refine lv_aload_n hx hb dL_mesh_795 rfl (lv_at hl 0 rfl) ?_
          refine lv_iconst (v := (0 : Int32)) hx hb dL_mesh_796 (by decide) ?_
          refine lv_iconst (v := (1 : Int32)) hx hb dL_mesh_797 (by decide) ?_
          refine lv_iconst (v := (0 : Int32)) hx hb dL_mesh_798 (by decide) ?_
          refine lv_iconst (v := (1 : Int32)) hx hb dL_mesh_799 (by decide) ?_
          obtain ⟨r800, vtl_800, vta_800, vtt_800, vtp_800, hC, hF⟩ := k_c5_ex hF
          refine x_VM (As := [.int (0 : Int32), .int (1 : Int32), .int (0 : Int32), .int (1 : Int32)]) (rest := []) ⟨hx, hb, hml, hown, hts⟩ (c_X6_thickest l D cyI cyZ aM aS aC aH aL aP aR aT aTp H.size N (0 : Int32) (1 : Int32) (0 : Int32) (1 : Int32) vc vtl vta vtt vtp hC) (cwV 4 hts gL_mesh_X6_thickest rfl rfl rfl (by decide +kernel) ⟨Nat.le_of_ble_eq_true rfl, Nat.le_of_ble_eq_true rfl⟩) hK hP hD hS hA [0, 1, 2, 11, 12] rfl rfl rfl 0 rfl rfl rfl rfl hl.1 rfl (Nat.le_of_ble_eq_true rfl) ⟨Nat.le_of_ble_eq_true rfl, Nat.le_of_ble_eq_true rfl⟩ dL_mesh_800 (fun H locs hP hD hS => ?_)
          have hP : va_P D vwCl [(aM, .inr (6, [.ref aS, .ref aH, .ref aL, .ref aP, .ref aR, .ref aT])), (aS, .inr (3, [.ref aC])), (aC, .inl (cyI, 225, .inl vc)), (aH, .inr (0, [.ref aHs, .int vhf, .int vhl])), (aHs, .inl (cyI, 1575, .inl vhs)), (aL, .inr (4, [.ref aLs, .int vsf])), (aLs, .inl (cyI, 450, .inl vss)), (aP, .inr (1, [.ref aPc, .int vpl])), (aPc, .inl (cyI, 80, .inl vpp)), (aR, .inr (2, [.ref aP, .ref aRn, .int vra, .int vrk, .int vrt])), (aRn, .inl (cyI, 40, .inl vrn)), (aT, .inr (5, [.ref aTp, .int vtl_800, .int vta_800, .int vtt_800])), (aTp, .inl (cyI, 552, .inl vtp_800))] H := hP
          have hD : va_D (fun q : Nat => s.heap.size ≤ q) [(aM, .inr (6, [.ref aS, .ref aH, .ref aL, .ref aP, .ref aR, .ref aT])), (aS, .inr (3, [.ref aC])), (aC, .inl (cyI, 225, .inl vc)), (aH, .inr (0, [.ref aHs, .int vhf, .int vhl])), (aHs, .inl (cyI, 1575, .inl vhs)), (aL, .inr (4, [.ref aLs, .int vsf])), (aLs, .inl (cyI, 450, .inl vss)), (aP, .inr (1, [.ref aPc, .int vpl])), (aPc, .inl (cyI, 80, .inl vpp)), (aR, .inr (2, [.ref aP, .ref aRn, .int vra, .int vrk, .int vrt])), (aRn, .inl (cyI, 40, .inl vrn)), (aT, .inr (5, [.ref aTp, .int vtl_800, .int vta_800, .int vtt_800])), (aTp, .inl (cyI, 552, .inl vtp_800))] := hD
          refine lv_iconst (v := (1 : Int32)) hx hb dL_mesh_803 (by decide) ?_
          refine lv_icmp_ne (tgt := 909) hx hb dL_mesh_804 (by decide) (fun hc => ?_) (fun hc => ?_)
          · have hF := k_if_f hF hc
            exact (hG _ _ _).1 (blk_909 vc vhf vhl vhs vsf vss vpl vpp vra vrk vrt vrn vtl_800 vta_800 vtt_800 vtp_800 hF _ _ _ hP hD hS (lv_sub hl [] rfl))
          · have hF := k_if_t hF hc
            refine lv_aload_n hx hb dL_mesh_807 rfl (lv_at hl 0 rfl) ?_
            refine lv_bipush (v := (6 : Int32)) hx hb dL_mesh_808 (by decide) ?_
            refine lv_bipush (v := (9 : Int32)) hx hb dL_mesh_810 (by decide) ?_
            obtain ⟨r812, vc_812, vhf_812, vhl_812, vhs_812, hC, hF⟩ := k_c5_ex hF
            refine x_VM (As := [.int (6 : Int32), .int (9 : Int32)]) (rest := []) ⟨hx, hb, hml, hown, hts⟩ (c_X6_roller l D cyI cyZ aM aS aC aH aHs aL aP aR aT H.size N (6 : Int32) (9 : Int32) vc vhf vhl vhs hC) (cwV 2 hts gL_mesh_X6_roller rfl rfl rfl (by decide +kernel) ⟨Nat.le_of_ble_eq_true rfl, Nat.le_of_ble_eq_true rfl⟩) hK hP hD hS hA [0, 1, 2, 3, 4] rfl rfl rfl 0 rfl rfl rfl rfl hl.1 rfl (Nat.le_of_ble_eq_true rfl) ⟨Nat.le_of_ble_eq_true rfl, Nat.le_of_ble_eq_true rfl⟩ dL_mesh_812 (fun H locs hP hD hS => ?_)
            have hP : va_P D vwCl [(aM, .inr (6, [.ref aS, .ref aH, .ref aL, .ref aP, .ref aR, .ref aT])), (aS, .inr (3, [.ref aC])), (aC, .inl (cyI, 225, .inl vc_812)), (aH, .inr (0, [.ref aHs, .int vhf_812, .int vhl_812])), (aHs, .inl (cyI, 1575, .inl vhs_812)), (aL, .inr (4, [.ref aLs, .int vsf])), (aLs, .inl (cyI, 450, .inl vss)), (aP, .inr (1, [.ref aPc, .int vpl])), (aPc, .inl (cyI, 80, .inl vpp)), (aR, .inr (2, [.ref aP, .ref aRn, .int vra, .int vrk, .int vrt])), (aRn, .inl (cyI, 40, .inl vrn)), (aT, .inr (5, [.ref aTp, .int vtl_800, .int vta_800, .int vtt_800])), (aTp, .inl (cyI, 552, .inl vtp_800))] H := hP
            have hD : va_D (fun q : Nat => s.heap.size ≤ q) [(aM, .inr (6, [.ref aS, .ref aH, .ref aL, .ref aP, .ref aR, .ref aT])), (aS, .inr (3, [.ref aC])), (aC, .inl (cyI, 225, .inl vc_812)), (aH, .inr (0, [.ref aHs, .int vhf_812, .int vhl_812])), (aHs, .inl (cyI, 1575, .inl vhs_812)), (aL, .inr (4, [.ref aLs, .int vsf])), (aLs, .inl (cyI, 450, .inl vss)), (aP, .inr (1, [.ref aPc, .int vpl])), (aPc, .inl (cyI, 80, .inl vpp)), (aR, .inr (2, [.ref aP, .ref aRn, .int vra, .int vrk, .int vrt])), (aRn, .inl (cyI, 40, .inl vrn)), (aT, .inr (5, [.ref aTp, .int vtl_800, .int vta_800, .int vtt_800])), (aTp, .inl (cyI, 552, .inl vtp_800))] := hD
            refine lv_iconst (v := (2 : Int32)) hx hb dL_mesh_815 (by decide) ?_
            refine lv_icmp_ne (tgt := 909) hx hb dL_mesh_816 (by decide) (fun hc => ?_) (fun hc => ?_)
            · have hF := k_if_f hF hc
              exact (hG _ _ _).1 (blk_909 vc_812 vhf_812 vhl_812 vhs_812 vsf vss vpl vpp vra vrk vrt vrn vtl_800 vta_800 vtt_800 vtp_800 hF _ _ _ hP hD hS (lv_sub hl [] rfl))
            · have hF := k_if_t hF hc
              refine lv_aload_n hx hb dL_mesh_819 rfl (lv_at hl 0 rfl) ?_
              refine lv_iconst (v := (0 : Int32)) hx hb dL_mesh_820 (by decide) ?_
              refine lv_iconst (v := (2 : Int32)) hx hb dL_mesh_821 (by decide) ?_
              refine lv_iconst (v := (5 : Int32)) hx hb dL_mesh_822 (by decide) ?_
              refine lv_bipush (v := (30 : Int32)) hx hb dL_mesh_823 (by decide) ?_
              refine lv_iconst (v := (0 : Int32)) hx hb dL_mesh_825 (by decide) ?_
              obtain ⟨r826, vtl_826, vtp_826, hC, hF⟩ := k_c3_ex hF
              refine x_VM (As := [.int (0 : Int32), .int (2 : Int32), .int (5 : Int32), .int (30 : Int32), .int (0 : Int32)]) (rest := []) ⟨hx, hb, hml, hown, hts⟩ (c_X6_pair l D cyI cyZ aM aS aC aH aL aP aR aT aTp H.size N (0 : Int32) (2 : Int32) (5 : Int32) (30 : Int32) (0 : Int32) vc_812 vtl_800 vta_800 vtt_800 vtp_800 hC) (cwV 5 hts gL_mesh_X6_pair rfl rfl rfl (by decide +kernel) ⟨Nat.le_of_ble_eq_true rfl, Nat.le_of_ble_eq_true rfl⟩) hK hP hD hS hA [0, 1, 2, 11, 12] rfl rfl rfl 0 rfl rfl rfl rfl hl.1 rfl (Nat.le_of_ble_eq_true rfl) ⟨Nat.le_of_ble_eq_true rfl, Nat.le_of_ble_eq_true rfl⟩ dL_mesh_826 (fun H locs hP hD hS => ?_)
              have hP : va_P D vwCl [(aM, .inr (6, [.ref aS, .ref aH, .ref aL, .ref aP, .ref aR, .ref aT])), (aS, .inr (3, [.ref aC])), (aC, .inl (cyI, 225, .inl vc_812)), (aH, .inr (0, [.ref aHs, .int vhf_812, .int vhl_812])), (aHs, .inl (cyI, 1575, .inl vhs_812)), (aL, .inr (4, [.ref aLs, .int vsf])), (aLs, .inl (cyI, 450, .inl vss)), (aP, .inr (1, [.ref aPc, .int vpl])), (aPc, .inl (cyI, 80, .inl vpp)), (aR, .inr (2, [.ref aP, .ref aRn, .int vra, .int vrk, .int vrt])), (aRn, .inl (cyI, 40, .inl vrn)), (aT, .inr (5, [.ref aTp, .int vtl_826, .int vta_800, .int vtt_800])), (aTp, .inl (cyI, 552, .inl vtp_826))] H := hP
              have hD : va_D (fun q : Nat => s.heap.size ≤ q) [(aM, .inr (6, [.ref aS, .ref aH, .ref aL, .ref aP, .ref aR, .ref aT])), (aS, .inr (3, [.ref aC])), (aC, .inl (cyI, 225, .inl vc_812)), (aH, .inr (0, [.ref aHs, .int vhf_812, .int vhl_812])), (aHs, .inl (cyI, 1575, .inl vhs_812)), (aL, .inr (4, [.ref aLs, .int vsf])), (aLs, .inl (cyI, 450, .inl vss)), (aP, .inr (1, [.ref aPc, .int vpl])), (aPc, .inl (cyI, 80, .inl vpp)), (aR, .inr (2, [.ref aP, .ref aRn, .int vra, .int vrk, .int vrt])), (aRn, .inl (cyI, 40, .inl vrn)), (aT, .inr (5, [.ref aTp, .int vtl_826, .int vta_800, .int vtt_800])), (aTp, .inl (cyI, 552, .inl vtp_826))] := hD
              refine lv_bipush (v := (12 : Int32)) hx hb dL_mesh_829 (by decide) ?_
              refine lv_icmp_ne (tgt := 909) hx hb dL_mesh_831 (by decide) (fun hc => ?_) (fun hc => ?_)
              · have hF := k_if_f hF hc
                exact (hG _ _ _).1 (blk_909 vc_812 vhf_812 vhl_812 vhs_812 vsf vss vpl vpp vra vrk vrt vrn vtl_826 vta_800 vtt_800 vtp_826 hF _ _ _ hP hD hS (lv_sub hl [] rfl))
              · have hF := k_if_t hF hc
                refine lv_aload_n hx hb dL_mesh_834 rfl (lv_at hl 0 rfl) ?_
                refine lv_iconst (v := (2 : Int32)) hx hb dL_mesh_835 (by decide) ?_
                refine lv_iconst (v := (1 : Int32)) hx hb dL_mesh_836 (by decide) ?_
                refine lv_iconst (v := (3 : Int32)) hx hb dL_mesh_837 (by decide) ?_
                obtain ⟨r838, vtl_838, vtp_838, hC, hF⟩ := k_c3_ex hF
                refine x_VM (As := [.int (2 : Int32), .int (1 : Int32), .int (3 : Int32)]) (rest := []) ⟨hx, hb, hml, hown, hts⟩ (c_X6_leastGap l D cyI cyZ aM aS aC aH aL aP aR aT aTp H.size N (2 : Int32) (1 : Int32) (3 : Int32) vc_812 vtl_826 vta_800 vtt_800 vtp_826 hC) (cwV 3 hts gL_mesh_X6_leastGap rfl rfl rfl (by decide +kernel) ⟨Nat.le_of_ble_eq_true rfl, Nat.le_of_ble_eq_true rfl⟩) hK hP hD hS hA [0, 1, 2, 11, 12] rfl rfl rfl 0 rfl rfl rfl rfl hl.1 rfl (Nat.le_of_ble_eq_true rfl) ⟨Nat.le_of_ble_eq_true rfl, Nat.le_of_ble_eq_true rfl⟩ dL_mesh_838 (fun H locs hP hD hS => ?_)
                have hP : va_P D vwCl [(aM, .inr (6, [.ref aS, .ref aH, .ref aL, .ref aP, .ref aR, .ref aT])), (aS, .inr (3, [.ref aC])), (aC, .inl (cyI, 225, .inl vc_812)), (aH, .inr (0, [.ref aHs, .int vhf_812, .int vhl_812])), (aHs, .inl (cyI, 1575, .inl vhs_812)), (aL, .inr (4, [.ref aLs, .int vsf])), (aLs, .inl (cyI, 450, .inl vss)), (aP, .inr (1, [.ref aPc, .int vpl])), (aPc, .inl (cyI, 80, .inl vpp)), (aR, .inr (2, [.ref aP, .ref aRn, .int vra, .int vrk, .int vrt])), (aRn, .inl (cyI, 40, .inl vrn)), (aT, .inr (5, [.ref aTp, .int vtl_838, .int vta_800, .int vtt_800])), (aTp, .inl (cyI, 552, .inl vtp_838))] H := hP
                have hD : va_D (fun q : Nat => s.heap.size ≤ q) [(aM, .inr (6, [.ref aS, .ref aH, .ref aL, .ref aP, .ref aR, .ref aT])), (aS, .inr (3, [.ref aC])), (aC, .inl (cyI, 225, .inl vc_812)), (aH, .inr (0, [.ref aHs, .int vhf_812, .int vhl_812])), (aHs, .inl (cyI, 1575, .inl vhs_812)), (aL, .inr (4, [.ref aLs, .int vsf])), (aLs, .inl (cyI, 450, .inl vss)), (aP, .inr (1, [.ref aPc, .int vpl])), (aPc, .inl (cyI, 80, .inl vpp)), (aR, .inr (2, [.ref aP, .ref aRn, .int vra, .int vrk, .int vrt])), (aRn, .inl (cyI, 40, .inl vrn)), (aT, .inr (5, [.ref aTp, .int vtl_838, .int vta_800, .int vtt_800])), (aTp, .inl (cyI, 552, .inl vtp_838))] := hD
                refine lv_bipush (v := (10 : Int32)) hx hb dL_mesh_841 (by decide) ?_
                refine lv_icmp_ne (tgt := 909) hx hb dL_mesh_843 (by decide) (fun hc => ?_) (fun hc => ?_)
                · have hF := k_if_f hF hc
                  exact (hG _ _ _).1 (blk_909 vc_812 vhf_812 vhl_812 vhs_812 vsf vss vpl vpp vra vrk vrt vrn vtl_838 vta_800 vtt_800 vtp_838 hF _ _ _ hP hD hS (lv_sub hl [] rfl))
                · have hF := k_if_t hF hc
                  refine lv_aload_n hx hb dL_mesh_846 rfl (lv_at hl 0 rfl) ?_
                  refine lv_iconst (v := (0 : Int32)) hx hb dL_mesh_847 (by decide) ?_
                  refine lv_iconst (v := (2 : Int32)) hx hb dL_mesh_848 (by decide) ?_
                  refine lv_iconst (v := (0 : Int32)) hx hb dL_mesh_849 (by decide) ?_
                  obtain ⟨r850, vtl_850, vtp_850, hC, hF⟩ := k_c3_ex hF
                  refine x_VM (As := [.int (0 : Int32), .int (2 : Int32), .int (0 : Int32)]) (rest := []) ⟨hx, hb, hml, hown, hts⟩ (c_X6_leastGap l D cyI cyZ aM aS aC aH aL aP aR aT aTp H.size N (0 : Int32) (2 : Int32) (0 : Int32) vc_812 vtl_838 vta_800 vtt_800 vtp_838 hC) (cwV 3 hts gL_mesh_X6_leastGap rfl rfl rfl (by decide +kernel) ⟨Nat.le_of_ble_eq_true rfl, Nat.le_of_ble_eq_true rfl⟩) hK hP hD hS hA [0, 1, 2, 11, 12] rfl rfl rfl 0 rfl rfl rfl rfl hl.1 rfl (Nat.le_of_ble_eq_true rfl) ⟨Nat.le_of_ble_eq_true rfl, Nat.le_of_ble_eq_true rfl⟩ dL_mesh_850 (fun H locs hP hD hS => ?_)
                  have hP : va_P D vwCl [(aM, .inr (6, [.ref aS, .ref aH, .ref aL, .ref aP, .ref aR, .ref aT])), (aS, .inr (3, [.ref aC])), (aC, .inl (cyI, 225, .inl vc_812)), (aH, .inr (0, [.ref aHs, .int vhf_812, .int vhl_812])), (aHs, .inl (cyI, 1575, .inl vhs_812)), (aL, .inr (4, [.ref aLs, .int vsf])), (aLs, .inl (cyI, 450, .inl vss)), (aP, .inr (1, [.ref aPc, .int vpl])), (aPc, .inl (cyI, 80, .inl vpp)), (aR, .inr (2, [.ref aP, .ref aRn, .int vra, .int vrk, .int vrt])), (aRn, .inl (cyI, 40, .inl vrn)), (aT, .inr (5, [.ref aTp, .int vtl_850, .int vta_800, .int vtt_800])), (aTp, .inl (cyI, 552, .inl vtp_850))] H := hP
                  have hD : va_D (fun q : Nat => s.heap.size ≤ q) [(aM, .inr (6, [.ref aS, .ref aH, .ref aL, .ref aP, .ref aR, .ref aT])), (aS, .inr (3, [.ref aC])), (aC, .inl (cyI, 225, .inl vc_812)), (aH, .inr (0, [.ref aHs, .int vhf_812, .int vhl_812])), (aHs, .inl (cyI, 1575, .inl vhs_812)), (aL, .inr (4, [.ref aLs, .int vsf])), (aLs, .inl (cyI, 450, .inl vss)), (aP, .inr (1, [.ref aPc, .int vpl])), (aPc, .inl (cyI, 80, .inl vpp)), (aR, .inr (2, [.ref aP, .ref aRn, .int vra, .int vrk, .int vrt])), (aRn, .inl (cyI, 40, .inl vrn)), (aT, .inr (5, [.ref aTp, .int vtl_850, .int vta_800, .int vtt_800])), (aTp, .inl (cyI, 552, .inl vtp_850))] := hD
                  refine lv_bipush (v := (11 : Int32)) hx hb dL_mesh_853 (by decide) ?_
                  refine lv_icmp_ne (tgt := 909) hx hb dL_mesh_855 (by decide) (fun hc => ?_) (fun hc => ?_)
                  · have hF := k_if_f hF hc
                    exact (hG _ _ _).1 (blk_909 vc_812 vhf_812 vhl_812 vhs_812 vsf vss vpl vpp vra vrk vrt vrn vtl_850 vta_800 vtt_800 vtp_850 hF _ _ _ hP hD hS (lv_sub hl [] rfl))
                  · have hF := k_if_t hF hc
                    exact (hG _ _ _).1 (blk_858 vc_812 vhf_812 vhl_812 vhs_812 vsf vss vpl vpp vra vrk vrt vrn vtl_850 vta_800 vtt_800 vtp_850 hF _ _ _ hP hD hS (lv_sub hl [0] rfl))
  have blk_660 : ∀ (vc : (Nat → Int32)) (vhf : Int32) (vhl : Int32) (vhs : (Nat → Int32)) (vsf : Int32) (vss : (Nat → Int32)) (vpl : Int32) (vpp : (Nat → Int32)) (vra : Int32) (vrk : Int32) (vrt : Int32) (vrn : (Nat → Int32)) (vtl : Int32) (vta : Int32) (vtt : Int32) (vtp : (Nat → Int32)), b_L_mesh_660 N vc vhf vhl vhs vsf vss vpl vpp vra vrk vrt vrn vtl vta vtt vtp = some 1 → ∀ (H : Heap) (locs : List Loc) (ls : Array Slot), va_P D vwCl [(aM, .inr (6, [.ref aS, .ref aH, .ref aL, .ref aP, .ref aR, .ref aT])), (aS, .inr (3, [.ref aC])), (aC, .inl (cyI, 225, .inl vc)), (aH, .inr (0, [.ref aHs, .int vhf, .int vhl])), (aHs, .inl (cyI, 1575, .inl vhs)), (aL, .inr (4, [.ref aLs, .int vsf])), (aLs, .inl (cyI, 450, .inl vss)), (aP, .inr (1, [.ref aPc, .int vpl])), (aPc, .inl (cyI, 80, .inl vpp)), (aR, .inr (2, [.ref aP, .ref aRn, .int vra, .int vrk, .int vrt])), (aRn, .inl (cyI, 40, .inl vrn)), (aT, .inr (5, [.ref aTp, .int vtl, .int vta, .int vtt])), (aTp, .inl (cyI, 552, .inl vtp))] H → va_D (fun q : Nat => s.heap.size ≤ q) [(aM, .inr (6, [.ref aS, .ref aH, .ref aL, .ref aP, .ref aR, .ref aT])), (aS, .inr (3, [.ref aC])), (aC, .inl (cyI, 225, .inl vc)), (aH, .inr (0, [.ref aHs, .int vhf, .int vhl])), (aHs, .inl (cyI, 1575, .inl vhs)), (aL, .inr (4, [.ref aLs, .int vsf])), (aLs, .inl (cyI, 450, .inl vss)), (aP, .inr (1, [.ref aPc, .int vpl])), (aPc, .inl (cyI, 80, .inl vpp)), (aR, .inr (2, [.ref aP, .ref aRn, .int vra, .int vrk, .int vrt])), (aRn, .inl (cyI, 40, .inl vrn)), (aT, .inr (5, [.ref aTp, .int vtl, .int vta, .int vtt])), (aTp, .inl (cyI, 552, .inl vtp))] → va_S (fun q : Nat => s.heap.size ≤ q) s.heap H locs → lv_has ls 1 [(0, .ref aM)] → G H locs (F0 m 660 ls []) := by
    intro vc vhf vhl vhs vsf vss vpl vpp vra vrk vrt vrn vtl vta vtt vtp hF H locs ls hP hD hS hl
    unfold b_L_mesh_660 at hF
    refine (hG _ _ _).2 ?_
    refine lv_aload_n hx hb dL_mesh_660 rfl (lv_at hl 0 rfl) ?_
    refine lv_iconst (v := (0 : Int32)) hx hb dL_mesh_661 (by decide) ?_
    refine lv_iconst (v := (0 : Int32)) hx hb dL_mesh_662 (by decide) ?_
    obtain ⟨r663, hC, hF⟩ := k_c1_ex hF
    refine x_VR (As := [.int (0 : Int32), .int (0 : Int32)]) (rest := []) ⟨hx, hb, hml, hown, hts⟩ (c_X6_tooth l D cyI cyZ aM aS aC aH aL aP aR aT N (0 : Int32) (0 : Int32) vc hC) (cwV 2 hts gL_mesh_X6_tooth rfl rfl rfl (by decide +kernel) ⟨Nat.le_of_ble_eq_true rfl, Nat.le_of_ble_eq_true rfl⟩) hK hP hS [0, 1, 2] rfl 0 rfl rfl rfl rfl hl.1 rfl (Nat.le_of_ble_eq_true rfl) ⟨Nat.le_of_ble_eq_true rfl, Nat.le_of_ble_eq_true rfl⟩ dL_mesh_663 (fun H locs hP hS => ?_)
    refine lv_bipush (v := (10 : Int32)) hx hb dL_mesh_666 (by decide) ?_
    refine lv_icmp_ne (tgt := 718) hx hb dL_mesh_668 (by decide) (fun hc => ?_) (fun hc => ?_)
    · have hF := k_if_f hF hc
      exact (hG _ _ _).1 (blk_718 vc vhf vhl vhs vsf vss vpl vpp vra vrk vrt vrn vtl vta vtt vtp hF _ _ _ hP hD hS (lv_sub hl [] rfl))
    · have hF := k_if_t hF hc
      refine lv_aload_n hx hb dL_mesh_671 rfl (lv_at hl 0 rfl) ?_
      refine lv_iconst (v := (0 : Int32)) hx hb dL_mesh_672 (by decide) ?_
      refine lv_iconst (v := (2 : Int32)) hx hb dL_mesh_673 (by decide) ?_
      obtain ⟨r674, hC, hF⟩ := k_c1_ex hF
      refine x_VR (As := [.int (0 : Int32), .int (2 : Int32)]) (rest := []) ⟨hx, hb, hml, hown, hts⟩ (c_X6_tooth l D cyI cyZ aM aS aC aH aL aP aR aT N (0 : Int32) (2 : Int32) vc hC) (cwV 2 hts gL_mesh_X6_tooth rfl rfl rfl (by decide +kernel) ⟨Nat.le_of_ble_eq_true rfl, Nat.le_of_ble_eq_true rfl⟩) hK hP hS [0, 1, 2] rfl 0 rfl rfl rfl rfl hl.1 rfl (Nat.le_of_ble_eq_true rfl) ⟨Nat.le_of_ble_eq_true rfl, Nat.le_of_ble_eq_true rfl⟩ dL_mesh_674 (fun H locs hP hS => ?_)
      refine lv_bipush (v := (8 : Int32)) hx hb dL_mesh_677 (by decide) ?_
      refine lv_icmp_ne (tgt := 718) hx hb dL_mesh_679 (by decide) (fun hc => ?_) (fun hc => ?_)
      · have hF := k_if_f hF hc
        exact (hG _ _ _).1 (blk_718 vc vhf vhl vhs vsf vss vpl vpp vra vrk vrt vrn vtl vta vtt vtp hF _ _ _ hP hD hS (lv_sub hl [] rfl))
      · have hF := k_if_t hF hc
        refine lv_aload_n hx hb dL_mesh_682 rfl (lv_at hl 0 rfl) ?_
        refine lv_iconst (v := (1 : Int32)) hx hb dL_mesh_683 (by decide) ?_
        refine lv_iconst (v := (2 : Int32)) hx hb dL_mesh_684 (by decide) ?_
        obtain ⟨r685, hC, hF⟩ := k_c1_ex hF
        refine x_VR (As := [.int (1 : Int32), .int (2 : Int32)]) (rest := []) ⟨hx, hb, hml, hown, hts⟩ (c_X6_tooth l D cyI cyZ aM aS aC aH aL aP aR aT N (1 : Int32) (2 : Int32) vc hC) (cwV 2 hts gL_mesh_X6_tooth rfl rfl rfl (by decide +kernel) ⟨Nat.le_of_ble_eq_true rfl, Nat.le_of_ble_eq_true rfl⟩) hK hP hS [0, 1, 2] rfl 0 rfl rfl rfl rfl hl.1 rfl (Nat.le_of_ble_eq_true rfl) ⟨Nat.le_of_ble_eq_true rfl, Nat.le_of_ble_eq_true rfl⟩ dL_mesh_685 (fun H locs hP hS => ?_)
        refine lv_bipush (v := (9 : Int32)) hx hb dL_mesh_688 (by decide) ?_
        refine lv_icmp_ne (tgt := 718) hx hb dL_mesh_690 (by decide) (fun hc => ?_) (fun hc => ?_)
        · have hF := k_if_f hF hc
          exact (hG _ _ _).1 (blk_718 vc vhf vhl vhs vsf vss vpl vpp vra vrk vrt vrn vtl vta vtt vtp hF _ _ _ hP hD hS (lv_sub hl [] rfl))
        · have hF := k_if_t hF hc
          refine lv_aload_n hx hb dL_mesh_693 rfl (lv_at hl 0 rfl) ?_
          refine lv_iconst (v := (1 : Int32)) hx hb dL_mesh_694 (by decide) ?_
          refine lv_iconst (v := (0 : Int32)) hx hb dL_mesh_695 (by decide) ?_
          obtain ⟨r696, hC, hF⟩ := k_c1_ex hF
          refine x_VR (As := [.int (1 : Int32), .int (0 : Int32)]) (rest := []) ⟨hx, hb, hml, hown, hts⟩ (c_X6_tooth l D cyI cyZ aM aS aC aH aL aP aR aT N (1 : Int32) (0 : Int32) vc hC) (cwV 2 hts gL_mesh_X6_tooth rfl rfl rfl (by decide +kernel) ⟨Nat.le_of_ble_eq_true rfl, Nat.le_of_ble_eq_true rfl⟩) hK hP hS [0, 1, 2] rfl 0 rfl rfl rfl rfl hl.1 rfl (Nat.le_of_ble_eq_true rfl) ⟨Nat.le_of_ble_eq_true rfl, Nat.le_of_ble_eq_true rfl⟩ dL_mesh_696 (fun H locs hP hS => ?_)
          refine lv_bipush (v := (7 : Int32)) hx hb dL_mesh_699 (by decide) ?_
          refine lv_icmp_ne (tgt := 718) hx hb dL_mesh_701 (by decide) (fun hc => ?_) (fun hc => ?_)
          · have hF := k_if_f hF hc
            exact (hG _ _ _).1 (blk_718 vc vhf vhl vhs vsf vss vpl vpp vra vrk vrt vrn vtl vta vtt vtp hF _ _ _ hP hD hS (lv_sub hl [] rfl))
          · have hF := k_if_t hF hc
            refine lv_aload_n hx hb dL_mesh_704 rfl (lv_at hl 0 rfl) ?_
            refine lv_iconst (v := (0 : Int32)) hx hb dL_mesh_705 (by decide) ?_
            refine lv_iconst (v := (1 : Int32)) hx hb dL_mesh_706 (by decide) ?_
            refine lv_iconst (v := (0 : Int32)) hx hb dL_mesh_707 (by decide) ?_
            refine lv_iconst (v := (1 : Int32)) hx hb dL_mesh_708 (by decide) ?_
            refine lv_iconst (v := (2 : Int32)) hx hb dL_mesh_709 (by decide) ?_
            obtain ⟨r710, vtl_710, vtp_710, hC, hF⟩ := k_c3_ex hF
            refine x_VM (As := [.int (0 : Int32), .int (1 : Int32), .int (0 : Int32), .int (1 : Int32), .int (2 : Int32)]) (rest := []) ⟨hx, hb, hml, hown, hts⟩ (c_X6_pair l D cyI cyZ aM aS aC aH aL aP aR aT aTp H.size N (0 : Int32) (1 : Int32) (0 : Int32) (1 : Int32) (2 : Int32) vc vtl vta vtt vtp hC) (cwV 5 hts gL_mesh_X6_pair rfl rfl rfl (by decide +kernel) ⟨Nat.le_of_ble_eq_true rfl, Nat.le_of_ble_eq_true rfl⟩) hK hP hD hS hA [0, 1, 2, 11, 12] rfl rfl rfl 0 rfl rfl rfl rfl hl.1 rfl (Nat.le_of_ble_eq_true rfl) ⟨Nat.le_of_ble_eq_true rfl, Nat.le_of_ble_eq_true rfl⟩ dL_mesh_710 (fun H locs hP hD hS => ?_)
            have hP : va_P D vwCl [(aM, .inr (6, [.ref aS, .ref aH, .ref aL, .ref aP, .ref aR, .ref aT])), (aS, .inr (3, [.ref aC])), (aC, .inl (cyI, 225, .inl vc)), (aH, .inr (0, [.ref aHs, .int vhf, .int vhl])), (aHs, .inl (cyI, 1575, .inl vhs)), (aL, .inr (4, [.ref aLs, .int vsf])), (aLs, .inl (cyI, 450, .inl vss)), (aP, .inr (1, [.ref aPc, .int vpl])), (aPc, .inl (cyI, 80, .inl vpp)), (aR, .inr (2, [.ref aP, .ref aRn, .int vra, .int vrk, .int vrt])), (aRn, .inl (cyI, 40, .inl vrn)), (aT, .inr (5, [.ref aTp, .int vtl_710, .int vta, .int vtt])), (aTp, .inl (cyI, 552, .inl vtp_710))] H := hP
            have hD : va_D (fun q : Nat => s.heap.size ≤ q) [(aM, .inr (6, [.ref aS, .ref aH, .ref aL, .ref aP, .ref aR, .ref aT])), (aS, .inr (3, [.ref aC])), (aC, .inl (cyI, 225, .inl vc)), (aH, .inr (0, [.ref aHs, .int vhf, .int vhl])), (aHs, .inl (cyI, 1575, .inl vhs)), (aL, .inr (4, [.ref aLs, .int vsf])), (aLs, .inl (cyI, 450, .inl vss)), (aP, .inr (1, [.ref aPc, .int vpl])), (aPc, .inl (cyI, 80, .inl vpp)), (aR, .inr (2, [.ref aP, .ref aRn, .int vra, .int vrk, .int vrt])), (aRn, .inl (cyI, 40, .inl vrn)), (aT, .inr (5, [.ref aTp, .int vtl_710, .int vta, .int vtt])), (aTp, .inl (cyI, 552, .inl vtp_710))] := hD
            refine lv_bipush (v := (102 : Int32)) hx hb dL_mesh_713 (by decide) ?_
            refine lv_icmp_eq (tgt := 720) hx hb dL_mesh_715 (by decide) (fun hc => ?_) (fun hc => ?_)
            · have hF := k_if_t hF hc
              refine lv_aload_n hx hb dL_mesh_720 rfl (lv_at hl 0 rfl) ?_
              refine lv_iconst (v := (1 : Int32)) hx hb dL_mesh_721 (by decide) ?_
              refine lv_iconst (v := (0 : Int32)) hx hb dL_mesh_722 (by decide) ?_
              obtain ⟨r723, vc_723, vhf_723, vhl_723, vhs_723, hC, hF⟩ := k_c5_ex hF
              refine x_VM (As := [.int (1 : Int32), .int (0 : Int32)]) (rest := []) ⟨hx, hb, hml, hown, hts⟩ (c_X6_set l D cyI cyZ aM aS aC aH aHs aL aP aR aT H.size N (1 : Int32) (0 : Int32) vc vhf vhl vhs hC) (cwV 2 hts gL_mesh_X6_set rfl rfl rfl (by decide +kernel) ⟨Nat.le_of_ble_eq_true rfl, Nat.le_of_ble_eq_true rfl⟩) hK hP hD hS hA [0, 1, 2, 3, 4] rfl rfl rfl 0 rfl rfl rfl rfl hl.1 rfl (Nat.le_of_ble_eq_true rfl) ⟨Nat.le_of_ble_eq_true rfl, Nat.le_of_ble_eq_true rfl⟩ dL_mesh_723 (fun H locs hP hD hS => ?_)
              have hP : va_P D vwCl [(aM, .inr (6, [.ref aS, .ref aH, .ref aL, .ref aP, .ref aR, .ref aT])), (aS, .inr (3, [.ref aC])), (aC, .inl (cyI, 225, .inl vc_723)), (aH, .inr (0, [.ref aHs, .int vhf_723, .int vhl_723])), (aHs, .inl (cyI, 1575, .inl vhs_723)), (aL, .inr (4, [.ref aLs, .int vsf])), (aLs, .inl (cyI, 450, .inl vss)), (aP, .inr (1, [.ref aPc, .int vpl])), (aPc, .inl (cyI, 80, .inl vpp)), (aR, .inr (2, [.ref aP, .ref aRn, .int vra, .int vrk, .int vrt])), (aRn, .inl (cyI, 40, .inl vrn)), (aT, .inr (5, [.ref aTp, .int vtl_710, .int vta, .int vtt])), (aTp, .inl (cyI, 552, .inl vtp_710))] H := hP
              have hD : va_D (fun q : Nat => s.heap.size ≤ q) [(aM, .inr (6, [.ref aS, .ref aH, .ref aL, .ref aP, .ref aR, .ref aT])), (aS, .inr (3, [.ref aC])), (aC, .inl (cyI, 225, .inl vc_723)), (aH, .inr (0, [.ref aHs, .int vhf_723, .int vhl_723])), (aHs, .inl (cyI, 1575, .inl vhs_723)), (aL, .inr (4, [.ref aLs, .int vsf])), (aLs, .inl (cyI, 450, .inl vss)), (aP, .inr (1, [.ref aPc, .int vpl])), (aPc, .inl (cyI, 80, .inl vpp)), (aR, .inr (2, [.ref aP, .ref aRn, .int vra, .int vrk, .int vrt])), (aRn, .inl (cyI, 40, .inl vrn)), (aT, .inr (5, [.ref aTp, .int vtl_710, .int vta, .int vtt])), (aTp, .inl (cyI, 552, .inl vtp_710))] := hD
              refine lv_iconst (v := (4 : Int32)) hx hb dL_mesh_726 (by decide) ?_
              refine lv_icmp_ne (tgt := 909) hx hb dL_mesh_727 (by decide) (fun hc => ?_) (fun hc => ?_)
              · have hF := k_if_f hF hc
                exact (hG _ _ _).1 (blk_909 vc_723 vhf_723 vhl_723 vhs_723 vsf vss vpl vpp vra vrk vrt vrn vtl_710 vta vtt vtp_710 hF _ _ _ hP hD hS (lv_sub hl [] rfl))
              · have hF := k_if_t hF hc
                refine lv_aload_n hx hb dL_mesh_730 rfl (lv_at hl 0 rfl) ?_
                refine lv_iconst (v := (5 : Int32)) hx hb dL_mesh_731 (by decide) ?_
                refine lv_bipush (v := (9 : Int32)) hx hb dL_mesh_732 (by decide) ?_
                obtain ⟨r734, vc_734, vhf_734, vhl_734, vhs_734, hC, hF⟩ := k_c5_ex hF
                refine x_VM (As := [.int (5 : Int32), .int (9 : Int32)]) (rest := []) ⟨hx, hb, hml, hown, hts⟩ (c_X6_card l D cyI cyZ aM aS aC aH aHs aL aP aR aT H.size N (5 : Int32) (9 : Int32) vc_723 vhf_723 vhl_723 vhs_723 hC) (cwV 2 hts gL_mesh_X6_card rfl rfl rfl (by decide +kernel) ⟨Nat.le_of_ble_eq_true rfl, Nat.le_of_ble_eq_true rfl⟩) hK hP hD hS hA [0, 1, 2, 3, 4] rfl rfl rfl 0 rfl rfl rfl rfl hl.1 rfl (Nat.le_of_ble_eq_true rfl) ⟨Nat.le_of_ble_eq_true rfl, Nat.le_of_ble_eq_true rfl⟩ dL_mesh_734 (fun H locs hP hD hS => ?_)
                have hP : va_P D vwCl [(aM, .inr (6, [.ref aS, .ref aH, .ref aL, .ref aP, .ref aR, .ref aT])), (aS, .inr (3, [.ref aC])), (aC, .inl (cyI, 225, .inl vc_734)), (aH, .inr (0, [.ref aHs, .int vhf_734, .int vhl_734])), (aHs, .inl (cyI, 1575, .inl vhs_734)), (aL, .inr (4, [.ref aLs, .int vsf])), (aLs, .inl (cyI, 450, .inl vss)), (aP, .inr (1, [.ref aPc, .int vpl])), (aPc, .inl (cyI, 80, .inl vpp)), (aR, .inr (2, [.ref aP, .ref aRn, .int vra, .int vrk, .int vrt])), (aRn, .inl (cyI, 40, .inl vrn)), (aT, .inr (5, [.ref aTp, .int vtl_710, .int vta, .int vtt])), (aTp, .inl (cyI, 552, .inl vtp_710))] H := hP
                have hD : va_D (fun q : Nat => s.heap.size ≤ q) [(aM, .inr (6, [.ref aS, .ref aH, .ref aL, .ref aP, .ref aR, .ref aT])), (aS, .inr (3, [.ref aC])), (aC, .inl (cyI, 225, .inl vc_734)), (aH, .inr (0, [.ref aHs, .int vhf_734, .int vhl_734])), (aHs, .inl (cyI, 1575, .inl vhs_734)), (aL, .inr (4, [.ref aLs, .int vsf])), (aLs, .inl (cyI, 450, .inl vss)), (aP, .inr (1, [.ref aPc, .int vpl])), (aPc, .inl (cyI, 80, .inl vpp)), (aR, .inr (2, [.ref aP, .ref aRn, .int vra, .int vrk, .int vrt])), (aRn, .inl (cyI, 40, .inl vrn)), (aT, .inr (5, [.ref aTp, .int vtl_710, .int vta, .int vtt])), (aTp, .inl (cyI, 552, .inl vtp_710))] := hD
                refine lv_iconst (v := (5 : Int32)) hx hb dL_mesh_737 (by decide) ?_
                refine lv_icmp_ne (tgt := 909) hx hb dL_mesh_738 (by decide) (fun hc => ?_) (fun hc => ?_)
                · have hF := k_if_f hF hc
                  exact (hG _ _ _).1 (blk_909 vc_734 vhf_734 vhl_734 vhs_734 vsf vss vpl vpp vra vrk vrt vrn vtl_710 vta vtt vtp_710 hF _ _ _ hP hD hS (lv_sub hl [] rfl))
                · have hF := k_if_t hF hc
                  refine lv_aload_n hx hb dL_mesh_741 rfl (lv_at hl 0 rfl) ?_
                  refine lv_iconst (v := (0 : Int32)) hx hb dL_mesh_742 (by decide) ?_
                  refine lv_iconst (v := (1 : Int32)) hx hb dL_mesh_743 (by decide) ?_
                  refine lv_iconst (v := (0 : Int32)) hx hb dL_mesh_744 (by decide) ?_
                  refine lv_iconst (v := (1 : Int32)) hx hb dL_mesh_745 (by decide) ?_
                  refine lv_iconst (v := (2 : Int32)) hx hb dL_mesh_746 (by decide) ?_
                  refine lv_iconst (v := (4 : Int32)) hx hb dL_mesh_747 (by decide) ?_
                  obtain ⟨r748, vc_748, vhf_748, vhl_748, vhs_748, vtl_748, vta_748, vtt_748, vtp_748, hC, hF⟩ := k_c9_ex hF
                  refine x_VM (As := [.int (0 : Int32), .int (1 : Int32), .int (0 : Int32), .int (1 : Int32), .int (2 : Int32), .int (4 : Int32)]) (rest := []) ⟨hx, hb, hml, hown, hts⟩ (c_X6_run l D cyI cyZ aM aS aC aH aHs aL aP aR aT aTp H.size N (0 : Int32) (1 : Int32) (0 : Int32) (1 : Int32) (2 : Int32) (4 : Int32) vc_734 vhf_734 vhl_734 vhs_734 vtl_710 vta vtt vtp_710 hC) (cwV 6 hts gL_mesh_X6_run rfl rfl rfl (by decide +kernel) ⟨Nat.le_of_ble_eq_true rfl, Nat.le_of_ble_eq_true rfl⟩) hK hP hD hS hA [0, 1, 2, 3, 4, 11, 12] rfl rfl rfl 0 rfl rfl rfl rfl hl.1 rfl (Nat.le_of_ble_eq_true rfl) ⟨Nat.le_of_ble_eq_true rfl, Nat.le_of_ble_eq_true rfl⟩ dL_mesh_748 (fun H locs hP hD hS => ?_)
                  have hP : va_P D vwCl [(aM, .inr (6, [.ref aS, .ref aH, .ref aL, .ref aP, .ref aR, .ref aT])), (aS, .inr (3, [.ref aC])), (aC, .inl (cyI, 225, .inl vc_748)), (aH, .inr (0, [.ref aHs, .int vhf_748, .int vhl_748])), (aHs, .inl (cyI, 1575, .inl vhs_748)), (aL, .inr (4, [.ref aLs, .int vsf])), (aLs, .inl (cyI, 450, .inl vss)), (aP, .inr (1, [.ref aPc, .int vpl])), (aPc, .inl (cyI, 80, .inl vpp)), (aR, .inr (2, [.ref aP, .ref aRn, .int vra, .int vrk, .int vrt])), (aRn, .inl (cyI, 40, .inl vrn)), (aT, .inr (5, [.ref aTp, .int vtl_748, .int vta_748, .int vtt_748])), (aTp, .inl (cyI, 552, .inl vtp_748))] H := hP
                  have hD : va_D (fun q : Nat => s.heap.size ≤ q) [(aM, .inr (6, [.ref aS, .ref aH, .ref aL, .ref aP, .ref aR, .ref aT])), (aS, .inr (3, [.ref aC])), (aC, .inl (cyI, 225, .inl vc_748)), (aH, .inr (0, [.ref aHs, .int vhf_748, .int vhl_748])), (aHs, .inl (cyI, 1575, .inl vhs_748)), (aL, .inr (4, [.ref aLs, .int vsf])), (aLs, .inl (cyI, 450, .inl vss)), (aP, .inr (1, [.ref aPc, .int vpl])), (aPc, .inl (cyI, 80, .inl vpp)), (aR, .inr (2, [.ref aP, .ref aRn, .int vra, .int vrk, .int vrt])), (aRn, .inl (cyI, 40, .inl vrn)), (aT, .inr (5, [.ref aTp, .int vtl_748, .int vta_748, .int vtt_748])), (aTp, .inl (cyI, 552, .inl vtp_748))] := hD
                  refine lv_iconst (v := (2 : Int32)) hx hb dL_mesh_751 (by decide) ?_
                  refine lv_icmp_ne (tgt := 909) hx hb dL_mesh_752 (by decide) (fun hc => ?_) (fun hc => ?_)
                  · have hF := k_if_f hF hc
                    exact (hG _ _ _).1 (blk_909 vc_748 vhf_748 vhl_748 vhs_748 vsf vss vpl vpp vra vrk vrt vrn vtl_748 vta_748 vtt_748 vtp_748 hF _ _ _ hP hD hS (lv_sub hl [] rfl))
                  · have hF := k_if_t hF hc
                    refine lv_aload_n hx hb dL_mesh_755 rfl (lv_at hl 0 rfl) ?_
                    refine lv_iconst (v := (3 : Int32)) hx hb dL_mesh_756 (by decide) ?_
                    obtain ⟨r757, hC, hF⟩ := k_c1_ex hF
                    refine x_VR (As := [.int (3 : Int32)]) (rest := []) ⟨hx, hb, hml, hown, hts⟩ (c_X6_count l D cyI cyZ aM aS aC aH aHs aL aP aPc aR aT N (3 : Int32) vc_748 vhf_748 vhl_748 vpl hC) (cwV 1 hts gL_mesh_X6_count rfl rfl rfl (by decide +kernel) ⟨Nat.le_of_ble_eq_true rfl, Nat.le_of_ble_eq_true rfl⟩) hK hP hS [0, 1, 2, 3, 7] rfl 0 rfl rfl rfl rfl hl.1 rfl (Nat.le_of_ble_eq_true rfl) ⟨Nat.le_of_ble_eq_true rfl, Nat.le_of_ble_eq_true rfl⟩ dL_mesh_757 (fun H locs hP hS => ?_)
                    refine lv_bipush (v := (11 : Int32)) hx hb dL_mesh_760 (by decide) ?_
                    refine lv_icmp_ne (tgt := 909) hx hb dL_mesh_762 (by decide) (fun hc => ?_) (fun hc => ?_)
                    · have hF := k_if_f hF hc
                      exact (hG _ _ _).1 (blk_909 vc_748 vhf_748 vhl_748 vhs_748 vsf vss vpl vpp vra vrk vrt vrn vtl_748 vta_748 vtt_748 vtp_748 hF _ _ _ hP hD hS (lv_sub hl [] rfl))
                    · have hF := k_if_t hF hc
                      exact (hG _ _ _).1 (blk_765 vc_748 vhf_748 vhl_748 vhs_748 vsf vss vpl vpp vra vrk vrt vrn vtl_748 vta_748 vtt_748 vtp_748 hF _ _ _ hP hD hS (lv_sub hl [0] rfl))
            · have hF := k_if_f hF hc
              exact (hG _ _ _).1 (blk_718 vc vhf vhl vhs vsf vss vpl vpp vra vrk vrt vrn vtl_710 vta vtt vtp_710 hF _ _ _ hP hD hS (lv_sub hl [] rfl))
  have blk_573 : ∀ (vc : (Nat → Int32)) (vhf : Int32) (vhl : Int32) (vhs : (Nat → Int32)) (vsf : Int32) (vss : (Nat → Int32)) (vpl : Int32) (vpp : (Nat → Int32)) (vra : Int32) (vrk : Int32) (vrt : Int32) (vrn : (Nat → Int32)) (vtl : Int32) (vta : Int32) (vtt : Int32) (vtp : (Nat → Int32)), b_L_mesh_573 N vc vhf vhl vhs vsf vss vpl vpp vra vrk vrt vrn vtl vta vtt vtp = some 1 → ∀ (H : Heap) (locs : List Loc) (ls : Array Slot), va_P D vwCl [(aM, .inr (6, [.ref aS, .ref aH, .ref aL, .ref aP, .ref aR, .ref aT])), (aS, .inr (3, [.ref aC])), (aC, .inl (cyI, 225, .inl vc)), (aH, .inr (0, [.ref aHs, .int vhf, .int vhl])), (aHs, .inl (cyI, 1575, .inl vhs)), (aL, .inr (4, [.ref aLs, .int vsf])), (aLs, .inl (cyI, 450, .inl vss)), (aP, .inr (1, [.ref aPc, .int vpl])), (aPc, .inl (cyI, 80, .inl vpp)), (aR, .inr (2, [.ref aP, .ref aRn, .int vra, .int vrk, .int vrt])), (aRn, .inl (cyI, 40, .inl vrn)), (aT, .inr (5, [.ref aTp, .int vtl, .int vta, .int vtt])), (aTp, .inl (cyI, 552, .inl vtp))] H → va_D (fun q : Nat => s.heap.size ≤ q) [(aM, .inr (6, [.ref aS, .ref aH, .ref aL, .ref aP, .ref aR, .ref aT])), (aS, .inr (3, [.ref aC])), (aC, .inl (cyI, 225, .inl vc)), (aH, .inr (0, [.ref aHs, .int vhf, .int vhl])), (aHs, .inl (cyI, 1575, .inl vhs)), (aL, .inr (4, [.ref aLs, .int vsf])), (aLs, .inl (cyI, 450, .inl vss)), (aP, .inr (1, [.ref aPc, .int vpl])), (aPc, .inl (cyI, 80, .inl vpp)), (aR, .inr (2, [.ref aP, .ref aRn, .int vra, .int vrk, .int vrt])), (aRn, .inl (cyI, 40, .inl vrn)), (aT, .inr (5, [.ref aTp, .int vtl, .int vta, .int vtt])), (aTp, .inl (cyI, 552, .inl vtp))] → va_S (fun q : Nat => s.heap.size ≤ q) s.heap H locs → lv_has ls 1 [(0, .ref aM)] → G H locs (F0 m 573 ls []) := by
    intro vc vhf vhl vhs vsf vss vpl vpp vra vrk vrt vrn vtl vta vtt vtp hF H locs ls hP hD hS hl
    unfold b_L_mesh_573 at hF
    refine (hG _ _ _).2 ?_
    refine lv_aload_n hx hb dL_mesh_573 rfl (lv_at hl 0 rfl) ?_
    refine lv_iconst (v := (0 : Int32)) hx hb dL_mesh_574 (by decide) ?_
    refine lv_iconst (v := (5 : Int32)) hx hb dL_mesh_575 (by decide) ?_
    obtain ⟨r576, hC, hF⟩ := k_c1_ex hF
    refine x_VR (As := [.int (0 : Int32), .int (5 : Int32)]) (rest := []) ⟨hx, hb, hml, hown, hts⟩ (c_X6_of l D cyI cyZ aM aS aC aH aL aP aR aT N (0 : Int32) (5 : Int32) vc hC) (cwV 2 hts gL_mesh_X6_of rfl rfl rfl (by decide +kernel) ⟨Nat.le_of_ble_eq_true rfl, Nat.le_of_ble_eq_true rfl⟩) hK hP hS [0, 1, 2] rfl 0 rfl rfl rfl rfl hl.1 rfl (Nat.le_of_ble_eq_true rfl) ⟨Nat.le_of_ble_eq_true rfl, Nat.le_of_ble_eq_true rfl⟩ dL_mesh_576 (fun H locs hP hS => ?_)
    refine lv_bipush (v := (17 : Int32)) hx hb dL_mesh_579 (by decide) ?_
    refine lv_icmp_ne (tgt := 718) hx hb dL_mesh_581 (by decide) (fun hc => ?_) (fun hc => ?_)
    · have hF := k_if_f hF hc
      exact (hG _ _ _).1 (blk_718 vc vhf vhl vhs vsf vss vpl vpp vra vrk vrt vrn vtl vta vtt vtp hF _ _ _ hP hD hS (lv_sub hl [] rfl))
    · have hF := k_if_t hF hc
      refine lv_aload_n hx hb dL_mesh_584 rfl (lv_at hl 0 rfl) ?_
      refine lv_iconst (v := (5 : Int32)) hx hb dL_mesh_585 (by decide) ?_
      refine lv_iconst (v := (5 : Int32)) hx hb dL_mesh_586 (by decide) ?_
      obtain ⟨r587, vc_587, vhf_587, vhl_587, vhs_587, hC, hF⟩ := k_c5_ex hF
      refine x_VM (As := [.int (5 : Int32), .int (5 : Int32)]) (rest := []) ⟨hx, hb, hml, hown, hts⟩ (c_X6_card l D cyI cyZ aM aS aC aH aHs aL aP aR aT H.size N (5 : Int32) (5 : Int32) vc vhf vhl vhs hC) (cwV 2 hts gL_mesh_X6_card rfl rfl rfl (by decide +kernel) ⟨Nat.le_of_ble_eq_true rfl, Nat.le_of_ble_eq_true rfl⟩) hK hP hD hS hA [0, 1, 2, 3, 4] rfl rfl rfl 0 rfl rfl rfl rfl hl.1 rfl (Nat.le_of_ble_eq_true rfl) ⟨Nat.le_of_ble_eq_true rfl, Nat.le_of_ble_eq_true rfl⟩ dL_mesh_587 (fun H locs hP hD hS => ?_)
      have hP : va_P D vwCl [(aM, .inr (6, [.ref aS, .ref aH, .ref aL, .ref aP, .ref aR, .ref aT])), (aS, .inr (3, [.ref aC])), (aC, .inl (cyI, 225, .inl vc_587)), (aH, .inr (0, [.ref aHs, .int vhf_587, .int vhl_587])), (aHs, .inl (cyI, 1575, .inl vhs_587)), (aL, .inr (4, [.ref aLs, .int vsf])), (aLs, .inl (cyI, 450, .inl vss)), (aP, .inr (1, [.ref aPc, .int vpl])), (aPc, .inl (cyI, 80, .inl vpp)), (aR, .inr (2, [.ref aP, .ref aRn, .int vra, .int vrk, .int vrt])), (aRn, .inl (cyI, 40, .inl vrn)), (aT, .inr (5, [.ref aTp, .int vtl, .int vta, .int vtt])), (aTp, .inl (cyI, 552, .inl vtp))] H := hP
      have hD : va_D (fun q : Nat => s.heap.size ≤ q) [(aM, .inr (6, [.ref aS, .ref aH, .ref aL, .ref aP, .ref aR, .ref aT])), (aS, .inr (3, [.ref aC])), (aC, .inl (cyI, 225, .inl vc_587)), (aH, .inr (0, [.ref aHs, .int vhf_587, .int vhl_587])), (aHs, .inl (cyI, 1575, .inl vhs_587)), (aL, .inr (4, [.ref aLs, .int vsf])), (aLs, .inl (cyI, 450, .inl vss)), (aP, .inr (1, [.ref aPc, .int vpl])), (aPc, .inl (cyI, 80, .inl vpp)), (aR, .inr (2, [.ref aP, .ref aRn, .int vra, .int vrk, .int vrt])), (aRn, .inl (cyI, 40, .inl vrn)), (aT, .inr (5, [.ref aTp, .int vtl, .int vta, .int vtt])), (aTp, .inl (cyI, 552, .inl vtp))] := hD
      refine lv_bipush (v := (7 : Int32)) hx hb dL_mesh_590 (by decide) ?_
      refine lv_icmp_ne (tgt := 718) hx hb dL_mesh_592 (by decide) (fun hc => ?_) (fun hc => ?_)
      · have hF := k_if_f hF hc
        exact (hG _ _ _).1 (blk_718 vc_587 vhf_587 vhl_587 vhs_587 vsf vss vpl vpp vra vrk vrt vrn vtl vta vtt vtp hF _ _ _ hP hD hS (lv_sub hl [] rfl))
      · have hF := k_if_t hF hc
        refine lv_aload_n hx hb dL_mesh_595 rfl (lv_at hl 0 rfl) ?_
        refine lv_iconst (v := (2 : Int32)) hx hb dL_mesh_596 (by decide) ?_
        refine lv_iconst (v := (5 : Int32)) hx hb dL_mesh_597 (by decide) ?_
        obtain ⟨r598, vc_598, vhf_598, vhl_598, vhs_598, hC, hF⟩ := k_c5_ex hF
        refine x_VM (As := [.int (2 : Int32), .int (5 : Int32)]) (rest := []) ⟨hx, hb, hml, hown, hts⟩ (c_X6_set l D cyI cyZ aM aS aC aH aHs aL aP aR aT H.size N (2 : Int32) (5 : Int32) vc_587 vhf_587 vhl_587 vhs_587 hC) (cwV 2 hts gL_mesh_X6_set rfl rfl rfl (by decide +kernel) ⟨Nat.le_of_ble_eq_true rfl, Nat.le_of_ble_eq_true rfl⟩) hK hP hD hS hA [0, 1, 2, 3, 4] rfl rfl rfl 0 rfl rfl rfl rfl hl.1 rfl (Nat.le_of_ble_eq_true rfl) ⟨Nat.le_of_ble_eq_true rfl, Nat.le_of_ble_eq_true rfl⟩ dL_mesh_598 (fun H locs hP hD hS => ?_)
        have hP : va_P D vwCl [(aM, .inr (6, [.ref aS, .ref aH, .ref aL, .ref aP, .ref aR, .ref aT])), (aS, .inr (3, [.ref aC])), (aC, .inl (cyI, 225, .inl vc_598)), (aH, .inr (0, [.ref aHs, .int vhf_598, .int vhl_598])), (aHs, .inl (cyI, 1575, .inl vhs_598)), (aL, .inr (4, [.ref aLs, .int vsf])), (aLs, .inl (cyI, 450, .inl vss)), (aP, .inr (1, [.ref aPc, .int vpl])), (aPc, .inl (cyI, 80, .inl vpp)), (aR, .inr (2, [.ref aP, .ref aRn, .int vra, .int vrk, .int vrt])), (aRn, .inl (cyI, 40, .inl vrn)), (aT, .inr (5, [.ref aTp, .int vtl, .int vta, .int vtt])), (aTp, .inl (cyI, 552, .inl vtp))] H := hP
        have hD : va_D (fun q : Nat => s.heap.size ≤ q) [(aM, .inr (6, [.ref aS, .ref aH, .ref aL, .ref aP, .ref aR, .ref aT])), (aS, .inr (3, [.ref aC])), (aC, .inl (cyI, 225, .inl vc_598)), (aH, .inr (0, [.ref aHs, .int vhf_598, .int vhl_598])), (aHs, .inl (cyI, 1575, .inl vhs_598)), (aL, .inr (4, [.ref aLs, .int vsf])), (aLs, .inl (cyI, 450, .inl vss)), (aP, .inr (1, [.ref aPc, .int vpl])), (aPc, .inl (cyI, 80, .inl vpp)), (aR, .inr (2, [.ref aP, .ref aRn, .int vra, .int vrk, .int vrt])), (aRn, .inl (cyI, 40, .inl vrn)), (aT, .inr (5, [.ref aTp, .int vtl, .int vta, .int vtt])), (aTp, .inl (cyI, 552, .inl vtp))] := hD
        refine lv_bipush (v := (20 : Int32)) hx hb dL_mesh_601 (by decide) ?_
        refine lv_icmp_ne (tgt := 718) hx hb dL_mesh_603 (by decide) (fun hc => ?_) (fun hc => ?_)
        · have hF := k_if_f hF hc
          exact (hG _ _ _).1 (blk_718 vc_598 vhf_598 vhl_598 vhs_598 vsf vss vpl vpp vra vrk vrt vrn vtl vta vtt vtp hF _ _ _ hP hD hS (lv_sub hl [] rfl))
        · have hF := k_if_t hF hc
          refine lv_aload_n hx hb dL_mesh_606 rfl (lv_at hl 0 rfl) ?_
          refine lv_iconst (v := (0 : Int32)) hx hb dL_mesh_607 (by decide) ?_
          refine lv_bipush (v := (6 : Int32)) hx hb dL_mesh_608 (by decide) ?_
          obtain ⟨r610, hC, hF⟩ := k_c1_ex hF
          refine x_VR (As := [.int (0 : Int32), .int (6 : Int32)]) (rest := []) ⟨hx, hb, hml, hown, hts⟩ (c_X6_of l D cyI cyZ aM aS aC aH aL aP aR aT N (0 : Int32) (6 : Int32) vc_598 hC) (cwV 2 hts gL_mesh_X6_of rfl rfl rfl (by decide +kernel) ⟨Nat.le_of_ble_eq_true rfl, Nat.le_of_ble_eq_true rfl⟩) hK hP hS [0, 1, 2] rfl 0 rfl rfl rfl rfl hl.1 rfl (Nat.le_of_ble_eq_true rfl) ⟨Nat.le_of_ble_eq_true rfl, Nat.le_of_ble_eq_true rfl⟩ dL_mesh_610 (fun H locs hP hS => ?_)
          refine lv_if_ne (tgt := 718) hx hb dL_mesh_613 (by decide) (fun hc => ?_) (fun hc => ?_)
          · have hF := k_if_f hF hc
            exact (hG _ _ _).1 (blk_718 vc_598 vhf_598 vhl_598 vhs_598 vsf vss vpl vpp vra vrk vrt vrn vtl vta vtt vtp hF _ _ _ hP hD hS (lv_sub hl [] rfl))
          · have hF := k_if_t hF hc
            refine lv_aload_n hx hb dL_mesh_616 rfl (lv_at hl 0 rfl) ?_
            refine lv_iconst (v := (0 : Int32)) hx hb dL_mesh_617 (by decide) ?_
            refine lv_iconst (v := (1 : Int32)) hx hb dL_mesh_618 (by decide) ?_
            refine lv_iconst (v := (0 : Int32)) hx hb dL_mesh_619 (by decide) ?_
            refine lv_iconst (v := (1 : Int32)) hx hb dL_mesh_620 (by decide) ?_
            refine lv_iconst (v := (1 : Int32)) hx hb dL_mesh_621 (by decide) ?_
            refine lv_iconst (v := (3 : Int32)) hx hb dL_mesh_622 (by decide) ?_
            obtain ⟨r623, vc_623, vhf_623, vhl_623, vhs_623, vtl_623, vta_623, vtt_623, vtp_623, hC, hF⟩ := k_c9_ex hF
            refine x_VM (As := [.int (0 : Int32), .int (1 : Int32), .int (0 : Int32), .int (1 : Int32), .int (1 : Int32), .int (3 : Int32)]) (rest := []) ⟨hx, hb, hml, hown, hts⟩ (c_X6_run l D cyI cyZ aM aS aC aH aHs aL aP aR aT aTp H.size N (0 : Int32) (1 : Int32) (0 : Int32) (1 : Int32) (1 : Int32) (3 : Int32) vc_598 vhf_598 vhl_598 vhs_598 vtl vta vtt vtp hC) (cwV 6 hts gL_mesh_X6_run rfl rfl rfl (by decide +kernel) ⟨Nat.le_of_ble_eq_true rfl, Nat.le_of_ble_eq_true rfl⟩) hK hP hD hS hA [0, 1, 2, 3, 4, 11, 12] rfl rfl rfl 0 rfl rfl rfl rfl hl.1 rfl (Nat.le_of_ble_eq_true rfl) ⟨Nat.le_of_ble_eq_true rfl, Nat.le_of_ble_eq_true rfl⟩ dL_mesh_623 (fun H locs hP hD hS => ?_)
            have hP : va_P D vwCl [(aM, .inr (6, [.ref aS, .ref aH, .ref aL, .ref aP, .ref aR, .ref aT])), (aS, .inr (3, [.ref aC])), (aC, .inl (cyI, 225, .inl vc_623)), (aH, .inr (0, [.ref aHs, .int vhf_623, .int vhl_623])), (aHs, .inl (cyI, 1575, .inl vhs_623)), (aL, .inr (4, [.ref aLs, .int vsf])), (aLs, .inl (cyI, 450, .inl vss)), (aP, .inr (1, [.ref aPc, .int vpl])), (aPc, .inl (cyI, 80, .inl vpp)), (aR, .inr (2, [.ref aP, .ref aRn, .int vra, .int vrk, .int vrt])), (aRn, .inl (cyI, 40, .inl vrn)), (aT, .inr (5, [.ref aTp, .int vtl_623, .int vta_623, .int vtt_623])), (aTp, .inl (cyI, 552, .inl vtp_623))] H := hP
            have hD : va_D (fun q : Nat => s.heap.size ≤ q) [(aM, .inr (6, [.ref aS, .ref aH, .ref aL, .ref aP, .ref aR, .ref aT])), (aS, .inr (3, [.ref aC])), (aC, .inl (cyI, 225, .inl vc_623)), (aH, .inr (0, [.ref aHs, .int vhf_623, .int vhl_623])), (aHs, .inl (cyI, 1575, .inl vhs_623)), (aL, .inr (4, [.ref aLs, .int vsf])), (aLs, .inl (cyI, 450, .inl vss)), (aP, .inr (1, [.ref aPc, .int vpl])), (aPc, .inl (cyI, 80, .inl vpp)), (aR, .inr (2, [.ref aP, .ref aRn, .int vra, .int vrk, .int vrt])), (aRn, .inl (cyI, 40, .inl vrn)), (aT, .inr (5, [.ref aTp, .int vtl_623, .int vta_623, .int vtt_623])), (aTp, .inl (cyI, 552, .inl vtp_623))] := hD
            refine lv_if_ne (tgt := 718) hx hb dL_mesh_626 (by decide) (fun hc => ?_) (fun hc => ?_)
            · have hF := k_if_f hF hc
              exact (hG _ _ _).1 (blk_718 vc_623 vhf_623 vhl_623 vhs_623 vsf vss vpl vpp vra vrk vrt vrn vtl_623 vta_623 vtt_623 vtp_623 hF _ _ _ hP hD hS (lv_sub hl [] rfl))
            · have hF := k_if_t hF hc
              refine lv_aload_n hx hb dL_mesh_629 rfl (lv_at hl 0 rfl) ?_
              refine lv_iconst (v := (0 : Int32)) hx hb dL_mesh_630 (by decide) ?_
              refine lv_iconst (v := (5 : Int32)) hx hb dL_mesh_631 (by decide) ?_
              obtain ⟨r632, hC, hF⟩ := k_c1_ex hF
              refine x_VR (As := [.int (0 : Int32), .int (5 : Int32)]) (rest := []) ⟨hx, hb, hml, hown, hts⟩ (c_X6_of l D cyI cyZ aM aS aC aH aL aP aR aT N (0 : Int32) (5 : Int32) vc_623 hC) (cwV 2 hts gL_mesh_X6_of rfl rfl rfl (by decide +kernel) ⟨Nat.le_of_ble_eq_true rfl, Nat.le_of_ble_eq_true rfl⟩) hK hP hS [0, 1, 2] rfl 0 rfl rfl rfl rfl hl.1 rfl (Nat.le_of_ble_eq_true rfl) ⟨Nat.le_of_ble_eq_true rfl, Nat.le_of_ble_eq_true rfl⟩ dL_mesh_632 (fun H locs hP hS => ?_)
              refine lv_if_ne (tgt := 718) hx hb dL_mesh_635 (by decide) (fun hc => ?_) (fun hc => ?_)
              · have hF := k_if_f hF hc
                exact (hG _ _ _).1 (blk_718 vc_623 vhf_623 vhl_623 vhs_623 vsf vss vpl vpp vra vrk vrt vrn vtl_623 vta_623 vtt_623 vtp_623 hF _ _ _ hP hD hS (lv_sub hl [] rfl))
              · have hF := k_if_t hF hc
                refine lv_aload_n hx hb dL_mesh_638 rfl (lv_at hl 0 rfl) ?_
                refine lv_iconst (v := (0 : Int32)) hx hb dL_mesh_639 (by decide) ?_
                refine lv_bipush (v := (6 : Int32)) hx hb dL_mesh_640 (by decide) ?_
                obtain ⟨r642, hC, hF⟩ := k_c1_ex hF
                refine x_VR (As := [.int (0 : Int32), .int (6 : Int32)]) (rest := []) ⟨hx, hb, hml, hown, hts⟩ (c_X6_of l D cyI cyZ aM aS aC aH aL aP aR aT N (0 : Int32) (6 : Int32) vc_623 hC) (cwV 2 hts gL_mesh_X6_of rfl rfl rfl (by decide +kernel) ⟨Nat.le_of_ble_eq_true rfl, Nat.le_of_ble_eq_true rfl⟩) hK hP hS [0, 1, 2] rfl 0 rfl rfl rfl rfl hl.1 rfl (Nat.le_of_ble_eq_true rfl) ⟨Nat.le_of_ble_eq_true rfl, Nat.le_of_ble_eq_true rfl⟩ dL_mesh_642 (fun H locs hP hS => ?_)
                refine lv_iconst (v := (1 : Int32)) hx hb dL_mesh_645 (by decide) ?_
                refine lv_icmp_ne (tgt := 718) hx hb dL_mesh_646 (by decide) (fun hc => ?_) (fun hc => ?_)
                · have hF := k_if_f hF hc
                  exact (hG _ _ _).1 (blk_718 vc_623 vhf_623 vhl_623 vhs_623 vsf vss vpl vpp vra vrk vrt vrn vtl_623 vta_623 vtt_623 vtp_623 hF _ _ _ hP hD hS (lv_sub hl [] rfl))
                · have hF := k_if_t hF hc
                  refine lv_aload_n hx hb dL_mesh_649 rfl (lv_at hl 0 rfl) ?_
                  refine lv_iconst (v := (1 : Int32)) hx hb dL_mesh_650 (by decide) ?_
                  refine lv_bipush (v := (6 : Int32)) hx hb dL_mesh_651 (by decide) ?_
                  obtain ⟨r653, hC, hF⟩ := k_c1_ex hF
                  refine x_VR (As := [.int (1 : Int32), .int (6 : Int32)]) (rest := []) ⟨hx, hb, hml, hown, hts⟩ (c_X6_of l D cyI cyZ aM aS aC aH aL aP aR aT N (1 : Int32) (6 : Int32) vc_623 hC) (cwV 2 hts gL_mesh_X6_of rfl rfl rfl (by decide +kernel) ⟨Nat.le_of_ble_eq_true rfl, Nat.le_of_ble_eq_true rfl⟩) hK hP hS [0, 1, 2] rfl 0 rfl rfl rfl rfl hl.1 rfl (Nat.le_of_ble_eq_true rfl) ⟨Nat.le_of_ble_eq_true rfl, Nat.le_of_ble_eq_true rfl⟩ dL_mesh_653 (fun H locs hP hS => ?_)
                  refine lv_iconst (v := (1 : Int32)) hx hb dL_mesh_656 (by decide) ?_
                  refine lv_icmp_ne (tgt := 718) hx hb dL_mesh_657 (by decide) (fun hc => ?_) (fun hc => ?_)
                  · have hF := k_if_f hF hc
                    exact (hG _ _ _).1 (blk_718 vc_623 vhf_623 vhl_623 vhs_623 vsf vss vpl vpp vra vrk vrt vrn vtl_623 vta_623 vtt_623 vtp_623 hF _ _ _ hP hD hS (lv_sub hl [] rfl))
                  · have hF := k_if_t hF hc
                    exact (hG _ _ _).1 (blk_660 vc_623 vhf_623 vhl_623 vhs_623 vsf vss vpl vpp vra vrk vrt vrn vtl_623 vta_623 vtt_623 vtp_623 hF _ _ _ hP hD hS (lv_sub hl [0] rfl))
  have blk_488 : ∀ (vc : (Nat → Int32)) (vhf : Int32) (vhl : Int32) (vhs : (Nat → Int32)) (vsf : Int32) (vss : (Nat → Int32)) (vpl : Int32) (vpp : (Nat → Int32)) (vra : Int32) (vrk : Int32) (vrt : Int32) (vrn : (Nat → Int32)) (vtl : Int32) (vta : Int32) (vtt : Int32) (vtp : (Nat → Int32)), b_L_mesh_488 N vc vhf vhl vhs vsf vss vpl vpp vra vrk vrt vrn vtl vta vtt vtp = some 1 → ∀ (H : Heap) (locs : List Loc) (ls : Array Slot), va_P D vwCl [(aM, .inr (6, [.ref aS, .ref aH, .ref aL, .ref aP, .ref aR, .ref aT])), (aS, .inr (3, [.ref aC])), (aC, .inl (cyI, 225, .inl vc)), (aH, .inr (0, [.ref aHs, .int vhf, .int vhl])), (aHs, .inl (cyI, 1575, .inl vhs)), (aL, .inr (4, [.ref aLs, .int vsf])), (aLs, .inl (cyI, 450, .inl vss)), (aP, .inr (1, [.ref aPc, .int vpl])), (aPc, .inl (cyI, 80, .inl vpp)), (aR, .inr (2, [.ref aP, .ref aRn, .int vra, .int vrk, .int vrt])), (aRn, .inl (cyI, 40, .inl vrn)), (aT, .inr (5, [.ref aTp, .int vtl, .int vta, .int vtt])), (aTp, .inl (cyI, 552, .inl vtp))] H → va_D (fun q : Nat => s.heap.size ≤ q) [(aM, .inr (6, [.ref aS, .ref aH, .ref aL, .ref aP, .ref aR, .ref aT])), (aS, .inr (3, [.ref aC])), (aC, .inl (cyI, 225, .inl vc)), (aH, .inr (0, [.ref aHs, .int vhf, .int vhl])), (aHs, .inl (cyI, 1575, .inl vhs)), (aL, .inr (4, [.ref aLs, .int vsf])), (aLs, .inl (cyI, 450, .inl vss)), (aP, .inr (1, [.ref aPc, .int vpl])), (aPc, .inl (cyI, 80, .inl vpp)), (aR, .inr (2, [.ref aP, .ref aRn, .int vra, .int vrk, .int vrt])), (aRn, .inl (cyI, 40, .inl vrn)), (aT, .inr (5, [.ref aTp, .int vtl, .int vta, .int vtt])), (aTp, .inl (cyI, 552, .inl vtp))] → va_S (fun q : Nat => s.heap.size ≤ q) s.heap H locs → lv_has ls 1 [(0, .ref aM)] → G H locs (F0 m 488 ls []) := by
    intro vc vhf vhl vhs vsf vss vpl vpp vra vrk vrt vrn vtl vta vtt vtp hF H locs ls hP hD hS hl
    unfold b_L_mesh_488 at hF
    refine (hG _ _ _).2 ?_
    refine lv_aload_n hx hb dL_mesh_488 rfl (lv_at hl 0 rfl) ?_
    refine lv_iconst (v := (3 : Int32)) hx hb dL_mesh_489 (by decide) ?_
    obtain ⟨r490, hC, hF⟩ := k_c1_ex hF
    refine x_VR (As := [.int (3 : Int32)]) (rest := []) ⟨hx, hb, hml, hown, hts⟩ (c_X6_count l D cyI cyZ aM aS aC aH aHs aL aP aPc aR aT N (3 : Int32) vc vhf vhl vpl hC) (cwV 1 hts gL_mesh_X6_count rfl rfl rfl (by decide +kernel) ⟨Nat.le_of_ble_eq_true rfl, Nat.le_of_ble_eq_true rfl⟩) hK hP hS [0, 1, 2, 3, 7] rfl 0 rfl rfl rfl rfl hl.1 rfl (Nat.le_of_ble_eq_true rfl) ⟨Nat.le_of_ble_eq_true rfl, Nat.le_of_ble_eq_true rfl⟩ dL_mesh_490 (fun H locs hP hS => ?_)
    refine lv_iconst (v := (3 : Int32)) hx hb dL_mesh_493 (by decide) ?_
    refine lv_icmp_ne (tgt := 718) hx hb dL_mesh_494 (by decide) (fun hc => ?_) (fun hc => ?_)
    · have hF := k_if_f hF hc
      exact (hG _ _ _).1 (blk_718 vc vhf vhl vhs vsf vss vpl vpp vra vrk vrt vrn vtl vta vtt vtp hF _ _ _ hP hD hS (lv_sub hl [] rfl))
    · have hF := k_if_t hF hc
      refine lv_aload_n hx hb dL_mesh_497 rfl (lv_at hl 0 rfl) ?_
      refine lv_iconst (v := (5 : Int32)) hx hb dL_mesh_498 (by decide) ?_
      obtain ⟨r499, hC, hF⟩ := k_c1_ex hF
      refine x_VR (As := [.int (5 : Int32)]) (rest := []) ⟨hx, hb, hml, hown, hts⟩ (c_X6_count l D cyI cyZ aM aS aC aH aHs aL aP aPc aR aT N (5 : Int32) vc vhf vhl vpl hC) (cwV 1 hts gL_mesh_X6_count rfl rfl rfl (by decide +kernel) ⟨Nat.le_of_ble_eq_true rfl, Nat.le_of_ble_eq_true rfl⟩) hK hP hS [0, 1, 2, 3, 7] rfl 0 rfl rfl rfl rfl hl.1 rfl (Nat.le_of_ble_eq_true rfl) ⟨Nat.le_of_ble_eq_true rfl, Nat.le_of_ble_eq_true rfl⟩ dL_mesh_499 (fun H locs hP hS => ?_)
      refine lv_bipush (v := (12 : Int32)) hx hb dL_mesh_502 (by decide) ?_
      refine lv_icmp_ne (tgt := 718) hx hb dL_mesh_504 (by decide) (fun hc => ?_) (fun hc => ?_)
      · have hF := k_if_f hF hc
        exact (hG _ _ _).1 (blk_718 vc vhf vhl vhs vsf vss vpl vpp vra vrk vrt vrn vtl vta vtt vtp hF _ _ _ hP hD hS (lv_sub hl [] rfl))
      · have hF := k_if_t hF hc
        refine lv_aload_n hx hb dL_mesh_507 rfl (lv_at hl 0 rfl) ?_
        refine lv_iconst (v := (0 : Int32)) hx hb dL_mesh_508 (by decide) ?_
        refine lv_iconst (v := (5 : Int32)) hx hb dL_mesh_509 (by decide) ?_
        obtain ⟨r510, hC, hF⟩ := k_c1_ex hF
        refine x_VR (As := [.int (0 : Int32), .int (5 : Int32)]) (rest := []) ⟨hx, hb, hml, hown, hts⟩ (c_X6_of l D cyI cyZ aM aS aC aH aL aP aR aT N (0 : Int32) (5 : Int32) vc hC) (cwV 2 hts gL_mesh_X6_of rfl rfl rfl (by decide +kernel) ⟨Nat.le_of_ble_eq_true rfl, Nat.le_of_ble_eq_true rfl⟩) hK hP hS [0, 1, 2] rfl 0 rfl rfl rfl rfl hl.1 rfl (Nat.le_of_ble_eq_true rfl) ⟨Nat.le_of_ble_eq_true rfl, Nat.le_of_ble_eq_true rfl⟩ dL_mesh_510 (fun H locs hP hS => ?_)
        refine lv_bipush (v := (12 : Int32)) hx hb dL_mesh_513 (by decide) ?_
        refine lv_icmp_ne (tgt := 718) hx hb dL_mesh_515 (by decide) (fun hc => ?_) (fun hc => ?_)
        · have hF := k_if_f hF hc
          exact (hG _ _ _).1 (blk_718 vc vhf vhl vhs vsf vss vpl vpp vra vrk vrt vrn vtl vta vtt vtp hF _ _ _ hP hD hS (lv_sub hl [] rfl))
        · have hF := k_if_t hF hc
          refine lv_aload_n hx hb dL_mesh_518 rfl (lv_at hl 0 rfl) ?_
          refine lv_iconst (v := (1 : Int32)) hx hb dL_mesh_519 (by decide) ?_
          refine lv_iconst (v := (5 : Int32)) hx hb dL_mesh_520 (by decide) ?_
          obtain ⟨r521, hC, hF⟩ := k_c1_ex hF
          refine x_VR (As := [.int (1 : Int32), .int (5 : Int32)]) (rest := []) ⟨hx, hb, hml, hown, hts⟩ (c_X6_of l D cyI cyZ aM aS aC aH aL aP aR aT N (1 : Int32) (5 : Int32) vc hC) (cwV 2 hts gL_mesh_X6_of rfl rfl rfl (by decide +kernel) ⟨Nat.le_of_ble_eq_true rfl, Nat.le_of_ble_eq_true rfl⟩) hK hP hS [0, 1, 2] rfl 0 rfl rfl rfl rfl hl.1 rfl (Nat.le_of_ble_eq_true rfl) ⟨Nat.le_of_ble_eq_true rfl, Nat.le_of_ble_eq_true rfl⟩ dL_mesh_521 (fun H locs hP hS => ?_)
          refine lv_bipush (v := (12 : Int32)) hx hb dL_mesh_524 (by decide) ?_
          refine lv_icmp_ne (tgt := 718) hx hb dL_mesh_526 (by decide) (fun hc => ?_) (fun hc => ?_)
          · have hF := k_if_f hF hc
            exact (hG _ _ _).1 (blk_718 vc vhf vhl vhs vsf vss vpl vpp vra vrk vrt vrn vtl vta vtt vtp hF _ _ _ hP hD hS (lv_sub hl [] rfl))
          · have hF := k_if_t hF hc
            refine lv_aload_n hx hb dL_mesh_529 rfl (lv_at hl 0 rfl) ?_
            refine lv_bipush (v := (7 : Int32)) hx hb dL_mesh_530 (by decide) ?_
            refine lv_iconst (v := (5 : Int32)) hx hb dL_mesh_532 (by decide) ?_
            obtain ⟨r533, vc_533, vhf_533, vhl_533, vhs_533, hC, hF⟩ := k_c5_ex hF
            refine x_VM (As := [.int (7 : Int32), .int (5 : Int32)]) (rest := []) ⟨hx, hb, hml, hown, hts⟩ (c_X6_card l D cyI cyZ aM aS aC aH aHs aL aP aR aT H.size N (7 : Int32) (5 : Int32) vc vhf vhl vhs hC) (cwV 2 hts gL_mesh_X6_card rfl rfl rfl (by decide +kernel) ⟨Nat.le_of_ble_eq_true rfl, Nat.le_of_ble_eq_true rfl⟩) hK hP hD hS hA [0, 1, 2, 3, 4] rfl rfl rfl 0 rfl rfl rfl rfl hl.1 rfl (Nat.le_of_ble_eq_true rfl) ⟨Nat.le_of_ble_eq_true rfl, Nat.le_of_ble_eq_true rfl⟩ dL_mesh_533 (fun H locs hP hD hS => ?_)
            have hP : va_P D vwCl [(aM, .inr (6, [.ref aS, .ref aH, .ref aL, .ref aP, .ref aR, .ref aT])), (aS, .inr (3, [.ref aC])), (aC, .inl (cyI, 225, .inl vc_533)), (aH, .inr (0, [.ref aHs, .int vhf_533, .int vhl_533])), (aHs, .inl (cyI, 1575, .inl vhs_533)), (aL, .inr (4, [.ref aLs, .int vsf])), (aLs, .inl (cyI, 450, .inl vss)), (aP, .inr (1, [.ref aPc, .int vpl])), (aPc, .inl (cyI, 80, .inl vpp)), (aR, .inr (2, [.ref aP, .ref aRn, .int vra, .int vrk, .int vrt])), (aRn, .inl (cyI, 40, .inl vrn)), (aT, .inr (5, [.ref aTp, .int vtl, .int vta, .int vtt])), (aTp, .inl (cyI, 552, .inl vtp))] H := hP
            have hD : va_D (fun q : Nat => s.heap.size ≤ q) [(aM, .inr (6, [.ref aS, .ref aH, .ref aL, .ref aP, .ref aR, .ref aT])), (aS, .inr (3, [.ref aC])), (aC, .inl (cyI, 225, .inl vc_533)), (aH, .inr (0, [.ref aHs, .int vhf_533, .int vhl_533])), (aHs, .inl (cyI, 1575, .inl vhs_533)), (aL, .inr (4, [.ref aLs, .int vsf])), (aLs, .inl (cyI, 450, .inl vss)), (aP, .inr (1, [.ref aPc, .int vpl])), (aPc, .inl (cyI, 80, .inl vpp)), (aR, .inr (2, [.ref aP, .ref aRn, .int vra, .int vrk, .int vrt])), (aRn, .inl (cyI, 40, .inl vrn)), (aT, .inr (5, [.ref aTp, .int vtl, .int vta, .int vtt])), (aTp, .inl (cyI, 552, .inl vtp))] := hD
            refine lv_iconst (v := (5 : Int32)) hx hb dL_mesh_536 (by decide) ?_
            refine lv_icmp_ne (tgt := 718) hx hb dL_mesh_537 (by decide) (fun hc => ?_) (fun hc => ?_)
            · have hF := k_if_f hF hc
              exact (hG _ _ _).1 (blk_718 vc_533 vhf_533 vhl_533 vhs_533 vsf vss vpl vpp vra vrk vrt vrn vtl vta vtt vtp hF _ _ _ hP hD hS (lv_sub hl [] rfl))
            · have hF := k_if_t hF hc
              refine lv_aload_n hx hb dL_mesh_540 rfl (lv_at hl 0 rfl) ?_
              refine lv_iconst (v := (0 : Int32)) hx hb dL_mesh_541 (by decide) ?_
              refine lv_iconst (v := (1 : Int32)) hx hb dL_mesh_542 (by decide) ?_
              refine lv_iconst (v := (0 : Int32)) hx hb dL_mesh_543 (by decide) ?_
              refine lv_iconst (v := (1 : Int32)) hx hb dL_mesh_544 (by decide) ?_
              refine lv_iconst (v := (5 : Int32)) hx hb dL_mesh_545 (by decide) ?_
              refine lv_iconst (v := (4 : Int32)) hx hb dL_mesh_546 (by decide) ?_
              obtain ⟨r547, vc_547, vhf_547, vhl_547, vhs_547, vtl_547, vta_547, vtt_547, vtp_547, hC, hF⟩ := k_c9_ex hF
              refine x_VM (As := [.int (0 : Int32), .int (1 : Int32), .int (0 : Int32), .int (1 : Int32), .int (5 : Int32), .int (4 : Int32)]) (rest := []) ⟨hx, hb, hml, hown, hts⟩ (c_X6_run l D cyI cyZ aM aS aC aH aHs aL aP aR aT aTp H.size N (0 : Int32) (1 : Int32) (0 : Int32) (1 : Int32) (5 : Int32) (4 : Int32) vc_533 vhf_533 vhl_533 vhs_533 vtl vta vtt vtp hC) (cwV 6 hts gL_mesh_X6_run rfl rfl rfl (by decide +kernel) ⟨Nat.le_of_ble_eq_true rfl, Nat.le_of_ble_eq_true rfl⟩) hK hP hD hS hA [0, 1, 2, 3, 4, 11, 12] rfl rfl rfl 0 rfl rfl rfl rfl hl.1 rfl (Nat.le_of_ble_eq_true rfl) ⟨Nat.le_of_ble_eq_true rfl, Nat.le_of_ble_eq_true rfl⟩ dL_mesh_547 (fun H locs hP hD hS => ?_)
              have hP : va_P D vwCl [(aM, .inr (6, [.ref aS, .ref aH, .ref aL, .ref aP, .ref aR, .ref aT])), (aS, .inr (3, [.ref aC])), (aC, .inl (cyI, 225, .inl vc_547)), (aH, .inr (0, [.ref aHs, .int vhf_547, .int vhl_547])), (aHs, .inl (cyI, 1575, .inl vhs_547)), (aL, .inr (4, [.ref aLs, .int vsf])), (aLs, .inl (cyI, 450, .inl vss)), (aP, .inr (1, [.ref aPc, .int vpl])), (aPc, .inl (cyI, 80, .inl vpp)), (aR, .inr (2, [.ref aP, .ref aRn, .int vra, .int vrk, .int vrt])), (aRn, .inl (cyI, 40, .inl vrn)), (aT, .inr (5, [.ref aTp, .int vtl_547, .int vta_547, .int vtt_547])), (aTp, .inl (cyI, 552, .inl vtp_547))] H := hP
              have hD : va_D (fun q : Nat => s.heap.size ≤ q) [(aM, .inr (6, [.ref aS, .ref aH, .ref aL, .ref aP, .ref aR, .ref aT])), (aS, .inr (3, [.ref aC])), (aC, .inl (cyI, 225, .inl vc_547)), (aH, .inr (0, [.ref aHs, .int vhf_547, .int vhl_547])), (aHs, .inl (cyI, 1575, .inl vhs_547)), (aL, .inr (4, [.ref aLs, .int vsf])), (aLs, .inl (cyI, 450, .inl vss)), (aP, .inr (1, [.ref aPc, .int vpl])), (aPc, .inl (cyI, 80, .inl vpp)), (aR, .inr (2, [.ref aP, .ref aRn, .int vra, .int vrk, .int vrt])), (aRn, .inl (cyI, 40, .inl vrn)), (aT, .inr (5, [.ref aTp, .int vtl_547, .int vta_547, .int vtt_547])), (aTp, .inl (cyI, 552, .inl vtp_547))] := hD
              refine lv_iconst (v := (5 : Int32)) hx hb dL_mesh_550 (by decide) ?_
              refine lv_icmp_ne (tgt := 718) hx hb dL_mesh_551 (by decide) (fun hc => ?_) (fun hc => ?_)
              · have hF := k_if_f hF hc
                exact (hG _ _ _).1 (blk_718 vc_547 vhf_547 vhl_547 vhs_547 vsf vss vpl vpp vra vrk vrt vrn vtl_547 vta_547 vtt_547 vtp_547 hF _ _ _ hP hD hS (lv_sub hl [] rfl))
              · have hF := k_if_t hF hc
                refine lv_aload_n hx hb dL_mesh_554 rfl (lv_at hl 0 rfl) ?_
                refine lv_iconst (v := (4 : Int32)) hx hb dL_mesh_555 (by decide) ?_
                obtain ⟨r556, hC, hF⟩ := k_c1_ex hF
                refine x_VR (As := [.int (4 : Int32)]) (rest := []) ⟨hx, hb, hml, hown, hts⟩ (c_X6_count l D cyI cyZ aM aS aC aH aHs aL aP aPc aR aT N (4 : Int32) vc_547 vhf_547 vhl_547 vpl hC) (cwV 1 hts gL_mesh_X6_count rfl rfl rfl (by decide +kernel) ⟨Nat.le_of_ble_eq_true rfl, Nat.le_of_ble_eq_true rfl⟩) hK hP hS [0, 1, 2, 3, 7] rfl 0 rfl rfl rfl rfl hl.1 rfl (Nat.le_of_ble_eq_true rfl) ⟨Nat.le_of_ble_eq_true rfl, Nat.le_of_ble_eq_true rfl⟩ dL_mesh_556 (fun H locs hP hS => ?_)
                refine lv_iconst (v := (5 : Int32)) hx hb dL_mesh_559 (by decide) ?_
                refine lv_icmp_ne (tgt := 718) hx hb dL_mesh_560 (by decide) (fun hc => ?_) (fun hc => ?_)
                · have hF := k_if_f hF hc
                  exact (hG _ _ _).1 (blk_718 vc_547 vhf_547 vhl_547 vhs_547 vsf vss vpl vpp vra vrk vrt vrn vtl_547 vta_547 vtt_547 vtp_547 hF _ _ _ hP hD hS (lv_sub hl [] rfl))
                · have hF := k_if_t hF hc
                  refine lv_aload_n hx hb dL_mesh_563 rfl (lv_at hl 0 rfl) ?_
                  refine lv_iconst (v := (5 : Int32)) hx hb dL_mesh_564 (by decide) ?_
                  obtain ⟨r565, hC, hF⟩ := k_c1_ex hF
                  refine x_VR (As := [.int (5 : Int32)]) (rest := []) ⟨hx, hb, hml, hown, hts⟩ (c_X6_count l D cyI cyZ aM aS aC aH aHs aL aP aPc aR aT N (5 : Int32) vc_547 vhf_547 vhl_547 vpl hC) (cwV 1 hts gL_mesh_X6_count rfl rfl rfl (by decide +kernel) ⟨Nat.le_of_ble_eq_true rfl, Nat.le_of_ble_eq_true rfl⟩) hK hP hS [0, 1, 2, 3, 7] rfl 0 rfl rfl rfl rfl hl.1 rfl (Nat.le_of_ble_eq_true rfl) ⟨Nat.le_of_ble_eq_true rfl, Nat.le_of_ble_eq_true rfl⟩ dL_mesh_565 (fun H locs hP hS => ?_)
                  refine lv_bipush (v := (17 : Int32)) hx hb dL_mesh_568 (by decide) ?_
                  refine lv_icmp_ne (tgt := 718) hx hb dL_mesh_570 (by decide) (fun hc => ?_) (fun hc => ?_)
                  · have hF := k_if_f hF hc
                    exact (hG _ _ _).1 (blk_718 vc_547 vhf_547 vhl_547 vhs_547 vsf vss vpl vpp vra vrk vrt vrn vtl_547 vta_547 vtt_547 vtp_547 hF _ _ _ hP hD hS (lv_sub hl [] rfl))
                  · have hF := k_if_t hF hc
                    exact (hG _ _ _).1 (blk_573 vc_547 vhf_547 vhl_547 vhs_547 vsf vss vpl vpp vra vrk vrt vrn vtl_547 vta_547 vtt_547 vtp_547 hF _ _ _ hP hD hS (lv_sub hl [0] rfl))
  have blk_377 : ∀ (vc : (Nat → Int32)) (vhf : Int32) (vhl : Int32) (vhs : (Nat → Int32)) (vsf : Int32) (vss : (Nat → Int32)) (vpl : Int32) (vpp : (Nat → Int32)) (vra : Int32) (vrk : Int32) (vrt : Int32) (vrn : (Nat → Int32)) (vtl : Int32) (vta : Int32) (vtt : Int32) (vtp : (Nat → Int32)), b_L_mesh_377 N vc vhf vhl vhs vsf vss vpl vpp vra vrk vrt vrn vtl vta vtt vtp = some 1 → ∀ (H : Heap) (locs : List Loc) (ls : Array Slot), va_P D vwCl [(aM, .inr (6, [.ref aS, .ref aH, .ref aL, .ref aP, .ref aR, .ref aT])), (aS, .inr (3, [.ref aC])), (aC, .inl (cyI, 225, .inl vc)), (aH, .inr (0, [.ref aHs, .int vhf, .int vhl])), (aHs, .inl (cyI, 1575, .inl vhs)), (aL, .inr (4, [.ref aLs, .int vsf])), (aLs, .inl (cyI, 450, .inl vss)), (aP, .inr (1, [.ref aPc, .int vpl])), (aPc, .inl (cyI, 80, .inl vpp)), (aR, .inr (2, [.ref aP, .ref aRn, .int vra, .int vrk, .int vrt])), (aRn, .inl (cyI, 40, .inl vrn)), (aT, .inr (5, [.ref aTp, .int vtl, .int vta, .int vtt])), (aTp, .inl (cyI, 552, .inl vtp))] H → va_D (fun q : Nat => s.heap.size ≤ q) [(aM, .inr (6, [.ref aS, .ref aH, .ref aL, .ref aP, .ref aR, .ref aT])), (aS, .inr (3, [.ref aC])), (aC, .inl (cyI, 225, .inl vc)), (aH, .inr (0, [.ref aHs, .int vhf, .int vhl])), (aHs, .inl (cyI, 1575, .inl vhs)), (aL, .inr (4, [.ref aLs, .int vsf])), (aLs, .inl (cyI, 450, .inl vss)), (aP, .inr (1, [.ref aPc, .int vpl])), (aPc, .inl (cyI, 80, .inl vpp)), (aR, .inr (2, [.ref aP, .ref aRn, .int vra, .int vrk, .int vrt])), (aRn, .inl (cyI, 40, .inl vrn)), (aT, .inr (5, [.ref aTp, .int vtl, .int vta, .int vtt])), (aTp, .inl (cyI, 552, .inl vtp))] → va_S (fun q : Nat => s.heap.size ≤ q) s.heap H locs → lv_has ls 1 [(0, .ref aM)] → G H locs (F0 m 377 ls []) := by
    intro vc vhf vhl vhs vsf vss vpl vpp vra vrk vrt vrn vtl vta vtt vtp hF H locs ls hP hD hS hl
    unfold b_L_mesh_377 at hF
    refine (hG _ _ _).2 ?_
    refine lv_aload_n hx hb dL_mesh_377 rfl (lv_at hl 0 rfl) ?_
    obtain ⟨r378, vc_378, vhf_378, vhl_378, vhs_378, vsf_378, vss_378, vpl_378, vpp_378, vra_378, vrk_378, vrt_378, vrn_378, vtl_378, vta_378, vtt_378, vtp_378, hC, hF⟩ := k_c17_ex hF
    refine x_SM (As := [.ref aM]) (rest := []) ⟨hx, hb, hml, hown, hts⟩ (c_L_refused l D cyI cyZ aM aS aC aH aHs aL aLs aP aPc aR aRn aT aTp H.size N vc vhf vhl vhs vsf vss vpl vpp vra vrk vrt vrn vtl vta vtt vtp hC) (va_cwS 1 hts gL_mesh_L_refused rfl rfl rfl (by decide +kernel) ⟨Nat.le_of_ble_eq_true rfl, Nat.le_of_ble_eq_true rfl⟩) hK hP hD hS hA [0, 1, 2, 3, 4, 5, 6, 7, 8, 9, 10, 11, 12] rfl rfl rfl rfl hl.1 rfl (Nat.le_of_ble_eq_true rfl) ⟨Nat.le_of_ble_eq_true rfl, Nat.le_of_ble_eq_true rfl⟩ dL_mesh_378 (fun H locs hP hD hS => ?_)
    have hP : va_P D vwCl [(aM, .inr (6, [.ref aS, .ref aH, .ref aL, .ref aP, .ref aR, .ref aT])), (aS, .inr (3, [.ref aC])), (aC, .inl (cyI, 225, .inl vc_378)), (aH, .inr (0, [.ref aHs, .int vhf_378, .int vhl_378])), (aHs, .inl (cyI, 1575, .inl vhs_378)), (aL, .inr (4, [.ref aLs, .int vsf_378])), (aLs, .inl (cyI, 450, .inl vss_378)), (aP, .inr (1, [.ref aPc, .int vpl_378])), (aPc, .inl (cyI, 80, .inl vpp_378)), (aR, .inr (2, [.ref aP, .ref aRn, .int vra_378, .int vrk_378, .int vrt_378])), (aRn, .inl (cyI, 40, .inl vrn_378)), (aT, .inr (5, [.ref aTp, .int vtl_378, .int vta_378, .int vtt_378])), (aTp, .inl (cyI, 552, .inl vtp_378))] H := hP
    have hD : va_D (fun q : Nat => s.heap.size ≤ q) [(aM, .inr (6, [.ref aS, .ref aH, .ref aL, .ref aP, .ref aR, .ref aT])), (aS, .inr (3, [.ref aC])), (aC, .inl (cyI, 225, .inl vc_378)), (aH, .inr (0, [.ref aHs, .int vhf_378, .int vhl_378])), (aHs, .inl (cyI, 1575, .inl vhs_378)), (aL, .inr (4, [.ref aLs, .int vsf_378])), (aLs, .inl (cyI, 450, .inl vss_378)), (aP, .inr (1, [.ref aPc, .int vpl_378])), (aPc, .inl (cyI, 80, .inl vpp_378)), (aR, .inr (2, [.ref aP, .ref aRn, .int vra_378, .int vrk_378, .int vrt_378])), (aRn, .inl (cyI, 40, .inl vrn_378)), (aT, .inr (5, [.ref aTp, .int vtl_378, .int vta_378, .int vtt_378])), (aTp, .inl (cyI, 552, .inl vtp_378))] := hD
    refine lv_if_ne (tgt := 386) hx hb dL_mesh_381 (by decide) (fun hc => ?_) (fun hc => ?_)
    · have hF := k_if_f hF hc
      refine lv_aload_n hx hb dL_mesh_386 rfl (lv_at hl 0 rfl) ?_
      refine lv_iconst (v := (0 : Int32)) hx hb dL_mesh_387 (by decide) ?_
      refine lv_iconst (v := (3 : Int32)) hx hb dL_mesh_388 (by decide) ?_
      obtain ⟨r389, vc_389, vhf_389, vhl_389, vhs_389, hC, hF⟩ := k_c5_ex hF
      refine x_VM (As := [.int (0 : Int32), .int (3 : Int32)]) (rest := []) ⟨hx, hb, hml, hown, hts⟩ (c_X6_set l D cyI cyZ aM aS aC aH aHs aL aP aR aT H.size N (0 : Int32) (3 : Int32) vc_378 vhf_378 vhl_378 vhs_378 hC) (cwV 2 hts gL_mesh_X6_set rfl rfl rfl (by decide +kernel) ⟨Nat.le_of_ble_eq_true rfl, Nat.le_of_ble_eq_true rfl⟩) hK hP hD hS hA [0, 1, 2, 3, 4] rfl rfl rfl 0 rfl rfl rfl rfl hl.1 rfl (Nat.le_of_ble_eq_true rfl) ⟨Nat.le_of_ble_eq_true rfl, Nat.le_of_ble_eq_true rfl⟩ dL_mesh_389 (fun H locs hP hD hS => ?_)
      have hP : va_P D vwCl [(aM, .inr (6, [.ref aS, .ref aH, .ref aL, .ref aP, .ref aR, .ref aT])), (aS, .inr (3, [.ref aC])), (aC, .inl (cyI, 225, .inl vc_389)), (aH, .inr (0, [.ref aHs, .int vhf_389, .int vhl_389])), (aHs, .inl (cyI, 1575, .inl vhs_389)), (aL, .inr (4, [.ref aLs, .int vsf_378])), (aLs, .inl (cyI, 450, .inl vss_378)), (aP, .inr (1, [.ref aPc, .int vpl_378])), (aPc, .inl (cyI, 80, .inl vpp_378)), (aR, .inr (2, [.ref aP, .ref aRn, .int vra_378, .int vrk_378, .int vrt_378])), (aRn, .inl (cyI, 40, .inl vrn_378)), (aT, .inr (5, [.ref aTp, .int vtl_378, .int vta_378, .int vtt_378])), (aTp, .inl (cyI, 552, .inl vtp_378))] H := hP
      have hD : va_D (fun q : Nat => s.heap.size ≤ q) [(aM, .inr (6, [.ref aS, .ref aH, .ref aL, .ref aP, .ref aR, .ref aT])), (aS, .inr (3, [.ref aC])), (aC, .inl (cyI, 225, .inl vc_389)), (aH, .inr (0, [.ref aHs, .int vhf_389, .int vhl_389])), (aHs, .inl (cyI, 1575, .inl vhs_389)), (aL, .inr (4, [.ref aLs, .int vsf_378])), (aLs, .inl (cyI, 450, .inl vss_378)), (aP, .inr (1, [.ref aPc, .int vpl_378])), (aPc, .inl (cyI, 80, .inl vpp_378)), (aR, .inr (2, [.ref aP, .ref aRn, .int vra_378, .int vrk_378, .int vrt_378])), (aRn, .inl (cyI, 40, .inl vrn_378)), (aT, .inr (5, [.ref aTp, .int vtl_378, .int vta_378, .int vtt_378])), (aTp, .inl (cyI, 552, .inl vtp_378))] := hD
      refine lv_bipush (v := (6 : Int32)) hx hb dL_mesh_392 (by decide) ?_
      refine lv_icmp_ne (tgt := 718) hx hb dL_mesh_394 (by decide) (fun hc => ?_) (fun hc => ?_)
      · have hF := k_if_f hF hc
        exact (hG _ _ _).1 (blk_718 vc_389 vhf_389 vhl_389 vhs_389 vsf_378 vss_378 vpl_378 vpp_378 vra_378 vrk_378 vrt_378 vrn_378 vtl_378 vta_378 vtt_378 vtp_378 hF _ _ _ hP hD hS (lv_sub hl [] rfl))
      · have hF := k_if_t hF hc
        refine lv_aload_n hx hb dL_mesh_397 rfl (lv_at hl 0 rfl) ?_
        refine lv_iconst (v := (0 : Int32)) hx hb dL_mesh_398 (by decide) ?_
        refine lv_iconst (v := (1 : Int32)) hx hb dL_mesh_399 (by decide) ?_
        refine lv_iconst (v := (1 : Int32)) hx hb dL_mesh_400 (by decide) ?_
        obtain ⟨r401, vtl_401, vtp_401, hC, hF⟩ := k_c3_ex hF
        refine x_VM (As := [.int (0 : Int32), .int (1 : Int32), .int (1 : Int32)]) (rest := []) ⟨hx, hb, hml, hown, hts⟩ (c_X6_leastGap l D cyI cyZ aM aS aC aH aL aP aR aT aTp H.size N (0 : Int32) (1 : Int32) (1 : Int32) vc_389 vtl_378 vta_378 vtt_378 vtp_378 hC) (cwV 3 hts gL_mesh_X6_leastGap rfl rfl rfl (by decide +kernel) ⟨Nat.le_of_ble_eq_true rfl, Nat.le_of_ble_eq_true rfl⟩) hK hP hD hS hA [0, 1, 2, 11, 12] rfl rfl rfl 0 rfl rfl rfl rfl hl.1 rfl (Nat.le_of_ble_eq_true rfl) ⟨Nat.le_of_ble_eq_true rfl, Nat.le_of_ble_eq_true rfl⟩ dL_mesh_401 (fun H locs hP hD hS => ?_)
        have hP : va_P D vwCl [(aM, .inr (6, [.ref aS, .ref aH, .ref aL, .ref aP, .ref aR, .ref aT])), (aS, .inr (3, [.ref aC])), (aC, .inl (cyI, 225, .inl vc_389)), (aH, .inr (0, [.ref aHs, .int vhf_389, .int vhl_389])), (aHs, .inl (cyI, 1575, .inl vhs_389)), (aL, .inr (4, [.ref aLs, .int vsf_378])), (aLs, .inl (cyI, 450, .inl vss_378)), (aP, .inr (1, [.ref aPc, .int vpl_378])), (aPc, .inl (cyI, 80, .inl vpp_378)), (aR, .inr (2, [.ref aP, .ref aRn, .int vra_378, .int vrk_378, .int vrt_378])), (aRn, .inl (cyI, 40, .inl vrn_378)), (aT, .inr (5, [.ref aTp, .int vtl_401, .int vta_378, .int vtt_378])), (aTp, .inl (cyI, 552, .inl vtp_401))] H := hP
        have hD : va_D (fun q : Nat => s.heap.size ≤ q) [(aM, .inr (6, [.ref aS, .ref aH, .ref aL, .ref aP, .ref aR, .ref aT])), (aS, .inr (3, [.ref aC])), (aC, .inl (cyI, 225, .inl vc_389)), (aH, .inr (0, [.ref aHs, .int vhf_389, .int vhl_389])), (aHs, .inl (cyI, 1575, .inl vhs_389)), (aL, .inr (4, [.ref aLs, .int vsf_378])), (aLs, .inl (cyI, 450, .inl vss_378)), (aP, .inr (1, [.ref aPc, .int vpl_378])), (aPc, .inl (cyI, 80, .inl vpp_378)), (aR, .inr (2, [.ref aP, .ref aRn, .int vra_378, .int vrk_378, .int vrt_378])), (aRn, .inl (cyI, 40, .inl vrn_378)), (aT, .inr (5, [.ref aTp, .int vtl_401, .int vta_378, .int vtt_378])), (aTp, .inl (cyI, 552, .inl vtp_401))] := hD
        refine lv_bipush (v := (-6 : Int32)) hx hb dL_mesh_404 (by decide) ?_
        refine lv_icmp_ne (tgt := 718) hx hb dL_mesh_406 (by decide) (fun hc => ?_) (fun hc => ?_)
        · have hF := k_if_f hF hc
          exact (hG _ _ _).1 (blk_718 vc_389 vhf_389 vhl_389 vhs_389 vsf_378 vss_378 vpl_378 vpp_378 vra_378 vrk_378 vrt_378 vrn_378 vtl_401 vta_378 vtt_378 vtp_401 hF _ _ _ hP hD hS (lv_sub hl [] rfl))
        · have hF := k_if_t hF hc
          refine lv_aload_n hx hb dL_mesh_409 rfl (lv_at hl 0 rfl) ?_
          refine lv_iconst (v := (0 : Int32)) hx hb dL_mesh_410 (by decide) ?_
          refine lv_iconst (v := (1 : Int32)) hx hb dL_mesh_411 (by decide) ?_
          refine lv_iconst (v := (1 : Int32)) hx hb dL_mesh_412 (by decide) ?_
          refine lv_iconst (v := (3 : Int32)) hx hb dL_mesh_413 (by decide) ?_
          refine lv_iconst (v := (0 : Int32)) hx hb dL_mesh_414 (by decide) ?_
          obtain ⟨r415, vtl_415, vtp_415, hC, hF⟩ := k_c3_ex hF
          refine x_VM (As := [.int (0 : Int32), .int (1 : Int32), .int (1 : Int32), .int (3 : Int32), .int (0 : Int32)]) (rest := []) ⟨hx, hb, hml, hown, hts⟩ (c_X6_why l D cyI cyZ aM aS aC aH aL aP aR aT aTp H.size N (0 : Int32) (1 : Int32) (1 : Int32) (3 : Int32) (0 : Int32) vc_389 vtl_401 vta_378 vtt_378 vtp_401 hC) (cwV 5 hts gL_mesh_X6_why rfl rfl rfl (by decide +kernel) ⟨Nat.le_of_ble_eq_true rfl, Nat.le_of_ble_eq_true rfl⟩) hK hP hD hS hA [0, 1, 2, 11, 12] rfl rfl rfl 0 rfl rfl rfl rfl hl.1 rfl (Nat.le_of_ble_eq_true rfl) ⟨Nat.le_of_ble_eq_true rfl, Nat.le_of_ble_eq_true rfl⟩ dL_mesh_415 (fun H locs hP hD hS => ?_)
          have hP : va_P D vwCl [(aM, .inr (6, [.ref aS, .ref aH, .ref aL, .ref aP, .ref aR, .ref aT])), (aS, .inr (3, [.ref aC])), (aC, .inl (cyI, 225, .inl vc_389)), (aH, .inr (0, [.ref aHs, .int vhf_389, .int vhl_389])), (aHs, .inl (cyI, 1575, .inl vhs_389)), (aL, .inr (4, [.ref aLs, .int vsf_378])), (aLs, .inl (cyI, 450, .inl vss_378)), (aP, .inr (1, [.ref aPc, .int vpl_378])), (aPc, .inl (cyI, 80, .inl vpp_378)), (aR, .inr (2, [.ref aP, .ref aRn, .int vra_378, .int vrk_378, .int vrt_378])), (aRn, .inl (cyI, 40, .inl vrn_378)), (aT, .inr (5, [.ref aTp, .int vtl_415, .int vta_378, .int vtt_378])), (aTp, .inl (cyI, 552, .inl vtp_415))] H := hP
          have hD : va_D (fun q : Nat => s.heap.size ≤ q) [(aM, .inr (6, [.ref aS, .ref aH, .ref aL, .ref aP, .ref aR, .ref aT])), (aS, .inr (3, [.ref aC])), (aC, .inl (cyI, 225, .inl vc_389)), (aH, .inr (0, [.ref aHs, .int vhf_389, .int vhl_389])), (aHs, .inl (cyI, 1575, .inl vhs_389)), (aL, .inr (4, [.ref aLs, .int vsf_378])), (aLs, .inl (cyI, 450, .inl vss_378)), (aP, .inr (1, [.ref aPc, .int vpl_378])), (aPc, .inl (cyI, 80, .inl vpp_378)), (aR, .inr (2, [.ref aP, .ref aRn, .int vra_378, .int vrk_378, .int vrt_378])), (aRn, .inl (cyI, 40, .inl vrn_378)), (aT, .inr (5, [.ref aTp, .int vtl_415, .int vta_378, .int vtt_378])), (aTp, .inl (cyI, 552, .inl vtp_415))] := hD
          refine lv_iconst (v := (2 : Int32)) hx hb dL_mesh_418 (by decide) ?_
          refine lv_icmp_ne (tgt := 718) hx hb dL_mesh_419 (by decide) (fun hc => ?_) (fun hc => ?_)
          · have hF := k_if_f hF hc
            exact (hG _ _ _).1 (blk_718 vc_389 vhf_389 vhl_389 vhs_389 vsf_378 vss_378 vpl_378 vpp_378 vra_378 vrk_378 vrt_378 vrn_378 vtl_415 vta_378 vtt_378 vtp_415 hF _ _ _ hP hD hS (lv_sub hl [] rfl))
          · have hF := k_if_t hF hc
            refine lv_aload_n hx hb dL_mesh_422 rfl (lv_at hl 0 rfl) ?_
            refine lv_iconst (v := (0 : Int32)) hx hb dL_mesh_423 (by decide) ?_
            refine lv_iconst (v := (1 : Int32)) hx hb dL_mesh_424 (by decide) ?_
            refine lv_iconst (v := (1 : Int32)) hx hb dL_mesh_425 (by decide) ?_
            refine lv_iconst (v := (3 : Int32)) hx hb dL_mesh_426 (by decide) ?_
            refine lv_iconst (v := (1 : Int32)) hx hb dL_mesh_427 (by decide) ?_
            obtain ⟨r428, vtl_428, vtp_428, hC, hF⟩ := k_c3_ex hF
            refine x_VM (As := [.int (0 : Int32), .int (1 : Int32), .int (1 : Int32), .int (3 : Int32), .int (1 : Int32)]) (rest := []) ⟨hx, hb, hml, hown, hts⟩ (c_X6_why l D cyI cyZ aM aS aC aH aL aP aR aT aTp H.size N (0 : Int32) (1 : Int32) (1 : Int32) (3 : Int32) (1 : Int32) vc_389 vtl_415 vta_378 vtt_378 vtp_415 hC) (cwV 5 hts gL_mesh_X6_why rfl rfl rfl (by decide +kernel) ⟨Nat.le_of_ble_eq_true rfl, Nat.le_of_ble_eq_true rfl⟩) hK hP hD hS hA [0, 1, 2, 11, 12] rfl rfl rfl 0 rfl rfl rfl rfl hl.1 rfl (Nat.le_of_ble_eq_true rfl) ⟨Nat.le_of_ble_eq_true rfl, Nat.le_of_ble_eq_true rfl⟩ dL_mesh_428 (fun H locs hP hD hS => ?_)
            have hP : va_P D vwCl [(aM, .inr (6, [.ref aS, .ref aH, .ref aL, .ref aP, .ref aR, .ref aT])), (aS, .inr (3, [.ref aC])), (aC, .inl (cyI, 225, .inl vc_389)), (aH, .inr (0, [.ref aHs, .int vhf_389, .int vhl_389])), (aHs, .inl (cyI, 1575, .inl vhs_389)), (aL, .inr (4, [.ref aLs, .int vsf_378])), (aLs, .inl (cyI, 450, .inl vss_378)), (aP, .inr (1, [.ref aPc, .int vpl_378])), (aPc, .inl (cyI, 80, .inl vpp_378)), (aR, .inr (2, [.ref aP, .ref aRn, .int vra_378, .int vrk_378, .int vrt_378])), (aRn, .inl (cyI, 40, .inl vrn_378)), (aT, .inr (5, [.ref aTp, .int vtl_428, .int vta_378, .int vtt_378])), (aTp, .inl (cyI, 552, .inl vtp_428))] H := hP
            have hD : va_D (fun q : Nat => s.heap.size ≤ q) [(aM, .inr (6, [.ref aS, .ref aH, .ref aL, .ref aP, .ref aR, .ref aT])), (aS, .inr (3, [.ref aC])), (aC, .inl (cyI, 225, .inl vc_389)), (aH, .inr (0, [.ref aHs, .int vhf_389, .int vhl_389])), (aHs, .inl (cyI, 1575, .inl vhs_389)), (aL, .inr (4, [.ref aLs, .int vsf_378])), (aLs, .inl (cyI, 450, .inl vss_378)), (aP, .inr (1, [.ref aPc, .int vpl_378])), (aPc, .inl (cyI, 80, .inl vpp_378)), (aR, .inr (2, [.ref aP, .ref aRn, .int vra_378, .int vrk_378, .int vrt_378])), (aRn, .inl (cyI, 40, .inl vrn_378)), (aT, .inr (5, [.ref aTp, .int vtl_428, .int vta_378, .int vtt_378])), (aTp, .inl (cyI, 552, .inl vtp_428))] := hD
            refine lv_if_ne (tgt := 718) hx hb dL_mesh_431 (by decide) (fun hc => ?_) (fun hc => ?_)
            · have hF := k_if_f hF hc
              exact (hG _ _ _).1 (blk_718 vc_389 vhf_389 vhl_389 vhs_389 vsf_378 vss_378 vpl_378 vpp_378 vra_378 vrk_378 vrt_378 vrn_378 vtl_428 vta_378 vtt_378 vtp_428 hF _ _ _ hP hD hS (lv_sub hl [] rfl))
            · have hF := k_if_t hF hc
              refine lv_aload_n hx hb dL_mesh_434 rfl (lv_at hl 0 rfl) ?_
              refine lv_iconst (v := (0 : Int32)) hx hb dL_mesh_435 (by decide) ?_
              refine lv_iconst (v := (1 : Int32)) hx hb dL_mesh_436 (by decide) ?_
              refine lv_iconst (v := (1 : Int32)) hx hb dL_mesh_437 (by decide) ?_
              refine lv_iconst (v := (2 : Int32)) hx hb dL_mesh_438 (by decide) ?_
              refine lv_iconst (v := (0 : Int32)) hx hb dL_mesh_439 (by decide) ?_
              obtain ⟨r440, vtl_440, vtp_440, hC, hF⟩ := k_c3_ex hF
              refine x_VM (As := [.int (0 : Int32), .int (1 : Int32), .int (1 : Int32), .int (2 : Int32), .int (0 : Int32)]) (rest := []) ⟨hx, hb, hml, hown, hts⟩ (c_X6_why l D cyI cyZ aM aS aC aH aL aP aR aT aTp H.size N (0 : Int32) (1 : Int32) (1 : Int32) (2 : Int32) (0 : Int32) vc_389 vtl_428 vta_378 vtt_378 vtp_428 hC) (cwV 5 hts gL_mesh_X6_why rfl rfl rfl (by decide +kernel) ⟨Nat.le_of_ble_eq_true rfl, Nat.le_of_ble_eq_true rfl⟩) hK hP hD hS hA [0, 1, 2, 11, 12] rfl rfl rfl 0 rfl rfl rfl rfl hl.1 rfl (Nat.le_of_ble_eq_true rfl) ⟨Nat.le_of_ble_eq_true rfl, Nat.le_of_ble_eq_true rfl⟩ dL_mesh_440 (fun H locs hP hD hS => ?_)
              have hP : va_P D vwCl [(aM, .inr (6, [.ref aS, .ref aH, .ref aL, .ref aP, .ref aR, .ref aT])), (aS, .inr (3, [.ref aC])), (aC, .inl (cyI, 225, .inl vc_389)), (aH, .inr (0, [.ref aHs, .int vhf_389, .int vhl_389])), (aHs, .inl (cyI, 1575, .inl vhs_389)), (aL, .inr (4, [.ref aLs, .int vsf_378])), (aLs, .inl (cyI, 450, .inl vss_378)), (aP, .inr (1, [.ref aPc, .int vpl_378])), (aPc, .inl (cyI, 80, .inl vpp_378)), (aR, .inr (2, [.ref aP, .ref aRn, .int vra_378, .int vrk_378, .int vrt_378])), (aRn, .inl (cyI, 40, .inl vrn_378)), (aT, .inr (5, [.ref aTp, .int vtl_440, .int vta_378, .int vtt_378])), (aTp, .inl (cyI, 552, .inl vtp_440))] H := hP
              have hD : va_D (fun q : Nat => s.heap.size ≤ q) [(aM, .inr (6, [.ref aS, .ref aH, .ref aL, .ref aP, .ref aR, .ref aT])), (aS, .inr (3, [.ref aC])), (aC, .inl (cyI, 225, .inl vc_389)), (aH, .inr (0, [.ref aHs, .int vhf_389, .int vhl_389])), (aHs, .inl (cyI, 1575, .inl vhs_389)), (aL, .inr (4, [.ref aLs, .int vsf_378])), (aLs, .inl (cyI, 450, .inl vss_378)), (aP, .inr (1, [.ref aPc, .int vpl_378])), (aPc, .inl (cyI, 80, .inl vpp_378)), (aR, .inr (2, [.ref aP, .ref aRn, .int vra_378, .int vrk_378, .int vrt_378])), (aRn, .inl (cyI, 40, .inl vrn_378)), (aT, .inr (5, [.ref aTp, .int vtl_440, .int vta_378, .int vtt_378])), (aTp, .inl (cyI, 552, .inl vtp_440))] := hD
              refine lv_iconst (v := (1 : Int32)) hx hb dL_mesh_443 (by decide) ?_
              refine lv_icmp_ne (tgt := 718) hx hb dL_mesh_444 (by decide) (fun hc => ?_) (fun hc => ?_)
              · have hF := k_if_f hF hc
                exact (hG _ _ _).1 (blk_718 vc_389 vhf_389 vhl_389 vhs_389 vsf_378 vss_378 vpl_378 vpp_378 vra_378 vrk_378 vrt_378 vrn_378 vtl_440 vta_378 vtt_378 vtp_440 hF _ _ _ hP hD hS (lv_sub hl [] rfl))
              · have hF := k_if_t hF hc
                refine lv_aload_n hx hb dL_mesh_447 rfl (lv_at hl 0 rfl) ?_
                refine lv_iconst (v := (0 : Int32)) hx hb dL_mesh_448 (by decide) ?_
                refine lv_iconst (v := (1 : Int32)) hx hb dL_mesh_449 (by decide) ?_
                refine lv_iconst (v := (1 : Int32)) hx hb dL_mesh_450 (by decide) ?_
                refine lv_iconst (v := (3 : Int32)) hx hb dL_mesh_451 (by decide) ?_
                obtain ⟨r452, vtl_452, vta_452, vtt_452, vtp_452, hC, hF⟩ := k_c5_ex hF
                refine x_VM (As := [.int (0 : Int32), .int (1 : Int32), .int (1 : Int32), .int (3 : Int32)]) (rest := []) ⟨hx, hb, hml, hown, hts⟩ (c_X6_thickest l D cyI cyZ aM aS aC aH aL aP aR aT aTp H.size N (0 : Int32) (1 : Int32) (1 : Int32) (3 : Int32) vc_389 vtl_440 vta_378 vtt_378 vtp_440 hC) (cwV 4 hts gL_mesh_X6_thickest rfl rfl rfl (by decide +kernel) ⟨Nat.le_of_ble_eq_true rfl, Nat.le_of_ble_eq_true rfl⟩) hK hP hD hS hA [0, 1, 2, 11, 12] rfl rfl rfl 0 rfl rfl rfl rfl hl.1 rfl (Nat.le_of_ble_eq_true rfl) ⟨Nat.le_of_ble_eq_true rfl, Nat.le_of_ble_eq_true rfl⟩ dL_mesh_452 (fun H locs hP hD hS => ?_)
                have hP : va_P D vwCl [(aM, .inr (6, [.ref aS, .ref aH, .ref aL, .ref aP, .ref aR, .ref aT])), (aS, .inr (3, [.ref aC])), (aC, .inl (cyI, 225, .inl vc_389)), (aH, .inr (0, [.ref aHs, .int vhf_389, .int vhl_389])), (aHs, .inl (cyI, 1575, .inl vhs_389)), (aL, .inr (4, [.ref aLs, .int vsf_378])), (aLs, .inl (cyI, 450, .inl vss_378)), (aP, .inr (1, [.ref aPc, .int vpl_378])), (aPc, .inl (cyI, 80, .inl vpp_378)), (aR, .inr (2, [.ref aP, .ref aRn, .int vra_378, .int vrk_378, .int vrt_378])), (aRn, .inl (cyI, 40, .inl vrn_378)), (aT, .inr (5, [.ref aTp, .int vtl_452, .int vta_452, .int vtt_452])), (aTp, .inl (cyI, 552, .inl vtp_452))] H := hP
                have hD : va_D (fun q : Nat => s.heap.size ≤ q) [(aM, .inr (6, [.ref aS, .ref aH, .ref aL, .ref aP, .ref aR, .ref aT])), (aS, .inr (3, [.ref aC])), (aC, .inl (cyI, 225, .inl vc_389)), (aH, .inr (0, [.ref aHs, .int vhf_389, .int vhl_389])), (aHs, .inl (cyI, 1575, .inl vhs_389)), (aL, .inr (4, [.ref aLs, .int vsf_378])), (aLs, .inl (cyI, 450, .inl vss_378)), (aP, .inr (1, [.ref aPc, .int vpl_378])), (aPc, .inl (cyI, 80, .inl vpp_378)), (aR, .inr (2, [.ref aP, .ref aRn, .int vra_378, .int vrk_378, .int vrt_378])), (aRn, .inl (cyI, 40, .inl vrn_378)), (aT, .inr (5, [.ref aTp, .int vtl_452, .int vta_452, .int vtt_452])), (aTp, .inl (cyI, 552, .inl vtp_452))] := hD
                refine lv_bipush (v := (-6 : Int32)) hx hb dL_mesh_455 (by decide) ?_
                refine lv_icmp_ne (tgt := 718) hx hb dL_mesh_457 (by decide) (fun hc => ?_) (fun hc => ?_)
                · have hF := k_if_f hF hc
                  exact (hG _ _ _).1 (blk_718 vc_389 vhf_389 vhl_389 vhs_389 vsf_378 vss_378 vpl_378 vpp_378 vra_378 vrk_378 vrt_378 vrn_378 vtl_452 vta_452 vtt_452 vtp_452 hF _ _ _ hP hD hS (lv_sub hl [] rfl))
                · have hF := k_if_t hF hc
                  refine lv_aload_n hx hb dL_mesh_460 rfl (lv_at hl 0 rfl) ?_
                  refine lv_iconst (v := (0 : Int32)) hx hb dL_mesh_461 (by decide) ?_
                  refine lv_iconst (v := (1 : Int32)) hx hb dL_mesh_462 (by decide) ?_
                  refine lv_iconst (v := (1 : Int32)) hx hb dL_mesh_463 (by decide) ?_
                  refine lv_iconst (v := (3 : Int32)) hx hb dL_mesh_464 (by decide) ?_
                  refine lv_iconst (v := (1 : Int32)) hx hb dL_mesh_465 (by decide) ?_
                  refine lv_iconst (v := (1 : Int32)) hx hb dL_mesh_466 (by decide) ?_
                  obtain ⟨r467, vc_467, vhf_467, vhl_467, vhs_467, vtl_467, vta_467, vtt_467, vtp_467, hC, hF⟩ := k_c9_ex hF
                  refine x_VM (As := [.int (0 : Int32), .int (1 : Int32), .int (1 : Int32), .int (3 : Int32), .int (1 : Int32), .int (1 : Int32)]) (rest := []) ⟨hx, hb, hml, hown, hts⟩ (c_X6_run l D cyI cyZ aM aS aC aH aHs aL aP aR aT aTp H.size N (0 : Int32) (1 : Int32) (1 : Int32) (3 : Int32) (1 : Int32) (1 : Int32) vc_389 vhf_389 vhl_389 vhs_389 vtl_452 vta_452 vtt_452 vtp_452 hC) (cwV 6 hts gL_mesh_X6_run rfl rfl rfl (by decide +kernel) ⟨Nat.le_of_ble_eq_true rfl, Nat.le_of_ble_eq_true rfl⟩) hK hP hD hS hA [0, 1, 2, 3, 4, 11, 12] rfl rfl rfl 0 rfl rfl rfl rfl hl.1 rfl (Nat.le_of_ble_eq_true rfl) ⟨Nat.le_of_ble_eq_true rfl, Nat.le_of_ble_eq_true rfl⟩ dL_mesh_467 (fun H locs hP hD hS => ?_)
                  have hP : va_P D vwCl [(aM, .inr (6, [.ref aS, .ref aH, .ref aL, .ref aP, .ref aR, .ref aT])), (aS, .inr (3, [.ref aC])), (aC, .inl (cyI, 225, .inl vc_467)), (aH, .inr (0, [.ref aHs, .int vhf_467, .int vhl_467])), (aHs, .inl (cyI, 1575, .inl vhs_467)), (aL, .inr (4, [.ref aLs, .int vsf_378])), (aLs, .inl (cyI, 450, .inl vss_378)), (aP, .inr (1, [.ref aPc, .int vpl_378])), (aPc, .inl (cyI, 80, .inl vpp_378)), (aR, .inr (2, [.ref aP, .ref aRn, .int vra_378, .int vrk_378, .int vrt_378])), (aRn, .inl (cyI, 40, .inl vrn_378)), (aT, .inr (5, [.ref aTp, .int vtl_467, .int vta_467, .int vtt_467])), (aTp, .inl (cyI, 552, .inl vtp_467))] H := hP
                  have hD : va_D (fun q : Nat => s.heap.size ≤ q) [(aM, .inr (6, [.ref aS, .ref aH, .ref aL, .ref aP, .ref aR, .ref aT])), (aS, .inr (3, [.ref aC])), (aC, .inl (cyI, 225, .inl vc_467)), (aH, .inr (0, [.ref aHs, .int vhf_467, .int vhl_467])), (aHs, .inl (cyI, 1575, .inl vhs_467)), (aL, .inr (4, [.ref aLs, .int vsf_378])), (aLs, .inl (cyI, 450, .inl vss_378)), (aP, .inr (1, [.ref aPc, .int vpl_378])), (aPc, .inl (cyI, 80, .inl vpp_378)), (aR, .inr (2, [.ref aP, .ref aRn, .int vra_378, .int vrk_378, .int vrt_378])), (aRn, .inl (cyI, 40, .inl vrn_378)), (aT, .inr (5, [.ref aTp, .int vtl_467, .int vta_467, .int vtt_467])), (aTp, .inl (cyI, 552, .inl vtp_467))] := hD
                  refine lv_bipush (v := (-5 : Int32)) hx hb dL_mesh_470 (by decide) ?_
                  refine lv_icmp_ne (tgt := 718) hx hb dL_mesh_472 (by decide) (fun hc => ?_) (fun hc => ?_)
                  · have hF := k_if_f hF hc
                    exact (hG _ _ _).1 (blk_718 vc_467 vhf_467 vhl_467 vhs_467 vsf_378 vss_378 vpl_378 vpp_378 vra_378 vrk_378 vrt_378 vrn_378 vtl_467 vta_467 vtt_467 vtp_467 hF _ _ _ hP hD hS (lv_sub hl [] rfl))
                  · have hF := k_if_t hF hc
                    refine lv_aload_n hx hb dL_mesh_475 rfl (lv_at hl 0 rfl) ?_
                    refine lv_iconst (v := (0 : Int32)) hx hb dL_mesh_476 (by decide) ?_
                    refine lv_iconst (v := (1 : Int32)) hx hb dL_mesh_477 (by decide) ?_
                    refine lv_iconst (v := (0 : Int32)) hx hb dL_mesh_478 (by decide) ?_
                    refine lv_iconst (v := (1 : Int32)) hx hb dL_mesh_479 (by decide) ?_
                    refine lv_iconst (v := (3 : Int32)) hx hb dL_mesh_480 (by decide) ?_
                    refine lv_iconst (v := (4 : Int32)) hx hb dL_mesh_481 (by decide) ?_
                    obtain ⟨r482, vc_482, vhf_482, vhl_482, vhs_482, vtl_482, vta_482, vtt_482, vtp_482, hC, hF⟩ := k_c9_ex hF
                    refine x_VM (As := [.int (0 : Int32), .int (1 : Int32), .int (0 : Int32), .int (1 : Int32), .int (3 : Int32), .int (4 : Int32)]) (rest := []) ⟨hx, hb, hml, hown, hts⟩ (c_X6_run l D cyI cyZ aM aS aC aH aHs aL aP aR aT aTp H.size N (0 : Int32) (1 : Int32) (0 : Int32) (1 : Int32) (3 : Int32) (4 : Int32) vc_467 vhf_467 vhl_467 vhs_467 vtl_467 vta_467 vtt_467 vtp_467 hC) (cwV 6 hts gL_mesh_X6_run rfl rfl rfl (by decide +kernel) ⟨Nat.le_of_ble_eq_true rfl, Nat.le_of_ble_eq_true rfl⟩) hK hP hD hS hA [0, 1, 2, 3, 4, 11, 12] rfl rfl rfl 0 rfl rfl rfl rfl hl.1 rfl (Nat.le_of_ble_eq_true rfl) ⟨Nat.le_of_ble_eq_true rfl, Nat.le_of_ble_eq_true rfl⟩ dL_mesh_482 (fun H locs hP hD hS => ?_)
                    have hP : va_P D vwCl [(aM, .inr (6, [.ref aS, .ref aH, .ref aL, .ref aP, .ref aR, .ref aT])), (aS, .inr (3, [.ref aC])), (aC, .inl (cyI, 225, .inl vc_482)), (aH, .inr (0, [.ref aHs, .int vhf_482, .int vhl_482])), (aHs, .inl (cyI, 1575, .inl vhs_482)), (aL, .inr (4, [.ref aLs, .int vsf_378])), (aLs, .inl (cyI, 450, .inl vss_378)), (aP, .inr (1, [.ref aPc, .int vpl_378])), (aPc, .inl (cyI, 80, .inl vpp_378)), (aR, .inr (2, [.ref aP, .ref aRn, .int vra_378, .int vrk_378, .int vrt_378])), (aRn, .inl (cyI, 40, .inl vrn_378)), (aT, .inr (5, [.ref aTp, .int vtl_482, .int vta_482, .int vtt_482])), (aTp, .inl (cyI, 552, .inl vtp_482))] H := hP
                    have hD : va_D (fun q : Nat => s.heap.size ≤ q) [(aM, .inr (6, [.ref aS, .ref aH, .ref aL, .ref aP, .ref aR, .ref aT])), (aS, .inr (3, [.ref aC])), (aC, .inl (cyI, 225, .inl vc_482)), (aH, .inr (0, [.ref aHs, .int vhf_482, .int vhl_482])), (aHs, .inl (cyI, 1575, .inl vhs_482)), (aL, .inr (4, [.ref aLs, .int vsf_378])), (aLs, .inl (cyI, 450, .inl vss_378)), (aP, .inr (1, [.ref aPc, .int vpl_378])), (aPc, .inl (cyI, 80, .inl vpp_378)), (aR, .inr (2, [.ref aP, .ref aRn, .int vra_378, .int vrk_378, .int vrt_378])), (aRn, .inl (cyI, 40, .inl vrn_378)), (aT, .inr (5, [.ref aTp, .int vtl_482, .int vta_482, .int vtt_482])), (aTp, .inl (cyI, 552, .inl vtp_482))] := hD
                    refine lv_if_ne (tgt := 718) hx hb dL_mesh_485 (by decide) (fun hc => ?_) (fun hc => ?_)
                    · have hF := k_if_f hF hc
                      exact (hG _ _ _).1 (blk_718 vc_482 vhf_482 vhl_482 vhs_482 vsf_378 vss_378 vpl_378 vpp_378 vra_378 vrk_378 vrt_378 vrn_378 vtl_482 vta_482 vtt_482 vtp_482 hF _ _ _ hP hD hS (lv_sub hl [] rfl))
                    · have hF := k_if_t hF hc
                      exact (hG _ _ _).1 (blk_488 vc_482 vhf_482 vhl_482 vhs_482 vsf_378 vss_378 vpl_378 vpp_378 vra_378 vrk_378 vrt_378 vrn_378 vtl_482 vta_482 vtt_482 vtp_482 hF _ _ _ hP hD hS (lv_sub hl [0] rfl))
    · have hF := k_if_t hF hc
      exact (hG _ _ _).1 (blk_384 vc_378 vhf_378 vhl_378 vhs_378 vsf_378 vss_378 vpl_378 vpp_378 vra_378 vrk_378 vrt_378 vrn_378 vtl_378 vta_378 vtt_378 vtp_378 hF _ _ _ hP hD hS (lv_sub hl [] rfl))
  have blk_279 : ∀ (vc : (Nat → Int32)) (vhf : Int32) (vhl : Int32) (vhs : (Nat → Int32)) (vsf : Int32) (vss : (Nat → Int32)) (vpl : Int32) (vpp : (Nat → Int32)) (vra : Int32) (vrk : Int32) (vrt : Int32) (vrn : (Nat → Int32)) (vtl : Int32) (vta : Int32) (vtt : Int32) (vtp : (Nat → Int32)), b_L_mesh_279 N vc vhf vhl vhs vsf vss vpl vpp vra vrk vrt vrn vtl vta vtt vtp = some 1 → ∀ (H : Heap) (locs : List Loc) (ls : Array Slot), va_P D vwCl [(aM, .inr (6, [.ref aS, .ref aH, .ref aL, .ref aP, .ref aR, .ref aT])), (aS, .inr (3, [.ref aC])), (aC, .inl (cyI, 225, .inl vc)), (aH, .inr (0, [.ref aHs, .int vhf, .int vhl])), (aHs, .inl (cyI, 1575, .inl vhs)), (aL, .inr (4, [.ref aLs, .int vsf])), (aLs, .inl (cyI, 450, .inl vss)), (aP, .inr (1, [.ref aPc, .int vpl])), (aPc, .inl (cyI, 80, .inl vpp)), (aR, .inr (2, [.ref aP, .ref aRn, .int vra, .int vrk, .int vrt])), (aRn, .inl (cyI, 40, .inl vrn)), (aT, .inr (5, [.ref aTp, .int vtl, .int vta, .int vtt])), (aTp, .inl (cyI, 552, .inl vtp))] H → va_D (fun q : Nat => s.heap.size ≤ q) [(aM, .inr (6, [.ref aS, .ref aH, .ref aL, .ref aP, .ref aR, .ref aT])), (aS, .inr (3, [.ref aC])), (aC, .inl (cyI, 225, .inl vc)), (aH, .inr (0, [.ref aHs, .int vhf, .int vhl])), (aHs, .inl (cyI, 1575, .inl vhs)), (aL, .inr (4, [.ref aLs, .int vsf])), (aLs, .inl (cyI, 450, .inl vss)), (aP, .inr (1, [.ref aPc, .int vpl])), (aPc, .inl (cyI, 80, .inl vpp)), (aR, .inr (2, [.ref aP, .ref aRn, .int vra, .int vrk, .int vrt])), (aRn, .inl (cyI, 40, .inl vrn)), (aT, .inr (5, [.ref aTp, .int vtl, .int vta, .int vtt])), (aTp, .inl (cyI, 552, .inl vtp))] → va_S (fun q : Nat => s.heap.size ≤ q) s.heap H locs → lv_has ls 1 [(0, .ref aM)] → G H locs (F0 m 279 ls []) := by
    intro vc vhf vhl vhs vsf vss vpl vpp vra vrk vrt vrn vtl vta vtt vtp hF H locs ls hP hD hS hl
    unfold b_L_mesh_279 at hF
    refine (hG _ _ _).2 ?_
    refine lv_aload_n hx hb dL_mesh_279 rfl (lv_at hl 0 rfl) ?_
    refine lv_iconst (v := (0 : Int32)) hx hb dL_mesh_280 (by decide) ?_
    refine lv_iconst (v := (1 : Int32)) hx hb dL_mesh_281 (by decide) ?_
    refine lv_iconst (v := (0 : Int32)) hx hb dL_mesh_282 (by decide) ?_
    refine lv_iconst (v := (1 : Int32)) hx hb dL_mesh_283 (by decide) ?_
    refine lv_iconst (v := (1 : Int32)) hx hb dL_mesh_284 (by decide) ?_
    obtain ⟨r285, vtl_285, vtp_285, hC, hF⟩ := k_c3_ex hF
    refine x_VM (As := [.int (0 : Int32), .int (1 : Int32), .int (0 : Int32), .int (1 : Int32), .int (1 : Int32)]) (rest := []) ⟨hx, hb, hml, hown, hts⟩ (c_X6_why l D cyI cyZ aM aS aC aH aL aP aR aT aTp H.size N (0 : Int32) (1 : Int32) (0 : Int32) (1 : Int32) (1 : Int32) vc vtl vta vtt vtp hC) (cwV 5 hts gL_mesh_X6_why rfl rfl rfl (by decide +kernel) ⟨Nat.le_of_ble_eq_true rfl, Nat.le_of_ble_eq_true rfl⟩) hK hP hD hS hA [0, 1, 2, 11, 12] rfl rfl rfl 0 rfl rfl rfl rfl hl.1 rfl (Nat.le_of_ble_eq_true rfl) ⟨Nat.le_of_ble_eq_true rfl, Nat.le_of_ble_eq_true rfl⟩ dL_mesh_285 (fun H locs hP hD hS => ?_)
    have hP : va_P D vwCl [(aM, .inr (6, [.ref aS, .ref aH, .ref aL, .ref aP, .ref aR, .ref aT])), (aS, .inr (3, [.ref aC])), (aC, .inl (cyI, 225, .inl vc)), (aH, .inr (0, [.ref aHs, .int vhf, .int vhl])), (aHs, .inl (cyI, 1575, .inl vhs)), (aL, .inr (4, [.ref aLs, .int vsf])), (aLs, .inl (cyI, 450, .inl vss)), (aP, .inr (1, [.ref aPc, .int vpl])), (aPc, .inl (cyI, 80, .inl vpp)), (aR, .inr (2, [.ref aP, .ref aRn, .int vra, .int vrk, .int vrt])), (aRn, .inl (cyI, 40, .inl vrn)), (aT, .inr (5, [.ref aTp, .int vtl_285, .int vta, .int vtt])), (aTp, .inl (cyI, 552, .inl vtp_285))] H := hP
    have hD : va_D (fun q : Nat => s.heap.size ≤ q) [(aM, .inr (6, [.ref aS, .ref aH, .ref aL, .ref aP, .ref aR, .ref aT])), (aS, .inr (3, [.ref aC])), (aC, .inl (cyI, 225, .inl vc)), (aH, .inr (0, [.ref aHs, .int vhf, .int vhl])), (aHs, .inl (cyI, 1575, .inl vhs)), (aL, .inr (4, [.ref aLs, .int vsf])), (aLs, .inl (cyI, 450, .inl vss)), (aP, .inr (1, [.ref aPc, .int vpl])), (aPc, .inl (cyI, 80, .inl vpp)), (aR, .inr (2, [.ref aP, .ref aRn, .int vra, .int vrk, .int vrt])), (aRn, .inl (cyI, 40, .inl vrn)), (aT, .inr (5, [.ref aTp, .int vtl_285, .int vta, .int vtt])), (aTp, .inl (cyI, 552, .inl vtp_285))] := hD
    refine lv_bipush (v := (-6 : Int32)) hx hb dL_mesh_288 (by decide) ?_
    refine lv_icmp_ne (tgt := 384) hx hb dL_mesh_290 (by decide) (fun hc => ?_) (fun hc => ?_)
    · have hF := k_if_f hF hc
      exact (hG _ _ _).1 (blk_384 vc vhf vhl vhs vsf vss vpl vpp vra vrk vrt vrn vtl_285 vta vtt vtp_285 hF _ _ _ hP hD hS (lv_sub hl [] rfl))
    · have hF := k_if_t hF hc
      refine lv_aload_n hx hb dL_mesh_293 rfl (lv_at hl 0 rfl) ?_
      refine lv_iconst (v := (0 : Int32)) hx hb dL_mesh_294 (by decide) ?_
      refine lv_iconst (v := (1 : Int32)) hx hb dL_mesh_295 (by decide) ?_
      refine lv_iconst (v := (0 : Int32)) hx hb dL_mesh_296 (by decide) ?_
      obtain ⟨r297, vtl_297, vtp_297, hC, hF⟩ := k_c3_ex hF
      refine x_VM (As := [.int (0 : Int32), .int (1 : Int32), .int (0 : Int32)]) (rest := []) ⟨hx, hb, hml, hown, hts⟩ (c_X6_leastGap l D cyI cyZ aM aS aC aH aL aP aR aT aTp H.size N (0 : Int32) (1 : Int32) (0 : Int32) vc vtl_285 vta vtt vtp_285 hC) (cwV 3 hts gL_mesh_X6_leastGap rfl rfl rfl (by decide +kernel) ⟨Nat.le_of_ble_eq_true rfl, Nat.le_of_ble_eq_true rfl⟩) hK hP hD hS hA [0, 1, 2, 11, 12] rfl rfl rfl 0 rfl rfl rfl rfl hl.1 rfl (Nat.le_of_ble_eq_true rfl) ⟨Nat.le_of_ble_eq_true rfl, Nat.le_of_ble_eq_true rfl⟩ dL_mesh_297 (fun H locs hP hD hS => ?_)
      have hP : va_P D vwCl [(aM, .inr (6, [.ref aS, .ref aH, .ref aL, .ref aP, .ref aR, .ref aT])), (aS, .inr (3, [.ref aC])), (aC, .inl (cyI, 225, .inl vc)), (aH, .inr (0, [.ref aHs, .int vhf, .int vhl])), (aHs, .inl (cyI, 1575, .inl vhs)), (aL, .inr (4, [.ref aLs, .int vsf])), (aLs, .inl (cyI, 450, .inl vss)), (aP, .inr (1, [.ref aPc, .int vpl])), (aPc, .inl (cyI, 80, .inl vpp)), (aR, .inr (2, [.ref aP, .ref aRn, .int vra, .int vrk, .int vrt])), (aRn, .inl (cyI, 40, .inl vrn)), (aT, .inr (5, [.ref aTp, .int vtl_297, .int vta, .int vtt])), (aTp, .inl (cyI, 552, .inl vtp_297))] H := hP
      have hD : va_D (fun q : Nat => s.heap.size ≤ q) [(aM, .inr (6, [.ref aS, .ref aH, .ref aL, .ref aP, .ref aR, .ref aT])), (aS, .inr (3, [.ref aC])), (aC, .inl (cyI, 225, .inl vc)), (aH, .inr (0, [.ref aHs, .int vhf, .int vhl])), (aHs, .inl (cyI, 1575, .inl vhs)), (aL, .inr (4, [.ref aLs, .int vsf])), (aLs, .inl (cyI, 450, .inl vss)), (aP, .inr (1, [.ref aPc, .int vpl])), (aPc, .inl (cyI, 80, .inl vpp)), (aR, .inr (2, [.ref aP, .ref aRn, .int vra, .int vrk, .int vrt])), (aRn, .inl (cyI, 40, .inl vrn)), (aT, .inr (5, [.ref aTp, .int vtl_297, .int vta, .int vtt])), (aTp, .inl (cyI, 552, .inl vtp_297))] := hD
      refine lv_iconst (v := (1 : Int32)) hx hb dL_mesh_300 (by decide) ?_
      refine lv_icmp_ne (tgt := 384) hx hb dL_mesh_301 (by decide) (fun hc => ?_) (fun hc => ?_)
      · have hF := k_if_f hF hc
        exact (hG _ _ _).1 (blk_384 vc vhf vhl vhs vsf vss vpl vpp vra vrk vrt vrn vtl_297 vta vtt vtp_297 hF _ _ _ hP hD hS (lv_sub hl [] rfl))
      · have hF := k_if_t hF hc
        refine lv_aload_n hx hb dL_mesh_304 rfl (lv_at hl 0 rfl) ?_
        refine lv_iconst (v := (0 : Int32)) hx hb dL_mesh_305 (by decide) ?_
        refine lv_iconst (v := (1 : Int32)) hx hb dL_mesh_306 (by decide) ?_
        refine lv_iconst (v := (1 : Int32)) hx hb dL_mesh_307 (by decide) ?_
        obtain ⟨r308, vtl_308, vtp_308, hC, hF⟩ := k_c3_ex hF
        refine x_VM (As := [.int (0 : Int32), .int (1 : Int32), .int (1 : Int32)]) (rest := []) ⟨hx, hb, hml, hown, hts⟩ (c_X6_leastGap l D cyI cyZ aM aS aC aH aL aP aR aT aTp H.size N (0 : Int32) (1 : Int32) (1 : Int32) vc vtl_297 vta vtt vtp_297 hC) (cwV 3 hts gL_mesh_X6_leastGap rfl rfl rfl (by decide +kernel) ⟨Nat.le_of_ble_eq_true rfl, Nat.le_of_ble_eq_true rfl⟩) hK hP hD hS hA [0, 1, 2, 11, 12] rfl rfl rfl 0 rfl rfl rfl rfl hl.1 rfl (Nat.le_of_ble_eq_true rfl) ⟨Nat.le_of_ble_eq_true rfl, Nat.le_of_ble_eq_true rfl⟩ dL_mesh_308 (fun H locs hP hD hS => ?_)
        have hP : va_P D vwCl [(aM, .inr (6, [.ref aS, .ref aH, .ref aL, .ref aP, .ref aR, .ref aT])), (aS, .inr (3, [.ref aC])), (aC, .inl (cyI, 225, .inl vc)), (aH, .inr (0, [.ref aHs, .int vhf, .int vhl])), (aHs, .inl (cyI, 1575, .inl vhs)), (aL, .inr (4, [.ref aLs, .int vsf])), (aLs, .inl (cyI, 450, .inl vss)), (aP, .inr (1, [.ref aPc, .int vpl])), (aPc, .inl (cyI, 80, .inl vpp)), (aR, .inr (2, [.ref aP, .ref aRn, .int vra, .int vrk, .int vrt])), (aRn, .inl (cyI, 40, .inl vrn)), (aT, .inr (5, [.ref aTp, .int vtl_308, .int vta, .int vtt])), (aTp, .inl (cyI, 552, .inl vtp_308))] H := hP
        have hD : va_D (fun q : Nat => s.heap.size ≤ q) [(aM, .inr (6, [.ref aS, .ref aH, .ref aL, .ref aP, .ref aR, .ref aT])), (aS, .inr (3, [.ref aC])), (aC, .inl (cyI, 225, .inl vc)), (aH, .inr (0, [.ref aHs, .int vhf, .int vhl])), (aHs, .inl (cyI, 1575, .inl vhs)), (aL, .inr (4, [.ref aLs, .int vsf])), (aLs, .inl (cyI, 450, .inl vss)), (aP, .inr (1, [.ref aPc, .int vpl])), (aPc, .inl (cyI, 80, .inl vpp)), (aR, .inr (2, [.ref aP, .ref aRn, .int vra, .int vrk, .int vrt])), (aRn, .inl (cyI, 40, .inl vrn)), (aT, .inr (5, [.ref aTp, .int vtl_308, .int vta, .int vtt])), (aTp, .inl (cyI, 552, .inl vtp_308))] := hD
        refine lv_iconst (v := (3 : Int32)) hx hb dL_mesh_311 (by decide) ?_
        refine lv_icmp_ne (tgt := 384) hx hb dL_mesh_312 (by decide) (fun hc => ?_) (fun hc => ?_)
        · have hF := k_if_f hF hc
          exact (hG _ _ _).1 (blk_384 vc vhf vhl vhs vsf vss vpl vpp vra vrk vrt vrn vtl_308 vta vtt vtp_308 hF _ _ _ hP hD hS (lv_sub hl [] rfl))
        · have hF := k_if_t hF hc
          refine lv_aload_n hx hb dL_mesh_315 rfl (lv_at hl 0 rfl) ?_
          refine lv_iconst (v := (0 : Int32)) hx hb dL_mesh_316 (by decide) ?_
          refine lv_iconst (v := (1 : Int32)) hx hb dL_mesh_317 (by decide) ?_
          refine lv_iconst (v := (1 : Int32)) hx hb dL_mesh_318 (by decide) ?_
          refine lv_iconst (v := (3 : Int32)) hx hb dL_mesh_319 (by decide) ?_
          refine lv_iconst (v := (1 : Int32)) hx hb dL_mesh_320 (by decide) ?_
          obtain ⟨r321, vtl_321, vtp_321, hC, hF⟩ := k_c3_ex hF
          refine x_VM (As := [.int (0 : Int32), .int (1 : Int32), .int (1 : Int32), .int (3 : Int32), .int (1 : Int32)]) (rest := []) ⟨hx, hb, hml, hown, hts⟩ (c_X6_pair l D cyI cyZ aM aS aC aH aL aP aR aT aTp H.size N (0 : Int32) (1 : Int32) (1 : Int32) (3 : Int32) (1 : Int32) vc vtl_308 vta vtt vtp_308 hC) (cwV 5 hts gL_mesh_X6_pair rfl rfl rfl (by decide +kernel) ⟨Nat.le_of_ble_eq_true rfl, Nat.le_of_ble_eq_true rfl⟩) hK hP hD hS hA [0, 1, 2, 11, 12] rfl rfl rfl 0 rfl rfl rfl rfl hl.1 rfl (Nat.le_of_ble_eq_true rfl) ⟨Nat.le_of_ble_eq_true rfl, Nat.le_of_ble_eq_true rfl⟩ dL_mesh_321 (fun H locs hP hD hS => ?_)
          have hP : va_P D vwCl [(aM, .inr (6, [.ref aS, .ref aH, .ref aL, .ref aP, .ref aR, .ref aT])), (aS, .inr (3, [.ref aC])), (aC, .inl (cyI, 225, .inl vc)), (aH, .inr (0, [.ref aHs, .int vhf, .int vhl])), (aHs, .inl (cyI, 1575, .inl vhs)), (aL, .inr (4, [.ref aLs, .int vsf])), (aLs, .inl (cyI, 450, .inl vss)), (aP, .inr (1, [.ref aPc, .int vpl])), (aPc, .inl (cyI, 80, .inl vpp)), (aR, .inr (2, [.ref aP, .ref aRn, .int vra, .int vrk, .int vrt])), (aRn, .inl (cyI, 40, .inl vrn)), (aT, .inr (5, [.ref aTp, .int vtl_321, .int vta, .int vtt])), (aTp, .inl (cyI, 552, .inl vtp_321))] H := hP
          have hD : va_D (fun q : Nat => s.heap.size ≤ q) [(aM, .inr (6, [.ref aS, .ref aH, .ref aL, .ref aP, .ref aR, .ref aT])), (aS, .inr (3, [.ref aC])), (aC, .inl (cyI, 225, .inl vc)), (aH, .inr (0, [.ref aHs, .int vhf, .int vhl])), (aHs, .inl (cyI, 1575, .inl vhs)), (aL, .inr (4, [.ref aLs, .int vsf])), (aLs, .inl (cyI, 450, .inl vss)), (aP, .inr (1, [.ref aPc, .int vpl])), (aPc, .inl (cyI, 80, .inl vpp)), (aR, .inr (2, [.ref aP, .ref aRn, .int vra, .int vrk, .int vrt])), (aRn, .inl (cyI, 40, .inl vrn)), (aT, .inr (5, [.ref aTp, .int vtl_321, .int vta, .int vtt])), (aTp, .inl (cyI, 552, .inl vtp_321))] := hD
          refine lv_bipush (v := (101 : Int32)) hx hb dL_mesh_324 (by decide) ?_
          refine lv_icmp_ne (tgt := 384) hx hb dL_mesh_326 (by decide) (fun hc => ?_) (fun hc => ?_)
          · have hF := k_if_f hF hc
            exact (hG _ _ _).1 (blk_384 vc vhf vhl vhs vsf vss vpl vpp vra vrk vrt vrn vtl_321 vta vtt vtp_321 hF _ _ _ hP hD hS (lv_sub hl [] rfl))
          · have hF := k_if_t hF hc
            refine lv_aload_n hx hb dL_mesh_329 rfl (lv_at hl 0 rfl) ?_
            refine lv_iconst (v := (0 : Int32)) hx hb dL_mesh_330 (by decide) ?_
            refine lv_iconst (v := (1 : Int32)) hx hb dL_mesh_331 (by decide) ?_
            refine lv_iconst (v := (1 : Int32)) hx hb dL_mesh_332 (by decide) ?_
            refine lv_iconst (v := (3 : Int32)) hx hb dL_mesh_333 (by decide) ?_
            refine lv_iconst (v := (2 : Int32)) hx hb dL_mesh_334 (by decide) ?_
            obtain ⟨r335, vtl_335, vtp_335, hC, hF⟩ := k_c3_ex hF
            refine x_VM (As := [.int (0 : Int32), .int (1 : Int32), .int (1 : Int32), .int (3 : Int32), .int (2 : Int32)]) (rest := []) ⟨hx, hb, hml, hown, hts⟩ (c_X6_pair l D cyI cyZ aM aS aC aH aL aP aR aT aTp H.size N (0 : Int32) (1 : Int32) (1 : Int32) (3 : Int32) (2 : Int32) vc vtl_321 vta vtt vtp_321 hC) (cwV 5 hts gL_mesh_X6_pair rfl rfl rfl (by decide +kernel) ⟨Nat.le_of_ble_eq_true rfl, Nat.le_of_ble_eq_true rfl⟩) hK hP hD hS hA [0, 1, 2, 11, 12] rfl rfl rfl 0 rfl rfl rfl rfl hl.1 rfl (Nat.le_of_ble_eq_true rfl) ⟨Nat.le_of_ble_eq_true rfl, Nat.le_of_ble_eq_true rfl⟩ dL_mesh_335 (fun H locs hP hD hS => ?_)
            have hP : va_P D vwCl [(aM, .inr (6, [.ref aS, .ref aH, .ref aL, .ref aP, .ref aR, .ref aT])), (aS, .inr (3, [.ref aC])), (aC, .inl (cyI, 225, .inl vc)), (aH, .inr (0, [.ref aHs, .int vhf, .int vhl])), (aHs, .inl (cyI, 1575, .inl vhs)), (aL, .inr (4, [.ref aLs, .int vsf])), (aLs, .inl (cyI, 450, .inl vss)), (aP, .inr (1, [.ref aPc, .int vpl])), (aPc, .inl (cyI, 80, .inl vpp)), (aR, .inr (2, [.ref aP, .ref aRn, .int vra, .int vrk, .int vrt])), (aRn, .inl (cyI, 40, .inl vrn)), (aT, .inr (5, [.ref aTp, .int vtl_335, .int vta, .int vtt])), (aTp, .inl (cyI, 552, .inl vtp_335))] H := hP
            have hD : va_D (fun q : Nat => s.heap.size ≤ q) [(aM, .inr (6, [.ref aS, .ref aH, .ref aL, .ref aP, .ref aR, .ref aT])), (aS, .inr (3, [.ref aC])), (aC, .inl (cyI, 225, .inl vc)), (aH, .inr (0, [.ref aHs, .int vhf, .int vhl])), (aHs, .inl (cyI, 1575, .inl vhs)), (aL, .inr (4, [.ref aLs, .int vsf])), (aLs, .inl (cyI, 450, .inl vss)), (aP, .inr (1, [.ref aPc, .int vpl])), (aPc, .inl (cyI, 80, .inl vpp)), (aR, .inr (2, [.ref aP, .ref aRn, .int vra, .int vrk, .int vrt])), (aRn, .inl (cyI, 40, .inl vrn)), (aT, .inr (5, [.ref aTp, .int vtl_335, .int vta, .int vtt])), (aTp, .inl (cyI, 552, .inl vtp_335))] := hD
            refine lv_bipush (v := (105 : Int32)) hx hb dL_mesh_338 (by decide) ?_
            refine lv_icmp_ne (tgt := 384) hx hb dL_mesh_340 (by decide) (fun hc => ?_) (fun hc => ?_)
            · have hF := k_if_f hF hc
              exact (hG _ _ _).1 (blk_384 vc vhf vhl vhs vsf vss vpl vpp vra vrk vrt vrn vtl_335 vta vtt vtp_335 hF _ _ _ hP hD hS (lv_sub hl [] rfl))
            · have hF := k_if_t hF hc
              refine lv_aload_n hx hb dL_mesh_343 rfl (lv_at hl 0 rfl) ?_
              refine lv_iconst (v := (0 : Int32)) hx hb dL_mesh_344 (by decide) ?_
              refine lv_iconst (v := (1 : Int32)) hx hb dL_mesh_345 (by decide) ?_
              refine lv_iconst (v := (0 : Int32)) hx hb dL_mesh_346 (by decide) ?_
              obtain ⟨r347, vtl_347, vtp_347, hC, hF⟩ := k_c3_ex hF
              refine x_VM (As := [.int (0 : Int32), .int (1 : Int32), .int (0 : Int32)]) (rest := []) ⟨hx, hb, hml, hown, hts⟩ (c_X6_bestOffset l D cyI cyZ aM aS aC aH aL aP aR aT aTp H.size N (0 : Int32) (1 : Int32) (0 : Int32) vc vtl_335 vta vtt vtp_335 hC) (cwV 3 hts gL_mesh_X6_bestOffset rfl rfl rfl (by decide +kernel) ⟨Nat.le_of_ble_eq_true rfl, Nat.le_of_ble_eq_true rfl⟩) hK hP hD hS hA [0, 1, 2, 11, 12] rfl rfl rfl 0 rfl rfl rfl rfl hl.1 rfl (Nat.le_of_ble_eq_true rfl) ⟨Nat.le_of_ble_eq_true rfl, Nat.le_of_ble_eq_true rfl⟩ dL_mesh_347 (fun H locs hP hD hS => ?_)
              have hP : va_P D vwCl [(aM, .inr (6, [.ref aS, .ref aH, .ref aL, .ref aP, .ref aR, .ref aT])), (aS, .inr (3, [.ref aC])), (aC, .inl (cyI, 225, .inl vc)), (aH, .inr (0, [.ref aHs, .int vhf, .int vhl])), (aHs, .inl (cyI, 1575, .inl vhs)), (aL, .inr (4, [.ref aLs, .int vsf])), (aLs, .inl (cyI, 450, .inl vss)), (aP, .inr (1, [.ref aPc, .int vpl])), (aPc, .inl (cyI, 80, .inl vpp)), (aR, .inr (2, [.ref aP, .ref aRn, .int vra, .int vrk, .int vrt])), (aRn, .inl (cyI, 40, .inl vrn)), (aT, .inr (5, [.ref aTp, .int vtl_347, .int vta, .int vtt])), (aTp, .inl (cyI, 552, .inl vtp_347))] H := hP
              have hD : va_D (fun q : Nat => s.heap.size ≤ q) [(aM, .inr (6, [.ref aS, .ref aH, .ref aL, .ref aP, .ref aR, .ref aT])), (aS, .inr (3, [.ref aC])), (aC, .inl (cyI, 225, .inl vc)), (aH, .inr (0, [.ref aHs, .int vhf, .int vhl])), (aHs, .inl (cyI, 1575, .inl vhs)), (aL, .inr (4, [.ref aLs, .int vsf])), (aLs, .inl (cyI, 450, .inl vss)), (aP, .inr (1, [.ref aPc, .int vpl])), (aPc, .inl (cyI, 80, .inl vpp)), (aR, .inr (2, [.ref aP, .ref aRn, .int vra, .int vrk, .int vrt])), (aRn, .inl (cyI, 40, .inl vrn)), (aT, .inr (5, [.ref aTp, .int vtl_347, .int vta, .int vtt])), (aTp, .inl (cyI, 552, .inl vtp_347))] := hD
              refine lv_if_ne (tgt := 384) hx hb dL_mesh_350 (by decide) (fun hc => ?_) (fun hc => ?_)
              · have hF := k_if_f hF hc
                exact (hG _ _ _).1 (blk_384 vc vhf vhl vhs vsf vss vpl vpp vra vrk vrt vrn vtl_347 vta vtt vtp_347 hF _ _ _ hP hD hS (lv_sub hl [] rfl))
              · have hF := k_if_t hF hc
                refine lv_aload_n hx hb dL_mesh_353 rfl (lv_at hl 0 rfl) ?_
                refine lv_iconst (v := (0 : Int32)) hx hb dL_mesh_354 (by decide) ?_
                refine lv_iconst (v := (1 : Int32)) hx hb dL_mesh_355 (by decide) ?_
                refine lv_iconst (v := (1 : Int32)) hx hb dL_mesh_356 (by decide) ?_
                obtain ⟨r357, vtl_357, vtp_357, hC, hF⟩ := k_c3_ex hF
                refine x_VM (As := [.int (0 : Int32), .int (1 : Int32), .int (1 : Int32)]) (rest := []) ⟨hx, hb, hml, hown, hts⟩ (c_X6_bestOffset l D cyI cyZ aM aS aC aH aL aP aR aT aTp H.size N (0 : Int32) (1 : Int32) (1 : Int32) vc vtl_347 vta vtt vtp_347 hC) (cwV 3 hts gL_mesh_X6_bestOffset rfl rfl rfl (by decide +kernel) ⟨Nat.le_of_ble_eq_true rfl, Nat.le_of_ble_eq_true rfl⟩) hK hP hD hS hA [0, 1, 2, 11, 12] rfl rfl rfl 0 rfl rfl rfl rfl hl.1 rfl (Nat.le_of_ble_eq_true rfl) ⟨Nat.le_of_ble_eq_true rfl, Nat.le_of_ble_eq_true rfl⟩ dL_mesh_357 (fun H locs hP hD hS => ?_)
                have hP : va_P D vwCl [(aM, .inr (6, [.ref aS, .ref aH, .ref aL, .ref aP, .ref aR, .ref aT])), (aS, .inr (3, [.ref aC])), (aC, .inl (cyI, 225, .inl vc)), (aH, .inr (0, [.ref aHs, .int vhf, .int vhl])), (aHs, .inl (cyI, 1575, .inl vhs)), (aL, .inr (4, [.ref aLs, .int vsf])), (aLs, .inl (cyI, 450, .inl vss)), (aP, .inr (1, [.ref aPc, .int vpl])), (aPc, .inl (cyI, 80, .inl vpp)), (aR, .inr (2, [.ref aP, .ref aRn, .int vra, .int vrk, .int vrt])), (aRn, .inl (cyI, 40, .inl vrn)), (aT, .inr (5, [.ref aTp, .int vtl_357, .int vta, .int vtt])), (aTp, .inl (cyI, 552, .inl vtp_357))] H := hP
                have hD : va_D (fun q : Nat => s.heap.size ≤ q) [(aM, .inr (6, [.ref aS, .ref aH, .ref aL, .ref aP, .ref aR, .ref aT])), (aS, .inr (3, [.ref aC])), (aC, .inl (cyI, 225, .inl vc)), (aH, .inr (0, [.ref aHs, .int vhf, .int vhl])), (aHs, .inl (cyI, 1575, .inl vhs)), (aL, .inr (4, [.ref aLs, .int vsf])), (aLs, .inl (cyI, 450, .inl vss)), (aP, .inr (1, [.ref aPc, .int vpl])), (aPc, .inl (cyI, 80, .inl vpp)), (aR, .inr (2, [.ref aP, .ref aRn, .int vra, .int vrk, .int vrt])), (aRn, .inl (cyI, 40, .inl vrn)), (aT, .inr (5, [.ref aTp, .int vtl_357, .int vta, .int vtt])), (aTp, .inl (cyI, 552, .inl vtp_357))] := hD
                refine lv_iconst (v := (1 : Int32)) hx hb dL_mesh_360 (by decide) ?_
                refine lv_icmp_ne (tgt := 384) hx hb dL_mesh_361 (by decide) (fun hc => ?_) (fun hc => ?_)
                · have hF := k_if_f hF hc
                  exact (hG _ _ _).1 (blk_384 vc vhf vhl vhs vsf vss vpl vpp vra vrk vrt vrn vtl_357 vta vtt vtp_357 hF _ _ _ hP hD hS (lv_sub hl [] rfl))
                · have hF := k_if_t hF hc
                  refine lv_aload_n hx hb dL_mesh_364 rfl (lv_at hl 0 rfl) ?_
                  refine lv_iconst (v := (0 : Int32)) hx hb dL_mesh_365 (by decide) ?_
                  refine lv_iconst (v := (1 : Int32)) hx hb dL_mesh_366 (by decide) ?_
                  refine lv_iconst (v := (0 : Int32)) hx hb dL_mesh_367 (by decide) ?_
                  refine lv_iconst (v := (1 : Int32)) hx hb dL_mesh_368 (by decide) ?_
                  obtain ⟨r369, vtl_369, vta_369, vtt_369, vtp_369, hC, hF⟩ := k_c5_ex hF
                  refine x_VM (As := [.int (0 : Int32), .int (1 : Int32), .int (0 : Int32), .int (1 : Int32)]) (rest := []) ⟨hx, hb, hml, hown, hts⟩ (c_X6_thickest l D cyI cyZ aM aS aC aH aL aP aR aT aTp H.size N (0 : Int32) (1 : Int32) (0 : Int32) (1 : Int32) vc vtl_357 vta vtt vtp_357 hC) (cwV 4 hts gL_mesh_X6_thickest rfl rfl rfl (by decide +kernel) ⟨Nat.le_of_ble_eq_true rfl, Nat.le_of_ble_eq_true rfl⟩) hK hP hD hS hA [0, 1, 2, 11, 12] rfl rfl rfl 0 rfl rfl rfl rfl hl.1 rfl (Nat.le_of_ble_eq_true rfl) ⟨Nat.le_of_ble_eq_true rfl, Nat.le_of_ble_eq_true rfl⟩ dL_mesh_369 (fun H locs hP hD hS => ?_)
                  have hP : va_P D vwCl [(aM, .inr (6, [.ref aS, .ref aH, .ref aL, .ref aP, .ref aR, .ref aT])), (aS, .inr (3, [.ref aC])), (aC, .inl (cyI, 225, .inl vc)), (aH, .inr (0, [.ref aHs, .int vhf, .int vhl])), (aHs, .inl (cyI, 1575, .inl vhs)), (aL, .inr (4, [.ref aLs, .int vsf])), (aLs, .inl (cyI, 450, .inl vss)), (aP, .inr (1, [.ref aPc, .int vpl])), (aPc, .inl (cyI, 80, .inl vpp)), (aR, .inr (2, [.ref aP, .ref aRn, .int vra, .int vrk, .int vrt])), (aRn, .inl (cyI, 40, .inl vrn)), (aT, .inr (5, [.ref aTp, .int vtl_369, .int vta_369, .int vtt_369])), (aTp, .inl (cyI, 552, .inl vtp_369))] H := hP
                  have hD : va_D (fun q : Nat => s.heap.size ≤ q) [(aM, .inr (6, [.ref aS, .ref aH, .ref aL, .ref aP, .ref aR, .ref aT])), (aS, .inr (3, [.ref aC])), (aC, .inl (cyI, 225, .inl vc)), (aH, .inr (0, [.ref aHs, .int vhf, .int vhl])), (aHs, .inl (cyI, 1575, .inl vhs)), (aL, .inr (4, [.ref aLs, .int vsf])), (aLs, .inl (cyI, 450, .inl vss)), (aP, .inr (1, [.ref aPc, .int vpl])), (aPc, .inl (cyI, 80, .inl vpp)), (aR, .inr (2, [.ref aP, .ref aRn, .int vra, .int vrk, .int vrt])), (aRn, .inl (cyI, 40, .inl vrn)), (aT, .inr (5, [.ref aTp, .int vtl_369, .int vta_369, .int vtt_369])), (aTp, .inl (cyI, 552, .inl vtp_369))] := hD
                  refine lv_bipush (v := (6 : Int32)) hx hb dL_mesh_372 (by decide) ?_
                  refine lv_icmp_ne (tgt := 384) hx hb dL_mesh_374 (by decide) (fun hc => ?_) (fun hc => ?_)
                  · have hF := k_if_f hF hc
                    exact (hG _ _ _).1 (blk_384 vc vhf vhl vhs vsf vss vpl vpp vra vrk vrt vrn vtl_369 vta_369 vtt_369 vtp_369 hF _ _ _ hP hD hS (lv_sub hl [] rfl))
                  · have hF := k_if_t hF hc
                    exact (hG _ _ _).1 (blk_377 vc vhf vhl vhs vsf vss vpl vpp vra vrk vrt vrn vtl_369 vta_369 vtt_369 vtp_369 hF _ _ _ hP hD hS (lv_sub hl [0] rfl))
  have blk_176 : ∀ (vc : (Nat → Int32)) (vhf : Int32) (vhl : Int32) (vhs : (Nat → Int32)) (vsf : Int32) (vss : (Nat → Int32)) (vpl : Int32) (vpp : (Nat → Int32)) (vra : Int32) (vrk : Int32) (vrt : Int32) (vrn : (Nat → Int32)) (vtl : Int32) (vta : Int32) (vtt : Int32) (vtp : (Nat → Int32)), b_L_mesh_176 N vc vhf vhl vhs vsf vss vpl vpp vra vrk vrt vrn vtl vta vtt vtp = some 1 → ∀ (H : Heap) (locs : List Loc) (ls : Array Slot), va_P D vwCl [(aM, .inr (6, [.ref aS, .ref aH, .ref aL, .ref aP, .ref aR, .ref aT])), (aS, .inr (3, [.ref aC])), (aC, .inl (cyI, 225, .inl vc)), (aH, .inr (0, [.ref aHs, .int vhf, .int vhl])), (aHs, .inl (cyI, 1575, .inl vhs)), (aL, .inr (4, [.ref aLs, .int vsf])), (aLs, .inl (cyI, 450, .inl vss)), (aP, .inr (1, [.ref aPc, .int vpl])), (aPc, .inl (cyI, 80, .inl vpp)), (aR, .inr (2, [.ref aP, .ref aRn, .int vra, .int vrk, .int vrt])), (aRn, .inl (cyI, 40, .inl vrn)), (aT, .inr (5, [.ref aTp, .int vtl, .int vta, .int vtt])), (aTp, .inl (cyI, 552, .inl vtp))] H → va_D (fun q : Nat => s.heap.size ≤ q) [(aM, .inr (6, [.ref aS, .ref aH, .ref aL, .ref aP, .ref aR, .ref aT])), (aS, .inr (3, [.ref aC])), (aC, .inl (cyI, 225, .inl vc)), (aH, .inr (0, [.ref aHs, .int vhf, .int vhl])), (aHs, .inl (cyI, 1575, .inl vhs)), (aL, .inr (4, [.ref aLs, .int vsf])), (aLs, .inl (cyI, 450, .inl vss)), (aP, .inr (1, [.ref aPc, .int vpl])), (aPc, .inl (cyI, 80, .inl vpp)), (aR, .inr (2, [.ref aP, .ref aRn, .int vra, .int vrk, .int vrt])), (aRn, .inl (cyI, 40, .inl vrn)), (aT, .inr (5, [.ref aTp, .int vtl, .int vta, .int vtt])), (aTp, .inl (cyI, 552, .inl vtp))] → va_S (fun q : Nat => s.heap.size ≤ q) s.heap H locs → lv_has ls 1 [(0, .ref aM)] → G H locs (F0 m 176 ls []) := by
    intro vc vhf vhl vhs vsf vss vpl vpp vra vrk vrt vrn vtl vta vtt vtp hF H locs ls hP hD hS hl
    unfold b_L_mesh_176 at hF
    refine (hG _ _ _).2 ?_
    refine lv_aload_n hx hb dL_mesh_176 rfl (lv_at hl 0 rfl) ?_
    refine lv_iconst (v := (0 : Int32)) hx hb dL_mesh_177 (by decide) ?_
    refine lv_iconst (v := (1 : Int32)) hx hb dL_mesh_178 (by decide) ?_
    refine lv_iconst (v := (0 : Int32)) hx hb dL_mesh_179 (by decide) ?_
    refine lv_iconst (v := (1 : Int32)) hx hb dL_mesh_180 (by decide) ?_
    refine lv_iconst (v := (0 : Int32)) hx hb dL_mesh_181 (by decide) ?_
    obtain ⟨r182, vtl_182, vtp_182, hC, hF⟩ := k_c3_ex hF
    refine x_VM (As := [.int (0 : Int32), .int (1 : Int32), .int (0 : Int32), .int (1 : Int32), .int (0 : Int32)]) (rest := []) ⟨hx, hb, hml, hown, hts⟩ (c_X6_pair l D cyI cyZ aM aS aC aH aL aP aR aT aTp H.size N (0 : Int32) (1 : Int32) (0 : Int32) (1 : Int32) (0 : Int32) vc vtl vta vtt vtp hC) (cwV 5 hts gL_mesh_X6_pair rfl rfl rfl (by decide +kernel) ⟨Nat.le_of_ble_eq_true rfl, Nat.le_of_ble_eq_true rfl⟩) hK hP hD hS hA [0, 1, 2, 11, 12] rfl rfl rfl 0 rfl rfl rfl rfl hl.1 rfl (Nat.le_of_ble_eq_true rfl) ⟨Nat.le_of_ble_eq_true rfl, Nat.le_of_ble_eq_true rfl⟩ dL_mesh_182 (fun H locs hP hD hS => ?_)
    have hP : va_P D vwCl [(aM, .inr (6, [.ref aS, .ref aH, .ref aL, .ref aP, .ref aR, .ref aT])), (aS, .inr (3, [.ref aC])), (aC, .inl (cyI, 225, .inl vc)), (aH, .inr (0, [.ref aHs, .int vhf, .int vhl])), (aHs, .inl (cyI, 1575, .inl vhs)), (aL, .inr (4, [.ref aLs, .int vsf])), (aLs, .inl (cyI, 450, .inl vss)), (aP, .inr (1, [.ref aPc, .int vpl])), (aPc, .inl (cyI, 80, .inl vpp)), (aR, .inr (2, [.ref aP, .ref aRn, .int vra, .int vrk, .int vrt])), (aRn, .inl (cyI, 40, .inl vrn)), (aT, .inr (5, [.ref aTp, .int vtl_182, .int vta, .int vtt])), (aTp, .inl (cyI, 552, .inl vtp_182))] H := hP
    have hD : va_D (fun q : Nat => s.heap.size ≤ q) [(aM, .inr (6, [.ref aS, .ref aH, .ref aL, .ref aP, .ref aR, .ref aT])), (aS, .inr (3, [.ref aC])), (aC, .inl (cyI, 225, .inl vc)), (aH, .inr (0, [.ref aHs, .int vhf, .int vhl])), (aHs, .inl (cyI, 1575, .inl vhs)), (aL, .inr (4, [.ref aLs, .int vsf])), (aLs, .inl (cyI, 450, .inl vss)), (aP, .inr (1, [.ref aPc, .int vpl])), (aPc, .inl (cyI, 80, .inl vpp)), (aR, .inr (2, [.ref aP, .ref aRn, .int vra, .int vrk, .int vrt])), (aRn, .inl (cyI, 40, .inl vrn)), (aT, .inr (5, [.ref aTp, .int vtl_182, .int vta, .int vtt])), (aTp, .inl (cyI, 552, .inl vtp_182))] := hD
    refine lv_iconst (v := (4 : Int32)) hx hb dL_mesh_185 (by decide) ?_
    refine lv_icmp_ne (tgt := 384) hx hb dL_mesh_186 (by decide) (fun hc => ?_) (fun hc => ?_)
    · have hF := k_if_f hF hc
      exact (hG _ _ _).1 (blk_384 vc vhf vhl vhs vsf vss vpl vpp vra vrk vrt vrn vtl_182 vta vtt vtp_182 hF _ _ _ hP hD hS (lv_sub hl [] rfl))
    · have hF := k_if_t hF hc
      refine lv_aload_n hx hb dL_mesh_189 rfl (lv_at hl 0 rfl) ?_
      refine lv_iconst (v := (0 : Int32)) hx hb dL_mesh_190 (by decide) ?_
      refine lv_iconst (v := (1 : Int32)) hx hb dL_mesh_191 (by decide) ?_
      refine lv_iconst (v := (0 : Int32)) hx hb dL_mesh_192 (by decide) ?_
      refine lv_iconst (v := (1 : Int32)) hx hb dL_mesh_193 (by decide) ?_
      refine lv_iconst (v := (1 : Int32)) hx hb dL_mesh_194 (by decide) ?_
      obtain ⟨r195, vtl_195, vtp_195, hC, hF⟩ := k_c3_ex hF
      refine x_VM (As := [.int (0 : Int32), .int (1 : Int32), .int (0 : Int32), .int (1 : Int32), .int (1 : Int32)]) (rest := []) ⟨hx, hb, hml, hown, hts⟩ (c_X6_pair l D cyI cyZ aM aS aC aH aL aP aR aT aTp H.size N (0 : Int32) (1 : Int32) (0 : Int32) (1 : Int32) (1 : Int32) vc vtl_182 vta vtt vtp_182 hC) (cwV 5 hts gL_mesh_X6_pair rfl rfl rfl (by decide +kernel) ⟨Nat.le_of_ble_eq_true rfl, Nat.le_of_ble_eq_true rfl⟩) hK hP hD hS hA [0, 1, 2, 11, 12] rfl rfl rfl 0 rfl rfl rfl rfl hl.1 rfl (Nat.le_of_ble_eq_true rfl) ⟨Nat.le_of_ble_eq_true rfl, Nat.le_of_ble_eq_true rfl⟩ dL_mesh_195 (fun H locs hP hD hS => ?_)
      have hP : va_P D vwCl [(aM, .inr (6, [.ref aS, .ref aH, .ref aL, .ref aP, .ref aR, .ref aT])), (aS, .inr (3, [.ref aC])), (aC, .inl (cyI, 225, .inl vc)), (aH, .inr (0, [.ref aHs, .int vhf, .int vhl])), (aHs, .inl (cyI, 1575, .inl vhs)), (aL, .inr (4, [.ref aLs, .int vsf])), (aLs, .inl (cyI, 450, .inl vss)), (aP, .inr (1, [.ref aPc, .int vpl])), (aPc, .inl (cyI, 80, .inl vpp)), (aR, .inr (2, [.ref aP, .ref aRn, .int vra, .int vrk, .int vrt])), (aRn, .inl (cyI, 40, .inl vrn)), (aT, .inr (5, [.ref aTp, .int vtl_195, .int vta, .int vtt])), (aTp, .inl (cyI, 552, .inl vtp_195))] H := hP
      have hD : va_D (fun q : Nat => s.heap.size ≤ q) [(aM, .inr (6, [.ref aS, .ref aH, .ref aL, .ref aP, .ref aR, .ref aT])), (aS, .inr (3, [.ref aC])), (aC, .inl (cyI, 225, .inl vc)), (aH, .inr (0, [.ref aHs, .int vhf, .int vhl])), (aHs, .inl (cyI, 1575, .inl vhs)), (aL, .inr (4, [.ref aLs, .int vsf])), (aLs, .inl (cyI, 450, .inl vss)), (aP, .inr (1, [.ref aPc, .int vpl])), (aPc, .inl (cyI, 80, .inl vpp)), (aR, .inr (2, [.ref aP, .ref aRn, .int vra, .int vrk, .int vrt])), (aRn, .inl (cyI, 40, .inl vrn)), (aT, .inr (5, [.ref aTp, .int vtl_195, .int vta, .int vtt])), (aTp, .inl (cyI, 552, .inl vtp_195))] := hD
      refine lv_bipush (v := (101 : Int32)) hx hb dL_mesh_198 (by decide) ?_
      refine lv_icmp_ne (tgt := 384) hx hb dL_mesh_200 (by decide) (fun hc => ?_) (fun hc => ?_)
      · have hF := k_if_f hF hc
        exact (hG _ _ _).1 (blk_384 vc vhf vhl vhs vsf vss vpl vpp vra vrk vrt vrn vtl_195 vta vtt vtp_195 hF _ _ _ hP hD hS (lv_sub hl [] rfl))
      · have hF := k_if_t hF hc
        refine lv_aload_n hx hb dL_mesh_203 rfl (lv_at hl 0 rfl) ?_
        refine lv_iconst (v := (0 : Int32)) hx hb dL_mesh_204 (by decide) ?_
        refine lv_iconst (v := (1 : Int32)) hx hb dL_mesh_205 (by decide) ?_
        refine lv_iconst (v := (0 : Int32)) hx hb dL_mesh_206 (by decide) ?_
        refine lv_iconst (v := (1 : Int32)) hx hb dL_mesh_207 (by decide) ?_
        refine lv_iconst (v := (2 : Int32)) hx hb dL_mesh_208 (by decide) ?_
        obtain ⟨r209, vtl_209, vtp_209, hC, hF⟩ := k_c3_ex hF
        refine x_VM (As := [.int (0 : Int32), .int (1 : Int32), .int (0 : Int32), .int (1 : Int32), .int (2 : Int32)]) (rest := []) ⟨hx, hb, hml, hown, hts⟩ (c_X6_pair l D cyI cyZ aM aS aC aH aL aP aR aT aTp H.size N (0 : Int32) (1 : Int32) (0 : Int32) (1 : Int32) (2 : Int32) vc vtl_195 vta vtt vtp_195 hC) (cwV 5 hts gL_mesh_X6_pair rfl rfl rfl (by decide +kernel) ⟨Nat.le_of_ble_eq_true rfl, Nat.le_of_ble_eq_true rfl⟩) hK hP hD hS hA [0, 1, 2, 11, 12] rfl rfl rfl 0 rfl rfl rfl rfl hl.1 rfl (Nat.le_of_ble_eq_true rfl) ⟨Nat.le_of_ble_eq_true rfl, Nat.le_of_ble_eq_true rfl⟩ dL_mesh_209 (fun H locs hP hD hS => ?_)
        have hP : va_P D vwCl [(aM, .inr (6, [.ref aS, .ref aH, .ref aL, .ref aP, .ref aR, .ref aT])), (aS, .inr (3, [.ref aC])), (aC, .inl (cyI, 225, .inl vc)), (aH, .inr (0, [.ref aHs, .int vhf, .int vhl])), (aHs, .inl (cyI, 1575, .inl vhs)), (aL, .inr (4, [.ref aLs, .int vsf])), (aLs, .inl (cyI, 450, .inl vss)), (aP, .inr (1, [.ref aPc, .int vpl])), (aPc, .inl (cyI, 80, .inl vpp)), (aR, .inr (2, [.ref aP, .ref aRn, .int vra, .int vrk, .int vrt])), (aRn, .inl (cyI, 40, .inl vrn)), (aT, .inr (5, [.ref aTp, .int vtl_209, .int vta, .int vtt])), (aTp, .inl (cyI, 552, .inl vtp_209))] H := hP
        have hD : va_D (fun q : Nat => s.heap.size ≤ q) [(aM, .inr (6, [.ref aS, .ref aH, .ref aL, .ref aP, .ref aR, .ref aT])), (aS, .inr (3, [.ref aC])), (aC, .inl (cyI, 225, .inl vc)), (aH, .inr (0, [.ref aHs, .int vhf, .int vhl])), (aHs, .inl (cyI, 1575, .inl vhs)), (aL, .inr (4, [.ref aLs, .int vsf])), (aLs, .inl (cyI, 450, .inl vss)), (aP, .inr (1, [.ref aPc, .int vpl])), (aPc, .inl (cyI, 80, .inl vpp)), (aR, .inr (2, [.ref aP, .ref aRn, .int vra, .int vrk, .int vrt])), (aRn, .inl (cyI, 40, .inl vrn)), (aT, .inr (5, [.ref aTp, .int vtl_209, .int vta, .int vtt])), (aTp, .inl (cyI, 552, .inl vtp_209))] := hD
        refine lv_bipush (v := (101 : Int32)) hx hb dL_mesh_212 (by decide) ?_
        refine lv_icmp_ne (tgt := 384) hx hb dL_mesh_214 (by decide) (fun hc => ?_) (fun hc => ?_)
        · have hF := k_if_f hF hc
          exact (hG _ _ _).1 (blk_384 vc vhf vhl vhs vsf vss vpl vpp vra vrk vrt vrn vtl_209 vta vtt vtp_209 hF _ _ _ hP hD hS (lv_sub hl [] rfl))
        · have hF := k_if_t hF hc
          refine lv_aload_n hx hb dL_mesh_217 rfl (lv_at hl 0 rfl) ?_
          refine lv_iconst (v := (0 : Int32)) hx hb dL_mesh_218 (by decide) ?_
          refine lv_iconst (v := (1 : Int32)) hx hb dL_mesh_219 (by decide) ?_
          refine lv_iconst (v := (0 : Int32)) hx hb dL_mesh_220 (by decide) ?_
          refine lv_iconst (v := (1 : Int32)) hx hb dL_mesh_221 (by decide) ?_
          refine lv_iconst (v := (3 : Int32)) hx hb dL_mesh_222 (by decide) ?_
          obtain ⟨r223, vtl_223, vtp_223, hC, hF⟩ := k_c3_ex hF
          refine x_VM (As := [.int (0 : Int32), .int (1 : Int32), .int (0 : Int32), .int (1 : Int32), .int (3 : Int32)]) (rest := []) ⟨hx, hb, hml, hown, hts⟩ (c_X6_pair l D cyI cyZ aM aS aC aH aL aP aR aT aTp H.size N (0 : Int32) (1 : Int32) (0 : Int32) (1 : Int32) (3 : Int32) vc vtl_209 vta vtt vtp_209 hC) (cwV 5 hts gL_mesh_X6_pair rfl rfl rfl (by decide +kernel) ⟨Nat.le_of_ble_eq_true rfl, Nat.le_of_ble_eq_true rfl⟩) hK hP hD hS hA [0, 1, 2, 11, 12] rfl rfl rfl 0 rfl rfl rfl rfl hl.1 rfl (Nat.le_of_ble_eq_true rfl) ⟨Nat.le_of_ble_eq_true rfl, Nat.le_of_ble_eq_true rfl⟩ dL_mesh_223 (fun H locs hP hD hS => ?_)
          have hP : va_P D vwCl [(aM, .inr (6, [.ref aS, .ref aH, .ref aL, .ref aP, .ref aR, .ref aT])), (aS, .inr (3, [.ref aC])), (aC, .inl (cyI, 225, .inl vc)), (aH, .inr (0, [.ref aHs, .int vhf, .int vhl])), (aHs, .inl (cyI, 1575, .inl vhs)), (aL, .inr (4, [.ref aLs, .int vsf])), (aLs, .inl (cyI, 450, .inl vss)), (aP, .inr (1, [.ref aPc, .int vpl])), (aPc, .inl (cyI, 80, .inl vpp)), (aR, .inr (2, [.ref aP, .ref aRn, .int vra, .int vrk, .int vrt])), (aRn, .inl (cyI, 40, .inl vrn)), (aT, .inr (5, [.ref aTp, .int vtl_223, .int vta, .int vtt])), (aTp, .inl (cyI, 552, .inl vtp_223))] H := hP
          have hD : va_D (fun q : Nat => s.heap.size ≤ q) [(aM, .inr (6, [.ref aS, .ref aH, .ref aL, .ref aP, .ref aR, .ref aT])), (aS, .inr (3, [.ref aC])), (aC, .inl (cyI, 225, .inl vc)), (aH, .inr (0, [.ref aHs, .int vhf, .int vhl])), (aHs, .inl (cyI, 1575, .inl vhs)), (aL, .inr (4, [.ref aLs, .int vsf])), (aLs, .inl (cyI, 450, .inl vss)), (aP, .inr (1, [.ref aPc, .int vpl])), (aPc, .inl (cyI, 80, .inl vpp)), (aR, .inr (2, [.ref aP, .ref aRn, .int vra, .int vrk, .int vrt])), (aRn, .inl (cyI, 40, .inl vrn)), (aT, .inr (5, [.ref aTp, .int vtl_223, .int vta, .int vtt])), (aTp, .inl (cyI, 552, .inl vtp_223))] := hD
          refine lv_iconst (v := (1 : Int32)) hx hb dL_mesh_226 (by decide) ?_
          refine lv_icmp_ne (tgt := 384) hx hb dL_mesh_227 (by decide) (fun hc => ?_) (fun hc => ?_)
          · have hF := k_if_f hF hc
            exact (hG _ _ _).1 (blk_384 vc vhf vhl vhs vsf vss vpl vpp vra vrk vrt vrn vtl_223 vta vtt vtp_223 hF _ _ _ hP hD hS (lv_sub hl [] rfl))
          · have hF := k_if_t hF hc
            refine lv_aload_n hx hb dL_mesh_230 rfl (lv_at hl 0 rfl) ?_
            refine lv_iconst (v := (0 : Int32)) hx hb dL_mesh_231 (by decide) ?_
            refine lv_iconst (v := (1 : Int32)) hx hb dL_mesh_232 (by decide) ?_
            refine lv_iconst (v := (0 : Int32)) hx hb dL_mesh_233 (by decide) ?_
            refine lv_iconst (v := (0 : Int32)) hx hb dL_mesh_234 (by decide) ?_
            refine lv_iconst (v := (3 : Int32)) hx hb dL_mesh_235 (by decide) ?_
            obtain ⟨r236, vtl_236, vtp_236, hC, hF⟩ := k_c3_ex hF
            refine x_VM (As := [.int (0 : Int32), .int (1 : Int32), .int (0 : Int32), .int (0 : Int32), .int (3 : Int32)]) (rest := []) ⟨hx, hb, hml, hown, hts⟩ (c_X6_pair l D cyI cyZ aM aS aC aH aL aP aR aT aTp H.size N (0 : Int32) (1 : Int32) (0 : Int32) (0 : Int32) (3 : Int32) vc vtl_223 vta vtt vtp_223 hC) (cwV 5 hts gL_mesh_X6_pair rfl rfl rfl (by decide +kernel) ⟨Nat.le_of_ble_eq_true rfl, Nat.le_of_ble_eq_true rfl⟩) hK hP hD hS hA [0, 1, 2, 11, 12] rfl rfl rfl 0 rfl rfl rfl rfl hl.1 rfl (Nat.le_of_ble_eq_true rfl) ⟨Nat.le_of_ble_eq_true rfl, Nat.le_of_ble_eq_true rfl⟩ dL_mesh_236 (fun H locs hP hD hS => ?_)
            have hP : va_P D vwCl [(aM, .inr (6, [.ref aS, .ref aH, .ref aL, .ref aP, .ref aR, .ref aT])), (aS, .inr (3, [.ref aC])), (aC, .inl (cyI, 225, .inl vc)), (aH, .inr (0, [.ref aHs, .int vhf, .int vhl])), (aHs, .inl (cyI, 1575, .inl vhs)), (aL, .inr (4, [.ref aLs, .int vsf])), (aLs, .inl (cyI, 450, .inl vss)), (aP, .inr (1, [.ref aPc, .int vpl])), (aPc, .inl (cyI, 80, .inl vpp)), (aR, .inr (2, [.ref aP, .ref aRn, .int vra, .int vrk, .int vrt])), (aRn, .inl (cyI, 40, .inl vrn)), (aT, .inr (5, [.ref aTp, .int vtl_236, .int vta, .int vtt])), (aTp, .inl (cyI, 552, .inl vtp_236))] H := hP
            have hD : va_D (fun q : Nat => s.heap.size ≤ q) [(aM, .inr (6, [.ref aS, .ref aH, .ref aL, .ref aP, .ref aR, .ref aT])), (aS, .inr (3, [.ref aC])), (aC, .inl (cyI, 225, .inl vc)), (aH, .inr (0, [.ref aHs, .int vhf, .int vhl])), (aHs, .inl (cyI, 1575, .inl vhs)), (aL, .inr (4, [.ref aLs, .int vsf])), (aLs, .inl (cyI, 450, .inl vss)), (aP, .inr (1, [.ref aPc, .int vpl])), (aPc, .inl (cyI, 80, .inl vpp)), (aR, .inr (2, [.ref aP, .ref aRn, .int vra, .int vrk, .int vrt])), (aRn, .inl (cyI, 40, .inl vrn)), (aT, .inr (5, [.ref aTp, .int vtl_236, .int vta, .int vtt])), (aTp, .inl (cyI, 552, .inl vtp_236))] := hD
            refine lv_if_ne (tgt := 384) hx hb dL_mesh_239 (by decide) (fun hc => ?_) (fun hc => ?_)
            · have hF := k_if_f hF hc
              exact (hG _ _ _).1 (blk_384 vc vhf vhl vhs vsf vss vpl vpp vra vrk vrt vrn vtl_236 vta vtt vtp_236 hF _ _ _ hP hD hS (lv_sub hl [] rfl))
            · have hF := k_if_t hF hc
              refine lv_aload_n hx hb dL_mesh_242 rfl (lv_at hl 0 rfl) ?_
              refine lv_iconst (v := (0 : Int32)) hx hb dL_mesh_243 (by decide) ?_
              refine lv_iconst (v := (1 : Int32)) hx hb dL_mesh_244 (by decide) ?_
              refine lv_iconst (v := (0 : Int32)) hx hb dL_mesh_245 (by decide) ?_
              refine lv_iconst (v := (0 : Int32)) hx hb dL_mesh_246 (by decide) ?_
              refine lv_iconst (v := (0 : Int32)) hx hb dL_mesh_247 (by decide) ?_
              obtain ⟨r248, vtl_248, vtp_248, hC, hF⟩ := k_c3_ex hF
              refine x_VM (As := [.int (0 : Int32), .int (1 : Int32), .int (0 : Int32), .int (0 : Int32), .int (0 : Int32)]) (rest := []) ⟨hx, hb, hml, hown, hts⟩ (c_X6_why l D cyI cyZ aM aS aC aH aL aP aR aT aTp H.size N (0 : Int32) (1 : Int32) (0 : Int32) (0 : Int32) (0 : Int32) vc vtl_236 vta vtt vtp_236 hC) (cwV 5 hts gL_mesh_X6_why rfl rfl rfl (by decide +kernel) ⟨Nat.le_of_ble_eq_true rfl, Nat.le_of_ble_eq_true rfl⟩) hK hP hD hS hA [0, 1, 2, 11, 12] rfl rfl rfl 0 rfl rfl rfl rfl hl.1 rfl (Nat.le_of_ble_eq_true rfl) ⟨Nat.le_of_ble_eq_true rfl, Nat.le_of_ble_eq_true rfl⟩ dL_mesh_248 (fun H locs hP hD hS => ?_)
              have hP : va_P D vwCl [(aM, .inr (6, [.ref aS, .ref aH, .ref aL, .ref aP, .ref aR, .ref aT])), (aS, .inr (3, [.ref aC])), (aC, .inl (cyI, 225, .inl vc)), (aH, .inr (0, [.ref aHs, .int vhf, .int vhl])), (aHs, .inl (cyI, 1575, .inl vhs)), (aL, .inr (4, [.ref aLs, .int vsf])), (aLs, .inl (cyI, 450, .inl vss)), (aP, .inr (1, [.ref aPc, .int vpl])), (aPc, .inl (cyI, 80, .inl vpp)), (aR, .inr (2, [.ref aP, .ref aRn, .int vra, .int vrk, .int vrt])), (aRn, .inl (cyI, 40, .inl vrn)), (aT, .inr (5, [.ref aTp, .int vtl_248, .int vta, .int vtt])), (aTp, .inl (cyI, 552, .inl vtp_248))] H := hP
              have hD : va_D (fun q : Nat => s.heap.size ≤ q) [(aM, .inr (6, [.ref aS, .ref aH, .ref aL, .ref aP, .ref aR, .ref aT])), (aS, .inr (3, [.ref aC])), (aC, .inl (cyI, 225, .inl vc)), (aH, .inr (0, [.ref aHs, .int vhf, .int vhl])), (aHs, .inl (cyI, 1575, .inl vhs)), (aL, .inr (4, [.ref aLs, .int vsf])), (aLs, .inl (cyI, 450, .inl vss)), (aP, .inr (1, [.ref aPc, .int vpl])), (aPc, .inl (cyI, 80, .inl vpp)), (aR, .inr (2, [.ref aP, .ref aRn, .int vra, .int vrk, .int vrt])), (aRn, .inl (cyI, 40, .inl vrn)), (aT, .inr (5, [.ref aTp, .int vtl_248, .int vta, .int vtt])), (aTp, .inl (cyI, 552, .inl vtp_248))] := hD
              refine lv_iconst (v := (1 : Int32)) hx hb dL_mesh_251 (by decide) ?_
              refine lv_icmp_ne (tgt := 384) hx hb dL_mesh_252 (by decide) (fun hc => ?_) (fun hc => ?_)
              · have hF := k_if_f hF hc
                exact (hG _ _ _).1 (blk_384 vc vhf vhl vhs vsf vss vpl vpp vra vrk vrt vrn vtl_248 vta vtt vtp_248 hF _ _ _ hP hD hS (lv_sub hl [] rfl))
              · have hF := k_if_t hF hc
                refine lv_aload_n hx hb dL_mesh_255 rfl (lv_at hl 0 rfl) ?_
                refine lv_iconst (v := (0 : Int32)) hx hb dL_mesh_256 (by decide) ?_
                refine lv_iconst (v := (1 : Int32)) hx hb dL_mesh_257 (by decide) ?_
                refine lv_iconst (v := (0 : Int32)) hx hb dL_mesh_258 (by decide) ?_
                refine lv_iconst (v := (0 : Int32)) hx hb dL_mesh_259 (by decide) ?_
                refine lv_iconst (v := (1 : Int32)) hx hb dL_mesh_260 (by decide) ?_
                obtain ⟨r261, vtl_261, vtp_261, hC, hF⟩ := k_c3_ex hF
                refine x_VM (As := [.int (0 : Int32), .int (1 : Int32), .int (0 : Int32), .int (0 : Int32), .int (1 : Int32)]) (rest := []) ⟨hx, hb, hml, hown, hts⟩ (c_X6_why l D cyI cyZ aM aS aC aH aL aP aR aT aTp H.size N (0 : Int32) (1 : Int32) (0 : Int32) (0 : Int32) (1 : Int32) vc vtl_248 vta vtt vtp_248 hC) (cwV 5 hts gL_mesh_X6_why rfl rfl rfl (by decide +kernel) ⟨Nat.le_of_ble_eq_true rfl, Nat.le_of_ble_eq_true rfl⟩) hK hP hD hS hA [0, 1, 2, 11, 12] rfl rfl rfl 0 rfl rfl rfl rfl hl.1 rfl (Nat.le_of_ble_eq_true rfl) ⟨Nat.le_of_ble_eq_true rfl, Nat.le_of_ble_eq_true rfl⟩ dL_mesh_261 (fun H locs hP hD hS => ?_)
                have hP : va_P D vwCl [(aM, .inr (6, [.ref aS, .ref aH, .ref aL, .ref aP, .ref aR, .ref aT])), (aS, .inr (3, [.ref aC])), (aC, .inl (cyI, 225, .inl vc)), (aH, .inr (0, [.ref aHs, .int vhf, .int vhl])), (aHs, .inl (cyI, 1575, .inl vhs)), (aL, .inr (4, [.ref aLs, .int vsf])), (aLs, .inl (cyI, 450, .inl vss)), (aP, .inr (1, [.ref aPc, .int vpl])), (aPc, .inl (cyI, 80, .inl vpp)), (aR, .inr (2, [.ref aP, .ref aRn, .int vra, .int vrk, .int vrt])), (aRn, .inl (cyI, 40, .inl vrn)), (aT, .inr (5, [.ref aTp, .int vtl_261, .int vta, .int vtt])), (aTp, .inl (cyI, 552, .inl vtp_261))] H := hP
                have hD : va_D (fun q : Nat => s.heap.size ≤ q) [(aM, .inr (6, [.ref aS, .ref aH, .ref aL, .ref aP, .ref aR, .ref aT])), (aS, .inr (3, [.ref aC])), (aC, .inl (cyI, 225, .inl vc)), (aH, .inr (0, [.ref aHs, .int vhf, .int vhl])), (aHs, .inl (cyI, 1575, .inl vhs)), (aL, .inr (4, [.ref aLs, .int vsf])), (aLs, .inl (cyI, 450, .inl vss)), (aP, .inr (1, [.ref aPc, .int vpl])), (aPc, .inl (cyI, 80, .inl vpp)), (aR, .inr (2, [.ref aP, .ref aRn, .int vra, .int vrk, .int vrt])), (aRn, .inl (cyI, 40, .inl vrn)), (aT, .inr (5, [.ref aTp, .int vtl_261, .int vta, .int vtt])), (aTp, .inl (cyI, 552, .inl vtp_261))] := hD
                refine lv_if_ne (tgt := 384) hx hb dL_mesh_264 (by decide) (fun hc => ?_) (fun hc => ?_)
                · have hF := k_if_f hF hc
                  exact (hG _ _ _).1 (blk_384 vc vhf vhl vhs vsf vss vpl vpp vra vrk vrt vrn vtl_261 vta vtt vtp_261 hF _ _ _ hP hD hS (lv_sub hl [] rfl))
                · have hF := k_if_t hF hc
                  refine lv_aload_n hx hb dL_mesh_267 rfl (lv_at hl 0 rfl) ?_
                  refine lv_iconst (v := (0 : Int32)) hx hb dL_mesh_268 (by decide) ?_
                  refine lv_iconst (v := (1 : Int32)) hx hb dL_mesh_269 (by decide) ?_
                  refine lv_iconst (v := (0 : Int32)) hx hb dL_mesh_270 (by decide) ?_
                  refine lv_iconst (v := (1 : Int32)) hx hb dL_mesh_271 (by decide) ?_
                  refine lv_iconst (v := (0 : Int32)) hx hb dL_mesh_272 (by decide) ?_
                  obtain ⟨r273, vtl_273, vtp_273, hC, hF⟩ := k_c3_ex hF
                  refine x_VM (As := [.int (0 : Int32), .int (1 : Int32), .int (0 : Int32), .int (1 : Int32), .int (0 : Int32)]) (rest := []) ⟨hx, hb, hml, hown, hts⟩ (c_X6_why l D cyI cyZ aM aS aC aH aL aP aR aT aTp H.size N (0 : Int32) (1 : Int32) (0 : Int32) (1 : Int32) (0 : Int32) vc vtl_261 vta vtt vtp_261 hC) (cwV 5 hts gL_mesh_X6_why rfl rfl rfl (by decide +kernel) ⟨Nat.le_of_ble_eq_true rfl, Nat.le_of_ble_eq_true rfl⟩) hK hP hD hS hA [0, 1, 2, 11, 12] rfl rfl rfl 0 rfl rfl rfl rfl hl.1 rfl (Nat.le_of_ble_eq_true rfl) ⟨Nat.le_of_ble_eq_true rfl, Nat.le_of_ble_eq_true rfl⟩ dL_mesh_273 (fun H locs hP hD hS => ?_)
                  have hP : va_P D vwCl [(aM, .inr (6, [.ref aS, .ref aH, .ref aL, .ref aP, .ref aR, .ref aT])), (aS, .inr (3, [.ref aC])), (aC, .inl (cyI, 225, .inl vc)), (aH, .inr (0, [.ref aHs, .int vhf, .int vhl])), (aHs, .inl (cyI, 1575, .inl vhs)), (aL, .inr (4, [.ref aLs, .int vsf])), (aLs, .inl (cyI, 450, .inl vss)), (aP, .inr (1, [.ref aPc, .int vpl])), (aPc, .inl (cyI, 80, .inl vpp)), (aR, .inr (2, [.ref aP, .ref aRn, .int vra, .int vrk, .int vrt])), (aRn, .inl (cyI, 40, .inl vrn)), (aT, .inr (5, [.ref aTp, .int vtl_273, .int vta, .int vtt])), (aTp, .inl (cyI, 552, .inl vtp_273))] H := hP
                  have hD : va_D (fun q : Nat => s.heap.size ≤ q) [(aM, .inr (6, [.ref aS, .ref aH, .ref aL, .ref aP, .ref aR, .ref aT])), (aS, .inr (3, [.ref aC])), (aC, .inl (cyI, 225, .inl vc)), (aH, .inr (0, [.ref aHs, .int vhf, .int vhl])), (aHs, .inl (cyI, 1575, .inl vhs)), (aL, .inr (4, [.ref aLs, .int vsf])), (aLs, .inl (cyI, 450, .inl vss)), (aP, .inr (1, [.ref aPc, .int vpl])), (aPc, .inl (cyI, 80, .inl vpp)), (aR, .inr (2, [.ref aP, .ref aRn, .int vra, .int vrk, .int vrt])), (aRn, .inl (cyI, 40, .inl vrn)), (aT, .inr (5, [.ref aTp, .int vtl_273, .int vta, .int vtt])), (aTp, .inl (cyI, 552, .inl vtp_273))] := hD
                  refine lv_if_ne (tgt := 384) hx hb dL_mesh_276 (by decide) (fun hc => ?_) (fun hc => ?_)
                  · have hF := k_if_f hF hc
                    exact (hG _ _ _).1 (blk_384 vc vhf vhl vhs vsf vss vpl vpp vra vrk vrt vrn vtl_273 vta vtt vtp_273 hF _ _ _ hP hD hS (lv_sub hl [] rfl))
                  · have hF := k_if_t hF hc
                    exact (hG _ _ _).1 (blk_279 vc vhf vhl vhs vsf vss vpl vpp vra vrk vrt vrn vtl_273 vta vtt vtp_273 hF _ _ _ hP hD hS (lv_sub hl [0] rfl))
  have blk_88 : ∀ (vc : (Nat → Int32)) (vhf : Int32) (vhl : Int32) (vhs : (Nat → Int32)) (vsf : Int32) (vss : (Nat → Int32)) (vpl : Int32) (vpp : (Nat → Int32)) (vra : Int32) (vrk : Int32) (vrt : Int32) (vrn : (Nat → Int32)) (vtl : Int32) (vta : Int32) (vtt : Int32) (vtp : (Nat → Int32)), b_L_mesh_88 N vc vhf vhl vhs vsf vss vpl vpp vra vrk vrt vrn vtl vta vtt vtp = some 1 → ∀ (H : Heap) (locs : List Loc) (ls : Array Slot), va_P D vwCl [(aM, .inr (6, [.ref aS, .ref aH, .ref aL, .ref aP, .ref aR, .ref aT])), (aS, .inr (3, [.ref aC])), (aC, .inl (cyI, 225, .inl vc)), (aH, .inr (0, [.ref aHs, .int vhf, .int vhl])), (aHs, .inl (cyI, 1575, .inl vhs)), (aL, .inr (4, [.ref aLs, .int vsf])), (aLs, .inl (cyI, 450, .inl vss)), (aP, .inr (1, [.ref aPc, .int vpl])), (aPc, .inl (cyI, 80, .inl vpp)), (aR, .inr (2, [.ref aP, .ref aRn, .int vra, .int vrk, .int vrt])), (aRn, .inl (cyI, 40, .inl vrn)), (aT, .inr (5, [.ref aTp, .int vtl, .int vta, .int vtt])), (aTp, .inl (cyI, 552, .inl vtp))] H → va_D (fun q : Nat => s.heap.size ≤ q) [(aM, .inr (6, [.ref aS, .ref aH, .ref aL, .ref aP, .ref aR, .ref aT])), (aS, .inr (3, [.ref aC])), (aC, .inl (cyI, 225, .inl vc)), (aH, .inr (0, [.ref aHs, .int vhf, .int vhl])), (aHs, .inl (cyI, 1575, .inl vhs)), (aL, .inr (4, [.ref aLs, .int vsf])), (aLs, .inl (cyI, 450, .inl vss)), (aP, .inr (1, [.ref aPc, .int vpl])), (aPc, .inl (cyI, 80, .inl vpp)), (aR, .inr (2, [.ref aP, .ref aRn, .int vra, .int vrk, .int vrt])), (aRn, .inl (cyI, 40, .inl vrn)), (aT, .inr (5, [.ref aTp, .int vtl, .int vta, .int vtt])), (aTp, .inl (cyI, 552, .inl vtp))] → va_S (fun q : Nat => s.heap.size ≤ q) s.heap H locs → lv_has ls 1 [(0, .ref aM)] → G H locs (F0 m 88 ls []) := by
    intro vc vhf vhl vhs vsf vss vpl vpp vra vrk vrt vrn vtl vta vtt vtp hF H locs ls hP hD hS hl
    unfold b_L_mesh_88 at hF
    refine (hG _ _ _).2 ?_
    refine lv_aload_n hx hb dL_mesh_88 rfl (lv_at hl 0 rfl) ?_
    refine lv_iconst (v := (1 : Int32)) hx hb dL_mesh_89 (by decide) ?_
    refine lv_iconst (v := (0 : Int32)) hx hb dL_mesh_90 (by decide) ?_
    refine lv_bipush (v := (-2 : Int32)) hx hb dL_mesh_91 (by decide) ?_
    obtain ⟨r93, vc_93, vhf_93, vhl_93, vhs_93, hC, hF⟩ := k_c5_ex hF
    refine x_VM (As := [.int (1 : Int32), .int (0 : Int32), .int (-2 : Int32)]) (rest := []) ⟨hx, hb, hml, hown, hts⟩ (c_X6_file l D cyI cyZ aM aS aC aH aHs aL aP aR aT H.size N (1 : Int32) (0 : Int32) (-2 : Int32) vc vhf vhl vhs hC) (cwV 3 hts gL_mesh_X6_file rfl rfl rfl (by decide +kernel) ⟨Nat.le_of_ble_eq_true rfl, Nat.le_of_ble_eq_true rfl⟩) hK hP hD hS hA [0, 1, 2, 3, 4] rfl rfl rfl 0 rfl rfl rfl rfl hl.1 rfl (Nat.le_of_ble_eq_true rfl) ⟨Nat.le_of_ble_eq_true rfl, Nat.le_of_ble_eq_true rfl⟩ dL_mesh_93 (fun H locs hP hD hS => ?_)
    have hP : va_P D vwCl [(aM, .inr (6, [.ref aS, .ref aH, .ref aL, .ref aP, .ref aR, .ref aT])), (aS, .inr (3, [.ref aC])), (aC, .inl (cyI, 225, .inl vc_93)), (aH, .inr (0, [.ref aHs, .int vhf_93, .int vhl_93])), (aHs, .inl (cyI, 1575, .inl vhs_93)), (aL, .inr (4, [.ref aLs, .int vsf])), (aLs, .inl (cyI, 450, .inl vss)), (aP, .inr (1, [.ref aPc, .int vpl])), (aPc, .inl (cyI, 80, .inl vpp)), (aR, .inr (2, [.ref aP, .ref aRn, .int vra, .int vrk, .int vrt])), (aRn, .inl (cyI, 40, .inl vrn)), (aT, .inr (5, [.ref aTp, .int vtl, .int vta, .int vtt])), (aTp, .inl (cyI, 552, .inl vtp))] H := hP
    have hD : va_D (fun q : Nat => s.heap.size ≤ q) [(aM, .inr (6, [.ref aS, .ref aH, .ref aL, .ref aP, .ref aR, .ref aT])), (aS, .inr (3, [.ref aC])), (aC, .inl (cyI, 225, .inl vc_93)), (aH, .inr (0, [.ref aHs, .int vhf_93, .int vhl_93])), (aHs, .inl (cyI, 1575, .inl vhs_93)), (aL, .inr (4, [.ref aLs, .int vsf])), (aLs, .inl (cyI, 450, .inl vss)), (aP, .inr (1, [.ref aPc, .int vpl])), (aPc, .inl (cyI, 80, .inl vpp)), (aR, .inr (2, [.ref aP, .ref aRn, .int vra, .int vrk, .int vrt])), (aRn, .inl (cyI, 40, .inl vrn)), (aT, .inr (5, [.ref aTp, .int vtl, .int vta, .int vtt])), (aTp, .inl (cyI, 552, .inl vtp))] := hD
    refine lv_bipush (v := (9 : Int32)) hx hb dL_mesh_96 (by decide) ?_
    refine lv_icmp_ne (tgt := 384) hx hb dL_mesh_98 (by decide) (fun hc => ?_) (fun hc => ?_)
    · have hF := k_if_f hF hc
      exact (hG _ _ _).1 (blk_384 vc_93 vhf_93 vhl_93 vhs_93 vsf vss vpl vpp vra vrk vrt vrn vtl vta vtt vtp hF _ _ _ hP hD hS (lv_sub hl [] rfl))
    · have hF := k_if_t hF hc
      refine lv_aload_n hx hb dL_mesh_101 rfl (lv_at hl 0 rfl) ?_
      refine lv_iconst (v := (1 : Int32)) hx hb dL_mesh_102 (by decide) ?_
      refine lv_iconst (v := (2 : Int32)) hx hb dL_mesh_103 (by decide) ?_
      refine lv_iconst (v := (1 : Int32)) hx hb dL_mesh_104 (by decide) ?_
      obtain ⟨r105, vc_105, vhf_105, vhl_105, vhs_105, hC, hF⟩ := k_c5_ex hF
      refine x_VM (As := [.int (1 : Int32), .int (2 : Int32), .int (1 : Int32)]) (rest := []) ⟨hx, hb, hml, hown, hts⟩ (c_X6_file l D cyI cyZ aM aS aC aH aHs aL aP aR aT H.size N (1 : Int32) (2 : Int32) (1 : Int32) vc_93 vhf_93 vhl_93 vhs_93 hC) (cwV 3 hts gL_mesh_X6_file rfl rfl rfl (by decide +kernel) ⟨Nat.le_of_ble_eq_true rfl, Nat.le_of_ble_eq_true rfl⟩) hK hP hD hS hA [0, 1, 2, 3, 4] rfl rfl rfl 0 rfl rfl rfl rfl hl.1 rfl (Nat.le_of_ble_eq_true rfl) ⟨Nat.le_of_ble_eq_true rfl, Nat.le_of_ble_eq_true rfl⟩ dL_mesh_105 (fun H locs hP hD hS => ?_)
      have hP : va_P D vwCl [(aM, .inr (6, [.ref aS, .ref aH, .ref aL, .ref aP, .ref aR, .ref aT])), (aS, .inr (3, [.ref aC])), (aC, .inl (cyI, 225, .inl vc_105)), (aH, .inr (0, [.ref aHs, .int vhf_105, .int vhl_105])), (aHs, .inl (cyI, 1575, .inl vhs_105)), (aL, .inr (4, [.ref aLs, .int vsf])), (aLs, .inl (cyI, 450, .inl vss)), (aP, .inr (1, [.ref aPc, .int vpl])), (aPc, .inl (cyI, 80, .inl vpp)), (aR, .inr (2, [.ref aP, .ref aRn, .int vra, .int vrk, .int vrt])), (aRn, .inl (cyI, 40, .inl vrn)), (aT, .inr (5, [.ref aTp, .int vtl, .int vta, .int vtt])), (aTp, .inl (cyI, 552, .inl vtp))] H := hP
      have hD : va_D (fun q : Nat => s.heap.size ≤ q) [(aM, .inr (6, [.ref aS, .ref aH, .ref aL, .ref aP, .ref aR, .ref aT])), (aS, .inr (3, [.ref aC])), (aC, .inl (cyI, 225, .inl vc_105)), (aH, .inr (0, [.ref aHs, .int vhf_105, .int vhl_105])), (aHs, .inl (cyI, 1575, .inl vhs_105)), (aL, .inr (4, [.ref aLs, .int vsf])), (aLs, .inl (cyI, 450, .inl vss)), (aP, .inr (1, [.ref aPc, .int vpl])), (aPc, .inl (cyI, 80, .inl vpp)), (aR, .inr (2, [.ref aP, .ref aRn, .int vra, .int vrk, .int vrt])), (aRn, .inl (cyI, 40, .inl vrn)), (aT, .inr (5, [.ref aTp, .int vtl, .int vta, .int vtt])), (aTp, .inl (cyI, 552, .inl vtp))] := hD
      refine lv_bipush (v := (9 : Int32)) hx hb dL_mesh_108 (by decide) ?_
      refine lv_icmp_ne (tgt := 384) hx hb dL_mesh_110 (by decide) (fun hc => ?_) (fun hc => ?_)
      · have hF := k_if_f hF hc
        exact (hG _ _ _).1 (blk_384 vc_105 vhf_105 vhl_105 vhs_105 vsf vss vpl vpp vra vrk vrt vrn vtl vta vtt vtp hF _ _ _ hP hD hS (lv_sub hl [] rfl))
      · have hF := k_if_t hF hc
        refine lv_aload_n hx hb dL_mesh_113 rfl (lv_at hl 0 rfl) ?_
        refine lv_iconst (v := (0 : Int32)) hx hb dL_mesh_114 (by decide) ?_
        refine lv_iconst (v := (0 : Int32)) hx hb dL_mesh_115 (by decide) ?_
        obtain ⟨r116, hC, hF⟩ := k_c1_ex hF
        refine x_VR (As := [.int (0 : Int32), .int (0 : Int32)]) (rest := []) ⟨hx, hb, hml, hown, hts⟩ (c_X6_tooth l D cyI cyZ aM aS aC aH aL aP aR aT N (0 : Int32) (0 : Int32) vc_105 hC) (cwV 2 hts gL_mesh_X6_tooth rfl rfl rfl (by decide +kernel) ⟨Nat.le_of_ble_eq_true rfl, Nat.le_of_ble_eq_true rfl⟩) hK hP hS [0, 1, 2] rfl 0 rfl rfl rfl rfl hl.1 rfl (Nat.le_of_ble_eq_true rfl) ⟨Nat.le_of_ble_eq_true rfl, Nat.le_of_ble_eq_true rfl⟩ dL_mesh_116 (fun H locs hP hS => ?_)
        refine lv_bipush (v := (11 : Int32)) hx hb dL_mesh_119 (by decide) ?_
        refine lv_icmp_ne (tgt := 384) hx hb dL_mesh_121 (by decide) (fun hc => ?_) (fun hc => ?_)
        · have hF := k_if_f hF hc
          exact (hG _ _ _).1 (blk_384 vc_105 vhf_105 vhl_105 vhs_105 vsf vss vpl vpp vra vrk vrt vrn vtl vta vtt vtp hF _ _ _ hP hD hS (lv_sub hl [] rfl))
        · have hF := k_if_t hF hc
          refine lv_aload_n hx hb dL_mesh_124 rfl (lv_at hl 0 rfl) ?_
          refine lv_iconst (v := (0 : Int32)) hx hb dL_mesh_125 (by decide) ?_
          refine lv_iconst (v := (4 : Int32)) hx hb dL_mesh_126 (by decide) ?_
          obtain ⟨r127, hC, hF⟩ := k_c1_ex hF
          refine x_VR (As := [.int (0 : Int32), .int (4 : Int32)]) (rest := []) ⟨hx, hb, hml, hown, hts⟩ (c_X6_tooth l D cyI cyZ aM aS aC aH aL aP aR aT N (0 : Int32) (4 : Int32) vc_105 hC) (cwV 2 hts gL_mesh_X6_tooth rfl rfl rfl (by decide +kernel) ⟨Nat.le_of_ble_eq_true rfl, Nat.le_of_ble_eq_true rfl⟩) hK hP hS [0, 1, 2] rfl 0 rfl rfl rfl rfl hl.1 rfl (Nat.le_of_ble_eq_true rfl) ⟨Nat.le_of_ble_eq_true rfl, Nat.le_of_ble_eq_true rfl⟩ dL_mesh_127 (fun H locs hP hS => ?_)
          refine lv_iconst (v := (-1 : Int32)) hx hb dL_mesh_130 (by decide) ?_
          refine lv_icmp_ne (tgt := 384) hx hb dL_mesh_131 (by decide) (fun hc => ?_) (fun hc => ?_)
          · have hF := k_if_f hF hc
            exact (hG _ _ _).1 (blk_384 vc_105 vhf_105 vhl_105 vhs_105 vsf vss vpl vpp vra vrk vrt vrn vtl vta vtt vtp hF _ _ _ hP hD hS (lv_sub hl [] rfl))
          · have hF := k_if_t hF hc
            refine lv_aload_n hx hb dL_mesh_134 rfl (lv_at hl 0 rfl) ?_
            refine lv_iconst (v := (0 : Int32)) hx hb dL_mesh_135 (by decide) ?_
            refine lv_iconst (v := (1 : Int32)) hx hb dL_mesh_136 (by decide) ?_
            obtain ⟨r137, hC, hF⟩ := k_c1_ex hF
            refine x_VR (As := [.int (0 : Int32), .int (1 : Int32)]) (rest := []) ⟨hx, hb, hml, hown, hts⟩ (c_X6_of l D cyI cyZ aM aS aC aH aL aP aR aT N (0 : Int32) (1 : Int32) vc_105 hC) (cwV 2 hts gL_mesh_X6_of rfl rfl rfl (by decide +kernel) ⟨Nat.le_of_ble_eq_true rfl, Nat.le_of_ble_eq_true rfl⟩) hK hP hS [0, 1, 2] rfl 0 rfl rfl rfl rfl hl.1 rfl (Nat.le_of_ble_eq_true rfl) ⟨Nat.le_of_ble_eq_true rfl, Nat.le_of_ble_eq_true rfl⟩ dL_mesh_137 (fun H locs hP hS => ?_)
            refine lv_iconst (v := (1 : Int32)) hx hb dL_mesh_140 (by decide) ?_
            refine lv_icmp_ne (tgt := 384) hx hb dL_mesh_141 (by decide) (fun hc => ?_) (fun hc => ?_)
            · have hF := k_if_f hF hc
              exact (hG _ _ _).1 (blk_384 vc_105 vhf_105 vhl_105 vhs_105 vsf vss vpl vpp vra vrk vrt vrn vtl vta vtt vtp hF _ _ _ hP hD hS (lv_sub hl [] rfl))
            · have hF := k_if_t hF hc
              refine lv_aload_n hx hb dL_mesh_144 rfl (lv_at hl 0 rfl) ?_
              refine lv_iconst (v := (0 : Int32)) hx hb dL_mesh_145 (by decide) ?_
              refine lv_iconst (v := (2 : Int32)) hx hb dL_mesh_146 (by decide) ?_
              obtain ⟨r147, hC, hF⟩ := k_c1_ex hF
              refine x_VR (As := [.int (0 : Int32), .int (2 : Int32)]) (rest := []) ⟨hx, hb, hml, hown, hts⟩ (c_X6_of l D cyI cyZ aM aS aC aH aL aP aR aT N (0 : Int32) (2 : Int32) vc_105 hC) (cwV 2 hts gL_mesh_X6_of rfl rfl rfl (by decide +kernel) ⟨Nat.le_of_ble_eq_true rfl, Nat.le_of_ble_eq_true rfl⟩) hK hP hS [0, 1, 2] rfl 0 rfl rfl rfl rfl hl.1 rfl (Nat.le_of_ble_eq_true rfl) ⟨Nat.le_of_ble_eq_true rfl, Nat.le_of_ble_eq_true rfl⟩ dL_mesh_147 (fun H locs hP hS => ?_)
              refine lv_iconst (v := (4 : Int32)) hx hb dL_mesh_150 (by decide) ?_
              refine lv_icmp_ne (tgt := 384) hx hb dL_mesh_151 (by decide) (fun hc => ?_) (fun hc => ?_)
              · have hF := k_if_f hF hc
                exact (hG _ _ _).1 (blk_384 vc_105 vhf_105 vhl_105 vhs_105 vsf vss vpl vpp vra vrk vrt vrn vtl vta vtt vtp hF _ _ _ hP hD hS (lv_sub hl [] rfl))
              · have hF := k_if_t hF hc
                refine lv_aload_n hx hb dL_mesh_154 rfl (lv_at hl 0 rfl) ?_
                refine lv_iconst (v := (0 : Int32)) hx hb dL_mesh_155 (by decide) ?_
                refine lv_iconst (v := (3 : Int32)) hx hb dL_mesh_156 (by decide) ?_
                obtain ⟨r157, hC, hF⟩ := k_c1_ex hF
                refine x_VR (As := [.int (0 : Int32), .int (3 : Int32)]) (rest := []) ⟨hx, hb, hml, hown, hts⟩ (c_X6_of l D cyI cyZ aM aS aC aH aL aP aR aT N (0 : Int32) (3 : Int32) vc_105 hC) (cwV 2 hts gL_mesh_X6_of rfl rfl rfl (by decide +kernel) ⟨Nat.le_of_ble_eq_true rfl, Nat.le_of_ble_eq_true rfl⟩) hK hP hS [0, 1, 2] rfl 0 rfl rfl rfl rfl hl.1 rfl (Nat.le_of_ble_eq_true rfl) ⟨Nat.le_of_ble_eq_true rfl, Nat.le_of_ble_eq_true rfl⟩ dL_mesh_157 (fun H locs hP hS => ?_)
                refine lv_bipush (v := (11 : Int32)) hx hb dL_mesh_160 (by decide) ?_
                refine lv_icmp_ne (tgt := 384) hx hb dL_mesh_162 (by decide) (fun hc => ?_) (fun hc => ?_)
                · have hF := k_if_f hF hc
                  exact (hG _ _ _).1 (blk_384 vc_105 vhf_105 vhl_105 vhs_105 vsf vss vpl vpp vra vrk vrt vrn vtl vta vtt vtp hF _ _ _ hP hD hS (lv_sub hl [] rfl))
                · have hF := k_if_t hF hc
                  refine lv_aload_n hx hb dL_mesh_165 rfl (lv_at hl 0 rfl) ?_
                  refine lv_iconst (v := (0 : Int32)) hx hb dL_mesh_166 (by decide) ?_
                  refine lv_iconst (v := (4 : Int32)) hx hb dL_mesh_167 (by decide) ?_
                  obtain ⟨r168, hC, hF⟩ := k_c1_ex hF
                  refine x_VR (As := [.int (0 : Int32), .int (4 : Int32)]) (rest := []) ⟨hx, hb, hml, hown, hts⟩ (c_X6_of l D cyI cyZ aM aS aC aH aL aP aR aT N (0 : Int32) (4 : Int32) vc_105 hC) (cwV 2 hts gL_mesh_X6_of rfl rfl rfl (by decide +kernel) ⟨Nat.le_of_ble_eq_true rfl, Nat.le_of_ble_eq_true rfl⟩) hK hP hS [0, 1, 2] rfl 0 rfl rfl rfl rfl hl.1 rfl (Nat.le_of_ble_eq_true rfl) ⟨Nat.le_of_ble_eq_true rfl, Nat.le_of_ble_eq_true rfl⟩ dL_mesh_168 (fun H locs hP hS => ?_)
                  refine lv_bipush (v := (8 : Int32)) hx hb dL_mesh_171 (by decide) ?_
                  refine lv_icmp_ne (tgt := 384) hx hb dL_mesh_173 (by decide) (fun hc => ?_) (fun hc => ?_)
                  · have hF := k_if_f hF hc
                    exact (hG _ _ _).1 (blk_384 vc_105 vhf_105 vhl_105 vhs_105 vsf vss vpl vpp vra vrk vrt vrn vtl vta vtt vtp hF _ _ _ hP hD hS (lv_sub hl [] rfl))
                  · have hF := k_if_t hF hc
                    exact (hG _ _ _).1 (blk_176 vc_105 vhf_105 vhl_105 vhs_105 vsf vss vpl vpp vra vrk vrt vrn vtl vta vtt vtp hF _ _ _ hP hD hS (lv_sub hl [0] rfl))
  have blk_8 : ∀ (vc : (Nat → Int32)) (vhf : Int32) (vhl : Int32) (vhs : (Nat → Int32)) (vsf : Int32) (vss : (Nat → Int32)) (vpl : Int32) (vpp : (Nat → Int32)) (vra : Int32) (vrk : Int32) (vrt : Int32) (vrn : (Nat → Int32)) (vtl : Int32) (vta : Int32) (vtt : Int32) (vtp : (Nat → Int32)), b_L_mesh_8 N vc vhf vhl vhs vsf vss vpl vpp vra vrk vrt vrn vtl vta vtt vtp = some 1 → ∀ (H : Heap) (locs : List Loc) (ls : Array Slot), va_P D vwCl [(aM, .inr (6, [.ref aS, .ref aH, .ref aL, .ref aP, .ref aR, .ref aT])), (aS, .inr (3, [.ref aC])), (aC, .inl (cyI, 225, .inl vc)), (aH, .inr (0, [.ref aHs, .int vhf, .int vhl])), (aHs, .inl (cyI, 1575, .inl vhs)), (aL, .inr (4, [.ref aLs, .int vsf])), (aLs, .inl (cyI, 450, .inl vss)), (aP, .inr (1, [.ref aPc, .int vpl])), (aPc, .inl (cyI, 80, .inl vpp)), (aR, .inr (2, [.ref aP, .ref aRn, .int vra, .int vrk, .int vrt])), (aRn, .inl (cyI, 40, .inl vrn)), (aT, .inr (5, [.ref aTp, .int vtl, .int vta, .int vtt])), (aTp, .inl (cyI, 552, .inl vtp))] H → va_D (fun q : Nat => s.heap.size ≤ q) [(aM, .inr (6, [.ref aS, .ref aH, .ref aL, .ref aP, .ref aR, .ref aT])), (aS, .inr (3, [.ref aC])), (aC, .inl (cyI, 225, .inl vc)), (aH, .inr (0, [.ref aHs, .int vhf, .int vhl])), (aHs, .inl (cyI, 1575, .inl vhs)), (aL, .inr (4, [.ref aLs, .int vsf])), (aLs, .inl (cyI, 450, .inl vss)), (aP, .inr (1, [.ref aPc, .int vpl])), (aPc, .inl (cyI, 80, .inl vpp)), (aR, .inr (2, [.ref aP, .ref aRn, .int vra, .int vrk, .int vrt])), (aRn, .inl (cyI, 40, .inl vrn)), (aT, .inr (5, [.ref aTp, .int vtl, .int vta, .int vtt])), (aTp, .inl (cyI, 552, .inl vtp))] → va_S (fun q : Nat => s.heap.size ≤ q) s.heap H locs → lv_has ls 1 [(0, .ref aM)] → G H locs (F0 m 8 ls []) := by
    intro vc vhf vhl vhs vsf vss vpl vpp vra vrk vrt vrn vtl vta vtt vtp hF H locs ls hP hD hS hl
    unfold b_L_mesh_8 at hF
    refine (hG _ _ _).2 ?_
    refine lv_aload_n hx hb dL_mesh_8 rfl (lv_at hl 0 rfl) ?_
    obtain ⟨r9, vc_9, vhf_9, vhl_9, hC, hF⟩ := k_c4_ex hF
    refine x_VM (As := []) (rest := []) ⟨hx, hb, hml, hown, hts⟩ (c_X6_undo l D cyI cyZ aM aS aC aH aHs aL aP aR aT H.size N vc vhf vhl vhs hC) (cwV 0 hts gL_mesh_X6_undo rfl rfl rfl (by decide +kernel) ⟨Nat.le_of_ble_eq_true rfl, Nat.le_of_ble_eq_true rfl⟩) hK hP hD hS hA [0, 1, 2, 3, 4] rfl rfl rfl 0 rfl rfl rfl rfl hl.1 rfl (Nat.le_of_ble_eq_true rfl) ⟨Nat.le_of_ble_eq_true rfl, Nat.le_of_ble_eq_true rfl⟩ dL_mesh_9 (fun H locs hP hD hS => ?_)
    have hP : va_P D vwCl [(aM, .inr (6, [.ref aS, .ref aH, .ref aL, .ref aP, .ref aR, .ref aT])), (aS, .inr (3, [.ref aC])), (aC, .inl (cyI, 225, .inl vc_9)), (aH, .inr (0, [.ref aHs, .int vhf_9, .int vhl_9])), (aHs, .inl (cyI, 1575, .inl vhs)), (aL, .inr (4, [.ref aLs, .int vsf])), (aLs, .inl (cyI, 450, .inl vss)), (aP, .inr (1, [.ref aPc, .int vpl])), (aPc, .inl (cyI, 80, .inl vpp)), (aR, .inr (2, [.ref aP, .ref aRn, .int vra, .int vrk, .int vrt])), (aRn, .inl (cyI, 40, .inl vrn)), (aT, .inr (5, [.ref aTp, .int vtl, .int vta, .int vtt])), (aTp, .inl (cyI, 552, .inl vtp))] H := hP
    have hD : va_D (fun q : Nat => s.heap.size ≤ q) [(aM, .inr (6, [.ref aS, .ref aH, .ref aL, .ref aP, .ref aR, .ref aT])), (aS, .inr (3, [.ref aC])), (aC, .inl (cyI, 225, .inl vc_9)), (aH, .inr (0, [.ref aHs, .int vhf_9, .int vhl_9])), (aHs, .inl (cyI, 1575, .inl vhs)), (aL, .inr (4, [.ref aLs, .int vsf])), (aLs, .inl (cyI, 450, .inl vss)), (aP, .inr (1, [.ref aPc, .int vpl])), (aPc, .inl (cyI, 80, .inl vpp)), (aR, .inr (2, [.ref aP, .ref aRn, .int vra, .int vrk, .int vrt])), (aRn, .inl (cyI, 40, .inl vrn)), (aT, .inr (5, [.ref aTp, .int vtl, .int vta, .int vtt])), (aTp, .inl (cyI, 552, .inl vtp))] := hD
    refine lv_bipush (v := (-5 : Int32)) hx hb dL_mesh_12 (by decide) ?_
    refine lv_icmp_ne (tgt := 384) hx hb dL_mesh_14 (by decide) (fun hc => ?_) (fun hc => ?_)
    · have hF := k_if_f hF hc
      exact (hG _ _ _).1 (blk_384 vc_9 vhf_9 vhl_9 vhs vsf vss vpl vpp vra vrk vrt vrn vtl vta vtt vtp hF _ _ _ hP hD hS (lv_sub hl [] rfl))
    · have hF := k_if_t hF hc
      refine lv_aload_n hx hb dL_mesh_17 rfl (lv_at hl 0 rfl) ?_
      refine lv_iconst (v := (0 : Int32)) hx hb dL_mesh_18 (by decide) ?_
      obtain ⟨r19, vc_19, vhf_19, vhl_19, vhs_19, hC, hF⟩ := k_c5_ex hF
      refine x_VM (As := [.int (0 : Int32)]) (rest := []) ⟨hx, hb, hml, hown, hts⟩ (c_X6_restore l D cyI cyZ aM aS aC aH aHs aL aLs aP aR aT H.size N (0 : Int32) vc_9 vhf_9 vhl_9 vhs vsf vss hC) (cwV 1 hts gL_mesh_X6_restore rfl rfl rfl (by decide +kernel) ⟨Nat.le_of_ble_eq_true rfl, Nat.le_of_ble_eq_true rfl⟩) hK hP hD hS hA [0, 1, 2, 3, 4, 5, 6] rfl rfl rfl 0 rfl rfl rfl rfl hl.1 rfl (Nat.le_of_ble_eq_true rfl) ⟨Nat.le_of_ble_eq_true rfl, Nat.le_of_ble_eq_true rfl⟩ dL_mesh_19 (fun H locs hP hD hS => ?_)
      have hP : va_P D vwCl [(aM, .inr (6, [.ref aS, .ref aH, .ref aL, .ref aP, .ref aR, .ref aT])), (aS, .inr (3, [.ref aC])), (aC, .inl (cyI, 225, .inl vc_19)), (aH, .inr (0, [.ref aHs, .int vhf_19, .int vhl_19])), (aHs, .inl (cyI, 1575, .inl vhs_19)), (aL, .inr (4, [.ref aLs, .int vsf])), (aLs, .inl (cyI, 450, .inl vss)), (aP, .inr (1, [.ref aPc, .int vpl])), (aPc, .inl (cyI, 80, .inl vpp)), (aR, .inr (2, [.ref aP, .ref aRn, .int vra, .int vrk, .int vrt])), (aRn, .inl (cyI, 40, .inl vrn)), (aT, .inr (5, [.ref aTp, .int vtl, .int vta, .int vtt])), (aTp, .inl (cyI, 552, .inl vtp))] H := hP
      have hD : va_D (fun q : Nat => s.heap.size ≤ q) [(aM, .inr (6, [.ref aS, .ref aH, .ref aL, .ref aP, .ref aR, .ref aT])), (aS, .inr (3, [.ref aC])), (aC, .inl (cyI, 225, .inl vc_19)), (aH, .inr (0, [.ref aHs, .int vhf_19, .int vhl_19])), (aHs, .inl (cyI, 1575, .inl vhs_19)), (aL, .inr (4, [.ref aLs, .int vsf])), (aLs, .inl (cyI, 450, .inl vss)), (aP, .inr (1, [.ref aPc, .int vpl])), (aPc, .inl (cyI, 80, .inl vpp)), (aR, .inr (2, [.ref aP, .ref aRn, .int vra, .int vrk, .int vrt])), (aRn, .inl (cyI, 40, .inl vrn)), (aT, .inr (5, [.ref aTp, .int vtl, .int vta, .int vtt])), (aTp, .inl (cyI, 552, .inl vtp))] := hD
      refine lv_bipush (v := (-5 : Int32)) hx hb dL_mesh_22 (by decide) ?_
      refine lv_icmp_ne (tgt := 384) hx hb dL_mesh_24 (by decide) (fun hc => ?_) (fun hc => ?_)
      · have hF := k_if_f hF hc
        exact (hG _ _ _).1 (blk_384 vc_19 vhf_19 vhl_19 vhs_19 vsf vss vpl vpp vra vrk vrt vrn vtl vta vtt vtp hF _ _ _ hP hD hS (lv_sub hl [] rfl))
      · have hF := k_if_t hF hc
        refine lv_aload_n hx hb dL_mesh_27 rfl (lv_at hl 0 rfl) ?_
        refine lv_iconst (v := (1 : Int32)) hx hb dL_mesh_28 (by decide) ?_
        obtain ⟨r29, hC, hF⟩ := k_c1_ex hF
        refine x_VR (As := [.int (1 : Int32)]) (rest := []) ⟨hx, hb, hml, hown, hts⟩ (c_X6_count l D cyI cyZ aM aS aC aH aHs aL aP aPc aR aT N (1 : Int32) vc_19 vhf_19 vhl_19 vpl hC) (cwV 1 hts gL_mesh_X6_count rfl rfl rfl (by decide +kernel) ⟨Nat.le_of_ble_eq_true rfl, Nat.le_of_ble_eq_true rfl⟩) hK hP hS [0, 1, 2, 3, 7] rfl 0 rfl rfl rfl rfl hl.1 rfl (Nat.le_of_ble_eq_true rfl) ⟨Nat.le_of_ble_eq_true rfl, Nat.le_of_ble_eq_true rfl⟩ dL_mesh_29 (fun H locs hP hS => ?_)
        refine lv_iconst (v := (5 : Int32)) hx hb dL_mesh_32 (by decide) ?_
        refine lv_icmp_ne (tgt := 384) hx hb dL_mesh_33 (by decide) (fun hc => ?_) (fun hc => ?_)
        · have hF := k_if_f hF hc
          exact (hG _ _ _).1 (blk_384 vc_19 vhf_19 vhl_19 vhs_19 vsf vss vpl vpp vra vrk vrt vrn vtl vta vtt vtp hF _ _ _ hP hD hS (lv_sub hl [] rfl))
        · have hF := k_if_t hF hc
          refine lv_aload_n hx hb dL_mesh_36 rfl (lv_at hl 0 rfl) ?_
          refine lv_iconst (v := (2 : Int32)) hx hb dL_mesh_37 (by decide) ?_
          obtain ⟨r38, hC, hF⟩ := k_c1_ex hF
          refine x_VR (As := [.int (2 : Int32)]) (rest := []) ⟨hx, hb, hml, hown, hts⟩ (c_X6_count l D cyI cyZ aM aS aC aH aHs aL aP aPc aR aT N (2 : Int32) vc_19 vhf_19 vhl_19 vpl hC) (cwV 1 hts gL_mesh_X6_count rfl rfl rfl (by decide +kernel) ⟨Nat.le_of_ble_eq_true rfl, Nat.le_of_ble_eq_true rfl⟩) hK hP hS [0, 1, 2, 3, 7] rfl 0 rfl rfl rfl rfl hl.1 rfl (Nat.le_of_ble_eq_true rfl) ⟨Nat.le_of_ble_eq_true rfl, Nat.le_of_ble_eq_true rfl⟩ dL_mesh_38 (fun H locs hP hS => ?_)
          refine lv_iconst (v := (5 : Int32)) hx hb dL_mesh_41 (by decide) ?_
          refine lv_icmp_ne (tgt := 384) hx hb dL_mesh_42 (by decide) (fun hc => ?_) (fun hc => ?_)
          · have hF := k_if_f hF hc
            exact (hG _ _ _).1 (blk_384 vc_19 vhf_19 vhl_19 vhs_19 vsf vss vpl vpp vra vrk vrt vrn vtl vta vtt vtp hF _ _ _ hP hD hS (lv_sub hl [] rfl))
          · have hF := k_if_t hF hc
            refine lv_aload_n hx hb dL_mesh_45 rfl (lv_at hl 0 rfl) ?_
            refine lv_iconst (v := (4 : Int32)) hx hb dL_mesh_46 (by decide) ?_
            refine lv_iconst (v := (0 : Int32)) hx hb dL_mesh_47 (by decide) ?_
            obtain ⟨r48, vc_48, vhf_48, vhl_48, vhs_48, hC, hF⟩ := k_c5_ex hF
            refine x_VM (As := [.int (4 : Int32), .int (0 : Int32)]) (rest := []) ⟨hx, hb, hml, hown, hts⟩ (c_X6_roller l D cyI cyZ aM aS aC aH aHs aL aP aR aT H.size N (4 : Int32) (0 : Int32) vc_19 vhf_19 vhl_19 vhs_19 hC) (cwV 2 hts gL_mesh_X6_roller rfl rfl rfl (by decide +kernel) ⟨Nat.le_of_ble_eq_true rfl, Nat.le_of_ble_eq_true rfl⟩) hK hP hD hS hA [0, 1, 2, 3, 4] rfl rfl rfl 0 rfl rfl rfl rfl hl.1 rfl (Nat.le_of_ble_eq_true rfl) ⟨Nat.le_of_ble_eq_true rfl, Nat.le_of_ble_eq_true rfl⟩ dL_mesh_48 (fun H locs hP hD hS => ?_)
            have hP : va_P D vwCl [(aM, .inr (6, [.ref aS, .ref aH, .ref aL, .ref aP, .ref aR, .ref aT])), (aS, .inr (3, [.ref aC])), (aC, .inl (cyI, 225, .inl vc_48)), (aH, .inr (0, [.ref aHs, .int vhf_48, .int vhl_48])), (aHs, .inl (cyI, 1575, .inl vhs_48)), (aL, .inr (4, [.ref aLs, .int vsf])), (aLs, .inl (cyI, 450, .inl vss)), (aP, .inr (1, [.ref aPc, .int vpl])), (aPc, .inl (cyI, 80, .inl vpp)), (aR, .inr (2, [.ref aP, .ref aRn, .int vra, .int vrk, .int vrt])), (aRn, .inl (cyI, 40, .inl vrn)), (aT, .inr (5, [.ref aTp, .int vtl, .int vta, .int vtt])), (aTp, .inl (cyI, 552, .inl vtp))] H := hP
            have hD : va_D (fun q : Nat => s.heap.size ≤ q) [(aM, .inr (6, [.ref aS, .ref aH, .ref aL, .ref aP, .ref aR, .ref aT])), (aS, .inr (3, [.ref aC])), (aC, .inl (cyI, 225, .inl vc_48)), (aH, .inr (0, [.ref aHs, .int vhf_48, .int vhl_48])), (aHs, .inl (cyI, 1575, .inl vhs_48)), (aL, .inr (4, [.ref aLs, .int vsf])), (aLs, .inl (cyI, 450, .inl vss)), (aP, .inr (1, [.ref aPc, .int vpl])), (aPc, .inl (cyI, 80, .inl vpp)), (aR, .inr (2, [.ref aP, .ref aRn, .int vra, .int vrk, .int vrt])), (aRn, .inl (cyI, 40, .inl vrn)), (aT, .inr (5, [.ref aTp, .int vtl, .int vta, .int vtt])), (aTp, .inl (cyI, 552, .inl vtp))] := hD
            refine lv_if_ne (tgt := 384) hx hb dL_mesh_51 (by decide) (fun hc => ?_) (fun hc => ?_)
            · have hF := k_if_f hF hc
              exact (hG _ _ _).1 (blk_384 vc_48 vhf_48 vhl_48 vhs_48 vsf vss vpl vpp vra vrk vrt vrn vtl vta vtt vtp hF _ _ _ hP hD hS (lv_sub hl [] rfl))
            · have hF := k_if_t hF hc
              refine lv_aload_n hx hb dL_mesh_54 rfl (lv_at hl 0 rfl) ?_
              refine lv_iconst (v := (4 : Int32)) hx hb dL_mesh_55 (by decide) ?_
              refine lv_iconst (v := (0 : Int32)) hx hb dL_mesh_56 (by decide) ?_
              obtain ⟨r57, vc_57, vhf_57, vhl_57, vhs_57, hC, hF⟩ := k_c5_ex hF
              refine x_VM (As := [.int (4 : Int32), .int (0 : Int32)]) (rest := []) ⟨hx, hb, hml, hown, hts⟩ (c_X6_roller l D cyI cyZ aM aS aC aH aHs aL aP aR aT H.size N (4 : Int32) (0 : Int32) vc_48 vhf_48 vhl_48 vhs_48 hC) (cwV 2 hts gL_mesh_X6_roller rfl rfl rfl (by decide +kernel) ⟨Nat.le_of_ble_eq_true rfl, Nat.le_of_ble_eq_true rfl⟩) hK hP hD hS hA [0, 1, 2, 3, 4] rfl rfl rfl 0 rfl rfl rfl rfl hl.1 rfl (Nat.le_of_ble_eq_true rfl) ⟨Nat.le_of_ble_eq_true rfl, Nat.le_of_ble_eq_true rfl⟩ dL_mesh_57 (fun H locs hP hD hS => ?_)
              have hP : va_P D vwCl [(aM, .inr (6, [.ref aS, .ref aH, .ref aL, .ref aP, .ref aR, .ref aT])), (aS, .inr (3, [.ref aC])), (aC, .inl (cyI, 225, .inl vc_57)), (aH, .inr (0, [.ref aHs, .int vhf_57, .int vhl_57])), (aHs, .inl (cyI, 1575, .inl vhs_57)), (aL, .inr (4, [.ref aLs, .int vsf])), (aLs, .inl (cyI, 450, .inl vss)), (aP, .inr (1, [.ref aPc, .int vpl])), (aPc, .inl (cyI, 80, .inl vpp)), (aR, .inr (2, [.ref aP, .ref aRn, .int vra, .int vrk, .int vrt])), (aRn, .inl (cyI, 40, .inl vrn)), (aT, .inr (5, [.ref aTp, .int vtl, .int vta, .int vtt])), (aTp, .inl (cyI, 552, .inl vtp))] H := hP
              have hD : va_D (fun q : Nat => s.heap.size ≤ q) [(aM, .inr (6, [.ref aS, .ref aH, .ref aL, .ref aP, .ref aR, .ref aT])), (aS, .inr (3, [.ref aC])), (aC, .inl (cyI, 225, .inl vc_57)), (aH, .inr (0, [.ref aHs, .int vhf_57, .int vhl_57])), (aHs, .inl (cyI, 1575, .inl vhs_57)), (aL, .inr (4, [.ref aLs, .int vsf])), (aLs, .inl (cyI, 450, .inl vss)), (aP, .inr (1, [.ref aPc, .int vpl])), (aPc, .inl (cyI, 80, .inl vpp)), (aR, .inr (2, [.ref aP, .ref aRn, .int vra, .int vrk, .int vrt])), (aRn, .inl (cyI, 40, .inl vrn)), (aT, .inr (5, [.ref aTp, .int vtl, .int vta, .int vtt])), (aTp, .inl (cyI, 552, .inl vtp))] := hD
              refine lv_iconst (v := (1 : Int32)) hx hb dL_mesh_60 (by decide) ?_
              refine lv_icmp_ne (tgt := 384) hx hb dL_mesh_61 (by decide) (fun hc => ?_) (fun hc => ?_)
              · have hF := k_if_f hF hc
                exact (hG _ _ _).1 (blk_384 vc_57 vhf_57 vhl_57 vhs_57 vsf vss vpl vpp vra vrk vrt vrn vtl vta vtt vtp hF _ _ _ hP hD hS (lv_sub hl [] rfl))
              · have hF := k_if_t hF hc
                refine lv_aload_n hx hb dL_mesh_64 rfl (lv_at hl 0 rfl) ?_
                refine lv_iconst (v := (0 : Int32)) hx hb dL_mesh_65 (by decide) ?_
                refine lv_iconst (v := (0 : Int32)) hx hb dL_mesh_66 (by decide) ?_
                refine lv_iconst (v := (2 : Int32)) hx hb dL_mesh_67 (by decide) ?_
                obtain ⟨r68, vc_68, vhf_68, vhl_68, vhs_68, hC, hF⟩ := k_c5_ex hF
                refine x_VM (As := [.int (0 : Int32), .int (0 : Int32), .int (2 : Int32)]) (rest := []) ⟨hx, hb, hml, hown, hts⟩ (c_X6_file l D cyI cyZ aM aS aC aH aHs aL aP aR aT H.size N (0 : Int32) (0 : Int32) (2 : Int32) vc_57 vhf_57 vhl_57 vhs_57 hC) (cwV 3 hts gL_mesh_X6_file rfl rfl rfl (by decide +kernel) ⟨Nat.le_of_ble_eq_true rfl, Nat.le_of_ble_eq_true rfl⟩) hK hP hD hS hA [0, 1, 2, 3, 4] rfl rfl rfl 0 rfl rfl rfl rfl hl.1 rfl (Nat.le_of_ble_eq_true rfl) ⟨Nat.le_of_ble_eq_true rfl, Nat.le_of_ble_eq_true rfl⟩ dL_mesh_68 (fun H locs hP hD hS => ?_)
                have hP : va_P D vwCl [(aM, .inr (6, [.ref aS, .ref aH, .ref aL, .ref aP, .ref aR, .ref aT])), (aS, .inr (3, [.ref aC])), (aC, .inl (cyI, 225, .inl vc_68)), (aH, .inr (0, [.ref aHs, .int vhf_68, .int vhl_68])), (aHs, .inl (cyI, 1575, .inl vhs_68)), (aL, .inr (4, [.ref aLs, .int vsf])), (aLs, .inl (cyI, 450, .inl vss)), (aP, .inr (1, [.ref aPc, .int vpl])), (aPc, .inl (cyI, 80, .inl vpp)), (aR, .inr (2, [.ref aP, .ref aRn, .int vra, .int vrk, .int vrt])), (aRn, .inl (cyI, 40, .inl vrn)), (aT, .inr (5, [.ref aTp, .int vtl, .int vta, .int vtt])), (aTp, .inl (cyI, 552, .inl vtp))] H := hP
                have hD : va_D (fun q : Nat => s.heap.size ≤ q) [(aM, .inr (6, [.ref aS, .ref aH, .ref aL, .ref aP, .ref aR, .ref aT])), (aS, .inr (3, [.ref aC])), (aC, .inl (cyI, 225, .inl vc_68)), (aH, .inr (0, [.ref aHs, .int vhf_68, .int vhl_68])), (aHs, .inl (cyI, 1575, .inl vhs_68)), (aL, .inr (4, [.ref aLs, .int vsf])), (aLs, .inl (cyI, 450, .inl vss)), (aP, .inr (1, [.ref aPc, .int vpl])), (aPc, .inl (cyI, 80, .inl vpp)), (aR, .inr (2, [.ref aP, .ref aRn, .int vra, .int vrk, .int vrt])), (aRn, .inl (cyI, 40, .inl vrn)), (aT, .inr (5, [.ref aTp, .int vtl, .int vta, .int vtt])), (aTp, .inl (cyI, 552, .inl vtp))] := hD
                refine lv_bipush (v := (9 : Int32)) hx hb dL_mesh_71 (by decide) ?_
                refine lv_icmp_ne (tgt := 384) hx hb dL_mesh_73 (by decide) (fun hc => ?_) (fun hc => ?_)
                · have hF := k_if_f hF hc
                  exact (hG _ _ _).1 (blk_384 vc_68 vhf_68 vhl_68 vhs_68 vsf vss vpl vpp vra vrk vrt vrn vtl vta vtt vtp hF _ _ _ hP hD hS (lv_sub hl [] rfl))
                · have hF := k_if_t hF hc
                  refine lv_aload_n hx hb dL_mesh_76 rfl (lv_at hl 0 rfl) ?_
                  refine lv_iconst (v := (0 : Int32)) hx hb dL_mesh_77 (by decide) ?_
                  refine lv_iconst (v := (2 : Int32)) hx hb dL_mesh_78 (by decide) ?_
                  refine lv_iconst (v := (-1 : Int32)) hx hb dL_mesh_79 (by decide) ?_
                  obtain ⟨r80, vc_80, vhf_80, vhl_80, vhs_80, hC, hF⟩ := k_c5_ex hF
                  refine x_VM (As := [.int (0 : Int32), .int (2 : Int32), .int (-1 : Int32)]) (rest := []) ⟨hx, hb, hml, hown, hts⟩ (c_X6_file l D cyI cyZ aM aS aC aH aHs aL aP aR aT H.size N (0 : Int32) (2 : Int32) (-1 : Int32) vc_68 vhf_68 vhl_68 vhs_68 hC) (cwV 3 hts gL_mesh_X6_file rfl rfl rfl (by decide +kernel) ⟨Nat.le_of_ble_eq_true rfl, Nat.le_of_ble_eq_true rfl⟩) hK hP hD hS hA [0, 1, 2, 3, 4] rfl rfl rfl 0 rfl rfl rfl rfl hl.1 rfl (Nat.le_of_ble_eq_true rfl) ⟨Nat.le_of_ble_eq_true rfl, Nat.le_of_ble_eq_true rfl⟩ dL_mesh_80 (fun H locs hP hD hS => ?_)
                  have hP : va_P D vwCl [(aM, .inr (6, [.ref aS, .ref aH, .ref aL, .ref aP, .ref aR, .ref aT])), (aS, .inr (3, [.ref aC])), (aC, .inl (cyI, 225, .inl vc_80)), (aH, .inr (0, [.ref aHs, .int vhf_80, .int vhl_80])), (aHs, .inl (cyI, 1575, .inl vhs_80)), (aL, .inr (4, [.ref aLs, .int vsf])), (aLs, .inl (cyI, 450, .inl vss)), (aP, .inr (1, [.ref aPc, .int vpl])), (aPc, .inl (cyI, 80, .inl vpp)), (aR, .inr (2, [.ref aP, .ref aRn, .int vra, .int vrk, .int vrt])), (aRn, .inl (cyI, 40, .inl vrn)), (aT, .inr (5, [.ref aTp, .int vtl, .int vta, .int vtt])), (aTp, .inl (cyI, 552, .inl vtp))] H := hP
                  have hD : va_D (fun q : Nat => s.heap.size ≤ q) [(aM, .inr (6, [.ref aS, .ref aH, .ref aL, .ref aP, .ref aR, .ref aT])), (aS, .inr (3, [.ref aC])), (aC, .inl (cyI, 225, .inl vc_80)), (aH, .inr (0, [.ref aHs, .int vhf_80, .int vhl_80])), (aHs, .inl (cyI, 1575, .inl vhs_80)), (aL, .inr (4, [.ref aLs, .int vsf])), (aLs, .inl (cyI, 450, .inl vss)), (aP, .inr (1, [.ref aPc, .int vpl])), (aPc, .inl (cyI, 80, .inl vpp)), (aR, .inr (2, [.ref aP, .ref aRn, .int vra, .int vrk, .int vrt])), (aRn, .inl (cyI, 40, .inl vrn)), (aT, .inr (5, [.ref aTp, .int vtl, .int vta, .int vtt])), (aTp, .inl (cyI, 552, .inl vtp))] := hD
                  refine lv_bipush (v := (9 : Int32)) hx hb dL_mesh_83 (by decide) ?_
                  refine lv_icmp_ne (tgt := 384) hx hb dL_mesh_85 (by decide) (fun hc => ?_) (fun hc => ?_)
                  · have hF := k_if_f hF hc
                    exact (hG _ _ _).1 (blk_384 vc_80 vhf_80 vhl_80 vhs_80 vsf vss vpl vpp vra vrk vrt vrn vtl vta vtt vtp hF _ _ _ hP hD hS (lv_sub hl [] rfl))
                  · have hF := k_if_t hF hc
                    exact (hG _ _ _).1 (blk_88 vc_80 vhf_80 vhl_80 vhs_80 vsf vss vpl vpp vra vrk vrt vrn vtl vta vtt vtp hF _ _ _ hP hD hS (lv_sub hl [0] rfl))
  exact blk_8 (upd (upd (upd (upd (upd (fun _ => 0) 1 (5 : Int32)) 2 (5 : Int32)) 6 (6 : Int32)) 7 (4 : Int32)) 8 (20 : Int32)) (0 : Int32) (0 : Int32) (fun _ => 0) (0 : Int32) (fun _ => 0) (0 : Int32) (fun _ => 0) (0 : Int32) (0 : Int32) (0 : Int32) (fun _ => 0) (0 : Int32) (0 : Int32) (0 : Int32) (fun _ => 0) hF _ _ _ hP hD hS hl
