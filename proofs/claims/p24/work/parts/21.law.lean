/-! THE CLAIM OUT OF ONE WALK OF THE LAW'S BODY. Your part is whole_start (and what it stands on); all else here is the same for every law, but numbers. -/
def R_law : String := "RollerMeshLaw"
def lw_P (b : Addr) (xs : List Int32) (args : Array Value) (s : State) : Prop := args = #[.ref b] ∧ s.IntsAt b xs ∧ xs.length ≤ 260 ∧ (Jvm.Cond.and given_1 narrow_1).before args s = true
def lw_Q (_ : Array Value) (s : State) (o : Outcome) (t : State) : Prop := o = .returned (some (.int 1)) ∧ Framed s o t [] 600000 7302250
def lw_Z (below : List Frame) (a : Array Value) (s : State) : State → Prop := fun t => ∃ o, t.status = .running ∧ Ended t below o ∧ lw_Q a s o t
/-- the law's own end, with 1 on the stack, nothing written that was there before, its room as the claim has it -/
theorem lw_ret {p : Program} {l : Launch} {e : Env} {s : State} {m : MethodId} {below : List Frame} {meth : Method} {c : Code} {b : Nat} (hx : p.tables.exec = Jvm.exec) (hb : c.code = code) (hr : meth.sig.returnType = ret) (hlocks : meth.locks = false) {pc : Nat} {H : Heap} {ls : Array Slot} (hdg : decode code pc = .ok (.ireturn, 1)) : W p l e room_1 s m #[Value.ref b] below meth c H [] 600000 7302250 (lw_Z below #[Value.ref b] s) (F0 m pc ls [.int 1]) := by
  intro T hT X
  obtain ⟨fs, hret, hrun, hended, hW, hframe⟩ := X.leave (v := some (.int 1)) (hlocks := hlocks) (fun h => by rw [hr] at h; cases h)
  have hmeth' : T.vm.method? m = some meth := X.method'
  refine ⟨T.setFrames fs, ?_, .returned (some (.int 1)), hrun, hended, rfl, ⟨_, rfl⟩, hW, hframe⟩
  jvm_step X.here [X.here.top, hx, hb, hdg, hmeth', hr, ret, narrow_b1]
  (try refine ⟨rfl, ?_⟩); (try refine ⟨rfl, ?_⟩)
  first | (intro acts; rw [hret _ acts rfl rfl rfl]) | rw [hret _ _ rfl rfl rfl]
  exact Steps.refl _
/-- what holds at the law's entry: the machine, the code, the tables' words (any of lw_tbl by 'hts w (by decide +kernel)'), the script of L ints xs at the cell b, what the Statement gives of the start (any of its parts by flat_of_before) -/
def lw_At (p : Program) (s : State) (m : MethodId) (meth : Method) (c : Code) (b L : Nat) (xs : Nat → Int32) : Prop :=
  p.tables.exec = Jvm.exec ∧ c.code = code ∧ meth.sig.returnType = ret ∧ c.maxLocals = 13 ∧ s.vm.findClass R_law = some m.cls ∧ (∀ w ∈ lw_tbl, w.before #[Value.ref b] s = true) ∧ va_X b L xs s s.heap ∧ b < s.heap.size ∧ meth.locks = false ∧ (Jvm.Cond.and given_1 narrow_1).before #[Value.ref b] s = true
set_option maxHeartbeats 8000000 in
set_option maxRecDepth 100000 in
theorem law_body {p : Program} {l : Launch} {e : Env} {s : State} {m : MethodId} {below : List Frame} {meth : Method} {c : Code} {b L : Nat} {xs : Nat → Int32} (C0 : lw_At p s m meth c b L xs) {D : va_G} {cyI cyZ : ClassId} (hK : x_K D cyI cyZ s) (aM aS aC aH aHs aL aLs aP aPc aR aRn aT aTp aV : Nat) (N : Nat) (x3 : Int32) (vc : (Nat → Int32)) (vhf : Int32) (vhl : Int32) (vhs : (Nat → Int32)) (vsf : Int32) (vss : (Nat → Int32)) (vpl : Int32) (vpp : (Nat → Int32)) (vra : Int32) (vrk : Int32) (vrt : Int32) (vrn : (Nat → Int32)) (vtl : Int32) (vta : Int32) (vtt : Int32) (vtp : (Nat → Int32)) (vv : (Nat → Int64)) (hF : b_L_law_35 N L xs x3 vc vhf vhl vhs vsf vss vpl vpp vra vrk vrt vrn vtl vta vtt vtp vv = some 1) : ∀ (H : Heap) (locs : List Loc) (ls : Array Slot), va_P D vwCl [(aM, .inr (6, [.ref aS, .ref aH, .ref aL, .ref aP, .ref aR, .ref aT])), (aS, .inr (3, [.ref aC])), (aC, .inl (cyI, 225, .inl vc)), (aH, .inr (0, [.ref aHs, .int vhf, .int vhl])), (aHs, .inl (cyI, 1575, .inl vhs)), (aL, .inr (4, [.ref aLs, .int vsf])), (aLs, .inl (cyI, 450, .inl vss)), (aP, .inr (1, [.ref aPc, .int vpl])), (aPc, .inl (cyI, 80, .inl vpp)), (aR, .inr (2, [.ref aP, .ref aRn, .int vra, .int vrk, .int vrt])), (aRn, .inl (cyI, 40, .inl vrn)), (aT, .inr (5, [.ref aTp, .int vtl, .int vta, .int vtt])), (aTp, .inl (cyI, 552, .inl vtp)), (aV, .inl (cyZ, 64, .inr (.inl vv)))] H → va_D (fun q : Nat => s.heap.size ≤ q) [(aM, .inr (6, [.ref aS, .ref aH, .ref aL, .ref aP, .ref aR, .ref aT])), (aS, .inr (3, [.ref aC])), (aC, .inl (cyI, 225, .inl vc)), (aH, .inr (0, [.ref aHs, .int vhf, .int vhl])), (aHs, .inl (cyI, 1575, .inl vhs)), (aL, .inr (4, [.ref aLs, .int vsf])), (aLs, .inl (cyI, 450, .inl vss)), (aP, .inr (1, [.ref aPc, .int vpl])), (aPc, .inl (cyI, 80, .inl vpp)), (aR, .inr (2, [.ref aP, .ref aRn, .int vra, .int vrk, .int vrt])), (aRn, .inl (cyI, 40, .inl vrn)), (aT, .inr (5, [.ref aTp, .int vtl, .int vta, .int vtt])), (aTp, .inl (cyI, 552, .inl vtp)), (aV, .inl (cyZ, 64, .inr (.inl vv)))] → va_S (fun q : Nat => s.heap.size ≤ q) s.heap H locs → lv_has ls 13 [(0, .ref b), (1, .ref aM), (2, .ref aV), (3, .int x3)] → W p l e room_1 s m #[Value.ref b] below meth c H locs 53 11844 (lw_Z below #[Value.ref b] s) (F0 m 35 ls []) := by
  obtain ⟨hx, hb, hr, hml, hown, hts0, hX, hbl, hlocks, hgv⟩ := C0
  have hts := fun w h => hts0 w (wsL_law_in w h)
  have hown : s.vm.findClass RL = some m.cls := hown
  have hA : ∀ q : Nat, s.heap.size ≤ q → (fun q : Nat => s.heap.size ≤ q) q := fun _ h => h
  have hbA : ¬ (fun q : Nat => s.heap.size ≤ q) b := Nat.not_le.mpr hbl
  obtain ⟨G, hG⟩ : ∃ G : Heap → List Loc → JFrame → Prop, ∀ (H : Heap) (locs : List Loc) (g : JFrame), G H locs g ↔ W p l e room_1 s m #[Value.ref b] below meth c H locs 53 11844 (lw_Z below #[Value.ref b] s) g := ⟨fun H locs g => W p l e room_1 s m #[Value.ref b] below meth c H locs 53 11844 (lw_Z below #[Value.ref b] s) g, fun _ _ _ => Iff.rfl⟩
  have blk_491 : ∀ (n_491 : Nat) (x4 : Int64) (vc : (Nat → Int32)) (vhf : Int32) (vhl : Int32) (vhs : (Nat → Int32)) (vsf : Int32) (vss : (Nat → Int32)) (vpl : Int32) (vpp : (Nat → Int32)) (vra : Int32) (vrk : Int32) (vrt : Int32) (vrn : (Nat → Int32)) (vtl : Int32) (vta : Int32) (vtt : Int32) (vtp : (Nat → Int32)) (vv : (Nat → Int64)), f_L_law_491 N L xs n_491 x4 vc vhf vhl vhs vsf vss vpl vpp vra vrk vrt vrn vtl vta vtt vtp vv = some 1 → ∀ (H : Heap) (locs : List Loc) (ls : Array Slot), va_P D vwCl [(aM, .inr (6, [.ref aS, .ref aH, .ref aL, .ref aP, .ref aR, .ref aT])), (aS, .inr (3, [.ref aC])), (aC, .inl (cyI, 225, .inl vc)), (aH, .inr (0, [.ref aHs, .int vhf, .int vhl])), (aHs, .inl (cyI, 1575, .inl vhs)), (aL, .inr (4, [.ref aLs, .int vsf])), (aLs, .inl (cyI, 450, .inl vss)), (aP, .inr (1, [.ref aPc, .int vpl])), (aPc, .inl (cyI, 80, .inl vpp)), (aR, .inr (2, [.ref aP, .ref aRn, .int vra, .int vrk, .int vrt])), (aRn, .inl (cyI, 40, .inl vrn)), (aT, .inr (5, [.ref aTp, .int vtl, .int vta, .int vtt])), (aTp, .inl (cyI, 552, .inl vtp)), (aV, .inl (cyZ, 64, .inr (.inl vv)))] H → va_D (fun q : Nat => s.heap.size ≤ q) [(aM, .inr (6, [.ref aS, .ref aH, .ref aL, .ref aP, .ref aR, .ref aT])), (aS, .inr (3, [.ref aC])), (aC, .inl (cyI, 225, .inl vc)), (aH, .inr (0, [.ref aHs, .int vhf, .int vhl])), (aHs, .inl (cyI, 1575, .inl vhs)), (aL, .inr (4, [.ref aLs, .int vsf])), (aLs, .inl (cyI, 450, .inl vss)), (aP, .inr (1, [.ref aPc, .int vpl])), (aPc, .inl (cyI, 80, .inl vpp)), (aR, .inr (2, [.ref aP, .ref aRn, .int vra, .int vrk, .int vrt])), (aRn, .inl (cyI, 40, .inl vrn)), (aT, .inr (5, [.ref aTp, .int vtl, .int vta, .int vtt])), (aTp, .inl (cyI, 552, .inl vtp)), (aV, .inl (cyZ, 64, .inr (.inl vv)))] → va_S (fun q : Nat => s.heap.size ≤ q) s.heap H locs → lv_has ls 13 [(1, .ref aM), (4, .long x4)] → G H locs (F0 m 491 ls []) := by
    intro n_491
    induction n_491 with
    | zero => intro x4 vc vhf vhl vhs vsf vss vpl vpp vra vrk vrt vrn vtl vta vtt vtp vv hF; exact (k_none hF).elim
    | succ n_491 ih_491 =>
      intro x4 vc vhf vhl vhs vsf vss vpl vpp vra vrk vrt vrn vtl vta vtt vtp vv hF H locs ls hP hD hS hl
      replace hF : b_L_law_491 N L xs (f_L_law_491 N L xs n_491) x4 vc vhf vhl vhs vsf vss vpl vpp vra vrk vrt vrn vtl vta vtt vtp vv = some 1 := hF
      unfold b_L_law_491 at hF
      refine (hG _ _ _).2 ?_
      refine lv_aload_n hx hb dL_law_491 rfl (lv_at hl 0 rfl) ?_
      refine lv_bipush (v := (10 : Int32)) hx hb dL_law_492 (by decide) ?_
      obtain ⟨r494, hC, hF⟩ := k_c1_ex hF
      refine x_VR (As := [.int (10 : Int32)]) (rest := []) ⟨hx, hb, hml, hown, hts⟩ (c_X6_count l D cyI cyZ aM aS aC aH aHs aL aP aPc aR aT N (10 : Int32) vc vhf vhl vpl hC) (cwV 1 hts gL_law_X6_count rfl rfl rfl (by decide +kernel) ⟨Nat.le_of_ble_eq_true rfl, Nat.le_of_ble_eq_true rfl⟩) hK hP hS [0, 1, 2, 3, 7] rfl 0 rfl rfl rfl rfl hl.1 rfl (Nat.le_of_ble_eq_true rfl) ⟨Nat.le_of_ble_eq_true rfl, Nat.le_of_ble_eq_true rfl⟩ dL_law_494 (fun H locs hP hS => ?_)
      refine lv_if_le (tgt := 509) hx hb dL_law_497 (by decide) (fun hc => ?_) (fun hc => ?_)
      · have hF := k_if_t hF hc
        refine lv_aload_n hx hb dL_law_509 rfl (lv_at hl 0 rfl) ?_
        obtain ⟨r510, vc_510, vhf_510, vhl_510, hC, hF⟩ := k_c4_ex hF
        refine x_VM (As := []) (rest := []) ⟨hx, hb, hml, hown, hts⟩ (c_X6_undo l D cyI cyZ aM aS aC aH aHs aL aP aR aT H.size N vc vhf vhl vhs hC) (cwV 0 hts gL_law_X6_undo rfl rfl rfl (by decide +kernel) ⟨Nat.le_of_ble_eq_true rfl, Nat.le_of_ble_eq_true rfl⟩) hK hP hD hS hA [0, 1, 2, 3, 4] rfl rfl rfl 0 rfl rfl rfl rfl hl.1 rfl (Nat.le_of_ble_eq_true rfl) ⟨Nat.le_of_ble_eq_true rfl, Nat.le_of_ble_eq_true rfl⟩ dL_law_510 (fun H locs hP hD hS => ?_)
        have hP : va_P D vwCl [(aM, .inr (6, [.ref aS, .ref aH, .ref aL, .ref aP, .ref aR, .ref aT])), (aS, .inr (3, [.ref aC])), (aC, .inl (cyI, 225, .inl vc_510)), (aH, .inr (0, [.ref aHs, .int vhf_510, .int vhl_510])), (aHs, .inl (cyI, 1575, .inl vhs)), (aL, .inr (4, [.ref aLs, .int vsf])), (aLs, .inl (cyI, 450, .inl vss)), (aP, .inr (1, [.ref aPc, .int vpl])), (aPc, .inl (cyI, 80, .inl vpp)), (aR, .inr (2, [.ref aP, .ref aRn, .int vra, .int vrk, .int vrt])), (aRn, .inl (cyI, 40, .inl vrn)), (aT, .inr (5, [.ref aTp, .int vtl, .int vta, .int vtt])), (aTp, .inl (cyI, 552, .inl vtp)), (aV, .inl (cyZ, 64, .inr (.inl vv)))] H := hP
        have hD : va_D (fun q : Nat => s.heap.size ≤ q) [(aM, .inr (6, [.ref aS, .ref aH, .ref aL, .ref aP, .ref aR, .ref aT])), (aS, .inr (3, [.ref aC])), (aC, .inl (cyI, 225, .inl vc_510)), (aH, .inr (0, [.ref aHs, .int vhf_510, .int vhl_510])), (aHs, .inl (cyI, 1575, .inl vhs)), (aL, .inr (4, [.ref aLs, .int vsf])), (aLs, .inl (cyI, 450, .inl vss)), (aP, .inr (1, [.ref aPc, .int vpl])), (aPc, .inl (cyI, 80, .inl vpp)), (aR, .inr (2, [.ref aP, .ref aRn, .int vra, .int vrk, .int vrt])), (aRn, .inl (cyI, 40, .inl vrn)), (aT, .inr (5, [.ref aTp, .int vtl, .int vta, .int vtt])), (aTp, .inl (cyI, 552, .inl vtp)), (aV, .inl (cyZ, 64, .inr (.inl vv)))] := hD
        refine lv_bipush (v := (-5 : Int32)) hx hb dL_law_513 (by decide) ?_
        refine lv_icmp_ne (tgt := 551) hx hb dL_law_515 (by decide) (fun hc => ?_) (fun hc => ?_)
        · have hF := k_if_f hF hc
          refine lv_iconst (v := (0 : Int32)) hx hb dL_law_551 (by decide) ?_
          exact absurd (Option.some.inj hF) (by decide)
        · have hF := k_if_t hF hc
          refine lv_aload_n hx hb dL_law_518 rfl (lv_at hl 0 rfl) ?_
          refine lv_iconst (v := (0 : Int32)) hx hb dL_law_519 (by decide) ?_
          obtain ⟨r520, vc_520, vhf_520, vhl_520, vhs_520, hC, hF⟩ := k_c5_ex hF
          refine x_VM (As := [.int (0 : Int32)]) (rest := []) ⟨hx, hb, hml, hown, hts⟩ (c_X6_restore l D cyI cyZ aM aS aC aH aHs aL aLs aP aR aT H.size N (0 : Int32) vc_510 vhf_510 vhl_510 vhs vsf vss hC) (cwV 1 hts gL_law_X6_restore rfl rfl rfl (by decide +kernel) ⟨Nat.le_of_ble_eq_true rfl, Nat.le_of_ble_eq_true rfl⟩) hK hP hD hS hA [0, 1, 2, 3, 4, 5, 6] rfl rfl rfl 0 rfl rfl rfl rfl hl.1 rfl (Nat.le_of_ble_eq_true rfl) ⟨Nat.le_of_ble_eq_true rfl, Nat.le_of_ble_eq_true rfl⟩ dL_law_520 (fun H locs hP hD hS => ?_)
          have hP : va_P D vwCl [(aM, .inr (6, [.ref aS, .ref aH, .ref aL, .ref aP, .ref aR, .ref aT])), (aS, .inr (3, [.ref aC])), (aC, .inl (cyI, 225, .inl vc_520)), (aH, .inr (0, [.ref aHs, .int vhf_520, .int vhl_520])), (aHs, .inl (cyI, 1575, .inl vhs_520)), (aL, .inr (4, [.ref aLs, .int vsf])), (aLs, .inl (cyI, 450, .inl vss)), (aP, .inr (1, [.ref aPc, .int vpl])), (aPc, .inl (cyI, 80, .inl vpp)), (aR, .inr (2, [.ref aP, .ref aRn, .int vra, .int vrk, .int vrt])), (aRn, .inl (cyI, 40, .inl vrn)), (aT, .inr (5, [.ref aTp, .int vtl, .int vta, .int vtt])), (aTp, .inl (cyI, 552, .inl vtp)), (aV, .inl (cyZ, 64, .inr (.inl vv)))] H := hP
          have hD : va_D (fun q : Nat => s.heap.size ≤ q) [(aM, .inr (6, [.ref aS, .ref aH, .ref aL, .ref aP, .ref aR, .ref aT])), (aS, .inr (3, [.ref aC])), (aC, .inl (cyI, 225, .inl vc_520)), (aH, .inr (0, [.ref aHs, .int vhf_520, .int vhl_520])), (aHs, .inl (cyI, 1575, .inl vhs_520)), (aL, .inr (4, [.ref aLs, .int vsf])), (aLs, .inl (cyI, 450, .inl vss)), (aP, .inr (1, [.ref aPc, .int vpl])), (aPc, .inl (cyI, 80, .inl vpp)), (aR, .inr (2, [.ref aP, .ref aRn, .int vra, .int vrk, .int vrt])), (aRn, .inl (cyI, 40, .inl vrn)), (aT, .inr (5, [.ref aTp, .int vtl, .int vta, .int vtt])), (aTp, .inl (cyI, 552, .inl vtp)), (aV, .inl (cyZ, 64, .inr (.inl vv)))] := hD
          refine lv_iconst (v := (2 : Int32)) hx hb dL_law_523 (by decide) ?_
          refine lv_icmp_ne (tgt := 551) hx hb dL_law_524 (by decide) (fun hc => ?_) (fun hc => ?_)
          · have hF := k_if_f hF hc
            refine lv_iconst (v := (0 : Int32)) hx hb dL_law_551 (by decide) ?_
            exact absurd (Option.some.inj hF) (by decide)
          · have hF := k_if_t hF hc
            refine lv_aload_n hx hb dL_law_527 rfl (lv_at hl 0 rfl) ?_
            obtain ⟨r528, hC, hF⟩ := k_c1_ex hF
            refine x_SRl (As := [.ref aM]) (rest := []) ⟨hx, hb, hml, hown, hts⟩ (c_L_seen l D cyI cyZ aM aS aC aH aHs aL aP aPc aR aT N vc_520 vhf_520 vhl_520 vpl hC) (va_cwS 1 hts gL_law_L_seen rfl rfl rfl (by decide +kernel) ⟨Nat.le_of_ble_eq_true rfl, Nat.le_of_ble_eq_true rfl⟩) hK hP hS [0, 1, 2, 3, 7] rfl rfl hl.1 rfl (Nat.le_of_ble_eq_true rfl) ⟨Nat.le_of_ble_eq_true rfl, Nat.le_of_ble_eq_true rfl⟩ dL_law_528 (fun H locs hP hS => ?_)
            refine lv_lload hx hb dL_law_531 (lv_at hl 1 rfl) ?_
            refine W.lcmp hx hb dL_law_533 ?_
            refine lv_if_ne (tgt := 551) hx hb dL_law_534 (by decide) (fun hc => ?_) (fun hc => ?_)
            · have hF := k_if_f hF hc
              refine lv_iconst (v := (0 : Int32)) hx hb dL_law_551 (by decide) ?_
              exact absurd (Option.some.inj hF) (by decide)
            · have hF := k_if_t hF hc
              refine lv_aload_n hx hb dL_law_537 rfl (lv_at hl 0 rfl) ?_
              refine lv_bipush (v := (10 : Int32)) hx hb dL_law_538 (by decide) ?_
              obtain ⟨r540, hC, hF⟩ := k_c1_ex hF
              refine x_VR (As := [.int (10 : Int32)]) (rest := []) ⟨hx, hb, hml, hown, hts⟩ (c_X6_count l D cyI cyZ aM aS aC aH aHs aL aP aPc aR aT N (10 : Int32) vc_520 vhf_520 vhl_520 vpl hC) (cwV 1 hts gL_law_X6_count rfl rfl rfl (by decide +kernel) ⟨Nat.le_of_ble_eq_true rfl, Nat.le_of_ble_eq_true rfl⟩) hK hP hS [0, 1, 2, 3, 7] rfl 0 rfl rfl rfl rfl hl.1 rfl (Nat.le_of_ble_eq_true rfl) ⟨Nat.le_of_ble_eq_true rfl, Nat.le_of_ble_eq_true rfl⟩ dL_law_540 (fun H locs hP hS => ?_)
              refine lv_iconst (v := (1 : Int32)) hx hb dL_law_543 (by decide) ?_
              refine lv_icmp_ne (tgt := 551) hx hb dL_law_544 (by decide) (fun hc => ?_) (fun hc => ?_)
              · have hF := k_if_f hF hc
                refine lv_iconst (v := (0 : Int32)) hx hb dL_law_551 (by decide) ?_
                exact absurd (Option.some.inj hF) (by decide)
              · have hF := k_if_t hF hc
                refine lv_iconst (v := (1 : Int32)) hx hb dL_law_547 (by decide) ?_
                refine lv_goto (tgt := 552) hx hb dL_law_548 (by decide) ?_
                refine va_forget (fun q hq => hS.2.2 q hq) ?_
                refine W.widen (k := 600000) (n := 7302250) (Nat.le_of_ble_eq_true rfl) (Nat.le_of_ble_eq_true rfl) ?_
                exact lw_ret hx hb hr hlocks dL_law_552
      · have hF := k_if_f hF hc
        refine lv_aload_n hx hb dL_law_500 rfl (lv_at hl 0 rfl) ?_
        obtain ⟨r501, vc_501, vhf_501, vhl_501, hC, hF⟩ := k_c4_ex hF
        refine x_VM (As := []) (rest := []) ⟨hx, hb, hml, hown, hts⟩ (c_X6_undo l D cyI cyZ aM aS aC aH aHs aL aP aR aT H.size N vc vhf vhl vhs hC) (cwV 0 hts gL_law_X6_undo rfl rfl rfl (by decide +kernel) ⟨Nat.le_of_ble_eq_true rfl, Nat.le_of_ble_eq_true rfl⟩) hK hP hD hS hA [0, 1, 2, 3, 4] rfl rfl rfl 0 rfl rfl rfl rfl hl.1 rfl (Nat.le_of_ble_eq_true rfl) ⟨Nat.le_of_ble_eq_true rfl, Nat.le_of_ble_eq_true rfl⟩ dL_law_501 (fun H locs hP hD hS => ?_)
        have hP : va_P D vwCl [(aM, .inr (6, [.ref aS, .ref aH, .ref aL, .ref aP, .ref aR, .ref aT])), (aS, .inr (3, [.ref aC])), (aC, .inl (cyI, 225, .inl vc_501)), (aH, .inr (0, [.ref aHs, .int vhf_501, .int vhl_501])), (aHs, .inl (cyI, 1575, .inl vhs)), (aL, .inr (4, [.ref aLs, .int vsf])), (aLs, .inl (cyI, 450, .inl vss)), (aP, .inr (1, [.ref aPc, .int vpl])), (aPc, .inl (cyI, 80, .inl vpp)), (aR, .inr (2, [.ref aP, .ref aRn, .int vra, .int vrk, .int vrt])), (aRn, .inl (cyI, 40, .inl vrn)), (aT, .inr (5, [.ref aTp, .int vtl, .int vta, .int vtt])), (aTp, .inl (cyI, 552, .inl vtp)), (aV, .inl (cyZ, 64, .inr (.inl vv)))] H := hP
        have hD : va_D (fun q : Nat => s.heap.size ≤ q) [(aM, .inr (6, [.ref aS, .ref aH, .ref aL, .ref aP, .ref aR, .ref aT])), (aS, .inr (3, [.ref aC])), (aC, .inl (cyI, 225, .inl vc_501)), (aH, .inr (0, [.ref aHs, .int vhf_501, .int vhl_501])), (aHs, .inl (cyI, 1575, .inl vhs)), (aL, .inr (4, [.ref aLs, .int vsf])), (aLs, .inl (cyI, 450, .inl vss)), (aP, .inr (1, [.ref aPc, .int vpl])), (aPc, .inl (cyI, 80, .inl vpp)), (aR, .inr (2, [.ref aP, .ref aRn, .int vra, .int vrk, .int vrt])), (aRn, .inl (cyI, 40, .inl vrn)), (aT, .inr (5, [.ref aTp, .int vtl, .int vta, .int vtt])), (aTp, .inl (cyI, 552, .inl vtp)), (aV, .inl (cyZ, 64, .inr (.inl vv)))] := hD
        refine lv_if_ge (tgt := 491) hx hb dL_law_504 (by decide) (fun hc => ?_) (fun hc => ?_)
        · have hF := k_if_t hF hc
          exact (hG _ _ _).1 (ih_491 x4 vc_501 vhf_501 vhl_501 vhs vsf vss vpl vpp vra vrk vrt vrn vtl vta vtt vtp vv hF _ _ _ hP hD hS (lv_sub hl [0, 1] rfl))
        · have hF := k_if_f hF hc
          refine lv_iconst (v := (0 : Int32)) hx hb dL_law_507 (by decide) ?_
          exact absurd (Option.some.inj hF) (by decide)
  have blk_429 : ∀ (n_429 : Nat) (x3 : Int32) (x4 : Int64) (x6 : Int32) (vc : (Nat → Int32)) (vhf : Int32) (vhl : Int32) (vhs : (Nat → Int32)) (vsf : Int32) (vss : (Nat → Int32)) (vpl : Int32) (vpp : (Nat → Int32)) (vra : Int32) (vrk : Int32) (vrt : Int32) (vrn : (Nat → Int32)) (vtl : Int32) (vta : Int32) (vtt : Int32) (vtp : (Nat → Int32)) (vv : (Nat → Int64)), f_L_law_429 N L xs n_429 x3 x4 x6 vc vhf vhl vhs vsf vss vpl vpp vra vrk vrt vrn vtl vta vtt vtp vv = some 1 → ∀ (H : Heap) (locs : List Loc) (ls : Array Slot), va_P D vwCl [(aM, .inr (6, [.ref aS, .ref aH, .ref aL, .ref aP, .ref aR, .ref aT])), (aS, .inr (3, [.ref aC])), (aC, .inl (cyI, 225, .inl vc)), (aH, .inr (0, [.ref aHs, .int vhf, .int vhl])), (aHs, .inl (cyI, 1575, .inl vhs)), (aL, .inr (4, [.ref aLs, .int vsf])), (aLs, .inl (cyI, 450, .inl vss)), (aP, .inr (1, [.ref aPc, .int vpl])), (aPc, .inl (cyI, 80, .inl vpp)), (aR, .inr (2, [.ref aP, .ref aRn, .int vra, .int vrk, .int vrt])), (aRn, .inl (cyI, 40, .inl vrn)), (aT, .inr (5, [.ref aTp, .int vtl, .int vta, .int vtt])), (aTp, .inl (cyI, 552, .inl vtp)), (aV, .inl (cyZ, 64, .inr (.inl vv)))] H → va_D (fun q : Nat => s.heap.size ≤ q) [(aM, .inr (6, [.ref aS, .ref aH, .ref aL, .ref aP, .ref aR, .ref aT])), (aS, .inr (3, [.ref aC])), (aC, .inl (cyI, 225, .inl vc)), (aH, .inr (0, [.ref aHs, .int vhf, .int vhl])), (aHs, .inl (cyI, 1575, .inl vhs)), (aL, .inr (4, [.ref aLs, .int vsf])), (aLs, .inl (cyI, 450, .inl vss)), (aP, .inr (1, [.ref aPc, .int vpl])), (aPc, .inl (cyI, 80, .inl vpp)), (aR, .inr (2, [.ref aP, .ref aRn, .int vra, .int vrk, .int vrt])), (aRn, .inl (cyI, 40, .inl vrn)), (aT, .inr (5, [.ref aTp, .int vtl, .int vta, .int vtt])), (aTp, .inl (cyI, 552, .inl vtp)), (aV, .inl (cyZ, 64, .inr (.inl vv)))] → va_S (fun q : Nat => s.heap.size ≤ q) s.heap H locs → lv_has ls 13 [(1, .ref aM), (2, .ref aV), (3, .int x3), (4, .long x4), (6, .int x6)] → G H locs (F0 m 429 ls []) := by
    intro n_429
    induction n_429 with
    | zero => intro x3 x4 x6 vc vhf vhl vhs vsf vss vpl vpp vra vrk vrt vrn vtl vta vtt vtp vv hF; exact (k_none hF).elim
    | succ n_429 ih_429 =>
      intro x3 x4 x6 vc vhf vhl vhs vsf vss vpl vpp vra vrk vrt vrn vtl vta vtt vtp vv hF H locs ls hP hD hS hl
      replace hF : b_L_law_429 N L xs (f_L_law_429 N L xs n_429) x3 x4 x6 vc vhf vhl vhs vsf vss vpl vpp vra vrk vrt vrn vtl vta vtt vtp vv = some 1 := hF
      unfold b_L_law_429 at hF
      refine (hG _ _ _).2 ?_
      refine lv_aload_n hx hb dL_law_429 rfl (lv_at hl 0 rfl) ?_
      refine lv_bipush (v := (10 : Int32)) hx hb dL_law_430 (by decide) ?_
      obtain ⟨r432, hC, hF⟩ := k_c1_ex hF
      refine x_VR (As := [.int (10 : Int32)]) (rest := []) ⟨hx, hb, hml, hown, hts⟩ (c_X6_count l D cyI cyZ aM aS aC aH aHs aL aP aPc aR aT N (10 : Int32) vc vhf vhl vpl hC) (cwV 1 hts gL_law_X6_count rfl rfl rfl (by decide +kernel) ⟨Nat.le_of_ble_eq_true rfl, Nat.le_of_ble_eq_true rfl⟩) hK hP hS [0, 1, 2, 3, 7] rfl 0 rfl rfl rfl rfl hl.1 rfl (Nat.le_of_ble_eq_true rfl) ⟨Nat.le_of_ble_eq_true rfl, Nat.le_of_ble_eq_true rfl⟩ dL_law_432 (fun H locs hP hS => ?_)
      refine lv_if_le (tgt := 491) hx hb dL_law_435 (by decide) (fun hc => ?_) (fun hc => ?_)
      · have hF := k_if_t hF hc
        exact (hG _ _ _).1 (blk_491 N x4 vc vhf vhl vhs vsf vss vpl vpp vra vrk vrt vrn vtl vta vtt vtp vv hF _ _ _ hP hD hS (lv_sub hl [0, 3] rfl))
      · have hF := k_if_f hF hc
        refine lv_iload hx hb dL_law_438 (lv_at hl 4 rfl) ?_
        refine lv_iload_n hx hb dL_law_440 rfl (lv_at hl 2 rfl) ?_
        refine lv_icmp_ge (tgt := 491) hx hb dL_law_441 (by decide) (fun hc => ?_) (fun hc => ?_)
        · have hF := k_if_t hF hc
          exact (hG _ _ _).1 (blk_491 N x4 vc vhf vhl vhs vsf vss vpl vpp vra vrk vrt vrn vtl vta vtt vtp vv hF _ _ _ hP hD hS (lv_sub hl [0, 3] rfl))
        · have hF := k_if_f hF hc
          refine lv_aload_n hx hb dL_law_444 rfl (lv_at hl 0 rfl) ?_
          refine lv_bipush (v := (10 : Int32)) hx hb dL_law_445 (by decide) ?_
          obtain ⟨r447, hC, hF⟩ := k_c1_ex hF
          refine x_VR (As := [.int (10 : Int32)]) (rest := []) ⟨hx, hb, hml, hown, hts⟩ (c_X6_count l D cyI cyZ aM aS aC aH aHs aL aP aPc aR aT N (10 : Int32) vc vhf vhl vpl hC) (cwV 1 hts gL_law_X6_count rfl rfl rfl (by decide +kernel) ⟨Nat.le_of_ble_eq_true rfl, Nat.le_of_ble_eq_true rfl⟩) hK hP hS [0, 1, 2, 3, 7] rfl 0 rfl rfl rfl rfl hl.1 rfl (Nat.le_of_ble_eq_true rfl) ⟨Nat.le_of_ble_eq_true rfl, Nat.le_of_ble_eq_true rfl⟩ dL_law_447 (fun H locs hP hS => ?_)
          refine lv_istore (lv' := [(7, .int r447), (1, .ref aM), (2, .ref aV), (3, .int x3), (4, .long x4), (6, .int x6)]) hx hb dL_law_450 hl (by decide) rfl (fun ls hl => ?_)
          refine lv_iload hx hb dL_law_452 (lv_at hl 5 rfl) ?_
          refine lv_iconst (v := (5 : Int32)) hx hb dL_law_454 (by decide) ?_
          refine lv_icmp_gt (tgt := 483) hx hb dL_law_455 (by decide) (fun hc => ?_) (fun hc => ?_)
          · have hF := k_if_t hF hc
            refine lv_iconst (v := (0 : Int32)) hx hb dL_law_483 (by decide) ?_
            exact absurd (Option.some.inj hF) (by decide)
          · have hF := k_if_f hF hc
            refine lv_aload_n hx hb dL_law_458 rfl (lv_at hl 1 rfl) ?_
            obtain ⟨r459, hC, hF⟩ := k_c1_ex hF
            refine x_SRl (As := [.ref aM]) (rest := []) ⟨hx, hb, hml, hown, hts⟩ (c_L_seen l D cyI cyZ aM aS aC aH aHs aL aP aPc aR aT N vc vhf vhl vpl hC) (va_cwS 1 hts gL_law_L_seen rfl rfl rfl (by decide +kernel) ⟨Nat.le_of_ble_eq_true rfl, Nat.le_of_ble_eq_true rfl⟩) hK hP hS [0, 1, 2, 3, 7] rfl rfl hl.1 rfl (Nat.le_of_ble_eq_true rfl) ⟨Nat.le_of_ble_eq_true rfl, Nat.le_of_ble_eq_true rfl⟩ dL_law_459 (fun H locs hP hS => ?_)
            refine lv_aload_n hx hb dL_law_462 rfl (lv_at hl 2 rfl) ?_
            refine lv_iload_n hx hb dL_law_463 rfl (lv_at hl 3 rfl) ?_
            refine lv_iload hx hb dL_law_464 (lv_at hl 5 rfl) ?_
            refine lv_isub hx hb dL_law_466 ?_
            obtain ⟨r467, hin, hn, hF⟩ := k_ldl_ex hF
            refine x_lald hx hb hK hP 13 rfl hin hn dL_law_467 ?_
            refine W.lcmp hx hb dL_law_468 ?_
            refine lv_if_ne (tgt := 483) hx hb dL_law_469 (by decide) (fun hc => ?_) (fun hc => ?_)
            · have hF := k_if_f hF hc
              refine lv_iconst (v := (0 : Int32)) hx hb dL_law_483 (by decide) ?_
              exact absurd (Option.some.inj hF) (by decide)
            · have hF := k_if_t hF hc
              refine lv_aload_n hx hb dL_law_472 rfl (lv_at hl 1 rfl) ?_
              obtain ⟨r473, vc_473, vhf_473, vhl_473, hC, hF⟩ := k_c4_ex hF
              refine x_VM (As := []) (rest := []) ⟨hx, hb, hml, hown, hts⟩ (c_X6_undo l D cyI cyZ aM aS aC aH aHs aL aP aR aT H.size N vc vhf vhl vhs hC) (cwV 0 hts gL_law_X6_undo rfl rfl rfl (by decide +kernel) ⟨Nat.le_of_ble_eq_true rfl, Nat.le_of_ble_eq_true rfl⟩) hK hP hD hS hA [0, 1, 2, 3, 4] rfl rfl rfl 0 rfl rfl rfl rfl hl.1 rfl (Nat.le_of_ble_eq_true rfl) ⟨Nat.le_of_ble_eq_true rfl, Nat.le_of_ble_eq_true rfl⟩ dL_law_473 (fun H locs hP hD hS => ?_)
              have hP : va_P D vwCl [(aM, .inr (6, [.ref aS, .ref aH, .ref aL, .ref aP, .ref aR, .ref aT])), (aS, .inr (3, [.ref aC])), (aC, .inl (cyI, 225, .inl vc_473)), (aH, .inr (0, [.ref aHs, .int vhf_473, .int vhl_473])), (aHs, .inl (cyI, 1575, .inl vhs)), (aL, .inr (4, [.ref aLs, .int vsf])), (aLs, .inl (cyI, 450, .inl vss)), (aP, .inr (1, [.ref aPc, .int vpl])), (aPc, .inl (cyI, 80, .inl vpp)), (aR, .inr (2, [.ref aP, .ref aRn, .int vra, .int vrk, .int vrt])), (aRn, .inl (cyI, 40, .inl vrn)), (aT, .inr (5, [.ref aTp, .int vtl, .int vta, .int vtt])), (aTp, .inl (cyI, 552, .inl vtp)), (aV, .inl (cyZ, 64, .inr (.inl vv)))] H := hP
              have hD : va_D (fun q : Nat => s.heap.size ≤ q) [(aM, .inr (6, [.ref aS, .ref aH, .ref aL, .ref aP, .ref aR, .ref aT])), (aS, .inr (3, [.ref aC])), (aC, .inl (cyI, 225, .inl vc_473)), (aH, .inr (0, [.ref aHs, .int vhf_473, .int vhl_473])), (aHs, .inl (cyI, 1575, .inl vhs)), (aL, .inr (4, [.ref aLs, .int vsf])), (aLs, .inl (cyI, 450, .inl vss)), (aP, .inr (1, [.ref aPc, .int vpl])), (aPc, .inl (cyI, 80, .inl vpp)), (aR, .inr (2, [.ref aP, .ref aRn, .int vra, .int vrk, .int vrt])), (aRn, .inl (cyI, 40, .inl vrn)), (aT, .inr (5, [.ref aTp, .int vtl, .int vta, .int vtt])), (aTp, .inl (cyI, 552, .inl vtp)), (aV, .inl (cyZ, 64, .inr (.inl vv)))] := hD
              refine lv_iload hx hb dL_law_476 (lv_at hl 0 rfl) ?_
              refine lv_iconst (v := (1 : Int32)) hx hb dL_law_478 (by decide) ?_
              refine lv_isub hx hb dL_law_479 ?_
              refine lv_icmp_eq (tgt := 485) hx hb dL_law_480 (by decide) (fun hc => ?_) (fun hc => ?_)
              · have hF := k_if_t hF hc
                obtain ⟨x6_485, hn, hF⟩ := k_let_ex hF
                refine lv_iinc (v := x6_485) (lv' := [(6, .int x6_485), (7, .int r447), (1, .ref aM), (2, .ref aV), (3, .int x3), (4, .long x4)]) hx hb dL_law_485 hl (k := 5) rfl (by rw [hn]; rfl) (by decide) rfl (fun ls hl => ?_)
                refine lv_goto (tgt := 429) hx hb dL_law_488 (by decide) ?_
                exact (hG _ _ _).1 (ih_429 x3 x4 x6_485 vc_473 vhf_473 vhl_473 vhs vsf vss vpl vpp vra vrk vrt vrn vtl vta vtt vtp vv hF _ _ _ hP hD hS (lv_sub hl [2, 3, 4, 5, 0] rfl))
              · have hF := k_if_f hF hc
                refine lv_iconst (v := (0 : Int32)) hx hb dL_law_483 (by decide) ?_
                exact absurd (Option.some.inj hF) (by decide)
  have blk_74 : ∀ (n_74 : Nat) (x3 : Int32) (x4 : Int64) (x6 : Int32) (vc : (Nat → Int32)) (vhf : Int32) (vhl : Int32) (vhs : (Nat → Int32)) (vsf : Int32) (vss : (Nat → Int32)) (vpl : Int32) (vpp : (Nat → Int32)) (vra : Int32) (vrk : Int32) (vrt : Int32) (vrn : (Nat → Int32)) (vtl : Int32) (vta : Int32) (vtt : Int32) (vtp : (Nat → Int32)) (vv : (Nat → Int64)), f_L_law_74 N L xs n_74 x3 x4 x6 vc vhf vhl vhs vsf vss vpl vpp vra vrk vrt vrn vtl vta vtt vtp vv = some 1 → ∀ (H : Heap) (locs : List Loc) (ls : Array Slot), va_P D vwCl [(aM, .inr (6, [.ref aS, .ref aH, .ref aL, .ref aP, .ref aR, .ref aT])), (aS, .inr (3, [.ref aC])), (aC, .inl (cyI, 225, .inl vc)), (aH, .inr (0, [.ref aHs, .int vhf, .int vhl])), (aHs, .inl (cyI, 1575, .inl vhs)), (aL, .inr (4, [.ref aLs, .int vsf])), (aLs, .inl (cyI, 450, .inl vss)), (aP, .inr (1, [.ref aPc, .int vpl])), (aPc, .inl (cyI, 80, .inl vpp)), (aR, .inr (2, [.ref aP, .ref aRn, .int vra, .int vrk, .int vrt])), (aRn, .inl (cyI, 40, .inl vrn)), (aT, .inr (5, [.ref aTp, .int vtl, .int vta, .int vtt])), (aTp, .inl (cyI, 552, .inl vtp)), (aV, .inl (cyZ, 64, .inr (.inl vv)))] H → va_D (fun q : Nat => s.heap.size ≤ q) [(aM, .inr (6, [.ref aS, .ref aH, .ref aL, .ref aP, .ref aR, .ref aT])), (aS, .inr (3, [.ref aC])), (aC, .inl (cyI, 225, .inl vc)), (aH, .inr (0, [.ref aHs, .int vhf, .int vhl])), (aHs, .inl (cyI, 1575, .inl vhs)), (aL, .inr (4, [.ref aLs, .int vsf])), (aLs, .inl (cyI, 450, .inl vss)), (aP, .inr (1, [.ref aPc, .int vpl])), (aPc, .inl (cyI, 80, .inl vpp)), (aR, .inr (2, [.ref aP, .ref aRn, .int vra, .int vrk, .int vrt])), (aRn, .inl (cyI, 40, .inl vrn)), (aT, .inr (5, [.ref aTp, .int vtl, .int vta, .int vtt])), (aTp, .inl (cyI, 552, .inl vtp)), (aV, .inl (cyZ, 64, .inr (.inl vv)))] → va_S (fun q : Nat => s.heap.size ≤ q) s.heap H locs → lv_has ls 13 [(0, .ref b), (1, .ref aM), (2, .ref aV), (3, .int x3), (4, .long x4), (6, .int x6)] → G H locs (F0 m 74 ls []) := by
    intro n_74
    induction n_74 with
    | zero => intro x3 x4 x6 vc vhf vhl vhs vsf vss vpl vpp vra vrk vrt vrn vtl vta vtt vtp vv hF; exact (k_none hF).elim
    | succ n_74 ih_74 =>
      have blk_360 : ∀ (x3 : Int32) (x4 : Int64) (x6 : Int32) (x9 : Int32) (t0 : Int32) (vc : (Nat → Int32)) (vhf : Int32) (vhl : Int32) (vhs : (Nat → Int32)) (vsf : Int32) (vss : (Nat → Int32)) (vpl : Int32) (vpp : (Nat → Int32)) (vra : Int32) (vrk : Int32) (vrt : Int32) (vrn : (Nat → Int32)) (vtl : Int32) (vta : Int32) (vtt : Int32) (vtp : (Nat → Int32)) (vv : (Nat → Int64)), b_L_law_360 N L xs (f_L_law_74 N L xs n_74) x3 x4 x6 x9 t0 vc vhf vhl vhs vsf vss vpl vpp vra vrk vrt vrn vtl vta vtt vtp vv = some 1 → ∀ (H : Heap) (locs : List Loc) (ls : Array Slot), va_P D vwCl [(aM, .inr (6, [.ref aS, .ref aH, .ref aL, .ref aP, .ref aR, .ref aT])), (aS, .inr (3, [.ref aC])), (aC, .inl (cyI, 225, .inl vc)), (aH, .inr (0, [.ref aHs, .int vhf, .int vhl])), (aHs, .inl (cyI, 1575, .inl vhs)), (aL, .inr (4, [.ref aLs, .int vsf])), (aLs, .inl (cyI, 450, .inl vss)), (aP, .inr (1, [.ref aPc, .int vpl])), (aPc, .inl (cyI, 80, .inl vpp)), (aR, .inr (2, [.ref aP, .ref aRn, .int vra, .int vrk, .int vrt])), (aRn, .inl (cyI, 40, .inl vrn)), (aT, .inr (5, [.ref aTp, .int vtl, .int vta, .int vtt])), (aTp, .inl (cyI, 552, .inl vtp)), (aV, .inl (cyZ, 64, .inr (.inl vv)))] H → va_D (fun q : Nat => s.heap.size ≤ q) [(aM, .inr (6, [.ref aS, .ref aH, .ref aL, .ref aP, .ref aR, .ref aT])), (aS, .inr (3, [.ref aC])), (aC, .inl (cyI, 225, .inl vc)), (aH, .inr (0, [.ref aHs, .int vhf, .int vhl])), (aHs, .inl (cyI, 1575, .inl vhs)), (aL, .inr (4, [.ref aLs, .int vsf])), (aLs, .inl (cyI, 450, .inl vss)), (aP, .inr (1, [.ref aPc, .int vpl])), (aPc, .inl (cyI, 80, .inl vpp)), (aR, .inr (2, [.ref aP, .ref aRn, .int vra, .int vrk, .int vrt])), (aRn, .inl (cyI, 40, .inl vrn)), (aT, .inr (5, [.ref aTp, .int vtl, .int vta, .int vtt])), (aTp, .inl (cyI, 552, .inl vtp)), (aV, .inl (cyZ, 64, .inr (.inl vv)))] → va_S (fun q : Nat => s.heap.size ≤ q) s.heap H locs → lv_has ls 13 [(0, .ref b), (1, .ref aM), (2, .ref aV), (3, .int x3), (4, .long x4), (6, .int x6), (9, .int x9)] → G H locs (F0 m 360 ls [.int t0]) := by
        intro x3 x4 x6 x9 t0 vc vhf vhl vhs vsf vss vpl vpp vra vrk vrt vrn vtl vta vtt vtp vv hF H locs ls hP hD hS hl
        unfold b_L_law_360 at hF
        refine (hG _ _ _).2 ?_
        refine lv_istore (lv' := [(12, .int t0), (0, .ref b), (1, .ref aM), (2, .ref aV), (3, .int x3), (4, .long x4), (6, .int x6), (9, .int x9)]) hx hb dL_law_360 hl (by decide) rfl (fun ls hl => ?_)
        refine lv_iload hx hb dL_law_362 (lv_at hl 0 rfl) ?_
        refine lv_if_ge (tgt := 391) hx hb dL_law_364 (by decide) (fun hc => ?_) (fun hc => ?_)
        · have hF := k_if_t hF hc
          refine lv_iload_n hx hb dL_law_391 rfl (lv_at hl 4 rfl) ?_
          refine lv_iload hx hb dL_law_392 (lv_at hl 0 rfl) ?_
          refine lv_if_ge (tgt := 401) hx hb dL_law_394 (by decide) (fun hc => ?_) (fun hc => ?_)
          · have hF := k_if_t hF hc
            refine lv_iconst (v := (1 : Int32)) hx hb dL_law_401 (by decide) ?_
            refine lv_iadd hx hb dL_law_402 ?_
            obtain ⟨x3_403, hn, hF⟩ := k_let_ex hF
            refine x_nm hn ?_
            refine lv_istore_n (lv' := [(3, .int x3_403), (12, .int t0), (0, .ref b), (1, .ref aM), (2, .ref aV), (4, .long x4), (6, .int x6), (9, .int x9)]) hx hb dL_law_403 rfl hl (by decide) rfl (fun ls hl => ?_)
            obtain ⟨x6_404, hn, hF⟩ := k_let_ex hF
            refine lv_iinc (v := x6_404) (lv' := [(6, .int x6_404), (3, .int x3_403), (12, .int t0), (0, .ref b), (1, .ref aM), (2, .ref aV), (4, .long x4), (9, .int x9)]) hx hb dL_law_404 hl (k := 6) rfl (by rw [hn]; rfl) (by decide) rfl (fun ls hl => ?_)
            refine lv_goto (tgt := 74) hx hb dL_law_407 (by decide) ?_
            exact (hG _ _ _).1 (ih_74 x3_403 x4 x6_404 vc vhf vhl vhs vsf vss vpl vpp vra vrk vrt vrn vtl vta vtt vtp vv hF _ _ _ hP hD hS (lv_sub hl [3, 4, 5, 1, 6, 0] rfl))
          · have hF := k_if_f hF hc
            refine lv_iconst (v := (0 : Int32)) hx hb dL_law_397 (by decide) ?_
            refine lv_goto (tgt := 402) hx hb dL_law_398 (by decide) ?_
            refine lv_iadd hx hb dL_law_402 ?_
            obtain ⟨x3_403, hn, hF⟩ := k_let_ex hF
            refine x_nm hn ?_
            refine lv_istore_n (lv' := [(3, .int x3_403), (12, .int t0), (0, .ref b), (1, .ref aM), (2, .ref aV), (4, .long x4), (6, .int x6), (9, .int x9)]) hx hb dL_law_403 rfl hl (by decide) rfl (fun ls hl => ?_)
            obtain ⟨x6_404, hn, hF⟩ := k_let_ex hF
            refine lv_iinc (v := x6_404) (lv' := [(6, .int x6_404), (3, .int x3_403), (12, .int t0), (0, .ref b), (1, .ref aM), (2, .ref aV), (4, .long x4), (9, .int x9)]) hx hb dL_law_404 hl (k := 6) rfl (by rw [hn]; rfl) (by decide) rfl (fun ls hl => ?_)
            refine lv_goto (tgt := 74) hx hb dL_law_407 (by decide) ?_
            exact (hG _ _ _).1 (ih_74 x3_403 x4 x6_404 vc vhf vhl vhs vsf vss vpl vpp vra vrk vrt vrn vtl vta vtt vtp vv hF _ _ _ hP hD hS (lv_sub hl [3, 4, 5, 1, 6, 0] rfl))
        · have hF := k_if_f hF hc
          refine lv_aload_n hx hb dL_law_367 rfl (lv_at hl 2 rfl) ?_
          refine lv_bipush (v := (10 : Int32)) hx hb dL_law_368 (by decide) ?_
          obtain ⟨r370, hC, hF⟩ := k_c1_ex hF
          refine x_VR (As := [.int (10 : Int32)]) (rest := []) ⟨hx, hb, hml, hown, hts⟩ (c_X6_count l D cyI cyZ aM aS aC aH aHs aL aP aPc aR aT N (10 : Int32) vc vhf vhl vpl hC) (cwV 1 hts gL_law_X6_count rfl rfl rfl (by decide +kernel) ⟨Nat.le_of_ble_eq_true rfl, Nat.le_of_ble_eq_true rfl⟩) hK hP hS [0, 1, 2, 3, 7] rfl 0 rfl rfl rfl rfl hl.1 rfl (Nat.le_of_ble_eq_true rfl) ⟨Nat.le_of_ble_eq_true rfl, Nat.le_of_ble_eq_true rfl⟩ dL_law_370 (fun H locs hP hS => ?_)
          refine lv_iload hx hb dL_law_373 (lv_at hl 7 rfl) ?_
          refine lv_icmp_ne (tgt := 389) hx hb dL_law_375 (by decide) (fun hc => ?_) (fun hc => ?_)
          · have hF := k_if_f hF hc
            refine lv_iconst (v := (0 : Int32)) hx hb dL_law_389 (by decide) ?_
            exact absurd (Option.some.inj hF) (by decide)
          · have hF := k_if_t hF hc
            refine lv_aload_n hx hb dL_law_378 rfl (lv_at hl 2 rfl) ?_
            obtain ⟨r379, hC, hF⟩ := k_c1_ex hF
            refine x_SRl (As := [.ref aM]) (rest := []) ⟨hx, hb, hml, hown, hts⟩ (c_L_seen l D cyI cyZ aM aS aC aH aHs aL aP aPc aR aT N vc vhf vhl vpl hC) (va_cwS 1 hts gL_law_L_seen rfl rfl rfl (by decide +kernel) ⟨Nat.le_of_ble_eq_true rfl, Nat.le_of_ble_eq_true rfl⟩) hK hP hS [0, 1, 2, 3, 7] rfl rfl hl.1 rfl (Nat.le_of_ble_eq_true rfl) ⟨Nat.le_of_ble_eq_true rfl, Nat.le_of_ble_eq_true rfl⟩ dL_law_379 (fun H locs hP hS => ?_)
            refine lv_aload_n hx hb dL_law_382 rfl (lv_at hl 3 rfl) ?_
            refine lv_iload_n hx hb dL_law_383 rfl (lv_at hl 4 rfl) ?_
            obtain ⟨r384, hin, hn, hF⟩ := k_ldl_ex hF
            refine x_lald hx hb hK hP 13 rfl hin hn dL_law_384 ?_
            refine W.lcmp hx hb dL_law_385 ?_
            refine lv_if_eq (tgt := 391) hx hb dL_law_386 (by decide) (fun hc => ?_) (fun hc => ?_)
            · have hF := k_if_t hF hc
              refine lv_iload_n hx hb dL_law_391 rfl (lv_at hl 4 rfl) ?_
              refine lv_iload hx hb dL_law_392 (lv_at hl 0 rfl) ?_
              refine lv_if_ge (tgt := 401) hx hb dL_law_394 (by decide) (fun hc => ?_) (fun hc => ?_)
              · have hF := k_if_t hF hc
                refine lv_iconst (v := (1 : Int32)) hx hb dL_law_401 (by decide) ?_
                refine lv_iadd hx hb dL_law_402 ?_
                obtain ⟨x3_403, hn, hF⟩ := k_let_ex hF
                refine x_nm hn ?_
                refine lv_istore_n (lv' := [(3, .int x3_403), (12, .int t0), (0, .ref b), (1, .ref aM), (2, .ref aV), (4, .long x4), (6, .int x6), (9, .int x9)]) hx hb dL_law_403 rfl hl (by decide) rfl (fun ls hl => ?_)
                obtain ⟨x6_404, hn, hF⟩ := k_let_ex hF
                refine lv_iinc (v := x6_404) (lv' := [(6, .int x6_404), (3, .int x3_403), (12, .int t0), (0, .ref b), (1, .ref aM), (2, .ref aV), (4, .long x4), (9, .int x9)]) hx hb dL_law_404 hl (k := 6) rfl (by rw [hn]; rfl) (by decide) rfl (fun ls hl => ?_)
                refine lv_goto (tgt := 74) hx hb dL_law_407 (by decide) ?_
                exact (hG _ _ _).1 (ih_74 x3_403 x4 x6_404 vc vhf vhl vhs vsf vss vpl vpp vra vrk vrt vrn vtl vta vtt vtp vv hF _ _ _ hP hD hS (lv_sub hl [3, 4, 5, 1, 6, 0] rfl))
              · have hF := k_if_f hF hc
                refine lv_iconst (v := (0 : Int32)) hx hb dL_law_397 (by decide) ?_
                refine lv_goto (tgt := 402) hx hb dL_law_398 (by decide) ?_
                refine lv_iadd hx hb dL_law_402 ?_
                obtain ⟨x3_403, hn, hF⟩ := k_let_ex hF
                refine x_nm hn ?_
                refine lv_istore_n (lv' := [(3, .int x3_403), (12, .int t0), (0, .ref b), (1, .ref aM), (2, .ref aV), (4, .long x4), (6, .int x6), (9, .int x9)]) hx hb dL_law_403 rfl hl (by decide) rfl (fun ls hl => ?_)
                obtain ⟨x6_404, hn, hF⟩ := k_let_ex hF
                refine lv_iinc (v := x6_404) (lv' := [(6, .int x6_404), (3, .int x3_403), (12, .int t0), (0, .ref b), (1, .ref aM), (2, .ref aV), (4, .long x4), (9, .int x9)]) hx hb dL_law_404 hl (k := 6) rfl (by rw [hn]; rfl) (by decide) rfl (fun ls hl => ?_)
                refine lv_goto (tgt := 74) hx hb dL_law_407 (by decide) ?_
                exact (hG _ _ _).1 (ih_74 x3_403 x4 x6_404 vc vhf vhl vhs vsf vss vpl vpp vra vrk vrt vrn vtl vta vtt vtp vv hF _ _ _ hP hD hS (lv_sub hl [3, 4, 5, 1, 6, 0] rfl))
            · have hF := k_if_f hF hc
              refine lv_iconst (v := (0 : Int32)) hx hb dL_law_389 (by decide) ?_
              exact absurd (Option.some.inj hF) (by decide)
      intro x3 x4 x6 vc vhf vhl vhs vsf vss vpl vpp vra vrk vrt vrn vtl vta vtt vtp vv hF H locs ls hP hD hS hl
      replace hF : b_L_law_74 N L xs (f_L_law_74 N L xs n_74) x3 x4 x6 vc vhf vhl vhs vsf vss vpl vpp vra vrk vrt vrn vtl vta vtt vtp vv = some 1 := hF
      unfold b_L_law_74 at hF
      refine (hG _ _ _).2 ?_
      refine lv_iload hx hb dL_law_74 (lv_at hl 5 rfl) ?_
      refine lv_bipush (v := (26 : Int32)) hx hb dL_law_76 (by decide) ?_
      refine lv_icmp_ge (tgt := 410) hx hb dL_law_78 (by decide) (fun hc => ?_) (fun hc => ?_)
      · have hF := k_if_t hF hc
        refine lv_aload_n hx hb dL_law_410 rfl (lv_at hl 2 rfl) ?_
        refine lv_iload_n hx hb dL_law_411 rfl (lv_at hl 3 rfl) ?_
        refine lv_aload_n hx hb dL_law_412 rfl (lv_at hl 1 rfl) ?_
        obtain ⟨r413, hC, hF⟩ := k_c1_ex hF
        refine x_SRl (As := [.ref aM]) (rest := [.int x3, .ref aV]) ⟨hx, hb, hml, hown, hts⟩ (c_L_seen l D cyI cyZ aM aS aC aH aHs aL aP aPc aR aT N vc vhf vhl vpl hC) (va_cwS 1 hts gL_law_L_seen rfl rfl rfl (by decide +kernel) ⟨Nat.le_of_ble_eq_true rfl, Nat.le_of_ble_eq_true rfl⟩) hK hP hS [0, 1, 2, 3, 7] rfl rfl hl.1 rfl (Nat.le_of_ble_eq_true rfl) ⟨Nat.le_of_ble_eq_true rfl, Nat.le_of_ble_eq_true rfl⟩ dL_law_413 (fun H locs hP hS => ?_)
        obtain ⟨vv_416, hin, hn, hF⟩ := k_stl_ex hF
        refine x_last hx hb hK hP hD hS 13 rfl hin hn dL_law_416 (fun H locs hP hD hS => ?_)
        have hP : va_P D vwCl [(aM, .inr (6, [.ref aS, .ref aH, .ref aL, .ref aP, .ref aR, .ref aT])), (aS, .inr (3, [.ref aC])), (aC, .inl (cyI, 225, .inl vc)), (aH, .inr (0, [.ref aHs, .int vhf, .int vhl])), (aHs, .inl (cyI, 1575, .inl vhs)), (aL, .inr (4, [.ref aLs, .int vsf])), (aLs, .inl (cyI, 450, .inl vss)), (aP, .inr (1, [.ref aPc, .int vpl])), (aPc, .inl (cyI, 80, .inl vpp)), (aR, .inr (2, [.ref aP, .ref aRn, .int vra, .int vrk, .int vrt])), (aRn, .inl (cyI, 40, .inl vrn)), (aT, .inr (5, [.ref aTp, .int vtl, .int vta, .int vtt])), (aTp, .inl (cyI, 552, .inl vtp)), (aV, .inl (cyZ, 64, .inr (.inl vv_416)))] H := hP
        have hD : va_D (fun q : Nat => s.heap.size ≤ q) [(aM, .inr (6, [.ref aS, .ref aH, .ref aL, .ref aP, .ref aR, .ref aT])), (aS, .inr (3, [.ref aC])), (aC, .inl (cyI, 225, .inl vc)), (aH, .inr (0, [.ref aHs, .int vhf, .int vhl])), (aHs, .inl (cyI, 1575, .inl vhs)), (aL, .inr (4, [.ref aLs, .int vsf])), (aLs, .inl (cyI, 450, .inl vss)), (aP, .inr (1, [.ref aPc, .int vpl])), (aPc, .inl (cyI, 80, .inl vpp)), (aR, .inr (2, [.ref aP, .ref aRn, .int vra, .int vrk, .int vrt])), (aRn, .inl (cyI, 40, .inl vrn)), (aT, .inr (5, [.ref aTp, .int vtl, .int vta, .int vtt])), (aTp, .inl (cyI, 552, .inl vtp)), (aV, .inl (cyZ, 64, .inr (.inl vv_416)))] := hD
        refine lv_aload_n hx hb dL_law_417 rfl (lv_at hl 1 rfl) ?_
        obtain ⟨r418, vc_418, vhf_418, vhl_418, vhs_418, vsf_418, vss_418, vpl_418, vpp_418, vra_418, vrk_418, vrt_418, vrn_418, vtl_418, vta_418, vtt_418, vtp_418, hC, hF⟩ := k_c17_ex hF
        refine x_SM (As := [.ref aM]) (rest := []) ⟨hx, hb, hml, hown, hts⟩ (c_L_refused l D cyI cyZ aM aS aC aH aHs aL aLs aP aPc aR aRn aT aTp H.size N vc vhf vhl vhs vsf vss vpl vpp vra vrk vrt vrn vtl vta vtt vtp hC) (va_cwS 1 hts gL_law_L_refused rfl rfl rfl (by decide +kernel) ⟨Nat.le_of_ble_eq_true rfl, Nat.le_of_ble_eq_true rfl⟩) hK hP hD hS hA [0, 1, 2, 3, 4, 5, 6, 7, 8, 9, 10, 11, 12] rfl rfl rfl rfl hl.1 rfl (Nat.le_of_ble_eq_true rfl) ⟨Nat.le_of_ble_eq_true rfl, Nat.le_of_ble_eq_true rfl⟩ dL_law_418 (fun H locs hP hD hS => ?_)
        have hP : va_P D vwCl [(aM, .inr (6, [.ref aS, .ref aH, .ref aL, .ref aP, .ref aR, .ref aT])), (aS, .inr (3, [.ref aC])), (aC, .inl (cyI, 225, .inl vc_418)), (aH, .inr (0, [.ref aHs, .int vhf_418, .int vhl_418])), (aHs, .inl (cyI, 1575, .inl vhs_418)), (aL, .inr (4, [.ref aLs, .int vsf_418])), (aLs, .inl (cyI, 450, .inl vss_418)), (aP, .inr (1, [.ref aPc, .int vpl_418])), (aPc, .inl (cyI, 80, .inl vpp_418)), (aR, .inr (2, [.ref aP, .ref aRn, .int vra_418, .int vrk_418, .int vrt_418])), (aRn, .inl (cyI, 40, .inl vrn_418)), (aT, .inr (5, [.ref aTp, .int vtl_418, .int vta_418, .int vtt_418])), (aTp, .inl (cyI, 552, .inl vtp_418)), (aV, .inl (cyZ, 64, .inr (.inl vv_416)))] H := hP
        have hD : va_D (fun q : Nat => s.heap.size ≤ q) [(aM, .inr (6, [.ref aS, .ref aH, .ref aL, .ref aP, .ref aR, .ref aT])), (aS, .inr (3, [.ref aC])), (aC, .inl (cyI, 225, .inl vc_418)), (aH, .inr (0, [.ref aHs, .int vhf_418, .int vhl_418])), (aHs, .inl (cyI, 1575, .inl vhs_418)), (aL, .inr (4, [.ref aLs, .int vsf_418])), (aLs, .inl (cyI, 450, .inl vss_418)), (aP, .inr (1, [.ref aPc, .int vpl_418])), (aPc, .inl (cyI, 80, .inl vpp_418)), (aR, .inr (2, [.ref aP, .ref aRn, .int vra_418, .int vrk_418, .int vrt_418])), (aRn, .inl (cyI, 40, .inl vrn_418)), (aT, .inr (5, [.ref aTp, .int vtl_418, .int vta_418, .int vtt_418])), (aTp, .inl (cyI, 552, .inl vtp_418)), (aV, .inl (cyZ, 64, .inr (.inl vv_416)))] := hD
        refine lv_if_ne (tgt := 426) hx hb dL_law_421 (by decide) (fun hc => ?_) (fun hc => ?_)
        · have hF := k_if_f hF hc
          refine lv_iconst (v := (0 : Int32)) hx hb dL_law_426 (by decide) ?_
          refine lv_istore (lv' := [(6, .int (0 : Int32)), (0, .ref b), (1, .ref aM), (2, .ref aV), (3, .int x3), (4, .long x4)]) hx hb dL_law_427 hl (by decide) rfl (fun ls hl => ?_)
          exact (hG _ _ _).1 (blk_429 N x3 x4 (0 : Int32) vc_418 vhf_418 vhl_418 vhs_418 vsf_418 vss_418 vpl_418 vpp_418 vra_418 vrk_418 vrt_418 vrn_418 vtl_418 vta_418 vtt_418 vtp_418 vv_416 hF _ _ _ hP hD hS (lv_sub hl [2, 3, 4, 5, 0] rfl))
        · have hF := k_if_t hF hc
          refine lv_iconst (v := (0 : Int32)) hx hb dL_law_424 (by decide) ?_
          exact absurd (Option.some.inj hF) (by decide)
      · have hF := k_if_f hF hc
        refine lv_aload_n hx hb dL_law_81 rfl (lv_at hl 0 rfl) ?_
        refine lv_iload hx hb dL_law_82 (lv_at hl 5 rfl) ?_
        obtain ⟨r84, hC, hF⟩ := k_c1_ex hF
        refine x_SX (b := b) (L := L) (xs := xs) (As := [.ref b, .int x6]) (rest := []) ⟨hx, hb, hml, hown, hts⟩ (c_L_drawn_script l N b L xs x6 hC) (va_cwS 2 hts gL_law_L_drawn rfl rfl rfl (by decide +kernel) ⟨Nat.le_of_ble_eq_true rfl, Nat.le_of_ble_eq_true rfl⟩) hX hbl hbA hP hS rfl hl.1 rfl (Nat.le_of_ble_eq_true rfl) ⟨Nat.le_of_ble_eq_true rfl, Nat.le_of_ble_eq_true rfl⟩ dL_law_84 (fun H locs hP hS => ?_)
        refine lv_istore (lv' := [(7, .int r84), (0, .ref b), (1, .ref aM), (2, .ref aV), (3, .int x3), (4, .long x4), (6, .int x6)]) hx hb dL_law_87 hl (by decide) rfl (fun ls hl => ?_)
        refine lv_iload hx hb dL_law_89 (lv_at hl 0 rfl) ?_
        refine lv_bipush (v := (11 : Int32)) hx hb dL_law_91 (by decide) ?_
        obtain ⟨r93, hC, hF⟩ := k_c1_ex hF
        refine x_SR (As := [.int r84, .int (11 : Int32)]) (rest := []) ⟨hx, hb, hml, hown, hts⟩ (c_L_part l D cyI cyZ N r84 (11 : Int32) hC) (va_cwS 2 hts gL_law_L_part rfl rfl rfl (by decide +kernel) ⟨Nat.le_of_ble_eq_true rfl, Nat.le_of_ble_eq_true rfl⟩) hK hP hS [] rfl rfl hl.1 rfl (Nat.le_of_ble_eq_true rfl) ⟨Nat.le_of_ble_eq_true rfl, Nat.le_of_ble_eq_true rfl⟩ dL_law_93 (fun H locs hP hS => ?_)
        refine lv_istore (lv' := [(8, .int r93), (7, .int r84), (0, .ref b), (1, .ref aM), (2, .ref aV), (3, .int x3), (4, .long x4), (6, .int x6)]) hx hb dL_law_96 hl (by decide) rfl (fun ls hl => ?_)
        refine lv_aload_n hx hb dL_law_98 rfl (lv_at hl 4 rfl) ?_
        refine lv_iload_n hx hb dL_law_99 rfl (lv_at hl 5 rfl) ?_
        refine lv_aload_n hx hb dL_law_100 rfl (lv_at hl 3 rfl) ?_
        obtain ⟨r101, hC, hF⟩ := k_c1_ex hF
        refine x_SRl (As := [.ref aM]) (rest := [.int x3, .ref aV]) ⟨hx, hb, hml, hown, hts⟩ (c_L_seen l D cyI cyZ aM aS aC aH aHs aL aP aPc aR aT N vc vhf vhl vpl hC) (va_cwS 1 hts gL_law_L_seen rfl rfl rfl (by decide +kernel) ⟨Nat.le_of_ble_eq_true rfl, Nat.le_of_ble_eq_true rfl⟩) hK hP hS [0, 1, 2, 3, 7] rfl rfl hl.1 rfl (Nat.le_of_ble_eq_true rfl) ⟨Nat.le_of_ble_eq_true rfl, Nat.le_of_ble_eq_true rfl⟩ dL_law_101 (fun H locs hP hS => ?_)
        obtain ⟨vv_104, hin, hn, hF⟩ := k_stl_ex hF
        refine x_last hx hb hK hP hD hS 13 rfl hin hn dL_law_104 (fun H locs hP hD hS => ?_)
        have hP : va_P D vwCl [(aM, .inr (6, [.ref aS, .ref aH, .ref aL, .ref aP, .ref aR, .ref aT])), (aS, .inr (3, [.ref aC])), (aC, .inl (cyI, 225, .inl vc)), (aH, .inr (0, [.ref aHs, .int vhf, .int vhl])), (aHs, .inl (cyI, 1575, .inl vhs)), (aL, .inr (4, [.ref aLs, .int vsf])), (aLs, .inl (cyI, 450, .inl vss)), (aP, .inr (1, [.ref aPc, .int vpl])), (aPc, .inl (cyI, 80, .inl vpp)), (aR, .inr (2, [.ref aP, .ref aRn, .int vra, .int vrk, .int vrt])), (aRn, .inl (cyI, 40, .inl vrn)), (aT, .inr (5, [.ref aTp, .int vtl, .int vta, .int vtt])), (aTp, .inl (cyI, 552, .inl vtp)), (aV, .inl (cyZ, 64, .inr (.inl vv_104)))] H := hP
        have hD : va_D (fun q : Nat => s.heap.size ≤ q) [(aM, .inr (6, [.ref aS, .ref aH, .ref aL, .ref aP, .ref aR, .ref aT])), (aS, .inr (3, [.ref aC])), (aC, .inl (cyI, 225, .inl vc)), (aH, .inr (0, [.ref aHs, .int vhf, .int vhl])), (aHs, .inl (cyI, 1575, .inl vhs)), (aL, .inr (4, [.ref aLs, .int vsf])), (aLs, .inl (cyI, 450, .inl vss)), (aP, .inr (1, [.ref aPc, .int vpl])), (aPc, .inl (cyI, 80, .inl vpp)), (aR, .inr (2, [.ref aP, .ref aRn, .int vra, .int vrk, .int vrt])), (aRn, .inl (cyI, 40, .inl vrn)), (aT, .inr (5, [.ref aTp, .int vtl, .int vta, .int vtt])), (aTp, .inl (cyI, 552, .inl vtp)), (aV, .inl (cyZ, 64, .inr (.inl vv_104)))] := hD
        refine lv_aload_n hx hb dL_law_105 rfl (lv_at hl 3 rfl) ?_
        refine lv_bipush (v := (10 : Int32)) hx hb dL_law_106 (by decide) ?_
        obtain ⟨r108, hC, hF⟩ := k_c1_ex hF
        refine x_VR (As := [.int (10 : Int32)]) (rest := []) ⟨hx, hb, hml, hown, hts⟩ (c_X6_count l D cyI cyZ aM aS aC aH aHs aL aP aPc aR aT N (10 : Int32) vc vhf vhl vpl hC) (cwV 1 hts gL_law_X6_count rfl rfl rfl (by decide +kernel) ⟨Nat.le_of_ble_eq_true rfl, Nat.le_of_ble_eq_true rfl⟩) hK hP hS [0, 1, 2, 3, 7] rfl 0 rfl rfl rfl rfl hl.1 rfl (Nat.le_of_ble_eq_true rfl) ⟨Nat.le_of_ble_eq_true rfl, Nat.le_of_ble_eq_true rfl⟩ dL_law_108 (fun H locs hP hS => ?_)
        refine lv_istore (lv' := [(9, .int r108), (8, .int r93), (7, .int r84), (0, .ref b), (1, .ref aM), (2, .ref aV), (3, .int x3), (4, .long x4), (6, .int x6)]) hx hb dL_law_111 hl (by decide) rfl (fun ls hl => ?_)
        refine lv_iload hx hb dL_law_113 (lv_at hl 2 rfl) ?_
        refine lv_iconst (v := (4 : Int32)) hx hb dL_law_115 (by decide) ?_
        refine lv_ishr hx hb dL_law_116 ?_
        refine lv_iconst (v := (4 : Int32)) hx hb dL_law_117 (by decide) ?_
        obtain ⟨r118, hC, hF⟩ := k_c1_ex hF
        refine x_SR (As := [.int (r84 >>> ((4 : Int32) &&& 31)), .int (4 : Int32)]) (rest := []) ⟨hx, hb, hml, hown, hts⟩ (c_L_part l D cyI cyZ N (r84 >>> ((4 : Int32) &&& 31)) (4 : Int32) hC) (va_cwS 2 hts gL_law_L_part rfl rfl rfl (by decide +kernel) ⟨Nat.le_of_ble_eq_true rfl, Nat.le_of_ble_eq_true rfl⟩) hK hP hS [] rfl rfl hl.1 rfl (Nat.le_of_ble_eq_true rfl) ⟨Nat.le_of_ble_eq_true rfl, Nat.le_of_ble_eq_true rfl⟩ dL_law_118 (fun H locs hP hS => ?_)
        refine lv_istore (lv' := [(10, .int r118), (9, .int r108), (8, .int r93), (7, .int r84), (0, .ref b), (1, .ref aM), (2, .ref aV), (3, .int x3), (4, .long x4), (6, .int x6)]) hx hb dL_law_121 hl (by decide) rfl (fun ls hl => ?_)
        refine lv_iload hx hb dL_law_123 (lv_at hl 3 rfl) ?_
        refine lv_bipush (v := (6 : Int32)) hx hb dL_law_125 (by decide) ?_
        refine lv_ishr hx hb dL_law_127 ?_
        refine lv_iconst (v := (3 : Int32)) hx hb dL_law_128 (by decide) ?_
        obtain ⟨r129, hC, hF⟩ := k_c1_ex hF
        refine x_SR (As := [.int (r84 >>> ((6 : Int32) &&& 31)), .int (3 : Int32)]) (rest := []) ⟨hx, hb, hml, hown, hts⟩ (c_L_part l D cyI cyZ N (r84 >>> ((6 : Int32) &&& 31)) (3 : Int32) hC) (va_cwS 2 hts gL_law_L_part rfl rfl rfl (by decide +kernel) ⟨Nat.le_of_ble_eq_true rfl, Nat.le_of_ble_eq_true rfl⟩) hK hP hS [] rfl rfl hl.1 rfl (Nat.le_of_ble_eq_true rfl) ⟨Nat.le_of_ble_eq_true rfl, Nat.le_of_ble_eq_true rfl⟩ dL_law_129 (fun H locs hP hS => ?_)
        refine lv_istore (lv' := [(11, .int r129), (10, .int r118), (9, .int r108), (8, .int r93), (7, .int r84), (0, .ref b), (1, .ref aM), (2, .ref aV), (3, .int x3), (4, .long x4), (6, .int x6)]) hx hb dL_law_132 hl (by decide) rfl (fun ls hl => ?_)
        refine lv_iload hx hb dL_law_134 (lv_at hl 3 rfl) ?_
        refine lv_if_ne (tgt := 168) hx hb dL_law_136 (by decide) (fun hc => ?_) (fun hc => ?_)
        · have hF := k_if_f hF hc
          refine lv_iload hx hb dL_law_168 (lv_at hl 3 rfl) ?_
          refine lv_iconst (v := (3 : Int32)) hx hb dL_law_170 (by decide) ?_
          refine lv_icmp_ge (tgt := 205) hx hb dL_law_171 (by decide) (fun hc => ?_) (fun hc => ?_)
          · have hF := k_if_t hF hc
            refine lv_iload hx hb dL_law_205 (lv_at hl 3 rfl) ?_
            refine lv_iconst (v := (3 : Int32)) hx hb dL_law_207 (by decide) ?_
            refine lv_icmp_ne (tgt := 237) hx hb dL_law_208 (by decide) (fun hc => ?_) (fun hc => ?_)
            · have hF := k_if_f hF hc
              refine lv_iload hx hb dL_law_237 (lv_at hl 3 rfl) ?_
              refine lv_iconst (v := (4 : Int32)) hx hb dL_law_239 (by decide) ?_
              refine lv_icmp_ne (tgt := 262) hx hb dL_law_240 (by decide) (fun hc => ?_) (fun hc => ?_)
              · have hF := k_if_f hF hc
                refine lv_iload hx hb dL_law_262 (lv_at hl 3 rfl) ?_
                refine lv_bipush (v := (9 : Int32)) hx hb dL_law_264 (by decide) ?_
                refine lv_icmp_ge (tgt := 323) hx hb dL_law_266 (by decide) (fun hc => ?_) (fun hc => ?_)
                · have hF := k_if_t hF hc
                  refine lv_iload hx hb dL_law_323 (lv_at hl 3 rfl) ?_
                  refine lv_bipush (v := (9 : Int32)) hx hb dL_law_325 (by decide) ?_
                  refine lv_icmp_ne (tgt := 348) hx hb dL_law_327 (by decide) (fun hc => ?_) (fun hc => ?_)
                  · have hF := k_if_f hF hc
                    refine lv_aload_n hx hb dL_law_348 rfl (lv_at hl 6 rfl) ?_
                    refine lv_iload hx hb dL_law_349 (lv_at hl 4 rfl) ?_
                    refine lv_iconst (v := (4 : Int32)) hx hb dL_law_351 (by decide) ?_
                    refine lv_ishr hx hb dL_law_352 ?_
                    refine lv_iconst (v := (2 : Int32)) hx hb dL_law_353 (by decide) ?_
                    obtain ⟨r354, hC, hF⟩ := k_c1_ex hF
                    refine x_SR (As := [.int (r84 >>> ((4 : Int32) &&& 31)), .int (2 : Int32)]) (rest := [.ref aM]) ⟨hx, hb, hml, hown, hts⟩ (c_L_part l D cyI cyZ N (r84 >>> ((4 : Int32) &&& 31)) (2 : Int32) hC) (va_cwS 2 hts gL_law_L_part rfl rfl rfl (by decide +kernel) ⟨Nat.le_of_ble_eq_true rfl, Nat.le_of_ble_eq_true rfl⟩) hK hP hS [] rfl rfl hl.1 rfl (Nat.le_of_ble_eq_true rfl) ⟨Nat.le_of_ble_eq_true rfl, Nat.le_of_ble_eq_true rfl⟩ dL_law_354 (fun H locs hP hS => ?_)
                    obtain ⟨r357, vc_357, vhf_357, vhl_357, vhs_357, hC, hF⟩ := k_c5_ex hF
                    refine x_VM (As := [.int r354]) (rest := []) ⟨hx, hb, hml, hown, hts⟩ (c_X6_restore l D cyI cyZ aM aS aC aH aHs aL aLs aP aR aT H.size N r354 vc vhf vhl vhs vsf vss hC) (cwV 1 hts gL_law_X6_restore rfl rfl rfl (by decide +kernel) ⟨Nat.le_of_ble_eq_true rfl, Nat.le_of_ble_eq_true rfl⟩) hK hP hD hS hA [0, 1, 2, 3, 4, 5, 6] rfl rfl rfl 0 rfl rfl rfl rfl hl.1 rfl (Nat.le_of_ble_eq_true rfl) ⟨Nat.le_of_ble_eq_true rfl, Nat.le_of_ble_eq_true rfl⟩ dL_law_357 (fun H locs hP hD hS => ?_)
                    have hP : va_P D vwCl [(aM, .inr (6, [.ref aS, .ref aH, .ref aL, .ref aP, .ref aR, .ref aT])), (aS, .inr (3, [.ref aC])), (aC, .inl (cyI, 225, .inl vc_357)), (aH, .inr (0, [.ref aHs, .int vhf_357, .int vhl_357])), (aHs, .inl (cyI, 1575, .inl vhs_357)), (aL, .inr (4, [.ref aLs, .int vsf])), (aLs, .inl (cyI, 450, .inl vss)), (aP, .inr (1, [.ref aPc, .int vpl])), (aPc, .inl (cyI, 80, .inl vpp)), (aR, .inr (2, [.ref aP, .ref aRn, .int vra, .int vrk, .int vrt])), (aRn, .inl (cyI, 40, .inl vrn)), (aT, .inr (5, [.ref aTp, .int vtl, .int vta, .int vtt])), (aTp, .inl (cyI, 552, .inl vtp)), (aV, .inl (cyZ, 64, .inr (.inl vv_104)))] H := hP
                    have hD : va_D (fun q : Nat => s.heap.size ≤ q) [(aM, .inr (6, [.ref aS, .ref aH, .ref aL, .ref aP, .ref aR, .ref aT])), (aS, .inr (3, [.ref aC])), (aC, .inl (cyI, 225, .inl vc_357)), (aH, .inr (0, [.ref aHs, .int vhf_357, .int vhl_357])), (aHs, .inl (cyI, 1575, .inl vhs_357)), (aL, .inr (4, [.ref aLs, .int vsf])), (aLs, .inl (cyI, 450, .inl vss)), (aP, .inr (1, [.ref aPc, .int vpl])), (aPc, .inl (cyI, 80, .inl vpp)), (aR, .inr (2, [.ref aP, .ref aRn, .int vra, .int vrk, .int vrt])), (aRn, .inl (cyI, 40, .inl vrn)), (aT, .inr (5, [.ref aTp, .int vtl, .int vta, .int vtt])), (aTp, .inl (cyI, 552, .inl vtp)), (aV, .inl (cyZ, 64, .inr (.inl vv_104)))] := hD
                    exact (hG _ _ _).1 (blk_360 x3 x4 x6 r108 r357 vc_357 vhf_357 vhl_357 vhs_357 vsf vss vpl vpp vra vrk vrt vrn vtl vta vtt vtp vv_104 hF _ _ _ hP hD hS (lv_sub hl [5, 6, 7, 8, 9, 10, 2] rfl))
                  · have hF := k_if_t hF hc
                    refine lv_aload_n hx hb dL_law_330 rfl (lv_at hl 6 rfl) ?_
                    refine lv_iconst (v := (0 : Int32)) hx hb dL_law_331 (by decide) ?_
                    obtain ⟨r332, hC, hF⟩ := k_c1_ex hF
                    refine x_VR (As := [.int (0 : Int32)]) (rest := []) ⟨hx, hb, hml, hown, hts⟩ (c_X6_count l D cyI cyZ aM aS aC aH aHs aL aP aPc aR aT N (0 : Int32) vc vhf vhl vpl hC) (cwV 1 hts gL_law_X6_count rfl rfl rfl (by decide +kernel) ⟨Nat.le_of_ble_eq_true rfl, Nat.le_of_ble_eq_true rfl⟩) hK hP hS [0, 1, 2, 3, 7] rfl 0 rfl rfl rfl rfl hl.1 rfl (Nat.le_of_ble_eq_true rfl) ⟨Nat.le_of_ble_eq_true rfl, Nat.le_of_ble_eq_true rfl⟩ dL_law_332 (fun H locs hP hS => ?_)
                    refine lv_iconst (v := (2 : Int32)) hx hb dL_law_335 (by decide) ?_
                    refine lv_icmp_le (tgt := 348) hx hb dL_law_336 (by decide) (fun hc => ?_) (fun hc => ?_)
                    · have hF := k_if_t hF hc
                      refine lv_aload_n hx hb dL_law_348 rfl (lv_at hl 6 rfl) ?_
                      refine lv_iload hx hb dL_law_349 (lv_at hl 4 rfl) ?_
                      refine lv_iconst (v := (4 : Int32)) hx hb dL_law_351 (by decide) ?_
                      refine lv_ishr hx hb dL_law_352 ?_
                      refine lv_iconst (v := (2 : Int32)) hx hb dL_law_353 (by decide) ?_
                      obtain ⟨r354, hC, hF⟩ := k_c1_ex hF
                      refine x_SR (As := [.int (r84 >>> ((4 : Int32) &&& 31)), .int (2 : Int32)]) (rest := [.ref aM]) ⟨hx, hb, hml, hown, hts⟩ (c_L_part l D cyI cyZ N (r84 >>> ((4 : Int32) &&& 31)) (2 : Int32) hC) (va_cwS 2 hts gL_law_L_part rfl rfl rfl (by decide +kernel) ⟨Nat.le_of_ble_eq_true rfl, Nat.le_of_ble_eq_true rfl⟩) hK hP hS [] rfl rfl hl.1 rfl (Nat.le_of_ble_eq_true rfl) ⟨Nat.le_of_ble_eq_true rfl, Nat.le_of_ble_eq_true rfl⟩ dL_law_354 (fun H locs hP hS => ?_)
                      obtain ⟨r357, vc_357, vhf_357, vhl_357, vhs_357, hC, hF⟩ := k_c5_ex hF
                      refine x_VM (As := [.int r354]) (rest := []) ⟨hx, hb, hml, hown, hts⟩ (c_X6_restore l D cyI cyZ aM aS aC aH aHs aL aLs aP aR aT H.size N r354 vc vhf vhl vhs vsf vss hC) (cwV 1 hts gL_law_X6_restore rfl rfl rfl (by decide +kernel) ⟨Nat.le_of_ble_eq_true rfl, Nat.le_of_ble_eq_true rfl⟩) hK hP hD hS hA [0, 1, 2, 3, 4, 5, 6] rfl rfl rfl 0 rfl rfl rfl rfl hl.1 rfl (Nat.le_of_ble_eq_true rfl) ⟨Nat.le_of_ble_eq_true rfl, Nat.le_of_ble_eq_true rfl⟩ dL_law_357 (fun H locs hP hD hS => ?_)
                      have hP : va_P D vwCl [(aM, .inr (6, [.ref aS, .ref aH, .ref aL, .ref aP, .ref aR, .ref aT])), (aS, .inr (3, [.ref aC])), (aC, .inl (cyI, 225, .inl vc_357)), (aH, .inr (0, [.ref aHs, .int vhf_357, .int vhl_357])), (aHs, .inl (cyI, 1575, .inl vhs_357)), (aL, .inr (4, [.ref aLs, .int vsf])), (aLs, .inl (cyI, 450, .inl vss)), (aP, .inr (1, [.ref aPc, .int vpl])), (aPc, .inl (cyI, 80, .inl vpp)), (aR, .inr (2, [.ref aP, .ref aRn, .int vra, .int vrk, .int vrt])), (aRn, .inl (cyI, 40, .inl vrn)), (aT, .inr (5, [.ref aTp, .int vtl, .int vta, .int vtt])), (aTp, .inl (cyI, 552, .inl vtp)), (aV, .inl (cyZ, 64, .inr (.inl vv_104)))] H := hP
                      have hD : va_D (fun q : Nat => s.heap.size ≤ q) [(aM, .inr (6, [.ref aS, .ref aH, .ref aL, .ref aP, .ref aR, .ref aT])), (aS, .inr (3, [.ref aC])), (aC, .inl (cyI, 225, .inl vc_357)), (aH, .inr (0, [.ref aHs, .int vhf_357, .int vhl_357])), (aHs, .inl (cyI, 1575, .inl vhs_357)), (aL, .inr (4, [.ref aLs, .int vsf])), (aLs, .inl (cyI, 450, .inl vss)), (aP, .inr (1, [.ref aPc, .int vpl])), (aPc, .inl (cyI, 80, .inl vpp)), (aR, .inr (2, [.ref aP, .ref aRn, .int vra, .int vrk, .int vrt])), (aRn, .inl (cyI, 40, .inl vrn)), (aT, .inr (5, [.ref aTp, .int vtl, .int vta, .int vtt])), (aTp, .inl (cyI, 552, .inl vtp)), (aV, .inl (cyZ, 64, .inr (.inl vv_104)))] := hD
                      exact (hG _ _ _).1 (blk_360 x3 x4 x6 r108 r357 vc_357 vhf_357 vhl_357 vhs_357 vsf vss vpl vpp vra vrk vrt vrn vtl vta vtt vtp vv_104 hF _ _ _ hP hD hS (lv_sub hl [5, 6, 7, 8, 9, 10, 2] rfl))
                    · have hF := k_if_f hF hc
                      refine lv_aload_n hx hb dL_law_339 rfl (lv_at hl 6 rfl) ?_
                      refine lv_iload hx hb dL_law_340 (lv_at hl 1 rfl) ?_
                      obtain ⟨r342, vc_342, vhf_342, vhl_342, vhs_342, hC, hF⟩ := k_c5_ex hF
                      refine x_VM (As := [.int r118]) (rest := []) ⟨hx, hb, hml, hown, hts⟩ (c_X6_melt l D cyI cyZ aM aS aC aH aHs aL aP aR aT H.size N r118 vc vhf vhl vhs hC) (cwV 1 hts gL_law_X6_melt rfl rfl rfl (by decide +kernel) ⟨Nat.le_of_ble_eq_true rfl, Nat.le_of_ble_eq_true rfl⟩) hK hP hD hS hA [0, 1, 2, 3, 4] rfl rfl rfl 0 rfl rfl rfl rfl hl.1 rfl (Nat.le_of_ble_eq_true rfl) ⟨Nat.le_of_ble_eq_true rfl, Nat.le_of_ble_eq_true rfl⟩ dL_law_342 (fun H locs hP hD hS => ?_)
                      have hP : va_P D vwCl [(aM, .inr (6, [.ref aS, .ref aH, .ref aL, .ref aP, .ref aR, .ref aT])), (aS, .inr (3, [.ref aC])), (aC, .inl (cyI, 225, .inl vc_342)), (aH, .inr (0, [.ref aHs, .int vhf_342, .int vhl_342])), (aHs, .inl (cyI, 1575, .inl vhs_342)), (aL, .inr (4, [.ref aLs, .int vsf])), (aLs, .inl (cyI, 450, .inl vss)), (aP, .inr (1, [.ref aPc, .int vpl])), (aPc, .inl (cyI, 80, .inl vpp)), (aR, .inr (2, [.ref aP, .ref aRn, .int vra, .int vrk, .int vrt])), (aRn, .inl (cyI, 40, .inl vrn)), (aT, .inr (5, [.ref aTp, .int vtl, .int vta, .int vtt])), (aTp, .inl (cyI, 552, .inl vtp)), (aV, .inl (cyZ, 64, .inr (.inl vv_104)))] H := hP
                      have hD : va_D (fun q : Nat => s.heap.size ≤ q) [(aM, .inr (6, [.ref aS, .ref aH, .ref aL, .ref aP, .ref aR, .ref aT])), (aS, .inr (3, [.ref aC])), (aC, .inl (cyI, 225, .inl vc_342)), (aH, .inr (0, [.ref aHs, .int vhf_342, .int vhl_342])), (aHs, .inl (cyI, 1575, .inl vhs_342)), (aL, .inr (4, [.ref aLs, .int vsf])), (aLs, .inl (cyI, 450, .inl vss)), (aP, .inr (1, [.ref aPc, .int vpl])), (aPc, .inl (cyI, 80, .inl vpp)), (aR, .inr (2, [.ref aP, .ref aRn, .int vra, .int vrk, .int vrt])), (aRn, .inl (cyI, 40, .inl vrn)), (aT, .inr (5, [.ref aTp, .int vtl, .int vta, .int vtt])), (aTp, .inl (cyI, 552, .inl vtp)), (aV, .inl (cyZ, 64, .inr (.inl vv_104)))] := hD
                      refine lv_goto (tgt := 360) hx hb dL_law_345 (by decide) ?_
                      exact (hG _ _ _).1 (blk_360 x3 x4 x6 r108 r342 vc_342 vhf_342 vhl_342 vhs_342 vsf vss vpl vpp vra vrk vrt vrn vtl vta vtt vtp vv_104 hF _ _ _ hP hD hS (lv_sub hl [5, 6, 7, 8, 9, 10, 2] rfl))
                · have hF := k_if_f hF hc
                  refine lv_aload_n hx hb dL_law_269 rfl (lv_at hl 6 rfl) ?_
                  refine lv_iload hx hb dL_law_270 (lv_at hl 1 rfl) ?_
                  refine lv_iload hx hb dL_law_272 (lv_at hl 0 rfl) ?_
                  refine lv_iload hx hb dL_law_274 (lv_at hl 4 rfl) ?_
                  refine lv_bipush (v := (8 : Int32)) hx hb dL_law_276 (by decide) ?_
                  refine lv_ishr hx hb dL_law_278 ?_
                  refine lv_bipush (v := (25 : Int32)) hx hb dL_law_279 (by decide) ?_
                  obtain ⟨r281, hC, hF⟩ := k_c1_ex hF
                  refine x_SR (As := [.int (r84 >>> ((8 : Int32) &&& 31)), .int (25 : Int32)]) (rest := [.int r129, .int r118, .ref aM]) ⟨hx, hb, hml, hown, hts⟩ (c_L_part l D cyI cyZ N (r84 >>> ((8 : Int32) &&& 31)) (25 : Int32) hC) (va_cwS 2 hts gL_law_L_part rfl rfl rfl (by decide +kernel) ⟨Nat.le_of_ble_eq_true rfl, Nat.le_of_ble_eq_true rfl⟩) hK hP hS [] rfl rfl hl.1 rfl (Nat.le_of_ble_eq_true rfl) ⟨Nat.le_of_ble_eq_true rfl, Nat.le_of_ble_eq_true rfl⟩ dL_law_281 (fun H locs hP hS => ?_)
                  refine lv_iload hx hb dL_law_284 (lv_at hl 4 rfl) ?_
                  refine lv_bipush (v := (12 : Int32)) hx hb dL_law_286 (by decide) ?_
                  refine lv_ishr hx hb dL_law_288 ?_
                  refine lv_bipush (v := (20 : Int32)) hx hb dL_law_289 (by decide) ?_
                  obtain ⟨r291, hC, hF⟩ := k_c1_ex hF
                  refine x_SR (As := [.int (r84 >>> ((12 : Int32) &&& 31)), .int (20 : Int32)]) (rest := [.int r281, .int r129, .int r118, .ref aM]) ⟨hx, hb, hml, hown, hts⟩ (c_L_part l D cyI cyZ N (r84 >>> ((12 : Int32) &&& 31)) (20 : Int32) hC) (va_cwS 2 hts gL_law_L_part rfl rfl rfl (by decide +kernel) ⟨Nat.le_of_ble_eq_true rfl, Nat.le_of_ble_eq_true rfl⟩) hK hP hS [] rfl rfl hl.1 rfl (Nat.le_of_ble_eq_true rfl) ⟨Nat.le_of_ble_eq_true rfl, Nat.le_of_ble_eq_true rfl⟩ dL_law_291 (fun H locs hP hS => ?_)
                  refine lv_iconst (v := (1 : Int32)) hx hb dL_law_294 (by decide) ?_
                  refine lv_iload hx hb dL_law_295 (lv_at hl 4 rfl) ?_
                  refine lv_iconst (v := (4 : Int32)) hx hb dL_law_297 (by decide) ?_
                  refine lv_ishr hx hb dL_law_298 ?_
                  refine lv_bipush (v := (20 : Int32)) hx hb dL_law_299 (by decide) ?_
                  obtain ⟨r301, hC, hF⟩ := k_c1_ex hF
                  refine x_SR (As := [.int (r84 >>> ((4 : Int32) &&& 31)), .int (20 : Int32)]) (rest := [.int (1 : Int32), .int r291, .int r281, .int r129, .int r118, .ref aM]) ⟨hx, hb, hml, hown, hts⟩ (c_L_part l D cyI cyZ N (r84 >>> ((4 : Int32) &&& 31)) (20 : Int32) hC) (va_cwS 2 hts gL_law_L_part rfl rfl rfl (by decide +kernel) ⟨Nat.le_of_ble_eq_true rfl, Nat.le_of_ble_eq_true rfl⟩) hK hP hS [] rfl rfl hl.1 rfl (Nat.le_of_ble_eq_true rfl) ⟨Nat.le_of_ble_eq_true rfl, Nat.le_of_ble_eq_true rfl⟩ dL_law_301 (fun H locs hP hS => ?_)
                  refine lv_iadd hx hb dL_law_304 ?_
                  refine lv_iconst (v := (1 : Int32)) hx hb dL_law_305 (by decide) ?_
                  refine lv_iload hx hb dL_law_306 (lv_at hl 4 rfl) ?_
                  refine lv_bipush (v := (8 : Int32)) hx hb dL_law_308 (by decide) ?_
                  refine lv_ishr hx hb dL_law_310 ?_
                  refine lv_bipush (v := (20 : Int32)) hx hb dL_law_311 (by decide) ?_
                  obtain ⟨r313, hC, hF⟩ := k_c1_ex hF
                  refine x_SR (As := [.int (r84 >>> ((8 : Int32) &&& 31)), .int (20 : Int32)]) (rest := [.int (1 : Int32), .int ((1 : Int32) + r301), .int r291, .int r281, .int r129, .int r118, .ref aM]) ⟨hx, hb, hml, hown, hts⟩ (c_L_part l D cyI cyZ N (r84 >>> ((8 : Int32) &&& 31)) (20 : Int32) hC) (va_cwS 2 hts gL_law_L_part rfl rfl rfl (by decide +kernel) ⟨Nat.le_of_ble_eq_true rfl, Nat.le_of_ble_eq_true rfl⟩) hK hP hS [] rfl rfl hl.1 rfl (Nat.le_of_ble_eq_true rfl) ⟨Nat.le_of_ble_eq_true rfl, Nat.le_of_ble_eq_true rfl⟩ dL_law_313 (fun H locs hP hS => ?_)
                  refine lv_iadd hx hb dL_law_316 ?_
                  obtain ⟨r317, vc_317, vhf_317, vhl_317, vhs_317, vtl_317, vta_317, vtt_317, vtp_317, hC, hF⟩ := k_c9_ex hF
                  refine x_VM (As := [.int r118, .int r129, .int r281, .int r291, .int ((1 : Int32) + r301), .int ((1 : Int32) + r313)]) (rest := []) ⟨hx, hb, hml, hown, hts⟩ (c_X6_run l D cyI cyZ aM aS aC aH aHs aL aP aR aT aTp H.size N r118 r129 r281 r291 ((1 : Int32) + r301) ((1 : Int32) + r313) vc vhf vhl vhs vtl vta vtt vtp hC) (cwV 6 hts gL_law_X6_run rfl rfl rfl (by decide +kernel) ⟨Nat.le_of_ble_eq_true rfl, Nat.le_of_ble_eq_true rfl⟩) hK hP hD hS hA [0, 1, 2, 3, 4, 11, 12] rfl rfl rfl 0 rfl rfl rfl rfl hl.1 rfl (Nat.le_of_ble_eq_true rfl) ⟨Nat.le_of_ble_eq_true rfl, Nat.le_of_ble_eq_true rfl⟩ dL_law_317 (fun H locs hP hD hS => ?_)
                  have hP : va_P D vwCl [(aM, .inr (6, [.ref aS, .ref aH, .ref aL, .ref aP, .ref aR, .ref aT])), (aS, .inr (3, [.ref aC])), (aC, .inl (cyI, 225, .inl vc_317)), (aH, .inr (0, [.ref aHs, .int vhf_317, .int vhl_317])), (aHs, .inl (cyI, 1575, .inl vhs_317)), (aL, .inr (4, [.ref aLs, .int vsf])), (aLs, .inl (cyI, 450, .inl vss)), (aP, .inr (1, [.ref aPc, .int vpl])), (aPc, .inl (cyI, 80, .inl vpp)), (aR, .inr (2, [.ref aP, .ref aRn, .int vra, .int vrk, .int vrt])), (aRn, .inl (cyI, 40, .inl vrn)), (aT, .inr (5, [.ref aTp, .int vtl_317, .int vta_317, .int vtt_317])), (aTp, .inl (cyI, 552, .inl vtp_317)), (aV, .inl (cyZ, 64, .inr (.inl vv_104)))] H := hP
                  have hD : va_D (fun q : Nat => s.heap.size ≤ q) [(aM, .inr (6, [.ref aS, .ref aH, .ref aL, .ref aP, .ref aR, .ref aT])), (aS, .inr (3, [.ref aC])), (aC, .inl (cyI, 225, .inl vc_317)), (aH, .inr (0, [.ref aHs, .int vhf_317, .int vhl_317])), (aHs, .inl (cyI, 1575, .inl vhs_317)), (aL, .inr (4, [.ref aLs, .int vsf])), (aLs, .inl (cyI, 450, .inl vss)), (aP, .inr (1, [.ref aPc, .int vpl])), (aPc, .inl (cyI, 80, .inl vpp)), (aR, .inr (2, [.ref aP, .ref aRn, .int vra, .int vrk, .int vrt])), (aRn, .inl (cyI, 40, .inl vrn)), (aT, .inr (5, [.ref aTp, .int vtl_317, .int vta_317, .int vtt_317])), (aTp, .inl (cyI, 552, .inl vtp_317)), (aV, .inl (cyZ, 64, .inr (.inl vv_104)))] := hD
                  refine lv_goto (tgt := 360) hx hb dL_law_320 (by decide) ?_
                  exact (hG _ _ _).1 (blk_360 x3 x4 x6 r108 r317 vc_317 vhf_317 vhl_317 vhs_317 vsf vss vpl vpp vra vrk vrt vrn vtl_317 vta_317 vtt_317 vtp_317 vv_104 hF _ _ _ hP hD hS (lv_sub hl [5, 6, 7, 8, 9, 10, 2] rfl))
              · have hF := k_if_t hF hc
                refine lv_aload_n hx hb dL_law_243 rfl (lv_at hl 6 rfl) ?_
                refine lv_iload hx hb dL_law_244 (lv_at hl 1 rfl) ?_
                refine lv_iload hx hb dL_law_246 (lv_at hl 4 rfl) ?_
                refine lv_bipush (v := (6 : Int32)) hx hb dL_law_248 (by decide) ?_
                refine lv_ishr hx hb dL_law_250 ?_
                refine lv_bipush (v := (12 : Int32)) hx hb dL_law_251 (by decide) ?_
                obtain ⟨r253, hC, hF⟩ := k_c1_ex hF
                refine x_SR (As := [.int (r84 >>> ((6 : Int32) &&& 31)), .int (12 : Int32)]) (rest := [.int r118, .ref aM]) ⟨hx, hb, hml, hown, hts⟩ (c_L_part l D cyI cyZ N (r84 >>> ((6 : Int32) &&& 31)) (12 : Int32) hC) (va_cwS 2 hts gL_law_L_part rfl rfl rfl (by decide +kernel) ⟨Nat.le_of_ble_eq_true rfl, Nat.le_of_ble_eq_true rfl⟩) hK hP hS [] rfl rfl hl.1 rfl (Nat.le_of_ble_eq_true rfl) ⟨Nat.le_of_ble_eq_true rfl, Nat.le_of_ble_eq_true rfl⟩ dL_law_253 (fun H locs hP hS => ?_)
                obtain ⟨r256, vc_256, vhf_256, vhl_256, vhs_256, hC, hF⟩ := k_c5_ex hF
                refine x_VM (As := [.int r118, .int r253]) (rest := []) ⟨hx, hb, hml, hown, hts⟩ (c_X6_set l D cyI cyZ aM aS aC aH aHs aL aP aR aT H.size N r118 r253 vc vhf vhl vhs hC) (cwV 2 hts gL_law_X6_set rfl rfl rfl (by decide +kernel) ⟨Nat.le_of_ble_eq_true rfl, Nat.le_of_ble_eq_true rfl⟩) hK hP hD hS hA [0, 1, 2, 3, 4] rfl rfl rfl 0 rfl rfl rfl rfl hl.1 rfl (Nat.le_of_ble_eq_true rfl) ⟨Nat.le_of_ble_eq_true rfl, Nat.le_of_ble_eq_true rfl⟩ dL_law_256 (fun H locs hP hD hS => ?_)
                have hP : va_P D vwCl [(aM, .inr (6, [.ref aS, .ref aH, .ref aL, .ref aP, .ref aR, .ref aT])), (aS, .inr (3, [.ref aC])), (aC, .inl (cyI, 225, .inl vc_256)), (aH, .inr (0, [.ref aHs, .int vhf_256, .int vhl_256])), (aHs, .inl (cyI, 1575, .inl vhs_256)), (aL, .inr (4, [.ref aLs, .int vsf])), (aLs, .inl (cyI, 450, .inl vss)), (aP, .inr (1, [.ref aPc, .int vpl])), (aPc, .inl (cyI, 80, .inl vpp)), (aR, .inr (2, [.ref aP, .ref aRn, .int vra, .int vrk, .int vrt])), (aRn, .inl (cyI, 40, .inl vrn)), (aT, .inr (5, [.ref aTp, .int vtl, .int vta, .int vtt])), (aTp, .inl (cyI, 552, .inl vtp)), (aV, .inl (cyZ, 64, .inr (.inl vv_104)))] H := hP
                have hD : va_D (fun q : Nat => s.heap.size ≤ q) [(aM, .inr (6, [.ref aS, .ref aH, .ref aL, .ref aP, .ref aR, .ref aT])), (aS, .inr (3, [.ref aC])), (aC, .inl (cyI, 225, .inl vc_256)), (aH, .inr (0, [.ref aHs, .int vhf_256, .int vhl_256])), (aHs, .inl (cyI, 1575, .inl vhs_256)), (aL, .inr (4, [.ref aLs, .int vsf])), (aLs, .inl (cyI, 450, .inl vss)), (aP, .inr (1, [.ref aPc, .int vpl])), (aPc, .inl (cyI, 80, .inl vpp)), (aR, .inr (2, [.ref aP, .ref aRn, .int vra, .int vrk, .int vrt])), (aRn, .inl (cyI, 40, .inl vrn)), (aT, .inr (5, [.ref aTp, .int vtl, .int vta, .int vtt])), (aTp, .inl (cyI, 552, .inl vtp)), (aV, .inl (cyZ, 64, .inr (.inl vv_104)))] := hD
                refine lv_goto (tgt := 360) hx hb dL_law_259 (by decide) ?_
                exact (hG _ _ _).1 (blk_360 x3 x4 x6 r108 r256 vc_256 vhf_256 vhl_256 vhs_256 vsf vss vpl vpp vra vrk vrt vrn vtl vta vtt vtp vv_104 hF _ _ _ hP hD hS (lv_sub hl [5, 6, 7, 8, 9, 10, 2] rfl))
            · have hF := k_if_t hF hc
              refine lv_aload_n hx hb dL_law_211 rfl (lv_at hl 6 rfl) ?_
              refine lv_iload hx hb dL_law_212 (lv_at hl 4 rfl) ?_
              refine lv_iconst (v := (4 : Int32)) hx hb dL_law_214 (by decide) ?_
              refine lv_ishr hx hb dL_law_215 ?_
              refine lv_bipush (v := (32 : Int32)) hx hb dL_law_216 (by decide) ?_
              obtain ⟨r218, hC, hF⟩ := k_c1_ex hF
              refine x_SR (As := [.int (r84 >>> ((4 : Int32) &&& 31)), .int (32 : Int32)]) (rest := [.ref aM]) ⟨hx, hb, hml, hown, hts⟩ (c_L_part l D cyI cyZ N (r84 >>> ((4 : Int32) &&& 31)) (32 : Int32) hC) (va_cwS 2 hts gL_law_L_part rfl rfl rfl (by decide +kernel) ⟨Nat.le_of_ble_eq_true rfl, Nat.le_of_ble_eq_true rfl⟩) hK hP hS [] rfl rfl hl.1 rfl (Nat.le_of_ble_eq_true rfl) ⟨Nat.le_of_ble_eq_true rfl, Nat.le_of_ble_eq_true rfl⟩ dL_law_218 (fun H locs hP hS => ?_)
              refine lv_iload hx hb dL_law_221 (lv_at hl 4 rfl) ?_
              refine lv_bipush (v := (9 : Int32)) hx hb dL_law_223 (by decide) ?_
              refine lv_ishr hx hb dL_law_225 ?_
              refine lv_bipush (v := (32 : Int32)) hx hb dL_law_226 (by decide) ?_
              obtain ⟨r228, hC, hF⟩ := k_c1_ex hF
              refine x_SR (As := [.int (r84 >>> ((9 : Int32) &&& 31)), .int (32 : Int32)]) (rest := [.int r218, .ref aM]) ⟨hx, hb, hml, hown, hts⟩ (c_L_part l D cyI cyZ N (r84 >>> ((9 : Int32) &&& 31)) (32 : Int32) hC) (va_cwS 2 hts gL_law_L_part rfl rfl rfl (by decide +kernel) ⟨Nat.le_of_ble_eq_true rfl, Nat.le_of_ble_eq_true rfl⟩) hK hP hS [] rfl rfl hl.1 rfl (Nat.le_of_ble_eq_true rfl) ⟨Nat.le_of_ble_eq_true rfl, Nat.le_of_ble_eq_true rfl⟩ dL_law_228 (fun H locs hP hS => ?_)
              obtain ⟨r231, vc_231, vhf_231, vhl_231, vhs_231, hC, hF⟩ := k_c5_ex hF
              refine x_VM (As := [.int r218, .int r228]) (rest := []) ⟨hx, hb, hml, hown, hts⟩ (c_X6_card l D cyI cyZ aM aS aC aH aHs aL aP aR aT H.size N r218 r228 vc vhf vhl vhs hC) (cwV 2 hts gL_law_X6_card rfl rfl rfl (by decide +kernel) ⟨Nat.le_of_ble_eq_true rfl, Nat.le_of_ble_eq_true rfl⟩) hK hP hD hS hA [0, 1, 2, 3, 4] rfl rfl rfl 0 rfl rfl rfl rfl hl.1 rfl (Nat.le_of_ble_eq_true rfl) ⟨Nat.le_of_ble_eq_true rfl, Nat.le_of_ble_eq_true rfl⟩ dL_law_231 (fun H locs hP hD hS => ?_)
              have hP : va_P D vwCl [(aM, .inr (6, [.ref aS, .ref aH, .ref aL, .ref aP, .ref aR, .ref aT])), (aS, .inr (3, [.ref aC])), (aC, .inl (cyI, 225, .inl vc_231)), (aH, .inr (0, [.ref aHs, .int vhf_231, .int vhl_231])), (aHs, .inl (cyI, 1575, .inl vhs_231)), (aL, .inr (4, [.ref aLs, .int vsf])), (aLs, .inl (cyI, 450, .inl vss)), (aP, .inr (1, [.ref aPc, .int vpl])), (aPc, .inl (cyI, 80, .inl vpp)), (aR, .inr (2, [.ref aP, .ref aRn, .int vra, .int vrk, .int vrt])), (aRn, .inl (cyI, 40, .inl vrn)), (aT, .inr (5, [.ref aTp, .int vtl, .int vta, .int vtt])), (aTp, .inl (cyI, 552, .inl vtp)), (aV, .inl (cyZ, 64, .inr (.inl vv_104)))] H := hP
              have hD : va_D (fun q : Nat => s.heap.size ≤ q) [(aM, .inr (6, [.ref aS, .ref aH, .ref aL, .ref aP, .ref aR, .ref aT])), (aS, .inr (3, [.ref aC])), (aC, .inl (cyI, 225, .inl vc_231)), (aH, .inr (0, [.ref aHs, .int vhf_231, .int vhl_231])), (aHs, .inl (cyI, 1575, .inl vhs_231)), (aL, .inr (4, [.ref aLs, .int vsf])), (aLs, .inl (cyI, 450, .inl vss)), (aP, .inr (1, [.ref aPc, .int vpl])), (aPc, .inl (cyI, 80, .inl vpp)), (aR, .inr (2, [.ref aP, .ref aRn, .int vra, .int vrk, .int vrt])), (aRn, .inl (cyI, 40, .inl vrn)), (aT, .inr (5, [.ref aTp, .int vtl, .int vta, .int vtt])), (aTp, .inl (cyI, 552, .inl vtp)), (aV, .inl (cyZ, 64, .inr (.inl vv_104)))] := hD
              refine lv_goto (tgt := 360) hx hb dL_law_234 (by decide) ?_
              exact (hG _ _ _).1 (blk_360 x3 x4 x6 r108 r231 vc_231 vhf_231 vhl_231 vhs_231 vsf vss vpl vpp vra vrk vrt vrn vtl vta vtt vtp vv_104 hF _ _ _ hP hD hS (lv_sub hl [5, 6, 7, 8, 9, 10, 2] rfl))
          · have hF := k_if_f hF hc
            refine lv_aload_n hx hb dL_law_174 rfl (lv_at hl 6 rfl) ?_
            refine lv_iload hx hb dL_law_175 (lv_at hl 1 rfl) ?_
            refine lv_iload hx hb dL_law_177 (lv_at hl 4 rfl) ?_
            refine lv_bipush (v := (8 : Int32)) hx hb dL_law_179 (by decide) ?_
            refine lv_ishr hx hb dL_law_181 ?_
            refine lv_bipush (v := (6 : Int32)) hx hb dL_law_182 (by decide) ?_
            obtain ⟨r184, hC, hF⟩ := k_c1_ex hF
            refine x_SR (As := [.int (r84 >>> ((8 : Int32) &&& 31)), .int (6 : Int32)]) (rest := [.int r118, .ref aM]) ⟨hx, hb, hml, hown, hts⟩ (c_L_part l D cyI cyZ N (r84 >>> ((8 : Int32) &&& 31)) (6 : Int32) hC) (va_cwS 2 hts gL_law_L_part rfl rfl rfl (by decide +kernel) ⟨Nat.le_of_ble_eq_true rfl, Nat.le_of_ble_eq_true rfl⟩) hK hP hS [] rfl rfl hl.1 rfl (Nat.le_of_ble_eq_true rfl) ⟨Nat.le_of_ble_eq_true rfl, Nat.le_of_ble_eq_true rfl⟩ dL_law_184 (fun H locs hP hS => ?_)
            refine lv_iload hx hb dL_law_187 (lv_at hl 4 rfl) ?_
            refine lv_bipush (v := (11 : Int32)) hx hb dL_law_189 (by decide) ?_
            refine lv_ishr hx hb dL_law_191 ?_
            refine lv_bipush (v := (9 : Int32)) hx hb dL_law_192 (by decide) ?_
            obtain ⟨r194, hC, hF⟩ := k_c1_ex hF
            refine x_SR (As := [.int (r84 >>> ((11 : Int32) &&& 31)), .int (9 : Int32)]) (rest := [.int r184, .int r118, .ref aM]) ⟨hx, hb, hml, hown, hts⟩ (c_L_part l D cyI cyZ N (r84 >>> ((11 : Int32) &&& 31)) (9 : Int32) hC) (va_cwS 2 hts gL_law_L_part rfl rfl rfl (by decide +kernel) ⟨Nat.le_of_ble_eq_true rfl, Nat.le_of_ble_eq_true rfl⟩) hK hP hS [] rfl rfl hl.1 rfl (Nat.le_of_ble_eq_true rfl) ⟨Nat.le_of_ble_eq_true rfl, Nat.le_of_ble_eq_true rfl⟩ dL_law_194 (fun H locs hP hS => ?_)
            refine lv_iconst (v := (4 : Int32)) hx hb dL_law_197 (by decide) ?_
            refine lv_isub hx hb dL_law_198 ?_
            obtain ⟨r199, vc_199, vhf_199, vhl_199, vhs_199, hC, hF⟩ := k_c5_ex hF
            refine x_VM (As := [.int r118, .int r184, .int (r194 - (4 : Int32))]) (rest := []) ⟨hx, hb, hml, hown, hts⟩ (c_X6_file l D cyI cyZ aM aS aC aH aHs aL aP aR aT H.size N r118 r184 (r194 - (4 : Int32)) vc vhf vhl vhs hC) (cwV 3 hts gL_law_X6_file rfl rfl rfl (by decide +kernel) ⟨Nat.le_of_ble_eq_true rfl, Nat.le_of_ble_eq_true rfl⟩) hK hP hD hS hA [0, 1, 2, 3, 4] rfl rfl rfl 0 rfl rfl rfl rfl hl.1 rfl (Nat.le_of_ble_eq_true rfl) ⟨Nat.le_of_ble_eq_true rfl, Nat.le_of_ble_eq_true rfl⟩ dL_law_199 (fun H locs hP hD hS => ?_)
            have hP : va_P D vwCl [(aM, .inr (6, [.ref aS, .ref aH, .ref aL, .ref aP, .ref aR, .ref aT])), (aS, .inr (3, [.ref aC])), (aC, .inl (cyI, 225, .inl vc_199)), (aH, .inr (0, [.ref aHs, .int vhf_199, .int vhl_199])), (aHs, .inl (cyI, 1575, .inl vhs_199)), (aL, .inr (4, [.ref aLs, .int vsf])), (aLs, .inl (cyI, 450, .inl vss)), (aP, .inr (1, [.ref aPc, .int vpl])), (aPc, .inl (cyI, 80, .inl vpp)), (aR, .inr (2, [.ref aP, .ref aRn, .int vra, .int vrk, .int vrt])), (aRn, .inl (cyI, 40, .inl vrn)), (aT, .inr (5, [.ref aTp, .int vtl, .int vta, .int vtt])), (aTp, .inl (cyI, 552, .inl vtp)), (aV, .inl (cyZ, 64, .inr (.inl vv_104)))] H := hP
            have hD : va_D (fun q : Nat => s.heap.size ≤ q) [(aM, .inr (6, [.ref aS, .ref aH, .ref aL, .ref aP, .ref aR, .ref aT])), (aS, .inr (3, [.ref aC])), (aC, .inl (cyI, 225, .inl vc_199)), (aH, .inr (0, [.ref aHs, .int vhf_199, .int vhl_199])), (aHs, .inl (cyI, 1575, .inl vhs_199)), (aL, .inr (4, [.ref aLs, .int vsf])), (aLs, .inl (cyI, 450, .inl vss)), (aP, .inr (1, [.ref aPc, .int vpl])), (aPc, .inl (cyI, 80, .inl vpp)), (aR, .inr (2, [.ref aP, .ref aRn, .int vra, .int vrk, .int vrt])), (aRn, .inl (cyI, 40, .inl vrn)), (aT, .inr (5, [.ref aTp, .int vtl, .int vta, .int vtt])), (aTp, .inl (cyI, 552, .inl vtp)), (aV, .inl (cyZ, 64, .inr (.inl vv_104)))] := hD
            refine lv_goto (tgt := 360) hx hb dL_law_202 (by decide) ?_
            exact (hG _ _ _).1 (blk_360 x3 x4 x6 r108 r199 vc_199 vhf_199 vhl_199 vhs_199 vsf vss vpl vpp vra vrk vrt vrn vtl vta vtt vtp vv_104 hF _ _ _ hP hD hS (lv_sub hl [5, 6, 7, 8, 9, 10, 2] rfl))
        · have hF := k_if_t hF hc
          refine lv_aload_n hx hb dL_law_139 rfl (lv_at hl 6 rfl) ?_
          refine lv_iload hx hb dL_law_140 (lv_at hl 4 rfl) ?_
          refine lv_iconst (v := (4 : Int32)) hx hb dL_law_142 (by decide) ?_
          refine lv_ishr hx hb dL_law_143 ?_
          refine lv_bipush (v := (27 : Int32)) hx hb dL_law_144 (by decide) ?_
          obtain ⟨r146, hC, hF⟩ := k_c1_ex hF
          refine x_SR (As := [.int (r84 >>> ((4 : Int32) &&& 31)), .int (27 : Int32)]) (rest := [.ref aM]) ⟨hx, hb, hml, hown, hts⟩ (c_L_part l D cyI cyZ N (r84 >>> ((4 : Int32) &&& 31)) (27 : Int32) hC) (va_cwS 2 hts gL_law_L_part rfl rfl rfl (by decide +kernel) ⟨Nat.le_of_ble_eq_true rfl, Nat.le_of_ble_eq_true rfl⟩) hK hP hS [] rfl rfl hl.1 rfl (Nat.le_of_ble_eq_true rfl) ⟨Nat.le_of_ble_eq_true rfl, Nat.le_of_ble_eq_true rfl⟩ dL_law_146 (fun H locs hP hS => ?_)
          refine lv_iload hx hb dL_law_149 (lv_at hl 4 rfl) ?_
          refine lv_bipush (v := (9 : Int32)) hx hb dL_law_151 (by decide) ?_
          refine lv_ishr hx hb dL_law_153 ?_
          refine lv_bipush (v := (21 : Int32)) hx hb dL_law_154 (by decide) ?_
          obtain ⟨r156, hC, hF⟩ := k_c1_ex hF
          refine x_SR (As := [.int (r84 >>> ((9 : Int32) &&& 31)), .int (21 : Int32)]) (rest := [.int r146, .ref aM]) ⟨hx, hb, hml, hown, hts⟩ (c_L_part l D cyI cyZ N (r84 >>> ((9 : Int32) &&& 31)) (21 : Int32) hC) (va_cwS 2 hts gL_law_L_part rfl rfl rfl (by decide +kernel) ⟨Nat.le_of_ble_eq_true rfl, Nat.le_of_ble_eq_true rfl⟩) hK hP hS [] rfl rfl hl.1 rfl (Nat.le_of_ble_eq_true rfl) ⟨Nat.le_of_ble_eq_true rfl, Nat.le_of_ble_eq_true rfl⟩ dL_law_156 (fun H locs hP hS => ?_)
          refine lv_bipush (v := (10 : Int32)) hx hb dL_law_159 (by decide) ?_
          refine lv_isub hx hb dL_law_161 ?_
          obtain ⟨r162, vc_162, vhf_162, vhl_162, vhs_162, hC, hF⟩ := k_c5_ex hF
          refine x_VM (As := [.int r146, .int (r156 - (10 : Int32))]) (rest := []) ⟨hx, hb, hml, hown, hts⟩ (c_X6_roller l D cyI cyZ aM aS aC aH aHs aL aP aR aT H.size N r146 (r156 - (10 : Int32)) vc vhf vhl vhs hC) (cwV 2 hts gL_law_X6_roller rfl rfl rfl (by decide +kernel) ⟨Nat.le_of_ble_eq_true rfl, Nat.le_of_ble_eq_true rfl⟩) hK hP hD hS hA [0, 1, 2, 3, 4] rfl rfl rfl 0 rfl rfl rfl rfl hl.1 rfl (Nat.le_of_ble_eq_true rfl) ⟨Nat.le_of_ble_eq_true rfl, Nat.le_of_ble_eq_true rfl⟩ dL_law_162 (fun H locs hP hD hS => ?_)
          have hP : va_P D vwCl [(aM, .inr (6, [.ref aS, .ref aH, .ref aL, .ref aP, .ref aR, .ref aT])), (aS, .inr (3, [.ref aC])), (aC, .inl (cyI, 225, .inl vc_162)), (aH, .inr (0, [.ref aHs, .int vhf_162, .int vhl_162])), (aHs, .inl (cyI, 1575, .inl vhs_162)), (aL, .inr (4, [.ref aLs, .int vsf])), (aLs, .inl (cyI, 450, .inl vss)), (aP, .inr (1, [.ref aPc, .int vpl])), (aPc, .inl (cyI, 80, .inl vpp)), (aR, .inr (2, [.ref aP, .ref aRn, .int vra, .int vrk, .int vrt])), (aRn, .inl (cyI, 40, .inl vrn)), (aT, .inr (5, [.ref aTp, .int vtl, .int vta, .int vtt])), (aTp, .inl (cyI, 552, .inl vtp)), (aV, .inl (cyZ, 64, .inr (.inl vv_104)))] H := hP
          have hD : va_D (fun q : Nat => s.heap.size ≤ q) [(aM, .inr (6, [.ref aS, .ref aH, .ref aL, .ref aP, .ref aR, .ref aT])), (aS, .inr (3, [.ref aC])), (aC, .inl (cyI, 225, .inl vc_162)), (aH, .inr (0, [.ref aHs, .int vhf_162, .int vhl_162])), (aHs, .inl (cyI, 1575, .inl vhs_162)), (aL, .inr (4, [.ref aLs, .int vsf])), (aLs, .inl (cyI, 450, .inl vss)), (aP, .inr (1, [.ref aPc, .int vpl])), (aPc, .inl (cyI, 80, .inl vpp)), (aR, .inr (2, [.ref aP, .ref aRn, .int vra, .int vrk, .int vrt])), (aRn, .inl (cyI, 40, .inl vrn)), (aT, .inr (5, [.ref aTp, .int vtl, .int vta, .int vtt])), (aTp, .inl (cyI, 552, .inl vtp)), (aV, .inl (cyZ, 64, .inr (.inl vv_104)))] := hD
          refine lv_goto (tgt := 360) hx hb dL_law_165 (by decide) ?_
          exact (hG _ _ _).1 (blk_360 x3 x4 x6 r108 r162 vc_162 vhf_162 vhl_162 vhs_162 vsf vss vpl vpp vra vrk vrt vrn vtl vta vtt vtp vv_104 hF _ _ _ hP hD hS (lv_sub hl [5, 6, 7, 8, 9, 10, 2] rfl))
  have blk_35 : ∀ (x3 : Int32) (vc : (Nat → Int32)) (vhf : Int32) (vhl : Int32) (vhs : (Nat → Int32)) (vsf : Int32) (vss : (Nat → Int32)) (vpl : Int32) (vpp : (Nat → Int32)) (vra : Int32) (vrk : Int32) (vrt : Int32) (vrn : (Nat → Int32)) (vtl : Int32) (vta : Int32) (vtt : Int32) (vtp : (Nat → Int32)) (vv : (Nat → Int64)), b_L_law_35 N L xs x3 vc vhf vhl vhs vsf vss vpl vpp vra vrk vrt vrn vtl vta vtt vtp vv = some 1 → ∀ (H : Heap) (locs : List Loc) (ls : Array Slot), va_P D vwCl [(aM, .inr (6, [.ref aS, .ref aH, .ref aL, .ref aP, .ref aR, .ref aT])), (aS, .inr (3, [.ref aC])), (aC, .inl (cyI, 225, .inl vc)), (aH, .inr (0, [.ref aHs, .int vhf, .int vhl])), (aHs, .inl (cyI, 1575, .inl vhs)), (aL, .inr (4, [.ref aLs, .int vsf])), (aLs, .inl (cyI, 450, .inl vss)), (aP, .inr (1, [.ref aPc, .int vpl])), (aPc, .inl (cyI, 80, .inl vpp)), (aR, .inr (2, [.ref aP, .ref aRn, .int vra, .int vrk, .int vrt])), (aRn, .inl (cyI, 40, .inl vrn)), (aT, .inr (5, [.ref aTp, .int vtl, .int vta, .int vtt])), (aTp, .inl (cyI, 552, .inl vtp)), (aV, .inl (cyZ, 64, .inr (.inl vv)))] H → va_D (fun q : Nat => s.heap.size ≤ q) [(aM, .inr (6, [.ref aS, .ref aH, .ref aL, .ref aP, .ref aR, .ref aT])), (aS, .inr (3, [.ref aC])), (aC, .inl (cyI, 225, .inl vc)), (aH, .inr (0, [.ref aHs, .int vhf, .int vhl])), (aHs, .inl (cyI, 1575, .inl vhs)), (aL, .inr (4, [.ref aLs, .int vsf])), (aLs, .inl (cyI, 450, .inl vss)), (aP, .inr (1, [.ref aPc, .int vpl])), (aPc, .inl (cyI, 80, .inl vpp)), (aR, .inr (2, [.ref aP, .ref aRn, .int vra, .int vrk, .int vrt])), (aRn, .inl (cyI, 40, .inl vrn)), (aT, .inr (5, [.ref aTp, .int vtl, .int vta, .int vtt])), (aTp, .inl (cyI, 552, .inl vtp)), (aV, .inl (cyZ, 64, .inr (.inl vv)))] → va_S (fun q : Nat => s.heap.size ≤ q) s.heap H locs → lv_has ls 13 [(0, .ref b), (1, .ref aM), (2, .ref aV), (3, .int x3)] → G H locs (F0 m 35 ls []) := by
    intro x3 vc vhf vhl vhs vsf vss vpl vpp vra vrk vrt vrn vtl vta vtt vtp vv hF H locs ls hP hD hS hl
    unfold b_L_law_35 at hF
    refine (hG _ _ _).2 ?_
    refine lv_aload_n hx hb dL_law_35 rfl (lv_at hl 1 rfl) ?_
    refine lv_iconst (v := (3 : Int32)) hx hb dL_law_36 (by decide) ?_
    refine lv_iconst (v := (1 : Int32)) hx hb dL_law_37 (by decide) ?_
    obtain ⟨r38, vc_38, vhf_38, vhl_38, vhs_38, hC, hF⟩ := k_c5_ex hF
    refine x_VM (As := [.int (3 : Int32), .int (1 : Int32)]) (rest := []) ⟨hx, hb, hml, hown, hts⟩ (c_X6_roller l D cyI cyZ aM aS aC aH aHs aL aP aR aT H.size N (3 : Int32) (1 : Int32) vc vhf vhl vhs hC) (cwV 2 hts gL_law_X6_roller rfl rfl rfl (by decide +kernel) ⟨Nat.le_of_ble_eq_true rfl, Nat.le_of_ble_eq_true rfl⟩) hK hP hD hS hA [0, 1, 2, 3, 4] rfl rfl rfl 0 rfl rfl rfl rfl hl.1 rfl (Nat.le_of_ble_eq_true rfl) ⟨Nat.le_of_ble_eq_true rfl, Nat.le_of_ble_eq_true rfl⟩ dL_law_38 (fun H locs hP hD hS => ?_)
    have hP : va_P D vwCl [(aM, .inr (6, [.ref aS, .ref aH, .ref aL, .ref aP, .ref aR, .ref aT])), (aS, .inr (3, [.ref aC])), (aC, .inl (cyI, 225, .inl vc_38)), (aH, .inr (0, [.ref aHs, .int vhf_38, .int vhl_38])), (aHs, .inl (cyI, 1575, .inl vhs_38)), (aL, .inr (4, [.ref aLs, .int vsf])), (aLs, .inl (cyI, 450, .inl vss)), (aP, .inr (1, [.ref aPc, .int vpl])), (aPc, .inl (cyI, 80, .inl vpp)), (aR, .inr (2, [.ref aP, .ref aRn, .int vra, .int vrk, .int vrt])), (aRn, .inl (cyI, 40, .inl vrn)), (aT, .inr (5, [.ref aTp, .int vtl, .int vta, .int vtt])), (aTp, .inl (cyI, 552, .inl vtp)), (aV, .inl (cyZ, 64, .inr (.inl vv)))] H := hP
    have hD : va_D (fun q : Nat => s.heap.size ≤ q) [(aM, .inr (6, [.ref aS, .ref aH, .ref aL, .ref aP, .ref aR, .ref aT])), (aS, .inr (3, [.ref aC])), (aC, .inl (cyI, 225, .inl vc_38)), (aH, .inr (0, [.ref aHs, .int vhf_38, .int vhl_38])), (aHs, .inl (cyI, 1575, .inl vhs_38)), (aL, .inr (4, [.ref aLs, .int vsf])), (aLs, .inl (cyI, 450, .inl vss)), (aP, .inr (1, [.ref aPc, .int vpl])), (aPc, .inl (cyI, 80, .inl vpp)), (aR, .inr (2, [.ref aP, .ref aRn, .int vra, .int vrk, .int vrt])), (aRn, .inl (cyI, 40, .inl vrn)), (aT, .inr (5, [.ref aTp, .int vtl, .int vta, .int vtt])), (aTp, .inl (cyI, 552, .inl vtp)), (aV, .inl (cyZ, 64, .inr (.inl vv)))] := hD
    refine lv_if_ne (tgt := 63) hx hb dL_law_41 (by decide) (fun hc => ?_) (fun hc => ?_)
    · have hF := k_if_f hF hc
      refine lv_iconst (v := (0 : Int32)) hx hb dL_law_63 (by decide) ?_
      exact absurd (Option.some.inj hF) (by decide)
    · have hF := k_if_t hF hc
      refine lv_aload_n hx hb dL_law_44 rfl (lv_at hl 1 rfl) ?_
      refine lv_iconst (v := (5 : Int32)) hx hb dL_law_45 (by decide) ?_
      refine lv_iconst (v := (-1 : Int32)) hx hb dL_law_46 (by decide) ?_
      obtain ⟨r47, vc_47, vhf_47, vhl_47, vhs_47, hC, hF⟩ := k_c5_ex hF
      refine x_VM (As := [.int (5 : Int32), .int (-1 : Int32)]) (rest := []) ⟨hx, hb, hml, hown, hts⟩ (c_X6_roller l D cyI cyZ aM aS aC aH aHs aL aP aR aT H.size N (5 : Int32) (-1 : Int32) vc_38 vhf_38 vhl_38 vhs_38 hC) (cwV 2 hts gL_law_X6_roller rfl rfl rfl (by decide +kernel) ⟨Nat.le_of_ble_eq_true rfl, Nat.le_of_ble_eq_true rfl⟩) hK hP hD hS hA [0, 1, 2, 3, 4] rfl rfl rfl 0 rfl rfl rfl rfl hl.1 rfl (Nat.le_of_ble_eq_true rfl) ⟨Nat.le_of_ble_eq_true rfl, Nat.le_of_ble_eq_true rfl⟩ dL_law_47 (fun H locs hP hD hS => ?_)
      have hP : va_P D vwCl [(aM, .inr (6, [.ref aS, .ref aH, .ref aL, .ref aP, .ref aR, .ref aT])), (aS, .inr (3, [.ref aC])), (aC, .inl (cyI, 225, .inl vc_47)), (aH, .inr (0, [.ref aHs, .int vhf_47, .int vhl_47])), (aHs, .inl (cyI, 1575, .inl vhs_47)), (aL, .inr (4, [.ref aLs, .int vsf])), (aLs, .inl (cyI, 450, .inl vss)), (aP, .inr (1, [.ref aPc, .int vpl])), (aPc, .inl (cyI, 80, .inl vpp)), (aR, .inr (2, [.ref aP, .ref aRn, .int vra, .int vrk, .int vrt])), (aRn, .inl (cyI, 40, .inl vrn)), (aT, .inr (5, [.ref aTp, .int vtl, .int vta, .int vtt])), (aTp, .inl (cyI, 552, .inl vtp)), (aV, .inl (cyZ, 64, .inr (.inl vv)))] H := hP
      have hD : va_D (fun q : Nat => s.heap.size ≤ q) [(aM, .inr (6, [.ref aS, .ref aH, .ref aL, .ref aP, .ref aR, .ref aT])), (aS, .inr (3, [.ref aC])), (aC, .inl (cyI, 225, .inl vc_47)), (aH, .inr (0, [.ref aHs, .int vhf_47, .int vhl_47])), (aHs, .inl (cyI, 1575, .inl vhs_47)), (aL, .inr (4, [.ref aLs, .int vsf])), (aLs, .inl (cyI, 450, .inl vss)), (aP, .inr (1, [.ref aPc, .int vpl])), (aPc, .inl (cyI, 80, .inl vpp)), (aR, .inr (2, [.ref aP, .ref aRn, .int vra, .int vrk, .int vrt])), (aRn, .inl (cyI, 40, .inl vrn)), (aT, .inr (5, [.ref aTp, .int vtl, .int vta, .int vtt])), (aTp, .inl (cyI, 552, .inl vtp)), (aV, .inl (cyZ, 64, .inr (.inl vv)))] := hD
      refine lv_iconst (v := (1 : Int32)) hx hb dL_law_50 (by decide) ?_
      refine lv_icmp_ne (tgt := 63) hx hb dL_law_51 (by decide) (fun hc => ?_) (fun hc => ?_)
      · have hF := k_if_f hF hc
        refine lv_iconst (v := (0 : Int32)) hx hb dL_law_63 (by decide) ?_
        exact absurd (Option.some.inj hF) (by decide)
      · have hF := k_if_t hF hc
        refine lv_aload_n hx hb dL_law_54 rfl (lv_at hl 1 rfl) ?_
        refine lv_iconst (v := (0 : Int32)) hx hb dL_law_55 (by decide) ?_
        obtain ⟨r56, vsf_56, vss_56, hC, hF⟩ := k_c3_ex hF
        refine x_VM (As := [.int (0 : Int32)]) (rest := []) ⟨hx, hb, hml, hown, hts⟩ (c_X6_save l D cyI cyZ aM aS aC aH aL aLs aP aR aT H.size N (0 : Int32) vc_47 vsf vss hC) (cwV 1 hts gL_law_X6_save rfl rfl rfl (by decide +kernel) ⟨Nat.le_of_ble_eq_true rfl, Nat.le_of_ble_eq_true rfl⟩) hK hP hD hS hA [0, 1, 2, 5, 6] rfl rfl rfl 0 rfl rfl rfl rfl hl.1 rfl (Nat.le_of_ble_eq_true rfl) ⟨Nat.le_of_ble_eq_true rfl, Nat.le_of_ble_eq_true rfl⟩ dL_law_56 (fun H locs hP hD hS => ?_)
        have hP : va_P D vwCl [(aM, .inr (6, [.ref aS, .ref aH, .ref aL, .ref aP, .ref aR, .ref aT])), (aS, .inr (3, [.ref aC])), (aC, .inl (cyI, 225, .inl vc_47)), (aH, .inr (0, [.ref aHs, .int vhf_47, .int vhl_47])), (aHs, .inl (cyI, 1575, .inl vhs_47)), (aL, .inr (4, [.ref aLs, .int vsf_56])), (aLs, .inl (cyI, 450, .inl vss_56)), (aP, .inr (1, [.ref aPc, .int vpl])), (aPc, .inl (cyI, 80, .inl vpp)), (aR, .inr (2, [.ref aP, .ref aRn, .int vra, .int vrk, .int vrt])), (aRn, .inl (cyI, 40, .inl vrn)), (aT, .inr (5, [.ref aTp, .int vtl, .int vta, .int vtt])), (aTp, .inl (cyI, 552, .inl vtp)), (aV, .inl (cyZ, 64, .inr (.inl vv)))] H := hP
        have hD : va_D (fun q : Nat => s.heap.size ≤ q) [(aM, .inr (6, [.ref aS, .ref aH, .ref aL, .ref aP, .ref aR, .ref aT])), (aS, .inr (3, [.ref aC])), (aC, .inl (cyI, 225, .inl vc_47)), (aH, .inr (0, [.ref aHs, .int vhf_47, .int vhl_47])), (aHs, .inl (cyI, 1575, .inl vhs_47)), (aL, .inr (4, [.ref aLs, .int vsf_56])), (aLs, .inl (cyI, 450, .inl vss_56)), (aP, .inr (1, [.ref aPc, .int vpl])), (aPc, .inl (cyI, 80, .inl vpp)), (aR, .inr (2, [.ref aP, .ref aRn, .int vra, .int vrk, .int vrt])), (aRn, .inl (cyI, 40, .inl vrn)), (aT, .inr (5, [.ref aTp, .int vtl, .int vta, .int vtt])), (aTp, .inl (cyI, 552, .inl vtp)), (aV, .inl (cyZ, 64, .inr (.inl vv)))] := hD
        refine lv_iconst (v := (2 : Int32)) hx hb dL_law_59 (by decide) ?_
        refine lv_icmp_eq (tgt := 65) hx hb dL_law_60 (by decide) (fun hc => ?_) (fun hc => ?_)
        · have hF := k_if_t hF hc
          refine lv_aload_n hx hb dL_law_65 rfl (lv_at hl 1 rfl) ?_
          obtain ⟨r66, hC, hF⟩ := k_c1_ex hF
          refine x_SRl (As := [.ref aM]) (rest := []) ⟨hx, hb, hml, hown, hts⟩ (c_L_seen l D cyI cyZ aM aS aC aH aHs aL aP aPc aR aT N vc_47 vhf_47 vhl_47 vpl hC) (va_cwS 1 hts gL_law_L_seen rfl rfl rfl (by decide +kernel) ⟨Nat.le_of_ble_eq_true rfl, Nat.le_of_ble_eq_true rfl⟩) hK hP hS [0, 1, 2, 3, 7] rfl rfl hl.1 rfl (Nat.le_of_ble_eq_true rfl) ⟨Nat.le_of_ble_eq_true rfl, Nat.le_of_ble_eq_true rfl⟩ dL_law_66 (fun H locs hP hS => ?_)
          refine lv_lstore (lv' := [(4, .long r66), (0, .ref b), (1, .ref aM), (2, .ref aV), (3, .int x3)]) hx hb dL_law_69 hl (by decide) rfl (fun ls hl => ?_)
          refine lv_iconst (v := (0 : Int32)) hx hb dL_law_71 (by decide) ?_
          refine lv_istore (lv' := [(6, .int (0 : Int32)), (4, .long r66), (0, .ref b), (1, .ref aM), (2, .ref aV), (3, .int x3)]) hx hb dL_law_72 hl (by decide) rfl (fun ls hl => ?_)
          exact (hG _ _ _).1 (blk_74 N x3 r66 (0 : Int32) vc_47 vhf_47 vhl_47 vhs_47 vsf_56 vss_56 vpl vpp vra vrk vrt vrn vtl vta vtt vtp vv hF _ _ _ hP hD hS (lv_sub hl [2, 3, 4, 5, 1, 0] rfl))
        · have hF := k_if_f hF hc
          refine lv_iconst (v := (0 : Int32)) hx hb dL_law_63 (by decide) ?_
          exact absurd (Option.some.inj hF) (by decide)
  intro H locs ls hP hD hS hl
  exact (hG _ _ _).1 (blk_35 x3 vc vhf vhl vhs vsf vss vpl vpp vra vrk vrt vrn vtl vta vtt vtp vv hF H locs ls hP hD hS hl)
theorem x_arrI {args : Array Value} {s : State} (h : (Cond.arrayClass .int).before args s = true) : ∃ cA : ClassId, ArrOfT s cA .int ∧ va_RA s cA .int := by
  obtain ⟨cA, kA, comp, h1, h2, h3⟩ := Cond.arrayClass_spec h
  exact ⟨cA, fun n z => ⟨fun k h => (by cases h), kA, h2, comp, h3⟩, h1⟩
theorem x_arrJ {args : Array Value} {s : State} (h : (Cond.arrayClass .long).before args s = true) : ∃ cA : ClassId, ArrOfT s cA .long ∧ va_RA s cA .long := by
  obtain ⟨cA, kA, comp, h1, h2, h3⟩ := Cond.arrayClass_spec h
  exact ⟨cA, fun n z => ⟨fun k h => (by cases h), kA, h2, comp, h3⟩, h1⟩
theorem x_start_K {s : State} {a : Array Value} (hts0 : ∀ w ∈ lw_tbl, w.before a s = true) : ∃ (D : va_G) (cyI cyZ : ClassId), x_K D cyI cyZ s := by
  have hts := fun w h => hts0 w (wsL_law_in w h)
  obtain ⟨c0, i0, k0⟩ := u_known (C := RX0) (T := TX0) (N := 3) (n := 3) hts0 inX0 (hts (.instantiable RX0 3) (List.mem_of_getElem? (i := 19) rfl))
  obtain ⟨c1, i1, k1⟩ := u_known (C := RX1) (T := TX1) (N := 2) (n := 2) hts0 inX1 (hts (.instantiable RX1 2) (List.mem_of_getElem? (i := 27) rfl))
  obtain ⟨c2, i2, k2⟩ := u_known (C := RX2) (T := TX2) (N := 5) (n := 5) hts0 inX2 (hts (.instantiable RX2 5) (List.mem_of_getElem? (i := 31) rfl))
  obtain ⟨c3, i3, k3⟩ := u_known (C := RX3) (T := TX3) (N := 1) (n := 1) hts0 inX3 (hts (.instantiable RX3 1) (List.mem_of_getElem? (i := 15) rfl))
  obtain ⟨c4, i4, k4⟩ := u_known (C := RX4) (T := TX4) (N := 2) (n := 2) hts0 inX4 (hts (.instantiable RX4 2) (List.mem_of_getElem? (i := 23) rfl))
  obtain ⟨c5, i5, k5⟩ := u_known (C := RX5) (T := TX5) (N := 4) (n := 4) hts0 inX5 (hts (.instantiable RX5 4) (List.mem_of_getElem? (i := 35) rfl))
  obtain ⟨c6, i6, k6⟩ := u_known (C := RX6) (T := TX6) (N := 6) (n := 6) hts0 inX6 (hts (.instantiable RX6 6) (List.mem_of_getElem? (i := 1) rfl))
  obtain ⟨cyI, h1, h2⟩ := x_arrI (hts (.arrayClass .int) (List.mem_of_getElem? (i := 42) rfl))
  obtain ⟨cyZ, h3, h4⟩ := x_arrJ (hts (.arrayClass .long) (List.mem_of_getElem? (i := 3) rfl))
  refine ⟨(fun k => [c0, c1, c2, c3, c4, c5, c6].getD k 0, fun k => [i0, i1, i2, i3, i4, i5, i6].getD k (fun _ => 0)), cyI, cyZ, ⟨fun k q hq => ?_, fun k q hq => ?_⟩, va_Nw.of rfl (hts0 (.methodLinkNest RX3 23 yX6_outside RX6) (List.mem_of_getElem? (i := 168) (by decide +kernel))), va_Nw.of rfl (hts0 (.methodLinkNest RX1 31 yX6_outside RX6) (List.mem_of_getElem? (i := 561) (by decide +kernel))), va_Nw.of rfl (hts0 (.methodLinkNest RX2 69 yX6_outside RX6) (List.mem_of_getElem? (i := 457) (by decide +kernel))), va_Nw.of rfl (hts0 (.methodLinkNest RX4 17 yX6_outside RX6) (List.mem_of_getElem? (i := 360) (by decide +kernel))), va_Nw.of rfl (hts0 (.methodLinkNest RX6 18 yX0_init RX6) (List.mem_of_getElem? (i := 49) (by decide +kernel))), va_Nw.of rfl (hts0 (.methodLinkNest RX6 25 yX4_init RX6) (List.mem_of_getElem? (i := 65) (by decide +kernel))), va_Nw.of rfl (hts0 (.methodLinkNest RX6 32 yX1_init RX6) (List.mem_of_getElem? (i := 78) (by decide +kernel))), va_Nw.of rfl (hts0 (.methodLinkNest RX6 48 yX5_init RX6) (List.mem_of_getElem? (i := 113) (by decide +kernel)))⟩
  · match k, hq with
    | 0, hq => cases hq; exact k0
    | 1, hq => cases hq; exact k1
    | 2, hq => cases hq; exact k2
    | 3, hq => cases hq; exact k3
    | 4, hq => cases hq; exact k4
    | 5, hq => cases hq; exact k5
    | 6, hq => cases hq; exact k6
    | k + 7, hq => simp [vwCl] at hq
  · match k, hq with
    | 0, hq => cases hq; exact ⟨h1, h2⟩
    | 1, hq => cases hq; exact ⟨h3, h4⟩
    | k + 2, hq => simp at hq
