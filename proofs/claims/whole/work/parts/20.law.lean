/-! THE CLAIM OUT OF ONE WALK OF THE LAW'S BODY. Your part is whole_start (and what it stands on); all else here is the same for every law, but numbers. -/
def R_law : String := "RollerMeshLaw"
def lw_P (b : Addr) (xs : List Int32) (args : Array Value) (s : State) : Prop := args = #[.ref b] ∧ s.IntsAt b xs ∧ xs.length ≤ 3584 ∧ (Jvm.Cond.and given_1 narrow_1).before args s = true
def lw_Q (_ : Array Value) (s : State) (o : Outcome) (t : State) : Prop := o = .returned (some (.int 1)) ∧ Framed s o t [] 20 5105
def lw_Z (below : List Frame) (a : Array Value) (s : State) : State → Prop := fun t => ∃ o, t.status = .running ∧ Ended t below o ∧ lw_Q a s o t
/-- the law's own end, with 1 on the stack, nothing written that was there before, its room as the claim has it -/
theorem lw_ret {p : Program} {l : Launch} {e : Env} {s : State} {m : MethodId} {below : List Frame} {meth : Method} {c : Code} {b : Nat} (hx : p.tables.exec = Jvm.exec) (hb : c.code = code) (hr : meth.sig.returnType = ret) (hlocks : meth.locks = false) {pc : Nat} {H : Heap} {ls : Array Slot} (hdg : decode code pc = .ok (.ireturn, 1)) : W p l e room_1 s m #[Value.ref b] below meth c H [] 20 5105 (lw_Z below #[Value.ref b] s) (F0 m pc ls [.int 1]) := by
  intro T hT X
  obtain ⟨fs, hret, hrun, hended, hW, hframe⟩ := X.leave (v := some (.int 1)) (hlocks := hlocks) (fun h => by rw [hr] at h; cases h)
  have hmeth' : T.vm.method? m = some meth := X.method'
  refine ⟨T.setFrames fs, ?_, .returned (some (.int 1)), hrun, hended, rfl, ⟨_, rfl⟩, hW, hframe⟩
  jvm_step X.here [X.here.top, hx, hb, hdg, hmeth', hr, ret, narrow_b1]
  (try refine ⟨rfl, ?_⟩); (try refine ⟨rfl, ?_⟩)
  first | (intro acts; rw [hret _ acts rfl rfl rfl]) | rw [hret _ _ rfl rfl rfl]
  exact Steps.refl _
/-- what holds at the law's entry: the machine, the code, the tables' words (any of lw_tbl by 'hts w (by decide +kernel)'), the script of L ints xs at the cell b, what the Statement gives of the start (any of its parts by flat_of_before) -/
def lw_At (p : Program) (s : State) (m : MethodId) (meth : Method) (c : Code) (b L : Nat) (xs : Nat → Int32) : Prop :=
  p.tables.exec = Jvm.exec ∧ c.code = code ∧ meth.sig.returnType = ret ∧ c.maxLocals = 4 ∧ s.vm.findClass R_law = some m.cls ∧ (∀ w ∈ lw_tbl, w.before #[Value.ref b] s = true) ∧ va_X b L xs s s.heap ∧ b < s.heap.size ∧ meth.locks = false ∧ (Jvm.Cond.and given_1 narrow_1).before #[Value.ref b] s = true
theorem mm_L_law_6 : Cond.constantLong RL 75 (4294967295) ∈ wsL_law := List.mem_of_getElem? (i := 6) rfl
set_option maxHeartbeats 8000000 in
set_option maxRecDepth 100000 in
theorem law_loop {p : Program} {l : Launch} {e : Env} {s : State} {m : MethodId} {below : List Frame} {meth : Method} {c : Code} {b L : Nat} {xs : Nat → Int32} (C0 : lw_At p s m meth c b L xs) {D : va_G} {cyI cyZ : ClassId} (hK : x_K D cyI cyZ s) (aM aS aC aH aHs aL aLs aP aPc aR aRn aT aTp bM bN bQ bS bH bP bT : Nat) (N : Nat) : ∀ (n_18 : Nat) (x3 : Int32) (vc : (Nat → Int32)) (vhf : Int32) (vhl : Int32) (vhs : (Nat → Int32)) (vsf : Int32) (vss : (Nat → Int32)) (vpl : Int32) (vpp : (Nat → Int32)) (vra : Int32) (vrk : Int32) (vrt : Int32) (vrn : (Nat → Int32)) (vtl : Int32) (vta : Int32) (vtt : Int32) (vtp : (Nat → Int32)) (us : Int32) (up : Int32) (ue : Int32) (ut : Int32) (um : Int32) (un : (Nat → Int32)) (uq : (Nat → Int32)) (ul : (Nat → Int32)) (uh : (Nat → Int32)) (ux : (Nat → Int32)) (uo : (Nat → Int32)), f_L_law_18 N L xs n_18 x3 vc vhf vhl vhs vsf vss vpl vpp vra vrk vrt vrn vtl vta vtt vtp us up ue ut um un uq ul uh ux uo = some 1 → ∀ (H : Heap) (locs : List Loc) (ls : Array Slot), va_P D vwCl [(aM, .inr (6, [.ref aS, .ref aH, .ref aL, .ref aP, .ref aR, .ref aT])), (aS, .inr (3, [.ref aC])), (aC, .inl (cyI, 225, .inl vc)), (aH, .inr (0, [.ref aHs, .int vhf, .int vhl])), (aHs, .inl (cyI, 1575, .inl vhs)), (aL, .inr (4, [.ref aLs, .int vsf])), (aLs, .inl (cyI, 450, .inl vss)), (aP, .inr (1, [.ref aPc, .int vpl])), (aPc, .inl (cyI, 80, .inl vpp)), (aR, .inr (2, [.ref aP, .ref aRn, .int vra, .int vrk, .int vrt])), (aRn, .inl (cyI, 40, .inl vrn)), (aT, .inr (5, [.ref aTp, .int vtl, .int vta, .int vtt])), (aTp, .inl (cyI, 552, .inl vtp)), (bM, .inr (7, [.ref bN, .ref bQ, .int us, .ref bS, .ref bH, .ref bP, .int up, .int ue, .int ut, .ref bT, .int um])), (bN, .inl (cyI, 225, .inl un)), (bQ, .inl (cyI, 1350, .inl uq)), (bS, .inl (cyI, 450, .inl ul)), (bH, .inl (cyZ, 2, .inl uh)), (bP, .inl (cyI, 80, .inl ux)), (bT, .inl (cyI, 42, .inl uo))] H → va_D (fun q : Nat => s.heap.size ≤ q) [(aM, .inr (6, [.ref aS, .ref aH, .ref aL, .ref aP, .ref aR, .ref aT])), (aS, .inr (3, [.ref aC])), (aC, .inl (cyI, 225, .inl vc)), (aH, .inr (0, [.ref aHs, .int vhf, .int vhl])), (aHs, .inl (cyI, 1575, .inl vhs)), (aL, .inr (4, [.ref aLs, .int vsf])), (aLs, .inl (cyI, 450, .inl vss)), (aP, .inr (1, [.ref aPc, .int vpl])), (aPc, .inl (cyI, 80, .inl vpp)), (aR, .inr (2, [.ref aP, .ref aRn, .int vra, .int vrk, .int vrt])), (aRn, .inl (cyI, 40, .inl vrn)), (aT, .inr (5, [.ref aTp, .int vtl, .int vta, .int vtt])), (aTp, .inl (cyI, 552, .inl vtp)), (bM, .inr (7, [.ref bN, .ref bQ, .int us, .ref bS, .ref bH, .ref bP, .int up, .int ue, .int ut, .ref bT, .int um])), (bN, .inl (cyI, 225, .inl un)), (bQ, .inl (cyI, 1350, .inl uq)), (bS, .inl (cyI, 450, .inl ul)), (bH, .inl (cyZ, 2, .inl uh)), (bP, .inl (cyI, 80, .inl ux)), (bT, .inl (cyI, 42, .inl uo))] → va_S (fun q : Nat => s.heap.size ≤ q) s.heap H locs → lv_has ls 4 [(0, .ref b), (1, .ref aM), (2, .ref bM), (3, .int x3)] → W p l e room_1 s m #[Value.ref b] below meth c H locs 20 5105 (lw_Z below #[Value.ref b] s) (F0 m 18 ls []) := by
  obtain ⟨hx, hb, hr, hml, hown, hts0, hX, hbl, hlocks, hgv⟩ := C0
  have hts := fun w h => hts0 w (wsL_law_in w h)
  have hown : s.vm.findClass RL = some m.cls := hown
  have hA : ∀ q : Nat, s.heap.size ≤ q → (fun q : Nat => s.heap.size ≤ q) q := fun _ h => h
  have hbA : ¬ (fun q : Nat => s.heap.size ≤ q) b := Nat.not_le.mpr hbl
  obtain ⟨G, hG⟩ : ∃ G : Heap → List Loc → JFrame → Prop, ∀ (H : Heap) (locs : List Loc) (g : JFrame), G H locs g ↔ W p l e room_1 s m #[Value.ref b] below meth c H locs 20 5105 (lw_Z below #[Value.ref b] s) g := ⟨fun H locs g => W p l e room_1 s m #[Value.ref b] below meth c H locs 20 5105 (lw_Z below #[Value.ref b] s) g, fun _ _ _ => Iff.rfl⟩
  have blk_18 : ∀ (n_18 : Nat) (x3 : Int32) (vc : (Nat → Int32)) (vhf : Int32) (vhl : Int32) (vhs : (Nat → Int32)) (vsf : Int32) (vss : (Nat → Int32)) (vpl : Int32) (vpp : (Nat → Int32)) (vra : Int32) (vrk : Int32) (vrt : Int32) (vrn : (Nat → Int32)) (vtl : Int32) (vta : Int32) (vtt : Int32) (vtp : (Nat → Int32)) (us : Int32) (up : Int32) (ue : Int32) (ut : Int32) (um : Int32) (un : (Nat → Int32)) (uq : (Nat → Int32)) (ul : (Nat → Int32)) (uh : (Nat → Int32)) (ux : (Nat → Int32)) (uo : (Nat → Int32)), f_L_law_18 N L xs n_18 x3 vc vhf vhl vhs vsf vss vpl vpp vra vrk vrt vrn vtl vta vtt vtp us up ue ut um un uq ul uh ux uo = some 1 → ∀ (H : Heap) (locs : List Loc) (ls : Array Slot), va_P D vwCl [(aM, .inr (6, [.ref aS, .ref aH, .ref aL, .ref aP, .ref aR, .ref aT])), (aS, .inr (3, [.ref aC])), (aC, .inl (cyI, 225, .inl vc)), (aH, .inr (0, [.ref aHs, .int vhf, .int vhl])), (aHs, .inl (cyI, 1575, .inl vhs)), (aL, .inr (4, [.ref aLs, .int vsf])), (aLs, .inl (cyI, 450, .inl vss)), (aP, .inr (1, [.ref aPc, .int vpl])), (aPc, .inl (cyI, 80, .inl vpp)), (aR, .inr (2, [.ref aP, .ref aRn, .int vra, .int vrk, .int vrt])), (aRn, .inl (cyI, 40, .inl vrn)), (aT, .inr (5, [.ref aTp, .int vtl, .int vta, .int vtt])), (aTp, .inl (cyI, 552, .inl vtp)), (bM, .inr (7, [.ref bN, .ref bQ, .int us, .ref bS, .ref bH, .ref bP, .int up, .int ue, .int ut, .ref bT, .int um])), (bN, .inl (cyI, 225, .inl un)), (bQ, .inl (cyI, 1350, .inl uq)), (bS, .inl (cyI, 450, .inl ul)), (bH, .inl (cyZ, 2, .inl uh)), (bP, .inl (cyI, 80, .inl ux)), (bT, .inl (cyI, 42, .inl uo))] H → va_D (fun q : Nat => s.heap.size ≤ q) [(aM, .inr (6, [.ref aS, .ref aH, .ref aL, .ref aP, .ref aR, .ref aT])), (aS, .inr (3, [.ref aC])), (aC, .inl (cyI, 225, .inl vc)), (aH, .inr (0, [.ref aHs, .int vhf, .int vhl])), (aHs, .inl (cyI, 1575, .inl vhs)), (aL, .inr (4, [.ref aLs, .int vsf])), (aLs, .inl (cyI, 450, .inl vss)), (aP, .inr (1, [.ref aPc, .int vpl])), (aPc, .inl (cyI, 80, .inl vpp)), (aR, .inr (2, [.ref aP, .ref aRn, .int vra, .int vrk, .int vrt])), (aRn, .inl (cyI, 40, .inl vrn)), (aT, .inr (5, [.ref aTp, .int vtl, .int vta, .int vtt])), (aTp, .inl (cyI, 552, .inl vtp)), (bM, .inr (7, [.ref bN, .ref bQ, .int us, .ref bS, .ref bH, .ref bP, .int up, .int ue, .int ut, .ref bT, .int um])), (bN, .inl (cyI, 225, .inl un)), (bQ, .inl (cyI, 1350, .inl uq)), (bS, .inl (cyI, 450, .inl ul)), (bH, .inl (cyZ, 2, .inl uh)), (bP, .inl (cyI, 80, .inl ux)), (bT, .inl (cyI, 42, .inl uo))] → va_S (fun q : Nat => s.heap.size ≤ q) s.heap H locs → lv_has ls 4 [(0, .ref b), (1, .ref aM), (2, .ref bM), (3, .int x3)] → G H locs (F0 m 18 ls []) := by
    intro n_18
    induction n_18 with
    | zero => intro x3 vc vhf vhl vhs vsf vss vpl vpp vra vrk vrt vrn vtl vta vtt vtp us up ue ut um un uq ul uh ux uo hF; exact (k_none hF).elim
    | succ n_18 ih_18 =>
      have blk_877 : ∀ (x3 : Int32) (vc : (Nat → Int32)) (vhf : Int32) (vhl : Int32) (vhs : (Nat → Int32)) (vsf : Int32) (vss : (Nat → Int32)) (vpl : Int32) (vpp : (Nat → Int32)) (vra : Int32) (vrk : Int32) (vrt : Int32) (vrn : (Nat → Int32)) (vtl : Int32) (vta : Int32) (vtt : Int32) (vtp : (Nat → Int32)) (us : Int32) (up : Int32) (ue : Int32) (ut : Int32) (um : Int32) (un : (Nat → Int32)) (uq : (Nat → Int32)) (ul : (Nat → Int32)) (uh : (Nat → Int32)) (ux : (Nat → Int32)) (uo : (Nat → Int32)), b_L_law_877 N L xs (f_L_law_18 N L xs n_18) x3 vc vhf vhl vhs vsf vss vpl vpp vra vrk vrt vrn vtl vta vtt vtp us up ue ut um un uq ul uh ux uo = some 1 → ∀ (H : Heap) (locs : List Loc) (ls : Array Slot), va_P D vwCl [(aM, .inr (6, [.ref aS, .ref aH, .ref aL, .ref aP, .ref aR, .ref aT])), (aS, .inr (3, [.ref aC])), (aC, .inl (cyI, 225, .inl vc)), (aH, .inr (0, [.ref aHs, .int vhf, .int vhl])), (aHs, .inl (cyI, 1575, .inl vhs)), (aL, .inr (4, [.ref aLs, .int vsf])), (aLs, .inl (cyI, 450, .inl vss)), (aP, .inr (1, [.ref aPc, .int vpl])), (aPc, .inl (cyI, 80, .inl vpp)), (aR, .inr (2, [.ref aP, .ref aRn, .int vra, .int vrk, .int vrt])), (aRn, .inl (cyI, 40, .inl vrn)), (aT, .inr (5, [.ref aTp, .int vtl, .int vta, .int vtt])), (aTp, .inl (cyI, 552, .inl vtp)), (bM, .inr (7, [.ref bN, .ref bQ, .int us, .ref bS, .ref bH, .ref bP, .int up, .int ue, .int ut, .ref bT, .int um])), (bN, .inl (cyI, 225, .inl un)), (bQ, .inl (cyI, 1350, .inl uq)), (bS, .inl (cyI, 450, .inl ul)), (bH, .inl (cyZ, 2, .inl uh)), (bP, .inl (cyI, 80, .inl ux)), (bT, .inl (cyI, 42, .inl uo))] H → va_D (fun q : Nat => s.heap.size ≤ q) [(aM, .inr (6, [.ref aS, .ref aH, .ref aL, .ref aP, .ref aR, .ref aT])), (aS, .inr (3, [.ref aC])), (aC, .inl (cyI, 225, .inl vc)), (aH, .inr (0, [.ref aHs, .int vhf, .int vhl])), (aHs, .inl (cyI, 1575, .inl vhs)), (aL, .inr (4, [.ref aLs, .int vsf])), (aLs, .inl (cyI, 450, .inl vss)), (aP, .inr (1, [.ref aPc, .int vpl])), (aPc, .inl (cyI, 80, .inl vpp)), (aR, .inr (2, [.ref aP, .ref aRn, .int vra, .int vrk, .int vrt])), (aRn, .inl (cyI, 40, .inl vrn)), (aT, .inr (5, [.ref aTp, .int vtl, .int vta, .int vtt])), (aTp, .inl (cyI, 552, .inl vtp)), (bM, .inr (7, [.ref bN, .ref bQ, .int us, .ref bS, .ref bH, .ref bP, .int up, .int ue, .int ut, .ref bT, .int um])), (bN, .inl (cyI, 225, .inl un)), (bQ, .inl (cyI, 1350, .inl uq)), (bS, .inl (cyI, 450, .inl ul)), (bH, .inl (cyZ, 2, .inl uh)), (bP, .inl (cyI, 80, .inl ux)), (bT, .inl (cyI, 42, .inl uo))] → va_S (fun q : Nat => s.heap.size ≤ q) s.heap H locs → lv_has ls 4 [(0, .ref b), (1, .ref aM), (2, .ref bM), (3, .int x3)] → G H locs (F0 m 877 ls []) := by
        intro x3 vc vhf vhl vhs vsf vss vpl vpp vra vrk vrt vrn vtl vta vtt vtp us up ue ut um un uq ul uh ux uo hF H locs ls hP hD hS hl
        unfold b_L_law_877 at hF
        refine (hG _ _ _).2 ?_
        obtain ⟨x3_877, hn, hF⟩ := k_let_ex hF
        refine lv_iinc (v := x3_877) (lv' := [(3, .int x3_877), (0, .ref b), (1, .ref aM), (2, .ref bM)]) hx hb dL_law_877 hl (k := 3) rfl (by rw [hn]; rfl) (by decide) rfl (fun ls hl => ?_)
        refine lv_goto (tgt := 18) hx hb dL_law_880 (by decide) ?_
        exact (hG _ _ _).1 (ih_18 x3_877 vc vhf vhl vhs vsf vss vpl vpp vra vrk vrt vrn vtl vta vtt vtp us up ue ut um un uq ul uh ux uo hF _ _ _ hP hD hS (lv_sub hl [1, 2, 3, 0] rfl))
      have blk_132 : ∀ (x3 : Int32) (vc : (Nat → Int32)) (vhf : Int32) (vhl : Int32) (vhs : (Nat → Int32)) (vsf : Int32) (vss : (Nat → Int32)) (vpl : Int32) (vpp : (Nat → Int32)) (vra : Int32) (vrk : Int32) (vrt : Int32) (vrn : (Nat → Int32)) (vtl : Int32) (vta : Int32) (vtt : Int32) (vtp : (Nat → Int32)) (us : Int32) (up : Int32) (ue : Int32) (ut : Int32) (um : Int32) (un : (Nat → Int32)) (uq : (Nat → Int32)) (ul : (Nat → Int32)) (uh : (Nat → Int32)) (ux : (Nat → Int32)) (uo : (Nat → Int32)), b_L_law_132 N L xs (f_L_law_18 N L xs n_18) x3 vc vhf vhl vhs vsf vss vpl vpp vra vrk vrt vrn vtl vta vtt vtp us up ue ut um un uq ul uh ux uo = some 1 → ∀ (H : Heap) (locs : List Loc) (ls : Array Slot), va_P D vwCl [(aM, .inr (6, [.ref aS, .ref aH, .ref aL, .ref aP, .ref aR, .ref aT])), (aS, .inr (3, [.ref aC])), (aC, .inl (cyI, 225, .inl vc)), (aH, .inr (0, [.ref aHs, .int vhf, .int vhl])), (aHs, .inl (cyI, 1575, .inl vhs)), (aL, .inr (4, [.ref aLs, .int vsf])), (aLs, .inl (cyI, 450, .inl vss)), (aP, .inr (1, [.ref aPc, .int vpl])), (aPc, .inl (cyI, 80, .inl vpp)), (aR, .inr (2, [.ref aP, .ref aRn, .int vra, .int vrk, .int vrt])), (aRn, .inl (cyI, 40, .inl vrn)), (aT, .inr (5, [.ref aTp, .int vtl, .int vta, .int vtt])), (aTp, .inl (cyI, 552, .inl vtp)), (bM, .inr (7, [.ref bN, .ref bQ, .int us, .ref bS, .ref bH, .ref bP, .int up, .int ue, .int ut, .ref bT, .int um])), (bN, .inl (cyI, 225, .inl un)), (bQ, .inl (cyI, 1350, .inl uq)), (bS, .inl (cyI, 450, .inl ul)), (bH, .inl (cyZ, 2, .inl uh)), (bP, .inl (cyI, 80, .inl ux)), (bT, .inl (cyI, 42, .inl uo))] H → va_D (fun q : Nat => s.heap.size ≤ q) [(aM, .inr (6, [.ref aS, .ref aH, .ref aL, .ref aP, .ref aR, .ref aT])), (aS, .inr (3, [.ref aC])), (aC, .inl (cyI, 225, .inl vc)), (aH, .inr (0, [.ref aHs, .int vhf, .int vhl])), (aHs, .inl (cyI, 1575, .inl vhs)), (aL, .inr (4, [.ref aLs, .int vsf])), (aLs, .inl (cyI, 450, .inl vss)), (aP, .inr (1, [.ref aPc, .int vpl])), (aPc, .inl (cyI, 80, .inl vpp)), (aR, .inr (2, [.ref aP, .ref aRn, .int vra, .int vrk, .int vrt])), (aRn, .inl (cyI, 40, .inl vrn)), (aT, .inr (5, [.ref aTp, .int vtl, .int vta, .int vtt])), (aTp, .inl (cyI, 552, .inl vtp)), (bM, .inr (7, [.ref bN, .ref bQ, .int us, .ref bS, .ref bH, .ref bP, .int up, .int ue, .int ut, .ref bT, .int um])), (bN, .inl (cyI, 225, .inl un)), (bQ, .inl (cyI, 1350, .inl uq)), (bS, .inl (cyI, 450, .inl ul)), (bH, .inl (cyZ, 2, .inl uh)), (bP, .inl (cyI, 80, .inl ux)), (bT, .inl (cyI, 42, .inl uo))] → va_S (fun q : Nat => s.heap.size ≤ q) s.heap H locs → lv_has ls 4 [(0, .ref b), (1, .ref aM), (2, .ref bM), (3, .int x3)] → G H locs (F0 m 132 ls []) := by
        intro x3 vc vhf vhl vhs vsf vss vpl vpp vra vrk vrt vrn vtl vta vtt vtp us up ue ut um un uq ul uh ux uo hF H locs ls hP hD hS hl
        unfold b_L_law_132 at hF
        refine (hG _ _ _).2 ?_
        refine lv_aload_n hx hb dL_law_132 rfl (lv_at hl 1 rfl) ?_
        refine lv_aload_n hx hb dL_law_133 rfl (lv_at hl 0 rfl) ?_
        refine lv_iload_n hx hb dL_law_134 rfl (lv_at hl 3 rfl) ?_
        refine lv_iconst (v := (1 : Int32)) hx hb dL_law_135 (by decide) ?_
        refine lv_iadd hx hb dL_law_136 ?_
        obtain ⟨r137, hin, hn, hF⟩ := k_ld_ex hF
        refine va_sld hx hb hX hbl hbA hS hin dL_law_137 ?_
        refine x_nm hn ?_
        refine lv_aload_n hx hb dL_law_138 rfl (lv_at hl 0 rfl) ?_
        refine lv_iload_n hx hb dL_law_139 rfl (lv_at hl 3 rfl) ?_
        refine lv_iconst (v := (2 : Int32)) hx hb dL_law_140 (by decide) ?_
        refine lv_iadd hx hb dL_law_141 ?_
        obtain ⟨r142, hin, hn, hF⟩ := k_ld_ex hF
        refine va_sld hx hb hX hbl hbA hS hin dL_law_142 ?_
        refine x_nm hn ?_
        obtain ⟨r143, vc_143, vhf_143, vhl_143, vhs_143, hC, hF⟩ := k_c5_ex hF
        refine x_VM (As := [.int r137, .int r142]) (rest := []) ⟨hx, hb, hml, hown, hts⟩ (c_X6_set l D cyI cyZ aM aS aC aH aHs aL aP aR aT H.size N r137 r142 vc vhf vhl vhs hC) (cwV 2 hts gL_law_X6_set rfl rfl rfl (by decide +kernel) ⟨Nat.le_of_ble_eq_true rfl, Nat.le_of_ble_eq_true rfl⟩) hK hP hD hS hA [0, 1, 2, 3, 4] rfl rfl rfl 0 rfl rfl rfl rfl hl.1 rfl (Nat.le_of_ble_eq_true rfl) ⟨Nat.le_of_ble_eq_true rfl, Nat.le_of_ble_eq_true rfl⟩ dL_law_143 (fun H locs hP hD hS => ?_)
        have hP : va_P D vwCl [(aM, .inr (6, [.ref aS, .ref aH, .ref aL, .ref aP, .ref aR, .ref aT])), (aS, .inr (3, [.ref aC])), (aC, .inl (cyI, 225, .inl vc_143)), (aH, .inr (0, [.ref aHs, .int vhf_143, .int vhl_143])), (aHs, .inl (cyI, 1575, .inl vhs_143)), (aL, .inr (4, [.ref aLs, .int vsf])), (aLs, .inl (cyI, 450, .inl vss)), (aP, .inr (1, [.ref aPc, .int vpl])), (aPc, .inl (cyI, 80, .inl vpp)), (aR, .inr (2, [.ref aP, .ref aRn, .int vra, .int vrk, .int vrt])), (aRn, .inl (cyI, 40, .inl vrn)), (aT, .inr (5, [.ref aTp, .int vtl, .int vta, .int vtt])), (aTp, .inl (cyI, 552, .inl vtp)), (bM, .inr (7, [.ref bN, .ref bQ, .int us, .ref bS, .ref bH, .ref bP, .int up, .int ue, .int ut, .ref bT, .int um])), (bN, .inl (cyI, 225, .inl un)), (bQ, .inl (cyI, 1350, .inl uq)), (bS, .inl (cyI, 450, .inl ul)), (bH, .inl (cyZ, 2, .inl uh)), (bP, .inl (cyI, 80, .inl ux)), (bT, .inl (cyI, 42, .inl uo))] H := hP
        have hD : va_D (fun q : Nat => s.heap.size ≤ q) [(aM, .inr (6, [.ref aS, .ref aH, .ref aL, .ref aP, .ref aR, .ref aT])), (aS, .inr (3, [.ref aC])), (aC, .inl (cyI, 225, .inl vc_143)), (aH, .inr (0, [.ref aHs, .int vhf_143, .int vhl_143])), (aHs, .inl (cyI, 1575, .inl vhs_143)), (aL, .inr (4, [.ref aLs, .int vsf])), (aLs, .inl (cyI, 450, .inl vss)), (aP, .inr (1, [.ref aPc, .int vpl])), (aPc, .inl (cyI, 80, .inl vpp)), (aR, .inr (2, [.ref aP, .ref aRn, .int vra, .int vrk, .int vrt])), (aRn, .inl (cyI, 40, .inl vrn)), (aT, .inr (5, [.ref aTp, .int vtl, .int vta, .int vtt])), (aTp, .inl (cyI, 552, .inl vtp)), (bM, .inr (7, [.ref bN, .ref bQ, .int us, .ref bS, .ref bH, .ref bP, .int up, .int ue, .int ut, .ref bT, .int um])), (bN, .inl (cyI, 225, .inl un)), (bQ, .inl (cyI, 1350, .inl uq)), (bS, .inl (cyI, 450, .inl ul)), (bH, .inl (cyZ, 2, .inl uh)), (bP, .inl (cyI, 80, .inl ux)), (bT, .inl (cyI, 42, .inl uo))] := hD
        refine lv_aload_n hx hb dL_law_146 rfl (lv_at hl 2 rfl) ?_
        refine lv_aload_n hx hb dL_law_147 rfl (lv_at hl 0 rfl) ?_
        refine lv_iload_n hx hb dL_law_148 rfl (lv_at hl 3 rfl) ?_
        refine lv_iconst (v := (1 : Int32)) hx hb dL_law_149 (by decide) ?_
        refine lv_iadd hx hb dL_law_150 ?_
        obtain ⟨r151, hin, hn, hF⟩ := k_ld_ex hF
        refine va_sld hx hb hX hbl hbA hS hin dL_law_151 ?_
        refine x_nm hn ?_
        refine lv_aload_n hx hb dL_law_152 rfl (lv_at hl 0 rfl) ?_
        refine lv_iload_n hx hb dL_law_153 rfl (lv_at hl 3 rfl) ?_
        refine lv_iconst (v := (2 : Int32)) hx hb dL_law_154 (by decide) ?_
        refine lv_iadd hx hb dL_law_155 ?_
        obtain ⟨r156, hin, hn, hF⟩ := k_ld_ex hF
        refine va_sld hx hb hX hbl hbA hS hin dL_law_156 ?_
        refine x_nm hn ?_
        obtain ⟨r157, us_157, un_157, uq_157, hC, hF⟩ := k_c4_ex hF
        refine x_VM (As := [.int r151, .int r156]) (rest := [.int r143]) ⟨hx, hb, hml, hown, hts⟩ (c_X7_set l D cyI cyZ bM bN bQ bS bH bP bT H.size N r151 r156 us up ue ut um un uq hC) (cwV 2 hts gL_law_X7_set rfl rfl rfl (by decide +kernel) ⟨Nat.le_of_ble_eq_true rfl, Nat.le_of_ble_eq_true rfl⟩) hK hP hD hS hA [13, 14, 15] rfl rfl rfl 13 rfl rfl rfl rfl hl.1 rfl (Nat.le_of_ble_eq_true rfl) ⟨Nat.le_of_ble_eq_true rfl, Nat.le_of_ble_eq_true rfl⟩ dL_law_157 (fun H locs hP hD hS => ?_)
        have hP : va_P D vwCl [(aM, .inr (6, [.ref aS, .ref aH, .ref aL, .ref aP, .ref aR, .ref aT])), (aS, .inr (3, [.ref aC])), (aC, .inl (cyI, 225, .inl vc_143)), (aH, .inr (0, [.ref aHs, .int vhf_143, .int vhl_143])), (aHs, .inl (cyI, 1575, .inl vhs_143)), (aL, .inr (4, [.ref aLs, .int vsf])), (aLs, .inl (cyI, 450, .inl vss)), (aP, .inr (1, [.ref aPc, .int vpl])), (aPc, .inl (cyI, 80, .inl vpp)), (aR, .inr (2, [.ref aP, .ref aRn, .int vra, .int vrk, .int vrt])), (aRn, .inl (cyI, 40, .inl vrn)), (aT, .inr (5, [.ref aTp, .int vtl, .int vta, .int vtt])), (aTp, .inl (cyI, 552, .inl vtp)), (bM, .inr (7, [.ref bN, .ref bQ, .int us_157, .ref bS, .ref bH, .ref bP, .int up, .int ue, .int ut, .ref bT, .int um])), (bN, .inl (cyI, 225, .inl un_157)), (bQ, .inl (cyI, 1350, .inl uq_157)), (bS, .inl (cyI, 450, .inl ul)), (bH, .inl (cyZ, 2, .inl uh)), (bP, .inl (cyI, 80, .inl ux)), (bT, .inl (cyI, 42, .inl uo))] H := hP
        have hD : va_D (fun q : Nat => s.heap.size ≤ q) [(aM, .inr (6, [.ref aS, .ref aH, .ref aL, .ref aP, .ref aR, .ref aT])), (aS, .inr (3, [.ref aC])), (aC, .inl (cyI, 225, .inl vc_143)), (aH, .inr (0, [.ref aHs, .int vhf_143, .int vhl_143])), (aHs, .inl (cyI, 1575, .inl vhs_143)), (aL, .inr (4, [.ref aLs, .int vsf])), (aLs, .inl (cyI, 450, .inl vss)), (aP, .inr (1, [.ref aPc, .int vpl])), (aPc, .inl (cyI, 80, .inl vpp)), (aR, .inr (2, [.ref aP, .ref aRn, .int vra, .int vrk, .int vrt])), (aRn, .inl (cyI, 40, .inl vrn)), (aT, .inr (5, [.ref aTp, .int vtl, .int vta, .int vtt])), (aTp, .inl (cyI, 552, .inl vtp)), (bM, .inr (7, [.ref bN, .ref bQ, .int us_157, .ref bS, .ref bH, .ref bP, .int up, .int ue, .int ut, .ref bT, .int um])), (bN, .inl (cyI, 225, .inl un_157)), (bQ, .inl (cyI, 1350, .inl uq_157)), (bS, .inl (cyI, 450, .inl ul)), (bH, .inl (cyZ, 2, .inl uh)), (bP, .inl (cyI, 80, .inl ux)), (bT, .inl (cyI, 42, .inl uo))] := hD
        refine lv_icmp_eq (tgt := 877) hx hb dL_law_160 (by decide) (fun hc => ?_) (fun hc => ?_)
        · have hF := k_if_t hF hc
          exact (hG _ _ _).1 (blk_877 x3 vc_143 vhf_143 vhl_143 vhs_143 vsf vss vpl vpp vra vrk vrt vrn vtl vta vtt vtp us_157 up ue ut um un_157 uq_157 ul uh ux uo hF _ _ _ hP hD hS (lv_sub hl [0, 1, 2, 3] rfl))
        · have hF := k_if_f hF hc
          refine lv_iconst (v := (0 : Int32)) hx hb dL_law_163 (by decide) ?_
          exact absurd (Option.some.inj hF) (by decide)
      have blk_165 : ∀ (x3 : Int32) (vc : (Nat → Int32)) (vhf : Int32) (vhl : Int32) (vhs : (Nat → Int32)) (vsf : Int32) (vss : (Nat → Int32)) (vpl : Int32) (vpp : (Nat → Int32)) (vra : Int32) (vrk : Int32) (vrt : Int32) (vrn : (Nat → Int32)) (vtl : Int32) (vta : Int32) (vtt : Int32) (vtp : (Nat → Int32)) (us : Int32) (up : Int32) (ue : Int32) (ut : Int32) (um : Int32) (un : (Nat → Int32)) (uq : (Nat → Int32)) (ul : (Nat → Int32)) (uh : (Nat → Int32)) (ux : (Nat → Int32)) (uo : (Nat → Int32)), b_L_law_165 N L xs (f_L_law_18 N L xs n_18) x3 vc vhf vhl vhs vsf vss vpl vpp vra vrk vrt vrn vtl vta vtt vtp us up ue ut um un uq ul uh ux uo = some 1 → ∀ (H : Heap) (locs : List Loc) (ls : Array Slot), va_P D vwCl [(aM, .inr (6, [.ref aS, .ref aH, .ref aL, .ref aP, .ref aR, .ref aT])), (aS, .inr (3, [.ref aC])), (aC, .inl (cyI, 225, .inl vc)), (aH, .inr (0, [.ref aHs, .int vhf, .int vhl])), (aHs, .inl (cyI, 1575, .inl vhs)), (aL, .inr (4, [.ref aLs, .int vsf])), (aLs, .inl (cyI, 450, .inl vss)), (aP, .inr (1, [.ref aPc, .int vpl])), (aPc, .inl (cyI, 80, .inl vpp)), (aR, .inr (2, [.ref aP, .ref aRn, .int vra, .int vrk, .int vrt])), (aRn, .inl (cyI, 40, .inl vrn)), (aT, .inr (5, [.ref aTp, .int vtl, .int vta, .int vtt])), (aTp, .inl (cyI, 552, .inl vtp)), (bM, .inr (7, [.ref bN, .ref bQ, .int us, .ref bS, .ref bH, .ref bP, .int up, .int ue, .int ut, .ref bT, .int um])), (bN, .inl (cyI, 225, .inl un)), (bQ, .inl (cyI, 1350, .inl uq)), (bS, .inl (cyI, 450, .inl ul)), (bH, .inl (cyZ, 2, .inl uh)), (bP, .inl (cyI, 80, .inl ux)), (bT, .inl (cyI, 42, .inl uo))] H → va_D (fun q : Nat => s.heap.size ≤ q) [(aM, .inr (6, [.ref aS, .ref aH, .ref aL, .ref aP, .ref aR, .ref aT])), (aS, .inr (3, [.ref aC])), (aC, .inl (cyI, 225, .inl vc)), (aH, .inr (0, [.ref aHs, .int vhf, .int vhl])), (aHs, .inl (cyI, 1575, .inl vhs)), (aL, .inr (4, [.ref aLs, .int vsf])), (aLs, .inl (cyI, 450, .inl vss)), (aP, .inr (1, [.ref aPc, .int vpl])), (aPc, .inl (cyI, 80, .inl vpp)), (aR, .inr (2, [.ref aP, .ref aRn, .int vra, .int vrk, .int vrt])), (aRn, .inl (cyI, 40, .inl vrn)), (aT, .inr (5, [.ref aTp, .int vtl, .int vta, .int vtt])), (aTp, .inl (cyI, 552, .inl vtp)), (bM, .inr (7, [.ref bN, .ref bQ, .int us, .ref bS, .ref bH, .ref bP, .int up, .int ue, .int ut, .ref bT, .int um])), (bN, .inl (cyI, 225, .inl un)), (bQ, .inl (cyI, 1350, .inl uq)), (bS, .inl (cyI, 450, .inl ul)), (bH, .inl (cyZ, 2, .inl uh)), (bP, .inl (cyI, 80, .inl ux)), (bT, .inl (cyI, 42, .inl uo))] → va_S (fun q : Nat => s.heap.size ≤ q) s.heap H locs → lv_has ls 4 [(0, .ref b), (1, .ref aM), (2, .ref bM), (3, .int x3)] → G H locs (F0 m 165 ls []) := by
        intro x3 vc vhf vhl vhs vsf vss vpl vpp vra vrk vrt vrn vtl vta vtt vtp us up ue ut um un uq ul uh ux uo hF H locs ls hP hD hS hl
        unfold b_L_law_165 at hF
        refine (hG _ _ _).2 ?_
        refine lv_aload_n hx hb dL_law_165 rfl (lv_at hl 1 rfl) ?_
        refine lv_aload_n hx hb dL_law_166 rfl (lv_at hl 0 rfl) ?_
        refine lv_iload_n hx hb dL_law_167 rfl (lv_at hl 3 rfl) ?_
        refine lv_iconst (v := (1 : Int32)) hx hb dL_law_168 (by decide) ?_
        refine lv_iadd hx hb dL_law_169 ?_
        obtain ⟨r170, hin, hn, hF⟩ := k_ld_ex hF
        refine va_sld hx hb hX hbl hbA hS hin dL_law_170 ?_
        refine x_nm hn ?_
        refine lv_aload_n hx hb dL_law_171 rfl (lv_at hl 0 rfl) ?_
        refine lv_iload_n hx hb dL_law_172 rfl (lv_at hl 3 rfl) ?_
        refine lv_iconst (v := (2 : Int32)) hx hb dL_law_173 (by decide) ?_
        refine lv_iadd hx hb dL_law_174 ?_
        obtain ⟨r175, hin, hn, hF⟩ := k_ld_ex hF
        refine va_sld hx hb hX hbl hbA hS hin dL_law_175 ?_
        refine x_nm hn ?_
        obtain ⟨r176, vc_176, vhf_176, vhl_176, vhs_176, hC, hF⟩ := k_c5_ex hF
        refine x_VM (As := [.int r170, .int r175]) (rest := []) ⟨hx, hb, hml, hown, hts⟩ (c_X6_roller l D cyI cyZ aM aS aC aH aHs aL aP aR aT H.size N r170 r175 vc vhf vhl vhs hC) (cwV 2 hts gL_law_X6_roller rfl rfl rfl (by decide +kernel) ⟨Nat.le_of_ble_eq_true rfl, Nat.le_of_ble_eq_true rfl⟩) hK hP hD hS hA [0, 1, 2, 3, 4] rfl rfl rfl 0 rfl rfl rfl rfl hl.1 rfl (Nat.le_of_ble_eq_true rfl) ⟨Nat.le_of_ble_eq_true rfl, Nat.le_of_ble_eq_true rfl⟩ dL_law_176 (fun H locs hP hD hS => ?_)
        have hP : va_P D vwCl [(aM, .inr (6, [.ref aS, .ref aH, .ref aL, .ref aP, .ref aR, .ref aT])), (aS, .inr (3, [.ref aC])), (aC, .inl (cyI, 225, .inl vc_176)), (aH, .inr (0, [.ref aHs, .int vhf_176, .int vhl_176])), (aHs, .inl (cyI, 1575, .inl vhs_176)), (aL, .inr (4, [.ref aLs, .int vsf])), (aLs, .inl (cyI, 450, .inl vss)), (aP, .inr (1, [.ref aPc, .int vpl])), (aPc, .inl (cyI, 80, .inl vpp)), (aR, .inr (2, [.ref aP, .ref aRn, .int vra, .int vrk, .int vrt])), (aRn, .inl (cyI, 40, .inl vrn)), (aT, .inr (5, [.ref aTp, .int vtl, .int vta, .int vtt])), (aTp, .inl (cyI, 552, .inl vtp)), (bM, .inr (7, [.ref bN, .ref bQ, .int us, .ref bS, .ref bH, .ref bP, .int up, .int ue, .int ut, .ref bT, .int um])), (bN, .inl (cyI, 225, .inl un)), (bQ, .inl (cyI, 1350, .inl uq)), (bS, .inl (cyI, 450, .inl ul)), (bH, .inl (cyZ, 2, .inl uh)), (bP, .inl (cyI, 80, .inl ux)), (bT, .inl (cyI, 42, .inl uo))] H := hP
        have hD : va_D (fun q : Nat => s.heap.size ≤ q) [(aM, .inr (6, [.ref aS, .ref aH, .ref aL, .ref aP, .ref aR, .ref aT])), (aS, .inr (3, [.ref aC])), (aC, .inl (cyI, 225, .inl vc_176)), (aH, .inr (0, [.ref aHs, .int vhf_176, .int vhl_176])), (aHs, .inl (cyI, 1575, .inl vhs_176)), (aL, .inr (4, [.ref aLs, .int vsf])), (aLs, .inl (cyI, 450, .inl vss)), (aP, .inr (1, [.ref aPc, .int vpl])), (aPc, .inl (cyI, 80, .inl vpp)), (aR, .inr (2, [.ref aP, .ref aRn, .int vra, .int vrk, .int vrt])), (aRn, .inl (cyI, 40, .inl vrn)), (aT, .inr (5, [.ref aTp, .int vtl, .int vta, .int vtt])), (aTp, .inl (cyI, 552, .inl vtp)), (bM, .inr (7, [.ref bN, .ref bQ, .int us, .ref bS, .ref bH, .ref bP, .int up, .int ue, .int ut, .ref bT, .int um])), (bN, .inl (cyI, 225, .inl un)), (bQ, .inl (cyI, 1350, .inl uq)), (bS, .inl (cyI, 450, .inl ul)), (bH, .inl (cyZ, 2, .inl uh)), (bP, .inl (cyI, 80, .inl ux)), (bT, .inl (cyI, 42, .inl uo))] := hD
        refine lv_aload_n hx hb dL_law_179 rfl (lv_at hl 2 rfl) ?_
        refine lv_aload_n hx hb dL_law_180 rfl (lv_at hl 0 rfl) ?_
        refine lv_iload_n hx hb dL_law_181 rfl (lv_at hl 3 rfl) ?_
        refine lv_iconst (v := (1 : Int32)) hx hb dL_law_182 (by decide) ?_
        refine lv_iadd hx hb dL_law_183 ?_
        obtain ⟨r184, hin, hn, hF⟩ := k_ld_ex hF
        refine va_sld hx hb hX hbl hbA hS hin dL_law_184 ?_
        refine x_nm hn ?_
        refine lv_aload_n hx hb dL_law_185 rfl (lv_at hl 0 rfl) ?_
        refine lv_iload_n hx hb dL_law_186 rfl (lv_at hl 3 rfl) ?_
        refine lv_iconst (v := (2 : Int32)) hx hb dL_law_187 (by decide) ?_
        refine lv_iadd hx hb dL_law_188 ?_
        obtain ⟨r189, hin, hn, hF⟩ := k_ld_ex hF
        refine va_sld hx hb hX hbl hbA hS hin dL_law_189 ?_
        refine x_nm hn ?_
        obtain ⟨r190, us_190, un_190, uq_190, hC, hF⟩ := k_c4_ex hF
        refine x_VM (As := [.int r184, .int r189]) (rest := [.int r176]) ⟨hx, hb, hml, hown, hts⟩ (c_X7_roller l D cyI cyZ bM bN bQ bS bH bP bT H.size N r184 r189 us up ue ut um un uq hC) (cwV 2 hts gL_law_X7_roller rfl rfl rfl (by decide +kernel) ⟨Nat.le_of_ble_eq_true rfl, Nat.le_of_ble_eq_true rfl⟩) hK hP hD hS hA [13, 14, 15] rfl rfl rfl 13 rfl rfl rfl rfl hl.1 rfl (Nat.le_of_ble_eq_true rfl) ⟨Nat.le_of_ble_eq_true rfl, Nat.le_of_ble_eq_true rfl⟩ dL_law_190 (fun H locs hP hD hS => ?_)
        have hP : va_P D vwCl [(aM, .inr (6, [.ref aS, .ref aH, .ref aL, .ref aP, .ref aR, .ref aT])), (aS, .inr (3, [.ref aC])), (aC, .inl (cyI, 225, .inl vc_176)), (aH, .inr (0, [.ref aHs, .int vhf_176, .int vhl_176])), (aHs, .inl (cyI, 1575, .inl vhs_176)), (aL, .inr (4, [.ref aLs, .int vsf])), (aLs, .inl (cyI, 450, .inl vss)), (aP, .inr (1, [.ref aPc, .int vpl])), (aPc, .inl (cyI, 80, .inl vpp)), (aR, .inr (2, [.ref aP, .ref aRn, .int vra, .int vrk, .int vrt])), (aRn, .inl (cyI, 40, .inl vrn)), (aT, .inr (5, [.ref aTp, .int vtl, .int vta, .int vtt])), (aTp, .inl (cyI, 552, .inl vtp)), (bM, .inr (7, [.ref bN, .ref bQ, .int us_190, .ref bS, .ref bH, .ref bP, .int up, .int ue, .int ut, .ref bT, .int um])), (bN, .inl (cyI, 225, .inl un_190)), (bQ, .inl (cyI, 1350, .inl uq_190)), (bS, .inl (cyI, 450, .inl ul)), (bH, .inl (cyZ, 2, .inl uh)), (bP, .inl (cyI, 80, .inl ux)), (bT, .inl (cyI, 42, .inl uo))] H := hP
        have hD : va_D (fun q : Nat => s.heap.size ≤ q) [(aM, .inr (6, [.ref aS, .ref aH, .ref aL, .ref aP, .ref aR, .ref aT])), (aS, .inr (3, [.ref aC])), (aC, .inl (cyI, 225, .inl vc_176)), (aH, .inr (0, [.ref aHs, .int vhf_176, .int vhl_176])), (aHs, .inl (cyI, 1575, .inl vhs_176)), (aL, .inr (4, [.ref aLs, .int vsf])), (aLs, .inl (cyI, 450, .inl vss)), (aP, .inr (1, [.ref aPc, .int vpl])), (aPc, .inl (cyI, 80, .inl vpp)), (aR, .inr (2, [.ref aP, .ref aRn, .int vra, .int vrk, .int vrt])), (aRn, .inl (cyI, 40, .inl vrn)), (aT, .inr (5, [.ref aTp, .int vtl, .int vta, .int vtt])), (aTp, .inl (cyI, 552, .inl vtp)), (bM, .inr (7, [.ref bN, .ref bQ, .int us_190, .ref bS, .ref bH, .ref bP, .int up, .int ue, .int ut, .ref bT, .int um])), (bN, .inl (cyI, 225, .inl un_190)), (bQ, .inl (cyI, 1350, .inl uq_190)), (bS, .inl (cyI, 450, .inl ul)), (bH, .inl (cyZ, 2, .inl uh)), (bP, .inl (cyI, 80, .inl ux)), (bT, .inl (cyI, 42, .inl uo))] := hD
        refine lv_icmp_eq (tgt := 877) hx hb dL_law_193 (by decide) (fun hc => ?_) (fun hc => ?_)
        · have hF := k_if_t hF hc
          exact (hG _ _ _).1 (blk_877 x3 vc_176 vhf_176 vhl_176 vhs_176 vsf vss vpl vpp vra vrk vrt vrn vtl vta vtt vtp us_190 up ue ut um un_190 uq_190 ul uh ux uo hF _ _ _ hP hD hS (lv_sub hl [0, 1, 2, 3] rfl))
        · have hF := k_if_f hF hc
          refine lv_iconst (v := (0 : Int32)) hx hb dL_law_196 (by decide) ?_
          exact absurd (Option.some.inj hF) (by decide)
      have blk_198 : ∀ (x3 : Int32) (vc : (Nat → Int32)) (vhf : Int32) (vhl : Int32) (vhs : (Nat → Int32)) (vsf : Int32) (vss : (Nat → Int32)) (vpl : Int32) (vpp : (Nat → Int32)) (vra : Int32) (vrk : Int32) (vrt : Int32) (vrn : (Nat → Int32)) (vtl : Int32) (vta : Int32) (vtt : Int32) (vtp : (Nat → Int32)) (us : Int32) (up : Int32) (ue : Int32) (ut : Int32) (um : Int32) (un : (Nat → Int32)) (uq : (Nat → Int32)) (ul : (Nat → Int32)) (uh : (Nat → Int32)) (ux : (Nat → Int32)) (uo : (Nat → Int32)), b_L_law_198 N L xs (f_L_law_18 N L xs n_18) x3 vc vhf vhl vhs vsf vss vpl vpp vra vrk vrt vrn vtl vta vtt vtp us up ue ut um un uq ul uh ux uo = some 1 → ∀ (H : Heap) (locs : List Loc) (ls : Array Slot), va_P D vwCl [(aM, .inr (6, [.ref aS, .ref aH, .ref aL, .ref aP, .ref aR, .ref aT])), (aS, .inr (3, [.ref aC])), (aC, .inl (cyI, 225, .inl vc)), (aH, .inr (0, [.ref aHs, .int vhf, .int vhl])), (aHs, .inl (cyI, 1575, .inl vhs)), (aL, .inr (4, [.ref aLs, .int vsf])), (aLs, .inl (cyI, 450, .inl vss)), (aP, .inr (1, [.ref aPc, .int vpl])), (aPc, .inl (cyI, 80, .inl vpp)), (aR, .inr (2, [.ref aP, .ref aRn, .int vra, .int vrk, .int vrt])), (aRn, .inl (cyI, 40, .inl vrn)), (aT, .inr (5, [.ref aTp, .int vtl, .int vta, .int vtt])), (aTp, .inl (cyI, 552, .inl vtp)), (bM, .inr (7, [.ref bN, .ref bQ, .int us, .ref bS, .ref bH, .ref bP, .int up, .int ue, .int ut, .ref bT, .int um])), (bN, .inl (cyI, 225, .inl un)), (bQ, .inl (cyI, 1350, .inl uq)), (bS, .inl (cyI, 450, .inl ul)), (bH, .inl (cyZ, 2, .inl uh)), (bP, .inl (cyI, 80, .inl ux)), (bT, .inl (cyI, 42, .inl uo))] H → va_D (fun q : Nat => s.heap.size ≤ q) [(aM, .inr (6, [.ref aS, .ref aH, .ref aL, .ref aP, .ref aR, .ref aT])), (aS, .inr (3, [.ref aC])), (aC, .inl (cyI, 225, .inl vc)), (aH, .inr (0, [.ref aHs, .int vhf, .int vhl])), (aHs, .inl (cyI, 1575, .inl vhs)), (aL, .inr (4, [.ref aLs, .int vsf])), (aLs, .inl (cyI, 450, .inl vss)), (aP, .inr (1, [.ref aPc, .int vpl])), (aPc, .inl (cyI, 80, .inl vpp)), (aR, .inr (2, [.ref aP, .ref aRn, .int vra, .int vrk, .int vrt])), (aRn, .inl (cyI, 40, .inl vrn)), (aT, .inr (5, [.ref aTp, .int vtl, .int vta, .int vtt])), (aTp, .inl (cyI, 552, .inl vtp)), (bM, .inr (7, [.ref bN, .ref bQ, .int us, .ref bS, .ref bH, .ref bP, .int up, .int ue, .int ut, .ref bT, .int um])), (bN, .inl (cyI, 225, .inl un)), (bQ, .inl (cyI, 1350, .inl uq)), (bS, .inl (cyI, 450, .inl ul)), (bH, .inl (cyZ, 2, .inl uh)), (bP, .inl (cyI, 80, .inl ux)), (bT, .inl (cyI, 42, .inl uo))] → va_S (fun q : Nat => s.heap.size ≤ q) s.heap H locs → lv_has ls 4 [(0, .ref b), (1, .ref aM), (2, .ref bM), (3, .int x3)] → G H locs (F0 m 198 ls []) := by
        intro x3 vc vhf vhl vhs vsf vss vpl vpp vra vrk vrt vrn vtl vta vtt vtp us up ue ut um un uq ul uh ux uo hF H locs ls hP hD hS hl
        unfold b_L_law_198 at hF
        refine (hG _ _ _).2 ?_
        refine lv_aload_n hx hb dL_law_198 rfl (lv_at hl 1 rfl) ?_
        refine lv_aload_n hx hb dL_law_199 rfl (lv_at hl 0 rfl) ?_
        refine lv_iload_n hx hb dL_law_200 rfl (lv_at hl 3 rfl) ?_
        refine lv_iconst (v := (1 : Int32)) hx hb dL_law_201 (by decide) ?_
        refine lv_iadd hx hb dL_law_202 ?_
        obtain ⟨r203, hin, hn, hF⟩ := k_ld_ex hF
        refine va_sld hx hb hX hbl hbA hS hin dL_law_203 ?_
        refine x_nm hn ?_
        refine lv_aload_n hx hb dL_law_204 rfl (lv_at hl 0 rfl) ?_
        refine lv_iload_n hx hb dL_law_205 rfl (lv_at hl 3 rfl) ?_
        refine lv_iconst (v := (2 : Int32)) hx hb dL_law_206 (by decide) ?_
        refine lv_iadd hx hb dL_law_207 ?_
        obtain ⟨r208, hin, hn, hF⟩ := k_ld_ex hF
        refine va_sld hx hb hX hbl hbA hS hin dL_law_208 ?_
        refine x_nm hn ?_
        refine lv_aload_n hx hb dL_law_209 rfl (lv_at hl 0 rfl) ?_
        refine lv_iload_n hx hb dL_law_210 rfl (lv_at hl 3 rfl) ?_
        refine lv_iconst (v := (3 : Int32)) hx hb dL_law_211 (by decide) ?_
        refine lv_iadd hx hb dL_law_212 ?_
        obtain ⟨r213, hin, hn, hF⟩ := k_ld_ex hF
        refine va_sld hx hb hX hbl hbA hS hin dL_law_213 ?_
        refine x_nm hn ?_
        obtain ⟨r214, vc_214, vhf_214, vhl_214, vhs_214, hC, hF⟩ := k_c5_ex hF
        refine x_VM (As := [.int r203, .int r208, .int r213]) (rest := []) ⟨hx, hb, hml, hown, hts⟩ (c_X6_file l D cyI cyZ aM aS aC aH aHs aL aP aR aT H.size N r203 r208 r213 vc vhf vhl vhs hC) (cwV 3 hts gL_law_X6_file rfl rfl rfl (by decide +kernel) ⟨Nat.le_of_ble_eq_true rfl, Nat.le_of_ble_eq_true rfl⟩) hK hP hD hS hA [0, 1, 2, 3, 4] rfl rfl rfl 0 rfl rfl rfl rfl hl.1 rfl (Nat.le_of_ble_eq_true rfl) ⟨Nat.le_of_ble_eq_true rfl, Nat.le_of_ble_eq_true rfl⟩ dL_law_214 (fun H locs hP hD hS => ?_)
        have hP : va_P D vwCl [(aM, .inr (6, [.ref aS, .ref aH, .ref aL, .ref aP, .ref aR, .ref aT])), (aS, .inr (3, [.ref aC])), (aC, .inl (cyI, 225, .inl vc_214)), (aH, .inr (0, [.ref aHs, .int vhf_214, .int vhl_214])), (aHs, .inl (cyI, 1575, .inl vhs_214)), (aL, .inr (4, [.ref aLs, .int vsf])), (aLs, .inl (cyI, 450, .inl vss)), (aP, .inr (1, [.ref aPc, .int vpl])), (aPc, .inl (cyI, 80, .inl vpp)), (aR, .inr (2, [.ref aP, .ref aRn, .int vra, .int vrk, .int vrt])), (aRn, .inl (cyI, 40, .inl vrn)), (aT, .inr (5, [.ref aTp, .int vtl, .int vta, .int vtt])), (aTp, .inl (cyI, 552, .inl vtp)), (bM, .inr (7, [.ref bN, .ref bQ, .int us, .ref bS, .ref bH, .ref bP, .int up, .int ue, .int ut, .ref bT, .int um])), (bN, .inl (cyI, 225, .inl un)), (bQ, .inl (cyI, 1350, .inl uq)), (bS, .inl (cyI, 450, .inl ul)), (bH, .inl (cyZ, 2, .inl uh)), (bP, .inl (cyI, 80, .inl ux)), (bT, .inl (cyI, 42, .inl uo))] H := hP
        have hD : va_D (fun q : Nat => s.heap.size ≤ q) [(aM, .inr (6, [.ref aS, .ref aH, .ref aL, .ref aP, .ref aR, .ref aT])), (aS, .inr (3, [.ref aC])), (aC, .inl (cyI, 225, .inl vc_214)), (aH, .inr (0, [.ref aHs, .int vhf_214, .int vhl_214])), (aHs, .inl (cyI, 1575, .inl vhs_214)), (aL, .inr (4, [.ref aLs, .int vsf])), (aLs, .inl (cyI, 450, .inl vss)), (aP, .inr (1, [.ref aPc, .int vpl])), (aPc, .inl (cyI, 80, .inl vpp)), (aR, .inr (2, [.ref aP, .ref aRn, .int vra, .int vrk, .int vrt])), (aRn, .inl (cyI, 40, .inl vrn)), (aT, .inr (5, [.ref aTp, .int vtl, .int vta, .int vtt])), (aTp, .inl (cyI, 552, .inl vtp)), (bM, .inr (7, [.ref bN, .ref bQ, .int us, .ref bS, .ref bH, .ref bP, .int up, .int ue, .int ut, .ref bT, .int um])), (bN, .inl (cyI, 225, .inl un)), (bQ, .inl (cyI, 1350, .inl uq)), (bS, .inl (cyI, 450, .inl ul)), (bH, .inl (cyZ, 2, .inl uh)), (bP, .inl (cyI, 80, .inl ux)), (bT, .inl (cyI, 42, .inl uo))] := hD
        refine lv_aload_n hx hb dL_law_217 rfl (lv_at hl 2 rfl) ?_
        refine lv_aload_n hx hb dL_law_218 rfl (lv_at hl 0 rfl) ?_
        refine lv_iload_n hx hb dL_law_219 rfl (lv_at hl 3 rfl) ?_
        refine lv_iconst (v := (1 : Int32)) hx hb dL_law_220 (by decide) ?_
        refine lv_iadd hx hb dL_law_221 ?_
        obtain ⟨r222, hin, hn, hF⟩ := k_ld_ex hF
        refine va_sld hx hb hX hbl hbA hS hin dL_law_222 ?_
        refine x_nm hn ?_
        refine lv_aload_n hx hb dL_law_223 rfl (lv_at hl 0 rfl) ?_
        refine lv_iload_n hx hb dL_law_224 rfl (lv_at hl 3 rfl) ?_
        refine lv_iconst (v := (2 : Int32)) hx hb dL_law_225 (by decide) ?_
        refine lv_iadd hx hb dL_law_226 ?_
        obtain ⟨r227, hin, hn, hF⟩ := k_ld_ex hF
        refine va_sld hx hb hX hbl hbA hS hin dL_law_227 ?_
        refine x_nm hn ?_
        refine lv_aload_n hx hb dL_law_228 rfl (lv_at hl 0 rfl) ?_
        refine lv_iload_n hx hb dL_law_229 rfl (lv_at hl 3 rfl) ?_
        refine lv_iconst (v := (3 : Int32)) hx hb dL_law_230 (by decide) ?_
        refine lv_iadd hx hb dL_law_231 ?_
        obtain ⟨r232, hin, hn, hF⟩ := k_ld_ex hF
        refine va_sld hx hb hX hbl hbA hS hin dL_law_232 ?_
        refine x_nm hn ?_
        obtain ⟨r233, us_233, un_233, uq_233, hC, hF⟩ := k_c4_ex hF
        refine x_VM (As := [.int r222, .int r227, .int r232]) (rest := [.int r214]) ⟨hx, hb, hml, hown, hts⟩ (c_X7_file l D cyI cyZ bM bN bQ bS bH bP bT H.size N r222 r227 r232 us up ue ut um un uq hC) (cwV 3 hts gL_law_X7_file rfl rfl rfl (by decide +kernel) ⟨Nat.le_of_ble_eq_true rfl, Nat.le_of_ble_eq_true rfl⟩) hK hP hD hS hA [13, 14, 15] rfl rfl rfl 13 rfl rfl rfl rfl hl.1 rfl (Nat.le_of_ble_eq_true rfl) ⟨Nat.le_of_ble_eq_true rfl, Nat.le_of_ble_eq_true rfl⟩ dL_law_233 (fun H locs hP hD hS => ?_)
        have hP : va_P D vwCl [(aM, .inr (6, [.ref aS, .ref aH, .ref aL, .ref aP, .ref aR, .ref aT])), (aS, .inr (3, [.ref aC])), (aC, .inl (cyI, 225, .inl vc_214)), (aH, .inr (0, [.ref aHs, .int vhf_214, .int vhl_214])), (aHs, .inl (cyI, 1575, .inl vhs_214)), (aL, .inr (4, [.ref aLs, .int vsf])), (aLs, .inl (cyI, 450, .inl vss)), (aP, .inr (1, [.ref aPc, .int vpl])), (aPc, .inl (cyI, 80, .inl vpp)), (aR, .inr (2, [.ref aP, .ref aRn, .int vra, .int vrk, .int vrt])), (aRn, .inl (cyI, 40, .inl vrn)), (aT, .inr (5, [.ref aTp, .int vtl, .int vta, .int vtt])), (aTp, .inl (cyI, 552, .inl vtp)), (bM, .inr (7, [.ref bN, .ref bQ, .int us_233, .ref bS, .ref bH, .ref bP, .int up, .int ue, .int ut, .ref bT, .int um])), (bN, .inl (cyI, 225, .inl un_233)), (bQ, .inl (cyI, 1350, .inl uq_233)), (bS, .inl (cyI, 450, .inl ul)), (bH, .inl (cyZ, 2, .inl uh)), (bP, .inl (cyI, 80, .inl ux)), (bT, .inl (cyI, 42, .inl uo))] H := hP
        have hD : va_D (fun q : Nat => s.heap.size ≤ q) [(aM, .inr (6, [.ref aS, .ref aH, .ref aL, .ref aP, .ref aR, .ref aT])), (aS, .inr (3, [.ref aC])), (aC, .inl (cyI, 225, .inl vc_214)), (aH, .inr (0, [.ref aHs, .int vhf_214, .int vhl_214])), (aHs, .inl (cyI, 1575, .inl vhs_214)), (aL, .inr (4, [.ref aLs, .int vsf])), (aLs, .inl (cyI, 450, .inl vss)), (aP, .inr (1, [.ref aPc, .int vpl])), (aPc, .inl (cyI, 80, .inl vpp)), (aR, .inr (2, [.ref aP, .ref aRn, .int vra, .int vrk, .int vrt])), (aRn, .inl (cyI, 40, .inl vrn)), (aT, .inr (5, [.ref aTp, .int vtl, .int vta, .int vtt])), (aTp, .inl (cyI, 552, .inl vtp)), (bM, .inr (7, [.ref bN, .ref bQ, .int us_233, .ref bS, .ref bH, .ref bP, .int up, .int ue, .int ut, .ref bT, .int um])), (bN, .inl (cyI, 225, .inl un_233)), (bQ, .inl (cyI, 1350, .inl uq_233)), (bS, .inl (cyI, 450, .inl ul)), (bH, .inl (cyZ, 2, .inl uh)), (bP, .inl (cyI, 80, .inl ux)), (bT, .inl (cyI, 42, .inl uo))] := hD
        refine lv_icmp_eq (tgt := 877) hx hb dL_law_236 (by decide) (fun hc => ?_) (fun hc => ?_)
        · have hF := k_if_t hF hc
          exact (hG _ _ _).1 (blk_877 x3 vc_214 vhf_214 vhl_214 vhs_214 vsf vss vpl vpp vra vrk vrt vrn vtl vta vtt vtp us_233 up ue ut um un_233 uq_233 ul uh ux uo hF _ _ _ hP hD hS (lv_sub hl [0, 1, 2, 3] rfl))
        · have hF := k_if_f hF hc
          refine lv_iconst (v := (0 : Int32)) hx hb dL_law_239 (by decide) ?_
          exact absurd (Option.some.inj hF) (by decide)
      have blk_241 : ∀ (x3 : Int32) (vc : (Nat → Int32)) (vhf : Int32) (vhl : Int32) (vhs : (Nat → Int32)) (vsf : Int32) (vss : (Nat → Int32)) (vpl : Int32) (vpp : (Nat → Int32)) (vra : Int32) (vrk : Int32) (vrt : Int32) (vrn : (Nat → Int32)) (vtl : Int32) (vta : Int32) (vtt : Int32) (vtp : (Nat → Int32)) (us : Int32) (up : Int32) (ue : Int32) (ut : Int32) (um : Int32) (un : (Nat → Int32)) (uq : (Nat → Int32)) (ul : (Nat → Int32)) (uh : (Nat → Int32)) (ux : (Nat → Int32)) (uo : (Nat → Int32)), b_L_law_241 N L xs (f_L_law_18 N L xs n_18) x3 vc vhf vhl vhs vsf vss vpl vpp vra vrk vrt vrn vtl vta vtt vtp us up ue ut um un uq ul uh ux uo = some 1 → ∀ (H : Heap) (locs : List Loc) (ls : Array Slot), va_P D vwCl [(aM, .inr (6, [.ref aS, .ref aH, .ref aL, .ref aP, .ref aR, .ref aT])), (aS, .inr (3, [.ref aC])), (aC, .inl (cyI, 225, .inl vc)), (aH, .inr (0, [.ref aHs, .int vhf, .int vhl])), (aHs, .inl (cyI, 1575, .inl vhs)), (aL, .inr (4, [.ref aLs, .int vsf])), (aLs, .inl (cyI, 450, .inl vss)), (aP, .inr (1, [.ref aPc, .int vpl])), (aPc, .inl (cyI, 80, .inl vpp)), (aR, .inr (2, [.ref aP, .ref aRn, .int vra, .int vrk, .int vrt])), (aRn, .inl (cyI, 40, .inl vrn)), (aT, .inr (5, [.ref aTp, .int vtl, .int vta, .int vtt])), (aTp, .inl (cyI, 552, .inl vtp)), (bM, .inr (7, [.ref bN, .ref bQ, .int us, .ref bS, .ref bH, .ref bP, .int up, .int ue, .int ut, .ref bT, .int um])), (bN, .inl (cyI, 225, .inl un)), (bQ, .inl (cyI, 1350, .inl uq)), (bS, .inl (cyI, 450, .inl ul)), (bH, .inl (cyZ, 2, .inl uh)), (bP, .inl (cyI, 80, .inl ux)), (bT, .inl (cyI, 42, .inl uo))] H → va_D (fun q : Nat => s.heap.size ≤ q) [(aM, .inr (6, [.ref aS, .ref aH, .ref aL, .ref aP, .ref aR, .ref aT])), (aS, .inr (3, [.ref aC])), (aC, .inl (cyI, 225, .inl vc)), (aH, .inr (0, [.ref aHs, .int vhf, .int vhl])), (aHs, .inl (cyI, 1575, .inl vhs)), (aL, .inr (4, [.ref aLs, .int vsf])), (aLs, .inl (cyI, 450, .inl vss)), (aP, .inr (1, [.ref aPc, .int vpl])), (aPc, .inl (cyI, 80, .inl vpp)), (aR, .inr (2, [.ref aP, .ref aRn, .int vra, .int vrk, .int vrt])), (aRn, .inl (cyI, 40, .inl vrn)), (aT, .inr (5, [.ref aTp, .int vtl, .int vta, .int vtt])), (aTp, .inl (cyI, 552, .inl vtp)), (bM, .inr (7, [.ref bN, .ref bQ, .int us, .ref bS, .ref bH, .ref bP, .int up, .int ue, .int ut, .ref bT, .int um])), (bN, .inl (cyI, 225, .inl un)), (bQ, .inl (cyI, 1350, .inl uq)), (bS, .inl (cyI, 450, .inl ul)), (bH, .inl (cyZ, 2, .inl uh)), (bP, .inl (cyI, 80, .inl ux)), (bT, .inl (cyI, 42, .inl uo))] → va_S (fun q : Nat => s.heap.size ≤ q) s.heap H locs → lv_has ls 4 [(0, .ref b), (1, .ref aM), (2, .ref bM), (3, .int x3)] → G H locs (F0 m 241 ls []) := by
        intro x3 vc vhf vhl vhs vsf vss vpl vpp vra vrk vrt vrn vtl vta vtt vtp us up ue ut um un uq ul uh ux uo hF H locs ls hP hD hS hl
        unfold b_L_law_241 at hF
        refine (hG _ _ _).2 ?_
        refine lv_aload_n hx hb dL_law_241 rfl (lv_at hl 1 rfl) ?_
        refine lv_aload_n hx hb dL_law_242 rfl (lv_at hl 0 rfl) ?_
        refine lv_iload_n hx hb dL_law_243 rfl (lv_at hl 3 rfl) ?_
        refine lv_iconst (v := (1 : Int32)) hx hb dL_law_244 (by decide) ?_
        refine lv_iadd hx hb dL_law_245 ?_
        obtain ⟨r246, hin, hn, hF⟩ := k_ld_ex hF
        refine va_sld hx hb hX hbl hbA hS hin dL_law_246 ?_
        refine x_nm hn ?_
        obtain ⟨r247, vc_247, vhf_247, vhl_247, vhs_247, hC, hF⟩ := k_c5_ex hF
        refine x_VM (As := [.int r246]) (rest := []) ⟨hx, hb, hml, hown, hts⟩ (c_X6_melt l D cyI cyZ aM aS aC aH aHs aL aP aR aT H.size N r246 vc vhf vhl vhs hC) (cwV 1 hts gL_law_X6_melt rfl rfl rfl (by decide +kernel) ⟨Nat.le_of_ble_eq_true rfl, Nat.le_of_ble_eq_true rfl⟩) hK hP hD hS hA [0, 1, 2, 3, 4] rfl rfl rfl 0 rfl rfl rfl rfl hl.1 rfl (Nat.le_of_ble_eq_true rfl) ⟨Nat.le_of_ble_eq_true rfl, Nat.le_of_ble_eq_true rfl⟩ dL_law_247 (fun H locs hP hD hS => ?_)
        have hP : va_P D vwCl [(aM, .inr (6, [.ref aS, .ref aH, .ref aL, .ref aP, .ref aR, .ref aT])), (aS, .inr (3, [.ref aC])), (aC, .inl (cyI, 225, .inl vc_247)), (aH, .inr (0, [.ref aHs, .int vhf_247, .int vhl_247])), (aHs, .inl (cyI, 1575, .inl vhs_247)), (aL, .inr (4, [.ref aLs, .int vsf])), (aLs, .inl (cyI, 450, .inl vss)), (aP, .inr (1, [.ref aPc, .int vpl])), (aPc, .inl (cyI, 80, .inl vpp)), (aR, .inr (2, [.ref aP, .ref aRn, .int vra, .int vrk, .int vrt])), (aRn, .inl (cyI, 40, .inl vrn)), (aT, .inr (5, [.ref aTp, .int vtl, .int vta, .int vtt])), (aTp, .inl (cyI, 552, .inl vtp)), (bM, .inr (7, [.ref bN, .ref bQ, .int us, .ref bS, .ref bH, .ref bP, .int up, .int ue, .int ut, .ref bT, .int um])), (bN, .inl (cyI, 225, .inl un)), (bQ, .inl (cyI, 1350, .inl uq)), (bS, .inl (cyI, 450, .inl ul)), (bH, .inl (cyZ, 2, .inl uh)), (bP, .inl (cyI, 80, .inl ux)), (bT, .inl (cyI, 42, .inl uo))] H := hP
        have hD : va_D (fun q : Nat => s.heap.size ≤ q) [(aM, .inr (6, [.ref aS, .ref aH, .ref aL, .ref aP, .ref aR, .ref aT])), (aS, .inr (3, [.ref aC])), (aC, .inl (cyI, 225, .inl vc_247)), (aH, .inr (0, [.ref aHs, .int vhf_247, .int vhl_247])), (aHs, .inl (cyI, 1575, .inl vhs_247)), (aL, .inr (4, [.ref aLs, .int vsf])), (aLs, .inl (cyI, 450, .inl vss)), (aP, .inr (1, [.ref aPc, .int vpl])), (aPc, .inl (cyI, 80, .inl vpp)), (aR, .inr (2, [.ref aP, .ref aRn, .int vra, .int vrk, .int vrt])), (aRn, .inl (cyI, 40, .inl vrn)), (aT, .inr (5, [.ref aTp, .int vtl, .int vta, .int vtt])), (aTp, .inl (cyI, 552, .inl vtp)), (bM, .inr (7, [.ref bN, .ref bQ, .int us, .ref bS, .ref bH, .ref bP, .int up, .int ue, .int ut, .ref bT, .int um])), (bN, .inl (cyI, 225, .inl un)), (bQ, .inl (cyI, 1350, .inl uq)), (bS, .inl (cyI, 450, .inl ul)), (bH, .inl (cyZ, 2, .inl uh)), (bP, .inl (cyI, 80, .inl ux)), (bT, .inl (cyI, 42, .inl uo))] := hD
        refine lv_aload_n hx hb dL_law_250 rfl (lv_at hl 2 rfl) ?_
        refine lv_aload_n hx hb dL_law_251 rfl (lv_at hl 0 rfl) ?_
        refine lv_iload_n hx hb dL_law_252 rfl (lv_at hl 3 rfl) ?_
        refine lv_iconst (v := (1 : Int32)) hx hb dL_law_253 (by decide) ?_
        refine lv_iadd hx hb dL_law_254 ?_
        obtain ⟨r255, hin, hn, hF⟩ := k_ld_ex hF
        refine va_sld hx hb hX hbl hbA hS hin dL_law_255 ?_
        refine x_nm hn ?_
        obtain ⟨r256, us_256, un_256, uq_256, hC, hF⟩ := k_c4_ex hF
        refine x_VM (As := [.int r255]) (rest := [.int r247]) ⟨hx, hb, hml, hown, hts⟩ (c_X7_melt l D cyI cyZ bM bN bQ bS bH bP bT H.size N r255 us up ue ut um un uq hC) (cwV 1 hts gL_law_X7_melt rfl rfl rfl (by decide +kernel) ⟨Nat.le_of_ble_eq_true rfl, Nat.le_of_ble_eq_true rfl⟩) hK hP hD hS hA [13, 14, 15] rfl rfl rfl 13 rfl rfl rfl rfl hl.1 rfl (Nat.le_of_ble_eq_true rfl) ⟨Nat.le_of_ble_eq_true rfl, Nat.le_of_ble_eq_true rfl⟩ dL_law_256 (fun H locs hP hD hS => ?_)
        have hP : va_P D vwCl [(aM, .inr (6, [.ref aS, .ref aH, .ref aL, .ref aP, .ref aR, .ref aT])), (aS, .inr (3, [.ref aC])), (aC, .inl (cyI, 225, .inl vc_247)), (aH, .inr (0, [.ref aHs, .int vhf_247, .int vhl_247])), (aHs, .inl (cyI, 1575, .inl vhs_247)), (aL, .inr (4, [.ref aLs, .int vsf])), (aLs, .inl (cyI, 450, .inl vss)), (aP, .inr (1, [.ref aPc, .int vpl])), (aPc, .inl (cyI, 80, .inl vpp)), (aR, .inr (2, [.ref aP, .ref aRn, .int vra, .int vrk, .int vrt])), (aRn, .inl (cyI, 40, .inl vrn)), (aT, .inr (5, [.ref aTp, .int vtl, .int vta, .int vtt])), (aTp, .inl (cyI, 552, .inl vtp)), (bM, .inr (7, [.ref bN, .ref bQ, .int us_256, .ref bS, .ref bH, .ref bP, .int up, .int ue, .int ut, .ref bT, .int um])), (bN, .inl (cyI, 225, .inl un_256)), (bQ, .inl (cyI, 1350, .inl uq_256)), (bS, .inl (cyI, 450, .inl ul)), (bH, .inl (cyZ, 2, .inl uh)), (bP, .inl (cyI, 80, .inl ux)), (bT, .inl (cyI, 42, .inl uo))] H := hP
        have hD : va_D (fun q : Nat => s.heap.size ≤ q) [(aM, .inr (6, [.ref aS, .ref aH, .ref aL, .ref aP, .ref aR, .ref aT])), (aS, .inr (3, [.ref aC])), (aC, .inl (cyI, 225, .inl vc_247)), (aH, .inr (0, [.ref aHs, .int vhf_247, .int vhl_247])), (aHs, .inl (cyI, 1575, .inl vhs_247)), (aL, .inr (4, [.ref aLs, .int vsf])), (aLs, .inl (cyI, 450, .inl vss)), (aP, .inr (1, [.ref aPc, .int vpl])), (aPc, .inl (cyI, 80, .inl vpp)), (aR, .inr (2, [.ref aP, .ref aRn, .int vra, .int vrk, .int vrt])), (aRn, .inl (cyI, 40, .inl vrn)), (aT, .inr (5, [.ref aTp, .int vtl, .int vta, .int vtt])), (aTp, .inl (cyI, 552, .inl vtp)), (bM, .inr (7, [.ref bN, .ref bQ, .int us_256, .ref bS, .ref bH, .ref bP, .int up, .int ue, .int ut, .ref bT, .int um])), (bN, .inl (cyI, 225, .inl un_256)), (bQ, .inl (cyI, 1350, .inl uq_256)), (bS, .inl (cyI, 450, .inl ul)), (bH, .inl (cyZ, 2, .inl uh)), (bP, .inl (cyI, 80, .inl ux)), (bT, .inl (cyI, 42, .inl uo))] := hD
        refine lv_icmp_eq (tgt := 877) hx hb dL_law_259 (by decide) (fun hc => ?_) (fun hc => ?_)
        · have hF := k_if_t hF hc
          exact (hG _ _ _).1 (blk_877 x3 vc_247 vhf_247 vhl_247 vhs_247 vsf vss vpl vpp vra vrk vrt vrn vtl vta vtt vtp us_256 up ue ut um un_256 uq_256 ul uh ux uo hF _ _ _ hP hD hS (lv_sub hl [0, 1, 2, 3] rfl))
        · have hF := k_if_f hF hc
          refine lv_iconst (v := (0 : Int32)) hx hb dL_law_262 (by decide) ?_
          exact absurd (Option.some.inj hF) (by decide)
      have blk_264 : ∀ (x3 : Int32) (vc : (Nat → Int32)) (vhf : Int32) (vhl : Int32) (vhs : (Nat → Int32)) (vsf : Int32) (vss : (Nat → Int32)) (vpl : Int32) (vpp : (Nat → Int32)) (vra : Int32) (vrk : Int32) (vrt : Int32) (vrn : (Nat → Int32)) (vtl : Int32) (vta : Int32) (vtt : Int32) (vtp : (Nat → Int32)) (us : Int32) (up : Int32) (ue : Int32) (ut : Int32) (um : Int32) (un : (Nat → Int32)) (uq : (Nat → Int32)) (ul : (Nat → Int32)) (uh : (Nat → Int32)) (ux : (Nat → Int32)) (uo : (Nat → Int32)), b_L_law_264 N L xs (f_L_law_18 N L xs n_18) x3 vc vhf vhl vhs vsf vss vpl vpp vra vrk vrt vrn vtl vta vtt vtp us up ue ut um un uq ul uh ux uo = some 1 → ∀ (H : Heap) (locs : List Loc) (ls : Array Slot), va_P D vwCl [(aM, .inr (6, [.ref aS, .ref aH, .ref aL, .ref aP, .ref aR, .ref aT])), (aS, .inr (3, [.ref aC])), (aC, .inl (cyI, 225, .inl vc)), (aH, .inr (0, [.ref aHs, .int vhf, .int vhl])), (aHs, .inl (cyI, 1575, .inl vhs)), (aL, .inr (4, [.ref aLs, .int vsf])), (aLs, .inl (cyI, 450, .inl vss)), (aP, .inr (1, [.ref aPc, .int vpl])), (aPc, .inl (cyI, 80, .inl vpp)), (aR, .inr (2, [.ref aP, .ref aRn, .int vra, .int vrk, .int vrt])), (aRn, .inl (cyI, 40, .inl vrn)), (aT, .inr (5, [.ref aTp, .int vtl, .int vta, .int vtt])), (aTp, .inl (cyI, 552, .inl vtp)), (bM, .inr (7, [.ref bN, .ref bQ, .int us, .ref bS, .ref bH, .ref bP, .int up, .int ue, .int ut, .ref bT, .int um])), (bN, .inl (cyI, 225, .inl un)), (bQ, .inl (cyI, 1350, .inl uq)), (bS, .inl (cyI, 450, .inl ul)), (bH, .inl (cyZ, 2, .inl uh)), (bP, .inl (cyI, 80, .inl ux)), (bT, .inl (cyI, 42, .inl uo))] H → va_D (fun q : Nat => s.heap.size ≤ q) [(aM, .inr (6, [.ref aS, .ref aH, .ref aL, .ref aP, .ref aR, .ref aT])), (aS, .inr (3, [.ref aC])), (aC, .inl (cyI, 225, .inl vc)), (aH, .inr (0, [.ref aHs, .int vhf, .int vhl])), (aHs, .inl (cyI, 1575, .inl vhs)), (aL, .inr (4, [.ref aLs, .int vsf])), (aLs, .inl (cyI, 450, .inl vss)), (aP, .inr (1, [.ref aPc, .int vpl])), (aPc, .inl (cyI, 80, .inl vpp)), (aR, .inr (2, [.ref aP, .ref aRn, .int vra, .int vrk, .int vrt])), (aRn, .inl (cyI, 40, .inl vrn)), (aT, .inr (5, [.ref aTp, .int vtl, .int vta, .int vtt])), (aTp, .inl (cyI, 552, .inl vtp)), (bM, .inr (7, [.ref bN, .ref bQ, .int us, .ref bS, .ref bH, .ref bP, .int up, .int ue, .int ut, .ref bT, .int um])), (bN, .inl (cyI, 225, .inl un)), (bQ, .inl (cyI, 1350, .inl uq)), (bS, .inl (cyI, 450, .inl ul)), (bH, .inl (cyZ, 2, .inl uh)), (bP, .inl (cyI, 80, .inl ux)), (bT, .inl (cyI, 42, .inl uo))] → va_S (fun q : Nat => s.heap.size ≤ q) s.heap H locs → lv_has ls 4 [(0, .ref b), (1, .ref aM), (2, .ref bM), (3, .int x3)] → G H locs (F0 m 264 ls []) := by
        intro x3 vc vhf vhl vhs vsf vss vpl vpp vra vrk vrt vrn vtl vta vtt vtp us up ue ut um un uq ul uh ux uo hF H locs ls hP hD hS hl
        unfold b_L_law_264 at hF
        refine (hG _ _ _).2 ?_
        refine lv_aload_n hx hb dL_law_264 rfl (lv_at hl 1 rfl) ?_
        refine lv_aload_n hx hb dL_law_265 rfl (lv_at hl 0 rfl) ?_
        refine lv_iload_n hx hb dL_law_266 rfl (lv_at hl 3 rfl) ?_
        refine lv_iconst (v := (1 : Int32)) hx hb dL_law_267 (by decide) ?_
        refine lv_iadd hx hb dL_law_268 ?_
        obtain ⟨r269, hin, hn, hF⟩ := k_ld_ex hF
        refine va_sld hx hb hX hbl hbA hS hin dL_law_269 ?_
        refine x_nm hn ?_
        refine lv_aload_n hx hb dL_law_270 rfl (lv_at hl 0 rfl) ?_
        refine lv_iload_n hx hb dL_law_271 rfl (lv_at hl 3 rfl) ?_
        refine lv_iconst (v := (2 : Int32)) hx hb dL_law_272 (by decide) ?_
        refine lv_iadd hx hb dL_law_273 ?_
        obtain ⟨r274, hin, hn, hF⟩ := k_ld_ex hF
        refine va_sld hx hb hX hbl hbA hS hin dL_law_274 ?_
        refine x_nm hn ?_
        obtain ⟨r275, vc_275, vhf_275, vhl_275, vhs_275, hC, hF⟩ := k_c5_ex hF
        refine x_VM (As := [.int r269, .int r274]) (rest := []) ⟨hx, hb, hml, hown, hts⟩ (c_X6_card l D cyI cyZ aM aS aC aH aHs aL aP aR aT H.size N r269 r274 vc vhf vhl vhs hC) (cwV 2 hts gL_law_X6_card rfl rfl rfl (by decide +kernel) ⟨Nat.le_of_ble_eq_true rfl, Nat.le_of_ble_eq_true rfl⟩) hK hP hD hS hA [0, 1, 2, 3, 4] rfl rfl rfl 0 rfl rfl rfl rfl hl.1 rfl (Nat.le_of_ble_eq_true rfl) ⟨Nat.le_of_ble_eq_true rfl, Nat.le_of_ble_eq_true rfl⟩ dL_law_275 (fun H locs hP hD hS => ?_)
        have hP : va_P D vwCl [(aM, .inr (6, [.ref aS, .ref aH, .ref aL, .ref aP, .ref aR, .ref aT])), (aS, .inr (3, [.ref aC])), (aC, .inl (cyI, 225, .inl vc_275)), (aH, .inr (0, [.ref aHs, .int vhf_275, .int vhl_275])), (aHs, .inl (cyI, 1575, .inl vhs_275)), (aL, .inr (4, [.ref aLs, .int vsf])), (aLs, .inl (cyI, 450, .inl vss)), (aP, .inr (1, [.ref aPc, .int vpl])), (aPc, .inl (cyI, 80, .inl vpp)), (aR, .inr (2, [.ref aP, .ref aRn, .int vra, .int vrk, .int vrt])), (aRn, .inl (cyI, 40, .inl vrn)), (aT, .inr (5, [.ref aTp, .int vtl, .int vta, .int vtt])), (aTp, .inl (cyI, 552, .inl vtp)), (bM, .inr (7, [.ref bN, .ref bQ, .int us, .ref bS, .ref bH, .ref bP, .int up, .int ue, .int ut, .ref bT, .int um])), (bN, .inl (cyI, 225, .inl un)), (bQ, .inl (cyI, 1350, .inl uq)), (bS, .inl (cyI, 450, .inl ul)), (bH, .inl (cyZ, 2, .inl uh)), (bP, .inl (cyI, 80, .inl ux)), (bT, .inl (cyI, 42, .inl uo))] H := hP
        have hD : va_D (fun q : Nat => s.heap.size ≤ q) [(aM, .inr (6, [.ref aS, .ref aH, .ref aL, .ref aP, .ref aR, .ref aT])), (aS, .inr (3, [.ref aC])), (aC, .inl (cyI, 225, .inl vc_275)), (aH, .inr (0, [.ref aHs, .int vhf_275, .int vhl_275])), (aHs, .inl (cyI, 1575, .inl vhs_275)), (aL, .inr (4, [.ref aLs, .int vsf])), (aLs, .inl (cyI, 450, .inl vss)), (aP, .inr (1, [.ref aPc, .int vpl])), (aPc, .inl (cyI, 80, .inl vpp)), (aR, .inr (2, [.ref aP, .ref aRn, .int vra, .int vrk, .int vrt])), (aRn, .inl (cyI, 40, .inl vrn)), (aT, .inr (5, [.ref aTp, .int vtl, .int vta, .int vtt])), (aTp, .inl (cyI, 552, .inl vtp)), (bM, .inr (7, [.ref bN, .ref bQ, .int us, .ref bS, .ref bH, .ref bP, .int up, .int ue, .int ut, .ref bT, .int um])), (bN, .inl (cyI, 225, .inl un)), (bQ, .inl (cyI, 1350, .inl uq)), (bS, .inl (cyI, 450, .inl ul)), (bH, .inl (cyZ, 2, .inl uh)), (bP, .inl (cyI, 80, .inl ux)), (bT, .inl (cyI, 42, .inl uo))] := hD
        refine lv_aload_n hx hb dL_law_278 rfl (lv_at hl 2 rfl) ?_
        refine lv_aload_n hx hb dL_law_279 rfl (lv_at hl 0 rfl) ?_
        refine lv_iload_n hx hb dL_law_280 rfl (lv_at hl 3 rfl) ?_
        refine lv_iconst (v := (1 : Int32)) hx hb dL_law_281 (by decide) ?_
        refine lv_iadd hx hb dL_law_282 ?_
        obtain ⟨r283, hin, hn, hF⟩ := k_ld_ex hF
        refine va_sld hx hb hX hbl hbA hS hin dL_law_283 ?_
        refine x_nm hn ?_
        refine lv_aload_n hx hb dL_law_284 rfl (lv_at hl 0 rfl) ?_
        refine lv_iload_n hx hb dL_law_285 rfl (lv_at hl 3 rfl) ?_
        refine lv_iconst (v := (2 : Int32)) hx hb dL_law_286 (by decide) ?_
        refine lv_iadd hx hb dL_law_287 ?_
        obtain ⟨r288, hin, hn, hF⟩ := k_ld_ex hF
        refine va_sld hx hb hX hbl hbA hS hin dL_law_288 ?_
        refine x_nm hn ?_
        obtain ⟨r289, us_289, un_289, uq_289, hC, hF⟩ := k_c4_ex hF
        refine x_VM (As := [.int r283, .int r288]) (rest := [.int r275]) ⟨hx, hb, hml, hown, hts⟩ (c_X7_card l D cyI cyZ bM bN bQ bS bH bP bT H.size N r283 r288 us up ue ut um un uq hC) (cwV 2 hts gL_law_X7_card rfl rfl rfl (by decide +kernel) ⟨Nat.le_of_ble_eq_true rfl, Nat.le_of_ble_eq_true rfl⟩) hK hP hD hS hA [13, 14, 15] rfl rfl rfl 13 rfl rfl rfl rfl hl.1 rfl (Nat.le_of_ble_eq_true rfl) ⟨Nat.le_of_ble_eq_true rfl, Nat.le_of_ble_eq_true rfl⟩ dL_law_289 (fun H locs hP hD hS => ?_)
        have hP : va_P D vwCl [(aM, .inr (6, [.ref aS, .ref aH, .ref aL, .ref aP, .ref aR, .ref aT])), (aS, .inr (3, [.ref aC])), (aC, .inl (cyI, 225, .inl vc_275)), (aH, .inr (0, [.ref aHs, .int vhf_275, .int vhl_275])), (aHs, .inl (cyI, 1575, .inl vhs_275)), (aL, .inr (4, [.ref aLs, .int vsf])), (aLs, .inl (cyI, 450, .inl vss)), (aP, .inr (1, [.ref aPc, .int vpl])), (aPc, .inl (cyI, 80, .inl vpp)), (aR, .inr (2, [.ref aP, .ref aRn, .int vra, .int vrk, .int vrt])), (aRn, .inl (cyI, 40, .inl vrn)), (aT, .inr (5, [.ref aTp, .int vtl, .int vta, .int vtt])), (aTp, .inl (cyI, 552, .inl vtp)), (bM, .inr (7, [.ref bN, .ref bQ, .int us_289, .ref bS, .ref bH, .ref bP, .int up, .int ue, .int ut, .ref bT, .int um])), (bN, .inl (cyI, 225, .inl un_289)), (bQ, .inl (cyI, 1350, .inl uq_289)), (bS, .inl (cyI, 450, .inl ul)), (bH, .inl (cyZ, 2, .inl uh)), (bP, .inl (cyI, 80, .inl ux)), (bT, .inl (cyI, 42, .inl uo))] H := hP
        have hD : va_D (fun q : Nat => s.heap.size ≤ q) [(aM, .inr (6, [.ref aS, .ref aH, .ref aL, .ref aP, .ref aR, .ref aT])), (aS, .inr (3, [.ref aC])), (aC, .inl (cyI, 225, .inl vc_275)), (aH, .inr (0, [.ref aHs, .int vhf_275, .int vhl_275])), (aHs, .inl (cyI, 1575, .inl vhs_275)), (aL, .inr (4, [.ref aLs, .int vsf])), (aLs, .inl (cyI, 450, .inl vss)), (aP, .inr (1, [.ref aPc, .int vpl])), (aPc, .inl (cyI, 80, .inl vpp)), (aR, .inr (2, [.ref aP, .ref aRn, .int vra, .int vrk, .int vrt])), (aRn, .inl (cyI, 40, .inl vrn)), (aT, .inr (5, [.ref aTp, .int vtl, .int vta, .int vtt])), (aTp, .inl (cyI, 552, .inl vtp)), (bM, .inr (7, [.ref bN, .ref bQ, .int us_289, .ref bS, .ref bH, .ref bP, .int up, .int ue, .int ut, .ref bT, .int um])), (bN, .inl (cyI, 225, .inl un_289)), (bQ, .inl (cyI, 1350, .inl uq_289)), (bS, .inl (cyI, 450, .inl ul)), (bH, .inl (cyZ, 2, .inl uh)), (bP, .inl (cyI, 80, .inl ux)), (bT, .inl (cyI, 42, .inl uo))] := hD
        refine lv_icmp_eq (tgt := 877) hx hb dL_law_292 (by decide) (fun hc => ?_) (fun hc => ?_)
        · have hF := k_if_t hF hc
          exact (hG _ _ _).1 (blk_877 x3 vc_275 vhf_275 vhl_275 vhs_275 vsf vss vpl vpp vra vrk vrt vrn vtl vta vtt vtp us_289 up ue ut um un_289 uq_289 ul uh ux uo hF _ _ _ hP hD hS (lv_sub hl [0, 1, 2, 3] rfl))
        · have hF := k_if_f hF hc
          refine lv_iconst (v := (0 : Int32)) hx hb dL_law_295 (by decide) ?_
          exact absurd (Option.some.inj hF) (by decide)
      have blk_297 : ∀ (x3 : Int32) (vc : (Nat → Int32)) (vhf : Int32) (vhl : Int32) (vhs : (Nat → Int32)) (vsf : Int32) (vss : (Nat → Int32)) (vpl : Int32) (vpp : (Nat → Int32)) (vra : Int32) (vrk : Int32) (vrt : Int32) (vrn : (Nat → Int32)) (vtl : Int32) (vta : Int32) (vtt : Int32) (vtp : (Nat → Int32)) (us : Int32) (up : Int32) (ue : Int32) (ut : Int32) (um : Int32) (un : (Nat → Int32)) (uq : (Nat → Int32)) (ul : (Nat → Int32)) (uh : (Nat → Int32)) (ux : (Nat → Int32)) (uo : (Nat → Int32)), b_L_law_297 N L xs (f_L_law_18 N L xs n_18) x3 vc vhf vhl vhs vsf vss vpl vpp vra vrk vrt vrn vtl vta vtt vtp us up ue ut um un uq ul uh ux uo = some 1 → ∀ (H : Heap) (locs : List Loc) (ls : Array Slot), va_P D vwCl [(aM, .inr (6, [.ref aS, .ref aH, .ref aL, .ref aP, .ref aR, .ref aT])), (aS, .inr (3, [.ref aC])), (aC, .inl (cyI, 225, .inl vc)), (aH, .inr (0, [.ref aHs, .int vhf, .int vhl])), (aHs, .inl (cyI, 1575, .inl vhs)), (aL, .inr (4, [.ref aLs, .int vsf])), (aLs, .inl (cyI, 450, .inl vss)), (aP, .inr (1, [.ref aPc, .int vpl])), (aPc, .inl (cyI, 80, .inl vpp)), (aR, .inr (2, [.ref aP, .ref aRn, .int vra, .int vrk, .int vrt])), (aRn, .inl (cyI, 40, .inl vrn)), (aT, .inr (5, [.ref aTp, .int vtl, .int vta, .int vtt])), (aTp, .inl (cyI, 552, .inl vtp)), (bM, .inr (7, [.ref bN, .ref bQ, .int us, .ref bS, .ref bH, .ref bP, .int up, .int ue, .int ut, .ref bT, .int um])), (bN, .inl (cyI, 225, .inl un)), (bQ, .inl (cyI, 1350, .inl uq)), (bS, .inl (cyI, 450, .inl ul)), (bH, .inl (cyZ, 2, .inl uh)), (bP, .inl (cyI, 80, .inl ux)), (bT, .inl (cyI, 42, .inl uo))] H → va_D (fun q : Nat => s.heap.size ≤ q) [(aM, .inr (6, [.ref aS, .ref aH, .ref aL, .ref aP, .ref aR, .ref aT])), (aS, .inr (3, [.ref aC])), (aC, .inl (cyI, 225, .inl vc)), (aH, .inr (0, [.ref aHs, .int vhf, .int vhl])), (aHs, .inl (cyI, 1575, .inl vhs)), (aL, .inr (4, [.ref aLs, .int vsf])), (aLs, .inl (cyI, 450, .inl vss)), (aP, .inr (1, [.ref aPc, .int vpl])), (aPc, .inl (cyI, 80, .inl vpp)), (aR, .inr (2, [.ref aP, .ref aRn, .int vra, .int vrk, .int vrt])), (aRn, .inl (cyI, 40, .inl vrn)), (aT, .inr (5, [.ref aTp, .int vtl, .int vta, .int vtt])), (aTp, .inl (cyI, 552, .inl vtp)), (bM, .inr (7, [.ref bN, .ref bQ, .int us, .ref bS, .ref bH, .ref bP, .int up, .int ue, .int ut, .ref bT, .int um])), (bN, .inl (cyI, 225, .inl un)), (bQ, .inl (cyI, 1350, .inl uq)), (bS, .inl (cyI, 450, .inl ul)), (bH, .inl (cyZ, 2, .inl uh)), (bP, .inl (cyI, 80, .inl ux)), (bT, .inl (cyI, 42, .inl uo))] → va_S (fun q : Nat => s.heap.size ≤ q) s.heap H locs → lv_has ls 4 [(0, .ref b), (1, .ref aM), (2, .ref bM), (3, .int x3)] → G H locs (F0 m 297 ls []) := by
        intro x3 vc vhf vhl vhs vsf vss vpl vpp vra vrk vrt vrn vtl vta vtt vtp us up ue ut um un uq ul uh ux uo hF H locs ls hP hD hS hl
        unfold b_L_law_297 at hF
        refine (hG _ _ _).2 ?_
        refine lv_aload_n hx hb dL_law_297 rfl (lv_at hl 1 rfl) ?_
        refine lv_aload_n hx hb dL_law_298 rfl (lv_at hl 0 rfl) ?_
        refine lv_iload_n hx hb dL_law_299 rfl (lv_at hl 3 rfl) ?_
        refine lv_iconst (v := (1 : Int32)) hx hb dL_law_300 (by decide) ?_
        refine lv_iadd hx hb dL_law_301 ?_
        obtain ⟨r302, hin, hn, hF⟩ := k_ld_ex hF
        refine va_sld hx hb hX hbl hbA hS hin dL_law_302 ?_
        refine x_nm hn ?_
        refine lv_aload_n hx hb dL_law_303 rfl (lv_at hl 0 rfl) ?_
        refine lv_iload_n hx hb dL_law_304 rfl (lv_at hl 3 rfl) ?_
        refine lv_iconst (v := (2 : Int32)) hx hb dL_law_305 (by decide) ?_
        refine lv_iadd hx hb dL_law_306 ?_
        obtain ⟨r307, hin, hn, hF⟩ := k_ld_ex hF
        refine va_sld hx hb hX hbl hbA hS hin dL_law_307 ?_
        refine x_nm hn ?_
        refine lv_aload_n hx hb dL_law_308 rfl (lv_at hl 0 rfl) ?_
        refine lv_iload_n hx hb dL_law_309 rfl (lv_at hl 3 rfl) ?_
        refine lv_iconst (v := (3 : Int32)) hx hb dL_law_310 (by decide) ?_
        refine lv_iadd hx hb dL_law_311 ?_
        obtain ⟨r312, hin, hn, hF⟩ := k_ld_ex hF
        refine va_sld hx hb hX hbl hbA hS hin dL_law_312 ?_
        refine x_nm hn ?_
        refine lv_aload_n hx hb dL_law_313 rfl (lv_at hl 0 rfl) ?_
        refine lv_iload_n hx hb dL_law_314 rfl (lv_at hl 3 rfl) ?_
        refine lv_iconst (v := (4 : Int32)) hx hb dL_law_315 (by decide) ?_
        refine lv_iadd hx hb dL_law_316 ?_
        obtain ⟨r317, hin, hn, hF⟩ := k_ld_ex hF
        refine va_sld hx hb hX hbl hbA hS hin dL_law_317 ?_
        refine x_nm hn ?_
        refine lv_aload_n hx hb dL_law_318 rfl (lv_at hl 0 rfl) ?_
        refine lv_iload_n hx hb dL_law_319 rfl (lv_at hl 3 rfl) ?_
        refine lv_iconst (v := (5 : Int32)) hx hb dL_law_320 (by decide) ?_
        refine lv_iadd hx hb dL_law_321 ?_
        obtain ⟨r322, hin, hn, hF⟩ := k_ld_ex hF
        refine va_sld hx hb hX hbl hbA hS hin dL_law_322 ?_
        refine x_nm hn ?_
        refine lv_aload_n hx hb dL_law_323 rfl (lv_at hl 0 rfl) ?_
        refine lv_iload_n hx hb dL_law_324 rfl (lv_at hl 3 rfl) ?_
        refine lv_bipush (v := (6 : Int32)) hx hb dL_law_325 (by decide) ?_
        refine lv_iadd hx hb dL_law_327 ?_
        obtain ⟨r328, hin, hn, hF⟩ := k_ld_ex hF
        refine va_sld hx hb hX hbl hbA hS hin dL_law_328 ?_
        refine x_nm hn ?_
        obtain ⟨r329, vc_329, vhf_329, vhl_329, vhs_329, vtl_329, vta_329, vtt_329, vtp_329, hC, hF⟩ := k_c9_ex hF
        refine x_VM (As := [.int r302, .int r307, .int r312, .int r317, .int r322, .int r328]) (rest := []) ⟨hx, hb, hml, hown, hts⟩ (c_X6_run l D cyI cyZ aM aS aC aH aHs aL aP aR aT aTp H.size N r302 r307 r312 r317 r322 r328 vc vhf vhl vhs vtl vta vtt vtp hC) (cwV 6 hts gL_law_X6_run rfl rfl rfl (by decide +kernel) ⟨Nat.le_of_ble_eq_true rfl, Nat.le_of_ble_eq_true rfl⟩) hK hP hD hS hA [0, 1, 2, 3, 4, 11, 12] rfl rfl rfl 0 rfl rfl rfl rfl hl.1 rfl (Nat.le_of_ble_eq_true rfl) ⟨Nat.le_of_ble_eq_true rfl, Nat.le_of_ble_eq_true rfl⟩ dL_law_329 (fun H locs hP hD hS => ?_)
        have hP : va_P D vwCl [(aM, .inr (6, [.ref aS, .ref aH, .ref aL, .ref aP, .ref aR, .ref aT])), (aS, .inr (3, [.ref aC])), (aC, .inl (cyI, 225, .inl vc_329)), (aH, .inr (0, [.ref aHs, .int vhf_329, .int vhl_329])), (aHs, .inl (cyI, 1575, .inl vhs_329)), (aL, .inr (4, [.ref aLs, .int vsf])), (aLs, .inl (cyI, 450, .inl vss)), (aP, .inr (1, [.ref aPc, .int vpl])), (aPc, .inl (cyI, 80, .inl vpp)), (aR, .inr (2, [.ref aP, .ref aRn, .int vra, .int vrk, .int vrt])), (aRn, .inl (cyI, 40, .inl vrn)), (aT, .inr (5, [.ref aTp, .int vtl_329, .int vta_329, .int vtt_329])), (aTp, .inl (cyI, 552, .inl vtp_329)), (bM, .inr (7, [.ref bN, .ref bQ, .int us, .ref bS, .ref bH, .ref bP, .int up, .int ue, .int ut, .ref bT, .int um])), (bN, .inl (cyI, 225, .inl un)), (bQ, .inl (cyI, 1350, .inl uq)), (bS, .inl (cyI, 450, .inl ul)), (bH, .inl (cyZ, 2, .inl uh)), (bP, .inl (cyI, 80, .inl ux)), (bT, .inl (cyI, 42, .inl uo))] H := hP
        have hD : va_D (fun q : Nat => s.heap.size ≤ q) [(aM, .inr (6, [.ref aS, .ref aH, .ref aL, .ref aP, .ref aR, .ref aT])), (aS, .inr (3, [.ref aC])), (aC, .inl (cyI, 225, .inl vc_329)), (aH, .inr (0, [.ref aHs, .int vhf_329, .int vhl_329])), (aHs, .inl (cyI, 1575, .inl vhs_329)), (aL, .inr (4, [.ref aLs, .int vsf])), (aLs, .inl (cyI, 450, .inl vss)), (aP, .inr (1, [.ref aPc, .int vpl])), (aPc, .inl (cyI, 80, .inl vpp)), (aR, .inr (2, [.ref aP, .ref aRn, .int vra, .int vrk, .int vrt])), (aRn, .inl (cyI, 40, .inl vrn)), (aT, .inr (5, [.ref aTp, .int vtl_329, .int vta_329, .int vtt_329])), (aTp, .inl (cyI, 552, .inl vtp_329)), (bM, .inr (7, [.ref bN, .ref bQ, .int us, .ref bS, .ref bH, .ref bP, .int up, .int ue, .int ut, .ref bT, .int um])), (bN, .inl (cyI, 225, .inl un)), (bQ, .inl (cyI, 1350, .inl uq)), (bS, .inl (cyI, 450, .inl ul)), (bH, .inl (cyZ, 2, .inl uh)), (bP, .inl (cyI, 80, .inl ux)), (bT, .inl (cyI, 42, .inl uo))] := hD
        refine lv_aload_n hx hb dL_law_332 rfl (lv_at hl 2 rfl) ?_
        refine lv_aload_n hx hb dL_law_333 rfl (lv_at hl 0 rfl) ?_
        refine lv_iload_n hx hb dL_law_334 rfl (lv_at hl 3 rfl) ?_
        refine lv_iconst (v := (1 : Int32)) hx hb dL_law_335 (by decide) ?_
        refine lv_iadd hx hb dL_law_336 ?_
        obtain ⟨r337, hin, hn, hF⟩ := k_ld_ex hF
        refine va_sld hx hb hX hbl hbA hS hin dL_law_337 ?_
        refine x_nm hn ?_
        refine lv_aload_n hx hb dL_law_338 rfl (lv_at hl 0 rfl) ?_
        refine lv_iload_n hx hb dL_law_339 rfl (lv_at hl 3 rfl) ?_
        refine lv_iconst (v := (2 : Int32)) hx hb dL_law_340 (by decide) ?_
        refine lv_iadd hx hb dL_law_341 ?_
        obtain ⟨r342, hin, hn, hF⟩ := k_ld_ex hF
        refine va_sld hx hb hX hbl hbA hS hin dL_law_342 ?_
        refine x_nm hn ?_
        refine lv_aload_n hx hb dL_law_343 rfl (lv_at hl 0 rfl) ?_
        refine lv_iload_n hx hb dL_law_344 rfl (lv_at hl 3 rfl) ?_
        refine lv_iconst (v := (3 : Int32)) hx hb dL_law_345 (by decide) ?_
        refine lv_iadd hx hb dL_law_346 ?_
        obtain ⟨r347, hin, hn, hF⟩ := k_ld_ex hF
        refine va_sld hx hb hX hbl hbA hS hin dL_law_347 ?_
        refine x_nm hn ?_
        refine lv_aload_n hx hb dL_law_348 rfl (lv_at hl 0 rfl) ?_
        refine lv_iload_n hx hb dL_law_349 rfl (lv_at hl 3 rfl) ?_
        refine lv_iconst (v := (4 : Int32)) hx hb dL_law_350 (by decide) ?_
        refine lv_iadd hx hb dL_law_351 ?_
        obtain ⟨r352, hin, hn, hF⟩ := k_ld_ex hF
        refine va_sld hx hb hX hbl hbA hS hin dL_law_352 ?_
        refine x_nm hn ?_
        refine lv_aload_n hx hb dL_law_353 rfl (lv_at hl 0 rfl) ?_
        refine lv_iload_n hx hb dL_law_354 rfl (lv_at hl 3 rfl) ?_
        refine lv_iconst (v := (5 : Int32)) hx hb dL_law_355 (by decide) ?_
        refine lv_iadd hx hb dL_law_356 ?_
        obtain ⟨r357, hin, hn, hF⟩ := k_ld_ex hF
        refine va_sld hx hb hX hbl hbA hS hin dL_law_357 ?_
        refine x_nm hn ?_
        refine lv_aload_n hx hb dL_law_358 rfl (lv_at hl 0 rfl) ?_
        refine lv_iload_n hx hb dL_law_359 rfl (lv_at hl 3 rfl) ?_
        refine lv_bipush (v := (6 : Int32)) hx hb dL_law_360 (by decide) ?_
        refine lv_iadd hx hb dL_law_362 ?_
        obtain ⟨r363, hin, hn, hF⟩ := k_ld_ex hF
        refine va_sld hx hb hX hbl hbA hS hin dL_law_363 ?_
        refine x_nm hn ?_
        obtain ⟨r364, us_364, ue_364, un_364, uq_364, hC, hF⟩ := k_c5_ex hF
        refine x_VM (As := [.int r337, .int r342, .int r347, .int r352, .int r357, .int r363]) (rest := [.int r329]) ⟨hx, hb, hml, hown, hts⟩ (c_X7_run l D cyI cyZ bM bN bQ bS bH bP bT H.size N r337 r342 r347 r352 r357 r363 us up ue ut um un uq hC) (cwV 6 hts gL_law_X7_run rfl rfl rfl (by decide +kernel) ⟨Nat.le_of_ble_eq_true rfl, Nat.le_of_ble_eq_true rfl⟩) hK hP hD hS hA [13, 14, 15] rfl rfl rfl 13 rfl rfl rfl rfl hl.1 rfl (Nat.le_of_ble_eq_true rfl) ⟨Nat.le_of_ble_eq_true rfl, Nat.le_of_ble_eq_true rfl⟩ dL_law_364 (fun H locs hP hD hS => ?_)
        have hP : va_P D vwCl [(aM, .inr (6, [.ref aS, .ref aH, .ref aL, .ref aP, .ref aR, .ref aT])), (aS, .inr (3, [.ref aC])), (aC, .inl (cyI, 225, .inl vc_329)), (aH, .inr (0, [.ref aHs, .int vhf_329, .int vhl_329])), (aHs, .inl (cyI, 1575, .inl vhs_329)), (aL, .inr (4, [.ref aLs, .int vsf])), (aLs, .inl (cyI, 450, .inl vss)), (aP, .inr (1, [.ref aPc, .int vpl])), (aPc, .inl (cyI, 80, .inl vpp)), (aR, .inr (2, [.ref aP, .ref aRn, .int vra, .int vrk, .int vrt])), (aRn, .inl (cyI, 40, .inl vrn)), (aT, .inr (5, [.ref aTp, .int vtl_329, .int vta_329, .int vtt_329])), (aTp, .inl (cyI, 552, .inl vtp_329)), (bM, .inr (7, [.ref bN, .ref bQ, .int us_364, .ref bS, .ref bH, .ref bP, .int up, .int ue_364, .int ut, .ref bT, .int um])), (bN, .inl (cyI, 225, .inl un_364)), (bQ, .inl (cyI, 1350, .inl uq_364)), (bS, .inl (cyI, 450, .inl ul)), (bH, .inl (cyZ, 2, .inl uh)), (bP, .inl (cyI, 80, .inl ux)), (bT, .inl (cyI, 42, .inl uo))] H := hP
        have hD : va_D (fun q : Nat => s.heap.size ≤ q) [(aM, .inr (6, [.ref aS, .ref aH, .ref aL, .ref aP, .ref aR, .ref aT])), (aS, .inr (3, [.ref aC])), (aC, .inl (cyI, 225, .inl vc_329)), (aH, .inr (0, [.ref aHs, .int vhf_329, .int vhl_329])), (aHs, .inl (cyI, 1575, .inl vhs_329)), (aL, .inr (4, [.ref aLs, .int vsf])), (aLs, .inl (cyI, 450, .inl vss)), (aP, .inr (1, [.ref aPc, .int vpl])), (aPc, .inl (cyI, 80, .inl vpp)), (aR, .inr (2, [.ref aP, .ref aRn, .int vra, .int vrk, .int vrt])), (aRn, .inl (cyI, 40, .inl vrn)), (aT, .inr (5, [.ref aTp, .int vtl_329, .int vta_329, .int vtt_329])), (aTp, .inl (cyI, 552, .inl vtp_329)), (bM, .inr (7, [.ref bN, .ref bQ, .int us_364, .ref bS, .ref bH, .ref bP, .int up, .int ue_364, .int ut, .ref bT, .int um])), (bN, .inl (cyI, 225, .inl un_364)), (bQ, .inl (cyI, 1350, .inl uq_364)), (bS, .inl (cyI, 450, .inl ul)), (bH, .inl (cyZ, 2, .inl uh)), (bP, .inl (cyI, 80, .inl ux)), (bT, .inl (cyI, 42, .inl uo))] := hD
        refine lv_icmp_eq (tgt := 877) hx hb dL_law_367 (by decide) (fun hc => ?_) (fun hc => ?_)
        · have hF := k_if_t hF hc
          exact (hG _ _ _).1 (blk_877 x3 vc_329 vhf_329 vhl_329 vhs_329 vsf vss vpl vpp vra vrk vrt vrn vtl_329 vta_329 vtt_329 vtp_329 us_364 up ue_364 ut um un_364 uq_364 ul uh ux uo hF _ _ _ hP hD hS (lv_sub hl [0, 1, 2, 3] rfl))
        · have hF := k_if_f hF hc
          refine lv_iconst (v := (0 : Int32)) hx hb dL_law_370 (by decide) ?_
          exact absurd (Option.some.inj hF) (by decide)
      have blk_372 : ∀ (x3 : Int32) (vc : (Nat → Int32)) (vhf : Int32) (vhl : Int32) (vhs : (Nat → Int32)) (vsf : Int32) (vss : (Nat → Int32)) (vpl : Int32) (vpp : (Nat → Int32)) (vra : Int32) (vrk : Int32) (vrt : Int32) (vrn : (Nat → Int32)) (vtl : Int32) (vta : Int32) (vtt : Int32) (vtp : (Nat → Int32)) (us : Int32) (up : Int32) (ue : Int32) (ut : Int32) (um : Int32) (un : (Nat → Int32)) (uq : (Nat → Int32)) (ul : (Nat → Int32)) (uh : (Nat → Int32)) (ux : (Nat → Int32)) (uo : (Nat → Int32)), b_L_law_372 N L xs (f_L_law_18 N L xs n_18) x3 vc vhf vhl vhs vsf vss vpl vpp vra vrk vrt vrn vtl vta vtt vtp us up ue ut um un uq ul uh ux uo = some 1 → ∀ (H : Heap) (locs : List Loc) (ls : Array Slot), va_P D vwCl [(aM, .inr (6, [.ref aS, .ref aH, .ref aL, .ref aP, .ref aR, .ref aT])), (aS, .inr (3, [.ref aC])), (aC, .inl (cyI, 225, .inl vc)), (aH, .inr (0, [.ref aHs, .int vhf, .int vhl])), (aHs, .inl (cyI, 1575, .inl vhs)), (aL, .inr (4, [.ref aLs, .int vsf])), (aLs, .inl (cyI, 450, .inl vss)), (aP, .inr (1, [.ref aPc, .int vpl])), (aPc, .inl (cyI, 80, .inl vpp)), (aR, .inr (2, [.ref aP, .ref aRn, .int vra, .int vrk, .int vrt])), (aRn, .inl (cyI, 40, .inl vrn)), (aT, .inr (5, [.ref aTp, .int vtl, .int vta, .int vtt])), (aTp, .inl (cyI, 552, .inl vtp)), (bM, .inr (7, [.ref bN, .ref bQ, .int us, .ref bS, .ref bH, .ref bP, .int up, .int ue, .int ut, .ref bT, .int um])), (bN, .inl (cyI, 225, .inl un)), (bQ, .inl (cyI, 1350, .inl uq)), (bS, .inl (cyI, 450, .inl ul)), (bH, .inl (cyZ, 2, .inl uh)), (bP, .inl (cyI, 80, .inl ux)), (bT, .inl (cyI, 42, .inl uo))] H → va_D (fun q : Nat => s.heap.size ≤ q) [(aM, .inr (6, [.ref aS, .ref aH, .ref aL, .ref aP, .ref aR, .ref aT])), (aS, .inr (3, [.ref aC])), (aC, .inl (cyI, 225, .inl vc)), (aH, .inr (0, [.ref aHs, .int vhf, .int vhl])), (aHs, .inl (cyI, 1575, .inl vhs)), (aL, .inr (4, [.ref aLs, .int vsf])), (aLs, .inl (cyI, 450, .inl vss)), (aP, .inr (1, [.ref aPc, .int vpl])), (aPc, .inl (cyI, 80, .inl vpp)), (aR, .inr (2, [.ref aP, .ref aRn, .int vra, .int vrk, .int vrt])), (aRn, .inl (cyI, 40, .inl vrn)), (aT, .inr (5, [.ref aTp, .int vtl, .int vta, .int vtt])), (aTp, .inl (cyI, 552, .inl vtp)), (bM, .inr (7, [.ref bN, .ref bQ, .int us, .ref bS, .ref bH, .ref bP, .int up, .int ue, .int ut, .ref bT, .int um])), (bN, .inl (cyI, 225, .inl un)), (bQ, .inl (cyI, 1350, .inl uq)), (bS, .inl (cyI, 450, .inl ul)), (bH, .inl (cyZ, 2, .inl uh)), (bP, .inl (cyI, 80, .inl ux)), (bT, .inl (cyI, 42, .inl uo))] → va_S (fun q : Nat => s.heap.size ≤ q) s.heap H locs → lv_has ls 4 [(0, .ref b), (1, .ref aM), (2, .ref bM), (3, .int x3)] → G H locs (F0 m 372 ls []) := by
        intro x3 vc vhf vhl vhs vsf vss vpl vpp vra vrk vrt vrn vtl vta vtt vtp us up ue ut um un uq ul uh ux uo hF H locs ls hP hD hS hl
        unfold b_L_law_372 at hF
        refine (hG _ _ _).2 ?_
        refine lv_aload_n hx hb dL_law_372 rfl (lv_at hl 1 rfl) ?_
        refine lv_aload_n hx hb dL_law_373 rfl (lv_at hl 0 rfl) ?_
        refine lv_iload_n hx hb dL_law_374 rfl (lv_at hl 3 rfl) ?_
        refine lv_iconst (v := (1 : Int32)) hx hb dL_law_375 (by decide) ?_
        refine lv_iadd hx hb dL_law_376 ?_
        obtain ⟨r377, hin, hn, hF⟩ := k_ld_ex hF
        refine va_sld hx hb hX hbl hbA hS hin dL_law_377 ?_
        refine x_nm hn ?_
        refine lv_aload_n hx hb dL_law_378 rfl (lv_at hl 0 rfl) ?_
        refine lv_iload_n hx hb dL_law_379 rfl (lv_at hl 3 rfl) ?_
        refine lv_iconst (v := (2 : Int32)) hx hb dL_law_380 (by decide) ?_
        refine lv_iadd hx hb dL_law_381 ?_
        obtain ⟨r382, hin, hn, hF⟩ := k_ld_ex hF
        refine va_sld hx hb hX hbl hbA hS hin dL_law_382 ?_
        refine x_nm hn ?_
        obtain ⟨r383, hC, hF⟩ := k_c1_ex hF
        refine x_VR (As := [.int r377, .int r382]) (rest := []) ⟨hx, hb, hml, hown, hts⟩ (c_X6_of l D cyI cyZ aM aS aC aH aL aP aR aT N r377 r382 vc hC) (cwV 2 hts gL_law_X6_of rfl rfl rfl (by decide +kernel) ⟨Nat.le_of_ble_eq_true rfl, Nat.le_of_ble_eq_true rfl⟩) hK hP hS [0, 1, 2] rfl 0 rfl rfl rfl rfl hl.1 rfl (Nat.le_of_ble_eq_true rfl) ⟨Nat.le_of_ble_eq_true rfl, Nat.le_of_ble_eq_true rfl⟩ dL_law_383 (fun H locs hP hS => ?_)
        refine lv_aload_n hx hb dL_law_386 rfl (lv_at hl 2 rfl) ?_
        refine lv_aload_n hx hb dL_law_387 rfl (lv_at hl 0 rfl) ?_
        refine lv_iload_n hx hb dL_law_388 rfl (lv_at hl 3 rfl) ?_
        refine lv_iconst (v := (1 : Int32)) hx hb dL_law_389 (by decide) ?_
        refine lv_iadd hx hb dL_law_390 ?_
        obtain ⟨r391, hin, hn, hF⟩ := k_ld_ex hF
        refine va_sld hx hb hX hbl hbA hS hin dL_law_391 ?_
        refine x_nm hn ?_
        refine lv_aload_n hx hb dL_law_392 rfl (lv_at hl 0 rfl) ?_
        refine lv_iload_n hx hb dL_law_393 rfl (lv_at hl 3 rfl) ?_
        refine lv_iconst (v := (2 : Int32)) hx hb dL_law_394 (by decide) ?_
        refine lv_iadd hx hb dL_law_395 ?_
        obtain ⟨r396, hin, hn, hF⟩ := k_ld_ex hF
        refine va_sld hx hb hX hbl hbA hS hin dL_law_396 ?_
        refine x_nm hn ?_
        obtain ⟨r397, hC, hF⟩ := k_c1_ex hF
        refine x_VR (As := [.int r391, .int r396]) (rest := [.int r383]) ⟨hx, hb, hml, hown, hts⟩ (c_X7_of l D cyI cyZ bM bN bQ bS bH bP bT N r391 r396 us up ue ut um un hC) (cwV 2 hts gL_law_X7_of rfl rfl rfl (by decide +kernel) ⟨Nat.le_of_ble_eq_true rfl, Nat.le_of_ble_eq_true rfl⟩) hK hP hS [13, 14] rfl 13 rfl rfl rfl rfl hl.1 rfl (Nat.le_of_ble_eq_true rfl) ⟨Nat.le_of_ble_eq_true rfl, Nat.le_of_ble_eq_true rfl⟩ dL_law_397 (fun H locs hP hS => ?_)
        refine lv_icmp_eq (tgt := 877) hx hb dL_law_400 (by decide) (fun hc => ?_) (fun hc => ?_)
        · have hF := k_if_t hF hc
          exact (hG _ _ _).1 (blk_877 x3 vc vhf vhl vhs vsf vss vpl vpp vra vrk vrt vrn vtl vta vtt vtp us up ue ut um un uq ul uh ux uo hF _ _ _ hP hD hS (lv_sub hl [0, 1, 2, 3] rfl))
        · have hF := k_if_f hF hc
          refine lv_iconst (v := (0 : Int32)) hx hb dL_law_403 (by decide) ?_
          exact absurd (Option.some.inj hF) (by decide)
      have blk_405 : ∀ (x3 : Int32) (vc : (Nat → Int32)) (vhf : Int32) (vhl : Int32) (vhs : (Nat → Int32)) (vsf : Int32) (vss : (Nat → Int32)) (vpl : Int32) (vpp : (Nat → Int32)) (vra : Int32) (vrk : Int32) (vrt : Int32) (vrn : (Nat → Int32)) (vtl : Int32) (vta : Int32) (vtt : Int32) (vtp : (Nat → Int32)) (us : Int32) (up : Int32) (ue : Int32) (ut : Int32) (um : Int32) (un : (Nat → Int32)) (uq : (Nat → Int32)) (ul : (Nat → Int32)) (uh : (Nat → Int32)) (ux : (Nat → Int32)) (uo : (Nat → Int32)), b_L_law_405 N L xs (f_L_law_18 N L xs n_18) x3 vc vhf vhl vhs vsf vss vpl vpp vra vrk vrt vrn vtl vta vtt vtp us up ue ut um un uq ul uh ux uo = some 1 → ∀ (H : Heap) (locs : List Loc) (ls : Array Slot), va_P D vwCl [(aM, .inr (6, [.ref aS, .ref aH, .ref aL, .ref aP, .ref aR, .ref aT])), (aS, .inr (3, [.ref aC])), (aC, .inl (cyI, 225, .inl vc)), (aH, .inr (0, [.ref aHs, .int vhf, .int vhl])), (aHs, .inl (cyI, 1575, .inl vhs)), (aL, .inr (4, [.ref aLs, .int vsf])), (aLs, .inl (cyI, 450, .inl vss)), (aP, .inr (1, [.ref aPc, .int vpl])), (aPc, .inl (cyI, 80, .inl vpp)), (aR, .inr (2, [.ref aP, .ref aRn, .int vra, .int vrk, .int vrt])), (aRn, .inl (cyI, 40, .inl vrn)), (aT, .inr (5, [.ref aTp, .int vtl, .int vta, .int vtt])), (aTp, .inl (cyI, 552, .inl vtp)), (bM, .inr (7, [.ref bN, .ref bQ, .int us, .ref bS, .ref bH, .ref bP, .int up, .int ue, .int ut, .ref bT, .int um])), (bN, .inl (cyI, 225, .inl un)), (bQ, .inl (cyI, 1350, .inl uq)), (bS, .inl (cyI, 450, .inl ul)), (bH, .inl (cyZ, 2, .inl uh)), (bP, .inl (cyI, 80, .inl ux)), (bT, .inl (cyI, 42, .inl uo))] H → va_D (fun q : Nat => s.heap.size ≤ q) [(aM, .inr (6, [.ref aS, .ref aH, .ref aL, .ref aP, .ref aR, .ref aT])), (aS, .inr (3, [.ref aC])), (aC, .inl (cyI, 225, .inl vc)), (aH, .inr (0, [.ref aHs, .int vhf, .int vhl])), (aHs, .inl (cyI, 1575, .inl vhs)), (aL, .inr (4, [.ref aLs, .int vsf])), (aLs, .inl (cyI, 450, .inl vss)), (aP, .inr (1, [.ref aPc, .int vpl])), (aPc, .inl (cyI, 80, .inl vpp)), (aR, .inr (2, [.ref aP, .ref aRn, .int vra, .int vrk, .int vrt])), (aRn, .inl (cyI, 40, .inl vrn)), (aT, .inr (5, [.ref aTp, .int vtl, .int vta, .int vtt])), (aTp, .inl (cyI, 552, .inl vtp)), (bM, .inr (7, [.ref bN, .ref bQ, .int us, .ref bS, .ref bH, .ref bP, .int up, .int ue, .int ut, .ref bT, .int um])), (bN, .inl (cyI, 225, .inl un)), (bQ, .inl (cyI, 1350, .inl uq)), (bS, .inl (cyI, 450, .inl ul)), (bH, .inl (cyZ, 2, .inl uh)), (bP, .inl (cyI, 80, .inl ux)), (bT, .inl (cyI, 42, .inl uo))] → va_S (fun q : Nat => s.heap.size ≤ q) s.heap H locs → lv_has ls 4 [(0, .ref b), (1, .ref aM), (2, .ref bM), (3, .int x3)] → G H locs (F0 m 405 ls []) := by
        intro x3 vc vhf vhl vhs vsf vss vpl vpp vra vrk vrt vrn vtl vta vtt vtp us up ue ut um un uq ul uh ux uo hF H locs ls hP hD hS hl
        unfold b_L_law_405 at hF
        refine (hG _ _ _).2 ?_
        refine lv_aload_n hx hb dL_law_405 rfl (lv_at hl 1 rfl) ?_
        refine lv_aload_n hx hb dL_law_406 rfl (lv_at hl 0 rfl) ?_
        refine lv_iload_n hx hb dL_law_407 rfl (lv_at hl 3 rfl) ?_
        refine lv_iconst (v := (1 : Int32)) hx hb dL_law_408 (by decide) ?_
        refine lv_iadd hx hb dL_law_409 ?_
        obtain ⟨r410, hin, hn, hF⟩ := k_ld_ex hF
        refine va_sld hx hb hX hbl hbA hS hin dL_law_410 ?_
        refine x_nm hn ?_
        refine lv_aload_n hx hb dL_law_411 rfl (lv_at hl 0 rfl) ?_
        refine lv_iload_n hx hb dL_law_412 rfl (lv_at hl 3 rfl) ?_
        refine lv_iconst (v := (2 : Int32)) hx hb dL_law_413 (by decide) ?_
        refine lv_iadd hx hb dL_law_414 ?_
        obtain ⟨r415, hin, hn, hF⟩ := k_ld_ex hF
        refine va_sld hx hb hX hbl hbA hS hin dL_law_415 ?_
        refine x_nm hn ?_
        obtain ⟨r416, hC, hF⟩ := k_c1_ex hF
        refine x_VR (As := [.int r410, .int r415]) (rest := []) ⟨hx, hb, hml, hown, hts⟩ (c_X6_tooth l D cyI cyZ aM aS aC aH aL aP aR aT N r410 r415 vc hC) (cwV 2 hts gL_law_X6_tooth rfl rfl rfl (by decide +kernel) ⟨Nat.le_of_ble_eq_true rfl, Nat.le_of_ble_eq_true rfl⟩) hK hP hS [0, 1, 2] rfl 0 rfl rfl rfl rfl hl.1 rfl (Nat.le_of_ble_eq_true rfl) ⟨Nat.le_of_ble_eq_true rfl, Nat.le_of_ble_eq_true rfl⟩ dL_law_416 (fun H locs hP hS => ?_)
        refine lv_aload_n hx hb dL_law_419 rfl (lv_at hl 2 rfl) ?_
        refine lv_aload_n hx hb dL_law_420 rfl (lv_at hl 0 rfl) ?_
        refine lv_iload_n hx hb dL_law_421 rfl (lv_at hl 3 rfl) ?_
        refine lv_iconst (v := (1 : Int32)) hx hb dL_law_422 (by decide) ?_
        refine lv_iadd hx hb dL_law_423 ?_
        obtain ⟨r424, hin, hn, hF⟩ := k_ld_ex hF
        refine va_sld hx hb hX hbl hbA hS hin dL_law_424 ?_
        refine x_nm hn ?_
        refine lv_aload_n hx hb dL_law_425 rfl (lv_at hl 0 rfl) ?_
        refine lv_iload_n hx hb dL_law_426 rfl (lv_at hl 3 rfl) ?_
        refine lv_iconst (v := (2 : Int32)) hx hb dL_law_427 (by decide) ?_
        refine lv_iadd hx hb dL_law_428 ?_
        obtain ⟨r429, hin, hn, hF⟩ := k_ld_ex hF
        refine va_sld hx hb hX hbl hbA hS hin dL_law_429 ?_
        refine x_nm hn ?_
        obtain ⟨r430, hC, hF⟩ := k_c1_ex hF
        refine x_VR (As := [.int r424, .int r429]) (rest := [.int r416]) ⟨hx, hb, hml, hown, hts⟩ (c_X7_tooth l D cyI cyZ bM bN bQ bS bH bP bT N r424 r429 us up ue ut um un hC) (cwV 2 hts gL_law_X7_tooth rfl rfl rfl (by decide +kernel) ⟨Nat.le_of_ble_eq_true rfl, Nat.le_of_ble_eq_true rfl⟩) hK hP hS [13, 14] rfl 13 rfl rfl rfl rfl hl.1 rfl (Nat.le_of_ble_eq_true rfl) ⟨Nat.le_of_ble_eq_true rfl, Nat.le_of_ble_eq_true rfl⟩ dL_law_430 (fun H locs hP hS => ?_)
        refine lv_icmp_eq (tgt := 877) hx hb dL_law_433 (by decide) (fun hc => ?_) (fun hc => ?_)
        · have hF := k_if_t hF hc
          exact (hG _ _ _).1 (blk_877 x3 vc vhf vhl vhs vsf vss vpl vpp vra vrk vrt vrn vtl vta vtt vtp us up ue ut um un uq ul uh ux uo hF _ _ _ hP hD hS (lv_sub hl [0, 1, 2, 3] rfl))
        · have hF := k_if_f hF hc
          refine lv_iconst (v := (0 : Int32)) hx hb dL_law_436 (by decide) ?_
          exact absurd (Option.some.inj hF) (by decide)
      have blk_438 : ∀ (x3 : Int32) (vc : (Nat → Int32)) (vhf : Int32) (vhl : Int32) (vhs : (Nat → Int32)) (vsf : Int32) (vss : (Nat → Int32)) (vpl : Int32) (vpp : (Nat → Int32)) (vra : Int32) (vrk : Int32) (vrt : Int32) (vrn : (Nat → Int32)) (vtl : Int32) (vta : Int32) (vtt : Int32) (vtp : (Nat → Int32)) (us : Int32) (up : Int32) (ue : Int32) (ut : Int32) (um : Int32) (un : (Nat → Int32)) (uq : (Nat → Int32)) (ul : (Nat → Int32)) (uh : (Nat → Int32)) (ux : (Nat → Int32)) (uo : (Nat → Int32)), b_L_law_438 N L xs (f_L_law_18 N L xs n_18) x3 vc vhf vhl vhs vsf vss vpl vpp vra vrk vrt vrn vtl vta vtt vtp us up ue ut um un uq ul uh ux uo = some 1 → ∀ (H : Heap) (locs : List Loc) (ls : Array Slot), va_P D vwCl [(aM, .inr (6, [.ref aS, .ref aH, .ref aL, .ref aP, .ref aR, .ref aT])), (aS, .inr (3, [.ref aC])), (aC, .inl (cyI, 225, .inl vc)), (aH, .inr (0, [.ref aHs, .int vhf, .int vhl])), (aHs, .inl (cyI, 1575, .inl vhs)), (aL, .inr (4, [.ref aLs, .int vsf])), (aLs, .inl (cyI, 450, .inl vss)), (aP, .inr (1, [.ref aPc, .int vpl])), (aPc, .inl (cyI, 80, .inl vpp)), (aR, .inr (2, [.ref aP, .ref aRn, .int vra, .int vrk, .int vrt])), (aRn, .inl (cyI, 40, .inl vrn)), (aT, .inr (5, [.ref aTp, .int vtl, .int vta, .int vtt])), (aTp, .inl (cyI, 552, .inl vtp)), (bM, .inr (7, [.ref bN, .ref bQ, .int us, .ref bS, .ref bH, .ref bP, .int up, .int ue, .int ut, .ref bT, .int um])), (bN, .inl (cyI, 225, .inl un)), (bQ, .inl (cyI, 1350, .inl uq)), (bS, .inl (cyI, 450, .inl ul)), (bH, .inl (cyZ, 2, .inl uh)), (bP, .inl (cyI, 80, .inl ux)), (bT, .inl (cyI, 42, .inl uo))] H → va_D (fun q : Nat => s.heap.size ≤ q) [(aM, .inr (6, [.ref aS, .ref aH, .ref aL, .ref aP, .ref aR, .ref aT])), (aS, .inr (3, [.ref aC])), (aC, .inl (cyI, 225, .inl vc)), (aH, .inr (0, [.ref aHs, .int vhf, .int vhl])), (aHs, .inl (cyI, 1575, .inl vhs)), (aL, .inr (4, [.ref aLs, .int vsf])), (aLs, .inl (cyI, 450, .inl vss)), (aP, .inr (1, [.ref aPc, .int vpl])), (aPc, .inl (cyI, 80, .inl vpp)), (aR, .inr (2, [.ref aP, .ref aRn, .int vra, .int vrk, .int vrt])), (aRn, .inl (cyI, 40, .inl vrn)), (aT, .inr (5, [.ref aTp, .int vtl, .int vta, .int vtt])), (aTp, .inl (cyI, 552, .inl vtp)), (bM, .inr (7, [.ref bN, .ref bQ, .int us, .ref bS, .ref bH, .ref bP, .int up, .int ue, .int ut, .ref bT, .int um])), (bN, .inl (cyI, 225, .inl un)), (bQ, .inl (cyI, 1350, .inl uq)), (bS, .inl (cyI, 450, .inl ul)), (bH, .inl (cyZ, 2, .inl uh)), (bP, .inl (cyI, 80, .inl ux)), (bT, .inl (cyI, 42, .inl uo))] → va_S (fun q : Nat => s.heap.size ≤ q) s.heap H locs → lv_has ls 4 [(0, .ref b), (1, .ref aM), (2, .ref bM), (3, .int x3)] → G H locs (F0 m 438 ls []) := by
        intro x3 vc vhf vhl vhs vsf vss vpl vpp vra vrk vrt vrn vtl vta vtt vtp us up ue ut um un uq ul uh ux uo hF H locs ls hP hD hS hl
        unfold b_L_law_438 at hF
        refine (hG _ _ _).2 ?_
        refine lv_aload_n hx hb dL_law_438 rfl (lv_at hl 1 rfl) ?_
        refine lv_aload_n hx hb dL_law_439 rfl (lv_at hl 0 rfl) ?_
        refine lv_iload_n hx hb dL_law_440 rfl (lv_at hl 3 rfl) ?_
        refine lv_iconst (v := (1 : Int32)) hx hb dL_law_441 (by decide) ?_
        refine lv_iadd hx hb dL_law_442 ?_
        obtain ⟨r443, hin, hn, hF⟩ := k_ld_ex hF
        refine va_sld hx hb hX hbl hbA hS hin dL_law_443 ?_
        refine x_nm hn ?_
        obtain ⟨r444, hC, hF⟩ := k_c1_ex hF
        refine x_VR (As := [.int r443]) (rest := []) ⟨hx, hb, hml, hown, hts⟩ (c_X6_count l D cyI cyZ aM aS aC aH aHs aL aP aPc aR aT N r443 vc vhf vhl vpl hC) (cwV 1 hts gL_law_X6_count rfl rfl rfl (by decide +kernel) ⟨Nat.le_of_ble_eq_true rfl, Nat.le_of_ble_eq_true rfl⟩) hK hP hS [0, 1, 2, 3, 7] rfl 0 rfl rfl rfl rfl hl.1 rfl (Nat.le_of_ble_eq_true rfl) ⟨Nat.le_of_ble_eq_true rfl, Nat.le_of_ble_eq_true rfl⟩ dL_law_444 (fun H locs hP hS => ?_)
        refine lv_aload_n hx hb dL_law_447 rfl (lv_at hl 2 rfl) ?_
        refine lv_aload_n hx hb dL_law_448 rfl (lv_at hl 0 rfl) ?_
        refine lv_iload_n hx hb dL_law_449 rfl (lv_at hl 3 rfl) ?_
        refine lv_iconst (v := (1 : Int32)) hx hb dL_law_450 (by decide) ?_
        refine lv_iadd hx hb dL_law_451 ?_
        obtain ⟨r452, hin, hn, hF⟩ := k_ld_ex hF
        refine va_sld hx hb hX hbl hbA hS hin dL_law_452 ?_
        refine x_nm hn ?_
        obtain ⟨r453, hC, hF⟩ := k_c1_ex hF
        refine x_VR (As := [.int r452]) (rest := [.int r444]) ⟨hx, hb, hml, hown, hts⟩ (c_X7_count l D cyI cyZ bM bN bQ bS bH bP bT N r452 us up ue ut um un hC) (cwV 1 hts gL_law_X7_count rfl rfl rfl (by decide +kernel) ⟨Nat.le_of_ble_eq_true rfl, Nat.le_of_ble_eq_true rfl⟩) hK hP hS [13, 14] rfl 13 rfl rfl rfl rfl hl.1 rfl (Nat.le_of_ble_eq_true rfl) ⟨Nat.le_of_ble_eq_true rfl, Nat.le_of_ble_eq_true rfl⟩ dL_law_453 (fun H locs hP hS => ?_)
        refine lv_icmp_eq (tgt := 877) hx hb dL_law_456 (by decide) (fun hc => ?_) (fun hc => ?_)
        · have hF := k_if_t hF hc
          exact (hG _ _ _).1 (blk_877 x3 vc vhf vhl vhs vsf vss vpl vpp vra vrk vrt vrn vtl vta vtt vtp us up ue ut um un uq ul uh ux uo hF _ _ _ hP hD hS (lv_sub hl [0, 1, 2, 3] rfl))
        · have hF := k_if_f hF hc
          refine lv_iconst (v := (0 : Int32)) hx hb dL_law_459 (by decide) ?_
          exact absurd (Option.some.inj hF) (by decide)
      have blk_461 : ∀ (x3 : Int32) (vc : (Nat → Int32)) (vhf : Int32) (vhl : Int32) (vhs : (Nat → Int32)) (vsf : Int32) (vss : (Nat → Int32)) (vpl : Int32) (vpp : (Nat → Int32)) (vra : Int32) (vrk : Int32) (vrt : Int32) (vrn : (Nat → Int32)) (vtl : Int32) (vta : Int32) (vtt : Int32) (vtp : (Nat → Int32)) (us : Int32) (up : Int32) (ue : Int32) (ut : Int32) (um : Int32) (un : (Nat → Int32)) (uq : (Nat → Int32)) (ul : (Nat → Int32)) (uh : (Nat → Int32)) (ux : (Nat → Int32)) (uo : (Nat → Int32)), b_L_law_461 N L xs (f_L_law_18 N L xs n_18) x3 vc vhf vhl vhs vsf vss vpl vpp vra vrk vrt vrn vtl vta vtt vtp us up ue ut um un uq ul uh ux uo = some 1 → ∀ (H : Heap) (locs : List Loc) (ls : Array Slot), va_P D vwCl [(aM, .inr (6, [.ref aS, .ref aH, .ref aL, .ref aP, .ref aR, .ref aT])), (aS, .inr (3, [.ref aC])), (aC, .inl (cyI, 225, .inl vc)), (aH, .inr (0, [.ref aHs, .int vhf, .int vhl])), (aHs, .inl (cyI, 1575, .inl vhs)), (aL, .inr (4, [.ref aLs, .int vsf])), (aLs, .inl (cyI, 450, .inl vss)), (aP, .inr (1, [.ref aPc, .int vpl])), (aPc, .inl (cyI, 80, .inl vpp)), (aR, .inr (2, [.ref aP, .ref aRn, .int vra, .int vrk, .int vrt])), (aRn, .inl (cyI, 40, .inl vrn)), (aT, .inr (5, [.ref aTp, .int vtl, .int vta, .int vtt])), (aTp, .inl (cyI, 552, .inl vtp)), (bM, .inr (7, [.ref bN, .ref bQ, .int us, .ref bS, .ref bH, .ref bP, .int up, .int ue, .int ut, .ref bT, .int um])), (bN, .inl (cyI, 225, .inl un)), (bQ, .inl (cyI, 1350, .inl uq)), (bS, .inl (cyI, 450, .inl ul)), (bH, .inl (cyZ, 2, .inl uh)), (bP, .inl (cyI, 80, .inl ux)), (bT, .inl (cyI, 42, .inl uo))] H → va_D (fun q : Nat => s.heap.size ≤ q) [(aM, .inr (6, [.ref aS, .ref aH, .ref aL, .ref aP, .ref aR, .ref aT])), (aS, .inr (3, [.ref aC])), (aC, .inl (cyI, 225, .inl vc)), (aH, .inr (0, [.ref aHs, .int vhf, .int vhl])), (aHs, .inl (cyI, 1575, .inl vhs)), (aL, .inr (4, [.ref aLs, .int vsf])), (aLs, .inl (cyI, 450, .inl vss)), (aP, .inr (1, [.ref aPc, .int vpl])), (aPc, .inl (cyI, 80, .inl vpp)), (aR, .inr (2, [.ref aP, .ref aRn, .int vra, .int vrk, .int vrt])), (aRn, .inl (cyI, 40, .inl vrn)), (aT, .inr (5, [.ref aTp, .int vtl, .int vta, .int vtt])), (aTp, .inl (cyI, 552, .inl vtp)), (bM, .inr (7, [.ref bN, .ref bQ, .int us, .ref bS, .ref bH, .ref bP, .int up, .int ue, .int ut, .ref bT, .int um])), (bN, .inl (cyI, 225, .inl un)), (bQ, .inl (cyI, 1350, .inl uq)), (bS, .inl (cyI, 450, .inl ul)), (bH, .inl (cyZ, 2, .inl uh)), (bP, .inl (cyI, 80, .inl ux)), (bT, .inl (cyI, 42, .inl uo))] → va_S (fun q : Nat => s.heap.size ≤ q) s.heap H locs → lv_has ls 4 [(0, .ref b), (1, .ref aM), (2, .ref bM), (3, .int x3)] → G H locs (F0 m 461 ls []) := by
        intro x3 vc vhf vhl vhs vsf vss vpl vpp vra vrk vrt vrn vtl vta vtt vtp us up ue ut um un uq ul uh ux uo hF H locs ls hP hD hS hl
        unfold b_L_law_461 at hF
        refine (hG _ _ _).2 ?_
        refine lv_aload_n hx hb dL_law_461 rfl (lv_at hl 1 rfl) ?_
        refine lv_aload_n hx hb dL_law_462 rfl (lv_at hl 0 rfl) ?_
        refine lv_iload_n hx hb dL_law_463 rfl (lv_at hl 3 rfl) ?_
        refine lv_iconst (v := (1 : Int32)) hx hb dL_law_464 (by decide) ?_
        refine lv_iadd hx hb dL_law_465 ?_
        obtain ⟨r466, hin, hn, hF⟩ := k_ld_ex hF
        refine va_sld hx hb hX hbl hbA hS hin dL_law_466 ?_
        refine x_nm hn ?_
        refine lv_aload_n hx hb dL_law_467 rfl (lv_at hl 0 rfl) ?_
        refine lv_iload_n hx hb dL_law_468 rfl (lv_at hl 3 rfl) ?_
        refine lv_iconst (v := (2 : Int32)) hx hb dL_law_469 (by decide) ?_
        refine lv_iadd hx hb dL_law_470 ?_
        obtain ⟨r471, hin, hn, hF⟩ := k_ld_ex hF
        refine va_sld hx hb hX hbl hbA hS hin dL_law_471 ?_
        refine x_nm hn ?_
        refine lv_aload_n hx hb dL_law_472 rfl (lv_at hl 0 rfl) ?_
        refine lv_iload_n hx hb dL_law_473 rfl (lv_at hl 3 rfl) ?_
        refine lv_iconst (v := (3 : Int32)) hx hb dL_law_474 (by decide) ?_
        refine lv_iadd hx hb dL_law_475 ?_
        obtain ⟨r476, hin, hn, hF⟩ := k_ld_ex hF
        refine va_sld hx hb hX hbl hbA hS hin dL_law_476 ?_
        refine x_nm hn ?_
        refine lv_aload_n hx hb dL_law_477 rfl (lv_at hl 0 rfl) ?_
        refine lv_iload_n hx hb dL_law_478 rfl (lv_at hl 3 rfl) ?_
        refine lv_iconst (v := (4 : Int32)) hx hb dL_law_479 (by decide) ?_
        refine lv_iadd hx hb dL_law_480 ?_
        obtain ⟨r481, hin, hn, hF⟩ := k_ld_ex hF
        refine va_sld hx hb hX hbl hbA hS hin dL_law_481 ?_
        refine x_nm hn ?_
        refine lv_aload_n hx hb dL_law_482 rfl (lv_at hl 0 rfl) ?_
        refine lv_iload_n hx hb dL_law_483 rfl (lv_at hl 3 rfl) ?_
        refine lv_iconst (v := (5 : Int32)) hx hb dL_law_484 (by decide) ?_
        refine lv_iadd hx hb dL_law_485 ?_
        obtain ⟨r486, hin, hn, hF⟩ := k_ld_ex hF
        refine va_sld hx hb hX hbl hbA hS hin dL_law_486 ?_
        refine x_nm hn ?_
        obtain ⟨r487, vtl_487, vtp_487, hC, hF⟩ := k_c3_ex hF
        refine x_VM (As := [.int r466, .int r471, .int r476, .int r481, .int r486]) (rest := []) ⟨hx, hb, hml, hown, hts⟩ (c_X6_pair l D cyI cyZ aM aS aC aH aL aP aR aT aTp H.size N r466 r471 r476 r481 r486 vc vtl vta vtt vtp hC) (cwV 5 hts gL_law_X6_pair rfl rfl rfl (by decide +kernel) ⟨Nat.le_of_ble_eq_true rfl, Nat.le_of_ble_eq_true rfl⟩) hK hP hD hS hA [0, 1, 2, 11, 12] rfl rfl rfl 0 rfl rfl rfl rfl hl.1 rfl (Nat.le_of_ble_eq_true rfl) ⟨Nat.le_of_ble_eq_true rfl, Nat.le_of_ble_eq_true rfl⟩ dL_law_487 (fun H locs hP hD hS => ?_)
        have hP : va_P D vwCl [(aM, .inr (6, [.ref aS, .ref aH, .ref aL, .ref aP, .ref aR, .ref aT])), (aS, .inr (3, [.ref aC])), (aC, .inl (cyI, 225, .inl vc)), (aH, .inr (0, [.ref aHs, .int vhf, .int vhl])), (aHs, .inl (cyI, 1575, .inl vhs)), (aL, .inr (4, [.ref aLs, .int vsf])), (aLs, .inl (cyI, 450, .inl vss)), (aP, .inr (1, [.ref aPc, .int vpl])), (aPc, .inl (cyI, 80, .inl vpp)), (aR, .inr (2, [.ref aP, .ref aRn, .int vra, .int vrk, .int vrt])), (aRn, .inl (cyI, 40, .inl vrn)), (aT, .inr (5, [.ref aTp, .int vtl_487, .int vta, .int vtt])), (aTp, .inl (cyI, 552, .inl vtp_487)), (bM, .inr (7, [.ref bN, .ref bQ, .int us, .ref bS, .ref bH, .ref bP, .int up, .int ue, .int ut, .ref bT, .int um])), (bN, .inl (cyI, 225, .inl un)), (bQ, .inl (cyI, 1350, .inl uq)), (bS, .inl (cyI, 450, .inl ul)), (bH, .inl (cyZ, 2, .inl uh)), (bP, .inl (cyI, 80, .inl ux)), (bT, .inl (cyI, 42, .inl uo))] H := hP
        have hD : va_D (fun q : Nat => s.heap.size ≤ q) [(aM, .inr (6, [.ref aS, .ref aH, .ref aL, .ref aP, .ref aR, .ref aT])), (aS, .inr (3, [.ref aC])), (aC, .inl (cyI, 225, .inl vc)), (aH, .inr (0, [.ref aHs, .int vhf, .int vhl])), (aHs, .inl (cyI, 1575, .inl vhs)), (aL, .inr (4, [.ref aLs, .int vsf])), (aLs, .inl (cyI, 450, .inl vss)), (aP, .inr (1, [.ref aPc, .int vpl])), (aPc, .inl (cyI, 80, .inl vpp)), (aR, .inr (2, [.ref aP, .ref aRn, .int vra, .int vrk, .int vrt])), (aRn, .inl (cyI, 40, .inl vrn)), (aT, .inr (5, [.ref aTp, .int vtl_487, .int vta, .int vtt])), (aTp, .inl (cyI, 552, .inl vtp_487)), (bM, .inr (7, [.ref bN, .ref bQ, .int us, .ref bS, .ref bH, .ref bP, .int up, .int ue, .int ut, .ref bT, .int um])), (bN, .inl (cyI, 225, .inl un)), (bQ, .inl (cyI, 1350, .inl uq)), (bS, .inl (cyI, 450, .inl ul)), (bH, .inl (cyZ, 2, .inl uh)), (bP, .inl (cyI, 80, .inl ux)), (bT, .inl (cyI, 42, .inl uo))] := hD
        refine lv_aload_n hx hb dL_law_490 rfl (lv_at hl 2 rfl) ?_
        refine lv_aload_n hx hb dL_law_491 rfl (lv_at hl 0 rfl) ?_
        refine lv_iload_n hx hb dL_law_492 rfl (lv_at hl 3 rfl) ?_
        refine lv_iconst (v := (1 : Int32)) hx hb dL_law_493 (by decide) ?_
        refine lv_iadd hx hb dL_law_494 ?_
        obtain ⟨r495, hin, hn, hF⟩ := k_ld_ex hF
        refine va_sld hx hb hX hbl hbA hS hin dL_law_495 ?_
        refine x_nm hn ?_
        refine lv_aload_n hx hb dL_law_496 rfl (lv_at hl 0 rfl) ?_
        refine lv_iload_n hx hb dL_law_497 rfl (lv_at hl 3 rfl) ?_
        refine lv_iconst (v := (2 : Int32)) hx hb dL_law_498 (by decide) ?_
        refine lv_iadd hx hb dL_law_499 ?_
        obtain ⟨r500, hin, hn, hF⟩ := k_ld_ex hF
        refine va_sld hx hb hX hbl hbA hS hin dL_law_500 ?_
        refine x_nm hn ?_
        refine lv_aload_n hx hb dL_law_501 rfl (lv_at hl 0 rfl) ?_
        refine lv_iload_n hx hb dL_law_502 rfl (lv_at hl 3 rfl) ?_
        refine lv_iconst (v := (3 : Int32)) hx hb dL_law_503 (by decide) ?_
        refine lv_iadd hx hb dL_law_504 ?_
        obtain ⟨r505, hin, hn, hF⟩ := k_ld_ex hF
        refine va_sld hx hb hX hbl hbA hS hin dL_law_505 ?_
        refine x_nm hn ?_
        refine lv_aload_n hx hb dL_law_506 rfl (lv_at hl 0 rfl) ?_
        refine lv_iload_n hx hb dL_law_507 rfl (lv_at hl 3 rfl) ?_
        refine lv_iconst (v := (4 : Int32)) hx hb dL_law_508 (by decide) ?_
        refine lv_iadd hx hb dL_law_509 ?_
        obtain ⟨r510, hin, hn, hF⟩ := k_ld_ex hF
        refine va_sld hx hb hX hbl hbA hS hin dL_law_510 ?_
        refine x_nm hn ?_
        refine lv_aload_n hx hb dL_law_511 rfl (lv_at hl 0 rfl) ?_
        refine lv_iload_n hx hb dL_law_512 rfl (lv_at hl 3 rfl) ?_
        refine lv_iconst (v := (5 : Int32)) hx hb dL_law_513 (by decide) ?_
        refine lv_iadd hx hb dL_law_514 ?_
        obtain ⟨r515, hin, hn, hF⟩ := k_ld_ex hF
        refine va_sld hx hb hX hbl hbA hS hin dL_law_515 ?_
        refine x_nm hn ?_
        obtain ⟨r516, hC, hF⟩ := k_c1_ex hF
        refine x_VR (As := [.int r495, .int r500, .int r505, .int r510, .int r515]) (rest := [.int r487]) ⟨hx, hb, hml, hown, hts⟩ (c_X7_pair l D cyI cyZ bM bN bQ bS bH bP bT N r495 r500 r505 r510 r515 us up ue ut um un hC) (cwV 5 hts gL_law_X7_pair rfl rfl rfl (by decide +kernel) ⟨Nat.le_of_ble_eq_true rfl, Nat.le_of_ble_eq_true rfl⟩) hK hP hS [13, 14] rfl 13 rfl rfl rfl rfl hl.1 rfl (Nat.le_of_ble_eq_true rfl) ⟨Nat.le_of_ble_eq_true rfl, Nat.le_of_ble_eq_true rfl⟩ dL_law_516 (fun H locs hP hS => ?_)
        refine lv_icmp_eq (tgt := 877) hx hb dL_law_519 (by decide) (fun hc => ?_) (fun hc => ?_)
        · have hF := k_if_t hF hc
          exact (hG _ _ _).1 (blk_877 x3 vc vhf vhl vhs vsf vss vpl vpp vra vrk vrt vrn vtl_487 vta vtt vtp_487 us up ue ut um un uq ul uh ux uo hF _ _ _ hP hD hS (lv_sub hl [0, 1, 2, 3] rfl))
        · have hF := k_if_f hF hc
          refine lv_iconst (v := (0 : Int32)) hx hb dL_law_522 (by decide) ?_
          exact absurd (Option.some.inj hF) (by decide)
      have blk_524 : ∀ (x3 : Int32) (vc : (Nat → Int32)) (vhf : Int32) (vhl : Int32) (vhs : (Nat → Int32)) (vsf : Int32) (vss : (Nat → Int32)) (vpl : Int32) (vpp : (Nat → Int32)) (vra : Int32) (vrk : Int32) (vrt : Int32) (vrn : (Nat → Int32)) (vtl : Int32) (vta : Int32) (vtt : Int32) (vtp : (Nat → Int32)) (us : Int32) (up : Int32) (ue : Int32) (ut : Int32) (um : Int32) (un : (Nat → Int32)) (uq : (Nat → Int32)) (ul : (Nat → Int32)) (uh : (Nat → Int32)) (ux : (Nat → Int32)) (uo : (Nat → Int32)), b_L_law_524 N L xs (f_L_law_18 N L xs n_18) x3 vc vhf vhl vhs vsf vss vpl vpp vra vrk vrt vrn vtl vta vtt vtp us up ue ut um un uq ul uh ux uo = some 1 → ∀ (H : Heap) (locs : List Loc) (ls : Array Slot), va_P D vwCl [(aM, .inr (6, [.ref aS, .ref aH, .ref aL, .ref aP, .ref aR, .ref aT])), (aS, .inr (3, [.ref aC])), (aC, .inl (cyI, 225, .inl vc)), (aH, .inr (0, [.ref aHs, .int vhf, .int vhl])), (aHs, .inl (cyI, 1575, .inl vhs)), (aL, .inr (4, [.ref aLs, .int vsf])), (aLs, .inl (cyI, 450, .inl vss)), (aP, .inr (1, [.ref aPc, .int vpl])), (aPc, .inl (cyI, 80, .inl vpp)), (aR, .inr (2, [.ref aP, .ref aRn, .int vra, .int vrk, .int vrt])), (aRn, .inl (cyI, 40, .inl vrn)), (aT, .inr (5, [.ref aTp, .int vtl, .int vta, .int vtt])), (aTp, .inl (cyI, 552, .inl vtp)), (bM, .inr (7, [.ref bN, .ref bQ, .int us, .ref bS, .ref bH, .ref bP, .int up, .int ue, .int ut, .ref bT, .int um])), (bN, .inl (cyI, 225, .inl un)), (bQ, .inl (cyI, 1350, .inl uq)), (bS, .inl (cyI, 450, .inl ul)), (bH, .inl (cyZ, 2, .inl uh)), (bP, .inl (cyI, 80, .inl ux)), (bT, .inl (cyI, 42, .inl uo))] H → va_D (fun q : Nat => s.heap.size ≤ q) [(aM, .inr (6, [.ref aS, .ref aH, .ref aL, .ref aP, .ref aR, .ref aT])), (aS, .inr (3, [.ref aC])), (aC, .inl (cyI, 225, .inl vc)), (aH, .inr (0, [.ref aHs, .int vhf, .int vhl])), (aHs, .inl (cyI, 1575, .inl vhs)), (aL, .inr (4, [.ref aLs, .int vsf])), (aLs, .inl (cyI, 450, .inl vss)), (aP, .inr (1, [.ref aPc, .int vpl])), (aPc, .inl (cyI, 80, .inl vpp)), (aR, .inr (2, [.ref aP, .ref aRn, .int vra, .int vrk, .int vrt])), (aRn, .inl (cyI, 40, .inl vrn)), (aT, .inr (5, [.ref aTp, .int vtl, .int vta, .int vtt])), (aTp, .inl (cyI, 552, .inl vtp)), (bM, .inr (7, [.ref bN, .ref bQ, .int us, .ref bS, .ref bH, .ref bP, .int up, .int ue, .int ut, .ref bT, .int um])), (bN, .inl (cyI, 225, .inl un)), (bQ, .inl (cyI, 1350, .inl uq)), (bS, .inl (cyI, 450, .inl ul)), (bH, .inl (cyZ, 2, .inl uh)), (bP, .inl (cyI, 80, .inl ux)), (bT, .inl (cyI, 42, .inl uo))] → va_S (fun q : Nat => s.heap.size ≤ q) s.heap H locs → lv_has ls 4 [(0, .ref b), (1, .ref aM), (2, .ref bM), (3, .int x3)] → G H locs (F0 m 524 ls []) := by
        intro x3 vc vhf vhl vhs vsf vss vpl vpp vra vrk vrt vrn vtl vta vtt vtp us up ue ut um un uq ul uh ux uo hF H locs ls hP hD hS hl
        unfold b_L_law_524 at hF
        refine (hG _ _ _).2 ?_
        refine lv_aload_n hx hb dL_law_524 rfl (lv_at hl 1 rfl) ?_
        refine lv_aload_n hx hb dL_law_525 rfl (lv_at hl 0 rfl) ?_
        refine lv_iload_n hx hb dL_law_526 rfl (lv_at hl 3 rfl) ?_
        refine lv_iconst (v := (1 : Int32)) hx hb dL_law_527 (by decide) ?_
        refine lv_iadd hx hb dL_law_528 ?_
        obtain ⟨r529, hin, hn, hF⟩ := k_ld_ex hF
        refine va_sld hx hb hX hbl hbA hS hin dL_law_529 ?_
        refine x_nm hn ?_
        refine lv_aload_n hx hb dL_law_530 rfl (lv_at hl 0 rfl) ?_
        refine lv_iload_n hx hb dL_law_531 rfl (lv_at hl 3 rfl) ?_
        refine lv_iconst (v := (2 : Int32)) hx hb dL_law_532 (by decide) ?_
        refine lv_iadd hx hb dL_law_533 ?_
        obtain ⟨r534, hin, hn, hF⟩ := k_ld_ex hF
        refine va_sld hx hb hX hbl hbA hS hin dL_law_534 ?_
        refine x_nm hn ?_
        refine lv_aload_n hx hb dL_law_535 rfl (lv_at hl 0 rfl) ?_
        refine lv_iload_n hx hb dL_law_536 rfl (lv_at hl 3 rfl) ?_
        refine lv_iconst (v := (3 : Int32)) hx hb dL_law_537 (by decide) ?_
        refine lv_iadd hx hb dL_law_538 ?_
        obtain ⟨r539, hin, hn, hF⟩ := k_ld_ex hF
        refine va_sld hx hb hX hbl hbA hS hin dL_law_539 ?_
        refine x_nm hn ?_
        refine lv_aload_n hx hb dL_law_540 rfl (lv_at hl 0 rfl) ?_
        refine lv_iload_n hx hb dL_law_541 rfl (lv_at hl 3 rfl) ?_
        refine lv_iconst (v := (4 : Int32)) hx hb dL_law_542 (by decide) ?_
        refine lv_iadd hx hb dL_law_543 ?_
        obtain ⟨r544, hin, hn, hF⟩ := k_ld_ex hF
        refine va_sld hx hb hX hbl hbA hS hin dL_law_544 ?_
        refine x_nm hn ?_
        refine lv_aload_n hx hb dL_law_545 rfl (lv_at hl 0 rfl) ?_
        refine lv_iload_n hx hb dL_law_546 rfl (lv_at hl 3 rfl) ?_
        refine lv_iconst (v := (5 : Int32)) hx hb dL_law_547 (by decide) ?_
        refine lv_iadd hx hb dL_law_548 ?_
        obtain ⟨r549, hin, hn, hF⟩ := k_ld_ex hF
        refine va_sld hx hb hX hbl hbA hS hin dL_law_549 ?_
        refine x_nm hn ?_
        obtain ⟨r550, vtl_550, vtp_550, hC, hF⟩ := k_c3_ex hF
        refine x_VM (As := [.int r529, .int r534, .int r539, .int r544, .int r549]) (rest := []) ⟨hx, hb, hml, hown, hts⟩ (c_X6_why l D cyI cyZ aM aS aC aH aL aP aR aT aTp H.size N r529 r534 r539 r544 r549 vc vtl vta vtt vtp hC) (cwV 5 hts gL_law_X6_why rfl rfl rfl (by decide +kernel) ⟨Nat.le_of_ble_eq_true rfl, Nat.le_of_ble_eq_true rfl⟩) hK hP hD hS hA [0, 1, 2, 11, 12] rfl rfl rfl 0 rfl rfl rfl rfl hl.1 rfl (Nat.le_of_ble_eq_true rfl) ⟨Nat.le_of_ble_eq_true rfl, Nat.le_of_ble_eq_true rfl⟩ dL_law_550 (fun H locs hP hD hS => ?_)
        have hP : va_P D vwCl [(aM, .inr (6, [.ref aS, .ref aH, .ref aL, .ref aP, .ref aR, .ref aT])), (aS, .inr (3, [.ref aC])), (aC, .inl (cyI, 225, .inl vc)), (aH, .inr (0, [.ref aHs, .int vhf, .int vhl])), (aHs, .inl (cyI, 1575, .inl vhs)), (aL, .inr (4, [.ref aLs, .int vsf])), (aLs, .inl (cyI, 450, .inl vss)), (aP, .inr (1, [.ref aPc, .int vpl])), (aPc, .inl (cyI, 80, .inl vpp)), (aR, .inr (2, [.ref aP, .ref aRn, .int vra, .int vrk, .int vrt])), (aRn, .inl (cyI, 40, .inl vrn)), (aT, .inr (5, [.ref aTp, .int vtl_550, .int vta, .int vtt])), (aTp, .inl (cyI, 552, .inl vtp_550)), (bM, .inr (7, [.ref bN, .ref bQ, .int us, .ref bS, .ref bH, .ref bP, .int up, .int ue, .int ut, .ref bT, .int um])), (bN, .inl (cyI, 225, .inl un)), (bQ, .inl (cyI, 1350, .inl uq)), (bS, .inl (cyI, 450, .inl ul)), (bH, .inl (cyZ, 2, .inl uh)), (bP, .inl (cyI, 80, .inl ux)), (bT, .inl (cyI, 42, .inl uo))] H := hP
        have hD : va_D (fun q : Nat => s.heap.size ≤ q) [(aM, .inr (6, [.ref aS, .ref aH, .ref aL, .ref aP, .ref aR, .ref aT])), (aS, .inr (3, [.ref aC])), (aC, .inl (cyI, 225, .inl vc)), (aH, .inr (0, [.ref aHs, .int vhf, .int vhl])), (aHs, .inl (cyI, 1575, .inl vhs)), (aL, .inr (4, [.ref aLs, .int vsf])), (aLs, .inl (cyI, 450, .inl vss)), (aP, .inr (1, [.ref aPc, .int vpl])), (aPc, .inl (cyI, 80, .inl vpp)), (aR, .inr (2, [.ref aP, .ref aRn, .int vra, .int vrk, .int vrt])), (aRn, .inl (cyI, 40, .inl vrn)), (aT, .inr (5, [.ref aTp, .int vtl_550, .int vta, .int vtt])), (aTp, .inl (cyI, 552, .inl vtp_550)), (bM, .inr (7, [.ref bN, .ref bQ, .int us, .ref bS, .ref bH, .ref bP, .int up, .int ue, .int ut, .ref bT, .int um])), (bN, .inl (cyI, 225, .inl un)), (bQ, .inl (cyI, 1350, .inl uq)), (bS, .inl (cyI, 450, .inl ul)), (bH, .inl (cyZ, 2, .inl uh)), (bP, .inl (cyI, 80, .inl ux)), (bT, .inl (cyI, 42, .inl uo))] := hD
        refine lv_aload_n hx hb dL_law_553 rfl (lv_at hl 2 rfl) ?_
        refine lv_aload_n hx hb dL_law_554 rfl (lv_at hl 0 rfl) ?_
        refine lv_iload_n hx hb dL_law_555 rfl (lv_at hl 3 rfl) ?_
        refine lv_iconst (v := (1 : Int32)) hx hb dL_law_556 (by decide) ?_
        refine lv_iadd hx hb dL_law_557 ?_
        obtain ⟨r558, hin, hn, hF⟩ := k_ld_ex hF
        refine va_sld hx hb hX hbl hbA hS hin dL_law_558 ?_
        refine x_nm hn ?_
        refine lv_aload_n hx hb dL_law_559 rfl (lv_at hl 0 rfl) ?_
        refine lv_iload_n hx hb dL_law_560 rfl (lv_at hl 3 rfl) ?_
        refine lv_iconst (v := (2 : Int32)) hx hb dL_law_561 (by decide) ?_
        refine lv_iadd hx hb dL_law_562 ?_
        obtain ⟨r563, hin, hn, hF⟩ := k_ld_ex hF
        refine va_sld hx hb hX hbl hbA hS hin dL_law_563 ?_
        refine x_nm hn ?_
        refine lv_aload_n hx hb dL_law_564 rfl (lv_at hl 0 rfl) ?_
        refine lv_iload_n hx hb dL_law_565 rfl (lv_at hl 3 rfl) ?_
        refine lv_iconst (v := (3 : Int32)) hx hb dL_law_566 (by decide) ?_
        refine lv_iadd hx hb dL_law_567 ?_
        obtain ⟨r568, hin, hn, hF⟩ := k_ld_ex hF
        refine va_sld hx hb hX hbl hbA hS hin dL_law_568 ?_
        refine x_nm hn ?_
        refine lv_aload_n hx hb dL_law_569 rfl (lv_at hl 0 rfl) ?_
        refine lv_iload_n hx hb dL_law_570 rfl (lv_at hl 3 rfl) ?_
        refine lv_iconst (v := (4 : Int32)) hx hb dL_law_571 (by decide) ?_
        refine lv_iadd hx hb dL_law_572 ?_
        obtain ⟨r573, hin, hn, hF⟩ := k_ld_ex hF
        refine va_sld hx hb hX hbl hbA hS hin dL_law_573 ?_
        refine x_nm hn ?_
        refine lv_aload_n hx hb dL_law_574 rfl (lv_at hl 0 rfl) ?_
        refine lv_iload_n hx hb dL_law_575 rfl (lv_at hl 3 rfl) ?_
        refine lv_iconst (v := (5 : Int32)) hx hb dL_law_576 (by decide) ?_
        refine lv_iadd hx hb dL_law_577 ?_
        obtain ⟨r578, hin, hn, hF⟩ := k_ld_ex hF
        refine va_sld hx hb hX hbl hbA hS hin dL_law_578 ?_
        refine x_nm hn ?_
        obtain ⟨r579, hC, hF⟩ := k_c1_ex hF
        refine x_VR (As := [.int r558, .int r563, .int r568, .int r573, .int r578]) (rest := [.int r550]) ⟨hx, hb, hml, hown, hts⟩ (c_X7_why l D cyI cyZ bM bN bQ bS bH bP bT N r558 r563 r568 r573 r578 us up ue ut um un hC) (cwV 5 hts gL_law_X7_why rfl rfl rfl (by decide +kernel) ⟨Nat.le_of_ble_eq_true rfl, Nat.le_of_ble_eq_true rfl⟩) hK hP hS [13, 14] rfl 13 rfl rfl rfl rfl hl.1 rfl (Nat.le_of_ble_eq_true rfl) ⟨Nat.le_of_ble_eq_true rfl, Nat.le_of_ble_eq_true rfl⟩ dL_law_579 (fun H locs hP hS => ?_)
        refine lv_icmp_eq (tgt := 877) hx hb dL_law_582 (by decide) (fun hc => ?_) (fun hc => ?_)
        · have hF := k_if_t hF hc
          exact (hG _ _ _).1 (blk_877 x3 vc vhf vhl vhs vsf vss vpl vpp vra vrk vrt vrn vtl_550 vta vtt vtp_550 us up ue ut um un uq ul uh ux uo hF _ _ _ hP hD hS (lv_sub hl [0, 1, 2, 3] rfl))
        · have hF := k_if_f hF hc
          refine lv_iconst (v := (0 : Int32)) hx hb dL_law_585 (by decide) ?_
          exact absurd (Option.some.inj hF) (by decide)
      have blk_587 : ∀ (x3 : Int32) (vc : (Nat → Int32)) (vhf : Int32) (vhl : Int32) (vhs : (Nat → Int32)) (vsf : Int32) (vss : (Nat → Int32)) (vpl : Int32) (vpp : (Nat → Int32)) (vra : Int32) (vrk : Int32) (vrt : Int32) (vrn : (Nat → Int32)) (vtl : Int32) (vta : Int32) (vtt : Int32) (vtp : (Nat → Int32)) (us : Int32) (up : Int32) (ue : Int32) (ut : Int32) (um : Int32) (un : (Nat → Int32)) (uq : (Nat → Int32)) (ul : (Nat → Int32)) (uh : (Nat → Int32)) (ux : (Nat → Int32)) (uo : (Nat → Int32)), b_L_law_587 N L xs (f_L_law_18 N L xs n_18) x3 vc vhf vhl vhs vsf vss vpl vpp vra vrk vrt vrn vtl vta vtt vtp us up ue ut um un uq ul uh ux uo = some 1 → ∀ (H : Heap) (locs : List Loc) (ls : Array Slot), va_P D vwCl [(aM, .inr (6, [.ref aS, .ref aH, .ref aL, .ref aP, .ref aR, .ref aT])), (aS, .inr (3, [.ref aC])), (aC, .inl (cyI, 225, .inl vc)), (aH, .inr (0, [.ref aHs, .int vhf, .int vhl])), (aHs, .inl (cyI, 1575, .inl vhs)), (aL, .inr (4, [.ref aLs, .int vsf])), (aLs, .inl (cyI, 450, .inl vss)), (aP, .inr (1, [.ref aPc, .int vpl])), (aPc, .inl (cyI, 80, .inl vpp)), (aR, .inr (2, [.ref aP, .ref aRn, .int vra, .int vrk, .int vrt])), (aRn, .inl (cyI, 40, .inl vrn)), (aT, .inr (5, [.ref aTp, .int vtl, .int vta, .int vtt])), (aTp, .inl (cyI, 552, .inl vtp)), (bM, .inr (7, [.ref bN, .ref bQ, .int us, .ref bS, .ref bH, .ref bP, .int up, .int ue, .int ut, .ref bT, .int um])), (bN, .inl (cyI, 225, .inl un)), (bQ, .inl (cyI, 1350, .inl uq)), (bS, .inl (cyI, 450, .inl ul)), (bH, .inl (cyZ, 2, .inl uh)), (bP, .inl (cyI, 80, .inl ux)), (bT, .inl (cyI, 42, .inl uo))] H → va_D (fun q : Nat => s.heap.size ≤ q) [(aM, .inr (6, [.ref aS, .ref aH, .ref aL, .ref aP, .ref aR, .ref aT])), (aS, .inr (3, [.ref aC])), (aC, .inl (cyI, 225, .inl vc)), (aH, .inr (0, [.ref aHs, .int vhf, .int vhl])), (aHs, .inl (cyI, 1575, .inl vhs)), (aL, .inr (4, [.ref aLs, .int vsf])), (aLs, .inl (cyI, 450, .inl vss)), (aP, .inr (1, [.ref aPc, .int vpl])), (aPc, .inl (cyI, 80, .inl vpp)), (aR, .inr (2, [.ref aP, .ref aRn, .int vra, .int vrk, .int vrt])), (aRn, .inl (cyI, 40, .inl vrn)), (aT, .inr (5, [.ref aTp, .int vtl, .int vta, .int vtt])), (aTp, .inl (cyI, 552, .inl vtp)), (bM, .inr (7, [.ref bN, .ref bQ, .int us, .ref bS, .ref bH, .ref bP, .int up, .int ue, .int ut, .ref bT, .int um])), (bN, .inl (cyI, 225, .inl un)), (bQ, .inl (cyI, 1350, .inl uq)), (bS, .inl (cyI, 450, .inl ul)), (bH, .inl (cyZ, 2, .inl uh)), (bP, .inl (cyI, 80, .inl ux)), (bT, .inl (cyI, 42, .inl uo))] → va_S (fun q : Nat => s.heap.size ≤ q) s.heap H locs → lv_has ls 4 [(0, .ref b), (1, .ref aM), (2, .ref bM), (3, .int x3)] → G H locs (F0 m 587 ls []) := by
        intro x3 vc vhf vhl vhs vsf vss vpl vpp vra vrk vrt vrn vtl vta vtt vtp us up ue ut um un uq ul uh ux uo hF H locs ls hP hD hS hl
        unfold b_L_law_587 at hF
        refine (hG _ _ _).2 ?_
        refine lv_aload_n hx hb dL_law_587 rfl (lv_at hl 1 rfl) ?_
        refine lv_aload_n hx hb dL_law_588 rfl (lv_at hl 0 rfl) ?_
        refine lv_iload_n hx hb dL_law_589 rfl (lv_at hl 3 rfl) ?_
        refine lv_iconst (v := (1 : Int32)) hx hb dL_law_590 (by decide) ?_
        refine lv_iadd hx hb dL_law_591 ?_
        obtain ⟨r592, hin, hn, hF⟩ := k_ld_ex hF
        refine va_sld hx hb hX hbl hbA hS hin dL_law_592 ?_
        refine x_nm hn ?_
        refine lv_aload_n hx hb dL_law_593 rfl (lv_at hl 0 rfl) ?_
        refine lv_iload_n hx hb dL_law_594 rfl (lv_at hl 3 rfl) ?_
        refine lv_iconst (v := (2 : Int32)) hx hb dL_law_595 (by decide) ?_
        refine lv_iadd hx hb dL_law_596 ?_
        obtain ⟨r597, hin, hn, hF⟩ := k_ld_ex hF
        refine va_sld hx hb hX hbl hbA hS hin dL_law_597 ?_
        refine x_nm hn ?_
        refine lv_aload_n hx hb dL_law_598 rfl (lv_at hl 0 rfl) ?_
        refine lv_iload_n hx hb dL_law_599 rfl (lv_at hl 3 rfl) ?_
        refine lv_iconst (v := (3 : Int32)) hx hb dL_law_600 (by decide) ?_
        refine lv_iadd hx hb dL_law_601 ?_
        obtain ⟨r602, hin, hn, hF⟩ := k_ld_ex hF
        refine va_sld hx hb hX hbl hbA hS hin dL_law_602 ?_
        refine x_nm hn ?_
        obtain ⟨r603, vtl_603, vtp_603, hC, hF⟩ := k_c3_ex hF
        refine x_VM (As := [.int r592, .int r597, .int r602]) (rest := []) ⟨hx, hb, hml, hown, hts⟩ (c_X6_leastGap l D cyI cyZ aM aS aC aH aL aP aR aT aTp H.size N r592 r597 r602 vc vtl vta vtt vtp hC) (cwV 3 hts gL_law_X6_leastGap rfl rfl rfl (by decide +kernel) ⟨Nat.le_of_ble_eq_true rfl, Nat.le_of_ble_eq_true rfl⟩) hK hP hD hS hA [0, 1, 2, 11, 12] rfl rfl rfl 0 rfl rfl rfl rfl hl.1 rfl (Nat.le_of_ble_eq_true rfl) ⟨Nat.le_of_ble_eq_true rfl, Nat.le_of_ble_eq_true rfl⟩ dL_law_603 (fun H locs hP hD hS => ?_)
        have hP : va_P D vwCl [(aM, .inr (6, [.ref aS, .ref aH, .ref aL, .ref aP, .ref aR, .ref aT])), (aS, .inr (3, [.ref aC])), (aC, .inl (cyI, 225, .inl vc)), (aH, .inr (0, [.ref aHs, .int vhf, .int vhl])), (aHs, .inl (cyI, 1575, .inl vhs)), (aL, .inr (4, [.ref aLs, .int vsf])), (aLs, .inl (cyI, 450, .inl vss)), (aP, .inr (1, [.ref aPc, .int vpl])), (aPc, .inl (cyI, 80, .inl vpp)), (aR, .inr (2, [.ref aP, .ref aRn, .int vra, .int vrk, .int vrt])), (aRn, .inl (cyI, 40, .inl vrn)), (aT, .inr (5, [.ref aTp, .int vtl_603, .int vta, .int vtt])), (aTp, .inl (cyI, 552, .inl vtp_603)), (bM, .inr (7, [.ref bN, .ref bQ, .int us, .ref bS, .ref bH, .ref bP, .int up, .int ue, .int ut, .ref bT, .int um])), (bN, .inl (cyI, 225, .inl un)), (bQ, .inl (cyI, 1350, .inl uq)), (bS, .inl (cyI, 450, .inl ul)), (bH, .inl (cyZ, 2, .inl uh)), (bP, .inl (cyI, 80, .inl ux)), (bT, .inl (cyI, 42, .inl uo))] H := hP
        have hD : va_D (fun q : Nat => s.heap.size ≤ q) [(aM, .inr (6, [.ref aS, .ref aH, .ref aL, .ref aP, .ref aR, .ref aT])), (aS, .inr (3, [.ref aC])), (aC, .inl (cyI, 225, .inl vc)), (aH, .inr (0, [.ref aHs, .int vhf, .int vhl])), (aHs, .inl (cyI, 1575, .inl vhs)), (aL, .inr (4, [.ref aLs, .int vsf])), (aLs, .inl (cyI, 450, .inl vss)), (aP, .inr (1, [.ref aPc, .int vpl])), (aPc, .inl (cyI, 80, .inl vpp)), (aR, .inr (2, [.ref aP, .ref aRn, .int vra, .int vrk, .int vrt])), (aRn, .inl (cyI, 40, .inl vrn)), (aT, .inr (5, [.ref aTp, .int vtl_603, .int vta, .int vtt])), (aTp, .inl (cyI, 552, .inl vtp_603)), (bM, .inr (7, [.ref bN, .ref bQ, .int us, .ref bS, .ref bH, .ref bP, .int up, .int ue, .int ut, .ref bT, .int um])), (bN, .inl (cyI, 225, .inl un)), (bQ, .inl (cyI, 1350, .inl uq)), (bS, .inl (cyI, 450, .inl ul)), (bH, .inl (cyZ, 2, .inl uh)), (bP, .inl (cyI, 80, .inl ux)), (bT, .inl (cyI, 42, .inl uo))] := hD
        refine lv_aload_n hx hb dL_law_606 rfl (lv_at hl 2 rfl) ?_
        refine lv_aload_n hx hb dL_law_607 rfl (lv_at hl 0 rfl) ?_
        refine lv_iload_n hx hb dL_law_608 rfl (lv_at hl 3 rfl) ?_
        refine lv_iconst (v := (1 : Int32)) hx hb dL_law_609 (by decide) ?_
        refine lv_iadd hx hb dL_law_610 ?_
        obtain ⟨r611, hin, hn, hF⟩ := k_ld_ex hF
        refine va_sld hx hb hX hbl hbA hS hin dL_law_611 ?_
        refine x_nm hn ?_
        refine lv_aload_n hx hb dL_law_612 rfl (lv_at hl 0 rfl) ?_
        refine lv_iload_n hx hb dL_law_613 rfl (lv_at hl 3 rfl) ?_
        refine lv_iconst (v := (2 : Int32)) hx hb dL_law_614 (by decide) ?_
        refine lv_iadd hx hb dL_law_615 ?_
        obtain ⟨r616, hin, hn, hF⟩ := k_ld_ex hF
        refine va_sld hx hb hX hbl hbA hS hin dL_law_616 ?_
        refine x_nm hn ?_
        refine lv_aload_n hx hb dL_law_617 rfl (lv_at hl 0 rfl) ?_
        refine lv_iload_n hx hb dL_law_618 rfl (lv_at hl 3 rfl) ?_
        refine lv_iconst (v := (3 : Int32)) hx hb dL_law_619 (by decide) ?_
        refine lv_iadd hx hb dL_law_620 ?_
        obtain ⟨r621, hin, hn, hF⟩ := k_ld_ex hF
        refine va_sld hx hb hX hbl hbA hS hin dL_law_621 ?_
        refine x_nm hn ?_
        obtain ⟨r622, hC, hF⟩ := k_c1_ex hF
        refine x_VR (As := [.int r611, .int r616, .int r621]) (rest := [.int r603]) ⟨hx, hb, hml, hown, hts⟩ (c_X7_leastGap l D cyI cyZ bM bN bQ bS bH bP bT N r611 r616 r621 us up ue ut um un hC) (cwV 3 hts gL_law_X7_leastGap rfl rfl rfl (by decide +kernel) ⟨Nat.le_of_ble_eq_true rfl, Nat.le_of_ble_eq_true rfl⟩) hK hP hS [13, 14] rfl 13 rfl rfl rfl rfl hl.1 rfl (Nat.le_of_ble_eq_true rfl) ⟨Nat.le_of_ble_eq_true rfl, Nat.le_of_ble_eq_true rfl⟩ dL_law_622 (fun H locs hP hS => ?_)
        refine lv_icmp_eq (tgt := 877) hx hb dL_law_625 (by decide) (fun hc => ?_) (fun hc => ?_)
        · have hF := k_if_t hF hc
          exact (hG _ _ _).1 (blk_877 x3 vc vhf vhl vhs vsf vss vpl vpp vra vrk vrt vrn vtl_603 vta vtt vtp_603 us up ue ut um un uq ul uh ux uo hF _ _ _ hP hD hS (lv_sub hl [0, 1, 2, 3] rfl))
        · have hF := k_if_f hF hc
          refine lv_iconst (v := (0 : Int32)) hx hb dL_law_628 (by decide) ?_
          exact absurd (Option.some.inj hF) (by decide)
      have blk_630 : ∀ (x3 : Int32) (vc : (Nat → Int32)) (vhf : Int32) (vhl : Int32) (vhs : (Nat → Int32)) (vsf : Int32) (vss : (Nat → Int32)) (vpl : Int32) (vpp : (Nat → Int32)) (vra : Int32) (vrk : Int32) (vrt : Int32) (vrn : (Nat → Int32)) (vtl : Int32) (vta : Int32) (vtt : Int32) (vtp : (Nat → Int32)) (us : Int32) (up : Int32) (ue : Int32) (ut : Int32) (um : Int32) (un : (Nat → Int32)) (uq : (Nat → Int32)) (ul : (Nat → Int32)) (uh : (Nat → Int32)) (ux : (Nat → Int32)) (uo : (Nat → Int32)), b_L_law_630 N L xs (f_L_law_18 N L xs n_18) x3 vc vhf vhl vhs vsf vss vpl vpp vra vrk vrt vrn vtl vta vtt vtp us up ue ut um un uq ul uh ux uo = some 1 → ∀ (H : Heap) (locs : List Loc) (ls : Array Slot), va_P D vwCl [(aM, .inr (6, [.ref aS, .ref aH, .ref aL, .ref aP, .ref aR, .ref aT])), (aS, .inr (3, [.ref aC])), (aC, .inl (cyI, 225, .inl vc)), (aH, .inr (0, [.ref aHs, .int vhf, .int vhl])), (aHs, .inl (cyI, 1575, .inl vhs)), (aL, .inr (4, [.ref aLs, .int vsf])), (aLs, .inl (cyI, 450, .inl vss)), (aP, .inr (1, [.ref aPc, .int vpl])), (aPc, .inl (cyI, 80, .inl vpp)), (aR, .inr (2, [.ref aP, .ref aRn, .int vra, .int vrk, .int vrt])), (aRn, .inl (cyI, 40, .inl vrn)), (aT, .inr (5, [.ref aTp, .int vtl, .int vta, .int vtt])), (aTp, .inl (cyI, 552, .inl vtp)), (bM, .inr (7, [.ref bN, .ref bQ, .int us, .ref bS, .ref bH, .ref bP, .int up, .int ue, .int ut, .ref bT, .int um])), (bN, .inl (cyI, 225, .inl un)), (bQ, .inl (cyI, 1350, .inl uq)), (bS, .inl (cyI, 450, .inl ul)), (bH, .inl (cyZ, 2, .inl uh)), (bP, .inl (cyI, 80, .inl ux)), (bT, .inl (cyI, 42, .inl uo))] H → va_D (fun q : Nat => s.heap.size ≤ q) [(aM, .inr (6, [.ref aS, .ref aH, .ref aL, .ref aP, .ref aR, .ref aT])), (aS, .inr (3, [.ref aC])), (aC, .inl (cyI, 225, .inl vc)), (aH, .inr (0, [.ref aHs, .int vhf, .int vhl])), (aHs, .inl (cyI, 1575, .inl vhs)), (aL, .inr (4, [.ref aLs, .int vsf])), (aLs, .inl (cyI, 450, .inl vss)), (aP, .inr (1, [.ref aPc, .int vpl])), (aPc, .inl (cyI, 80, .inl vpp)), (aR, .inr (2, [.ref aP, .ref aRn, .int vra, .int vrk, .int vrt])), (aRn, .inl (cyI, 40, .inl vrn)), (aT, .inr (5, [.ref aTp, .int vtl, .int vta, .int vtt])), (aTp, .inl (cyI, 552, .inl vtp)), (bM, .inr (7, [.ref bN, .ref bQ, .int us, .ref bS, .ref bH, .ref bP, .int up, .int ue, .int ut, .ref bT, .int um])), (bN, .inl (cyI, 225, .inl un)), (bQ, .inl (cyI, 1350, .inl uq)), (bS, .inl (cyI, 450, .inl ul)), (bH, .inl (cyZ, 2, .inl uh)), (bP, .inl (cyI, 80, .inl ux)), (bT, .inl (cyI, 42, .inl uo))] → va_S (fun q : Nat => s.heap.size ≤ q) s.heap H locs → lv_has ls 4 [(0, .ref b), (1, .ref aM), (2, .ref bM), (3, .int x3)] → G H locs (F0 m 630 ls []) := by
        intro x3 vc vhf vhl vhs vsf vss vpl vpp vra vrk vrt vrn vtl vta vtt vtp us up ue ut um un uq ul uh ux uo hF H locs ls hP hD hS hl
        unfold b_L_law_630 at hF
        refine (hG _ _ _).2 ?_
        refine lv_aload_n hx hb dL_law_630 rfl (lv_at hl 1 rfl) ?_
        refine lv_aload_n hx hb dL_law_631 rfl (lv_at hl 0 rfl) ?_
        refine lv_iload_n hx hb dL_law_632 rfl (lv_at hl 3 rfl) ?_
        refine lv_iconst (v := (1 : Int32)) hx hb dL_law_633 (by decide) ?_
        refine lv_iadd hx hb dL_law_634 ?_
        obtain ⟨r635, hin, hn, hF⟩ := k_ld_ex hF
        refine va_sld hx hb hX hbl hbA hS hin dL_law_635 ?_
        refine x_nm hn ?_
        refine lv_aload_n hx hb dL_law_636 rfl (lv_at hl 0 rfl) ?_
        refine lv_iload_n hx hb dL_law_637 rfl (lv_at hl 3 rfl) ?_
        refine lv_iconst (v := (2 : Int32)) hx hb dL_law_638 (by decide) ?_
        refine lv_iadd hx hb dL_law_639 ?_
        obtain ⟨r640, hin, hn, hF⟩ := k_ld_ex hF
        refine va_sld hx hb hX hbl hbA hS hin dL_law_640 ?_
        refine x_nm hn ?_
        refine lv_aload_n hx hb dL_law_641 rfl (lv_at hl 0 rfl) ?_
        refine lv_iload_n hx hb dL_law_642 rfl (lv_at hl 3 rfl) ?_
        refine lv_iconst (v := (3 : Int32)) hx hb dL_law_643 (by decide) ?_
        refine lv_iadd hx hb dL_law_644 ?_
        obtain ⟨r645, hin, hn, hF⟩ := k_ld_ex hF
        refine va_sld hx hb hX hbl hbA hS hin dL_law_645 ?_
        refine x_nm hn ?_
        obtain ⟨r646, vtl_646, vtp_646, hC, hF⟩ := k_c3_ex hF
        refine x_VM (As := [.int r635, .int r640, .int r645]) (rest := []) ⟨hx, hb, hml, hown, hts⟩ (c_X6_bestOffset l D cyI cyZ aM aS aC aH aL aP aR aT aTp H.size N r635 r640 r645 vc vtl vta vtt vtp hC) (cwV 3 hts gL_law_X6_bestOffset rfl rfl rfl (by decide +kernel) ⟨Nat.le_of_ble_eq_true rfl, Nat.le_of_ble_eq_true rfl⟩) hK hP hD hS hA [0, 1, 2, 11, 12] rfl rfl rfl 0 rfl rfl rfl rfl hl.1 rfl (Nat.le_of_ble_eq_true rfl) ⟨Nat.le_of_ble_eq_true rfl, Nat.le_of_ble_eq_true rfl⟩ dL_law_646 (fun H locs hP hD hS => ?_)
        have hP : va_P D vwCl [(aM, .inr (6, [.ref aS, .ref aH, .ref aL, .ref aP, .ref aR, .ref aT])), (aS, .inr (3, [.ref aC])), (aC, .inl (cyI, 225, .inl vc)), (aH, .inr (0, [.ref aHs, .int vhf, .int vhl])), (aHs, .inl (cyI, 1575, .inl vhs)), (aL, .inr (4, [.ref aLs, .int vsf])), (aLs, .inl (cyI, 450, .inl vss)), (aP, .inr (1, [.ref aPc, .int vpl])), (aPc, .inl (cyI, 80, .inl vpp)), (aR, .inr (2, [.ref aP, .ref aRn, .int vra, .int vrk, .int vrt])), (aRn, .inl (cyI, 40, .inl vrn)), (aT, .inr (5, [.ref aTp, .int vtl_646, .int vta, .int vtt])), (aTp, .inl (cyI, 552, .inl vtp_646)), (bM, .inr (7, [.ref bN, .ref bQ, .int us, .ref bS, .ref bH, .ref bP, .int up, .int ue, .int ut, .ref bT, .int um])), (bN, .inl (cyI, 225, .inl un)), (bQ, .inl (cyI, 1350, .inl uq)), (bS, .inl (cyI, 450, .inl ul)), (bH, .inl (cyZ, 2, .inl uh)), (bP, .inl (cyI, 80, .inl ux)), (bT, .inl (cyI, 42, .inl uo))] H := hP
        have hD : va_D (fun q : Nat => s.heap.size ≤ q) [(aM, .inr (6, [.ref aS, .ref aH, .ref aL, .ref aP, .ref aR, .ref aT])), (aS, .inr (3, [.ref aC])), (aC, .inl (cyI, 225, .inl vc)), (aH, .inr (0, [.ref aHs, .int vhf, .int vhl])), (aHs, .inl (cyI, 1575, .inl vhs)), (aL, .inr (4, [.ref aLs, .int vsf])), (aLs, .inl (cyI, 450, .inl vss)), (aP, .inr (1, [.ref aPc, .int vpl])), (aPc, .inl (cyI, 80, .inl vpp)), (aR, .inr (2, [.ref aP, .ref aRn, .int vra, .int vrk, .int vrt])), (aRn, .inl (cyI, 40, .inl vrn)), (aT, .inr (5, [.ref aTp, .int vtl_646, .int vta, .int vtt])), (aTp, .inl (cyI, 552, .inl vtp_646)), (bM, .inr (7, [.ref bN, .ref bQ, .int us, .ref bS, .ref bH, .ref bP, .int up, .int ue, .int ut, .ref bT, .int um])), (bN, .inl (cyI, 225, .inl un)), (bQ, .inl (cyI, 1350, .inl uq)), (bS, .inl (cyI, 450, .inl ul)), (bH, .inl (cyZ, 2, .inl uh)), (bP, .inl (cyI, 80, .inl ux)), (bT, .inl (cyI, 42, .inl uo))] := hD
        refine lv_aload_n hx hb dL_law_649 rfl (lv_at hl 2 rfl) ?_
        refine lv_aload_n hx hb dL_law_650 rfl (lv_at hl 0 rfl) ?_
        refine lv_iload_n hx hb dL_law_651 rfl (lv_at hl 3 rfl) ?_
        refine lv_iconst (v := (1 : Int32)) hx hb dL_law_652 (by decide) ?_
        refine lv_iadd hx hb dL_law_653 ?_
        obtain ⟨r654, hin, hn, hF⟩ := k_ld_ex hF
        refine va_sld hx hb hX hbl hbA hS hin dL_law_654 ?_
        refine x_nm hn ?_
        refine lv_aload_n hx hb dL_law_655 rfl (lv_at hl 0 rfl) ?_
        refine lv_iload_n hx hb dL_law_656 rfl (lv_at hl 3 rfl) ?_
        refine lv_iconst (v := (2 : Int32)) hx hb dL_law_657 (by decide) ?_
        refine lv_iadd hx hb dL_law_658 ?_
        obtain ⟨r659, hin, hn, hF⟩ := k_ld_ex hF
        refine va_sld hx hb hX hbl hbA hS hin dL_law_659 ?_
        refine x_nm hn ?_
        refine lv_aload_n hx hb dL_law_660 rfl (lv_at hl 0 rfl) ?_
        refine lv_iload_n hx hb dL_law_661 rfl (lv_at hl 3 rfl) ?_
        refine lv_iconst (v := (3 : Int32)) hx hb dL_law_662 (by decide) ?_
        refine lv_iadd hx hb dL_law_663 ?_
        obtain ⟨r664, hin, hn, hF⟩ := k_ld_ex hF
        refine va_sld hx hb hX hbl hbA hS hin dL_law_664 ?_
        refine x_nm hn ?_
        obtain ⟨r665, hC, hF⟩ := k_c1_ex hF
        refine x_VR (As := [.int r654, .int r659, .int r664]) (rest := [.int r646]) ⟨hx, hb, hml, hown, hts⟩ (c_X7_bestOffset l D cyI cyZ bM bN bQ bS bH bP bT N r654 r659 r664 us up ue ut um un hC) (cwV 3 hts gL_law_X7_bestOffset rfl rfl rfl (by decide +kernel) ⟨Nat.le_of_ble_eq_true rfl, Nat.le_of_ble_eq_true rfl⟩) hK hP hS [13, 14] rfl 13 rfl rfl rfl rfl hl.1 rfl (Nat.le_of_ble_eq_true rfl) ⟨Nat.le_of_ble_eq_true rfl, Nat.le_of_ble_eq_true rfl⟩ dL_law_665 (fun H locs hP hS => ?_)
        refine lv_icmp_eq (tgt := 877) hx hb dL_law_668 (by decide) (fun hc => ?_) (fun hc => ?_)
        · have hF := k_if_t hF hc
          exact (hG _ _ _).1 (blk_877 x3 vc vhf vhl vhs vsf vss vpl vpp vra vrk vrt vrn vtl_646 vta vtt vtp_646 us up ue ut um un uq ul uh ux uo hF _ _ _ hP hD hS (lv_sub hl [0, 1, 2, 3] rfl))
        · have hF := k_if_f hF hc
          refine lv_iconst (v := (0 : Int32)) hx hb dL_law_671 (by decide) ?_
          exact absurd (Option.some.inj hF) (by decide)
      have blk_673 : ∀ (x3 : Int32) (vc : (Nat → Int32)) (vhf : Int32) (vhl : Int32) (vhs : (Nat → Int32)) (vsf : Int32) (vss : (Nat → Int32)) (vpl : Int32) (vpp : (Nat → Int32)) (vra : Int32) (vrk : Int32) (vrt : Int32) (vrn : (Nat → Int32)) (vtl : Int32) (vta : Int32) (vtt : Int32) (vtp : (Nat → Int32)) (us : Int32) (up : Int32) (ue : Int32) (ut : Int32) (um : Int32) (un : (Nat → Int32)) (uq : (Nat → Int32)) (ul : (Nat → Int32)) (uh : (Nat → Int32)) (ux : (Nat → Int32)) (uo : (Nat → Int32)), b_L_law_673 N L xs (f_L_law_18 N L xs n_18) x3 vc vhf vhl vhs vsf vss vpl vpp vra vrk vrt vrn vtl vta vtt vtp us up ue ut um un uq ul uh ux uo = some 1 → ∀ (H : Heap) (locs : List Loc) (ls : Array Slot), va_P D vwCl [(aM, .inr (6, [.ref aS, .ref aH, .ref aL, .ref aP, .ref aR, .ref aT])), (aS, .inr (3, [.ref aC])), (aC, .inl (cyI, 225, .inl vc)), (aH, .inr (0, [.ref aHs, .int vhf, .int vhl])), (aHs, .inl (cyI, 1575, .inl vhs)), (aL, .inr (4, [.ref aLs, .int vsf])), (aLs, .inl (cyI, 450, .inl vss)), (aP, .inr (1, [.ref aPc, .int vpl])), (aPc, .inl (cyI, 80, .inl vpp)), (aR, .inr (2, [.ref aP, .ref aRn, .int vra, .int vrk, .int vrt])), (aRn, .inl (cyI, 40, .inl vrn)), (aT, .inr (5, [.ref aTp, .int vtl, .int vta, .int vtt])), (aTp, .inl (cyI, 552, .inl vtp)), (bM, .inr (7, [.ref bN, .ref bQ, .int us, .ref bS, .ref bH, .ref bP, .int up, .int ue, .int ut, .ref bT, .int um])), (bN, .inl (cyI, 225, .inl un)), (bQ, .inl (cyI, 1350, .inl uq)), (bS, .inl (cyI, 450, .inl ul)), (bH, .inl (cyZ, 2, .inl uh)), (bP, .inl (cyI, 80, .inl ux)), (bT, .inl (cyI, 42, .inl uo))] H → va_D (fun q : Nat => s.heap.size ≤ q) [(aM, .inr (6, [.ref aS, .ref aH, .ref aL, .ref aP, .ref aR, .ref aT])), (aS, .inr (3, [.ref aC])), (aC, .inl (cyI, 225, .inl vc)), (aH, .inr (0, [.ref aHs, .int vhf, .int vhl])), (aHs, .inl (cyI, 1575, .inl vhs)), (aL, .inr (4, [.ref aLs, .int vsf])), (aLs, .inl (cyI, 450, .inl vss)), (aP, .inr (1, [.ref aPc, .int vpl])), (aPc, .inl (cyI, 80, .inl vpp)), (aR, .inr (2, [.ref aP, .ref aRn, .int vra, .int vrk, .int vrt])), (aRn, .inl (cyI, 40, .inl vrn)), (aT, .inr (5, [.ref aTp, .int vtl, .int vta, .int vtt])), (aTp, .inl (cyI, 552, .inl vtp)), (bM, .inr (7, [.ref bN, .ref bQ, .int us, .ref bS, .ref bH, .ref bP, .int up, .int ue, .int ut, .ref bT, .int um])), (bN, .inl (cyI, 225, .inl un)), (bQ, .inl (cyI, 1350, .inl uq)), (bS, .inl (cyI, 450, .inl ul)), (bH, .inl (cyZ, 2, .inl uh)), (bP, .inl (cyI, 80, .inl ux)), (bT, .inl (cyI, 42, .inl uo))] → va_S (fun q : Nat => s.heap.size ≤ q) s.heap H locs → lv_has ls 4 [(0, .ref b), (1, .ref aM), (2, .ref bM), (3, .int x3)] → G H locs (F0 m 673 ls []) := by
        intro x3 vc vhf vhl vhs vsf vss vpl vpp vra vrk vrt vrn vtl vta vtt vtp us up ue ut um un uq ul uh ux uo hF H locs ls hP hD hS hl
        unfold b_L_law_673 at hF
        refine (hG _ _ _).2 ?_
        refine lv_aload_n hx hb dL_law_673 rfl (lv_at hl 1 rfl) ?_
        refine lv_aload_n hx hb dL_law_674 rfl (lv_at hl 0 rfl) ?_
        refine lv_iload_n hx hb dL_law_675 rfl (lv_at hl 3 rfl) ?_
        refine lv_iconst (v := (1 : Int32)) hx hb dL_law_676 (by decide) ?_
        refine lv_iadd hx hb dL_law_677 ?_
        obtain ⟨r678, hin, hn, hF⟩ := k_ld_ex hF
        refine va_sld hx hb hX hbl hbA hS hin dL_law_678 ?_
        refine x_nm hn ?_
        refine lv_aload_n hx hb dL_law_679 rfl (lv_at hl 0 rfl) ?_
        refine lv_iload_n hx hb dL_law_680 rfl (lv_at hl 3 rfl) ?_
        refine lv_iconst (v := (2 : Int32)) hx hb dL_law_681 (by decide) ?_
        refine lv_iadd hx hb dL_law_682 ?_
        obtain ⟨r683, hin, hn, hF⟩ := k_ld_ex hF
        refine va_sld hx hb hX hbl hbA hS hin dL_law_683 ?_
        refine x_nm hn ?_
        refine lv_aload_n hx hb dL_law_684 rfl (lv_at hl 0 rfl) ?_
        refine lv_iload_n hx hb dL_law_685 rfl (lv_at hl 3 rfl) ?_
        refine lv_iconst (v := (3 : Int32)) hx hb dL_law_686 (by decide) ?_
        refine lv_iadd hx hb dL_law_687 ?_
        obtain ⟨r688, hin, hn, hF⟩ := k_ld_ex hF
        refine va_sld hx hb hX hbl hbA hS hin dL_law_688 ?_
        refine x_nm hn ?_
        refine lv_aload_n hx hb dL_law_689 rfl (lv_at hl 0 rfl) ?_
        refine lv_iload_n hx hb dL_law_690 rfl (lv_at hl 3 rfl) ?_
        refine lv_iconst (v := (4 : Int32)) hx hb dL_law_691 (by decide) ?_
        refine lv_iadd hx hb dL_law_692 ?_
        obtain ⟨r693, hin, hn, hF⟩ := k_ld_ex hF
        refine va_sld hx hb hX hbl hbA hS hin dL_law_693 ?_
        refine x_nm hn ?_
        obtain ⟨r694, vtl_694, vta_694, vtt_694, vtp_694, hC, hF⟩ := k_c5_ex hF
        refine x_VM (As := [.int r678, .int r683, .int r688, .int r693]) (rest := []) ⟨hx, hb, hml, hown, hts⟩ (c_X6_thickest l D cyI cyZ aM aS aC aH aL aP aR aT aTp H.size N r678 r683 r688 r693 vc vtl vta vtt vtp hC) (cwV 4 hts gL_law_X6_thickest rfl rfl rfl (by decide +kernel) ⟨Nat.le_of_ble_eq_true rfl, Nat.le_of_ble_eq_true rfl⟩) hK hP hD hS hA [0, 1, 2, 11, 12] rfl rfl rfl 0 rfl rfl rfl rfl hl.1 rfl (Nat.le_of_ble_eq_true rfl) ⟨Nat.le_of_ble_eq_true rfl, Nat.le_of_ble_eq_true rfl⟩ dL_law_694 (fun H locs hP hD hS => ?_)
        have hP : va_P D vwCl [(aM, .inr (6, [.ref aS, .ref aH, .ref aL, .ref aP, .ref aR, .ref aT])), (aS, .inr (3, [.ref aC])), (aC, .inl (cyI, 225, .inl vc)), (aH, .inr (0, [.ref aHs, .int vhf, .int vhl])), (aHs, .inl (cyI, 1575, .inl vhs)), (aL, .inr (4, [.ref aLs, .int vsf])), (aLs, .inl (cyI, 450, .inl vss)), (aP, .inr (1, [.ref aPc, .int vpl])), (aPc, .inl (cyI, 80, .inl vpp)), (aR, .inr (2, [.ref aP, .ref aRn, .int vra, .int vrk, .int vrt])), (aRn, .inl (cyI, 40, .inl vrn)), (aT, .inr (5, [.ref aTp, .int vtl_694, .int vta_694, .int vtt_694])), (aTp, .inl (cyI, 552, .inl vtp_694)), (bM, .inr (7, [.ref bN, .ref bQ, .int us, .ref bS, .ref bH, .ref bP, .int up, .int ue, .int ut, .ref bT, .int um])), (bN, .inl (cyI, 225, .inl un)), (bQ, .inl (cyI, 1350, .inl uq)), (bS, .inl (cyI, 450, .inl ul)), (bH, .inl (cyZ, 2, .inl uh)), (bP, .inl (cyI, 80, .inl ux)), (bT, .inl (cyI, 42, .inl uo))] H := hP
        have hD : va_D (fun q : Nat => s.heap.size ≤ q) [(aM, .inr (6, [.ref aS, .ref aH, .ref aL, .ref aP, .ref aR, .ref aT])), (aS, .inr (3, [.ref aC])), (aC, .inl (cyI, 225, .inl vc)), (aH, .inr (0, [.ref aHs, .int vhf, .int vhl])), (aHs, .inl (cyI, 1575, .inl vhs)), (aL, .inr (4, [.ref aLs, .int vsf])), (aLs, .inl (cyI, 450, .inl vss)), (aP, .inr (1, [.ref aPc, .int vpl])), (aPc, .inl (cyI, 80, .inl vpp)), (aR, .inr (2, [.ref aP, .ref aRn, .int vra, .int vrk, .int vrt])), (aRn, .inl (cyI, 40, .inl vrn)), (aT, .inr (5, [.ref aTp, .int vtl_694, .int vta_694, .int vtt_694])), (aTp, .inl (cyI, 552, .inl vtp_694)), (bM, .inr (7, [.ref bN, .ref bQ, .int us, .ref bS, .ref bH, .ref bP, .int up, .int ue, .int ut, .ref bT, .int um])), (bN, .inl (cyI, 225, .inl un)), (bQ, .inl (cyI, 1350, .inl uq)), (bS, .inl (cyI, 450, .inl ul)), (bH, .inl (cyZ, 2, .inl uh)), (bP, .inl (cyI, 80, .inl ux)), (bT, .inl (cyI, 42, .inl uo))] := hD
        refine lv_aload_n hx hb dL_law_697 rfl (lv_at hl 2 rfl) ?_
        refine lv_aload_n hx hb dL_law_698 rfl (lv_at hl 0 rfl) ?_
        refine lv_iload_n hx hb dL_law_699 rfl (lv_at hl 3 rfl) ?_
        refine lv_iconst (v := (1 : Int32)) hx hb dL_law_700 (by decide) ?_
        refine lv_iadd hx hb dL_law_701 ?_
        obtain ⟨r702, hin, hn, hF⟩ := k_ld_ex hF
        refine va_sld hx hb hX hbl hbA hS hin dL_law_702 ?_
        refine x_nm hn ?_
        refine lv_aload_n hx hb dL_law_703 rfl (lv_at hl 0 rfl) ?_
        refine lv_iload_n hx hb dL_law_704 rfl (lv_at hl 3 rfl) ?_
        refine lv_iconst (v := (2 : Int32)) hx hb dL_law_705 (by decide) ?_
        refine lv_iadd hx hb dL_law_706 ?_
        obtain ⟨r707, hin, hn, hF⟩ := k_ld_ex hF
        refine va_sld hx hb hX hbl hbA hS hin dL_law_707 ?_
        refine x_nm hn ?_
        refine lv_aload_n hx hb dL_law_708 rfl (lv_at hl 0 rfl) ?_
        refine lv_iload_n hx hb dL_law_709 rfl (lv_at hl 3 rfl) ?_
        refine lv_iconst (v := (3 : Int32)) hx hb dL_law_710 (by decide) ?_
        refine lv_iadd hx hb dL_law_711 ?_
        obtain ⟨r712, hin, hn, hF⟩ := k_ld_ex hF
        refine va_sld hx hb hX hbl hbA hS hin dL_law_712 ?_
        refine x_nm hn ?_
        refine lv_aload_n hx hb dL_law_713 rfl (lv_at hl 0 rfl) ?_
        refine lv_iload_n hx hb dL_law_714 rfl (lv_at hl 3 rfl) ?_
        refine lv_iconst (v := (4 : Int32)) hx hb dL_law_715 (by decide) ?_
        refine lv_iadd hx hb dL_law_716 ?_
        obtain ⟨r717, hin, hn, hF⟩ := k_ld_ex hF
        refine va_sld hx hb hX hbl hbA hS hin dL_law_717 ?_
        refine x_nm hn ?_
        obtain ⟨r718, ue_718, hC, hF⟩ := k_c2_ex hF
        refine x_VM (As := [.int r702, .int r707, .int r712, .int r717]) (rest := [.int r694]) ⟨hx, hb, hml, hown, hts⟩ (c_X7_thickest l D cyI cyZ bM bN bQ bS bH bP bT H.size N r702 r707 r712 r717 us up ue ut um un hC) (cwV 4 hts gL_law_X7_thickest rfl rfl rfl (by decide +kernel) ⟨Nat.le_of_ble_eq_true rfl, Nat.le_of_ble_eq_true rfl⟩) hK hP hD hS hA [13, 14] rfl rfl rfl 13 rfl rfl rfl rfl hl.1 rfl (Nat.le_of_ble_eq_true rfl) ⟨Nat.le_of_ble_eq_true rfl, Nat.le_of_ble_eq_true rfl⟩ dL_law_718 (fun H locs hP hD hS => ?_)
        have hP : va_P D vwCl [(aM, .inr (6, [.ref aS, .ref aH, .ref aL, .ref aP, .ref aR, .ref aT])), (aS, .inr (3, [.ref aC])), (aC, .inl (cyI, 225, .inl vc)), (aH, .inr (0, [.ref aHs, .int vhf, .int vhl])), (aHs, .inl (cyI, 1575, .inl vhs)), (aL, .inr (4, [.ref aLs, .int vsf])), (aLs, .inl (cyI, 450, .inl vss)), (aP, .inr (1, [.ref aPc, .int vpl])), (aPc, .inl (cyI, 80, .inl vpp)), (aR, .inr (2, [.ref aP, .ref aRn, .int vra, .int vrk, .int vrt])), (aRn, .inl (cyI, 40, .inl vrn)), (aT, .inr (5, [.ref aTp, .int vtl_694, .int vta_694, .int vtt_694])), (aTp, .inl (cyI, 552, .inl vtp_694)), (bM, .inr (7, [.ref bN, .ref bQ, .int us, .ref bS, .ref bH, .ref bP, .int up, .int ue_718, .int ut, .ref bT, .int um])), (bN, .inl (cyI, 225, .inl un)), (bQ, .inl (cyI, 1350, .inl uq)), (bS, .inl (cyI, 450, .inl ul)), (bH, .inl (cyZ, 2, .inl uh)), (bP, .inl (cyI, 80, .inl ux)), (bT, .inl (cyI, 42, .inl uo))] H := hP
        have hD : va_D (fun q : Nat => s.heap.size ≤ q) [(aM, .inr (6, [.ref aS, .ref aH, .ref aL, .ref aP, .ref aR, .ref aT])), (aS, .inr (3, [.ref aC])), (aC, .inl (cyI, 225, .inl vc)), (aH, .inr (0, [.ref aHs, .int vhf, .int vhl])), (aHs, .inl (cyI, 1575, .inl vhs)), (aL, .inr (4, [.ref aLs, .int vsf])), (aLs, .inl (cyI, 450, .inl vss)), (aP, .inr (1, [.ref aPc, .int vpl])), (aPc, .inl (cyI, 80, .inl vpp)), (aR, .inr (2, [.ref aP, .ref aRn, .int vra, .int vrk, .int vrt])), (aRn, .inl (cyI, 40, .inl vrn)), (aT, .inr (5, [.ref aTp, .int vtl_694, .int vta_694, .int vtt_694])), (aTp, .inl (cyI, 552, .inl vtp_694)), (bM, .inr (7, [.ref bN, .ref bQ, .int us, .ref bS, .ref bH, .ref bP, .int up, .int ue_718, .int ut, .ref bT, .int um])), (bN, .inl (cyI, 225, .inl un)), (bQ, .inl (cyI, 1350, .inl uq)), (bS, .inl (cyI, 450, .inl ul)), (bH, .inl (cyZ, 2, .inl uh)), (bP, .inl (cyI, 80, .inl ux)), (bT, .inl (cyI, 42, .inl uo))] := hD
        refine lv_icmp_eq (tgt := 877) hx hb dL_law_721 (by decide) (fun hc => ?_) (fun hc => ?_)
        · have hF := k_if_t hF hc
          exact (hG _ _ _).1 (blk_877 x3 vc vhf vhl vhs vsf vss vpl vpp vra vrk vrt vrn vtl_694 vta_694 vtt_694 vtp_694 us up ue_718 ut um un uq ul uh ux uo hF _ _ _ hP hD hS (lv_sub hl [0, 1, 2, 3] rfl))
        · have hF := k_if_f hF hc
          refine lv_iconst (v := (0 : Int32)) hx hb dL_law_724 (by decide) ?_
          exact absurd (Option.some.inj hF) (by decide)
      have blk_726 : ∀ (x3 : Int32) (vc : (Nat → Int32)) (vhf : Int32) (vhl : Int32) (vhs : (Nat → Int32)) (vsf : Int32) (vss : (Nat → Int32)) (vpl : Int32) (vpp : (Nat → Int32)) (vra : Int32) (vrk : Int32) (vrt : Int32) (vrn : (Nat → Int32)) (vtl : Int32) (vta : Int32) (vtt : Int32) (vtp : (Nat → Int32)) (us : Int32) (up : Int32) (ue : Int32) (ut : Int32) (um : Int32) (un : (Nat → Int32)) (uq : (Nat → Int32)) (ul : (Nat → Int32)) (uh : (Nat → Int32)) (ux : (Nat → Int32)) (uo : (Nat → Int32)), b_L_law_726 N L xs (f_L_law_18 N L xs n_18) x3 vc vhf vhl vhs vsf vss vpl vpp vra vrk vrt vrn vtl vta vtt vtp us up ue ut um un uq ul uh ux uo = some 1 → ∀ (H : Heap) (locs : List Loc) (ls : Array Slot), va_P D vwCl [(aM, .inr (6, [.ref aS, .ref aH, .ref aL, .ref aP, .ref aR, .ref aT])), (aS, .inr (3, [.ref aC])), (aC, .inl (cyI, 225, .inl vc)), (aH, .inr (0, [.ref aHs, .int vhf, .int vhl])), (aHs, .inl (cyI, 1575, .inl vhs)), (aL, .inr (4, [.ref aLs, .int vsf])), (aLs, .inl (cyI, 450, .inl vss)), (aP, .inr (1, [.ref aPc, .int vpl])), (aPc, .inl (cyI, 80, .inl vpp)), (aR, .inr (2, [.ref aP, .ref aRn, .int vra, .int vrk, .int vrt])), (aRn, .inl (cyI, 40, .inl vrn)), (aT, .inr (5, [.ref aTp, .int vtl, .int vta, .int vtt])), (aTp, .inl (cyI, 552, .inl vtp)), (bM, .inr (7, [.ref bN, .ref bQ, .int us, .ref bS, .ref bH, .ref bP, .int up, .int ue, .int ut, .ref bT, .int um])), (bN, .inl (cyI, 225, .inl un)), (bQ, .inl (cyI, 1350, .inl uq)), (bS, .inl (cyI, 450, .inl ul)), (bH, .inl (cyZ, 2, .inl uh)), (bP, .inl (cyI, 80, .inl ux)), (bT, .inl (cyI, 42, .inl uo))] H → va_D (fun q : Nat => s.heap.size ≤ q) [(aM, .inr (6, [.ref aS, .ref aH, .ref aL, .ref aP, .ref aR, .ref aT])), (aS, .inr (3, [.ref aC])), (aC, .inl (cyI, 225, .inl vc)), (aH, .inr (0, [.ref aHs, .int vhf, .int vhl])), (aHs, .inl (cyI, 1575, .inl vhs)), (aL, .inr (4, [.ref aLs, .int vsf])), (aLs, .inl (cyI, 450, .inl vss)), (aP, .inr (1, [.ref aPc, .int vpl])), (aPc, .inl (cyI, 80, .inl vpp)), (aR, .inr (2, [.ref aP, .ref aRn, .int vra, .int vrk, .int vrt])), (aRn, .inl (cyI, 40, .inl vrn)), (aT, .inr (5, [.ref aTp, .int vtl, .int vta, .int vtt])), (aTp, .inl (cyI, 552, .inl vtp)), (bM, .inr (7, [.ref bN, .ref bQ, .int us, .ref bS, .ref bH, .ref bP, .int up, .int ue, .int ut, .ref bT, .int um])), (bN, .inl (cyI, 225, .inl un)), (bQ, .inl (cyI, 1350, .inl uq)), (bS, .inl (cyI, 450, .inl ul)), (bH, .inl (cyZ, 2, .inl uh)), (bP, .inl (cyI, 80, .inl ux)), (bT, .inl (cyI, 42, .inl uo))] → va_S (fun q : Nat => s.heap.size ≤ q) s.heap H locs → lv_has ls 4 [(0, .ref b), (1, .ref aM), (2, .ref bM), (3, .int x3)] → G H locs (F0 m 726 ls []) := by
        intro x3 vc vhf vhl vhs vsf vss vpl vpp vra vrk vrt vrn vtl vta vtt vtp us up ue ut um un uq ul uh ux uo hF H locs ls hP hD hS hl
        unfold b_L_law_726 at hF
        refine (hG _ _ _).2 ?_
        refine lv_aload_n hx hb dL_law_726 rfl (lv_at hl 1 rfl) ?_
        refine lv_aload_n hx hb dL_law_727 rfl (lv_at hl 0 rfl) ?_
        refine lv_iload_n hx hb dL_law_728 rfl (lv_at hl 3 rfl) ?_
        refine lv_iconst (v := (1 : Int32)) hx hb dL_law_729 (by decide) ?_
        refine lv_iadd hx hb dL_law_730 ?_
        obtain ⟨r731, hin, hn, hF⟩ := k_ld_ex hF
        refine va_sld hx hb hX hbl hbA hS hin dL_law_731 ?_
        refine x_nm hn ?_
        refine lv_i2l (v := r731.toInt64) hx hb dL_law_732 rfl ?_
        refine lv_bipush (v := (32 : Int32)) hx hb dL_law_733 (by decide) ?_
        refine lv_lshl (v := ((r731.toInt64) <<< ((32 : Int32).toInt64 &&& 63))) hx hb dL_law_735 rfl ?_
        refine lv_aload_n hx hb dL_law_736 rfl (lv_at hl 0 rfl) ?_
        refine lv_iload_n hx hb dL_law_737 rfl (lv_at hl 3 rfl) ?_
        refine lv_iconst (v := (2 : Int32)) hx hb dL_law_738 (by decide) ?_
        refine lv_iadd hx hb dL_law_739 ?_
        obtain ⟨r740, hin, hn, hF⟩ := k_ld_ex hF
        refine va_sld hx hb hX hbl hbA hS hin dL_law_740 ?_
        refine x_nm hn ?_
        refine lv_i2l (v := r740.toInt64) hx hb dL_law_741 rfl ?_
        refine lv_ldc2 (v := (4294967295 : Int64)) hx hb hown (hts _ mm_L_law_6) dL_law_742 ?_
        refine lv_land hx hb dL_law_745 ?_
        refine lv_lor hx hb dL_law_746 ?_
        obtain ⟨r747, vpl_747, vpp_747, hC, hF⟩ := k_c3_ex hF
        refine x_VM (As := [.long (((r731.toInt64) <<< ((32 : Int32).toInt64 &&& 63)) ||| ((r740.toInt64) &&& (4294967295 : Int64)))]) (rest := []) ⟨hx, hb, hml, hown, hts⟩ (c_X6_put l D cyI cyZ aM aS aH aL aP aPc aR aT H.size N (((r731.toInt64) <<< ((32 : Int32).toInt64 &&& 63)) ||| ((r740.toInt64) &&& (4294967295 : Int64))) vpl vpp hC) (cwV 1 hts gL_law_X6_put rfl rfl rfl (by decide +kernel) ⟨Nat.le_of_ble_eq_true rfl, Nat.le_of_ble_eq_true rfl⟩) hK hP hD hS hA [0, 7, 8] rfl rfl rfl 0 rfl rfl rfl rfl hl.1 rfl (Nat.le_of_ble_eq_true rfl) ⟨Nat.le_of_ble_eq_true rfl, Nat.le_of_ble_eq_true rfl⟩ dL_law_747 (fun H locs hP hD hS => ?_)
        have hP : va_P D vwCl [(aM, .inr (6, [.ref aS, .ref aH, .ref aL, .ref aP, .ref aR, .ref aT])), (aS, .inr (3, [.ref aC])), (aC, .inl (cyI, 225, .inl vc)), (aH, .inr (0, [.ref aHs, .int vhf, .int vhl])), (aHs, .inl (cyI, 1575, .inl vhs)), (aL, .inr (4, [.ref aLs, .int vsf])), (aLs, .inl (cyI, 450, .inl vss)), (aP, .inr (1, [.ref aPc, .int vpl_747])), (aPc, .inl (cyI, 80, .inl vpp_747)), (aR, .inr (2, [.ref aP, .ref aRn, .int vra, .int vrk, .int vrt])), (aRn, .inl (cyI, 40, .inl vrn)), (aT, .inr (5, [.ref aTp, .int vtl, .int vta, .int vtt])), (aTp, .inl (cyI, 552, .inl vtp)), (bM, .inr (7, [.ref bN, .ref bQ, .int us, .ref bS, .ref bH, .ref bP, .int up, .int ue, .int ut, .ref bT, .int um])), (bN, .inl (cyI, 225, .inl un)), (bQ, .inl (cyI, 1350, .inl uq)), (bS, .inl (cyI, 450, .inl ul)), (bH, .inl (cyZ, 2, .inl uh)), (bP, .inl (cyI, 80, .inl ux)), (bT, .inl (cyI, 42, .inl uo))] H := hP
        have hD : va_D (fun q : Nat => s.heap.size ≤ q) [(aM, .inr (6, [.ref aS, .ref aH, .ref aL, .ref aP, .ref aR, .ref aT])), (aS, .inr (3, [.ref aC])), (aC, .inl (cyI, 225, .inl vc)), (aH, .inr (0, [.ref aHs, .int vhf, .int vhl])), (aHs, .inl (cyI, 1575, .inl vhs)), (aL, .inr (4, [.ref aLs, .int vsf])), (aLs, .inl (cyI, 450, .inl vss)), (aP, .inr (1, [.ref aPc, .int vpl_747])), (aPc, .inl (cyI, 80, .inl vpp_747)), (aR, .inr (2, [.ref aP, .ref aRn, .int vra, .int vrk, .int vrt])), (aRn, .inl (cyI, 40, .inl vrn)), (aT, .inr (5, [.ref aTp, .int vtl, .int vta, .int vtt])), (aTp, .inl (cyI, 552, .inl vtp)), (bM, .inr (7, [.ref bN, .ref bQ, .int us, .ref bS, .ref bH, .ref bP, .int up, .int ue, .int ut, .ref bT, .int um])), (bN, .inl (cyI, 225, .inl un)), (bQ, .inl (cyI, 1350, .inl uq)), (bS, .inl (cyI, 450, .inl ul)), (bH, .inl (cyZ, 2, .inl uh)), (bP, .inl (cyI, 80, .inl ux)), (bT, .inl (cyI, 42, .inl uo))] := hD
        refine lv_aload_n hx hb dL_law_750 rfl (lv_at hl 2 rfl) ?_
        refine lv_aload_n hx hb dL_law_751 rfl (lv_at hl 0 rfl) ?_
        refine lv_iload_n hx hb dL_law_752 rfl (lv_at hl 3 rfl) ?_
        refine lv_iconst (v := (1 : Int32)) hx hb dL_law_753 (by decide) ?_
        refine lv_iadd hx hb dL_law_754 ?_
        obtain ⟨r755, hin, hn, hF⟩ := k_ld_ex hF
        refine va_sld hx hb hX hbl hbA hS hin dL_law_755 ?_
        refine x_nm hn ?_
        refine lv_i2l (v := r755.toInt64) hx hb dL_law_756 rfl ?_
        refine lv_bipush (v := (32 : Int32)) hx hb dL_law_757 (by decide) ?_
        refine lv_lshl (v := ((r755.toInt64) <<< ((32 : Int32).toInt64 &&& 63))) hx hb dL_law_759 rfl ?_
        refine lv_aload_n hx hb dL_law_760 rfl (lv_at hl 0 rfl) ?_
        refine lv_iload_n hx hb dL_law_761 rfl (lv_at hl 3 rfl) ?_
        refine lv_iconst (v := (2 : Int32)) hx hb dL_law_762 (by decide) ?_
        refine lv_iadd hx hb dL_law_763 ?_
        obtain ⟨r764, hin, hn, hF⟩ := k_ld_ex hF
        refine va_sld hx hb hX hbl hbA hS hin dL_law_764 ?_
        refine x_nm hn ?_
        refine lv_i2l (v := r764.toInt64) hx hb dL_law_765 rfl ?_
        refine lv_ldc2 (v := (4294967295 : Int64)) hx hb hown (hts _ mm_L_law_6) dL_law_766 ?_
        refine lv_land hx hb dL_law_769 ?_
        refine lv_lor hx hb dL_law_770 ?_
        obtain ⟨r771, up_771, ux_771, hC, hF⟩ := k_c3_ex hF
        refine x_VM (As := [.long (((r755.toInt64) <<< ((32 : Int32).toInt64 &&& 63)) ||| ((r764.toInt64) &&& (4294967295 : Int64)))]) (rest := [.int r747]) ⟨hx, hb, hml, hown, hts⟩ (c_X7_put l D cyI cyZ bM bN bQ bS bH bP bT H.size N (((r755.toInt64) <<< ((32 : Int32).toInt64 &&& 63)) ||| ((r764.toInt64) &&& (4294967295 : Int64))) us up ue ut um ux hC) (cwV 1 hts gL_law_X7_put rfl rfl rfl (by decide +kernel) ⟨Nat.le_of_ble_eq_true rfl, Nat.le_of_ble_eq_true rfl⟩) hK hP hD hS hA [13, 18] rfl rfl rfl 13 rfl rfl rfl rfl hl.1 rfl (Nat.le_of_ble_eq_true rfl) ⟨Nat.le_of_ble_eq_true rfl, Nat.le_of_ble_eq_true rfl⟩ dL_law_771 (fun H locs hP hD hS => ?_)
        have hP : va_P D vwCl [(aM, .inr (6, [.ref aS, .ref aH, .ref aL, .ref aP, .ref aR, .ref aT])), (aS, .inr (3, [.ref aC])), (aC, .inl (cyI, 225, .inl vc)), (aH, .inr (0, [.ref aHs, .int vhf, .int vhl])), (aHs, .inl (cyI, 1575, .inl vhs)), (aL, .inr (4, [.ref aLs, .int vsf])), (aLs, .inl (cyI, 450, .inl vss)), (aP, .inr (1, [.ref aPc, .int vpl_747])), (aPc, .inl (cyI, 80, .inl vpp_747)), (aR, .inr (2, [.ref aP, .ref aRn, .int vra, .int vrk, .int vrt])), (aRn, .inl (cyI, 40, .inl vrn)), (aT, .inr (5, [.ref aTp, .int vtl, .int vta, .int vtt])), (aTp, .inl (cyI, 552, .inl vtp)), (bM, .inr (7, [.ref bN, .ref bQ, .int us, .ref bS, .ref bH, .ref bP, .int up_771, .int ue, .int ut, .ref bT, .int um])), (bN, .inl (cyI, 225, .inl un)), (bQ, .inl (cyI, 1350, .inl uq)), (bS, .inl (cyI, 450, .inl ul)), (bH, .inl (cyZ, 2, .inl uh)), (bP, .inl (cyI, 80, .inl ux_771)), (bT, .inl (cyI, 42, .inl uo))] H := hP
        have hD : va_D (fun q : Nat => s.heap.size ≤ q) [(aM, .inr (6, [.ref aS, .ref aH, .ref aL, .ref aP, .ref aR, .ref aT])), (aS, .inr (3, [.ref aC])), (aC, .inl (cyI, 225, .inl vc)), (aH, .inr (0, [.ref aHs, .int vhf, .int vhl])), (aHs, .inl (cyI, 1575, .inl vhs)), (aL, .inr (4, [.ref aLs, .int vsf])), (aLs, .inl (cyI, 450, .inl vss)), (aP, .inr (1, [.ref aPc, .int vpl_747])), (aPc, .inl (cyI, 80, .inl vpp_747)), (aR, .inr (2, [.ref aP, .ref aRn, .int vra, .int vrk, .int vrt])), (aRn, .inl (cyI, 40, .inl vrn)), (aT, .inr (5, [.ref aTp, .int vtl, .int vta, .int vtt])), (aTp, .inl (cyI, 552, .inl vtp)), (bM, .inr (7, [.ref bN, .ref bQ, .int us, .ref bS, .ref bH, .ref bP, .int up_771, .int ue, .int ut, .ref bT, .int um])), (bN, .inl (cyI, 225, .inl un)), (bQ, .inl (cyI, 1350, .inl uq)), (bS, .inl (cyI, 450, .inl ul)), (bH, .inl (cyZ, 2, .inl uh)), (bP, .inl (cyI, 80, .inl ux_771)), (bT, .inl (cyI, 42, .inl uo))] := hD
        refine lv_icmp_eq (tgt := 877) hx hb dL_law_774 (by decide) (fun hc => ?_) (fun hc => ?_)
        · have hF := k_if_t hF hc
          exact (hG _ _ _).1 (blk_877 x3 vc vhf vhl vhs vsf vss vpl_747 vpp_747 vra vrk vrt vrn vtl vta vtt vtp us up_771 ue ut um un uq ul uh ux_771 uo hF _ _ _ hP hD hS (lv_sub hl [0, 1, 2, 3] rfl))
        · have hF := k_if_f hF hc
          refine lv_iconst (v := (0 : Int32)) hx hb dL_law_777 (by decide) ?_
          exact absurd (Option.some.inj hF) (by decide)
      have blk_779 : ∀ (x3 : Int32) (vc : (Nat → Int32)) (vhf : Int32) (vhl : Int32) (vhs : (Nat → Int32)) (vsf : Int32) (vss : (Nat → Int32)) (vpl : Int32) (vpp : (Nat → Int32)) (vra : Int32) (vrk : Int32) (vrt : Int32) (vrn : (Nat → Int32)) (vtl : Int32) (vta : Int32) (vtt : Int32) (vtp : (Nat → Int32)) (us : Int32) (up : Int32) (ue : Int32) (ut : Int32) (um : Int32) (un : (Nat → Int32)) (uq : (Nat → Int32)) (ul : (Nat → Int32)) (uh : (Nat → Int32)) (ux : (Nat → Int32)) (uo : (Nat → Int32)), b_L_law_779 N L xs (f_L_law_18 N L xs n_18) x3 vc vhf vhl vhs vsf vss vpl vpp vra vrk vrt vrn vtl vta vtt vtp us up ue ut um un uq ul uh ux uo = some 1 → ∀ (H : Heap) (locs : List Loc) (ls : Array Slot), va_P D vwCl [(aM, .inr (6, [.ref aS, .ref aH, .ref aL, .ref aP, .ref aR, .ref aT])), (aS, .inr (3, [.ref aC])), (aC, .inl (cyI, 225, .inl vc)), (aH, .inr (0, [.ref aHs, .int vhf, .int vhl])), (aHs, .inl (cyI, 1575, .inl vhs)), (aL, .inr (4, [.ref aLs, .int vsf])), (aLs, .inl (cyI, 450, .inl vss)), (aP, .inr (1, [.ref aPc, .int vpl])), (aPc, .inl (cyI, 80, .inl vpp)), (aR, .inr (2, [.ref aP, .ref aRn, .int vra, .int vrk, .int vrt])), (aRn, .inl (cyI, 40, .inl vrn)), (aT, .inr (5, [.ref aTp, .int vtl, .int vta, .int vtt])), (aTp, .inl (cyI, 552, .inl vtp)), (bM, .inr (7, [.ref bN, .ref bQ, .int us, .ref bS, .ref bH, .ref bP, .int up, .int ue, .int ut, .ref bT, .int um])), (bN, .inl (cyI, 225, .inl un)), (bQ, .inl (cyI, 1350, .inl uq)), (bS, .inl (cyI, 450, .inl ul)), (bH, .inl (cyZ, 2, .inl uh)), (bP, .inl (cyI, 80, .inl ux)), (bT, .inl (cyI, 42, .inl uo))] H → va_D (fun q : Nat => s.heap.size ≤ q) [(aM, .inr (6, [.ref aS, .ref aH, .ref aL, .ref aP, .ref aR, .ref aT])), (aS, .inr (3, [.ref aC])), (aC, .inl (cyI, 225, .inl vc)), (aH, .inr (0, [.ref aHs, .int vhf, .int vhl])), (aHs, .inl (cyI, 1575, .inl vhs)), (aL, .inr (4, [.ref aLs, .int vsf])), (aLs, .inl (cyI, 450, .inl vss)), (aP, .inr (1, [.ref aPc, .int vpl])), (aPc, .inl (cyI, 80, .inl vpp)), (aR, .inr (2, [.ref aP, .ref aRn, .int vra, .int vrk, .int vrt])), (aRn, .inl (cyI, 40, .inl vrn)), (aT, .inr (5, [.ref aTp, .int vtl, .int vta, .int vtt])), (aTp, .inl (cyI, 552, .inl vtp)), (bM, .inr (7, [.ref bN, .ref bQ, .int us, .ref bS, .ref bH, .ref bP, .int up, .int ue, .int ut, .ref bT, .int um])), (bN, .inl (cyI, 225, .inl un)), (bQ, .inl (cyI, 1350, .inl uq)), (bS, .inl (cyI, 450, .inl ul)), (bH, .inl (cyZ, 2, .inl uh)), (bP, .inl (cyI, 80, .inl ux)), (bT, .inl (cyI, 42, .inl uo))] → va_S (fun q : Nat => s.heap.size ≤ q) s.heap H locs → lv_has ls 4 [(0, .ref b), (1, .ref aM), (2, .ref bM), (3, .int x3)] → G H locs (F0 m 779 ls []) := by
        intro x3 vc vhf vhl vhs vsf vss vpl vpp vra vrk vrt vrn vtl vta vtt vtp us up ue ut um un uq ul uh ux uo hF H locs ls hP hD hS hl
        unfold b_L_law_779 at hF
        refine (hG _ _ _).2 ?_
        refine lv_aload_n hx hb dL_law_779 rfl (lv_at hl 1 rfl) ?_
        obtain ⟨r780, vpl_780, hC, hF⟩ := k_c2_ex hF
        refine x_VM (As := []) (rest := []) ⟨hx, hb, hml, hown, hts⟩ (c_X6_wipe l D cyI cyZ aM aS aH aL aP aPc aR aT H.size N vpl hC) (cwV 0 hts gL_law_X6_wipe rfl rfl rfl (by decide +kernel) ⟨Nat.le_of_ble_eq_true rfl, Nat.le_of_ble_eq_true rfl⟩) hK hP hD hS hA [0, 7] rfl rfl rfl 0 rfl rfl rfl rfl hl.1 rfl (Nat.le_of_ble_eq_true rfl) ⟨Nat.le_of_ble_eq_true rfl, Nat.le_of_ble_eq_true rfl⟩ dL_law_780 (fun H locs hP hD hS => ?_)
        have hP : va_P D vwCl [(aM, .inr (6, [.ref aS, .ref aH, .ref aL, .ref aP, .ref aR, .ref aT])), (aS, .inr (3, [.ref aC])), (aC, .inl (cyI, 225, .inl vc)), (aH, .inr (0, [.ref aHs, .int vhf, .int vhl])), (aHs, .inl (cyI, 1575, .inl vhs)), (aL, .inr (4, [.ref aLs, .int vsf])), (aLs, .inl (cyI, 450, .inl vss)), (aP, .inr (1, [.ref aPc, .int vpl_780])), (aPc, .inl (cyI, 80, .inl vpp)), (aR, .inr (2, [.ref aP, .ref aRn, .int vra, .int vrk, .int vrt])), (aRn, .inl (cyI, 40, .inl vrn)), (aT, .inr (5, [.ref aTp, .int vtl, .int vta, .int vtt])), (aTp, .inl (cyI, 552, .inl vtp)), (bM, .inr (7, [.ref bN, .ref bQ, .int us, .ref bS, .ref bH, .ref bP, .int up, .int ue, .int ut, .ref bT, .int um])), (bN, .inl (cyI, 225, .inl un)), (bQ, .inl (cyI, 1350, .inl uq)), (bS, .inl (cyI, 450, .inl ul)), (bH, .inl (cyZ, 2, .inl uh)), (bP, .inl (cyI, 80, .inl ux)), (bT, .inl (cyI, 42, .inl uo))] H := hP
        have hD : va_D (fun q : Nat => s.heap.size ≤ q) [(aM, .inr (6, [.ref aS, .ref aH, .ref aL, .ref aP, .ref aR, .ref aT])), (aS, .inr (3, [.ref aC])), (aC, .inl (cyI, 225, .inl vc)), (aH, .inr (0, [.ref aHs, .int vhf, .int vhl])), (aHs, .inl (cyI, 1575, .inl vhs)), (aL, .inr (4, [.ref aLs, .int vsf])), (aLs, .inl (cyI, 450, .inl vss)), (aP, .inr (1, [.ref aPc, .int vpl_780])), (aPc, .inl (cyI, 80, .inl vpp)), (aR, .inr (2, [.ref aP, .ref aRn, .int vra, .int vrk, .int vrt])), (aRn, .inl (cyI, 40, .inl vrn)), (aT, .inr (5, [.ref aTp, .int vtl, .int vta, .int vtt])), (aTp, .inl (cyI, 552, .inl vtp)), (bM, .inr (7, [.ref bN, .ref bQ, .int us, .ref bS, .ref bH, .ref bP, .int up, .int ue, .int ut, .ref bT, .int um])), (bN, .inl (cyI, 225, .inl un)), (bQ, .inl (cyI, 1350, .inl uq)), (bS, .inl (cyI, 450, .inl ul)), (bH, .inl (cyZ, 2, .inl uh)), (bP, .inl (cyI, 80, .inl ux)), (bT, .inl (cyI, 42, .inl uo))] := hD
        refine lv_aload_n hx hb dL_law_783 rfl (lv_at hl 2 rfl) ?_
        obtain ⟨r784, up_784, hC, hF⟩ := k_c2_ex hF
        refine x_VM (As := []) (rest := [.int r780]) ⟨hx, hb, hml, hown, hts⟩ (c_X7_wipe l D cyI cyZ bM bN bQ bS bH bP bT H.size N us up ue ut um hC) (cwV 0 hts gL_law_X7_wipe rfl rfl rfl (by decide +kernel) ⟨Nat.le_of_ble_eq_true rfl, Nat.le_of_ble_eq_true rfl⟩) hK hP hD hS hA [13] rfl rfl rfl 13 rfl rfl rfl rfl hl.1 rfl (Nat.le_of_ble_eq_true rfl) ⟨Nat.le_of_ble_eq_true rfl, Nat.le_of_ble_eq_true rfl⟩ dL_law_784 (fun H locs hP hD hS => ?_)
        have hP : va_P D vwCl [(aM, .inr (6, [.ref aS, .ref aH, .ref aL, .ref aP, .ref aR, .ref aT])), (aS, .inr (3, [.ref aC])), (aC, .inl (cyI, 225, .inl vc)), (aH, .inr (0, [.ref aHs, .int vhf, .int vhl])), (aHs, .inl (cyI, 1575, .inl vhs)), (aL, .inr (4, [.ref aLs, .int vsf])), (aLs, .inl (cyI, 450, .inl vss)), (aP, .inr (1, [.ref aPc, .int vpl_780])), (aPc, .inl (cyI, 80, .inl vpp)), (aR, .inr (2, [.ref aP, .ref aRn, .int vra, .int vrk, .int vrt])), (aRn, .inl (cyI, 40, .inl vrn)), (aT, .inr (5, [.ref aTp, .int vtl, .int vta, .int vtt])), (aTp, .inl (cyI, 552, .inl vtp)), (bM, .inr (7, [.ref bN, .ref bQ, .int us, .ref bS, .ref bH, .ref bP, .int up_784, .int ue, .int ut, .ref bT, .int um])), (bN, .inl (cyI, 225, .inl un)), (bQ, .inl (cyI, 1350, .inl uq)), (bS, .inl (cyI, 450, .inl ul)), (bH, .inl (cyZ, 2, .inl uh)), (bP, .inl (cyI, 80, .inl ux)), (bT, .inl (cyI, 42, .inl uo))] H := hP
        have hD : va_D (fun q : Nat => s.heap.size ≤ q) [(aM, .inr (6, [.ref aS, .ref aH, .ref aL, .ref aP, .ref aR, .ref aT])), (aS, .inr (3, [.ref aC])), (aC, .inl (cyI, 225, .inl vc)), (aH, .inr (0, [.ref aHs, .int vhf, .int vhl])), (aHs, .inl (cyI, 1575, .inl vhs)), (aL, .inr (4, [.ref aLs, .int vsf])), (aLs, .inl (cyI, 450, .inl vss)), (aP, .inr (1, [.ref aPc, .int vpl_780])), (aPc, .inl (cyI, 80, .inl vpp)), (aR, .inr (2, [.ref aP, .ref aRn, .int vra, .int vrk, .int vrt])), (aRn, .inl (cyI, 40, .inl vrn)), (aT, .inr (5, [.ref aTp, .int vtl, .int vta, .int vtt])), (aTp, .inl (cyI, 552, .inl vtp)), (bM, .inr (7, [.ref bN, .ref bQ, .int us, .ref bS, .ref bH, .ref bP, .int up_784, .int ue, .int ut, .ref bT, .int um])), (bN, .inl (cyI, 225, .inl un)), (bQ, .inl (cyI, 1350, .inl uq)), (bS, .inl (cyI, 450, .inl ul)), (bH, .inl (cyZ, 2, .inl uh)), (bP, .inl (cyI, 80, .inl ux)), (bT, .inl (cyI, 42, .inl uo))] := hD
        refine lv_icmp_eq (tgt := 877) hx hb dL_law_787 (by decide) (fun hc => ?_) (fun hc => ?_)
        · have hF := k_if_t hF hc
          exact (hG _ _ _).1 (blk_877 x3 vc vhf vhl vhs vsf vss vpl_780 vpp vra vrk vrt vrn vtl vta vtt vtp us up_784 ue ut um un uq ul uh ux uo hF _ _ _ hP hD hS (lv_sub hl [0, 1, 2, 3] rfl))
        · have hF := k_if_f hF hc
          refine lv_iconst (v := (0 : Int32)) hx hb dL_law_790 (by decide) ?_
          exact absurd (Option.some.inj hF) (by decide)
      have blk_792 : ∀ (x3 : Int32) (vc : (Nat → Int32)) (vhf : Int32) (vhl : Int32) (vhs : (Nat → Int32)) (vsf : Int32) (vss : (Nat → Int32)) (vpl : Int32) (vpp : (Nat → Int32)) (vra : Int32) (vrk : Int32) (vrt : Int32) (vrn : (Nat → Int32)) (vtl : Int32) (vta : Int32) (vtt : Int32) (vtp : (Nat → Int32)) (us : Int32) (up : Int32) (ue : Int32) (ut : Int32) (um : Int32) (un : (Nat → Int32)) (uq : (Nat → Int32)) (ul : (Nat → Int32)) (uh : (Nat → Int32)) (ux : (Nat → Int32)) (uo : (Nat → Int32)), b_L_law_792 N L xs (f_L_law_18 N L xs n_18) x3 vc vhf vhl vhs vsf vss vpl vpp vra vrk vrt vrn vtl vta vtt vtp us up ue ut um un uq ul uh ux uo = some 1 → ∀ (H : Heap) (locs : List Loc) (ls : Array Slot), va_P D vwCl [(aM, .inr (6, [.ref aS, .ref aH, .ref aL, .ref aP, .ref aR, .ref aT])), (aS, .inr (3, [.ref aC])), (aC, .inl (cyI, 225, .inl vc)), (aH, .inr (0, [.ref aHs, .int vhf, .int vhl])), (aHs, .inl (cyI, 1575, .inl vhs)), (aL, .inr (4, [.ref aLs, .int vsf])), (aLs, .inl (cyI, 450, .inl vss)), (aP, .inr (1, [.ref aPc, .int vpl])), (aPc, .inl (cyI, 80, .inl vpp)), (aR, .inr (2, [.ref aP, .ref aRn, .int vra, .int vrk, .int vrt])), (aRn, .inl (cyI, 40, .inl vrn)), (aT, .inr (5, [.ref aTp, .int vtl, .int vta, .int vtt])), (aTp, .inl (cyI, 552, .inl vtp)), (bM, .inr (7, [.ref bN, .ref bQ, .int us, .ref bS, .ref bH, .ref bP, .int up, .int ue, .int ut, .ref bT, .int um])), (bN, .inl (cyI, 225, .inl un)), (bQ, .inl (cyI, 1350, .inl uq)), (bS, .inl (cyI, 450, .inl ul)), (bH, .inl (cyZ, 2, .inl uh)), (bP, .inl (cyI, 80, .inl ux)), (bT, .inl (cyI, 42, .inl uo))] H → va_D (fun q : Nat => s.heap.size ≤ q) [(aM, .inr (6, [.ref aS, .ref aH, .ref aL, .ref aP, .ref aR, .ref aT])), (aS, .inr (3, [.ref aC])), (aC, .inl (cyI, 225, .inl vc)), (aH, .inr (0, [.ref aHs, .int vhf, .int vhl])), (aHs, .inl (cyI, 1575, .inl vhs)), (aL, .inr (4, [.ref aLs, .int vsf])), (aLs, .inl (cyI, 450, .inl vss)), (aP, .inr (1, [.ref aPc, .int vpl])), (aPc, .inl (cyI, 80, .inl vpp)), (aR, .inr (2, [.ref aP, .ref aRn, .int vra, .int vrk, .int vrt])), (aRn, .inl (cyI, 40, .inl vrn)), (aT, .inr (5, [.ref aTp, .int vtl, .int vta, .int vtt])), (aTp, .inl (cyI, 552, .inl vtp)), (bM, .inr (7, [.ref bN, .ref bQ, .int us, .ref bS, .ref bH, .ref bP, .int up, .int ue, .int ut, .ref bT, .int um])), (bN, .inl (cyI, 225, .inl un)), (bQ, .inl (cyI, 1350, .inl uq)), (bS, .inl (cyI, 450, .inl ul)), (bH, .inl (cyZ, 2, .inl uh)), (bP, .inl (cyI, 80, .inl ux)), (bT, .inl (cyI, 42, .inl uo))] → va_S (fun q : Nat => s.heap.size ≤ q) s.heap H locs → lv_has ls 4 [(0, .ref b), (1, .ref aM), (2, .ref bM), (3, .int x3)] → G H locs (F0 m 792 ls []) := by
        intro x3 vc vhf vhl vhs vsf vss vpl vpp vra vrk vrt vrn vtl vta vtt vtp us up ue ut um un uq ul uh ux uo hF H locs ls hP hD hS hl
        unfold b_L_law_792 at hF
        refine (hG _ _ _).2 ?_
        refine lv_aload_n hx hb dL_law_792 rfl (lv_at hl 1 rfl) ?_
        obtain ⟨r793, vra_793, vrk_793, vrt_793, vrn_793, hC, hF⟩ := k_c5_ex hF
        refine x_VM (As := []) (rest := []) ⟨hx, hb, hml, hown, hts⟩ (c_X6_fault l D cyI cyZ aM aS aH aL aP aPc aR aRn aT H.size N vpl vpp vra vrk vrt vrn hC) (cwV 0 hts gL_law_X6_fault rfl rfl rfl (by decide +kernel) ⟨Nat.le_of_ble_eq_true rfl, Nat.le_of_ble_eq_true rfl⟩) hK hP hD hS hA [0, 7, 8, 9, 10] rfl rfl rfl 0 rfl rfl rfl rfl hl.1 rfl (Nat.le_of_ble_eq_true rfl) ⟨Nat.le_of_ble_eq_true rfl, Nat.le_of_ble_eq_true rfl⟩ dL_law_793 (fun H locs hP hD hS => ?_)
        have hP : va_P D vwCl [(aM, .inr (6, [.ref aS, .ref aH, .ref aL, .ref aP, .ref aR, .ref aT])), (aS, .inr (3, [.ref aC])), (aC, .inl (cyI, 225, .inl vc)), (aH, .inr (0, [.ref aHs, .int vhf, .int vhl])), (aHs, .inl (cyI, 1575, .inl vhs)), (aL, .inr (4, [.ref aLs, .int vsf])), (aLs, .inl (cyI, 450, .inl vss)), (aP, .inr (1, [.ref aPc, .int vpl])), (aPc, .inl (cyI, 80, .inl vpp)), (aR, .inr (2, [.ref aP, .ref aRn, .int vra_793, .int vrk_793, .int vrt_793])), (aRn, .inl (cyI, 40, .inl vrn_793)), (aT, .inr (5, [.ref aTp, .int vtl, .int vta, .int vtt])), (aTp, .inl (cyI, 552, .inl vtp)), (bM, .inr (7, [.ref bN, .ref bQ, .int us, .ref bS, .ref bH, .ref bP, .int up, .int ue, .int ut, .ref bT, .int um])), (bN, .inl (cyI, 225, .inl un)), (bQ, .inl (cyI, 1350, .inl uq)), (bS, .inl (cyI, 450, .inl ul)), (bH, .inl (cyZ, 2, .inl uh)), (bP, .inl (cyI, 80, .inl ux)), (bT, .inl (cyI, 42, .inl uo))] H := hP
        have hD : va_D (fun q : Nat => s.heap.size ≤ q) [(aM, .inr (6, [.ref aS, .ref aH, .ref aL, .ref aP, .ref aR, .ref aT])), (aS, .inr (3, [.ref aC])), (aC, .inl (cyI, 225, .inl vc)), (aH, .inr (0, [.ref aHs, .int vhf, .int vhl])), (aHs, .inl (cyI, 1575, .inl vhs)), (aL, .inr (4, [.ref aLs, .int vsf])), (aLs, .inl (cyI, 450, .inl vss)), (aP, .inr (1, [.ref aPc, .int vpl])), (aPc, .inl (cyI, 80, .inl vpp)), (aR, .inr (2, [.ref aP, .ref aRn, .int vra_793, .int vrk_793, .int vrt_793])), (aRn, .inl (cyI, 40, .inl vrn_793)), (aT, .inr (5, [.ref aTp, .int vtl, .int vta, .int vtt])), (aTp, .inl (cyI, 552, .inl vtp)), (bM, .inr (7, [.ref bN, .ref bQ, .int us, .ref bS, .ref bH, .ref bP, .int up, .int ue, .int ut, .ref bT, .int um])), (bN, .inl (cyI, 225, .inl un)), (bQ, .inl (cyI, 1350, .inl uq)), (bS, .inl (cyI, 450, .inl ul)), (bH, .inl (cyZ, 2, .inl uh)), (bP, .inl (cyI, 80, .inl ux)), (bT, .inl (cyI, 42, .inl uo))] := hD
        refine lv_aload_n hx hb dL_law_796 rfl (lv_at hl 2 rfl) ?_
        obtain ⟨r797, ut_797, um_797, uo_797, hC, hF⟩ := k_c4_ex hF
        refine x_VM (As := []) (rest := [.int r793]) ⟨hx, hb, hml, hown, hts⟩ (c_X7_fault l D cyI cyZ bM bN bQ bS bH bP bT H.size N us up ue ut um ux uo hC) (cwV 0 hts gL_law_X7_fault rfl rfl rfl (by decide +kernel) ⟨Nat.le_of_ble_eq_true rfl, Nat.le_of_ble_eq_true rfl⟩) hK hP hD hS hA [13, 18, 19] rfl rfl rfl 13 rfl rfl rfl rfl hl.1 rfl (Nat.le_of_ble_eq_true rfl) ⟨Nat.le_of_ble_eq_true rfl, Nat.le_of_ble_eq_true rfl⟩ dL_law_797 (fun H locs hP hD hS => ?_)
        have hP : va_P D vwCl [(aM, .inr (6, [.ref aS, .ref aH, .ref aL, .ref aP, .ref aR, .ref aT])), (aS, .inr (3, [.ref aC])), (aC, .inl (cyI, 225, .inl vc)), (aH, .inr (0, [.ref aHs, .int vhf, .int vhl])), (aHs, .inl (cyI, 1575, .inl vhs)), (aL, .inr (4, [.ref aLs, .int vsf])), (aLs, .inl (cyI, 450, .inl vss)), (aP, .inr (1, [.ref aPc, .int vpl])), (aPc, .inl (cyI, 80, .inl vpp)), (aR, .inr (2, [.ref aP, .ref aRn, .int vra_793, .int vrk_793, .int vrt_793])), (aRn, .inl (cyI, 40, .inl vrn_793)), (aT, .inr (5, [.ref aTp, .int vtl, .int vta, .int vtt])), (aTp, .inl (cyI, 552, .inl vtp)), (bM, .inr (7, [.ref bN, .ref bQ, .int us, .ref bS, .ref bH, .ref bP, .int up, .int ue, .int ut_797, .ref bT, .int um_797])), (bN, .inl (cyI, 225, .inl un)), (bQ, .inl (cyI, 1350, .inl uq)), (bS, .inl (cyI, 450, .inl ul)), (bH, .inl (cyZ, 2, .inl uh)), (bP, .inl (cyI, 80, .inl ux)), (bT, .inl (cyI, 42, .inl uo_797))] H := hP
        have hD : va_D (fun q : Nat => s.heap.size ≤ q) [(aM, .inr (6, [.ref aS, .ref aH, .ref aL, .ref aP, .ref aR, .ref aT])), (aS, .inr (3, [.ref aC])), (aC, .inl (cyI, 225, .inl vc)), (aH, .inr (0, [.ref aHs, .int vhf, .int vhl])), (aHs, .inl (cyI, 1575, .inl vhs)), (aL, .inr (4, [.ref aLs, .int vsf])), (aLs, .inl (cyI, 450, .inl vss)), (aP, .inr (1, [.ref aPc, .int vpl])), (aPc, .inl (cyI, 80, .inl vpp)), (aR, .inr (2, [.ref aP, .ref aRn, .int vra_793, .int vrk_793, .int vrt_793])), (aRn, .inl (cyI, 40, .inl vrn_793)), (aT, .inr (5, [.ref aTp, .int vtl, .int vta, .int vtt])), (aTp, .inl (cyI, 552, .inl vtp)), (bM, .inr (7, [.ref bN, .ref bQ, .int us, .ref bS, .ref bH, .ref bP, .int up, .int ue, .int ut_797, .ref bT, .int um_797])), (bN, .inl (cyI, 225, .inl un)), (bQ, .inl (cyI, 1350, .inl uq)), (bS, .inl (cyI, 450, .inl ul)), (bH, .inl (cyZ, 2, .inl uh)), (bP, .inl (cyI, 80, .inl ux)), (bT, .inl (cyI, 42, .inl uo_797))] := hD
        refine lv_icmp_eq (tgt := 877) hx hb dL_law_800 (by decide) (fun hc => ?_) (fun hc => ?_)
        · have hF := k_if_t hF hc
          exact (hG _ _ _).1 (blk_877 x3 vc vhf vhl vhs vsf vss vpl vpp vra_793 vrk_793 vrt_793 vrn_793 vtl vta vtt vtp us up ue ut_797 um_797 un uq ul uh ux uo_797 hF _ _ _ hP hD hS (lv_sub hl [0, 1, 2, 3] rfl))
        · have hF := k_if_f hF hc
          refine lv_iconst (v := (0 : Int32)) hx hb dL_law_803 (by decide) ?_
          exact absurd (Option.some.inj hF) (by decide)
      have blk_805 : ∀ (x3 : Int32) (vc : (Nat → Int32)) (vhf : Int32) (vhl : Int32) (vhs : (Nat → Int32)) (vsf : Int32) (vss : (Nat → Int32)) (vpl : Int32) (vpp : (Nat → Int32)) (vra : Int32) (vrk : Int32) (vrt : Int32) (vrn : (Nat → Int32)) (vtl : Int32) (vta : Int32) (vtt : Int32) (vtp : (Nat → Int32)) (us : Int32) (up : Int32) (ue : Int32) (ut : Int32) (um : Int32) (un : (Nat → Int32)) (uq : (Nat → Int32)) (ul : (Nat → Int32)) (uh : (Nat → Int32)) (ux : (Nat → Int32)) (uo : (Nat → Int32)), b_L_law_805 N L xs (f_L_law_18 N L xs n_18) x3 vc vhf vhl vhs vsf vss vpl vpp vra vrk vrt vrn vtl vta vtt vtp us up ue ut um un uq ul uh ux uo = some 1 → ∀ (H : Heap) (locs : List Loc) (ls : Array Slot), va_P D vwCl [(aM, .inr (6, [.ref aS, .ref aH, .ref aL, .ref aP, .ref aR, .ref aT])), (aS, .inr (3, [.ref aC])), (aC, .inl (cyI, 225, .inl vc)), (aH, .inr (0, [.ref aHs, .int vhf, .int vhl])), (aHs, .inl (cyI, 1575, .inl vhs)), (aL, .inr (4, [.ref aLs, .int vsf])), (aLs, .inl (cyI, 450, .inl vss)), (aP, .inr (1, [.ref aPc, .int vpl])), (aPc, .inl (cyI, 80, .inl vpp)), (aR, .inr (2, [.ref aP, .ref aRn, .int vra, .int vrk, .int vrt])), (aRn, .inl (cyI, 40, .inl vrn)), (aT, .inr (5, [.ref aTp, .int vtl, .int vta, .int vtt])), (aTp, .inl (cyI, 552, .inl vtp)), (bM, .inr (7, [.ref bN, .ref bQ, .int us, .ref bS, .ref bH, .ref bP, .int up, .int ue, .int ut, .ref bT, .int um])), (bN, .inl (cyI, 225, .inl un)), (bQ, .inl (cyI, 1350, .inl uq)), (bS, .inl (cyI, 450, .inl ul)), (bH, .inl (cyZ, 2, .inl uh)), (bP, .inl (cyI, 80, .inl ux)), (bT, .inl (cyI, 42, .inl uo))] H → va_D (fun q : Nat => s.heap.size ≤ q) [(aM, .inr (6, [.ref aS, .ref aH, .ref aL, .ref aP, .ref aR, .ref aT])), (aS, .inr (3, [.ref aC])), (aC, .inl (cyI, 225, .inl vc)), (aH, .inr (0, [.ref aHs, .int vhf, .int vhl])), (aHs, .inl (cyI, 1575, .inl vhs)), (aL, .inr (4, [.ref aLs, .int vsf])), (aLs, .inl (cyI, 450, .inl vss)), (aP, .inr (1, [.ref aPc, .int vpl])), (aPc, .inl (cyI, 80, .inl vpp)), (aR, .inr (2, [.ref aP, .ref aRn, .int vra, .int vrk, .int vrt])), (aRn, .inl (cyI, 40, .inl vrn)), (aT, .inr (5, [.ref aTp, .int vtl, .int vta, .int vtt])), (aTp, .inl (cyI, 552, .inl vtp)), (bM, .inr (7, [.ref bN, .ref bQ, .int us, .ref bS, .ref bH, .ref bP, .int up, .int ue, .int ut, .ref bT, .int um])), (bN, .inl (cyI, 225, .inl un)), (bQ, .inl (cyI, 1350, .inl uq)), (bS, .inl (cyI, 450, .inl ul)), (bH, .inl (cyZ, 2, .inl uh)), (bP, .inl (cyI, 80, .inl ux)), (bT, .inl (cyI, 42, .inl uo))] → va_S (fun q : Nat => s.heap.size ≤ q) s.heap H locs → lv_has ls 4 [(0, .ref b), (1, .ref aM), (2, .ref bM), (3, .int x3)] → G H locs (F0 m 805 ls []) := by
        intro x3 vc vhf vhl vhs vsf vss vpl vpp vra vrk vrt vrn vtl vta vtt vtp us up ue ut um un uq ul uh ux uo hF H locs ls hP hD hS hl
        unfold b_L_law_805 at hF
        refine (hG _ _ _).2 ?_
        refine lv_aload_n hx hb dL_law_805 rfl (lv_at hl 1 rfl) ?_
        obtain ⟨r806, vc_806, vhf_806, vhl_806, vhs_806, vpl_806, vra_806, vrk_806, vrt_806, vrn_806, vtl_806, vta_806, vtt_806, vtp_806, hC, hF⟩ := k_c14_ex hF
        refine x_VM (As := []) (rest := []) ⟨hx, hb, hml, hown, hts⟩ (c_X6_carryOut l D cyI cyZ aM aS aC aH aHs aL aP aPc aR aRn aT aTp H.size N vc vhf vhl vhs vpl vpp vra vrk vrt vrn vtl vta vtt vtp hC) (cwV 0 hts gL_law_X6_carryOut rfl rfl rfl (by decide +kernel) ⟨Nat.le_of_ble_eq_true rfl, Nat.le_of_ble_eq_true rfl⟩) hK hP hD hS hA [0, 1, 2, 3, 4, 7, 8, 9, 10, 11, 12] rfl rfl rfl 0 rfl rfl rfl rfl hl.1 rfl (Nat.le_of_ble_eq_true rfl) ⟨Nat.le_of_ble_eq_true rfl, Nat.le_of_ble_eq_true rfl⟩ dL_law_806 (fun H locs hP hD hS => ?_)
        have hP : va_P D vwCl [(aM, .inr (6, [.ref aS, .ref aH, .ref aL, .ref aP, .ref aR, .ref aT])), (aS, .inr (3, [.ref aC])), (aC, .inl (cyI, 225, .inl vc_806)), (aH, .inr (0, [.ref aHs, .int vhf_806, .int vhl_806])), (aHs, .inl (cyI, 1575, .inl vhs_806)), (aL, .inr (4, [.ref aLs, .int vsf])), (aLs, .inl (cyI, 450, .inl vss)), (aP, .inr (1, [.ref aPc, .int vpl_806])), (aPc, .inl (cyI, 80, .inl vpp)), (aR, .inr (2, [.ref aP, .ref aRn, .int vra_806, .int vrk_806, .int vrt_806])), (aRn, .inl (cyI, 40, .inl vrn_806)), (aT, .inr (5, [.ref aTp, .int vtl_806, .int vta_806, .int vtt_806])), (aTp, .inl (cyI, 552, .inl vtp_806)), (bM, .inr (7, [.ref bN, .ref bQ, .int us, .ref bS, .ref bH, .ref bP, .int up, .int ue, .int ut, .ref bT, .int um])), (bN, .inl (cyI, 225, .inl un)), (bQ, .inl (cyI, 1350, .inl uq)), (bS, .inl (cyI, 450, .inl ul)), (bH, .inl (cyZ, 2, .inl uh)), (bP, .inl (cyI, 80, .inl ux)), (bT, .inl (cyI, 42, .inl uo))] H := hP
        have hD : va_D (fun q : Nat => s.heap.size ≤ q) [(aM, .inr (6, [.ref aS, .ref aH, .ref aL, .ref aP, .ref aR, .ref aT])), (aS, .inr (3, [.ref aC])), (aC, .inl (cyI, 225, .inl vc_806)), (aH, .inr (0, [.ref aHs, .int vhf_806, .int vhl_806])), (aHs, .inl (cyI, 1575, .inl vhs_806)), (aL, .inr (4, [.ref aLs, .int vsf])), (aLs, .inl (cyI, 450, .inl vss)), (aP, .inr (1, [.ref aPc, .int vpl_806])), (aPc, .inl (cyI, 80, .inl vpp)), (aR, .inr (2, [.ref aP, .ref aRn, .int vra_806, .int vrk_806, .int vrt_806])), (aRn, .inl (cyI, 40, .inl vrn_806)), (aT, .inr (5, [.ref aTp, .int vtl_806, .int vta_806, .int vtt_806])), (aTp, .inl (cyI, 552, .inl vtp_806)), (bM, .inr (7, [.ref bN, .ref bQ, .int us, .ref bS, .ref bH, .ref bP, .int up, .int ue, .int ut, .ref bT, .int um])), (bN, .inl (cyI, 225, .inl un)), (bQ, .inl (cyI, 1350, .inl uq)), (bS, .inl (cyI, 450, .inl ul)), (bH, .inl (cyZ, 2, .inl uh)), (bP, .inl (cyI, 80, .inl ux)), (bT, .inl (cyI, 42, .inl uo))] := hD
        refine lv_aload_n hx hb dL_law_809 rfl (lv_at hl 2 rfl) ?_
        obtain ⟨r810, us_810, up_810, ue_810, ut_810, um_810, un_810, uq_810, uo_810, hC, hF⟩ := k_c9_ex hF
        refine x_VM (As := []) (rest := [.int r806]) ⟨hx, hb, hml, hown, hts⟩ (c_X7_carryOut l D cyI cyZ bM bN bQ bS bH bP bT H.size N us up ue ut um un uq ux uo hC) (cwV 0 hts gL_law_X7_carryOut rfl rfl rfl (by decide +kernel) ⟨Nat.le_of_ble_eq_true rfl, Nat.le_of_ble_eq_true rfl⟩) hK hP hD hS hA [13, 14, 15, 18, 19] rfl rfl rfl 13 rfl rfl rfl rfl hl.1 rfl (Nat.le_of_ble_eq_true rfl) ⟨Nat.le_of_ble_eq_true rfl, Nat.le_of_ble_eq_true rfl⟩ dL_law_810 (fun H locs hP hD hS => ?_)
        have hP : va_P D vwCl [(aM, .inr (6, [.ref aS, .ref aH, .ref aL, .ref aP, .ref aR, .ref aT])), (aS, .inr (3, [.ref aC])), (aC, .inl (cyI, 225, .inl vc_806)), (aH, .inr (0, [.ref aHs, .int vhf_806, .int vhl_806])), (aHs, .inl (cyI, 1575, .inl vhs_806)), (aL, .inr (4, [.ref aLs, .int vsf])), (aLs, .inl (cyI, 450, .inl vss)), (aP, .inr (1, [.ref aPc, .int vpl_806])), (aPc, .inl (cyI, 80, .inl vpp)), (aR, .inr (2, [.ref aP, .ref aRn, .int vra_806, .int vrk_806, .int vrt_806])), (aRn, .inl (cyI, 40, .inl vrn_806)), (aT, .inr (5, [.ref aTp, .int vtl_806, .int vta_806, .int vtt_806])), (aTp, .inl (cyI, 552, .inl vtp_806)), (bM, .inr (7, [.ref bN, .ref bQ, .int us_810, .ref bS, .ref bH, .ref bP, .int up_810, .int ue_810, .int ut_810, .ref bT, .int um_810])), (bN, .inl (cyI, 225, .inl un_810)), (bQ, .inl (cyI, 1350, .inl uq_810)), (bS, .inl (cyI, 450, .inl ul)), (bH, .inl (cyZ, 2, .inl uh)), (bP, .inl (cyI, 80, .inl ux)), (bT, .inl (cyI, 42, .inl uo_810))] H := hP
        have hD : va_D (fun q : Nat => s.heap.size ≤ q) [(aM, .inr (6, [.ref aS, .ref aH, .ref aL, .ref aP, .ref aR, .ref aT])), (aS, .inr (3, [.ref aC])), (aC, .inl (cyI, 225, .inl vc_806)), (aH, .inr (0, [.ref aHs, .int vhf_806, .int vhl_806])), (aHs, .inl (cyI, 1575, .inl vhs_806)), (aL, .inr (4, [.ref aLs, .int vsf])), (aLs, .inl (cyI, 450, .inl vss)), (aP, .inr (1, [.ref aPc, .int vpl_806])), (aPc, .inl (cyI, 80, .inl vpp)), (aR, .inr (2, [.ref aP, .ref aRn, .int vra_806, .int vrk_806, .int vrt_806])), (aRn, .inl (cyI, 40, .inl vrn_806)), (aT, .inr (5, [.ref aTp, .int vtl_806, .int vta_806, .int vtt_806])), (aTp, .inl (cyI, 552, .inl vtp_806)), (bM, .inr (7, [.ref bN, .ref bQ, .int us_810, .ref bS, .ref bH, .ref bP, .int up_810, .int ue_810, .int ut_810, .ref bT, .int um_810])), (bN, .inl (cyI, 225, .inl un_810)), (bQ, .inl (cyI, 1350, .inl uq_810)), (bS, .inl (cyI, 450, .inl ul)), (bH, .inl (cyZ, 2, .inl uh)), (bP, .inl (cyI, 80, .inl ux)), (bT, .inl (cyI, 42, .inl uo_810))] := hD
        refine lv_icmp_eq (tgt := 877) hx hb dL_law_813 (by decide) (fun hc => ?_) (fun hc => ?_)
        · have hF := k_if_t hF hc
          exact (hG _ _ _).1 (blk_877 x3 vc_806 vhf_806 vhl_806 vhs_806 vsf vss vpl_806 vpp vra_806 vrk_806 vrt_806 vrn_806 vtl_806 vta_806 vtt_806 vtp_806 us_810 up_810 ue_810 ut_810 um_810 un_810 uq_810 ul uh ux uo_810 hF _ _ _ hP hD hS (lv_sub hl [0, 1, 2, 3] rfl))
        · have hF := k_if_f hF hc
          refine lv_iconst (v := (0 : Int32)) hx hb dL_law_816 (by decide) ?_
          exact absurd (Option.some.inj hF) (by decide)
      have blk_818 : ∀ (x3 : Int32) (vc : (Nat → Int32)) (vhf : Int32) (vhl : Int32) (vhs : (Nat → Int32)) (vsf : Int32) (vss : (Nat → Int32)) (vpl : Int32) (vpp : (Nat → Int32)) (vra : Int32) (vrk : Int32) (vrt : Int32) (vrn : (Nat → Int32)) (vtl : Int32) (vta : Int32) (vtt : Int32) (vtp : (Nat → Int32)) (us : Int32) (up : Int32) (ue : Int32) (ut : Int32) (um : Int32) (un : (Nat → Int32)) (uq : (Nat → Int32)) (ul : (Nat → Int32)) (uh : (Nat → Int32)) (ux : (Nat → Int32)) (uo : (Nat → Int32)), b_L_law_818 N L xs (f_L_law_18 N L xs n_18) x3 vc vhf vhl vhs vsf vss vpl vpp vra vrk vrt vrn vtl vta vtt vtp us up ue ut um un uq ul uh ux uo = some 1 → ∀ (H : Heap) (locs : List Loc) (ls : Array Slot), va_P D vwCl [(aM, .inr (6, [.ref aS, .ref aH, .ref aL, .ref aP, .ref aR, .ref aT])), (aS, .inr (3, [.ref aC])), (aC, .inl (cyI, 225, .inl vc)), (aH, .inr (0, [.ref aHs, .int vhf, .int vhl])), (aHs, .inl (cyI, 1575, .inl vhs)), (aL, .inr (4, [.ref aLs, .int vsf])), (aLs, .inl (cyI, 450, .inl vss)), (aP, .inr (1, [.ref aPc, .int vpl])), (aPc, .inl (cyI, 80, .inl vpp)), (aR, .inr (2, [.ref aP, .ref aRn, .int vra, .int vrk, .int vrt])), (aRn, .inl (cyI, 40, .inl vrn)), (aT, .inr (5, [.ref aTp, .int vtl, .int vta, .int vtt])), (aTp, .inl (cyI, 552, .inl vtp)), (bM, .inr (7, [.ref bN, .ref bQ, .int us, .ref bS, .ref bH, .ref bP, .int up, .int ue, .int ut, .ref bT, .int um])), (bN, .inl (cyI, 225, .inl un)), (bQ, .inl (cyI, 1350, .inl uq)), (bS, .inl (cyI, 450, .inl ul)), (bH, .inl (cyZ, 2, .inl uh)), (bP, .inl (cyI, 80, .inl ux)), (bT, .inl (cyI, 42, .inl uo))] H → va_D (fun q : Nat => s.heap.size ≤ q) [(aM, .inr (6, [.ref aS, .ref aH, .ref aL, .ref aP, .ref aR, .ref aT])), (aS, .inr (3, [.ref aC])), (aC, .inl (cyI, 225, .inl vc)), (aH, .inr (0, [.ref aHs, .int vhf, .int vhl])), (aHs, .inl (cyI, 1575, .inl vhs)), (aL, .inr (4, [.ref aLs, .int vsf])), (aLs, .inl (cyI, 450, .inl vss)), (aP, .inr (1, [.ref aPc, .int vpl])), (aPc, .inl (cyI, 80, .inl vpp)), (aR, .inr (2, [.ref aP, .ref aRn, .int vra, .int vrk, .int vrt])), (aRn, .inl (cyI, 40, .inl vrn)), (aT, .inr (5, [.ref aTp, .int vtl, .int vta, .int vtt])), (aTp, .inl (cyI, 552, .inl vtp)), (bM, .inr (7, [.ref bN, .ref bQ, .int us, .ref bS, .ref bH, .ref bP, .int up, .int ue, .int ut, .ref bT, .int um])), (bN, .inl (cyI, 225, .inl un)), (bQ, .inl (cyI, 1350, .inl uq)), (bS, .inl (cyI, 450, .inl ul)), (bH, .inl (cyZ, 2, .inl uh)), (bP, .inl (cyI, 80, .inl ux)), (bT, .inl (cyI, 42, .inl uo))] → va_S (fun q : Nat => s.heap.size ≤ q) s.heap H locs → lv_has ls 4 [(0, .ref b), (1, .ref aM), (2, .ref bM), (3, .int x3)] → G H locs (F0 m 818 ls []) := by
        intro x3 vc vhf vhl vhs vsf vss vpl vpp vra vrk vrt vrn vtl vta vtt vtp us up ue ut um un uq ul uh ux uo hF H locs ls hP hD hS hl
        unfold b_L_law_818 at hF
        refine (hG _ _ _).2 ?_
        refine lv_aload_n hx hb dL_law_818 rfl (lv_at hl 1 rfl) ?_
        obtain ⟨r819, vc_819, vhf_819, vhl_819, hC, hF⟩ := k_c4_ex hF
        refine x_VM (As := []) (rest := []) ⟨hx, hb, hml, hown, hts⟩ (c_X6_undo l D cyI cyZ aM aS aC aH aHs aL aP aR aT H.size N vc vhf vhl vhs hC) (cwV 0 hts gL_law_X6_undo rfl rfl rfl (by decide +kernel) ⟨Nat.le_of_ble_eq_true rfl, Nat.le_of_ble_eq_true rfl⟩) hK hP hD hS hA [0, 1, 2, 3, 4] rfl rfl rfl 0 rfl rfl rfl rfl hl.1 rfl (Nat.le_of_ble_eq_true rfl) ⟨Nat.le_of_ble_eq_true rfl, Nat.le_of_ble_eq_true rfl⟩ dL_law_819 (fun H locs hP hD hS => ?_)
        have hP : va_P D vwCl [(aM, .inr (6, [.ref aS, .ref aH, .ref aL, .ref aP, .ref aR, .ref aT])), (aS, .inr (3, [.ref aC])), (aC, .inl (cyI, 225, .inl vc_819)), (aH, .inr (0, [.ref aHs, .int vhf_819, .int vhl_819])), (aHs, .inl (cyI, 1575, .inl vhs)), (aL, .inr (4, [.ref aLs, .int vsf])), (aLs, .inl (cyI, 450, .inl vss)), (aP, .inr (1, [.ref aPc, .int vpl])), (aPc, .inl (cyI, 80, .inl vpp)), (aR, .inr (2, [.ref aP, .ref aRn, .int vra, .int vrk, .int vrt])), (aRn, .inl (cyI, 40, .inl vrn)), (aT, .inr (5, [.ref aTp, .int vtl, .int vta, .int vtt])), (aTp, .inl (cyI, 552, .inl vtp)), (bM, .inr (7, [.ref bN, .ref bQ, .int us, .ref bS, .ref bH, .ref bP, .int up, .int ue, .int ut, .ref bT, .int um])), (bN, .inl (cyI, 225, .inl un)), (bQ, .inl (cyI, 1350, .inl uq)), (bS, .inl (cyI, 450, .inl ul)), (bH, .inl (cyZ, 2, .inl uh)), (bP, .inl (cyI, 80, .inl ux)), (bT, .inl (cyI, 42, .inl uo))] H := hP
        have hD : va_D (fun q : Nat => s.heap.size ≤ q) [(aM, .inr (6, [.ref aS, .ref aH, .ref aL, .ref aP, .ref aR, .ref aT])), (aS, .inr (3, [.ref aC])), (aC, .inl (cyI, 225, .inl vc_819)), (aH, .inr (0, [.ref aHs, .int vhf_819, .int vhl_819])), (aHs, .inl (cyI, 1575, .inl vhs)), (aL, .inr (4, [.ref aLs, .int vsf])), (aLs, .inl (cyI, 450, .inl vss)), (aP, .inr (1, [.ref aPc, .int vpl])), (aPc, .inl (cyI, 80, .inl vpp)), (aR, .inr (2, [.ref aP, .ref aRn, .int vra, .int vrk, .int vrt])), (aRn, .inl (cyI, 40, .inl vrn)), (aT, .inr (5, [.ref aTp, .int vtl, .int vta, .int vtt])), (aTp, .inl (cyI, 552, .inl vtp)), (bM, .inr (7, [.ref bN, .ref bQ, .int us, .ref bS, .ref bH, .ref bP, .int up, .int ue, .int ut, .ref bT, .int um])), (bN, .inl (cyI, 225, .inl un)), (bQ, .inl (cyI, 1350, .inl uq)), (bS, .inl (cyI, 450, .inl ul)), (bH, .inl (cyZ, 2, .inl uh)), (bP, .inl (cyI, 80, .inl ux)), (bT, .inl (cyI, 42, .inl uo))] := hD
        refine lv_aload_n hx hb dL_law_822 rfl (lv_at hl 2 rfl) ?_
        obtain ⟨r823, us_823, un_823, hC, hF⟩ := k_c3_ex hF
        refine x_VM (As := []) (rest := [.int r819]) ⟨hx, hb, hml, hown, hts⟩ (c_X7_undo l D cyI cyZ bM bN bQ bS bH bP bT H.size N us up ue ut um un uq hC) (cwV 0 hts gL_law_X7_undo rfl rfl rfl (by decide +kernel) ⟨Nat.le_of_ble_eq_true rfl, Nat.le_of_ble_eq_true rfl⟩) hK hP hD hS hA [13, 14, 15] rfl rfl rfl 13 rfl rfl rfl rfl hl.1 rfl (Nat.le_of_ble_eq_true rfl) ⟨Nat.le_of_ble_eq_true rfl, Nat.le_of_ble_eq_true rfl⟩ dL_law_823 (fun H locs hP hD hS => ?_)
        have hP : va_P D vwCl [(aM, .inr (6, [.ref aS, .ref aH, .ref aL, .ref aP, .ref aR, .ref aT])), (aS, .inr (3, [.ref aC])), (aC, .inl (cyI, 225, .inl vc_819)), (aH, .inr (0, [.ref aHs, .int vhf_819, .int vhl_819])), (aHs, .inl (cyI, 1575, .inl vhs)), (aL, .inr (4, [.ref aLs, .int vsf])), (aLs, .inl (cyI, 450, .inl vss)), (aP, .inr (1, [.ref aPc, .int vpl])), (aPc, .inl (cyI, 80, .inl vpp)), (aR, .inr (2, [.ref aP, .ref aRn, .int vra, .int vrk, .int vrt])), (aRn, .inl (cyI, 40, .inl vrn)), (aT, .inr (5, [.ref aTp, .int vtl, .int vta, .int vtt])), (aTp, .inl (cyI, 552, .inl vtp)), (bM, .inr (7, [.ref bN, .ref bQ, .int us_823, .ref bS, .ref bH, .ref bP, .int up, .int ue, .int ut, .ref bT, .int um])), (bN, .inl (cyI, 225, .inl un_823)), (bQ, .inl (cyI, 1350, .inl uq)), (bS, .inl (cyI, 450, .inl ul)), (bH, .inl (cyZ, 2, .inl uh)), (bP, .inl (cyI, 80, .inl ux)), (bT, .inl (cyI, 42, .inl uo))] H := hP
        have hD : va_D (fun q : Nat => s.heap.size ≤ q) [(aM, .inr (6, [.ref aS, .ref aH, .ref aL, .ref aP, .ref aR, .ref aT])), (aS, .inr (3, [.ref aC])), (aC, .inl (cyI, 225, .inl vc_819)), (aH, .inr (0, [.ref aHs, .int vhf_819, .int vhl_819])), (aHs, .inl (cyI, 1575, .inl vhs)), (aL, .inr (4, [.ref aLs, .int vsf])), (aLs, .inl (cyI, 450, .inl vss)), (aP, .inr (1, [.ref aPc, .int vpl])), (aPc, .inl (cyI, 80, .inl vpp)), (aR, .inr (2, [.ref aP, .ref aRn, .int vra, .int vrk, .int vrt])), (aRn, .inl (cyI, 40, .inl vrn)), (aT, .inr (5, [.ref aTp, .int vtl, .int vta, .int vtt])), (aTp, .inl (cyI, 552, .inl vtp)), (bM, .inr (7, [.ref bN, .ref bQ, .int us_823, .ref bS, .ref bH, .ref bP, .int up, .int ue, .int ut, .ref bT, .int um])), (bN, .inl (cyI, 225, .inl un_823)), (bQ, .inl (cyI, 1350, .inl uq)), (bS, .inl (cyI, 450, .inl ul)), (bH, .inl (cyZ, 2, .inl uh)), (bP, .inl (cyI, 80, .inl ux)), (bT, .inl (cyI, 42, .inl uo))] := hD
        refine lv_icmp_eq (tgt := 877) hx hb dL_law_826 (by decide) (fun hc => ?_) (fun hc => ?_)
        · have hF := k_if_t hF hc
          exact (hG _ _ _).1 (blk_877 x3 vc_819 vhf_819 vhl_819 vhs vsf vss vpl vpp vra vrk vrt vrn vtl vta vtt vtp us_823 up ue ut um un_823 uq ul uh ux uo hF _ _ _ hP hD hS (lv_sub hl [0, 1, 2, 3] rfl))
        · have hF := k_if_f hF hc
          refine lv_iconst (v := (0 : Int32)) hx hb dL_law_829 (by decide) ?_
          exact absurd (Option.some.inj hF) (by decide)
      have blk_831 : ∀ (x3 : Int32) (vc : (Nat → Int32)) (vhf : Int32) (vhl : Int32) (vhs : (Nat → Int32)) (vsf : Int32) (vss : (Nat → Int32)) (vpl : Int32) (vpp : (Nat → Int32)) (vra : Int32) (vrk : Int32) (vrt : Int32) (vrn : (Nat → Int32)) (vtl : Int32) (vta : Int32) (vtt : Int32) (vtp : (Nat → Int32)) (us : Int32) (up : Int32) (ue : Int32) (ut : Int32) (um : Int32) (un : (Nat → Int32)) (uq : (Nat → Int32)) (ul : (Nat → Int32)) (uh : (Nat → Int32)) (ux : (Nat → Int32)) (uo : (Nat → Int32)), b_L_law_831 N L xs (f_L_law_18 N L xs n_18) x3 vc vhf vhl vhs vsf vss vpl vpp vra vrk vrt vrn vtl vta vtt vtp us up ue ut um un uq ul uh ux uo = some 1 → ∀ (H : Heap) (locs : List Loc) (ls : Array Slot), va_P D vwCl [(aM, .inr (6, [.ref aS, .ref aH, .ref aL, .ref aP, .ref aR, .ref aT])), (aS, .inr (3, [.ref aC])), (aC, .inl (cyI, 225, .inl vc)), (aH, .inr (0, [.ref aHs, .int vhf, .int vhl])), (aHs, .inl (cyI, 1575, .inl vhs)), (aL, .inr (4, [.ref aLs, .int vsf])), (aLs, .inl (cyI, 450, .inl vss)), (aP, .inr (1, [.ref aPc, .int vpl])), (aPc, .inl (cyI, 80, .inl vpp)), (aR, .inr (2, [.ref aP, .ref aRn, .int vra, .int vrk, .int vrt])), (aRn, .inl (cyI, 40, .inl vrn)), (aT, .inr (5, [.ref aTp, .int vtl, .int vta, .int vtt])), (aTp, .inl (cyI, 552, .inl vtp)), (bM, .inr (7, [.ref bN, .ref bQ, .int us, .ref bS, .ref bH, .ref bP, .int up, .int ue, .int ut, .ref bT, .int um])), (bN, .inl (cyI, 225, .inl un)), (bQ, .inl (cyI, 1350, .inl uq)), (bS, .inl (cyI, 450, .inl ul)), (bH, .inl (cyZ, 2, .inl uh)), (bP, .inl (cyI, 80, .inl ux)), (bT, .inl (cyI, 42, .inl uo))] H → va_D (fun q : Nat => s.heap.size ≤ q) [(aM, .inr (6, [.ref aS, .ref aH, .ref aL, .ref aP, .ref aR, .ref aT])), (aS, .inr (3, [.ref aC])), (aC, .inl (cyI, 225, .inl vc)), (aH, .inr (0, [.ref aHs, .int vhf, .int vhl])), (aHs, .inl (cyI, 1575, .inl vhs)), (aL, .inr (4, [.ref aLs, .int vsf])), (aLs, .inl (cyI, 450, .inl vss)), (aP, .inr (1, [.ref aPc, .int vpl])), (aPc, .inl (cyI, 80, .inl vpp)), (aR, .inr (2, [.ref aP, .ref aRn, .int vra, .int vrk, .int vrt])), (aRn, .inl (cyI, 40, .inl vrn)), (aT, .inr (5, [.ref aTp, .int vtl, .int vta, .int vtt])), (aTp, .inl (cyI, 552, .inl vtp)), (bM, .inr (7, [.ref bN, .ref bQ, .int us, .ref bS, .ref bH, .ref bP, .int up, .int ue, .int ut, .ref bT, .int um])), (bN, .inl (cyI, 225, .inl un)), (bQ, .inl (cyI, 1350, .inl uq)), (bS, .inl (cyI, 450, .inl ul)), (bH, .inl (cyZ, 2, .inl uh)), (bP, .inl (cyI, 80, .inl ux)), (bT, .inl (cyI, 42, .inl uo))] → va_S (fun q : Nat => s.heap.size ≤ q) s.heap H locs → lv_has ls 4 [(0, .ref b), (1, .ref aM), (2, .ref bM), (3, .int x3)] → G H locs (F0 m 831 ls []) := by
        intro x3 vc vhf vhl vhs vsf vss vpl vpp vra vrk vrt vrn vtl vta vtt vtp us up ue ut um un uq ul uh ux uo hF H locs ls hP hD hS hl
        unfold b_L_law_831 at hF
        refine (hG _ _ _).2 ?_
        refine lv_aload_n hx hb dL_law_831 rfl (lv_at hl 1 rfl) ?_
        refine lv_aload_n hx hb dL_law_832 rfl (lv_at hl 0 rfl) ?_
        refine lv_iload_n hx hb dL_law_833 rfl (lv_at hl 3 rfl) ?_
        refine lv_iconst (v := (1 : Int32)) hx hb dL_law_834 (by decide) ?_
        refine lv_iadd hx hb dL_law_835 ?_
        obtain ⟨r836, hin, hn, hF⟩ := k_ld_ex hF
        refine va_sld hx hb hX hbl hbA hS hin dL_law_836 ?_
        refine x_nm hn ?_
        obtain ⟨r837, vsf_837, vss_837, hC, hF⟩ := k_c3_ex hF
        refine x_VM (As := [.int r836]) (rest := []) ⟨hx, hb, hml, hown, hts⟩ (c_X6_save l D cyI cyZ aM aS aC aH aL aLs aP aR aT H.size N r836 vc vsf vss hC) (cwV 1 hts gL_law_X6_save rfl rfl rfl (by decide +kernel) ⟨Nat.le_of_ble_eq_true rfl, Nat.le_of_ble_eq_true rfl⟩) hK hP hD hS hA [0, 1, 2, 5, 6] rfl rfl rfl 0 rfl rfl rfl rfl hl.1 rfl (Nat.le_of_ble_eq_true rfl) ⟨Nat.le_of_ble_eq_true rfl, Nat.le_of_ble_eq_true rfl⟩ dL_law_837 (fun H locs hP hD hS => ?_)
        have hP : va_P D vwCl [(aM, .inr (6, [.ref aS, .ref aH, .ref aL, .ref aP, .ref aR, .ref aT])), (aS, .inr (3, [.ref aC])), (aC, .inl (cyI, 225, .inl vc)), (aH, .inr (0, [.ref aHs, .int vhf, .int vhl])), (aHs, .inl (cyI, 1575, .inl vhs)), (aL, .inr (4, [.ref aLs, .int vsf_837])), (aLs, .inl (cyI, 450, .inl vss_837)), (aP, .inr (1, [.ref aPc, .int vpl])), (aPc, .inl (cyI, 80, .inl vpp)), (aR, .inr (2, [.ref aP, .ref aRn, .int vra, .int vrk, .int vrt])), (aRn, .inl (cyI, 40, .inl vrn)), (aT, .inr (5, [.ref aTp, .int vtl, .int vta, .int vtt])), (aTp, .inl (cyI, 552, .inl vtp)), (bM, .inr (7, [.ref bN, .ref bQ, .int us, .ref bS, .ref bH, .ref bP, .int up, .int ue, .int ut, .ref bT, .int um])), (bN, .inl (cyI, 225, .inl un)), (bQ, .inl (cyI, 1350, .inl uq)), (bS, .inl (cyI, 450, .inl ul)), (bH, .inl (cyZ, 2, .inl uh)), (bP, .inl (cyI, 80, .inl ux)), (bT, .inl (cyI, 42, .inl uo))] H := hP
        have hD : va_D (fun q : Nat => s.heap.size ≤ q) [(aM, .inr (6, [.ref aS, .ref aH, .ref aL, .ref aP, .ref aR, .ref aT])), (aS, .inr (3, [.ref aC])), (aC, .inl (cyI, 225, .inl vc)), (aH, .inr (0, [.ref aHs, .int vhf, .int vhl])), (aHs, .inl (cyI, 1575, .inl vhs)), (aL, .inr (4, [.ref aLs, .int vsf_837])), (aLs, .inl (cyI, 450, .inl vss_837)), (aP, .inr (1, [.ref aPc, .int vpl])), (aPc, .inl (cyI, 80, .inl vpp)), (aR, .inr (2, [.ref aP, .ref aRn, .int vra, .int vrk, .int vrt])), (aRn, .inl (cyI, 40, .inl vrn)), (aT, .inr (5, [.ref aTp, .int vtl, .int vta, .int vtt])), (aTp, .inl (cyI, 552, .inl vtp)), (bM, .inr (7, [.ref bN, .ref bQ, .int us, .ref bS, .ref bH, .ref bP, .int up, .int ue, .int ut, .ref bT, .int um])), (bN, .inl (cyI, 225, .inl un)), (bQ, .inl (cyI, 1350, .inl uq)), (bS, .inl (cyI, 450, .inl ul)), (bH, .inl (cyZ, 2, .inl uh)), (bP, .inl (cyI, 80, .inl ux)), (bT, .inl (cyI, 42, .inl uo))] := hD
        refine lv_aload_n hx hb dL_law_840 rfl (lv_at hl 2 rfl) ?_
        refine lv_aload_n hx hb dL_law_841 rfl (lv_at hl 0 rfl) ?_
        refine lv_iload_n hx hb dL_law_842 rfl (lv_at hl 3 rfl) ?_
        refine lv_iconst (v := (1 : Int32)) hx hb dL_law_843 (by decide) ?_
        refine lv_iadd hx hb dL_law_844 ?_
        obtain ⟨r845, hin, hn, hF⟩ := k_ld_ex hF
        refine va_sld hx hb hX hbl hbA hS hin dL_law_845 ?_
        refine x_nm hn ?_
        obtain ⟨r846, ul_846, uh_846, hC, hF⟩ := k_c3_ex hF
        refine x_VM (As := [.int r845]) (rest := [.int r837]) ⟨hx, hb, hml, hown, hts⟩ (c_X7_save l D cyI cyZ bM bN bQ bS bH bP bT H.size N r845 us up ue ut um un ul uh hC) (cwV 1 hts gL_law_X7_save rfl rfl rfl (by decide +kernel) ⟨Nat.le_of_ble_eq_true rfl, Nat.le_of_ble_eq_true rfl⟩) hK hP hD hS hA [13, 14, 16, 17] rfl rfl rfl 13 rfl rfl rfl rfl hl.1 rfl (Nat.le_of_ble_eq_true rfl) ⟨Nat.le_of_ble_eq_true rfl, Nat.le_of_ble_eq_true rfl⟩ dL_law_846 (fun H locs hP hD hS => ?_)
        have hP : va_P D vwCl [(aM, .inr (6, [.ref aS, .ref aH, .ref aL, .ref aP, .ref aR, .ref aT])), (aS, .inr (3, [.ref aC])), (aC, .inl (cyI, 225, .inl vc)), (aH, .inr (0, [.ref aHs, .int vhf, .int vhl])), (aHs, .inl (cyI, 1575, .inl vhs)), (aL, .inr (4, [.ref aLs, .int vsf_837])), (aLs, .inl (cyI, 450, .inl vss_837)), (aP, .inr (1, [.ref aPc, .int vpl])), (aPc, .inl (cyI, 80, .inl vpp)), (aR, .inr (2, [.ref aP, .ref aRn, .int vra, .int vrk, .int vrt])), (aRn, .inl (cyI, 40, .inl vrn)), (aT, .inr (5, [.ref aTp, .int vtl, .int vta, .int vtt])), (aTp, .inl (cyI, 552, .inl vtp)), (bM, .inr (7, [.ref bN, .ref bQ, .int us, .ref bS, .ref bH, .ref bP, .int up, .int ue, .int ut, .ref bT, .int um])), (bN, .inl (cyI, 225, .inl un)), (bQ, .inl (cyI, 1350, .inl uq)), (bS, .inl (cyI, 450, .inl ul_846)), (bH, .inl (cyZ, 2, .inl uh_846)), (bP, .inl (cyI, 80, .inl ux)), (bT, .inl (cyI, 42, .inl uo))] H := hP
        have hD : va_D (fun q : Nat => s.heap.size ≤ q) [(aM, .inr (6, [.ref aS, .ref aH, .ref aL, .ref aP, .ref aR, .ref aT])), (aS, .inr (3, [.ref aC])), (aC, .inl (cyI, 225, .inl vc)), (aH, .inr (0, [.ref aHs, .int vhf, .int vhl])), (aHs, .inl (cyI, 1575, .inl vhs)), (aL, .inr (4, [.ref aLs, .int vsf_837])), (aLs, .inl (cyI, 450, .inl vss_837)), (aP, .inr (1, [.ref aPc, .int vpl])), (aPc, .inl (cyI, 80, .inl vpp)), (aR, .inr (2, [.ref aP, .ref aRn, .int vra, .int vrk, .int vrt])), (aRn, .inl (cyI, 40, .inl vrn)), (aT, .inr (5, [.ref aTp, .int vtl, .int vta, .int vtt])), (aTp, .inl (cyI, 552, .inl vtp)), (bM, .inr (7, [.ref bN, .ref bQ, .int us, .ref bS, .ref bH, .ref bP, .int up, .int ue, .int ut, .ref bT, .int um])), (bN, .inl (cyI, 225, .inl un)), (bQ, .inl (cyI, 1350, .inl uq)), (bS, .inl (cyI, 450, .inl ul_846)), (bH, .inl (cyZ, 2, .inl uh_846)), (bP, .inl (cyI, 80, .inl ux)), (bT, .inl (cyI, 42, .inl uo))] := hD
        refine lv_icmp_eq (tgt := 877) hx hb dL_law_849 (by decide) (fun hc => ?_) (fun hc => ?_)
        · have hF := k_if_t hF hc
          exact (hG _ _ _).1 (blk_877 x3 vc vhf vhl vhs vsf_837 vss_837 vpl vpp vra vrk vrt vrn vtl vta vtt vtp us up ue ut um un uq ul_846 uh_846 ux uo hF _ _ _ hP hD hS (lv_sub hl [0, 1, 2, 3] rfl))
        · have hF := k_if_f hF hc
          refine lv_iconst (v := (0 : Int32)) hx hb dL_law_852 (by decide) ?_
          exact absurd (Option.some.inj hF) (by decide)
      have blk_854 : ∀ (x3 : Int32) (vc : (Nat → Int32)) (vhf : Int32) (vhl : Int32) (vhs : (Nat → Int32)) (vsf : Int32) (vss : (Nat → Int32)) (vpl : Int32) (vpp : (Nat → Int32)) (vra : Int32) (vrk : Int32) (vrt : Int32) (vrn : (Nat → Int32)) (vtl : Int32) (vta : Int32) (vtt : Int32) (vtp : (Nat → Int32)) (us : Int32) (up : Int32) (ue : Int32) (ut : Int32) (um : Int32) (un : (Nat → Int32)) (uq : (Nat → Int32)) (ul : (Nat → Int32)) (uh : (Nat → Int32)) (ux : (Nat → Int32)) (uo : (Nat → Int32)), b_L_law_854 N L xs (f_L_law_18 N L xs n_18) x3 vc vhf vhl vhs vsf vss vpl vpp vra vrk vrt vrn vtl vta vtt vtp us up ue ut um un uq ul uh ux uo = some 1 → ∀ (H : Heap) (locs : List Loc) (ls : Array Slot), va_P D vwCl [(aM, .inr (6, [.ref aS, .ref aH, .ref aL, .ref aP, .ref aR, .ref aT])), (aS, .inr (3, [.ref aC])), (aC, .inl (cyI, 225, .inl vc)), (aH, .inr (0, [.ref aHs, .int vhf, .int vhl])), (aHs, .inl (cyI, 1575, .inl vhs)), (aL, .inr (4, [.ref aLs, .int vsf])), (aLs, .inl (cyI, 450, .inl vss)), (aP, .inr (1, [.ref aPc, .int vpl])), (aPc, .inl (cyI, 80, .inl vpp)), (aR, .inr (2, [.ref aP, .ref aRn, .int vra, .int vrk, .int vrt])), (aRn, .inl (cyI, 40, .inl vrn)), (aT, .inr (5, [.ref aTp, .int vtl, .int vta, .int vtt])), (aTp, .inl (cyI, 552, .inl vtp)), (bM, .inr (7, [.ref bN, .ref bQ, .int us, .ref bS, .ref bH, .ref bP, .int up, .int ue, .int ut, .ref bT, .int um])), (bN, .inl (cyI, 225, .inl un)), (bQ, .inl (cyI, 1350, .inl uq)), (bS, .inl (cyI, 450, .inl ul)), (bH, .inl (cyZ, 2, .inl uh)), (bP, .inl (cyI, 80, .inl ux)), (bT, .inl (cyI, 42, .inl uo))] H → va_D (fun q : Nat => s.heap.size ≤ q) [(aM, .inr (6, [.ref aS, .ref aH, .ref aL, .ref aP, .ref aR, .ref aT])), (aS, .inr (3, [.ref aC])), (aC, .inl (cyI, 225, .inl vc)), (aH, .inr (0, [.ref aHs, .int vhf, .int vhl])), (aHs, .inl (cyI, 1575, .inl vhs)), (aL, .inr (4, [.ref aLs, .int vsf])), (aLs, .inl (cyI, 450, .inl vss)), (aP, .inr (1, [.ref aPc, .int vpl])), (aPc, .inl (cyI, 80, .inl vpp)), (aR, .inr (2, [.ref aP, .ref aRn, .int vra, .int vrk, .int vrt])), (aRn, .inl (cyI, 40, .inl vrn)), (aT, .inr (5, [.ref aTp, .int vtl, .int vta, .int vtt])), (aTp, .inl (cyI, 552, .inl vtp)), (bM, .inr (7, [.ref bN, .ref bQ, .int us, .ref bS, .ref bH, .ref bP, .int up, .int ue, .int ut, .ref bT, .int um])), (bN, .inl (cyI, 225, .inl un)), (bQ, .inl (cyI, 1350, .inl uq)), (bS, .inl (cyI, 450, .inl ul)), (bH, .inl (cyZ, 2, .inl uh)), (bP, .inl (cyI, 80, .inl ux)), (bT, .inl (cyI, 42, .inl uo))] → va_S (fun q : Nat => s.heap.size ≤ q) s.heap H locs → lv_has ls 4 [(0, .ref b), (1, .ref aM), (2, .ref bM), (3, .int x3)] → G H locs (F0 m 854 ls []) := by
        intro x3 vc vhf vhl vhs vsf vss vpl vpp vra vrk vrt vrn vtl vta vtt vtp us up ue ut um un uq ul uh ux uo hF H locs ls hP hD hS hl
        unfold b_L_law_854 at hF
        refine (hG _ _ _).2 ?_
        refine lv_aload_n hx hb dL_law_854 rfl (lv_at hl 1 rfl) ?_
        refine lv_aload_n hx hb dL_law_855 rfl (lv_at hl 0 rfl) ?_
        refine lv_iload_n hx hb dL_law_856 rfl (lv_at hl 3 rfl) ?_
        refine lv_iconst (v := (1 : Int32)) hx hb dL_law_857 (by decide) ?_
        refine lv_iadd hx hb dL_law_858 ?_
        obtain ⟨r859, hin, hn, hF⟩ := k_ld_ex hF
        refine va_sld hx hb hX hbl hbA hS hin dL_law_859 ?_
        refine x_nm hn ?_
        obtain ⟨r860, vc_860, vhf_860, vhl_860, vhs_860, hC, hF⟩ := k_c5_ex hF
        refine x_VM (As := [.int r859]) (rest := []) ⟨hx, hb, hml, hown, hts⟩ (c_X6_restore l D cyI cyZ aM aS aC aH aHs aL aLs aP aR aT H.size N r859 vc vhf vhl vhs vsf vss hC) (cwV 1 hts gL_law_X6_restore rfl rfl rfl (by decide +kernel) ⟨Nat.le_of_ble_eq_true rfl, Nat.le_of_ble_eq_true rfl⟩) hK hP hD hS hA [0, 1, 2, 3, 4, 5, 6] rfl rfl rfl 0 rfl rfl rfl rfl hl.1 rfl (Nat.le_of_ble_eq_true rfl) ⟨Nat.le_of_ble_eq_true rfl, Nat.le_of_ble_eq_true rfl⟩ dL_law_860 (fun H locs hP hD hS => ?_)
        have hP : va_P D vwCl [(aM, .inr (6, [.ref aS, .ref aH, .ref aL, .ref aP, .ref aR, .ref aT])), (aS, .inr (3, [.ref aC])), (aC, .inl (cyI, 225, .inl vc_860)), (aH, .inr (0, [.ref aHs, .int vhf_860, .int vhl_860])), (aHs, .inl (cyI, 1575, .inl vhs_860)), (aL, .inr (4, [.ref aLs, .int vsf])), (aLs, .inl (cyI, 450, .inl vss)), (aP, .inr (1, [.ref aPc, .int vpl])), (aPc, .inl (cyI, 80, .inl vpp)), (aR, .inr (2, [.ref aP, .ref aRn, .int vra, .int vrk, .int vrt])), (aRn, .inl (cyI, 40, .inl vrn)), (aT, .inr (5, [.ref aTp, .int vtl, .int vta, .int vtt])), (aTp, .inl (cyI, 552, .inl vtp)), (bM, .inr (7, [.ref bN, .ref bQ, .int us, .ref bS, .ref bH, .ref bP, .int up, .int ue, .int ut, .ref bT, .int um])), (bN, .inl (cyI, 225, .inl un)), (bQ, .inl (cyI, 1350, .inl uq)), (bS, .inl (cyI, 450, .inl ul)), (bH, .inl (cyZ, 2, .inl uh)), (bP, .inl (cyI, 80, .inl ux)), (bT, .inl (cyI, 42, .inl uo))] H := hP
        have hD : va_D (fun q : Nat => s.heap.size ≤ q) [(aM, .inr (6, [.ref aS, .ref aH, .ref aL, .ref aP, .ref aR, .ref aT])), (aS, .inr (3, [.ref aC])), (aC, .inl (cyI, 225, .inl vc_860)), (aH, .inr (0, [.ref aHs, .int vhf_860, .int vhl_860])), (aHs, .inl (cyI, 1575, .inl vhs_860)), (aL, .inr (4, [.ref aLs, .int vsf])), (aLs, .inl (cyI, 450, .inl vss)), (aP, .inr (1, [.ref aPc, .int vpl])), (aPc, .inl (cyI, 80, .inl vpp)), (aR, .inr (2, [.ref aP, .ref aRn, .int vra, .int vrk, .int vrt])), (aRn, .inl (cyI, 40, .inl vrn)), (aT, .inr (5, [.ref aTp, .int vtl, .int vta, .int vtt])), (aTp, .inl (cyI, 552, .inl vtp)), (bM, .inr (7, [.ref bN, .ref bQ, .int us, .ref bS, .ref bH, .ref bP, .int up, .int ue, .int ut, .ref bT, .int um])), (bN, .inl (cyI, 225, .inl un)), (bQ, .inl (cyI, 1350, .inl uq)), (bS, .inl (cyI, 450, .inl ul)), (bH, .inl (cyZ, 2, .inl uh)), (bP, .inl (cyI, 80, .inl ux)), (bT, .inl (cyI, 42, .inl uo))] := hD
        refine lv_aload_n hx hb dL_law_863 rfl (lv_at hl 2 rfl) ?_
        refine lv_aload_n hx hb dL_law_864 rfl (lv_at hl 0 rfl) ?_
        refine lv_iload_n hx hb dL_law_865 rfl (lv_at hl 3 rfl) ?_
        refine lv_iconst (v := (1 : Int32)) hx hb dL_law_866 (by decide) ?_
        refine lv_iadd hx hb dL_law_867 ?_
        obtain ⟨r868, hin, hn, hF⟩ := k_ld_ex hF
        refine va_sld hx hb hX hbl hbA hS hin dL_law_868 ?_
        refine x_nm hn ?_
        obtain ⟨r869, us_869, un_869, uq_869, hC, hF⟩ := k_c4_ex hF
        refine x_VM (As := [.int r868]) (rest := [.int r860]) ⟨hx, hb, hml, hown, hts⟩ (c_X7_restore l D cyI cyZ bM bN bQ bS bH bP bT H.size N r868 us up ue ut um un uq ul uh hC) (cwV 1 hts gL_law_X7_restore rfl rfl rfl (by decide +kernel) ⟨Nat.le_of_ble_eq_true rfl, Nat.le_of_ble_eq_true rfl⟩) hK hP hD hS hA [13, 14, 15, 16, 17] rfl rfl rfl 13 rfl rfl rfl rfl hl.1 rfl (Nat.le_of_ble_eq_true rfl) ⟨Nat.le_of_ble_eq_true rfl, Nat.le_of_ble_eq_true rfl⟩ dL_law_869 (fun H locs hP hD hS => ?_)
        have hP : va_P D vwCl [(aM, .inr (6, [.ref aS, .ref aH, .ref aL, .ref aP, .ref aR, .ref aT])), (aS, .inr (3, [.ref aC])), (aC, .inl (cyI, 225, .inl vc_860)), (aH, .inr (0, [.ref aHs, .int vhf_860, .int vhl_860])), (aHs, .inl (cyI, 1575, .inl vhs_860)), (aL, .inr (4, [.ref aLs, .int vsf])), (aLs, .inl (cyI, 450, .inl vss)), (aP, .inr (1, [.ref aPc, .int vpl])), (aPc, .inl (cyI, 80, .inl vpp)), (aR, .inr (2, [.ref aP, .ref aRn, .int vra, .int vrk, .int vrt])), (aRn, .inl (cyI, 40, .inl vrn)), (aT, .inr (5, [.ref aTp, .int vtl, .int vta, .int vtt])), (aTp, .inl (cyI, 552, .inl vtp)), (bM, .inr (7, [.ref bN, .ref bQ, .int us_869, .ref bS, .ref bH, .ref bP, .int up, .int ue, .int ut, .ref bT, .int um])), (bN, .inl (cyI, 225, .inl un_869)), (bQ, .inl (cyI, 1350, .inl uq_869)), (bS, .inl (cyI, 450, .inl ul)), (bH, .inl (cyZ, 2, .inl uh)), (bP, .inl (cyI, 80, .inl ux)), (bT, .inl (cyI, 42, .inl uo))] H := hP
        have hD : va_D (fun q : Nat => s.heap.size ≤ q) [(aM, .inr (6, [.ref aS, .ref aH, .ref aL, .ref aP, .ref aR, .ref aT])), (aS, .inr (3, [.ref aC])), (aC, .inl (cyI, 225, .inl vc_860)), (aH, .inr (0, [.ref aHs, .int vhf_860, .int vhl_860])), (aHs, .inl (cyI, 1575, .inl vhs_860)), (aL, .inr (4, [.ref aLs, .int vsf])), (aLs, .inl (cyI, 450, .inl vss)), (aP, .inr (1, [.ref aPc, .int vpl])), (aPc, .inl (cyI, 80, .inl vpp)), (aR, .inr (2, [.ref aP, .ref aRn, .int vra, .int vrk, .int vrt])), (aRn, .inl (cyI, 40, .inl vrn)), (aT, .inr (5, [.ref aTp, .int vtl, .int vta, .int vtt])), (aTp, .inl (cyI, 552, .inl vtp)), (bM, .inr (7, [.ref bN, .ref bQ, .int us_869, .ref bS, .ref bH, .ref bP, .int up, .int ue, .int ut, .ref bT, .int um])), (bN, .inl (cyI, 225, .inl un_869)), (bQ, .inl (cyI, 1350, .inl uq_869)), (bS, .inl (cyI, 450, .inl ul)), (bH, .inl (cyZ, 2, .inl uh)), (bP, .inl (cyI, 80, .inl ux)), (bT, .inl (cyI, 42, .inl uo))] := hD
        refine lv_icmp_eq (tgt := 877) hx hb dL_law_872 (by decide) (fun hc => ?_) (fun hc => ?_)
        · have hF := k_if_t hF hc
          exact (hG _ _ _).1 (blk_877 x3 vc_860 vhf_860 vhl_860 vhs_860 vsf vss vpl vpp vra vrk vrt vrn vtl vta vtt vtp us_869 up ue ut um un_869 uq_869 ul uh ux uo hF _ _ _ hP hD hS (lv_sub hl [0, 1, 2, 3] rfl))
        · have hF := k_if_f hF hc
          refine lv_iconst (v := (0 : Int32)) hx hb dL_law_875 (by decide) ?_
          exact absurd (Option.some.inj hF) (by decide)
      intro x3 vc vhf vhl vhs vsf vss vpl vpp vra vrk vrt vrn vtl vta vtt vtp us up ue ut um un uq ul uh ux uo hF H locs ls hP hD hS hl
      replace hF : b_L_law_18 N L xs (f_L_law_18 N L xs n_18) x3 vc vhf vhl vhs vsf vss vpl vpp vra vrk vrt vrn vtl vta vtt vtp us up ue ut um un uq ul uh ux uo = some 1 := hF
      unfold b_L_law_18 at hF
      refine (hG _ _ _).2 ?_
      refine lv_iload_n hx hb dL_law_18 rfl (lv_at hl 3 rfl) ?_
      refine lv_aload_n hx hb dL_law_19 rfl (lv_at hl 0 rfl) ?_
      refine va_slen hx hb hX hbl hbA hS dL_law_20 ?_
      refine lv_bipush (v := (7 : Int32)) hx hb dL_law_21 (by decide) ?_
      refine lv_isub hx hb dL_law_23 ?_
      refine lv_icmp_gt (tgt := 883) hx hb dL_law_24 (by decide) (fun hc => ?_) (fun hc => ?_)
      · have hF := k_if_t hF hc
        refine lv_iconst (v := (1 : Int32)) hx hb dL_law_883 (by decide) ?_
        refine va_forget (fun q hq => hS.2.2 q hq) ?_
        exact lw_ret hx hb hr hlocks dL_law_884
      · have hF := k_if_f hF hc
        refine lv_aload_n hx hb dL_law_27 rfl (lv_at hl 0 rfl) ?_
        refine lv_iload_n hx hb dL_law_28 rfl (lv_at hl 3 rfl) ?_
        obtain ⟨r29, hin, hn, hF⟩ := k_ld_ex hF
        refine va_sld hx hb hX hbl hbA hS hin dL_law_29 ?_
        refine x_nm hn ?_
        refine lv_bipush (v := (31 : Int32)) hx hb dL_law_30 (by decide) ?_
        refine lv_iand hx hb dL_law_32 ?_
        obtain ⟨w33, hn, hF⟩ := k_let_ex hF
        refine x_nm hn ?_
        by_cases h0 : w33 = (0 : Int32)
        · have hF := k_if_t hF h0
          refine lv_tableIn (tgt := 132) (off := 99) hx hb dL_law_33 (by rw [h0]; decide) (by rw [h0]; decide) (by rw [h0]; decide) (by decide) ?_
          exact (hG _ _ _).1 (blk_132 x3 vc vhf vhl vhs vsf vss vpl vpp vra vrk vrt vrn vtl vta vtt vtp us up ue ut um un uq ul uh ux uo hF _ _ _ hP hD hS (lv_sub hl [0, 1, 2, 3] rfl))
        · have hF := k_if_f hF h0
          by_cases h1 : w33 = (1 : Int32)
          · have hF := k_if_t hF h1
            refine lv_tableIn (tgt := 165) (off := 132) hx hb dL_law_33 (by rw [h1]; decide) (by rw [h1]; decide) (by rw [h1]; decide) (by decide) ?_
            exact (hG _ _ _).1 (blk_165 x3 vc vhf vhl vhs vsf vss vpl vpp vra vrk vrt vrn vtl vta vtt vtp us up ue ut um un uq ul uh ux uo hF _ _ _ hP hD hS (lv_sub hl [0, 1, 2, 3] rfl))
          · have hF := k_if_f hF h1
            by_cases h2 : w33 = (2 : Int32)
            · have hF := k_if_t hF h2
              refine lv_tableIn (tgt := 198) (off := 165) hx hb dL_law_33 (by rw [h2]; decide) (by rw [h2]; decide) (by rw [h2]; decide) (by decide) ?_
              exact (hG _ _ _).1 (blk_198 x3 vc vhf vhl vhs vsf vss vpl vpp vra vrk vrt vrn vtl vta vtt vtp us up ue ut um un uq ul uh ux uo hF _ _ _ hP hD hS (lv_sub hl [0, 1, 2, 3] rfl))
            · have hF := k_if_f hF h2
              by_cases h3 : w33 = (3 : Int32)
              · have hF := k_if_t hF h3
                refine lv_tableIn (tgt := 241) (off := 208) hx hb dL_law_33 (by rw [h3]; decide) (by rw [h3]; decide) (by rw [h3]; decide) (by decide) ?_
                exact (hG _ _ _).1 (blk_241 x3 vc vhf vhl vhs vsf vss vpl vpp vra vrk vrt vrn vtl vta vtt vtp us up ue ut um un uq ul uh ux uo hF _ _ _ hP hD hS (lv_sub hl [0, 1, 2, 3] rfl))
              · have hF := k_if_f hF h3
                by_cases h4 : w33 = (4 : Int32)
                · have hF := k_if_t hF h4
                  refine lv_tableIn (tgt := 264) (off := 231) hx hb dL_law_33 (by rw [h4]; decide) (by rw [h4]; decide) (by rw [h4]; decide) (by decide) ?_
                  exact (hG _ _ _).1 (blk_264 x3 vc vhf vhl vhs vsf vss vpl vpp vra vrk vrt vrn vtl vta vtt vtp us up ue ut um un uq ul uh ux uo hF _ _ _ hP hD hS (lv_sub hl [0, 1, 2, 3] rfl))
                · have hF := k_if_f hF h4
                  by_cases h5 : w33 = (5 : Int32)
                  · have hF := k_if_t hF h5
                    refine lv_tableIn (tgt := 297) (off := 264) hx hb dL_law_33 (by rw [h5]; decide) (by rw [h5]; decide) (by rw [h5]; decide) (by decide) ?_
                    exact (hG _ _ _).1 (blk_297 x3 vc vhf vhl vhs vsf vss vpl vpp vra vrk vrt vrn vtl vta vtt vtp us up ue ut um un uq ul uh ux uo hF _ _ _ hP hD hS (lv_sub hl [0, 1, 2, 3] rfl))
                  · have hF := k_if_f hF h5
                    by_cases h6 : w33 = (6 : Int32)
                    · have hF := k_if_t hF h6
                      refine lv_tableIn (tgt := 372) (off := 339) hx hb dL_law_33 (by rw [h6]; decide) (by rw [h6]; decide) (by rw [h6]; decide) (by decide) ?_
                      exact (hG _ _ _).1 (blk_372 x3 vc vhf vhl vhs vsf vss vpl vpp vra vrk vrt vrn vtl vta vtt vtp us up ue ut um un uq ul uh ux uo hF _ _ _ hP hD hS (lv_sub hl [0, 1, 2, 3] rfl))
                    · have hF := k_if_f hF h6
                      by_cases h7 : w33 = (7 : Int32)
                      · have hF := k_if_t hF h7
                        refine lv_tableIn (tgt := 405) (off := 372) hx hb dL_law_33 (by rw [h7]; decide) (by rw [h7]; decide) (by rw [h7]; decide) (by decide) ?_
                        exact (hG _ _ _).1 (blk_405 x3 vc vhf vhl vhs vsf vss vpl vpp vra vrk vrt vrn vtl vta vtt vtp us up ue ut um un uq ul uh ux uo hF _ _ _ hP hD hS (lv_sub hl [0, 1, 2, 3] rfl))
                      · have hF := k_if_f hF h7
                        by_cases h8 : w33 = (8 : Int32)
                        · have hF := k_if_t hF h8
                          refine lv_tableIn (tgt := 438) (off := 405) hx hb dL_law_33 (by rw [h8]; decide) (by rw [h8]; decide) (by rw [h8]; decide) (by decide) ?_
                          exact (hG _ _ _).1 (blk_438 x3 vc vhf vhl vhs vsf vss vpl vpp vra vrk vrt vrn vtl vta vtt vtp us up ue ut um un uq ul uh ux uo hF _ _ _ hP hD hS (lv_sub hl [0, 1, 2, 3] rfl))
                        · have hF := k_if_f hF h8
                          by_cases h9 : w33 = (9 : Int32)
                          · have hF := k_if_t hF h9
                            refine lv_tableIn (tgt := 461) (off := 428) hx hb dL_law_33 (by rw [h9]; decide) (by rw [h9]; decide) (by rw [h9]; decide) (by decide) ?_
                            exact (hG _ _ _).1 (blk_461 x3 vc vhf vhl vhs vsf vss vpl vpp vra vrk vrt vrn vtl vta vtt vtp us up ue ut um un uq ul uh ux uo hF _ _ _ hP hD hS (lv_sub hl [0, 1, 2, 3] rfl))
                          · have hF := k_if_f hF h9
                            by_cases h10 : w33 = (10 : Int32)
                            · have hF := k_if_t hF h10
                              refine lv_tableIn (tgt := 524) (off := 491) hx hb dL_law_33 (by rw [h10]; decide) (by rw [h10]; decide) (by rw [h10]; decide) (by decide) ?_
                              exact (hG _ _ _).1 (blk_524 x3 vc vhf vhl vhs vsf vss vpl vpp vra vrk vrt vrn vtl vta vtt vtp us up ue ut um un uq ul uh ux uo hF _ _ _ hP hD hS (lv_sub hl [0, 1, 2, 3] rfl))
                            · have hF := k_if_f hF h10
                              by_cases h11 : w33 = (11 : Int32)
                              · have hF := k_if_t hF h11
                                refine lv_tableIn (tgt := 587) (off := 554) hx hb dL_law_33 (by rw [h11]; decide) (by rw [h11]; decide) (by rw [h11]; decide) (by decide) ?_
                                exact (hG _ _ _).1 (blk_587 x3 vc vhf vhl vhs vsf vss vpl vpp vra vrk vrt vrn vtl vta vtt vtp us up ue ut um un uq ul uh ux uo hF _ _ _ hP hD hS (lv_sub hl [0, 1, 2, 3] rfl))
                              · have hF := k_if_f hF h11
                                by_cases h12 : w33 = (12 : Int32)
                                · have hF := k_if_t hF h12
                                  refine lv_tableIn (tgt := 630) (off := 597) hx hb dL_law_33 (by rw [h12]; decide) (by rw [h12]; decide) (by rw [h12]; decide) (by decide) ?_
                                  exact (hG _ _ _).1 (blk_630 x3 vc vhf vhl vhs vsf vss vpl vpp vra vrk vrt vrn vtl vta vtt vtp us up ue ut um un uq ul uh ux uo hF _ _ _ hP hD hS (lv_sub hl [0, 1, 2, 3] rfl))
                                · have hF := k_if_f hF h12
                                  by_cases h13 : w33 = (13 : Int32)
                                  · have hF := k_if_t hF h13
                                    refine lv_tableIn (tgt := 673) (off := 640) hx hb dL_law_33 (by rw [h13]; decide) (by rw [h13]; decide) (by rw [h13]; decide) (by decide) ?_
                                    exact (hG _ _ _).1 (blk_673 x3 vc vhf vhl vhs vsf vss vpl vpp vra vrk vrt vrn vtl vta vtt vtp us up ue ut um un uq ul uh ux uo hF _ _ _ hP hD hS (lv_sub hl [0, 1, 2, 3] rfl))
                                  · have hF := k_if_f hF h13
                                    by_cases h14 : w33 = (14 : Int32)
                                    · have hF := k_if_t hF h14
                                      refine lv_tableIn (tgt := 726) (off := 693) hx hb dL_law_33 (by rw [h14]; decide) (by rw [h14]; decide) (by rw [h14]; decide) (by decide) ?_
                                      exact (hG _ _ _).1 (blk_726 x3 vc vhf vhl vhs vsf vss vpl vpp vra vrk vrt vrn vtl vta vtt vtp us up ue ut um un uq ul uh ux uo hF _ _ _ hP hD hS (lv_sub hl [0, 1, 2, 3] rfl))
                                    · have hF := k_if_f hF h14
                                      by_cases h15 : w33 = (15 : Int32)
                                      · have hF := k_if_t hF h15
                                        refine lv_tableIn (tgt := 779) (off := 746) hx hb dL_law_33 (by rw [h15]; decide) (by rw [h15]; decide) (by rw [h15]; decide) (by decide) ?_
                                        exact (hG _ _ _).1 (blk_779 x3 vc vhf vhl vhs vsf vss vpl vpp vra vrk vrt vrn vtl vta vtt vtp us up ue ut um un uq ul uh ux uo hF _ _ _ hP hD hS (lv_sub hl [0, 1, 2, 3] rfl))
                                      · have hF := k_if_f hF h15
                                        by_cases h16 : w33 = (16 : Int32)
                                        · have hF := k_if_t hF h16
                                          refine lv_tableIn (tgt := 792) (off := 759) hx hb dL_law_33 (by rw [h16]; decide) (by rw [h16]; decide) (by rw [h16]; decide) (by decide) ?_
                                          exact (hG _ _ _).1 (blk_792 x3 vc vhf vhl vhs vsf vss vpl vpp vra vrk vrt vrn vtl vta vtt vtp us up ue ut um un uq ul uh ux uo hF _ _ _ hP hD hS (lv_sub hl [0, 1, 2, 3] rfl))
                                        · have hF := k_if_f hF h16
                                          by_cases h17 : w33 = (17 : Int32)
                                          · have hF := k_if_t hF h17
                                            refine lv_tableIn (tgt := 805) (off := 772) hx hb dL_law_33 (by rw [h17]; decide) (by rw [h17]; decide) (by rw [h17]; decide) (by decide) ?_
                                            exact (hG _ _ _).1 (blk_805 x3 vc vhf vhl vhs vsf vss vpl vpp vra vrk vrt vrn vtl vta vtt vtp us up ue ut um un uq ul uh ux uo hF _ _ _ hP hD hS (lv_sub hl [0, 1, 2, 3] rfl))
                                          · have hF := k_if_f hF h17
                                            by_cases h18 : w33 = (18 : Int32)
                                            · have hF := k_if_t hF h18
                                              refine lv_tableIn (tgt := 818) (off := 785) hx hb dL_law_33 (by rw [h18]; decide) (by rw [h18]; decide) (by rw [h18]; decide) (by decide) ?_
                                              exact (hG _ _ _).1 (blk_818 x3 vc vhf vhl vhs vsf vss vpl vpp vra vrk vrt vrn vtl vta vtt vtp us up ue ut um un uq ul uh ux uo hF _ _ _ hP hD hS (lv_sub hl [0, 1, 2, 3] rfl))
                                            · have hF := k_if_f hF h18
                                              by_cases h19 : w33 = (19 : Int32)
                                              · have hF := k_if_t hF h19
                                                refine lv_tableIn (tgt := 831) (off := 798) hx hb dL_law_33 (by rw [h19]; decide) (by rw [h19]; decide) (by rw [h19]; decide) (by decide) ?_
                                                exact (hG _ _ _).1 (blk_831 x3 vc vhf vhl vhs vsf vss vpl vpp vra vrk vrt vrn vtl vta vtt vtp us up ue ut um un uq ul uh ux uo hF _ _ _ hP hD hS (lv_sub hl [0, 1, 2, 3] rfl))
                                              · have hF := k_if_f hF h19
                                                by_cases h20 : w33 = (20 : Int32)
                                                · have hF := k_if_t hF h20
                                                  refine lv_tableIn (tgt := 854) (off := 821) hx hb dL_law_33 (by rw [h20]; decide) (by rw [h20]; decide) (by rw [h20]; decide) (by decide) ?_
                                                  exact (hG _ _ _).1 (blk_854 x3 vc vhf vhl vhs vsf vss vpl vpp vra vrk vrt vrn vtl vta vtt vtp us up ue ut um un uq ul uh ux uo hF _ _ _ hP hD hS (lv_sub hl [0, 1, 2, 3] rfl))
                                                · have hF := k_if_f hF h20
                                                  have q0 := lv_neT (k := (0 : Int32)) (a := 0) h0 (by decide)
                                                  have q1 := lv_neT (k := (1 : Int32)) (a := 1) h1 (by decide)
                                                  have q2 := lv_neT (k := (2 : Int32)) (a := 2) h2 (by decide)
                                                  have q3 := lv_neT (k := (3 : Int32)) (a := 3) h3 (by decide)
                                                  have q4 := lv_neT (k := (4 : Int32)) (a := 4) h4 (by decide)
                                                  have q5 := lv_neT (k := (5 : Int32)) (a := 5) h5 (by decide)
                                                  have q6 := lv_neT (k := (6 : Int32)) (a := 6) h6 (by decide)
                                                  have q7 := lv_neT (k := (7 : Int32)) (a := 7) h7 (by decide)
                                                  have q8 := lv_neT (k := (8 : Int32)) (a := 8) h8 (by decide)
                                                  have q9 := lv_neT (k := (9 : Int32)) (a := 9) h9 (by decide)
                                                  have q10 := lv_neT (k := (10 : Int32)) (a := 10) h10 (by decide)
                                                  have q11 := lv_neT (k := (11 : Int32)) (a := 11) h11 (by decide)
                                                  have q12 := lv_neT (k := (12 : Int32)) (a := 12) h12 (by decide)
                                                  have q13 := lv_neT (k := (13 : Int32)) (a := 13) h13 (by decide)
                                                  have q14 := lv_neT (k := (14 : Int32)) (a := 14) h14 (by decide)
                                                  have q15 := lv_neT (k := (15 : Int32)) (a := 15) h15 (by decide)
                                                  have q16 := lv_neT (k := (16 : Int32)) (a := 16) h16 (by decide)
                                                  have q17 := lv_neT (k := (17 : Int32)) (a := 17) h17 (by decide)
                                                  have q18 := lv_neT (k := (18 : Int32)) (a := 18) h18 (by decide)
                                                  have q19 := lv_neT (k := (19 : Int32)) (a := 19) h19 (by decide)
                                                  have q20 := lv_neT (k := (20 : Int32)) (a := 20) h20 (by decide)
                                                  refine lv_tableOut (tgt := 877) hx hb dL_law_33 (by omega) (by decide) ?_
                                                  exact (hG _ _ _).1 (blk_877 x3 vc vhf vhl vhs vsf vss vpl vpp vra vrk vrt vrn vtl vta vtt vtp us up ue ut um un uq ul uh ux uo hF _ _ _ hP hD hS (lv_sub hl [0, 1, 2, 3] rfl))
  intro n_18 x3 vc vhf vhl vhs vsf vss vpl vpp vra vrk vrt vrn vtl vta vtt vtp us up ue ut um un uq ul uh ux uo hF H locs ls hP hD hS hl
  exact (hG _ _ _).1 (blk_18 n_18 x3 vc vhf vhl vhs vsf vss vpl vpp vra vrk vrt vrn vtl vta vtt vtp us up ue ut um un uq ul uh ux uo hF H locs ls hP hD hS hl)
theorem x_arrI {args : Array Value} {s : State} (h : (Cond.arrayClass .int).before args s = true) : ∃ cA : ClassId, ArrOfT s cA .int ∧ va_RA s cA .int := by
  obtain ⟨cA, kA, comp, h1, h2, h3⟩ := Cond.arrayClass_spec h
  exact ⟨cA, fun n z => ⟨fun k h => (by cases h), kA, h2, comp, h3⟩, h1⟩
theorem x_arrZ {args : Array Value} {s : State} (h : (Cond.arrayClass .boolean).before args s = true) : ∃ cA : ClassId, ArrOfT s cA .boolean ∧ va_RA s cA .boolean := by
  obtain ⟨cA, kA, comp, h1, h2, h3⟩ := Cond.arrayClass_spec h
  exact ⟨cA, fun n z => ⟨fun k h => (by cases h), kA, h2, comp, h3⟩, h1⟩
theorem x_start_K {s : State} {a : Array Value} (hts0 : ∀ w ∈ lw_tbl, w.before a s = true) : ∃ (D : va_G) (cyI cyZ : ClassId), x_K D cyI cyZ s := by
  have hts := fun w h => hts0 w (wsL_law_in w h)
  obtain ⟨c0, i0, k0⟩ := u_known (C := RX0) (T := TX0) (N := 3) (n := 3) hts0 inX0 (hts (.instantiable RX0 3) (List.mem_of_getElem? (i := 18) rfl))
  obtain ⟨c1, i1, k1⟩ := u_known (C := RX1) (T := TX1) (N := 2) (n := 2) hts0 inX1 (hts (.instantiable RX1 2) (List.mem_of_getElem? (i := 26) rfl))
  obtain ⟨c2, i2, k2⟩ := u_known (C := RX2) (T := TX2) (N := 5) (n := 5) hts0 inX2 (hts (.instantiable RX2 5) (List.mem_of_getElem? (i := 30) rfl))
  obtain ⟨c3, i3, k3⟩ := u_known (C := RX3) (T := TX3) (N := 1) (n := 1) hts0 inX3 (hts (.instantiable RX3 1) (List.mem_of_getElem? (i := 14) rfl))
  obtain ⟨c4, i4, k4⟩ := u_known (C := RX4) (T := TX4) (N := 2) (n := 2) hts0 inX4 (hts (.instantiable RX4 2) (List.mem_of_getElem? (i := 22) rfl))
  obtain ⟨c5, i5, k5⟩ := u_known (C := RX5) (T := TX5) (N := 4) (n := 4) hts0 inX5 (hts (.instantiable RX5 4) (List.mem_of_getElem? (i := 34) rfl))
  obtain ⟨c6, i6, k6⟩ := u_known (C := RX6) (T := TX6) (N := 6) (n := 6) hts0 inX6 (hts (.instantiable RX6 6) (List.mem_of_getElem? (i := 1) rfl))
  obtain ⟨c7, i7, k7⟩ := u_known (C := RX7) (T := TX7) (N := 11) (n := 11) hts0 inX7 (hts (.instantiable RX7 11) (List.mem_of_getElem? (i := 4) rfl))
  obtain ⟨cyI, h1, h2⟩ := x_arrI (hts (.arrayClass .int) (List.mem_of_getElem? (i := 41) rfl))
  obtain ⟨cyZ, h3, h4⟩ := x_arrZ (hts (.arrayClass .boolean) (List.mem_of_getElem? (i := 72) rfl))
  refine ⟨(fun k => [c0, c1, c2, c3, c4, c5, c6, c7].getD k 0, fun k => [i0, i1, i2, i3, i4, i5, i6, i7].getD k (fun _ => 0)), cyI, cyZ, ⟨fun k q hq => ?_, fun k q hq => ?_⟩, va_Nw.of rfl (hts0 (.methodLinkNest RX3 23 yX6_outside RX6) (List.mem_of_getElem? (i := 200) (by decide +kernel))), va_Nw.of rfl (hts0 (.methodLinkNest RX1 31 yX6_outside RX6) (List.mem_of_getElem? (i := 464) (by decide +kernel))), va_Nw.of rfl (hts0 (.methodLinkNest RX2 69 yX6_outside RX6) (List.mem_of_getElem? (i := 513) (by decide +kernel))), va_Nw.of rfl (hts0 (.methodLinkNest RX4 17 yX6_outside RX6) (List.mem_of_getElem? (i := 574) (by decide +kernel))), va_Nw.of rfl (hts0 (.methodLinkNest RX6 18 yX0_init RX6) (List.mem_of_getElem? (i := 81) (by decide +kernel))), va_Nw.of rfl (hts0 (.methodLinkNest RX6 25 yX4_init RX6) (List.mem_of_getElem? (i := 97) (by decide +kernel))), va_Nw.of rfl (hts0 (.methodLinkNest RX6 32 yX1_init RX6) (List.mem_of_getElem? (i := 110) (by decide +kernel))), va_Nw.of rfl (hts0 (.methodLinkNest RX6 48 yX5_init RX6) (List.mem_of_getElem? (i := 145) (by decide +kernel)))⟩
  · match k, hq with
    | 0, hq => cases hq; exact k0
    | 1, hq => cases hq; exact k1
    | 2, hq => cases hq; exact k2
    | 3, hq => cases hq; exact k3
    | 4, hq => cases hq; exact k4
    | 5, hq => cases hq; exact k5
    | 6, hq => cases hq; exact k6
    | 7, hq => cases hq; exact k7
    | k + 8, hq => simp [vwCl] at hq
  · match k, hq with
    | 0, hq => cases hq; exact ⟨h1, h2⟩
    | 1, hq => cases hq; exact ⟨h3, h4⟩
    | k + 2, hq => simp at hq
