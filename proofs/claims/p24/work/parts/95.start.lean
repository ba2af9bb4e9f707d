-- the pieces at the start: (upd (upd (upd (upd (upd (fun _ => 0) 1 (5 : Int32)) 2 (5 : Int32)) 6 (6 : Int32)) 7 (4 : Int32)) 8 (20 : Int32)) (0 : Int32) (0 : Int32) (fun _ => 0) (0 : Int32) (fun _ => 0) (0 : Int32) (fun _ => 0) (0 : Int32) (0 : Int32) (0 : Int32) (fun _ => 0) (0 : Int32) (0 : Int32) (0 : Int32) (fun _ => 0) (fun _ => 0)
set_option maxHeartbeats 8000000 in
set_option maxRecDepth 100000 in
theorem whole_start {p : Program} {e : Env} {s : State} {m : MethodId} {below : List Frame} {meth : Method} {c : Code} (l : Launch) (hflags : l.flags = flags0) {b L : Nat} {xs : Nat → Int32} (hL : L ≤ 260) (C0 : lw_At p s m meth c b L xs) : W p l e room_1 s m #[Value.ref b] below meth c s.heap [] 0 0 (lw_Z below #[Value.ref b] s) (entryFrame m ([Value.ref b] : List Value).toArray 13) := by
  obtain ⟨hx, hb, hr, hml, hown, hts0, hX, hbl, hlocks, hgv⟩ := id C0
  have hts := fun w h => hts0 w (wsL_law_in w h)
  have hown : s.vm.findClass RL = some m.cls := hown
  obtain ⟨D, cyI, cyZ, hK⟩ := x_start_K hts0
  have hA : ∀ q : Nat, s.heap.size ≤ q → (fun q : Nat => s.heap.size ≤ q) q := fun _ h => h
  have hS : va_S (fun q : Nat => s.heap.size ≤ q) s.heap s.heap [] := va_S.rf
  have hl := lv_entry ([.ref b]) (n := 13) (Nat.le_of_ble_eq_true rfl)
  rw [lg_entry_eq]
  generalize (lg_sl ([.ref b]) ++ List.replicate (13 - (lg_sl ([.ref b])).length) Slot.unset).toArray = ls at hl ⊢
  have hl : lv_has ls 13 [(0, .ref b)] := hl
  refine va_calli (va_runS (H := s.heap) (locs := []) (As := []) (rest := []) ⟨hx, hb, hml, hown, hts⟩ (c_L_mesh l D cyI cyZ s.heap.size 20000 mesh_ok) (va_cwS 0 hts gL_law_L_mesh rfl rfl rfl (by decide +kernel) ⟨Nat.le_of_ble_eq_true rfl, Nat.le_of_ble_eq_true rfl⟩) ⟨x_blindM, x_pre0 hK⟩ rfl rfl hl.1 rfl (lv_room (Nat.le_of_ble_eq_true rfl)) dL_law_0 ⟨Nat.le_of_ble_eq_true rfl, Nat.le_of_ble_eq_true rfl⟩) hS (fun q _ h => x_free0 hS h) (fun q h => x_free0 hS h) (fun r u t H locs ht hvm hw hB hz1 hk1 hS => ?_)
  have hw : r = 1 := hw
  subst hw
  refine W.widen (k := 13) (n := 2945) (Nat.le_of_ble_eq_true rfl) (Nat.le_of_ble_eq_true rfl) ?_
  refine lv_if_eq (tgt := 18) hx hb dL_law_3 (by decide) (fun hc => absurd hc (by decide)) (fun _ => ?_)
  refine va_calli (va_runS (H := H) (locs := locs) (As := []) (rest := []) ⟨hx, hb, hml, hown, hts⟩ (c_L_limits l D cyI cyZ H.size 20000 limits_ok) (va_cwS 0 hts gL_law_L_limits rfl rfl rfl (by decide +kernel) ⟨Nat.le_of_ble_eq_true rfl, Nat.le_of_ble_eq_true rfl⟩) ⟨x_blindM, x_pre0 hK⟩ rfl rfl hl.1 rfl (lv_room (Nat.le_of_ble_eq_true rfl)) dL_law_6 ⟨Nat.le_of_ble_eq_true rfl, Nat.le_of_ble_eq_true rfl⟩) hS (fun q _ h => x_free0 hS h) (fun q h => x_free0 hS h) (fun r u t H locs ht hvm hw hB hz1 hk1 hS => ?_)
  have hw : r = 1 := hw
  subst hw
  refine W.widen (k := 26) (n := 5890) (Nat.le_of_ble_eq_true rfl) (Nat.le_of_ble_eq_true rfl) ?_
  refine lv_if_eq (tgt := 18) hx hb dL_law_9 (by decide) (fun hc => absurd hc (by decide)) (fun _ => ?_)
  refine va_calli (va_runS (H := H) (locs := locs) (As := []) (rest := []) ⟨hx, hb, hml, hown, hts⟩ (c_L_texts l D cyI cyZ H.size 20000 texts_ok) (va_cwS 0 hts gL_law_L_texts rfl rfl rfl (by decide +kernel) ⟨Nat.le_of_ble_eq_true rfl, Nat.le_of_ble_eq_true rfl⟩) ⟨x_blindM, x_pre0 hK⟩ rfl rfl hl.1 rfl (lv_room (Nat.le_of_ble_eq_true rfl)) dL_law_12 ⟨Nat.le_of_ble_eq_true rfl, Nat.le_of_ble_eq_true rfl⟩) hS (fun q _ h => x_free0 hS h) (fun q h => x_free0 hS h) (fun r u t H locs ht hvm hw hB hz1 hk1 hS => ?_)
  have hw : r = 1 := hw
  subst hw
  refine W.widen (k := 39) (n := 8835) (Nat.le_of_ble_eq_true rfl) (Nat.le_of_ble_eq_true rfl) ?_
  refine lv_if_ne (tgt := 20) hx hb dL_law_15 (by decide) (fun _ => ?_) (fun hc => absurd hc (by decide))
  have hP : va_P D vwCl [] H := fun k q h => by simp at h
  have hD : va_D (fun q : Nat => s.heap.size ≤ q) [] := ⟨fun i j p q h => by simp at h, fun k q h => by simp at h⟩
  refine va_new (ci := 6) (fs := [.null, .null, .null, .null, .null, .null]) (C := RX6) (T := TX6) (N := 6) hx hb hts inlX6 tyX6 tyX6_ok hown (hts _ (List.mem_of_getElem? (i := 0) rfl)) (hts _ (List.mem_of_getElem? (i := 1) rfl)) (hts _ (List.mem_of_getElem? (i := 2) rfl)) hK.1 hP hD hS hA rfl (fun j hj => by rcases (show j = 0 ∨ j = 1 ∨ j = 2 ∨ j = 3 ∨ j = 4 ∨ j = 5 by omega) with rfl | rfl | rfl | rfl | rfl | rfl <;> rfl) (Nat.le_of_ble_eq_true rfl) (Nat.le_of_ble_eq_true rfl) dL_law_20 (fun aM H hP hD hS => ?_)
  have hP : va_P D vwCl [(aM, .inr (6, [.null, .null, .null, .null, .null, .null]))] H := hP
  have hD : va_D (fun q : Nat => s.heap.size ≤ q) [(aM, .inr (6, [.null, .null, .null, .null, .null, .null]))] := hD
  refine W.widen (k := 40) (n := 8841) (Nat.le_of_ble_eq_true rfl) (Nat.le_of_ble_eq_true rfl) ?_
  refine lv_dup hx hb dL_law_23 rfl ?_
  have hFc := va_free (wc := [(aM, .inr (6, [.null, .null, .null, .null, .null, .null]))]) hD hS hA [0] rfl
  refine va_callv (va_runI (As := []) (rest := [.ref aM]) ⟨hx, hb, hml, hown, hts⟩ (c_X6_init l D cyI cyZ aM H.size) (cwI 0 hts gL_law_X6_init rfl rfl rfl (hts _ (List.mem_of_getElem? (i := 2) rfl)) (hts _ (List.mem_of_getElem? (i := 8) rfl)) (hts _ (List.mem_of_getElem? (i := 9) rfl)) rfl (by decide +kernel) ⟨Nat.le_of_ble_eq_true rfl, Nat.le_of_ble_eq_true rfl⟩) ⟨x_blindM, x_preM hK hP hD [0] rfl rfl⟩ rfl rfl hl.1 rfl (lv_room (Nat.le_of_ble_eq_true rfl)) dL_law_24 ⟨Nat.le_of_ble_eq_true rfl, Nat.le_of_ble_eq_true rfl⟩) hS (fun q _ h => hFc q h) hFc (fun u t H1 locs ht hvm hw hB hz1 hk1 hS => ?_)
  obtain ⟨aS, aC, aH, aHs, aL, aLs, aP, aPc, aR, aRn, aT, aTp, hP1, hD1⟩ := hB
  rw [ht] at hP1
  obtain ⟨hP, hD⟩ := va_join (wr := []) (w1 := [(aM, .inr (6, [.ref aS, .ref aH, .ref aL, .ref aP, .ref aR, .ref aT])), (aS, .inr (3, [.ref aC])), (aC, .inl (cyI, 225, .inl (upd (upd (upd (upd (upd (fun _ => 0) 1 (5 : Int32)) 2 (5 : Int32)) 6 (6 : Int32)) 7 (4 : Int32)) 8 (20 : Int32)))), (aH, .inr (0, [.ref aHs, .int 0, .int 0])), (aHs, .inl (cyI, 1575, .inl (fun _ => 0))), (aL, .inr (4, [.ref aLs, .int 0])), (aLs, .inl (cyI, 450, .inl (fun _ => 0))), (aP, .inr (1, [.ref aPc, .int 0])), (aPc, .inl (cyI, 80, .inl (fun _ => 0))), (aR, .inr (2, [.ref aP, .ref aRn, .int 0, .int 0, .int 0])), (aRn, .inl (cyI, 40, .inl (fun _ => 0))), (aT, .inr (5, [.ref aTp, .int 0, .int 0, .int 0])), (aTp, .inl (cyI, 552, .inl (fun _ => 0)))]) hP hD [0] [] rfl rfl (by decide) (by decide) hk1 hFc hP1 hD1
  generalize H1 = H at hP hS ⊢
  have hP : va_P D vwCl [(aM, .inr (6, [.ref aS, .ref aH, .ref aL, .ref aP, .ref aR, .ref aT])), (aS, .inr (3, [.ref aC])), (aC, .inl (cyI, 225, .inl (upd (upd (upd (upd (upd (fun _ => 0) 1 (5 : Int32)) 2 (5 : Int32)) 6 (6 : Int32)) 7 (4 : Int32)) 8 (20 : Int32)))), (aH, .inr (0, [.ref aHs, .int 0, .int 0])), (aHs, .inl (cyI, 1575, .inl (fun _ => 0))), (aL, .inr (4, [.ref aLs, .int 0])), (aLs, .inl (cyI, 450, .inl (fun _ => 0))), (aP, .inr (1, [.ref aPc, .int 0])), (aPc, .inl (cyI, 80, .inl (fun _ => 0))), (aR, .inr (2, [.ref aP, .ref aRn, .int 0, .int 0, .int 0])), (aRn, .inl (cyI, 40, .inl (fun _ => 0))), (aT, .inr (5, [.ref aTp, .int 0, .int 0, .int 0])), (aTp, .inl (cyI, 552, .inl (fun _ => 0)))] H := hP
  have hD : va_D (fun q : Nat => s.heap.size ≤ q) [(aM, .inr (6, [.ref aS, .ref aH, .ref aL, .ref aP, .ref aR, .ref aT])), (aS, .inr (3, [.ref aC])), (aC, .inl (cyI, 225, .inl (upd (upd (upd (upd (upd (fun _ => 0) 1 (5 : Int32)) 2 (5 : Int32)) 6 (6 : Int32)) 7 (4 : Int32)) 8 (20 : Int32)))), (aH, .inr (0, [.ref aHs, .int 0, .int 0])), (aHs, .inl (cyI, 1575, .inl (fun _ => 0))), (aL, .inr (4, [.ref aLs, .int 0])), (aLs, .inl (cyI, 450, .inl (fun _ => 0))), (aP, .inr (1, [.ref aPc, .int 0])), (aPc, .inl (cyI, 80, .inl (fun _ => 0))), (aR, .inr (2, [.ref aP, .ref aRn, .int 0, .int 0, .int 0])), (aRn, .inl (cyI, 40, .inl (fun _ => 0))), (aT, .inr (5, [.ref aTp, .int 0, .int 0, .int 0])), (aTp, .inl (cyI, 552, .inl (fun _ => 0)))] := hD
  refine W.widen (k := 52) (n := 11780) (Nat.le_of_ble_eq_true rfl) (Nat.le_of_ble_eq_true rfl) ?_
  refine lv_astore_n (lv' := [(1, .ref aM), (0, .ref b)]) hx hb dL_law_27 rfl hl (by decide) rfl (fun ls hl => ?_)
  refine lv_bipush (v := (64 : Int32)) hx hb dL_law_28 (by decide) ?_
  refine x_newL (N' := 64) (f0 := fun _ => 0) hx hb (hts _ (List.mem_of_getElem? (i := 3) rfl)) hK hP hD hS hA (by decide) (by decide) (Nat.le_of_ble_eq_true rfl) (Nat.le_of_ble_eq_true rfl) (Nat.le_of_ble_eq_true rfl) (fun _ => rfl) dL_law_30 (fun aV H hP hD hS => ?_)
  have hP : va_P D vwCl [(aM, .inr (6, [.ref aS, .ref aH, .ref aL, .ref aP, .ref aR, .ref aT])), (aS, .inr (3, [.ref aC])), (aC, .inl (cyI, 225, .inl (upd (upd (upd (upd (upd (fun _ => 0) 1 (5 : Int32)) 2 (5 : Int32)) 6 (6 : Int32)) 7 (4 : Int32)) 8 (20 : Int32)))), (aH, .inr (0, [.ref aHs, .int 0, .int 0])), (aHs, .inl (cyI, 1575, .inl (fun _ => 0))), (aL, .inr (4, [.ref aLs, .int 0])), (aLs, .inl (cyI, 450, .inl (fun _ => 0))), (aP, .inr (1, [.ref aPc, .int 0])), (aPc, .inl (cyI, 80, .inl (fun _ => 0))), (aR, .inr (2, [.ref aP, .ref aRn, .int 0, .int 0, .int 0])), (aRn, .inl (cyI, 40, .inl (fun _ => 0))), (aT, .inr (5, [.ref aTp, .int 0, .int 0, .int 0])), (aTp, .inl (cyI, 552, .inl (fun _ => 0))), (aV, .inl (cyZ, 64, .inr (.inl (fun _ => 0))))] H := hP
  have hD : va_D (fun q : Nat => s.heap.size ≤ q) [(aM, .inr (6, [.ref aS, .ref aH, .ref aL, .ref aP, .ref aR, .ref aT])), (aS, .inr (3, [.ref aC])), (aC, .inl (cyI, 225, .inl (upd (upd (upd (upd (upd (fun _ => 0) 1 (5 : Int32)) 2 (5 : Int32)) 6 (6 : Int32)) 7 (4 : Int32)) 8 (20 : Int32)))), (aH, .inr (0, [.ref aHs, .int 0, .int 0])), (aHs, .inl (cyI, 1575, .inl (fun _ => 0))), (aL, .inr (4, [.ref aLs, .int 0])), (aLs, .inl (cyI, 450, .inl (fun _ => 0))), (aP, .inr (1, [.ref aPc, .int 0])), (aPc, .inl (cyI, 80, .inl (fun _ => 0))), (aR, .inr (2, [.ref aP, .ref aRn, .int 0, .int 0, .int 0])), (aRn, .inl (cyI, 40, .inl (fun _ => 0))), (aT, .inr (5, [.ref aTp, .int 0, .int 0, .int 0])), (aTp, .inl (cyI, 552, .inl (fun _ => 0))), (aV, .inl (cyZ, 64, .inr (.inl (fun _ => 0))))] := hD
  refine W.widen (k := 53) (n := 11844) (Nat.le_of_ble_eq_true rfl) (Nat.le_of_ble_eq_true rfl) ?_
  refine lv_astore_n (lv' := [(2, .ref aV), (1, .ref aM), (0, .ref b)]) hx hb dL_law_32 rfl hl (by decide) rfl (fun ls hl => ?_)
  refine lv_iconst (v := (0 : Int32)) hx hb dL_law_33 (by decide) ?_
  refine lv_istore_n (lv' := [(3, .int (0 : Int32)), (2, .ref aV), (1, .ref aM), (0, .ref b)]) hx hb dL_law_34 rfl hl (by decide) rfl (fun ls hl => ?_)
  exact law_body C0 hK aM aS aC aH aHs aL aLs aP aPc aR aRn aT aTp aV 20000 (0 : Int32) (upd (upd (upd (upd (upd (fun _ => 0) 1 (5 : Int32)) 2 (5 : Int32)) 6 (6 : Int32)) 7 (4 : Int32)) 8 (20 : Int32)) (0 : Int32) (0 : Int32) (fun _ => 0) (0 : Int32) (fun _ => 0) (0 : Int32) (fun _ => 0) (0 : Int32) (0 : Int32) (0 : Int32) (fun _ => 0) (0 : Int32) (0 : Int32) (0 : Int32) (fun _ => 0) (fun _ => 0) (law_ok hL xs) _ _ _ hP hD hS (lv_sub hl [3, 2, 1, 0] rfl)
set_option maxHeartbeats 4000000 in
theorem lw_walk (l : Launch) (hflags : l.flags = flags0) (b : Addr) (xs : List Int32) : MetFree l x (headSpec (Jvm.Cond.code x code maxLocals ret :: tables_1) room_1) (lw_P b xs) (fun _ _ _ _ _ => True) lw_Q := by
  refine MetFree.of_bodyS (code := code) (maxLocals := maxLocals) (ret := ret) (by decide) ?_ ?_
  · intro args s m h hn
    obtain ⟨meth, c, h1, h2, h3, h4, h5, h6, -, -⟩ := Cond.code_spec hn (atoms_spec (ws := Jvm.Cond.code x code maxLocals ret :: tables_1) h _ List.mem_cons_self)
    exact ⟨meth, c, h1, h2, h3, h4, h5, h6⟩
  · intro p e s m args below meth c s₁ B hml0 hP _
    obtain ⟨rfl, hx, hbd, hgv⟩ := hP
    obtain ⟨scr, harrAt, hlist, hof, hsmall⟩ := hx
    obtain ⟨hcb, hkn, -, -⟩ := State.arrayAt?_spec harrAt
    have hown : s.vm.findClass R_law = some m.cls := findClass_of_methodNamed B.named
    have hts0 : ∀ c ∈ (Jvm.Cond.code x code maxLocals ret :: tables_1), c.before #[Value.ref b] s = true := atoms_spec (ws := Jvm.Cond.code x code maxLocals ret :: tables_1) B.pre
    have hts : ∀ w ∈ lw_tbl, w.before #[Value.ref b] s = true := k2_hts_sels lw_privs (fun w hw => hts0 w (List.mem_cons_of_mem _ hw)) lw_privs_ok
    have hml : c.maxLocals = 13 := B.maxLocals_eq (hts0 _ List.mem_cons_self)
    have X₀ : Stand p l e room_1 s m #[Value.ref b] below meth c s₁ [] 0 0 := Stand.of_body B
    have hh0 : s₁.heap = s.heap := by rw [B.state]; rfl
    have hsz : scr.slots.size = xs.length := by rw [← Array.length_toList, hlist, List.length_map]
    have hval : ∀ j : Nat, j < xs.length → scr.slots[j]? = some (.int (xs.getD j 0)) := fun j hj => by
      rw [← Array.getElem?_toList, hlist]
      simp [hj]
    have hbl : b < s.heap.size := (Array.getElem?_eq_some_iff.mp hcb).1
    have hX : va_X b xs.length (fun j => xs.getD j 0) s s.heap := ⟨scr, hcb, hof, hkn, hsz, hval⟩
    have K : W p l e room_1 s m #[Value.ref b] below meth c s₁.heap [] 0 0 (lw_Z below #[Value.ref b] s) (entryFrame m ([Value.ref b] : List Value).toArray 13) := by
      rw [hh0]
      exact whole_start l hflags hbd ⟨B.exec, B.bytes, B.returns, hml, hown, hts, hX, hbl, B.notSynchronized, hgv⟩
    obtain ⟨t, a1, o, b1, b2, b3⟩ := K s₁ rfl X₀
    exact ⟨t, o, a1, b1, b2, b3⟩
theorem lw_pre_spec {args : Array Value} {s : State} (h : (Jvm.Cond.and given_1 narrow_1).before args s = true) (hr : rest_1_c.before args s = true) : ∃ (b : Addr) (xs : List Int32), lw_P b xs args s := by
  have hs := flat_of_before _ h
  have hq := flat_of_before _ hr
  have hc : (Cond.count 1).before args s = true := hs _ (by decide +kernel)
  have harr : (Cond.arrayOf (.arg 0) .int).before args s = true := hs _ (by decide +kernel)
  have hle : (Cond.le (.length (.arg 0)) (.int 260)).before args s = true := hs _ (by decide +kernel)
  have hlen : (Cond.isInt (.length (.arg 0))).before args s = true := hq _ (by decide +kernel)
  have hall : (Cond.all (.arg 0) (.isInt (.elem (.arg 0) (.index 0)))).before args s = true := hq _ (by decide +kernel)
  obtain ⟨b, xs, hb, hx⟩ := State.ints_of_pre rfl harr hlen hall
  have hsm : xs.length < 2 ^ 31 := hx.choose_spec.2.2.2
  have hev : (Term.length (.arg 0)).eval args s none [] s = some (.int xs.length.toInt32) := hx.length_eval hb
  have hv := Cond.le_ints hev (show (Term.int 260).eval args s none [] s = some (.int 260) from rfl)
  have hd : xs.length.toInt32 ≤ 260 := by
    simpa [Cond.before, Cond.holds, hv] using hle
  have hN : xs.length ≤ 260 := (Int32.ofNat_le_ofNat hsm (by decide)).mp (show Int32.ofNat xs.length ≤ Int32.ofNat 260 from hd)
  exact ⟨b, xs, Cond.one_arg hc (show args[0]? = some (.ref b) from hb), hx, hN, h⟩
theorem lw_comes (l : Launch) (hflags : l.flags = flags0) : Comes l x (Jvm.Cond.code x code maxLocals ret :: tables_1) room_1 (fun tb e args s => Calls_1 tb e args s ∧ rest_1 tb e args s ∧ Pre_1 tb e args s)
    (fun _ _ args s o t => lw_Q args s o t) := by
  intro p e ha hc hk s m args below hf hfit hheap happ hpre
  obtain ⟨b, xs, hP⟩ := lw_pre_spec hpre.2.2 hpre.2.1
  obtain ⟨k, o, h1, h2, h3, hQ⟩ := lw_walk l hflags b xs p e ha hc hk s m args below hf ((Spec.applies_iff_loose hf).mp happ).1 hP trivial
  exact ⟨k, o, h1, h2, h3, hQ⟩
theorem lw_frame {s t : State} {o : Outcome} {args : Array Value} (h : Framed s o t [] 600000 7302250) :
    Framed s o t (fieldLocs frame_1_writes args s ++ arrayLocs frame_1_arrays args s ++ staticLocs frame_1_statics s) 600000 7302250 := h
theorem lw_limb (L : Cond) (hL : ∀ (args : Array Value) (s t : State), L.after args s (.returned (some (.int 1))) t = true) :
    ArmFor flags0 classFile x code maxLocals ret World_1 tables_1 room_1 Calls_1 rest_1 Pre_1
      (fun tb e a s o t => postC L tb e a s o t ∧ Framed s o t (fieldLocs frame_1_writes a s ++ arrayLocs frame_1_arrays a s ++ staticLocs frame_1_statics s) 600000 7302250) := by
  intro l hflags _ _ p e ha hc hk s m args below hf hfit hheap happ hpre
  obtain ⟨k, o, h1, h2, h3, rfl, hF⟩ := lw_comes l hflags p e ha hc hk s m args below hf hfit hheap happ hpre
  exact ⟨k, _, h1, h2, h3, hL args s _, lw_frame hF⟩
theorem i_vc : Claimed_1_1 ∧ Claimed_1_2 := ⟨lw_limb limb_1_1 (fun args s t => by simp [limb_1_1, Cond.after, Cond.holds, Cond.value]), lw_limb limb_1_2 (fun args s t => Cond.after_iff.mpr (by
  first | (rw [show limb_1_2 = Cond.eq .result (.int 1) from rfl, Cond.eq_ints (x := 1) (y := 1) rfl rfl]; simp; done) | (simp [limb_1_2, Cond.value, Term.eval]; done)))⟩
