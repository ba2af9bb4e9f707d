theorem mm_L_seen_1 : Cond.constantLong RL 9 (59) ∈ wsL_seen := List.mem_of_getElem? (i := 1) rfl
theorem mm_L_seen_2 : Cond.constantLong RL 11 (31) ∈ wsL_seen := List.mem_of_getElem? (i := 2) rfl
set_option maxHeartbeats 4000000 in
set_option maxRecDepth 100000 in
theorem c_L_seen (l : Launch) (D : va_G) (cyI cyZ : ClassId) (aM aS aC aH aHs aL aP aPc aR aT : Nat) (N : Nat) (vc : (Nat → Int32)) (vhf : Int32) (vhl : Int32) (vpl : Int32) {r0 : Int64}  (hF : p_L_seen N vc vhf vhl vpl = some (r0)) : Met l yL_seen wsL_seen ({ frames := 4, cells := 0, slots := 0, locals := 89 }) (x_PR D cyI cyZ [.ref aM] [(aM, .inr (6, [.ref aS, .ref aH, .ref aL, .ref aP, .ref aR, .ref aT])), (aS, .inr (3, [.ref aC])), (aC, .inl (cyI, 225, .inl vc)), (aH, .inr (0, [.ref aHs, .int vhf, .int vhl])), (aP, .inr (1, [.ref aPc, .int vpl]))]) (x_QRl r0) 0 0 (fun _ => False) := by
  refine Met.ofW (cc := cL_seen) (maxL := 4) (ret := (some .long)) (by decide) rfl ?_
  intro p e s m args below meth c s₁ B hml hv
  obtain ⟨rfl, hP, hK⟩ := hv
  have hx := B.exec
  have hb := B.bytes
  have hr := B.returns
  have hts := atoms_spec (ws := wsL_seen) B.pre
  have hown : s.vm.findClass RL = some m.cls := findClass_of_methodNamed B.named
  have hlocks := B.notSynchronized
  have hS : va_S (fun _ => False) s.heap s.heap [] := va_S.rf
  have hP : va_P D vwCl [(aM, .inr (6, [.ref aS, .ref aH, .ref aL, .ref aP, .ref aR, .ref aT])), (aS, .inr (3, [.ref aC])), (aC, .inl (cyI, 225, .inl vc)), (aH, .inr (0, [.ref aHs, .int vhf, .int vhl])), (aP, .inr (1, [.ref aPc, .int vpl]))] s.heap := hP
  have hl := lv_entry ([.ref aM]) (n := 4) (Nat.le_of_ble_eq_true rfl)
  rw [lg_entry_eq]
  generalize (lg_sl ([.ref aM]) ++ List.replicate (4 - (lg_sl ([.ref aM])).length) Slot.unset).toArray = ls at hl ⊢
  have hl : lv_has ls 4 [(0, .ref aM)] := hl
  refine x_gen (fun G hG => ?_)
  have blk_73 : ∀ (n_73 : Nat) (x1 : Int64) (x3 : Int32), f_L_seen_73 N n_73 x1 x3 vc vhf vhl vpl = some (r0) → ∀ (H : Heap) (locs : List Loc) (ls : Array Slot), va_P D vwCl [(aM, .inr (6, [.ref aS, .ref aH, .ref aL, .ref aP, .ref aR, .ref aT])), (aS, .inr (3, [.ref aC])), (aC, .inl (cyI, 225, .inl vc)), (aH, .inr (0, [.ref aHs, .int vhf, .int vhl])), (aP, .inr (1, [.ref aPc, .int vpl]))] H → va_S (fun _ => False) s.heap H locs → lv_has ls 4 [(0, .ref aM), (1, .long x1), (3, .int x3)] → G H locs (F0 m 73 ls []) := by
    intro n_73
    induction n_73 with
    | zero => intro x1 x3 hF; exact (k_none hF).elim
    | succ n_73 ih_73 =>
      intro x1 x3 hF H locs ls hP hS hl
      replace hF : b_L_seen_73 N (f_L_seen_73 N n_73) x1 x3 vc vhf vhl vpl = some (r0) := hF
      unfold b_L_seen_73 at hF
      refine (hG _ _ _).2 ?_
      refine lv_iload_n hx hb dL_seen_73 rfl (lv_at hl 2 rfl) ?_
      refine lv_bipush (v := (24 : Int32)) hx hb dL_seen_74 (by decide) ?_
      refine lv_aload_n hx hb dL_seen_76 rfl (lv_at hl 0 rfl) ?_
      refine lv_iconst (v := (0 : Int32)) hx hb dL_seen_77 (by decide) ?_
      obtain ⟨r78, hC, hF⟩ := k_c1_ex hF
      refine x_VR (As := [.int (0 : Int32)]) (rest := [.int (24 : Int32), .int x3]) ⟨hx, hb, hml, hown, hts⟩ (c_X6_count l D cyI cyZ aM aS aC aH aHs aL aP aPc aR aT N (0 : Int32) vc vhf vhl vpl hC) (cwV 1 hts gL_seen_X6_count rfl rfl rfl (by decide +kernel) ⟨Nat.le_of_ble_eq_true rfl, Nat.le_of_ble_eq_true rfl⟩) hK hP hS [0, 1, 2, 3, 4] rfl 0 rfl rfl rfl rfl hl.1 rfl (Nat.le_of_ble_eq_true rfl) ⟨Nat.zero_le _, Nat.zero_le _⟩ dL_seen_78 (fun H locs hP hS => ?_)
      refine lv_imul hx hb dL_seen_81 ?_
      refine lv_icmp_ge (tgt := 111) hx hb dL_seen_82 (by decide) (fun hc => ?_) (fun hc => ?_)
      · have hF := k_if_t hF hc
        refine lv_lload_n hx hb dL_seen_111 rfl (lv_at hl 1 rfl) ?_
        exact W.lret hx hb hr (fun t ht hW => ⟨⟨_, (), rfl, Option.some.inj hF, trivial⟩, hS.F ht⟩) hS.2.2 dL_seen_112
      · have hF := k_if_f hF hc
        refine lv_ldc2 (v := (31 : Int64)) hx hb hown (hts _ mm_L_seen_2) dL_seen_85 ?_
        refine lv_lload_n hx hb dL_seen_88 rfl (lv_at hl 1 rfl) ?_
        refine lv_lmul hx hb dL_seen_89 ?_
        refine lv_aload_n hx hb dL_seen_90 rfl (lv_at hl 0 rfl) ?_
        refine lv_iload_n hx hb dL_seen_91 rfl (lv_at hl 2 rfl) ?_
        refine lv_bipush (v := (24 : Int32)) hx hb dL_seen_92 (by decide) ?_
        obtain ⟨hz, hF⟩ := k_nz_ex hF
        refine lv_idiv hx hb dL_seen_94 hz ?_
        refine lv_iload_n hx hb dL_seen_95 rfl (lv_at hl 2 rfl) ?_
        refine lv_bipush (v := (24 : Int32)) hx hb dL_seen_96 (by decide) ?_
        obtain ⟨hz, hF⟩ := k_nz_ex hF
        refine lv_irem hx hb dL_seen_98 hz ?_
        obtain ⟨r99, hC, hF⟩ := k_c1_ex hF
        refine x_VR (As := [.int (x3 / (24 : Int32)), .int (x3 - x3 / (24 : Int32) * (24 : Int32))]) (rest := [.long ((31 : Int64) * x1)]) ⟨hx, hb, hml, hown, hts⟩ (c_X6_tooth l D cyI cyZ aM aS aC aH aL aP aR aT N (x3 / (24 : Int32)) (x3 - x3 / (24 : Int32) * (24 : Int32)) vc hC) (cwV 2 hts gL_seen_X6_tooth rfl rfl rfl (by decide +kernel) ⟨Nat.le_of_ble_eq_true rfl, Nat.le_of_ble_eq_true rfl⟩) hK hP hS [0, 1, 2] rfl 0 rfl rfl rfl rfl hl.1 rfl (Nat.le_of_ble_eq_true rfl) ⟨Nat.zero_le _, Nat.zero_le _⟩ dL_seen_99 (fun H locs hP hS => ?_)
        refine lv_i2l (v := r99.toInt64) hx hb dL_seen_102 rfl ?_
        refine lv_ladd hx hb dL_seen_103 ?_
        obtain ⟨x1_104, hn, hF⟩ := k_let_ex hF
        refine x_nml hn ?_
        refine lv_lstore_n (lv' := [(1, .long x1_104), (0, .ref aM), (3, .int x3)]) hx hb dL_seen_104 rfl hl (by decide) rfl (fun ls hl => ?_)
        obtain ⟨x3_105, hn, hF⟩ := k_let_ex hF
        refine lv_iinc (v := x3_105) (lv' := [(3, .int x3_105), (1, .long x1_104), (0, .ref aM)]) hx hb dL_seen_105 hl (k := 2) rfl (by rw [hn]; rfl) (by decide) rfl (fun ls hl => ?_)
        refine lv_goto (tgt := 73) hx hb dL_seen_108 (by decide) ?_
        exact (hG _ _ _).1 (ih_73 x1_104 x3_105 hF _ _ _ hP hS (lv_sub hl [2, 1, 0] rfl))
  have blk_33 : ∀ (n_33 : Nat) (x1 : Int64) (x3 : Int32), f_L_seen_33 N n_33 x1 x3 vc vhf vhl vpl = some (r0) → ∀ (H : Heap) (locs : List Loc) (ls : Array Slot), va_P D vwCl [(aM, .inr (6, [.ref aS, .ref aH, .ref aL, .ref aP, .ref aR, .ref aT])), (aS, .inr (3, [.ref aC])), (aC, .inl (cyI, 225, .inl vc)), (aH, .inr (0, [.ref aHs, .int vhf, .int vhl])), (aP, .inr (1, [.ref aPc, .int vpl]))] H → va_S (fun _ => False) s.heap H locs → lv_has ls 4 [(0, .ref aM), (1, .long x1), (3, .int x3)] → G H locs (F0 m 33 ls []) := by
    intro n_33
    induction n_33 with
    | zero => intro x1 x3 hF; exact (k_none hF).elim
    | succ n_33 ih_33 =>
      intro x1 x3 hF H locs ls hP hS hl
      replace hF : b_L_seen_33 N (f_L_seen_33 N n_33) x1 x3 vc vhf vhl vpl = some (r0) := hF
      unfold b_L_seen_33 at hF
      refine (hG _ _ _).2 ?_
      refine lv_iload_n hx hb dL_seen_33 rfl (lv_at hl 2 rfl) ?_
      refine lv_bipush (v := (7 : Int32)) hx hb dL_seen_34 (by decide) ?_
      refine lv_aload_n hx hb dL_seen_36 rfl (lv_at hl 0 rfl) ?_
      refine lv_iconst (v := (0 : Int32)) hx hb dL_seen_37 (by decide) ?_
      obtain ⟨r38, hC, hF⟩ := k_c1_ex hF
      refine x_VR (As := [.int (0 : Int32)]) (rest := [.int (7 : Int32), .int x3]) ⟨hx, hb, hml, hown, hts⟩ (c_X6_count l D cyI cyZ aM aS aC aH aHs aL aP aPc aR aT N (0 : Int32) vc vhf vhl vpl hC) (cwV 1 hts gL_seen_X6_count rfl rfl rfl (by decide +kernel) ⟨Nat.le_of_ble_eq_true rfl, Nat.le_of_ble_eq_true rfl⟩) hK hP hS [0, 1, 2, 3, 4] rfl 0 rfl rfl rfl rfl hl.1 rfl (Nat.le_of_ble_eq_true rfl) ⟨Nat.zero_le _, Nat.zero_le _⟩ dL_seen_38 (fun H locs hP hS => ?_)
      refine lv_imul hx hb dL_seen_41 ?_
      refine lv_icmp_ge (tgt := 71) hx hb dL_seen_42 (by decide) (fun hc => ?_) (fun hc => ?_)
      · have hF := k_if_t hF hc
        refine lv_iconst (v := (0 : Int32)) hx hb dL_seen_71 (by decide) ?_
        refine lv_istore_n (lv' := [(3, .int (0 : Int32)), (0, .ref aM), (1, .long x1)]) hx hb dL_seen_72 rfl hl (by decide) rfl (fun ls hl => ?_)
        exact (hG _ _ _).1 (blk_73 N x1 (0 : Int32) hF _ _ _ hP hS (lv_sub hl [1, 2, 0] rfl))
      · have hF := k_if_f hF hc
        refine lv_ldc2 (v := (31 : Int64)) hx hb hown (hts _ mm_L_seen_2) dL_seen_45 ?_
        refine lv_lload_n hx hb dL_seen_48 rfl (lv_at hl 1 rfl) ?_
        refine lv_lmul hx hb dL_seen_49 ?_
        refine lv_aload_n hx hb dL_seen_50 rfl (lv_at hl 0 rfl) ?_
        refine lv_iload_n hx hb dL_seen_51 rfl (lv_at hl 2 rfl) ?_
        refine lv_bipush (v := (7 : Int32)) hx hb dL_seen_52 (by decide) ?_
        obtain ⟨hz, hF⟩ := k_nz_ex hF
        refine lv_idiv hx hb dL_seen_54 hz ?_
        refine lv_iload_n hx hb dL_seen_55 rfl (lv_at hl 2 rfl) ?_
        refine lv_bipush (v := (7 : Int32)) hx hb dL_seen_56 (by decide) ?_
        obtain ⟨hz, hF⟩ := k_nz_ex hF
        refine lv_irem hx hb dL_seen_58 hz ?_
        obtain ⟨r59, hC, hF⟩ := k_c1_ex hF
        refine x_VR (As := [.int (x3 / (7 : Int32)), .int (x3 - x3 / (7 : Int32) * (7 : Int32))]) (rest := [.long ((31 : Int64) * x1)]) ⟨hx, hb, hml, hown, hts⟩ (c_X6_of l D cyI cyZ aM aS aC aH aL aP aR aT N (x3 / (7 : Int32)) (x3 - x3 / (7 : Int32) * (7 : Int32)) vc hC) (cwV 2 hts gL_seen_X6_of rfl rfl rfl (by decide +kernel) ⟨Nat.le_of_ble_eq_true rfl, Nat.le_of_ble_eq_true rfl⟩) hK hP hS [0, 1, 2] rfl 0 rfl rfl rfl rfl hl.1 rfl (Nat.le_of_ble_eq_true rfl) ⟨Nat.zero_le _, Nat.zero_le _⟩ dL_seen_59 (fun H locs hP hS => ?_)
        refine lv_i2l (v := r59.toInt64) hx hb dL_seen_62 rfl ?_
        refine lv_ladd hx hb dL_seen_63 ?_
        obtain ⟨x1_64, hn, hF⟩ := k_let_ex hF
        refine x_nml hn ?_
        refine lv_lstore_n (lv' := [(1, .long x1_64), (0, .ref aM), (3, .int x3)]) hx hb dL_seen_64 rfl hl (by decide) rfl (fun ls hl => ?_)
        obtain ⟨x3_65, hn, hF⟩ := k_let_ex hF
        refine lv_iinc (v := x3_65) (lv' := [(3, .int x3_65), (1, .long x1_64), (0, .ref aM)]) hx hb dL_seen_65 hl (k := 2) rfl (by rw [hn]; rfl) (by decide) rfl (fun ls hl => ?_)
        refine lv_goto (tgt := 33) hx hb dL_seen_68 (by decide) ?_
        exact (hG _ _ _).1 (ih_33 x1_64 x3_65 hF _ _ _ hP hS (lv_sub hl [2, 1, 0] rfl))
  have blk_6 : ∀ (n_6 : Nat) (x1 : Int64) (x3 : Int32), f_L_seen_6 N n_6 x1 x3 vc vhf vhl vpl = some (r0) → ∀ (H : Heap) (locs : List Loc) (ls : Array Slot), va_P D vwCl [(aM, .inr (6, [.ref aS, .ref aH, .ref aL, .ref aP, .ref aR, .ref aT])), (aS, .inr (3, [.ref aC])), (aC, .inl (cyI, 225, .inl vc)), (aH, .inr (0, [.ref aHs, .int vhf, .int vhl])), (aP, .inr (1, [.ref aPc, .int vpl]))] H → va_S (fun _ => False) s.heap H locs → lv_has ls 4 [(0, .ref aM), (1, .long x1), (3, .int x3)] → G H locs (F0 m 6 ls []) := by
    intro n_6
    induction n_6 with
    | zero => intro x1 x3 hF; exact (k_none hF).elim
    | succ n_6 ih_6 =>
      intro x1 x3 hF H locs ls hP hS hl
      replace hF : b_L_seen_6 N (f_L_seen_6 N n_6) x1 x3 vc vhf vhl vpl = some (r0) := hF
      unfold b_L_seen_6 at hF
      refine (hG _ _ _).2 ?_
      refine lv_iload_n hx hb dL_seen_6 rfl (lv_at hl 2 rfl) ?_
      refine lv_bipush (v := (9 : Int32)) hx hb dL_seen_7 (by decide) ?_
      refine lv_icmp_ge (tgt := 31) hx hb dL_seen_9 (by decide) (fun hc => ?_) (fun hc => ?_)
      · have hF := k_if_t hF hc
        refine lv_iconst (v := (0 : Int32)) hx hb dL_seen_31 (by decide) ?_
        refine lv_istore_n (lv' := [(3, .int (0 : Int32)), (0, .ref aM), (1, .long x1)]) hx hb dL_seen_32 rfl hl (by decide) rfl (fun ls hl => ?_)
        exact (hG _ _ _).1 (blk_33 N x1 (0 : Int32) hF _ _ _ hP hS (lv_sub hl [1, 2, 0] rfl))
      · have hF := k_if_f hF hc
        refine lv_ldc2 (v := (31 : Int64)) hx hb hown (hts _ mm_L_seen_2) dL_seen_12 ?_
        refine lv_lload_n hx hb dL_seen_15 rfl (lv_at hl 1 rfl) ?_
        refine lv_lmul hx hb dL_seen_16 ?_
        refine lv_aload_n hx hb dL_seen_17 rfl (lv_at hl 0 rfl) ?_
        refine lv_iload_n hx hb dL_seen_18 rfl (lv_at hl 2 rfl) ?_
        obtain ⟨r19, hC, hF⟩ := k_c1_ex hF
        refine x_VR (As := [.int x3]) (rest := [.long ((31 : Int64) * x1)]) ⟨hx, hb, hml, hown, hts⟩ (c_X6_count l D cyI cyZ aM aS aC aH aHs aL aP aPc aR aT N x3 vc vhf vhl vpl hC) (cwV 1 hts gL_seen_X6_count rfl rfl rfl (by decide +kernel) ⟨Nat.le_of_ble_eq_true rfl, Nat.le_of_ble_eq_true rfl⟩) hK hP hS [0, 1, 2, 3, 4] rfl 0 rfl rfl rfl rfl hl.1 rfl (Nat.le_of_ble_eq_true rfl) ⟨Nat.zero_le _, Nat.zero_le _⟩ dL_seen_19 (fun H locs hP hS => ?_)
        refine lv_i2l (v := r19.toInt64) hx hb dL_seen_22 rfl ?_
        refine lv_ladd hx hb dL_seen_23 ?_
        obtain ⟨x1_24, hn, hF⟩ := k_let_ex hF
        refine x_nml hn ?_
        refine lv_lstore_n (lv' := [(1, .long x1_24), (0, .ref aM), (3, .int x3)]) hx hb dL_seen_24 rfl hl (by decide) rfl (fun ls hl => ?_)
        obtain ⟨x3_25, hn, hF⟩ := k_let_ex hF
        refine lv_iinc (v := x3_25) (lv' := [(3, .int x3_25), (1, .long x1_24), (0, .ref aM)]) hx hb dL_seen_25 hl (k := 2) rfl (by rw [hn]; rfl) (by decide) rfl (fun ls hl => ?_)
        refine lv_goto (tgt := 6) hx hb dL_seen_28 (by decide) ?_
        exact (hG _ _ _).1 (ih_6 x1_24 x3_25 hF _ _ _ hP hS (lv_sub hl [2, 1, 0] rfl))
  refine (hG _ _ _).2 ?_
  unfold p_L_seen at hF
  refine lv_ldc2 (v := (59 : Int64)) hx hb hown (hts _ mm_L_seen_1) dL_seen_0 ?_
  refine lv_lstore_n (lv' := [(1, .long (59 : Int64)), (0, .ref aM)]) hx hb dL_seen_3 rfl hl (by decide) rfl (fun ls hl => ?_)
  refine lv_iconst (v := (0 : Int32)) hx hb dL_seen_4 (by decide) ?_
  refine lv_istore_n (lv' := [(3, .int (0 : Int32)), (1, .long (59 : Int64)), (0, .ref aM)]) hx hb dL_seen_5 rfl hl (by decide) rfl (fun ls hl => ?_)
  exact (hG _ _ _).1 (blk_6 N (59 : Int64) (0 : Int32) hF _ _ _ hP hS (lv_sub hl [2, 1, 0] rfl))
