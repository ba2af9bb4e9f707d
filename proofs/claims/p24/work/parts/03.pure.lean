def p_X3_copyTo_Hs (N : Nat) (x2 : Int32) (vc : (Nat → Int32)) (vhs : (Nat → Int32)) : Option ((Nat → Int32)) :=
  (if x2 < 0 then some (vhs) else k_nz (225 : Int32) ((if ((1575 : Int32) / (225 : Int32)) ≤ x2 then some (vhs) else k_cpy 225 1575 vc vhs (0 : Int32) (x2 * (225 : Int32)) (225 : Int32) (fun vhs_28 => some (vhs_28)))))
def p_X0_prepare (N : Nat) (vc : (Nat → Int32)) (vhf : Int32) (vhl : Int32) (vhs : (Nat → Int32)) : Option ((Nat → Int32)) :=
  k_c1 (p_X3_copyTo_Hs N vhf vc vhs) (fun vhs_9 => some (vhs_9))
def p_X6_outside (N : Nat) (x0 : Int32) (x1 : Int32) (x2 : Int32) : Option (Int32) :=
  (if x0 < x1 then some ((1 : Int32)) else (if x0 ≤ x2 then some ((0 : Int32)) else some ((1 : Int32))))
def p_X3_cell (N : Nat) (x1 : Int32) (vc : (Nat → Int32)) : Option (Int32) :=
  (if x1 < 0 then some ((0 : Int32)) else (if (225 : Int32) ≤ x1 then some ((0 : Int32)) else k_ld 225 vc x1 (fun r18 => some (r18))))
def p_X3_placeOf (N : Nat) (x0 : Int32) : Option (Int32) :=
  some (((9 : Int32) + (x0 * (27 : Int32))))
def p_X3_change (N : Nat) (x1 : Int32) (x2 : Int32) (vc : (Nat → Int32)) : Option ((Nat → Int32)) :=
  (if x1 < 0 then some (vc) else (if (225 : Int32) ≤ x1 then some (vc) else k_st 225 vc x1 x2 (fun vc_19 => some (vc_19))))
def p_X3_shape (N : Nat) (x1 : Int32) (x2 : Int32) (x3 : Int32) (vc : (Nat → Int32)) : Option ((Nat → Int32)) :=
  k_c1 (p_X3_placeOf N x1) (fun r2 => k_c1 (p_X3_change N ((r2 + (3 : Int32)) + x2) x3 vc) (fun vc_10 => some (vc_10)))
def p_X3_raise (N : Nat) (x1 : Int32) (x2 : Int32) (vc : (Nat → Int32)) : Option ((Nat → Int32)) :=
  k_c1 (p_X3_cell N x1 vc) (fun r4 => k_c1 (p_X3_change N x1 (r4 + x2) vc) (fun vc_9 => some (vc_9)))
def b_X3_addRoller_75 (N : Nat) (k_75 : Int32 → Int32 → Int32 → Int32 → (Nat → Int32) → Option (Int32 × (Nat → Int32))) (x1 : Int32) (x2 : Int32) (x3 : Int32) (x4 : Int32) (vc : (Nat → Int32)) : Option (Int32 × (Nat → Int32)) :=
  (if x1 ≤ x4 then k_c1 (p_X3_raise N (0 : Int32) (1 : Int32) vc) (fun vc_98 => some (x3, vc_98)) else k_c1 (p_X3_shape N x3 x4 x2 vc) (fun vc_86 => k_let (x4 + (1 : Int32)) (fun x4_89 => k_75 x1 x2 x3 x4_89 vc_86)))
def f_X3_addRoller_75 (N : Nat) : Nat → Int32 → Int32 → Int32 → Int32 → (Nat → Int32) → Option (Int32 × (Nat → Int32))
  | 0 => fun _ _ _ _ _ => none
  | n + 1 => b_X3_addRoller_75 N (f_X3_addRoller_75 N n)
def p_X3_addRoller (N : Nat) (x1 : Int32) (x2 : Int32) (vc : (Nat → Int32)) : Option (Int32 × (Nat → Int32)) :=
  k_c1 (p_X6_outside N x1 (2 : Int32) (24 : Int32)) (fun r4 => (if r4 = 0 then k_c1 (p_X6_outside N x2 (-9 : Int32) (9 : Int32)) (fun r15 => (if r15 = 0 then k_c1 (p_X3_cell N (0 : Int32) vc) (fun r26 => (if r26 < (8 : Int32) then k_c1 (p_X3_placeOf N r26) (fun r41 => k_c1 (p_X3_change N (r41 + (0 : Int32)) x1 vc) (fun vc_47 => k_c1 (p_X3_placeOf N r26) (fun r52 => k_c1 (p_X3_change N (r52 + (1 : Int32)) (0 : Int32) vc_47) (fun vc_58 => k_c1 (p_X3_placeOf N r26) (fun r63 => k_c1 (p_X3_change N (r63 + (2 : Int32)) (0 : Int32) vc_58) (fun vc_69 => f_X3_addRoller_75 N N x1 x2 r26 (0 : Int32) vc_69)))))) else some ((-4 : Int32), vc))) else some ((-2 : Int32), vc))) else some ((-2 : Int32), vc)))
def p_X0_recorded (N : Nat) (x1 : Int32) (vhf : Int32) (vhl : Int32) : Option (Int32 × Int32 × Int32) :=
  (if x1 < 0 then some (x1, vhf, vhl) else (if (7 : Int32) ≤ (vhf + (1 : Int32)) then k_let (k_min (vhl + (1 : Int32)) (6 : Int32)) (fun r38 => some (x1, (0 : Int32), r38)) else k_let (vhf + (1 : Int32)) (fun vhf_26 => k_let (k_min (vhl + (1 : Int32)) (6 : Int32)) (fun r38 => some (x1, vhf_26, r38)))))
def p_X6_roller (N : Nat) (x1 : Int32) (x2 : Int32) (vc : (Nat → Int32)) (vhf : Int32) (vhl : Int32) (vhs : (Nat → Int32)) : Option (Int32 × (Nat → Int32) × Int32 × Int32 × (Nat → Int32)) :=
  k_c1 (p_X0_prepare N vc vhf vhl vhs) (fun vhs_8 => k_c2 (p_X3_addRoller N x1 x2 vc) (fun r21 vc_21 => k_c3 (p_X0_recorded N r21 vhf vhl) (fun r24 vhf_24 vhl_24 => some (r24, vc_21, vhf_24, vhl_24, vhs_8))))
def p_X3_copyTo_Ls (N : Nat) (x2 : Int32) (vc : (Nat → Int32)) (vss : (Nat → Int32)) : Option ((Nat → Int32)) :=
  (if x2 < 0 then some (vss) else k_nz (225 : Int32) ((if ((450 : Int32) / (225 : Int32)) ≤ x2 then some (vss) else k_cpy 225 450 vc vss (0 : Int32) (x2 * (225 : Int32)) (225 : Int32) (fun vss_28 => some (vss_28)))))
def p_X4_keep (N : Nat) (x1 : Int32) (vc : (Nat → Int32)) (vsf : Int32) (vss : (Nat → Int32)) : Option (Int32 × Int32 × (Nat → Int32)) :=
  k_c1 (p_X6_outside N x1 (0 : Int32) (1 : Int32)) (fun r3 => (if r3 = 0 then k_c1 (p_X3_copyTo_Ls N x1 vc vss) (fun vss_18 => k_let (vsf ||| ((1 : Int32) <<< (x1 &&& 31))) (fun vsf_30 => k_c1 (p_X3_cell N (0 : Int32) vc) (fun r35 => some (r35, vsf_30, vss_18)))) else some ((-2 : Int32), vsf, vss)))
def p_X6_save (N : Nat) (x1 : Int32) (vc : (Nat → Int32)) (vsf : Int32) (vss : (Nat → Int32)) : Option (Int32 × Int32 × (Nat → Int32)) :=
  k_c3 (p_X4_keep N x1 vc vsf vss) (fun r9 vsf_9 vss_9 => some (r9, vsf_9, vss_9))
def p_X1_length (N : Nat) (vpl : Int32) : Option (Int32) :=
  some (vpl)
def p_X0_length (N : Nat) (vhf : Int32) (vhl : Int32) : Option (Int32) :=
  some (vhl)
def p_X6_count (N : Nat) (x1 : Int32) (vc : (Nat → Int32)) (vhf : Int32) (vhl : Int32) (vpl : Int32) : Option (Int32) :=
  k_c1 (p_X6_outside N x1 (0 : Int32) (10 : Int32)) (fun r4 => (if r4 = 0 then (if x1 = (9 : Int32) then k_c1 (p_X1_length N vpl) (fun r23 => some (r23)) else (if x1 = (10 : Int32) then k_c1 (p_X0_length N vhf vhl) (fun r37 => some (r37)) else k_c1 (p_X3_cell N x1 vc) (fun r48 => some (r48)))) else some ((-2 : Int32))))
def p_X3_has (N : Nat) (x1 : Int32) (vc : (Nat → Int32)) : Option (Int32) :=
  (if x1 < 0 then some ((0 : Int32)) else k_c1 (p_X3_cell N (0 : Int32) vc) (fun r7 => (if r7 ≤ x1 then some ((0 : Int32)) else some ((1 : Int32)))))
def p_X3_teeth (N : Nat) (x1 : Int32) (vc : (Nat → Int32)) : Option (Int32) :=
  k_c1 (p_X3_placeOf N x1) (fun r2 => k_c1 (p_X3_cell N (r2 + (0 : Int32)) vc) (fun r7 => some (r7)))
def p_X3_height (N : Nat) (x1 : Int32) (x2 : Int32) (vc : (Nat → Int32)) : Option (Int32) :=
  k_c1 (p_X3_placeOf N x1) (fun r2 => k_c1 (p_X3_cell N ((r2 + (3 : Int32)) + x2) vc) (fun r9 => some (r9)))
def b_X3_teethOfSign_5 (N : Nat) (k_5 : Int32 → Int32 → Int32 → Int32 → (Nat → Int32) → Option (Int32)) (x1 : Int32) (x2 : Int32) (x3 : Int32) (x4 : Int32) (vc : (Nat → Int32)) : Option (Int32) :=
  k_c1 (p_X3_teeth N x1 vc) (fun r9 => (if r9 ≤ x4 then some (x3) else k_c1 (p_X3_height N x1 x4 vc) (fun r19 => (if (r19 * x2) ≤ 0 then k_let (x4 + (1 : Int32)) (fun x4_34 => k_5 x1 x2 x3 x4_34 vc) else k_let (x3 ||| ((1 : Int32) <<< (x4 &&& 31))) (fun x3_33 => k_let (x4 + (1 : Int32)) (fun x4_34 => k_5 x1 x2 x3_33 x4_34 vc))))))
def f_X3_teethOfSign_5 (N : Nat) : Nat → Int32 → Int32 → Int32 → Int32 → (Nat → Int32) → Option (Int32)
  | 0 => fun _ _ _ _ _ => none
  | n + 1 => b_X3_teethOfSign_5 N (f_X3_teethOfSign_5 N n)
def p_X3_teethOfSign (N : Nat) (x1 : Int32) (x2 : Int32) (vc : (Nat → Int32)) : Option (Int32) :=
  f_X3_teethOfSign_5 N N x1 x2 (0 : Int32) (0 : Int32) vc
def b_X3_greatestHeight_9 (N : Nat) (k_9 : Int32 → Int32 → Int32 → (Nat → Int32) → Option (Int32)) (x1 : Int32) (x2 : Int32) (x3 : Int32) (vc : (Nat → Int32)) : Option (Int32) :=
  k_c1 (p_X3_teeth N x1 vc) (fun r12 => (if r12 ≤ x3 then some (x2) else k_c1 (p_X3_height N x1 x3 vc) (fun r22 => k_let (k_max x2 r22) (fun r25 => k_let (x3 + (1 : Int32)) (fun x3_29 => k_9 x1 r25 x3_29 vc)))))
def f_X3_greatestHeight_9 (N : Nat) : Nat → Int32 → Int32 → Int32 → (Nat → Int32) → Option (Int32)
  | 0 => fun _ _ _ _ => none
  | n + 1 => b_X3_greatestHeight_9 N (f_X3_greatestHeight_9 N n)
def p_X3_greatestHeight (N : Nat) (x1 : Int32) (vc : (Nat → Int32)) : Option (Int32) :=
  k_c1 (p_X3_height N x1 (0 : Int32) vc) (fun r3 => f_X3_greatestHeight_9 N N x1 r3 (1 : Int32) vc)
def b_X3_leastHeight_9 (N : Nat) (k_9 : Int32 → Int32 → Int32 → (Nat → Int32) → Option (Int32)) (x1 : Int32) (x2 : Int32) (x3 : Int32) (vc : (Nat → Int32)) : Option (Int32) :=
  k_c1 (p_X3_teeth N x1 vc) (fun r12 => (if r12 ≤ x3 then some (x2) else k_c1 (p_X3_height N x1 x3 vc) (fun r22 => k_let (k_min x2 r22) (fun r25 => k_let (x3 + (1 : Int32)) (fun x3_29 => k_9 x1 r25 x3_29 vc)))))
def f_X3_leastHeight_9 (N : Nat) : Nat → Int32 → Int32 → Int32 → (Nat → Int32) → Option (Int32)
  | 0 => fun _ _ _ _ => none
  | n + 1 => b_X3_leastHeight_9 N (f_X3_leastHeight_9 N n)
def p_X3_leastHeight (N : Nat) (x1 : Int32) (vc : (Nat → Int32)) : Option (Int32) :=
  k_c1 (p_X3_height N x1 (0 : Int32) vc) (fun r3 => f_X3_leastHeight_9 N N x1 r3 (1 : Int32) vc)
def p_X3_stepsSinceWorn (N : Nat) (x1 : Int32) (vc : (Nat → Int32)) : Option (Int32) :=
  k_c1 (p_X3_placeOf N x1) (fun r2 => k_c1 (p_X3_cell N (r2 + (1 : Int32)) vc) (fun r7 => some (r7)))
def p_X3_timesWorn (N : Nat) (x1 : Int32) (vc : (Nat → Int32)) : Option (Int32) :=
  k_c1 (p_X3_placeOf N x1) (fun r2 => k_c1 (p_X3_cell N (r2 + (2 : Int32)) vc) (fun r7 => some (r7)))
def p_X6_of (N : Nat) (x1 : Int32) (x2 : Int32) (vc : (Nat → Int32)) : Option (Int32) :=
  k_c1 (p_X3_has N x1 vc) (fun r5 => (if r5 = 0 then some ((-1 : Int32)) else (if x2 = (0 : Int32) then k_c1 (p_X3_teeth N x1 vc) (fun r61 => some (r61)) else (if x2 = (1 : Int32) then k_c1 (p_X3_teethOfSign N x1 (1 : Int32) vc) (fun r71 => some (r71)) else (if x2 = (2 : Int32) then k_c1 (p_X3_teethOfSign N x1 (-1 : Int32) vc) (fun r81 => some (r81)) else (if x2 = (3 : Int32) then k_c1 (p_X3_greatestHeight N x1 vc) (fun r90 => some ((r90 + (9 : Int32)))) else (if x2 = (4 : Int32) then k_c1 (p_X3_leastHeight N x1 vc) (fun r102 => some ((r102 + (9 : Int32)))) else (if x2 = (5 : Int32) then k_c1 (p_X3_stepsSinceWorn N x1 vc) (fun r114 => some (r114)) else (if x2 = (6 : Int32) then k_c1 (p_X3_timesWorn N x1 vc) (fun r123 => some (r123)) else some ((-2 : Int32)))))))))))
def p_X3_hasTooth (N : Nat) (x1 : Int32) (x2 : Int32) (vc : (Nat → Int32)) : Option (Int32) :=
  k_c1 (p_X3_has N x1 vc) (fun r2 => (if r2 = 0 then some ((0 : Int32)) else (if x2 < 0 then some ((0 : Int32)) else k_c1 (p_X3_teeth N x1 vc) (fun r15 => (if r15 ≤ x2 then some ((0 : Int32)) else some ((1 : Int32)))))))
def p_X6_tooth (N : Nat) (x1 : Int32) (x2 : Int32) (vc : (Nat → Int32)) : Option (Int32) :=
  k_c1 (p_X3_hasTooth N x1 x2 vc) (fun r6 => (if r6 = 0 then some ((-1 : Int32)) else k_c1 (p_X3_height N x1 x2 vc) (fun r18 => some ((r18 + (9 : Int32))))))
def p_X3_fileTooth (N : Nat) (x1 : Int32) (x2 : Int32) (x3 : Int32) (vc : (Nat → Int32)) : Option (Int32 × (Nat → Int32)) :=
  k_c1 (p_X3_hasTooth N x1 x2 vc) (fun r3 => (if r3 = 0 then some ((-1 : Int32), vc) else k_c1 (p_X6_outside N x3 (-9 : Int32) (9 : Int32)) (fun r16 => (if r16 = 0 then k_c1 (p_X3_height N x1 x2 vc) (fun r28 => k_c1 (p_X3_shape N x1 x2 x3 vc) (fun vc_37 => some ((r28 + (9 : Int32)), vc_37))) else some ((-2 : Int32), vc)))))
def p_X6_file (N : Nat) (x1 : Int32) (x2 : Int32) (x3 : Int32) (vc : (Nat → Int32)) (vhf : Int32) (vhl : Int32) (vhs : (Nat → Int32)) : Option (Int32 × (Nat → Int32) × Int32 × Int32 × (Nat → Int32)) :=
  k_c1 (p_X0_prepare N vc vhf vhl vhs) (fun vhs_8 => k_c2 (p_X3_fileTooth N x1 x2 x3 vc) (fun r22 vc_22 => k_c3 (p_X0_recorded N r22 vhf vhl) (fun r25 vhf_25 vhl_25 => some (r25, vc_22, vhf_25, vhl_25, vhs_8))))
def p_X3_changeCard (N : Nat) (x1 : Int32) (x2 : Int32) (vc : (Nat → Int32)) : Option (Int32 × (Nat → Int32)) :=
  k_c1 (p_X6_outside N x1 (1 : Int32) (30 : Int32)) (fun r4 => (if r4 = 0 then k_c1 (p_X6_outside N x2 (0 : Int32) (30 : Int32)) (fun r14 => (if r14 = 0 then k_c1 (p_X3_cell N (1 : Int32) vc) (fun r25 => k_c1 (p_X3_change N (1 : Int32) x1 vc) (fun vc_32 => k_c1 (p_X3_change N (2 : Int32) x2 vc_32) (fun vc_38 => some (r25, vc_38)))) else some ((-2 : Int32), vc))) else some ((-2 : Int32), vc)))
def p_X6_card (N : Nat) (x1 : Int32) (x2 : Int32) (vc : (Nat → Int32)) (vhf : Int32) (vhl : Int32) (vhs : (Nat → Int32)) : Option (Int32 × (Nat → Int32) × Int32 × Int32 × (Nat → Int32)) :=
  k_c1 (p_X0_prepare N vc vhf vhl vhs) (fun vhs_8 => k_c2 (p_X3_changeCard N x1 x2 vc) (fun r21 vc_21 => k_c3 (p_X0_recorded N r21 vhf vhl) (fun r24 vhf_24 vhl_24 => some (r24, vc_21, vhf_24, vhl_24, vhs_8))))
def p_X3_setting (N : Nat) (x1 : Int32) (vc : (Nat → Int32)) : Option (Int32) :=
  k_c1 (p_X3_cell N ((6 : Int32) + x1) vc) (fun r5 => some (r5))
def p_X3_changeSetting (N : Nat) (x1 : Int32) (x2 : Int32) (vc : (Nat → Int32)) : Option (Int32 × (Nat → Int32)) :=
  k_c1 (p_X6_outside N x1 (0 : Int32) (2 : Int32)) (fun r3 => (if r3 = 0 then (if x1 = (2 : Int32) then k_c1 (p_X6_outside N x2 (1 : Int32) (99 : Int32)) (fun r21 => (if r21 = 0 then k_c1 (p_X3_setting N x1 vc) (fun r44 => k_c1 (p_X3_change N ((6 : Int32) + x1) x2 vc) (fun vc_55 => some (r44, vc_55))) else some ((-2 : Int32), vc))) else k_c1 (p_X6_outside N x2 (0 : Int32) (30 : Int32)) (fun r31 => (if r31 = 0 then k_c1 (p_X3_setting N x1 vc) (fun r44 => k_c1 (p_X3_change N ((6 : Int32) + x1) x2 vc) (fun vc_55 => some (r44, vc_55))) else some ((-2 : Int32), vc)))) else some ((-2 : Int32), vc)))
def p_X6_set (N : Nat) (x1 : Int32) (x2 : Int32) (vc : (Nat → Int32)) (vhf : Int32) (vhl : Int32) (vhs : (Nat → Int32)) : Option (Int32 × (Nat → Int32) × Int32 × Int32 × (Nat → Int32)) :=
  k_c1 (p_X0_prepare N vc vhf vhl vhs) (fun vhs_8 => k_c2 (p_X3_changeSetting N x1 x2 vc) (fun r21 vc_21 => k_c3 (p_X0_recorded N r21 vhf vhl) (fun r24 vhf_24 vhl_24 => some (r24, vc_21, vhf_24, vhl_24, vhs_8))))
def p_X6_pairError (N : Nat) (x1 : Int32) (x2 : Int32) (x3 : Int32) (x4 : Int32) (vc : (Nat → Int32)) : Option (Int32) :=
  k_c1 (p_X3_has N x1 vc) (fun r5 => (if r5 = 0 then some ((-1 : Int32)) else k_c1 (p_X3_has N x2 vc) (fun r16 => (if r16 = 0 then some ((-1 : Int32)) else (if x1 = x2 then some ((-2 : Int32)) else k_c1 (p_X6_outside N x3 (0 : Int32) (23 : Int32)) (fun r33 => (if r33 = 0 then k_c1 (p_X6_outside N x4 (0 : Int32) (30 : Int32)) (fun r44 => (if r44 = 0 then some ((0 : Int32)) else some ((-2 : Int32)))) else some ((-2 : Int32)))))))))
def b_X5_leastMultiple_2 (N : Nat) (k_2 : Int32 → Int32 → Int32 → Option (Int32)) (x0 : Int32) (x1 : Int32) (x2 : Int32) : Option (Int32) :=
  (if x1 ≤ x2 then some ((x0 * x1)) else k_nz x1 ((if ((x0 * x2) - (x0 * x2) / x1 * x1) = 0 then some ((x0 * x2)) else k_let (x2 + (1 : Int32)) (fun x2_19 => k_2 x0 x1 x2_19))))
def f_X5_leastMultiple_2 (N : Nat) : Nat → Int32 → Int32 → Int32 → Option (Int32)
  | 0 => fun _ _ _ => none
  | n + 1 => b_X5_leastMultiple_2 N (f_X5_leastMultiple_2 N n)
def p_X5_leastMultiple (N : Nat) (x0 : Int32) (x1 : Int32) : Option (Int32) :=
  f_X5_leastMultiple_2 N N x0 x1 (1 : Int32)
def p_X5_next (N : Nat) (x0 : Int32) (x1 : Int32) : Option (Int32) :=
  (if x1 ≤ (x0 + (1 : Int32)) then some ((0 : Int32)) else some ((x0 + (1 : Int32))))
def b_X5_lay_53 (N : Nat) (k_53 : Int32 → Int32 → Int32 → Int32 → Int32 → Int32 → Int32 → Int32 → (Nat → Int32) → Int32 → Int32 → Int32 → (Nat → Int32) → Option (Int32 × (Nat → Int32))) (x2 : Int32) (x3 : Int32) (x5 : Int32) (x6 : Int32) (x7 : Int32) (x8 : Int32) (x9 : Int32) (x10 : Int32) (vc : (Nat → Int32)) (vtl : Int32) (vta : Int32) (vtt : Int32) (vtp : (Nat → Int32)) : Option (Int32 × (Nat → Int32)) :=
  (if vtl ≤ x10 then some (vtl, vtp) else (if (552 : Int32) ≤ x10 then some (vtl, vtp) else k_c1 (p_X3_height N x2 x8 vc) (fun r84 => k_c1 (p_X3_height N x3 x9 vc) (fun r92 => k_st 552 vtp x10 ((x5 - r84) - r92) (fun vtp_96 => k_c1 (p_X5_next N x8 x6) (fun r101 => k_c1 (p_X5_next N x9 x7) (fun r110 => k_let (x10 + (1 : Int32)) (fun x10_115 => k_53 x2 x3 x5 x6 x7 r101 r110 x10_115 vc vtl vta vtt vtp_96))))))))
def f_X5_lay_53 (N : Nat) : Nat → Int32 → Int32 → Int32 → Int32 → Int32 → Int32 → Int32 → Int32 → (Nat → Int32) → Int32 → Int32 → Int32 → (Nat → Int32) → Option (Int32 × (Nat → Int32))
  | 0 => fun _ _ _ _ _ _ _ _ _ _ _ _ _ => none
  | n + 1 => b_X5_lay_53 N (f_X5_lay_53 N n)
def p_X5_lay (N : Nat) (x2 : Int32) (x3 : Int32) (x4 : Int32) (x5 : Int32) (vc : (Nat → Int32)) (vtl : Int32) (vta : Int32) (vtt : Int32) (vtp : (Nat → Int32)) : Option (Int32 × (Nat → Int32)) :=
  k_c1 (p_X3_teeth N x2 vc) (fun r2 => k_c1 (p_X3_teeth N x3 vc) (fun r9 => k_c1 (p_X5_leastMultiple N r2 r9) (fun r19 => k_let (k_min r19 (552 : Int32)) (fun r25 => (if r9 ≤ 0 then f_X5_lay_53 N N x2 x3 x5 r2 r9 (0 : Int32) (0 : Int32) (0 : Int32) vc r25 vta vtt vtp else k_nz r9 (k_let (x4 - x4 / r9 * r9) (fun x9_48 => f_X5_lay_53 N N x2 x3 x5 r2 r9 (0 : Int32) x9_48 (0 : Int32) vc r25 vta vtt vtp)))))))
def p_X5_press (N : Nat) (x1 : Int32) (vtl : Int32) (vta : Int32) (vtt : Int32) (vtp : (Nat → Int32)) : Option (Int32) :=
  (if x1 < 0 then some ((0 : Int32)) else (if (552 : Int32) ≤ x1 then some ((0 : Int32)) else k_ld 552 vtp x1 (fun r18 => some (r18))))
def p_X5_isSmoothAt (N : Nat) (x1 : Int32) (x2 : Int32) (vtl : Int32) (vta : Int32) (vtt : Int32) (vtp : (Nat → Int32)) : Option (Int32) :=
  (if x1 ≤ 0 then k_let (vtl - (1 : Int32)) (fun x3_16 => k_c1 (p_X5_press N x1 vtl vta vtt vtp) (fun r19 => k_c1 (p_X5_press N x3_16 vtl vta vtt vtp) (fun r24 => k_let (k_abs (r19 - r24)) (fun r28 => (if x2 < r28 then some ((0 : Int32)) else some ((1 : Int32))))))) else k_let (x1 - (1 : Int32)) (fun x3_16 => k_c1 (p_X5_press N x1 vtl vta vtt vtp) (fun r19 => k_c1 (p_X5_press N x3_16 vtl vta vtt vtp) (fun r24 => k_let (k_abs (r19 - r24)) (fun r28 => (if x2 < r28 then some ((0 : Int32)) else some ((1 : Int32))))))))
def b_X5_firstBadStep_2 (N : Nat) (k_2 : Int32 → Int32 → Int32 → Int32 → Int32 → (Nat → Int32) → Option (Int32)) (x1 : Int32) (x2 : Int32) (vtl : Int32) (vta : Int32) (vtt : Int32) (vtp : (Nat → Int32)) : Option (Int32) :=
  (if vtl ≤ x2 then some ((-6 : Int32)) else k_c1 (p_X5_press N x2 vtl vta vtt vtp) (fun r12 => (if r12 < (1 : Int32) then some (x2) else k_c1 (p_X5_isSmoothAt N x2 x1 vtl vta vtt vtp) (fun r22 => (if r22 = 0 then some (x2) else k_let (x2 + (1 : Int32)) (fun x2_30 => k_2 x1 x2_30 vtl vta vtt vtp))))))
def f_X5_firstBadStep_2 (N : Nat) : Nat → Int32 → Int32 → Int32 → Int32 → Int32 → (Nat → Int32) → Option (Int32)
  | 0 => fun _ _ _ _ _ _ => none
  | n + 1 => b_X5_firstBadStep_2 N (f_X5_firstBadStep_2 N n)
def p_X5_firstBadStep (N : Nat) (x1 : Int32) (vtl : Int32) (vta : Int32) (vtt : Int32) (vtp : (Nat → Int32)) : Option (Int32) :=
  f_X5_firstBadStep_2 N N x1 (0 : Int32) vtl vta vtt vtp
def p_X5_meshes (N : Nat) (x1 : Int32) (vtl : Int32) (vta : Int32) (vtt : Int32) (vtp : (Nat → Int32)) : Option (Int32) :=
  k_c1 (p_X5_firstBadStep N x1 vtl vta vtt vtp) (fun r2 => (if r2 = (-6 : Int32) then some ((1 : Int32)) else some ((0 : Int32))))
def p_X5_begin (N : Nat) (vtl : Int32) (vta : Int32) (vtt : Int32) : Option (Int32 × Int32) :=
  some ((0 : Int32), (0 : Int32))
def b_X5_tears_6 (N : Nat) (k_6 : Int32 → Int32 → Int32 → Int32 → Int32 → Int32 → Int32 → Int32 → Int32 → (Nat → Int32) → Option (Int32 × Int32 × Int32)) (x1 : Int32) (x2 : Int32) (x3 : Int32) (x4 : Int32) (x5 : Int32) (x6 : Int32) (vtl : Int32) (vta : Int32) (vtt : Int32) (vtp : (Nat → Int32)) : Option (Int32 × Int32 × Int32) :=
  (if x1 ≤ x6 then some ((0 : Int32), vta, vtt) else k_c1 (p_X5_press N vta vtl vta vtt vtp) (fun r19 => k_let (k_max (0 : Int32) (x2 - r19)) (fun r23 => k_c1 (p_X5_next N vta vtl) (fun r37 => k_let (vtt + (1 : Int32)) (fun vtt_50 => (if x6 ≤ 0 then (if x3 < r23 then some ((1 : Int32), r37, vtt_50) else k_let (x6 + (1 : Int32)) (fun x6_95 => k_6 x1 x2 x3 x4 r23 x6_95 vtl r37 vtt_50 vtp)) else k_let (k_abs (r23 - x5)) (fun r63 => (if r63 ≤ x4 then (if x3 < r23 then some ((1 : Int32), r37, vtt_50) else k_let (x6 + (1 : Int32)) (fun x6_95 => k_6 x1 x2 x3 x4 r23 x6_95 vtl r37 vtt_50 vtp)) else (if x3 < r23 then some ((1 : Int32), r37, vtt_50) else some ((1 : Int32), r37, vtt_50))))))))))
def f_X5_tears_6 (N : Nat) : Nat → Int32 → Int32 → Int32 → Int32 → Int32 → Int32 → Int32 → Int32 → Int32 → (Nat → Int32) → Option (Int32 × Int32 × Int32)
  | 0 => fun _ _ _ _ _ _ _ _ _ _ => none
  | n + 1 => b_X5_tears_6 N (f_X5_tears_6 N n)
def p_X5_tears (N : Nat) (x1 : Int32) (x2 : Int32) (x3 : Int32) (x4 : Int32) (vtl : Int32) (vta : Int32) (vtt : Int32) (vtp : (Nat → Int32)) : Option (Int32 × Int32 × Int32) :=
  f_X5_tears_6 N N x1 x2 x3 x4 (0 : Int32) (0 : Int32) vtl vta vtt vtp
def p_X5_taken (N : Nat) (vtl : Int32) (vta : Int32) (vtt : Int32) : Option (Int32) :=
  some (vtt)
def p_X3_countRun (N : Nat) (x1 : Int32) (x2 : Int32) (x3 : Int32) (vc : (Nat → Int32)) : Option ((Nat → Int32)) :=
  k_c1 (p_X3_raise N (3 : Int32) x1 vc) (fun vc_3 => k_c1 (p_X3_raise N (4 : Int32) x2 vc_3) (fun vc_9 => k_c1 (p_X3_raise N (5 : Int32) x3 vc_9) (fun vc_15 => some (vc_15))))
def b_X3_wearDown_8 (N : Nat) (k_8 : Int32 → Int32 → Int32 → (Nat → Int32) → Option ((Nat → Int32))) (x1 : Int32) (x2 : Int32) (x3 : Int32) (vc : (Nat → Int32)) : Option ((Nat → Int32)) :=
  (if x2 ≤ x3 then k_c1 (p_X3_placeOf N x1) (fun r44 => k_c1 (p_X3_change N (r44 + (1 : Int32)) (0 : Int32) vc) (fun vc_50 => k_c1 (p_X3_placeOf N x1) (fun r55 => k_c1 (p_X3_raise N (r55 + (2 : Int32)) (1 : Int32) vc_50) (fun vc_61 => some (vc_61))))) else k_c1 (p_X3_height N x1 x3 vc) (fun r16 => (if r16 ≤ 0 then k_let (x3 + (1 : Int32)) (fun x3_36 => k_8 x1 x2 x3_36 vc) else k_c1 (p_X3_shape N x1 x3 (r16 - (1 : Int32)) vc) (fun vc_33 => k_let (x3 + (1 : Int32)) (fun x3_36 => k_8 x1 x2 x3_36 vc_33)))))
def f_X3_wearDown_8 (N : Nat) : Nat → Int32 → Int32 → Int32 → (Nat → Int32) → Option ((Nat → Int32))
  | 0 => fun _ _ _ _ => none
  | n + 1 => b_X3_wearDown_8 N (f_X3_wearDown_8 N n)
def p_X3_wearDown (N : Nat) (x1 : Int32) (vc : (Nat → Int32)) : Option ((Nat → Int32)) :=
  k_c1 (p_X3_teeth N x1 vc) (fun r2 => f_X3_wearDown_8 N N x1 r2 (0 : Int32) vc)
def p_X3_turnRoller (N : Nat) (x1 : Int32) (x2 : Int32) (vc : (Nat → Int32)) : Option ((Nat → Int32)) :=
  k_c1 (p_X3_placeOf N x1) (fun r2 => k_c1 (p_X3_raise N (r2 + (1 : Int32)) x2 vc) (fun vc_8 => k_c1 (p_X3_stepsSinceWorn N x1 vc_8) (fun r13 => k_c1 (p_X3_setting N (2 : Int32) vc_8) (fun r18 => k_c1 (p_X3_teeth N x1 vc_8) (fun r23 => (if r13 < (r18 * r23) then some (vc_8) else k_c1 (p_X3_wearDown N x1 vc_8) (fun vc_32 => some (vc_32))))))))
def b_X6_runCards_94 (N : Nat) (k_94 : Int32 → Int32 → Int32 → Int32 → Int32 → Int32 → (Nat → Int32) → Int32 → Int32 → Int32 → (Nat → Int32) → Option (Int32 × (Nat → Int32) × Int32 × Int32 × Int32 × (Nat → Int32))) (x1 : Int32) (x2 : Int32) (x5 : Int32) (x6 : Int32) (x8 : Int32) (x9 : Int32) (vc : (Nat → Int32)) (vtl : Int32) (vta : Int32) (vtt : Int32) (vtp : (Nat → Int32)) : Option (Int32 × (Nat → Int32) × Int32 × Int32 × Int32 × (Nat → Int32)) :=
  (if x5 ≤ x9 then k_c1 (p_X5_taken N vtl vta vtt) (fun r158 => k_c1 (p_X3_countRun N x5 x8 r158 vc) (fun vc_161 => k_c1 (p_X5_taken N vtl vta vtt) (fun r173 => k_c1 (p_X3_turnRoller N x1 r173 vc_161) (fun vc_176 => k_c1 (p_X5_taken N vtl vta vtt) (fun r188 => k_c1 (p_X3_turnRoller N x2 r188 vc_176) (fun vc_191 => some (x8, vc_191, vtl, vta, vtt, vtp))))))) else k_c1 (p_X3_cell N (1 : Int32) vc) (fun r112 => k_c1 (p_X3_cell N (2 : Int32) vc) (fun r120 => k_c1 (p_X3_setting N (1 : Int32) vc) (fun r128 => k_c3 (p_X5_tears N x6 r112 r120 r128 vtl vta vtt vtp) (fun r131 vta_131 vtt_131 => (if r131 = 0 then k_let (x9 + (1 : Int32)) (fun x9_140 => k_94 x1 x2 x5 x6 x8 x9_140 vc vtl vta_131 vtt_131 vtp) else k_let (x8 + (1 : Int32)) (fun x8_137 => k_let (x9 + (1 : Int32)) (fun x9_140 => k_94 x1 x2 x5 x6 x8_137 x9_140 vc vtl vta_131 vtt_131 vtp))))))))
def f_X6_runCards_94 (N : Nat) : Nat → Int32 → Int32 → Int32 → Int32 → Int32 → Int32 → (Nat → Int32) → Int32 → Int32 → Int32 → (Nat → Int32) → Option (Int32 × (Nat → Int32) × Int32 × Int32 × Int32 × (Nat → Int32))
  | 0 => fun _ _ _ _ _ _ _ _ _ _ _ => none
  | n + 1 => b_X6_runCards_94 N (f_X6_runCards_94 N n)
def p_X6_runCards (N : Nat) (x1 : Int32) (x2 : Int32) (x3 : Int32) (x4 : Int32) (x5 : Int32) (x6 : Int32) (vc : (Nat → Int32)) (vtl : Int32) (vta : Int32) (vtt : Int32) (vtp : (Nat → Int32)) : Option (Int32 × (Nat → Int32) × Int32 × Int32 × Int32 × (Nat → Int32)) :=
  k_c1 (p_X6_pairError N x1 x2 x3 x4 vc) (fun r6 => (if r6 = 0 then k_c1 (p_X6_outside N x5 (1 : Int32) (99 : Int32)) (fun r24 => (if r24 = 0 then k_c1 (p_X6_outside N x6 (1 : Int32) (99 : Int32)) (fun r35 => (if r35 = 0 then k_c2 (p_X5_lay N x1 x2 x3 x4 vc vtl vta vtt vtp) (fun vtl_57 vtp_57 => k_c1 (p_X3_setting N (0 : Int32) vc) (fun r69 => k_c1 (p_X5_meshes N r69 vtl_57 vta vtt vtp_57) (fun r72 => (if r72 = 0 then some ((-5 : Int32), vc, vtl_57, vta, vtt, vtp_57) else k_c2 (p_X5_begin N vtl_57 vta vtt) (fun vta_85 vtt_85 => f_X6_runCards_94 N N x1 x2 x5 x6 (0 : Int32) (0 : Int32) vc vtl_57 vta_85 vtt_85 vtp_57))))) else some ((-2 : Int32), vc, vtl, vta, vtt, vtp))) else some ((-2 : Int32), vc, vtl, vta, vtt, vtp))) else some (r6, vc, vtl, vta, vtt, vtp)))
def p_X6_run (N : Nat) (x1 : Int32) (x2 : Int32) (x3 : Int32) (x4 : Int32) (x5 : Int32) (x6 : Int32) (vc : (Nat → Int32)) (vhf : Int32) (vhl : Int32) (vhs : (Nat → Int32)) (vtl : Int32) (vta : Int32) (vtt : Int32) (vtp : (Nat → Int32)) : Option (Int32 × (Nat → Int32) × Int32 × Int32 × (Nat → Int32) × Int32 × Int32 × Int32 × (Nat → Int32)) :=
  k_c1 (p_X0_prepare N vc vhf vhl vhs) (fun vhs_8 => k_c6 (p_X6_runCards N x1 x2 x3 x4 x5 x6 vc vtl vta vtt vtp) (fun r25 vc_25 vtl_25 vta_25 vtt_25 vtp_25 => k_c3 (p_X0_recorded N r25 vhf vhl) (fun r28 vhf_28 vhl_28 => some (r28, vc_25, vhf_28, vhl_28, vhs_8, vtl_25, vta_25, vtt_25, vtp_25))))
def b_X3_meltRoller_23 (N : Nat) (k_23 : Int32 → Int32 → (Nat → Int32) → Option (Int32 × (Nat → Int32))) (x2 : Int32) (x3 : Int32) (vc : (Nat → Int32)) : Option (Int32 × (Nat → Int32)) :=
  k_c1 (p_X3_placeOf N x2) (fun r25 => (if r25 ≤ x3 then k_c1 (p_X3_change N (0 : Int32) x2 vc) (fun vc_53 => some (x2, vc_53)) else k_c1 (p_X3_cell N (x3 + (27 : Int32)) vc) (fun r38 => k_c1 (p_X3_change N x3 r38 vc) (fun vc_41 => k_let (x3 + (1 : Int32)) (fun x3_44 => k_23 x2 x3_44 vc_41)))))
def f_X3_meltRoller_23 (N : Nat) : Nat → Int32 → Int32 → (Nat → Int32) → Option (Int32 × (Nat → Int32))
  | 0 => fun _ _ _ => none
  | n + 1 => b_X3_meltRoller_23 N (f_X3_meltRoller_23 N n)
def p_X3_meltRoller (N : Nat) (x1 : Int32) (vc : (Nat → Int32)) : Option (Int32 × (Nat → Int32)) :=
  k_c1 (p_X3_has N x1 vc) (fun r2 => (if r2 = 0 then some ((-1 : Int32), vc) else k_c1 (p_X3_cell N (0 : Int32) vc) (fun r12 => k_let (r12 - (1 : Int32)) (fun x2_17 => k_c1 (p_X3_placeOf N x1) (fun r19 => f_X3_meltRoller_23 N N x2_17 r19 vc)))))
def p_X6_melt (N : Nat) (x1 : Int32) (vc : (Nat → Int32)) (vhf : Int32) (vhl : Int32) (vhs : (Nat → Int32)) : Option (Int32 × (Nat → Int32) × Int32 × Int32 × (Nat → Int32)) :=
  k_c1 (p_X0_prepare N vc vhf vhl vhs) (fun vhs_8 => k_c2 (p_X3_meltRoller N x1 vc) (fun r20 vc_20 => k_c3 (p_X0_recorded N r20 vhf vhl) (fun r23 vhf_23 vhl_23 => some (r23, vc_20, vhf_23, vhl_23, vhs_8))))
def p_X3_copyFrom_Ls (N : Nat) (x2 : Int32) (vc : (Nat → Int32)) (vss : (Nat → Int32)) : Option ((Nat → Int32)) :=
  (if x2 < 0 then some (vc) else k_nz (225 : Int32) ((if ((450 : Int32) / (225 : Int32)) ≤ x2 then some (vc) else k_cpy 450 225 vss vc (x2 * (225 : Int32)) (0 : Int32) (225 : Int32) (fun vc_28 => some (vc_28)))))
def p_X4_fetch (N : Nat) (x1 : Int32) (vc : (Nat → Int32)) (vsf : Int32) (vss : (Nat → Int32)) : Option (Int32 × (Nat → Int32)) :=
  k_c1 (p_X6_outside N x1 (0 : Int32) (1 : Int32)) (fun r3 => (if r3 = 0 then (if (vsf &&& ((1 : Int32) <<< (x1 &&& 31))) = 0 then some ((-5 : Int32), vc) else k_c1 (p_X3_copyFrom_Ls N x1 vc vss) (fun vc_32 => k_c1 (p_X3_cell N (0 : Int32) vc_32) (fun r37 => some (r37, vc_32)))) else some ((-2 : Int32), vc)))
def p_X6_restore (N : Nat) (x1 : Int32) (vc : (Nat → Int32)) (vhf : Int32) (vhl : Int32) (vhs : (Nat → Int32)) (vsf : Int32) (vss : (Nat → Int32)) : Option (Int32 × (Nat → Int32) × Int32 × Int32 × (Nat → Int32)) :=
  k_c1 (p_X0_prepare N vc vhf vhl vhs) (fun vhs_8 => k_c2 (p_X4_fetch N x1 vc vsf vss) (fun r24 vc_24 => k_c3 (p_X0_recorded N r24 vhf vhl) (fun r27 vhf_27 vhl_27 => some (r27, vc_24, vhf_27, vhl_27, vhs_8))))
def p_X2_begin (N : Nat) (vra : Int32) (vrk : Int32) (vrt : Int32) : Option (Int32) :=
  some ((0 : Int32))
def p_X1_codeAt (N : Nat) (x1 : Int32) (vpl : Int32) (vpp : (Nat → Int32)) : Option (Int32) :=
  (if x1 < 0 then some ((0 : Int32)) else (if vpl ≤ x1 then some ((0 : Int32)) else (if (80 : Int32) ≤ x1 then some ((0 : Int32)) else k_ld 80 vpp x1 (fun r26 => some (r26)))))
def p_X2_skip (N : Nat) (x1 : Int32) (vpl : Int32) (vpp : (Nat → Int32)) (vra : Int32) (vrk : Int32) (vrt : Int32) : Option (Int32 × Int32) :=
  k_c1 (p_X1_codeAt N vrt vpl vpp) (fun r8 => (if r8 = x1 then k_let (vrt + (1 : Int32)) (fun vrt_24 => some ((1 : Int32), vrt_24)) else some ((0 : Int32), vrt)))
def p_X2_isDigit (N : Nat) (vpl : Int32) (vpp : (Nat → Int32)) (vra : Int32) (vrk : Int32) (vrt : Int32) : Option (Int32) :=
  k_c1 (p_X1_codeAt N vrt vpl vpp) (fun r8 => k_c1 (p_X6_outside N r8 (48 : Int32) (57 : Int32)) (fun r15 => (if r15 = 0 then some ((1 : Int32)) else some ((0 : Int32)))))
def p_X2_readDigit (N : Nat) (vpl : Int32) (vpp : (Nat → Int32)) (vra : Int32) (vrk : Int32) (vrt : Int32) : Option (Int32 × Int32) :=
  k_c1 (p_X1_codeAt N vrt vpl vpp) (fun r8 => k_let (r8 - (48 : Int32)) (fun x1_14 => k_let (vrt + (1 : Int32)) (fun vrt_22 => some (x1_14, vrt_22))))
def p_X2_note (N : Nat) (x1 : Int32) (vra : Int32) (vrk : Int32) (vrt : Int32) (vrn : (Nat → Int32)) : Option (Int32 × (Nat → Int32)) :=
  (if vra < 0 then some (vra, vrn) else (if (40 : Int32) ≤ vra then some (vra, vrn) else k_st 40 vrn vra x1 (fun vrn_28 => k_let (vra + (1 : Int32)) (fun vra_36 => some (vra_36, vrn_28)))))
def p_X2_readValue (N : Nat) (vpl : Int32) (vpp : (Nat → Int32)) (vra : Int32) (vrk : Int32) (vrt : Int32) (vrn : (Nat → Int32)) : Option (Int32 × Int32 × Int32 × (Nat → Int32)) :=
  k_c2 (p_X2_skip N (45 : Int32) vpl vpp vra vrk vrt) (fun r3 vrt_3 => (if r3 = 0 then k_c1 (p_X2_isDigit N vpl vpp vra vrk vrt_3) (fun r16 => (if r16 = 0 then some ((0 : Int32), vra, vrt_3, vrn) else k_c2 (p_X2_readDigit N vpl vpp vra vrk vrt_3) (fun r27 vrt_27 => k_c2 (p_X2_note N ((1 : Int32) * r27) vra vrk vrt_27 vrn) (fun vra_31 vrn_31 => some ((1 : Int32), vra_31, vrt_27, vrn_31))))) else k_c1 (p_X2_isDigit N vpl vpp vra vrk vrt_3) (fun r16 => (if r16 = 0 then some ((0 : Int32), vra, vrt_3, vrn) else k_c2 (p_X2_readDigit N vpl vpp vra vrk vrt_3) (fun r27 vrt_27 => k_c2 (p_X2_note N ((-1 : Int32) * r27) vra vrk vrt_27 vrn) (fun vra_31 vrn_31 => some ((1 : Int32), vra_31, vrt_27, vrn_31)))))))
def b_X2_readValues_7 (N : Nat) (k_7 : Int32 → Int32 → Int32 → (Nat → Int32) → Int32 → Int32 → Int32 → (Nat → Int32) → Option (Int32 × Int32 × Int32 × (Nat → Int32))) (x1 : Int32) (x2 : Int32) (vpl : Int32) (vpp : (Nat → Int32)) (vra : Int32) (vrk : Int32) (vrt : Int32) (vrn : (Nat → Int32)) : Option (Int32 × Int32 × Int32 × (Nat → Int32)) :=
  (if (40 : Int32) ≤ x2 then k_bit x1 (some (x1, vra, vrt, vrn)) else (if x1 = 0 then k_bit x1 (some (x1, vra, vrt, vrn)) else k_c2 (p_X2_skip N (44 : Int32) vpl vpp vra vrk vrt) (fun r20 vrt_20 => (if r20 = 0 then k_bit x1 (some (x1, vra, vrt_20, vrn)) else k_c4 (p_X2_readValue N vpl vpp vra vrk vrt_20 vrn) (fun r27 vra_27 vrt_27 vrn_27 => k_let (x2 + (1 : Int32)) (fun x2_31 => k_7 r27 x2_31 vpl vpp vra_27 vrk vrt_27 vrn_27))))))
def f_X2_readValues_7 (N : Nat) : Nat → Int32 → Int32 → Int32 → (Nat → Int32) → Int32 → Int32 → Int32 → (Nat → Int32) → Option (Int32 × Int32 × Int32 × (Nat → Int32))
  | 0 => fun _ _ _ _ _ _ _ _ => none
  | n + 1 => b_X2_readValues_7 N (f_X2_readValues_7 N n)
def p_X2_readValues (N : Nat) (vpl : Int32) (vpp : (Nat → Int32)) (vra : Int32) (vrk : Int32) (vrt : Int32) (vrn : (Nat → Int32)) : Option (Int32 × Int32 × Int32 × (Nat → Int32)) :=
  k_c4 (p_X2_readValue N vpl vpp vra vrk vrt vrn) (fun r1 vra_1 vrt_1 vrn_1 => f_X2_readValues_7 N N r1 (1 : Int32) vpl vpp vra_1 vrk vrt_1 vrn_1)
def p_X2_readNumber (N : Nat) (vpl : Int32) (vpp : (Nat → Int32)) (vra : Int32) (vrk : Int32) (vrt : Int32) (vrn : (Nat → Int32)) : Option (Int32 × Int32 × Int32 × (Nat → Int32)) :=
  k_c1 (p_X2_isDigit N vpl vpp vra vrk vrt) (fun r1 => (if r1 = 0 then some ((0 : Int32), vra, vrt, vrn) else k_c2 (p_X2_readDigit N vpl vpp vra vrk vrt) (fun r10 vrt_10 => (if r10 ≤ 0 then k_c2 (p_X2_note N r10 vra vrk vrt_10 vrn) (fun vra_37 vrn_37 => some ((1 : Int32), vra_37, vrt_10, vrn_37)) else k_c1 (p_X2_isDigit N vpl vpp vra vrk vrt_10) (fun r19 => (if r19 = 0 then k_c2 (p_X2_note N r10 vra vrk vrt_10 vrn) (fun vra_37 vrn_37 => some ((1 : Int32), vra_37, vrt_10, vrn_37)) else k_c2 (p_X2_readDigit N vpl vpp vra vrk vrt_10) (fun r30 vrt_30 => k_let (((10 : Int32) * r10) + r30) (fun x1_34 => k_c2 (p_X2_note N x1_34 vra vrk vrt_30 vrn) (fun vra_37 vrn_37 => some ((1 : Int32), vra_37, vrt_30, vrn_37))))))))))
def p_X2_readOrder (N : Nat) (vpl : Int32) (vpp : (Nat → Int32)) (vra : Int32) (vrk : Int32) (vrt : Int32) (vrn : (Nat → Int32)) : Option (Int32 × Int32 × Int32 × Int32 × (Nat → Int32)) :=
  k_c1 (p_X1_codeAt N vrt vpl vpp) (fun r14 => (if r14 = (43 : Int32) then k_c2 (p_X2_skip N (43 : Int32) vpl vpp (0 : Int32) r14 vrt) (fun r71 vrt_71 => (if r71 = 0 then some ((0 : Int32), (0 : Int32), r14, vrt_71, vrn) else k_c4 (p_X2_readValues N vpl vpp (0 : Int32) r14 vrt_71 vrn) (fun r78 vra_78 vrt_78 vrn_78 => (if r78 = 0 then some ((0 : Int32), vra_78, r14, vrt_78, vrn_78) else some ((1 : Int32), vra_78, r14, vrt_78, vrn_78))))) else (if r14 = (102 : Int32) then k_c2 (p_X2_skip N (102 : Int32) vpl vpp (0 : Int32) r14 vrt) (fun r217 vrt_217 => (if r217 = 0 then some ((0 : Int32), (0 : Int32), r14, vrt_217, vrn) else k_c4 (p_X2_readNumber N vpl vpp (0 : Int32) r14 vrt_217 vrn) (fun r224 vra_224 vrt_224 vrn_224 => (if r224 = 0 then some ((0 : Int32), vra_224, r14, vrt_224, vrn_224) else k_c2 (p_X2_skip N (46 : Int32) vpl vpp vra_224 r14 vrt_224) (fun r233 vrt_233 => (if r233 = 0 then some ((0 : Int32), vra_224, r14, vrt_233, vrn_224) else k_c4 (p_X2_readNumber N vpl vpp vra_224 r14 vrt_233 vrn_224) (fun r240 vra_240 vrt_240 vrn_240 => (if r240 = 0 then some ((0 : Int32), vra_240, r14, vrt_240, vrn_240) else k_c2 (p_X2_skip N (61 : Int32) vpl vpp vra_240 r14 vrt_240) (fun r249 vrt_249 => (if r249 = 0 then some ((0 : Int32), vra_240, r14, vrt_249, vrn_240) else k_c4 (p_X2_readValue N vpl vpp vra_240 r14 vrt_249 vrn_240) (fun r256 vra_256 vrt_256 vrn_256 => (if r256 = 0 then some ((0 : Int32), vra_256, r14, vrt_256, vrn_256) else some ((1 : Int32), vra_256, r14, vrt_256, vrn_256))))))))))))) else (if r14 = (109 : Int32) then k_c2 (p_X2_skip N (109 : Int32) vpl vpp (0 : Int32) r14 vrt) (fun r195 vrt_195 => (if r195 = 0 then some ((0 : Int32), (0 : Int32), r14, vrt_195, vrn) else k_c4 (p_X2_readNumber N vpl vpp (0 : Int32) r14 vrt_195 vrn) (fun r202 vra_202 vrt_202 vrn_202 => (if r202 = 0 then some ((0 : Int32), vra_202, r14, vrt_202, vrn_202) else some ((1 : Int32), vra_202, r14, vrt_202, vrn_202))))) else (if r14 = (114 : Int32) then k_c2 (p_X2_skip N (114 : Int32) vpl vpp (0 : Int32) r14 vrt) (fun r93 vrt_93 => (if r93 = 0 then some ((0 : Int32), (0 : Int32), r14, vrt_93, vrn) else k_c4 (p_X2_readNumber N vpl vpp (0 : Int32) r14 vrt_93 vrn) (fun r100 vra_100 vrt_100 vrn_100 => (if r100 = 0 then some ((0 : Int32), vra_100, r14, vrt_100, vrn_100) else k_c2 (p_X2_skip N (47 : Int32) vpl vpp vra_100 r14 vrt_100) (fun r109 vrt_109 => (if r109 = 0 then some ((0 : Int32), vra_100, r14, vrt_109, vrn_100) else k_c4 (p_X2_readNumber N vpl vpp vra_100 r14 vrt_109 vrn_100) (fun r116 vra_116 vrt_116 vrn_116 => (if r116 = 0 then some ((0 : Int32), vra_116, r14, vrt_116, vrn_116) else k_c2 (p_X2_skip N (64 : Int32) vpl vpp vra_116 r14 vrt_116) (fun r125 vrt_125 => (if r125 = 0 then some ((0 : Int32), vra_116, r14, vrt_125, vrn_116) else k_c4 (p_X2_readNumber N vpl vpp vra_116 r14 vrt_125 vrn_116) (fun r132 vra_132 vrt_132 vrn_132 => (if r132 = 0 then some ((0 : Int32), vra_132, r14, vrt_132, vrn_132) else k_c2 (p_X2_skip N (95 : Int32) vpl vpp vra_132 r14 vrt_132) (fun r141 vrt_141 => (if r141 = 0 then some ((0 : Int32), vra_132, r14, vrt_141, vrn_132) else k_c4 (p_X2_readNumber N vpl vpp vra_132 r14 vrt_141 vrn_132) (fun r148 vra_148 vrt_148 vrn_148 => (if r148 = 0 then some ((0 : Int32), vra_148, r14, vrt_148, vrn_148) else k_c2 (p_X2_skip N (58 : Int32) vpl vpp vra_148 r14 vrt_148) (fun r157 vrt_157 => (if r157 = 0 then some ((0 : Int32), vra_148, r14, vrt_157, vrn_148) else k_c4 (p_X2_readNumber N vpl vpp vra_148 r14 vrt_157 vrn_148) (fun r164 vra_164 vrt_164 vrn_164 => (if r164 = 0 then some ((0 : Int32), vra_164, r14, vrt_164, vrn_164) else k_c2 (p_X2_skip N (42 : Int32) vpl vpp vra_164 r14 vrt_164) (fun r173 vrt_173 => (if r173 = 0 then some ((0 : Int32), vra_164, r14, vrt_173, vrn_164) else k_c4 (p_X2_readNumber N vpl vpp vra_164 r14 vrt_173 vrn_164) (fun r180 vra_180 vrt_180 vrn_180 => (if r180 = 0 then some ((0 : Int32), vra_180, r14, vrt_180, vrn_180) else some ((1 : Int32), vra_180, r14, vrt_180, vrn_180))))))))))))))))))))))))) else some ((0 : Int32), (0 : Int32), r14, vrt, vrn))))))
def b_X2_firstFault_6 (N : Nat) (k_6 : Int32 → Int32 → (Nat → Int32) → Int32 → Int32 → Int32 → (Nat → Int32) → Option (Int32 × Int32 × Int32 × Int32 × (Nat → Int32))) (x1 : Int32) (vpl : Int32) (vpp : (Nat → Int32)) (vra : Int32) (vrk : Int32) (vrt : Int32) (vrn : (Nat → Int32)) : Option (Int32 × Int32 × Int32 × Int32 × (Nat → Int32)) :=
  (if (80 : Int32) ≤ x1 then some (vrt, vra, vrk, vrt, vrn) else k_c5 (p_X2_readOrder N vpl vpp vra vrk vrt vrn) (fun r13 vra_13 vrk_13 vrt_13 vrn_13 => (if r13 = 0 then some (vrt_13, vra_13, vrk_13, vrt_13, vrn_13) else k_c1 (p_X1_length N vpl) (fun r32 => (if vrt_13 = r32 then some ((-6 : Int32), vra_13, vrk_13, vrt_13, vrn_13) else k_c2 (p_X2_skip N (59 : Int32) vpl vpp vra_13 vrk_13 vrt_13) (fun r44 vrt_44 => (if r44 = 0 then some (vrt_44, vra_13, vrk_13, vrt_44, vrn_13) else k_let (x1 + (1 : Int32)) (fun x1_55 => k_6 x1_55 vpl vpp vra_13 vrk_13 vrt_44 vrn_13))))))))
def f_X2_firstFault_6 (N : Nat) : Nat → Int32 → Int32 → (Nat → Int32) → Int32 → Int32 → Int32 → (Nat → Int32) → Option (Int32 × Int32 × Int32 × Int32 × (Nat → Int32))
  | 0 => fun _ _ _ _ _ _ _ => none
  | n + 1 => b_X2_firstFault_6 N (f_X2_firstFault_6 N n)
def p_X2_firstFault (N : Nat) (vpl : Int32) (vpp : (Nat → Int32)) (vra : Int32) (vrk : Int32) (vrt : Int32) (vrn : (Nat → Int32)) : Option (Int32 × Int32 × Int32 × Int32 × (Nat → Int32)) :=
  k_c1 (p_X2_begin N vra vrk vrt) (fun vrt_1 => f_X2_firstFault_6 N N (0 : Int32) vpl vpp vra vrk vrt_1 vrn)
def p_X2_kind (N : Nat) (vra : Int32) (vrk : Int32) (vrt : Int32) : Option (Int32) :=
  some (vrk)
def p_X2_numbers (N : Nat) (vra : Int32) (vrk : Int32) (vrt : Int32) : Option (Int32) :=
  some (vra)
def p_X2_number (N : Nat) (x1 : Int32) (vra : Int32) (vrk : Int32) (vrt : Int32) (vrn : (Nat → Int32)) : Option (Int32) :=
  (if x1 < 0 then some ((0 : Int32)) else (if (40 : Int32) ≤ x1 then some ((0 : Int32)) else k_ld 40 vrn x1 (fun r18 => some (r18))))
def b_X6_addRollerOfText_26 (N : Nat) (k_26 : Int32 → Int32 → Int32 → (Nat → Int32) → Int32 → Int32 → Int32 → (Nat → Int32) → Option (Int32 × (Nat → Int32))) (x1 : Int32) (x2 : Int32) (x3 : Int32) (vc : (Nat → Int32)) (vra : Int32) (vrk : Int32) (vrt : Int32) (vrn : (Nat → Int32)) : Option (Int32 × (Nat → Int32)) :=
  (if x1 ≤ x3 then some (x2, vc) else k_c1 (p_X2_number N x3 vra vrk vrt vrn) (fun r42 => k_c2 (p_X3_fileTooth N x2 x3 r42 vc) (fun r45 vc_45 => k_let (x3 + (1 : Int32)) (fun x3_49 => k_26 x1 x2 x3_49 vc_45 vra vrk vrt vrn))))
def f_X6_addRollerOfText_26 (N : Nat) : Nat → Int32 → Int32 → Int32 → (Nat → Int32) → Int32 → Int32 → Int32 → (Nat → Int32) → Option (Int32 × (Nat → Int32))
  | 0 => fun _ _ _ _ _ _ _ _ => none
  | n + 1 => b_X6_addRollerOfText_26 N (f_X6_addRollerOfText_26 N n)
def p_X6_addRollerOfText (N : Nat) (vc : (Nat → Int32)) (vra : Int32) (vrk : Int32) (vrt : Int32) (vrn : (Nat → Int32)) : Option (Int32 × (Nat → Int32)) :=
  k_c1 (p_X2_numbers N vra vrk vrt) (fun r4 => k_c2 (p_X3_addRoller N r4 (0 : Int32) vc) (fun r14 vc_14 => (if 0 ≤ r14 then f_X6_addRollerOfText_26 N N r4 r14 (0 : Int32) vc_14 vra vrk vrt vrn else some (r14, vc_14))))
def p_X6_obey (N : Nat) (vc : (Nat → Int32)) (vra : Int32) (vrk : Int32) (vrt : Int32) (vrn : (Nat → Int32)) (vtl : Int32) (vta : Int32) (vtt : Int32) (vtp : (Nat → Int32)) : Option (Int32 × (Nat → Int32) × Int32 × Int32 × Int32 × (Nat → Int32)) :=
  k_c1 (p_X2_kind N vra vrk vrt) (fun r4 => (if r4 = (43 : Int32) then k_c2 (p_X6_addRollerOfText N vc vra vrk vrt vrn) (fun r49 vc_49 => some (r49, vc_49, vtl, vta, vtt, vtp)) else (if r4 = (102 : Int32) then k_c1 (p_X2_number N (0 : Int32) vra vrk vrt vrn) (fun r131 => k_c1 (p_X2_number N (1 : Int32) vra vrk vrt vrn) (fun r139 => k_c1 (p_X2_number N (2 : Int32) vra vrk vrt vrn) (fun r147 => k_c2 (p_X3_fileTooth N r131 r139 r147 vc) (fun r150 vc_150 => some (r150, vc_150, vtl, vta, vtt, vtp))))) else (if r4 = (109 : Int32) then k_c1 (p_X2_number N (0 : Int32) vra vrk vrt vrn) (fun r115 => k_c2 (p_X3_meltRoller N r115 vc) (fun r118 vc_118 => some (r118, vc_118, vtl, vta, vtt, vtp))) else (if r4 = (114 : Int32) then k_c1 (p_X2_number N (0 : Int32) vra vrk vrt vrn) (fun r59 => k_c1 (p_X2_number N (1 : Int32) vra vrk vrt vrn) (fun r67 => k_c1 (p_X2_number N (2 : Int32) vra vrk vrt vrn) (fun r75 => k_c1 (p_X2_number N (3 : Int32) vra vrk vrt vrn) (fun r83 => k_c1 (p_X2_number N (4 : Int32) vra vrk vrt vrn) (fun r91 => k_c1 (p_X2_number N (5 : Int32) vra vrk vrt vrn) (fun r99 => k_c6 (p_X6_runCards N r59 r67 r75 r83 r91 r99 vc vtl vta vtt vtp) (fun r102 vc_102 vtl_102 vta_102 vtt_102 vtp_102 => some (r102, vc_102, vtl_102, vta_102, vtt_102, vtp_102)))))))) else some ((-3 : Int32), vc, vtl, vta, vtt, vtp))))))
def p_X1_clear (N : Nat) (vpl : Int32) : Option (Int32 × Int32) :=
  some (vpl, (0 : Int32))
def b_X6_carryOut_35 (N : Nat) (k_35 : Int32 → (Nat → Int32) → Int32 → Int32 → (Nat → Int32) → Int32 → (Nat → Int32) → Int32 → Int32 → Int32 → (Nat → Int32) → Int32 → Int32 → Int32 → (Nat → Int32) → Option (Int32 × (Nat → Int32) × Int32 × Int32 × (Nat → Int32) × Int32 × Int32 × Int32 × Int32 × (Nat → Int32) × Int32 × Int32 × Int32 × (Nat → Int32))) (x1 : Int32) (vc : (Nat → Int32)) (vhf : Int32) (vhl : Int32) (vhs : (Nat → Int32)) (vpl : Int32) (vpp : (Nat → Int32)) (vra : Int32) (vrk : Int32) (vrt : Int32) (vrn : (Nat → Int32)) (vtl : Int32) (vta : Int32) (vtt : Int32) (vtp : (Nat → Int32)) : Option (Int32 × (Nat → Int32) × Int32 × Int32 × (Nat → Int32) × Int32 × Int32 × Int32 × Int32 × (Nat → Int32) × Int32 × Int32 × Int32 × (Nat → Int32)) :=
  (if (80 : Int32) ≤ x1 then k_c2 (p_X1_clear N vpl) (fun r78 vpl_78 => k_c3 (p_X0_recorded N x1 vhf vhl) (fun r87 vhf_87 vhl_87 => some (r87, vc, vhf_87, vhl_87, vhs, vpl_78, vra, vrk, vrt, vrn, vtl, vta, vtt, vtp))) else k_c5 (p_X2_readOrder N vpl vpp vra vrk vrt vrn) (fun r45 vra_45 vrk_45 vrt_45 vrn_45 => (if r45 = 0 then k_c2 (p_X1_clear N vpl) (fun r78 vpl_78 => k_c3 (p_X0_recorded N x1 vhf vhl) (fun r87 vhf_87 vhl_87 => some (r87, vc, vhf_87, vhl_87, vhs, vpl_78, vra_45, vrk_45, vrt_45, vrn_45, vtl, vta, vtt, vtp))) else k_c6 (p_X6_obey N vc vra_45 vrk_45 vrt_45 vrn_45 vtl vta vtt vtp) (fun r52 vc_52 vtl_52 vta_52 vtt_52 vtp_52 => (if r52 < 0 then k_c2 (p_X1_clear N vpl) (fun r78 vpl_78 => k_c3 (p_X0_recorded N x1 vhf vhl) (fun r87 vhf_87 vhl_87 => some (r87, vc_52, vhf_87, vhl_87, vhs, vpl_78, vra_45, vrk_45, vrt_45, vrn_45, vtl_52, vta_52, vtt_52, vtp_52))) else k_let (x1 + (1 : Int32)) (fun x1_58 => k_c2 (p_X2_skip N (59 : Int32) vpl vpp vra_45 vrk_45 vrt_45) (fun r67 vrt_67 => k_35 x1_58 vc_52 vhf vhl vhs vpl vpp vra_45 vrk_45 vrt_67 vrn_45 vtl_52 vta_52 vtt_52 vtp_52)))))))
def f_X6_carryOut_35 (N : Nat) : Nat → Int32 → (Nat → Int32) → Int32 → Int32 → (Nat → Int32) → Int32 → (Nat → Int32) → Int32 → Int32 → Int32 → (Nat → Int32) → Int32 → Int32 → Int32 → (Nat → Int32) → Option (Int32 × (Nat → Int32) × Int32 × Int32 × (Nat → Int32) × Int32 × Int32 × Int32 × Int32 × (Nat → Int32) × Int32 × Int32 × Int32 × (Nat → Int32))
  | 0 => fun _ _ _ _ _ _ _ _ _ _ _ _ _ _ _ => none
  | n + 1 => b_X6_carryOut_35 N (f_X6_carryOut_35 N n)
def p_X6_carryOut (N : Nat) (vc : (Nat → Int32)) (vhf : Int32) (vhl : Int32) (vhs : (Nat → Int32)) (vpl : Int32) (vpp : (Nat → Int32)) (vra : Int32) (vrk : Int32) (vrt : Int32) (vrn : (Nat → Int32)) (vtl : Int32) (vta : Int32) (vtt : Int32) (vtp : (Nat → Int32)) : Option (Int32 × (Nat → Int32) × Int32 × Int32 × (Nat → Int32) × Int32 × Int32 × Int32 × Int32 × (Nat → Int32) × Int32 × Int32 × Int32 × (Nat → Int32)) :=
  k_c5 (p_X2_firstFault N vpl vpp vra vrk vrt vrn) (fun r4 vra_4 vrk_4 vrt_4 vrn_4 => (if r4 = (-6 : Int32) then k_c1 (p_X0_prepare N vc vhf vhl vhs) (fun vhs_23 => k_c1 (p_X2_begin N vra_4 vrk_4 vrt_4) (fun vrt_30 => f_X6_carryOut_35 N N (0 : Int32) vc vhf vhl vhs_23 vpl vpp vra_4 vrk_4 vrt_30 vrn_4 vtl vta vtt vtp)) else some ((-3 : Int32), vc, vhf, vhl, vhs, vpl, vra_4, vrk_4, vrt_4, vrn_4, vtl, vta, vtt, vtp)))
def p_X6_questionError (N : Nat) (x1 : Int32) (x2 : Int32) (x3 : Int32) (x4 : Int32) (x5 : Int32) (x6 : Int32) (vc : (Nat → Int32)) : Option (Int32) :=
  k_c1 (p_X6_pairError N x1 x2 x3 x4 vc) (fun r6 => (if r6 = 0 then k_c1 (p_X6_outside N x5 (0 : Int32) x6) (fun r24 => (if r24 = 0 then some ((0 : Int32)) else some ((-2 : Int32)))) else some (r6)))
def p_X5_length (N : Nat) (vtl : Int32) (vta : Int32) (vtt : Int32) : Option (Int32) :=
  some (vtl)
def b_X5_leastPress_8 (N : Nat) (k_8 : Int32 → Int32 → Int32 → Int32 → Int32 → (Nat → Int32) → Option (Int32)) (x1 : Int32) (x2 : Int32) (vtl : Int32) (vta : Int32) (vtt : Int32) (vtp : (Nat → Int32)) : Option (Int32) :=
  (if vtl ≤ x2 then some (x1) else k_c1 (p_X5_press N x2 vtl vta vtt vtp) (fun r19 => k_let (k_min x1 r19) (fun r22 => k_let (x2 + (1 : Int32)) (fun x2_26 => k_8 r22 x2_26 vtl vta vtt vtp))))
def f_X5_leastPress_8 (N : Nat) : Nat → Int32 → Int32 → Int32 → Int32 → Int32 → (Nat → Int32) → Option (Int32)
  | 0 => fun _ _ _ _ _ _ => none
  | n + 1 => b_X5_leastPress_8 N (f_X5_leastPress_8 N n)
def p_X5_leastPress (N : Nat) (vtl : Int32) (vta : Int32) (vtt : Int32) (vtp : (Nat → Int32)) : Option (Int32) :=
  k_c1 (p_X5_press N (0 : Int32) vtl vta vtt vtp) (fun r2 => f_X5_leastPress_8 N N r2 (1 : Int32) vtl vta vtt vtp)
def b_X5_greatestPress_8 (N : Nat) (k_8 : Int32 → Int32 → Int32 → Int32 → Int32 → (Nat → Int32) → Option (Int32)) (x1 : Int32) (x2 : Int32) (vtl : Int32) (vta : Int32) (vtt : Int32) (vtp : (Nat → Int32)) : Option (Int32) :=
  (if vtl ≤ x2 then some (x1) else k_c1 (p_X5_press N x2 vtl vta vtt vtp) (fun r19 => k_let (k_max x1 r19) (fun r22 => k_let (x2 + (1 : Int32)) (fun x2_26 => k_8 r22 x2_26 vtl vta vtt vtp))))
def f_X5_greatestPress_8 (N : Nat) : Nat → Int32 → Int32 → Int32 → Int32 → Int32 → (Nat → Int32) → Option (Int32)
  | 0 => fun _ _ _ _ _ _ => none
  | n + 1 => b_X5_greatestPress_8 N (f_X5_greatestPress_8 N n)
def p_X5_greatestPress (N : Nat) (vtl : Int32) (vta : Int32) (vtt : Int32) (vtp : (Nat → Int32)) : Option (Int32) :=
  k_c1 (p_X5_press N (0 : Int32) vtl vta vtt vtp) (fun r2 => f_X5_greatestPress_8 N N r2 (1 : Int32) vtl vta vtt vtp)
def p_X6_pair (N : Nat) (x1 : Int32) (x2 : Int32) (x3 : Int32) (x4 : Int32) (x5 : Int32) (vc : (Nat → Int32)) (vtl : Int32) (vta : Int32) (vtt : Int32) (vtp : (Nat → Int32)) : Option (Int32 × Int32 × (Nat → Int32)) :=
  k_c1 (p_X6_questionError N x1 x2 x3 x4 x5 (3 : Int32) vc) (fun r9 => (if r9 = 0 then k_c2 (p_X5_lay N x1 x2 x3 x4 vc vtl vta vtt vtp) (fun vtl_35 vtp_35 => (if x5 = (0 : Int32) then k_c1 (p_X5_length N vtl_35 vta vtt) (fun r72 => some (r72, vtl_35, vtp_35)) else (if x5 = (1 : Int32) then k_c1 (p_X5_leastPress N vtl_35 vta vtt vtp_35) (fun r80 => some ((r80 + (100 : Int32)), vtl_35, vtp_35)) else (if x5 = (2 : Int32) then k_c1 (p_X5_greatestPress N vtl_35 vta vtt vtp_35) (fun r91 => some ((r91 + (100 : Int32)), vtl_35, vtp_35)) else k_c1 (p_X3_setting N (0 : Int32) vc) (fun r107 => k_c1 (p_X5_meshes N r107 vtl_35 vta vtt vtp_35) (fun r110 => (if r110 = 0 then some ((0 : Int32), vtl_35, vtp_35) else some ((1 : Int32), vtl_35, vtp_35)))))))) else some (r9, vtl, vtp)))
def p_X6_why (N : Nat) (x1 : Int32) (x2 : Int32) (x3 : Int32) (x4 : Int32) (x5 : Int32) (vc : (Nat → Int32)) (vtl : Int32) (vta : Int32) (vtt : Int32) (vtp : (Nat → Int32)) : Option (Int32 × Int32 × (Nat → Int32)) :=
  k_c1 (p_X6_questionError N x1 x2 x3 x4 x5 (1 : Int32) vc) (fun r9 => (if r9 = 0 then k_c2 (p_X5_lay N x1 x2 x3 x4 vc vtl vta vtt vtp) (fun vtl_35 vtp_35 => k_c1 (p_X3_setting N (0 : Int32) vc) (fun r47 => k_c1 (p_X5_firstBadStep N r47 vtl_35 vta vtt vtp_35) (fun r50 => (if x5 = (1 : Int32) then some (r50, vtl_35, vtp_35) else (if r50 = (-6 : Int32) then some ((0 : Int32), vtl_35, vtp_35) else k_c1 (p_X5_press N r50 vtl_35 vta vtt vtp_35) (fun r79 => (if (1 : Int32) ≤ r79 then some ((2 : Int32), vtl_35, vtp_35) else some ((1 : Int32), vtl_35, vtp_35)))))))) else some (r9, vtl, vtp)))
def b_X5_isSmooth_2 (N : Nat) (k_2 : Int32 → Int32 → Int32 → Int32 → Int32 → (Nat → Int32) → Option (Int32)) (x1 : Int32) (x2 : Int32) (vtl : Int32) (vta : Int32) (vtt : Int32) (vtp : (Nat → Int32)) : Option (Int32) :=
  (if vtl ≤ x2 then some ((1 : Int32)) else k_c1 (p_X5_isSmoothAt N x2 x1 vtl vta vtt vtp) (fun r13 => (if r13 = 0 then some ((0 : Int32)) else k_let (x2 + (1 : Int32)) (fun x2_21 => k_2 x1 x2_21 vtl vta vtt vtp))))
def f_X5_isSmooth_2 (N : Nat) : Nat → Int32 → Int32 → Int32 → Int32 → Int32 → (Nat → Int32) → Option (Int32)
  | 0 => fun _ _ _ _ _ _ => none
  | n + 1 => b_X5_isSmooth_2 N (f_X5_isSmooth_2 N n)
def p_X5_isSmooth (N : Nat) (x1 : Int32) (vtl : Int32) (vta : Int32) (vtt : Int32) (vtp : (Nat → Int32)) : Option (Int32) :=
  f_X5_isSmooth_2 N N x1 (0 : Int32) vtl vta vtt vtp
def p_X6_gapToMesh (N : Nat) (x1 : Int32) (x2 : Int32) (x3 : Int32) (vc : (Nat → Int32)) (vtl : Int32) (vta : Int32) (vtt : Int32) (vtp : (Nat → Int32)) : Option (Int32 × Int32 × (Nat → Int32)) :=
  k_c2 (p_X5_lay N x1 x2 x3 (0 : Int32) vc vtl vta vtt vtp) (fun vtl_12 vtp_12 => k_c1 (p_X3_setting N (0 : Int32) vc) (fun r24 => k_c1 (p_X5_isSmooth N r24 vtl_12 vta vtt vtp_12) (fun r27 => (if r27 = 0 then some ((-6 : Int32), vtl_12, vtp_12) else k_c1 (p_X5_leastPress N vtl_12 vta vtt vtp_12) (fun r42 => k_let (k_max (0 : Int32) ((1 : Int32) - r42)) (fun r46 => (if (30 : Int32) < r46 then some ((-6 : Int32), vtl_12, vtp_12) else some (r46, vtl_12, vtp_12))))))))
def p_X6_leastGap (N : Nat) (x1 : Int32) (x2 : Int32) (x3 : Int32) (vc : (Nat → Int32)) (vtl : Int32) (vta : Int32) (vtt : Int32) (vtp : (Nat → Int32)) : Option (Int32 × Int32 × (Nat → Int32)) :=
  k_c1 (p_X6_pairError N x1 x2 x3 (0 : Int32) vc) (fun r5 => (if r5 = 0 then k_c3 (p_X6_gapToMesh N x1 x2 x3 vc vtl vta vtt vtp) (fun r24 vtl_24 vtp_24 => some (r24, vtl_24, vtp_24)) else some (r5, vtl, vtp)))
def b_X6_bestOffset_46 (N : Nat) (k_46 : Int32 → Int32 → Int32 → Int32 → Int32 → Int32 → Int32 → (Nat → Int32) → Int32 → Int32 → Int32 → (Nat → Int32) → Option (Int32 × Int32 × (Nat → Int32))) (x1 : Int32) (x2 : Int32) (x3 : Int32) (x5 : Int32) (x6 : Int32) (x7 : Int32) (x8 : Int32) (vc : (Nat → Int32)) (vtl : Int32) (vta : Int32) (vtt : Int32) (vtp : (Nat → Int32)) : Option (Int32 × Int32 × (Nat → Int32)) :=
  (if x7 ≤ x8 then (if x3 = 0 then some (x5, vtl, vtp) else some (x6, vtl, vtp)) else k_c3 (p_X6_gapToMesh N x1 x2 x8 vc vtl vta vtt vtp) (fun r58 vtl_58 vtp_58 => (if r58 = (-6 : Int32) then k_let (x8 + (1 : Int32)) (fun x8_92 => k_46 x1 x2 x3 x5 x6 x7 x8_92 vc vtl_58 vta vtt vtp_58) else (if x6 = (-6 : Int32) then k_let (x8 + (1 : Int32)) (fun x8_92 => k_46 x1 x2 x3 x8 r58 x7 x8_92 vc vtl_58 vta vtt vtp_58) else (if x6 ≤ r58 then k_let (x8 + (1 : Int32)) (fun x8_92 => k_46 x1 x2 x3 x5 x6 x7 x8_92 vc vtl_58 vta vtt vtp_58) else k_let (x8 + (1 : Int32)) (fun x8_92 => k_46 x1 x2 x3 x8 r58 x7 x8_92 vc vtl_58 vta vtt vtp_58))))))
def f_X6_bestOffset_46 (N : Nat) : Nat → Int32 → Int32 → Int32 → Int32 → Int32 → Int32 → Int32 → (Nat → Int32) → Int32 → Int32 → Int32 → (Nat → Int32) → Option (Int32 × Int32 × (Nat → Int32))
  | 0 => fun _ _ _ _ _ _ _ _ _ _ _ _ => none
  | n + 1 => b_X6_bestOffset_46 N (f_X6_bestOffset_46 N n)
def p_X6_bestOffset (N : Nat) (x1 : Int32) (x2 : Int32) (x3 : Int32) (vc : (Nat → Int32)) (vtl : Int32) (vta : Int32) (vtt : Int32) (vtp : (Nat → Int32)) : Option (Int32 × Int32 × (Nat → Int32)) :=
  k_c1 (p_X6_questionError N x1 x2 (0 : Int32) (0 : Int32) x3 (1 : Int32) vc) (fun r7 => (if r7 = 0 then k_c1 (p_X3_teeth N x2 vc) (fun r33 => k_let (k_min r33 (24 : Int32)) (fun r38 => f_X6_bestOffset_46 N N x1 x2 x3 (-6 : Int32) (-6 : Int32) r38 (0 : Int32) vc vtl vta vtt vtp)) else some (r7, vtl, vtp)))
def b_X6_thickest_60 (N : Nat) (k_60 : Int32 → (Nat → Int32) → Int32 → Int32 → Int32 → (Nat → Int32) → Option (Int32 × Int32 × Int32 × Int32 × (Nat → Int32))) (x6 : Int32) (vc : (Nat → Int32)) (vtl : Int32) (vta : Int32) (vtt : Int32) (vtp : (Nat → Int32)) : Option (Int32 × Int32 × Int32 × Int32 × (Nat → Int32)) :=
  (if x6 < (1 : Int32) then some ((-6 : Int32), vtl, vta, vtt, vtp) else k_c2 (p_X5_begin N vtl vta vtt) (fun vta_70 vtt_70 => k_c1 (p_X5_length N vtl vta_70 vtt_70) (fun r81 => k_c1 (p_X3_cell N (2 : Int32) vc) (fun r91 => k_c1 (p_X3_setting N (1 : Int32) vc) (fun r99 => k_c3 (p_X5_tears N r81 x6 r91 r99 vtl vta_70 vtt_70 vtp) (fun r102 vta_102 vtt_102 => (if r102 = 0 then some (x6, vtl, vta_102, vtt_102, vtp) else k_let (x6 + (-1 : Int32)) (fun x6_111 => k_60 x6_111 vc vtl vta_102 vtt_102 vtp))))))))
def f_X6_thickest_60 (N : Nat) : Nat → Int32 → (Nat → Int32) → Int32 → Int32 → Int32 → (Nat → Int32) → Option (Int32 × Int32 × Int32 × Int32 × (Nat → Int32))
  | 0 => fun _ _ _ _ _ _ => none
  | n + 1 => b_X6_thickest_60 N (f_X6_thickest_60 N n)
def p_X6_thickest (N : Nat) (x1 : Int32) (x2 : Int32) (x3 : Int32) (x4 : Int32) (vc : (Nat → Int32)) (vtl : Int32) (vta : Int32) (vtt : Int32) (vtp : (Nat → Int32)) : Option (Int32 × Int32 × Int32 × Int32 × (Nat → Int32)) :=
  k_c1 (p_X6_pairError N x1 x2 x3 x4 vc) (fun r6 => (if r6 = 0 then k_c2 (p_X5_lay N x1 x2 x3 x4 vc vtl vta vtt vtp) (fun vtl_32 vtp_32 => k_c1 (p_X3_setting N (0 : Int32) vc) (fun r44 => k_c1 (p_X5_meshes N r44 vtl_32 vta vtt vtp_32) (fun r47 => (if r47 = 0 then some ((-6 : Int32), vtl_32, vta, vtt, vtp_32) else f_X6_thickest_60 N N (30 : Int32) vc vtl_32 vta vtt vtp_32)))) else some (r6, vtl, vta, vtt, vtp)))
def p_X1_codeIn (N : Nat) (x0 : Int64) (x2 : Int32) : Option (Int32) :=
  some ((((k_ushr x0 ((8 : Int32) * x2)).toInt32) &&& (255 : Int32)))
def b_X1_amountOf_39 (N : Nat) (x0 : Int64) (x2 : Int32) : Option (Int32) :=
  (if x2 = (8 : Int32) then some (x2) else (if (lg_cmp (k_ushr x0 ((8 : Int32) * x2)) (0 : Int64)) = 0 then some (x2) else some ((0 : Int32))))
def b_X1_amountOf_2 (N : Nat) (k_2 : Int64 → Int32 → Option (Int32)) (x0 : Int64) (x2 : Int32) : Option (Int32) :=
  (if (8 : Int32) ≤ x2 then b_X1_amountOf_39 N x0 x2 else k_c1 (p_X1_codeIn N x0 x2) (fun r10 => (if r10 = 0 then b_X1_amountOf_39 N x0 x2 else k_c1 (p_X1_codeIn N x0 x2) (fun r18 => k_c1 (p_X6_outside N r18 (33 : Int32) (126 : Int32)) (fun r25 => (if r25 = 0 then k_let (x2 + (1 : Int32)) (fun x2_33 => k_2 x0 x2_33) else some ((0 : Int32))))))))
def f_X1_amountOf_2 (N : Nat) : Nat → Int64 → Int32 → Option (Int32)
  | 0 => fun _ _ => none
  | n + 1 => b_X1_amountOf_2 N (f_X1_amountOf_2 N n)
def p_X1_amountOf (N : Nat) (x0 : Int64) : Option (Int32) :=
  f_X1_amountOf_2 N N x0 (0 : Int32)
def p_X1_add (N : Nat) (x1 : Int32) (vpl : Int32) (vpp : (Nat → Int32)) : Option (Int32 × (Nat → Int32)) :=
  (if vpl < 0 then some (vpl, vpp) else (if (80 : Int32) ≤ vpl then some (vpl, vpp) else k_st 80 vpp vpl x1 (fun vpp_28 => k_let (vpl + (1 : Int32)) (fun vpl_36 => some (vpl_36, vpp_28)))))
def b_X1_append_31 (N : Nat) (k_31 : Int64 → Int32 → Int32 → (Nat → Int32) → Option (Int32 × Int32 × (Nat → Int32))) (x1 : Int64) (x4 : Int32) (vpl : Int32) (vpp : (Nat → Int32)) : Option (Int32 × Int32 × (Nat → Int32)) :=
  (if x4 < 0 then some (vpl, vpl, vpp) else k_c1 (p_X1_codeIn N x1 x4) (fun r40 => k_c2 (p_X1_add N r40 vpl vpp) (fun vpl_43 vpp_43 => k_let (x4 + (-1 : Int32)) (fun x4_46 => k_31 x1 x4_46 vpl_43 vpp_43))))
def f_X1_append_31 (N : Nat) : Nat → Int64 → Int32 → Int32 → (Nat → Int32) → Option (Int32 × Int32 × (Nat → Int32))
  | 0 => fun _ _ _ _ => none
  | n + 1 => b_X1_append_31 N (f_X1_append_31 N n)
def p_X1_append (N : Nat) (x1 : Int64) (vpl : Int32) (vpp : (Nat → Int32)) : Option (Int32 × Int32 × (Nat → Int32)) :=
  k_c1 (p_X1_amountOf N x1) (fun r1 => (if r1 = 0 then some ((-2 : Int32), vpl, vpp) else (if (vpl + r1) ≤ (80 : Int32) then k_let (r1 - (1 : Int32)) (fun x4_29 => f_X1_append_31 N N x1 x4_29 vpl vpp) else some ((-4 : Int32), vpl, vpp))))
def p_X6_put (N : Nat) (x1 : Int64) (vpl : Int32) (vpp : (Nat → Int32)) : Option (Int32 × Int32 × (Nat → Int32)) :=
  k_c3 (p_X1_append N x1 vpl vpp) (fun r5 vpl_5 vpp_5 => some (r5, vpl_5, vpp_5))
def p_X3_copyFrom_Hs (N : Nat) (x2 : Int32) (vc : (Nat → Int32)) (vhs : (Nat → Int32)) : Option ((Nat → Int32)) :=
  (if x2 < 0 then some (vc) else k_nz (225 : Int32) ((if ((1575 : Int32) / (225 : Int32)) ≤ x2 then some (vc) else k_cpy 1575 225 vhs vc (x2 * (225 : Int32)) (0 : Int32) (225 : Int32) (fun vc_28 => some (vc_28)))))
def p_X0_stepBack (N : Nat) (vc : (Nat → Int32)) (vhf : Int32) (vhl : Int32) (vhs : (Nat → Int32)) : Option (Int32 × (Nat → Int32) × Int32 × Int32) :=
  (if vhl = 0 then some ((-5 : Int32), vc, vhf, vhl) else (if vhf ≤ 0 then k_let (vhl - (1 : Int32)) (fun vhl_39 => k_c1 (p_X3_copyFrom_Hs N (6 : Int32) vc vhs) (fun vc_51 => some (vhl_39, vc_51, (6 : Int32), vhl_39))) else k_let (vhf - (1 : Int32)) (fun vhf_29 => k_let (vhl - (1 : Int32)) (fun vhl_39 => k_c1 (p_X3_copyFrom_Hs N vhf_29 vc vhs) (fun vc_51 => some (vhl_39, vc_51, vhf_29, vhl_39))))))
def p_X6_undo (N : Nat) (vc : (Nat → Int32)) (vhf : Int32) (vhl : Int32) (vhs : (Nat → Int32)) : Option (Int32 × (Nat → Int32) × Int32 × Int32) :=
  k_c4 (p_X0_stepBack N vc vhf vhl vhs) (fun r8 vc_8 vhf_8 vhl_8 => some (r8, vc_8, vhf_8, vhl_8))
def p_X6_fault (N : Nat) (vpl : Int32) (vpp : (Nat → Int32)) (vra : Int32) (vrk : Int32) (vrt : Int32) (vrn : (Nat → Int32)) : Option (Int32 × Int32 × Int32 × Int32 × (Nat → Int32)) :=
  k_c5 (p_X2_firstFault N vpl vpp vra vrk vrt vrn) (fun r4 vra_4 vrk_4 vrt_4 vrn_4 => some (r4, vra_4, vrk_4, vrt_4, vrn_4))
def p_X6_wipe (N : Nat) (vpl : Int32) : Option (Int32 × Int32) :=
  k_c2 (p_X1_clear N vpl) (fun r4 vpl_4 => some (r4, vpl_4))
