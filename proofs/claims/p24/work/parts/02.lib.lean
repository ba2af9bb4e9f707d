-- THE DECOMPILER'S OWN ROWS: pure words (k_), and a row a kind of call or store, over a world whose cells stand in one fixed order (x_)
def k_let {α β : Type} (a : α) (f : α → β) : β := f a
def k_ld {β : Type} (n : Nat) (f : Nat → Int32) (i : Int32) (g : Int32 → Option β) : Option β := if i < 0 ∨ n ≤ i.toNatClampNeg then none else g (f i.toNatClampNeg)
def k_st {β : Type} (n : Nat) (f : Nat → Int32) (i x : Int32) (g : (Nat → Int32) → Option β) : Option β := if i < 0 ∨ n ≤ i.toNatClampNeg then none else g (upd f i.toNatClampNeg x)
def k_nz {β : Type} (y : Int32) (g : Option β) : Option β := if y = 0 then none else g
def k_bit {β : Type} (y : Int32) (g : Option β) : Option β := if y &&& 1 = y then g else none
def k_cpy {β : Type} (n0 n1 : Nat) (f g : Nat → Int32) (sp dp n : Int32) (k : (Nat → Int32) → Option β) : Option β :=
  if sp < 0 ∨ dp < 0 ∨ n < 0 ∨ ¬ sp.toNatClampNeg + n.toNatClampNeg ≤ n0 ∨ ¬ dp.toNatClampNeg + n.toNatClampNeg ≤ n1 then none else k (va_cpy f g sp.toNatClampNeg dp.toNatClampNeg n.toNatClampNeg)
def k_max (x y : Int32) : Int32 := if x < y then y else x
def k_min (x y : Int32) : Int32 := if y < x then y else x
def k_abs (x : Int32) : Int32 := if 0 ≤ x then x else 0 - x
def k_ldl {β : Type} (n : Nat) (f : Nat → Int64) (i : Int32) (g : Int64 → Option β) : Option β := if i < 0 ∨ n ≤ i.toNatClampNeg then none else g (f i.toNatClampNeg)
def k_stl {β : Type} (n : Nat) (f : Nat → Int64) (i : Int32) (x : Int64) (g : (Nat → Int64) → Option β) : Option β := if i < 0 ∨ n ≤ i.toNatClampNeg then none else g (vp_updL f i.toNatClampNeg x)
theorem k_ldl_ex {β : Type} {n : Nat} {f : Nat → Int64} {i : Int32} {g : Int64 → Option β} {y : β} (h : k_ldl n f i g = some y) : ∃ x, vp_in i n ∧ x = f i.toNatClampNeg ∧ g x = some y := by
  unfold k_ldl at h
  by_cases hc : i < 0 ∨ n ≤ i.toNatClampNeg
  · rw [if_pos hc] at h; cases h
  · rw [if_neg hc] at h; exact ⟨_, hc, rfl, h⟩
theorem k_stl_ex {β : Type} {n : Nat} {f : Nat → Int64} {i : Int32} {x : Int64} {g : (Nat → Int64) → Option β} {y : β} (h : k_stl n f i x g = some y) : ∃ f1, vp_in i n ∧ f1 = vp_updL f i.toNatClampNeg x ∧ g f1 = some y := by
  unfold k_stl at h
  by_cases hc : i < 0 ∨ n ≤ i.toNatClampNeg
  · rw [if_pos hc] at h; cases h
  · rw [if_neg hc] at h; exact ⟨_, hc, rfl, h⟩
theorem k_let_ex {α β : Type} {a : α} {f : α → β} {y : β} (h : k_let a f = y) : ∃ x, x = a ∧ f x = y := ⟨a, rfl, h⟩
theorem k_ld_ex {β : Type} {n : Nat} {f : Nat → Int32} {i : Int32} {g : Int32 → Option β} {y : β} (h : k_ld n f i g = some y) : ∃ x, vp_in i n ∧ x = f i.toNatClampNeg ∧ g x = some y := by
  unfold k_ld at h
  by_cases hc : i < 0 ∨ n ≤ i.toNatClampNeg
  · rw [if_pos hc] at h; cases h
  · rw [if_neg hc] at h; exact ⟨_, hc, rfl, h⟩
theorem k_st_ex {β : Type} {n : Nat} {f : Nat → Int32} {i x : Int32} {g : (Nat → Int32) → Option β} {y : β} (h : k_st n f i x g = some y) : ∃ f1, vp_in i n ∧ f1 = upd f i.toNatClampNeg x ∧ g f1 = some y := by
  unfold k_st at h
  by_cases hc : i < 0 ∨ n ≤ i.toNatClampNeg
  · rw [if_pos hc] at h; cases h
  · rw [if_neg hc] at h; exact ⟨_, hc, rfl, h⟩
theorem k_nz_ex {β : Type} {z : Int32} {g : Option β} {y : β} (h : k_nz z g = some y) : ¬ z = 0 ∧ g = some y := by
  unfold k_nz at h
  by_cases hc : z = 0
  · rw [if_pos hc] at h; cases h
  · rw [if_neg hc] at h; exact ⟨hc, h⟩
theorem k_bit_ex {β : Type} {z : Int32} {g : Option β} {y : β} (h : k_bit z g = some y) : z &&& 1 = z ∧ g = some y := by
  unfold k_bit at h
  by_cases hc : z &&& 1 = z
  · rw [if_pos hc] at h; exact ⟨hc, h⟩
  · rw [if_neg hc] at h; cases h
theorem k_cpy_ex {β : Type} {n0 n1 : Nat} {f g : Nat → Int32} {sp dp n : Int32} {k : (Nat → Int32) → Option β} {y : β} (h : k_cpy n0 n1 f g sp dp n k = some y) : ∃ f1, (¬ sp < 0 ∧ ¬ dp < 0 ∧ ¬ n < 0 ∧ sp.toNatClampNeg + n.toNatClampNeg ≤ n0 ∧ dp.toNatClampNeg + n.toNatClampNeg ≤ n1) ∧ f1 = va_cpy f g sp.toNatClampNeg dp.toNatClampNeg n.toNatClampNeg ∧ k f1 = some y := by
  unfold k_cpy at h
  split at h
  · cases h
  · rename_i hc
    refine ⟨_, ?_, rfl, h⟩
    refine ⟨fun q => hc (Or.inl q), fun q => hc (Or.inr (Or.inl q)), fun q => hc (Or.inr (Or.inr (Or.inl q))), ?_, ?_⟩
    · exact Decidable.not_not.mp fun q => hc (Or.inr (Or.inr (Or.inr (Or.inl q))))
    · exact Decidable.not_not.mp fun q => hc (Or.inr (Or.inr (Or.inr (Or.inr q))))
theorem k_none {β : Type} {y : β} (h : (none : Option β) = some y) : False := by cases h
theorem k_if_t {α : Type} {c : Prop} {d : Decidable c} {a b y : α} (h : @ite α c d a b = y) (hc : c) : a = y := by rw [if_pos hc] at h; exact h
theorem k_if_f {α : Type} {c : Prop} {d : Decidable c} {a b y : α} (h : @ite α c d a b = y) (hc : ¬ c) : b = y := by rw [if_neg hc] at h; exact h
-- what the machine's tables hold of the classes, of int and boolean arrays, of the nest's private members
def x_NW (U : State) : Prop := va_Nw (.methodLinkNest RX3 23 yX6_outside RX6) U ∧ va_Nw (.methodLinkNest RX1 31 yX6_outside RX6) U ∧ va_Nw (.methodLinkNest RX2 69 yX6_outside RX6) U ∧ va_Nw (.methodLinkNest RX4 17 yX6_outside RX6) U ∧ va_Nw (.methodLinkNest RX6 18 yX0_init RX6) U ∧ va_Nw (.methodLinkNest RX6 25 yX4_init RX6) U ∧ va_Nw (.methodLinkNest RX6 32 yX1_init RX6) U ∧ va_Nw (.methodLinkNest RX6 48 yX5_init RX6) U
def x_K (D : va_G) (cyI cyZ : ClassId) (U : State) : Prop := va_K D vwCl [(cyI, .int), (cyZ, .long)] U ∧ x_NW U
theorem x_K.warm {D : va_G} {cyI cyZ : ClassId} {s U : State} (hW : s.WarmedH U.vm) (k : x_K D cyI cyZ s) : x_K D cyI cyZ U := by
  obtain ⟨k0, k1, k2, k3, k4, k5, k6, k7, k8⟩ := k
  exact ⟨va_K.moved hW.alike k0, va_Nw.warmM hW k1, va_Nw.warmM hW k2, va_Nw.warmM hW k3, va_Nw.warmM hW k4, va_Nw.warmM hW k5, va_Nw.warmM hW k6, va_Nw.warmM hW k7, va_Nw.warmM hW k8⟩
theorem x_K.same {D : va_G} {cyI cyZ : ClassId} {u U : State} (h : u.vm = U.vm) (k : x_K D cyI cyZ u) : x_K D cyI cyZ U := by
  obtain ⟨k0, k1, k2, k3, k4, k5, k6, k7, k8⟩ := k
  exact ⟨va_K.moved (by rw [← h]; exact Vm.Alike.refl _) k0, va_Nw.same rfl h k1, va_Nw.same rfl h k2, va_Nw.same rfl h k3, va_Nw.same rfl h k4, va_Nw.same rfl h k5, va_Nw.same rfl h k6, va_Nw.same rfl h k7, va_Nw.same rfl h k8⟩
def x_PR (D : va_G) (cyI cyZ : ClassId) (av : List Value) (ws : va_W) : Array Value → State → Prop := va_Pc av (fun U => va_P D vwCl ws U.heap ∧ x_K D cyI cyZ U)
def x_PM (D : va_G) (cyI cyZ : ClassId) (av : List Value) (ws : va_W) (sz : Nat) : Array Value → State → Prop := va_Pc av (fun U => U.heap.size = sz ∧ va_P D vwCl ws U.heap ∧ x_K D cyI cyZ U ∧ va_D (fun _ => True) ws)
def x_QR (r0 : Int32) : Array Value → State → Outcome → State → Prop := va_Qi (fun r (_ : Unit) => r = r0) (fun _ _ => True) (fun _ => False)
def x_QRl (r0 : Int64) : Array Value → State → Outcome → State → Prop := va_Ql (fun r (_ : Unit) => r = r0) (fun _ _ => True) (fun _ => False)
/-- a method that reads the script -/
def x_PX (av : List Value) (b L : Nat) (xs : Nat → Int32) : Array Value → State → Prop := va_Pc av (fun U => b < U.heap.size ∧ va_X b L xs U U.heap)
theorem x_A0 {sz : Nat} : va_A [] sz = fun q => sz ≤ q := funext fun q => propext ⟨fun h => h.elim (fun ⟨k, e, h⟩ => by simp at h) id, Or.inr⟩
def x_QM (D : va_G) (r0 : Int32) (A : Nat → Prop) (w1 : va_W) : Array Value → State → Outcome → State → Prop := va_Qi (fun r (_ : Unit) => r = r0) (fun _ t => va_P D vwCl w1 t.heap) A
def x_QV (D : va_G) (A : Nat → Prop) (w1 : va_W) : Array Value → State → Outcome → State → Prop := va_Qv (fun (_ : Unit) => True) (fun _ t => va_P D vwCl w1 t.heap) A
theorem x_ret {D : va_G} {cl : List vw_C} {ws : va_W} {H : Heap} {t : State} (h : va_P D cl ws H) (ht : t.heap = H) : va_P D cl ws t.heap := by rw [ht]; exact h
-- cells put at their places
def x_pa : va_W → List Nat → va_W → va_W
  | ws, i :: is, w :: w1 => x_pa (ws.set i w) is w1
  | ws, [], _ => ws
  | ws, _ :: _, [] => ws
theorem x_pa_at : ∀ (isC : List Nat) (w1 ws : va_W), isC.length = w1.length → ∀ (k : Nat) (q : Nat × va_E), (x_pa ws isC w1)[k]? = some q → (∃ j : Nat, w1[j]? = some q) ∨ (k ∉ isC ∧ ws[k]? = some q)
  | [], [], ws, _, k, q, h => Or.inr ⟨List.not_mem_nil, h⟩
  | [], _ :: _, ws, hl, _, _, _ => by cases hl
  | _ :: _, [], ws, hl, _, _, _ => by cases hl
  | i :: is, w :: w1, ws, hl, k, q, h => by
    rcases x_pa_at is w1 (ws.set i w) (Nat.succ.inj hl) k q h with ⟨j, hj⟩ | ⟨h1, h2⟩
    · exact Or.inl ⟨j + 1, hj⟩
    · by_cases hk : k = i
      · subst hk
        rw [List.getElem?_set] at h2
        by_cases hb : k < ws.length
        · rw [if_pos rfl, if_pos hb] at h2
          exact Or.inl ⟨0, h2⟩
        · rw [if_pos rfl, if_neg hb] at h2
          cases h2
      · rw [List.getElem?_set_ne (Ne.symm hk)] at h2
        exact Or.inr ⟨fun hm => by rcases List.mem_cons.mp hm with e | e; exact hk e; exact h1 e, h2⟩
theorem x_set_fst {ws : va_W} {i : Nat} {w : Nat × va_E} (h : (ws[i]?).map Prod.fst = some w.1) : (ws.set i w).map Prod.fst = ws.map Prod.fst := by
  apply List.ext_getElem?
  intro j
  rw [List.getElem?_map, List.getElem?_map, List.getElem?_set]
  by_cases hj : i = j
  · subst hj
    by_cases hb : i < ws.length
    · rw [if_pos rfl, if_pos hb, h]; rfl
    · rw [if_pos rfl, if_neg hb, List.getElem?_eq_none (Nat.not_lt.mp hb)]
  · rw [if_neg hj]
theorem x_pa_fst : ∀ (isC : List Nat) (w1 ws : va_W), isC.map (fun i => (ws[i]?).map Prod.fst) = w1.map (fun w => some w.1) → (x_pa ws isC w1).map Prod.fst = ws.map Prod.fst
  | [], [], ws, _ => rfl
  | [], _ :: _, ws, _ => rfl
  | _ :: _, [], ws, _ => rfl
  | i :: is, w :: w1, ws, h => by
    have h1 : (ws[i]?).map Prod.fst = some w.1 := (List.cons.inj h).1
    have e := x_set_fst h1
    have h2 : is.map (fun i' => ((ws.set i w)[i']?).map Prod.fst) = w1.map (fun w => some w.1) := by
      rw [← (List.cons.inj h).2]
      apply List.map_congr_left
      intro j _
      rw [← List.getElem?_map, e, List.getElem?_map]
    exact (x_pa_fst is w1 (ws.set i w) h2).trans e
theorem x_D_fst {A : Nat → Prop} {ws ws' : va_W} (h : va_D A ws) (e : ws'.map Prod.fst = ws.map Prod.fst) : va_D A ws' := by
  have key : ∀ (i : Nat) (p : Nat × va_E), ws'[i]? = some p → ∃ p', ws[i]? = some p' ∧ p'.1 = p.1 := by
    intro i p hp
    have h1 : (ws'.map Prod.fst)[i]? = some p.1 := by rw [List.getElem?_map, hp]; rfl
    rw [e, List.getElem?_map] at h1
    cases hq : ws[i]? with
    | none => rw [hq] at h1; cases h1
    | some p' => rw [hq] at h1; exact ⟨p', rfl, Option.some.inj h1⟩
  refine ⟨fun i j p q hi hj hpq => ?_, fun k q hk => ?_⟩
  · obtain ⟨p', h1, h2⟩ := key i p hi
    obtain ⟨q', h3, h4⟩ := key j q hj
    exact h.1 i j p' q' h1 h3 (by rw [h2, h4]; exact hpq)
  · obtain ⟨q', h1, h2⟩ := key k q hk
    rw [← h2]
    exact h.2 k q' h1
theorem x_join {A0 : Nat → Prop} {D : va_G} {cl : List vw_C} {ws wc w1 : va_W} {H H1 : Heap} (hP : va_P D cl ws H) (hD : va_D A0 ws) (isC : List Nat) (hC : isC.map (fun i => ws[i]?) = wc.map some) (hw : w1.map Prod.fst = wc.map Prod.fst)
    (hk : ∀ q : Nat, q < H.size → ¬ va_A wc H.size q → H1[q]? = H[q]?) (hP1 : va_P D cl w1 H1) : va_P D cl (x_pa ws isC w1) H1 ∧ va_D A0 (x_pa ws isC w1) := by
  have hlen : isC.length = w1.length := by
    have e1 := congrArg List.length hC
    have e2 := congrArg List.length hw
    simp only [List.length_map] at e1 e2
    omega
  refine ⟨fun k q hq => ?_, x_D_fst hD (x_pa_fst isC w1 ws ?_)⟩
  · rcases x_pa_at isC w1 ws hlen k q hq with ⟨j, hj⟩ | ⟨h1, h2⟩
    · exact hP1 j q hj
    · have hl := (hP k q h2).lt
      refine (hP k q h2).kept (hk q.1 hl fun h => ?_)
      rcases h with ⟨k2, e, h⟩ | h
      · have e1 : (isC.map (fun i => ws[i]?))[k2]? = some (some (q.1, e)) := by rw [hC, List.getElem?_map, h]; rfl
        rw [List.getElem?_map] at e1
        cases hi : isC[k2]? with
        | none => rw [hi] at e1; cases e1
        | some i =>
          rw [hi] at e1
          have hik := hD.1 k i q (q.1, e) h2 (Option.some.inj e1) rfl
          exact h1 (by rw [hik]; exact List.mem_of_getElem? hi)
      · omega
  · have e1 : isC.map (fun i => (ws[i]?).map Prod.fst) = (isC.map (fun i => ws[i]?)).map (Option.map Prod.fst) := by rw [List.map_map]; rfl
    rw [e1, hC, List.map_map]
    have e2 : w1.map (fun w => some w.1) = (w1.map Prod.fst).map some := by rw [List.map_map]; rfl
    rw [e2, hw, List.map_map]
    rfl
section XL
variable {p : Program} {l : Launch} {e : Env} {R : Room} {s : State} {m : MethodId} {args : Array Value} {below : List Frame} {meth : Method} {c : Code} {H H0 : Heap} {locs : List Loc} {cells slots : Nat} {Q : State → Prop} {A : Nat → Prop}
variable {y : MethodName} {bytes cc : ByteArray} {maxL nL n index : Nat} {ret : Option FieldType} {ws : List Cond} {rm : Room} {Ts : List Cond} {own C host : String} {b : Addr} {As rest st0 : List Value} {pc : Nat} {ls : Array Slot} {D : va_G} {cyI cyZ : ClassId} {wW wc w1 : va_W} {r0 : Int32}
theorem x_gen {g : JFrame} (k : ∀ G : Heap → List Loc → JFrame → Prop, (∀ (H : Heap) (locs : List Loc) (g : JFrame), G H locs g ↔ W p l e R s m args below meth c H locs cells slots Q g) → G H locs g) : W p l e R s m args below meth c H locs cells slots Q g :=
  k (fun H locs g => W p l e R s m args below meth c H locs cells slots Q g) (fun _ _ _ => Iff.rfl)
theorem x_nm {x z : Int32} (h : z = x) (k : W p l e R s m args below meth c H locs cells slots Q (F0 m pc ls (.int z :: rest))) : W p l e R s m args below meth c H locs cells slots Q (F0 m pc ls (.int x :: rest)) := h ▸ k
theorem x_nml {x z : Int64} (h : z = x) (k : W p l e R s m args below meth c H locs cells slots Q (F0 m pc ls (.long z :: rest))) : W p l e R s m args below meth c H locs cells slots Q (F0 m pc ls (.long x :: rest)) := h ▸ k
theorem x_iald (hexec : p.tables.exec = Jvm.exec) (hb : c.code = cc) (hK : x_K D cyI cyZ s) (hP : va_P D vwCl wW H) (q0 : Nat) {a n : Nat} {f : Nat → Int32} (ha : wW[q0]? = some (a, .inl (cyI, n, .inl f))) {i z : Int32} (hin : vp_in i n) (hz : z = f i.toNatClampNeg) (hdg : decode cc pc = .ok (.iaload, 1))
    (kk : W p l e R s m args below meth c H locs cells slots Q (F0 m (pc + 1) ls (.int z :: rest))) : W p l e R s m args below meth c H locs cells slots Q (F0 m pc ls (.int i :: .ref a :: rest)) := by
  subst hz
  exact va_iald hexec hb hK.1 hP q0 0 ha rfl hin hdg kk
theorem x_alen (hexec : p.tables.exec = Jvm.exec) (hb : c.code = cc) (hK : x_K D cyI cyZ s) (hP : va_P D vwCl wW H) (q0 : Nat) {a n : Nat} {f : Nat → Int32} (ha : wW[q0]? = some (a, .inl (cyI, n, .inl f))) {v : Int32} (hv : Int32.ofNat n = v) (hdg : decode cc pc = .ok (.arraylength, 1))
    (kk : W p l e R s m args below meth c H locs cells slots Q (F0 m (pc + 1) ls (.int v :: rest))) : W p l e R s m args below meth c H locs cells slots Q (F0 m pc ls (.ref a :: rest)) :=
  va_alen hexec hb hK.1 hP q0 0 ha rfl hv hdg kk
theorem x_iast (hexec : p.tables.exec = Jvm.exec) (hb : c.code = cc) (hK : x_K D cyI cyZ s) (hP : va_P D vwCl wW H) (hD : va_D A wW) (hS : va_S A H0 H locs) (q0 : Nat) {a n : Nat} {f f1 : Nat → Int32} (ha : wW[q0]? = some (a, .inl (cyI, n, .inl f))) {i x : Int32} (hin : vp_in i n) (hz : f1 = upd f i.toNatClampNeg x) (hdg : decode cc pc = .ok (.iastore, 1))
    (kk : ∀ (H1 : Heap) (locs1 : List Loc), va_P D vwCl (wW.set q0 (a, .inl (cyI, n, .inl f1))) H1 → va_D A (wW.set q0 (a, .inl (cyI, n, .inl f1))) → va_S A H0 H1 locs1 → W p l e R s m args below meth c H1 locs1 cells slots Q (F0 m (pc + 1) ls rest)) : W p l e R s m args below meth c H locs cells slots Q (F0 m pc ls (.int x :: .int i :: .ref a :: rest)) := by
  subst hz
  exact va_iast hexec hb hK.1 hP hD hS q0 0 ha rfl hin hdg kk
theorem x_lald (hexec : p.tables.exec = Jvm.exec) (hb : c.code = cc) (hK : x_K D cyI cyZ s) (hP : va_P D vwCl wW H) (q0 : Nat) {a n : Nat} {f : Nat → Int64} (ha : wW[q0]? = some (a, .inl (cyZ, n, .inr (.inl f)))) {i : Int32} {z : Int64} (hin : vp_in i n) (hz : z = f i.toNatClampNeg) (hdg : decode cc pc = .ok (.laload, 1))
    (kk : W p l e R s m args below meth c H locs cells slots Q (F0 m (pc + 1) ls (.long z :: rest))) : W p l e R s m args below meth c H locs cells slots Q (F0 m pc ls (.int i :: .ref a :: rest)) := by
  subst hz
  exact va_lald hexec hb hK.1 hP q0 1 ha rfl hin hdg kk
theorem x_last (hexec : p.tables.exec = Jvm.exec) (hb : c.code = cc) (hK : x_K D cyI cyZ s) (hP : va_P D vwCl wW H) (hD : va_D A wW) (hS : va_S A H0 H locs) (q0 : Nat) {a n : Nat} {f f1 : Nat → Int64} (ha : wW[q0]? = some (a, .inl (cyZ, n, .inr (.inl f)))) {i : Int32} {x : Int64} (hin : vp_in i n) (hz : f1 = vp_updL f i.toNatClampNeg x) (hdg : decode cc pc = .ok (.lastore, 1))
    (kk : ∀ (H1 : Heap) (locs1 : List Loc), va_P D vwCl (wW.set q0 (a, .inl (cyZ, n, .inr (.inl f1)))) H1 → va_D A (wW.set q0 (a, .inl (cyZ, n, .inr (.inl f1)))) → va_S A H0 H1 locs1 → W p l e R s m args below meth c H1 locs1 cells slots Q (F0 m (pc + 1) ls rest)) : W p l e R s m args below meth c H locs cells slots Q (F0 m pc ls (.long x :: .int i :: .ref a :: rest)) := by
  subst hz
  exact va_last hexec hb hK.1 hP hD hS q0 1 ha rfl hin hdg kk
theorem x_newL (hexec : p.tables.exec = Jvm.exec) (hb : c.code = cc) (harr : (Cond.arrayClass .long).before args s = true) (hK : x_K D cyI cyZ s) (hP : va_P D vwCl wW H) (hD : va_D A wW) (hS : va_S A H0 H locs) (hA : ∀ q, H0.size ≤ q → A q)
    {k : Int32} {N' : Nat} {f0 : Nat → Int64} (hn : ¬ k < 0) (hN : k.toNatClampNeg = N') (hbytes : N' * componentBytes .long ≤ 536870912) (hcells : cells + 1 ≤ R.cells) (hslots : slots + N' ≤ R.slots) (hf : ∀ j, f0 j = 0) (hdg : decode cc pc = .ok (.newarray .long, 2))
    (kk : ∀ (q : Nat) (H1 : Heap), va_P D vwCl (wW ++ [(q, .inl (cyZ, N', .inr (.inl f0)))]) H1 → va_D A (wW ++ [(q, .inl (cyZ, N', .inr (.inl f0)))]) → va_S A H0 H1 locs → W p l e R s m args below meth c H1 locs (cells + 1) (slots + N') Q (F0 m (pc + 2) ls (.ref q :: rest))) : W p l e R s m args below meth c H locs cells slots Q (F0 m pc ls (.int k :: rest)) := by
  have hf0 : f0 = fun _ => 0 := funext hf
  subst hf0
  refine va_newa (atype := .long) (ty := .long) (a0 := (N', .inr (.inl fun _ => 0))) hexec hb harr rfl hK.1 hP hD hS hA (fun _ => rfl) hn hN hbytes hcells hslots hdg (fun q cA H1 hK1 hP1 hD1 hS1 => ?_)
  have e : cA = cyZ := Option.some.inj ((va_nm_long (hK1.2 2 (cA, .long) rfl).2).symm.trans (va_nm_long (hK.1.2 1 (cyZ, .long) rfl).2))
  subst e
  exact kk q H1 hP1 hD1 hS1
theorem x_newI (hexec : p.tables.exec = Jvm.exec) (hb : c.code = cc) (harr : (Cond.arrayClass .int).before args s = true) (hK : x_K D cyI cyZ s) (hP : va_P D vwCl wW H) (hD : va_D A wW) (hS : va_S A H0 H locs) (hA : ∀ q, H0.size ≤ q → A q)
    {k : Int32} {N' : Nat} {f0 : Nat → Int32} (hn : ¬ k < 0) (hN : k.toNatClampNeg = N') (hbytes : N' * componentBytes .int ≤ 536870912) (hcells : cells + 1 ≤ R.cells) (hslots : slots + N' ≤ R.slots) (hf : ∀ j, f0 j = 0) (hdg : decode cc pc = .ok (.newarray .int, 2))
    (kk : ∀ (q : Nat) (H1 : Heap), va_P D vwCl (wW ++ [(q, .inl (cyI, N', .inl f0))]) H1 → va_D A (wW ++ [(q, .inl (cyI, N', .inl f0))]) → va_S A H0 H1 locs → W p l e R s m args below meth c H1 locs (cells + 1) (slots + N') Q (F0 m (pc + 2) ls (.ref q :: rest))) : W p l e R s m args below meth c H locs cells slots Q (F0 m pc ls (.int k :: rest)) := by
  have hf0 : f0 = fun _ => 0 := funext hf
  subst hf0
  refine va_newa (atype := .int) (ty := .int) (a0 := (N', .inl fun _ => 0)) hexec hb harr rfl hK.1 hP hD hS hA (fun _ => rfl) hn hN hbytes hcells hslots hdg (fun q cA H1 hK1 hP1 hD1 hS1 => ?_)
  have e : cA = cyI := Option.some.inj ((va_nm_int (hK1.2 2 (cA, .int) rfl).2).symm.trans (va_nm_int (hK.1.2 0 (cyI, .int) rfl).2))
  subst e
  exact kk q H1 hP1 hD1 hS1
theorem x_blindR {av : List Value} {ws0 : va_W} : FrameBlind (x_PR D cyI cyZ av ws0) := fun _ _ _ _ h => ⟨h.1, h.2.1, x_K.same rfl h.2.2⟩
theorem x_blindM {av : List Value} {ws0 : va_W} {sz : Nat} : FrameBlind (x_PM D cyI cyZ av ws0 sz) := fun _ _ _ _ h => ⟨h.1, h.2.1, h.2.2.1, x_K.same rfl h.2.2.2.1, h.2.2.2.2⟩
theorem x_afterR (hr : va_Run p l e R s m args below meth c H locs cells slots 0 0 (F0 m pc ls st0) rest (x_QR r0 As.toArray) (fun _ => False)) (hP : va_P D vwCl wW H) (hS : va_S A H0 H locs)
    (kk : ∀ (H1 : Heap) (locs1 : List Loc), va_P D vwCl wW H1 → va_S A H0 H1 locs1 → W p l e R s m args below meth c H1 locs1 cells slots Q (F0 m (pc + 3) ls (.int r0 :: rest))) : W p l e R s m args below meth c H locs cells slots Q (F0 m pc ls st0) := by
  refine va_calli (A1 := fun _ => False) hr hS (fun q _ h => h.elim) (fun q h => h.elim) (fun r u t H1 locs1 ht hvm hw hB hz1 hk1 hS1 => ?_)
  subst hw
  exact kk H1 locs1 (hP.kept (fun k q hq => hk1 q.1 ((hP k q hq).lt) (fun h => h))) hS1
theorem x_afterM (hr : va_Run p l e R s m args below meth c H locs cells slots 0 0 (F0 m pc ls st0) rest (x_QM D r0 (va_A wc H.size) w1 As.toArray) (va_A wc H.size)) (hP : va_P D vwCl wW H) (hD : va_D A wW) (hS : va_S A H0 H locs) (hA : ∀ q : Nat, H0.size ≤ q → A q) (isC : List Nat) (hC : isC.map (fun i => wW[i]?) = wc.map some) (hw1 : w1.map Prod.fst = wc.map Prod.fst)
    (kk : ∀ (H1 : Heap) (locs1 : List Loc), va_P D vwCl (x_pa wW isC w1) H1 → va_D A (x_pa wW isC w1) → va_S A H0 H1 locs1 → W p l e R s m args below meth c H1 locs1 cells slots Q (F0 m (pc + 3) ls (.int r0 :: rest))) : W p l e R s m args below meth c H locs cells slots Q (F0 m pc ls st0) := by
  have hF := va_free hD hS hA isC hC
  refine va_calli (A1 := va_A wc H.size) hr hS (fun q _ h => hF q h) hF (fun r u t H1 locs1 ht hvm hw hB hz1 hk1 hS1 => ?_)
  subst hw
  rw [ht] at hB
  obtain ⟨h1, h2⟩ := x_join hP hD isC hC hw1 hk1 hB
  exact kk H1 locs1 h1 h2 hS1
theorem x_afterV (hr : va_Run p l e R s m args below meth c H locs cells slots 0 0 (F0 m pc ls st0) rest (x_QV D (va_A wc H.size) w1 As.toArray) (va_A wc H.size)) (hP : va_P D vwCl wW H) (hD : va_D A wW) (hS : va_S A H0 H locs) (hA : ∀ q : Nat, H0.size ≤ q → A q) (isC : List Nat) (hC : isC.map (fun i => wW[i]?) = wc.map some) (hw1 : w1.map Prod.fst = wc.map Prod.fst)
    (kk : ∀ (H1 : Heap) (locs1 : List Loc), va_P D vwCl (x_pa wW isC w1) H1 → va_D A (x_pa wW isC w1) → va_S A H0 H1 locs1 → W p l e R s m args below meth c H1 locs1 cells slots Q (F0 m (pc + 3) ls rest)) : W p l e R s m args below meth c H locs cells slots Q (F0 m pc ls st0) := by
  have hF := va_free hD hS hA isC hC
  refine va_callv (A1 := va_A wc H.size) hr hS (fun q _ h => hF q h) hF (fun u t H1 locs1 ht hvm hw hB hz1 hk1 hS1 => ?_)
  rw [ht] at hB
  obtain ⟨h1, h2⟩ := x_join hP hD isC hC hw1 hk1 hB
  exact kk H1 locs1 h1 h2 hS1
theorem x_preM (hK : x_K D cyI cyZ s) (hP : va_P D vwCl wW H) (hD : va_D A wW) (isC : List Nat) (hn : va_nd isC = true) (hC : isC.map (fun i => wW[i]?) = wc.map some) {av : List Value} : ∀ U : State, U.heap = H → s.WarmedH U.vm → x_PM D cyI cyZ av wc H.size av.toArray U := by
  intro U hU hW
  have hPc : va_P D vwCl wc H := by
    intro k q hq
    have e1 : (isC.map (fun i => wW[i]?))[k]? = some (some q) := by rw [hC, List.getElem?_map, hq]; rfl
    rw [List.getElem?_map] at e1
    cases hi : isC[k]? with
    | none => rw [hi] at e1; cases e1
    | some i => rw [hi] at e1; exact hP i q (Option.some.inj e1)
  exact ⟨rfl, by rw [hU], by rw [hU]; exact hPc, x_K.warm hW hK, (hD.sub isC hn hC).weaken (fun _ _ _ _ => trivial)⟩
-- calls that change nothing
theorem x_VR (S : CallFix p m c cc nL s args Ts own) (hM : Met l y ws rm (x_PR D cyI cyZ (.ref b :: As) wc) (x_QR r0) 0 0 (fun _ => False)) (cw : CallW R s args own C index y bytes maxL ret ws rm 0 0 n)
    (hK : x_K D cyI cyZ s) (hP : va_P D vwCl wW H) (hS : va_S A H0 H locs) (isC : List Nat) (hC : isC.filterMap (fun i => wW[i]?) = wc)
    (q0 : Nat) {ci : Nat} {q : vw_C} {fs : List Value} (he : wW[q0]? = some (b, .inr (ci, fs))) (hc : vwCl[ci]? = some q) (hq : q.1 = C)
    (hn : As.length = n) (hsize : ls.size = nL) (hstack : st0 = As.reverse ++ .ref b :: rest) (hW : (rest.map fun v => v.category).sum ≤ 8) (hf : cells ≤ R.cells ∧ slots ≤ R.slots) (hdg : decode cc pc = .ok (.invokevirtual index, 3))
    (kk : ∀ (H1 : Heap) (locs1 : List Loc), va_P D vwCl wW H1 → va_S A H0 H1 locs1 → W p l e R s m args below meth c H1 locs1 cells slots Q (F0 m (pc + 3) ls (.int r0 :: rest))) : W p l e R s m args below meth c H locs cells slots Q (F0 m pc ls st0) := by
  subst hq
  exact x_afterR (As := .ref b :: As) (va_runV S hM cw ⟨x_blindR, va_recv hK.1 hP hc he, fun U hU hW => ⟨rfl, by rw [hU]; exact hP.sub isC hC, x_K.warm hW hK⟩⟩ rfl hn hsize hstack (lv_room hW) hdg hf) hP hS kk
theorem x_SR (S : CallFix p m c cc nL s args Ts own) (hM : Met l y ws rm (x_PR D cyI cyZ As wc) (x_QR r0) 0 0 (fun _ => False)) (cw : CallB R s args own index y bytes maxL ret ws rm 0 0 n ∧ (Cond.static y).before args s = true)
    (hK : x_K D cyI cyZ s) (hP : va_P D vwCl wW H) (hS : va_S A H0 H locs) (isC : List Nat) (hC : isC.filterMap (fun i => wW[i]?) = wc)
    (hn : As.length = n) (hsize : ls.size = nL) (hstack : st0 = As.reverse ++ rest) (hW : (rest.map fun v => v.category).sum ≤ 8) (hf : cells ≤ R.cells ∧ slots ≤ R.slots) (hdg : decode cc pc = .ok (.invokestatic index, 3))
    (kk : ∀ (H1 : Heap) (locs1 : List Loc), va_P D vwCl wW H1 → va_S A H0 H1 locs1 → W p l e R s m args below meth c H1 locs1 cells slots Q (F0 m (pc + 3) ls (.int r0 :: rest))) : W p l e R s m args below meth c H locs cells slots Q (F0 m pc ls st0) :=
  x_afterR (As := As) (va_runS S hM cw ⟨x_blindR, fun U hU hW => ⟨rfl, by rw [hU]; exact hP.sub isC hC, x_K.warm hW hK⟩⟩ rfl hn hsize hstack (lv_room hW) hdg hf) hP hS kk
theorem x_NR (S : CallFix p m c cc nL s args Ts own) (hM : Met l y ws rm (x_PR D cyI cyZ As wc) (x_QR r0) 0 0 (fun _ => False)) (cw : va_CN R s args own index y host bytes maxL ret ws rm 0 0 n ∧ (Cond.static y).before args s = true ∧ True)
    (hK : x_K D cyI cyZ s) (hP : va_P D vwCl wW H) (hS : va_S A H0 H locs) (isC : List Nat) (hC : isC.filterMap (fun i => wW[i]?) = wc)
    (hn : As.length = n) (hsize : ls.size = nL) (hstack : st0 = As.reverse ++ rest) (hW : (rest.map fun v => v.category).sum ≤ 8) (hf : cells ≤ R.cells ∧ slots ≤ R.slots) (hdg : decode cc pc = .ok (.invokestatic index, 3))
    (kk : ∀ (H1 : Heap) (locs1 : List Loc), va_P D vwCl wW H1 → va_S A H0 H1 locs1 → W p l e R s m args below meth c H1 locs1 cells slots Q (F0 m (pc + 3) ls (.int r0 :: rest))) : W p l e R s m args below meth c H locs cells slots Q (F0 m pc ls st0) :=
  x_afterR (As := As) (va_runSN S hM cw ⟨x_blindR, fun U hU hW => ⟨rfl, by rw [hU]; exact hP.sub isC hC, x_K.warm hW hK⟩⟩ rfl hn hsize hstack (lv_room hW) hdg hf) hP hS kk
theorem x_SRl {r0 : Int64} (S : CallFix p m c cc nL s args Ts own) (hM : Met l y ws rm (x_PR D cyI cyZ As wc) (x_QRl r0) 0 0 (fun _ => False)) (cw : CallB R s args own index y bytes maxL ret ws rm 0 0 n ∧ (Cond.static y).before args s = true)
    (hK : x_K D cyI cyZ s) (hP : va_P D vwCl wW H) (hS : va_S A H0 H locs) (isC : List Nat) (hC : isC.filterMap (fun i => wW[i]?) = wc)
    (hn : As.length = n) (hsize : ls.size = nL) (hstack : st0 = As.reverse ++ rest) (hW : (rest.map fun v => v.category).sum ≤ 8) (hf : cells ≤ R.cells ∧ slots ≤ R.slots) (hdg : decode cc pc = .ok (.invokestatic index, 3))
    (kk : ∀ (H1 : Heap) (locs1 : List Loc), va_P D vwCl wW H1 → va_S A H0 H1 locs1 → W p l e R s m args below meth c H1 locs1 cells slots Q (F0 m (pc + 3) ls (.long r0 :: rest))) : W p l e R s m args below meth c H locs cells slots Q (F0 m pc ls st0) := by
  refine va_calll (A1 := fun _ => False) (va_runS S hM cw ⟨x_blindR, fun U hU hW => ⟨rfl, by rw [hU]; exact hP.sub isC hC, x_K.warm hW hK⟩⟩ rfl hn hsize hstack (lv_room hW) hdg hf) hS (fun q _ h => h.elim) (fun q h => h.elim) (fun r u t H1 locs1 ht hvm hw hB hz1 hk1 hS1 => ?_)
  subst hw
  exact kk H1 locs1 (hP.kept (fun k q hq => hk1 q.1 ((hP k q hq).lt) (fun h => h))) hS1
theorem x_blindX {av : List Value} {b L : Nat} {xs : Nat → Int32} : FrameBlind (x_PX av b L xs) := fun _ _ _ _ h => ⟨h.1, h.2.1, va_X.moved (Vm.Alike.refl _) h.2.2⟩
theorem x_SX {b L : Nat} {xs : Nat → Int32} (S : CallFix p m c cc nL s args Ts own) (hM : Met l y ws rm (x_PX As b L xs) (x_QR r0) 0 0 (fun _ => False)) (cw : CallB R s args own index y bytes maxL ret ws rm 0 0 n ∧ (Cond.static y).before args s = true)
    (hX : va_X b L xs s H0) (hbl : b < H0.size) (hbA : ¬ A b) (hP : va_P D vwCl wW H) (hS : va_S A H0 H locs)
    (hn : As.length = n) (hsize : ls.size = nL) (hstack : st0 = As.reverse ++ rest) (hW : (rest.map fun v => v.category).sum ≤ 8) (hf : cells ≤ R.cells ∧ slots ≤ R.slots) (hdg : decode cc pc = .ok (.invokestatic index, 3))
    (kk : ∀ (H1 : Heap) (locs1 : List Loc), va_P D vwCl wW H1 → va_S A H0 H1 locs1 → W p l e R s m args below meth c H1 locs1 cells slots Q (F0 m (pc + 3) ls (.int r0 :: rest))) : W p l e R s m args below meth c H locs cells slots Q (F0 m pc ls st0) := by
  refine x_afterR (As := As) (va_runS S hM cw ⟨x_blindX, fun U hU hW => ⟨rfl, by rw [hU]; exact Nat.lt_of_lt_of_le hbl hS.1, ?_⟩⟩ rfl hn hsize hstack (lv_room hW) hdg hf) hP hS kk
  rw [hU]
  exact va_X.moved hW.alike (hX.kept (hS.2.1 b hbl hbA))
theorem x_pre0 (hK : x_K D cyI cyZ s) : ∀ U : State, U.heap = H → s.WarmedH U.vm → x_PM D cyI cyZ [] [] H.size (List.toArray []) U :=
  fun U hU hW => ⟨rfl, by rw [hU], fun k q h => by simp at h, x_K.warm hW hK, ⟨fun i j p q h => by simp at h, fun k q h => by simp at h⟩⟩
theorem x_free0 (hS : va_S (fun q => H0.size ≤ q) H0 H locs) {q : Nat} (h : va_A [] H.size q) : (fun q => H0.size ≤ q) q := by
  rw [x_A0] at h
  exact Nat.le_trans hS.1 h
-- calls that change cells of theirs, with an int as the answer, or none
theorem x_VM (S : CallFix p m c cc nL s args Ts own) (hM : Met l y ws rm (x_PM D cyI cyZ (.ref b :: As) wc H.size) (x_QM D r0 (va_A wc H.size) w1) 0 0 (va_A wc H.size)) (cw : CallW R s args own C index y bytes maxL ret ws rm 0 0 n)
    (hK : x_K D cyI cyZ s) (hP : va_P D vwCl wW H) (hD : va_D A wW) (hS : va_S A H0 H locs) (hA : ∀ q : Nat, H0.size ≤ q → A q) (isC : List Nat) (hnd : va_nd isC = true) (hC : isC.map (fun i => wW[i]?) = wc.map some) (hw1 : w1.map Prod.fst = wc.map Prod.fst)
    (q0 : Nat) {ci : Nat} {q : vw_C} {fs : List Value} (he : wW[q0]? = some (b, .inr (ci, fs))) (hc : vwCl[ci]? = some q) (hq : q.1 = C)
    (hn : As.length = n) (hsize : ls.size = nL) (hstack : st0 = As.reverse ++ .ref b :: rest) (hW : (rest.map fun v => v.category).sum ≤ 8) (hf : cells ≤ R.cells ∧ slots ≤ R.slots) (hdg : decode cc pc = .ok (.invokevirtual index, 3))
    (kk : ∀ (H1 : Heap) (locs1 : List Loc), va_P D vwCl (x_pa wW isC w1) H1 → va_D A (x_pa wW isC w1) → va_S A H0 H1 locs1 → W p l e R s m args below meth c H1 locs1 cells slots Q (F0 m (pc + 3) ls (.int r0 :: rest))) : W p l e R s m args below meth c H locs cells slots Q (F0 m pc ls st0) := by
  subst hq
  exact x_afterM (As := .ref b :: As) (va_runV S hM cw ⟨x_blindM, va_recv hK.1 hP hc he, x_preM hK hP hD isC hnd hC⟩ rfl hn hsize hstack (lv_room hW) hdg hf) hP hD hS hA isC hC hw1 kk
theorem x_VV (S : CallFix p m c cc nL s args Ts own) (hM : Met l y ws rm (x_PM D cyI cyZ (.ref b :: As) wc H.size) (x_QV D (va_A wc H.size) w1) 0 0 (va_A wc H.size)) (cw : CallW R s args own C index y bytes maxL ret ws rm 0 0 n)
    (hK : x_K D cyI cyZ s) (hP : va_P D vwCl wW H) (hD : va_D A wW) (hS : va_S A H0 H locs) (hA : ∀ q : Nat, H0.size ≤ q → A q) (isC : List Nat) (hnd : va_nd isC = true) (hC : isC.map (fun i => wW[i]?) = wc.map some) (hw1 : w1.map Prod.fst = wc.map Prod.fst)
    (q0 : Nat) {ci : Nat} {q : vw_C} {fs : List Value} (he : wW[q0]? = some (b, .inr (ci, fs))) (hc : vwCl[ci]? = some q) (hq : q.1 = C)
    (hn : As.length = n) (hsize : ls.size = nL) (hstack : st0 = As.reverse ++ .ref b :: rest) (hW : (rest.map fun v => v.category).sum ≤ 8) (hf : cells ≤ R.cells ∧ slots ≤ R.slots) (hdg : decode cc pc = .ok (.invokevirtual index, 3))
    (kk : ∀ (H1 : Heap) (locs1 : List Loc), va_P D vwCl (x_pa wW isC w1) H1 → va_D A (x_pa wW isC w1) → va_S A H0 H1 locs1 → W p l e R s m args below meth c H1 locs1 cells slots Q (F0 m (pc + 3) ls rest)) : W p l e R s m args below meth c H locs cells slots Q (F0 m pc ls st0) := by
  subst hq
  exact x_afterV (As := .ref b :: As) (va_runV S hM cw ⟨x_blindM, va_recv hK.1 hP hc he, x_preM hK hP hD isC hnd hC⟩ rfl hn hsize hstack (lv_room hW) hdg hf) hP hD hS hA isC hC hw1 kk
theorem x_SV (S : CallFix p m c cc nL s args Ts own) (hM : Met l y ws rm (x_PM D cyI cyZ As wc H.size) (x_QV D (va_A wc H.size) w1) 0 0 (va_A wc H.size)) (cw : CallB R s args own index y bytes maxL ret ws rm 0 0 n ∧ (Cond.static y).before args s = true)
    (hK : x_K D cyI cyZ s) (hP : va_P D vwCl wW H) (hD : va_D A wW) (hS : va_S A H0 H locs) (hA : ∀ q : Nat, H0.size ≤ q → A q) (isC : List Nat) (hnd : va_nd isC = true) (hC : isC.map (fun i => wW[i]?) = wc.map some) (hw1 : w1.map Prod.fst = wc.map Prod.fst)
    (hn : As.length = n) (hsize : ls.size = nL) (hstack : st0 = As.reverse ++ rest) (hW : (rest.map fun v => v.category).sum ≤ 8) (hf : cells ≤ R.cells ∧ slots ≤ R.slots) (hdg : decode cc pc = .ok (.invokestatic index, 3))
    (kk : ∀ (H1 : Heap) (locs1 : List Loc), va_P D vwCl (x_pa wW isC w1) H1 → va_D A (x_pa wW isC w1) → va_S A H0 H1 locs1 → W p l e R s m args below meth c H1 locs1 cells slots Q (F0 m (pc + 3) ls rest)) : W p l e R s m args below meth c H locs cells slots Q (F0 m pc ls st0) :=
  x_afterV (As := As) (va_runS S hM cw ⟨x_blindM, x_preM hK hP hD isC hnd hC⟩ rfl hn hsize hstack (lv_room hW) hdg hf) hP hD hS hA isC hC hw1 kk
theorem x_SM (S : CallFix p m c cc nL s args Ts own) (hM : Met l y ws rm (x_PM D cyI cyZ As wc H.size) (x_QM D r0 (va_A wc H.size) w1) 0 0 (va_A wc H.size)) (cw : CallB R s args own index y bytes maxL ret ws rm 0 0 n ∧ (Cond.static y).before args s = true)
    (hK : x_K D cyI cyZ s) (hP : va_P D vwCl wW H) (hD : va_D A wW) (hS : va_S A H0 H locs) (hA : ∀ q : Nat, H0.size ≤ q → A q) (isC : List Nat) (hnd : va_nd isC = true) (hC : isC.map (fun i => wW[i]?) = wc.map some) (hw1 : w1.map Prod.fst = wc.map Prod.fst)
    (hn : As.length = n) (hsize : ls.size = nL) (hstack : st0 = As.reverse ++ rest) (hW : (rest.map fun v => v.category).sum ≤ 8) (hf : cells ≤ R.cells ∧ slots ≤ R.slots) (hdg : decode cc pc = .ok (.invokestatic index, 3))
    (kk : ∀ (H1 : Heap) (locs1 : List Loc), va_P D vwCl (x_pa wW isC w1) H1 → va_D A (x_pa wW isC w1) → va_S A H0 H1 locs1 → W p l e R s m args below meth c H1 locs1 cells slots Q (F0 m (pc + 3) ls (.int r0 :: rest))) : W p l e R s m args below meth c H locs cells slots Q (F0 m pc ls st0) :=
  x_afterM (As := As) (va_runS S hM cw ⟨x_blindM, x_preM hK hP hD isC hnd hC⟩ rfl hn hsize hstack (lv_room hW) hdg hf) hP hD hS hA isC hC hw1 kk
end XL
def k_c1 {A0 β : Type} (x : Option (A0)) (g : A0 → Option β) : Option β := x.bind (fun a => g a)
theorem k_c1_ex {A0 β : Type} {x : Option (A0)} {g : A0 → Option β} {y : β} (h : k_c1 x g = some y) : ∃ a0, x = some (a0) ∧ g a0 = some y := by
  cases x with
  | none => cases h
  | some a => exact ⟨a, rfl, h⟩
theorem k_c1_some {A0 β : Type} (a0 : A0) (g : A0 → Option β) : k_c1 (some (a0)) g = g a0 := rfl
theorem k_inj1 {A0 : Type} {a0 b0 : A0} (h : some a0 = some b0) : a0 = b0 := Option.some.inj h
def k_c2 {A0 A1 β : Type} (x : Option (A0 × A1)) (g : A0 → A1 → Option β) : Option β := x.bind (fun a => g a.1 a.2)
theorem k_c2_ex {A0 A1 β : Type} {x : Option (A0 × A1)} {g : A0 → A1 → Option β} {y : β} (h : k_c2 x g = some y) : ∃ a0 a1, x = some (a0, a1) ∧ g a0 a1 = some y := by
  cases x with
  | none => cases h
  | some a => exact ⟨a.1, a.2, rfl, h⟩
theorem k_c2_some {A0 A1 β : Type} (a0 : A0) (a1 : A1) (g : A0 → A1 → Option β) : k_c2 (some (a0, a1)) g = g a0 a1 := rfl
theorem k_inj2 {A0 A1 : Type} {a0 b0 : A0} {a1 b1 : A1} (h : some (a0, a1) = some (b0, b1)) : a0 = b0 ∧ a1 = b1 := by
  cases h
  exact ⟨rfl, rfl⟩
def k_c3 {A0 A1 A2 β : Type} (x : Option (A0 × A1 × A2)) (g : A0 → A1 → A2 → Option β) : Option β := x.bind (fun a => g a.1 a.2.1 a.2.2)
theorem k_c3_ex {A0 A1 A2 β : Type} {x : Option (A0 × A1 × A2)} {g : A0 → A1 → A2 → Option β} {y : β} (h : k_c3 x g = some y) : ∃ a0 a1 a2, x = some (a0, a1, a2) ∧ g a0 a1 a2 = some y := by
  cases x with
  | none => cases h
  | some a => exact ⟨a.1, a.2.1, a.2.2, rfl, h⟩
theorem k_c3_some {A0 A1 A2 β : Type} (a0 : A0) (a1 : A1) (a2 : A2) (g : A0 → A1 → A2 → Option β) : k_c3 (some (a0, a1, a2)) g = g a0 a1 a2 := rfl
theorem k_inj3 {A0 A1 A2 : Type} {a0 b0 : A0} {a1 b1 : A1} {a2 b2 : A2} (h : some (a0, a1, a2) = some (b0, b1, b2)) : a0 = b0 ∧ a1 = b1 ∧ a2 = b2 := by
  cases h
  exact ⟨rfl, rfl, rfl⟩
def k_c4 {A0 A1 A2 A3 β : Type} (x : Option (A0 × A1 × A2 × A3)) (g : A0 → A1 → A2 → A3 → Option β) : Option β := x.bind (fun a => g a.1 a.2.1 a.2.2.1 a.2.2.2)
theorem k_c4_ex {A0 A1 A2 A3 β : Type} {x : Option (A0 × A1 × A2 × A3)} {g : A0 → A1 → A2 → A3 → Option β} {y : β} (h : k_c4 x g = some y) : ∃ a0 a1 a2 a3, x = some (a0, a1, a2, a3) ∧ g a0 a1 a2 a3 = some y := by
  cases x with
  | none => cases h
  | some a => exact ⟨a.1, a.2.1, a.2.2.1, a.2.2.2, rfl, h⟩
theorem k_c4_some {A0 A1 A2 A3 β : Type} (a0 : A0) (a1 : A1) (a2 : A2) (a3 : A3) (g : A0 → A1 → A2 → A3 → Option β) : k_c4 (some (a0, a1, a2, a3)) g = g a0 a1 a2 a3 := rfl
theorem k_inj4 {A0 A1 A2 A3 : Type} {a0 b0 : A0} {a1 b1 : A1} {a2 b2 : A2} {a3 b3 : A3} (h : some (a0, a1, a2, a3) = some (b0, b1, b2, b3)) : a0 = b0 ∧ a1 = b1 ∧ a2 = b2 ∧ a3 = b3 := by
  cases h
  exact ⟨rfl, rfl, rfl, rfl⟩
def k_c5 {A0 A1 A2 A3 A4 β : Type} (x : Option (A0 × A1 × A2 × A3 × A4)) (g : A0 → A1 → A2 → A3 → A4 → Option β) : Option β := x.bind (fun a => g a.1 a.2.1 a.2.2.1 a.2.2.2.1 a.2.2.2.2)
theorem k_c5_ex {A0 A1 A2 A3 A4 β : Type} {x : Option (A0 × A1 × A2 × A3 × A4)} {g : A0 → A1 → A2 → A3 → A4 → Option β} {y : β} (h : k_c5 x g = some y) : ∃ a0 a1 a2 a3 a4, x = some (a0, a1, a2, a3, a4) ∧ g a0 a1 a2 a3 a4 = some y := by
  cases x with
  | none => cases h
  | some a => exact ⟨a.1, a.2.1, a.2.2.1, a.2.2.2.1, a.2.2.2.2, rfl, h⟩
theorem k_c5_some {A0 A1 A2 A3 A4 β : Type} (a0 : A0) (a1 : A1) (a2 : A2) (a3 : A3) (a4 : A4) (g : A0 → A1 → A2 → A3 → A4 → Option β) : k_c5 (some (a0, a1, a2, a3, a4)) g = g a0 a1 a2 a3 a4 := rfl
theorem k_inj5 {A0 A1 A2 A3 A4 : Type} {a0 b0 : A0} {a1 b1 : A1} {a2 b2 : A2} {a3 b3 : A3} {a4 b4 : A4} (h : some (a0, a1, a2, a3, a4) = some (b0, b1, b2, b3, b4)) : a0 = b0 ∧ a1 = b1 ∧ a2 = b2 ∧ a3 = b3 ∧ a4 = b4 := by
  cases h
  exact ⟨rfl, rfl, rfl, rfl, rfl⟩
def k_c6 {A0 A1 A2 A3 A4 A5 β : Type} (x : Option (A0 × A1 × A2 × A3 × A4 × A5)) (g : A0 → A1 → A2 → A3 → A4 → A5 → Option β) : Option β := x.bind (fun a => g a.1 a.2.1 a.2.2.1 a.2.2.2.1 a.2.2.2.2.1 a.2.2.2.2.2)
theorem k_c6_ex {A0 A1 A2 A3 A4 A5 β : Type} {x : Option (A0 × A1 × A2 × A3 × A4 × A5)} {g : A0 → A1 → A2 → A3 → A4 → A5 → Option β} {y : β} (h : k_c6 x g = some y) : ∃ a0 a1 a2 a3 a4 a5, x = some (a0, a1, a2, a3, a4, a5) ∧ g a0 a1 a2 a3 a4 a5 = some y := by
  cases x with
  | none => cases h
  | some a => exact ⟨a.1, a.2.1, a.2.2.1, a.2.2.2.1, a.2.2.2.2.1, a.2.2.2.2.2, rfl, h⟩
theorem k_c6_some {A0 A1 A2 A3 A4 A5 β : Type} (a0 : A0) (a1 : A1) (a2 : A2) (a3 : A3) (a4 : A4) (a5 : A5) (g : A0 → A1 → A2 → A3 → A4 → A5 → Option β) : k_c6 (some (a0, a1, a2, a3, a4, a5)) g = g a0 a1 a2 a3 a4 a5 := rfl
theorem k_inj6 {A0 A1 A2 A3 A4 A5 : Type} {a0 b0 : A0} {a1 b1 : A1} {a2 b2 : A2} {a3 b3 : A3} {a4 b4 : A4} {a5 b5 : A5} (h : some (a0, a1, a2, a3, a4, a5) = some (b0, b1, b2, b3, b4, b5)) : a0 = b0 ∧ a1 = b1 ∧ a2 = b2 ∧ a3 = b3 ∧ a4 = b4 ∧ a5 = b5 := by
  cases h
  exact ⟨rfl, rfl, rfl, rfl, rfl, rfl⟩
def k_c7 {A0 A1 A2 A3 A4 A5 A6 β : Type} (x : Option (A0 × A1 × A2 × A3 × A4 × A5 × A6)) (g : A0 → A1 → A2 → A3 → A4 → A5 → A6 → Option β) : Option β := x.bind (fun a => g a.1 a.2.1 a.2.2.1 a.2.2.2.1 a.2.2.2.2.1 a.2.2.2.2.2.1 a.2.2.2.2.2.2)
theorem k_c7_ex {A0 A1 A2 A3 A4 A5 A6 β : Type} {x : Option (A0 × A1 × A2 × A3 × A4 × A5 × A6)} {g : A0 → A1 → A2 → A3 → A4 → A5 → A6 → Option β} {y : β} (h : k_c7 x g = some y) : ∃ a0 a1 a2 a3 a4 a5 a6, x = some (a0, a1, a2, a3, a4, a5, a6) ∧ g a0 a1 a2 a3 a4 a5 a6 = some y := by
  cases x with
  | none => cases h
  | some a => exact ⟨a.1, a.2.1, a.2.2.1, a.2.2.2.1, a.2.2.2.2.1, a.2.2.2.2.2.1, a.2.2.2.2.2.2, rfl, h⟩
theorem k_c7_some {A0 A1 A2 A3 A4 A5 A6 β : Type} (a0 : A0) (a1 : A1) (a2 : A2) (a3 : A3) (a4 : A4) (a5 : A5) (a6 : A6) (g : A0 → A1 → A2 → A3 → A4 → A5 → A6 → Option β) : k_c7 (some (a0, a1, a2, a3, a4, a5, a6)) g = g a0 a1 a2 a3 a4 a5 a6 := rfl
theorem k_inj7 {A0 A1 A2 A3 A4 A5 A6 : Type} {a0 b0 : A0} {a1 b1 : A1} {a2 b2 : A2} {a3 b3 : A3} {a4 b4 : A4} {a5 b5 : A5} {a6 b6 : A6} (h : some (a0, a1, a2, a3, a4, a5, a6) = some (b0, b1, b2, b3, b4, b5, b6)) : a0 = b0 ∧ a1 = b1 ∧ a2 = b2 ∧ a3 = b3 ∧ a4 = b4 ∧ a5 = b5 ∧ a6 = b6 := by
  cases h
  exact ⟨rfl, rfl, rfl, rfl, rfl, rfl, rfl⟩
def k_c8 {A0 A1 A2 A3 A4 A5 A6 A7 β : Type} (x : Option (A0 × A1 × A2 × A3 × A4 × A5 × A6 × A7)) (g : A0 → A1 → A2 → A3 → A4 → A5 → A6 → A7 → Option β) : Option β := x.bind (fun a => g a.1 a.2.1 a.2.2.1 a.2.2.2.1 a.2.2.2.2.1 a.2.2.2.2.2.1 a.2.2.2.2.2.2.1 a.2.2.2.2.2.2.2)
theorem k_c8_ex {A0 A1 A2 A3 A4 A5 A6 A7 β : Type} {x : Option (A0 × A1 × A2 × A3 × A4 × A5 × A6 × A7)} {g : A0 → A1 → A2 → A3 → A4 → A5 → A6 → A7 → Option β} {y : β} (h : k_c8 x g = some y) : ∃ a0 a1 a2 a3 a4 a5 a6 a7, x = some (a0, a1, a2, a3, a4, a5, a6, a7) ∧ g a0 a1 a2 a3 a4 a5 a6 a7 = some y := by
  cases x with
  | none => cases h
  | some a => exact ⟨a.1, a.2.1, a.2.2.1, a.2.2.2.1, a.2.2.2.2.1, a.2.2.2.2.2.1, a.2.2.2.2.2.2.1, a.2.2.2.2.2.2.2, rfl, h⟩
theorem k_c8_some {A0 A1 A2 A3 A4 A5 A6 A7 β : Type} (a0 : A0) (a1 : A1) (a2 : A2) (a3 : A3) (a4 : A4) (a5 : A5) (a6 : A6) (a7 : A7) (g : A0 → A1 → A2 → A3 → A4 → A5 → A6 → A7 → Option β) : k_c8 (some (a0, a1, a2, a3, a4, a5, a6, a7)) g = g a0 a1 a2 a3 a4 a5 a6 a7 := rfl
theorem k_inj8 {A0 A1 A2 A3 A4 A5 A6 A7 : Type} {a0 b0 : A0} {a1 b1 : A1} {a2 b2 : A2} {a3 b3 : A3} {a4 b4 : A4} {a5 b5 : A5} {a6 b6 : A6} {a7 b7 : A7} (h : some (a0, a1, a2, a3, a4, a5, a6, a7) = some (b0, b1, b2, b3, b4, b5, b6, b7)) : a0 = b0 ∧ a1 = b1 ∧ a2 = b2 ∧ a3 = b3 ∧ a4 = b4 ∧ a5 = b5 ∧ a6 = b6 ∧ a7 = b7 := by
  cases h
  exact ⟨rfl, rfl, rfl, rfl, rfl, rfl, rfl, rfl⟩
def k_c9 {A0 A1 A2 A3 A4 A5 A6 A7 A8 β : Type} (x : Option (A0 × A1 × A2 × A3 × A4 × A5 × A6 × A7 × A8)) (g : A0 → A1 → A2 → A3 → A4 → A5 → A6 → A7 → A8 → Option β) : Option β := x.bind (fun a => g a.1 a.2.1 a.2.2.1 a.2.2.2.1 a.2.2.2.2.1 a.2.2.2.2.2.1 a.2.2.2.2.2.2.1 a.2.2.2.2.2.2.2.1 a.2.2.2.2.2.2.2.2)
theorem k_c9_ex {A0 A1 A2 A3 A4 A5 A6 A7 A8 β : Type} {x : Option (A0 × A1 × A2 × A3 × A4 × A5 × A6 × A7 × A8)} {g : A0 → A1 → A2 → A3 → A4 → A5 → A6 → A7 → A8 → Option β} {y : β} (h : k_c9 x g = some y) : ∃ a0 a1 a2 a3 a4 a5 a6 a7 a8, x = some (a0, a1, a2, a3, a4, a5, a6, a7, a8) ∧ g a0 a1 a2 a3 a4 a5 a6 a7 a8 = some y := by
  cases x with
  | none => cases h
  | some a => exact ⟨a.1, a.2.1, a.2.2.1, a.2.2.2.1, a.2.2.2.2.1, a.2.2.2.2.2.1, a.2.2.2.2.2.2.1, a.2.2.2.2.2.2.2.1, a.2.2.2.2.2.2.2.2, rfl, h⟩
theorem k_c9_some {A0 A1 A2 A3 A4 A5 A6 A7 A8 β : Type} (a0 : A0) (a1 : A1) (a2 : A2) (a3 : A3) (a4 : A4) (a5 : A5) (a6 : A6) (a7 : A7) (a8 : A8) (g : A0 → A1 → A2 → A3 → A4 → A5 → A6 → A7 → A8 → Option β) : k_c9 (some (a0, a1, a2, a3, a4, a5, a6, a7, a8)) g = g a0 a1 a2 a3 a4 a5 a6 a7 a8 := rfl
theorem k_inj9 {A0 A1 A2 A3 A4 A5 A6 A7 A8 : Type} {a0 b0 : A0} {a1 b1 : A1} {a2 b2 : A2} {a3 b3 : A3} {a4 b4 : A4} {a5 b5 : A5} {a6 b6 : A6} {a7 b7 : A7} {a8 b8 : A8} (h : some (a0, a1, a2, a3, a4, a5, a6, a7, a8) = some (b0, b1, b2, b3, b4, b5, b6, b7, b8)) : a0 = b0 ∧ a1 = b1 ∧ a2 = b2 ∧ a3 = b3 ∧ a4 = b4 ∧ a5 = b5 ∧ a6 = b6 ∧ a7 = b7 ∧ a8 = b8 := by
  cases h
  exact ⟨rfl, rfl, rfl, rfl, rfl, rfl, rfl, rfl, rfl⟩
def k_c10 {A0 A1 A2 A3 A4 A5 A6 A7 A8 A9 β : Type} (x : Option (A0 × A1 × A2 × A3 × A4 × A5 × A6 × A7 × A8 × A9)) (g : A0 → A1 → A2 → A3 → A4 → A5 → A6 → A7 → A8 → A9 → Option β) : Option β := x.bind (fun a => g a.1 a.2.1 a.2.2.1 a.2.2.2.1 a.2.2.2.2.1 a.2.2.2.2.2.1 a.2.2.2.2.2.2.1 a.2.2.2.2.2.2.2.1 a.2.2.2.2.2.2.2.2.1 a.2.2.2.2.2.2.2.2.2)
theorem k_c10_ex {A0 A1 A2 A3 A4 A5 A6 A7 A8 A9 β : Type} {x : Option (A0 × A1 × A2 × A3 × A4 × A5 × A6 × A7 × A8 × A9)} {g : A0 → A1 → A2 → A3 → A4 → A5 → A6 → A7 → A8 → A9 → Option β} {y : β} (h : k_c10 x g = some y) : ∃ a0 a1 a2 a3 a4 a5 a6 a7 a8 a9, x = some (a0, a1, a2, a3, a4, a5, a6, a7, a8, a9) ∧ g a0 a1 a2 a3 a4 a5 a6 a7 a8 a9 = some y := by
  cases x with
  | none => cases h
  | some a => exact ⟨a.1, a.2.1, a.2.2.1, a.2.2.2.1, a.2.2.2.2.1, a.2.2.2.2.2.1, a.2.2.2.2.2.2.1, a.2.2.2.2.2.2.2.1, a.2.2.2.2.2.2.2.2.1, a.2.2.2.2.2.2.2.2.2, rfl, h⟩
theorem k_c10_some {A0 A1 A2 A3 A4 A5 A6 A7 A8 A9 β : Type} (a0 : A0) (a1 : A1) (a2 : A2) (a3 : A3) (a4 : A4) (a5 : A5) (a6 : A6) (a7 : A7) (a8 : A8) (a9 : A9) (g : A0 → A1 → A2 → A3 → A4 → A5 → A6 → A7 → A8 → A9 → Option β) : k_c10 (some (a0, a1, a2, a3, a4, a5, a6, a7, a8, a9)) g = g a0 a1 a2 a3 a4 a5 a6 a7 a8 a9 := rfl
theorem k_inj10 {A0 A1 A2 A3 A4 A5 A6 A7 A8 A9 : Type} {a0 b0 : A0} {a1 b1 : A1} {a2 b2 : A2} {a3 b3 : A3} {a4 b4 : A4} {a5 b5 : A5} {a6 b6 : A6} {a7 b7 : A7} {a8 b8 : A8} {a9 b9 : A9} (h : some (a0, a1, a2, a3, a4, a5, a6, a7, a8, a9) = some (b0, b1, b2, b3, b4, b5, b6, b7, b8, b9)) : a0 = b0 ∧ a1 = b1 ∧ a2 = b2 ∧ a3 = b3 ∧ a4 = b4 ∧ a5 = b5 ∧ a6 = b6 ∧ a7 = b7 ∧ a8 = b8 ∧ a9 = b9 := by
  cases h
  exact ⟨rfl, rfl, rfl, rfl, rfl, rfl, rfl, rfl, rfl, rfl⟩
def k_c11 {A0 A1 A2 A3 A4 A5 A6 A7 A8 A9 A10 β : Type} (x : Option (A0 × A1 × A2 × A3 × A4 × A5 × A6 × A7 × A8 × A9 × A10)) (g : A0 → A1 → A2 → A3 → A4 → A5 → A6 → A7 → A8 → A9 → A10 → Option β) : Option β := x.bind (fun a => g a.1 a.2.1 a.2.2.1 a.2.2.2.1 a.2.2.2.2.1 a.2.2.2.2.2.1 a.2.2.2.2.2.2.1 a.2.2.2.2.2.2.2.1 a.2.2.2.2.2.2.2.2.1 a.2.2.2.2.2.2.2.2.2.1 a.2.2.2.2.2.2.2.2.2.2)
theorem k_c11_ex {A0 A1 A2 A3 A4 A5 A6 A7 A8 A9 A10 β : Type} {x : Option (A0 × A1 × A2 × A3 × A4 × A5 × A6 × A7 × A8 × A9 × A10)} {g : A0 → A1 → A2 → A3 → A4 → A5 → A6 → A7 → A8 → A9 → A10 → Option β} {y : β} (h : k_c11 x g = some y) : ∃ a0 a1 a2 a3 a4 a5 a6 a7 a8 a9 a10, x = some (a0, a1, a2, a3, a4, a5, a6, a7, a8, a9, a10) ∧ g a0 a1 a2 a3 a4 a5 a6 a7 a8 a9 a10 = some y := by
  cases x with
  | none => cases h
  | some a => exact ⟨a.1, a.2.1, a.2.2.1, a.2.2.2.1, a.2.2.2.2.1, a.2.2.2.2.2.1, a.2.2.2.2.2.2.1, a.2.2.2.2.2.2.2.1, a.2.2.2.2.2.2.2.2.1, a.2.2.2.2.2.2.2.2.2.1, a.2.2.2.2.2.2.2.2.2.2, rfl, h⟩
theorem k_c11_some {A0 A1 A2 A3 A4 A5 A6 A7 A8 A9 A10 β : Type} (a0 : A0) (a1 : A1) (a2 : A2) (a3 : A3) (a4 : A4) (a5 : A5) (a6 : A6) (a7 : A7) (a8 : A8) (a9 : A9) (a10 : A10) (g : A0 → A1 → A2 → A3 → A4 → A5 → A6 → A7 → A8 → A9 → A10 → Option β) : k_c11 (some (a0, a1, a2, a3, a4, a5, a6, a7, a8, a9, a10)) g = g a0 a1 a2 a3 a4 a5 a6 a7 a8 a9 a10 := rfl
theorem k_inj11 {A0 A1 A2 A3 A4 A5 A6 A7 A8 A9 A10 : Type} {a0 b0 : A0} {a1 b1 : A1} {a2 b2 : A2} {a3 b3 : A3} {a4 b4 : A4} {a5 b5 : A5} {a6 b6 : A6} {a7 b7 : A7} {a8 b8 : A8} {a9 b9 : A9} {a10 b10 : A10} (h : some (a0, a1, a2, a3, a4, a5, a6, a7, a8, a9, a10) = some (b0, b1, b2, b3, b4, b5, b6, b7, b8, b9, b10)) : a0 = b0 ∧ a1 = b1 ∧ a2 = b2 ∧ a3 = b3 ∧ a4 = b4 ∧ a5 = b5 ∧ a6 = b6 ∧ a7 = b7 ∧ a8 = b8 ∧ a9 = b9 ∧ a10 = b10 := by
  cases h
  exact ⟨rfl, rfl, rfl, rfl, rfl, rfl, rfl, rfl, rfl, rfl, rfl⟩
def k_c12 {A0 A1 A2 A3 A4 A5 A6 A7 A8 A9 A10 A11 β : Type} (x : Option (A0 × A1 × A2 × A3 × A4 × A5 × A6 × A7 × A8 × A9 × A10 × A11)) (g : A0 → A1 → A2 → A3 → A4 → A5 → A6 → A7 → A8 → A9 → A10 → A11 → Option β) : Option β := x.bind (fun a => g a.1 a.2.1 a.2.2.1 a.2.2.2.1 a.2.2.2.2.1 a.2.2.2.2.2.1 a.2.2.2.2.2.2.1 a.2.2.2.2.2.2.2.1 a.2.2.2.2.2.2.2.2.1 a.2.2.2.2.2.2.2.2.2.1 a.2.2.2.2.2.2.2.2.2.2.1 a.2.2.2.2.2.2.2.2.2.2.2)
theorem k_c12_ex {A0 A1 A2 A3 A4 A5 A6 A7 A8 A9 A10 A11 β : Type} {x : Option (A0 × A1 × A2 × A3 × A4 × A5 × A6 × A7 × A8 × A9 × A10 × A11)} {g : A0 → A1 → A2 → A3 → A4 → A5 → A6 → A7 → A8 → A9 → A10 → A11 → Option β} {y : β} (h : k_c12 x g = some y) : ∃ a0 a1 a2 a3 a4 a5 a6 a7 a8 a9 a10 a11, x = some (a0, a1, a2, a3, a4, a5, a6, a7, a8, a9, a10, a11) ∧ g a0 a1 a2 a3 a4 a5 a6 a7 a8 a9 a10 a11 = some y := by
  cases x with
  | none => cases h
  | some a => exact ⟨a.1, a.2.1, a.2.2.1, a.2.2.2.1, a.2.2.2.2.1, a.2.2.2.2.2.1, a.2.2.2.2.2.2.1, a.2.2.2.2.2.2.2.1, a.2.2.2.2.2.2.2.2.1, a.2.2.2.2.2.2.2.2.2.1, a.2.2.2.2.2.2.2.2.2.2.1, a.2.2.2.2.2.2.2.2.2.2.2, rfl, h⟩
theorem k_c12_some {A0 A1 A2 A3 A4 A5 A6 A7 A8 A9 A10 A11 β : Type} (a0 : A0) (a1 : A1) (a2 : A2) (a3 : A3) (a4 : A4) (a5 : A5) (a6 : A6) (a7 : A7) (a8 : A8) (a9 : A9) (a10 : A10) (a11 : A11) (g : A0 → A1 → A2 → A3 → A4 → A5 → A6 → A7 → A8 → A9 → A10 → A11 → Option β) : k_c12 (some (a0, a1, a2, a3, a4, a5, a6, a7, a8, a9, a10, a11)) g = g a0 a1 a2 a3 a4 a5 a6 a7 a8 a9 a10 a11 := rfl
theorem k_inj12 {A0 A1 A2 A3 A4 A5 A6 A7 A8 A9 A10 A11 : Type} {a0 b0 : A0} {a1 b1 : A1} {a2 b2 : A2} {a3 b3 : A3} {a4 b4 : A4} {a5 b5 : A5} {a6 b6 : A6} {a7 b7 : A7} {a8 b8 : A8} {a9 b9 : A9} {a10 b10 : A10} {a11 b11 : A11} (h : some (a0, a1, a2, a3, a4, a5, a6, a7, a8, a9, a10, a11) = some (b0, b1, b2, b3, b4, b5, b6, b7, b8, b9, b10, b11)) : a0 = b0 ∧ a1 = b1 ∧ a2 = b2 ∧ a3 = b3 ∧ a4 = b4 ∧ a5 = b5 ∧ a6 = b6 ∧ a7 = b7 ∧ a8 = b8 ∧ a9 = b9 ∧ a10 = b10 ∧ a11 = b11 := by
  cases h
  exact ⟨rfl, rfl, rfl, rfl, rfl, rfl, rfl, rfl, rfl, rfl, rfl, rfl⟩
def k_c13 {A0 A1 A2 A3 A4 A5 A6 A7 A8 A9 A10 A11 A12 β : Type} (x : Option (A0 × A1 × A2 × A3 × A4 × A5 × A6 × A7 × A8 × A9 × A10 × A11 × A12)) (g : A0 → A1 → A2 → A3 → A4 → A5 → A6 → A7 → A8 → A9 → A10 → A11 → A12 → Option β) : Option β := x.bind (fun a => g a.1 a.2.1 a.2.2.1 a.2.2.2.1 a.2.2.2.2.1 a.2.2.2.2.2.1 a.2.2.2.2.2.2.1 a.2.2.2.2.2.2.2.1 a.2.2.2.2.2.2.2.2.1 a.2.2.2.2.2.2.2.2.2.1 a.2.2.2.2.2.2.2.2.2.2.1 a.2.2.2.2.2.2.2.2.2.2.2.1 a.2.2.2.2.2.2.2.2.2.2.2.2)
theorem k_c13_ex {A0 A1 A2 A3 A4 A5 A6 A7 A8 A9 A10 A11 A12 β : Type} {x : Option (A0 × A1 × A2 × A3 × A4 × A5 × A6 × A7 × A8 × A9 × A10 × A11 × A12)} {g : A0 → A1 → A2 → A3 → A4 → A5 → A6 → A7 → A8 → A9 → A10 → A11 → A12 → Option β} {y : β} (h : k_c13 x g = some y) : ∃ a0 a1 a2 a3 a4 a5 a6 a7 a8 a9 a10 a11 a12, x = some (a0, a1, a2, a3, a4, a5, a6, a7, a8, a9, a10, a11, a12) ∧ g a0 a1 a2 a3 a4 a5 a6 a7 a8 a9 a10 a11 a12 = some y := by
  cases x with
  | none => cases h
  | some a => exact ⟨a.1, a.2.1, a.2.2.1, a.2.2.2.1, a.2.2.2.2.1, a.2.2.2.2.2.1, a.2.2.2.2.2.2.1, a.2.2.2.2.2.2.2.1, a.2.2.2.2.2.2.2.2.1, a.2.2.2.2.2.2.2.2.2.1, a.2.2.2.2.2.2.2.2.2.2.1, a.2.2.2.2.2.2.2.2.2.2.2.1, a.2.2.2.2.2.2.2.2.2.2.2.2, rfl, h⟩
theorem k_c13_some {A0 A1 A2 A3 A4 A5 A6 A7 A8 A9 A10 A11 A12 β : Type} (a0 : A0) (a1 : A1) (a2 : A2) (a3 : A3) (a4 : A4) (a5 : A5) (a6 : A6) (a7 : A7) (a8 : A8) (a9 : A9) (a10 : A10) (a11 : A11) (a12 : A12) (g : A0 → A1 → A2 → A3 → A4 → A5 → A6 → A7 → A8 → A9 → A10 → A11 → A12 → Option β) : k_c13 (some (a0, a1, a2, a3, a4, a5, a6, a7, a8, a9, a10, a11, a12)) g = g a0 a1 a2 a3 a4 a5 a6 a7 a8 a9 a10 a11 a12 := rfl
theorem k_inj13 {A0 A1 A2 A3 A4 A5 A6 A7 A8 A9 A10 A11 A12 : Type} {a0 b0 : A0} {a1 b1 : A1} {a2 b2 : A2} {a3 b3 : A3} {a4 b4 : A4} {a5 b5 : A5} {a6 b6 : A6} {a7 b7 : A7} {a8 b8 : A8} {a9 b9 : A9} {a10 b10 : A10} {a11 b11 : A11} {a12 b12 : A12} (h : some (a0, a1, a2, a3, a4, a5, a6, a7, a8, a9, a10, a11, a12) = some (b0, b1, b2, b3, b4, b5, b6, b7, b8, b9, b10, b11, b12)) : a0 = b0 ∧ a1 = b1 ∧ a2 = b2 ∧ a3 = b3 ∧ a4 = b4 ∧ a5 = b5 ∧ a6 = b6 ∧ a7 = b7 ∧ a8 = b8 ∧ a9 = b9 ∧ a10 = b10 ∧ a11 = b11 ∧ a12 = b12 := by
  cases h
  exact ⟨rfl, rfl, rfl, rfl, rfl, rfl, rfl, rfl, rfl, rfl, rfl, rfl, rfl⟩
def k_c14 {A0 A1 A2 A3 A4 A5 A6 A7 A8 A9 A10 A11 A12 A13 β : Type} (x : Option (A0 × A1 × A2 × A3 × A4 × A5 × A6 × A7 × A8 × A9 × A10 × A11 × A12 × A13)) (g : A0 → A1 → A2 → A3 → A4 → A5 → A6 → A7 → A8 → A9 → A10 → A11 → A12 → A13 → Option β) : Option β := x.bind (fun a => g a.1 a.2.1 a.2.2.1 a.2.2.2.1 a.2.2.2.2.1 a.2.2.2.2.2.1 a.2.2.2.2.2.2.1 a.2.2.2.2.2.2.2.1 a.2.2.2.2.2.2.2.2.1 a.2.2.2.2.2.2.2.2.2.1 a.2.2.2.2.2.2.2.2.2.2.1 a.2.2.2.2.2.2.2.2.2.2.2.1 a.2.2.2.2.2.2.2.2.2.2.2.2.1 a.2.2.2.2.2.2.2.2.2.2.2.2.2)
theorem k_c14_ex {A0 A1 A2 A3 A4 A5 A6 A7 A8 A9 A10 A11 A12 A13 β : Type} {x : Option (A0 × A1 × A2 × A3 × A4 × A5 × A6 × A7 × A8 × A9 × A10 × A11 × A12 × A13)} {g : A0 → A1 → A2 → A3 → A4 → A5 → A6 → A7 → A8 → A9 → A10 → A11 → A12 → A13 → Option β} {y : β} (h : k_c14 x g = some y) : ∃ a0 a1 a2 a3 a4 a5 a6 a7 a8 a9 a10 a11 a12 a13, x = some (a0, a1, a2, a3, a4, a5, a6, a7, a8, a9, a10, a11, a12, a13) ∧ g a0 a1 a2 a3 a4 a5 a6 a7 a8 a9 a10 a11 a12 a13 = some y := by
  cases x with
  | none => cases h
  | some a => exact ⟨a.1, a.2.1, a.2.2.1, a.2.2.2.1, a.2.2.2.2.1, a.2.2.2.2.2.1, a.2.2.2.2.2.2.1, a.2.2.2.2.2.2.2.1, a.2.2.2.2.2.2.2.2.1, a.2.2.2.2.2.2.2.2.2.1, a.2.2.2.2.2.2.2.2.2.2.1, a.2.2.2.2.2.2.2.2.2.2.2.1, a.2.2.2.2.2.2.2.2.2.2.2.2.1, a.2.2.2.2.2.2.2.2.2.2.2.2.2, rfl, h⟩
theorem k_c14_some {A0 A1 A2 A3 A4 A5 A6 A7 A8 A9 A10 A11 A12 A13 β : Type} (a0 : A0) (a1 : A1) (a2 : A2) (a3 : A3) (a4 : A4) (a5 : A5) (a6 : A6) (a7 : A7) (a8 : A8) (a9 : A9) (a10 : A10) (a11 : A11) (a12 : A12) (a13 : A13) (g : A0 → A1 → A2 → A3 → A4 → A5 → A6 → A7 → A8 → A9 → A10 → A11 → A12 → A13 → Option β) : k_c14 (some (a0, a1, a2, a3, a4, a5, a6, a7, a8, a9, a10, a11, a12, a13)) g = g a0 a1 a2 a3 a4 a5 a6 a7 a8 a9 a10 a11 a12 a13 := rfl
theorem k_inj14 {A0 A1 A2 A3 A4 A5 A6 A7 A8 A9 A10 A11 A12 A13 : Type} {a0 b0 : A0} {a1 b1 : A1} {a2 b2 : A2} {a3 b3 : A3} {a4 b4 : A4} {a5 b5 : A5} {a6 b6 : A6} {a7 b7 : A7} {a8 b8 : A8} {a9 b9 : A9} {a10 b10 : A10} {a11 b11 : A11} {a12 b12 : A12} {a13 b13 : A13} (h : some (a0, a1, a2, a3, a4, a5, a6, a7, a8, a9, a10, a11, a12, a13) = some (b0, b1, b2, b3, b4, b5, b6, b7, b8, b9, b10, b11, b12, b13)) : a0 = b0 ∧ a1 = b1 ∧ a2 = b2 ∧ a3 = b3 ∧ a4 = b4 ∧ a5 = b5 ∧ a6 = b6 ∧ a7 = b7 ∧ a8 = b8 ∧ a9 = b9 ∧ a10 = b10 ∧ a11 = b11 ∧ a12 = b12 ∧ a13 = b13 := by
  cases h
  exact ⟨rfl, rfl, rfl, rfl, rfl, rfl, rfl, rfl, rfl, rfl, rfl, rfl, rfl, rfl⟩
def k_c15 {A0 A1 A2 A3 A4 A5 A6 A7 A8 A9 A10 A11 A12 A13 A14 β : Type} (x : Option (A0 × A1 × A2 × A3 × A4 × A5 × A6 × A7 × A8 × A9 × A10 × A11 × A12 × A13 × A14)) (g : A0 → A1 → A2 → A3 → A4 → A5 → A6 → A7 → A8 → A9 → A10 → A11 → A12 → A13 → A14 → Option β) : Option β := x.bind (fun a => g a.1 a.2.1 a.2.2.1 a.2.2.2.1 a.2.2.2.2.1 a.2.2.2.2.2.1 a.2.2.2.2.2.2.1 a.2.2.2.2.2.2.2.1 a.2.2.2.2.2.2.2.2.1 a.2.2.2.2.2.2.2.2.2.1 a.2.2.2.2.2.2.2.2.2.2.1 a.2.2.2.2.2.2.2.2.2.2.2.1 a.2.2.2.2.2.2.2.2.2.2.2.2.1 a.2.2.2.2.2.2.2.2.2.2.2.2.2.1 a.2.2.2.2.2.2.2.2.2.2.2.2.2.2)
theorem k_c15_ex {A0 A1 A2 A3 A4 A5 A6 A7 A8 A9 A10 A11 A12 A13 A14 β : Type} {x : Option (A0 × A1 × A2 × A3 × A4 × A5 × A6 × A7 × A8 × A9 × A10 × A11 × A12 × A13 × A14)} {g : A0 → A1 → A2 → A3 → A4 → A5 → A6 → A7 → A8 → A9 → A10 → A11 → A12 → A13 → A14 → Option β} {y : β} (h : k_c15 x g = some y) : ∃ a0 a1 a2 a3 a4 a5 a6 a7 a8 a9 a10 a11 a12 a13 a14, x = some (a0, a1, a2, a3, a4, a5, a6, a7, a8, a9, a10, a11, a12, a13, a14) ∧ g a0 a1 a2 a3 a4 a5 a6 a7 a8 a9 a10 a11 a12 a13 a14 = some y := by
  cases x with
  | none => cases h
  | some a => exact ⟨a.1, a.2.1, a.2.2.1, a.2.2.2.1, a.2.2.2.2.1, a.2.2.2.2.2.1, a.2.2.2.2.2.2.1, a.2.2.2.2.2.2.2.1, a.2.2.2.2.2.2.2.2.1, a.2.2.2.2.2.2.2.2.2.1, a.2.2.2.2.2.2.2.2.2.2.1, a.2.2.2.2.2.2.2.2.2.2.2.1, a.2.2.2.2.2.2.2.2.2.2.2.2.1, a.2.2.2.2.2.2.2.2.2.2.2.2.2.1, a.2.2.2.2.2.2.2.2.2.2.2.2.2.2, rfl, h⟩
theorem k_c15_some {A0 A1 A2 A3 A4 A5 A6 A7 A8 A9 A10 A11 A12 A13 A14 β : Type} (a0 : A0) (a1 : A1) (a2 : A2) (a3 : A3) (a4 : A4) (a5 : A5) (a6 : A6) (a7 : A7) (a8 : A8) (a9 : A9) (a10 : A10) (a11 : A11) (a12 : A12) (a13 : A13) (a14 : A14) (g : A0 → A1 → A2 → A3 → A4 → A5 → A6 → A7 → A8 → A9 → A10 → A11 → A12 → A13 → A14 → Option β) : k_c15 (some (a0, a1, a2, a3, a4, a5, a6, a7, a8, a9, a10, a11, a12, a13, a14)) g = g a0 a1 a2 a3 a4 a5 a6 a7 a8 a9 a10 a11 a12 a13 a14 := rfl
theorem k_inj15 {A0 A1 A2 A3 A4 A5 A6 A7 A8 A9 A10 A11 A12 A13 A14 : Type} {a0 b0 : A0} {a1 b1 : A1} {a2 b2 : A2} {a3 b3 : A3} {a4 b4 : A4} {a5 b5 : A5} {a6 b6 : A6} {a7 b7 : A7} {a8 b8 : A8} {a9 b9 : A9} {a10 b10 : A10} {a11 b11 : A11} {a12 b12 : A12} {a13 b13 : A13} {a14 b14 : A14} (h : some (a0, a1, a2, a3, a4, a5, a6, a7, a8, a9, a10, a11, a12, a13, a14) = some (b0, b1, b2, b3, b4, b5, b6, b7, b8, b9, b10, b11, b12, b13, b14)) : a0 = b0 ∧ a1 = b1 ∧ a2 = b2 ∧ a3 = b3 ∧ a4 = b4 ∧ a5 = b5 ∧ a6 = b6 ∧ a7 = b7 ∧ a8 = b8 ∧ a9 = b9 ∧ a10 = b10 ∧ a11 = b11 ∧ a12 = b12 ∧ a13 = b13 ∧ a14 = b14 := by
  cases h
  exact ⟨rfl, rfl, rfl, rfl, rfl, rfl, rfl, rfl, rfl, rfl, rfl, rfl, rfl, rfl, rfl⟩
def k_c16 {A0 A1 A2 A3 A4 A5 A6 A7 A8 A9 A10 A11 A12 A13 A14 A15 β : Type} (x : Option (A0 × A1 × A2 × A3 × A4 × A5 × A6 × A7 × A8 × A9 × A10 × A11 × A12 × A13 × A14 × A15)) (g : A0 → A1 → A2 → A3 → A4 → A5 → A6 → A7 → A8 → A9 → A10 → A11 → A12 → A13 → A14 → A15 → Option β) : Option β := x.bind (fun a => g a.1 a.2.1 a.2.2.1 a.2.2.2.1 a.2.2.2.2.1 a.2.2.2.2.2.1 a.2.2.2.2.2.2.1 a.2.2.2.2.2.2.2.1 a.2.2.2.2.2.2.2.2.1 a.2.2.2.2.2.2.2.2.2.1 a.2.2.2.2.2.2.2.2.2.2.1 a.2.2.2.2.2.2.2.2.2.2.2.1 a.2.2.2.2.2.2.2.2.2.2.2.2.1 a.2.2.2.2.2.2.2.2.2.2.2.2.2.1 a.2.2.2.2.2.2.2.2.2.2.2.2.2.2.1 a.2.2.2.2.2.2.2.2.2.2.2.2.2.2.2)
theorem k_c16_ex {A0 A1 A2 A3 A4 A5 A6 A7 A8 A9 A10 A11 A12 A13 A14 A15 β : Type} {x : Option (A0 × A1 × A2 × A3 × A4 × A5 × A6 × A7 × A8 × A9 × A10 × A11 × A12 × A13 × A14 × A15)} {g : A0 → A1 → A2 → A3 → A4 → A5 → A6 → A7 → A8 → A9 → A10 → A11 → A12 → A13 → A14 → A15 → Option β} {y : β} (h : k_c16 x g = some y) : ∃ a0 a1 a2 a3 a4 a5 a6 a7 a8 a9 a10 a11 a12 a13 a14 a15, x = some (a0, a1, a2, a3, a4, a5, a6, a7, a8, a9, a10, a11, a12, a13, a14, a15) ∧ g a0 a1 a2 a3 a4 a5 a6 a7 a8 a9 a10 a11 a12 a13 a14 a15 = some y := by
  cases x with
  | none => cases h
  | some a => exact ⟨a.1, a.2.1, a.2.2.1, a.2.2.2.1, a.2.2.2.2.1, a.2.2.2.2.2.1, a.2.2.2.2.2.2.1, a.2.2.2.2.2.2.2.1, a.2.2.2.2.2.2.2.2.1, a.2.2.2.2.2.2.2.2.2.1, a.2.2.2.2.2.2.2.2.2.2.1, a.2.2.2.2.2.2.2.2.2.2.2.1, a.2.2.2.2.2.2.2.2.2.2.2.2.1, a.2.2.2.2.2.2.2.2.2.2.2.2.2.1, a.2.2.2.2.2.2.2.2.2.2.2.2.2.2.1, a.2.2.2.2.2.2.2.2.2.2.2.2.2.2.2, rfl, h⟩
theorem k_c16_some {A0 A1 A2 A3 A4 A5 A6 A7 A8 A9 A10 A11 A12 A13 A14 A15 β : Type} (a0 : A0) (a1 : A1) (a2 : A2) (a3 : A3) (a4 : A4) (a5 : A5) (a6 : A6) (a7 : A7) (a8 : A8) (a9 : A9) (a10 : A10) (a11 : A11) (a12 : A12) (a13 : A13) (a14 : A14) (a15 : A15) (g : A0 → A1 → A2 → A3 → A4 → A5 → A6 → A7 → A8 → A9 → A10 → A11 → A12 → A13 → A14 → A15 → Option β) : k_c16 (some (a0, a1, a2, a3, a4, a5, a6, a7, a8, a9, a10, a11, a12, a13, a14, a15)) g = g a0 a1 a2 a3 a4 a5 a6 a7 a8 a9 a10 a11 a12 a13 a14 a15 := rfl
theorem k_inj16 {A0 A1 A2 A3 A4 A5 A6 A7 A8 A9 A10 A11 A12 A13 A14 A15 : Type} {a0 b0 : A0} {a1 b1 : A1} {a2 b2 : A2} {a3 b3 : A3} {a4 b4 : A4} {a5 b5 : A5} {a6 b6 : A6} {a7 b7 : A7} {a8 b8 : A8} {a9 b9 : A9} {a10 b10 : A10} {a11 b11 : A11} {a12 b12 : A12} {a13 b13 : A13} {a14 b14 : A14} {a15 b15 : A15} (h : some (a0, a1, a2, a3, a4, a5, a6, a7, a8, a9, a10, a11, a12, a13, a14, a15) = some (b0, b1, b2, b3, b4, b5, b6, b7, b8, b9, b10, b11, b12, b13, b14, b15)) : a0 = b0 ∧ a1 = b1 ∧ a2 = b2 ∧ a3 = b3 ∧ a4 = b4 ∧ a5 = b5 ∧ a6 = b6 ∧ a7 = b7 ∧ a8 = b8 ∧ a9 = b9 ∧ a10 = b10 ∧ a11 = b11 ∧ a12 = b12 ∧ a13 = b13 ∧ a14 = b14 ∧ a15 = b15 := by
  cases h
  exact ⟨rfl, rfl, rfl, rfl, rfl, rfl, rfl, rfl, rfl, rfl, rfl, rfl, rfl, rfl, rfl, rfl⟩
def k_c17 {A0 A1 A2 A3 A4 A5 A6 A7 A8 A9 A10 A11 A12 A13 A14 A15 A16 β : Type} (x : Option (A0 × A1 × A2 × A3 × A4 × A5 × A6 × A7 × A8 × A9 × A10 × A11 × A12 × A13 × A14 × A15 × A16)) (g : A0 → A1 → A2 → A3 → A4 → A5 → A6 → A7 → A8 → A9 → A10 → A11 → A12 → A13 → A14 → A15 → A16 → Option β) : Option β := x.bind (fun a => g a.1 a.2.1 a.2.2.1 a.2.2.2.1 a.2.2.2.2.1 a.2.2.2.2.2.1 a.2.2.2.2.2.2.1 a.2.2.2.2.2.2.2.1 a.2.2.2.2.2.2.2.2.1 a.2.2.2.2.2.2.2.2.2.1 a.2.2.2.2.2.2.2.2.2.2.1 a.2.2.2.2.2.2.2.2.2.2.2.1 a.2.2.2.2.2.2.2.2.2.2.2.2.1 a.2.2.2.2.2.2.2.2.2.2.2.2.2.1 a.2.2.2.2.2.2.2.2.2.2.2.2.2.2.1 a.2.2.2.2.2.2.2.2.2.2.2.2.2.2.2.1 a.2.2.2.2.2.2.2.2.2.2.2.2.2.2.2.2)
theorem k_c17_ex {A0 A1 A2 A3 A4 A5 A6 A7 A8 A9 A10 A11 A12 A13 A14 A15 A16 β : Type} {x : Option (A0 × A1 × A2 × A3 × A4 × A5 × A6 × A7 × A8 × A9 × A10 × A11 × A12 × A13 × A14 × A15 × A16)} {g : A0 → A1 → A2 → A3 → A4 → A5 → A6 → A7 → A8 → A9 → A10 → A11 → A12 → A13 → A14 → A15 → A16 → Option β} {y : β} (h : k_c17 x g = some y) : ∃ a0 a1 a2 a3 a4 a5 a6 a7 a8 a9 a10 a11 a12 a13 a14 a15 a16, x = some (a0, a1, a2, a3, a4, a5, a6, a7, a8, a9, a10, a11, a12, a13, a14, a15, a16) ∧ g a0 a1 a2 a3 a4 a5 a6 a7 a8 a9 a10 a11 a12 a13 a14 a15 a16 = some y := by
  cases x with
  | none => cases h
  | some a => exact ⟨a.1, a.2.1, a.2.2.1, a.2.2.2.1, a.2.2.2.2.1, a.2.2.2.2.2.1, a.2.2.2.2.2.2.1, a.2.2.2.2.2.2.2.1, a.2.2.2.2.2.2.2.2.1, a.2.2.2.2.2.2.2.2.2.1, a.2.2.2.2.2.2.2.2.2.2.1, a.2.2.2.2.2.2.2.2.2.2.2.1, a.2.2.2.2.2.2.2.2.2.2.2.2.1, a.2.2.2.2.2.2.2.2.2.2.2.2.2.1, a.2.2.2.2.2.2.2.2.2.2.2.2.2.2.1, a.2.2.2.2.2.2.2.2.2.2.2.2.2.2.2.1, a.2.2.2.2.2.2.2.2.2.2.2.2.2.2.2.2, rfl, h⟩
theorem k_c17_some {A0 A1 A2 A3 A4 A5 A6 A7 A8 A9 A10 A11 A12 A13 A14 A15 A16 β : Type} (a0 : A0) (a1 : A1) (a2 : A2) (a3 : A3) (a4 : A4) (a5 : A5) (a6 : A6) (a7 : A7) (a8 : A8) (a9 : A9) (a10 : A10) (a11 : A11) (a12 : A12) (a13 : A13) (a14 : A14) (a15 : A15) (a16 : A16) (g : A0 → A1 → A2 → A3 → A4 → A5 → A6 → A7 → A8 → A9 → A10 → A11 → A12 → A13 → A14 → A15 → A16 → Option β) : k_c17 (some (a0, a1, a2, a3, a4, a5, a6, a7, a8, a9, a10, a11, a12, a13, a14, a15, a16)) g = g a0 a1 a2 a3 a4 a5 a6 a7 a8 a9 a10 a11 a12 a13 a14 a15 a16 := rfl
theorem k_inj17 {A0 A1 A2 A3 A4 A5 A6 A7 A8 A9 A10 A11 A12 A13 A14 A15 A16 : Type} {a0 b0 : A0} {a1 b1 : A1} {a2 b2 : A2} {a3 b3 : A3} {a4 b4 : A4} {a5 b5 : A5} {a6 b6 : A6} {a7 b7 : A7} {a8 b8 : A8} {a9 b9 : A9} {a10 b10 : A10} {a11 b11 : A11} {a12 b12 : A12} {a13 b13 : A13} {a14 b14 : A14} {a15 b15 : A15} {a16 b16 : A16} (h : some (a0, a1, a2, a3, a4, a5, a6, a7, a8, a9, a10, a11, a12, a13, a14, a15, a16) = some (b0, b1, b2, b3, b4, b5, b6, b7, b8, b9, b10, b11, b12, b13, b14, b15, b16)) : a0 = b0 ∧ a1 = b1 ∧ a2 = b2 ∧ a3 = b3 ∧ a4 = b4 ∧ a5 = b5 ∧ a6 = b6 ∧ a7 = b7 ∧ a8 = b8 ∧ a9 = b9 ∧ a10 = b10 ∧ a11 = b11 ∧ a12 = b12 ∧ a13 = b13 ∧ a14 = b14 ∧ a15 = b15 ∧ a16 = b16 := by
  cases h
  exact ⟨rfl, rfl, rfl, rfl, rfl, rfl, rfl, rfl, rfl, rfl, rfl, rfl, rfl, rfl, rfl, rfl, rfl⟩
def k_ushr (x : Int64) (y : Int32) : Int64 := (x.toUInt64 >>> (y.toInt64.toUInt64 &&& Int64.toUInt64 63)).toInt64
