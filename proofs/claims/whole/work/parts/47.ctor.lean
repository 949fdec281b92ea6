/-! CONSTRUCTORS: worlds that grow, as lists of cells; 'Ec' is the walk, 'CalC' the contract -/
def AOs (U : State) : Prop := va_AO RX6 U ∧ va_AO RX5 U ∧ va_Nw (.castable RX2 RX5) U ∧ va_Nw (.castable RX8 RX5) U ∧ va_Nw (.castable RX4 RX5) U ∧ va_Nw (.castable RX3 RX5) U
theorem cast_moved {C T : String} {u U : State} (hvm : u.vm.Alike U.vm) (h : va_Nw (.castable C T) u) : va_Nw (.castable C T) U := va_tabs rfl (rfl : (u.setVm U.vm).vm = U.vm) (by rw [Cond.castable_setVm hvm]; exact h)
def rmC (d mc ms : Nat) : Room := { frames := d, cells := mc, slots := ms, locals := 45 * d }
def PoC (D : va_G) (tc : Nat → ClassId) (av : List Value) (ws : va_W) (sz : Nat) : Array Value → State → Prop := fun v U => v = av.toArray ∧ U.heap.size = sz ∧ va_P D vwCl ws U.heap ∧ va_K D vwCl (tysO tc) U ∧ (∀ w ∈ nst, va_Nw w U) ∧ AOs U ∧ va_D (fun _ => True) ws
def QoC (D : va_G) (ws : va_W) (sz : Nat) (Bt : va_W → Prop) : Array Value → State → Outcome → State → Prop := fun _ st o t => o = .returned none ∧ (∃ w1, Bt w1 ∧ va_P D vwCl w1 t.heap ∧ va_D (va_A ws sz) w1) ∧ va_F (va_A ws sz) st t
def CalC (M : MI) (d mc ms : Nat) (tc : Nat → ClassId) (av : List Value) (ws : va_W) (Bt : va_W → Prop) : Prop := ∀ (l : Launch) (D : va_G) (sz : Nat), Met l M.1 (wz M) (rmC d mc ms) (PoC D tc av ws sz) (QoC D ws sz Bt) mc ms (va_A ws sz)
def CxC (M : MI) (p : Program) (s : State) (m : MethodId) (args : Array Value) (meth : Method) (c : Code) (D : va_G) (tc : Nat → ClassId) (A : Nat → Prop) : Prop :=
  p.tables.exec = Jvm.exec ∧ c.code = M.2.1 ∧ c.maxLocals = M.2.2.1 ∧ meth.sig.returnType = M.2.2.2 ∧ (∀ w ∈ tbl, w.before args s = true) ∧ s.vm.findClass M.1.cls = some m.cls ∧ meth.locks = false ∧ va_K D vwCl (tysO tc) s ∧ (∀ w ∈ nst, va_Nw w s) ∧ (∀ q, s.heap.size ≤ q → A q) ∧ AOs s
def Ec (M : MI) (p : Program) (l : Launch) (e : Env) (R : Room) (s : State) (m : MethodId) (args : Array Value) (below : List Frame) (meth : Method) (c : Code) (D : va_G) (A : Nat → Prop) (Q : State → Prop) (ws : va_W) (kc ks : Nat) (pc : Nat) (ls : List (Nat × Value)) (st : List Value) : Prop :=
  ∀ (H : Heap) (locs : List Loc) (LS : Array Slot), va_P D vwCl ws H → va_D A ws → va_S A s.heap H locs → lv_has LS M.2.2.1 ls → W p l e R s m args below meth c H locs kc ks Q (F0 m pc LS st)
theorem AOs.moved {u U : State} (hvm : u.vm.Alike U.vm) (h : AOs u) : AOs U := ⟨va_AO.moved hvm h.1, va_AO.moved hvm h.2.1, cast_moved hvm h.2.2.1, cast_moved hvm h.2.2.2.1, cast_moved hvm h.2.2.2.2.1, cast_moved hvm h.2.2.2.2.2⟩
/-- entry ix of own's pool is own's field i, final or not, of type ty -/
def FC (own : String) (ix ci i : Nat) (fin : Bool) (ty : FieldType) : Prop := ∃ (T : u_T) (N : Nat) (ty0 : Nat → FieldType), vwCl[ci]? = some (own, T, N) ∧ i < N ∧ (∀ w ∈ u_ws own T N, w ∈ tbl) ∧ (T i).1 = own ∧ Cond.fieldLink own ix own (T i).2.1 (T i).2.2.1 ∈ tbl ∧ (∀ k, k < N → parseFieldDescriptor (T k).2.2.1 = some (ty0 k)) ∧ (∀ a, a < N → ∀ b, b < N → a ≠ b → (T a).2.1 ≠ (T b).2.1) ∧ (T i).2.2.2 = fin ∧ parseFieldDescriptor (T i).2.2.1 = some ty
def NC (own : String) (ix ci N : Nat) (fs : List Value) : Prop := ∃ (C : String) (T : u_T) (ty : Nat → FieldType), vwCl[ci]? = some (C, T, N) ∧ Cond.classLink own ix C ∈ tbl ∧ Cond.instantiable C N ∈ tbl ∧ Cond.initialized C ∈ tbl ∧ (∀ w ∈ u_ws C T N, w ∈ tbl) ∧ (∀ k, k < N → parseFieldDescriptor (T k).2.2.1 = some (ty k)) ∧ ∀ j, j < N → defaultValue (ty j) = vp_V fs j
def CFI (own : String) (ix : Nat) (Z : MI) (n : Nat) : Prop := CFn Z n ∧ (Cond.methodLink own ix Z.1 ∈ tbl ∨ ∃ host, Cond.methodLinkNest own ix Z.1 host ∈ nst) ∧ Cond.instanceMethod Z.1 ∈ tbl ∧ Z.1.name = "<init>" ∧ Z.2.2.2 = none
section ECT
variable {M Z : MI} {p : Program} {l : Launch} {e : Env} {R : Room} {s : State} {m : MethodId} {args : Array Value} {below : List Frame} {meth : Method} {c : Code} {D : va_G} {tc : Nat → ClassId} {A : Nat → Prop} {Q : State → Prop} {kc ks : Nat} {pc pc' : Nat} {ls : List (Nat × Value)} {st : List Value} {ws ws' : va_W}
theorem Ec_aload_n (hC : CxC M p s m args meth c D tc A) {i : Fin 4} {x : Nat} (j : Nat) (hd : Dc M.2.1 pc (.aload_n i) 1 pc') (hk : ls[j]? = some ((i : Nat), .ref x)) (k : Ec M p l e R s m args below meth c D A Q ws kc ks pc' ls (.ref x :: st)) : Ec M p l e R s m args below meth c D A Q ws kc ks pc ls st := by
  obtain ⟨h1, rfl⟩ := hd
  intro H locs LS hP hD hS hl
  exact lv_aload_n hC.1 hC.2.1 h1 rfl (lv_at hl j hk) (k H locs LS hP hD hS hl)
theorem Ec_iload_n (hC : CxC M p s m args meth c D tc A) {i : Fin 4} {x : Int32} (j : Nat) (hd : Dc M.2.1 pc (.iload_n i) 1 pc') (hk : ls[j]? = some ((i : Nat), .int x)) (k : Ec M p l e R s m args below meth c D A Q ws kc ks pc' ls (.int x :: st)) : Ec M p l e R s m args below meth c D A Q ws kc ks pc ls st := by
  obtain ⟨h1, rfl⟩ := hd
  intro H locs LS hP hD hS hl
  exact lv_iload_n hC.1 hC.2.1 h1 rfl (lv_at hl j hk) (k H locs LS hP hD hS hl)
theorem Ec_astore_n (hC : CxC M p s m args meth c D tc A) {i : Fin 4} {x : Nat} {ls' : List (Nat × Value)} (hd : Dc M.2.1 pc (.astore_n i) 1 pc') (hn : (i : Nat) < M.2.2.1) (hk : st1 (i : Nat) (.ref x) ls = ls') (k : Ec M p l e R s m args below meth c D A Q ws kc ks pc' ls' st) : Ec M p l e R s m args below meth c D A Q ws kc ks pc ls (.ref x :: st) := by
  obtain ⟨h1, rfl⟩ := hd
  subst hk
  intro H locs LS hP hD hS hl
  exact lv_astore_n hC.1 hC.2.1 h1 rfl hl hn rfl (fun LS' hl' => k H locs LS' hP hD hS hl')
theorem Ec_istore_n (hC : CxC M p s m args meth c D tc A) {i : Fin 4} {x : Int32} {ls' : List (Nat × Value)} (hd : Dc M.2.1 pc (.istore_n i) 1 pc') (hn : (i : Nat) < M.2.2.1) (hk : st1 (i : Nat) (.int x) ls = ls') (k : Ec M p l e R s m args below meth c D A Q ws kc ks pc' ls' st) : Ec M p l e R s m args below meth c D A Q ws kc ks pc ls (.int x :: st) := by
  obtain ⟨h1, rfl⟩ := hd
  subst hk
  intro H locs LS hP hD hS hl
  exact lv_istore_n hC.1 hC.2.1 h1 rfl hl hn rfl (fun LS' hl' => k H locs LS' hP hD hS hl')
theorem Ec_iinc (hC : CxC M p s m args meth c D tc A) {i : Nat} {n : Int} {x v : Int32} {ls' : List (Nat × Value)} (j : Nat) (hd : Dc M.2.1 pc (.iinc i n) 3 pc') (hj : ls[j]? = some (i, .int x)) (hv : v = x + Int32.ofInt n) (hn : i < M.2.2.1) (hk : st1 i (.int v) ls = ls') (k : Ec M p l e R s m args below meth c D A Q ws kc ks pc' ls' st) : Ec M p l e R s m args below meth c D A Q ws kc ks pc ls st := by
  obtain ⟨h1, rfl⟩ := hd
  subst hk
  intro H locs LS hP hD hS hl
  exact lv_iinc hC.1 hC.2.1 h1 hl (k := j) hj hv.symm hn rfl (fun LS' hl' => k H locs LS' hP hD hS hl')
theorem Ec_dup (hC : CxC M p s m args meth c D tc A) {v : Value} (hd : Dc M.2.1 pc .dup 1 pc') (hc : v.category = 1) (k : Ec M p l e R s m args below meth c D A Q ws kc ks pc' ls (v :: v :: st)) : Ec M p l e R s m args below meth c D A Q ws kc ks pc ls (v :: st) := by
  obtain ⟨h1, rfl⟩ := hd
  intro H locs LS hP hD hS hl
  exact lv_dup hC.1 hC.2.1 h1 hc (k H locs LS hP hD hS hl)
theorem Ec_iconst (hC : CxC M p s m args meth c D tc A) {n : Int} {v : Int32} (hd : Dc M.2.1 pc (.iconst n) 1 pc') (hv : Int32.ofInt n = v) (k : Ec M p l e R s m args below meth c D A Q ws kc ks pc' ls (.int v :: st)) : Ec M p l e R s m args below meth c D A Q ws kc ks pc ls st := by
  obtain ⟨h1, rfl⟩ := hd
  intro H locs LS hP hD hS hl
  exact lv_iconst hC.1 hC.2.1 h1 hv (k H locs LS hP hD hS hl)
theorem Ec_bipush (hC : CxC M p s m args meth c D tc A) {n : Int} {v : Int32} (hd : Dc M.2.1 pc (.bipush n) 2 pc') (hv : (Int8.ofInt n).toInt32 = v) (k : Ec M p l e R s m args below meth c D A Q ws kc ks pc' ls (.int v :: st)) : Ec M p l e R s m args below meth c D A Q ws kc ks pc ls st := by
  obtain ⟨h1, rfl⟩ := hd
  intro H locs LS hP hD hS hl
  exact lv_bipush hC.1 hC.2.1 h1 hv (k H locs LS hP hD hS hl)
theorem Ec_sipush (hC : CxC M p s m args meth c D tc A) {n : Int} {v : Int32} (hd : Dc M.2.1 pc (.sipush n) 3 pc') (hv : (Int16.ofInt n).toInt32 = v) (k : Ec M p l e R s m args below meth c D A Q ws kc ks pc' ls (.int v :: st)) : Ec M p l e R s m args below meth c D A Q ws kc ks pc ls st := by
  obtain ⟨h1, rfl⟩ := hd
  intro H locs LS hP hD hS hl
  exact lv_sipush hC.1 hC.2.1 h1 hv (k H locs LS hP hD hS hl)
theorem Ec_ldc_w (hC : CxC M p s m args meth c D tc A) {ix : Nat} {v : Int32} (hd : Dc M.2.1 pc (.ldc_w ix) 3 pc') (hw : Cond.constant M.1.cls ix v ∈ tbl) (k : Ec M p l e R s m args below meth c D A Q ws kc ks pc' ls (.int v :: st)) : Ec M p l e R s m args below meth c D A Q ws kc ks pc ls st := by
  obtain ⟨h1, rfl⟩ := hd
  intro H locs LS hP hD hS hl
  exact lv_ldcw hC.1 hC.2.1 hC.2.2.2.2.2.1 (hC.2.2.2.2.1 _ hw) h1 (k H locs LS hP hD hS hl)
theorem Ec_lconst (hC : CxC M p s m args meth c D tc A) {n : Fin 2} {v : Int64} (hd : Dc M.2.1 pc (.lconst n) 1 pc') (hv : Int64.ofNat (n : Nat) = v) (k : Ec M p l e R s m args below meth c D A Q ws kc ks pc' ls (.long v :: st)) : Ec M p l e R s m args below meth c D A Q ws kc ks pc ls st := by
  obtain ⟨h1, rfl⟩ := hd
  intro H locs LS hP hD hS hl
  exact lv_lconst hC.1 hC.2.1 h1 hv (k H locs LS hP hD hS hl)
theorem Ec_icmp_ge (hC : CxC M p s m args meth c D tc A) {x y : Int32} {off : Int} {tgt : Nat} (hd : Dc M.2.1 pc (.if_icmp .ge off) 3 pc') (ht : (pc : Int) + off = (tgt : Int)) (kt : y ≤ x → Ec M p l e R s m args below meth c D A Q ws kc ks tgt ls st) (kf : ¬ y ≤ x → Ec M p l e R s m args below meth c D A Q ws kc ks pc' ls st) : Ec M p l e R s m args below meth c D A Q ws kc ks pc ls (.int y :: .int x :: st) := by
  obtain ⟨h1, rfl⟩ := hd
  intro H locs LS hP hD hS hl
  exact lv_icmp_ge hC.1 hC.2.1 h1 ht (fun h => kt h H locs LS hP hD hS hl) (fun h => kf h H locs LS hP hD hS hl)
theorem Ec_goto (hC : CxC M p s m args meth c D tc A) {off : Int} {tgt : Nat} (hd : Dc M.2.1 pc (.goto off) 3 pc') (ht : (pc : Int) + off = (tgt : Int)) (k : Ec M p l e R s m args below meth c D A Q ws kc ks tgt ls st) : Ec M p l e R s m args below meth c D A Q ws kc ks pc ls st := by
  obtain ⟨h1, rfl⟩ := hd
  intro H locs LS hP hD hS hl
  exact lv_goto hC.1 hC.2.1 h1 ht (k H locs LS hP hD hS hl)
theorem tc_eq {D : va_G} {cl : List vw_C} {tc : Nat → ClassId} {s : State} {cA : ClassId} {ty : FieldType} (i : Nat) (hK : va_K D cl (tysO tc ++ [(cA, ty)]) s) (hi : (tysO tc)[i]? = some (tc i, ty)) (hp : ∀ C, ty ≠ .object C) : cA = tc i := by
  have h1 := (hK.2 5 (cA, ty) rfl).2
  have h2 := (hK.2 i (tc i, ty) (by rw [List.getElem?_append_left (List.getElem?_eq_some_iff.mp hi).1]; exact hi)).2
  cases ty <;> first | exact absurd rfl (hp _) | exact Option.some.inj (h1.symm.trans h2)
theorem tc_eqO {D : va_G} {cl : List vw_C} {tc : Nat → ClassId} {s : State} {cA : ClassId} {C : String} (i : Nat) (hK : va_K D cl (tysO tc ++ [(cA, .object C)]) s) (hi : (tysO tc)[i]? = some (tc i, .object C)) : cA = tc i := by
  obtain ⟨k1, c1, -, -, -, h1⟩ := (hK.2 5 (cA, .object C) rfl).2
  obtain ⟨k2, c2, -, -, -, h2⟩ := (hK.2 i (tc i, .object C) (by rw [List.getElem?_append_left (List.getElem?_eq_some_iff.mp hi).1]; exact hi)).2
  exact Option.some.inj (h1.symm.trans h2)
theorem Ec_newI (hC : CxC M p s m args meth c D tc A) {n : Int32} {N : Nat} (hd : Dc M.2.1 pc (.newarray .int) 2 pc') (hn : ¬ n < 0) (hN : n.toNatClampNeg = N) (hbytes : N * componentBytes .int ≤ 536870912) (hr : kc + 1 ≤ R.cells ∧ ks + N ≤ R.slots) (hw : Cond.arrayClass .int ∈ tbl) (k : ∀ q : Nat, Ec M p l e R s m args below meth c D A Q (ws ++ [(q, .inl (tc 0, N, .inl (fun _ => 0)))]) (kc + 1) (ks + N) pc' ls (.ref q :: st)) : Ec M p l e R s m args below meth c D A Q ws kc ks pc ls (.int n :: st) := by
  obtain ⟨h1, rfl⟩ := hd
  intro H locs LS hP hD hS hl
  refine va_newa (atype := .int) (ty := .int) (a0 := (N, .inl (fun _ => 0))) hC.1 hC.2.1 (hC.2.2.2.2.1 _ hw) rfl hC.2.2.2.2.2.2.2.1 hP hD hS hC.2.2.2.2.2.2.2.2.2.1 (fun _ => rfl) hn hN hbytes hr.1 hr.2 h1 (fun q cA H1 hK1 hP1 hD1 hS1 => ?_)
  have e := tc_eq 0 hK1 rfl (fun C h => by cases h)
  subst e
  exact k q H1 locs LS hP1 hD1 hS1 hl
theorem Ec_newZ (hC : CxC M p s m args meth c D tc A) {n : Int32} {N : Nat} (hd : Dc M.2.1 pc (.newarray .boolean) 2 pc') (hn : ¬ n < 0) (hN : n.toNatClampNeg = N) (hbytes : N * componentBytes .boolean ≤ 536870912) (hr : kc + 1 ≤ R.cells ∧ ks + N ≤ R.slots) (hw : Cond.arrayClass .boolean ∈ tbl) (k : ∀ q : Nat, Ec M p l e R s m args below meth c D A Q (ws ++ [(q, .inl (tc 1, N, .inl (fun _ => 0)))]) (kc + 1) (ks + N) pc' ls (.ref q :: st)) : Ec M p l e R s m args below meth c D A Q ws kc ks pc ls (.int n :: st) := by
  obtain ⟨h1, rfl⟩ := hd
  intro H locs LS hP hD hS hl
  refine va_newa (atype := .boolean) (ty := .boolean) (a0 := (N, .inl (fun _ => 0))) hC.1 hC.2.1 (hC.2.2.2.2.1 _ hw) rfl hC.2.2.2.2.2.2.2.1 hP hD hS hC.2.2.2.2.2.2.2.2.2.1 (fun _ => rfl) hn hN hbytes hr.1 hr.2 h1 (fun q cA H1 hK1 hP1 hD1 hS1 => ?_)
  have e := tc_eq 1 hK1 rfl (fun C h => by cases h)
  subst e
  exact k q H1 locs LS hP1 hD1 hS1 hl
theorem Ec_newJ (hC : CxC M p s m args meth c D tc A) {n : Int32} {N : Nat} (hd : Dc M.2.1 pc (.newarray .long) 2 pc') (hn : ¬ n < 0) (hN : n.toNatClampNeg = N) (hbytes : N * componentBytes .long ≤ 536870912) (hr : kc + 1 ≤ R.cells ∧ ks + N ≤ R.slots) (hw : Cond.arrayClass .long ∈ tbl) (k : ∀ q : Nat, Ec M p l e R s m args below meth c D A Q (ws ++ [(q, .inl (tc 2, N, .inr (.inl (fun _ => 0))))]) (kc + 1) (ks + N) pc' ls (.ref q :: st)) : Ec M p l e R s m args below meth c D A Q ws kc ks pc ls (.int n :: st) := by
  obtain ⟨h1, rfl⟩ := hd
  intro H locs LS hP hD hS hl
  refine va_newa (atype := .long) (ty := .long) (a0 := (N, .inr (.inl (fun _ => 0)))) hC.1 hC.2.1 (hC.2.2.2.2.1 _ hw) rfl hC.2.2.2.2.2.2.2.1 hP hD hS hC.2.2.2.2.2.2.2.2.2.1 (fun _ => rfl) hn hN hbytes hr.1 hr.2 h1 (fun q cA H1 hK1 hP1 hD1 hS1 => ?_)
  have e := tc_eq 2 hK1 rfl (fun C h => by cases h)
  subst e
  exact k q H1 locs LS hP1 hD1 hS1 hl
theorem Ec_newq (hC : CxC M p s m args meth c D tc A) {n : Int32} {N ix : Nat} {C : String} (i : Nat) (hd : Dc M.2.1 pc (.anewarray ix) 3 pc') (hcl : Cond.classLink M.1.cls ix C ∈ tbl) (hAO : va_AO C s) (hi : (tysO tc)[i]? = some (tc i, .object C)) (hn : ¬ n < 0) (hN : n.toNatClampNeg = N) (hbytes : N * 4 ≤ 536870912) (hr : kc + 1 ≤ R.cells ∧ ks + N ≤ R.slots) (k : ∀ q : Nat, Ec M p l e R s m args below meth c D A Q (ws ++ [(q, .inl (tc i, N, .inr (.inr (.inr (.inr (fun _ => none))))))]) (kc + 1) (ks + N) pc' ls (.ref q :: st)) : Ec M p l e R s m args below meth c D A Q ws kc ks pc ls (.int n :: st) := by
  obtain ⟨h1, rfl⟩ := hd
  intro H locs LS hP hD hS hl
  refine va_newq hC.1 hC.2.1 hC.2.2.2.2.2.1 (hC.2.2.2.2.1 _ hcl) hAO hC.2.2.2.2.2.2.2.1 hP hD hS hC.2.2.2.2.2.2.2.2.2.1 hn hN hbytes hr.1 hr.2 h1 (fun q cA H1 hK1 hP1 hD1 hS1 => ?_)
  have e := tc_eqO i hK1 hi
  subst e
  exact k q H1 locs LS hP1 hD1 hS1 hl
theorem Ec_new (hC : CxC M p s m args meth c D tc A) {ix ci N : Nat} {fs : List Value} (hd : Dc M.2.1 pc (.new ix) 3 pc') (hN : NC M.1.cls ix ci N fs) (hr : kc + 1 ≤ R.cells ∧ ks + N ≤ R.slots) (k : ∀ q : Nat, Ec M p l e R s m args below meth c D A Q (ws ++ [(q, .inr (ci, fs))]) (kc + 1) (ks + N) pc' ls (.ref q :: st)) : Ec M p l e R s m args below meth c D A Q ws kc ks pc ls st := by
  obtain ⟨h1, rfl⟩ := hd
  obtain ⟨C, T, ty, g1, g2, g3, g4, g5, g6, g7⟩ := hN
  intro H locs LS hP hD hS hl
  exact va_new hC.1 hC.2.1 hC.2.2.2.2.1 g5 ty g6 hC.2.2.2.2.2.1 (hC.2.2.2.2.1 _ g2) (hC.2.2.2.2.1 _ g3) (hC.2.2.2.2.1 _ g4) hC.2.2.2.2.2.2.2.1 hP hD hS hC.2.2.2.2.2.2.2.2.2.1 g1 g7 hr.1 hr.2 h1 (fun q H1 hP1 hD1 hS1 => k q H1 locs LS hP1 hD1 hS1 hl)
theorem Ec_putF (hC : CxC M p s m args meth c D tc A) (hin : meth.name = "<init>") {ix ci i a : Nat} {ty : FieldType} {v : Value} {fs : List Value} (q0 : Nat) (hd : Dc M.2.1 pc (.putfield ix) 3 pc') (hf : FC M.1.cls ix ci i true ty) (he : ws[q0]? = some (a, .inr (ci, fs))) (hn : narrow ty v = v) (hfit : fits ty v = true) (hlen : i < fs.length) (hws : ws.set q0 (a, .inr (ci, fs.set i v)) = ws') (k : Ec M p l e R s m args below meth c D A Q ws' kc ks pc' ls st) : Ec M p l e R s m args below meth c D A Q ws kc ks pc ls (v :: .ref a :: st) := by
  obtain ⟨h1, rfl⟩ := hd
  subst hws
  obtain ⟨T, N, ty0, g1, g2, g3, g4, g5, g6, g7, g8, g9⟩ := hf
  intro H locs LS hP hD hS hl
  exact va_putF hC.1 hC.2.1 hC.2.2.2.2.1 g3 ty0 g6 g7 hC.2.2.2.2.2.1 hC.2.2.2.2.2.2.2.1 hP hD hS q0 he g1 i g2 (hC.2.2.2.2.1 _ g5) (fun x hx => by rw [g4] at hx; exact hx) g8 hin g4 g9 hn hfit hlen h1 (fun H1 locs1 hP1 hD1 hS1 => k H1 locs1 LS hP1 hD1 hS1 hl)
theorem Ec_put (hC : CxC M p s m args meth c D tc A) {ix ci i a : Nat} {ty : FieldType} {v : Value} {fs : List Value} (q0 : Nat) (hd : Dc M.2.1 pc (.putfield ix) 3 pc') (hf : FC M.1.cls ix ci i false ty) (he : ws[q0]? = some (a, .inr (ci, fs))) (hn : narrow ty v = v) (hfit : fits ty v = true) (hlen : i < fs.length) (hws : ws.set q0 (a, .inr (ci, fs.set i v)) = ws') (k : Ec M p l e R s m args below meth c D A Q ws' kc ks pc' ls st) : Ec M p l e R s m args below meth c D A Q ws kc ks pc ls (v :: .ref a :: st) := by
  obtain ⟨h1, rfl⟩ := hd
  subst hws
  obtain ⟨T, N, ty0, g1, g2, g3, g4, g5, g6, g7, g8, g9⟩ := hf
  intro H locs LS hP hD hS hl
  exact va_put hC.1 hC.2.1 hC.2.2.2.2.1 g3 ty0 g6 g7 hC.2.2.2.2.2.1 hC.2.2.2.2.2.2.2.1 hP hD hS q0 he g1 i g2 (hC.2.2.2.2.1 _ g5) (fun x hx => by rw [g4] at hx; exact hx) g8 g9 hn hfit hlen h1 (fun H1 locs1 hP1 hD1 hS1 => k H1 locs1 LS hP1 hD1 hS1 hl)
theorem Ec_get (hC : CxC M p s m args meth c D tc A) {ix ci i a : Nat} {fin : Bool} {ty : FieldType} {v : Value} {fs : List Value} (q0 : Nat) (hd : Dc M.2.1 pc (.getfield ix) 3 pc') (hf : FC M.1.cls ix ci i fin ty) (he : ws[q0]? = some (a, .inr (ci, fs))) (hv : fs[i]? = some v) (k : Ec M p l e R s m args below meth c D A Q ws kc ks pc' ls (v :: st)) : Ec M p l e R s m args below meth c D A Q ws kc ks pc ls (.ref a :: st) := by
  obtain ⟨h1, rfl⟩ := hd
  obtain ⟨T, N, ty0, g1, g2, g3, g4, g5, g6, g7, g8, g9⟩ := hf
  intro H locs LS hP hD hS hl
  exact va_get hC.1 hC.2.1 hC.2.2.2.2.1 g3 hC.2.2.2.2.2.1 hC.2.2.2.2.2.2.2.1 hP q0 he g1 i g2 (hC.2.2.2.2.1 _ g5) (fun x hx => by rw [g4] at hx; exact hx) hv h1 (k H locs LS hP hD hS hl)
theorem Ec_iastore (hC : CxC M p s m args meth c D tc A) {a N : Nat} {f : Nat → Int32} {i x : Int32} (q0 : Nat) (hd : Dc M.2.1 pc .iastore 1 pc') (he : ws[q0]? = some (a, .inl (tc 0, N, .inl f))) (hin : vp_in i N) (hws : ws.set q0 (a, .inl (tc 0, N, .inl (upd f i.toNatClampNeg x))) = ws') (k : Ec M p l e R s m args below meth c D A Q ws' kc ks pc' ls st) : Ec M p l e R s m args below meth c D A Q ws kc ks pc ls (.int x :: .int i :: .ref a :: st) := by
  obtain ⟨h1, rfl⟩ := hd
  subst hws
  intro H locs LS hP hD hS hl
  exact va_iast hC.1 hC.2.1 hC.2.2.2.2.2.2.2.1 hP hD hS q0 0 he rfl hin h1 (fun H1 locs1 hP1 hD1 hS1 => k H1 locs1 LS hP1 hD1 hS1 hl)
theorem Ec_aastore (hC : CxC M p s m args meth c D tc A) {a N v ci : Nat} {r : vw_C} {vs : List Value} {f : Nat → Option Nat} {i : Int32} (q0 t0 qk : Nat) (hd : Dc M.2.1 pc .aastore 1 pc') (he : ws[q0]? = some (a, .inl (tc t0, N, .inr (.inr (.inr (.inr f)))))) (ht : (tysO tc)[t0]? = some (tc t0, .object r.1)) (hv : ws[qk]? = some (v, .inr (ci, vs))) (hc : vwCl[ci]? = some r) (hin : vp_in i N) (hws : ws.set q0 (a, .inl (tc t0, N, .inr (.inr (.inr (.inr (va_up f i.toNatClampNeg (some v))))))) = ws') (k : Ec M p l e R s m args below meth c D A Q ws' kc ks pc' ls st) : Ec M p l e R s m args below meth c D A Q ws kc ks pc ls (.ref v :: .int i :: .ref a :: st) := by
  obtain ⟨h1, rfl⟩ := hd
  subst hws
  intro H locs LS hP hD hS hl
  exact va_astq hC.1 hC.2.1 hC.2.2.2.2.2.2.2.1 hP hD hS q0 t0 qk ci he ht hv hc hin h1 (fun H1 locs1 hP1 hD1 hS1 => k H1 locs1 LS hP1 hD1 hS1 hl)
theorem Ec_aastoreO (hC : CxC M p s m args meth c D tc A) {a N v ci : Nat} {E : String} {r : vw_C} {vs : List Value} {f : Nat → Option Nat} {i : Int32} (q0 t0 qk : Nat) (hd : Dc M.2.1 pc .aastore 1 pc') (he : ws[q0]? = some (a, .inl (tc t0, N, .inr (.inr (.inr (.inr f)))))) (ht : (tysO tc)[t0]? = some (tc t0, .object E)) (hca : va_Nw (.castable r.1 E) s) (hv : ws[qk]? = some (v, .inr (ci, vs))) (hc : vwCl[ci]? = some r) (hin : vp_in i N) (hws : ws.set q0 (a, .inl (tc t0, N, .inr (.inr (.inr (.inr (va_up f i.toNatClampNeg (some v))))))) = ws') (k : Ec M p l e R s m args below meth c D A Q ws' kc ks pc' ls st) : Ec M p l e R s m args below meth c D A Q ws kc ks pc ls (.ref v :: .int i :: .ref a :: st) := by
  obtain ⟨h1, rfl⟩ := hd
  subst hws
  intro H locs LS hP hD hS hl
  exact va_astqO hC.1 hC.2.1 hC.2.2.2.2.2.2.2.1 hP hD hS q0 t0 qk ci he ht hca hv hc hin h1 (fun H1 locs1 hP1 hD1 hS1 => k H1 locs1 LS hP1 hD1 hS1 hl)
theorem Ec_objInit (hC : CxC M p s m args meth c D tc A) {ix a : Nat} (hd : Dc M.2.1 pc (.invokespecial ix) 3 pc') (hw : Cond.methodLink M.1.cls ix Lib.objectInit ∈ tbl ∧ Cond.instanceMethod Lib.objectInit ∈ tbl ∧ Cond.code Lib.objectInit ⟨#[0xb1]⟩ 1 none ∈ tbl) (hr : 1 ≤ R.frames ∧ (st.map fun v => v.category).sum + 12 ≤ R.locals) (k : Ec M p l e R s m args below meth c D A Q ws kc ks pc' ls st) : Ec M p l e R s m args below meth c D A Q ws kc ks pc ls (.ref a :: st) := by
  obtain ⟨h1, rfl⟩ := hd
  intro H locs LS hP hD hS hl
  refine W.objInit hC.1 hC.2.1 hC.2.2.2.2.2.1 (hC.2.2.2.2.1 _ hw.1) (hC.2.2.2.2.1 _ hw.2.1) (hC.2.2.2.2.1 _ hw.2.2) rfl (hl.1.trans hC.2.2.1.symm) rfl h1 hr.1 (by show 2 * 0 + _ + 12 ≤ _; omega) ?_
  exact k H locs LS hP hD hS hl
theorem PoC_blind {av : List Value} {sz : Nat} : FrameBlind (PoC D tc av ws sz) := fun a U g mk q => ⟨q.1, q.2.1, q.2.2.1, va_K.moved (u := U) (U := U.calling g mk a) (Vm.Alike.refl U.vm) q.2.2.2.1, nst_same (u := U) (U := U.calling g mk a) rfl q.2.2.2.2.1, AOs.moved (u := U) (U := U.calling g mk a) (Vm.Alike.refl U.vm) q.2.2.2.2.2.1, q.2.2.2.2.2.2⟩
/-- a constructor of ours: the cells wc go to it, wr stay -/
theorem Ec_ctor (hC : CxC M p s m args meth c D tc A) {ix n dz mc ms a : Nat} {wc wr : va_W} {Bt : va_W → Prop} {stk : List Value} (As : List Value) (isC isR : List Nat) (hd : Dc M.2.1 pc (.invokespecial ix) 3 pc') (cf : CFI M.1.cls ix Z n) (hz : CalC Z dz mc ms tc (.ref a :: As) wc Bt) (hR : dz + 1 ≤ R.frames ∧ 8 + (26 + 11) + 45 * dz ≤ R.locals) (hr : kc + mc ≤ R.cells ∧ ks + ms ≤ R.slots) (hc : isC.map (fun i => ws[i]?) = wc.map some) (hw : isR.map (fun i => ws[i]?) = wr.map some) (hnd : va_nd isR = true ∧ va_nd isC = true) (hdis : ∀ i ∈ isR, i ∉ isC) (hn : As.length = n) (hst : stk = As.reverse ++ .ref a :: st) (hroom : (st.map fun v => v.category).sum ≤ 8) (k : ∀ w1, Bt w1 → Ec M p l e R s m args below meth c D A Q (wr ++ w1) (kc + mc) (ks + ms) pc' ls st) : Ec M p l e R s m args below meth c D A Q ws kc ks pc ls stk := by
  obtain ⟨h1, rfl⟩ := hd
  subst hst
  obtain ⟨⟨f1, f2, f3, f4⟩, f5, f6, f7, f8⟩ := cf
  intro H locs LS hP hD hS hl
  obtain ⟨C1, C2, C3, C4, C5, C6, C7, C8, C9, C10, C11⟩ := hC
  have hwz := wz_tbl f1
  have hPc : va_P D vwCl wc H := fun k q hk => by
    have h2 : (isC.map (fun i => ws[i]?))[k]? = some (some q) := by rw [hc, List.getElem?_map, hk]; rfl
    rw [List.getElem?_map] at h2
    cases hi : isC[k]? with
    | none => rw [hi] at h2; cases h2
    | some i => rw [hi] at h2; exact hP i q (Option.some.inj h2)
  have hDc := hD.sub isC hnd.2 hc
  have hFc := va_free (wc := wc) hD hS C10 isC hc
  have hR2 : (rmC dz mc ms).frames + 1 ≤ R.frames ∧ 8 + (Z.2.2.1 + 11) + (rmC dz mc ms).locals ≤ R.locals := ⟨hR.1, by have := hR.2; show 8 + (Z.2.2.1 + 11) + 45 * dz ≤ R.locals; omega⟩
  have hpre : ∀ U : State, U.heap = H → s.WarmedH U.vm → PoC D tc (.ref a :: As) wc H.size (Value.ref a :: As).toArray U := fun U hU hW => ⟨rfl, by rw [hU], by rw [hU]; exact hPc, va_K.moved hW.alike C8, nst_warm hW C9, AOs.moved hW.alike C11, hDc.weaken (fun _ _ _ _ => trivial)⟩
  have hrun : va_Run p l e R s m args below meth c H locs kc ks mc ms (F0 m pc LS (As.reverse ++ .ref a :: st)) st (QoC D wc H.size Bt (Value.ref a :: As).toArray) (va_A wc H.size) := by
    rcases f5 with f5 | ⟨host, f5⟩
    · have cb := callB_of (own := M.1.cls) (index := ix) (R := R) n C5 (goodT (fun _ h => h) hwz) rfl (rm := rmC dz mc ms) (mc := mc) (ms := ms) rfl rfl (C5 _ f2) (C5 _ f5) f4 hR2
      rw [f8] at cb
      exact va_runI (b := a) (As := As) (rest := st) ⟨C1, C2, C3, C6, C5⟩ (hz l D H.size) ⟨cb, f7, C5 _ f6⟩ ⟨PoC_blind, hpre⟩ rfl hn hl.1 rfl (lv_room hroom) h1 hr
    · have cb := va_cnB (own := M.1.cls) (index := ix) (R := R) n C5 (goodT (fun _ h => h) hwz) rfl (rm := rmC dz mc ms) (mc := mc) (ms := ms) rfl rfl (C9 _ f5) (C5 _ f2) f4 hR2
      rw [f8] at cb
      exact va_runIN (b := a) (As := As) (rest := st) ⟨C1, C2, C3, C6, C5⟩ (hz l D H.size) ⟨cb, f7, C5 _ f6⟩ ⟨PoC_blind, hpre⟩ rfl hn hl.1 rfl (lv_room hroom) h1 hr
  intro T hT X
  obtain ⟨v, st₀, t, T', L, h0, X', hL, e1, e2, ⟨hv, ⟨w1, hB, hP1, hD1⟩, hz2, hk2⟩, stp⟩ := hrun T hT X
  cases hv
  rw [h0] at hz2 hk2
  have hS1 : va_S A s.heap T'.heap (locs ++ L) := ⟨Nat.le_trans hS.1 (by rw [e1]; exact hz2), fun q g1 g2 => by rw [e1, hk2 q (Nat.lt_of_lt_of_le g1 hS.1) (fun z => g2 (hFc q z))]; exact hS.2.1 q g1 g2, fun q hq => by
      rcases List.mem_append.mp hq with h | h
      · exact hS.2.2 q h
      · exact hFc _ (hL q h)⟩
  obtain ⟨hP2, hD2⟩ := va_join (wr := wr) (w1 := w1) (H1 := T'.heap) hP hD isC isR hc hw hnd.1 hdis (by rw [e1]; exact hk2) hFc (by rw [e1]; exact hP1) hD1
  obtain ⟨t2, a1, b1⟩ := k w1 hB T'.heap (locs ++ L) LS hP2 hD2 hS1 hl T' rfl X'
  exact ⟨t2, stp t2 a1, b1⟩
theorem Ec_vret {wc : va_W} {mc ms : Nat} {Bt : va_W → Prop} {w1 : va_W} (hC : CxC M p s m args meth c D tc (va_A wc s.heap.size)) (is : List Nat) (hd : Dc M.2.1 pc .return_ 1 pc') (hr : M.2.2.2 = none) (hs : is.map (fun i => ws[i]?) = w1.map some) (hnd : va_nd is = true) (hB : Bt w1) (hm : kc ≤ mc ∧ ks ≤ ms) : Ec M p l e R s m args below meth c D (va_A wc s.heap.size) (MQ below (QoC D wc s.heap.size Bt) args s mc ms (va_A wc s.heap.size)) ws kc ks pc ls [] := by
  obtain ⟨h1, rfl⟩ := hd
  intro H locs LS hP hD hS hl
  have hP1 : va_P D vwCl w1 H := fun k q hk => by
    have h2 : (is.map (fun i => ws[i]?))[k]? = some (some q) := by rw [hs, List.getElem?_map, hk]; rfl
    rw [List.getElem?_map] at h2
    cases hi : is[k]? with
    | none => rw [hi] at h2; cases h2
    | some i => rw [hi] at h2; exact hP i q (Option.some.inj h2)
  have hD1 := hD.sub is hnd hs
  refine W.widen (k := mc) (n := ms) hm.1 hm.2 ?_
  exact W.vret hC.1 hC.2.1 (hC.2.2.2.1.trans hr) (fun t ht hW => ⟨rfl, ⟨w1, hB, by rw [ht]; exact hP1, hD1⟩, hS.F ht⟩) hS.2.2 h1 hC.2.2.2.2.2.2.1
/-- a constructor's contract out of its walk -/
theorem CalC.of {d mc ms : Nat} {av : List Value} {wc : va_W} {Bt : va_W → Prop} (hy : plainFor M.1 = true) (hn : (lg_sl av).length ≤ M.2.2.1) (hi : M.1.name = "<init>")
    (k : ∀ (p : Program) (l : Launch) (e : Env) (s : State) (m : MethodId) (args : Array Value) (below : List Frame) (meth : Method) (c : Code) (D : va_G), CxC M p s m args meth c D tc (va_A wc s.heap.size) → meth.name = "<init>" → Ec M p l e (rmC d mc ms) s m args below meth c D (va_A wc s.heap.size) (MQ below (QoC D wc s.heap.size Bt) args s mc ms (va_A wc s.heap.size)) wc 0 0 0 (lv_args 0 av) []) : CalC M d mc ms tc av wc Bt := by
  intro l D sz
  refine va_MetF (cc := M.2.1) (maxL := M.2.2.1) (ret := M.2.2.2) hy rfl ?_
  intro p e s m args below meth c s₁ B hml hv
  obtain ⟨rfl, hsz, hP, hK, hN, hAO, hD0⟩ := hv
  subst hsz
  have hts := atoms_spec (ws := wz M) B.pre
  have hl := lv_entry av (n := M.2.2.1) hn
  rw [lg_entry_eq]
  exact k p l e s m _ below meth c D ⟨B.exec, B.bytes, hml, B.returns, fun w hw => hts w (List.mem_cons_of_mem _ hw), findClass_of_methodNamed B.named, B.notSynchronized, hK, hN, fun q h => Or.inr h, hAO⟩ ((name_of_methodNamed B.named B.method).1.trans hi) s.heap [] _ hP (hD0.self) va_S.rf hl
end ECT
