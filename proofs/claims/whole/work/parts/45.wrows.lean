/-! THE ROWS ONCE MORE, over one fixed context: for the law's own body and for the loops of a constructor. S is the skeleton, kc and ks what has been made, Q the end. -/
def wsG (S : List (Nat × List Nat)) (tc : Nat → ClassId) (ad : Nat → Nat) (σ : Sg) : va_W := S.mapIdx (fun k s => (ad k, ent tc ad σ k s))
theorem wsG_at (S : List (Nat × List Nat)) (tc : Nat → ClassId) (ad : Nat → Nat) (σ : Sg) {k : Nat} {s : Nat × List Nat} (h : S[k]? = some s) : (wsG S tc ad σ)[k]? = some (ad k, ent tc ad σ k s) := by
  rw [wsG, List.getElem?_mapIdx, h]; rfl
theorem wsG_inv {S : List (Nat × List Nat)} {tc : Nat → ClassId} {ad : Nat → Nat} {σ : Sg} {k : Nat} {q : Nat × va_E} (h : (wsG S tc ad σ)[k]? = some q) : k < S.length ∧ q.1 = ad k := by
  rw [wsG, List.getElem?_mapIdx] at h
  cases hs : S[k]? with
  | none => rw [hs] at h; cases h
  | some s =>
    rw [hs] at h
    cases h
    exact ⟨(List.getElem?_eq_some_iff.mp hs).1, rfl⟩
def InjG (S : List (Nat × List Nat)) (ad : Nat → Nat) : Prop := ∀ i j, i < S.length → j < S.length → ad i = ad j → i = j
theorem wsG_D {S : List (Nat × List Nat)} (tc : Nat → ClassId) {ad : Nat → Nat} {A : Nat → Prop} (hi : InjG S ad) (hA : ∀ k, k < S.length → A (ad k)) (σ : Sg) : va_D A (wsG S tc ad σ) := by
  refine ⟨fun i j p q h1 h2 e => ?_, fun k q h => ?_⟩
  · obtain ⟨a1, a2⟩ := wsG_inv h1
    obtain ⟨b1, b2⟩ := wsG_inv h2
    exact hi i j a1 b1 (by rw [← a2, ← b2]; exact e)
  · obtain ⟨a1, a2⟩ := wsG_inv h
    rw [a2]; exact hA k a1
theorem wsG_set {S : List (Nat × List Nat)} {tc : Nat → ClassId} {ad : Nat → Nat} {σ τ : Sg} {k : Nat} {s : Nat × List Nat} {e : va_E} (hs : S[k]? = some s) (he : e = ent tc ad τ k s) (h : ∀ j, j ≠ k → gI τ j = gI σ j ∧ gL τ j = gL σ j ∧ gR τ j = gR σ j) : (wsG S tc ad σ).set k (ad k, e) = wsG S tc ad τ := by
  subst he
  apply List.ext_getElem?
  intro j
  by_cases hj : j = k
  · subst hj
    rw [List.getElem?_set_self (List.getElem?_eq_some_iff.mp (wsG_at S tc ad σ hs)).1, wsG_at S tc ad τ hs]
  · rw [List.getElem?_set_ne (Ne.symm hj), wsG, wsG, List.getElem?_mapIdx, List.getElem?_mapIdx]
    cases S[j]? with
    | none => rfl
    | some s' =>
      obtain ⟨h1, h2, h3⟩ := h j hj
      simp only [Option.map_some, ent_same h1 h2 h3]
def CxW (S : List (Nat × List Nat)) (M : MI) (p : Program) (s : State) (m : MethodId) (args : Array Value) (meth : Method) (c : Code) (D : va_G) (tc : Nat → ClassId) (ad : Nat → Nat) (A : Nat → Prop) : Prop :=
  p.tables.exec = Jvm.exec ∧ c.code = M.2.1 ∧ c.maxLocals = M.2.2.1 ∧ meth.sig.returnType = M.2.2.2 ∧ (∀ w ∈ tbl, w.before args s = true) ∧ s.vm.findClass M.1.cls = some m.cls ∧ meth.locks = false ∧ va_K D vwCl (tysO tc) s ∧ (∀ w ∈ nst, va_Nw w s) ∧ InjG S ad ∧ (∀ k, k < S.length → A (ad k))
def Ew (S : List (Nat × List Nat)) (M : MI) (p : Program) (l : Launch) (e : Env) (R : Room) (s : State) (m : MethodId) (args : Array Value) (below : List Frame) (meth : Method) (c : Code) (D : va_G) (tc : Nat → ClassId) (ad : Nat → Nat) (A : Nat → Prop) (Q : State → Prop) (kc ks : Nat) (pc : Nat) (ls : List (Nat × Value)) (st : List Value) (σ : Sg) : Prop :=
  ∀ (H : Heap) (locs : List Loc) (LS : Array Slot), va_P D vwCl (wsG S tc ad σ) H → va_S A s.heap H locs → lv_has LS M.2.2.1 (ls.map fun q => (q.1, cv ad q.2)) → W p l e R s m args below meth c H locs kc ks Q (F0 m pc LS (st.map (cv ad)))
section EWR
variable {S : List (Nat × List Nat)} {M : MI} {p : Program} {l : Launch} {e : Env} {R : Room} {s : State} {m : MethodId} {args : Array Value} {below : List Frame} {meth : Method} {c : Code} {D : va_G} {tc : Nat → ClassId} {ad : Nat → Nat} {A : Nat → Prop} {Q : State → Prop} {kc ks : Nat} {pc pc' : Nat} {ls : List (Nat × Value)} {st : List Value} {σ : Sg}
theorem Ew_iadd (hC : CxW S M p s m args meth c D tc ad A) {x y : Int32} (hd : Dc M.2.1 pc .iadd 1 pc')  (k : Ew S M p l e R s m args below meth c D tc ad A Q kc ks pc' ls (.int (x + y) :: st) σ) : Ew S M p l e R s m args below meth c D tc ad A Q kc ks pc ls (.int y :: .int x :: st) σ := by
  obtain ⟨h1, rfl⟩ := hd
  intro H locs LS hP hS hl
  exact lv_iadd hC.1 hC.2.1 h1  (k H locs LS hP hS hl)
theorem Ew_isub (hC : CxW S M p s m args meth c D tc ad A) {x y : Int32} (hd : Dc M.2.1 pc .isub 1 pc')  (k : Ew S M p l e R s m args below meth c D tc ad A Q kc ks pc' ls (.int (x - y) :: st) σ) : Ew S M p l e R s m args below meth c D tc ad A Q kc ks pc ls (.int y :: .int x :: st) σ := by
  obtain ⟨h1, rfl⟩ := hd
  intro H locs LS hP hS hl
  exact lv_isub hC.1 hC.2.1 h1  (k H locs LS hP hS hl)
theorem Ew_imul (hC : CxW S M p s m args meth c D tc ad A) {x y : Int32} (hd : Dc M.2.1 pc .imul 1 pc')  (k : Ew S M p l e R s m args below meth c D tc ad A Q kc ks pc' ls (.int (x * y) :: st) σ) : Ew S M p l e R s m args below meth c D tc ad A Q kc ks pc ls (.int y :: .int x :: st) σ := by
  obtain ⟨h1, rfl⟩ := hd
  intro H locs LS hP hS hl
  exact lv_imul hC.1 hC.2.1 h1  (k H locs LS hP hS hl)
theorem Ew_iand (hC : CxW S M p s m args meth c D tc ad A) {x y : Int32} (hd : Dc M.2.1 pc .iand 1 pc')  (k : Ew S M p l e R s m args below meth c D tc ad A Q kc ks pc' ls (.int (x &&& y) :: st) σ) : Ew S M p l e R s m args below meth c D tc ad A Q kc ks pc ls (.int y :: .int x :: st) σ := by
  obtain ⟨h1, rfl⟩ := hd
  intro H locs LS hP hS hl
  exact lv_iand hC.1 hC.2.1 h1  (k H locs LS hP hS hl)
theorem Ew_ior (hC : CxW S M p s m args meth c D tc ad A) {x y : Int32} (hd : Dc M.2.1 pc .ior 1 pc')  (k : Ew S M p l e R s m args below meth c D tc ad A Q kc ks pc' ls (.int (x ||| y) :: st) σ) : Ew S M p l e R s m args below meth c D tc ad A Q kc ks pc ls (.int y :: .int x :: st) σ := by
  obtain ⟨h1, rfl⟩ := hd
  intro H locs LS hP hS hl
  exact lv_ior hC.1 hC.2.1 h1  (k H locs LS hP hS hl)
theorem Ew_ixor (hC : CxW S M p s m args meth c D tc ad A) {x y : Int32} (hd : Dc M.2.1 pc .ixor 1 pc')  (k : Ew S M p l e R s m args below meth c D tc ad A Q kc ks pc' ls (.int (x ^^^ y) :: st) σ) : Ew S M p l e R s m args below meth c D tc ad A Q kc ks pc ls (.int y :: .int x :: st) σ := by
  obtain ⟨h1, rfl⟩ := hd
  intro H locs LS hP hS hl
  exact lv_ixor hC.1 hC.2.1 h1  (k H locs LS hP hS hl)
theorem Ew_ishl (hC : CxW S M p s m args meth c D tc ad A) {x y : Int32} (hd : Dc M.2.1 pc .ishl 1 pc')  (k : Ew S M p l e R s m args below meth c D tc ad A Q kc ks pc' ls (.int (x <<< (y &&& 31)) :: st) σ) : Ew S M p l e R s m args below meth c D tc ad A Q kc ks pc ls (.int y :: .int x :: st) σ := by
  obtain ⟨h1, rfl⟩ := hd
  intro H locs LS hP hS hl
  exact lv_ishl hC.1 hC.2.1 h1  (k H locs LS hP hS hl)
theorem Ew_ishr (hC : CxW S M p s m args meth c D tc ad A) {x y : Int32} (hd : Dc M.2.1 pc .ishr 1 pc')  (k : Ew S M p l e R s m args below meth c D tc ad A Q kc ks pc' ls (.int (x >>> (y &&& 31)) :: st) σ) : Ew S M p l e R s m args below meth c D tc ad A Q kc ks pc ls (.int y :: .int x :: st) σ := by
  obtain ⟨h1, rfl⟩ := hd
  intro H locs LS hP hS hl
  exact lv_ishr hC.1 hC.2.1 h1  (k H locs LS hP hS hl)
theorem Ew_idiv (hC : CxW S M p s m args meth c D tc ad A) {x y : Int32} (hd : Dc M.2.1 pc .idiv 1 pc') (hne : ¬ y = 0) (k : Ew S M p l e R s m args below meth c D tc ad A Q kc ks pc' ls (.int (x / y) :: st) σ) : Ew S M p l e R s m args below meth c D tc ad A Q kc ks pc ls (.int y :: .int x :: st) σ := by
  obtain ⟨h1, rfl⟩ := hd
  intro H locs LS hP hS hl
  exact lv_idiv hC.1 hC.2.1 h1 hne (k H locs LS hP hS hl)
theorem Ew_irem (hC : CxW S M p s m args meth c D tc ad A) {x y : Int32} (hd : Dc M.2.1 pc .irem 1 pc') (hne : ¬ y = 0) (k : Ew S M p l e R s m args below meth c D tc ad A Q kc ks pc' ls (.int (x - x / y * y) :: st) σ) : Ew S M p l e R s m args below meth c D tc ad A Q kc ks pc ls (.int y :: .int x :: st) σ := by
  obtain ⟨h1, rfl⟩ := hd
  intro H locs LS hP hS hl
  exact lv_irem hC.1 hC.2.1 h1 hne (k H locs LS hP hS hl)
theorem Ew_iushr (hC : CxW S M p s m args meth c D tc ad A) {x y : Int32} (hd : Dc M.2.1 pc .iushr 1 pc')  (k : Ew S M p l e R s m args below meth c D tc ad A Q kc ks pc' ls (.int (x.toUInt32 >>> (y.toUInt32 &&& Int32.toUInt32 31)).toInt32 :: st) σ) : Ew S M p l e R s m args below meth c D tc ad A Q kc ks pc ls (.int y :: .int x :: st) σ := by
  obtain ⟨h1, rfl⟩ := hd
  intro H locs LS hP hS hl
  exact lv_iushr hC.1 hC.2.1 h1 rfl (k H locs LS hP hS hl)
theorem Ew_ineg (hC : CxW S M p s m args meth c D tc ad A) {x : Int32} (hd : Dc M.2.1 pc .ineg 1 pc')  (k : Ew S M p l e R s m args below meth c D tc ad A Q kc ks pc' ls (.int (-x) :: st) σ) : Ew S M p l e R s m args below meth c D tc ad A Q kc ks pc ls (.int x :: st) σ := by
  obtain ⟨h1, rfl⟩ := hd
  intro H locs LS hP hS hl
  exact lv_ineg hC.1 hC.2.1 h1  (k H locs LS hP hS hl)
theorem Ew_ladd (hC : CxW S M p s m args meth c D tc ad A) {x y : Int64} (hd : Dc M.2.1 pc .ladd 1 pc')  (k : Ew S M p l e R s m args below meth c D tc ad A Q kc ks pc' ls (.long (x + y) :: st) σ) : Ew S M p l e R s m args below meth c D tc ad A Q kc ks pc ls (.long y :: .long x :: st) σ := by
  obtain ⟨h1, rfl⟩ := hd
  intro H locs LS hP hS hl
  exact lv_ladd hC.1 hC.2.1 h1  (k H locs LS hP hS hl)
theorem Ew_lsub (hC : CxW S M p s m args meth c D tc ad A) {x y : Int64} (hd : Dc M.2.1 pc .lsub 1 pc')  (k : Ew S M p l e R s m args below meth c D tc ad A Q kc ks pc' ls (.long (x - y) :: st) σ) : Ew S M p l e R s m args below meth c D tc ad A Q kc ks pc ls (.long y :: .long x :: st) σ := by
  obtain ⟨h1, rfl⟩ := hd
  intro H locs LS hP hS hl
  exact lv_lsub hC.1 hC.2.1 h1  (k H locs LS hP hS hl)
theorem Ew_lmul (hC : CxW S M p s m args meth c D tc ad A) {x y : Int64} (hd : Dc M.2.1 pc .lmul 1 pc')  (k : Ew S M p l e R s m args below meth c D tc ad A Q kc ks pc' ls (.long (x * y) :: st) σ) : Ew S M p l e R s m args below meth c D tc ad A Q kc ks pc ls (.long y :: .long x :: st) σ := by
  obtain ⟨h1, rfl⟩ := hd
  intro H locs LS hP hS hl
  exact lv_lmul hC.1 hC.2.1 h1  (k H locs LS hP hS hl)
theorem Ew_land (hC : CxW S M p s m args meth c D tc ad A) {x y : Int64} (hd : Dc M.2.1 pc .land 1 pc')  (k : Ew S M p l e R s m args below meth c D tc ad A Q kc ks pc' ls (.long (x &&& y) :: st) σ) : Ew S M p l e R s m args below meth c D tc ad A Q kc ks pc ls (.long y :: .long x :: st) σ := by
  obtain ⟨h1, rfl⟩ := hd
  intro H locs LS hP hS hl
  exact lv_land hC.1 hC.2.1 h1  (k H locs LS hP hS hl)
theorem Ew_lor (hC : CxW S M p s m args meth c D tc ad A) {x y : Int64} (hd : Dc M.2.1 pc .lor 1 pc')  (k : Ew S M p l e R s m args below meth c D tc ad A Q kc ks pc' ls (.long (x ||| y) :: st) σ) : Ew S M p l e R s m args below meth c D tc ad A Q kc ks pc ls (.long y :: .long x :: st) σ := by
  obtain ⟨h1, rfl⟩ := hd
  intro H locs LS hP hS hl
  exact lv_lor hC.1 hC.2.1 h1  (k H locs LS hP hS hl)
theorem Ew_ldiv (hC : CxW S M p s m args meth c D tc ad A) {x y : Int64} (hd : Dc M.2.1 pc .ldiv 1 pc') (hne : ¬ y = 0) (k : Ew S M p l e R s m args below meth c D tc ad A Q kc ks pc' ls (.long (x / y) :: st) σ) : Ew S M p l e R s m args below meth c D tc ad A Q kc ks pc ls (.long y :: .long x :: st) σ := by
  obtain ⟨h1, rfl⟩ := hd
  intro H locs LS hP hS hl
  exact lv_ldiv hC.1 hC.2.1 h1 hne (k H locs LS hP hS hl)
theorem Ew_lrem (hC : CxW S M p s m args meth c D tc ad A) {x y : Int64} (hd : Dc M.2.1 pc .lrem 1 pc') (hne : ¬ y = 0) (k : Ew S M p l e R s m args below meth c D tc ad A Q kc ks pc' ls (.long (x - x / y * y) :: st) σ) : Ew S M p l e R s m args below meth c D tc ad A Q kc ks pc ls (.long y :: .long x :: st) σ := by
  obtain ⟨h1, rfl⟩ := hd
  intro H locs LS hP hS hl
  exact lv_lrem hC.1 hC.2.1 h1 hne (k H locs LS hP hS hl)
theorem Ew_lneg (hC : CxW S M p s m args meth c D tc ad A) {x : Int64} (hd : Dc M.2.1 pc .lneg 1 pc')  (k : Ew S M p l e R s m args below meth c D tc ad A Q kc ks pc' ls (.long (-x) :: st) σ) : Ew S M p l e R s m args below meth c D tc ad A Q kc ks pc ls (.long x :: st) σ := by
  obtain ⟨h1, rfl⟩ := hd
  intro H locs LS hP hS hl
  exact lv_lneg hC.1 hC.2.1 h1  (k H locs LS hP hS hl)
theorem Ew_lshl (hC : CxW S M p s m args meth c D tc ad A) {x : Int64} {y : Int32} (hd : Dc M.2.1 pc .lshl 1 pc')  (k : Ew S M p l e R s m args below meth c D tc ad A Q kc ks pc' ls (.long (x <<< (y.toInt64 &&& 63)) :: st) σ) : Ew S M p l e R s m args below meth c D tc ad A Q kc ks pc ls (.int y :: .long x :: st) σ := by
  obtain ⟨h1, rfl⟩ := hd
  intro H locs LS hP hS hl
  exact lv_lshl hC.1 hC.2.1 h1 rfl (k H locs LS hP hS hl)
theorem Ew_lushr (hC : CxW S M p s m args meth c D tc ad A) {x : Int64} {y : Int32} (hd : Dc M.2.1 pc .lushr 1 pc')  (k : Ew S M p l e R s m args below meth c D tc ad A Q kc ks pc' ls (.long (x.toUInt64 >>> (y.toInt64.toUInt64 &&& Int64.toUInt64 63)).toInt64 :: st) σ) : Ew S M p l e R s m args below meth c D tc ad A Q kc ks pc ls (.int y :: .long x :: st) σ := by
  obtain ⟨h1, rfl⟩ := hd
  intro H locs LS hP hS hl
  exact lv_lushr hC.1 hC.2.1 h1 rfl (k H locs LS hP hS hl)
theorem Ew_i2l (hC : CxW S M p s m args meth c D tc ad A) {x : Int32} (hd : Dc M.2.1 pc .i2l 1 pc')  (k : Ew S M p l e R s m args below meth c D tc ad A Q kc ks pc' ls (.long x.toInt64 :: st) σ) : Ew S M p l e R s m args below meth c D tc ad A Q kc ks pc ls (.int x :: st) σ := by
  obtain ⟨h1, rfl⟩ := hd
  intro H locs LS hP hS hl
  exact lv_i2l hC.1 hC.2.1 h1 rfl (k H locs LS hP hS hl)
theorem Ew_l2i (hC : CxW S M p s m args meth c D tc ad A) {x : Int64} (hd : Dc M.2.1 pc .l2i 1 pc')  (k : Ew S M p l e R s m args below meth c D tc ad A Q kc ks pc' ls (.int x.toInt32 :: st) σ) : Ew S M p l e R s m args below meth c D tc ad A Q kc ks pc ls (.long x :: st) σ := by
  obtain ⟨h1, rfl⟩ := hd
  intro H locs LS hP hS hl
  exact lv_l2i hC.1 hC.2.1 h1 rfl (k H locs LS hP hS hl)
theorem Ew_lcmp (hC : CxW S M p s m args meth c D tc ad A) {x y : Int64} (hd : Dc M.2.1 pc .lcmp 1 pc')  (k : Ew S M p l e R s m args below meth c D tc ad A Q kc ks pc' ls (.int (lg_cmp x y) :: st) σ) : Ew S M p l e R s m args below meth c D tc ad A Q kc ks pc ls (.long y :: .long x :: st) σ := by
  obtain ⟨h1, rfl⟩ := hd
  intro H locs LS hP hS hl
  exact W.lcmp hC.1 hC.2.1 h1  (k H locs LS hP hS hl)
theorem Ew_iconst (hC : CxW S M p s m args meth c D tc ad A) {n : Int} {v : Int32} (hd : Dc M.2.1 pc (.iconst n) 1 pc') (hv : Int32.ofInt n = v) (k : Ew S M p l e R s m args below meth c D tc ad A Q kc ks pc' ls (.int v :: st) σ) : Ew S M p l e R s m args below meth c D tc ad A Q kc ks pc ls (st) σ := by
  obtain ⟨h1, rfl⟩ := hd
  intro H locs LS hP hS hl
  exact lv_iconst hC.1 hC.2.1 h1 hv (k H locs LS hP hS hl)
theorem Ew_bipush (hC : CxW S M p s m args meth c D tc ad A) {n : Int} {v : Int32} (hd : Dc M.2.1 pc (.bipush n) 2 pc') (hv : (Int8.ofInt n).toInt32 = v) (k : Ew S M p l e R s m args below meth c D tc ad A Q kc ks pc' ls (.int v :: st) σ) : Ew S M p l e R s m args below meth c D tc ad A Q kc ks pc ls (st) σ := by
  obtain ⟨h1, rfl⟩ := hd
  intro H locs LS hP hS hl
  exact lv_bipush hC.1 hC.2.1 h1 hv (k H locs LS hP hS hl)
theorem Ew_sipush (hC : CxW S M p s m args meth c D tc ad A) {n : Int} {v : Int32} (hd : Dc M.2.1 pc (.sipush n) 3 pc') (hv : (Int16.ofInt n).toInt32 = v) (k : Ew S M p l e R s m args below meth c D tc ad A Q kc ks pc' ls (.int v :: st) σ) : Ew S M p l e R s m args below meth c D tc ad A Q kc ks pc ls (st) σ := by
  obtain ⟨h1, rfl⟩ := hd
  intro H locs LS hP hS hl
  exact lv_sipush hC.1 hC.2.1 h1 hv (k H locs LS hP hS hl)
theorem Ew_lconst (hC : CxW S M p s m args meth c D tc ad A) {n : Fin 2} {v : Int64} (hd : Dc M.2.1 pc (.lconst n) 1 pc') (hv : Int64.ofNat (n : Nat) = v) (k : Ew S M p l e R s m args below meth c D tc ad A Q kc ks pc' ls (.long v :: st) σ) : Ew S M p l e R s m args below meth c D tc ad A Q kc ks pc ls (st) σ := by
  obtain ⟨h1, rfl⟩ := hd
  intro H locs LS hP hS hl
  exact lv_lconst hC.1 hC.2.1 h1 hv (k H locs LS hP hS hl)
theorem Ew_ldc (hC : CxW S M p s m args meth c D tc ad A) {ix : Nat} {v : Int32} (hd : Dc M.2.1 pc (.ldc ix) 2 pc') (hw : Cond.constant M.1.cls ix v ∈ tbl) (k : Ew S M p l e R s m args below meth c D tc ad A Q kc ks pc' ls (.int v :: st) σ) : Ew S M p l e R s m args below meth c D tc ad A Q kc ks pc ls st σ := by
  obtain ⟨h1, rfl⟩ := hd
  intro H locs LS hP hS hl
  exact lv_ldc hC.1 hC.2.1 hC.2.2.2.2.2.1 (hC.2.2.2.2.1 _ hw) h1 (k H locs LS hP hS hl)
theorem Ew_ldc_w (hC : CxW S M p s m args meth c D tc ad A) {ix : Nat} {v : Int32} (hd : Dc M.2.1 pc (.ldc_w ix) 3 pc') (hw : Cond.constant M.1.cls ix v ∈ tbl) (k : Ew S M p l e R s m args below meth c D tc ad A Q kc ks pc' ls (.int v :: st) σ) : Ew S M p l e R s m args below meth c D tc ad A Q kc ks pc ls st σ := by
  obtain ⟨h1, rfl⟩ := hd
  intro H locs LS hP hS hl
  exact lv_ldcw hC.1 hC.2.1 hC.2.2.2.2.2.1 (hC.2.2.2.2.1 _ hw) h1 (k H locs LS hP hS hl)
theorem Ew_ldc2 (hC : CxW S M p s m args meth c D tc ad A) {ix : Nat} {v : Int64} (hd : Dc M.2.1 pc (.ldc2_w ix) 3 pc') (hw : Cond.constantLong M.1.cls ix v ∈ tbl) (k : Ew S M p l e R s m args below meth c D tc ad A Q kc ks pc' ls (.long v :: st) σ) : Ew S M p l e R s m args below meth c D tc ad A Q kc ks pc ls st σ := by
  obtain ⟨h1, rfl⟩ := hd
  intro H locs LS hP hS hl
  exact lv_ldc2 hC.1 hC.2.1 hC.2.2.2.2.2.1 (hC.2.2.2.2.1 _ hw) h1 (k H locs LS hP hS hl)
theorem Ew_dup (hC : CxW S M p s m args meth c D tc ad A) {v : Value} (hd : Dc M.2.1 pc .dup 1 pc') (hc : v.category = 1) (k : Ew S M p l e R s m args below meth c D tc ad A Q kc ks pc' ls (v :: v :: st) σ) : Ew S M p l e R s m args below meth c D tc ad A Q kc ks pc ls (v :: st) σ := by
  obtain ⟨h1, rfl⟩ := hd
  intro H locs LS hP hS hl
  exact lv_dup hC.1 hC.2.1 h1 (by rw [cv_cat]; exact hc) (k H locs LS hP hS hl)
theorem Ew_dup2 (hC : CxW S M p s m args meth c D tc ad A) {v u : Value} (hd : Dc M.2.1 pc .dup2 1 pc') (hc : v.category = 1) (hu : u.category = 1) (k : Ew S M p l e R s m args below meth c D tc ad A Q kc ks pc' ls (v :: u :: v :: u :: st) σ) : Ew S M p l e R s m args below meth c D tc ad A Q kc ks pc ls (v :: u :: st) σ := by
  obtain ⟨h1, rfl⟩ := hd
  intro H locs LS hP hS hl
  exact lv_dup2_11 hC.1 hC.2.1 h1 (by rw [cv_cat]; exact hc) (by rw [cv_cat]; exact hu) (k H locs LS hP hS hl)
theorem Ew_pop (hC : CxW S M p s m args meth c D tc ad A) {v : Value} (hd : Dc M.2.1 pc .pop 1 pc') (hc : v.category = 1) (k : Ew S M p l e R s m args below meth c D tc ad A Q kc ks pc' ls st σ) : Ew S M p l e R s m args below meth c D tc ad A Q kc ks pc ls (v :: st) σ := by
  obtain ⟨h1, rfl⟩ := hd
  intro H locs LS hP hS hl
  exact lv_pop hC.1 hC.2.1 h1 (by rw [cv_cat]; exact hc) (k H locs LS hP hS hl)
theorem Ew_iload (hC : CxW S M p s m args meth c D tc ad A) {i : Nat} {x : Int32} (j : Nat) (hd : Dc M.2.1 pc (.iload i) 2 pc') (hk : ls[j]? = some (i, .int x)) (k : Ew S M p l e R s m args below meth c D tc ad A Q kc ks pc' ls (.int x :: st) σ) : Ew S M p l e R s m args below meth c D tc ad A Q kc ks pc ls st σ := by
  obtain ⟨h1, rfl⟩ := hd
  intro H locs LS hP hS hl
  exact lv_iload hC.1 hC.2.1 h1 (ls_at ad hl hk) (k H locs LS hP hS hl)
theorem Ew_iload_n (hC : CxW S M p s m args meth c D tc ad A) {i : Fin 4} {x : Int32} (j : Nat) (hd : Dc M.2.1 pc (.iload_n i) 1 pc') (hk : ls[j]? = some ((i : Nat), .int x)) (k : Ew S M p l e R s m args below meth c D tc ad A Q kc ks pc' ls (.int x :: st) σ) : Ew S M p l e R s m args below meth c D tc ad A Q kc ks pc ls st σ := by
  obtain ⟨h1, rfl⟩ := hd
  intro H locs LS hP hS hl
  exact lv_iload_n hC.1 hC.2.1 h1 rfl (ls_at ad hl hk) (k H locs LS hP hS hl)
theorem Ew_lload (hC : CxW S M p s m args meth c D tc ad A) {i : Nat} {x : Int64} (j : Nat) (hd : Dc M.2.1 pc (.lload i) 2 pc') (hk : ls[j]? = some (i, .long x)) (k : Ew S M p l e R s m args below meth c D tc ad A Q kc ks pc' ls (.long x :: st) σ) : Ew S M p l e R s m args below meth c D tc ad A Q kc ks pc ls st σ := by
  obtain ⟨h1, rfl⟩ := hd
  intro H locs LS hP hS hl
  exact lv_lload hC.1 hC.2.1 h1 (ls_at ad hl hk) (k H locs LS hP hS hl)
theorem Ew_lload_n (hC : CxW S M p s m args meth c D tc ad A) {i : Fin 4} {x : Int64} (j : Nat) (hd : Dc M.2.1 pc (.lload_n i) 1 pc') (hk : ls[j]? = some ((i : Nat), .long x)) (k : Ew S M p l e R s m args below meth c D tc ad A Q kc ks pc' ls (.long x :: st) σ) : Ew S M p l e R s m args below meth c D tc ad A Q kc ks pc ls st σ := by
  obtain ⟨h1, rfl⟩ := hd
  intro H locs LS hP hS hl
  exact lv_lload_n hC.1 hC.2.1 h1 rfl (ls_at ad hl hk) (k H locs LS hP hS hl)
theorem Ew_aload (hC : CxW S M p s m args meth c D tc ad A) {i : Nat} {x : Nat} (j : Nat) (hd : Dc M.2.1 pc (.aload i) 2 pc') (hk : ls[j]? = some (i, .ref x)) (k : Ew S M p l e R s m args below meth c D tc ad A Q kc ks pc' ls (.ref x :: st) σ) : Ew S M p l e R s m args below meth c D tc ad A Q kc ks pc ls st σ := by
  obtain ⟨h1, rfl⟩ := hd
  intro H locs LS hP hS hl
  exact lv_aload hC.1 hC.2.1 h1 (ls_at ad hl hk) (k H locs LS hP hS hl)
theorem Ew_aload_n (hC : CxW S M p s m args meth c D tc ad A) {i : Fin 4} {x : Nat} (j : Nat) (hd : Dc M.2.1 pc (.aload_n i) 1 pc') (hk : ls[j]? = some ((i : Nat), .ref x)) (k : Ew S M p l e R s m args below meth c D tc ad A Q kc ks pc' ls (.ref x :: st) σ) : Ew S M p l e R s m args below meth c D tc ad A Q kc ks pc ls st σ := by
  obtain ⟨h1, rfl⟩ := hd
  intro H locs LS hP hS hl
  exact lv_aload_n hC.1 hC.2.1 h1 rfl (ls_at ad hl hk) (k H locs LS hP hS hl)
theorem Ew_istore (hC : CxW S M p s m args meth c D tc ad A) {i : Nat} {x : Int32} {ls' : List (Nat × Value)} (hd : Dc M.2.1 pc (.istore i) 2 pc') (hn : i < M.2.2.1) (hk : st1 i (.int x) ls = ls') (k : Ew S M p l e R s m args below meth c D tc ad A Q kc ks pc' ls' st σ) : Ew S M p l e R s m args below meth c D tc ad A Q kc ks pc ls (.int x :: st) σ := by
  obtain ⟨h1, rfl⟩ := hd
  subst hk
  intro H locs LS hP hS hl
  exact lv_istore hC.1 hC.2.1 h1 hl hn (st1_cv ad _ (.int x) ls) (fun LS' hl' => k H locs LS' hP hS hl')
theorem Ew_istore_n (hC : CxW S M p s m args meth c D tc ad A) {i : Fin 4} {x : Int32} {ls' : List (Nat × Value)} (hd : Dc M.2.1 pc (.istore_n i) 1 pc') (hn : (i : Nat) < M.2.2.1) (hk : st1 (i : Nat) (.int x) ls = ls') (k : Ew S M p l e R s m args below meth c D tc ad A Q kc ks pc' ls' st σ) : Ew S M p l e R s m args below meth c D tc ad A Q kc ks pc ls (.int x :: st) σ := by
  obtain ⟨h1, rfl⟩ := hd
  subst hk
  intro H locs LS hP hS hl
  exact lv_istore_n hC.1 hC.2.1 h1 rfl hl hn (st1_cv ad _ (.int x) ls) (fun LS' hl' => k H locs LS' hP hS hl')
theorem Ew_lstore (hC : CxW S M p s m args meth c D tc ad A) {i : Nat} {x : Int64} {ls' : List (Nat × Value)} (hd : Dc M.2.1 pc (.lstore i) 2 pc') (hn : i + 1 < M.2.2.1) (hk : st2 i (.long x) ls = ls') (k : Ew S M p l e R s m args below meth c D tc ad A Q kc ks pc' ls' st σ) : Ew S M p l e R s m args below meth c D tc ad A Q kc ks pc ls (.long x :: st) σ := by
  obtain ⟨h1, rfl⟩ := hd
  subst hk
  intro H locs LS hP hS hl
  exact lv_lstore hC.1 hC.2.1 h1 hl hn (st2_cv ad _ (.long x) ls) (fun LS' hl' => k H locs LS' hP hS hl')
theorem Ew_lstore_n (hC : CxW S M p s m args meth c D tc ad A) {i : Fin 4} {x : Int64} {ls' : List (Nat × Value)} (hd : Dc M.2.1 pc (.lstore_n i) 1 pc') (hn : (i : Nat) + 1 < M.2.2.1) (hk : st2 (i : Nat) (.long x) ls = ls') (k : Ew S M p l e R s m args below meth c D tc ad A Q kc ks pc' ls' st σ) : Ew S M p l e R s m args below meth c D tc ad A Q kc ks pc ls (.long x :: st) σ := by
  obtain ⟨h1, rfl⟩ := hd
  subst hk
  intro H locs LS hP hS hl
  exact lv_lstore_n hC.1 hC.2.1 h1 rfl hl hn (st2_cv ad _ (.long x) ls) (fun LS' hl' => k H locs LS' hP hS hl')
theorem Ew_astore (hC : CxW S M p s m args meth c D tc ad A) {i : Nat} {x : Nat} {ls' : List (Nat × Value)} (hd : Dc M.2.1 pc (.astore i) 2 pc') (hn : i < M.2.2.1) (hk : st1 i (.ref x) ls = ls') (k : Ew S M p l e R s m args below meth c D tc ad A Q kc ks pc' ls' st σ) : Ew S M p l e R s m args below meth c D tc ad A Q kc ks pc ls (.ref x :: st) σ := by
  obtain ⟨h1, rfl⟩ := hd
  subst hk
  intro H locs LS hP hS hl
  exact lv_astore hC.1 hC.2.1 h1 hl hn (st1_cv ad _ (.ref x) ls) (fun LS' hl' => k H locs LS' hP hS hl')
theorem Ew_astore_n (hC : CxW S M p s m args meth c D tc ad A) {i : Fin 4} {x : Nat} {ls' : List (Nat × Value)} (hd : Dc M.2.1 pc (.astore_n i) 1 pc') (hn : (i : Nat) < M.2.2.1) (hk : st1 (i : Nat) (.ref x) ls = ls') (k : Ew S M p l e R s m args below meth c D tc ad A Q kc ks pc' ls' st σ) : Ew S M p l e R s m args below meth c D tc ad A Q kc ks pc ls (.ref x :: st) σ := by
  obtain ⟨h1, rfl⟩ := hd
  subst hk
  intro H locs LS hP hS hl
  exact lv_astore_n hC.1 hC.2.1 h1 rfl hl hn (st1_cv ad _ (.ref x) ls) (fun LS' hl' => k H locs LS' hP hS hl')
theorem Ew_iinc (hC : CxW S M p s m args meth c D tc ad A) {i : Nat} {n : Int} {x v : Int32} {ls' : List (Nat × Value)} (j : Nat) (hd : Dc M.2.1 pc (.iinc i n) 3 pc') (hj : ls[j]? = some (i, .int x)) (hv : v = x + Int32.ofInt n) (hn : i < M.2.2.1) (hk : st1 i (.int v) ls = ls') (k : Ew S M p l e R s m args below meth c D tc ad A Q kc ks pc' ls' st σ) : Ew S M p l e R s m args below meth c D tc ad A Q kc ks pc ls st σ := by
  obtain ⟨h1, rfl⟩ := hd
  subst hk
  intro H locs LS hP hS hl
  exact lv_iinc hC.1 hC.2.1 h1 hl (k := j) (by rw [List.getElem?_map, hj]; rfl) hv.symm hn (st1_cv ad _ (.int v) ls) (fun LS' hl' => k H locs LS' hP hS hl')
theorem Ew_sub (hC : CxW S M p s m args meth c D tc ad A) {ls' : List (Nat × Value)} (kz : List Nat) (hk : lv_pick ls kz = ls') (k : Ew S M p l e R s m args below meth c D tc ad A Q kc ks pc ls' st σ) : Ew S M p l e R s m args below meth c D tc ad A Q kc ks pc ls st σ := by
  subst hk
  intro H locs LS hP hS hl
  refine k H locs LS hP hS (lv_sub hl kz ?_)
  simp only [lv_pick, List.map_filterMap]
  congr 1; funext i; rw [List.getElem?_map]
theorem Ew_if_eq (hC : CxW S M p s m args meth c D tc ad A) {x : Int32} {off : Int} {tgt : Nat} (hd : Dc M.2.1 pc (.ifCond .eq off) 3 pc') (ht : (pc : Int) + off = (tgt : Int)) (kt : (x = 0) → Ew S M p l e R s m args below meth c D tc ad A Q kc ks tgt ls st σ) (kf : (¬ x = 0) → Ew S M p l e R s m args below meth c D tc ad A Q kc ks pc' ls st σ) : Ew S M p l e R s m args below meth c D tc ad A Q kc ks pc ls (.int x :: st) σ := by
  obtain ⟨h1, rfl⟩ := hd
  intro H locs LS hP hS hl
  exact lv_if_eq hC.1 hC.2.1 h1 ht (fun h => kt h H locs LS hP hS hl) (fun h => kf h H locs LS hP hS hl)
theorem Ew_if_ne (hC : CxW S M p s m args meth c D tc ad A) {x : Int32} {off : Int} {tgt : Nat} (hd : Dc M.2.1 pc (.ifCond .ne off) 3 pc') (ht : (pc : Int) + off = (tgt : Int)) (kt : (¬ x = 0) → Ew S M p l e R s m args below meth c D tc ad A Q kc ks tgt ls st σ) (kf : (x = 0) → Ew S M p l e R s m args below meth c D tc ad A Q kc ks pc' ls st σ) : Ew S M p l e R s m args below meth c D tc ad A Q kc ks pc ls (.int x :: st) σ := by
  obtain ⟨h1, rfl⟩ := hd
  intro H locs LS hP hS hl
  exact lv_if_ne hC.1 hC.2.1 h1 ht (fun h => kt h H locs LS hP hS hl) (fun h => kf h H locs LS hP hS hl)
theorem Ew_if_lt (hC : CxW S M p s m args meth c D tc ad A) {x : Int32} {off : Int} {tgt : Nat} (hd : Dc M.2.1 pc (.ifCond .lt off) 3 pc') (ht : (pc : Int) + off = (tgt : Int)) (kt : (x < 0) → Ew S M p l e R s m args below meth c D tc ad A Q kc ks tgt ls st σ) (kf : (¬ x < 0) → Ew S M p l e R s m args below meth c D tc ad A Q kc ks pc' ls st σ) : Ew S M p l e R s m args below meth c D tc ad A Q kc ks pc ls (.int x :: st) σ := by
  obtain ⟨h1, rfl⟩ := hd
  intro H locs LS hP hS hl
  exact lv_if_lt hC.1 hC.2.1 h1 ht (fun h => kt h H locs LS hP hS hl) (fun h => kf h H locs LS hP hS hl)
theorem Ew_if_ge (hC : CxW S M p s m args meth c D tc ad A) {x : Int32} {off : Int} {tgt : Nat} (hd : Dc M.2.1 pc (.ifCond .ge off) 3 pc') (ht : (pc : Int) + off = (tgt : Int)) (kt : (0 ≤ x) → Ew S M p l e R s m args below meth c D tc ad A Q kc ks tgt ls st σ) (kf : (¬ 0 ≤ x) → Ew S M p l e R s m args below meth c D tc ad A Q kc ks pc' ls st σ) : Ew S M p l e R s m args below meth c D tc ad A Q kc ks pc ls (.int x :: st) σ := by
  obtain ⟨h1, rfl⟩ := hd
  intro H locs LS hP hS hl
  exact lv_if_ge hC.1 hC.2.1 h1 ht (fun h => kt h H locs LS hP hS hl) (fun h => kf h H locs LS hP hS hl)
theorem Ew_if_gt (hC : CxW S M p s m args meth c D tc ad A) {x : Int32} {off : Int} {tgt : Nat} (hd : Dc M.2.1 pc (.ifCond .gt off) 3 pc') (ht : (pc : Int) + off = (tgt : Int)) (kt : (0 < x) → Ew S M p l e R s m args below meth c D tc ad A Q kc ks tgt ls st σ) (kf : (¬ 0 < x) → Ew S M p l e R s m args below meth c D tc ad A Q kc ks pc' ls st σ) : Ew S M p l e R s m args below meth c D tc ad A Q kc ks pc ls (.int x :: st) σ := by
  obtain ⟨h1, rfl⟩ := hd
  intro H locs LS hP hS hl
  exact lv_if_gt hC.1 hC.2.1 h1 ht (fun h => kt h H locs LS hP hS hl) (fun h => kf h H locs LS hP hS hl)
theorem Ew_if_le (hC : CxW S M p s m args meth c D tc ad A) {x : Int32} {off : Int} {tgt : Nat} (hd : Dc M.2.1 pc (.ifCond .le off) 3 pc') (ht : (pc : Int) + off = (tgt : Int)) (kt : (x ≤ 0) → Ew S M p l e R s m args below meth c D tc ad A Q kc ks tgt ls st σ) (kf : (¬ x ≤ 0) → Ew S M p l e R s m args below meth c D tc ad A Q kc ks pc' ls st σ) : Ew S M p l e R s m args below meth c D tc ad A Q kc ks pc ls (.int x :: st) σ := by
  obtain ⟨h1, rfl⟩ := hd
  intro H locs LS hP hS hl
  exact lv_if_le hC.1 hC.2.1 h1 ht (fun h => kt h H locs LS hP hS hl) (fun h => kf h H locs LS hP hS hl)
theorem Ew_icmp_eq (hC : CxW S M p s m args meth c D tc ad A) {x y : Int32} {off : Int} {tgt : Nat} (hd : Dc M.2.1 pc (.if_icmp .eq off) 3 pc') (ht : (pc : Int) + off = (tgt : Int)) (kt : (x = y) → Ew S M p l e R s m args below meth c D tc ad A Q kc ks tgt ls st σ) (kf : (¬ x = y) → Ew S M p l e R s m args below meth c D tc ad A Q kc ks pc' ls st σ) : Ew S M p l e R s m args below meth c D tc ad A Q kc ks pc ls (.int y :: .int x :: st) σ := by
  obtain ⟨h1, rfl⟩ := hd
  intro H locs LS hP hS hl
  exact lv_icmp_eq hC.1 hC.2.1 h1 ht (fun h => kt h H locs LS hP hS hl) (fun h => kf h H locs LS hP hS hl)
theorem Ew_icmp_ne (hC : CxW S M p s m args meth c D tc ad A) {x y : Int32} {off : Int} {tgt : Nat} (hd : Dc M.2.1 pc (.if_icmp .ne off) 3 pc') (ht : (pc : Int) + off = (tgt : Int)) (kt : (¬ x = y) → Ew S M p l e R s m args below meth c D tc ad A Q kc ks tgt ls st σ) (kf : (x = y) → Ew S M p l e R s m args below meth c D tc ad A Q kc ks pc' ls st σ) : Ew S M p l e R s m args below meth c D tc ad A Q kc ks pc ls (.int y :: .int x :: st) σ := by
  obtain ⟨h1, rfl⟩ := hd
  intro H locs LS hP hS hl
  exact lv_icmp_ne hC.1 hC.2.1 h1 ht (fun h => kt h H locs LS hP hS hl) (fun h => kf h H locs LS hP hS hl)
theorem Ew_icmp_lt (hC : CxW S M p s m args meth c D tc ad A) {x y : Int32} {off : Int} {tgt : Nat} (hd : Dc M.2.1 pc (.if_icmp .lt off) 3 pc') (ht : (pc : Int) + off = (tgt : Int)) (kt : (x < y) → Ew S M p l e R s m args below meth c D tc ad A Q kc ks tgt ls st σ) (kf : (¬ x < y) → Ew S M p l e R s m args below meth c D tc ad A Q kc ks pc' ls st σ) : Ew S M p l e R s m args below meth c D tc ad A Q kc ks pc ls (.int y :: .int x :: st) σ := by
  obtain ⟨h1, rfl⟩ := hd
  intro H locs LS hP hS hl
  exact lv_icmp_lt hC.1 hC.2.1 h1 ht (fun h => kt h H locs LS hP hS hl) (fun h => kf h H locs LS hP hS hl)
theorem Ew_icmp_ge (hC : CxW S M p s m args meth c D tc ad A) {x y : Int32} {off : Int} {tgt : Nat} (hd : Dc M.2.1 pc (.if_icmp .ge off) 3 pc') (ht : (pc : Int) + off = (tgt : Int)) (kt : (y ≤ x) → Ew S M p l e R s m args below meth c D tc ad A Q kc ks tgt ls st σ) (kf : (¬ y ≤ x) → Ew S M p l e R s m args below meth c D tc ad A Q kc ks pc' ls st σ) : Ew S M p l e R s m args below meth c D tc ad A Q kc ks pc ls (.int y :: .int x :: st) σ := by
  obtain ⟨h1, rfl⟩ := hd
  intro H locs LS hP hS hl
  exact lv_icmp_ge hC.1 hC.2.1 h1 ht (fun h => kt h H locs LS hP hS hl) (fun h => kf h H locs LS hP hS hl)
theorem Ew_icmp_gt (hC : CxW S M p s m args meth c D tc ad A) {x y : Int32} {off : Int} {tgt : Nat} (hd : Dc M.2.1 pc (.if_icmp .gt off) 3 pc') (ht : (pc : Int) + off = (tgt : Int)) (kt : (y < x) → Ew S M p l e R s m args below meth c D tc ad A Q kc ks tgt ls st σ) (kf : (¬ y < x) → Ew S M p l e R s m args below meth c D tc ad A Q kc ks pc' ls st σ) : Ew S M p l e R s m args below meth c D tc ad A Q kc ks pc ls (.int y :: .int x :: st) σ := by
  obtain ⟨h1, rfl⟩ := hd
  intro H locs LS hP hS hl
  exact lv_icmp_gt hC.1 hC.2.1 h1 ht (fun h => kt h H locs LS hP hS hl) (fun h => kf h H locs LS hP hS hl)
theorem Ew_icmp_le (hC : CxW S M p s m args meth c D tc ad A) {x y : Int32} {off : Int} {tgt : Nat} (hd : Dc M.2.1 pc (.if_icmp .le off) 3 pc') (ht : (pc : Int) + off = (tgt : Int)) (kt : (x ≤ y) → Ew S M p l e R s m args below meth c D tc ad A Q kc ks tgt ls st σ) (kf : (¬ x ≤ y) → Ew S M p l e R s m args below meth c D tc ad A Q kc ks pc' ls st σ) : Ew S M p l e R s m args below meth c D tc ad A Q kc ks pc ls (.int y :: .int x :: st) σ := by
  obtain ⟨h1, rfl⟩ := hd
  intro H locs LS hP hS hl
  exact lv_icmp_le hC.1 hC.2.1 h1 ht (fun h => kt h H locs LS hP hS hl) (fun h => kf h H locs LS hP hS hl)
theorem Ew_goto (hC : CxW S M p s m args meth c D tc ad A) {off : Int} {tgt : Nat} (hd : Dc M.2.1 pc (.goto off) 3 pc') (ht : (pc : Int) + off = (tgt : Int)) (k : Ew S M p l e R s m args below meth c D tc ad A Q kc ks tgt ls st σ) : Ew S M p l e R s m args below meth c D tc ad A Q kc ks pc ls st σ := by
  obtain ⟨h1, rfl⟩ := hd
  intro H locs LS hP hS hl
  exact lv_goto hC.1 hC.2.1 h1 ht (k H locs LS hP hS hl)
theorem Ew_tblIn (hC : CxW S M p s m args meth c D tc ad A) {dflt lo hi : Int} {offs : Array Int} {n : Nat} {x : Int32} {off : Int} {tgt : Nat} (hd : Dc M.2.1 pc (.tableswitch dflt lo hi offs) n pc') (h1 : ¬ x.toInt < lo) (h2 : ¬ hi < x.toInt) (ho : offs[(x.toInt - lo).toNat]? = some off) (ht : (pc : Int) + off = (tgt : Int)) (k : Ew S M p l e R s m args below meth c D tc ad A Q kc ks tgt ls st σ) : Ew S M p l e R s m args below meth c D tc ad A Q kc ks pc ls (.int x :: st) σ := by
  obtain ⟨hd1, rfl⟩ := hd
  intro H locs LS hP hS hl
  exact lv_tableIn hC.1 hC.2.1 hd1 h1 h2 ho ht (k H locs LS hP hS hl)
theorem Ew_tblOut (hC : CxW S M p s m args meth c D tc ad A) {dflt lo hi : Int} {offs : Array Int} {n : Nat} {x : Int32} {tgt : Nat} (hd : Dc M.2.1 pc (.tableswitch dflt lo hi offs) n pc') (h1 : x.toInt < lo ∨ hi < x.toInt) (ht : (pc : Int) + dflt = (tgt : Int)) (k : Ew S M p l e R s m args below meth c D tc ad A Q kc ks tgt ls st σ) : Ew S M p l e R s m args below meth c D tc ad A Q kc ks pc ls (.int x :: st) σ := by
  obtain ⟨hd1, rfl⟩ := hd
  intro H locs LS hP hS hl
  exact lv_tableOut hC.1 hC.2.1 hd1 h1 ht (k H locs LS hP hS hl)
theorem Ew_nmI {x : Int32} (k : ∀ y : Int32, y = x → Ew S M p l e R s m args below meth c D tc ad A Q kc ks pc ls (.int y :: st) σ) : Ew S M p l e R s m args below meth c D tc ad A Q kc ks pc ls (.int x :: st) σ := k x rfl
theorem Ew_nmL {x : Int64} (k : ∀ y : Int64, y = x → Ew S M p l e R s m args below meth c D tc ad A Q kc ks pc ls (.long y :: st) σ) : Ew S M p l e R s m args below meth c D tc ad A Q kc ks pc ls (.long x :: st) σ := k x rfl
theorem Ew_nmS (k : ∀ y : Sg, y = σ → Ew S M p l e R s m args below meth c D tc ad A Q kc ks pc ls st y) : Ew S M p l e R s m args below meth c D tc ad A Q kc ks pc ls st σ := k σ rfl
theorem Ew_alen (hC : CxW S M p s m args meth c D tc ad A) {kd n : Nat} (k : Nat) {v : Int32} (hd : Dc M.2.1 pc .arraylength 1 pc') (hs : S[k]? = some (kd, [n])) (hk : kd = 100 ∨ kd = 101 ∨ kd = 102) (hv : Int32.ofNat n = v) (kk : Ew S M p l e R s m args below meth c D tc ad A Q kc ks pc' ls (.int v :: st) σ) : Ew S M p l e R s m args below meth c D tc ad A Q kc ks pc ls (.ref k :: st) σ := by
  obtain ⟨h1, rfl⟩ := hd
  intro H locs LS hP hS hl
  have ha := wsG_at S tc ad σ hs
  rcases hk with rfl | rfl | rfl
  · exact va_alen hC.1 hC.2.1 hC.2.2.2.2.2.2.2.1 hP k 0 ha rfl hv h1 (kk H locs LS hP hS hl)
  · exact va_alen hC.1 hC.2.1 hC.2.2.2.2.2.2.2.1 hP k 1 ha rfl hv h1 (kk H locs LS hP hS hl)
  · exact va_alen hC.1 hC.2.1 hC.2.2.2.2.2.2.2.1 hP k 2 ha rfl hv h1 (kk H locs LS hP hS hl)
theorem Ew_iaload (hC : CxW S M p s m args meth c D tc ad A) {n : Nat} (k : Nat) {i : Int32} (hd : Dc M.2.1 pc .iaload 1 pc') (hs : S[k]? = some (100, [n])) (hin : inB i n = true) (kk : Ew S M p l e R s m args below meth c D tc ad A Q kc ks pc' ls (.int (gI σ k i.toNatClampNeg) :: st) σ) : Ew S M p l e R s m args below meth c D tc ad A Q kc ks pc ls (.int i :: .ref k :: st) σ := by
  obtain ⟨h1, rfl⟩ := hd
  intro H locs LS hP hS hl
  exact va_iald hC.1 hC.2.1 hC.2.2.2.2.2.2.2.1 hP k 0 (wsG_at S tc ad σ hs) rfl (inB_vp hin) h1 (kk H locs LS hP hS hl)
theorem Ew_baload (hC : CxW S M p s m args meth c D tc ad A) {n : Nat} (k : Nat) {i : Int32} (hd : Dc M.2.1 pc .baload 1 pc') (hs : S[k]? = some (101, [n])) (hin : inB i n = true) (kk : Ew S M p l e R s m args below meth c D tc ad A Q kc ks pc' ls (.int (gI σ k i.toNatClampNeg) :: st) σ) : Ew S M p l e R s m args below meth c D tc ad A Q kc ks pc ls (.int i :: .ref k :: st) σ := by
  obtain ⟨h1, rfl⟩ := hd
  intro H locs LS hP hS hl
  exact va_zald hC.1 hC.2.1 hC.2.2.2.2.2.2.2.1 hP k 1 (wsG_at S tc ad σ hs) rfl (inB_vp hin) h1 (kk H locs LS hP hS hl)
theorem Ew_laload (hC : CxW S M p s m args meth c D tc ad A) {n : Nat} (k : Nat) {i : Int32} (hd : Dc M.2.1 pc .laload 1 pc') (hs : S[k]? = some (102, [n])) (hin : inB i n = true) (kk : Ew S M p l e R s m args below meth c D tc ad A Q kc ks pc' ls (.long (gL σ k i.toNatClampNeg) :: st) σ) : Ew S M p l e R s m args below meth c D tc ad A Q kc ks pc ls (.int i :: .ref k :: st) σ := by
  obtain ⟨h1, rfl⟩ := hd
  intro H locs LS hP hS hl
  exact va_lald hC.1 hC.2.1 hC.2.2.2.2.2.2.2.1 hP k 2 (wsG_at S tc ad σ hs) rfl (inB_vp hin) h1 (kk H locs LS hP hS hl)
theorem Ew_iastore (hC : CxW S M p s m args meth c D tc ad A) {n : Nat} (k : Nat) {i : Int32} {x : Int32} (hd : Dc M.2.1 pc .iastore 1 pc') (hs : S[k]? = some (100, [n])) (hin : inB i n = true) (kk : Ew S M p l e R s m args below meth c D tc ad A Q kc ks pc' ls st (pI σ k i.toNatClampNeg x)) : Ew S M p l e R s m args below meth c D tc ad A Q kc ks pc ls (.int x :: .int i :: .ref k :: st) σ := by
  obtain ⟨h1, rfl⟩ := hd
  intro H locs LS hP hS hl
  refine va_iast hC.1 hC.2.1 hC.2.2.2.2.2.2.2.1 hP (wsG_D tc hC.2.2.2.2.2.2.2.2.2.1 hC.2.2.2.2.2.2.2.2.2.2 σ) hS k 0 (wsG_at S tc ad σ hs) rfl (inB_vp hin) h1 (fun H1 locs1 hP1 _ hS1 => ?_)
  rw [wsG_set (τ := pI σ k i.toNatClampNeg x) hs (by show _ = (Sum.inl (tc 0, n, Sum.inl (gI (pI σ k i.toNatClampNeg x) k)) : va_E); rw [pI_row]; rfl) (pI_off σ k _ _)] at hP1
  exact kk H1 locs1 LS hP1 hS1 hl
theorem Ew_bastore (hC : CxW S M p s m args meth c D tc ad A) {n : Nat} (k : Nat) {i : Int32} {x : Int32} (hd : Dc M.2.1 pc .bastore 1 pc') (hs : S[k]? = some (101, [n])) (hin : inB i n = true) (kk : Ew S M p l e R s m args below meth c D tc ad A Q kc ks pc' ls st (pI σ k i.toNatClampNeg (x &&& 1))) : Ew S M p l e R s m args below meth c D tc ad A Q kc ks pc ls (.int x :: .int i :: .ref k :: st) σ := by
  obtain ⟨h1, rfl⟩ := hd
  intro H locs LS hP hS hl
  refine va_zast hC.1 hC.2.1 hC.2.2.2.2.2.2.2.1 hP (wsG_D tc hC.2.2.2.2.2.2.2.2.2.1 hC.2.2.2.2.2.2.2.2.2.2 σ) hS k 1 (wsG_at S tc ad σ hs) rfl (inB_vp hin) h1 (fun H1 locs1 hP1 _ hS1 => ?_)
  rw [wsG_set (τ := pI σ k i.toNatClampNeg (x &&& 1)) hs (by show _ = (Sum.inl (tc 1, n, Sum.inl (gI (pI σ k i.toNatClampNeg (x &&& 1)) k)) : va_E); rw [pI_row]; rfl) (pI_off σ k _ _)] at hP1
  exact kk H1 locs1 LS hP1 hS1 hl
theorem Ew_lastore (hC : CxW S M p s m args meth c D tc ad A) {n : Nat} (k : Nat) {i : Int32} {x : Int64} (hd : Dc M.2.1 pc .lastore 1 pc') (hs : S[k]? = some (102, [n])) (hin : inB i n = true) (kk : Ew S M p l e R s m args below meth c D tc ad A Q kc ks pc' ls st (pL σ k i.toNatClampNeg x)) : Ew S M p l e R s m args below meth c D tc ad A Q kc ks pc ls (.long x :: .int i :: .ref k :: st) σ := by
  obtain ⟨h1, rfl⟩ := hd
  intro H locs LS hP hS hl
  refine va_last hC.1 hC.2.1 hC.2.2.2.2.2.2.2.1 hP (wsG_D tc hC.2.2.2.2.2.2.2.2.2.1 hC.2.2.2.2.2.2.2.2.2.2 σ) hS k 2 (wsG_at S tc ad σ hs) rfl (inB_vp hin) h1 (fun H1 locs1 hP1 _ hS1 => ?_)
  rw [wsG_set (τ := pL σ k i.toNatClampNeg x) hs (by show _ = (Sum.inl (tc 2, n, Sum.inr (Sum.inl (gL (pL σ k i.toNatClampNeg x) k))) : va_E); rw [pL_row]; rfl) (pL_off σ k _ _)] at hP1
  exact kk H1 locs1 LS hP1 hS1 hl
theorem Ew_get (hC : CxW S M p s m args meth c D tc ad A) {k ci i c0 ix : Nat} {fl : List Nat} {v : Value} (hd : Dc M.2.1 pc (.getfield ix) 3 pc') (hf : FF M.1.cls ix ci i) (hs : S[k]? = some (ci, fl)) (hi : fl[i]? = some c0) (hv : aval σ k i c0 = v) (kk : Ew S M p l e R s m args below meth c D tc ad A Q kc ks pc' ls (v :: st) σ) : Ew S M p l e R s m args below meth c D tc ad A Q kc ks pc ls (.ref k :: st) σ := by
  obtain ⟨h1, rfl⟩ := hd
  obtain ⟨C1, T, N, ty0, g1, g2, g3, g4, g5, g6, g7⟩ := hf
  intro H locs LS hP hS hl
  have hci : ci < 100 := Nat.lt_of_lt_of_le (List.getElem?_eq_some_iff.mp g1).1 (by decide)
  have ha := wsG_at S tc ad σ hs
  rw [ent_obj hci] at ha
  have hfv : (fl.mapIdx (fun i c => cv ad (aval σ k i c)))[i]? = some (cv ad v) := by rw [List.getElem?_mapIdx, hi, ← hv]; rfl
  have hown := hC.2.2.2.2.2.1
  have hK := hC.2.2.2.2.2.2.2.1
  rcases g5 with g5 | ⟨host, g5⟩
  · exact va_get hC.1 hC.2.1 hC.2.2.2.2.1 g3 hown hK hP k ha g1 i g2 (hC.2.2.2.2.1 _ g5) (fun x hx => by rw [g4] at hx; exact hx) hfv h1 (kk H locs LS hP hS hl)
  · exact va_getN hC.1 hC.2.1 hC.2.2.2.2.1 g3 hown hK hP k ha g1 i g2 (va_Nw.use rfl (hC.2.2.2.2.2.2.2.2.1 _ g5)) (fun x hx => by rw [g4] at hx; exact hx) hfv h1 (kk H locs LS hP hS hl)
theorem pu_w (hC : CxW S M p s m args meth c D tc ad A) {k ci i c0 ix : Nat} {fl : List Nat} {v : Value} {ty : FieldType} (σ' : Sg) (hd : Dc M.2.1 pc (.putfield ix) 3 pc') (hf : FF M.1.cls ix ci i) (hw : FW ci i ty) (hs : S[k]? = some (ci, fl)) (hi : fl[i]? = some c0) (hn : ∀ ad, narrow ty (cv ad v) = cv ad v) (hfit : ∀ ad, fits ty (cv ad v) = true) (hv : aval σ' k i c0 = v) (hrow : (∀ j, j ≠ i → gI σ' k j = gI σ k j) ∧ (∀ j, j ≠ i → gL σ' k j = gL σ k j) ∧ (∀ j, j ≠ i → gR σ' k j = gR σ k j)) (hoff : ∀ j, j ≠ k → gI σ' j = gI σ j ∧ gL σ' j = gL σ j ∧ gR σ' j = gR σ j) (kk : Ew S M p l e R s m args below meth c D tc ad A Q kc ks pc' ls st σ') : Ew S M p l e R s m args below meth c D tc ad A Q kc ks pc ls (v :: .ref k :: st) σ := by
  obtain ⟨h1, rfl⟩ := hd
  obtain ⟨C1, T, N, ty0, g1, g2, g3, g4, g5, g6, g7⟩ := hf
  obtain ⟨q, w1, w2, w3⟩ := hw
  rw [g1] at w1; cases w1
  intro H locs LS hP hS hl
  have hci : ci < 100 := Nat.lt_of_lt_of_le (List.getElem?_eq_some_iff.mp g1).1 (by decide)
  have ha := wsG_at S tc ad σ hs
  rw [ent_obj hci] at ha
  have hlen : i < (fl.mapIdx (fun i c => cv ad (aval σ k i c))).length := by rw [List.length_mapIdx]; exact (List.getElem?_eq_some_iff.mp hi).1
  have hset : (wsG S tc ad σ).set k (ad k, .inr (ci, (fl.mapIdx (fun i c => cv ad (aval σ k i c))).set i (cv ad v))) = wsG S tc ad σ' := by
    refine wsG_set hs ?_ hoff
    rw [ent_obj hci, mapIdx_set hi (by rw [hv]) (put_row hrow.1 hrow.2.1 hrow.2.2 ad)]
  have hown := hC.2.2.2.2.2.1
  have hK := hC.2.2.2.2.2.2.2.1
  have hD := wsG_D tc hC.2.2.2.2.2.2.2.2.2.1 hC.2.2.2.2.2.2.2.2.2.2 σ
  rcases g5 with g5 | ⟨host, g5⟩
  · refine va_put hC.1 hC.2.1 hC.2.2.2.2.1 g3 ty0 g6 g7 hown hK hP hD hS k ha g1 i g2 (hC.2.2.2.2.1 _ g5) (fun x hx => by rw [g4] at hx; exact hx) w2 w3 (hn ad) (hfit ad) hlen h1 (fun H1 locs1 hP1 _ hS1 => ?_)
    rw [hset] at hP1
    exact kk H1 locs1 LS hP1 hS1 hl
  · refine va_putN hC.1 hC.2.1 hC.2.2.2.2.1 g3 ty0 g6 g7 hown hK hP hD hS k ha g1 i g2 (va_Nw.use rfl (hC.2.2.2.2.2.2.2.2.1 _ g5)) (fun x hx => by rw [g4] at hx; exact hx) w2 w3 (hn ad) (hfit ad) hlen h1 (fun H1 locs1 hP1 _ hS1 => ?_)
    rw [hset] at hP1
    exact kk H1 locs1 LS hP1 hS1 hl
theorem Ew_putI (hC : CxW S M p s m args meth c D tc ad A) {k ci i ix : Nat} {fl : List Nat} {x : Int32} (hd : Dc M.2.1 pc (.putfield ix) 3 pc') (hf : FF M.1.cls ix ci i) (hw : FW ci i .int) (hs : S[k]? = some (ci, fl)) (hi : fl[i]? = some 0) (kk : Ew S M p l e R s m args below meth c D tc ad A Q kc ks pc' ls st (pI σ k i x)) : Ew S M p l e R s m args below meth c D tc ad A Q kc ks pc ls (.int x :: .ref k :: st) σ :=
  pu_w hC (pI σ k i x) hd hf hw hs hi (fun _ => rfl) (fun _ => rfl) (by simp only [aval, gI_pI, and_self, if_true]) ⟨fun j hj => by simp [gI_pI, hj], fun _ _ => rfl, fun _ _ => rfl⟩ (pI_off σ k i x) kk
theorem Ew_putZ (hC : CxW S M p s m args meth c D tc ad A) {k ci i ix : Nat} {fl : List Nat} {x : Int32} (hx : x = 0 ∨ x = 1) (hd : Dc M.2.1 pc (.putfield ix) 3 pc') (hf : FF M.1.cls ix ci i) (hw : FW ci i .boolean) (hs : S[k]? = some (ci, fl)) (hi : fl[i]? = some 0) (kk : Ew S M p l e R s m args below meth c D tc ad A Q kc ks pc' ls st (pI σ k i x)) : Ew S M p l e R s m args below meth c D tc ad A Q kc ks pc ls (.int x :: .ref k :: st) σ :=
  pu_w hC (pI σ k i x) hd hf hw hs hi (fun _ => by rcases hx with rfl | rfl <;> rfl) (fun _ => by rcases hx with rfl | rfl <;> rfl) (by simp only [aval, gI_pI, and_self, if_true]) ⟨fun j hj => by simp [gI_pI, hj], fun _ _ => rfl, fun _ _ => rfl⟩ (pI_off σ k i x) kk
theorem Ew_putL (hC : CxW S M p s m args meth c D tc ad A) {k ci i ix : Nat} {fl : List Nat} {x : Int64} (hd : Dc M.2.1 pc (.putfield ix) 3 pc') (hf : FF M.1.cls ix ci i) (hw : FW ci i .long) (hs : S[k]? = some (ci, fl)) (hi : fl[i]? = some 1) (kk : Ew S M p l e R s m args below meth c D tc ad A Q kc ks pc' ls st (pL σ k i x)) : Ew S M p l e R s m args below meth c D tc ad A Q kc ks pc ls (.long x :: .ref k :: st) σ :=
  pu_w hC (pL σ k i x) hd hf hw hs hi (fun _ => rfl) (fun _ => rfl) (by simp only [aval, gL_pL, and_self, if_true]) ⟨fun _ _ => rfl, fun j hj => by simp [gL_pL, hj], fun _ _ => rfl⟩ (pL_off σ k i x) kk
theorem Ew_putR (hC : CxW S M p s m args meth c D tc ad A) {k ci i ix : Nat} {fl : List Nat} {x : Nat} (hd : Dc M.2.1 pc (.putfield ix) 3 pc') (hf : FF M.1.cls ix ci i) (hw : FW ci i (.array .int)) (hs : S[k]? = some (ci, fl)) (hi : fl[i]? = some 2) (kk : Ew S M p l e R s m args below meth c D tc ad A Q kc ks pc' ls st (pR σ k i x)) : Ew S M p l e R s m args below meth c D tc ad A Q kc ks pc ls (.ref x :: .ref k :: st) σ :=
  pu_w hC (pR σ k i x) hd hf hw hs hi (fun _ => rfl) (fun _ => rfl) (by simp only [aval, gR_pR, and_self, if_true]) ⟨fun _ _ => rfl, fun _ _ => rfl, fun j hj => by simp [gR_pR, hj]⟩ (pR_off σ k i x) kk
theorem Ew_aaload (hC : CxW S M p s m args meth c D tc ad A) {kd : Nat} {cs : List Nat} {c1 : Nat} (k : Nat) {i : Int32} (hd : Dc M.2.1 pc .aaload 1 pc') (hs : S[k]? = some (kd, cs)) (hk : kd = 103 ∨ kd = 104) (hin : inB i cs.length = true) (hc : cs[i.toNatClampNeg]? = some c1) (kk : Ew S M p l e R s m args below meth c D tc ad A Q kc ks pc' ls (.ref c1 :: st) σ) : Ew S M p l e R s m args below meth c D tc ad A Q kc ks pc ls (.int i :: .ref k :: st) σ := by
  obtain ⟨h1, rfl⟩ := hd
  intro H locs LS hP hS hl
  have ha := wsG_at S tc ad σ hs
  have kk := kk H locs LS hP hS hl
  rcases hk with rfl | rfl
  · refine va_aldq hC.1 hC.2.1 hC.2.2.2.2.2.2.2.1 hP k 3 ha rfl (inB_vp hin) h1 ?_
    simp only [hc, Option.map_some]
    exact kk
  · refine va_aldq hC.1 hC.2.1 hC.2.2.2.2.2.2.2.1 hP k 4 ha rfl (inB_vp hin) h1 ?_
    simp only [hc, Option.map_some]
    exact kk
/-- the script, called 99 -/
theorem Ew_sld (hC : CxW S M p s m args meth c D tc ad A) {L : Nat} {xs : Nat → Int32} {i : Int32} (hX : va_X (ad 99) L xs s s.heap) (hb : ad 99 < s.heap.size) (hbA : ¬ A (ad 99)) (hd : Dc M.2.1 pc .iaload 1 pc') (hin : inB i L = true) (k : Ew S M p l e R s m args below meth c D tc ad A Q kc ks pc' ls (.int (xs i.toNatClampNeg) :: st) σ) : Ew S M p l e R s m args below meth c D tc ad A Q kc ks pc ls (.int i :: .ref 99 :: st) σ := by
  obtain ⟨h1, rfl⟩ := hd
  intro H locs LS hP hS hl
  exact va_sld hC.1 hC.2.1 hX hb hbA hS (inB_vp hin) h1 (k H locs LS hP hS hl)
theorem Ew_slen (hC : CxW S M p s m args meth c D tc ad A) {L : Nat} {xs : Nat → Int32} (hX : va_X (ad 99) L xs s s.heap) (hb : ad 99 < s.heap.size) (hbA : ¬ A (ad 99)) (hd : Dc M.2.1 pc .arraylength 1 pc') (k : Ew S M p l e R s m args below meth c D tc ad A Q kc ks pc' ls (.int (Int32.ofNat L) :: st) σ) : Ew S M p l e R s m args below meth c D tc ad A Q kc ks pc ls (.ref 99 :: st) σ := by
  obtain ⟨h1, rfl⟩ := hd
  intro H locs LS hP hS hl
  exact va_slen hC.1 hC.2.1 hX hb hbA hS h1 (k H locs LS hP hS hl)
end EWR
theorem W_backW {r1 : Option Value} {σ1 : Sg} {pc : Nat} {p : Program} {l : Launch} {e : Env} {R : Room} {s : State} {m : MethodId} {args : Array Value} {below : List Frame} {meth : Method} {c : Code} {D : va_G} {tc : Nat → ClassId} {ad : Nat → Nat} {A : Nat → Prop} {kc ks : Nat} {H : Heap} {locs : List Loc} {LS : Array Slot} {ST REST : List Value} {a : Array Value} {Q : State → Prop}
    (hr : va_Run p l e R s m args below meth c H locs kc ks 0 0 (F0 m pc LS ST) REST (Qo D tc ad r1 σ1 a) (Ao ad)) (hS : va_S A s.heap H locs) (hAo : ∀ q, Ao ad q → A q)
    (kk : ∀ (H1 : Heap) (locs1 : List Loc), va_P D vwCl (wsO tc ad σ1) H1 → va_S A s.heap H1 locs1 → W p l e R s m args below meth c H1 locs1 kc ks Q (F0 m (pc + 3) LS ((r1.map (cv ad)).toList ++ REST))) : W p l e R s m args below meth c H locs kc ks Q (F0 m pc LS ST) := by
  intro T hT X
  obtain ⟨v, st₀, t, T', L, h0, X', hL, e1, e2, ⟨hv, hP, hz, hk⟩, stp⟩ := hr T hT X
  cases hv
  rw [h0] at hz hk
  have hS1 : va_S A s.heap T'.heap (locs ++ L) := ⟨Nat.le_trans hS.1 (by rw [e1]; exact hz), fun q h1 h2 => by rw [e1, hk q (Nat.lt_of_lt_of_le h1 hS.1) (fun z => h2 (hAo q z))]; exact hS.2.1 q h1 h2, fun q hq => by
      rcases List.mem_append.mp hq with h | h
      · exact hS.2.2 q h
      · exact hAo _ (hL q h)⟩
  obtain ⟨t2, a1, b1⟩ := kk T'.heap (locs ++ L) (by rw [e1]; exact hP) hS1 T' rfl X'
  exact ⟨t2, stp t2 a1, b1⟩
theorem SX_keptA {ad : Nat → Nat} {s : State} {H0 H : Heap} {A : Nat → Prop} {locs : List Loc} (h : SX ad s H0) (hA : ∀ q, q < H0.size → ¬ A q) (hS : va_S A H0 H locs) : SX ad s H := by
  have hq : ∀ a : Nat, a < H0.size → ¬ Ao ad a → H[a]? = H0[a]? := fun a ha _ => hS.2.1 a ha (hA a ha)
  exact ⟨h.1.kept hq, h.2.1, h.2.2.1.kept hq, h.2.2.2.imp (fun z => z.kept hq) (fun z => z.kept hq)⟩
theorem Ew_callV {M Z : MI} {dz n ix : Nat} {r1 : Option Value} {σ σ1 : Sg} {pc pc' : Nat} {ls : List (Nat × Value)} {st stk st' : List Value} {p : Program} {l : Launch} {e : Env} {R : Room} {s : State} {m : MethodId} {args : Array Value} {below : List Frame} {meth : Method} {c : Code} {D : va_G} {tc : Nat → ClassId} {ad : Nat → Nat} {A : Nat → Prop} {Q : State → Prop} {kc ks : Nat}
    (hC : CxW SK M p s m args meth c D tc ad A) (hX : SX ad s s.heap) (hXA : ∀ q, q < s.heap.size → ¬ A q) (hf : kc ≤ R.cells ∧ ks ≤ R.slots) {k ci : Nat} {fl : List Nat} (As : List Value) (hd : Dc M.2.1 pc (.invokevirtual ix) 3 pc') (cf : CFV M.1.cls ix Z n) (hz : Cal Z dz (.ref k :: As) σ r1 σ1) (hR : (rmd dz).frames + 1 ≤ R.frames ∧ 8 + (26 + 11) + (rmd dz).locals ≤ R.locals) (hs : SK[k]? = some (ci, fl)) (hc : (vwCl[ci]?).map (fun q => q.1) = some Z.1.cls) (hn : As.length = n) (hst : stk = As.reverse ++ .ref k :: st) (hroom : (st.map fun v => v.category).sum ≤ 8) (hst' : r1.toList ++ st = st') (kk : Ew SK M p l e R s m args below meth c D tc ad A Q kc ks pc' ls st' σ1) : Ew SK M p l e R s m args below meth c D tc ad A Q kc ks pc ls stk σ := by
  obtain ⟨h1, rfl⟩ := hd
  subst hst; subst hst'
  obtain ⟨⟨f1, f2, f3, f4⟩, f5, f6, f7⟩ := cf
  intro H locs LS hP hS hl
  obtain ⟨C1, C2, C3, C4, C5, C6, C7, C8, C9, C10, C11⟩ := hC
  have hwz := wz_tbl f1
  have hR2 : (rmd dz).frames + 1 ≤ R.frames ∧ 8 + (Z.2.2.1 + 11) + (rmd dz).locals ≤ R.locals := ⟨hR.1, by have := hR.2; omega⟩
  have ha := wsG_at SK tc ad σ hs
  cases hv : vwCl[ci]? with
  | none => rw [hv] at hc; cases hc
  | some q =>
  rw [hv] at hc
  have hci : ci < 100 := Nat.lt_of_lt_of_le (List.getElem?_eq_some_iff.mp hv).1 (by decide)
  rw [ent_obj hci] at ha
  have hrecv := va_recv C8 hP hv ha
  have hc2 : q.1 = _ := Option.some.inj hc
  rw [hc2] at hrecv
  have hstk : (As.reverse ++ .ref k :: st).map (cv ad) = (As.map (cv ad)).reverse ++ .ref (ad k) :: st.map (cv ad) := by rw [List.map_append, List.map_reverse]; rfl
  rw [hstk]
  have hXH := SX_keptA hX hXA hS
  refine W_backW (σ1 := σ1) (r1 := r1) (REST := st.map (cv ad)) (a := ((.ref k :: As).map (cv ad)).toArray) (D := D) (tc := tc) (ad := ad) ?_ hS (fun q hq => by obtain ⟨k', h1, h2⟩ := hq; rw [h2]; exact C11 k' h1) (fun H1 locs1 hP1 hS1 => ?_)
  · rcases f5 with f5 | ⟨host, f5⟩
    · exact va_runV (b := ad k) (As := As.map (cv ad)) (rest := st.map (cv ad)) ⟨C1, C2, C3, C6, C5⟩ (hz l D tc ad C10) (cwV n C5 (goodT (fun _ h => h) (fun w hw => by
          rcases List.mem_append.mp hw with hw | hw
          · simp only [List.mem_cons, List.not_mem_nil, or_false] at hw
            rcases hw with rfl | rfl | rfl | rfl
            · exact f5
            · exact f6
            · exact f7
            · exact f2
          · exact hwz w hw)) rfl rfl rfl ⟨rfl, f4⟩ hR2) ⟨Po_blind, hrecv, Po_now (av := .ref k :: As) hP C8 C9 hXH⟩ rfl (by rw [List.length_map]; exact hn) hl.1 rfl (lv_room (by rw [cat_cv]; exact hroom)) h1 hf
    · exact va_runVN (b := ad k) (As := As.map (cv ad)) (rest := st.map (cv ad)) ⟨C1, C2, C3, C6, C5⟩ (hz l D tc ad C10) ⟨va_cnB n C5 (goodT (fun _ h => h) hwz) rfl rfl rfl (C9 _ f5) (C5 _ f2) f4 hR2, C5 _ f6, C5 _ f7⟩ ⟨Po_blind, hrecv, Po_now (av := .ref k :: As) hP C8 C9 hXH⟩ rfl (by rw [List.length_map]; exact hn) hl.1 rfl (lv_room (by rw [cat_cv]; exact hroom)) h1 hf
  · have hk := kk H1 locs1 LS hP1 hS1 hl
    rw [List.map_append] at hk
    cases r1 <;> exact hk
