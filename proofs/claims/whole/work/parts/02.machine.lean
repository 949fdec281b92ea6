/-! THE LAYER BETWEEN: a state of the system is three tables of numbers (ints, longs, references) by address and place; 'Ev' is the walk of a method over such states, 'Cal' a method's contract. Each row below is one instruction. -/
abbrev Sg : Type := (Nat → Nat → Int32) × (Nat → Nat → Int64) × (Nat → Nat → Nat)
def gI (σ : Sg) (k i : Nat) : Int32 := σ.1 k i
def gL (σ : Sg) (k i : Nat) : Int64 := σ.2.1 k i
def gR (σ : Sg) (k i : Nat) : Nat := σ.2.2 k i
def pI (σ : Sg) (k i : Nat) (v : Int32) : Sg := (fun a j => if a = k ∧ j = i then v else σ.1 a j, σ.2)
def pL (σ : Sg) (k i : Nat) (v : Int64) : Sg := (σ.1, fun a j => if a = k ∧ j = i then v else σ.2.1 a j, σ.2.2)
def pR (σ : Sg) (k i : Nat) (v : Nat) : Sg := (σ.1, σ.2.1, fun a j => if a = k ∧ j = i then v else σ.2.2 a j)
/-- from dp on, n numbers of row k are those of row k0 from sp on -/
def cpI (σ : Sg) (k0 sp k dp n : Nat) : Sg := (fun a j => if a = k ∧ dp ≤ j ∧ j < dp + n then σ.1 k0 (sp + (j - dp)) else σ.1 a j, σ.2)
theorem gI_pI (σ : Sg) (k i : Nat) (v : Int32) (a j : Nat) : gI (pI σ k i v) a j = if a = k ∧ j = i then v else gI σ a j := rfl
theorem gL_pL (σ : Sg) (k i : Nat) (v : Int64) (a j : Nat) : gL (pL σ k i v) a j = if a = k ∧ j = i then v else gL σ a j := rfl
theorem gR_pR (σ : Sg) (k i : Nat) (v : Nat) (a j : Nat) : gR (pR σ k i v) a j = if a = k ∧ j = i then v else gR σ a j := rfl
theorem gI_pL (σ : Sg) (k i : Nat) (v : Int64) (a j : Nat) : gI (pL σ k i v) a j = gI σ a j := rfl
theorem gI_pR (σ : Sg) (k i : Nat) (v : Nat) (a j : Nat) : gI (pR σ k i v) a j = gI σ a j := rfl
theorem gL_pI (σ : Sg) (k i : Nat) (v : Int32) (a j : Nat) : gL (pI σ k i v) a j = gL σ a j := rfl
theorem gL_pR (σ : Sg) (k i : Nat) (v : Nat) (a j : Nat) : gL (pR σ k i v) a j = gL σ a j := rfl
theorem gR_pI (σ : Sg) (k i : Nat) (v : Int32) (a j : Nat) : gR (pI σ k i v) a j = gR σ a j := rfl
theorem gR_pL (σ : Sg) (k i : Nat) (v : Int64) (a j : Nat) : gR (pL σ k i v) a j = gR σ a j := rfl
theorem gI_cpI (σ : Sg) (k0 sp k dp n a j : Nat) : gI (cpI σ k0 sp k dp n) a j = if a = k ∧ dp ≤ j ∧ j < dp + n then gI σ k0 (sp + (j - dp)) else gI σ a j := rfl
theorem gL_cpI (σ : Sg) (k0 sp k dp n a j : Nat) : gL (cpI σ k0 sp k dp n) a j = gL σ a j := rfl
theorem gR_cpI (σ : Sg) (k0 sp k dp n a j : Nat) : gR (cpI σ k0 sp k dp n) a j = gR σ a j := rfl
/-- the index is in the row -/
def inB (i : Int32) (n : Nat) : Bool := decide (0 ≤ i) && decide (i.toNatClampNeg < n)
theorem inB_vp {i : Int32} {n : Nat} (h : inB i n = true) : vp_in i n := by
  simp only [inB, Bool.and_eq_true, decide_eq_true_eq] at h
  intro q
  rcases q with q | q
  · exact absurd h.1 (by rw [Int32.le_iff_toInt_le]; rw [Int32.lt_iff_toInt_lt] at q; omega)
  · omega
/-! small rows for what a function over Option says -/
theorem oGuard {α : Type} {c : Prop} {dc : Decidable c} {x : Option α} {y : α} (h : (@ite _ c dc x none) = some y) : c ∧ x = some y := by
  by_cases hc : c
  · rw [if_pos hc] at h; exact ⟨hc, h⟩
  · rw [if_neg hc] at h; cases h
theorem oPos {α : Type} {c : Prop} {dc : Decidable c} {x z y : α} (h : (@ite _ c dc x z) = y) (hc : c) : x = y := by rw [if_pos hc] at h; exact h
theorem oNeg {α : Type} {c : Prop} {dc : Decidable c} {x z y : α} (h : (@ite _ c dc x z) = y) (hc : ¬ c) : z = y := by rw [if_neg hc] at h; exact h
theorem oBind {α β : Type} {x : Option α} {f : α → Option β} {y : β} (h : x.bind f = some y) : ∃ q, x = some q ∧ f q = some y := Option.bind_eq_some_iff.mp h
theorem oLet {α β : Type} {v x : α} {f : α → β} {y : β} (h : (let z := v; f z) = y) (e : x = v) : f x = y := by subst e; exact h
/-! the words -/
abbrev MI : Type := MethodName × ByteArray × Nat × Option FieldType
def tbl : List Cond := lw_tbl.filter goodWord
def isNst (w : Cond) : Bool := match w with
  | .fieldLinkNest .. => true
  | .methodLinkNest .. => true
  | _ => false
def nst : List Cond := lw_tbl.filter isNst
theorem tbl_in {w : Cond} (i : Nat) (h : lw_tbl[i]? = some w) (hg : goodWord w = true) : w ∈ tbl := List.mem_filter.mpr ⟨List.mem_of_getElem? h, hg⟩
theorem nst_in {w : Cond} (i : Nat) (h : lw_tbl[i]? = some w) (hg : isNst w = true) : w ∈ nst := List.mem_filter.mpr ⟨List.mem_of_getElem? h, hg⟩
theorem tbl_good {w : Cond} (h : w ∈ tbl) : goodWord w = true := (List.mem_filter.mp h).2
abbrev codeW (M : MI) : Cond := .code M.1 M.2.1 M.2.2.1 M.2.2.2
def wz (M : MI) : List Cond := codeW M :: tbl
theorem goodT {big ws : List Cond} (hb : ∀ w ∈ tbl, w ∈ big) (h : ∀ w ∈ ws, w ∈ tbl) : GoodIn big ws := fun w hw => ⟨hb w (h w hw), good_of_word (tbl_good (h w hw))⟩
theorem wz_tbl {M : MI} (h : codeW M ∈ tbl) : ∀ w ∈ wz M, w ∈ tbl := fun w hw => by
  rcases List.mem_cons.mp hw with rfl | hw
  · exact h
  · exact hw
theorem nst_same {u U : State} (hv : u.vm = U.vm) (h : ∀ w ∈ nst, va_Nw w u) : ∀ w ∈ nst, va_Nw w U := fun w hw => by
  have h1 := (List.mem_filter.mp hw).2
  have h2 := h w hw
  cases w <;> first | exact va_Nw.same rfl hv h2 | exact absurd h1 Bool.false_ne_true
theorem nst_warm {s U : State} (hW : s.WarmedH U.vm) (h : ∀ w ∈ nst, va_Nw w s) : ∀ w ∈ nst, va_Nw w U := fun w hw => by
  have h1 := (List.mem_filter.mp hw).2
  have h2 := h w hw
  cases w <;> first | exact va_Nw.warmF hW h2 | exact va_Nw.warmM hW h2 | exact absurd h1 Bool.false_ne_true
/-! the system's cells -/
def cv (ad : Nat → Nat) : Value → Value
  | .ref k => .ref (ad k)
  | v => v
theorem cv_cat (ad : Nat → Nat) (v : Value) : (cv ad v).category = v.category := by cases v <;> rfl
/-- a field as a value of the layer -/
def aval (σ : Sg) (k i c : Nat) : Value := match c with
  | 0 => .int (gI σ k i)
  | 1 => .long (gL σ k i)
  | 2 => .ref (gR σ k i)
  | c + 3 => .ref c
def ent (tc : Nat → ClassId) (ad : Nat → Nat) (σ : Sg) (k : Nat) (s : Nat × List Nat) : va_E :=
  match s.1 with
  | 100 => .inl (tc 0, s.2.headD 0, .inl (gI σ k))
  | 101 => .inl (tc 1, s.2.headD 0, .inl (gI σ k))
  | 102 => .inl (tc 2, s.2.headD 0, .inr (.inl (gL σ k)))
  | 103 => .inl (tc 3, s.2.length, .inr (.inr (.inr (.inr (fun j => (s.2[j]?).map ad)))))
  | 104 => .inl (tc 4, s.2.length, .inr (.inr (.inr (.inr (fun j => (s.2[j]?).map ad)))))
  | _ => .inr (s.1, s.2.mapIdx (fun i c => cv ad (aval σ k i c)))
def wsO (tc : Nat → ClassId) (ad : Nat → Nat) (σ : Sg) : va_W := SK.mapIdx (fun k s => (ad k, ent tc ad σ k s))
def tysO (tc : Nat → ClassId) : List (ClassId × FieldType) := [(tc 0, .int), (tc 1, .boolean), (tc 2, .long), (tc 3, .object RX6), (tc 4, .object RX5)]
def Ao (ad : Nat → Nat) : Nat → Prop := fun q => ∃ k, k < SK.length ∧ q = ad k
def Inj (ad : Nat → Nat) : Prop := ∀ i j, i < SK.length → j < SK.length → ad i = ad j → i = j
theorem wsO_at (tc : Nat → ClassId) (ad : Nat → Nat) (σ : Sg) {k : Nat} {s : Nat × List Nat} (h : SK[k]? = some s) : (wsO tc ad σ)[k]? = some (ad k, ent tc ad σ k s) := by
  rw [wsO, List.getElem?_mapIdx, h]; rfl
theorem wsO_inv {tc : Nat → ClassId} {ad : Nat → Nat} {σ : Sg} {k : Nat} {q : Nat × va_E} (h : (wsO tc ad σ)[k]? = some q) : k < SK.length ∧ q.1 = ad k := by
  rw [wsO, List.getElem?_mapIdx] at h
  cases hs : SK[k]? with
  | none => rw [hs] at h; cases h
  | some s =>
    rw [hs] at h
    cases h
    exact ⟨(List.getElem?_eq_some_iff.mp hs).1, rfl⟩
theorem wsO_D (tc : Nat → ClassId) {ad : Nat → Nat} (hi : Inj ad) (σ : Sg) : va_D (Ao ad) (wsO tc ad σ) := by
  refine ⟨fun i j p q h1 h2 e => ?_, fun k q h => ?_⟩
  · obtain ⟨a1, a2⟩ := wsO_inv h1
    obtain ⟨b1, b2⟩ := wsO_inv h2
    exact hi i j a1 b1 (by rw [← a2, ← b2]; exact e)
  · obtain ⟨a1, a2⟩ := wsO_inv h
    exact ⟨k, a1, a2⟩
theorem ent_same {tc : Nat → ClassId} {ad : Nat → Nat} {σ τ : Sg} {k : Nat} (h1 : gI τ k = gI σ k) (h2 : gL τ k = gL σ k) (h3 : gR τ k = gR σ k) (s : Nat × List Nat) : ent tc ad τ k s = ent tc ad σ k s := by
  have hv : ∀ i c, aval τ k i c = aval σ k i c := by
    intro i c
    unfold aval
    split
    · rw [h1]
    · rw [h2]
    · rw [h3]
    · rfl
  unfold ent
  simp only [h1, h2, hv]
theorem wsO_set {tc : Nat → ClassId} {ad : Nat → Nat} {σ τ : Sg} {k : Nat} {s : Nat × List Nat} {e : va_E} (hs : SK[k]? = some s) (he : e = ent tc ad τ k s) (h : ∀ j, j ≠ k → gI τ j = gI σ j ∧ gL τ j = gL σ j ∧ gR τ j = gR σ j) : (wsO tc ad σ).set k (ad k, e) = wsO tc ad τ := by
  subst he
  apply List.ext_getElem?
  intro j
  by_cases hj : j = k
  · subst hj
    rw [List.getElem?_set_self (List.getElem?_eq_some_iff.mp (wsO_at tc ad σ hs)).1, wsO_at tc ad τ hs]
  · rw [List.getElem?_set_ne (Ne.symm hj), wsO, wsO, List.getElem?_mapIdx, List.getElem?_mapIdx]
    cases SK[j]? with
    | none => rfl
    | some s' =>
      obtain ⟨h1, h2, h3⟩ := h j hj
      simp only [Option.map_some, ent_same h1 h2 h3]
/-! what the walks take of the JDK's side: three String constants with their bytes, and two statics; none of it is ever written -/
def lenW : List Nat := [6, 6, 6]
def bytW : List (List Int32) := [[112, 108, 97, 99, 101, 115], [112, 101, 114, 115, 111, 110], [101, 114, 114, 97, 110, 100]]
def SX (ad : Nat → Nat) (U : State) (H : Heap) : Prop :=
  vk_S 3 lenW bytW (fun i => ad (90 + i)) (fun i => ad (93 + i)) (Ao ad) U H ∧ (vk_R RX10 51 "places" (ad 90) U ∧ vk_R RX10 64 "person" (ad 91) U ∧ vk_R RX10 72 "errand" (ad 92) U) ∧ va_Z "java/lang/String" "COMPACT_STRINGS" "Z" (.int 1) (Ao ad) U H ∧ (va_Z "jdk/internal/util/Preconditions" "SIOOBE_FORMATTER" "Ljava/util/function/BiFunction;" .null (Ao ad) U H ∨ va_Z "jdk/internal/util/Preconditions" "SIOOBE_FORMATTER" "Ljava/util/function/BiFunction;" (.ref (ad 96)) (Ao ad) U H)
/-! the judgements -/
def rmd (d : Nat) : Room := { frames := d, cells := 0, slots := 0, locals := 45 * d }
def Po (D : va_G) (tc : Nat → ClassId) (ad : Nat → Nat) (av : List Value) (σ : Sg) : Array Value → State → Prop := fun v U => v = (av.map (cv ad)).toArray ∧ va_P D vwCl (wsO tc ad σ) U.heap ∧ va_K D vwCl (tysO tc) U ∧ (∀ w ∈ nst, va_Nw w U) ∧ SX ad U U.heap
def Qo (D : va_G) (tc : Nat → ClassId) (ad : Nat → Nat) (r : Option Value) (τ : Sg) : Array Value → State → Outcome → State → Prop := fun _ st o t => o = .returned (r.map (cv ad)) ∧ va_P D vwCl (wsO tc ad τ) t.heap ∧ va_F (Ao ad) st t
/-- M, called with av at σ, answers r and leaves τ; d frames below it are enough -/
def Cal (M : MI) (d : Nat) (av : List Value) (σ : Sg) (r : Option Value) (τ : Sg) : Prop := ∀ (l : Launch) (D : va_G) (tc : Nat → ClassId) (ad : Nat → Nat), Inj ad → Met l M.1 (wz M) (rmd d) (Po D tc ad av σ) (Qo D tc ad r τ) 0 0 (Ao ad)
def Cx (M : MI) (d : Nat) (p : Program) (R : Room) (s : State) (m : MethodId) (args : Array Value) (meth : Method) (c : Code) (D : va_G) (tc : Nat → ClassId) (ad : Nat → Nat) : Prop :=
  p.tables.exec = Jvm.exec ∧ c.code = M.2.1 ∧ c.maxLocals = M.2.2.1 ∧ meth.sig.returnType = M.2.2.2 ∧ (∀ w ∈ tbl, w.before args s = true) ∧ s.vm.findClass M.1.cls = some m.cls ∧ meth.locks = false ∧ va_K D vwCl (tysO tc) s ∧ (∀ w ∈ nst, va_Nw w s) ∧ Inj ad ∧ R = rmd d ∧ SX ad s s.heap
/-- from here M comes to its end with r and τ -/
def Ev (M : MI) (d : Nat) (r : Option Value) (τ : Sg) (pc : Nat) (ls : List (Nat × Value)) (st : List Value) (σ : Sg) : Prop :=
  ∀ (p : Program) (l : Launch) (e : Env) (R : Room) (s : State) (m : MethodId) (args : Array Value) (below : List Frame) (meth : Method) (c : Code) (D : va_G) (tc : Nat → ClassId) (ad : Nat → Nat), Cx M d p R s m args meth c D tc ad → ∀ (H : Heap) (locs : List Loc) (LS : Array Slot), va_P D vwCl (wsO tc ad σ) H → va_S (Ao ad) s.heap H locs → lv_has LS M.2.2.1 (ls.map fun q => (q.1, cv ad q.2)) → W p l e R s m args below meth c H locs 0 0 (MQ below (Qo D tc ad r τ) args s 0 0 (Ao ad)) (F0 m pc LS (st.map (cv ad)))
def Dc (b : ByteArray) (pc : Nat) (i : Instr) (n pc' : Nat) : Prop := decode b pc = .ok (i, n) ∧ pc + n = pc'
def DT (b : ByteArray) (t : List (Nat × Instr × Nat × Nat)) : Prop := ∀ q ∈ t, decode b q.1 = .ok (q.2.1, q.2.2.1) ∧ q.1 + q.2.2.1 = q.2.2.2
theorem DT.at {b : ByteArray} {t : List (Nat × Instr × Nat × Nat)} (h : DT b t) (k : Nat) {pc : Nat} {i : Instr} {n pc' : Nat} (hk : t[k]? = some (pc, i, n, pc')) : Dc b pc i n pc' := h (pc, i, n, pc') (List.mem_of_getElem? hk)
theorem lv_args_cv (ad : Nat → Nat) (av : List Value) : ∀ i, lv_args i (av.map (cv ad)) = (lv_args i av).map fun q => (q.1, cv ad q.2) := by
  induction av with
  | nil => intro i; rfl
  | cons v vs ih => intro i; simp only [List.map_cons, lv_args, cv_cat, ih]
theorem lg_sl_cv (ad : Nat → Nat) (av : List Value) : (lg_sl (av.map (cv ad))).length = (lg_sl av).length := by
  induction av with
  | nil => rfl
  | cons v vs ih =>
    have e : ∀ (x : Value) (xs : List Value), lg_sl (x :: xs) = lg_sl [x] ++ lg_sl xs := fun x xs => by simp [lg_sl]
    rw [List.map_cons, e, e v, List.length_append, List.length_append, ih]
    congr 1
    simp [lg_sl, cv_cat]
    split <;> rfl
/-- a contract out of a walk from the entry -/
theorem Cal.of {M : MI} {d : Nat} {av : List Value} {σ : Sg} {r : Option Value} {τ : Sg} (hy : plainFor M.1 = true) (hn : (lg_sl av).length ≤ M.2.2.1) (k : Ev M d r τ 0 (lv_args 0 av) [] σ) : Cal M d av σ r τ := by
  intro l D tc ad hi
  refine va_MetF (cc := M.2.1) (maxL := M.2.2.1) (ret := M.2.2.2) hy rfl ?_
  intro p e s m args below meth c s₁ B hml hv
  obtain ⟨rfl, hP, hK, hN, hX⟩ := hv
  have hts := atoms_spec (ws := wz M) B.pre
  have hl := lv_entry (av.map (cv ad)) (n := M.2.2.1) (by rw [lg_sl_cv]; exact hn)
  rw [lg_entry_eq]
  rw [lv_args_cv] at hl
  exact k p l e _ s m _ below meth c D tc ad ⟨B.exec, B.bytes, hml, B.returns, fun w hw => hts w (List.mem_cons_of_mem _ hw), findClass_of_methodNamed B.named, B.notSynchronized, hK, hN, hi, rfl, hX⟩ s.heap [] _ hP va_S.rf hl
