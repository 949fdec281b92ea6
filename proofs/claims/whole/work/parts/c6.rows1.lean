/-! rows: the counts -/
def sm (f : Nat → Nat) : Nat → Nat
  | 0 => 0
  | n + 1 => sm f n + f n
theorem sm_congr {f g : Nat → Nat} : ∀ n, (∀ i, i < n → f i = g i) → sm f n = sm g n
  | 0, _ => rfl
  | n + 1, h => by rw [sm, sm, sm_congr n (fun i hi => h i (by omega)), h n (by omega)]
theorem sm_const {c : Nat} : ∀ n, sm (fun _ => c) n = n * c
  | 0 => by rw [Nat.zero_mul]; rfl
  | n + 1 => by rw [sm, sm_const n, Nat.succ_mul]
/-- so many rows of k more weeks go on from the pairs met -/
def rb (p : Nat → Nat) (N : Nat) : Nat → Nat → Nat
  | 0, _ => 1
  | k + 1, met => sm (fun i => if p i &&& met = 0 then rb p N k (met ||| p i) else 0) N
def pf (L : List Nat) (i : Nat) : Nat := L.getD i 0
theorem sm_list {f : Nat → Nat} : ∀ (L : List Nat), sm (fun i => f (pf L i)) L.length = L.foldr (fun x s => f x + s) 0 := by
  intro L
  have hrev : ∀ (n : Nat) (g : Nat → Nat), sm g (n + 1) = g 0 + sm (fun i => g (i + 1)) n := by
    intro n
    induction n with
    | zero => intro g; show 0 + g 0 = g 0 + 0; omega
    | succ n ih => intro g; rw [sm, ih g, sm]; omega
  induction L with
  | nil => rfl
  | cons a L ih =>
    rw [List.length_cons, hrev, List.foldr_cons, ← ih]; rfl
theorem fold_filter {f : Nat → Nat} {q : Nat → Bool} : ∀ (L : List Nat), L.foldr (fun x s => (if q x = true then f x else 0) + s) 0 = (L.filter q).foldr (fun x s => f x + s) 0 := by
  intro L
  induction L with
  | nil => rfl
  | cons a L ih =>
    rw [List.foldr_cons, ih]
    by_cases c : q a = true
    · rw [if_pos c, List.filter_cons_of_pos c, List.foldr_cons]
    · rw [if_neg c, List.filter_cons_of_neg c, Nat.zero_add]
theorem or_and0 {y m x : Nat} : y &&& (m ||| x) = 0 ↔ y &&& m = 0 ∧ y &&& x = 0 := by
  rw [Nat.and_or_distrib_left]
  constructor
  · intro h
    exact ⟨by
      apply Nat.eq_of_testBit_eq; intro i
      have : (y &&& m ||| y &&& x).testBit i = (0 : Nat).testBit i := congrArg (fun z => z.testBit i) h
      rw [Nat.testBit_or, Nat.zero_testBit] at this
      rw [Nat.zero_testBit]; cases g : (y &&& m).testBit i; rfl; rw [g] at this; exact this, by
      apply Nat.eq_of_testBit_eq; intro i
      have : (y &&& m ||| y &&& x).testBit i = (0 : Nat).testBit i := congrArg (fun z => z.testBit i) h
      rw [Nat.testBit_or, Nat.zero_testBit] at this
      rw [Nat.zero_testBit]; cases g : (y &&& x).testBit i; rfl; rw [g, Bool.or_true] at this; exact this⟩
  · intro h; rw [h.1, h.2]; rfl
def q0 (m y : Nat) : Bool := Nat.beq (Nat.land y m) 0
theorem q0_iff {m y : Nat} : q0 m y = true ↔ y &&& m = 0 := ⟨fun h => Nat.eq_of_beq_eq_true h, fun h => by
  show Nat.beq (y &&& m) 0 = true
  rw [h]; rfl⟩
theorem filter_or {m x : Nat} : ∀ (L : List Nat), L.filter (q0 (m ||| x)) = (L.filter (q0 m)).filter (q0 x) := by
  intro L
  induction L with
  | nil => rfl
  | cons a L ih =>
    by_cases c : q0 m a = true
    · rw [List.filter_cons_of_pos c]
      by_cases d : q0 x a = true
      · rw [List.filter_cons_of_pos d, List.filter_cons_of_pos (q0_iff.mpr (or_and0.mpr ⟨q0_iff.mp c, q0_iff.mp d⟩)), ih]
      · rw [List.filter_cons_of_neg d, List.filter_cons_of_neg (fun h => d (q0_iff.mpr (or_and0.mp (q0_iff.mp h)).2)), ih]
    · rw [List.filter_cons_of_neg c, List.filter_cons_of_neg (fun h => c (q0_iff.mpr (or_and0.mp (q0_iff.mp h)).1)), ih]
theorem rb_rf {L : List Nat} : ∀ (k met : Nat), rb (pf L) L.length k met = rf k (L.filter (q0 met)) := by
  intro k
  induction k with
  | zero => intro met; rfl
  | succ k ih =>
    intro met
    rw [rb]
    have e : ∀ i, (if pf L i &&& met = 0 then rb (pf L) L.length k (met ||| pf L i) else 0) = (fun x => if q0 met x = true then rf k ((L.filter (q0 met)).filter (q0 x)) else 0) (pf L i) := fun i => by
      show _ = if q0 met (pf L i) = true then _ else 0
      by_cases c : pf L i &&& met = 0
      · rw [if_pos c, if_pos (q0_iff.mpr c), ih, filter_or]
      · rw [if_neg c, if_neg (fun h => c (q0_iff.mp h))]
    exact (sm_congr _ (fun i _ => e i)).trans ((sm_list (f := fun x => if q0 met x = true then rf k ((L.filter (q0 met)).filter (q0 x)) else 0) L).trans (fold_filter L))
theorem rows_same {P : Nat} (hP : P = 3 ∨ P = 6 ∨ P = 9) {k : Nat} (hk : 1 ≤ k) (hk3 : k ≤ 3) : sm (fun a => rb (pf (PL P)) (PL P).length k (pf (PL P) a)) (PL P).length = (PL P).length * rb (pf (PL P)) (PL P).length k (pf (PL P) 0) := by
  rw [← sm_const]
  refine sm_congr _ (fun a ha => ?_)
  have hm : pf (PL P) a ∈ PL P := by
    unfold pf
    rw [List.getD_eq_getElem?_getD, List.getElem?_eq_getElem ha]
    exact List.getElem_mem ha
  have hm0 : pf (PL P) 0 ∈ PL P := by
    unfold pf
    rw [List.getD_eq_getElem?_getD, List.getElem?_eq_getElem (by omega)]
    exact List.getElem_mem (by omega)
  rw [rb_rf, rb_rf]
  rcases hP with rfl | rfl | rfl
  · exact rf_ok3 _ hm k (by omega)
  · exact rf_ok6 _ hm k (by omega)
  · have h1 := rf_9 _ hm
    have h2 := rf_9 _ hm0
    have k3 : k = 1 ∨ k = 2 ∨ k = 3 := by omega
    rcases k3 with rfl | rfl | rfl
    · exact h1.1.trans h2.1.symm
    · exact h1.2.1.trans h2.2.1.symm
    · exact h1.2.2.trans h2.2.2.symm
theorem nL_add (a b : Nat) : nL a + nL b = nL (a + b) := (Int64.ofNat_add a b).symm
theorem nL_mul (a b : Nat) : nL a * nL b = nL (a * b) := (Int64.ofNat_mul a b).symm
theorem nL_and (x y : Nat) : nL x &&& nL y = nL (x &&& y) := by
  apply Int64.toBitVec_inj.mp
  rw [Int64.toBitVec_and]
  show BitVec.ofNat 64 x &&& BitVec.ofNat 64 y = BitVec.ofNat 64 (x &&& y)
  apply BitVec.eq_of_getLsbD_eq
  intro i hi
  simp [BitVec.getLsbD_and, BitVec.getLsbD_ofNat, Nat.testBit_and, hi]
theorem nL_or (x y : Nat) : nL x ||| nL y = nL (x ||| y) := by
  apply Int64.toBitVec_inj.mp
  rw [Int64.toBitVec_or]
  show BitVec.ofNat 64 x ||| BitVec.ofNat 64 y = BitVec.ofNat 64 (x ||| y)
  apply BitVec.eq_of_getLsbD_eq
  intro i hi
  simp [BitVec.getLsbD_or, BitVec.getLsbD_ofNat, Nat.testBit_or, hi]
theorem cmp0 {x : Nat} (h : x < 2 ^ 40) : ((lg_cmp (nL x) 0) = 0) ↔ x = 0 := by
  constructor
  · intro q
    by_cases c : x = 0
    · exact c
    · exfalso
      have : (0 : Int64) < nL x := by
        rw [Int64.lt_iff_toInt_lt, show (0 : Int64).toInt = 0 from rfl, show (nL x).toInt = (x : Int) from Int64.toInt_ofNat_of_lt (by omega)]
        omega
      unfold lg_cmp at q
      rw [if_pos this] at q; exact absurd q (by decide)
  · intro q; subst q; exact lg_cmp_self 0
