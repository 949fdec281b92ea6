/-! small rows that the walks of part 07 and on use -/
def lt {α β : Type} (v : α) (f : α → β) : β := f v
theorem oLt {α β : Type} {v x : α} {f : α → β} {y : β} (h : lt v f = y) (e : x = v) : f x = y := by subst e; exact h
theorem oRet {α : Type} {v q : α} {σ : Sg} (h : some v = some q) : some (v, σ) = some (q, σ) := by cases h; rfl
def oElim {α β γ : Type} (o : α ⊕ β) (f : α → γ) (g : β → γ) : γ := match o with
  | .inl a => f a
  | .inr b => g b
theorem oElimL {α β γ : Type} {a : α} {f : α → γ} {g : β → γ} {y : γ} (h : oElim (.inl a) f g = y) : f a = y := h
theorem oElimR {α β γ : Type} {b : β} {f : α → γ} {g : β → γ} {y : γ} (h : oElim (.inr b) f g = y) : g b = y := h
/-- a loop: b answers the next round's numbers (inl) or what it ends with (inr) -/
def lp {P O : Type} (b : P → Option (P ⊕ O)) : Nat → P → Option O
  | 0, _ => none
  | n + 1, x => match b x with
    | none => none
    | some (.inl y) => lp b n y
    | some (.inr z) => some z
theorem lp_ind {P O : Type} {b : P → Option (P ⊕ O)} {E : P → Prop} {z : O} (hs : ∀ x, (∀ y, b x = some (.inl y) → E y → E x) ∧ (b x = some (.inr z) → E x)) : ∀ (n : Nat) (x : P), lp b n x = some z → E x := by
  intro n
  induction n with
  | zero => intro x h; cases h
  | succ n ih =>
    intro x h
    rw [lp] at h
    split at h
    next => cases h
    next y hb => exact (hs x).1 y hb (ih y h)
    next z' hb => cases h; exact (hs x).2 hb
theorem i32_ne {x v : Int32} {k : Int} (h : ¬ x = v) (hv : v.toInt = k) : x.toInt ≠ k := fun e => h (Int32.toInt_inj.mp (e.trans hv.symm))
theorem vt_at {j : Int32} (h : inB j 5 = true) : ([38, 39, 40, 41, 42] : List Nat)[j.toNatClampNeg]? = some (38 + j.toNatClampNeg) := by
  simp only [inB, Bool.and_eq_true, decide_eq_true_eq] at h
  generalize j.toNatClampNeg = n at h
  have h2 := h.2
  match n, h2 with
  | 0, _ => rfl
  | 1, _ => rfl
  | 2, _ => rfl
  | 3, _ => rfl
  | 4, _ => rfl
  | n + 5, h => omega
