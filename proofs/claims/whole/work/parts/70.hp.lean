/-! WHAT IS LEFT, over a relation R of a state: every call answers alike on both sides and keeps R; then the law answers 1. Pure functions; no machine from here on. -/
theorem inB_nI {n N : Nat} (h : n < N) (hN : N < 2 ^ 31) : inB (nI n) N = true := by
  simp only [inB, Bool.and_eq_true, decide_eq_true_eq]
  exact ⟨nI_pos' (by omega), by rw [nI_clamp (by omega)]; exact h⟩
/-- a loop ends: I with a number that falls each round, G where it ends -/
theorem lp_ex {P O : Type} {b : P → Option (P ⊕ O)} {I : P → Nat → Prop} {G : O → Prop} (hb : ∀ x n, I x n → (∃ y m, b x = some (.inl y) ∧ m < n ∧ I y m) ∨ ∃ z, b x = some (.inr z) ∧ G z) : ∀ (F n : Nat) (x : P), n < F → I x n → ∃ z, lp b F x = some z ∧ G z := by
  intro F
  induction F with
  | zero => intro n x h; omega
  | succ F ih =>
    intro n x h hi
    rcases hb x n hi with ⟨y, m, h1, h2, h3⟩ | ⟨z, h1, h2⟩
    · obtain ⟨z, a, g⟩ := ih m y (by omega) h3
      exact ⟨z, by rw [lp, h1]; exact a, g⟩
    · exact ⟨z, by rw [lp, h1], h2⟩
/-- both sides answer the same and R holds behind both -/
def Alike {α : Type} (R : Sg → Prop) (σ : Sg) (fx fm : Sg → Option (α × Sg)) : Prop := ∃ v τ τ', fx σ = some (v, τ) ∧ fm τ = some (v, τ') ∧ R τ'
theorem lg_cmp_self (x : Int64) : lg_cmp x x = 0 := by
  unfold lg_cmp
  rw [if_neg (by rw [gt_iff_lt, Int64.lt_iff_toInt_lt]; exact Int.lt_irrefl _), if_pos rfl]
def Sound (R : Sg → Prop) : Prop :=
  (∀ (σ : Sg) (a : Int32), R σ → Alike R σ (fun τ => s_x_places τ a) (fun τ => s_m_places τ a)) ∧
  (∀ (σ : Sg) (a b : Int32), R σ → Alike R σ (fun τ => s_x_person τ a b) (fun τ => s_m_person τ a b)) ∧
  (∀ (σ : Sg) (a b c : Int32), R σ → Alike R σ (fun τ => s_x_errand τ a b c) (fun τ => s_m_errand τ a b c)) ∧
  (∀ (σ : Sg) (a : Int32), R σ → Alike R σ (fun τ => s_x_drop τ a) (fun τ => s_m_drop τ a)) ∧
  (∀ (σ : Sg) (a : Int64) (b : Int32), R σ → Alike R σ (fun τ => s_x_type τ a b) (fun τ => s_m_type τ a b)) ∧
  (∀ (σ : Sg), R σ → Alike R σ (fun τ => s_x_clear τ ) (fun τ => s_m_clear τ )) ∧
  (∀ (σ : Sg), R σ → Alike R σ (fun τ => s_x_read τ ) (fun τ => s_m_read τ )) ∧
  (∀ (σ : Sg) (a b : Int32), R σ → Alike R σ (fun τ => s_x_day τ a b) (fun τ => s_m_day τ a b)) ∧
  (∀ (σ : Sg) (a : Int32), R σ → Alike R σ (fun τ => s_x_best τ a) (fun τ => s_m_best τ a)) ∧
  (∀ (σ : Sg) (a : Int32), R σ → Alike R σ (fun τ => s_x_most τ a) (fun τ => s_m_most τ a)) ∧
  (∀ (σ : Sg) (a b : Int32), R σ → Alike R σ (fun τ => s_x_lot τ a b) (fun τ => s_m_lot τ a b)) ∧
  (∀ (σ : Sg) (a : Int32), R σ → Alike R σ (fun τ => s_x_rows τ a) (fun τ => s_m_rows τ a)) ∧
  (∀ (σ : Sg) (a b : Int32), R σ → Alike R σ (fun τ => s_x_gain τ a b) (fun τ => s_m_gain τ a b)) ∧
  (∀ (σ : Sg) (a b c : Int32), R σ → Alike R σ (fun τ => s_x_leaves τ a b c) (fun τ => s_m_leaves τ a b c)) ∧
  (∀ (σ : Sg) (a : Int32), R σ → Alike R σ (fun τ => s_x_fair τ a) (fun τ => s_m_fair τ a)) ∧
  (∀ (σ : Sg) (a b c : Int32), R σ → Alike R σ (fun τ => s_x_week τ a b c) (fun τ => s_m_week τ a b c)) ∧
  (∀ (σ : Sg), R σ → Alike R σ (fun τ => s_x_loose τ ) (fun τ => s_m_loose τ )) ∧
  (∀ (σ : Sg) (a b : Int32), R σ → Alike R σ (fun τ => s_x_knows τ a b) (fun τ => s_m_knows τ a b)) ∧
  (∀ (σ : Sg) (a b : Int32), R σ → Alike R σ (fun τ => s_x_when τ a b) (fun τ => s_m_when τ a b)) ∧
  (∀ (σ : Sg) (a b c : Int32), R σ → Alike R σ (fun τ => s_x_rope τ a b c) (fun τ => s_m_rope τ a b c)) ∧
  (∀ (σ : Sg) (a b c : Int32), R σ → Alike R σ (fun τ => s_x_sight τ a b c) (fun τ => s_m_sight τ a b c)) ∧
  (∀ (σ : Sg), R σ → Alike R σ (fun τ => s_x_blind τ ) (fun τ => s_m_blind τ )) ∧
  (∀ (σ : Sg) (a b : Int32), R σ → Alike R σ (fun τ => s_x_which τ a b) (fun τ => s_m_which τ a b)) ∧
  (∀ (σ : Sg) (a : Int32), R σ → Alike R σ (fun τ => s_x_part τ a) (fun τ => s_m_part τ a)) ∧
  (∀ (σ : Sg) (a : Int32), R σ → Alike R σ (fun τ => s_x_image τ a) (fun τ => s_m_image τ a)) ∧
  (∀ (σ : Sg) (a : Int32), R σ → Alike R σ (fun τ => s_x_from τ a) (fun τ => s_m_from τ a)) ∧
  (∀ (σ : Sg) (a : Int32), R σ → Alike R σ (fun τ => s_x_status τ a) (fun τ => s_m_status τ a)) ∧
  (∀ (σ : Sg) (a : Int32), R σ → Alike R σ (fun τ => s_x_count τ a) (fun τ => s_m_count τ a)) ∧
  (∀ (σ : Sg), R σ → ∃ v, s_x_digest σ = some v ∧ s_m_digest σ = some v)
set_option maxRecDepth 100000 in
set_option maxHeartbeats 8000000 in
theorem law_step {R : Sg → Prop} (hs : Sound R) (xs : Nat → Int32) {L : Nat} (hL : L ≤ 2048) {σ : Sg} {k : Nat} (hR : R σ) (hk : k + 4 ≤ L) : ∃ τ, b_law_18 xs L (σ, nI k) = some (.inl (τ, nI (k + 4))) ∧ R τ := by
  have e0 : inB (nI k) L = true := inB_nI (by omega) (by omega)
  have e1 : inB (nI k + 1) L = true := by rw [show nI k + 1 = nI (k + 1) from nI_add k 1]; exact inB_nI (by omega) (by omega)
  have e2 : inB (nI k + 2) L = true := by rw [show nI k + 2 = nI (k + 2) from nI_add k 2]; exact inB_nI (by omega) (by omega)
  have e3 : inB (nI k + 3) L = true := by rw [show nI k + 3 = nI (k + 3) from nI_add k 3]; exact inB_nI (by omega) (by omega)
  have e4 : nI k + 4 = nI (k + 4) := nI_add k 4
  have z0 : ¬ (Int32.ofNat L) - 4 < nI k := by
    obtain ⟨j, rfl⟩ : ∃ j, L = j + 4 := ⟨L - 4, by omega⟩
    rw [show Int32.ofNat (j + 4) - 4 = nI j from by rw [show Int32.ofNat (j + 4) = nI j + 4 from (nI_add j 4).symm]; exact Int32.add_sub_cancel _ _]
    exact nI_nlt (by omega) (by omega)
  unfold b_law_18
  dsimp only
  rw [if_neg z0, if_pos e0]
  by_cases c0 : ((xs (Int32.toNatClampNeg (nI k))) &&& 31) = 0
  · rw [if_pos c0]
    obtain ⟨v, τ, τ', h1, h2, h3⟩ := hs.1 σ (xs (Int32.toNatClampNeg (nI k + 1))) hR
    dsimp only at h1 h2
    refine ⟨τ', ?_, h3⟩
    rw [if_pos e1, h1, Option.bind_some]
    dsimp only
    rw [if_pos e1, h2, Option.bind_some]
    dsimp only
    rw [if_pos rfl, e4]; rfl
  rw [if_neg c0]
  by_cases c1 : ((xs (Int32.toNatClampNeg (nI k))) &&& 31) = 1
  · rw [if_pos c1]
    obtain ⟨v, τ, τ', h1, h2, h3⟩ := hs.2.1 σ (xs (Int32.toNatClampNeg (nI k + 1))) (xs (Int32.toNatClampNeg (nI k + 2))) hR
    dsimp only at h1 h2
    refine ⟨τ', ?_, h3⟩
    rw [if_pos e1, if_pos e2, h1, Option.bind_some]
    dsimp only
    rw [if_pos e1, if_pos e2, h2, Option.bind_some]
    dsimp only
    rw [if_pos rfl, e4]; rfl
  rw [if_neg c1]
  by_cases c2 : ((xs (Int32.toNatClampNeg (nI k))) &&& 31) = 2
  · rw [if_pos c2]
    obtain ⟨v, τ, τ', h1, h2, h3⟩ := hs.2.2.1 σ (xs (Int32.toNatClampNeg (nI k + 1))) (xs (Int32.toNatClampNeg (nI k + 2))) (xs (Int32.toNatClampNeg (nI k + 3))) hR
    dsimp only at h1 h2
    refine ⟨τ', ?_, h3⟩
    rw [if_pos e1, if_pos e2, if_pos e3, h1, Option.bind_some]
    dsimp only
    rw [if_pos e1, if_pos e2, if_pos e3, h2, Option.bind_some]
    dsimp only
    rw [if_pos rfl, e4]; rfl
  rw [if_neg c2]
  by_cases c3 : ((xs (Int32.toNatClampNeg (nI k))) &&& 31) = 3
  · rw [if_pos c3]
    obtain ⟨v, τ, τ', h1, h2, h3⟩ := hs.2.2.2.1 σ (xs (Int32.toNatClampNeg (nI k + 1))) hR
    dsimp only at h1 h2
    refine ⟨τ', ?_, h3⟩
    rw [if_pos e1, h1, Option.bind_some]
    dsimp only
    rw [if_pos e1, h2, Option.bind_some]
    dsimp only
    rw [if_pos rfl, e4]; rfl
  rw [if_neg c3]
  by_cases c4 : ((xs (Int32.toNatClampNeg (nI k))) &&& 31) = 4
  · rw [if_pos c4]
    obtain ⟨v, τ, τ', h1, h2, h3⟩ := hs.2.2.2.2.1 σ ((((Int32.toInt64 (xs (Int32.toNatClampNeg (nI k + 1)))) : Int64) <<< ((Int32.toInt64 32) &&& 63)) ||| ((Int32.toInt64 (xs (Int32.toNatClampNeg (nI k + 2)))) &&& 4294967295)) (xs (Int32.toNatClampNeg (nI k + 3))) hR
    dsimp only at h1 h2
    refine ⟨τ', ?_, h3⟩
    rw [if_pos e1, if_pos e2, if_pos e3, h1, Option.bind_some]
    dsimp only
    rw [if_pos e1, if_pos e2, if_pos e3, h2, Option.bind_some]
    dsimp only
    rw [if_pos rfl, e4]; rfl
  rw [if_neg c4]
  by_cases c5 : ((xs (Int32.toNatClampNeg (nI k))) &&& 31) = 5
  · rw [if_pos c5]
    obtain ⟨v, τ, τ', h1, h2, h3⟩ := hs.2.2.2.2.2.1 σ  hR
    dsimp only at h1 h2
    refine ⟨τ', ?_, h3⟩
    rw [h1, Option.bind_some]
    dsimp only
    rw [h2, Option.bind_some]
    dsimp only
    rw [if_pos rfl, e4]; rfl
  rw [if_neg c5]
  by_cases c6 : ((xs (Int32.toNatClampNeg (nI k))) &&& 31) = 6
  · rw [if_pos c6]
    obtain ⟨v, τ, τ', h1, h2, h3⟩ := hs.2.2.2.2.2.2.1 σ  hR
    dsimp only at h1 h2
    refine ⟨τ', ?_, h3⟩
    rw [h1, Option.bind_some]
    dsimp only
    rw [h2, Option.bind_some]
    dsimp only
    rw [if_pos rfl, e4]; rfl
  rw [if_neg c6]
  by_cases c7 : ((xs (Int32.toNatClampNeg (nI k))) &&& 31) = 7
  · rw [if_pos c7]
    obtain ⟨v, τ, τ', h1, h2, h3⟩ := hs.2.2.2.2.2.2.2.1 σ (xs (Int32.toNatClampNeg (nI k + 1))) (xs (Int32.toNatClampNeg (nI k + 2))) hR
    dsimp only at h1 h2
    refine ⟨τ', ?_, h3⟩
    rw [if_pos e1, if_pos e2, h1, Option.bind_some]
    dsimp only
    rw [if_pos e1, if_pos e2, h2, Option.bind_some]
    dsimp only
    rw [if_pos rfl, e4]; rfl
  rw [if_neg c7]
  by_cases c8 : ((xs (Int32.toNatClampNeg (nI k))) &&& 31) = 8
  · rw [if_pos c8]
    obtain ⟨v, τ, τ', h1, h2, h3⟩ := hs.2.2.2.2.2.2.2.2.1 σ (xs (Int32.toNatClampNeg (nI k + 1))) hR
    dsimp only at h1 h2
    refine ⟨τ', ?_, h3⟩
    rw [if_pos e1, h1, Option.bind_some]
    dsimp only
    rw [if_pos e1, h2, Option.bind_some]
    dsimp only
    rw [if_pos rfl, e4]; rfl
  rw [if_neg c8]
  by_cases c9 : ((xs (Int32.toNatClampNeg (nI k))) &&& 31) = 9
  · rw [if_pos c9]
    obtain ⟨v, τ, τ', h1, h2, h3⟩ := hs.2.2.2.2.2.2.2.2.2.1 σ (xs (Int32.toNatClampNeg (nI k + 1))) hR
    dsimp only at h1 h2
    refine ⟨τ', ?_, h3⟩
    rw [if_pos e1, h1, Option.bind_some]
    dsimp only
    rw [if_pos e1, h2, Option.bind_some]
    dsimp only
    rw [if_pos rfl, e4]; rfl
  rw [if_neg c9]
  by_cases c10 : ((xs (Int32.toNatClampNeg (nI k))) &&& 31) = 10
  · rw [if_pos c10]
    obtain ⟨v, τ, τ', h1, h2, h3⟩ := hs.2.2.2.2.2.2.2.2.2.2.1 σ (xs (Int32.toNatClampNeg (nI k + 1))) (xs (Int32.toNatClampNeg (nI k + 2))) hR
    dsimp only at h1 h2
    refine ⟨τ', ?_, h3⟩
    rw [if_pos e1, if_pos e2, h1, Option.bind_some]
    dsimp only
    rw [if_pos e1, if_pos e2, h2, Option.bind_some]
    dsimp only
    rw [if_pos rfl, e4]; rfl
  rw [if_neg c10]
  by_cases c11 : ((xs (Int32.toNatClampNeg (nI k))) &&& 31) = 11
  · rw [if_pos c11]
    obtain ⟨v, τ, τ', h1, h2, h3⟩ := hs.2.2.2.2.2.2.2.2.2.2.2.1 σ (xs (Int32.toNatClampNeg (nI k + 1))) hR
    dsimp only at h1 h2
    refine ⟨τ', ?_, h3⟩
    rw [if_pos e1, h1, Option.bind_some]
    dsimp only
    rw [if_pos e1, h2, Option.bind_some]
    dsimp only
    rw [if_pos (lg_cmp_self v), e4]; rfl
  rw [if_neg c11]
  by_cases c12 : ((xs (Int32.toNatClampNeg (nI k))) &&& 31) = 12
  · rw [if_pos c12]
    obtain ⟨v, τ, τ', h1, h2, h3⟩ := hs.2.2.2.2.2.2.2.2.2.2.2.2.1 σ (xs (Int32.toNatClampNeg (nI k + 1))) (xs (Int32.toNatClampNeg (nI k + 2))) hR
    dsimp only at h1 h2
    refine ⟨τ', ?_, h3⟩
    rw [if_pos e1, if_pos e2, h1, Option.bind_some]
    dsimp only
    rw [if_pos e1, if_pos e2, h2, Option.bind_some]
    dsimp only
    rw [if_pos rfl, e4]; rfl
  rw [if_neg c12]
  by_cases c13 : ((xs (Int32.toNatClampNeg (nI k))) &&& 31) = 13
  · rw [if_pos c13]
    obtain ⟨v, τ, τ', h1, h2, h3⟩ := hs.2.2.2.2.2.2.2.2.2.2.2.2.2.1 σ (xs (Int32.toNatClampNeg (nI k + 1))) (xs (Int32.toNatClampNeg (nI k + 2))) (xs (Int32.toNatClampNeg (nI k + 3))) hR
    dsimp only at h1 h2
    refine ⟨τ', ?_, h3⟩
    rw [if_pos e1, if_pos e2, if_pos e3, h1, Option.bind_some]
    dsimp only
    rw [if_pos e1, if_pos e2, if_pos e3, h2, Option.bind_some]
    dsimp only
    rw [if_pos rfl, e4]; rfl
  rw [if_neg c13]
  by_cases c14 : ((xs (Int32.toNatClampNeg (nI k))) &&& 31) = 14
  · rw [if_pos c14]
    obtain ⟨v, τ, τ', h1, h2, h3⟩ := hs.2.2.2.2.2.2.2.2.2.2.2.2.2.2.1 σ (xs (Int32.toNatClampNeg (nI k + 1))) hR
    dsimp only at h1 h2
    refine ⟨τ', ?_, h3⟩
    rw [if_pos e1, h1, Option.bind_some]
    dsimp only
    rw [if_pos e1, h2, Option.bind_some]
    dsimp only
    rw [if_pos rfl, e4]; rfl
  rw [if_neg c14]
  by_cases c15 : ((xs (Int32.toNatClampNeg (nI k))) &&& 31) = 15
  · rw [if_pos c15]
    obtain ⟨v, τ, τ', h1, h2, h3⟩ := hs.2.2.2.2.2.2.2.2.2.2.2.2.2.2.2.1 σ (xs (Int32.toNatClampNeg (nI k + 1))) (xs (Int32.toNatClampNeg (nI k + 2))) (xs (Int32.toNatClampNeg (nI k + 3))) hR
    dsimp only at h1 h2
    refine ⟨τ', ?_, h3⟩
    rw [if_pos e1, if_pos e2, if_pos e3, h1, Option.bind_some]
    dsimp only
    rw [if_pos e1, if_pos e2, if_pos e3, h2, Option.bind_some]
    dsimp only
    rw [if_pos rfl, e4]; rfl
  rw [if_neg c15]
  by_cases c16 : ((xs (Int32.toNatClampNeg (nI k))) &&& 31) = 16
  · rw [if_pos c16]
    obtain ⟨v, τ, τ', h1, h2, h3⟩ := hs.2.2.2.2.2.2.2.2.2.2.2.2.2.2.2.2.1 σ  hR
    dsimp only at h1 h2
    refine ⟨τ', ?_, h3⟩
    rw [h1, Option.bind_some]
    dsimp only
    rw [h2, Option.bind_some]
    dsimp only
    rw [if_pos rfl, e4]; rfl
  rw [if_neg c16]
  by_cases c17 : ((xs (Int32.toNatClampNeg (nI k))) &&& 31) = 17
  · rw [if_pos c17]
    obtain ⟨v, τ, τ', h1, h2, h3⟩ := hs.2.2.2.2.2.2.2.2.2.2.2.2.2.2.2.2.2.1 σ (xs (Int32.toNatClampNeg (nI k + 1))) (xs (Int32.toNatClampNeg (nI k + 2))) hR
    dsimp only at h1 h2
    refine ⟨τ', ?_, h3⟩
    rw [if_pos e1, if_pos e2, h1, Option.bind_some]
    dsimp only
    rw [if_pos e1, if_pos e2, h2, Option.bind_some]
    dsimp only
    rw [if_pos rfl, e4]; rfl
  rw [if_neg c17]
  by_cases c18 : ((xs (Int32.toNatClampNeg (nI k))) &&& 31) = 18
  · rw [if_pos c18]
    obtain ⟨v, τ, τ', h1, h2, h3⟩ := hs.2.2.2.2.2.2.2.2.2.2.2.2.2.2.2.2.2.2.1 σ (xs (Int32.toNatClampNeg (nI k + 1))) (xs (Int32.toNatClampNeg (nI k + 2))) hR
    dsimp only at h1 h2
    refine ⟨τ', ?_, h3⟩
    rw [if_pos e1, if_pos e2, h1, Option.bind_some]
    dsimp only
    rw [if_pos e1, if_pos e2, h2, Option.bind_some]
    dsimp only
    rw [if_pos rfl, e4]; rfl
  rw [if_neg c18]
  by_cases c19 : ((xs (Int32.toNatClampNeg (nI k))) &&& 31) = 19
  · rw [if_pos c19]
    obtain ⟨v, τ, τ', h1, h2, h3⟩ := hs.2.2.2.2.2.2.2.2.2.2.2.2.2.2.2.2.2.2.2.1 σ (xs (Int32.toNatClampNeg (nI k + 1))) (xs (Int32.toNatClampNeg (nI k + 2))) (xs (Int32.toNatClampNeg (nI k + 3))) hR
    dsimp only at h1 h2
    refine ⟨τ', ?_, h3⟩
    rw [if_pos e1, if_pos e2, if_pos e3, h1, Option.bind_some]
    dsimp only
    rw [if_pos e1, if_pos e2, if_pos e3, h2, Option.bind_some]
    dsimp only
    rw [if_pos rfl, e4]; rfl
  rw [if_neg c19]
  by_cases c20 : ((xs (Int32.toNatClampNeg (nI k))) &&& 31) = 20
  · rw [if_pos c20]
    obtain ⟨v, τ, τ', h1, h2, h3⟩ := hs.2.2.2.2.2.2.2.2.2.2.2.2.2.2.2.2.2.2.2.2.1 σ (xs (Int32.toNatClampNeg (nI k + 1))) (xs (Int32.toNatClampNeg (nI k + 2))) (xs (Int32.toNatClampNeg (nI k + 3))) hR
    dsimp only at h1 h2
    refine ⟨τ', ?_, h3⟩
    rw [if_pos e1, if_pos e2, if_pos e3, h1, Option.bind_some]
    dsimp only
    rw [if_pos e1, if_pos e2, if_pos e3, h2, Option.bind_some]
    dsimp only
    rw [if_pos rfl, e4]; rfl
  rw [if_neg c20]
  by_cases c21 : ((xs (Int32.toNatClampNeg (nI k))) &&& 31) = 21
  · rw [if_pos c21]
    obtain ⟨v, τ, τ', h1, h2, h3⟩ := hs.2.2.2.2.2.2.2.2.2.2.2.2.2.2.2.2.2.2.2.2.2.1 σ  hR
    dsimp only at h1 h2
    refine ⟨τ', ?_, h3⟩
    rw [h1, Option.bind_some]
    dsimp only
    rw [h2, Option.bind_some]
    dsimp only
    rw [if_pos rfl, e4]; rfl
  rw [if_neg c21]
  by_cases c22 : ((xs (Int32.toNatClampNeg (nI k))) &&& 31) = 22
  · rw [if_pos c22]
    obtain ⟨v, τ, τ', h1, h2, h3⟩ := hs.2.2.2.2.2.2.2.2.2.2.2.2.2.2.2.2.2.2.2.2.2.2.1 σ (xs (Int32.toNatClampNeg (nI k + 1))) (xs (Int32.toNatClampNeg (nI k + 2))) hR
    dsimp only at h1 h2
    refine ⟨τ', ?_, h3⟩
    rw [if_pos e1, if_pos e2, h1, Option.bind_some]
    dsimp only
    rw [if_pos e1, if_pos e2, h2, Option.bind_some]
    dsimp only
    rw [if_pos rfl, e4]; rfl
  rw [if_neg c22]
  by_cases c23 : ((xs (Int32.toNatClampNeg (nI k))) &&& 31) = 23
  · rw [if_pos c23]
    obtain ⟨v, τ, τ', h1, h2, h3⟩ := hs.2.2.2.2.2.2.2.2.2.2.2.2.2.2.2.2.2.2.2.2.2.2.2.1 σ (xs (Int32.toNatClampNeg (nI k + 1))) hR
    dsimp only at h1 h2
    refine ⟨τ', ?_, h3⟩
    rw [if_pos e1, h1, Option.bind_some]
    dsimp only
    rw [if_pos e1, h2, Option.bind_some]
    dsimp only
    rw [if_pos (lg_cmp_self v), e4]; rfl
  rw [if_neg c23]
  by_cases c24 : ((xs (Int32.toNatClampNeg (nI k))) &&& 31) = 24
  · rw [if_pos c24]
    obtain ⟨v, τ, τ', h1, h2, h3⟩ := hs.2.2.2.2.2.2.2.2.2.2.2.2.2.2.2.2.2.2.2.2.2.2.2.2.1 σ (xs (Int32.toNatClampNeg (nI k + 1))) hR
    dsimp only at h1 h2
    refine ⟨τ', ?_, h3⟩
    rw [if_pos e1, h1, Option.bind_some]
    dsimp only
    rw [if_pos e1, h2, Option.bind_some]
    dsimp only
    rw [if_pos rfl, e4]; rfl
  rw [if_neg c24]
  by_cases c25 : ((xs (Int32.toNatClampNeg (nI k))) &&& 31) = 25
  · rw [if_pos c25]
    obtain ⟨v, τ, τ', h1, h2, h3⟩ := hs.2.2.2.2.2.2.2.2.2.2.2.2.2.2.2.2.2.2.2.2.2.2.2.2.2.1 σ (xs (Int32.toNatClampNeg (nI k + 1))) hR
    dsimp only at h1 h2
    refine ⟨τ', ?_, h3⟩
    rw [if_pos e1, h1, Option.bind_some]
    dsimp only
    rw [if_pos e1, h2, Option.bind_some]
    dsimp only
    rw [if_pos rfl, e4]; rfl
  rw [if_neg c25]
  by_cases c26 : ((xs (Int32.toNatClampNeg (nI k))) &&& 31) = 26
  · rw [if_pos c26]
    obtain ⟨v, τ, τ', h1, h2, h3⟩ := hs.2.2.2.2.2.2.2.2.2.2.2.2.2.2.2.2.2.2.2.2.2.2.2.2.2.2.1 σ (xs (Int32.toNatClampNeg (nI k + 1))) hR
    dsimp only at h1 h2
    refine ⟨τ', ?_, h3⟩
    rw [if_pos e1, h1, Option.bind_some]
    dsimp only
    rw [if_pos e1, h2, Option.bind_some]
    dsimp only
    rw [if_pos rfl, e4]; rfl
  rw [if_neg c26]
  by_cases c27 : ((xs (Int32.toNatClampNeg (nI k))) &&& 31) = 27
  · rw [if_pos c27]
    obtain ⟨v, τ, τ', h1, h2, h3⟩ := hs.2.2.2.2.2.2.2.2.2.2.2.2.2.2.2.2.2.2.2.2.2.2.2.2.2.2.2.1 σ (xs (Int32.toNatClampNeg (nI k + 1))) hR
    dsimp only at h1 h2
    refine ⟨τ', ?_, h3⟩
    rw [if_pos e1, h1, Option.bind_some]
    dsimp only
    rw [if_pos e1, h2, Option.bind_some]
    dsimp only
    rw [if_pos rfl, e4]; rfl
  rw [if_neg c27]
  by_cases c28 : ((xs (Int32.toNatClampNeg (nI k))) &&& 31) = 28
  · rw [if_pos c28]
    obtain ⟨v, h1, h2⟩ := hs.2.2.2.2.2.2.2.2.2.2.2.2.2.2.2.2.2.2.2.2.2.2.2.2.2.2.2.2 σ hR
    refine ⟨σ, ?_, hR⟩
    rw [h1, Option.bind_some, h2, Option.bind_some, if_pos (lg_cmp_self v), e4]; rfl
  rw [if_neg c28]
  exact ⟨σ, by rw [e4]; rfl, hR⟩
theorem law_hp {R : Sg → Prop} (hs : Sound R) (h0 : R sg0) : ∀ (xs : Nat → Int32) (L : Nat), L ≤ 2048 → ∃ τ, s_law xs L sg0 = some (1, τ) := by
  intro xs L hL
  obtain ⟨z, h1, h2⟩ := lp_ex (b := b_law_18 xs L) (I := fun x n => R x.1 ∧ ∃ k, x.2 = nI k ∧ k ≤ L ∧ n = L - k) (G := fun z => ∃ y, z = .inl y) (fun x n hx => by
    obtain ⟨σ, i⟩ := x
    obtain ⟨hR, k, hi, hk, hn⟩ := hx
    dsimp only at hR hi
    subst hi
    by_cases hc : k + 4 ≤ L
    · obtain ⟨τ, a, b⟩ := law_step hs xs hL hR hc
      exact Or.inl ⟨(τ, nI (k + 4)), L - (k + 4), a, by omega, b, k + 4, rfl, hc, rfl⟩
    · refine Or.inr ⟨.inl (σ, nI k), ?_, _, rfl⟩
      have z0 : (Int32.ofNat L) - 4 < nI k := by
        rw [Int32.lt_iff_toInt_lt, nI_toInt (by omega)]
        have e : ((Int32.ofNat L) - 4).toInt = (L : Int) - 4 := by
          rw [Int32.toInt_sub, show (Int32.ofNat L).toInt = (L : Int) from nI_toInt (by omega), show (4 : Int32).toInt = 4 from rfl]
          rw [Int.bmod_def]; omega
        omega
      unfold b_law_18
      dsimp only
      rw [if_pos z0]) 100000 L (sg0, 0) (by omega) ⟨h0, 0, rfl, by omega, by omega⟩
  obtain ⟨y, rfl⟩ := h2
  exact ⟨y.1, by rw [s_law, h1, Option.bind_some]; rfl⟩
