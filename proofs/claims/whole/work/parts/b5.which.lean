/-- a three may have been, by the sights of one of the people -/
def may (A : Nat → Nat) (p m : Nat) : Bool := decide (∀ i, i < A 127 → ¬ (A (128 + 3 * i) = p ∧ ¬ dW A m (A (130 + 3 * i)) = A (129 + 3 * i)))
theorem dW_lt {A : Nat → Nat} {m h : Nat} (W : WT A) : dW A m h < A 0 := dst_lt W.1 (h + 1)
theorem x_may {σ : Sg} {A : Nat → Nat} {p m : Nat} (hX : XT σ 19 A) (hO : XO σ 19 A) (W : WT A) (WO' : WO A) (hp : p < A 1) (hm : m < 2 ^ A 1) (h5 : m < 512) (h3 : bN m = 3) : ∃ τ, s_x_mayHaveBeen σ (nI m) (nI p) = some (if may A p m = true then 1 else 0, τ) ∧ (∀ c j, ¬ (c = 31 ∨ 33 ≤ c ∧ c ≤ 37) → gI τ c j = gI σ c j) ∧ τ.2 = σ.2 := by
  obtain ⟨τ, t1, -, t3, t4, t5⟩ := x_pass hX W hm h5 h3
  have n9 := W.2.2.1
  have n6 := W.2.1
  have s5 := WO'.1
  have e7 : gI τ 25 7 = nI (A 127) := (t4 _ _ (by omega)).trans hO.1
  rw [s_x_mayHaveBeen, t1, Option.bind_some]
  refine ⟨τ, ?_, t4, t5⟩
  have hs : ∀ i, i < A 127 → b_x_mayHaveBeen_10 τ (nI p) (nI i) = if A (128 + 3 * i) = p ∧ ¬ dW A m (A (130 + 3 * i)) = A (129 + 3 * i) then some (.inr (.inr (0, τ))) else some (.inl (nI (i + 1))) := fun i hi => by
    obtain ⟨a1, a2, a3⟩ := hO.2 i hi
    obtain ⟨b1, b2, b3⟩ := WO'.2 i hi
    have a1 : gI τ 28 i = nI (A (128 + 3 * i)) := (t4 _ _ (by omega)).trans a1
    have a2 : gI τ 29 i = nI (A (129 + 3 * i)) := (t4 _ _ (by omega)).trans a2
    have a3 : gI τ 30 i = nI (A (130 + 3 * i)) := (t4 _ _ (by omega)).trans a3
    have hd := dW_lt (m := m) (h := A (130 + 3 * i)) W
    unfold b_x_mayHaveBeen_10
    rw [e7, if_neg (by rw [nI_leI (by omega) (by omega)]; omega), if_pos (inB_nI (by omega) (by omega)), lt_eq, nI_clamp (by omega), if_pos (inB_nI (by omega) (by omega)), a1, a2, a3, if_pos (inB_nI (by omega) (by omega)), if_pos (inB_nI (by omega) (by omega)), nI_clamp (by omega), t3 _ (by omega), lt_eq, nI_1]
    by_cases c : A (128 + 3 * i) = p
    · rw [if_pos (by rw [c])]
      by_cases d : dW A m (A (130 + 3 * i)) = A (129 + 3 * i)
      · rw [if_pos (by rw [d]), if_neg (fun q => q.2 d)]
      · rw [if_neg (by rw [nI_eq (by omega) (by omega)]; exact d), if_pos ⟨c, d⟩]
    · rw [if_neg (by rw [nI_eq (by omega) (by omega)]; exact c), if_neg (fun q => c q.1)]
  obtain ⟨z, hz, g⟩ := lp_ex (b := b_x_mayHaveBeen_10 τ (nI p)) (I := fun x n => ∃ k, x = nI k ∧ k ≤ A 127 ∧ n = A 127 - k ∧ ∀ i, i < k → ¬ (A (128 + 3 * i) = p ∧ ¬ dW A m (A (130 + 3 * i)) = A (129 + 3 * i))) (G := fun z => ((∃ v, z = .inl v) ∧ may A p m = true) ∨ (z = .inr (0, τ) ∧ ¬ may A p m = true)) (fun x n hx => by
    obtain ⟨k, rfl, k1, k2, i1⟩ := hx
    by_cases d : k = A 127
    · refine Or.inr ⟨.inl (nI k), ?_, Or.inl ⟨⟨_, rfl⟩, decide_eq_true (fun i hi => i1 i (by omega))⟩⟩
      unfold b_x_mayHaveBeen_10
      rw [e7, if_pos (by rw [nI_leI (by omega) (by omega)]; omega)]
    · have := hs k (by omega)
      by_cases c : A (128 + 3 * k) = p ∧ ¬ dW A m (A (130 + 3 * k)) = A (129 + 3 * k)
      · rw [if_pos c] at this
        exact Or.inr ⟨_, this, Or.inr ⟨rfl, fun q => (of_decide_eq_true q) k (by omega) c⟩⟩
      · rw [if_neg c] at this
        refine Or.inl ⟨_, A 127 - (k + 1), this, by omega, k + 1, rfl, by omega, rfl, fun i hi => ?_⟩
        by_cases e : i = k
        · subst e; exact c
        · exact i1 i (by omega)) 100000 (A 127) 0 (by omega) ⟨0, rfl, by omega, by omega, fun i hi => by omega⟩
  rw [hz, Option.bind_some]
  rcases g with ⟨⟨v, rfl⟩, g⟩ | ⟨rfl, g⟩
  · rw [if_pos g]; rfl
  · rw [if_neg g]; rfl
theorem m_seen {σ : Sg} {A : Nat → Nat} {p m : Nat} (hM : MS σ 72 0 A) (W : WT A) (WO' : WO A) (hp : p < A 1) (hm : m < 2 ^ A 1) (h5 : m < 512) (h3 : bN m = 3) : ∃ τ, s_m_isSeen σ (nI p) (nI m) = some (if may A p m = true then 1 else 0, τ) ∧ (∀ c j, ¬ (c = 71 ∧ j = 9 ∨ 76 ≤ c ∧ c ≤ 78) → gI τ c j = gI σ c j) ∧ τ.2 = σ.2 := by
  obtain ⟨τ, t1, t3, t4, t5⟩ := m_goDay hM W hm h5 h3
  have n9 := W.2.2.1
  have n6 := W.2.1
  have s5 := WO'.1
  have hMτ : MS τ 72 0 A := MS_cong (fun j => t4 _ _ (by omega)) hM
  have e7 : gI τ 72 127 = nI (A 127) := M0 hMτ (by omega)
  rw [s_m_isSeen, t1, Option.bind_some]
  have hs : ∀ i u, i < A 127 → u < 2 → b_m_isSeen_12 τ (nI p) (nI u, nI i) = some (.inl (nI (if u = 1 ∧ ¬ (A (128 + 3 * i) = p ∧ ¬ dW A m (A (130 + 3 * i)) = A (129 + 3 * i)) then 1 else 0), nI (i + 1))) := fun i u hi hu => by
    obtain ⟨b1, b2, b3⟩ := WO'.2 i hi
    have hd := dW_lt (m := m) (h := A (130 + 3 * i)) W
    have e3 : (128 : Int32) + 3 * nI i = nI (128 + 3 * i) := by rw [show (3 : Int32) * nI i = nI (3 * i) from (Int32.ofNat_mul 3 i).symm]; exact nI_add 128 _
    have e4 : nI (128 + 3 * i) + 2 = nI (130 + 3 * i) := by rw [show nI (128 + 3 * i) + 2 = nI (128 + 3 * i + 2) from nI_add _ 2]; congr 1; omega
    have e5 : nI (128 + 3 * i) + 1 = nI (129 + 3 * i) := by rw [nI_1]; congr 1; omega
    have h46 : ∀ w, w < 2 → j_m_isSeen_46i12 τ (nI p) (nI u) (nI i) (nI w) = some (.inl (nI (if u = 1 ∧ ¬ (w = 1 ∧ ¬ dW A m (A (130 + 3 * i)) = A (129 + 3 * i)) then 1 else 0), nI (i + 1))) := fun w hw => by
      unfold j_m_isSeen_46i12
      rw [e3, e4, e5, if_pos (inB_nI (by omega) (by omega)), nI_clamp (by omega), M0 hMτ (by omega), if_pos (inB_nI (by omega) (by omega)), if_pos (inB_nI (by omega) (by omega)), nI_clamp (by omega), nI_clamp (by omega), M0 hMτ (by omega), t3 _ (by omega), lt_eq, lt_eq, nI_1]
      by_cases c : u = 0
      · rw [if_pos (by rw [c]; rfl), if_neg (by omega)]; rfl
      · rw [if_neg (nI_ne0 (by omega) (by omega))]
        by_cases d : w = 0
        · rw [if_pos (by rw [d]; rfl), if_pos ⟨by omega, by omega⟩]; rfl
        · rw [if_neg (nI_ne0 (by omega) (by omega))]
          by_cases e : dW A m (A (130 + 3 * i)) = A (129 + 3 * i)
          · rw [if_pos (by rw [e]), if_pos ⟨by omega, fun q => q.2 e⟩]; rfl
          · rw [if_neg (by rw [nI_eq (by omega) (by omega)]; exact e), if_neg (fun q => q.2 ⟨by omega, e⟩)]; rfl
    have g0 : j_m_isSeen_46i12 τ (nI p) (nI u) (nI i) 0 = _ := h46 0 (by omega)
    have g1 : j_m_isSeen_46i12 τ (nI p) (nI u) (nI i) 1 = _ := h46 1 (by omega)
    unfold b_m_isSeen_12
    show (if gI τ 72 127 ≤ nI i then _ else (if inB (128 + 3 * nI i) 143 = true then (if gI τ 72 (Int32.toNatClampNeg (128 + 3 * nI i)) = nI p then j_m_isSeen_46i12 τ (nI p) (nI u) (nI i) 1 else j_m_isSeen_46i12 τ (nI p) (nI u) (nI i) 0) else none)) = _
    rw [e7, if_neg (by rw [nI_leI (by omega) (by omega)]; omega), e3, if_pos (inB_nI (by omega) (by omega)), nI_clamp (by omega), M0 hMτ (by omega), g0, g1]
    by_cases c : A (128 + 3 * i) = p
    · rw [if_pos (by rw [c])]
      congr 5
      exact propext ⟨fun q => ⟨q.1, fun r => q.2 ⟨rfl, r.2⟩⟩, fun q => ⟨q.1, fun r => q.2 ⟨c, r.2⟩⟩⟩
    · rw [if_neg (by rw [nI_eq (by omega) (by omega)]; exact c)]
      congr 5
      exact propext ⟨fun q => ⟨q.1, fun r => c r.1⟩, fun q => ⟨q.1, fun r => absurd r.1 (by decide)⟩⟩
  obtain ⟨z, hz, g⟩ := lp_ex (b := b_m_isSeen_12 τ (nI p)) (I := fun x n => ∃ k u, x = (nI u, nI k) ∧ k ≤ A 127 ∧ n = A 127 - k ∧ u < 2 ∧ (u = 1 ↔ ∀ i, i < k → ¬ (A (128 + 3 * i) = p ∧ ¬ dW A m (A (130 + 3 * i)) = A (129 + 3 * i)))) (G := fun z => z.1 = if may A p m = true then 1 else 0) (fun x n hx => by
    obtain ⟨k, u, rfl, k1, k2, u2, i1⟩ := hx
    by_cases d : k = A 127
    · subst d
      refine Or.inr ⟨(nI u, nI (A 127)), ?_, ?_⟩
      · unfold b_m_isSeen_12
        show (if gI τ 72 127 ≤ nI (A 127) then some (Sum.inr (nI u, nI (A 127))) else _) = _
        rw [e7, if_pos (by rw [nI_leI (by omega) (by omega)]; omega)]
      · show nI u = _
        unfold may
        by_cases c : u = 1
        · rw [if_pos (decide_eq_true (i1.mp c)), c]; rfl
        · rw [if_neg (fun q => c (i1.mpr (of_decide_eq_true q))), show u = 0 by omega]; rfl
    · refine Or.inl ⟨_, A 127 - (k + 1), hs k u (by omega) u2, by omega, k + 1, _, rfl, by omega, rfl, ?_, ?_⟩
      · by_cases c : u = 1 ∧ ¬ (A (128 + 3 * k) = p ∧ ¬ dW A m (A (130 + 3 * k)) = A (129 + 3 * k))
        · rw [if_pos c]; omega
        · rw [if_neg c]; omega
      · by_cases c : u = 1 ∧ ¬ (A (128 + 3 * k) = p ∧ ¬ dW A m (A (130 + 3 * k)) = A (129 + 3 * k))
        · rw [if_pos c]
          refine ⟨fun _ i hi => ?_, fun _ => rfl⟩
          by_cases e : i = k
          · subst e; exact c.2
          · exact i1.mp c.1 i (by omega)
        · rw [if_neg c]
          exact ⟨fun q => absurd q (by omega), fun q => absurd ⟨i1.mpr (fun i hi => q i (by omega)), q k (by omega)⟩ c⟩) 100000 (A 127) (1, 0) (by omega) ⟨0, 1, rfl, by omega, by omega, by omega, ⟨fun _ i hi => by omega, fun _ => rfl⟩⟩
  rw [hz, Option.bind_some, g]
  refine ⟨τ, ?_, t4, t5⟩
  by_cases c : may A p m = true
  · rw [if_pos c]; rfl
  · rw [if_neg c]; rfl
