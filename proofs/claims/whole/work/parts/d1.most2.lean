theorem SL_b3 : ∀ e, e ∈ SL 3 → e.1 < 2 ^ 3 ∧ e.2.1 < 2 ^ 3 ∧ e.2.2 < 2 ^ 3 := by decide +kernel
theorem SL_b6 : ∀ e, e ∈ SL 6 → e.1 < 2 ^ 6 ∧ e.2.1 < 2 ^ 6 ∧ e.2.2 < 2 ^ 6 := by decide +kernel
theorem SL_b9 : ∀ e, e ∈ SL 9 → e.1 < 2 ^ 9 ∧ e.2.1 < 2 ^ 9 ∧ e.2.2 < 2 ^ 9 := by decide +kernel
theorem SL_b {P : Nat} {e : Nat × Nat × Nat} (hP : P = 3 ∨ P = 6 ∨ P = 9) (h : e ∈ SL P) : e.1 < 2 ^ P ∧ e.2.1 < 2 ^ P ∧ e.2.2 < 2 ^ P := by
  rcases hP with rfl | rfl | rfl
  · exact SL_b3 e h
  · exact SL_b6 e h
  · exact SL_b9 e h
/-- the three of a split that has p -/
def tw3 (e : Nat × Nat × Nat) (p : Nat) : Nat := if e.1.testBit p = true then e.1 else if e.2.1.testBit p = true then e.2.1 else if e.2.2.testBit p = true then e.2.2 else 0
def tl3 (P : Nat) (e : Nat × Nat × Nat) (p : Nat) : Int32 := if P = 3 then fd (nI p) e.1 (-1) else if P = 6 then fd (nI p) e.2.1 (fd (nI p) e.1 (-1)) else fd (nI p) e.2.2 (fd (nI p) e.2.1 (fd (nI p) e.1 (-1)))
theorem tw_3 : ∀ e, e ∈ SL 3 → ∀ p, p < 3 → tl3 3 e p = nI (tw3 e p) := by decide +kernel
theorem tw_6 : ∀ e, e ∈ SL 6 → ∀ p, p < 6 → tl3 6 e p = nI (tw3 e p) := by decide +kernel
theorem tw_9 : ∀ e, e ∈ SL 9 → ∀ p, p < 9 → tl3 9 e p = nI (tw3 e p) := by decide +kernel
theorem tw_P {P p : Nat} {e : Nat × Nat × Nat} (hP : P = 3 ∨ P = 6 ∨ P = 9) (h : e ∈ SL P) (hp : p < P) : tl3 P e p = nI (tw3 e p) := by
  rcases hP with rfl | rfl | rfl
  · exact tw_3 e h p hp
  · exact tw_6 e h p hp
  · exact tw_9 e h p hp
theorem x_threeOf {τ : Sg} {L : List (Nat × Nat × Nat)} {s p : Nat} {e : Nat × Nat × Nat} (H : REP τ L) (hL : L.length ≤ 280) (he : L[s]? = some e) (h5 : e.1 < 512 ∧ e.2.1 < 512 ∧ e.2.2 < 512) (hp : p < 9) : s_Splits_threeOf τ (nI s) (nI p) = some (nI (tw3 e p)) := by
  have hs : s < 280 := by
    by_cases d : s < L.length
    · omega
    · rw [List.getElem?_eq_none (by omega)] at he; cases he
  obtain ⟨q1, q2, q3, -⟩ := H.2 s e he
  obtain ⟨b1, b2, b3⟩ := h5
  have e3 : ∀ n, nI n * 3 = nI (3 * n) := fun n => by rw [show nI n * 3 = nI (n * 3) from (Int32.ofNat_mul n 3).symm, Nat.mul_comm]
  have hst : ∀ (i t : Nat), i < 3 → gI τ 16 (3 * s + i) = nI t → t < 512 → b_Splits_threeOf_4 τ (nI s) (nI p) (nI (3 * s + i)) = if t.testBit p = true then some (.inr (.inr (nI t))) else some (.inl (nI (3 * s + i + 1))) := fun i t hi h16 ht => by
    have tb := tb_ok t ht p (by omega)
    unfold b_Splits_threeOf_4
    rw [nI_1, e3, if_neg (by rw [nI_leI (by omega) (by omega)]; omega), if_pos (inB_nI (by omega) (by omega)), nI_clamp (by omega), h16, s_x_isIn, if_pos (inB_nI (by omega) (by omega)), lt_eq, nI_1]
    by_cases c : t.testBit p = true
    · rw [if_pos (tb.mpr c), if_pos c, Option.bind_some, if_neg (by decide)]
    · rw [if_neg (fun q => c (tb.mp q)), if_neg c, Option.bind_some, if_pos rfl]
  have s0 := hst 0 e.1 (by omega) q1 b1
  have s1 := hst 1 e.2.1 (by omega) q2 b2
  have s2 := hst 2 e.2.2 (by omega) q3 b3
  have sE : b_Splits_threeOf_4 τ (nI s) (nI p) (nI (3 * s + 2 + 1)) = some (.inr (.inl (nI (3 * s + 2 + 1)))) := by
    unfold b_Splits_threeOf_4
    rw [nI_1, e3, if_pos (by rw [nI_leI (by omega) (by omega)]; omega)]
  rw [s_Splits_threeOf, lt_eq, e3]
  unfold tw3
  by_cases c0 : e.1.testBit p = true
  · rw [if_pos c0] at s0; rw [if_pos c0, show lp (b_Splits_threeOf_4 τ (nI s) (nI p)) 100000 (nI (3 * s)) = _ from lp_end (n := 99999) s0]; rfl
  rw [if_neg c0] at s0; rw [if_neg c0]
  by_cases c1 : e.2.1.testBit p = true
  · rw [if_pos c1] at s1; rw [if_pos c1, show lp (b_Splits_threeOf_4 τ (nI s) (nI p)) 100000 (nI (3 * s)) = _ from (lp_step s0).trans (lp_end (n := 99998) s1)]; rfl
  rw [if_neg c1] at s1; rw [if_neg c1]
  by_cases c2 : e.2.2.testBit p = true
  · rw [if_pos c2] at s2; rw [if_pos c2, show lp (b_Splits_threeOf_4 τ (nI s) (nI p)) 100000 (nI (3 * s)) = _ from (lp_step s0).trans ((lp_step s1).trans (lp_end (n := 99997) s2))]; rfl
  · rw [if_neg c2] at s2; rw [if_neg c2, show lp (b_Splits_threeOf_4 τ (nI s) (nI p)) 100000 (nI (3 * s)) = _ from (lp_step s0).trans ((lp_step s1).trans ((lp_step s2).trans (lp_end (n := 99996) sE)))]; rfl
/-- the class behind its list and its days -/
theorem x_DN {σ : Sg} {A : Nat → Nat} (hX : XT σ 19 A) (W : WT A) (hP : A 1 = 3 ∨ A 1 = 6 ∨ A 1 = 9) (h13 : gI σ 13 = gI spT 1) (h14 : gL σ 14 = gL spT 2) (h15 : gI σ 15 0 = 0) : ∃ τ1 τ, s_Splits_list σ (nI (A 1)) = some τ1 ∧ s_x_walkAllThrees τ1 = some τ ∧ DN τ A (A 1) ∧ (∀ c j, ¬ (c = 12 ∧ j = 5 ∨ c = 16 ∨ c = 15 ∧ ¬ j = 0 ∨ c = 31 ∨ 33 ≤ c ∧ c ≤ 37) → gI τ c j = gI σ c j) ∧ (∀ c j, ¬ c = 17 → gL τ c j = gL σ c j) ∧ gR τ = gR σ := by
  have n9 := W.2.2.1
  have hpw := pow_le (A 1) (by omega)
  obtain ⟨n280, n1⟩ := SL_280 hP
  obtain ⟨τ1, a1, a2, a3⟩ := x_splits hP h14 h13
  have hX1 : XT τ1 19 A := XT_cong (fun c a b j => a3.1 c j (by omega)) (fun _ _ => rfl) W hX
  obtain ⟨τ, b1, b2, b3, b4⟩ := x_walk hX1 W (by rw [← h13]; funext j; exact a3.1 _ _ (by omega))
  have bL : gL τ = gL τ1 := by show τ.2.1 = τ1.2.1; rw [b4]
  have bR : gR τ = gR τ1 := by show τ.2.2 = τ1.2.2; rw [b4]
  have hREP : REP τ (SL (A 1)) := ⟨(b3 _ _ (by omega)).trans a2.1, fun s e he => by rw [b3 _ _ (by omega), b3 _ _ (by omega), b3 _ _ (by omega), bL]; exact a2.2 s e he⟩
  have h0 : gI τ 15 0 = 0 := (b3 _ _ (by omega)).trans ((a3.1 _ _ (by omega)).trans h15)
  refine ⟨τ1, τ, a1, b1, ⟨hREP, fun s e he => ?_⟩, fun c j q => (b3 c j (by omega)).trans (a3.1 c j (by omega)), fun c j q => by rw [bL]; exact a3.2.1 c j q, bR.trans a3.2.2⟩
  have hm := List.mem_of_getElem? he
  obtain ⟨s1, s2, s3⟩ := SL_mem hP hm
  obtain ⟨l1, l2, l3⟩ := SL_b hP hm
  have hdc : ∀ t, t < 2 ^ A 1 → (t = 0 ∨ t < 512 ∧ bN t = 3) → gI τ 15 t = nI (dc A t) ∧ dc A t ≤ 120 := fun t ht h => by
    unfold dc
    rcases h with rfl | ⟨h5, h3⟩
    · rw [if_pos rfl, h0]; exact ⟨rfl, Nat.zero_le _⟩
    · rw [if_neg (fun q => by subst q; exact absurd h3 (by decide +kernel))]
      exact ⟨b2 t h5 h3 ht, dC_le W ht h5 h3⟩
  obtain ⟨d1, m1⟩ := hdc _ l1 (Or.inr s1)
  obtain ⟨d2, m2⟩ := hdc _ l2 s2
  obtain ⟨d3, m3⟩ := hdc _ l3 s3
  exact ⟨x_doneBy hREP n280 he ⟨by omega, by omega, by omega⟩ ⟨d1, d2, d3⟩, by unfold ds; omega⟩
/-! the reference's most -/
theorem m_days {σ : Sg} {A : Nat → Nat} {v1 : Int32} (hM : MS σ 72 0 A) (W : WT A) : ∃ o, lp (b_m_most_36 v1) 100000 (σ, 0) = some o ∧ (∀ t, t < 2 ^ A 1 → bN t = 3 → gI o.1 82 t = nI (dC A t)) ∧ (∀ c j, ¬ (c = 71 ∧ j = 9 ∨ 76 ≤ c ∧ c ≤ 78 ∨ c = 82) → gI o.1 c j = gI σ c j) ∧ o.1.2 = σ.2 := by
  have n9 := W.2.2.1
  have hpw := pow_le (A 1) (by omega)
  refine lp_ex (b := b_m_most_36 v1) (I := fun x n => ∃ k, x.2 = nI k ∧ k ≤ 2 ^ A 1 ∧ n = 2 ^ A 1 - k ∧ (∀ t, t < k → bN t = 3 → gI x.1 82 t = nI (dC A t)) ∧ (∀ c j, ¬ (c = 71 ∧ j = 9 ∨ 76 ≤ c ∧ c ≤ 78 ∨ c = 82) → gI x.1 c j = gI σ c j) ∧ x.1.2 = σ.2) (G := fun o => (∀ t, t < 2 ^ A 1 → bN t = 3 → gI o.1 82 t = nI (dC A t)) ∧ (∀ c j, ¬ (c = 71 ∧ j = 9 ∨ 76 ≤ c ∧ c ≤ 78 ∨ c = 82) → gI o.1 c j = gI σ c j) ∧ o.1.2 = σ.2) (fun x n hx => ?_) 100000 (2 ^ A 1) (σ, 0) (by omega) ⟨0, rfl, by omega, by omega, fun t ht => by omega, fun _ _ _ => rfl, rfl⟩
  obtain ⟨ρ, i⟩ := x
  obtain ⟨k, hk, k1, k2, i1, i2, i3⟩ := hx
  have hk : i = nI k := hk
  subst hk
  have i1 : ∀ t, t < k → bN t = 3 → gI ρ 82 t = nI (dC A t) := i1
  have i2 : ∀ c j, ¬ (c = 71 ∧ j = 9 ∨ 76 ≤ c ∧ c ≤ 78 ∨ c = 82) → gI ρ c j = gI σ c j := i2
  have i3 : ρ.2 = σ.2 := i3
  have hMρ : MS ρ 72 0 A := MS_cong (fun j => i2 _ _ (by omega)) hM
  have e1 : gI ρ 72 1 = nI (A 1) := M0 hMρ (by omega)
  by_cases d : k = 2 ^ A 1
  · refine Or.inr ⟨(ρ, nI k), ?_, fun t ht => i1 t (by omega), i2, i3⟩
    unfold b_m_most_36
    show ((s_m_people ρ).bind fun q5 => if ((1 : Int32) <<< (q5 &&& 31)) ≤ nI k then some (Sum.inr (ρ, nI k)) else _) = _
    rw [s_m_people, Option.bind_some, va_cl1, e1, shl_ok _ (by omega), if_pos (by rw [nI_leI (by omega) (by omega)]; omega)]
  have h5 : k < 512 := by omega
  obtain ⟨b1, b2, -⟩ := bN_ok k h5
  have hb0 : b_m_most_36 v1 (ρ, nI k) = if bN k = 3 then ((s_m_goDay ρ (nI k)).bind fun q11 => some (.inl (pI q11.2 82 k q11.1, nI (k + 1)))) else some (.inl (pI ρ 82 k 0, nI (k + 1))) := by
    unfold b_m_most_36
    show ((s_m_people ρ).bind fun q5 => if ((1 : Int32) <<< (q5 &&& 31)) ≤ nI k then _ else (s_m_bits (nI k)).bind fun q6 => if q6 = 3 then ((s_m_goDay ρ (nI k)).bind fun q11 => if inB (nI k) 512 = true then some (Sum.inl (pI q11.2 82 (Int32.toNatClampNeg (nI k)) q11.1, nI k + 1)) else none) else (if inB (nI k) 512 = true then some (Sum.inl (pI ρ 82 (Int32.toNatClampNeg (nI k)) 0, nI k + 1)) else none)) = _
    rw [s_m_people, Option.bind_some, va_cl1, e1, shl_ok _ (by omega), if_neg (by rw [nI_leI (by omega) (by omega)]; omega), b1, Option.bind_some, nI_1, inB_nI h5 (by omega), nI_clamp (by omega)]
    by_cases c : bN k = 3
    · rw [if_pos c, if_pos (show nI (bN k) = (3 : Int32) by rw [c]; rfl)]; rfl
    · rw [if_neg c, if_neg (show ¬ nI (bN k) = (3 : Int32) from fun q => c ((nI_eq (b := 3) (by omega) (by omega)).mp q))]; rfl
  left
  by_cases c : bN k = 3
  · obtain ⟨τ, g1, g2, g3, g4⟩ := m_goDay hMρ W (show k < 2 ^ A 1 by omega) h5 c
    rw [if_pos c, g1, Option.bind_some] at hb0
    refine ⟨_, 2 ^ A 1 - (k + 1), hb0, by omega, k + 1, rfl, by omega, rfl, fun t ht h3 => ?_, fun c j q => ?_, g4.trans i3⟩
    · show gI (pI τ 82 k _) 82 t = _
      by_cases e : t = k
      · subst e; rw [gI_eq]
      · rw [gI_ne (by omega), g3 _ _ (by omega)]; exact i1 t (by omega) h3
    · show gI (pI τ 82 k _) c j = _
      rw [gI_ne (by omega), g3 _ _ (by omega)]; exact i2 c j q
  · rw [if_neg c] at hb0
    refine ⟨_, 2 ^ A 1 - (k + 1), hb0, by omega, k + 1, rfl, by omega, rfl, fun t ht h3 => ?_, fun c j q => ?_, i3⟩
    · show gI (pI ρ 82 k _) 82 t = _
      by_cases e : t = k
      · subst e; exact absurd h3 c
      · rw [gI_ne (by omega)]; exact i1 t (by omega) h3
    · show gI (pI ρ 82 k _) c j = _
      rw [gI_ne (by omega)]; exact i2 c j q
theorem rg_of {P s : Nat} {e : Nat × Nat × Nat} (he : (SL P)[s]? = some e) : rg P s = if P = 3 then (some e.1, none, none) else if P = 6 then (some e.1, some e.2.1, none) else (some e.1, some e.2.1, some e.2.2) := by
  unfold rg; rw [List.getD_eq_getElem?_getD, he]; rfl
theorem m_sum {ρ : Sg} {A : Nat → Nat} {P s : Nat} {e : Nat × Nat × Nat} {v1 v2 : Int32} (hP : P = 3 ∨ P = 6 ∨ P = 9) (h1 : gI ρ 72 1 = nI P) (he : (SL P)[s]? = some e) (H : RGB ρ (rg P s)) (hd : ∀ t, t < 2 ^ P → bN t = 3 → gI ρ 82 t = nI (dC A t)) : ∃ w, lp (b_m_most_93 ρ v1 v2) 100000 (0, 0) = some (nI (ds A e), w) := by
  have hd3 : nI P / 3 = nI (P / 3) := by rcases hP with rfl | rfl | rfl <;> rfl
  have hp : s_m_people ρ = some (nI P) := by rw [s_m_people, va_cl1, h1]
  have hm := List.mem_of_getElem? he
  obtain ⟨l1, l2, l3⟩ := SL_b hP hm
  have hpw := pow_le P (by omega)
  have hst : ∀ (acc k t : Nat), k < P / 3 → gI ρ 81 k = nI t → t < 2 ^ P → bN t = 3 → b_m_most_93 ρ v1 v2 (nI acc, nI k) = some (.inl (nI (acc + dc A t), nI (k + 1))) := fun acc k t hk h81 ht h3 => by
    have t0 : ¬ t = 0 := fun q => by subst q; exact absurd h3 (by decide +kernel)
    unfold b_m_most_93
    show ((s_m_people ρ).bind fun q19 => if q19 / 3 ≤ nI k then _ else (if inB (nI k) 3 = true then (if inB (gI ρ 81 (Int32.toNatClampNeg (nI k))) 512 = true then some (Sum.inl (nI acc + gI ρ 82 (Int32.toNatClampNeg (gI ρ 81 (Int32.toNatClampNeg (nI k)))), nI k + 1)) else none) else none)) = _
    rw [hp, Option.bind_some, hd3, if_neg (by rw [nI_leI (by omega) (by omega)]; omega), if_pos (inB_nI (by omega) (by omega)), nI_clamp (by omega), h81, if_pos (inB_nI (by omega) (by omega)), nI_clamp (by omega), hd t ht h3, nI_add, nI_1]
    unfold dc; rw [if_neg t0]
  have hE : ∀ acc k, k = P / 3 → b_m_most_93 ρ v1 v2 (acc, nI k) = some (.inr (acc, nI k)) := fun acc k hk => by
    unfold b_m_most_93
    show ((s_m_people ρ).bind fun q19 => if q19 / 3 ≤ nI k then some (Sum.inr (acc, nI k)) else _) = _
    rw [hp, Option.bind_some, hd3, if_pos (by rw [nI_leI (by omega) (by omega)]; omega)]
  rw [rg_of he] at H
  have p0 : dc A 0 = 0 := rfl
  unfold ds
  rcases hP with rfl | rfl | rfl
  · obtain ⟨⟨a5, a3⟩, b0, c0⟩ := SL_3 _ hm
    rw [if_pos rfl] at H
    rw [b0, c0, p0]
    have s0 := hst 0 0 e.1 (by omega) (H.1 0 (by omega)) l1 a3
    rw [Nat.zero_add] at s0
    exact ⟨_, (lp_step s0).trans (lp_end (n := 99998) (hE _ 1 rfl))⟩
  · obtain ⟨⟨a5, a3⟩, ⟨b5, b3⟩, c0⟩ := SL_6 _ hm
    rw [if_neg (by omega), if_pos rfl] at H
    rw [c0, p0]
    have s0 := hst 0 0 e.1 (by omega) (H.1 0 (by omega)) l1 a3
    rw [Nat.zero_add] at s0
    have s1 := hst (dc A e.1) 1 e.2.1 (by omega) (H.1 1 (by omega)) l2 b3
    exact ⟨_, (lp_step s0).trans ((lp_step s1).trans (lp_end (n := 99997) (hE _ 2 rfl)))⟩
  · obtain ⟨⟨a5, a3⟩, ⟨b5, b3⟩, c5, c3⟩ := SL_9 _ hm
    rw [if_neg (by omega), if_neg (by omega)] at H
    have s0 := hst 0 0 e.1 (by omega) (H.1 0 (by omega)) l1 a3
    rw [Nat.zero_add] at s0
    have s1 := hst (dc A e.1) 1 e.2.1 (by omega) (H.1 1 (by omega)) l2 b3
    have s2 := hst (dc A e.1 + dc A e.2.1) 2 e.2.2 (by omega) (H.1 2 (by omega)) l3 c3
    exact ⟨_, (lp_step s0).trans ((lp_step s1).trans ((lp_step s2).trans (lp_end (n := 99996) (hE _ 3 rfl))))⟩
theorem m_copy {ρ : Sg} {v1 v2 : Int32} : ∃ o, lp (b_m_most_135 v1 v2) 100000 (ρ, 0) = some o ∧ (∀ j, j < 3 → gI o.1 83 j = gI ρ 81 j) ∧ (∀ c j, ¬ c = 83 → gI o.1 c j = gI ρ c j) ∧ o.1.2 = ρ.2 := by
  have hs : ∀ (κ : Sg) (i : Nat), i < 3 → b_m_most_135 v1 v2 (κ, nI i) = some (.inl (pI κ 83 i (gI κ 81 i), nI (i + 1))) := fun κ i hi => by
    unfold b_m_most_135
    rw [if_neg (by show ¬ nI 3 ≤ nI i; rw [nI_leI (by omega) (by omega)]; omega)]
    show (if inB (nI i) 3 = true then (if inB (nI i) 3 = true then some (Sum.inl (pI κ 83 (Int32.toNatClampNeg (nI i)) (gI κ 81 (Int32.toNatClampNeg (nI i))), nI i + 1)) else none) else none) = _
    rw [if_pos (inB_nI (by omega) (by omega)), if_pos (inB_nI (by omega) (by omega)), nI_clamp (by omega), nI_1]
  have hE : ∀ κ, b_m_most_135 v1 v2 (κ, nI (2 + 1)) = some (.inr (κ, nI (2 + 1))) := fun κ => by
    unfold b_m_most_135; rw [if_pos (show (3 : Int32) ≤ nI (2 + 1) by decide)]
  refine ⟨_, (lp_step (hs ρ 0 (by omega))).trans ((lp_step (hs _ 1 (by omega))).trans ((lp_step (hs _ 2 (by omega))).trans (lp_end (n := 99996) (hE _)))), fun j hj => ?_, fun c j q => ?_, rfl⟩
  · have j3 : j = 0 ∨ j = 1 ∨ j = 2 := by omega
    rcases j3 with rfl | rfl | rfl
    · show gI (pI (pI (pI ρ 83 0 _) 83 1 _) 83 2 _) 83 0 = _
      rw [gI_ne (by omega), gI_ne (by omega), gI_eq]
    · show gI (pI (pI (pI ρ 83 0 _) 83 1 _) 83 2 _) 83 1 = _
      rw [gI_ne (by omega), gI_eq, gI_ne (by omega)]
    · show gI (pI (pI (pI ρ 83 0 _) 83 1 _) 83 2 _) 83 2 = _
      rw [gI_eq, gI_ne (by omega), gI_ne (by omega)]
  · show gI (pI (pI (pI ρ 83 0 _) 83 1 _) 83 2 _) c j = _
    rw [gI_ne (by omega), gI_ne (by omega), gI_ne (by omega)]
