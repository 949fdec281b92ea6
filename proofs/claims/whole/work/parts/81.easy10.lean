theorem errands_eq {σ : Sg} {A : Nat → Nat} (hM : MS σ 72 0 A) (hX : XT σ 19 A) (hW : WT A) : ∃ v, s_Town_errandsOfAll σ = some v ∧ s_m_allErrands σ = some v := by
  obtain ⟨N, hN⟩ : ∃ N, N = A 1 := ⟨_, rfl⟩
  have e1 : gI σ 19 6 = nI N := by rw [hN]; exact hX.2.1
  have m1 : gI σ 72 1 = nI N := by rw [hN]; exact M0 hM (by omega)
  have n9 : N ≤ 9 := by rw [hN]; exact hW.2.2.1
  have hb : ∀ (s : Int32) (k : Nat), k < N → b_Town_errandsOfAll_4 σ (s, nI k) = some (.inl (s + gI σ 22 k, nI (k + 1))) := fun s k hk => by
    unfold b_Town_errandsOfAll_4
    show (if gI σ 19 6 ≤ nI k then _ else (if inB (nI k) 9 = true then some (Sum.inl (s + gI σ 22 (Int32.toNatClampNeg (nI k)), nI k + 1)) else none)) = _
    rw [e1, if_neg (by rw [nI_leI (by omega) (by omega)]; omega), if_pos (inB_nI (by omega) (by omega)), nI_clamp (by omega), nI_1]
  have hb' : ∀ (s : Int32), b_Town_errandsOfAll_4 σ (s, nI N) = some (.inr (s, nI N)) := fun s => by
    unfold b_Town_errandsOfAll_4
    show (if gI σ 19 6 ≤ nI N then some (Sum.inr (s, nI N)) else _) = _
    rw [e1, if_pos (by rw [nI_leI (by omega) (by omega)]; omega)]
  have hc : ∀ (s : Int32) (k : Nat), k < N → b_m_allErrands_4 σ (s, nI k) = some (.inl (s + gI σ 22 k, nI (k + 1))) := fun s k hk => by
    have h22 := (hX.2.2 k (by omega)).2.2.1
    have h22' : gI σ 22 k = nI (A (4 + 11 * k)) := h22
    unfold b_m_allErrands_4
    rw [s_m_people, Option.bind_some, va_cl1, m1]
    show (if nI N ≤ nI k then _ else (s_m_of σ (nI k) 2).bind _) = _
    rw [if_neg (by rw [nI_leI (by omega) (by omega)]; omega), m_of2 (E := A (4 + 11 * k)) (M0 hM (by omega)) (by omega), Option.bind_some, h22']
    show some (Sum.inl (s + nI (A (4 + 11 * k)), nI k + 1)) = _
    rw [nI_1]
  have hc' : ∀ (s : Int32), b_m_allErrands_4 σ (s, nI N) = some (.inr (s, nI N)) := fun s => by
    unfold b_m_allErrands_4
    rw [s_m_people, Option.bind_some, va_cl1, m1]
    show (if nI N ≤ nI N then some (Sum.inr (s, nI N)) else _) = _
    rw [if_pos (by rw [nI_leI (by omega) (by omega)]; omega)]
  have hlp : lp (b_Town_errandsOfAll_4 σ) 100000 (0, 0) = lp (b_m_allErrands_4 σ) 100000 (0, 0) := lp_congr (I := fun x => ∃ k, x.2 = nI k ∧ k ≤ N) (fun x hx => by
    obtain ⟨s, i⟩ := x
    obtain ⟨k, hi, hk⟩ := hx
    have hi : i = nI k := hi
    subst hi
    by_cases z : k < N
    · exact ⟨by rw [hb s k z, hc s k z], fun y hy => by rw [hb s k z] at hy; cases hy; exact ⟨k + 1, rfl, by omega⟩⟩
    · have : k = N := by omega
      subst this
      exact ⟨by rw [hb', hc'], fun y hy => by rw [hb'] at hy; cases hy⟩) 100000 (0, 0) ⟨0, rfl, by omega⟩
  obtain ⟨z, hz, -⟩ := lp_ex (b := b_Town_errandsOfAll_4 σ) (I := fun x n => ∃ k, x.2 = nI k ∧ k ≤ N ∧ n = N - k) (G := fun _ => True) (fun x n hx => by
    obtain ⟨s, i⟩ := x
    obtain ⟨k, hi, hk, hn⟩ := hx
    have hi : i = nI k := hi
    subst hi
    by_cases z : k < N
    · exact Or.inl ⟨_, N - (k + 1), hb s k z, by omega, k + 1, rfl, by omega, rfl⟩
    · have : k = N := by omega
      subst this
      exact Or.inr ⟨_, hb' s, trivial⟩) 100000 N (0, 0) (by omega) ⟨0, rfl, by omega, by omega⟩
  exact ⟨z.1, by rw [s_Town_errandsOfAll, hz, Option.bind_some], by rw [s_m_allErrands, ← hlp, hz, Option.bind_some]⟩
/-- what count and digest tell of a number 0 to 5 -/
theorem counted_eq {σ : Sg} (hR : R σ) (k : Nat) : ∃ v, s_x_howMany σ (nI k) = some v ∧ s_m_counted σ (nI k) = some v := by
  obtain ⟨⟨A, hM, ⟨x1, x2, x3, x4⟩, w1, w2, w3, w4⟩, hI, ⟨n, hn, t1, t2, t3⟩, -⟩ := hR
  rw [s_x_howMany, s_m_counted]
  have c0 : gI σ 19 5 = gI σ 72 0 := by rw [M0 hM (by omega)]; exact x1.1
  have c1 : gI σ 19 6 = gI σ 72 1 := by rw [M0 hM (by omega)]; exact x1.2.1
  have c3 : gI σ 25 6 = gI σ 72 108 := by rw [M0 hM (by omega)]; exact x3.1
  have c4 : gI σ 25 7 = gI σ 72 127 := by rw [M0 hM (by omega)]; exact x4.1
  by_cases h0 : nI k = 0
  · rw [if_pos h0, if_pos h0]; exact ⟨_, rfl, by rw [c0]; rfl⟩
  rw [if_neg h0, if_neg h0]
  by_cases h1 : nI k = 1
  · rw [if_pos h1, if_pos h1]; exact ⟨_, rfl, by rw [c1]; rfl⟩
  rw [if_neg h1, if_neg h1]
  by_cases h2 : nI k = 2
  · rw [if_pos h2, if_pos h2]
    obtain ⟨v, a, b⟩ := errands_eq hM x1 w1
    exact ⟨v, by rw [a]; rfl, by rw [b]; rfl⟩
  rw [if_neg h2, if_neg h2]
  by_cases h3 : nI k = 3
  · rw [if_pos h3, if_pos h3]; exact ⟨_, rfl, by rw [c3]; rfl⟩
  rw [if_neg h3, if_neg h3]
  by_cases h4 : nI k = 4
  · rw [if_pos h4, if_pos h4]; exact ⟨_, rfl, by rw [c4]; rfl⟩
  rw [if_neg h4, if_neg h4]
  exact ⟨_, rfl, by rw [t1, t2]⟩
theorem al_count {σ : Sg} (a : Int32) (hR : R σ) : Alike R σ (fun τ => s_x_count τ a) (fun τ => s_m_count τ a) := by
  by_cases ha : 0 ≤ a.toInt ∧ a.toInt ≤ 5
  · obtain ⟨k, -, -, rfl, -, -⟩ := b32 (n := 5) ha (by omega) (by omega)
    obtain ⟨v, h1, h2⟩ := counted_eq hR k
    refine ⟨v, σ, σ, ?_, ?_, hR⟩
    · show s_x_count σ (nI k) = _
      rw [s_x_count, if_neg (by rw [l32 rfl (show (0 : Int32).toInt = 0 from rfl)]; omega), if_pos (by rw [e32 rfl (show (5 : Int32).toInt = 5 from rfl)]; omega), h1, Option.bind_some]
    · show s_m_count σ (nI k) = _
      rw [s_m_count, m_in32 (nI k) (x := 0) (y := 5) rfl rfl, if_pos ha, Option.bind_some, if_neg (by decide), h2, Option.bind_some]
  · refine al_bad (-2) hR ?_ ?_
    · show s_x_count σ a = _
      rw [s_x_count]
      by_cases c : a < 0
      · rw [if_pos c, bEta]
      · rw [if_neg c, if_neg (by rw [l32 rfl (show (0 : Int32).toInt = 0 from rfl)] at c; rw [e32 rfl (show (5 : Int32).toInt = 5 from rfl)]; omega), bEta]
    · show s_m_count _ a = _
      rw [s_m_count, m_in32 a (x := 0) (y := 5) rfl rfl, if_neg ha, Option.bind_some, if_pos rfl, bEta]
