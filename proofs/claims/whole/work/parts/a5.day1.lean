/-- who is in a three, rising -/
def wm (m j : Nat) : Nat := ((List.range 9).filter (fun p => m.testBit p)).getD j 0
def cn (m k : Nat) : Nat := ((List.range k).filter (fun p => m.testBit p)).length
theorem mem_ok1 : ∀ m, m < 512 → bN m = 3 → cn m 0 = 0 ∧ cn m 9 = 3 := by decide +kernel
theorem mem_ok2a : ∀ m, m < 512 → bN m = 3 → ∀ k, k < 9 → m.testBit k = true → cn m (k + 1) = cn m k + 1 ∧ wm m (cn m k) = k ∧ cn m k < 3 := by decide +kernel
theorem mem_ok2b : ∀ m, m < 512 → bN m = 3 → ∀ k, k < 9 → m.testBit k = false → cn m (k + 1) = cn m k := by decide +kernel
theorem mem_ok2 : ∀ m, m < 512 → bN m = 3 → ∀ k, k < 9 → (m.testBit k = true → cn m (k + 1) = cn m k + 1 ∧ wm m (cn m k) = k ∧ cn m k < 3) ∧ (m.testBit k = false → cn m (k + 1) = cn m k) := fun m a b k c => ⟨mem_ok2a m a b k c, mem_ok2b m a b k c⟩
theorem mem_ok3 : ∀ m, m < 512 → bN m = 3 → wm m 0 < wm m 1 ∧ wm m 1 < wm m 2 ∧ wm m 2 < 9 := by decide +kernel
theorem mem_ok4 : ∀ m, m < 512 → bN m = 3 → ∀ j, j < 3 → m.testBit (wm m j) = true := by decide +kernel
theorem mem_ok5 : ∀ m, m < 512 → bN m = 3 → ∀ k, k < 9 → m.testBit k = true → k = wm m 0 ∨ k = wm m 1 ∨ k = wm m 2 := by decide +kernel
theorem mem_ok : ∀ m, m < 512 → bN m = 3 → (cn m 0 = 0 ∧ cn m 9 = 3) ∧ (∀ k, k < 9 → (m.testBit k = true → cn m (k + 1) = cn m k + 1 ∧ wm m (cn m k) = k ∧ cn m k < 3) ∧ (m.testBit k = false → cn m (k + 1) = cn m k)) ∧ (wm m 0 < wm m 1 ∧ wm m 1 < wm m 2 ∧ wm m 2 < 9) ∧ (∀ j, j < 3 → m.testBit (wm m j) = true) ∧ (∀ k, k < 9 → m.testBit k = true → k = wm m 0 ∨ k = wm m 1 ∨ k = wm m 2) := fun m a b => ⟨mem_ok1 m a b, mem_ok2 m a b, mem_ok3 m a b, mem_ok4 m a b, mem_ok5 m a b⟩
theorem cn_N : ∀ N, N < 10 → ∀ m, m < 2 ^ N → bN m = 3 → cn m N = 3 := by decide +kernel
theorem cn_le : ∀ m, m < 512 → bN m = 3 → ∀ k, k < 10 → cn m k ≤ 3 := by decide +kernel
theorem is3_nI {N : Nat} {a : Int32} (hN : N ≤ 9) (h : is3 N a) : ∃ m, m < 2 ^ N ∧ m < 512 ∧ a = nI m ∧ bN m = 3 := by
  obtain ⟨m, m1, m2, rfl⟩ := isG_nI hN h.1
  refine ⟨m, m1, m2, rfl, ?_⟩
  have := h.2
  obtain ⟨b1, b2, -⟩ := bN_ok m m2
  rw [b1] at this
  exact (nI_eq (b := 3) (by omega) (by omega)).mp (Option.some.inj this)
theorem wm_lt {N m : Nat} (hN : N ≤ 9) (hm : m < 2 ^ N) (h5 : m < 512) (h3 : bN m = 3) {j : Nat} (hj : j < 3) : wm m j < N := by
  have h := (mem_ok m h5 h3).2.2.2.1 j hj
  by_cases c : wm m j < N
  · exact c
  · rw [Nat.testBit_lt_two_pow (Nat.lt_of_lt_of_le hm (Nat.pow_le_pow_right (by omega) (by omega)))] at h
    cases h
theorem x_begin {σ : Sg} {N m : Nat} (h6 : gI σ 19 6 = nI N) (hN : N ≤ 9) (hm : m < 2 ^ N) (h5 : m < 512) (h3 : bN m = 3) : ∃ τ, s_Day_begin σ (nI m) = some τ ∧ (∀ j, j < 3 → gI τ 33 j = nI (wm m j)) ∧ (∀ j, j < 36 → gI τ 36 j = 0) ∧ gI τ 31 8 = 0 ∧ gI τ 31 9 = 0 ∧ (∀ c j, ¬ (c = 33 ∨ c = 36 ∨ c = 31) → gI τ c j = gI σ c j) ∧ τ.2 = σ.2 := by
  obtain ⟨⟨c0, c9⟩, ck, -, -, -⟩ := mem_ok m h5 h3
  have cN := cn_N N (by omega) m hm h3
  have cl := cn_le m h5 h3
  rw [s_Day_begin, lt_eq, lt_eq]
  generalize hρ : pI (pI σ 31 8 0) 31 9 0 = ρ
  have r8 : gI ρ 31 8 = 0 := by rw [← hρ, gI_ne (by omega), gI_eq]
  have r9 : gI ρ 31 9 = 0 := by rw [← hρ, gI_eq]
  have rz : ∀ c j, ¬ c = 31 → gI ρ c j = gI σ c j := fun c j h => by rw [← hρ, gI_ne (by omega), gI_ne (by omega)]
  have r2 : ρ.2 = σ.2 := by rw [← hρ]; rfl
  obtain ⟨z, hz, g1, g2, g3⟩ := lp_ex (b := b_Day_begin_14 (nI m)) (I := fun x n => ∃ k, x.2.2 = nI k ∧ k ≤ N ∧ n = N - k ∧ x.2.1 = nI (cn m k) ∧ (∀ j, j < cn m k → gI x.1 33 j = nI (wm m j)) ∧ (∀ c j, ¬ c = 33 → gI x.1 c j = gI ρ c j) ∧ x.1.2 = ρ.2) (G := fun x => (∀ j, j < 3 → gI x.1 33 j = nI (wm m j)) ∧ (∀ c j, ¬ c = 33 → gI x.1 c j = gI ρ c j) ∧ x.1.2 = ρ.2) (fun x n hx => by
    obtain ⟨τ, i, p⟩ := x
    obtain ⟨k, hp, k1, k2, hi, i1, i2, i3⟩ := hx
    have hp : p = nI k := hp
    have hi : i = nI (cn m k) := hi
    have i1 : ∀ j, j < cn m k → gI τ 33 j = nI (wm m j) := i1
    have i2 : ∀ c j, ¬ c = 33 → gI τ c j = gI ρ c j := i2
    subst hp; subst hi
    have clk := cl k (by omega)
    have e6 : gI τ 19 6 = nI N := by rw [i2 _ _ (by omega), rz _ _ (by omega), h6]
    by_cases d : k = N
    · subst d
      refine Or.inr ⟨_, ?_, fun j hj => i1 j (by omega), i2, i3⟩
      unfold b_Day_begin_14
      show (if gI τ 19 6 ≤ nI k then _ else _) = _
      rw [e6, if_pos (by rw [nI_leI (by omega) (by omega)]; omega)]
    by_cases d3 : cn m k = 3
    · refine Or.inr ⟨(τ, nI (cn m k), nI k), ?_, fun j hj => i1 j (by omega), i2, i3⟩
      unfold b_Day_begin_14
      show (if gI τ 19 6 ≤ nI k then _ else if nI 3 ≤ nI (cn m k) then some (Sum.inr (τ, nI (cn m k), nI k)) else _) = _
      rw [e6, if_neg (by rw [nI_leI (by omega) (by omega)]; omega), if_pos (by rw [nI_leI (by omega) (by omega)]; omega)]
    left
    have hb : b_Day_begin_14 (nI m) (τ, nI (cn m k), nI k) = if ((nI m >>> (nI k &&& 31)) &&& 1) = 1 then some (.inl (pI τ 33 (cn m k) (nI k), nI (cn m k + 1), nI (k + 1))) else some (.inl (τ, nI (cn m k), nI (k + 1))) := by
      unfold b_Day_begin_14
      show (if gI τ 19 6 ≤ nI k then _ else if nI 3 ≤ nI (cn m k) then _ else (s_x_isIn (nI m) (nI k)).bind _) = _
      rw [e6, if_neg (by rw [nI_leI (by omega) (by omega)]; omega), if_neg (by rw [nI_leI (by omega) (by omega)]; omega), s_x_isIn]
      by_cases c : ((nI m >>> (nI k &&& 31)) &&& 1) = 1
      · rw [if_pos c, if_pos c, Option.bind_some, if_neg (by decide), if_pos (inB_nI (by omega) (by omega)), lt_eq, lt_eq, lt_eq, nI_clamp (by omega), nI_1, nI_1]
      · rw [if_neg c, if_neg c, Option.bind_some, if_pos rfl, lt_eq, nI_1]
    obtain ⟨ca, cb⟩ := ck k (by omega)
    have tb := tb_ok m h5 k (by omega)
    rw [hb]
    by_cases c : ((nI m >>> (nI k &&& 31)) &&& 1) = 1
    · obtain ⟨q1, q2, q3⟩ := ca (tb.mp c)
      rw [if_pos c]
      refine ⟨_, N - (k + 1), rfl, by omega, k + 1, rfl, by omega, rfl, ?_, fun j hj => ?_, fun c j h => ?_, i3⟩
      · show nI (cn m k + 1) = _; rw [q1]
      · show gI (pI τ 33 (cn m k) (nI k)) 33 j = _
        by_cases e : j = cn m k
        · subst e; rw [gI_eq, q2]
        · rw [gI_ne (by omega), i1 j (by omega)]
      · show gI (pI τ 33 (cn m k) (nI k)) c j = _
        rw [gI_ne (by omega), i2 c j h]
    · have q1 := cb (by cases h : m.testBit k; rfl; exact absurd (tb.mpr h) c)
      rw [if_neg c]
      exact ⟨_, N - (k + 1), rfl, by omega, k + 1, rfl, by omega, rfl, by show nI (cn m k) = _; rw [q1], fun j hj => i1 j (by omega), i2, i3⟩) 100000 N (ρ, 0, 0) (by omega) ⟨0, rfl, by omega, by omega, by rw [c0]; rfl, fun j hj => by omega, fun _ _ _ => rfl, rfl⟩
  rw [hz, Option.bind_some]
  obtain ⟨κ, i, p⟩ := z
  have g1 : ∀ j, j < 3 → gI κ 33 j = nI (wm m j) := g1
  have g2 : ∀ c j, ¬ c = 33 → gI κ c j = gI ρ c j := g2
  have g3 : κ.2 = ρ.2 := g3
  obtain ⟨y, hy, y1, y2, y3⟩ := lp_ex (b := b_Day_begin_56) (I := fun x n => ∃ k, x.2 = nI k ∧ k ≤ 36 ∧ n = 36 - k ∧ (∀ j, j < k → gI x.1 36 j = 0) ∧ (∀ c j, ¬ c = 36 → gI x.1 c j = gI κ c j) ∧ x.1.2 = κ.2) (G := fun x => (∀ j, j < 36 → gI x.1 36 j = 0) ∧ (∀ c j, ¬ c = 36 → gI x.1 c j = gI κ c j) ∧ x.1.2 = κ.2) (fun x n hx => by
    obtain ⟨τ, p⟩ := x
    obtain ⟨k, hp, k1, k2, i1, i2, i3⟩ := hx
    have hp : p = nI k := hp
    subst hp
    have i1 : ∀ j, j < k → gI τ 36 j = 0 := i1
    have i2 : ∀ c j, ¬ c = 36 → gI τ c j = gI κ c j := i2
    by_cases d : k = 36
    · subst d
      refine Or.inr ⟨(τ, nI 36), ?_, i1, i2, i3⟩
      unfold b_Day_begin_56
      rw [if_pos (show (36 : Int32) ≤ nI 36 by decide)]
    · refine Or.inl ⟨(pI τ 36 k 0, nI (k + 1)), 36 - (k + 1), ?_, by omega, k + 1, rfl, by omega, rfl, fun j hj => ?_, fun c j h => ?_, i3⟩
      · unfold b_Day_begin_56
        rw [if_neg (by show ¬ nI 36 ≤ nI k; rw [nI_leI (by omega) (by omega)]; omega)]
        show (if inB (nI k) 36 = true then _ else _) = _
        rw [if_pos (inB_nI (by omega) (by omega)), lt_eq, lt_eq, nI_clamp (by omega)]
        show some (Sum.inl (pI τ 36 k 0, nI k + 1)) = _
        rw [nI_1]
      · show gI (pI τ 36 k 0) 36 j = 0
        by_cases e : j = k
        · subst e; rw [gI_eq]
        · rw [gI_ne (by omega), i1 j (by omega)]
      · show gI (pI τ 36 k 0) c j = _
        rw [gI_ne (by omega), i2 c j h]) 100000 36 (κ, 0) (by omega) ⟨0, rfl, by omega, by omega, fun j hj => by omega, fun _ _ _ => rfl, rfl⟩
  unfold j_Day_begin_54
  rw [show lp b_Day_begin_56 100000 ((κ, i, p).1, 0) = _ from hy, Option.bind_some]
  refine ⟨_, rfl, fun j hj => by rw [y2 _ _ (by omega), g1 j hj], y1, by rw [y2 _ _ (by omega), g2 _ _ (by omega), r8], by rw [y2 _ _ (by omega), g2 _ _ (by omega), r9], fun c j h => by rw [y2 _ _ (by omega), g2 _ _ (by omega), rz _ _ (by omega)], y3.trans (g3.trans r2)⟩
theorem m_take {σ : Sg} {m : Nat} (h5 : m < 512) (h3 : bN m = 3) : ∃ τ, s_m_takeThree σ (nI m) = some τ ∧ (∀ j, j < 3 → gI τ 76 j = nI (wm m j) ∧ gI τ 77 j = 0) ∧ gI τ 71 9 = 0 ∧ (∀ c j, ¬ (c = 76 ∨ c = 77 ∨ c = 71 ∧ j = 9) → gI τ c j = gI σ c j) ∧ τ.2 = σ.2 := by
  obtain ⟨⟨c0, c9⟩, ck, -, -, -⟩ := mem_ok m h5 h3
  have cl := cn_le m h5 h3
  rw [s_m_takeThree]
  obtain ⟨z, hz, g1, g2, g3⟩ := lp_ex (b := b_m_takeThree_4 (nI m)) (I := fun x n => ∃ k, x.2.2 = nI k ∧ k ≤ 9 ∧ n = 9 - k ∧ x.2.1 = nI (cn m k) ∧ (∀ j, j < cn m k → gI x.1 76 j = nI (wm m j) ∧ gI x.1 77 j = 0) ∧ (∀ c j, ¬ (c = 76 ∨ c = 77) → gI x.1 c j = gI σ c j) ∧ x.1.2 = σ.2) (G := fun x => (∀ j, j < 3 → gI x.1 76 j = nI (wm m j) ∧ gI x.1 77 j = 0) ∧ (∀ c j, ¬ (c = 76 ∨ c = 77) → gI x.1 c j = gI σ c j) ∧ x.1.2 = σ.2) (fun x n hx => by
    obtain ⟨τ, i, p⟩ := x
    obtain ⟨k, hp, k1, k2, hi, i1, i2, i3⟩ := hx
    have hp : p = nI k := hp
    have hi : i = nI (cn m k) := hi
    have i1 : ∀ j, j < cn m k → gI τ 76 j = nI (wm m j) ∧ gI τ 77 j = 0 := i1
    have i2 : ∀ c j, ¬ (c = 76 ∨ c = 77) → gI τ c j = gI σ c j := i2
    subst hp; subst hi
    have clk := cl k (by omega)
    by_cases d : k = 9
    · subst d
      refine Or.inr ⟨(τ, nI (cn m 9), nI 9), ?_, fun j hj => i1 j (by omega), i2, i3⟩
      unfold b_m_takeThree_4
      rw [if_pos (show (9 : Int32) ≤ nI 9 by decide)]
    left
    obtain ⟨ca, cb⟩ := ck k (by omega)
    have tb := tb_ok m h5 k (by omega)
    by_cases c : ((nI m >>> (nI k &&& 31)) &&& 1) = 1
    · obtain ⟨q1, q2, q3⟩ := ca (tb.mp c)
      refine ⟨(pI (pI τ 76 (cn m k) (nI k)) 77 (cn m k) 0, nI (cn m k + 1), nI (k + 1)), 9 - (k + 1), ?_, by omega, k + 1, rfl, by omega, rfl, ?_, fun j hj => ?_, fun c j h => ?_, i3⟩
      · unfold b_m_takeThree_4
        rw [if_neg (by show ¬ nI 9 ≤ nI k; rw [nI_leI (by omega) (by omega)]; omega)]
        show (if ((nI m >>> (nI k &&& 31)) &&& 1) = 1 then (if inB (nI (cn m k)) 3 = true then (if inB (nI (cn m k)) 3 = true then some (Sum.inl (pI (pI τ 76 (Int32.toNatClampNeg (nI (cn m k))) (nI k)) 77 (Int32.toNatClampNeg (nI (cn m k))) 0, nI (cn m k) + 1, nI k + 1)) else none) else none) else _) = _
        rw [if_pos c, if_pos (inB_nI (by omega) (by omega)), if_pos (inB_nI (by omega) (by omega)), nI_clamp (by omega), nI_1, nI_1]
      · show nI (cn m k + 1) = _; rw [q1]
      · show gI (pI (pI τ 76 (cn m k) (nI k)) 77 (cn m k) 0) 76 j = _ ∧ gI (pI (pI τ 76 (cn m k) (nI k)) 77 (cn m k) 0) 77 j = 0
        by_cases e : j = cn m k
        · subst e; rw [gI_ne (by omega), gI_eq, gI_eq, q2]; exact ⟨rfl, rfl⟩
        · rw [gI_ne (by omega), gI_ne (by omega), gI_ne (by omega), gI_ne (by omega)]; exact i1 j (by omega)
      · show gI (pI (pI τ 76 (cn m k) (nI k)) 77 (cn m k) 0) c j = _
        rw [gI_ne (by omega), gI_ne (by omega), i2 c j h]
    · have q1 := cb (by cases h : m.testBit k; rfl; exact absurd (tb.mpr h) c)
      refine ⟨(τ, nI (cn m k), nI (k + 1)), 9 - (k + 1), ?_, by omega, k + 1, rfl, by omega, rfl, by show nI (cn m k) = _; rw [q1], fun j hj => i1 j (by omega), i2, i3⟩
      unfold b_m_takeThree_4
      rw [if_neg (by show ¬ nI 9 ≤ nI k; rw [nI_leI (by omega) (by omega)]; omega)]
      show (if ((nI m >>> (nI k &&& 31)) &&& 1) = 1 then _ else some (Sum.inl (τ, nI (cn m k), nI k + 1))) = _
      rw [if_neg c, nI_1]) 100000 9 (σ, 0, 0) (by omega) ⟨0, rfl, by omega, by omega, by rw [c0]; rfl, fun j hj => by omega, fun _ _ _ => rfl, rfl⟩
  rw [hz, Option.bind_some, lt_eq]
  exact ⟨_, rfl, fun j hj => by rw [gI_ne (by omega), gI_ne (by omega)]; exact g1 j hj, gI_eq, fun c j h => by rw [gI_ne (by omega), g2 c j (by omega)], g3⟩
