/-- a round: a three of the least one left and two drawn -/
def rd (n m : Nat) : Nat × Nat × Nat := dr (dr (n, m - lowN m, lowN m))
theorem rd_inv {n m : Nat} (hm : m < 512) (hb : 3 ≤ bN m) : (rd n m).1 < 2147483648 ∧ (rd n m).2.1 < 512 ∧ bN (rd n m).2.1 + 3 = bN m ∧ (rd n m).2.2 < 512 ∧ ∀ p, (m.testBit p = ((rd n m).2.2.testBit p || (rd n m).2.1.testBit p)) ∧ ((rd n m).2.2.testBit p && (rd n m).2.1.testBit p) = false := by
  have h0 : m ≠ 0 := by
    intro q; subst q; exact absurd hb (by decide +kernel)
  obtain ⟨l1, l2, l3, l4, l5, l6, l7⟩ := low_ok m hm h0
  have hm1 : m - lowN m < 512 := by omega
  obtain ⟨a1, a2, a3, a4, a5⟩ := dr_inv (n := n) (t := lowN m) hm1 (by omega)
  generalize hs : dr (n, m - lowN m, lowN m) = s at a1 a2 a3 a4 a5
  obtain ⟨n1, m1, t1⟩ := s
  obtain ⟨b1, b2, b3, b4, b5⟩ := dr_inv (n := n1) (m := m1) (t := t1) a2 (by show 1 ≤ bN m1; have : bN m1 + 1 = bN (m - lowN m) := a3; omega)
  have e : rd n m = dr (n1, m1, t1) := by unfold rd; rw [hs]
  rw [e]
  have a3' : bN m1 + 1 = bN (m - lowN m) := a3
  refine ⟨b1, b2, by omega, b4 (a4 l4), fun p => ?_⟩
  obtain ⟨c1, c2, c3⟩ := a5 p
  obtain ⟨d1, d2, d3⟩ := b5 p
  have g1 : m.testBit p = ((lowN m).testBit p || (m - lowN m).testBit p) := by rw [← Nat.testBit_or, l7]
  have g2 : ((lowN m).testBit p && (m - lowN m).testBit p) = false := by rw [← Nat.testBit_and, l6]; exact Nat.zero_testBit p
  have c1' : t1.testBit p = _ := c1
  have c2' : (m - lowN m).testBit p = (_ || m1.testBit p) := c2
  have c3' : (_ && m1.testBit p) = false := c3
  rw [d1, c1', g1]
  rw [c2'] at g2 ⊢
  rw [d2] at g2 c3' ⊢
  generalize (dr (n1, m1, t1)).2.1.testBit p = A at *
  generalize (nthN m1 (nx n1 / 65536 % bN m1)).testBit p = B at *
  generalize (nthN (m - lowN m) (nx n / 65536 % bN (m - lowN m))).testBit p = C at *
  generalize (lowN m).testBit p = D at *
  revert g2 c3' d3
  cases A <;> cases B <;> cases C <;> cases D <;> decide
theorem rd_lpx {σ : Sg} {v6 : Int32} {n m : Nat} (hn : n < 2147483648) (hm : m < 512) (hb : 3 ≤ bN m) : lp (b_x_drawLots_47 σ v6) 100000 (nL n, nI (m - lowN m), nI (lowN m), 0) = some (nL (rd n m).1, nI (rd n m).2.1, nI (rd n m).2.2, nI 2) := by
  have h0 : m ≠ 0 := by
    intro q; subst q; exact absurd hb (by decide +kernel)
  obtain ⟨l1, l2, l3, l4, l5, l6, l7⟩ := low_ok m hm h0
  obtain ⟨a1, a2, a3, a4, a5⟩ := dr_inv (n := n) (m := m - lowN m) (t := lowN m) (by omega) (by omega)
  have e1 := dr_x (σ := σ) (v6 := v6) (n := n) (m := m - lowN m) (t := lowN m) (k := 0) hn (by omega) (by omega) (by omega)
  unfold rd
  generalize dr (n, m - lowN m, lowN m) = s at a1 a2 a3 a4 a5 e1 ⊢
  obtain ⟨n1, m1, t1⟩ := s
  have a3' : bN m1 + 1 = bN (m - lowN m) := a3
  have e2 := dr_x (σ := σ) (v6 := v6) (n := n1) (m := m1) (t := t1) (k := 1) a1 a2 (by omega) (by omega)
  refine (lp_step e1).trans ((lp_step e2).trans (lp_end (n := 99997) ?_))
  unfold b_x_drawLots_47
  rw [if_pos (show (2 : Int32) ≤ nI 2 by decide)]
theorem rd_lpm {σ : Sg} {v2 v6 : Int32} {n m : Nat} (hn : n < 2147483648) (hm : m < 512) (hb : 3 ≤ bN m) : lp (b_m_lot_83 σ v2 v6) 100000 (nL n, nI (m - lowN m), nI (lowN m), 0) = some (nL (rd n m).1, nI (rd n m).2.1, nI (rd n m).2.2, nI 2) := by
  have h0 : m ≠ 0 := by
    intro q; subst q; exact absurd hb (by decide +kernel)
  obtain ⟨l1, l2, l3, l4, l5, l6, l7⟩ := low_ok m hm h0
  obtain ⟨a1, a2, a3, a4, a5⟩ := dr_inv (n := n) (m := m - lowN m) (t := lowN m) (by omega) (by omega)
  have e1 := dr_m (σ := σ) (v2 := v2) (v6 := v6) (n := n) (m := m - lowN m) (t := lowN m) (k := 0) hn (by omega) (by omega) (by omega)
  unfold rd
  generalize dr (n, m - lowN m, lowN m) = s at a1 a2 a3 a4 a5 e1 ⊢
  obtain ⟨n1, m1, t1⟩ := s
  have a3' : bN m1 + 1 = bN (m - lowN m) := a3
  have e2 := dr_m (σ := σ) (v2 := v2) (v6 := v6) (n := n1) (m := m1) (t := t1) (k := 1) a1 a2 (by omega) (by omega)
  refine (lp_step e1).trans ((lp_step e2).trans (lp_end (n := 99997) ?_))
  rw [lot83_eq, if_pos (by decide)]
theorem x_round {σ : Sg} {n m i : Nat} (hn : n < 2147483648) (hm : m < 512) (hb : 3 ≤ bN m) (hi : i < 3) : b_x_drawLots_21 (σ, nL n, nI m, nI i) = some (.inl (pI σ 18 i (nI (rd n m).2.2), nL (rd n m).1, nI (rd n m).2.1, nI (i + 1))) := by
  have h0 : m ≠ 0 := by
    intro q; subst q; exact absurd hb (by decide +kernel)
  obtain ⟨l1, l2, l3, l4, l5, l6, l7⟩ := low_ok m hm h0
  unfold b_x_drawLots_21
  rw [if_neg (by show ¬ nI 3 ≤ nI i; rw [nI_leI (by omega) (by omega)]; omega), lt_eq, lt_eq]
  show ((lp (b_x_drawLots_47 σ (nI i)) 100000 (nL n, nI m &&& ((nI m &&& -(nI m)) ^^^ (-1)), nI m &&& -(nI m), 0)).bind _) = _
  rw [l1, l3, rd_lpx hn hm hb, Option.bind_some, if_pos (inB_nI (by omega) (by omega)), nI_clamp (by omega)]
  show some (Sum.inl (pI σ 18 i (nI (rd n m).2.2), nL (rd n m).1, nI (rd n m).2.1, nI i + 1)) = _
  rw [nI_1]
theorem x_round0 {σ : Sg} {n i : Nat} (hn : n < 2147483648) (hi : i < 3) : b_x_drawLots_21 (σ, nL n, nI 0, nI i) = some (.inl (pI σ 18 i (nI 0), nL (nx (nx n)), nI 0, nI (i + 1))) := by
  unfold b_x_drawLots_21
  rw [if_neg (by show ¬ nI 3 ≤ nI i; rw [nI_leI (by omega) (by omega)]; omega), lt_eq, lt_eq]
  have e1 := dr_x0 (σ := σ) (v6 := nI i) (n := n) (t := 0) (k := 0) hn (by omega)
  have e2 := dr_x0 (σ := σ) (v6 := nI i) (n := nx n) (t := 0) (k := 1) (nx_lt n) (by omega)
  have : lp (b_x_drawLots_47 σ (nI i)) 100000 (nL n, nI 0, nI 0, nI 0) = some (nL (nx (nx n)), nI 0, nI 0, nI 2) := by
    refine (lp_step e1).trans ((lp_step e2).trans (lp_end (n := 99997) ?_))
    unfold b_x_drawLots_47
    rw [if_pos (show (2 : Int32) ≤ nI 2 by decide)]
  show ((lp (b_x_drawLots_47 σ (nI i)) 100000 (nL n, nI 0 &&& ((nI 0 &&& -(nI 0)) ^^^ (-1)), nI 0 &&& -(nI 0), nI 0)).bind _) = _
  rw [show nI 0 &&& -(nI 0) = nI 0 from by decide +kernel, show nI 0 &&& (nI 0 ^^^ (-1)) = nI 0 from by decide +kernel]
  rw [this, Option.bind_some, if_pos (inB_nI (by omega) (by omega)), nI_clamp (by omega)]
  show some (Sum.inl (pI σ 18 i (nI 0), nL (nx (nx n)), nI 0, nI i + 1)) = _
  rw [nI_1]
def fd (v2 : Int32) (t : Nat) (f : Int32) : Int32 := if ((nI t >>> (v2 &&& 31)) &&& 1) = 1 then nI t else f
theorem m_round {σ : Sg} {v2 f : Int32} {n m : Nat} (hn : n < 2147483648) (hm : m < 512) (hb : 3 ≤ bN m) : b_m_lot_57 σ v2 (nL n, nI m, f) = some (.inl (nL (rd n m).1, nI (rd n m).2.1, fd v2 (rd n m).2.2 f)) := by
  have h0 : m ≠ 0 := by
    intro q; subst q; exact absurd hb (by decide +kernel)
  obtain ⟨l1, l2, l3, l4, l5, l6, l7⟩ := low_ok m hm h0
  unfold b_m_lot_57
  rw [if_neg (nI_ne0 (by omega) (by omega))]
  cases hl : s_m_least (nI m) with
  | none => rw [hl] at l2; cases l2
  | some q =>
    rw [hl, Option.bind_some] at l2
    rw [Option.bind_some, lt_eq, lt_eq, Option.some.inj l2, l3]
    show ((lp (b_m_lot_83 σ v2 f) 100000 (nL n, nI (m - lowN m), nI (lowN m), 0)).bind _) = _
    rw [rd_lpm hn hm hb, Option.bind_some]
    unfold fd
    by_cases c : ((nI (rd n m).2.2 >>> (v2 &&& 31)) &&& 1) = 1
    · rw [if_pos c, if_pos c]
    · rw [if_neg c, if_neg c]
