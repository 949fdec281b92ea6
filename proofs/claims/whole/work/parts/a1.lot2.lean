theorem nI_or (x y : Nat) : nI x ||| nI y = nI (x ||| y) := by
  apply Int32.toBitVec_inj.mp
  rw [Int32.toBitVec_or]
  show BitVec.ofNat 32 x ||| BitVec.ofNat 32 y = BitVec.ofNat 32 (x ||| y)
  apply BitVec.eq_of_getLsbD_eq
  intro i hi
  simp [BitVec.getLsbD_or, BitVec.getLsbD_ofNat, Nat.testBit_or, hi]
def nL (n : Nat) : Int64 := Int64.ofNat n
/-- the next number of the draw -/
def nx (n : Nat) : Nat := (n * 1103515245 + 12345) % 2147483648
theorem nx_lt (n : Nat) : nx n < 2147483648 := Nat.mod_lt _ (by omega)
theorem nL_mod {a b : Nat} (ha : a < 2 ^ 63) (hb : b < 2 ^ 63) : nL a - nL a / nL b * nL b = nL (a % b) := by
  unfold nL
  rw [← Int64.ofNat_div ha hb, ← Int64.ofNat_mul, ← Int64.ofNat_sub _ _ (Nat.div_mul_le_self a b)]
  congr 1
  have := Nat.div_add_mod a b
  rw [Nat.mul_comm] at this
  omega
theorem nx_ok {n : Nat} (h : n < 2147483648) : ((nL n * 1103515245) + 12345) - ((nL n * 1103515245) + 12345) / 2147483648 * 2147483648 = nL (nx n) := by
  have e : (nL n * 1103515245) + 12345 = nL (n * 1103515245 + 12345) := by
    unfold nL; rw [Int64.ofNat_add, Int64.ofNat_mul]; rfl
  rw [e]
  exact nL_mod (b := 2147483648) (by omega) (by omega)
theorem nx_r {n c : Nat} (h : n < 2147483648) (hc : c < 10) : Int64.toInt32 ((nL n / 65536) - (nL n / 65536) / (Int32.toInt64 (nI c)) * (Int32.toInt64 (nI c))) = nI (n / 65536 % c) := by
  have e : nL n / 65536 = nL (n / 65536) := (Int64.ofNat_div (b := 65536) (by omega) (by omega)).symm
  have e2 : Int32.toInt64 (nI c) = nL c := Int32.toInt64_ofNat' (by rw [show Int32.maxValue.toInt = 2147483647 from rfl]; omega)
  rw [e, e2, nL_mod (by omega) (by omega)]
  exact Int64.toInt32_ofNat'
/-- one draw: the number, those left, the three so far -/
def dr (s : Nat × Nat × Nat) : Nat × Nat × Nat := (nx s.1, s.2.1 - nthN s.2.1 (nx s.1 / 65536 % bN s.2.1), s.2.2 ||| nthN s.2.1 (nx s.1 / 65536 % bN s.2.1))
theorem bc_eq {m : Nat} (h : m < 512) : s_Integer_bitCount (nI m) = some (nI (bN m)) := by rw [(bits_ok m h).1]; exact (bN_ok m h).1
theorem dr_x {σ : Sg} {v6 : Int32} {n m t k : Nat} (hn : n < 2147483648) (hm : m < 512) (hb : 1 ≤ bN m) (hk : k < 2) : b_x_drawLots_47 σ v6 (nL n, nI m, nI t, nI k) = some (.inl (nL (dr (n, m, t)).1, nI (dr (n, m, t)).2.1, nI (dr (n, m, t)).2.2, nI (k + 1))) := by
  have hc := bN_ok m hm
  obtain ⟨d1, d2, d3, d4, d5, d6, d7⟩ := nth_ok m hm (nx n / 65536 % bN m) (Nat.mod_lt _ (by omega))
  unfold b_x_drawLots_47
  rw [if_neg (by show ¬ nI 2 ≤ nI k; rw [nI_leI (by omega) (by omega)]; omega)]
  simp only [lt]
  rw [bc_eq hm, Option.bind_some, if_neg (nI_ne0 (by omega) (by omega)), if_pos (by
    intro q
    have e2 : Int32.toInt64 (nI (bN m)) = nL (bN m) := Int32.toInt64_ofNat' (by rw [show Int32.maxValue.toInt = 2147483647 from rfl]; omega)
    rw [e2] at q
    have := congrArg Int64.toInt q
    rw [show (nL (bN m)).toInt = (bN m : Int) from Int64.toInt_ofNat_of_lt (by omega), show (0 : Int64).toInt = 0 from rfl] at this
    omega)]
  unfold j_x_drawLots_98i47
  simp only [lt]
  rw [nx_ok hn, nx_r (nx_lt n) hc.2.1, d1, Option.bind_some, d3, nI_or, nI_1]
  rfl
theorem dr_x0 {σ : Sg} {v6 : Int32} {n t k : Nat} (hn : n < 2147483648) (hk : k < 2) : b_x_drawLots_47 σ v6 (nL n, nI 0, nI t, nI k) = some (.inl (nL (nx n), nI 0, nI t, nI (k + 1))) := by
  unfold b_x_drawLots_47
  rw [if_neg (by show ¬ nI 2 ≤ nI k; rw [nI_leI (by omega) (by omega)]; omega)]
  simp only [lt]
  rw [bc_eq (by omega), Option.bind_some, if_pos (show nI (bN 0) = 0 from by decide +kernel)]
  show some (Sum.inl ((((nL n * 1103515245) + 12345) - ((nL n * 1103515245) + 12345) / 2147483648 * 2147483648), nI 0 &&& (0 ^^^ (-1)), nI t ||| nI 0, nI k + 1)) = _
  rw [nx_ok hn, nI_or, nI_1, Nat.or_zero]; rfl
theorem mNth_bind {β : Type} {m r : Int32} (f : Int32 → Option β) : ((lp (b125 r) 100000 (m, 0)).bind fun o23 => (s_m_least o23.1).bind fun q24 => f ((1 : Int32) <<< (q24 &&& 31))) = (mNth m r).bind f := by
  unfold mNth
  generalize lp (b125 r) 100000 (m, 0) = w
  cases w with
  | none => rfl
  | some o =>
    rw [Option.bind_some, Option.bind_some]
    generalize s_m_least o.1 = u
    cases u <;> rfl
theorem b125_eq {σ : Sg} {v2 v5 v6 v7 v8 v9 : Int32} {v3 : Int64} : b_m_lot_125 σ v2 v3 v5 v6 v7 v8 v9 = b125 v9 := by funext x; rfl
theorem lt_eq {α β : Type} (v : α) (f : α → β) : lt v f = f v := rfl
theorem lot83_eq {σ : Sg} {v2 v6 : Int32} {x : Int64} {l t k : Int32} : b_m_lot_83 σ v2 v6 (x, l, t, k) =
  if 2 ≤ k then some (.inr (x, l, t, k)) else
    (s_m_bits l).bind fun q17 =>
    if ¬ (Int32.toInt64 q17) = 0 then
      (mNth l (Int64.toInt32 (((((x * 1103515245) + 12345) - ((x * 1103515245) + 12345) / 2147483648 * 2147483648) / 65536) - ((((x * 1103515245) + 12345) - ((x * 1103515245) + 12345) / 2147483648 * 2147483648) / 65536) / (Int32.toInt64 q17) * (Int32.toInt64 q17)))).bind fun one =>
      some (.inl ((((x * 1103515245) + 12345) - ((x * 1103515245) + 12345) / 2147483648 * 2147483648), l &&& (one ^^^ (-1)), t ||| one, k + 1))
    else none := by
  unfold b_m_lot_83
  show (if 2 ≤ k then _ else _) = _
  by_cases c : 2 ≤ k
  · rw [if_pos c, if_pos c]
  · rw [if_neg c, if_neg c]
    rw [lt_eq]
    generalize ((x * 1103515245) + 12345) - ((x * 1103515245) + 12345) / 2147483648 * 2147483648 = y
    generalize s_m_bits l = w
    cases w with
    | none => rw [Option.bind_none, Option.bind_none]
    | some q =>
      rw [Option.bind_some, Option.bind_some]
      by_cases d : ¬ (Int32.toInt64 q) = 0
      · rw [if_pos d, if_pos d, lt_eq, b125_eq]
        exact mNth_bind (m := l) (fun one => some (Sum.inl (y, l &&& (one ^^^ (-1)), t ||| one, k + 1)))
      · rw [if_neg d, if_neg d]
theorem dr_m {σ : Sg} {v2 v6 : Int32} {n m t k : Nat} (hn : n < 2147483648) (hm : m < 512) (hb : 1 ≤ bN m) (hk : k < 2) : b_m_lot_83 σ v2 v6 (nL n, nI m, nI t, nI k) = some (.inl (nL (dr (n, m, t)).1, nI (dr (n, m, t)).2.1, nI (dr (n, m, t)).2.2, nI (k + 1))) := by
  have hc := bN_ok m hm
  obtain ⟨d1, d2, d3, d4, d5, d6, d7⟩ := nth_ok m hm (nx n / 65536 % bN m) (Nat.mod_lt _ (by omega))
  rw [lot83_eq, if_neg (by show ¬ nI 2 ≤ nI k; rw [nI_leI (by omega) (by omega)]; omega), hc.1, Option.bind_some, if_pos (by
    intro q
    have e2 : Int32.toInt64 (nI (bN m)) = nL (bN m) := Int32.toInt64_ofNat' (by rw [show Int32.maxValue.toInt = 2147483647 from rfl]; omega)
    rw [e2] at q
    have := congrArg Int64.toInt q
    rw [show (nL (bN m)).toInt = (bN m : Int) from Int64.toInt_ofNat_of_lt (by omega), show (0 : Int64).toInt = 0 from rfl] at this
    omega), nx_ok hn, nx_r (nx_lt n) hc.2.1, d2, Option.bind_some, d3, nI_or, nI_1]
  rfl
/-- both draws of a three -/
theorem dr_inv {n m t : Nat} (hm : m < 512) (hb : 1 ≤ bN m) : (dr (n, m, t)).1 < 2147483648 ∧ (dr (n, m, t)).2.1 < 512 ∧ bN (dr (n, m, t)).2.1 + 1 = bN m ∧ (t < 512 → (dr (n, m, t)).2.2 < 512) ∧ ∀ p, ((dr (n, m, t)).2.2.testBit p = (t.testBit p || (nthN m (nx n / 65536 % bN m)).testBit p)) ∧ (m.testBit p = ((nthN m (nx n / 65536 % bN m)).testBit p || (dr (n, m, t)).2.1.testBit p)) ∧ ((nthN m (nx n / 65536 % bN m)).testBit p && (dr (n, m, t)).2.1.testBit p) = false := by
  obtain ⟨d1, d2, d3, d4, d5, d6, d7⟩ := nth_ok m hm (nx n / 65536 % bN m) (Nat.mod_lt _ (by omega))
  refine ⟨nx_lt n, Nat.lt_of_le_of_lt (Nat.sub_le _ _) hm, d5, fun h => Nat.or_lt_two_pow (n := 9) h d4, fun p => ⟨Nat.testBit_or _ _ _, ?_, ?_⟩⟩
  · show m.testBit p = (_ || (m - nthN m (nx n / 65536 % bN m)).testBit p)
    rw [← Nat.testBit_or, d7]
  · show (_ && (m - nthN m (nx n / 65536 % bN m)).testBit p) = false
    rw [← Nat.testBit_and, d6]; exact Nat.zero_testBit p
