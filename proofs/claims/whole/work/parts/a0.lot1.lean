/-- numbers of people by groups below 512, as the class and the reference find them -/
def bN (m : Nat) : Nat := ((s_m_bits (nI m)).getD 0).toNatClampNeg
def lowN (m : Nat) : Nat := (nI m &&& -(nI m)).toNatClampNeg
def nthN (m r : Nat) : Nat := ((s_x_nthOf (nI m) (nI r)).getD 0).toNatClampNeg
def b125 (v9 : Int32) (x : Int32 × Int32) : Option ((Int32 × Int32) ⊕ (Int32 × Int32)) :=
  if v9 ≤ x.2 then some (.inr (x.1, x.2)) else some (.inl (x.1 &&& (x.1 - 1), x.2 + 1))
def mNth (m r : Int32) : Option Int32 := (lp (b125 r) 100000 (m, 0)).bind fun o => (s_m_least o.1).bind fun q => some ((1 : Int32) <<< (q &&& 31))
theorem bN_ok : ∀ m, m < 512 → s_m_bits (nI m) = some (nI (bN m)) ∧ bN m < 10 ∧ (bN m = 0 → m = 0) := by decide +kernel
theorem tb_ok : ∀ m, m < 512 → ∀ p, p < 10 → ((((nI m >>> (nI p &&& 31)) &&& 1) = 1) ↔ m.testBit p = true) := by decide +kernel
theorem low_ok : ∀ m, m < 512 → m ≠ 0 → nI m &&& -(nI m) = nI (lowN m) ∧ ((s_m_least (nI m)).bind fun q => some ((1 : Int32) <<< (q &&& 31))) = some (nI (lowN m)) ∧ nI m &&& (nI (lowN m) ^^^ (-1)) = nI (m - lowN m) ∧ lowN m < 512 ∧ bN (m - lowN m) + 1 = bN m ∧ lowN m &&& (m - lowN m) = 0 ∧ lowN m ||| (m - lowN m) = m := by decide +kernel
theorem nth_ok : ∀ m, m < 512 → ∀ r, r < bN m → s_x_nthOf (nI m) (nI r) = some (nI (nthN m r)) ∧ mNth (nI m) (nI r) = some (nI (nthN m r)) ∧ nI m &&& (nI (nthN m r) ^^^ (-1)) = nI (m - nthN m r) ∧ nthN m r < 512 ∧ bN (m - nthN m r) + 1 = bN m ∧ nthN m r &&& (m - nthN m r) = 0 ∧ nthN m r ||| (m - nthN m r) = m := by decide +kernel
