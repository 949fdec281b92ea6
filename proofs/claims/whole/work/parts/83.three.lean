/-! groups and threes: both sides count the bits of a mask alike -/
set_option maxRecDepth 100000 in
theorem bits_ok : ∀ m, m < 512 → s_Integer_bitCount (nI m) = s_m_bits (nI m) ∧ (s_m_bits (nI m)).isSome = true := by decide +kernel
theorem shl_ok : ∀ n, n < 10 → (1 : Int32) <<< (nI n &&& 31) = nI (2 ^ n) := by decide +kernel
theorem pow_le : ∀ n, n < 10 → 1 ≤ 2 ^ n ∧ 2 ^ n ≤ 512 := by decide +kernel
/-- a group of so many people -/
def isG (N : Nat) (a : Int32) : Prop := 0 ≤ a.toInt ∧ a.toInt ≤ ((2 ^ N : Nat) : Int) - 1
def is3 (N : Nat) (a : Int32) : Prop := isG N a ∧ s_m_bits a = some 3
theorem isG_nI {N : Nat} {a : Int32} (hN : N ≤ 9) (h : isG N a) : ∃ m, m < 2 ^ N ∧ m < 512 ∧ a = nI m := by
  have hp := pow_le N (by omega)
  obtain ⟨k, h1, h2⟩ := below_nI (n := 2 ^ N) (by omega) h
  exact ⟨k, h1, by omega, h2⟩
theorem x_isGroup {σ : Sg} {N : Nat} (a : Int32) (h : gI σ 19 6 = nI N) (hN : N ≤ 9) : s_Town_isGroup σ a = some (@ite _ (isG N a) (Classical.propDecidable _) 1 0) := by
  have hp := pow_le N (by omega)
  have := x_below (x := nI (2 ^ N)) (a := a) (n := 2 ^ N) (by omega) rfl
  rw [s_Town_isGroup, h, shl_ok N (by omega), this]
  by_cases c : isG N a
  · rw [if_pos c]; exact congrArg some (if_pos c)
  · rw [if_neg c]; exact congrArg some (if_neg c)
theorem m_group {N : Nat} (a : Int32) (hN : N ≤ 9) : s_m_in (Int32.toInt64 a) 0 (Int32.toInt64 (((1 : Int32) <<< (nI N &&& 31)) - 1)) = some (@ite _ (isG N a) (Classical.propDecidable _) 1 0) := by
  have hp := pow_le N (by omega)
  rw [shl_ok N (by omega), m_in32 a (x := 0) (y := ((2 ^ N : Nat) : Int) - 1) rfl (pred64 (by omega))]
  by_cases c : isG N a
  · rw [if_pos c]; exact congrArg some (if_pos c)
  · rw [if_neg c]; exact congrArg some (if_neg c)
theorem m_isSet {σ : Sg} {N : Nat} (a : Int32) (h : gI σ 72 1 = nI N) (hN : N ≤ 9) : s_m_isSet σ a = some (@ite _ (isG N a) (Classical.propDecidable _) 1 0) := by
  rw [s_m_isSet, s_m_people, Option.bind_some, va_cl1, h, m_group a hN, Option.bind_some]
  by_cases c : isG N a
  · rw [if_pos c]; rfl
  · rw [if_neg c]; rfl
theorem x_isThree {σ : Sg} {N : Nat} (a : Int32) (h : gI σ 19 6 = nI N) (hN : N ≤ 9) : s_Town_isThree σ a = some (@ite _ (is3 N a) (Classical.propDecidable _) 1 0) := by
  rw [s_Town_isThree, x_isGroup a h hN, Option.bind_some]
  by_cases c : isG N a
  · obtain ⟨m, m1, m2, rfl⟩ := isG_nI hN c
    obtain ⟨b1, b2⟩ := bits_ok m m2
    obtain ⟨v, hv⟩ := Option.isSome_iff_exists.mp b2
    rw [if_pos c, if_neg (by decide), b1, hv, Option.bind_some]
    by_cases d : v = 3
    · rw [if_pos d, if_pos ⟨c, by rw [hv, d]⟩]
    · rw [if_neg d, if_neg (fun q => d (Option.some.inj (hv.symm.trans q.2)))]
  · rw [if_neg c, if_pos rfl, if_neg (fun q => c q.1)]
theorem m_isThree {σ : Sg} {N : Nat} (a : Int32) (h : gI σ 72 1 = nI N) (hN : N ≤ 9) : s_m_isThree σ a = some (@ite _ (is3 N a) (Classical.propDecidable _) 1 0) := by
  rw [s_m_isThree, s_m_people, Option.bind_some, va_cl1, h, m_group a hN, Option.bind_some]
  by_cases c : isG N a
  · obtain ⟨m, m1, m2, rfl⟩ := isG_nI hN c
    obtain ⟨b1, b2⟩ := bits_ok m m2
    obtain ⟨v, hv⟩ := Option.isSome_iff_exists.mp b2
    rw [if_pos c, if_neg (by decide), hv, Option.bind_some]
    by_cases d : v = 3
    · rw [if_pos d, if_pos ⟨c, by rw [hv, d]⟩]
    · rw [if_neg d, if_neg (fun q => d (Option.some.inj (hv.symm.trans q.2)))]
  · rw [if_neg c, if_pos rfl, if_neg (fun q => c q.1)]
