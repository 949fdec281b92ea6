/-! BEST, the reference's side: facts of the codes. -/
theorem tkd_ok0 : ∀ a, a < 16 → ∀ b, b < 16 → ∀ c, c < 16 → (nI (256 * a + 16 * b + c) &&& 15 = nI (dec (256 * a + 16 * b + c) 0) ∧ (nI (256 * a + 16 * b + c) >>> ((4 : Int32) &&& 31)) &&& 15 = nI (dec (256 * a + 16 * b + c) 1) ∧ (nI (256 * a + 16 * b + c) >>> ((8 : Int32) &&& 31)) &&& 15 = nI (dec (256 * a + 16 * b + c) 2)) := by decide +kernel
theorem dnn_ok : ∀ a, a < 16 → ∀ b, b < 16 → ∀ c, c < 16 → ((nI a ||| (nI b <<< ((4 : Int32) &&& 31))) ||| (nI c <<< ((8 : Int32) &&& 31))) = nI (a + 16 * b + 256 * c) := by decide +kernel
theorem pcn_ok0 : ∀ a, a < 16 → ∀ b, b < 16 → ∀ c, c < 16 → s_m_bits (nI (256 * a + 16 * b + c)) = some (nI (pcn (256 * a + 16 * b + c))) ∧ pcn (256 * a + 16 * b + c) ≤ 12 := by decide +kernel
theorem abc {n : Nat} (h : n < 4096) : n / 256 < 16 ∧ n / 16 % 16 < 16 ∧ n % 16 < 16 ∧ 256 * (n / 256) + 16 * (n / 16 % 16) + n % 16 = n := by omega
theorem tkd_ok {n : Nat} (h : n < 4096) : nI n &&& 15 = nI (dec n 0) ∧ (nI n >>> ((4 : Int32) &&& 31)) &&& 15 = nI (dec n 1) ∧ (nI n >>> ((8 : Int32) &&& 31)) &&& 15 = nI (dec n 2) := by
  obtain ⟨a, b, c, e⟩ := abc h
  have := tkd_ok0 _ a _ b _ c
  rw [e] at this; exact this
theorem pcn_ok {n : Nat} (h : n < 4096) : s_m_bits (nI n) = some (nI (pcn n)) ∧ pcn n ≤ 12 := by
  obtain ⟨a, b, c, e⟩ := abc h
  have := pcn_ok0 _ a _ b _ c
  rw [e] at this; exact this
theorem div_nI {k : Nat} (h : k < 2 ^ 31) : nI k / 4096 = nI (k / 4096) := by
  apply Int32.toInt.inj
  rw [Int32.toInt_div, nI_toInt h, nI_toInt (by omega), show ((4096 : Int32).toInt) = 4096 from rfl, Int.tdiv_eq_ediv_of_nonneg (by omega), Int.bmod_def]
  omega
theorem rem_nI {k : Nat} (h : k < 2 ^ 31) : nI k - nI k / 4096 * 4096 = nI (k % 4096) := by
  rw [div_nI h, show nI (k / 4096) * 4096 = nI (k / 4096 * 4096) from (Int32.ofNat_mul (k / 4096) 4096).symm]
  have : nI k = nI (k % 4096) + nI (k / 4096 * 4096) := by rw [nI_add]; congr 1; omega
  rw [this]
  exact Int32.add_sub_cancel ..
