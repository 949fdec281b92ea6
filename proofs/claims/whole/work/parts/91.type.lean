/-- a byte written on the class's side -/
theorem type_x {v : Int64} {σ : Sg} {n i : Nat} (hn : gI σ 0 9 = nI n) (h : n < 250) (hi : i < 8) : b_x_type_40 v (σ, nI i) = some (.inl (pI (pI σ 3 n ((Int64.toInt32 ((Int64.toUInt64 v >>> (Int64.toUInt64 (Int32.toInt64 (8 * nI i)) &&& Int64.toUInt64 63)).toInt64)) &&& 255)) 0 9 (nI (n + 1)), nI i - 1)) := by
  unfold b_x_type_40
  rw [if_neg (by rw [l32 (nI_toInt (n := i) (by omega)) (show (0 : Int32).toInt = 0 from rfl)]; omega)]
  show (if inB (gI σ 0 9) 250 = true then _ else _) = _
  rw [hn, if_pos (inB_nI (by omega) (by omega)), nI_clamp (by omega)]
  generalize ((Int64.toInt32 ((Int64.toUInt64 v >>> (Int64.toUInt64 (Int32.toInt64 (8 * nI i)) &&& Int64.toUInt64 63)).toInt64)) &&& 255) = y
  show some (Sum.inl (pI (pI σ 3 n y) 0 9 (gI (pI σ 3 n y) 0 9 + 1), nI i + (-1))) = _
  rw [gI_ne (by omega), hn, nI_1, Int32.sub_eq_add_neg]
theorem type_m {v : Int64} {σ : Sg} {n i : Nat} (hn : gI σ 71 21 = nI n) (h : n < 250) (hi : i < 8) : b_m_type_41 v (σ, nI i) = some (.inl (pI (pI σ 88 n ((Int64.toInt32 ((Int64.toUInt64 v >>> (Int64.toUInt64 (Int32.toInt64 (8 * nI i)) &&& Int64.toUInt64 63)).toInt64)) &&& 255)) 71 21 (nI (n + 1)), nI i - 1)) := by
  rw [byte_same]
  unfold b_m_type_41
  rw [if_neg (by rw [l32 (nI_toInt (n := i) (by omega)) (show (0 : Int32).toInt = 0 from rfl)]; omega)]
  show (if inB (gI σ 71 21) 250 = true then _ else _) = _
  rw [hn, if_pos (inB_nI (by omega) (by omega)), nI_clamp (by omega)]
  generalize (Int64.toInt32 (((Int64.toUInt64 v >>> (Int64.toUInt64 (Int32.toInt64 (8 * nI i)) &&& Int64.toUInt64 63)).toInt64) &&& 255)) = y
  show some (Sum.inl (pI (pI σ 88 n y) 71 21 (gI (pI σ 88 n y) 71 21 + 1), nI i + (-1))) = _
  rw [gI_ne (by omega), hn, nI_1, Int32.sub_eq_add_neg]
