theorem byte_same (w : Int64) : (Int64.toInt32 w) &&& 255 = Int64.toInt32 (w &&& 255) := by
  apply Int32.toBitVec_inj.mp
  rw [Int32.toBitVec_and, Int64.toBitVec_toInt32, Int64.toBitVec_toInt32, Int64.toBitVec_and]
  apply BitVec.eq_of_getLsbD_eq
  intro i hi
  rw [show (255 : Int32).toBitVec = BitVec.ofNat 32 255 from rfl, show (255 : Int64).toBitVec = BitVec.ofNat 64 255 from rfl]
  simp [BitVec.getLsbD_signExtend, hi, show i < 64 by omega]
theorem byte_nI (x : Int32) : ∃ c, c < 256 ∧ x &&& 255 = nI c := by
  refine ⟨x.toBitVec.toNat &&& 255, Nat.lt_of_le_of_lt Nat.and_le_right (by omega), ?_⟩
  apply Int32.toBitVec_inj.mp
  rw [Int32.toBitVec_and]
  apply BitVec.eq_of_toNat_eq
  rw [BitVec.toNat_and, show (255 : Int32).toBitVec.toNat = 255 from rfl]
  show _ = (x.toBitVec.toNat &&& 255) % 2 ^ 32
  rw [Nat.mod_eq_of_lt (Nat.lt_of_le_of_lt Nat.and_le_right (by omega))]
