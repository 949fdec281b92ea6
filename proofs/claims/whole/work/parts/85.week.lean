theorem i32_dist (a b c : Int32) : (a ||| b) &&& c = (a &&& c) ||| (b &&& c) := by
  apply Int32.toBitVec_inj.mp
  rw [Int32.toBitVec_and, Int32.toBitVec_or, Int32.toBitVec_or, Int32.toBitVec_and, Int32.toBitVec_and]
  apply BitVec.eq_of_getLsbD_eq
  intro i _
  simp only [BitVec.getLsbD_and, BitVec.getLsbD_or, Bool.and_or_distrib_right]
theorem nI_and (x y : Nat) : nI x &&& nI y = nI (x &&& y) := by
  apply Int32.toBitVec_inj.mp
  rw [Int32.toBitVec_and]
  show BitVec.ofNat 32 x &&& BitVec.ofNat 32 y = BitVec.ofNat 32 (x &&& y)
  apply BitVec.eq_of_getLsbD_eq
  intro i hi
  simp only [BitVec.getLsbD_and, BitVec.getLsbD_ofNat, Nat.testBit_and]
  cases decide (i < 32) <;> simp
theorem tm_eq (acc t : Int32) : tm acc t = if acc &&& t = 0 then acc else acc ||| t := by
  rw [tm, Int32.or_zero]
theorem tw_tm {K acc t : Int32} (h : acc &&& t = K &&& t) : tw K acc t = tm acc t := by
  rw [tw, tm_eq, h, Int32.and_comm]
theorem tm_and {acc t u : Int32} (h : t &&& u = 0) : tm acc t &&& u = acc &&& u := by
  rw [tm_eq]
  by_cases c : acc &&& t = 0
  · rw [if_pos c]
  · rw [if_neg c, i32_dist, h, Int32.or_zero]
/-- a week: testing against the week's start or against by now is the same, its threes being apart -/
theorem week_eq {K t0 t1 t2 : Int32} (h01 : t0 &&& t1 = 0) (h02 : t0 &&& t2 = 0) (h12 : t1 &&& t2 = 0) : tw K (tw K (tw K K t0) t1) t2 = tm (tm (tm K t0) t1) t2 := by
  rw [tw_tm (acc := K) rfl, tw_tm (acc := tm K t0) (tm_and h01), tw_tm (acc := tm (tm K t0) t1) ((tm_and h12).trans (tm_and h02))]
