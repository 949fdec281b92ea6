theorem lp_step {P O : Type} {b : P → Option (P ⊕ O)} {n : Nat} {x y : P} (h : b x = some (.inl y)) : lp b (n + 1) x = lp b n y := by rw [lp, h]
theorem lp_end {P O : Type} {b : P → Option (P ⊕ O)} {n : Nat} {x : P} {z : O} (h : b x = some (.inr z)) : lp b (n + 1) x = some z := by rw [lp, h]
/-- who knows behind one three, of those who knew at the week's start -/
def tw (K acc t : Int32) : Int32 := if t &&& K = 0 then acc else acc ||| t
theorem told_step {σ : Sg} {K acc : Int32} {w i : Nat} (hw : w < 6) (hi : i < 3) : b_Scene_toldInWeek_5 σ (nI w) K (acc, nI i) = some (.inl (tw K acc (gI σ 27 (3 * w + i)), nI (i + 1))) := by
  unfold b_Scene_toldInWeek_5
  rw [if_neg (by show ¬ nI 3 ≤ nI i; rw [nI_leI (by omega) (by omega)]; omega), show nI w * 3 = nI (3 * w) from by rw [show nI w * 3 = nI (w * 3) from (Int32.ofNat_mul w 3).symm, Nat.mul_comm]]
  show (if inB (nI (3 * w) + nI i) 18 = true then _ else _) = _
  rw [nI_add, if_pos (inB_nI (by omega) (by omega)), nI_clamp (by omega)]
  show (if (gI σ 27 (3 * w + i)) &&& K = 0 then some (Sum.inl (acc, nI i + 1)) else some (Sum.inl (acc ||| gI σ 27 (3 * w + i), nI i + 1))) = _
  rw [nI_1, tw]
  by_cases c : (gI σ 27 (3 * w + i)) &&& K = 0
  · rw [if_pos c, if_pos c]
  · rw [if_neg c, if_neg c]
theorem told_val {σ : Sg} {K : Int32} {w : Nat} (hw : w < 6) : s_Scene_toldInWeek σ (nI w) K = some (tw K (tw K (tw K K (gI σ 27 (3 * w))) (gI σ 27 (3 * w + 1))) (gI σ 27 (3 * w + 2))) := by
  rw [s_Scene_toldInWeek]
  have h : lp (b_Scene_toldInWeek_5 σ (nI w) K) 100000 (K, nI 0) = some (tw K (tw K (tw K K (gI σ 27 (3 * w))) (gI σ 27 (3 * w + 1))) (gI σ 27 (3 * w + 2)), nI 3) := by
    rw [lp_step (n := 99999) (told_step hw (by omega)), lp_step (n := 99998) (told_step hw (by omega)), lp_step (n := 99997) (told_step hw (by omega))]
    refine lp_end (n := 99996) ?_
    unfold b_Scene_toldInWeek_5
    rw [if_pos (by show nI 3 ≤ nI (0 + 1 + 1 + 1); rw [nI_leI (by omega) (by omega)]; omega)]
    rfl
  show (lp (b_Scene_toldInWeek_5 σ (nI w) K) 100000 (K, nI 0)).bind _ = _
  rw [h, Option.bind_some]
/-- one three in the reference's walk -/
def tm (acc t : Int32) : Int32 := if acc &&& t = 0 then acc ||| 0 else acc ||| t
theorem known_step {σ : Sg} {v : Int32} {acc : Int32} {k i : Nat} (hv : v = nI k) (hk : k ≤ 6) (hi : i < 3 * k) : b_m_known_5 σ v (acc, nI i) = some (.inl (tm acc (gI σ 72 (109 + i)), nI (i + 1))) := by
  subst hv
  unfold b_m_known_5
  rw [show (3 : Int32) * nI k = nI (3 * k) from (Int32.ofNat_mul 3 k).symm, if_neg (by rw [nI_leI (by omega) (by omega)]; omega)]
  show (if inB (109 + nI i) 143 = true then _ else _) = _
  rw [show (109 : Int32) + nI i = nI (109 + i) from nI_add 109 i, if_pos (inB_nI (by omega) (by omega)), nI_clamp (by omega)]
  show (if acc &&& (gI σ 72 (109 + i)) = 0 then some (Sum.inl (acc ||| 0, nI i + 1)) else some (Sum.inl (acc ||| gI σ 72 (109 + i), nI i + 1))) = _
  rw [nI_1, tm]
  by_cases c : acc &&& (gI σ 72 (109 + i)) = 0
  · rw [if_pos c, if_pos c]
  · rw [if_neg c, if_neg c]
