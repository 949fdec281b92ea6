def z3 (N : Nat) (a : Int32) : Prop := a = 0 ∨ is3 N a
theorem z3_nI {N : Nat} {a : Int32} (hN : N ≤ 9) (h : z3 N a) : ∃ m, m < 2 ^ N ∧ m < 512 ∧ a = nI m := by
  rcases h with rfl | h
  · have hp := pow_le N (by omega)
    exact ⟨0, by omega, by omega, rfl⟩
  · exact isG_nI hN h.1
theorem x_z3 {σ : Sg} {N : Nat} (a : Int32) (h : gI σ 19 6 = nI N) (hN : N ≤ 9) : s_Town_isThreeOrNone σ a = some (@ite _ (z3 N a) (Classical.propDecidable _) 1 0) := by
  rw [s_Town_isThreeOrNone]
  by_cases c : a = 0
  · rw [if_pos c, if_pos (show z3 N a from Or.inl c)]
  · rw [if_neg c, x_isThree a h hN, Option.bind_some]
    by_cases d : is3 N a
    · rw [if_pos d, if_neg (by decide), if_pos (show z3 N a from Or.inr d)]
    · rw [if_neg d, if_pos rfl, if_neg (show ¬ z3 N a from fun q => q.elim c d)]
theorem m_z3 {σ : Sg} {N : Nat} {a : Int32} {K L : Option (Int32 × Sg)} (h : gI σ 72 1 = nI N) (hN : N ≤ 9) : (if a = 0 then K else (s_m_isThree σ a).bind fun q26 => if q26 = 0 then L else K) = @ite _ (z3 N a) (Classical.propDecidable _) K L := by
  by_cases c : a = 0
  · rw [if_pos c, if_pos (show z3 N a from Or.inl c)]
  · rw [if_neg c, m_isThree a h hN, Option.bind_some]
    by_cases d : is3 N a
    · rw [if_pos d, if_neg (by decide), if_pos (show z3 N a from Or.inr d)]
    · rw [if_neg d, if_pos rfl, if_neg (show ¬ z3 N a from fun q => q.elim c d)]
def okW (N : Nat) (a b c : Int32) : Prop := z3 N a ∧ z3 N b ∧ z3 N c ∧ a &&& b = 0 ∧ a &&& c = 0 ∧ b &&& c = 0
theorem x_week {σ : Sg} {N : Nat} (a b c : Int32) (h : gI σ 19 6 = nI N) (hN : N ≤ 9) : s_x_week σ a b c = @ite _ (okW N a b c) (Classical.propDecidable _) (if (gI σ 25 6) < 6 then s_Scene_addWeek σ a b c else s_x_refusedFull σ) (s_x_refusedBad σ (-2)) := by
  rw [s_x_week, x_z3 a h hN, Option.bind_some, bEta, bEta, bEta]
  by_cases c1 : z3 N a
  rotate_left
  · rw [if_neg c1, if_pos rfl, if_neg (show ¬ okW N a b c from fun q => c1 q.1)]
  rw [if_pos c1, if_neg (by decide), x_z3 b h hN, Option.bind_some]
  by_cases c2 : z3 N b
  rotate_left
  · rw [if_neg c2, if_pos rfl, if_neg (show ¬ okW N a b c from fun q => c2 q.2.1)]
  rw [if_pos c2, if_neg (by decide), x_z3 c h hN, Option.bind_some]
  by_cases c3 : z3 N c
  rotate_left
  · rw [if_neg c3, if_pos rfl, if_neg (show ¬ okW N a b c from fun q => c3 q.2.2.1)]
  rw [if_pos c3, if_neg (by decide)]
  by_cases c4 : a &&& b = 0
  rotate_left
  · rw [if_neg c4, if_neg (show ¬ okW N a b c from fun q => c4 q.2.2.2.1)]
  rw [if_pos c4]
  by_cases c5 : a &&& c = 0
  rotate_left
  · rw [if_neg c5, if_neg (show ¬ okW N a b c from fun q => c5 q.2.2.2.2.1)]
  rw [if_pos c5]
  by_cases c6 : b &&& c = 0
  rotate_left
  · rw [if_neg c6, if_neg (show ¬ okW N a b c from fun q => c6 q.2.2.2.2.2)]
  rw [if_pos c6, if_pos (show okW N a b c from ⟨c1, c2, c3, c4, c5, c6⟩)]
theorem m_week {σ : Sg} {N : Nat} (a b c : Int32) (h : gI σ 72 1 = nI N) (hN : N ≤ 9) : s_m_week σ a b c = @ite _ (okW N a b c) (Classical.propDecidable _) (j_m_week_41 σ a b c 1) (s_m_bad σ (-2)) := by
  have h0 : j_m_week_40 σ a b c = s_m_bad σ (-2) := by rw [j_m_week_40, j_m_week_41, if_pos rfl, bEta]
  rw [s_m_week, m_z3 h hN, h0]
  by_cases c1 : z3 N a
  rotate_left
  · rw [if_neg c1, if_neg (show ¬ okW N a b c from fun q => c1 q.1)]
  rw [if_pos c1, j_m_week_12, m_z3 h hN, h0]
  by_cases c2 : z3 N b
  rotate_left
  · rw [if_neg c2, if_neg (show ¬ okW N a b c from fun q => c2 q.2.1)]
  rw [if_pos c2, j_m_week_24, m_z3 h hN, h0]
  by_cases c3 : z3 N c
  rotate_left
  · rw [if_neg c3, if_neg (show ¬ okW N a b c from fun q => c3 q.2.2.1)]
  rw [if_pos c3, j_m_week_36]
  by_cases c4 : okW N a b c
  · rw [if_pos c4]
  · rw [if_neg c4, j_m_week_41, if_neg (by decide), bEta, bEta]
    by_cases d1 : a &&& b = 0
    · rw [if_pos d1]
      by_cases d2 : a &&& c = 0
      · rw [if_pos d2, if_neg (fun d3 => c4 ⟨c1, c2, c3, d1, d2, d3⟩)]
      · rw [if_neg d2]
    · rw [if_neg d1]
