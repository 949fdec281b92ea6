theorem PL_lt3 : ∀ x, x ∈ PL 3 → x < 2 ^ 40 := by decide +kernel
theorem PL_lt6 : ∀ x, x ∈ PL 6 → x < 2 ^ 40 := by decide +kernel
theorem PL_lt9 : ∀ x, x ∈ PL 9 → x < 2 ^ 40 := by decide +kernel
theorem PL_map {P : Nat} (hP : P = 3 ∨ P = 6 ∨ P = 9) : (SL P).map pv = PL P := by
  obtain ⟨a, b, c⟩ := PL_ok
  rcases hP with rfl | rfl | rfl
  · exact a
  · exact b
  · exact c
theorem PL_get {P i : Nat} {e : Nat × Nat × Nat} (hP : P = 3 ∨ P = 6 ∨ P = 9) (he : (SL P)[i]? = some e) : pf (PL P) i = pv e ∧ pf (PL P) i < 2 ^ 40 := by
  have h : (PL P)[i]? = some (pv e) := by rw [← PL_map hP, List.getElem?_map, he]; rfl
  have hv : pf (PL P) i = pv e := by unfold pf; rw [List.getD_eq_getElem?_getD, h]; rfl
  refine ⟨hv, ?_⟩
  rw [hv]
  have hm := List.mem_of_getElem? h
  rcases hP with rfl | rfl | rfl
  · exact PL_lt3 _ hm
  · exact PL_lt6 _ hm
  · exact PL_lt9 _ hm
theorem sp_prt {t : Nat} (h : t = 0 ∨ t < 512 ∧ bN t = 3) : gL spT 2 t = nL (prt t) := by
  rcases h with rfl | ⟨h5, h3⟩
  · exact spP_0
  · obtain ⟨o1, o2, o4⟩ := o3_ok t h5 h3
    have := spP_ok (o3 t) o4
    rw [o1] at this; exact this
theorem SL_mem {P : Nat} {e : Nat × Nat × Nat} (hP : P = 3 ∨ P = 6 ∨ P = 9) (h : e ∈ SL P) : (e.1 < 512 ∧ bN e.1 = 3) ∧ (e.2.1 = 0 ∨ e.2.1 < 512 ∧ bN e.2.1 = 3) ∧ (e.2.2 = 0 ∨ e.2.2 < 512 ∧ bN e.2.2 = 3) := by
  rcases hP with rfl | rfl | rfl
  · obtain ⟨a, b, c⟩ := SL_3 e h; exact ⟨a, Or.inl b, Or.inl c⟩
  · obtain ⟨a, b, c⟩ := SL_6 e h; exact ⟨a, Or.inr b, Or.inl c⟩
  · obtain ⟨a, b, c⟩ := SL_9 e h; exact ⟨a, Or.inr b, Or.inr c⟩
theorem al_rows {σ : Sg} (a : Int32) (hR : R σ) : Alike R σ (fun τ => s_x_rows τ a) (fun τ => s_m_rows τ a) := by
  obtain ⟨⟨A, hM, ⟨x1, x2, x3, x4⟩, w1, w2, w3, w4⟩, -, -, -, -, k13, k14, -⟩ := id hR
  obtain ⟨P, hPA⟩ : ∃ P, P = A 1 := ⟨_, rfl⟩
  have e1 : gI σ 19 6 = nI P := by rw [hPA]; exact x1.2.1
  have m1 : gI σ 72 1 = nI P := by rw [hPA]; exact M0 hM (by omega)
  have n9 : P ≤ 9 := by rw [hPA]; exact w1.2.2.1
  by_cases ha : 1 ≤ a.toInt ∧ a.toInt ≤ 4
  rotate_left
  · refine ⟨Int32.toInt64 (-2), pI σ 0 12 (gI σ 0 12 + 1), _, ?_, ?_, R_bad hR⟩
    · show s_x_rows σ a = some (Int32.toInt64 (-2), pI σ 0 12 (gI σ 0 12 + 1))
      rw [s_x_rows]
      by_cases c : a < 1
      · rw [if_pos c]; rfl
      · rw [if_neg c, if_neg]
        · rfl
        · rw [l32 rfl (show (1 : Int32).toInt = 1 from rfl)] at c; rw [e32 rfl (show (4 : Int32).toInt = 4 from rfl)]; omega
    · show s_m_rows (pI σ 0 12 (gI σ 0 12 + 1)) a = _
      rw [s_m_rows, m_in32 a (x := 1) (y := 4) rfl rfl, if_neg ha, Option.bind_some, if_pos rfl]; rfl
  have hx : s_x_rows σ a = (s_x_isAllInThrees σ).bind fun q4 => if q4 = 0 then (s_x_refusedNo σ (-3)).bind fun q8 => some ((Int32.toInt64 q8.1), q8.2) else (s_Splits_list σ (gI σ 19 6)).bind fun q6 => (s_Splits_rowsOf q6 a).bind fun q7 => some (q7, q6) := by
    rw [s_x_rows, if_neg (by rw [l32 rfl (show (1 : Int32).toInt = 1 from rfl)]; omega), if_pos (by rw [e32 rfl (show (4 : Int32).toInt = 4 from rfl)]; omega)]
  have hm : ∀ ρ, s_m_rows ρ a = (s_m_areThrees ρ).bind fun q3 => if q3 = 0 then (s_m_no ρ (-3)).bind fun q24 => some ((Int32.toInt64 q24.1), q24.2) else (s_m_findWays ρ).bind fun q5 => if a = 1 then some ((Int32.toInt64 (gI q5 71 16)), q5) else (lp (b_m_rows_55 q5 a) 100000 (0, 0)).bind fun o23 => some (o23.1, q5) := fun ρ => by
    rw [s_m_rows, m_in32 a (x := 1) (y := 4) rfl rfl, if_pos ha, Option.bind_some, if_neg (by decide)]
  rw [x_all3 e1 n9, Option.bind_some] at hx
  by_cases hP : P = 3 ∨ P = 6 ∨ P = 9
  rotate_left
  · refine ⟨Int32.toInt64 (-3), pI σ 0 13 (gI σ 0 13 + 1), _, ?_, ?_, R_no hR⟩
    · show s_x_rows σ a = some (Int32.toInt64 (-3), pI σ 0 13 (gI σ 0 13 + 1))
      rw [hx, if_neg hP, if_pos rfl]; rfl
    · show s_m_rows (pI σ 0 13 (gI σ 0 13 + 1)) a = _
      rw [hm, m_all3 (by rw [gI_ne (by omega)]; exact m1) n9, Option.bind_some, if_neg hP, if_pos rfl]; rfl
  obtain ⟨w, w4', -, rfl, w1', -⟩ := b32 (n := 4) ha (by omega) (by omega)
  obtain ⟨τ, t1, t2, t3⟩ := x_splits hP k14 k13
  obtain ⟨n280, n1⟩ := SL_280 hP
  have hlen : (PL P).length = (SL P).length := by rw [← PL_map hP, List.length_map]
  have hG : G17 τ (pf (PL P)) (PL P).length := by
    refine ⟨by omega, fun i hi => ?_⟩
    obtain ⟨e, he⟩ : ∃ e, (SL P)[i]? = some e := ⟨_, List.getElem?_eq_getElem (by omega)⟩
    obtain ⟨p1, p2⟩ := PL_get hP he
    obtain ⟨-, -, -, q4⟩ := t2.2 i e he
    obtain ⟨s1, s2, s3⟩ := SL_mem hP (List.mem_of_getElem? he)
    refine ⟨?_, p2⟩
    rw [q4, sp_prt (Or.inr s1), sp_prt s2, sp_prt s3, nL_or, nL_or, p1]; rfl
  rw [if_pos hP, if_neg (by decide), e1, t1, Option.bind_some, s_Splits_rowsOf, va_cl0, t2.1, ← hlen, (hG.2 0 (by omega)).1] at hx
  obtain ⟨k, rfl⟩ : ∃ k, w = k + 1 := ⟨w - 1, by omega⟩
  rw [nI_pred, x_l3 hG _ (by omega), Option.bind_some, e64 (by omega), nL_mul, Option.bind_some] at hx
  have m1τ : gI τ 72 1 = nI P := (t3.1 _ _ (by omega)).trans m1
  obtain ⟨ρ, r1, r2, r3, r4, r5, r6⟩ := m_ways hP m1τ
  have hG84 : G84 ρ (pf (PL P)) (PL P).length := by
    refine ⟨by omega, by rw [r2, hlen], fun i hi => ?_⟩
    obtain ⟨e, he⟩ : ∃ e, (SL P)[i]? = some e := ⟨_, List.getElem?_eq_getElem (by omega)⟩
    obtain ⟨p1, p2⟩ := PL_get hP he
    exact ⟨by rw [r3 i e he, p1], p2⟩
  have hRρ : R ρ := R_any hR (fun c j q => (r4 c j (by omega)).trans (t3.1 c j (by omega))) (fun c j q => (r5 c j (by omega)).trans (t3.2.1 c j (by omega))) (r6.trans t3.2.2)
  refine ⟨_, τ, ρ, hx, ?_, hRρ⟩
  show s_m_rows τ (nI (k + 1)) = _
  rw [hm, m_all3 m1τ n9, Option.bind_some, if_pos hP, if_neg (by decide), r1, Option.bind_some]
  by_cases c : k = 0
  · subst c
    rw [if_pos (show nI (0 + 1) = 1 from rfl), r2, e64 (by omega), hlen, rb, Nat.mul_one]
  · rw [if_neg (show ¬ nI (k + 1) = (1 : Int32) from fun q => by have := (nI_eq (b := 1) (by omega) (by omega)).mp q; omega), m_rows55 hG84 (by omega) (by omega), Option.bind_some, Nat.add_sub_cancel, rows_same hP (by omega) (by omega)]
