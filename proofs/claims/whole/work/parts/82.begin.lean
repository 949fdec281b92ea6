theorem beg_0 (g18 : Nat → Int32) (g19 : Nat → Int64) (c j : Nat) (h : ¬ (c = 13 ∨ c = 0 ∨ c = 6 ∨ c = 19 ∨ c = 47 ∨ c = 59 ∨ c = 72)) : gI (sgI g18 g19) c j = 0 := by
  by_cases hc : c < 90
  · match c, hc with
    | 1, _ | 2, _ | 3, _ | 4, _ | 5, _ | 7, _ | 8, _ | 9, _ | 10, _ | 11, _ | 12, _ | 14, _ | 15, _ | 16, _ | 17, _ | 18, _ => rfl
    | 20, _ | 21, _ | 22, _ | 23, _ | 24, _ | 25, _ | 26, _ | 27, _ | 28, _ | 29, _ | 30, _ | 31, _ | 32, _ | 33, _ | 34, _ | 35, _ | 36, _ | 37, _ | 38, _ | 39, _ | 40, _ | 41, _ | 42, _ | 43, _ | 44, _ | 45, _ | 46, _ => rfl
    | 48, _ | 49, _ | 50, _ | 51, _ | 52, _ | 53, _ | 54, _ | 55, _ | 56, _ | 57, _ | 58, _ => rfl
    | 60, _ | 61, _ | 62, _ | 63, _ | 64, _ | 65, _ | 66, _ | 67, _ | 68, _ | 69, _ | 70, _ | 71, _ => rfl
    | 73, _ | 74, _ | 75, _ | 76, _ | 77, _ | 78, _ | 79, _ | 80, _ | 81, _ | 82, _ | 83, _ | 84, _ | 85, _ | 86, _ | 87, _ | 88, _ | 89, _ => rfl
    | 0, _ => exact absurd (by omega) h
    | 6, _ => exact absurd (by omega) h
    | 13, _ => exact absurd (by omega) h
    | 19, _ => exact absurd (by omega) h
    | 47, _ => exact absurd (by omega) h
    | 59, _ => exact absurd (by omega) h
    | 72, _ => exact absurd (by omega) h
    | n + 90, hn => omega
  · show ((rw0 g18).getD c (fun _ => 0)) j = 0
    rw [List.getD_eq_getElem?_getD, List.getElem?_eq_none (by show 90 ≤ c; omega)]; rfl
theorem beg_72 (g18 : Nat → Int32) (g19 : Nat → Int64) (j : Nat) : gI (sgI g18 g19) 72 j = if j = 0 then 4 else 0 := by
  show upd (fun _ => 0) (Int32.toNatClampNeg 0) 4 j = _
  rw [va_cl0]; rfl
theorem beg_19 (g18 : Nat → Int32) (g19 : Nat → Int64) (j : Nat) : gI (sgI g18 g19) 19 j = if j = 5 then 4 else 0 := rfl
theorem beg_00 (g18 : Nat → Int32) (g19 : Nat → Int64) (j : Nat) : gI (sgI g18 g19) 0 j = if j = 11 then 1 else 0 := rfl
theorem beg_L14 (g18 : Nat → Int32) (g19 : Nat → Int64) : gL (sgI g18 g19) 14 = g19 := by
  show (if (14 : Nat) = 14 then g19 else fun j => if (14 : Nat) = 71 then (if j = 5 then (1 : Int64) else 0) else 0) = g19
  rw [if_pos rfl]
theorem beg_13 (g18 : Nat → Int32) (g19 : Nat → Int64) : gI (sgI g18 g19) 13 = g18 := rfl
theorem beg_R (g18 : Nat → Int32) (g19 : Nat → Int64) : gR (sgI g18 g19) 43 2 = 45 ∧ gR (sgI g18 g19) 43 3 = 46 ∧ gR (sgI g18 g19) 4 1 = 5 := ⟨rfl, rfl, rfl⟩
theorem R_sg0 : R sg0 := by
  show R (sgI (gI spT 1) (gL spT 2))
  generalize hg : gI spT 1 = g18
  generalize hl : gL spT 2 = g19
  have z := beg_0 g18 g19
  obtain ⟨A, hA⟩ : ∃ A : Nat → Nat, A = fun j => if j = 0 then 4 else 0 := ⟨_, rfl⟩
  have a0 : A 0 = 4 := by rw [hA]; rfl
  have an : ∀ j, ¬ j = 0 → A j = 0 := fun j hj => by rw [hA]; exact if_neg hj
  refine ⟨⟨A, fun j hj => ?_, ⟨⟨?_, ?_, fun p hp => ?_⟩, fun j j1 j7 => ?_, ⟨?_, fun j hj => ?_⟩, ⟨?_, fun i hi => ?_⟩⟩, ⟨by omega, by omega, by rw [an 1 (by omega)]; omega, fun p hp => ?_⟩, fun j j1 j7 => by rw [an _ (by omega)]; omega, ⟨by rw [an _ (by omega)]; omega, fun j hj => ?_⟩, ⟨by rw [an _ (by omega)]; omega, fun i hi => ?_⟩⟩, fun i hi => ?_, ⟨0, by omega, ?_, ?_, fun j hj => absurd hj (Nat.not_lt_zero j)⟩, ⟨?_, ?_⟩, ⟨?_, ?_, ?_⟩, ⟨?_, ?_, Or.inl ⟨(beg_R g18 g19).1, (beg_R g18 g19).2.1⟩, Or.inl (beg_R g18 g19).2.2, ?_⟩⟩
  · rw [Nat.zero_add, beg_72]
    by_cases c : j = 0
    · subst c; rw [if_pos rfl, a0]; rfl
    · rw [if_neg c, an j c]; rfl
  · rw [beg_19, if_pos rfl, a0]; rfl
  · rw [beg_19, if_neg (by omega), an 1 (by omega)]; rfl
  · exact absurd hp (by rw [an 1 (by omega)]; omega)
  · rw [z _ _ (by omega), an _ (by omega)]; rfl
  · rw [z _ _ (by omega), an _ (by omega)]; rfl
  · exact absurd hj (by rw [an _ (by omega)]; omega)
  · rw [z _ _ (by omega), an _ (by omega)]; rfl
  · exact absurd hi (by rw [an _ (by omega)]; omega)
  · exact absurd hp (by rw [an 1 (by omega)]; omega)
  · exact absurd hj (by rw [an _ (by omega)]; omega)
  · exact absurd hi (by rw [an _ (by omega)]; omega)
  · rw [z _ _ (by omega), z _ _ (by omega)]; exact ⟨rfl, Or.inl rfl⟩
  · rw [beg_00, if_neg (by omega)]; rfl
  · rw [z _ _ (by omega)]; rfl
  · rw [beg_00, if_neg (by omega), sgI_l4]; rfl
  · rw [beg_00, if_pos rfl, sgI_l5]; rfl
  · rw [beg_00, if_neg (by omega), z _ _ (by omega)]
  · rw [beg_00, if_neg (by omega), z _ _ (by omega)]
  · rw [beg_00, if_neg (by omega), z _ _ (by omega)]
  · rw [beg_13, hg]
  · rw [beg_L14, hl]
  · rw [z _ _ (by omega)]
