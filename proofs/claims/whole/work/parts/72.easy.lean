/-! the short calls -/
theorem bEta {o : Option (Int32 × Sg)} : (o.bind fun q => some (q.1, q.2)) = o := by cases o <;> rfl
theorem m_in32 (a : Int32) {lo hi : Int64} {x y : Int} (h1 : lo.toInt = x) (h2 : hi.toInt = y) : s_m_in a.toInt64 lo hi = some (if x ≤ a.toInt ∧ a.toInt ≤ y then 1 else 0) := by
  subst h1; subst h2
  rw [s_m_in]
  by_cases c : (lg_cmp a.toInt64 lo) < 0
  · rw [if_pos c, if_neg]
    rw [lg_cmp_lt, Int64.lt_iff_toInt_lt, Int32.toInt_toInt64] at c; omega
  · rw [if_neg c]
    rw [lg_cmp_lt, Int64.lt_iff_toInt_lt, Int32.toInt_toInt64] at c
    by_cases d : 0 < (lg_cmp a.toInt64 hi)
    · rw [if_pos d, if_neg]
      rw [lg_cmp_gt, Int64.lt_iff_toInt_lt, Int32.toInt_toInt64] at d; omega
    · rw [if_neg d, if_pos]
      rw [lg_cmp_gt, Int64.lt_iff_toInt_lt, Int32.toInt_toInt64] at d; omega
theorem l32 {a b : Int32} {x y : Int} (ha : a.toInt = x) (hb : b.toInt = y) : a < b ↔ x < y := by rw [Int32.lt_iff_toInt_lt, ha, hb]
theorem e32 {a b : Int32} {x y : Int} (ha : a.toInt = x) (hb : b.toInt = y) : a ≤ b ↔ x ≤ y := by rw [Int32.le_iff_toInt_le, ha, hb]
theorem nat32 {a : Int32} {n : Nat} (h : 0 ≤ a.toInt) (h2 : a.toInt ≤ n) : ∃ k, k ≤ n ∧ k < 2 ^ 31 ∧ a = nI k := by
  obtain ⟨j, h3, h4⟩ := nI_of (x := a) (by rw [l32 rfl (show (0 : Int32).toInt = 0 from rfl)]; omega)
  refine ⟨j, ?_, h3, h4⟩
  rw [h4, nI_toInt h3] at h2; omega
theorem va_clN {n : Nat} (h : n < 2 ^ 31) : Int32.toNatClampNeg (Int32.ofNat n) = n := nI_clamp h
/-- a refusal: the same counter on both sides -/
theorem R_bad {σ : Sg} (hR : R σ) : R (pI (pI σ 0 12 (gI σ 0 12 + 1)) 75 0 (gI σ 75 0 + 1)) := by
  obtain ⟨⟨A, hA⟩, hI, hT, hF, hC, hK⟩ := hR
  refine ⟨⟨A, RA_cong (fun c hc j => ?_) hA⟩, RI_cong (fun c hc j => ?_) hI, RT_cong ?_ ?_ (fun j => ?_) (fun j => ?_) hT, hF, ?_, RK_cong (by rw [gI_pI, if_neg (by omega), gI_pI, if_neg (by omega)]) ?_ rfl rfl rfl hK⟩
  · rw [gI_pI, if_neg (by omega), gI_pI, if_neg (by omega)]
  · rw [gI_pI, if_neg (by omega), gI_pI, if_neg (by omega)]
  · rw [gI_pI, if_neg (by omega), gI_pI, if_neg (by omega)]
  · rw [gI_pI, if_neg (by omega), gI_pI, if_neg (by omega)]
  · rw [gI_pI, if_neg (by omega), gI_pI, if_neg (by omega)]
  · rw [gI_pI, if_neg (by omega), gI_pI, if_neg (by omega)]
  · obtain ⟨a, b, c⟩ := hC
    refine ⟨?_, ?_, ?_⟩
    · rw [gI_pI, if_neg (by omega), gI_pI, if_pos (by omega), gI_pI, if_pos (by omega), a]
    · rw [gI_pI, if_neg (by omega), gI_pI, if_neg (by omega), gI_pI, if_neg (by omega), gI_pI, if_neg (by omega), b]
    · rw [gI_pI, if_neg (by omega), gI_pI, if_neg (by omega), gI_pI, if_neg (by omega), gI_pI, if_neg (by omega), c]
  · funext j; rw [gI_pI, if_neg (by omega), gI_pI, if_neg (by omega)]
theorem R_no {σ : Sg} (hR : R σ) : R (pI (pI σ 0 13 (gI σ 0 13 + 1)) 75 1 (gI σ 75 1 + 1)) := by
  obtain ⟨⟨A, hA⟩, hI, hT, hF, hC, hK⟩ := hR
  refine ⟨⟨A, RA_cong (fun c hc j => ?_) hA⟩, RI_cong (fun c hc j => ?_) hI, RT_cong ?_ ?_ (fun j => ?_) (fun j => ?_) hT, hF, ?_, RK_cong (by rw [gI_pI, if_neg (by omega), gI_pI, if_neg (by omega)]) ?_ rfl rfl rfl hK⟩
  · rw [gI_pI, if_neg (by omega), gI_pI, if_neg (by omega)]
  · rw [gI_pI, if_neg (by omega), gI_pI, if_neg (by omega)]
  · rw [gI_pI, if_neg (by omega), gI_pI, if_neg (by omega)]
  · rw [gI_pI, if_neg (by omega), gI_pI, if_neg (by omega)]
  · rw [gI_pI, if_neg (by omega), gI_pI, if_neg (by omega)]
  · rw [gI_pI, if_neg (by omega), gI_pI, if_neg (by omega)]
  · obtain ⟨a, b, c⟩ := hC
    refine ⟨?_, ?_, ?_⟩
    · rw [gI_pI, if_neg (by omega), gI_pI, if_neg (by omega), gI_pI, if_neg (by omega), gI_pI, if_neg (by omega), a]
    · rw [gI_pI, if_neg (by omega), gI_pI, if_pos (by omega), gI_pI, if_pos (by omega), b]
    · rw [gI_pI, if_neg (by omega), gI_pI, if_neg (by omega), gI_pI, if_neg (by omega), gI_pI, if_neg (by omega), c]
  · funext j; rw [gI_pI, if_neg (by omega), gI_pI, if_neg (by omega)]
theorem R_full {σ : Sg} (hR : R σ) : R (pI (pI σ 0 14 (gI σ 0 14 + 1)) 75 2 (gI σ 75 2 + 1)) := by
  obtain ⟨⟨A, hA⟩, hI, hT, hF, hC, hK⟩ := hR
  refine ⟨⟨A, RA_cong (fun c hc j => ?_) hA⟩, RI_cong (fun c hc j => ?_) hI, RT_cong ?_ ?_ (fun j => ?_) (fun j => ?_) hT, hF, ?_, RK_cong (by rw [gI_pI, if_neg (by omega), gI_pI, if_neg (by omega)]) ?_ rfl rfl rfl hK⟩
  · rw [gI_pI, if_neg (by omega), gI_pI, if_neg (by omega)]
  · rw [gI_pI, if_neg (by omega), gI_pI, if_neg (by omega)]
  · rw [gI_pI, if_neg (by omega), gI_pI, if_neg (by omega)]
  · rw [gI_pI, if_neg (by omega), gI_pI, if_neg (by omega)]
  · rw [gI_pI, if_neg (by omega), gI_pI, if_neg (by omega)]
  · rw [gI_pI, if_neg (by omega), gI_pI, if_neg (by omega)]
  · obtain ⟨a, b, c⟩ := hC
    refine ⟨?_, ?_, ?_⟩
    · rw [gI_pI, if_neg (by omega), gI_pI, if_neg (by omega), gI_pI, if_neg (by omega), gI_pI, if_neg (by omega), a]
    · rw [gI_pI, if_neg (by omega), gI_pI, if_neg (by omega), gI_pI, if_neg (by omega), gI_pI, if_neg (by omega), b]
    · rw [gI_pI, if_neg (by omega), gI_pI, if_pos (by omega), gI_pI, if_pos (by omega), c]
  · funext j; rw [gI_pI, if_neg (by omega), gI_pI, if_neg (by omega)]
/-- both sides refuse -/
theorem al_bad {σ : Sg} {fx fm : Sg → Option (Int32 × Sg)} (v : Int32) (hR : R σ) (hx : fx σ = s_x_refusedBad σ v) (hm : fm (pI σ 0 12 (gI σ 0 12 + 1)) = s_m_bad (pI σ 0 12 (gI σ 0 12 + 1)) v) : Alike R σ fx fm :=
  ⟨v, _, _, hx, hm, R_bad hR⟩
theorem al_no {σ : Sg} {fx fm : Sg → Option (Int32 × Sg)} (v : Int32) (hR : R σ) (hx : fx σ = s_x_refusedNo σ v) (hm : fm (pI σ 0 13 (gI σ 0 13 + 1)) = s_m_no (pI σ 0 13 (gI σ 0 13 + 1)) v) : Alike R σ fx fm :=
  ⟨v, _, _, hx, hm, R_no hR⟩
theorem al_full {σ : Sg} {fx fm : Sg → Option (Int32 × Sg)} (hR : R σ) (hx : fx σ = s_x_refusedFull σ) (hm : fm (pI σ 0 14 (gI σ 0 14 + 1)) = s_m_full (pI σ 0 14 (gI σ 0 14 + 1))) : Alike R σ fx fm :=
  ⟨-4, _, _, hx, hm, R_full hR⟩
