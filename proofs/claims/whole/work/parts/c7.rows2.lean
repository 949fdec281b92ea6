/-- what binds nothing may change -/
theorem R_any {σ τ : Sg} (hR : R σ) (hz : ∀ c j, ¬ (c = 12 ∨ c = 15 ∧ ¬ j = 0 ∨ c = 16 ∨ c = 31 ∨ 33 ≤ c ∧ c ≤ 37 ∨ 44 ≤ c ∧ c ≤ 46 ∨ c = 71 ∧ (j = 9 ∨ j = 16) ∨ 76 ≤ c ∧ c ≤ 83) → gI τ c j = gI σ c j) (hL : ∀ c j, ¬ (c = 17 ∨ c = 84) → gL τ c j = gL σ c j) (hr : gR τ = gR σ) : R τ := by
  obtain ⟨⟨A, hA⟩, hI, hT, hF, hC, hK⟩ := hR
  exact ⟨⟨A, RA_cong (fun c hc j => hz c j (by omega)) hA⟩, RI_cong (fun c hc j => hz c j (by omega)) hI, RT_cong (hz _ _ (by omega)) (hz _ _ (by omega)) (fun j => hz _ _ (by omega)) (fun j => hz _ _ (by omega)) hT, RF_cong (hz _ _ (by omega)) (hz _ _ (by omega)) (hL _ _ (by omega)) (hL _ _ (by omega)) hF, RC_cong (fun j _ => hz _ _ (by omega)) (fun j => hz _ _ (by omega)) hC, RK_cong (hz _ _ (by omega)) (funext fun j => hz _ _ (by omega)) (funext fun j => hL _ _ (by omega)) (by rw [hr]) (by rw [hr]) hK⟩
theorem sum_lp {b : Int64 × Int32 → Option ((Int64 × Int32) ⊕ (Int64 × Int32))} {f : Nat → Nat} {N : Nat} (hN : N ≤ 280) (hs : ∀ acc i, i < N → b (nL acc, nI i) = some (.inl (nL (acc + f i), nI (i + 1)))) (he : ∀ acc, b (nL acc, nI N) = some (.inr (nL acc, nI N))) (acc : Nat) : lp b 100000 (nL acc, 0) = some (nL (acc + sm f N), nI N) := by
  have := lp_run (b := b) (fun i => (nL (acc + sm f i), nI i)) (z := (nL (acc + sm f N), nI N)) N 100000 (by omega) (fun i hi => by
    show b (nL (acc + sm f i), nI i) = _
    rw [hs _ i hi, Nat.add_assoc]; rfl) (he _)
  exact this
theorem e64 {n : Nat} (h : n < 2 ^ 31) : Int32.toInt64 (nI n) = nL n := Int32.toInt64_ofNat' (by rw [show Int32.maxValue.toInt = 2147483647 from rfl]; omega)
/-- the class's row of pairs -/
def G17 (σ : Sg) (p : Nat → Nat) (N : Nat) : Prop := N ≤ 280 ∧ ∀ i, i < N → gL σ 17 i = nL (p i) ∧ p i < 2 ^ 40
theorem and_lt40 {x y : Nat} (h : x < 2 ^ 40) : x &&& y < 2 ^ 40 := Nat.lt_of_le_of_lt Nat.and_le_left h
theorem x_l0 {σ : Sg} {N : Nat} {m : Int64} : s_Splits_rowsBehind_17_l0 σ (nI N) m 0 = some 1 := by
  rw [s_Splits_rowsBehind_17_l0, if_neg (by decide)]
theorem x_l1 {σ : Sg} {p : Nat → Nat} {N : Nat} (H : G17 σ p N) (met : Nat) {k : Nat} (hk : k ≤ 1) : s_Splits_rowsBehind_17_l1 σ (nI N) (nL met) (nI k) = some (nL (rb p N k met)) := by
  have hN := H.1
  rw [s_Splits_rowsBehind_17_l1]
  by_cases c : k = 0
  · subst c; rw [if_neg (by decide)]; rfl
  have c1 : k = 1 := by omega
  subst c1
  rw [if_pos (by decide)]
  have := sum_lp (b := b_Splits_rowsBehind_17_l1_13 σ (nI N) (nL met) (nI 1)) (f := fun i => if p i &&& met = 0 then rb p N 0 (met ||| p i) else 0) hN (fun acc i hi => by
    obtain ⟨h1, h2⟩ := H.2 i hi
    unfold b_Splits_rowsBehind_17_l1_13
    show (if nI N ≤ nI i then _ else (if inB (nI i) 280 = true then (if (lg_cmp ((gL σ 17 (Int32.toNatClampNeg (nI i))) &&& nL met) 0) = 0 then (if inB (nI i) 280 = true then ((s_Splits_rowsBehind_17_l0 σ (nI N) (nL met ||| (gL σ 17 (Int32.toNatClampNeg (nI i)))) (nI 1 - 1)).bind fun q7 => some (Sum.inl (nL acc + q7, nI i + 1))) else none) else some (Sum.inl (nL acc, nI i + 1))) else none)) = _
    rw [if_neg (by rw [nI_leI (by omega) (by omega)]; omega), if_pos (inB_nI (by omega) (by omega)), nI_clamp (by omega), h1, nL_and, nI_1, if_pos (inB_nI (by omega) (by omega))]
    by_cases d : p i &&& met = 0
    · rw [if_pos ((cmp0 (and_lt40 h2)).mpr d), show nI 1 - 1 = 0 from rfl, x_l0, Option.bind_some, if_pos d]
      show some (Sum.inl (nL acc + nL 1, _)) = _
      rw [nL_add]; rfl
    · rw [if_neg (fun q => d ((cmp0 (and_lt40 h2)).mp q)), if_neg d]; rfl) (fun acc => by
    unfold b_Splits_rowsBehind_17_l1_13
    show (if nI N ≤ nI N then some (Sum.inr (nL acc, nI N)) else _) = _
    rw [if_pos (by rw [nI_leI (by omega) (by omega)]; omega)]) 0
  rw [show lp (b_Splits_rowsBehind_17_l1_13 σ (nI N) (nL met) (nI 1)) 100000 (0, 0) = _ from this, Nat.zero_add]; rfl
theorem x_l2 {σ : Sg} {p : Nat → Nat} {N : Nat} (H : G17 σ p N) (met : Nat) {k : Nat} (hk : k ≤ 2) : s_Splits_rowsBehind_17_l2 σ (nI N) (nL met) (nI k) = some (nL (rb p N k met)) := by
  have hN := H.1
  rw [s_Splits_rowsBehind_17_l2]
  by_cases c : k = 0
  · subst c; rw [if_neg (by decide)]; rfl
  obtain ⟨k, rfl⟩ : ∃ m, k = m + 1 := ⟨k - 1, by omega⟩
  rw [if_pos (by show nI 0 < nI (k + 1); rw [nI_ltI (by omega) (by omega)]; omega)]
  have := sum_lp (b := b_Splits_rowsBehind_17_l2_13 σ (nI N) (nL met) (nI (k + 1))) (f := fun i => if p i &&& met = 0 then rb p N k (met ||| p i) else 0) hN (fun acc i hi => by
    obtain ⟨h1, h2⟩ := H.2 i hi
    unfold b_Splits_rowsBehind_17_l2_13
    show (if nI N ≤ nI i then _ else (if inB (nI i) 280 = true then (if (lg_cmp ((gL σ 17 (Int32.toNatClampNeg (nI i))) &&& nL met) 0) = 0 then (if inB (nI i) 280 = true then ((s_Splits_rowsBehind_17_l1 σ (nI N) (nL met ||| (gL σ 17 (Int32.toNatClampNeg (nI i)))) (nI (k + 1) - 1)).bind fun q7 => some (Sum.inl (nL acc + q7, nI i + 1))) else none) else some (Sum.inl (nL acc, nI i + 1))) else none)) = _
    rw [if_neg (by rw [nI_leI (by omega) (by omega)]; omega), if_pos (inB_nI (by omega) (by omega)), nI_clamp (by omega), h1, nL_and, nI_1, if_pos (inB_nI (by omega) (by omega)), nI_pred, nL_or, x_l1 H _ (by omega), Option.bind_some, nL_add]
    by_cases d : p i &&& met = 0
    · rw [if_pos ((cmp0 (and_lt40 h2)).mpr d), if_pos d]
    · rw [if_neg (fun q => d ((cmp0 (and_lt40 h2)).mp q)), if_neg d]; rfl) (fun acc => by
    unfold b_Splits_rowsBehind_17_l2_13
    show (if nI N ≤ nI N then some (Sum.inr (nL acc, nI N)) else _) = _
    rw [if_pos (by rw [nI_leI (by omega) (by omega)]; omega)]) 0
  rw [show lp (b_Splits_rowsBehind_17_l2_13 σ (nI N) (nL met) (nI (k + 1))) 100000 (0, 0) = _ from this, Nat.zero_add]; rfl
theorem x_l3 {σ : Sg} {p : Nat → Nat} {N : Nat} (H : G17 σ p N) (met : Nat) {k : Nat} (hk : k ≤ 3) : s_Splits_rowsBehind_l3 σ (nI N) (nL met) (nI k) = some (nL (rb p N k met)) := by
  have hN := H.1
  rw [s_Splits_rowsBehind_l3]
  by_cases c : k = 0
  · subst c; rw [if_neg (by decide)]; rfl
  obtain ⟨k, rfl⟩ : ∃ m, k = m + 1 := ⟨k - 1, by omega⟩
  rw [if_pos (by show nI 0 < nI (k + 1); rw [nI_ltI (by omega) (by omega)]; omega)]
  have := sum_lp (b := b_Splits_rowsBehind_l3_13 σ (nI N) (nL met) (nI (k + 1))) (f := fun i => if p i &&& met = 0 then rb p N k (met ||| p i) else 0) hN (fun acc i hi => by
    obtain ⟨h1, h2⟩ := H.2 i hi
    unfold b_Splits_rowsBehind_l3_13
    show (if nI N ≤ nI i then _ else (if inB (nI i) 280 = true then (if (lg_cmp ((gL σ 17 (Int32.toNatClampNeg (nI i))) &&& nL met) 0) = 0 then (if inB (nI i) 280 = true then ((s_Splits_rowsBehind_17_l2 σ (nI N) (nL met ||| (gL σ 17 (Int32.toNatClampNeg (nI i)))) (nI (k + 1) - 1)).bind fun q7 => some (Sum.inl (nL acc + q7, nI i + 1))) else none) else some (Sum.inl (nL acc, nI i + 1))) else none)) = _
    rw [if_neg (by rw [nI_leI (by omega) (by omega)]; omega), if_pos (inB_nI (by omega) (by omega)), nI_clamp (by omega), h1, nL_and, nI_1, if_pos (inB_nI (by omega) (by omega)), nI_pred, nL_or, x_l2 H _ (by omega), Option.bind_some, nL_add]
    by_cases d : p i &&& met = 0
    · rw [if_pos ((cmp0 (and_lt40 h2)).mpr d), if_pos d]
    · rw [if_neg (fun q => d ((cmp0 (and_lt40 h2)).mp q)), if_neg d]; rfl) (fun acc => by
    unfold b_Splits_rowsBehind_l3_13
    show (if nI N ≤ nI N then some (Sum.inr (nL acc, nI N)) else _) = _
    rw [if_pos (by rw [nI_leI (by omega) (by omega)]; omega)]) 0
  rw [show lp (b_Splits_rowsBehind_l3_13 σ (nI N) (nL met) (nI (k + 1))) 100000 (0, 0) = _ from this, Nat.zero_add]; rfl
/-- the reference's row of pairs -/
def G84 (σ : Sg) (p : Nat → Nat) (N : Nat) : Prop := N ≤ 280 ∧ gI σ 71 16 = nI N ∧ ∀ i, i < N → gL σ 84 i = nL (p i) ∧ p i < 2 ^ 40
theorem or_lt40 {x y : Nat} (h : x < 2 ^ 40) (k : y < 2 ^ 40) : x ||| y < 2 ^ 40 := Nat.or_lt_two_pow h k
theorem m_last {σ : Sg} {p : Nat → Nat} {N met : Nat} (H : G84 σ p N) (hm : met < 2 ^ 40) : s_m_last σ (nL met) = some (nL (rb p N 1 met)) := by
  obtain ⟨hN, h16, h84⟩ := H
  rw [s_m_last]
  have := sum_lp (b := b_m_last_5 σ (nL met)) (f := fun i => if p i &&& met = 0 then rb p N 0 (met ||| p i) else 0) hN (fun acc i hi => by
    obtain ⟨h1, h2⟩ := h84 i hi
    unfold b_m_last_5
    show (if gI σ 71 16 ≤ nI i then _ else (if inB (nI i) 280 = true then (if (lg_cmp (nL met &&& (gL σ 84 (Int32.toNatClampNeg (nI i)))) 0) = 0 then some (Sum.inl (nL acc + nL 1, nI i + 1)) else some (Sum.inl (nL acc + nL 0, nI i + 1))) else none)) = _
    rw [h16, if_neg (by rw [nI_leI (by omega) (by omega)]; omega), if_pos (inB_nI (by omega) (by omega)), nI_clamp (by omega), h1, nL_and, nI_1, nL_add, nL_add]
    by_cases d : p i &&& met = 0
    · rw [if_pos ((cmp0 (and_lt40 hm)).mpr (by rw [Nat.and_comm]; exact d)), if_pos d]; rfl
    · rw [if_neg (fun q => d (by rw [Nat.and_comm]; exact (cmp0 (and_lt40 hm)).mp q)), if_neg d]) (fun acc => by
    unfold b_m_last_5
    show (if gI σ 71 16 ≤ nI N then some (Sum.inr (nL acc, nI N)) else _) = _
    rw [h16, if_pos (by rw [nI_leI (by omega) (by omega)]; omega)]) 0
  rw [show lp (b_m_last_5 σ (nL met)) 100000 (0, 0) = _ from this, Nat.zero_add]; rfl
theorem m_more {σ : Sg} {p : Nat → Nat} {N met w : Nat} (H : G84 σ p N) (hm : met < 2 ^ 40) (hw : w = 1 ∨ w = 2) : s_m_more σ (nL met) (nI w) = some (nL (rb p N w met)) := by
  obtain ⟨hN, h16, h84⟩ := id H
  rw [s_m_more]
  obtain ⟨k, rfl⟩ : ∃ k, w = k + 1 := ⟨w - 1, by omega⟩
  have := sum_lp (b := b_m_more_6 σ (nL met) (nI (k + 1))) (f := fun i => if p i &&& met = 0 then rb p N k (met ||| p i) else 0) hN (fun acc i hi => by
    obtain ⟨h1, h2⟩ := h84 i hi
    unfold b_m_more_6
    show (if gI σ 71 16 ≤ nI i then _ else (if inB (nI i) 280 = true then (if (lg_cmp (nL met &&& (gL σ 84 (Int32.toNatClampNeg (nI i)))) 0) = 0 then (if nI (k + 1) = 1 then some (Sum.inl (nL acc + nL 1, nI i + 1)) else (if inB (nI i) 280 = true then ((s_m_last σ (nL met ||| (gL σ 84 (Int32.toNatClampNeg (nI i))))).bind fun q7 => some (Sum.inl (nL acc + q7, nI i + 1))) else none)) else some (Sum.inl (nL acc, nI i + 1))) else none)) = _
    rw [h16, if_neg (by rw [nI_leI (by omega) (by omega)]; omega), if_pos (inB_nI (by omega) (by omega)), nI_clamp (by omega), h1, nL_and, nI_1, nL_or, m_last H (or_lt40 hm h2), Option.bind_some, nL_add, nL_add, if_pos (inB_nI (by omega) (by omega))]
    by_cases d : p i &&& met = 0
    · rw [if_pos ((cmp0 (and_lt40 hm)).mpr (by rw [Nat.and_comm]; exact d)), if_pos d]
      rcases hw with e | e
      · have : k = 0 := by omega
        subst this; rw [if_pos (show nI (0 + 1) = 1 from rfl)]; rfl
      · have : k = 1 := by omega
        subst this; rw [if_neg (show ¬ nI (1 + 1) = 1 by decide)]
    · rw [if_neg (fun q => d (by rw [Nat.and_comm]; exact (cmp0 (and_lt40 hm)).mp q)), if_neg d]; rfl) (fun acc => by
    unfold b_m_more_6
    show (if gI σ 71 16 ≤ nI N then some (Sum.inr (nL acc, nI N)) else _) = _
    rw [h16, if_pos (by rw [nI_leI (by omega) (by omega)]; omega)]) 0
  rw [show lp (b_m_more_6 σ (nL met) (nI (k + 1))) 100000 (0, 0) = _ from this, Nat.zero_add]; rfl
theorem m_rows67 {σ : Sg} {p : Nat → Nat} {N w a : Nat} (H : G84 σ p N) (hw : w ≤ 4) (hw2 : 2 ≤ w) (ha : a < N) (acc : Nat) : lp (b_m_rows_67 σ (nI w) (nI a)) 100000 (nL acc, 0) = some (nL (acc + rb p N (w - 1) (p a)), nI N) := by
  obtain ⟨hN, h16, h84⟩ := id H
  obtain ⟨k, rfl⟩ : ∃ k, w = k + 2 := ⟨w - 2, by omega⟩
  obtain ⟨g1, g2⟩ := h84 a ha
  rw [show k + 2 - 1 = k + 1 from by omega, rb]
  refine sum_lp (b := b_m_rows_67 σ (nI (k + 2)) (nI a)) (f := fun i => if p i &&& p a = 0 then rb p N k (p a ||| p i) else 0) hN (fun acc i hi => ?_) (fun acc => ?_) acc
  · obtain ⟨h1, h2⟩ := h84 i hi
    unfold b_m_rows_67
    show (if gI σ 71 16 ≤ nI i then _ else (if inB (nI a) 280 = true then (if inB (nI i) 280 = true then (if (lg_cmp ((gL σ 84 (Int32.toNatClampNeg (nI a))) &&& (gL σ 84 (Int32.toNatClampNeg (nI i)))) 0) = 0 then (if nI (k + 2) = 2 then some (Sum.inl (nL acc + nL 1, nI i + 1)) else (if inB (nI a) 280 = true then (if inB (nI i) 280 = true then ((s_m_more σ ((gL σ 84 (Int32.toNatClampNeg (nI a))) ||| (gL σ 84 (Int32.toNatClampNeg (nI i)))) (nI (k + 2) - 2)).bind fun q16 => some (Sum.inl (nL acc + q16, nI i + 1))) else none) else none)) else some (Sum.inl (nL acc, nI i + 1))) else none) else none)) = _
    rw [h16, if_neg (by rw [nI_leI (by omega) (by omega)]; omega), if_pos (inB_nI (by omega) (by omega)), if_pos (inB_nI (by omega) (by omega)), if_pos (inB_nI (by omega) (by omega)), if_pos (inB_nI (by omega) (by omega)), nI_clamp (by omega), nI_clamp (by omega), g1, h1, nL_and, nI_1, nL_or, nL_add]
    have e2 : nI (k + 2) = 2 ↔ k = 0 := by
      rw [show (2 : Int32) = nI 2 from rfl, nI_eq (by omega) (by omega)]; omega
    have e3 : nI (k + 2) - 2 = nI k := by rw [show nI (k + 2) = nI k + nI 2 from (nI_add k 2).symm]; exact Int32.add_sub_cancel _ _
    rw [e3]
    by_cases d : p i &&& p a = 0
    · rw [if_pos ((cmp0 (and_lt40 g2)).mpr (by rw [Nat.and_comm]; exact d)), if_pos d]
      by_cases e : k = 0
      · subst e; rw [if_pos (show nI (0 + 2) = 2 from rfl)]; rfl
      · rw [if_neg (fun q => e (e2.mp q)), m_more H (or_lt40 g2 h2) (by omega), Option.bind_some, nL_add]
    · rw [if_neg (fun q => d (by rw [Nat.and_comm]; exact (cmp0 (and_lt40 g2)).mp q)), if_neg d]; rfl
  · unfold b_m_rows_67
    show (if gI σ 71 16 ≤ nI N then some (Sum.inr (nL acc, nI N)) else _) = _
    rw [h16, if_pos (by rw [nI_leI (by omega) (by omega)]; omega)]
theorem m_rows55 {σ : Sg} {p : Nat → Nat} {N w : Nat} (H : G84 σ p N) (hw : w ≤ 4) (hw2 : 2 ≤ w) : lp (b_m_rows_55 σ (nI w)) 100000 (0, 0) = some (nL (sm (fun a => rb p N (w - 1) (p a)) N), nI N) := by
  obtain ⟨hN, h16, h84⟩ := id H
  have := sum_lp (b := b_m_rows_55 σ (nI w)) (f := fun a => rb p N (w - 1) (p a)) hN (fun acc i hi => by
    unfold b_m_rows_55
    show (if gI σ 71 16 ≤ nI i then _ else (lp (b_m_rows_67 σ (nI w) (nI i)) 100000 (nL acc, 0)).bind fun o21 => some (Sum.inl (o21.1, nI i + 1))) = _
    rw [h16, if_neg (by rw [nI_leI (by omega) (by omega)]; omega), m_rows67 H hw hw2 hi, Option.bind_some, nI_1]) (fun acc => by
    unfold b_m_rows_55
    show (if gI σ 71 16 ≤ nI N then some (Sum.inr (nL acc, nI N)) else _) = _
    rw [h16, if_pos (by rw [nI_leI (by omega) (by omega)]; omega)]) 0
  rw [Nat.zero_add] at this; exact this
