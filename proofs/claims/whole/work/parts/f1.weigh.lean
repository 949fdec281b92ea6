def W44 (σ : Sg) (G : Nat → Nat) : Prop := ∀ j, j < 60 → gI σ 44 j = nI (G j)
def F44 (σ τ : Sg) : Prop := (∀ a j, ¬ a = 44 → gI τ a j = gI σ a j) ∧ τ.2 = σ.2
theorem F44_trans {σ τ κ : Sg} (h : F44 σ τ) (k : F44 τ κ) : F44 σ κ := ⟨fun a j q => (k.1 a j q).trans (h.1 a j q), k.2.trans h.2⟩
theorem x_fill {σ : Sg} : ∃ τ, s_Arrays_fill σ 0 = some τ ∧ W44 τ (fun _ => 0) ∧ F44 σ τ := by
  rw [s_Arrays_fill]
  obtain ⟨z, hz, g1, g2⟩ := lp_ex (b := b_Arrays_fill_5 0 60) (I := fun x n => ∃ k, x.2 = nI k ∧ k ≤ 60 ∧ n = 60 - k ∧ (∀ j, j < k → gI x.1 44 j = nI 0) ∧ F44 σ x.1) (G := fun x => (∀ j, j < 60 → gI x.1 44 j = nI 0) ∧ F44 σ x.1) (fun x n hx => by
    obtain ⟨τ, p⟩ := x
    obtain ⟨k, hp, k1, k2, i1, i2⟩ := hx
    have hp : p = nI k := hp
    subst hp
    have i1 : ∀ j, j < k → gI τ 44 j = nI 0 := i1
    have i2 : F44 σ τ := i2
    by_cases d : k = 60
    · subst d
      refine Or.inr ⟨(τ, nI 60), ?_, i1, i2⟩
      unfold b_Arrays_fill_5
      rw [if_pos (show (60 : Int32) ≤ nI 60 by decide)]
    · refine Or.inl ⟨(pI τ 44 k 0, nI (k + 1)), 60 - (k + 1), ?_, by omega, k + 1, rfl, by omega, rfl, fun j hj => ?_, fun c j h => (gI_ne (by omega)).trans (i2.1 c j h), i2.2⟩
      · unfold b_Arrays_fill_5
        rw [if_neg (by show ¬ nI 60 ≤ nI k; rw [nI_leI (by omega) (by omega)]; omega)]
        show (if inB (nI k) 60 = true then some (Sum.inl (pI τ 44 (Int32.toNatClampNeg (nI k)) 0, nI k + 1)) else none) = _
        rw [if_pos (inB_nI (by omega) (by omega)), nI_clamp (by omega), nI_1]
      · show gI (pI τ 44 k 0) 44 j = nI 0
        by_cases e : j = k
        · subst e; rw [gI_eq]; rfl
        · rw [gI_ne (by omega), i1 j (by omega)]) 100000 60 (σ, 0) (by omega) ⟨0, rfl, by omega, by omega, fun j hj => by omega, fun _ _ _ => rfl, rfl⟩
  rw [hz, Option.bind_some]
  exact ⟨_, rfl, g1, g2⟩
/-- one errand weighs on the hours up to its own -/
theorem x_w24 {σ : Sg} {v1 v2 : Int32} {idx pl hr : Nat} {G : Nat → Nat} (hi : idx < 36) (hp : pl < 6) (hh : hr < 10) (h23 : gI σ 23 idx = nI pl) (h24 : gI σ 24 idx = nI hr) (HG : W44 σ G) : ∃ o, lp (b_FreeDay_weighErrandsOf_24 v1 v2 (nI idx)) 100000 (σ, 0) = some o ∧ W44 o.1 (fun j => G j + b1 (decide (j % 10 ≤ hr) && decide (pl = j / 10))) ∧ F44 σ o.1 := by
  refine lp_ex (b := b_FreeDay_weighErrandsOf_24 v1 v2 (nI idx)) (I := fun x n => ∃ k, x.2 = nI k ∧ k ≤ hr + 1 ∧ n = hr + 1 - k ∧ W44 x.1 (fun j => G j + b1 (decide (j % 10 < k) && decide (pl = j / 10))) ∧ F44 σ x.1) (G := fun o => W44 o.1 (fun j => G j + b1 (decide (j % 10 ≤ hr) && decide (pl = j / 10))) ∧ F44 σ o.1) (fun x n hx => ?_) 100000 (hr + 1) (σ, 0) (by omega) ⟨0, rfl, by omega, by omega, fun j hj => by rw [HG j hj]; dsimp only; rw [decide_eq_false (show ¬ j % 10 < 0 by omega), Bool.false_and]; rfl, fun _ _ _ => rfl, rfl⟩
  obtain ⟨τ, p⟩ := x
  obtain ⟨k, hpk, k1, k2, i1, i2⟩ := hx
  have hpk : p = nI k := hpk
  subst hpk
  have i1 : W44 τ (fun j => G j + b1 (decide (j % 10 < k) && decide (pl = j / 10))) := i1
  have i2 : F44 σ τ := i2
  have t23 : gI τ 23 idx = nI pl := (i2.1 _ _ (by omega)).trans h23
  have t24 : gI τ 24 idx = nI hr := (i2.1 _ _ (by omega)).trans h24
  by_cases d : k = hr + 1
  · subst d
    refine Or.inr ⟨(τ, nI (hr + 1)), ?_, fun j hj => ?_, i2⟩
    · unfold b_FreeDay_weighErrandsOf_24
      show (if inB (nI idx) 36 = true then (if gI τ 24 (Int32.toNatClampNeg (nI idx)) < nI (hr + 1) then some (Sum.inr (τ, nI (hr + 1))) else _) else _) = _
      rw [if_pos (inB_nI (by omega) (by omega)), nI_clamp (by omega), t24, if_pos (by rw [nI_ltI (by omega) (by omega)]; omega)]
    · rw [i1 j hj]
      dsimp only
      by_cases g : j % 10 ≤ hr
      · rw [decide_eq_true g, decide_eq_true (show j % 10 < hr + 1 by omega)]
      · rw [decide_eq_false g, decide_eq_false (show ¬ j % 10 < hr + 1 by omega)]
  · have e10 : nI pl * 10 + nI k = nI (10 * pl + k) := by rw [show nI pl * 10 = nI (pl * 10) from (Int32.ofNat_mul pl 10).symm, Nat.mul_comm, nI_add]
    refine Or.inl ⟨(pI τ 44 (10 * pl + k) (nI (G (10 * pl + k) + 1)), nI (k + 1)), hr + 1 - (k + 1), ?_, by omega, k + 1, rfl, by omega, rfl, fun j hj => ?_, fun c j h => (gI_ne (by omega)).trans (i2.1 c j h), i2.2⟩
    · unfold b_FreeDay_weighErrandsOf_24
      show (if inB (nI idx) 36 = true then (if gI τ 24 (Int32.toNatClampNeg (nI idx)) < nI k then _ else (if inB (nI idx) 36 = true then (if inB ((gI τ 23 (Int32.toNatClampNeg (nI idx)) * 10) + nI k) 60 = true then (if inB ((gI τ 23 (Int32.toNatClampNeg (nI idx)) * 10) + nI k) 60 = true then some (Sum.inl (pI τ 44 (Int32.toNatClampNeg ((gI τ 23 (Int32.toNatClampNeg (nI idx)) * 10) + nI k)) (gI τ 44 (Int32.toNatClampNeg ((gI τ 23 (Int32.toNatClampNeg (nI idx)) * 10) + nI k)) + 1), nI k + 1)) else none) else none) else none)) else none) = _
      rw [if_pos (inB_nI (by omega) (by omega)), nI_clamp (by omega), t24, if_neg (by rw [nI_ltI (by omega) (by omega)]; omega), if_pos (inB_nI (by omega) (by omega)), t23, e10, if_pos (inB_nI (by omega) (by omega)), if_pos (inB_nI (by omega) (by omega)), nI_clamp (by omega), i1 _ (by omega), nI_1, nI_1]
      dsimp only
      rw [decide_eq_false (show ¬ (10 * pl + k) % 10 < k by omega), Bool.false_and]; rfl
    · show gI (pI τ 44 (10 * pl + k) _) 44 j = _
      by_cases e : j = 10 * pl + k
      · subst e
        rw [gI_eq]
        dsimp only
        rw [decide_eq_true (show (10 * pl + k) % 10 < k + 1 by omega), decide_eq_true (show pl = (10 * pl + k) / 10 by omega)]; rfl
      · rw [gI_ne (by omega), i1 j hj]
        dsimp only
        by_cases g : pl = j / 10
        · by_cases f : j % 10 < k
          · rw [decide_eq_true f, decide_eq_true (show j % 10 < k + 1 by omega)]
          · rw [decide_eq_false f, decide_eq_false (show ¬ j % 10 < k + 1 by omega)]
        · rw [decide_eq_false g, Bool.and_false, Bool.and_false]
/-- all errands of one of the people -/
theorem x_w6 {σ : Sg} {A : Nat → Nat} {p : Nat} {G : Nat → Nat} (hX : XT σ 19 A) (W : WT A) (hp : p < A 1) (HG : W44 σ G) : ∃ τ, s_FreeDay_weighErrandsOf σ (nI p) = some τ ∧ W44 τ (fun j => G j + ce A p (j / 10) (j % 10)) ∧ F44 σ τ := by
  have n9 := W.2.2.1
  have n6 := W.2.1
  obtain ⟨b1', b2', b3', b4', b5'⟩ := W.2.2.2 p hp
  obtain ⟨x1, x2, x3, x4⟩ := hX.2.2 p hp
  have h22 : gI σ 22 p = nI (A (4 + 11 * p)) := x3
  rw [s_FreeDay_weighErrandsOf, lt_eq, mul4]
  obtain ⟨z, hz, g1, g2⟩ := lp_ex (b := b_FreeDay_weighErrandsOf_6 (nI p) (nI (4 * p))) (I := fun x n => ∃ e, x.2 = nI (4 * p + e) ∧ e ≤ A (4 + 11 * p) ∧ n = A (4 + 11 * p) - e ∧ W44 x.1 (fun j => G j + sm (fun e => b1 (decide (j % 10 ≤ A (6 + 11 * p + 2 * e)) && decide (A (5 + 11 * p + 2 * e) = j / 10))) e) ∧ F44 σ x.1) (G := fun x => W44 x.1 (fun j => G j + ce A p (j / 10) (j % 10)) ∧ F44 σ x.1) (fun x n hx => by
    obtain ⟨τ, q⟩ := x
    obtain ⟨e, hq, k1, k2, i1, i2⟩ := hx
    have hq : q = nI (4 * p + e) := hq
    subst hq
    have i2 : F44 σ τ := i2
    have t22 : gI τ 22 p = nI (A (4 + 11 * p)) := (i2.1 _ _ (by omega)).trans h22
    by_cases d : e = A (4 + 11 * p)
    · refine Or.inr ⟨(τ, nI (4 * p + e)), ?_, fun j hj => ?_, i2⟩
      · unfold b_FreeDay_weighErrandsOf_6
        show (if inB (nI p) 9 = true then (if nI (4 * p) + gI τ 22 (Int32.toNatClampNeg (nI p)) ≤ nI (4 * p + e) then some (Sum.inr (τ, nI (4 * p + e))) else _) else _) = _
        rw [if_pos (inB_nI (by omega) (by omega)), nI_clamp (by omega), t22, nI_add, if_pos (by rw [nI_leI (by omega) (by omega)]; omega)]
      · have := i1 j hj
        rw [d] at this; exact this
    · obtain ⟨y1, y2⟩ := x4 e (by omega)
      obtain ⟨y3, y4⟩ := b5' e (by omega)
      obtain ⟨o, o1, o2, o3⟩ := x_w24 (σ := τ) (v1 := nI p) (v2 := nI (4 * p)) (idx := 4 * p + e) (pl := A (5 + 11 * p + 2 * e)) (hr := A (6 + 11 * p + 2 * e)) (by omega) (by omega) y4 ((i2.1 _ _ (by omega)).trans y1) ((i2.1 _ _ (by omega)).trans y2) i1
      refine Or.inl ⟨(o.1, nI (4 * p + (e + 1))), A (4 + 11 * p) - (e + 1), ?_, by omega, e + 1, rfl, by omega, rfl, fun j hj => ?_, F44_trans i2 o3⟩
      · unfold b_FreeDay_weighErrandsOf_6
        show (if inB (nI p) 9 = true then (if nI (4 * p) + gI τ 22 (Int32.toNatClampNeg (nI p)) ≤ nI (4 * p + e) then _ else (lp (b_FreeDay_weighErrandsOf_24 (nI p) (nI (4 * p)) (nI (4 * p + e))) 100000 (τ, 0)).bind fun o11 => some (Sum.inl (o11.1, nI (4 * p + e) + 1))) else none) = _
        rw [if_pos (inB_nI (by omega) (by omega)), nI_clamp (by omega), t22, nI_add, if_neg (by rw [nI_leI (by omega) (by omega)]; omega), o1, Option.bind_some, nI_1]; rfl
      · rw [o2 j hj]
        dsimp only
        rw [Nat.add_assoc]; rfl) 100000 (A (4 + 11 * p)) (σ, nI (4 * p)) (by omega) ⟨0, rfl, by omega, by omega, HG, fun _ _ _ => rfl, rfl⟩
  rw [hz, Option.bind_some]
  exact ⟨_, rfl, g1, g2⟩
theorem sm_mem {f : Nat → Nat} {m N : Nat} (hN : N ≤ 9) (hm : m < 2 ^ N) (h5 : m < 512) (h3 : bN m = 3) : sm (fun p => if m.testBit p = true then f p else 0) N = f (wm m 0) + f (wm m 1) + f (wm m 2) := by
  obtain ⟨⟨c0, c9⟩, ck, -⟩ := mem_ok m h5 h3
  have key : ∀ k, k ≤ 9 → sm (fun p => if m.testBit p = true then f p else 0) k = sm (fun j => f (wm m j)) (cn m k) := by
    intro k
    induction k with
    | zero => intro _; rw [c0]; rfl
    | succ k ih =>
      intro hk
      obtain ⟨a, b⟩ := ck k (by omega)
      rw [sm, ih (by omega)]
      by_cases c : m.testBit k = true
      · obtain ⟨a1, a2, -⟩ := a c
        rw [if_pos c, a1, sm, a2]
      · rw [if_neg c, b (by cases h : m.testBit k; rfl; exact absurd h c)]; rfl
  rw [key N hN, cn_N N (by omega) m hm h3]
  show 0 + f (wm m 0) + f (wm m 1) + f (wm m 2) = _
  omega
theorem x_weigh {σ : Sg} {A : Nat → Nat} {m : Nat} (hX : XT σ 19 A) (W : WT A) (hm : m < 2 ^ A 1) (h5 : m < 512) (h3 : bN m = 3) : ∃ τ, s_FreeDay_weigh σ (nI m) = some τ ∧ W44 τ (fun j => wo A (wm m) (j / 10) (j % 10)) ∧ F44 σ τ := by
  have n9 := W.2.2.1
  obtain ⟨ρ, r1, r2, r3⟩ := x_fill (σ := σ)
  rw [s_FreeDay_weigh, r1, Option.bind_some]
  obtain ⟨z, hz, g1, g2⟩ := lp_ex (b := b_FreeDay_weigh_10 (nI m)) (I := fun x n => ∃ p, x.2 = nI p ∧ p ≤ A 1 ∧ n = A 1 - p ∧ W44 x.1 (fun j => sm (fun p => if m.testBit p = true then ce A p (j / 10) (j % 10) else 0) p) ∧ F44 σ x.1) (G := fun x => W44 x.1 (fun j => wo A (wm m) (j / 10) (j % 10)) ∧ F44 σ x.1) (fun x n hx => by
    obtain ⟨τ, q⟩ := x
    obtain ⟨p, hq, k1, k2, i1, i2⟩ := hx
    have hq : q = nI p := hq
    subst hq
    have i1 : W44 τ (fun j => sm (fun p => if m.testBit p = true then ce A p (j / 10) (j % 10) else 0) p) := i1
    have i2 : F44 σ τ := i2
    have t6 : gI τ 19 6 = nI (A 1) := (i2.1 _ _ (by omega)).trans hX.2.1
    by_cases d : p = A 1
    · refine Or.inr ⟨(τ, nI p), ?_, fun j hj => ?_, i2⟩
      · unfold b_FreeDay_weigh_10
        show (if gI τ 19 6 ≤ nI p then some (Sum.inr (τ, nI p)) else _) = _
        rw [t6, if_pos (by rw [nI_leI (by omega) (by omega)]; omega)]
      · rw [i1 j hj, d]
        exact congrArg nI (sm_mem n9 hm h5 h3)
    · have tb := tb_ok m h5 p (by omega)
      have hXτ : XT τ 19 A := XT_cong (fun c a b j => i2.1 c j (by omega)) (fun _ _ => rfl) W hX
      have hb : b_FreeDay_weigh_10 (nI m) (τ, nI p) = if m.testBit p = true then ((s_FreeDay_weighErrandsOf τ (nI p)).bind fun q6 => some (.inl (q6, nI (p + 1)))) else some (.inl (τ, nI (p + 1))) := by
        unfold b_FreeDay_weigh_10
        show (if gI τ 19 6 ≤ nI p then _ else (s_x_isIn (nI m) (nI p)).bind fun q3 => if q3 = 0 then some (Sum.inl (τ, nI p + 1)) else (s_FreeDay_weighErrandsOf τ (nI p)).bind fun q6 => some (Sum.inl (q6, nI p + 1))) = _
        rw [t6, if_neg (by rw [nI_leI (by omega) (by omega)]; omega), s_x_isIn, nI_1]
        by_cases c : m.testBit p = true
        · rw [if_pos (tb.mpr c), Option.bind_some, if_neg (by decide), if_pos c]
        · rw [if_neg (fun q => c (tb.mp q)), Option.bind_some, if_pos rfl, if_neg c]
      left
      by_cases c : m.testBit p = true
      · obtain ⟨κ, e1, e2, e3⟩ := x_w6 hXτ W (show p < A 1 by omega) i1
        rw [if_pos c, e1, Option.bind_some] at hb
        refine ⟨_, A 1 - (p + 1), hb, by omega, p + 1, rfl, by omega, rfl, fun j hj => ?_, F44_trans i2 e3⟩
        show gI κ 44 j = _
        rw [e2 j hj]
        dsimp only
        rw [sm, if_pos c]
      · rw [if_neg c] at hb
        refine ⟨_, A 1 - (p + 1), hb, by omega, p + 1, rfl, by omega, rfl, fun j hj => ?_, i2⟩
        show gI τ 44 j = _
        rw [i1 j hj]
        dsimp only
        rw [sm, if_neg c]; rfl) 100000 (A 1) (ρ, 0) (by omega) ⟨0, rfl, by omega, by omega, r2, r3⟩
  rw [hz, Option.bind_some]
  exact ⟨_, rfl, g1, g2⟩
