theorem dE_le {A w : Nat → Nat} {h at_ i : Nat} : ∀ (m k : Nat) (s : Nat × Nat), (dE A w h at_ i k m s).2 ≤ s.2 + m := by
  intro m
  induction m with
  | zero => intro k s; exact Nat.le_refl _
  | succ m ih =>
    intro k s
    rw [dE_s]
    by_cases x : (!s.1.testBit k && decide (h ≤ A (6 + 11 * w i + 2 * k))) = true ∧ A (5 + 11 * w i + 2 * k) = at_
    · rw [if_pos x]; have := ih (k + 1) (s.1 ||| 2 ^ k, s.2 + 1); have e : (s.1 ||| 2 ^ k, s.2 + 1).2 = s.2 + 1 := rfl; omega
    · rw [if_neg x]; have := ih (k + 1) s; omega
theorem do3_le {A w D : Nat → Nat} {h at_ c : Nat} (W : WT A) (hw : ∀ j, j < 3 → w j < A 1) : (do3 A w D h at_ c).2 ≤ c + 12 := by
  have e0 := (W.2.2.2 (w 0) (hw 0 (by omega))).2.2.2.1
  have e1 := (W.2.2.2 (w 1) (hw 1 (by omega))).2.2.2.1
  have e2 := (W.2.2.2 (w 2) (hw 2 (by omega))).2.2.2.1
  have a0 : (dos A w D h at_ 0 c).2 ≤ c + _ := dE_le _ _ _
  have a1 : (dos A w (updA D 0 (dos A w D h at_ 0 c).1) h at_ 1 (dos A w D h at_ 0 c).2).2 ≤ (dos A w D h at_ 0 c).2 + _ := dE_le _ _ _
  have a2 : (do3 A w D h at_ c).2 ≤ (dos A w (updA D 0 (dos A w D h at_ 0 c).1) h at_ 1 (dos A w D h at_ 0 c).2).2 + _ := dE_le _ _ _
  omega
theorem dst_le {A w : Nat → Nat} {f : Bool} (W : WT A) (hw : ∀ j, j < 3 → w j < A 1) : ∀ h, (dst A w f h).2.2 ≤ 12 * h
  | 0 => Nat.le_refl _
  | h + 1 => by
    have := dst_le (f := f) W hw h
    have b : (dst A w f (h + 1)).2.2 ≤ (dst A w f h).2.2 + 12 := do3_le W hw
    omega
theorem dC_le {A : Nat → Nat} {m : Nat} (W : WT A) (hm : m < 2 ^ A 1) (h5 : m < 512) (h3 : bN m = 3) : dC A m ≤ 120 :=
  dst_le W (fun j hj => wm_lt W.2.2.1 hm h5 h3 hj) 10
/-- what a three, or none, gets done -/
def dc (A : Nat → Nat) (t : Nat) : Nat := if t = 0 then 0 else dC A t
def ds (A : Nat → Nat) (e : Nat × Nat × Nat) : Nat := dc A e.1 + dc A e.2.1 + dc A e.2.2
/-- the first split of those before s (one at least) by which most gets done -/
def fm (A : Nat → Nat) (P : Nat) : Nat → Nat
  | 0 => 0
  | s + 1 => if s = 0 then 0 else if ds A ((SL P).getD s (0, 0, 0)) ≤ ds A ((SL P).getD (fm A P s) (0, 0, 0)) then fm A P s else s
theorem fm_lt {A : Nat → Nat} {P : Nat} : ∀ s, 1 ≤ s → fm A P s < s
  | 0, h => by omega
  | s + 1, _ => by
    rw [fm]
    by_cases c : s = 0
    · rw [if_pos c]; omega
    · rw [if_neg c]
      have := fm_lt (A := A) (P := P) s (by omega)
      by_cases d : ds A ((SL P).getD s (0, 0, 0)) ≤ ds A ((SL P).getD (fm A P s) (0, 0, 0))
      · rw [if_pos d]; omega
      · rw [if_neg d]; omega
theorem x_walk {σ : Sg} {A : Nat → Nat} (hX : XT σ 19 A) (W : WT A) (h13 : gI σ 13 = gI spT 1) : ∃ τ, s_x_walkAllThrees σ = some τ ∧ (∀ t, t < 512 → bN t = 3 → t < 2 ^ A 1 → gI τ 15 t = nI (dC A t)) ∧ (∀ c j, ¬ (c = 15 ∧ ¬ j = 0 ∨ c = 31 ∨ 33 ≤ c ∧ c ≤ 37) → gI τ c j = gI σ c j) ∧ τ.2 = σ.2 := by
  have n9 := W.2.2.1
  rw [s_x_walkAllThrees]
  obtain ⟨z, hz, g1, g2, g3⟩ := lp_ex (b := b_x_walkAllThrees_13 84) (I := fun x n => ∃ k, x.2 = nI k ∧ k ≤ 84 ∧ n = 84 - k ∧ (∀ y, y < k → T3 y < 2 ^ A 1 → gI x.1 15 (T3 y) = nI (dC A (T3 y))) ∧ (∀ c j, ¬ (c = 15 ∧ ¬ j = 0 ∨ c = 31 ∨ 33 ≤ c ∧ c ≤ 37) → gI x.1 c j = gI σ c j) ∧ x.1.2 = σ.2) (G := fun x => (∀ y, y < 84 → T3 y < 2 ^ A 1 → gI x.1 15 (T3 y) = nI (dC A (T3 y))) ∧ (∀ c j, ¬ (c = 15 ∧ ¬ j = 0 ∨ c = 31 ∨ 33 ≤ c ∧ c ≤ 37) → gI x.1 c j = gI σ c j) ∧ x.1.2 = σ.2) (fun x n hx => by
    obtain ⟨ρ, i⟩ := x
    obtain ⟨k, hk, k1, k2, i1, i2, i3⟩ := hx
    have hk : i = nI k := hk
    subst hk
    have i2 : ∀ c j, ¬ (c = 15 ∧ ¬ j = 0 ∨ c = 31 ∨ 33 ≤ c ∧ c ≤ 37) → gI ρ c j = gI σ c j := i2
    have i1 : ∀ y, y < k → T3 y < 2 ^ A 1 → gI ρ 15 (T3 y) = nI (dC A (T3 y)) := i1
    have i3 : ρ.2 = σ.2 := i3
    by_cases d : k = 84
    · subst d
      refine Or.inr ⟨(ρ, nI 84), ?_, i1, i2, i3⟩
      unfold b_x_walkAllThrees_13
      rw [if_pos (show (84 : Int32) ≤ nI 84 by decide)]
    obtain ⟨t5, t3, to⟩ := T3_ok k (by omega)
    have t0 : ¬ T3 k = 0 := fun q => by rw [q] at t3; exact absurd t3 (by decide +kernel)
    have e13 : gI ρ 13 k = nI (T3 k) := by rw [i2 _ _ (by omega), h13]; exact spT_ok k (by omega)
    have hXρ : XT ρ 19 A := XT_cong (fun c a b j => i2 c j (by omega)) (fun _ _ => rfl) W hX
    have hb : b_x_walkAllThrees_13 84 (ρ, nI k) = (s_Town_isThree ρ (nI (T3 k))).bind fun q4 => if q4 = 0 then some (.inl (ρ, nI (k + 1))) else (s_Day_pass ρ (nI (T3 k))).bind fun q7 => some (.inl (pI q7 15 (T3 k) (gI q7 31 9), nI (k + 1))) := by
      unfold b_x_walkAllThrees_13
      show (if nI 84 ≤ nI k then _ else (if inB (nI k) 84 = true then ((s_Town_isThree ρ (gI ρ 13 (Int32.toNatClampNeg (nI k)))).bind fun q4 => if q4 = 0 then some (Sum.inl (ρ, nI k + 1)) else (s_Day_pass ρ (gI ρ 13 (Int32.toNatClampNeg (nI k)))).bind fun q7 => (if inB (gI ρ 13 (Int32.toNatClampNeg (nI k))) 512 = true then some (Sum.inl (pI q7 15 (Int32.toNatClampNeg (gI ρ 13 (Int32.toNatClampNeg (nI k)))) (gI q7 31 9), nI k + 1)) else none)) else none)) = _
      rw [if_neg (by rw [nI_leI (by omega) (by omega)]; omega), if_pos (inB_nI (by omega) (by omega)), nI_clamp (by omega), e13, nI_clamp (by omega), nI_1, inB_nI t5 (by omega)]
      rfl
    rw [x_isThree _ hXρ.2.1 n9, Option.bind_some] at hb
    left
    by_cases c : T3 k < 2 ^ A 1
    · obtain ⟨τ, p1, p2, p3, p4, p5⟩ := x_pass hXρ W c t5 t3
      rw [if_pos ((is3_T n9 t5 t3).mpr c), if_neg (show ¬ (1 : Int32) = 0 by decide), p1, Option.bind_some, p2] at hb
      refine ⟨_, 84 - (k + 1), hb, by omega, k + 1, rfl, by omega, rfl, fun y hy hy2 => ?_, fun c j q => ?_, p5.trans i3⟩
      · show gI (pI τ 15 (T3 k) _) 15 (T3 y) = _
        by_cases e : y = k
        · subst e; rw [gI_eq]
        · have : ¬ T3 y = T3 k := fun q => by
            have o1 := (T3_ok y (by omega)).2.2
            rw [q, to] at o1; exact e o1.symm
          rw [gI_ne (by omega), p4 _ _ (by omega)]; exact i1 y (by omega) hy2
      · show gI (pI τ 15 (T3 k) _) c j = _
        rw [gI_ne (by omega), p4 _ _ (by omega)]; exact i2 c j q
    · rw [if_neg (fun q => c ((is3_T n9 t5 t3).mp q)), if_pos (show (0 : Int32) = 0 from rfl)] at hb
      refine ⟨_, 84 - (k + 1), hb, by omega, k + 1, rfl, by omega, rfl, fun y hy hy2 => ?_, i2, i3⟩
      by_cases e : y = k
      · subst e; exact absurd hy2 c
      · exact i1 y (by omega) hy2) 100000 84 (σ, 0) (by omega) ⟨0, rfl, by omega, by omega, fun y hy => by omega, fun _ _ _ => rfl, rfl⟩
  rw [hz, Option.bind_some]
  refine ⟨_, rfl, fun t h5 h3 h2 => ?_, g2, g3⟩
  obtain ⟨o1, -, o4⟩ := o3_ok t h5 h3
  have := g1 (o3 t) o4 (by rw [o1]; exact h2)
  rw [o1] at this; exact this
theorem x_doneBy {τ : Sg} {L : List (Nat × Nat × Nat)} {A : Nat → Nat} {s : Nat} {e : Nat × Nat × Nat} (H : REP τ L) (hL : L.length ≤ 280) (he : L[s]? = some e) (h5 : e.1 < 512 ∧ e.2.1 < 512 ∧ e.2.2 < 512) (hd : gI τ 15 e.1 = nI (dc A e.1) ∧ gI τ 15 e.2.1 = nI (dc A e.2.1) ∧ gI τ 15 e.2.2 = nI (dc A e.2.2)) : s_Splits_doneBy τ (nI s) = some (nI (ds A e)) := by
  have hs : s < 280 := by
    by_cases d : s < L.length
    · omega
    · rw [List.getElem?_eq_none (by omega)] at he; cases he
  obtain ⟨q1, q2, q3, -⟩ := H.2 s e he
  obtain ⟨d1, d2, d3⟩ := hd
  obtain ⟨b1, b2, b3⟩ := h5
  have e3 : ∀ n, nI n * 3 = nI (3 * n) := fun n => by rw [show nI n * 3 = nI (n * 3) from (Int32.ofNat_mul n 3).symm, Nat.mul_comm]
  have hst : ∀ (acc i t : Nat), i < 3 → gI τ 16 (3 * s + i) = nI t → t < 512 → gI τ 15 t = nI (dc A t) → b_Splits_doneBy_6 τ (nI s) (nI acc, nI (3 * s + i)) = some (.inl (nI (acc + dc A t), nI (3 * s + i + 1))) := fun acc i t hi h16 ht h15 => by
    unfold b_Splits_doneBy_6
    show (if (nI s + 1) * 3 ≤ nI (3 * s + i) then _ else (if inB (nI (3 * s + i)) 840 = true then (if inB (gI τ 16 (Int32.toNatClampNeg (nI (3 * s + i)))) 512 = true then some (Sum.inl (nI acc + gI τ 15 (Int32.toNatClampNeg (gI τ 16 (Int32.toNatClampNeg (nI (3 * s + i))))), nI (3 * s + i) + 1)) else none) else none)) = _
    rw [nI_1, e3, if_neg (by rw [nI_leI (by omega) (by omega)]; omega), if_pos (inB_nI (by omega) (by omega)), nI_clamp (by omega), h16, if_pos (inB_nI ht (by omega)), nI_clamp (by omega), h15, nI_add, nI_1]
  have s0 := hst 0 0 e.1 (by omega) q1 b1 d1
  have s1 := hst (0 + dc A e.1) 1 e.2.1 (by omega) q2 b2 d2
  have s2 := hst (0 + dc A e.1 + dc A e.2.1) 2 e.2.2 (by omega) q3 b3 d3
  rw [s_Splits_doneBy, lt_eq, e3, show lp (b_Splits_doneBy_6 τ (nI s)) 100000 (0, nI (3 * s)) = some (nI (0 + dc A e.1 + dc A e.2.1 + dc A e.2.2), nI (3 * s + 2 + 1)) from (lp_step s0).trans ((lp_step s1).trans ((lp_step s2).trans (lp_end (n := 99996) (by
    unfold b_Splits_doneBy_6
    show (if (nI s + 1) * 3 ≤ nI (3 * s + 2 + 1) then some (Sum.inr (nI (0 + dc A e.1 + dc A e.2.1 + dc A e.2.2), nI (3 * s + 2 + 1))) else _) = _
    rw [nI_1, e3, if_pos (by rw [nI_leI (by omega) (by omega)]; omega)])))), Option.bind_some]
  unfold ds
  rw [Nat.zero_add]
/-- what is known of the class's splits and days -/
def DN (τ : Sg) (A : Nat → Nat) (P : Nat) : Prop := REP τ (SL P) ∧ ∀ s e, (SL P)[s]? = some e → s_Splits_doneBy τ (nI s) = some (nI (ds A e)) ∧ ds A e ≤ 400
theorem x_first {τ : Sg} {A : Nat → Nat} {P : Nat} (hP : P = 3 ∨ P = 6 ∨ P = 9) (H : DN τ A P) : s_Splits_firstOfMost τ = some (nI (fm A P (SL P).length)) := by
  obtain ⟨n280, n1⟩ := SL_280 hP
  obtain ⟨⟨h5, -⟩, hD⟩ := H
  have hget : ∀ s, s < (SL P).length → (SL P)[s]? = some ((SL P).getD s (0, 0, 0)) := fun s hs => by
    rw [List.getD_eq_getElem?_getD, List.getElem?_eq_getElem hs]; rfl
  rw [s_Splits_firstOfMost]
  have := lp_run (b := b_Splits_firstOfMost_4 τ) (fun i => (nI (fm A P (i + 1)), nI (i + 1))) (z := (nI (fm A P (SL P).length), nI (SL P).length)) ((SL P).length - 1) 100000 (by omega) (fun i hi => by
    have hf := fm_lt (A := A) (P := P) (i + 1) (by omega)
    obtain ⟨d1, d2⟩ := hD (i + 1) _ (hget (i + 1) (by omega))
    obtain ⟨d3, d4⟩ := hD (fm A P (i + 1)) _ (hget _ (by omega))
    unfold b_Splits_firstOfMost_4
    show (if gI τ 12 5 ≤ nI (i + 1) then _ else (s_Splits_doneBy τ (nI (i + 1))).bind fun q2 => (s_Splits_doneBy τ (nI (fm A P (i + 1)))).bind fun q3 => if q2 ≤ q3 then some (Sum.inl (nI (fm A P (i + 1)), nI (i + 1) + 1)) else some (Sum.inl (nI (i + 1), nI (i + 1) + 1))) = _
    rw [h5, if_neg (by rw [nI_leI (by omega) (by omega)]; omega), d1, Option.bind_some, d3, Option.bind_some, nI_1]
    show _ = some (Sum.inl (nI (if i + 1 = 0 then 0 else if ds A ((SL P).getD (i + 1) (0, 0, 0)) ≤ ds A ((SL P).getD (fm A P (i + 1)) (0, 0, 0)) then fm A P (i + 1) else i + 1), nI (i + 1 + 1)))
    rw [if_neg (show ¬ i + 1 = 0 by omega)]
    by_cases c : ds A ((SL P).getD (i + 1) (0, 0, 0)) ≤ ds A ((SL P).getD (fm A P (i + 1)) (0, 0, 0))
    · rw [if_pos c, if_pos (by rw [nI_leI (by omega) (by omega)]; exact c)]
    · rw [if_neg c, if_neg (by rw [nI_leI (by omega) (by omega)]; exact c)]) (by
    rw [show (SL P).length - 1 + 1 = (SL P).length from by omega]
    unfold b_Splits_firstOfMost_4
    show (if gI τ 12 5 ≤ nI (SL P).length then some (Sum.inr (nI (fm A P (SL P).length), nI (SL P).length)) else _) = _
    rw [h5, if_pos (by rw [nI_leI (by omega) (by omega)]; omega)])
  rw [show lp (b_Splits_firstOfMost_4 τ) 100000 (0, 1) = _ from this]; rfl
