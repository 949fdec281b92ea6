/-- the class's day in an hour h -/
def DX (σ : Sg) (A w D : Nat → Nat) (h at_ : Nat) : Prop := XT σ 19 A ∧ (∀ j, j < 3 → gI σ 33 j = nI (w j)) ∧ (∀ j e, j < 3 → e < 4 → gI σ 36 (4 * w j + e) = if (D j).testBit e = true then 1 else 0) ∧ gI σ 31 7 = nI h ∧ gI σ 31 8 = nI at_
theorem DX_cong {σ τ : Sg} {A w D : Nat → Nat} {h at_ : Nat} (W : WT A) (hz : ∀ c j, (19 ≤ c ∧ c ≤ 24 ∨ c = 33 ∨ c = 36 ∨ c = 31 ∧ (j = 7 ∨ j = 8)) → gI τ c j = gI σ c j) (H : DX σ A w D h at_) : DX τ A w D h at_ :=
  ⟨XT_cong (fun c a b j => hz c j (by omega)) (fun _ _ => rfl) W H.1, fun j hj => (hz _ _ (by omega)).trans (H.2.1 j hj), fun j e a b => (hz _ _ (by omega)).trans (H.2.2.1 j e a b), (hz _ _ (by omega)).trans H.2.2.2.1, (hz _ _ (by omega)).trans H.2.2.2.2⟩
theorem DX_E {σ : Sg} {A w D : Nat → Nat} {h at_ i : Nat} (W : WT A) (hw : ∀ j, j < 3 → w j < A 1) (H : DX σ A w D h at_) (hi : i < 3) :
    (w i < 9 ∧ A (4 + 11 * w i) ≤ 4) ∧ (gI σ 33 i = nI (w i) ∧ gI σ 20 (w i) = nI (A (2 + 11 * w i)) ∧ gI σ 22 (w i) = nI (A (4 + 11 * w i))) ∧ ∀ e, e < A (4 + 11 * w i) → gI σ 23 (4 * w i + e) = nI (A (5 + 11 * w i + 2 * e)) ∧ gI σ 24 (4 * w i + e) = nI (A (6 + 11 * w i + 2 * e)) ∧ A (6 + 11 * w i + 2 * e) < 10 := by
  have n9 := W.2.2.1
  have hp := hw i hi
  obtain ⟨a1, a2, a3, a4⟩ := H.1.2.2 (w i) hp
  obtain ⟨b1, b2, b3, b4, b5⟩ := W.2.2.2 (w i) hp
  exact ⟨⟨by omega, b4⟩, ⟨H.2.1 i hi, a1, a3⟩, fun e he => ⟨(a4 e he).1, (a4 e he).2, (b5 e he).2⟩⟩
theorem mul4 (p : Nat) : nI p * 4 = nI (4 * p) := by rw [show nI p * 4 = nI (p * 4) from (Int32.ofNat_mul p 4).symm, Nat.mul_comm]
theorem x_opn {σ : Sg} {A w D : Nat → Nat} {h at_ i e : Nat} (W : WT A) (hw : ∀ j, j < 3 → w j < A 1) (hh : h < 10) (H : DX σ A w D h at_) (hi : i < 3) (he : e < A (4 + 11 * w i)) : s_Day_isOpen σ (nI (4 * w i + e)) = some (if opn A w D h i e = true then 1 else 0) := by
  obtain ⟨⟨e1, e2⟩, ⟨e3, -, e4⟩, e5⟩ := DX_E W hw H hi
  obtain ⟨-, e6, e7⟩ := e5 e he
  have e8 := H.2.2.1 i e hi (by omega)
  rw [s_Day_isOpen, if_pos (inB_nI (by omega) (by omega)), nI_clamp (by omega), if_pos (inB_nI (by omega) (by omega)), e6, H.2.2.2.1]
  unfold opn
  cases c : (D i).testBit e with
  | true =>
    rw [c, if_pos rfl] at e8
    rw [e8, if_neg (by decide)]; rfl
  | false =>
    rw [c, if_neg (by decide)] at e8
    rw [e8, if_pos rfl]
    by_cases d : h ≤ A (6 + 11 * w i + 2 * e)
    · rw [if_neg (by rw [nI_ltI (by omega) (by omega)]; omega), if_pos (by rw [decide_eq_true d]; rfl)]
    · rw [if_pos (by rw [nI_ltI (by omega) (by omega)]; omega), if_neg (by rw [decide_eq_false d]; decide)]
theorem x_look_b {ρ : Sg} {i p E k : Nat} (hi : i < 3) (hp : p < 9) (hk : k ≤ 4) (hE : E ≤ 4) (h33 : gI ρ 33 i = nI p) (h22 : gI ρ 22 p = nI E) : b_Day_lookAround_35 (nI i) (nI (4 * p)) (ρ, nI (4 * p + k)) = if E ≤ k then some (.inr (ρ, nI (4 * p + k))) else if gI ρ 35 i = 0 then ((s_Day_isOpen ρ (nI (4 * p + k))).bind fun q => if q = 0 then some (.inl (ρ, nI (4 * p + (k + 1)))) else (if k < 4 then some (.inl (pI (pI ρ 34 i (gI ρ 23 (4 * p + k))) 35 i 1, nI (4 * p + (k + 1)))) else none)) else some (.inr (ρ, nI (4 * p + k))) := by
  unfold b_Day_lookAround_35
  show (if inB (nI i) 3 = true then (if inB (gI ρ 33 (Int32.toNatClampNeg (nI i))) 9 = true then (if nI (4 * p) + gI ρ 22 (Int32.toNatClampNeg (gI ρ 33 (Int32.toNatClampNeg (nI i)))) ≤ nI (4 * p + k) then some (Sum.inr (ρ, nI (4 * p + k))) else _) else _) else _) = _
  rw [if_pos (inB_nI (by omega) (by omega)), nI_clamp (by omega), h33, if_pos (inB_nI (by omega) (by omega)), nI_clamp (by omega), h22, nI_add]
  by_cases c : E ≤ k
  · rw [if_pos (by rw [nI_leI (by omega) (by omega)]; omega), if_pos c]
  rw [if_neg (by rw [nI_leI (by omega) (by omega)]; omega), if_neg c, if_pos (inB_nI (by omega) (by omega))]
  by_cases d : gI ρ 35 i = 0
  · rw [if_pos d, if_pos d]
    show ((s_Day_isOpen ρ (nI (4 * p + k))).bind _) = _
    congr 1
    funext q
    by_cases f : q = 0
    · rw [if_pos f, if_pos f, lt_eq]
      show some (Sum.inl (ρ, nI (4 * p + k) + 1)) = _
      rw [nI_1]; rfl
    · rw [if_neg f, if_neg f, if_pos (show k < 4 by omega)]
      show (if inB (nI (4 * p + k)) 36 = true then (if inB (nI i) 3 = true then (if inB (nI i) 3 = true then some (Sum.inl (pI (pI ρ 34 i (gI ρ 23 (Int32.toNatClampNeg (nI (4 * p + k))))) 35 i 1, nI (4 * p + k) + 1)) else none) else none) else none) = _
      rw [if_pos (inB_nI (by omega) (by omega)), if_pos (inB_nI (by omega) (by omega)), if_pos (inB_nI (by omega) (by omega)), nI_clamp (by omega), nI_1]; rfl
  · rw [if_neg d, if_neg d]
def lk (A w : Nat → Nat) (i : Nat) (ρ : Sg) : Option Nat → Sg
  | none => ρ
  | some e => pI (pI ρ 34 i (nI (A (5 + 11 * w i + 2 * e)))) 35 i 1
theorem x_look1 {A w D : Nat → Nat} {h at_ i : Nat} (W : WT A) (hw : ∀ j, j < 3 → w j < A 1) (hh : h < 10) (hi : i < 3) : ∀ (m k F : Nat) (ρ : Sg), m + 1 < F → k + m = A (4 + 11 * w i) → DX ρ A w D h at_ → gI ρ 35 i = 0 → ∃ o, lp (b_Day_lookAround_35 (nI i) (nI (4 * w i))) F (ρ, nI (4 * w i + k)) = some o ∧ o.1 = lk A w i ρ (fst1 (opn A w D h i) k m) := by
  intro m
  induction m with
  | zero =>
    intro k F ρ hF hk H hb
    obtain ⟨f, rfl⟩ : ∃ f, F = f + 1 := ⟨F - 1, by omega⟩
    obtain ⟨⟨e1, e2⟩, ⟨e3, -, e4⟩, -⟩ := DX_E W hw H hi
    refine ⟨(ρ, nI (4 * w i + k)), lp_end ?_, rfl⟩
    exact (x_look_b hi e1 (by omega) e2 e3 e4).trans (if_pos (by omega))
  | succ m ih =>
    intro k F ρ hF hk H hb
    obtain ⟨f, rfl⟩ : ∃ f, F = f + 1 := ⟨F - 1, by omega⟩
    obtain ⟨⟨e1, e2⟩, ⟨e3, -, e4⟩, e5⟩ := DX_E W hw H hi
    have hbd := x_look_b (ρ := ρ) (k := k) hi e1 (by omega) e2 e3 e4
    rw [if_neg (by omega), if_pos hb, x_opn W hw hh H hi (by omega), Option.bind_some] at hbd
    rw [fst1]
    by_cases c : opn A w D h i k = true
    · rw [if_pos c, if_neg (by decide), if_pos (by omega), (e5 k (by omega)).1] at hbd
      rw [if_pos c]
      generalize hκ : pI (pI ρ 34 i (nI (A (5 + 11 * w i + 2 * k)))) 35 i 1 = κ at hbd
      obtain ⟨f, rfl⟩ : ∃ g, f = g + 1 := ⟨f - 1, by omega⟩
      refine ⟨(κ, nI (4 * w i + (k + 1))), (lp_step hbd).trans (lp_end ?_), hκ.symm⟩
      have k33 : gI κ 33 i = nI (w i) := by rw [← hκ, gI_ne (by omega), gI_ne (by omega), e3]
      have k22 : gI κ 22 (w i) = nI (A (4 + 11 * w i)) := by rw [← hκ, gI_ne (by omega), gI_ne (by omega), e4]
      have k35 : gI κ 35 i = 1 := by rw [← hκ, gI_eq]
      rw [x_look_b hi e1 (by omega) e2 k33 k22]
      by_cases d : A (4 + 11 * w i) ≤ k + 1
      · rw [if_pos d]
      · rw [if_neg d, if_neg (by rw [k35]; decide)]
    · rw [if_neg c, if_pos rfl] at hbd
      rw [if_neg c, lp_step hbd]
      exact ih (k + 1) f ρ (by omega) (by omega) H hb
theorem x_look {σ : Sg} {A w D : Nat → Nat} {h at_ : Nat} (W : WT A) (hw : ∀ j, j < 3 → w j < A 1) (hh : h < 10) (H : DX σ A w D h at_) : ∃ τ, s_Day_lookAround σ = some τ ∧ (∀ j, j < 3 → gI τ 34 j = nI (wsh A w D h at_ j) ∧ gI τ 35 j = if bsy A w D h j = true then 1 else 0) ∧ (∀ c j, ¬ (c = 34 ∨ c = 35) → gI τ c j = gI σ c j) ∧ τ.2 = σ.2 := by
  rw [s_Day_lookAround]
  obtain ⟨z, hz, g1, g2, g3⟩ := lp_ex (b := b_Day_lookAround_2) (I := fun x n => ∃ k, x.2 = nI k ∧ k ≤ 3 ∧ n = 3 - k ∧ (∀ j, j < k → gI x.1 34 j = nI (wsh A w D h at_ j) ∧ gI x.1 35 j = if bsy A w D h j = true then 1 else 0) ∧ (∀ c j, ¬ (c = 34 ∨ c = 35) → gI x.1 c j = gI σ c j) ∧ x.1.2 = σ.2) (G := fun x => (∀ j, j < 3 → gI x.1 34 j = nI (wsh A w D h at_ j) ∧ gI x.1 35 j = if bsy A w D h j = true then 1 else 0) ∧ (∀ c j, ¬ (c = 34 ∨ c = 35) → gI x.1 c j = gI σ c j) ∧ x.1.2 = σ.2) (fun x n hx => by
    obtain ⟨ρ, i⟩ := x
    obtain ⟨k, hp, k1, k2, i1, i2, i3⟩ := hx
    have hp : i = nI k := hp
    subst hp
    have i1 : ∀ j, j < k → gI ρ 34 j = nI (wsh A w D h at_ j) ∧ gI ρ 35 j = if bsy A w D h j = true then 1 else 0 := i1
    have i2 : ∀ c j, ¬ (c = 34 ∨ c = 35) → gI ρ c j = gI σ c j := i2
    by_cases d : k = 3
    · subst d
      refine Or.inr ⟨(ρ, nI 3), ?_, i1, i2, i3⟩
      unfold b_Day_lookAround_2
      rw [if_pos (show (3 : Int32) ≤ nI 3 by decide)]
    have H2 : DX ρ A w D h at_ := DX_cong W (fun c j q => i2 c j (by omega)) H
    obtain ⟨⟨e1, e2⟩, ⟨e3, -, e4⟩, -⟩ := DX_E W hw H2 (i := k) (by omega)
    generalize hκ : pI (pI ρ 34 k (nI at_)) 35 k 0 = κ
    have H3 : DX κ A w D h at_ := DX_cong W (fun c j q => by rw [← hκ, gI_ne (by omega), gI_ne (by omega)]) H2
    obtain ⟨o, ho1, ho2⟩ := x_look1 W hw hh (i := k) (by omega) (A (4 + 11 * w k)) 0 100000 κ (by omega) (by omega) H3 (by rw [← hκ, gI_eq])
    left
    refine ⟨(o.1, nI (k + 1)), 3 - (k + 1), ?_, by omega, k + 1, rfl, by omega, rfl, fun j hj => ?_, fun c j q => ?_, ?_⟩
    · unfold b_Day_lookAround_2
      rw [if_neg (by show ¬ nI 3 ≤ nI k; rw [nI_leI (by omega) (by omega)]; omega)]
      show (if inB (nI k) 3 = true then (if inB (nI k) 3 = true then (if inB (nI k) 3 = true then ((lp (b_Day_lookAround_35 (nI k) (gI ρ 33 (Int32.toNatClampNeg (nI k)) * 4)) 100000 (pI (pI ρ 34 (Int32.toNatClampNeg (nI k)) (gI ρ 31 8)) 35 (Int32.toNatClampNeg (nI k)) 0, gI ρ 33 (Int32.toNatClampNeg (nI k)) * 4)).bind fun o22 => some (Sum.inl (o22.1, nI k + 1))) else none) else none) else none) = _
      rw [if_pos (inB_nI (by omega) (by omega)), if_pos (inB_nI (by omega) (by omega)), if_pos (inB_nI (by omega) (by omega)), nI_clamp (by omega), e3, mul4, H2.2.2.2.2, hκ, show lp (b_Day_lookAround_35 (nI k) (nI (4 * w k))) 100000 (κ, nI (4 * w k)) = _ from ho1, Option.bind_some, nI_1]
    · show gI o.1 34 j = _ ∧ gI o.1 35 j = _
      rw [ho2]
      by_cases e : j = k
      · subst e
        unfold wsh bsy frs
        cases fst1 (opn A w D h j) 0 (A (4 + 11 * w j)) with
        | none =>
          show gI κ 34 j = _ ∧ gI κ 35 j = _
          rw [← hκ, gI_ne (by omega), gI_eq, gI_eq]; exact ⟨rfl, rfl⟩
        | some e =>
          show gI (pI (pI κ 34 j _) 35 j 1) 34 j = _ ∧ gI (pI (pI κ 34 j _) 35 j 1) 35 j = _
          rw [gI_ne (by omega), gI_eq, gI_eq]; exact ⟨rfl, rfl⟩
      · have hq : ∀ c, gI (lk A w k κ (fst1 (opn A w D h k) 0 (A (4 + 11 * w k)))) c j = gI ρ c j := fun c => by
          cases fst1 (opn A w D h k) 0 (A (4 + 11 * w k)) with
          | none => show gI κ c j = _; rw [← hκ, gI_ne (by omega), gI_ne (by omega)]
          | some e => show gI (pI (pI κ 34 k _) 35 k 1) c j = _; rw [← hκ, gI_ne (by omega), gI_ne (by omega), gI_ne (by omega), gI_ne (by omega)]
        rw [hq, hq]; exact i1 j (by omega)
    · show gI o.1 c j = _
      rw [ho2]
      cases fst1 (opn A w D h k) 0 (A (4 + 11 * w k)) with
      | none => show gI κ c j = _; rw [← hκ, gI_ne (by omega), gI_ne (by omega)]; exact i2 c j q
      | some e => show gI (pI (pI κ 34 k _) 35 k 1) c j = _; rw [← hκ, gI_ne (by omega), gI_ne (by omega), gI_ne (by omega), gI_ne (by omega)]; exact i2 c j q
    · show o.1.2 = _
      rw [ho2]
      cases fst1 (opn A w D h k) 0 (A (4 + 11 * w k)) with
      | none => show κ.2 = _; rw [← hκ]; exact i3
      | some e => show κ.2 = _; rw [← hκ]; exact i3) 100000 3 (σ, 0) (by omega) ⟨0, rfl, by omega, by omega, fun j hj => by omega, fun _ _ _ => rfl, rfl⟩
  rw [hz, Option.bind_some]
  exact ⟨_, rfl, g1, g2, g3⟩
