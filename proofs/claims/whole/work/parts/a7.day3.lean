theorem nI_nm {x : Nat} (h : x < 2 ^ 31) : ¬ nI x = -1 := fun q => by
  have := congrArg Int32.toInt q
  rw [nI_toInt h, show (-1 : Int32).toInt = -1 from rfl] at this
  omega
def hrb (A w : Nat → Nat) (i : Nat) : Option Nat → Nat
  | none => 10
  | some c => A (6 + 11 * w i + 2 * c)
theorem x_press {σ : Sg} {A w D : Nat → Nat} {h at_ i : Nat} (W : WT A) (hw : ∀ j, j < 3 → w j < A 1) (hh : h < 10) (hi : i < 3) (H : DX σ A w D h at_) : ∀ (m k F : Nat) (b : Option Nat), m < F → k + m = A (4 + 11 * w i) → (∀ c, b = some c → c < A (4 + 11 * w i)) →
    ∃ o, lp (b_Day_mostPressing_21 σ (nI i) (nI (4 * w i))) F (nI (plc A w at_ i b), nI (hrb A w i b), nI (4 * w i + k)) = some o ∧ o.1 = nI (plc A w at_ i (hst1 (opn A w D h i) (fun e => A (6 + 11 * w i + 2 * e)) k m b)) := by
  obtain ⟨⟨e1, e2⟩, ⟨e3, -, e4⟩, e5⟩ := DX_E W hw H hi
  have hbody : ∀ (k : Nat) (b : Option Nat), k ≤ A (4 + 11 * w i) → b_Day_mostPressing_21 σ (nI i) (nI (4 * w i)) (nI (plc A w at_ i b), nI (hrb A w i b), nI (4 * w i + k)) = if A (4 + 11 * w i) ≤ k then some (.inr (nI (plc A w at_ i b), nI (hrb A w i b), nI (4 * w i + k))) else (s_Day_isOpen σ (nI (4 * w i + k))).bind fun q => if q = 0 then some (.inl (nI (plc A w at_ i b), nI (hrb A w i b), nI (4 * w i + (k + 1)))) else if inB (nI (4 * w i + k)) 36 = true then (if nI (hrb A w i b) ≤ gI σ 24 (4 * w i + k) then some (.inl (nI (plc A w at_ i b), nI (hrb A w i b), nI (4 * w i + (k + 1)))) else (if inB (nI (4 * w i + k)) 36 = true then (if inB (nI (4 * w i + k)) 36 = true then some (.inl (gI σ 23 (4 * w i + k), gI σ 24 (4 * w i + k), nI (4 * w i + (k + 1)))) else none) else none)) else none := fun k b hk => by
    unfold b_Day_mostPressing_21
    show (if inB (nI i) 3 = true then (if inB (gI σ 33 (Int32.toNatClampNeg (nI i))) 9 = true then (if nI (4 * w i) + gI σ 22 (Int32.toNatClampNeg (gI σ 33 (Int32.toNatClampNeg (nI i)))) ≤ nI (4 * w i + k) then _ else (s_Day_isOpen σ (nI (4 * w i + k))).bind fun q => if q = 0 then some (Sum.inl (nI (plc A w at_ i b), nI (hrb A w i b), nI (4 * w i + k) + 1)) else if inB (nI (4 * w i + k)) 36 = true then (if nI (hrb A w i b) ≤ gI σ 24 (Int32.toNatClampNeg (nI (4 * w i + k))) then some (.inl (nI (plc A w at_ i b), nI (hrb A w i b), nI (4 * w i + k) + 1)) else (if inB (nI (4 * w i + k)) 36 = true then (if inB (nI (4 * w i + k)) 36 = true then some (.inl (gI σ 23 (Int32.toNatClampNeg (nI (4 * w i + k))), gI σ 24 (Int32.toNatClampNeg (nI (4 * w i + k))), nI (4 * w i + k) + 1)) else none) else none)) else none) else _) else _) = _
    rw [if_pos (inB_nI (by omega) (by omega)), nI_clamp (by omega), e3, if_pos (inB_nI (by omega) (by omega)), nI_clamp (by omega), e4, nI_add, nI_clamp (by omega), nI_1, Nat.add_assoc]
    by_cases c : A (4 + 11 * w i) ≤ k
    · rw [if_pos (by rw [nI_leI (by omega) (by omega)]; omega), if_pos c]
    · rw [if_neg (by rw [nI_leI (by omega) (by omega)]; omega), if_neg c]
  intro m
  induction m with
  | zero =>
    intro k F b hF hk hb
    obtain ⟨f, rfl⟩ : ∃ f, F = f + 1 := ⟨F - 1, by omega⟩
    exact ⟨(nI (plc A w at_ i b), nI (hrb A w i b), nI (4 * w i + k)), lp_end ((hbody k b (by omega)).trans (if_pos (by omega))), rfl⟩
  | succ m ih =>
    intro k F b hF hk hb
    obtain ⟨f, rfl⟩ : ∃ f, F = f + 1 := ⟨F - 1, by omega⟩
    have hbd := hbody k b (by omega)
    obtain ⟨q1, q2, q3⟩ := e5 k (by omega)
    rw [if_neg (by omega), x_opn W hw hh H hi (by omega), Option.bind_some] at hbd
    rw [hst1]
    by_cases c : opn A w D h i k = true
    · rw [if_pos c, if_neg (by decide), if_pos (inB_nI (by omega) (by omega)), if_pos (inB_nI (by omega) (by omega)), if_pos (inB_nI (by omega) (by omega)), q1, q2] at hbd
      rw [if_pos c]
      cases b with
      | none =>
        rw [if_neg (by show ¬ nI 10 ≤ _; rw [nI_leI (by omega) (by omega)]; omega)] at hbd
        rw [lp_step hbd]
        exact ih (k + 1) f (some k) (by omega) (by omega) (fun c hc => by cases hc; omega)
      | some d =>
        have hd := hb d rfl
        obtain ⟨-, -, r3⟩ := e5 d hd
        show ∃ o : Int32 × Int32 × Int32, _ ∧ o.1 = nI (plc A w at_ i (hst1 _ _ (k + 1) m (if A (6 + 11 * w i + 2 * k) < A (6 + 11 * w i + 2 * d) then some k else some d)))
        by_cases e : A (6 + 11 * w i + 2 * k) < A (6 + 11 * w i + 2 * d)
        · rw [if_neg (by show ¬ nI (A (6 + 11 * w i + 2 * d)) ≤ _; rw [nI_leI (by omega) (by omega)]; omega)] at hbd
          rw [lp_step hbd, if_pos e]
          exact ih (k + 1) f (some k) (by omega) (by omega) (fun c hc => by cases hc; omega)
        · rw [if_pos (by show nI (A (6 + 11 * w i + 2 * d)) ≤ _; rw [nI_leI (by omega) (by omega)]; omega)] at hbd
          rw [lp_step hbd, if_neg e]
          exact ih (k + 1) f (some d) (by omega) (by omega) hb
    · rw [if_neg c, if_pos rfl] at hbd
      rw [if_neg c, lp_step hbd]
      exact ih (k + 1) f b (by omega) (by omega) hb
theorem x_vote {σ : Sg} {A w D : Nat → Nat} {h at_ i : Nat} (W : WT A) (hw : ∀ j, j < 3 → w j < A 1) (hh : h < 10) (hi : i < 3) (H : DX σ A w D h at_) (hV : ∀ j, j < 3 → gI σ 34 j = nI (wsh A w D h at_ j) ∧ gI σ 35 j = if bsy A w D h j = true then 1 else 0) : s_vote σ (nI (A (2 + 11 * w i))) (nI i) = some (nI (vt A w D h at_ i)) := by
  obtain ⟨⟨e1, e2⟩, ⟨e3, -, e4⟩, e5⟩ := DX_E W hw H hi
  have hp : s_Person_vote σ (nI i) = some (nI (wsh A w D h at_ i)) := by
    rw [s_Person_vote, if_pos (inB_nI (by omega) (by omega)), nI_clamp (by omega), (hV i hi).1]
  have hk : s_Kind_kindly σ (nI i) = some (nI (knd A w D h at_ i)) := by
    rw [s_Kind_kindly, if_pos (inB_nI (by omega) (by omega)), nI_clamp (by omega), (hV i hi).2, if_pos (inB_nI (by omega) (by omega)), (hV i hi).1]
    unfold knd
    by_cases c : bsy A w D h i = true
    · rw [if_pos c, if_pos c, if_neg (by decide)]
    · rw [if_neg c, if_neg c, if_pos rfl]
      by_cases d : i = 0
      · rw [if_pos d, if_pos (by rw [d]; rfl), va_cl1, (hV 1 (by omega)).1]
      · rw [if_neg d, if_neg (nI_ne0 (by omega) (by omega)), va_cl0, (hV 0 (by omega)).1]
  have hK := (W.2.2.2 (w i) (hw i hi)).1
  rw [s_vote]
  unfold vt
  have ek0 : nI (A (2 + 11 * w i)) = (0 : Int32) ↔ A (2 + 11 * w i) = 0 := nI_eq (b := 0) (by omega) (by omega)
  have ek1 : nI (A (2 + 11 * w i)) = (1 : Int32) ↔ A (2 + 11 * w i) = 1 := nI_eq (b := 1) (by omega) (by omega)
  have ek2 : nI (A (2 + 11 * w i)) = (2 : Int32) ↔ A (2 + 11 * w i) = 2 := nI_eq (b := 2) (by omega) (by omega)
  have ek3 : nI (A (2 + 11 * w i)) = (3 : Int32) ↔ A (2 + 11 * w i) = 3 := nI_eq (b := 3) (by omega) (by omega)
  have ek4 : nI (A (2 + 11 * w i)) = (4 : Int32) ↔ A (2 + 11 * w i) = 4 := nI_eq (b := 4) (by omega) (by omega)
  by_cases c0 : A (2 + 11 * w i) = 0
  · rw [if_pos (ek0.mpr c0), if_neg (by omega), if_neg (by omega), if_neg (by omega), if_neg (by omega), hp]
  rw [if_neg (fun q => c0 (ek0.mp q))]
  by_cases c1 : A (2 + 11 * w i) = 1
  · rw [if_pos (ek1.mpr c1), if_pos c1, s_Hasty_vote, s_Day_mostPressing, if_pos (inB_nI (by omega) (by omega)), lt_eq, lt_eq, nI_clamp (by omega), e3, mul4, H.2.2.2.2]
    obtain ⟨o, ho1, ho2⟩ := x_press W hw hh hi H (A (4 + 11 * w i)) 0 100000 none (by omega) (by omega) (fun c hc => by cases hc)
    rw [show lp (b_Day_mostPressing_21 σ (nI i) (nI (4 * w i))) 100000 (nI at_, 10, nI (4 * w i)) = _ from ho1, Option.bind_some, Option.bind_some, ho2]; rfl
  rw [if_neg (fun q => c1 (ek1.mp q)), if_neg c1]
  by_cases c2 : A (2 + 11 * w i) = 2
  · rw [if_pos (ek2.mpr c2), if_pos c2, s_Stubborn_vote, s_Day_firstUndone, if_pos (inB_nI (by omega) (by omega)), lt_eq, nI_clamp (by omega), e3, mul4, if_pos (inB_nI (by omega) (by omega)), if_pos (inB_nI (by omega) (by omega)), nI_clamp (by omega), e4, if_pos (inB_nI (by omega) (by omega)), nI_clamp (by omega), if_pos (inB_nI (by omega) (by omega)), if_pos (inB_nI (by omega) (by omega)), (hV i hi).1]
    have e0 := H.2.2.1 i 0 hi (by omega)
    rw [Nat.add_zero] at e0
    by_cases d : A (4 + 11 * w i) = 0
    · rw [if_pos (by rw [d]; rfl), Option.bind_some, if_pos rfl, if_neg (by omega)]
    · rw [if_neg (nI_ne0 (by omega) (by omega)), e0]
      have e6 := (e5 0 (by omega)).1
      rw [Nat.add_zero, Nat.mul_zero, Nat.add_zero] at e6
      have hP := ((W.2.2.2 (w i) (hw i hi)).2.2.2.2 0 (by omega)).1
      have h06 := W.2.1
      rw [Nat.mul_zero, Nat.add_zero] at hP
      cases b : (D i).testBit 0 with
      | true => rw [if_pos rfl, if_neg (by decide), Option.bind_some, if_pos rfl, if_neg (by intro q; exact absurd q.2 (by decide))]
      | false => rw [if_pos (show (if false = true then (1 : Int32) else 0) = 0 from rfl), e6, Option.bind_some, if_neg (nI_nm (by omega)), if_pos ⟨by omega, rfl⟩]
  rw [if_neg (fun q => c2 (ek2.mp q)), if_neg c2]
  by_cases c3 : A (2 + 11 * w i) = 3
  · rw [if_pos (ek3.mpr c3), if_pos c3, s_Kind_vote, hk, Option.bind_some]
  rw [if_neg (fun q => c3 (ek3.mp q)), if_neg c3]
  have c4 : A (2 + 11 * w i) = 4 := by omega
  rw [if_pos (ek4.mpr c4), if_pos c4, s_Idle_vote, H.2.2.2.1, H.2.2.2.2, (pull_ok h (by omega)).2.2]
  by_cases d : h % 2 = 0
  · rw [if_pos (by rw [d]; rfl), if_pos d]
  · rw [if_neg (nI_ne0 (by omega) (by omega)), if_neg d, show s_Kind_kindly_42_31 σ (nI i) = s_Kind_kindly σ (nI i) from rfl, hk, Option.bind_some]
theorem x_chosen {σ : Sg} {A w D : Nat → Nat} {h at_ : Nat} (W : WT A) (hw : ∀ j, j < 3 → w j < A 1) (hh : h < 10) (ha : at_ < A 0) (H : DX σ A w D h at_) (hV : ∀ j, j < 3 → gI σ 34 j = nI (wsh A w D h at_ j) ∧ gI σ 35 j = if bsy A w D h j = true then 1 else 0) : s_Day_chosen σ = some (nI (tgt A w D h at_)) := by
  have h6 := W.2.1
  have v0 := vt_lt (D := D) (h := h) W hw (i := 0) (by omega) ha
  have v1 := vt_lt (D := D) (h := h) W hw (i := 1) (by omega) ha
  have v2 := vt_lt (D := D) (h := h) W hw (i := 2) (by omega) ha
  obtain ⟨⟨a1, -⟩, ⟨a3, a4, -⟩, -⟩ := DX_E W hw H (i := 0) (by omega)
  obtain ⟨⟨b1, -⟩, ⟨b3, b4, -⟩, -⟩ := DX_E W hw H (i := 1) (by omega)
  obtain ⟨⟨c1, -⟩, ⟨c3, c4, -⟩, -⟩ := DX_E W hw H (i := 2) (by omega)
  have k0 := (W.2.2.2 (w 0) (hw 0 (by omega))).1
  have k1 := (W.2.2.2 (w 1) (hw 1 (by omega))).1
  have k2 := (W.2.2.2 (w 2) (hw 2 (by omega))).1
  rw [s_Day_chosen, va_cl0, va_cl1, va_cl2, a3, b3, c3, nI_clamp (by omega), nI_clamp (by omega), nI_clamp (by omega), a4, b4, c4, if_pos (inB_nI (by omega) (by omega)), if_pos (inB_nI (by omega) (by omega))]
  have V0 : s_vote σ (nI (A (2 + 11 * w 0))) 0 = _ := x_vote W hw hh (i := 0) (by omega) H hV
  have V1 : s_vote σ (nI (A (2 + 11 * w 1))) 1 = _ := x_vote W hw hh (i := 1) (by omega) H hV
  have V2 : s_vote σ (nI (A (2 + 11 * w 2))) 2 = _ := x_vote W hw hh (i := 2) (by omega) H hV
  rw [V0, Option.bind_some, if_pos (inB_nI (by omega) (by omega)), if_pos (inB_nI (by omega) (by omega)), V1, Option.bind_some, if_pos (inB_nI (by omega) (by omega)), if_pos (inB_nI (by omega) (by omega)), V2, Option.bind_some]
  unfold tgt
  by_cases d : vt A w D h at_ 1 = vt A w D h at_ 2
  · rw [if_pos (by rw [d]), if_pos d]
  · rw [if_neg (by rw [nI_eq (by omega) (by omega)]; exact d), if_neg d]
theorem ring_ok : ∀ P, P < 7 → ∀ a, a < P → s_Math_floorMod (nI a - 1) (nI P) = some (nI ((a + P - 1) % P)) ∧ s_Math_floorMod (nI a + 1) (nI P) = some (nI ((a + 1) % P)) ∧ (((nI a - 1) + nI P) - ((nI a - 1) + nI P) / nI P * nI P) = nI ((a + P - 1) % P) ∧ ((nI a + 1) - (nI a + 1) / nI P * nI P) = nI ((a + 1) % P) := by decide +kernel
theorem ring_ok2 : ∀ P, P < 7 → ∀ a, a < P → ∀ t, t < P → s_Math_floorMod (nI t - nI a) (nI P) = some (nI ((t + P - a) % P)) ∧ (((nI t - nI a) + nI P) - ((nI t - nI a) + nI P) / nI P * nI P) = nI ((t + P - a) % P) ∧ (t + P - a) % P < 7 := by decide +kernel
theorem x_onRing {σ : Sg} {P : Nat} {x : Int32} (h : gI σ 19 5 = nI P) (h1 : 1 ≤ P) (h6 : P ≤ 6) : s_Town_onRing σ x = s_Math_floorMod x (nI P) := by
  rw [s_Town_onRing, h, if_pos (by show nI 1 ≤ nI P; rw [nI_leI (by omega) (by omega)]; exact h1)]
  cases s_Math_floorMod x (nI P) <;> rfl
theorem x_step {σ : Sg} {P a t : Nat} (h5 : gI σ 19 5 = nI P) (h1 : 1 ≤ P) (h6 : P ≤ 6) (ha : a < P) (ht : t < P) (h8 : gI σ 31 8 = nI a) : ∃ τ, s_Day_stepTowards σ (nI t) = some τ ∧ gI τ 31 8 = nI (stp P a t) ∧ (∀ c j, ¬ (c = 31 ∧ j = 8) → gI τ c j = gI σ c j) ∧ τ.2 = σ.2 := by
  obtain ⟨r1, r2, -, -⟩ := ring_ok P (by omega) a ha
  obtain ⟨r3, -, r4⟩ := ring_ok2 P (by omega) a ha t ht
  rw [s_Day_stepTowards, x_onRing h5 h1 h6, h8, r3, Option.bind_some, h5]
  unfold stp
  generalize (t + P - a) % P = r at *
  by_cases c : r = 0
  · rw [if_pos c, if_pos (by rw [c]; rfl)]; exact ⟨σ, rfl, h8, fun _ _ _ => rfl, rfl⟩
  rw [if_neg c, if_neg (nI_ne0 (by omega) (by omega)), x_onRing h5 h1 h6, x_onRing h5 h1 h6, r1, r2, show (2 : Int32) * nI r = nI (2 * r) from (Int32.ofNat_mul 2 r).symm]
  by_cases d : P < 2 * r
  · rw [if_pos d, if_pos (by rw [nI_ltI (by omega) (by omega)]; exact d)]
    exact ⟨_, rfl, gI_eq, fun c j h => gI_ne h, rfl⟩
  · rw [if_neg d, if_neg (by rw [nI_ltI (by omega) (by omega)]; exact d)]
    exact ⟨_, rfl, gI_eq, fun c j h => gI_ne h, rfl⟩
