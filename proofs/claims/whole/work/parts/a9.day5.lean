def PX (σ : Sg) (A w : Nat → Nat) (s : (Nat → Nat) × Nat × Nat) : Prop := XT σ 19 A ∧ (∀ j, j < 3 → gI σ 33 j = nI (w j)) ∧ (∀ j e, j < 3 → e < 4 → gI σ 36 (4 * w j + e) = if (s.1 j).testBit e = true then 1 else 0) ∧ gI σ 31 8 = nI s.2.1 ∧ gI σ 31 9 = nI s.2.2
theorem x_hour {ρ : Sg} {A w : Nat → Nat} {f : Bool} {h : Nat} {s : (Nat → Nat) × Nat × Nat} (W : WT A) (hw : ∀ j, j < 3 → w j < A 1) (hd : w 0 < w 1 ∧ w 1 < w 2) (hh : h < 10) (ha : s.2.1 < A 0) (H : PX ρ A w s) : ∃ κ, b_Day_pass_16 (if f = true then 1 else 0) (ρ, nI h) = some (.inl (κ, nI (h + 1))) ∧ PX κ A w (hour1 A w f h s) ∧ gI κ 37 h = nI (hour1 A w f h s).2.1 ∧ (∀ c j, ¬ (c = 31 ∨ c = 34 ∨ c = 35 ∨ c = 36 ∨ c = 37 ∧ j = h) → gI κ c j = gI ρ c j) ∧ κ.2 = ρ.2 := by
  obtain ⟨D, at_, c⟩ := s
  obtain ⟨h1, h2, h3, h4, h5⟩ := H
  have h3 : ∀ j e, j < 3 → e < 4 → gI ρ 36 (4 * w j + e) = if (D j).testBit e = true then 1 else 0 := h3
  have h4 : gI ρ 31 8 = nI at_ := h4
  have h5 : gI ρ 31 9 = nI c := h5
  have ha : at_ < A 0 := ha
  obtain ⟨p1, p6, -, -⟩ := id W
  generalize hσ : pI ρ 31 7 (nI h) = σ
  have hz0 : ∀ a j, ¬ (a = 31 ∧ j = 7) → gI σ a j = gI ρ a j := fun a j q => by rw [← hσ, gI_ne q]
  have H0 : DX σ A w D h at_ := ⟨XT_cong (fun a p q j => hz0 a j (by omega)) (fun _ _ => rfl) W h1, fun j hj => (hz0 _ _ (by omega)).trans (h2 j hj), fun j e x y => (hz0 _ _ (by omega)).trans (h3 j e x y), by rw [← hσ, gI_eq], (hz0 _ _ (by omega)).trans h4⟩
  obtain ⟨σ1, a1, a2, a3, a4⟩ := x_look W hw hh H0
  have H1 : DX σ1 A w D h at_ := DX_cong W (fun a j q => a3 a j (by omega)) H0
  have hch := x_chosen W hw hh ha H1 a2
  obtain ⟨to, hto⟩ : ∃ to, to = tgt A w D h at_ := ⟨_, rfl⟩
  have tl : to < A 0 := by rw [hto]; exact tgt_lt W hw ha
  rw [← hto] at hch
  have hstep : ∀ (τ : Sg) (a : Nat), a < A 0 → DX τ A w D h a → ∃ κ, s_Day_stepTowards τ (nI to) = some κ ∧ DX κ A w D h (stp (A 0) a to) ∧ (∀ c j, ¬ (c = 31 ∧ j = 8) → gI κ c j = gI τ c j) ∧ κ.2 = τ.2 := fun τ a al HT => by
    obtain ⟨κ, k1, k2, k3, k4⟩ := x_step HT.1.1 p1 p6 al tl HT.2.2.2.2
    exact ⟨κ, k1, ⟨XT_cong (fun a p q j => k3 a j (by omega)) (fun _ _ => rfl) W HT.1, fun j hj => (k3 _ _ (by omega)).trans (HT.2.1 j hj), fun j e x y => (k3 _ _ (by omega)).trans (HT.2.2.1 j e x y), (k3 _ _ (by omega)).trans HT.2.2.2.1, k2⟩, k3, k4⟩
  obtain ⟨σ2, b1, b2, b3, b4⟩ := hstep σ1 at_ ha H1
  have s1l := stp_lt (to := to) p1 ha
  -- behind the steps
  have hend : ∀ (τ : Sg) (a : Nat), a < A 0 → a = stps A f at_ to → DX τ A w D h a → (∀ c j, ¬ (c = 31 ∧ j = 8) → gI τ c j = gI σ1 c j) → τ.2 = σ1.2 → ∃ κ, j_Day_pass_53i16 (if f = true then 1 else 0) τ (nI h) = some (.inl (κ, nI (h + 1))) ∧ PX κ A w (hour1 A w f h (D, at_, c)) ∧ gI κ 37 h = nI (hour1 A w f h (D, at_, c)).2.1 ∧ (∀ c j, ¬ (c = 31 ∨ c = 34 ∨ c = 35 ∨ c = 36 ∨ c = 37 ∧ j = h) → gI κ c j = gI ρ c j) ∧ κ.2 = ρ.2 := fun τ a al hae HT k3 k4 => by
    have hc9 : gI τ 31 9 = nI c := by rw [k3 _ _ (by omega), a3 _ _ (by omega), hz0 _ _ (by omega), h5]
    obtain ⟨κ, c1, c2, c3, c4, c5⟩ := x_do W hw hd hh al HT hc9
    have eh : hour1 A w f h (D, at_, c) = ((do3 A w D h a c).1, a, (do3 A w D h a c).2) := by rw [hae, hto]; rfl
    rw [eh]
    refine ⟨pI κ 37 h (nI a), ?_, ⟨XT_cong (fun c p q j => gI_ne (by omega)) (fun _ _ => rfl) W c2.1, fun j hj => by rw [gI_ne (by omega)]; exact c2.2.1 j hj, fun j e x y => by rw [gI_ne (by omega)]; exact c2.2.2.1 j e x y, by rw [gI_ne (by omega)]; exact c2.2.2.2.2, by rw [gI_ne (by omega)]; exact c3⟩, by rw [gI_eq], fun b j q => ?_, ?_⟩
    · unfold j_Day_pass_53i16
      rw [c1, Option.bind_some, if_pos (inB_nI (by omega) (by omega)), lt_eq, lt_eq, nI_clamp (by omega), c2.2.2.2.2, nI_1]
    · rw [gI_ne (by omega), c4 _ _ (by omega), k3 _ _ (by omega), a3 _ _ (by omega), hz0 _ _ (by omega)]
    · show κ.2 = ρ.2
      rw [c5, k4, a4, ← hσ]; rfl
  unfold b_Day_pass_16
  rw [if_neg (by show ¬ nI 10 ≤ nI h; rw [nI_leI (by omega) (by omega)]; omega), lt_eq]
  show ∃ κ, ((s_Day_lookAround (pI ρ 31 7 (nI h))).bind fun q5 => (s_Day_chosen q5).bind fun q6 => (s_Day_stepTowards q5 q6).bind fun q7 => if (if f = true then (1 : Int32) else 0) = 0 then j_Day_pass_53i16 (if f = true then 1 else 0) q7 (nI h) else (s_Day_stepTowards q7 q6).bind fun q13 => j_Day_pass_53i16 (if f = true then 1 else 0) q13 (nI h)) = _ ∧ _
  rw [hσ, a1, Option.bind_some, hch, Option.bind_some, b1, Option.bind_some]
  cases hf : f with
  | false =>
    subst hf
    rw [if_pos (show (if false = true then (1 : Int32) else 0) = 0 from rfl)]
    exact hend σ2 _ s1l rfl b2 b3 b4
  | true =>
    subst hf
    rw [if_neg (show ¬ (if true = true then (1 : Int32) else 0) = 0 from by decide)]
    obtain ⟨σ3, d1, d2, d3, d4⟩ := hstep σ2 _ s1l b2
    rw [d1, Option.bind_some]
    exact hend σ3 _ (stp_lt p1 s1l) rfl d2 (fun c j q => (d3 c j q).trans (b3 c j q)) (d4.trans b4)
/-- where a three is behind an hour, and how many errands are done in its day -/
def dW (A : Nat → Nat) (m h : Nat) : Nat := (dst A (wm m) (fs A (wm m)) (h + 1)).2.1
def dC (A : Nat → Nat) (m : Nat) : Nat := (dst A (wm m) (fs A (wm m)) 10).2.2
theorem x_pass {σ : Sg} {A : Nat → Nat} {m : Nat} (hX : XT σ 19 A) (W : WT A) (hm : m < 2 ^ A 1) (h5 : m < 512) (h3 : bN m = 3) : ∃ τ, s_Day_pass σ (nI m) = some τ ∧ gI τ 31 9 = nI (dC A m) ∧ (∀ h, h < 10 → gI τ 37 h = nI (dW A m h)) ∧ (∀ c j, ¬ (c = 31 ∨ 33 ≤ c ∧ c ≤ 37) → gI τ c j = gI σ c j) ∧ τ.2 = σ.2 := by
  have n9 := W.2.2.1
  obtain ⟨-, -, ⟨o1, o2, o3⟩, -, -⟩ := mem_ok m h5 h3
  have hw : ∀ j, j < 3 → wm m j < A 1 := fun j hj => wm_lt n9 hm h5 h3 hj
  obtain ⟨ρ, r1, r2, r3, r4, r5, r6, r7⟩ := x_begin hX.2.1 n9 hm h5 h3
  have hXρ : XT ρ 19 A := XT_cong (fun c p q j => r6 c j (by omega)) (fun _ _ => rfl) W hX
  have H0 : PX ρ A (wm m) (dst A (wm m) (fs A (wm m)) 0) := ⟨hXρ, r2, fun j e hj he => by
    have := hw j hj
    rw [r3 _ (by omega)]; show 0 = if (0 : Nat).testBit e = true then _ else _; rw [Nat.zero_testBit]; rfl, r4, r5⟩
  rw [s_Day_pass, r1, Option.bind_some, x_quick hXρ W hm h5 h3, Option.bind_some]
  obtain ⟨z, hz, g1, g2, g3, g4⟩ := lp_ex (b := b_Day_pass_16 (if fs A (wm m) = true then 1 else 0)) (I := fun x n => ∃ k, x.2 = nI k ∧ k ≤ 10 ∧ n = 10 - k ∧ PX x.1 A (wm m) (dst A (wm m) (fs A (wm m)) k) ∧ (∀ h, h < k → gI x.1 37 h = nI (dW A m h)) ∧ (∀ c j, ¬ (c = 31 ∨ 34 ≤ c ∧ c ≤ 37) → gI x.1 c j = gI ρ c j) ∧ x.1.2 = ρ.2) (G := fun x => gI x.1 31 9 = nI (dC A m) ∧ (∀ h, h < 10 → gI x.1 37 h = nI (dW A m h)) ∧ (∀ c j, ¬ (c = 31 ∨ 34 ≤ c ∧ c ≤ 37) → gI x.1 c j = gI ρ c j) ∧ x.1.2 = ρ.2) (fun x n hx => by
    obtain ⟨τ, p⟩ := x
    obtain ⟨k, hp, k1, k2, i1, i2, i3, i4⟩ := hx
    have hp : p = nI k := hp
    subst hp
    by_cases d : k = 10
    · subst d
      refine Or.inr ⟨(τ, nI 10), ?_, i1.2.2.2.2, i2, i3, i4⟩
      unfold b_Day_pass_16
      rw [if_pos (show (10 : Int32) ≤ nI 10 by decide)]
    · obtain ⟨κ, c1, c2, c3, c4, c5⟩ := x_hour (f := fs A (wm m)) W hw ⟨o1, o2⟩ (show k < 10 by omega) (dst_lt W.1 k) i1
      refine Or.inl ⟨(κ, nI (k + 1)), 10 - (k + 1), c1, by omega, k + 1, rfl, by omega, rfl, c2, fun h hh => ?_, fun c j q => (c4 c j (by omega)).trans (i3 c j q), c5.trans i4⟩
      by_cases e : h = k
      · subst e; exact c3
      · exact (c4 37 h (by omega)).trans (i2 h (by omega))) 100000 10 (ρ, 0) (by omega) ⟨0, rfl, by omega, by omega, H0, fun h hh => by omega, fun _ _ _ => rfl, rfl⟩
  rw [hz, Option.bind_some]
  exact ⟨_, rfl, g1, g2, fun c j q => (g3 c j (by omega)).trans (r6 c j (by omega)), g4.trans r7⟩
