/-! THE RELATION of the two sides: both tell the same scene, images, text, fraction and counts. A scene is a row A of 143 numbers, as the reference lays it. -/
def MS (σ : Sg) (m b : Nat) (A : Nat → Nat) : Prop := ∀ j, j < 143 → gI σ m (b + j) = nI (A j)
/-- one of the people in the class's arrays of a town at the cell t -/
def XP (σ : Sg) (t p : Nat) (A : Nat → Nat) : Prop :=
  gI σ (t + 1) p = nI (A (2 + 11 * p)) ∧ gI σ (t + 2) p = nI (A (3 + 11 * p)) ∧ gI σ (t + 3) p = nI (A (4 + 11 * p)) ∧
  ∀ e, e < A (4 + 11 * p) → gI σ (t + 4) (4 * p + e) = nI (A (5 + 11 * p + 2 * e)) ∧ gI σ (t + 5) (4 * p + e) = nI (A (6 + 11 * p + 2 * e))
/-- the town of the class at the cell t -/
def XT (σ : Sg) (t : Nat) (A : Nat → Nat) : Prop := gI σ t 5 = nI (A 0) ∧ gI σ t 6 = nI (A 1) ∧ ∀ p, p < A 1 → XP σ t p A
def XG (σ : Sg) (t : Nat) (A : Nat → Nat) : Prop := ∀ j, 1 ≤ j → j ≤ 7 → gI σ (t + 7) j = nI (A (100 + j))
def XW (σ : Sg) (t : Nat) (A : Nat → Nat) : Prop := gI σ (t + 6) 6 = nI (A 108) ∧ ∀ j, j < 3 * A 108 → gI σ (t + 8) j = nI (A (109 + j))
def XO (σ : Sg) (t : Nat) (A : Nat → Nat) : Prop := gI σ (t + 6) 7 = nI (A 127) ∧ ∀ i, i < A 127 → gI σ (t + 9) i = nI (A (128 + 3 * i)) ∧ gI σ (t + 10) i = nI (A (129 + 3 * i)) ∧ gI σ (t + 11) i = nI (A (130 + 3 * i))
/-- a town at the cell t, its scene at t + 6 -/
def XS (σ : Sg) (t : Nat) (A : Nat → Nat) : Prop := XT σ t A ∧ XG σ t A ∧ XW σ t A ∧ XO σ t A
/-- what the numbers of one of the people are -/
def WP (P p : Nat) (A : Nat → Nat) : Prop :=
  A (2 + 11 * p) < 5 ∧ 1 ≤ A (3 + 11 * p) ∧ A (3 + 11 * p) ≤ 9 ∧ A (4 + 11 * p) ≤ 4 ∧ ∀ e, e < A (4 + 11 * p) → A (5 + 11 * p + 2 * e) < P ∧ A (6 + 11 * p + 2 * e) < 10
def WT (A : Nat → Nat) : Prop := 1 ≤ A 0 ∧ A 0 ≤ 6 ∧ A 1 ≤ 9 ∧ ∀ p, p < A 1 → WP (A 0) p A
def WG (A : Nat → Nat) : Prop := ∀ j, 1 ≤ j → j ≤ 7 → A (100 + j) ≤ 99
def WW (A : Nat → Nat) : Prop := A 108 ≤ 6 ∧ ∀ j, j < 3 * A 108 → A (109 + j) < 2 ^ A 1 ∧ ∀ i, i < 3 * A 108 → i / 3 = j / 3 → i ≠ j → A (109 + i) &&& A (109 + j) = 0
def WO (A : Nat → Nat) : Prop := A 127 ≤ 5 ∧ ∀ i, i < A 127 → A (128 + 3 * i) < A 1 ∧ A (129 + 3 * i) < A 0 ∧ A (130 + 3 * i) < 10
/-- what the numbers of a scene are -/
def WS (A : Nat → Nat) : Prop := WT A ∧ WG A ∧ WW A ∧ WO A
def RA (σ : Sg) (A : Nat → Nat) : Prop := MS σ 72 0 A ∧ XS σ 19 A ∧ WS A
def RI (σ : Sg) : Prop := ∀ i, i < 2 → gI σ 2 i = gI σ 74 i ∧ (gI σ 2 i = 0 ∨ gI σ 2 i = 1 ∧ ∃ B, MS σ 73 (143 * i) B ∧ XS σ (47 + 12 * i) B ∧ WS B)
def RT (σ : Sg) : Prop := ∃ n, n ≤ 250 ∧ gI σ 0 9 = nI n ∧ gI σ 71 21 = nI n ∧ ∀ j, j < n → ∃ c, c < 256 ∧ gI σ 3 j = nI c ∧ gI σ 88 j = nI c
def RF (σ : Sg) : Prop := (gI σ 0 10).toInt64 = gL σ 71 4 ∧ (gI σ 0 11).toInt64 = gL σ 71 5
def RC (σ : Sg) : Prop := gI σ 0 12 = gI σ 75 0 ∧ gI σ 0 13 = gI σ 75 1 ∧ gI σ 0 14 = gI σ 75 2
/-- what no call changes: the class's lists of threes and pairs; which cells take turns -/
def RK (σ : Sg) : Prop := gI σ 13 = gI spT 1 ∧ gL σ 14 = gL spT 2 ∧ (gR σ 43 2 = 45 ∧ gR σ 43 3 = 46 ∨ gR σ 43 2 = 46 ∧ gR σ 43 3 = 45) ∧ (gR σ 4 1 = 5 ∨ gR σ 4 1 = 3) ∧ gI σ 15 0 = 0
def R (σ : Sg) : Prop := (∃ A, RA σ A) ∧ RI σ ∧ RT σ ∧ RF σ ∧ RC σ ∧ RK σ
section CONG
variable {σ τ : Sg}
theorem XT_cong {t : Nat} {A B : Nat → Nat} (h : ∀ c, t ≤ c → c ≤ t + 5 → ∀ j, gI τ c j = gI σ c j) (hA : ∀ j, j ≤ 100 → B j = A j) (W : WT A) (H : XT σ t A) : XT τ t B := by
  obtain ⟨h1, h2, h3⟩ := H
  obtain ⟨-, -, w3, w4⟩ := W
  refine ⟨by rw [h _ (by omega) (by omega), hA _ (by omega)]; exact h1, by rw [h _ (by omega) (by omega), hA _ (by omega)]; exact h2, fun p hp => ?_⟩
  rw [hA 1 (by omega)] at hp
  obtain ⟨k1, k2, k3, k4⟩ := h3 p hp
  obtain ⟨-, -, -, w5, -⟩ := w4 p hp
  refine ⟨by rw [h _ (by omega) (by omega), hA _ (by omega)]; exact k1, by rw [h _ (by omega) (by omega), hA _ (by omega)]; exact k2, by rw [h _ (by omega) (by omega), hA _ (by omega)]; exact k3, fun e he => ?_⟩
  rw [hA _ (by omega)] at he
  rw [h _ (by omega) (by omega), h _ (by omega) (by omega), hA _ (by omega), hA _ (by omega)]
  exact k4 e he
theorem XG_cong {t : Nat} {A B : Nat → Nat} (h : ∀ j, gI τ (t + 7) j = gI σ (t + 7) j) (hA : ∀ j, 101 ≤ j → j ≤ 107 → B j = A j) (H : XG σ t A) : XG τ t B := fun j a b => by
  rw [h, hA _ (by omega) (by omega)]; exact H j a b
theorem XW_cong {t : Nat} {A B : Nat → Nat} (h0 : gI τ (t + 6) 6 = gI σ (t + 6) 6) (h : ∀ j, gI τ (t + 8) j = gI σ (t + 8) j) (hA : ∀ j, 108 ≤ j → j ≤ 126 → B j = A j) (W : WW A) (H : XW σ t A) : XW τ t B := by
  have w := W.1
  refine ⟨by rw [h0, hA _ (by omega) (by omega)]; exact H.1, fun j a => ?_⟩
  rw [hA _ (by omega) (by omega)] at a
  rw [h, hA _ (by omega) (by omega)]; exact H.2 j a
theorem XO_cong {t : Nat} {A B : Nat → Nat} (h0 : gI τ (t + 6) 7 = gI σ (t + 6) 7) (h : ∀ c, t + 9 ≤ c → c ≤ t + 11 → ∀ j, gI τ c j = gI σ c j) (hA : ∀ j, 127 ≤ j → j ≤ 142 → B j = A j) (W : WO A) (H : XO σ t A) : XO τ t B := by
  have w := W.1
  refine ⟨by rw [h0, hA _ (by omega) (by omega)]; exact H.1, fun i a => ?_⟩
  rw [hA _ (by omega) (by omega)] at a
  rw [h _ (by omega) (by omega), h _ (by omega) (by omega), h _ (by omega) (by omega), hA _ (by omega) (by omega), hA _ (by omega) (by omega), hA _ (by omega) (by omega)]; exact H.2 i a
theorem WT_cong {A B : Nat → Nat} (hA : ∀ j, j ≤ 100 → B j = A j) (W : WT A) : WT B := by
  obtain ⟨w1, w2, w3, w4⟩ := W
  refine ⟨by rw [hA _ (by omega)]; exact w1, by rw [hA _ (by omega)]; exact w2, by rw [hA _ (by omega)]; exact w3, fun p hp => ?_⟩
  rw [hA 1 (by omega)] at hp
  obtain ⟨k1, k2, k3, k4, k5⟩ := w4 p hp
  refine ⟨by rw [hA _ (by omega)]; exact k1, by rw [hA _ (by omega)]; exact k2, by rw [hA _ (by omega)]; exact k3, by rw [hA _ (by omega)]; exact k4, fun e he => ?_⟩
  rw [hA _ (by omega)] at he
  rw [hA _ (by omega), hA _ (by omega), hA _ (by omega)]; exact k5 e he
theorem WG_cong {A B : Nat → Nat} (hA : ∀ j, 101 ≤ j → j ≤ 107 → B j = A j) (W : WG A) : WG B := fun j a b => by
  rw [hA _ (by omega) (by omega)]; exact W j a b
theorem WW_cong {A B : Nat → Nat} (h1 : B 1 = A 1) (hA : ∀ j, 108 ≤ j → j ≤ 126 → B j = A j) (W : WW A) : WW B := by
  have w := W.1
  refine ⟨by rw [hA _ (by omega) (by omega)]; exact W.1, fun j a => ?_⟩
  rw [hA _ (by omega) (by omega)] at a
  rw [h1, hA (109 + j) (by omega) (by omega)]
  refine ⟨(W.2 j a).1, fun i b c d => ?_⟩
  rw [hA 108 (by omega) (by omega)] at b
  rw [hA (109 + i) (by omega) (by omega)]; exact (W.2 j a).2 i b c d
theorem WO_cong {A B : Nat → Nat} (h0 : B 0 = A 0) (h1 : B 1 = A 1) (hA : ∀ j, 127 ≤ j → j ≤ 142 → B j = A j) (W : WO A) : WO B := by
  have w := W.1
  refine ⟨by rw [hA _ (by omega) (by omega)]; exact W.1, fun i a => ?_⟩
  rw [hA _ (by omega) (by omega)] at a
  rw [h0, h1, hA _ (by omega) (by omega), hA _ (by omega) (by omega), hA _ (by omega) (by omega)]; exact W.2 i a
theorem XS_cong {t : Nat} {A : Nat → Nat} (h : ∀ c, t ≤ c → c ≤ t + 11 → ∀ j, gI τ c j = gI σ c j) (W : WS A) (H : XS σ t A) : XS τ t A :=
  ⟨XT_cong (fun c a b => h c a (by omega)) (fun _ _ => rfl) W.1 H.1, XG_cong (h _ (by omega) (by omega)) (fun _ _ _ => rfl) H.2.1, XW_cong (h _ (by omega) (by omega) _) (h _ (by omega) (by omega)) (fun _ _ _ => rfl) W.2.2.1 H.2.2.1, XO_cong (h _ (by omega) (by omega) _) (fun c a b => h c (by omega) (by omega)) (fun _ _ _ => rfl) W.2.2.2 H.2.2.2⟩
theorem MS_cong {m b : Nat} {A : Nat → Nat} (h : ∀ j, gI τ m j = gI σ m j) (H : MS σ m b A) : MS τ m b A := fun j hj => by rw [h]; exact H j hj
theorem RA_cong {A : Nat → Nat} (h : ∀ c, 19 ≤ c ∧ c ≤ 30 ∨ c = 72 → ∀ j, gI τ c j = gI σ c j) (H : RA σ A) : RA τ A :=
  ⟨MS_cong (h 72 (Or.inr rfl)) H.1, XS_cong (fun c a b => h c (Or.inl ⟨a, b⟩)) H.2.2 H.2.1, H.2.2⟩
theorem RI_cong (h : ∀ c, 47 ≤ c ∧ c ≤ 70 ∨ c = 2 ∨ c = 73 ∨ c = 74 → ∀ j, gI τ c j = gI σ c j) (H : RI σ) : RI τ := fun i hi => by
  obtain ⟨h1, h2⟩ := H i hi
  rw [h 2 (by omega), h 74 (by omega)]
  refine ⟨h1, h2.imp (fun q => q) (fun ⟨a, B, b, c, d⟩ => ⟨a, B, MS_cong (h 73 (by omega)) b, XS_cong (fun k u v => h k (by omega)) d c, d⟩)⟩
theorem RT_cong (h0 : gI τ 0 9 = gI σ 0 9) (h1 : gI τ 71 21 = gI σ 71 21) (h3 : ∀ j, gI τ 3 j = gI σ 3 j) (h8 : ∀ j, gI τ 88 j = gI σ 88 j) (H : RT σ) : RT τ := by
  obtain ⟨n, a, b, c, d⟩ := H
  exact ⟨n, a, h0.trans b, h1.trans c, fun j hj => by rw [h3, h8]; exact d j hj⟩
theorem RF_cong (h0 : gI τ 0 10 = gI σ 0 10) (h1 : gI τ 0 11 = gI σ 0 11) (h4 : gL τ 71 4 = gL σ 71 4) (h5 : gL τ 71 5 = gL σ 71 5) (H : RF σ) : RF τ := by
  unfold RF; rw [h0, h1, h4, h5]; exact H
theorem RC_cong (h : ∀ j, 12 ≤ j → gI τ 0 j = gI σ 0 j) (h7 : ∀ j, gI τ 75 j = gI σ 75 j) (H : RC σ) : RC τ := by
  unfold RC; rw [h 12 (by omega), h 13 (by omega), h 14 (by omega), h7, h7, h7]; exact H
theorem RK_cong (h15 : gI τ 15 0 = gI σ 15 0) (h : gI τ 13 = gI σ 13) (hL : gL τ 14 = gL σ 14) (h2 : gR τ 43 = gR σ 43) (h3 : gR τ 4 = gR σ 4) (H : RK σ) : RK τ := by
  unfold RK; rw [h, hL, h2, h3, h15]; exact H
end CONG
