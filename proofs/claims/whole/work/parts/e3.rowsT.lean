/-! a town that is read: what its items add -/
def addP (B : Nat → Nat) (k v : Nat) : Nat → Nat := updA (updA (updA (updA B (2 + 11 * B 1) k) (3 + 11 * B 1) v) (4 + 11 * B 1) 0) 1 (B 1 + 1)
def addE (B : Nat → Nat) (w a h : Nat) : Nat → Nat := updA (updA (updA B (5 + 11 * w + 2 * B (4 + 11 * w)) a) (6 + 11 * w + 2 * B (4 + 11 * w)) h) (4 + 11 * w) (B (4 + 11 * w) + 1)
theorem addP_f {B : Nat → Nat} {k v : Nat} : addP B k v 1 = B 1 + 1 ∧ addP B k v (2 + 11 * B 1) = k ∧ addP B k v (3 + 11 * B 1) = v ∧ addP B k v (4 + 11 * B 1) = 0 ∧ ∀ j, ¬ (j = 1 ∨ j = 2 + 11 * B 1 ∨ j = 3 + 11 * B 1 ∨ j = 4 + 11 * B 1) → addP B k v j = B j := by
  unfold addP
  refine ⟨updA_eq rfl, ?_, ?_, ?_, fun j h => ?_⟩
  · rw [updA_ne (by omega), updA_ne (by omega), updA_ne (by omega), updA_eq rfl]
  · rw [updA_ne (by omega), updA_ne (by omega), updA_eq rfl]
  · rw [updA_ne (by omega), updA_eq rfl]
  · rw [updA_ne (by omega), updA_ne (by omega), updA_ne (by omega), updA_ne (by omega)]
theorem addE_f {B : Nat → Nat} {w a h : Nat} : addE B w a h (4 + 11 * w) = B (4 + 11 * w) + 1 ∧ addE B w a h (5 + 11 * w + 2 * B (4 + 11 * w)) = a ∧ addE B w a h (6 + 11 * w + 2 * B (4 + 11 * w)) = h ∧ ∀ j, ¬ (j = 4 + 11 * w ∨ j = 5 + 11 * w + 2 * B (4 + 11 * w) ∨ j = 6 + 11 * w + 2 * B (4 + 11 * w)) → addE B w a h j = B j := by
  unfold addE
  refine ⟨updA_eq rfl, ?_, ?_, fun j h => ?_⟩
  · rw [updA_ne (by omega), updA_ne (by omega), updA_eq rfl]
  · rw [updA_ne (by omega), updA_eq rfl]
  · rw [updA_ne (by omega), updA_ne (by omega), updA_ne (by omega)]
theorem WT_addP {B : Nat → Nat} {k v : Nat} (W : WT B) (hN : B 1 < 9) (hk : k < 5) (v1 : 1 ≤ v) (v9 : v ≤ 9) : WT (addP B k v) := by
  obtain ⟨f1, f2, f3, f4, f5⟩ := addP_f (B := B) (k := k) (v := v)
  obtain ⟨w1, w2, w3, w4⟩ := W
  refine ⟨by rw [f5 0 (by omega)]; exact w1, by rw [f5 0 (by omega)]; exact w2, by rw [f1]; omega, fun p hp => ?_⟩
  rw [f1] at hp
  rw [f5 0 (by omega)]
  by_cases c : p = B 1
  · subst c
    exact ⟨by rw [f2]; exact hk, by rw [f3]; exact v1, by rw [f3]; exact v9, by rw [f4]; omega, fun e he => absurd he (by rw [f4]; omega)⟩
  · obtain ⟨k1, k2, k3, k4, k5⟩ := w4 p (by omega)
    refine ⟨by rw [f5 _ (by omega)]; exact k1, by rw [f5 _ (by omega)]; exact k2, by rw [f5 _ (by omega)]; exact k3, by rw [f5 _ (by omega)]; exact k4, fun e he => ?_⟩
    rw [f5 _ (by omega)] at he
    rw [f5 _ (by omega), f5 _ (by omega)]; exact k5 e he
theorem WT_addE {B : Nat → Nat} {w a h : Nat} (W : WT B) (hw : w < B 1) (he : B (4 + 11 * w) < 4) (ha : a < B 0) (hh : h < 10) : WT (addE B w a h) := by
  obtain ⟨f1, f2, f3, f5⟩ := addE_f (B := B) (w := w) (a := a) (h := h)
  obtain ⟨w1, w2, w3, w4⟩ := W
  refine ⟨by rw [f5 0 (by omega)]; exact w1, by rw [f5 0 (by omega)]; exact w2, by rw [f5 1 (by omega)]; exact w3, fun p hp => ?_⟩
  rw [f5 1 (by omega)] at hp
  rw [f5 0 (by omega)]
  obtain ⟨k1, k2, k3, k4, k5⟩ := w4 p hp
  by_cases c : p = w
  · subst c
    refine ⟨by rw [f5 _ (by omega)]; exact k1, by rw [f5 _ (by omega)]; exact k2, by rw [f5 _ (by omega)]; exact k3, by rw [f1]; omega, fun e hee => ?_⟩
    rw [f1] at hee
    by_cases d : e = B (4 + 11 * p)
    · subst d; rw [f2, f3]; exact ⟨ha, hh⟩
    · rw [f5 _ (by omega), f5 _ (by omega)]; exact k5 e (by omega)
  · refine ⟨by rw [f5 _ (by omega)]; exact k1, by rw [f5 _ (by omega)]; exact k2, by rw [f5 _ (by omega)]; exact k3, by rw [f5 _ (by omega)]; exact k4, fun e hee => ?_⟩
    rw [f5 _ (by omega)] at hee
    rw [f5 _ (by omega), f5 _ (by omega)]; exact k5 e hee
theorem XT_addP {σ τ : Sg} {t k v : Nat} {B : Nat → Nat} (W : WT B) (H : XT σ t B) (hz : ∀ a j, t ≤ a → a ≤ t + 5 → ¬ (a = t ∧ j = 6 ∨ a = t + 1 ∧ j = B 1 ∨ a = t + 2 ∧ j = B 1 ∨ a = t + 3 ∧ j = B 1) → gI τ a j = gI σ a j) (h6 : gI τ t 6 = nI (B 1 + 1)) (h1 : gI τ (t + 1) (B 1) = nI k) (h2 : gI τ (t + 2) (B 1) = nI v) (h3 : gI τ (t + 3) (B 1) = nI 0) : XT τ t (addP B k v) := by
  obtain ⟨f1, f2, f3, f4, f5⟩ := addP_f (B := B) (k := k) (v := v)
  obtain ⟨w1, w2, w3, w4⟩ := W
  obtain ⟨x1, x2, x3⟩ := H
  refine ⟨by rw [hz _ _ (by omega) (by omega) (by omega), f5 0 (by omega)]; exact x1, by rw [h6, f1], fun p hp => ?_⟩
  rw [f1] at hp
  by_cases c : p = B 1
  · subst c
    exact ⟨by rw [h1, f2], by rw [h2, f3], by rw [h3, f4], fun e he => absurd he (by rw [f4]; omega)⟩
  · obtain ⟨k1, k2, k3, k4⟩ := x3 p (by omega)
    have := (w4 p (by omega)).2.2.2.1
    refine ⟨by rw [hz _ _ (by omega) (by omega) (by omega), f5 _ (by omega)]; exact k1, by rw [hz _ _ (by omega) (by omega) (by omega), f5 _ (by omega)]; exact k2, by rw [hz _ _ (by omega) (by omega) (by omega), f5 _ (by omega)]; exact k3, fun e he => ?_⟩
    rw [f5 _ (by omega)] at he
    rw [hz _ _ (by omega) (by omega) (by omega), hz _ _ (by omega) (by omega) (by omega), f5 _ (by omega), f5 _ (by omega)]; exact k4 e he
theorem XT_addE {σ τ : Sg} {t w a h : Nat} {B : Nat → Nat} (W : WT B) (H : XT σ t B) (hw : w < B 1) (he : B (4 + 11 * w) < 4) (hz : ∀ c j, t ≤ c → c ≤ t + 5 → ¬ (c = t + 3 ∧ j = w ∨ c = t + 4 ∧ j = 4 * w + B (4 + 11 * w) ∨ c = t + 5 ∧ j = 4 * w + B (4 + 11 * w)) → gI τ c j = gI σ c j) (h3 : gI τ (t + 3) w = nI (B (4 + 11 * w) + 1)) (h4 : gI τ (t + 4) (4 * w + B (4 + 11 * w)) = nI a) (h5 : gI τ (t + 5) (4 * w + B (4 + 11 * w)) = nI h) : XT τ t (addE B w a h) := by
  obtain ⟨f1, f2, f3, f5⟩ := addE_f (B := B) (w := w) (a := a) (h := h)
  obtain ⟨w1, w2, w3, w4⟩ := W
  obtain ⟨x1, x2, x3⟩ := H
  refine ⟨by rw [hz _ _ (by omega) (by omega) (by omega), f5 0 (by omega)]; exact x1, by rw [hz _ _ (by omega) (by omega) (by omega), f5 1 (by omega)]; exact x2, fun p hp => ?_⟩
  rw [f5 1 (by omega)] at hp
  obtain ⟨k1, k2, k3, k4⟩ := x3 p hp
  have hE := (w4 p hp).2.2.2.1
  by_cases c : p = w
  · subst c
    refine ⟨by rw [hz _ _ (by omega) (by omega) (by omega), f5 _ (by omega)]; exact k1, by rw [hz _ _ (by omega) (by omega) (by omega), f5 _ (by omega)]; exact k2, by rw [h3, f1], fun e hee => ?_⟩
    rw [f1] at hee
    by_cases d : e = B (4 + 11 * p)
    · subst d; rw [f2, f3]; exact ⟨h4, h5⟩
    · rw [hz _ _ (by omega) (by omega) (by omega), hz _ _ (by omega) (by omega) (by omega), f5 _ (by omega), f5 _ (by omega)]; exact k4 e (by omega)
  · refine ⟨by rw [hz _ _ (by omega) (by omega) (by omega), f5 _ (by omega)]; exact k1, by rw [hz _ _ (by omega) (by omega) (by omega), f5 _ (by omega)]; exact k2, by rw [hz _ _ (by omega) (by omega) (by omega), f5 _ (by omega)]; exact k3, fun e hee => ?_⟩
    rw [f5 _ (by omega)] at hee
    rw [hz _ _ (by omega) (by omega) (by omega), hz _ _ (by omega) (by omega) (by omega), f5 _ (by omega), f5 _ (by omega)]; exact k4 e hee
/-- some errand is there -/
def bz (B : Nat → Nat) : Bool := !(Nat.beq (sm (fun p => B (4 + 11 * p)) (B 1)) 0)
theorem bz_iff {B : Nat → Nat} : bz B = true ↔ ¬ sm (fun p => B (4 + 11 * p)) (B 1) = 0 := by
  unfold bz
  by_cases h : sm (fun p => B (4 + 11 * p)) (B 1) = 0
  · rw [h]; exact ⟨fun q => absurd q (by decide), fun q => absurd rfl q⟩
  · have : Nat.beq (sm (fun p => B (4 + 11 * p)) (B 1)) 0 = false := by cases g : Nat.beq (sm (fun p => B (4 + 11 * p)) (B 1)) 0; rfl; exact absurd (Nat.eq_of_beq_eq_true g) h
    rw [this]; exact ⟨fun _ => h, fun _ => rfl⟩
theorem sm_0 {f : Nat → Nat} : ∀ n, sm f n = 0 → ∀ i, i < n → f i = 0
  | 0, _, i, h => by omega
  | n + 1, h, i, hi => by
    have h : sm f n + f n = 0 := h
    by_cases c : i = n
    · subst c; omega
    · exact sm_0 n (by omega) i (by omega)
theorem sm_le {f : Nat → Nat} {b : Nat} : ∀ n, (∀ i, i < n → f i ≤ b) → sm f n ≤ b * n
  | 0, _ => Nat.zero_le _
  | n + 1, h => by
    have a := sm_le n (fun i hi => h i (by omega))
    have b1 := h n (by omega)
    show sm f n + f n ≤ b * (n + 1)
    rw [Nat.mul_succ]; omega
theorem x_errs6 {σ : Sg} {B : Nat → Nat} (W : WT B) (H : XT σ 6 B) : ∃ v, s_Town_errandsOfAll_6 σ = some v ∧ (v = 0 ↔ ¬ bz B = true) := by
  obtain ⟨w1, w2, w3, w4⟩ := W
  obtain ⟨x1, x2, x3⟩ := H
  have hle := sm_le (f := fun p => B (4 + 11 * p)) (b := 4) (B 1) (fun i hi => (w4 i hi).2.2.2.1)
  refine ⟨nI (sm (fun p => B (4 + 11 * p)) (B 1)), ?_, ?_⟩
  · have := lp_run (b := b_Town_errandsOfAll_6_4 σ) (fun k => (nI (sm (fun p => B (4 + 11 * p)) k), nI k)) (z := (nI (sm (fun p => B (4 + 11 * p)) (B 1)), nI (B 1))) (B 1) 100000 (by omega) (fun k hk => by
      have h9 : gI σ 9 k = nI (B (4 + 11 * k)) := (x3 k hk).2.2.1
      unfold b_Town_errandsOfAll_6_4
      show (if gI σ 6 6 ≤ nI k then _ else (if inB (nI k) 9 = true then some (Sum.inl (nI (sm (fun p => B (4 + 11 * p)) k) + gI σ 9 (Int32.toNatClampNeg (nI k)), nI k + 1)) else none)) = _
      rw [x2, if_neg (by rw [nI_leI (by omega) (by omega)]; omega), if_pos (inB_nI (by omega) (by omega)), nI_clamp (by omega), h9, nI_1, nI_add]; rfl) (by
      unfold b_Town_errandsOfAll_6_4
      show (if gI σ 6 6 ≤ nI (B 1) then some (Sum.inr (nI (sm (fun p => B (4 + 11 * p)) (B 1)), nI (B 1))) else _) = _
      rw [x2, if_pos (by rw [nI_leI (by omega) (by omega)]; omega)])
    rw [s_Town_errandsOfAll_6, show lp (b_Town_errandsOfAll_6_4 σ) 100000 (0, 0) = _ from this]; rfl
  · rw [bz_iff, show (0 : Int32) = nI 0 from rfl, nI_eq (by omega) (by omega)]
    exact ⟨fun h g => g h, fun h => by
      by_cases c : sm (fun p => B (4 + 11 * p)) (B 1) = 0
      · exact c
      · exact absurd c h⟩
theorem WT_pl {B : Nat → Nat} {v : Nat} (W : WT B) (hb : ¬ bz B = true) (v1 : 1 ≤ v) (v6 : v ≤ 6) : WT (updA B 0 v) ∧ ¬ bz (updA B 0 v) = true := by
  have h0 : sm (fun p => B (4 + 11 * p)) (B 1) = 0 := by
    by_cases c : sm (fun p => B (4 + 11 * p)) (B 1) = 0
    · exact c
    · exact absurd (bz_iff.mpr c) hb
  obtain ⟨w1, w2, w3, w4⟩ := W
  have u : ∀ j, ¬ j = 0 → updA B 0 v j = B j := fun j h => updA_ne h
  refine ⟨⟨by rw [updA_eq rfl]; exact v1, by rw [updA_eq rfl]; exact v6, by rw [u 1 (by omega)]; exact w3, fun p hp => ?_⟩, fun h => ?_⟩
  · rw [u 1 (by omega)] at hp
    obtain ⟨k1, k2, k3, k4, k5⟩ := w4 p hp
    have := sm_0 (f := fun p => B (4 + 11 * p)) (B 1) h0 p hp
    refine ⟨by rw [u _ (by omega)]; exact k1, by rw [u _ (by omega)]; exact k2, by rw [u _ (by omega)]; exact k3, by rw [u _ (by omega)]; exact k4, fun e he => ?_⟩
    rw [u _ (by omega)] at he
    exact absurd he (by have : B (4 + 11 * p) = 0 := this; omega)
  · have h := bz_iff.mp h
    rw [u 1 (by omega), sm_congr (g := fun p => B (4 + 11 * p)) _ (fun i _ => u _ (by omega))] at h
    exact h h0
theorem bz_addP {B : Nat → Nat} {k v : Nat} : bz (addP B k v) = bz B := by
  obtain ⟨f1, f2, f3, f4, f5⟩ := addP_f (B := B) (k := k) (v := v)
  unfold bz
  rw [f1]
  show (!Nat.beq (sm (fun p => addP B k v (4 + 11 * p)) (B 1) + addP B k v (4 + 11 * B 1)) 0) = _
  rw [f4, sm_congr (g := fun p => B (4 + 11 * p)) (B 1) (fun i hi => f5 _ (by omega))]; rfl
theorem bz_addE {B : Nat → Nat} {w a h : Nat} (hw : w < B 1) : bz (addE B w a h) = true := by
  obtain ⟨f1, f2, f3, f5⟩ := addE_f (B := B) (w := w) (a := a) (h := h)
  refine bz_iff.mpr (fun g => ?_)
  rw [f5 1 (by omega)] at g
  have := sm_0 _ g w hw
  rw [f1] at this; omega
