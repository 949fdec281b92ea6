theorem zz0 : nI 0 = (0 : Int32) := rfl
/-- what is left to both and how many turns later it ends, from strengths a and b with one's (on = 0) or two's turn -/
def V (a b on : Nat) : Nat × Nat × Nat :=
  if h : a = 0 then (0, 0, 0) else
  let p : Nat × Nat × Nat := if a - (1 + on) = 0 ∨ b - (2 - on) = 0 then (a - (1 + on), b - (2 - on), 0) else
    ((V (a - (1 + on)) (b - (2 - on)) (1 - on)).1, (V (a - (1 + on)) (b - (2 - on)) (1 - on)).2.1, (V (a - (1 + on)) (b - (2 - on)) (1 - on)).2.2 + 1)
  if on = 0 then (if a - a / 2 ≤ p.1 then p else (a - a / 2, b, 0)) else (if b - b / 2 ≤ p.2.1 then p else (a, b - b / 2, 0))
termination_by a
decreasing_by all_goals omega
/-- the pull from there -/
def Vp (a b on : Nat) : Nat × Nat × Nat := if a - (1 + on) = 0 ∨ b - (2 - on) = 0 then (a - (1 + on), b - (2 - on), 0) else
    ((V (a - (1 + on)) (b - (2 - on)) (1 - on)).1, (V (a - (1 + on)) (b - (2 - on)) (1 - on)).2.1, (V (a - (1 + on)) (b - (2 - on)) (1 - on)).2.2 + 1)
theorem V_eq {a b on : Nat} (h : 1 ≤ a) : V a b on = if on = 0 then (if a - a / 2 ≤ (Vp a b on).1 then Vp a b on else (a - a / 2, b, 0)) else (if b - b / 2 ≤ (Vp a b on).2.1 then Vp a b on else (a, b - b / 2, 0)) := by
  rw [V, dif_neg (by omega)]; rfl
theorem V_le : ∀ (n a b on : Nat), a ≤ n → on < 2 → (V a b on).1 ≤ a ∧ (V a b on).2.1 ≤ b ∧ (V a b on).2.2 ≤ a := by
  intro n
  induction n with
  | zero =>
    intro a b on h _
    have : a = 0 := by omega
    subst this
    rw [V, dif_pos rfl]; exact ⟨Nat.zero_le _, Nat.zero_le _, Nat.zero_le _⟩
  | succ n ih =>
    intro a b on h ho
    by_cases h0 : a = 0
    · exact ih a b on (by omega) ho
    have hp : (Vp a b on).1 ≤ a ∧ (Vp a b on).2.1 ≤ b ∧ (Vp a b on).2.2 ≤ a := by
      unfold Vp
      by_cases c : a - (1 + on) = 0 ∨ b - (2 - on) = 0
      · rw [if_pos c]; exact ⟨Nat.sub_le _ _, Nat.sub_le _ _, Nat.zero_le _⟩
      · rw [if_neg c]
        obtain ⟨k1, k2, k3⟩ := ih (a - (1 + on)) (b - (2 - on)) (1 - on) (by omega) (by omega)
        exact ⟨by show (V _ _ _).1 ≤ _; omega, by show (V _ _ _).2.1 ≤ _; omega, by show (V _ _ _).2.2 + 1 ≤ _; omega⟩
    rw [V_eq (by omega)]
    by_cases c : on = 0
    · rw [if_pos c]
      by_cases d : a - a / 2 ≤ (Vp a b on).1
      · rw [if_pos d]; exact hp
      · rw [if_neg d]; exact ⟨Nat.sub_le _ _, Nat.le_refl _, Nat.zero_le _⟩
    · rw [if_neg c]
      by_cases d : b - b / 2 ≤ (Vp a b on).2.1
      · rw [if_pos d]; exact hp
      · rw [if_neg d]; exact ⟨Nat.le_refl _, Nat.sub_le _ _, Nat.zero_le _⟩
/-- the reference's table holds p at i -/
def Tb (σ : Sg) (i : Nat) (p : Nat × Nat × Nat) : Prop := gI σ 85 i = nI p.1 ∧ gI σ 86 i = nI p.2.1 ∧ gI σ 87 i = nI p.2.2
def rix (a b on : Nat) : Nat := (61 * a + b) * 2 + on
theorem rix_ok {a b on : Nat} : s_m_ropeAt (nI a) (nI b) (nI on) = some (nI (rix a b on)) := by
  rw [s_m_ropeAt, show (61 : Int32) * nI a = nI (61 * a) from (Int32.ofNat_mul 61 a).symm, nI_add, show nI (61 * a + b) * 2 = nI ((61 * a + b) * 2) from (Int32.ofNat_mul _ 2).symm, nI_add]; rfl
def cl (v : Int32) : Int32 := if 0 ≤ v then v else 0
theorem cut : ∀ n, n < 61 → ∀ d, d < 3 → ((nI n - nI d ≤ 0 ↔ n - d = 0) ∧ (0 < nI n - nI d ↔ ¬ n - d = 0)) ∧ (¬ n - d = 0 → nI n - nI d = nI (n - d)) ∧ cl (nI n - nI d) = nI (n - d) ∧ nI n - nI n / 2 = nI (n - n / 2) ∧ cl (nI n) = nI n := by decide +kernel
theorem layEnd {σ : Sg} {i : Nat} (hi : i < 7442) (v w : Int32) : s_m_layEnd σ (nI i) v w = some (pI (pI (pI σ 85 i (cl v)) 86 i (cl w)) 87 i 0) := by
  have h29 : ∀ τ u, j_m_layEnd_29 τ (nI i) u (nI i) = some (pI (pI τ 86 i u) 87 i 0) := fun τ u => by
    unfold j_m_layEnd_29
    simp only [lt]
    rw [if_pos (inB_nI hi (by omega)), nI_clamp (by omega), if_pos (inB_nI hi (by omega))]
  have h14 : ∀ τ u, j_m_layEnd_14 τ (nI i) w u (nI i) = some (pI (pI (pI τ 85 i u) 86 i (cl w)) 87 i 0) := fun τ u => by
    unfold j_m_layEnd_14 cl
    simp only [lt]
    rw [if_pos (inB_nI hi (by omega)), nI_clamp (by omega)]
    by_cases c : 0 ≤ w
    · rw [if_pos c, if_pos c]; exact h29 _ _
    · rw [if_neg c, if_neg c]; exact h29 _ _
  rw [s_m_layEnd]
  by_cases c : 0 ≤ v
  · rw [if_pos c, h14, show cl v = v from if_pos c]
  · rw [if_neg c, h14, show cl v = 0 from if_neg c]
theorem Tb_end {σ : Sg} {i x y : Nat} {v w : Int32} (hv : cl v = nI x) (hw : cl w = nI y) : Tb (pI (pI (pI σ 85 i (cl v)) 86 i (cl w)) 87 i 0) i (x, y, 0) :=
  ⟨by rw [gI_ne (by omega), gI_ne (by omega), gI_eq, hv], by rw [gI_ne (by omega), gI_eq, hw], by rw [gI_eq]; rfl⟩
theorem lay2 {σ : Sg} {a b on i : Nat} {p : Nat × Nat × Nat} (ha : a ≤ 60) (hb : b ≤ 60) (hi : i < 7442) (ho : on < 2) (p1 : p.1 ≤ 60) (p2 : p.2.1 ≤ 60) (hp : Tb σ i p) :
    ∃ τ, j_m_layRope_117 σ (nI a) (nI b) (nI on) (nI i) = some τ ∧ Tb τ i (if on = 0 then (if a - a / 2 ≤ p.1 then p else (a - a / 2, b, 0)) else (if b - b / 2 ≤ p.2.1 then p else (a, b - b / 2, 0))) ∧ (∀ c j, ¬ ((c = 85 ∨ c = 86 ∨ c = 87) ∧ j = i) → gI τ c j = gI σ c j) ∧ τ.2 = σ.2 := by
  have hq : ∀ v w, ∀ c j, ¬ ((c = 85 ∨ c = 86 ∨ c = 87) ∧ j = i) → gI (pI (pI (pI σ 85 i (cl v)) 86 i (cl w)) 87 i 0) c j = gI σ c j := fun v w c j h => by
    rw [gI_ne (by omega), gI_ne (by omega), gI_ne (by omega)]
  have : on = 0 ∨ on = 1 := by omega
  rcases this with rfl | rfl
  · rw [if_pos rfl]
    unfold j_m_layRope_117 j_m_layRope_134
    rw [if_pos zz0, if_pos zz0, if_pos (inB_nI hi (by omega)), nI_clamp (by omega), (cut a (by omega) 0 (by omega)).2.2.2.1, hp.1]
    unfold j_m_layRope_159
    by_cases c : a - a / 2 ≤ p.1
    · rw [if_pos (by rw [nI_leI (by omega) (by omega)]; exact c), if_pos c]
      exact ⟨σ, rfl, hp, fun _ _ _ => rfl, rfl⟩
    · rw [if_neg (by rw [nI_leI (by omega) (by omega)]; exact c), if_neg c, if_pos zz0]
      unfold j_m_layRope_175
      rw [if_pos zz0, layEnd hi]
      exact ⟨_, rfl, Tb_end (cut (a - a / 2) (by omega) 0 (by omega)).2.2.2.2 (cut b (by omega) 0 (by omega)).2.2.2.2, hq _ _, rfl⟩
  · rw [if_neg (by omega)]
    unfold j_m_layRope_117 j_m_layRope_134
    rw [if_neg (by decide), if_neg (by decide), if_pos (inB_nI hi (by omega)), nI_clamp (by omega), (cut b (by omega) 0 (by omega)).2.2.2.1, hp.2.1]
    unfold j_m_layRope_159
    by_cases c : b - b / 2 ≤ p.2.1
    · rw [if_pos (by rw [nI_leI (by omega) (by omega)]; exact c), if_pos c]
      exact ⟨σ, rfl, hp, fun _ _ _ => rfl, rfl⟩
    · rw [if_neg (by rw [nI_leI (by omega) (by omega)]; exact c), if_neg c, if_neg (by decide)]
      unfold j_m_layRope_175
      rw [if_neg (by decide), layEnd hi]
      exact ⟨_, rfl, Tb_end (cut a (by omega) 0 (by omega)).2.2.2.2 (cut (b - b / 2) (by omega) 0 (by omega)).2.2.2.2, hq _ _, rfl⟩
theorem lay1 {σ : Sg} {a b on : Nat} (a1 : 1 ≤ a) (ha : a ≤ 60) (hb : b ≤ 60) (ho : on < 2) (h : ¬ a - (1 + on) = 0 → ¬ b - (2 - on) = 0 → Tb σ (rix (a - (1 + on)) (b - (2 - on)) (1 - on)) (V (a - (1 + on)) (b - (2 - on)) (1 - on))) :
    ∃ τ, s_m_layRope σ (nI a) (nI b) (nI on) = some τ ∧ Tb τ (rix a b on) (V a b on) ∧ (∀ c j, ¬ ((c = 85 ∨ c = 86 ∨ c = 87) ∧ j = rix a b on) → gI τ c j = gI σ c j) ∧ τ.2 = σ.2 := by
  have hi : rix a b on < 7442 := by unfold rix; omega
  have e36 : s_m_layRope σ (nI a) (nI b) (nI on) = j_m_layRope_36 σ (nI a) (nI b) (nI on) (nI (rix a b on)) (nI a - nI (1 + on)) (nI b - nI (2 - on)) := by
    rw [s_m_layRope, rix_ok, Option.bind_some]
    have : on = 0 ∨ on = 1 := by omega
    rcases this with rfl | rfl
    · rw [if_pos zz0]; unfold j_m_layRope_21; rw [if_pos zz0]; rfl
    · rw [if_neg (by decide)]; unfold j_m_layRope_21; rw [if_neg (by decide)]; rfl
  have hV : (Vp a b on).1 ≤ 60 ∧ (Vp a b on).2.1 ≤ 60 := by
    unfold Vp
    by_cases c : a - (1 + on) = 0 ∨ b - (2 - on) = 0
    · rw [if_pos c]; exact ⟨by show _ - _ ≤ _; omega, by show _ - _ ≤ _; omega⟩
    · rw [if_neg c]
      obtain ⟨k1, k2, -⟩ := V_le 60 (a - (1 + on)) (b - (2 - on)) (1 - on) (by omega) (by omega)
      exact ⟨by show (V _ _ _).1 ≤ _; omega, by show (V _ _ _).2.1 ≤ _; omega⟩
  have hfin : ∀ ρ, Tb ρ (rix a b on) (Vp a b on) → (∀ c j, ¬ ((c = 85 ∨ c = 86 ∨ c = 87) ∧ j = rix a b on) → gI ρ c j = gI σ c j) → ρ.2 = σ.2 → ∃ τ, j_m_layRope_117 ρ (nI a) (nI b) (nI on) (nI (rix a b on)) = some τ ∧ Tb τ (rix a b on) (V a b on) ∧ (∀ c j, ¬ ((c = 85 ∨ c = 86 ∨ c = 87) ∧ j = rix a b on) → gI τ c j = gI σ c j) ∧ τ.2 = σ.2 := fun ρ h1 h2 h3 => by
    obtain ⟨τ, k1, k2, k3, k4⟩ := lay2 ha hb hi ho hV.1 hV.2 h1
    exact ⟨τ, k1, by rw [V_eq a1]; exact k2, fun c j q => (k3 c j q).trans (h2 c j q), k4.trans h3⟩
  obtain ⟨⟨c1, c2⟩, c3, c4, -, -⟩ := cut a (by omega) (1 + on) (by omega)
  obtain ⟨⟨d1, d2⟩, d3, d4, -, -⟩ := cut b (by omega) (2 - on) (by omega)
  have h48 : (a - (1 + on) = 0 ∨ b - (2 - on) = 0) → ∃ τ, j_m_layRope_48 σ (nI a) (nI b) (nI on) (nI (rix a b on)) (nI a - nI (1 + on)) (nI b - nI (2 - on)) = some τ ∧ Tb τ (rix a b on) (V a b on) ∧ (∀ c j, ¬ ((c = 85 ∨ c = 86 ∨ c = 87) ∧ j = rix a b on) → gI τ c j = gI σ c j) ∧ τ.2 = σ.2 := fun hc => by
    unfold j_m_layRope_48
    rw [layEnd hi, Option.bind_some]
    exact hfin _ (by rw [Vp, if_pos hc]; exact Tb_end c4 d4) (fun c j q => by rw [gI_ne (by omega), gI_ne (by omega), gI_ne (by omega)]) rfl
  rw [e36]
  unfold j_m_layRope_36
  by_cases hx : a - (1 + on) = 0
  · rw [if_pos (c1.mpr hx)]; exact h48 (Or.inl hx)
  rw [if_neg (fun q => hx (c1.mp q))]
  by_cases hy : b - (2 - on) = 0
  · rw [if_neg (fun q => d2.mp q hy)]; exact h48 (Or.inr hy)
  have hT := h hx hy
  have hi2 : rix (a - (1 + on)) (b - (2 - on)) (1 - on) < 7442 := by unfold rix; omega
  have hne : ¬ rix (a - (1 + on)) (b - (2 - on)) (1 - on) = rix a b on := by unfold rix; omega
  rw [if_pos (d2.mpr hy), c3 hx, d3 hy, show (1 : Int32) - nI on = nI (1 - on) from by
    have : on = 0 ∨ on = 1 := by omega
    rcases this with rfl | rfl <;> rfl, rix_ok, Option.bind_some, if_pos (inB_nI hi2 (by omega)), if_pos (inB_nI hi (by omega)), nI_clamp (by omega), nI_clamp (by omega), hT.1]
  obtain ⟨t1, t2, t3⟩ := hT
  show ∃ τ, (if inB (nI (rix (a - (1 + on)) (b - (2 - on)) (1 - on))) 7442 = true then (if inB (nI (rix a b on)) 7442 = true then (if inB (nI (rix (a - (1 + on)) (b - (2 - on)) (1 - on))) 7442 = true then (if inB (nI (rix a b on)) 7442 = true then j_m_layRope_117 (pI (pI (pI σ 85 (rix a b on) _) 86 (rix a b on) (gI (pI σ 85 (rix a b on) _) 86 (rix (a - (1 + on)) (b - (2 - on)) (1 - on)))) 87 (rix a b on) (gI (pI (pI σ 85 (rix a b on) _) 86 (rix a b on) (gI (pI σ 85 (rix a b on) _) 86 (rix (a - (1 + on)) (b - (2 - on)) (1 - on)))) 87 (rix (a - (1 + on)) (b - (2 - on)) (1 - on)) + 1)) _ _ _ _ else none) else none) else none) else none) = some τ ∧ _
  rw [if_pos (inB_nI hi2 (by omega)), if_pos (inB_nI hi (by omega)), if_pos (inB_nI hi2 (by omega)), if_pos (inB_nI hi (by omega)), gI_ne (by omega), t2, gI_ne (by omega), gI_ne (by omega), t3, nI_1]
  refine hfin _ ?_ (fun c j q => by rw [gI_ne (by omega), gI_ne (by omega), gI_ne (by omega)]) rfl
  rw [Vp, if_neg (by omega)]
  exact ⟨by rw [gI_ne (by omega), gI_ne (by omega), gI_eq], by rw [gI_ne (by omega), gI_eq], by rw [gI_eq]⟩
