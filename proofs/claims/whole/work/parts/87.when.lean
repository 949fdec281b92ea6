/-- who knows behind so many weeks -/
def kn (σ : Sg) (a : Int32) : Nat → Int32
  | 0 => a
  | j + 1 => tm (tm (tm (kn σ a j) (gI σ 72 (109 + 3 * j))) (gI σ 72 (109 + (3 * j + 1)))) (gI σ 72 (109 + (3 * j + 2)))
theorem known_kn {σ : Sg} {a : Int32} {k : Nat} (hk : k ≤ 6) : ∀ (d j : Nat), j + d = k → ∀ G, 3 * d < G → lp (b_m_known_5 σ (nI k)) G (kn σ a j, nI (3 * j)) = some (kn σ a k, nI (3 * k)) := by
  intro d
  induction d with
  | zero =>
    intro j hj G hG
    obtain ⟨G, rfl⟩ : ∃ f, G = f + 1 := ⟨G - 1, by omega⟩
    have : j = k := by omega
    subst this
    refine lp_end ?_
    unfold b_m_known_5
    rw [show (3 : Int32) * nI j = nI (3 * j) from (Int32.ofNat_mul 3 j).symm, if_pos (by rw [nI_leI (by omega) (by omega)]; omega)]
  | succ d ih =>
    intro j hj G hG
    obtain ⟨G, rfl⟩ : ∃ f, G = f + 1 + 1 + 1 := ⟨G - 3, by omega⟩
    rw [lp_step (known_step rfl (by omega) (by omega)), lp_step (known_step rfl (by omega) (by omega)), lp_step (known_step rfl (by omega) (by omega))]
    exact ih (j + 1) (by omega) G (by omega)
theorem m_known {σ : Sg} {a : Int32} {k : Nat} (hk : k ≤ 6) : s_m_known σ a (nI k) = some (kn σ a k) := by
  have h : lp (b_m_known_5 σ (nI k)) 100000 (a, 0) = some (kn σ a k, nI (3 * k)) := known_kn (a := a) hk k 0 (by omega) 100000 (by omega)
  rw [s_m_known, h, Option.bind_some]
def inP (m p : Int32) : Prop := ((m >>> (p &&& 31)) &&& 1) = 1
theorem x_isIn (m p : Int32) : s_x_isIn m p = some (@ite _ (inP m p) (Classical.propDecidable _) 1 0) := by
  rw [s_x_isIn]
  by_cases c : inP m p
  · rw [if_pos c]; exact if_pos c
  · rw [if_neg c]; exact if_neg c
theorem when_eq {σ : Sg} {A : Nat → Nat} (hM : MS σ 72 0 A) (hX : XW σ 19 A) (hW : WW A) (a p : Int32) : ∀ (d j : Nat), j + d = A 108 → ∀ F G, d < F → d + 1 < G → ∃ r, ((lp (b_x_when_40 σ p) F (kn σ a j, nI j)).bind fun o11 => oElim o11 (fun y12 => (s_x_isIn y12.1 p).bind fun q14 => if q14 = 0 then some ((-1), σ) else some ((gI σ 25 6), σ)) (fun q13 => some q13)) = some (r, σ) ∧ ((lp (b_m_when_25 σ a p) G (nI j)).bind fun o10 => oElim o10 (fun _ => some ((-1), σ)) (fun q12 => some q12)) = some (r, σ) := by
  have h6 := hW.1
  have eW : gI σ 25 6 = nI (A 108) := hX.1
  have mW : gI σ 72 108 = nI (A 108) := M0 hM (by omega)
  have mstep : ∀ j, j ≤ A 108 → b_m_when_25 σ a p (nI j) = @ite _ (inP (kn σ a j) p) (Classical.propDecidable _) (some (.inr (.inr (nI j, σ)))) (some (.inl (nI (j + 1)))) := fun j hj => by
    unfold b_m_when_25
    rw [show Int32.toNatClampNeg 108 = 108 from rfl, mW, if_neg (by rw [nI_ltI (by omega) (by omega)]; omega), m_known (by omega), Option.bind_some]
    by_cases c : inP (kn σ a j) p
    · rw [if_pos c]; exact if_pos c
    · rw [if_neg c]; refine (if_neg c).trans ?_
      show some (Sum.inl (nI j + 1)) = _
      rw [nI_1]
  intro d
  induction d with
  | zero =>
    intro j hj F G hF hG
    obtain ⟨F, rfl⟩ : ∃ f, F = f + 1 := ⟨F - 1, by omega⟩
    obtain ⟨G, rfl⟩ : ∃ f, G = f + 1 + 1 := ⟨G - 2, by omega⟩
    have : j = A 108 := by omega
    have hx : b_x_when_40 σ p (kn σ a j, nI j) = some (.inr (.inl (kn σ a j, nI j))) := by
      unfold b_x_when_40
      rw [eW, if_pos (by rw [nI_leI (by omega) (by omega)]; omega)]
    rw [lp_end hx, Option.bind_some]
    show ∃ r, ((s_x_isIn (kn σ a j) p).bind _) = _ ∧ _
    rw [x_isIn, Option.bind_some]
    by_cases c : inP (kn σ a j) p
    · rw [lp_end (z := .inr (nI j, σ)) (by rw [mstep j (by omega), if_pos c])]
      exact ⟨nI j, by rw [if_pos c, if_neg (by decide), eW, this], rfl⟩
    · rw [lp_step (y := nI (j + 1)) (by rw [mstep j (by omega), if_neg c]), lp_end (z := .inl (nI (j + 1))) (by unfold b_m_when_25; rw [show Int32.toNatClampNeg 108 = 108 from rfl, mW, if_pos (by rw [nI_ltI (by omega) (by omega)]; omega)])]
      exact ⟨-1, by rw [if_neg c, if_pos rfl], rfl⟩
  | succ d ih =>
    intro j hj F G hF hG
    obtain ⟨F, rfl⟩ : ∃ f, F = f + 1 := ⟨F - 1, by omega⟩
    obtain ⟨G, rfl⟩ : ∃ f, G = f + 1 := ⟨G - 1, by omega⟩
    by_cases c : inP (kn σ a j) p
    · have hx : b_x_when_40 σ p (kn σ a j, nI j) = some (.inr (.inr (nI j, σ))) := by
        unfold b_x_when_40
        rw [eW, if_neg (by rw [nI_leI (by omega) (by omega)]; omega)]
        show (s_x_isIn (kn σ a j) p).bind _ = _
        rw [x_isIn, Option.bind_some, if_pos c, if_neg (by decide)]
      rw [lp_end hx, lp_end (z := .inr (nI j, σ)) (by rw [mstep j (by omega), if_pos c])]
      exact ⟨nI j, rfl, rfl⟩
    · have hx : b_x_when_40 σ p (kn σ a j, nI j) = some (.inl (kn σ a (j + 1), nI (j + 1))) := by
        unfold b_x_when_40
        rw [eW, if_neg (by rw [nI_leI (by omega) (by omega)]; omega)]
        show (s_x_isIn (kn σ a j) p).bind _ = _
        rw [x_isIn, Option.bind_some, if_neg c, if_pos rfl]
        show (s_Scene_toldInWeek σ (nI j) (kn σ a j)).bind _ = _
        rw [known_week hM hX hW (by omega), Option.bind_some, nI_1]; rfl
      rw [lp_step hx, lp_step (y := nI (j + 1)) (by rw [mstep j (by omega), if_neg c])]
      exact ih (j + 1) (by omega) F G (by omega) (by omega)
theorem al_when {σ : Sg} (a b : Int32) (hR : R σ) : Alike R σ (fun τ => s_x_when τ a b) (fun τ => s_m_when τ a b) := by
  obtain ⟨A, hM, ⟨x1, x2, x3, x4⟩, w1, w2, w3, w4⟩ := hR.1
  obtain ⟨N, hN⟩ : ∃ N, N = A 1 := ⟨_, rfl⟩
  have e1 : gI σ 19 6 = nI N := by rw [hN]; exact x1.2.1
  have m1 : gI σ 72 1 = nI N := by rw [hN]; exact M0 hM (by omega)
  have n9 : N ≤ 9 := by rw [hN]; exact w1.2.2.1
  have h6 := w3.1
  by_cases ha : isG N a
  rotate_left
  · refine al_bad (-2) hR ?_ ?_
    · show s_x_when σ a b = _
      rw [s_x_when, x_isGroup a e1 n9, if_neg ha, Option.bind_some, if_pos rfl, bEta]
    · show s_m_when _ a b = _
      rw [s_m_when, m_isSet (N := N) a (by rw [gI_ne (by omega)]; exact m1) n9, if_neg ha, Option.bind_some, if_pos rfl, bEta]
  by_cases hb : 0 ≤ b.toInt ∧ b.toInt ≤ (N : Int) - 1
  rotate_left
  · refine al_bad (-2) hR ?_ ?_
    · show s_x_when σ a b = _
      rw [s_x_when, x_isGroup a e1 n9, if_pos ha, Option.bind_some, if_neg (by decide), x_hasPerson b e1 (by omega), if_neg hb, Option.bind_some, if_pos rfl, bEta]
    · show s_m_when _ a b = _
      rw [s_m_when, m_isSet (N := N) a (by rw [gI_ne (by omega)]; exact m1) n9, if_pos ha, Option.bind_some, if_neg (by decide), m_isOne (n := N) b (by rw [gI_ne (by omega)]; exact m1) (by omega), if_neg hb, Option.bind_some, if_pos rfl, bEta]
  obtain ⟨r, r1, r2⟩ := when_eq hM x3 w3 a b (A 108) 0 (by omega) 100000 100000 (by omega) (by omega)
  refine ⟨r, σ, σ, ?_, ?_, hR⟩
  · show s_x_when σ a b = _
    rw [s_x_when, x_isGroup a e1 n9, if_pos ha, Option.bind_some, if_neg (by decide), x_hasPerson b e1 (by omega), if_pos hb, Option.bind_some, if_neg (by decide)]
    exact r1
  · show s_m_when σ a b = _
    rw [s_m_when, m_isSet a m1 n9, if_pos ha, Option.bind_some, if_neg (by decide), m_isOne b m1 (by omega), if_pos hb, Option.bind_some, if_neg (by decide)]
    exact r2
