/-- the tied threes of week w, on both sides the same and apart -/
theorem tied_eq {σ : Sg} {A : Nat → Nat} (hM : MS σ 72 0 A) (hX : XW σ 19 A) (hW : WW A) {w : Nat} (hw : w < A 108) : (∀ i, i < 3 → gI σ 27 (3 * w + i) = gI σ 72 (109 + (3 * w + i))) ∧ ∀ i j, i < 3 → j < 3 → i ≠ j → gI σ 72 (109 + (3 * w + i)) &&& gI σ 72 (109 + (3 * w + j)) = 0 := by
  have h6 := hW.1
  refine ⟨fun i hi => ?_, fun i j hi hj ne => ?_⟩
  · rw [M0 hM (by omega)]; exact hX.2 (3 * w + i) (by omega)
  · rw [M0 hM (by omega), M0 hM (by omega), nI_and, (hW.2 (3 * w + j) (by omega)).2 (3 * w + i) (by omega) (by omega) (by omega)]; rfl
theorem known_week {σ : Sg} {A : Nat → Nat} (hM : MS σ 72 0 A) (hX : XW σ 19 A) (hW : WW A) {w : Nat} (hw : w < A 108) (K : Int32) : s_Scene_toldInWeek σ (nI w) K = some (tm (tm (tm K (gI σ 72 (109 + 3 * w))) (gI σ 72 (109 + (3 * w + 1)))) (gI σ 72 (109 + (3 * w + 2)))) := by
  have h6 := hW.1
  obtain ⟨g, d⟩ := tied_eq hM hX hW hw
  have d01 := d 0 1 (by omega) (by omega) (by omega)
  have d02 := d 0 2 (by omega) (by omega) (by omega)
  have d12 := d 1 2 (by omega) (by omega) (by omega)
  rw [told_val (by omega), show gI σ 27 (3 * w) = _ from g 0 (by omega), g 1 (by omega), g 2 (by omega)]
  rw [week_eq d01 d02 d12]; rfl
theorem known_eq {σ : Sg} {A : Nat → Nat} (hM : MS σ 72 0 A) (hX : XW σ 19 A) (hW : WW A) {k : Nat} (hk : k ≤ A 108) : ∀ (d j : Nat) (K : Int32), j + d = k → ∀ F G, d < F → 3 * d < G → ∃ r, lp (b_x_knows_41 σ (nI k)) F (K, nI j) = some (r, nI k) ∧ lp (b_m_known_5 σ (nI k)) G (K, nI (3 * j)) = some (r, nI (3 * k)) := by
  have h6 := hW.1
  intro d
  induction d with
  | zero =>
    intro j K hj F G hF hG
    obtain ⟨F, rfl⟩ : ∃ f, F = f + 1 := ⟨F - 1, by omega⟩
    obtain ⟨G, rfl⟩ : ∃ f, G = f + 1 := ⟨G - 1, by omega⟩
    have : j = k := by omega
    subst this
    refine ⟨K, lp_end ?_, lp_end ?_⟩
    · unfold b_x_knows_41
      rw [if_pos (by rw [nI_leI (by omega) (by omega)]; omega)]
    · unfold b_m_known_5
      rw [show (3 : Int32) * nI j = nI (3 * j) from (Int32.ofNat_mul 3 j).symm, if_pos (by rw [nI_leI (by omega) (by omega)]; omega)]
  | succ d ih =>
    intro j K hj F G hF hG
    obtain ⟨F, rfl⟩ : ∃ f, F = f + 1 := ⟨F - 1, by omega⟩
    obtain ⟨G, rfl⟩ : ∃ f, G = f + 1 + 1 + 1 := ⟨G - 3, by omega⟩
    obtain ⟨r, a, b⟩ := ih (j + 1) (tm (tm (tm K (gI σ 72 (109 + 3 * j))) (gI σ 72 (109 + (3 * j + 1)))) (gI σ 72 (109 + (3 * j + 2)))) (by omega) F G (by omega) (by omega)
    refine ⟨r, ?_, ?_⟩
    · rw [lp_step (y := (tm (tm (tm K (gI σ 72 (109 + 3 * j))) (gI σ 72 (109 + (3 * j + 1)))) (gI σ 72 (109 + (3 * j + 2))), nI (j + 1)))]
      · exact a
      · unfold b_x_knows_41
        rw [if_neg (by rw [nI_leI (by omega) (by omega)]; omega)]
        show (s_Scene_toldInWeek σ (nI j) K).bind _ = _
        rw [known_week hM hX hW (by omega), Option.bind_some, nI_1]; rfl
    · rw [lp_step (known_step rfl (by omega) (by omega)), lp_step (known_step rfl (by omega) (by omega)), lp_step (known_step rfl (by omega) (by omega))]
      exact b
theorem al_knows {σ : Sg} (a b : Int32) (hR : R σ) : Alike R σ (fun τ => s_x_knows τ a b) (fun τ => s_m_knows τ a b) := by
  obtain ⟨A, hM, ⟨x1, x2, x3, x4⟩, w1, w2, w3, w4⟩ := hR.1
  obtain ⟨N, hN⟩ : ∃ N, N = A 1 := ⟨_, rfl⟩
  have e1 : gI σ 19 6 = nI N := by rw [hN]; exact x1.2.1
  have m1 : gI σ 72 1 = nI N := by rw [hN]; exact M0 hM (by omega)
  have n9 : N ≤ 9 := by rw [hN]; exact w1.2.2.1
  have eW : gI σ 25 6 = nI (A 108) := x3.1
  have mW : gI σ 72 108 = nI (A 108) := M0 hM (by omega)
  have h6 := w3.1
  by_cases ha : isG N a
  rotate_left
  · refine al_bad (-2) hR ?_ ?_
    · show s_x_knows σ a b = _
      rw [s_x_knows, x_isGroup a e1 n9, if_neg ha, Option.bind_some, if_pos rfl, bEta]
    · show s_m_knows _ a b = _
      rw [s_m_knows, m_isSet (N := N) a (by rw [gI_ne (by omega)]; exact m1) n9, if_neg ha, Option.bind_some, if_pos rfl, bEta]
  have hx : s_x_knows σ a b = if b < 0 then s_x_refusedBad σ (-2) else if b ≤ nI (A 108) then (lp (b_x_knows_41 σ b) 100000 (a, 0)).bind fun o10 => some (o10.1, σ) else s_x_refusedBad σ (-2) := by
    rw [s_x_knows, x_isGroup a e1 n9, if_pos ha, Option.bind_some, if_neg (by decide), bEta, eW]
  have hm : ∀ τ, gI τ 72 1 = nI N → gI τ 72 108 = nI (A 108) → s_m_knows τ a b = if 0 ≤ b.toInt ∧ b.toInt ≤ (A 108 : Int) then (s_m_known τ a b).bind fun q6 => some (q6, τ) else s_m_bad τ (-2) := fun τ h1 h2 => by
    rw [s_m_knows, m_isSet a h1 n9, if_pos ha, Option.bind_some, if_neg (by decide), show Int32.toNatClampNeg 108 = 108 from rfl, h2, m_in32 b (x := 0) (y := (A 108 : Int)) rfl (by rw [Int32.toInt_toInt64, nI_toInt (by omega)]), Option.bind_some]
    by_cases c : 0 ≤ b.toInt ∧ b.toInt ≤ (A 108 : Int)
    · rw [if_pos c, if_neg (by decide), if_pos c]
    · rw [if_neg c, if_pos rfl, if_neg c, bEta]
  by_cases hb : 0 ≤ b.toInt ∧ b.toInt ≤ (A 108 : Int)
  · obtain ⟨k, k1, k2, rfl⟩ := nat32 (a := b) (n := A 108) hb.1 hb.2
    obtain ⟨r, r1, r2⟩ := known_eq hM x3 w3 k1 k 0 a (by omega) 100000 100000 (by omega) (by omega)
    have r1' : lp (b_x_knows_41 σ (nI k)) 100000 (a, 0) = some (r, nI k) := r1
    have r2' : lp (b_m_known_5 σ (nI k)) 100000 (a, 0) = some (r, nI (3 * k)) := r2
    refine ⟨r, σ, σ, ?_, ?_, hR⟩
    · show s_x_knows σ a (nI k) = _
      rw [hx, if_neg (by rw [l32 rfl (show (0 : Int32).toInt = 0 from rfl)]; omega), if_pos (by rw [nI_leI (by omega) (by omega)]; exact k1), r1', Option.bind_some]
    · show s_m_knows σ a (nI k) = _
      rw [hm σ m1 mW, if_pos hb, s_m_known, r2', Option.bind_some, Option.bind_some]
  · refine al_bad (-2) hR ?_ ?_
    · show s_x_knows σ a b = _
      rw [hx]
      by_cases c : b < 0
      · rw [if_pos c]
      · rw [if_neg c, if_neg (by rw [l32 rfl (show (0 : Int32).toInt = 0 from rfl)] at c; rw [e32 rfl (nI_toInt (n := A 108) (by omega))]; omega)]
    · show s_m_knows _ a b = _
      rw [hm _ (by rw [gI_ne (by omega)]; exact m1) (by rw [gI_ne (by omega)]; exact mW), if_neg hb]
