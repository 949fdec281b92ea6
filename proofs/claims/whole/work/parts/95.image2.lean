theorem x_isImage (a : Int32) : s_x_isImage a = some (if 0 ≤ a.toInt ∧ a.toInt ≤ 1 then 1 else 0) := by
  rw [s_x_isImage]
  by_cases c : a < 0
  · rw [if_pos c, if_neg]; rw [l32 rfl (show (0 : Int32).toInt = 0 from rfl)] at c; omega
  · rw [if_neg c]; rw [l32 rfl (show (0 : Int32).toInt = 0 from rfl)] at c
    by_cases d : 2 ≤ a
    · rw [if_pos d, if_neg]; rw [e32 (show (2 : Int32).toInt = 2 from rfl) rfl] at d; omega
    · rw [if_neg d, if_pos]; rw [e32 (show (2 : Int32).toInt = 2 from rfl) rfl] at d; omega
theorem al_image {σ : Sg} (a : Int32) (hR : R σ) : Alike R σ (fun τ => s_x_image τ a) (fun τ => s_m_image τ a) := by
  by_cases ha : 0 ≤ a.toInt ∧ a.toInt ≤ 1
  rotate_left
  · exact al_bad (-2) hR (by show s_x_image σ a = _; rw [s_x_image, x_isImage, if_neg ha, Option.bind_some, if_pos rfl, bEta]) (by show s_m_image _ a = _; rw [s_m_image, m_in32 a (x := 0) (y := 1) rfl rfl, if_neg ha, Option.bind_some, if_pos rfl, bEta])
  obtain ⟨i, i1, -, rfl, -, -⟩ := b32 (n := 1) ha (by omega) (by omega)
  have hx : s_x_image σ (nI i) = some (1, pI (become σ 19 (47 + 12 * i)) 2 i 1) := by
    rw [s_x_image, x_isImage, if_pos ha, Option.bind_some, if_neg (by decide)]
    have : i = 0 ∨ i = 1 := by omega
    rcases this with rfl | rfl
    · rw [if_pos (by rfl), become_x0, Option.bind_some, if_pos (by decide)]; rfl
    · rw [if_neg (by decide), if_pos (by rfl), become_x1, Option.bind_some, if_pos (by decide)]; rfl
  have hm : ∀ ρ, s_m_image ρ (nI i) = some (1, pI (cpI ρ 72 0 73 (143 * i) 143) 74 i 1) := fun ρ => by
    rw [s_m_image, m_in32 (nI i) (x := 0) (y := 1) rfl rfl, if_pos ha, Option.bind_some, if_neg (by decide), m_image_lp (by omega), Option.bind_some, if_pos (inB_nI (by omega) (by omega)), nI_clamp (by omega)]; rfl
  refine ⟨1, _, _, hx, hm _, ?_⟩
  obtain ⟨⟨A, hM, hX, hW⟩, hI, hT, hF, hC, hK⟩ := hR
  generalize hτ : pI (cpI (pI (become σ 19 (47 + 12 * i)) 2 i 1) 72 0 73 (143 * i) 143) 74 i 1 = τ
  have hz : ∀ c j, ¬ (47 + 12 * i ≤ c ∧ c ≤ 58 + 12 * i ∨ c = 2 ∧ j = i ∨ c = 73 ∧ 143 * i ≤ j ∧ j < 143 * i + 143 ∨ c = 74 ∧ j = i) → gI τ c j = gI σ c j := fun c j hc => by
    rw [← hτ, gI_ne (by omega), gI_cpI, if_neg (by omega), gI_ne (by omega), become_ne (by omega)]
  have h2 : gI τ 2 i = 1 := by rw [← hτ, gI_ne (by omega), gI_cne (by omega), gI_eq]
  have h4 : gI τ 74 i = 1 := by rw [← hτ, gI_eq]
  have h3 : ∀ j, j < 143 → gI τ 73 (143 * i + j) = gI σ 72 j := fun j hj => by
    rw [← hτ, gI_ne (by omega), gI_cpI, if_pos (by omega), gI_ne (by omega), become_ne (by omega)]; congr 1; omega
  have hX2 : XS τ (47 + 12 * i) A := by
    have := XS_copy (become_Cp (σ := σ) (s := 19) (t := 47 + 12 * i) (by omega)) hW hX
    exact XS_cong (fun c u v j => by rw [← hτ, gI_ne (by omega), gI_cne (by omega), gI_ne (by omega)]) hW this
  refine ⟨⟨A, RA_cong (fun c hc j => hz c j (by omega)) ⟨hM, hX, hW⟩⟩, fun k hk => ?_, RT_cong (hz _ _ (by omega)) (hz _ _ (by omega)) (fun j => hz _ _ (by omega)) (fun j => hz _ _ (by omega)) hT, RF_cong (hz _ _ (by omega)) (hz _ _ (by omega)) (by rw [← hτ]; rfl) (by rw [← hτ]; rfl) hF, RC_cong (fun j _ => hz _ _ (by omega)) (fun j => hz _ _ (by omega)) hC, RK_cong (hz _ _ (by omega)) (funext fun j => hz _ _ (by omega)) (by rw [← hτ]; rfl) (by rw [← hτ]; rfl) (by rw [← hτ]; rfl) hK⟩
  by_cases c : k = i
  · subst c
    refine ⟨h2.trans h4.symm, Or.inr ⟨h2, A, fun j hj => ?_, hX2, hW⟩⟩
    rw [h3 j hj]; exact M0 hM hj
  · obtain ⟨q1, q2⟩ := hI k hk
    rw [hz 2 k (by omega), hz 74 k (by omega)]
    refine ⟨q1, q2.imp (fun q => q) (fun ⟨a, B, b, c, d⟩ => ⟨a, B, fun j hj => ?_, XS_cong (fun e u v j => hz e j (by omega)) d c, d⟩)⟩
    rw [hz 73 _ (by omega)]; exact b j hj
theorem al_from {σ : Sg} (a : Int32) (hR : R σ) : Alike R σ (fun τ => s_x_from τ a) (fun τ => s_m_from τ a) := by
  by_cases ha : 0 ≤ a.toInt ∧ a.toInt ≤ 1
  rotate_left
  · exact al_bad (-2) hR (by show s_x_from σ a = _; rw [s_x_from, x_isImage, if_neg ha, Option.bind_some, if_pos rfl, bEta]) (by show s_m_from _ a = _; rw [s_m_from, m_in32 a (x := 0) (y := 1) rfl rfl, if_neg ha, Option.bind_some, if_pos rfl, bEta])
  obtain ⟨i, i1, -, rfl, -, -⟩ := b32 (n := 1) ha (by omega) (by omega)
  obtain ⟨q1, q2⟩ := hR.2.1 i (by omega)
  rcases q2 with q2 | ⟨q2, B, b1, b2, b3⟩
  · refine al_no (-3) hR ?_ ?_
    · show s_x_from σ (nI i) = _
      rw [s_x_from, x_isImage, if_pos ha, Option.bind_some, if_neg (by decide), if_pos (inB_nI (by omega) (by omega)), nI_clamp (by omega), if_pos q2, bEta]
    · show s_m_from _ (nI i) = _
      rw [s_m_from, m_in32 (nI i) (x := 0) (y := 1) rfl rfl, if_pos ha, Option.bind_some, if_neg (by decide), if_pos (inB_nI (by omega) (by omega)), nI_clamp (by omega), gI_ne (by omega), ← q1, if_pos q2, bEta]
  have hx : s_x_from σ (nI i) = some (1, become σ (47 + 12 * i) 19) := by
    rw [s_x_from, x_isImage, if_pos ha, Option.bind_some, if_neg (by decide), if_pos (inB_nI (by omega) (by omega)), nI_clamp (by omega), if_neg (by rw [q2]; decide)]
    have : i = 0 ∨ i = 1 := by omega
    rcases this with rfl | rfl
    · rw [if_pos (by rfl), become_y0, Option.bind_some]
    · rw [if_neg (by decide), if_pos (by rfl), become_y1, Option.bind_some]
  have hm : ∀ ρ, gI ρ 74 i = gI σ 74 i → s_m_from ρ (nI i) = some (1, cpI ρ 73 (143 * i) 72 0 143) := fun ρ hρ => by
    rw [s_m_from, m_in32 (nI i) (x := 0) (y := 1) rfl rfl, if_pos ha, Option.bind_some, if_neg (by decide), if_pos (inB_nI (by omega) (by omega)), nI_clamp (by omega), if_neg (by rw [hρ, ← q1, q2]; decide), m_from_lp (by omega), Option.bind_some]
  refine ⟨1, _, _, hx, hm _ (become_ne (by omega)), ?_⟩
  generalize hτ : cpI (become σ (47 + 12 * i) 19) 73 (143 * i) 72 0 143 = τ
  have hz : ∀ c j, ¬ (19 ≤ c ∧ c ≤ 30 ∨ c = 72) → gI τ c j = gI σ c j := fun c j hc => by
    rw [← hτ, gI_cne (by omega), become_ne (by omega)]
  have hX2 : XS τ 19 B := by
    have := XS_copy (become_Cp (σ := σ) (s := 47 + 12 * i) (t := 19) (by omega)) b3 b2
    exact XS_cong (fun c u v j => by rw [← hτ, gI_cne (by omega)]) b3 this
  refine R_scene hR (A := B) ⟨fun j hj => ?_, hX2, b3⟩ hz (by rw [← hτ]; rfl) (by rw [← hτ]; rfl)
  rw [← hτ, gI_cpI, if_pos (by omega), become_ne (by omega), Nat.zero_add, Nat.sub_zero]
  exact b1 j hj
