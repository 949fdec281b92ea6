theorem fair_end {σ : Sg} {s : Int32} {me : Nat} : b_m_fair_28 σ (nI me) (s, nI 8) = some (.inr (s, nI 8)) := rfl
theorem fair_lp {σ : Sg} {me : Nat} (hm : me = 1 ∨ me = 2 ∨ me = 4) {t : Nat → Int32} (ht : ∀ k, k < 8 → (if k &&& me = 0 then (s_m_gainOf σ (nI (k ||| me))).bind fun q10 => (s_m_gainOf σ (nI k)).bind fun q11 => some ((if k = 1 ∨ k = 2 ∨ k = 4 then 1 else 2) * (q10 - q11)) else some 0) = some (t k)) :
    lp (b_m_fair_28 σ (nI me)) 100000 (0, 0) = some (0 + t 0 + t 1 + t 2 + t 3 + t 4 + t 5 + t 6 + t 7, nI 8) := by
  have hs : ∀ k s, k < 8 → b_m_fair_28 σ (nI me) (s, nI k) = some (.inl (s + t k, nI (k + 1))) := fun k s hk => by
    have := ht k hk
    rw [fair_step hk hm]
    by_cases c : k &&& me = 0
    · rw [if_pos c] at this; rw [if_pos c]
      generalize s_m_gainOf σ (nI (k ||| me)) = x at this ⊢
      generalize s_m_gainOf σ (nI k) = y at this ⊢
      cases x with
      | none => cases this
      | some x =>
        cases y with
        | none => cases this
        | some y => rw [Option.bind_some, Option.bind_some] at this ⊢; rw [← Option.some.inj this]
    · rw [if_neg c] at this; rw [if_neg c, ← Option.some.inj this]
  have := lp_run (b := b_m_fair_28 σ (nI me)) (fun k => ((fun k => match k with | 0 => 0 | 1 => 0 + t 0 | 2 => 0 + t 0 + t 1 | 3 => 0 + t 0 + t 1 + t 2 | 4 => 0 + t 0 + t 1 + t 2 + t 3 | 5 => 0 + t 0 + t 1 + t 2 + t 3 + t 4 | 6 => 0 + t 0 + t 1 + t 2 + t 3 + t 4 + t 5 | 7 => 0 + t 0 + t 1 + t 2 + t 3 + t 4 + t 5 + t 6 | _ => 0 + t 0 + t 1 + t 2 + t 3 + t 4 + t 5 + t 6 + t 7) k, nI k)) 8 100000 (by omega) (fun k hk => by
      have h8 : k = 0 ∨ k = 1 ∨ k = 2 ∨ k = 3 ∨ k = 4 ∨ k = 5 ∨ k = 6 ∨ k = 7 := by omega
      rcases h8 with rfl | rfl | rfl | rfl | rfl | rfl | rfl | rfl <;> exact hs _ _ (by omega)) fair_end
  exact this
theorem gOf {σ : Sg} {G : Nat → Nat} (h : ∀ j, 1 ≤ j → j ≤ 7 → gI σ 72 (100 + j) = nI (G j)) {k : Nat} (h1 : 1 ≤ k) (h7 : k ≤ 7) : s_m_gainOf σ (nI k) = some (Int32.ofInt (G k)) := by
  rw [m_gainOf h1 h7, h k h1 h7, oi]
theorem gO0 {σ : Sg} : s_m_gainOf σ (nI 0) = some 0 := rfl
theorem fair_x {σ : Sg} {G : Nat → Nat} (h : ∀ j, 1 ≤ j → j ≤ 7 → gI σ 26 j = nI (G j)) {me l r : Nat} (c : me = 1 ∧ l = 2 ∧ r = 4 ∨ me = 2 ∧ l = 1 ∧ r = 4 ∨ me = 4 ∧ l = 1 ∧ r = 2) :
    j_x_fair_37 σ (nI me) (nI l) = (s_x_keepSixths σ (Int32.ofInt (2 * (G me : Int) + (G (me + l) - G l + G (me + r) - G r) + 2 * (G 7 - G (l + r))))).bind fun q16 => some (1, q16) := by
  have e : (Int32.ofInt (2 * (G me : Int) + (G (me + l) - G l + G (me + r) - G r) + 2 * (G 7 - G (l + r)))) = 2 * gI σ 26 me + (gI σ 26 (me + l) - gI σ 26 l + gI σ 26 (me + r) - gI σ 26 r) + 2 * (gI σ 26 7 - gI σ 26 (l + r)) := by
    rw [h me (by omega) (by omega), h (me + l) (by omega) (by omega), h l (by omega) (by omega), h (me + r) (by omega) (by omega), h r (by omega) (by omega), h 7 (by omega) (by omega), h (l + r) (by omega) (by omega)]
    simp only [oi, Int32.ofInt_add, Int32.ofInt_sub, Int32.ofInt_mul]
    rfl
  rw [e]
  rcases c with ⟨rfl, rfl, rfl⟩ | ⟨rfl, rfl, rfl⟩ | ⟨rfl, rfl, rfl⟩ <;> rfl
theorem fair_m {σ : Sg} {G : Nat → Nat} (h : ∀ j, 1 ≤ j → j ≤ 7 → gI σ 72 (100 + j) = nI (G j)) {me l r : Nat} (c : me = 1 ∧ l = 2 ∧ r = 4 ∨ me = 2 ∧ l = 1 ∧ r = 4 ∨ me = 4 ∧ l = 1 ∧ r = 2) :
    lp (b_m_fair_28 σ (nI me)) 100000 (0, 0) = some (Int32.ofInt (2 * (G me : Int) + (G (me + l) - G l + G (me + r) - G r) + 2 * (G 7 - G (l + r))), nI 8) := by
  have g := fun {k : Nat} => gOf h (k := k)
  rcases c with ⟨rfl, rfl, rfl⟩ | ⟨rfl, rfl, rfl⟩ | ⟨rfl, rfl, rfl⟩
  · rw [fair_lp (by omega) (t := fun k => match k with | 0 => 2 * (Int32.ofInt (G 1) - 0) | 2 => 1 * (Int32.ofInt (G 3) - Int32.ofInt (G 2)) | 4 => 1 * (Int32.ofInt (G 5) - Int32.ofInt (G 4)) | 6 => 2 * (Int32.ofInt (G 7) - Int32.ofInt (G 6)) | _ => 0) (fun k hk => by
      have h8 : k = 0 ∨ k = 1 ∨ k = 2 ∨ k = 3 ∨ k = 4 ∨ k = 5 ∨ k = 6 ∨ k = 7 := by omega
      rcases h8 with rfl | rfl | rfl | rfl | rfl | rfl | rfl | rfl
      · rw [if_pos (by decide), show (0 ||| 1 : Nat) = 1 from rfl, g (by omega) (by omega), gO0]; rfl
      · rfl
      · rw [if_pos (by decide), show (2 ||| 1 : Nat) = 3 from rfl, g (by omega) (by omega), g (by omega) (by omega)]; rfl
      · rfl
      · rw [if_pos (by decide), show (4 ||| 1 : Nat) = 5 from rfl, g (by omega) (by omega), g (by omega) (by omega)]; rfl
      · rfl
      · rw [if_pos (by decide), show (6 ||| 1 : Nat) = 7 from rfl, g (by omega) (by omega), g (by omega) (by omega)]; rfl
      · rfl)]
    show some ((0 : Int32) + 2 * (Int32.ofInt (G 1) - 0) + 0 + 1 * (Int32.ofInt (G 3) - Int32.ofInt (G 2)) + 0 + 1 * (Int32.ofInt (G 5) - Int32.ofInt (G 4)) + 0 + 2 * (Int32.ofInt (G 7) - Int32.ofInt (G 6)) + 0, nI 8) = _
    have : ∀ z : Int32, z = Int32.ofInt (0 + 2 * ((G 1 : Int) - 0) + 0 + 1 * ((G 3 : Int) - G 2) + 0 + 1 * ((G 5 : Int) - G 4) + 0 + 2 * ((G 7 : Int) - G 6) + 0) → some (z, nI 8) = some (Int32.ofInt (2 * (G 1 : Int) + (G (1 + 2) - G 2 + G (1 + 4) - G 4) + 2 * (G 7 - G (2 + 4))), nI 8) := fun z hz => by
      rw [hz]; congr 3; show _ = 2 * (G 1 : Int) + (G 3 - G 2 + G 5 - G 4) + 2 * (G 7 - G 6); omega
    exact this _ (by simp only [Int32.ofInt_add, Int32.ofInt_sub, Int32.ofInt_mul]; rfl)
  · rw [fair_lp (by omega) (t := fun k => match k with | 0 => 2 * (Int32.ofInt (G 2) - 0) | 1 => 1 * (Int32.ofInt (G 3) - Int32.ofInt (G 1)) | 4 => 1 * (Int32.ofInt (G 6) - Int32.ofInt (G 4)) | 5 => 2 * (Int32.ofInt (G 7) - Int32.ofInt (G 5)) | _ => 0) (fun k hk => by
      have h8 : k = 0 ∨ k = 1 ∨ k = 2 ∨ k = 3 ∨ k = 4 ∨ k = 5 ∨ k = 6 ∨ k = 7 := by omega
      rcases h8 with rfl | rfl | rfl | rfl | rfl | rfl | rfl | rfl
      · rw [if_pos (by decide), show (0 ||| 2 : Nat) = 2 from rfl, g (by omega) (by omega), gO0]; rfl
      · rw [if_pos (by decide), show (1 ||| 2 : Nat) = 3 from rfl, g (by omega) (by omega), g (by omega) (by omega)]; rfl
      · rfl
      · rfl
      · rw [if_pos (by decide), show (4 ||| 2 : Nat) = 6 from rfl, g (by omega) (by omega), g (by omega) (by omega)]; rfl
      · rw [if_pos (by decide), show (5 ||| 2 : Nat) = 7 from rfl, g (by omega) (by omega), g (by omega) (by omega)]; rfl
      · rfl
      · rfl)]
    show some ((0 : Int32) + 2 * (Int32.ofInt (G 2) - 0) + 1 * (Int32.ofInt (G 3) - Int32.ofInt (G 1)) + 0 + 0 + 1 * (Int32.ofInt (G 6) - Int32.ofInt (G 4)) + 2 * (Int32.ofInt (G 7) - Int32.ofInt (G 5)) + 0 + 0, nI 8) = _
    have : ∀ z : Int32, z = Int32.ofInt (0 + 2 * ((G 2 : Int) - 0) + 1 * ((G 3 : Int) - G 1) + 0 + 0 + 1 * ((G 6 : Int) - G 4) + 2 * ((G 7 : Int) - G 5) + 0 + 0) → some (z, nI 8) = some (Int32.ofInt (2 * (G 2 : Int) + (G (2 + 1) - G 1 + G (2 + 4) - G 4) + 2 * (G 7 - G (1 + 4))), nI 8) := fun z hz => by
      rw [hz]; congr 3; show _ = 2 * (G 2 : Int) + (G 3 - G 1 + G 6 - G 4) + 2 * (G 7 - G 5); omega
    exact this _ (by simp only [Int32.ofInt_add, Int32.ofInt_sub, Int32.ofInt_mul]; rfl)
  · rw [fair_lp (by omega) (t := fun k => match k with | 0 => 2 * (Int32.ofInt (G 4) - 0) | 1 => 1 * (Int32.ofInt (G 5) - Int32.ofInt (G 1)) | 2 => 1 * (Int32.ofInt (G 6) - Int32.ofInt (G 2)) | 3 => 2 * (Int32.ofInt (G 7) - Int32.ofInt (G 3)) | _ => 0) (fun k hk => by
      have h8 : k = 0 ∨ k = 1 ∨ k = 2 ∨ k = 3 ∨ k = 4 ∨ k = 5 ∨ k = 6 ∨ k = 7 := by omega
      rcases h8 with rfl | rfl | rfl | rfl | rfl | rfl | rfl | rfl
      · rw [if_pos (by decide), show (0 ||| 4 : Nat) = 4 from rfl, g (by omega) (by omega), gO0]; rfl
      · rw [if_pos (by decide), show (1 ||| 4 : Nat) = 5 from rfl, g (by omega) (by omega), g (by omega) (by omega)]; rfl
      · rw [if_pos (by decide), show (2 ||| 4 : Nat) = 6 from rfl, g (by omega) (by omega), g (by omega) (by omega)]; rfl
      · rw [if_pos (by decide), show (3 ||| 4 : Nat) = 7 from rfl, g (by omega) (by omega), g (by omega) (by omega)]; rfl
      · rfl
      · rfl
      · rfl
      · rfl)]
    show some ((0 : Int32) + 2 * (Int32.ofInt (G 4) - 0) + 1 * (Int32.ofInt (G 5) - Int32.ofInt (G 1)) + 1 * (Int32.ofInt (G 6) - Int32.ofInt (G 2)) + 2 * (Int32.ofInt (G 7) - Int32.ofInt (G 3)) + 0 + 0 + 0 + 0, nI 8) = _
    have : ∀ z : Int32, z = Int32.ofInt (0 + 2 * ((G 4 : Int) - 0) + 1 * ((G 5 : Int) - G 1) + 1 * ((G 6 : Int) - G 2) + 2 * ((G 7 : Int) - G 3) + 0 + 0 + 0 + 0) → some (z, nI 8) = some (Int32.ofInt (2 * (G 4 : Int) + (G (4 + 1) - G 1 + G (4 + 2) - G 2) + 2 * (G 7 - G (1 + 2))), nI 8) := fun z hz => by
      rw [hz]; congr 3; show _ = 2 * (G 4 : Int) + (G 5 - G 1 + G 6 - G 2) + 2 * (G 7 - G 3); omega
    exact this _ (by simp only [Int32.ofInt_add, Int32.ofInt_sub, Int32.ofInt_mul]; rfl)
theorem fair_c1 {σ : Sg} {k : Nat} (hk : k ≤ 2) : s_x_fair σ (nI k) = if nI k = 0 then j_x_fair_37 σ (nI (2 ^ k)) 2 else j_x_fair_37 σ (nI (2 ^ k)) 1 := by
  rw [s_x_fair, if_neg (by show ¬ nI k < nI 0; rw [nI_ltI (by omega) (by omega)]; omega), if_pos (by show nI k < nI 3; rw [nI_ltI (by omega) (by omega)]; omega), shl_ok k (by omega)]
  rfl
theorem fair_c {σ : Sg} {k : Nat} (hk : k ≤ 2) : ∃ me l r, me = 2 ^ k ∧ (me = 1 ∧ l = 2 ∧ r = 4 ∨ me = 2 ∧ l = 1 ∧ r = 4 ∨ me = 4 ∧ l = 1 ∧ r = 2) ∧ s_x_fair σ (nI k) = j_x_fair_37 σ (nI me) (nI l) := by
  rw [fair_c1 hk]
  by_cases c : k = 0
  · subst c
    rw [if_pos (show nI 0 = 0 from rfl)]
    exact ⟨1, 2, 4, rfl, by omega, rfl⟩
  · rw [if_neg (by show ¬ nI k = nI 0; rw [nI_eq (by omega) (by omega)]; exact c)]
    by_cases d : k = 1
    · subst d; exact ⟨2, 1, 4, rfl, by omega, rfl⟩
    · have : k = 2 := by omega
      subst this; exact ⟨4, 1, 2, rfl, by omega, rfl⟩
theorem fair_mm {σ : Sg} {k me l r : Nat} {G : Nat → Nat} (hk : k ≤ 2) (ha : 0 ≤ (nI k).toInt ∧ (nI k).toInt ≤ 2) (e : me = 2 ^ k) (h : ∀ j, 1 ≤ j → j ≤ 7 → gI σ 72 (100 + j) = nI (G j)) (c : me = 1 ∧ l = 2 ∧ r = 4 ∨ me = 2 ∧ l = 1 ∧ r = 4 ∨ me = 4 ∧ l = 1 ∧ r = 2) {z : Int} (hz : z = 2 * (G me : Int) + (G (me + l) - G l + G (me + r) - G r) + 2 * (G 7 - G (l + r))) :
    s_m_fair σ (nI k) = (s_m_tell σ (Int32.toInt64 (Int32.ofInt z)) 6).bind fun q15 => some (q15.1, q15.2) := by
  rw [s_m_fair, m_in32 (nI k) (x := 0) (y := 2) rfl rfl, if_pos ha, Option.bind_some, if_neg (by decide), shl_ok k (by omega), ← e]
  show ((lp (b_m_fair_28 σ (nI me)) 100000 (0, 0)).bind _) = _
  rw [fair_m h c, Option.bind_some, ← hz]
theorem al_fair {σ : Sg} (a : Int32) (hR : R σ) : Alike R σ (fun τ => s_x_fair τ a) (fun τ => s_m_fair τ a) := by
  by_cases ha : 0 ≤ a.toInt ∧ a.toInt ≤ 2
  rotate_left
  · refine al_bad (-2) hR ?_ ?_
    · show s_x_fair σ a = _
      rw [s_x_fair]
      by_cases c : a < 0
      · rw [if_pos c, bEta]
      · rw [if_neg c, if_neg (by rw [l32 rfl (show (0 : Int32).toInt = 0 from rfl)] at c; rw [l32 rfl (show (3 : Int32).toInt = 3 from rfl)]; omega), bEta]
    · show s_m_fair _ a = _
      rw [s_m_fair, m_in32 a (x := 0) (y := 2) rfl rfl, if_neg ha, Option.bind_some, if_pos rfl, bEta]
  obtain ⟨k, k1, -, rfl, -, -⟩ := b32 (n := 2) ha (by omega) (by omega)
  obtain ⟨⟨A, hM, ⟨x1, x2, x3, x4⟩, w1, w2, w3, w4⟩, hI, hT, hF, hC, hK⟩ := id hR
  have g26 : ∀ j, 1 ≤ j → j ≤ 7 → gI σ 26 j = nI (A (100 + j)) := fun j a b => x2 j a b
  obtain ⟨me, l, r, e, c, hx⟩ := fair_c (σ := σ) k1
  rw [fair_x (G := fun j => A (100 + j)) g26 c] at hx
  have b := fun {j : Nat} => w2 j
  obtain ⟨z, hz⟩ : ∃ z : Int, z = 2 * (A (100 + me) : Int) + (A (100 + (me + l)) - A (100 + l) + A (100 + (me + r)) - A (100 + r)) + 2 * (A (100 + 7) - A (100 + (l + r))) := ⟨_, rfl⟩
  have hm : ∀ ρ, (∀ j, gI ρ 72 j = gI σ 72 j) → s_m_fair ρ (nI k) = (s_m_tell ρ (Int32.toInt64 (Int32.ofInt z)) 6).bind fun q15 => some (q15.1, q15.2) := fun ρ hρ =>
    fair_mm (G := fun j => A (100 + j)) k1 ha e (fun j p q => by rw [hρ]; exact M0 hM (by omega)) c hz
  have hb : -600 ≤ z ∧ z < 600 := by
    have b1 := w2 me (by omega) (by omega)
    have b2 := w2 (me + l) (by omega) (by omega)
    have b3 := w2 l (by omega) (by omega)
    have b4 := w2 (me + r) (by omega) (by omega)
    have b5 := w2 r (by omega) (by omega)
    have b6 := w2 7 (by omega) (by omega)
    have b7 := w2 (l + r) (by omega) (by omega)
    omega
  have ht := kx_tx (z + 600).toNat (by omega)
  rw [show (((z + 600).toNat : Nat) : Int) - 600 = z from by omega] at ht
  obtain ⟨τ, t1, t2, t3, t4⟩ := keep6 (σ := σ) (Int32.ofInt z)
  rw [← hz, t1, Option.bind_some] at hx
  have hm2 := hm τ (fun j => t3 _ _ (by omega))
  rw [m_tell ht, Option.bind_some] at hm2
  refine ⟨1, _, _, hx, hm2, ?_⟩
  have gL4 : gL τ = gL σ := by show τ.2.1 = σ.2.1; rw [t4]
  have gR4 : gR τ = gR σ := by show τ.2.2 = σ.2.2; rw [t4]
  generalize hκ : pL (pL τ 71 4 (kx (Int32.ofInt z)).1.toInt64) 71 5 (kx (Int32.ofInt z)).2.toInt64 = κ
  have hz' : ∀ c j, ¬ (c = 0 ∧ (j = 10 ∨ j = 11)) → gI κ c j = gI σ c j := fun c j h => by
    rw [← hκ, gI_pL, gI_pL, t3 c j h]
  have q1 : gI τ 0 10 = (kx (Int32.ofInt z)).1 := congrArg Prod.fst t2
  have q2 : gI τ 0 11 = (kx (Int32.ofInt z)).2 := congrArg Prod.snd t2
  refine ⟨⟨A, RA_cong (fun c hc j => hz' c j (by omega)) ⟨hM, ⟨x1, x2, x3, x4⟩, w1, w2, w3, w4⟩⟩, RI_cong (fun c hc j => hz' c j (by omega)) hI, RT_cong (hz' _ _ (by omega)) (hz' _ _ (by omega)) (fun j => hz' _ _ (by omega)) (fun j => hz' _ _ (by omega)) hT, ⟨?_, ?_⟩, RC_cong (fun j _ => hz' _ _ (by omega)) (fun j => hz' _ _ (by omega)) hC, RK_cong (hz' _ _ (by omega)) (funext fun j => hz' _ _ (by omega)) (funext fun j => ?_) ?_ ?_ hK⟩
  · rw [← hκ, gI_pL, gI_pL, q1, gL_pL, if_neg (by omega), gL_pL, if_pos ⟨rfl, rfl⟩]
  · rw [← hκ, gI_pL, gI_pL, q2, gL_pL, if_pos ⟨rfl, rfl⟩]
  · rw [← hκ, gL_pL, if_neg (by omega), gL_pL, if_neg (by omega), gL4]
  · rw [← hκ]; show gR τ 43 = _; rw [gR4]
  · rw [← hκ]; show gR τ 4 = _; rw [gR4]
