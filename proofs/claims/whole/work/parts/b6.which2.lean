def gd (A : Nat → Nat) (p m : Nat) : Bool := m.testBit p && may A p m
def Cg (A : Nat → Nat) (p : Nat) : Nat → Nat
  | 0 => 0
  | x + 1 => Cg A p x + (if gd A p (T3 x) = true then 1 else 0)
def Fg (A : Nat → Nat) (p : Nat) (i : Int32) : Nat → Int32
  | 0 => -5
  | x + 1 => if gd A p (T3 x) = true ∧ nI (Cg A p x) = i then nI (T3 x) else Fg A p i x
theorem Cg_le {A : Nat → Nat} {p : Nat} : ∀ x, Cg A p x ≤ x
  | 0 => Nat.le_refl _
  | x + 1 => by
    have := Cg_le (A := A) (p := p) x
    rw [Cg]
    by_cases c : gd A p (T3 x) = true
    · rw [if_pos c]; omega
    · rw [if_neg c]; omega
theorem Cg_mono {A : Nat → Nat} {p x : Nat} : ∀ d, Cg A p x ≤ Cg A p (x + d)
  | 0 => Nat.le_refl _
  | d + 1 => by
    have := Cg_mono (A := A) (p := p) (x := x) d
    show _ ≤ Cg A p (x + d) + _
    omega
theorem Fg_hit {A : Nat → Nat} {p x : Nat} {i : Int32} (h1 : gd A p (T3 x) = true) (h2 : nI (Cg A p x) = i) : ∀ d, x + d < 85 → Fg A p i (x + d + 1) = nI (T3 x)
  | 0, _ => by rw [Nat.add_zero, Fg, if_pos ⟨h1, h2⟩]
  | d + 1, h => by
    show Fg A p i (x + (d + 1) + 1) = _
    rw [Fg, if_neg]
    · exact Fg_hit h1 h2 d (by omega)
    · intro q
      have a := Cg_le (A := A) (p := p) x
      have b := Cg_le (A := A) (p := p) (x + (d + 1))
      have c := (nI_eq (by omega) (by omega)).mp (q.2.trans h2.symm)
      have e := Cg_mono (A := A) (p := p) (x := x + 1) d
      rw [Cg, if_pos h1] at e
      rw [show x + (d + 1) = x + 1 + d from by omega] at c
      omega
theorem Fg_no {A : Nat → Nat} {p : Nat} {i : Int32} : ∀ x, (∀ y, y < x → ¬ (gd A p (T3 y) = true ∧ nI (Cg A p y) = i)) → Fg A p i x = -5
  | 0, _ => rfl
  | x + 1, h => by rw [Fg, if_neg (h x (by omega))]; exact Fg_no x (fun y hy => h y (by omega))
theorem is3_T {N t : Nat} (hN : N ≤ 9) (h5 : t < 512) (h3 : bN t = 3) : is3 N (nI t) ↔ t < 2 ^ N := by
  have hp := pow_le N (by omega)
  have e : s_m_bits (nI t) = some 3 := by rw [(bN_ok t h5).1, h3]; rfl
  unfold is3 isG
  rw [nI_toInt (by omega)]
  exact ⟨fun q => by omega, fun q => ⟨by omega, e⟩⟩
theorem x_which1 {σ : Sg} {A : Nat → Nat} {p : Nat} {i : Int32} (hX : XT σ 19 A) (hO : XO σ 19 A) (W : WT A) (WO' : WO A) (hp : p < A 1) (h13 : gI σ 13 = gI spT 1) (hi : ∀ c, c < 100 → nI c = i → ¬ i = -1) : ∃ τ z, lp (b_x_which_45 (nI p) i 84) 100000 (σ, 0, 0) = some z ∧ ((∃ w, z = .inl (τ, nI (Cg A p (o3 (2 ^ A 1))), w) ∧ Fg A p i (o3 (2 ^ A 1)) = -5) ∨ (z = .inr (Fg A p i (o3 (2 ^ A 1)), τ) ∧ ¬ i = -1)) ∧ (∀ c j, ¬ (c = 31 ∨ 33 ≤ c ∧ c ≤ 37) → gI τ c j = gI σ c j) ∧ τ.2 = σ.2 := by
  have n9 := W.2.2.1
  have Q1 := o3_N1 (A 1) (by omega)
  have Q2 := o3_N2 (A 1) (by omega)
  generalize o3 (2 ^ A 1) = Q at *
  obtain ⟨z, hz, g⟩ := lp_ex (b := b_x_which_45 (nI p) i 84) (I := fun x n => ∃ k, x.2.2 = nI k ∧ k ≤ 84 ∧ n = 84 - k ∧ x.2.1 = nI (Cg A p (min k Q)) ∧ (∀ y, y < min k Q → ¬ (gd A p (T3 y) = true ∧ nI (Cg A p y) = i)) ∧ (∀ c j, ¬ (c = 31 ∨ 33 ≤ c ∧ c ≤ 37) → gI x.1 c j = gI σ c j) ∧ x.1.2 = σ.2) (G := fun z => ∃ τ, ((∃ w, z = .inl (τ, nI (Cg A p Q), w) ∧ Fg A p i Q = -5) ∨ (z = .inr (Fg A p i Q, τ) ∧ ¬ i = -1)) ∧ (∀ c j, ¬ (c = 31 ∨ 33 ≤ c ∧ c ≤ 37) → gI τ c j = gI σ c j) ∧ τ.2 = σ.2) (fun x n hx => by
    obtain ⟨ρ, f, q⟩ := x
    obtain ⟨k, hk, k1, k2, hf, i1, i2, i3⟩ := hx
    have hk : q = nI k := hk
    have hf : f = nI (Cg A p (min k Q)) := hf
    have i2 : ∀ c j, ¬ (c = 31 ∨ 33 ≤ c ∧ c ≤ 37) → gI ρ c j = gI σ c j := i2
    have i3 : ρ.2 = σ.2 := i3
    subst hk; subst hf
    by_cases d : k = 84
    · refine Or.inr ⟨.inl (ρ, nI (Cg A p (min k Q)), nI k), ?_, ρ, Or.inl ⟨nI k, ?_, ?_⟩, i2, i3⟩
      · unfold b_x_which_45
        show (if (84 : Int32) ≤ nI k then some (Sum.inr (Sum.inl (ρ, nI (Cg A p (min k Q)), nI k))) else _) = _
        rw [if_pos (by show nI 84 ≤ _; rw [nI_leI (by omega) (by omega)]; omega)]
      · rw [show min k Q = Q from by omega]
      · exact Fg_no Q (fun y hy => i1 y (by omega))
    obtain ⟨t5, t3, -⟩ := T3_ok k (by omega)
    have h13' : gI ρ 13 k = nI (T3 k) := by rw [i2 _ _ (by omega), h13]; exact spT_ok k (by omega)
    have tb := tb_ok (T3 k) t5 p (by omega)
    have hXρ : XT ρ 19 A := XT_cong (fun c a b j => i2 c j (by omega)) (fun _ _ => rfl) W hX
    have hOρ : XO ρ 19 A := XO_cong (i2 _ _ (by omega)) (fun c a b j => i2 c j (by omega)) (fun _ _ _ => rfl) WO' hO
    have hb0 : b_x_which_45 (nI p) i 84 (ρ, nI (Cg A p (min k Q)), nI k) = if ((nI (T3 k) >>> (nI p &&& 31)) &&& 1) = 1 then ((s_Town_isThree ρ (nI (T3 k))).bind fun q11 => if q11 = 0 then some (.inl (ρ, nI (Cg A p (min k Q)), nI (k + 1))) else (s_x_mayHaveBeen ρ (nI (T3 k)) (nI p)).bind fun q14 => if q14.1 = 0 then some (.inl (q14.2, nI (Cg A p (min k Q)), nI (k + 1))) else if nI (Cg A p (min k Q)) = i then some (.inr (.inr (nI (T3 k), q14.2))) else some (.inl (q14.2, nI (Cg A p (min k Q) + 1), nI (k + 1)))) else some (.inl (ρ, nI (Cg A p (min k Q)), nI (k + 1))) := by
      unfold b_x_which_45
      show (if (84 : Int32) ≤ nI k then _ else (if inB (nI k) 84 = true then ((s_x_isIn (gI ρ 13 (Int32.toNatClampNeg (nI k))) (nI p)).bind fun q8 => if q8 = 0 then some (Sum.inl (ρ, nI (Cg A p (min k Q)), nI k + 1)) else (s_Town_isThree ρ (gI ρ 13 (Int32.toNatClampNeg (nI k)))).bind fun q11 => if q11 = 0 then some (Sum.inl (ρ, nI (Cg A p (min k Q)), nI k + 1)) else (s_x_mayHaveBeen ρ (gI ρ 13 (Int32.toNatClampNeg (nI k))) (nI p)).bind fun q14 => if q14.1 = 0 then some (Sum.inl (q14.2, nI (Cg A p (min k Q)), nI k + 1)) else if nI (Cg A p (min k Q)) = i then some (Sum.inr (Sum.inr (gI ρ 13 (Int32.toNatClampNeg (nI k)), q14.2))) else some (Sum.inl (q14.2, nI (Cg A p (min k Q)) + 1, nI k + 1))) else none)) = _
      rw [if_neg (by show ¬ nI 84 ≤ _; rw [nI_leI (by omega) (by omega)]; omega), if_pos (inB_nI (by omega) (by omega)), nI_clamp (by omega), h13', s_x_isIn, nI_1, nI_1]
      by_cases c : ((nI (T3 k) >>> (nI p &&& 31)) &&& 1) = 1
      · rw [if_pos c, if_pos c, Option.bind_some, if_neg (by decide)]
      · rw [if_neg c, if_neg c, Option.bind_some, if_pos rfl]
    rw [x_isThree _ hXρ.2.1 n9, Option.bind_some] at hb0
    by_cases hkQ : k < Q
    · have ht := (Q2 k (by omega)).mpr hkQ
      have m1 : min k Q = k := by omega
      have m2 : min (k + 1) Q = k + 1 := by omega
      obtain ⟨τ, e1, e2, e3⟩ := x_may hXρ hOρ W WO' hp ht t5 t3
      rw [if_pos ((is3_T n9 t5 t3).mpr ht), if_neg (show ¬ (1 : Int32) = 0 by decide), e1, Option.bind_some, m1] at hb0
      rw [m1] at i1 ⊢
      have fr : ∀ c j, ¬ (c = 31 ∨ 33 ≤ c ∧ c ≤ 37) → gI τ c j = gI σ c j := fun c j q => (e2 c j q).trans (i2 c j q)
      by_cases c : gd A p (T3 k) = true
      · have c1 : (T3 k).testBit p = true := by unfold gd at c; cases h : (T3 k).testBit p; rw [h, Bool.false_and] at c; exact absurd c (by decide); rfl
        have c2 : may A p (T3 k) = true := by unfold gd at c; rw [c1] at c; exact c
        have hb : b_x_which_45 (nI p) i 84 (ρ, nI (Cg A p k), nI k) = if nI (Cg A p k) = i then some (.inr (.inr (nI (T3 k), τ))) else some (.inl (τ, nI (Cg A p k + 1), nI (k + 1))) := by
          rw [hb0, if_pos (tb.mpr c1), if_pos c2]; rfl
        by_cases e : nI (Cg A p k) = i
        · rw [if_pos e] at hb
          have := Fg_hit c e (Q - 1 - k) (by omega)
          rw [show k + (Q - 1 - k) + 1 = Q from by omega] at this
          have := Cg_le (A := A) (p := p) k
          exact Or.inr ⟨_, hb, τ, Or.inr ⟨by rw [‹Fg A p i Q = _›], hi _ (by omega) e⟩, fr, e3.trans i3⟩
        · rw [if_neg e] at hb
          refine Or.inl ⟨_, 84 - (k + 1), hb, by omega, k + 1, rfl, by omega, rfl, ?_, fun y hy => ?_, fr, e3.trans i3⟩
          · show nI (Cg A p k + 1) = _; rw [m2, Cg, if_pos c]
          · rw [m2] at hy
            by_cases g : y = k
            · subst g; exact fun q => e q.2
            · exact i1 y (by omega)
      · have hCg : Cg A p (min (k + 1) Q) = Cg A p k := by rw [m2, Cg, if_neg c]; rfl
        have hno : ∀ y, y < min (k + 1) Q → ¬ (gd A p (T3 y) = true ∧ nI (Cg A p y) = i) := fun y hy => by
          rw [m2] at hy
          by_cases g : y = k
          · subst g; exact fun q => c q.1
          · exact i1 y (by omega)
        by_cases c1 : (T3 k).testBit p = true
        · have c2 : ¬ may A p (T3 k) = true := fun q => c (by unfold gd; rw [c1, q]; rfl)
          have hb : b_x_which_45 (nI p) i 84 (ρ, nI (Cg A p k), nI k) = some (.inl (τ, nI (Cg A p k), nI (k + 1))) := by
            rw [hb0, if_pos (tb.mpr c1), if_neg c2]; rfl
          exact Or.inl ⟨_, 84 - (k + 1), hb, by omega, k + 1, rfl, by omega, rfl, by show nI _ = _; rw [hCg], hno, fr, e3.trans i3⟩
        · have hb : b_x_which_45 (nI p) i 84 (ρ, nI (Cg A p k), nI k) = some (.inl (ρ, nI (Cg A p k), nI (k + 1))) := by
            rw [hb0, if_neg (fun q => c1 (tb.mp q))]
          exact Or.inl ⟨_, 84 - (k + 1), hb, by omega, k + 1, rfl, by omega, rfl, by show nI _ = _; rw [hCg], hno, i2, i3⟩
    · have ht : ¬ T3 k < 2 ^ A 1 := fun q => hkQ ((Q2 k (by omega)).mp q)
      rw [if_neg (fun q => ht ((is3_T n9 t5 t3).mp q)), if_pos (show (0 : Int32) = 0 from rfl)] at hb0
      have hb : b_x_which_45 (nI p) i 84 (ρ, nI (Cg A p (min k Q)), nI k) = some (.inl (ρ, nI (Cg A p (min k Q)), nI (k + 1))) := by
        rw [hb0]
        by_cases c : ((nI (T3 k) >>> (nI p &&& 31)) &&& 1) = 1
        · rw [if_pos c]
        · rw [if_neg c]
      have m3 : min (k + 1) Q = min k Q := by omega
      exact Or.inl ⟨_, 84 - (k + 1), hb, by omega, k + 1, rfl, by omega, rfl, by show nI _ = _; rw [m3], by rw [m3]; exact i1, i2, i3⟩) 100000 84 (σ, 0, 0) (by omega) ⟨0, rfl, by omega, by omega, by rw [show min 0 Q = 0 from by omega]; rfl, fun y hy => by omega, fun _ _ _ => rfl, rfl⟩
  obtain ⟨τ, g1, g2, g3⟩ := g
  exact ⟨τ, z, hz, g1, g2, g3⟩
theorem m_which1 {σ : Sg} {A : Nat → Nat} {p : Nat} {i : Int32} (hM : MS σ 72 0 A) (W : WT A) (WO' : WO A) (hp : p < A 1) : ∃ o, lp (b_m_which_29 (nI p) i) 100000 (σ, 0, (-5), 0) = some o ∧ o.2.1 = nI (Cg A p (o3 (2 ^ A 1))) ∧ o.2.2.1 = Fg A p i (o3 (2 ^ A 1)) ∧ (∀ c j, ¬ (c = 71 ∧ j = 9 ∨ 76 ≤ c ∧ c ≤ 78) → gI o.1 c j = gI σ c j) ∧ o.1.2 = σ.2 := by
  have n9 := W.2.2.1
  have hpw := pow_le (A 1) (by omega)
  refine lp_ex (b := b_m_which_29 (nI p) i) (I := fun x n => ∃ k, x.2.2.2 = nI k ∧ k ≤ 2 ^ A 1 ∧ n = 2 ^ A 1 - k ∧ x.2.1 = nI (Cg A p (o3 k)) ∧ x.2.2.1 = Fg A p i (o3 k) ∧ (∀ c j, ¬ (c = 71 ∧ j = 9 ∨ 76 ≤ c ∧ c ≤ 78) → gI x.1 c j = gI σ c j) ∧ x.1.2 = σ.2) (G := fun o => o.2.1 = nI (Cg A p (o3 (2 ^ A 1))) ∧ o.2.2.1 = Fg A p i (o3 (2 ^ A 1)) ∧ (∀ c j, ¬ (c = 71 ∧ j = 9 ∨ 76 ≤ c ∧ c ≤ 78) → gI o.1 c j = gI σ c j) ∧ o.1.2 = σ.2) (fun x n hx => ?_) 100000 (2 ^ A 1) (σ, 0, (-5), 0) (by omega) ⟨0, rfl, by omega, by omega, rfl, rfl, fun _ _ _ => rfl, rfl⟩
  obtain ⟨ρ, f, g, q⟩ := x
  obtain ⟨k, hk, k1, k2, hf, hg, i2, i3⟩ := hx
  have hk : q = nI k := hk
  have hf : f = nI (Cg A p (o3 k)) := hf
  have hg : g = Fg A p i (o3 k) := hg
  have i2 : ∀ c j, ¬ (c = 71 ∧ j = 9 ∨ 76 ≤ c ∧ c ≤ 78) → gI ρ c j = gI σ c j := i2
  have i3 : ρ.2 = σ.2 := i3
  subst hk; subst hf; subst hg
  have hMρ : MS ρ 72 0 A := MS_cong (fun j => i2 _ _ (by omega)) hM
  have e1 : gI ρ 72 1 = nI (A 1) := M0 hMρ (by omega)
  by_cases d : k = 2 ^ A 1
  · refine Or.inr ⟨(ρ, nI (Cg A p (o3 k)), Fg A p i (o3 k), nI k), ?_, by rw [d], by rw [d], i2, i3⟩
    unfold b_m_which_29
    show ((s_m_people ρ).bind fun q5 => if ((1 : Int32) <<< (q5 &&& 31)) ≤ nI k then some (Sum.inr (ρ, nI (Cg A p (o3 k)), Fg A p i (o3 k), nI k)) else _) = _
    rw [s_m_people, Option.bind_some, va_cl1, e1, shl_ok _ (by omega), if_pos (by rw [nI_leI (by omega) (by omega)]; omega)]
  have h5 : k < 512 := by omega
  obtain ⟨b1, b2, -⟩ := bN_ok k h5
  have tb := tb_ok k h5 p (by omega)
  have hb0 : b_m_which_29 (nI p) i (ρ, nI (Cg A p (o3 k)), Fg A p i (o3 k), nI k) = if bN k = 3 then (if ((nI k >>> (nI p &&& 31)) &&& 1) = 1 then ((s_m_isSeen ρ (nI p) (nI k)).bind fun q12 => if q12.1 = 0 then some (.inl (q12.2, nI (Cg A p (o3 k)), Fg A p i (o3 k), nI (k + 1))) else if nI (Cg A p (o3 k)) = i then some (.inl (q12.2, nI (Cg A p (o3 k) + 1), nI k, nI (k + 1))) else some (.inl (q12.2, nI (Cg A p (o3 k) + 1), Fg A p i (o3 k), nI (k + 1)))) else some (.inl (ρ, nI (Cg A p (o3 k)), Fg A p i (o3 k), nI (k + 1)))) else some (.inl (ρ, nI (Cg A p (o3 k)), Fg A p i (o3 k), nI (k + 1))) := by
    unfold b_m_which_29
    show ((s_m_people ρ).bind fun q5 => if ((1 : Int32) <<< (q5 &&& 31)) ≤ nI k then _ else (s_m_bits (nI k)).bind fun q7 => if q7 = 3 then (if ((nI k >>> (nI p &&& 31)) &&& 1) = 1 then ((s_m_isSeen ρ (nI p) (nI k)).bind fun q12 => if q12.1 = 0 then some (Sum.inl (q12.2, nI (Cg A p (o3 k)), Fg A p i (o3 k), nI k + 1)) else if nI (Cg A p (o3 k)) = i then some (Sum.inl (q12.2, nI (Cg A p (o3 k)) + 1, nI k, nI k + 1)) else some (Sum.inl (q12.2, nI (Cg A p (o3 k)) + 1, Fg A p i (o3 k), nI k + 1))) else some (Sum.inl (ρ, nI (Cg A p (o3 k)), Fg A p i (o3 k), nI k + 1))) else some (Sum.inl (ρ, nI (Cg A p (o3 k)), Fg A p i (o3 k), nI k + 1))) = _
    rw [s_m_people, Option.bind_some, va_cl1, e1, shl_ok _ (by omega), if_neg (by rw [nI_leI (by omega) (by omega)]; omega), b1, Option.bind_some, nI_1, nI_1]
    by_cases c : bN k = 3
    · rw [if_pos c, if_pos (by rw [c]; rfl)]
    · rw [if_neg c, if_neg (show ¬ nI (bN k) = (3 : Int32) from fun q => c ((nI_eq (b := 3) (by omega) (by omega)).mp q))]
  left
  by_cases c : bN k = 3
  · obtain ⟨o1, o2, o4⟩ := o3_ok k h5 c
    obtain ⟨τ, e1, e2, e3⟩ := m_seen hMρ W WO' hp (show k < 2 ^ A 1 by omega) h5 c
    have fr : ∀ c j, ¬ (c = 71 ∧ j = 9 ∨ 76 ≤ c ∧ c ≤ 78) → gI τ c j = gI σ c j := fun c j q => (e2 c j q).trans (i2 c j q)
    rw [if_pos c, e1, Option.bind_some] at hb0
    dsimp only at hb0
    by_cases c1 : k.testBit p = true
    · rw [if_pos (tb.mpr c1)] at hb0
      by_cases c2 : may A p k = true
      · have hg : gd A p (T3 (o3 k)) = true := by rw [o1]; unfold gd; rw [c1, c2]; rfl
        rw [if_pos c2, if_neg (show ¬ (1 : Int32) = 0 by decide)] at hb0
        by_cases e : nI (Cg A p (o3 k)) = i
        · rw [if_pos e] at hb0
          exact ⟨_, 2 ^ A 1 - (k + 1), hb0, by omega, k + 1, rfl, by omega, rfl, by show nI _ = _; rw [o2, Cg, if_pos hg], by show nI k = _; rw [o2, Fg, if_pos ⟨hg, e⟩, o1], fr, e3.trans i3⟩
        · rw [if_neg e] at hb0
          exact ⟨_, 2 ^ A 1 - (k + 1), hb0, by omega, k + 1, rfl, by omega, rfl, by show nI _ = _; rw [o2, Cg, if_pos hg], by show Fg A p i (o3 k) = _; rw [o2, Fg, if_neg (fun q => e q.2)], fr, e3.trans i3⟩
      · have hg : ¬ gd A p (T3 (o3 k)) = true := by rw [o1]; unfold gd; rw [c1]; exact c2
        rw [if_neg c2, if_pos (show (0 : Int32) = 0 from rfl)] at hb0
        exact ⟨_, 2 ^ A 1 - (k + 1), hb0, by omega, k + 1, rfl, by omega, rfl, by show nI _ = _; rw [o2, Cg, if_neg hg]; rfl, by show Fg A p i (o3 k) = _; rw [o2, Fg, if_neg (fun q => hg q.1)], fr, e3.trans i3⟩
    · have hg : ¬ gd A p (T3 (o3 k)) = true := by
        rw [o1]; unfold gd
        intro q; cases h : k.testBit p
        · rw [h, Bool.false_and] at q; exact absurd q (by decide)
        · exact c1 h
      rw [if_neg (fun q => c1 (tb.mp q))] at hb0
      exact ⟨_, 2 ^ A 1 - (k + 1), hb0, by omega, k + 1, rfl, by omega, rfl, by show nI _ = _; rw [o2, Cg, if_neg hg]; rfl, by show Fg A p i (o3 k) = _; rw [o2, Fg, if_neg (fun q => hg q.1)], i2, i3⟩
  · rw [if_neg c] at hb0
    have o2 := o3_no k h5 c
    exact ⟨_, 2 ^ A 1 - (k + 1), hb0, by omega, k + 1, rfl, by omega, rfl, by show nI _ = _; rw [o2], by show Fg A p i (o3 k) = _; rw [o2], i2, i3⟩
theorem al_which {σ : Sg} (a b : Int32) (hR : R σ) : Alike R σ (fun τ => s_x_which τ a b) (fun τ => s_m_which τ a b) := by
  obtain ⟨⟨A, hM, ⟨x1, x2, x3, x4⟩, w1, w2, w3, w4⟩, -, -, -, -, hK, -⟩ := id hR
  have e1 : gI σ 19 6 = nI (A 1) := x1.2.1
  have m1 : gI σ 72 1 = nI (A 1) := M0 hM (by omega)
  have n9 := w1.2.2.1
  by_cases ha : 0 ≤ a.toInt ∧ a.toInt ≤ (A 1 : Int) - 1
  rotate_left
  · refine al_bad (-10) hR ?_ ?_
    · show s_x_which σ a b = _
      rw [s_x_which, x_hasPerson a e1 (by omega), if_neg ha, Option.bind_some, if_pos rfl, bEta]
    · show s_m_which _ a b = _
      rw [s_m_which, m_isOne a (by rw [gI_ne (by omega)]; exact m1) (by omega), if_neg ha, Option.bind_some, if_pos rfl, bEta]
  obtain ⟨p, p1, rfl⟩ := below_nI (n := A 1) (by omega) ha
  have hx : s_x_which σ (nI p) b = if (-1) ≤ b then (lp (b_x_which_45 (nI p) b 84) 100000 (σ, 0, 0)).bind fun o20 => oElim o20 (fun y21 => if b = (-1) then some (y21.2.1, y21.1) else some ((-5), y21.1)) (fun q22 => some q22) else s_x_refusedBad σ (-10) := by
    rw [s_x_which, x_hasPerson _ e1 (by omega), if_pos ha, Option.bind_some, if_neg (by decide), bEta]
  have hm : ∀ ρ, gI ρ 72 1 = nI (A 1) → s_m_which ρ (nI p) b = if (-1) ≤ b then (lp (b_m_which_29 (nI p) b) 100000 (ρ, 0, (-5), 0)).bind fun o20 => if b = (-1) then some (o20.2.1, o20.1) else some (o20.2.2.1, o20.1) else s_m_bad ρ (-10) := fun ρ hρ => by
    rw [s_m_which, m_isOne _ hρ (by omega), if_pos ha, Option.bind_some, if_neg (by decide), bEta]
  by_cases hb : (-1) ≤ b
  rotate_left
  · refine al_bad (-10) hR ?_ ?_
    · show s_x_which σ (nI p) b = _
      rw [hx, if_neg hb]
    · show s_m_which _ (nI p) b = _
      rw [hm _ (by rw [gI_ne (by omega)]; exact m1), if_neg hb]
  obtain ⟨ρ, z, z1, z2, z3, z4⟩ := x_which1 (i := b) x1 x4 w1 w4 p1 hK (fun c hc e q => nI_nm (by omega) (e.trans q))
  obtain ⟨o, o1, o2, o3', o4, o5⟩ := m_which1 (σ := ρ) (i := b) (MS_cong (fun j => z3 _ _ (by omega)) hM) w1 w4 p1
  have hRτ : R o.1 := R_day hR (fun c j q => (o4 c j (by omega)).trans (z3 c j (by omega))) (o5.trans z4)
  have hm2 := hm ρ ((z3 _ _ (by omega)).trans m1)
  rw [if_pos hb, o1, Option.bind_some, o2, o3'] at hm2
  rw [if_pos hb, z1, Option.bind_some] at hx
  rcases z2 with ⟨w, rfl, z5⟩ | ⟨rfl, z5⟩
  · by_cases c : b = -1
    · rw [if_pos c] at hm2
      have hx : s_x_which σ (nI p) b = if b = (-1) then some (nI (Cg A p (o3 (2 ^ A 1))), ρ) else some ((-5), ρ) := hx
      rw [if_pos c] at hx
      exact ⟨_, ρ, o.1, hx, hm2, hRτ⟩
    · rw [if_neg c, z5] at hm2
      have hx : s_x_which σ (nI p) b = if b = (-1) then some (nI (Cg A p (o3 (2 ^ A 1))), ρ) else some ((-5), ρ) := hx
      rw [if_neg c] at hx
      exact ⟨_, ρ, o.1, hx, hm2, hRτ⟩
  · rw [if_neg z5] at hm2
    exact ⟨_, ρ, o.1, hx, hm2, hRτ⟩
