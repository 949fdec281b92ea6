/-- the table is laid up to x and, in the row of x, up to k -/
def Fi (σ τ : Sg) (b x k : Nat) : Prop := (∀ x' y' on, 1 ≤ x' → 1 ≤ y' → y' ≤ b → on < 2 → (x' < x ∨ x' = x ∧ y' < k) → Tb τ (rix x' y' on) (V x' y' on)) ∧ (∀ c j, ¬ (c = 85 ∨ c = 86 ∨ c = 87) → gI τ c j = gI σ c j) ∧ τ.2 = σ.2
theorem Tb_cong {σ τ : Sg} {i : Nat} {p : Nat × Nat × Nat} (h : ∀ c, gI τ c i = gI σ c i) (H : Tb σ i p) : Tb τ i p := by unfold Tb; rw [h, h, h]; exact H
theorem rope_row {σ τ : Sg} {a3 v1 : Int32} {b x : Nat} (hb : b ≤ 60) (hx : 1 ≤ x) (hx6 : x ≤ 60) (H : Fi σ τ b x 1) : ∃ o, lp (b_m_rope_55 v1 (nI b) a3 (nI x)) 100000 (τ, 1) = some o ∧ Fi σ o.1 b (x + 1) 1 := by
  refine lp_ex (b := b_m_rope_55 v1 (nI b) a3 (nI x)) (I := fun z n => ∃ k, z.2 = nI k ∧ 1 ≤ k ∧ k ≤ b + 1 ∧ n = b + 1 - k ∧ Fi σ z.1 b x k) (G := fun o => Fi σ o.1 b (x + 1) 1) (fun z n hz => ?_) 100000 (b + 1 - 1) (τ, 1) (by omega) ⟨1, rfl, by omega, by omega, rfl, H⟩
  obtain ⟨ρ, y⟩ := z
  obtain ⟨k, hk, k1, k2, hn, H1, H2, H3⟩ := hz
  have hk : y = nI k := hk
  subst hk
  by_cases c : k = b + 1
  · right
    refine ⟨(ρ, nI k), ?_, ?_⟩
    · unfold b_m_rope_55
      show (if nI b < nI k then some (Sum.inr (ρ, nI k)) else _) = _
      rw [if_pos ((nI_ltI (by omega) (by omega)).mpr (by omega))]
    · refine ⟨fun x' y' on p1 p2 p3 p4 p5 => H1 x' y' on p1 p2 p3 p4 (by omega), H2, H3⟩
  · left
    obtain ⟨ρ1, e1, t1, f1, g1⟩ := lay1 (σ := ρ) (a := x) (b := k) (on := 0) hx hx6 (by omega) (by omega) (fun p q => H1 _ _ _ (by omega) (by omega) (by omega) (by omega) (by omega))
    have keep1 : ∀ x' y' on, 1 ≤ y' → y' ≤ b → on < 2 → ¬ (x' = x ∧ y' = k ∧ on = 0) → ∀ c, gI ρ1 c (rix x' y' on) = gI ρ c (rix x' y' on) := fun x' y' on p1 p2 p3 p4 c => f1 c _ (by unfold rix; omega)
    obtain ⟨ρ2, e2, t2, f2, g2⟩ := lay1 (σ := ρ1) (a := x) (b := k) (on := 1) hx hx6 (by omega) (by omega) (fun p q => Tb_cong (keep1 _ _ _ (by omega) (by omega) (by omega) (by omega)) (H1 _ _ _ (by omega) (by omega) (by omega) (by omega) (by omega)))
    have keep2 : ∀ x' y' on, 1 ≤ y' → y' ≤ b → on < 2 → ¬ (x' = x ∧ y' = k ∧ on = 1) → ∀ c, gI ρ2 c (rix x' y' on) = gI ρ1 c (rix x' y' on) := fun x' y' on p1 p2 p3 p4 c => f2 c _ (by unfold rix; omega)
    refine ⟨(ρ2, nI (k + 1)), b + 1 - (k + 1), ?_, by omega, k + 1, rfl, by omega, by omega, rfl, ?_, ?_, ?_⟩
    · unfold b_m_rope_55
      show (if nI b < nI k then _ else (s_m_layRope ρ (nI x) (nI k) (nI 0)).bind fun q11 => (s_m_layRope q11 (nI x) (nI k) (nI 1)).bind _) = _
      rw [if_neg (by rw [nI_ltI (by omega) (by omega)]; omega), e1, Option.bind_some, e2, Option.bind_some]
      show some (Sum.inl (ρ2, nI k + 1)) = _
      rw [nI_1]
    · intro x' y' on p1 p2 p3 p4 p5
      by_cases d : x' = x ∧ y' = k
      · obtain ⟨rfl, rfl⟩ := d
        have : on = 0 ∨ on = 1 := by omega
        rcases this with rfl | rfl
        · exact Tb_cong (keep2 _ _ _ p2 p3 p4 (by omega)) t1
        · exact t2
      · exact Tb_cong (fun c => (keep2 _ _ _ p2 p3 p4 (by omega) c).trans (keep1 _ _ _ p2 p3 p4 (by omega) c)) (H1 x' y' on p1 p2 p3 p4 (by omega))
    · exact fun c j h => (f2 c j (by omega)).trans ((f1 c j (by omega)).trans (H2 c j h))
    · exact g2.trans (g1.trans H3)
theorem m_ropeLp {σ : Sg} {a3 : Int32} {a b : Nat} (ha : a ≤ 60) (hb : b ≤ 60) : ∃ o, lp (b_m_rope_46 (nI a) (nI b) a3) 100000 (σ, 1) = some o ∧ Fi σ o.1 b (a + 1) 1 := by
  refine lp_ex (b := b_m_rope_46 (nI a) (nI b) a3) (I := fun z n => ∃ x, z.2 = nI x ∧ 1 ≤ x ∧ x ≤ a + 1 ∧ n = a + 1 - x ∧ Fi σ z.1 b x 1) (G := fun o => Fi σ o.1 b (a + 1) 1) (fun z n hz => ?_) 100000 (a + 1 - 1) (σ, 1) (by omega) ⟨1, rfl, by omega, by omega, rfl, fun x' y' on p1 p2 p3 p4 p5 => by omega, fun _ _ _ => rfl, rfl⟩
  obtain ⟨ρ, y⟩ := z
  obtain ⟨x, hk, k1, k2, hn, H⟩ := hz
  have hk : y = nI x := hk
  subst hk
  by_cases c : x = a + 1
  · right
    refine ⟨(ρ, nI x), ?_, by rw [← c]; exact H⟩
    unfold b_m_rope_46
    show (if nI a < nI x then some (Sum.inr (ρ, nI x)) else _) = _
    rw [if_pos ((nI_ltI (by omega) (by omega)).mpr (by omega))]
  · left
    obtain ⟨o, e1, H'⟩ := rope_row (a3 := a3) (v1 := nI a) hb k1 (by omega) H
    refine ⟨(o.1, nI (x + 1)), a + 1 - (x + 1), ?_, by omega, x + 1, rfl, by omega, by omega, rfl, H'⟩
    unfold b_m_rope_46
    show (if nI a < nI x then _ else (lp (b_m_rope_55 (nI a) (nI b) a3 (nI x)) 100000 (ρ, 1)).bind _) = _
    rw [if_neg (by rw [nI_ltI (by omega) (by omega)]; omega), e1, Option.bind_some]
    show some (Sum.inl (o.1, nI x + 1)) = _
    rw [nI_1]
/-- the line of pulls: strengths ahead of turn t -/
def la (a t : Nat) : Int := a - ((t + t / 2 : Nat) : Int)
def lb (b t : Nat) : Int := b - ((t + (t + 1) / 2 : Nat) : Int)
theorem pull_ok : ∀ t, t < 130 → s_x_pullLoss (nI t) 0 = some (nI (1 + t % 2)) ∧ s_x_pullLoss (nI t) 1 = some (nI (2 - t % 2)) ∧ nI t - nI t / 2 * 2 = nI (t % 2) := by decide +kernel
theorem oi_le {z : Int} (h1 : -200 ≤ z) (h2 : z ≤ 200) : (Int32.ofInt z).toInt = z := by rw [Int32.toInt_ofInt, Int.bmod_def, show ((Int32.size : Nat) : Int) = 4294967296 from rfl]; omega
theorem first {P : Nat → Prop} {n : Nat} (h : P n) : ∃ t, t ≤ n ∧ P t ∧ ∀ k, k < t → ¬ P k := by
  induction n with
  | zero => exact ⟨0, by omega, h, fun k hk => by omega⟩
  | succ n ih =>
    by_cases c : ∃ k, k ≤ n ∧ P k
    · obtain ⟨k, k1, k2⟩ := c
      have : ∀ m, m ≤ n → P m → ∃ t, t ≤ m ∧ P t ∧ ∀ k, k < t → ¬ P k := by
        intro m
        induction m using Nat.strongRecOn with
        | ind m im =>
          intro hm hp
          by_cases d : ∃ j, j < m ∧ P j
          · obtain ⟨j, j1, j2⟩ := d
            obtain ⟨t, t1, t2, t3⟩ := im j j1 (by omega) j2
            exact ⟨t, by omega, t2, t3⟩
          · exact ⟨m, Nat.le_refl _, hp, fun k hk q => d ⟨k, hk, q⟩⟩
      obtain ⟨t, t1, t2, t3⟩ := this k k1 k2
      exact ⟨t, by omega, t2, t3⟩
    · exact ⟨n + 1, Nat.le_refl _, h, fun k hk q => c ⟨k, by omega, q⟩⟩
theorem x_ropeFwd {a3 : Int32} {a b T : Nat} (ha : a ≤ 60) (hb : b ≤ 60) (hT : T ≤ 60) (h1 : la a T ≤ 0 ∨ lb b T ≤ 0) (h2 : ∀ t, t < T → ¬ (la a t ≤ 0 ∨ lb b t ≤ 0)) :
    lp (b_x_ropeEnd_8 a3) 100000 (nI a, nI b, 0) = some (Int32.ofInt (la a T), Int32.ofInt (lb b T), nI T) := by
  have hbd : ∀ t, t ≤ 60 → (-200 ≤ la a t ∧ la a t ≤ 200) ∧ -200 ≤ lb b t ∧ lb b t ≤ 200 := fun t ht => by unfold la lb; omega
  have := lp_run (b := b_x_ropeEnd_8 a3) (fun t => (Int32.ofInt (la a t), Int32.ofInt (lb b t), nI t)) (z := (Int32.ofInt (la a T), Int32.ofInt (lb b T), nI T)) T 100000 (by omega) (fun t ht => by
    have := h2 t ht
    obtain ⟨⟨b1, b2⟩, b3, b4⟩ := hbd t (by omega)
    unfold b_x_ropeEnd_8
    show (if Int32.ofInt (la a t) ≤ 0 then _ else if Int32.ofInt (lb b t) ≤ 0 then _ else if nI 120 ≤ nI t then _ else (s_x_pullLoss (nI t) 0).bind fun q4 => (s_x_pullLoss (nI t) 1).bind fun q6 => some (Sum.inl (Int32.ofInt (la a t) - q4, Int32.ofInt (lb b t) - q6, nI t + 1))) = _
    rw [if_neg (by rw [e32 (oi_le b1 b2) (show (0 : Int32).toInt = 0 from rfl)]; omega), if_neg (by rw [e32 (oi_le b3 b4) (show (0 : Int32).toInt = 0 from rfl)]; omega), if_neg (by rw [nI_leI (by omega) (by omega)]; omega), (pull_ok t (by omega)).1, Option.bind_some, (pull_ok t (by omega)).2.1, Option.bind_some, nI_1, oi (1 + t % 2), oi (2 - t % 2), ← Int32.ofInt_sub, ← Int32.ofInt_sub]
    rw [show la a t - ((1 + t % 2 : Nat) : Int) = la a (t + 1) from by unfold la; omega, show lb b t - ((2 - t % 2 : Nat) : Int) = lb b (t + 1) from by unfold lb; omega]) (by
    obtain ⟨⟨b1, b2⟩, b3, b4⟩ := hbd T hT
    unfold b_x_ropeEnd_8
    show (if Int32.ofInt (la a T) ≤ 0 then some (Sum.inr _) else if Int32.ofInt (lb b T) ≤ 0 then some (Sum.inr _) else _) = _
    by_cases c : la a T ≤ 0
    · rw [if_pos (by rw [e32 (oi_le b1 b2) (show (0 : Int32).toInt = 0 from rfl)]; omega)]
    · rw [if_neg (by rw [e32 (oi_le b1 b2) (show (0 : Int32).toInt = 0 from rfl)]; omega), if_pos (by rw [e32 (oi_le b3 b4) (show (0 : Int32).toInt = 0 from rfl)]; omega)])
  rw [oi a, oi b]
  rw [show la a 0 = (a : Int) from by unfold la; omega, show lb b 0 = (b : Int) from by unfold lb; omega] at this
  exact this
