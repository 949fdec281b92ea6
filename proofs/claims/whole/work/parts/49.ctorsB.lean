set_option maxRecDepth 100000 in
theorem fr_b_spl_68 (v2 : Int32) (v3 : Int32) (x : (Sg × Int32 × Int32)) (o : ((Sg × Int32 × Int32) ⊕ (Sg × Int32 × Int32))) (h : b_spl_68 v2 v3 x = some o) : Fr [1, 2] x.1 (oElim o (fun y => y.1) (fun y => y.1)) := by
  unfold b_spl_68 at h
  have f0 : Fr [1, 2] x.1 x.1 := Fr.rfl
  rcases oIte h with h | h
  · obtain rfl := Option.some.inj h
    exact f0
  · obtain ⟨x4, e1, h⟩ := oLtE h
    replace h := (oGuard h).2
    obtain ⟨s6, e2, h⟩ := oLtE h
    have f3 := f0.oI (by decide) e2
    obtain ⟨q7, h4, h⟩ := oBind h
    obtain ⟨q8, h5, h⟩ := oBind h
    obtain ⟨q9, h6, h⟩ := oBind h
    replace h := (oGuard h).2
    obtain ⟨s11, e7, h⟩ := oLtE h
    have f8 := f3.oL (by decide) e7
    obtain ⟨x12, e9, h⟩ := oLtE h
    obtain ⟨x13, e10, h⟩ := oLtE h
    obtain rfl := Option.some.inj h
    exact f8
theorem frl_spl_68 (v2 : Int32) (v3 : Int32) (n : Nat) (x : (Sg × Int32 × Int32)) (z : (Sg × Int32 × Int32)) (h : lp (b_spl_68 v2 v3) n x = some z) : Fr [1, 2] x.1 ((fun y => y.1) z) :=
  lp_fr (g := fun y => y.1) (gz := fun y => y.1) (fun x o hb => fr_b_spl_68 v2 v3 x o hb) n x z h
set_option maxRecDepth 100000 in
theorem fr_b_spl_60 (v2 : Int32) (x : (Sg × Int32 × Int32)) (o : ((Sg × Int32 × Int32) ⊕ (Sg × Int32 × Int32))) (h : b_spl_60 v2 x = some o) : Fr [1, 2] x.1 (oElim o (fun y => y.1) (fun y => y.1)) := by
  unfold b_spl_60 at h
  have f0 : Fr [1, 2] x.1 x.1 := Fr.rfl
  rcases oIte h with h | h
  · obtain rfl := Option.some.inj h
    exact f0
  · obtain ⟨o14, h1, h⟩ := oBind h
    have f2 := f0.trans ((frl_spl_68 v2 x.2.2 100000 (x.1, x.2.1, 0) o14 h1).mono (by decide))
    obtain ⟨x15, e3, h⟩ := oLtE h
    obtain rfl := Option.some.inj h
    exact f2
theorem frl_spl_60 (v2 : Int32) (n : Nat) (x : (Sg × Int32 × Int32)) (z : (Sg × Int32 × Int32)) (h : lp (b_spl_60 v2) n x = some z) : Fr [1, 2] x.1 ((fun y => y.1) z) :=
  lp_fr (g := fun y => y.1) (gz := fun y => y.1) (fun x o hb => fr_b_spl_60 v2 x o hb) n x z h
set_option maxRecDepth 100000 in
theorem fr_b_spl_52 (x : (Sg × Int32 × Int32)) (o : ((Sg × Int32 × Int32) ⊕ (Sg × Int32 × Int32))) (h : b_spl_52 x = some o) : Fr [1, 2] x.1 (oElim o (fun y => y.1) (fun y => y.1)) := by
  unfold b_spl_52 at h
  have f0 : Fr [1, 2] x.1 x.1 := Fr.rfl
  rcases oIte h with h | h
  · obtain rfl := Option.some.inj h
    exact f0
  · obtain ⟨o16, h1, h⟩ := oBind h
    have f2 := f0.trans ((frl_spl_60 x.2.2 100000 (x.1, x.2.1, 1) o16 h1).mono (by decide))
    obtain ⟨x17, e3, h⟩ := oLtE h
    obtain rfl := Option.some.inj h
    exact f2
theorem frl_spl_52  (n : Nat) (x : (Sg × Int32 × Int32)) (z : (Sg × Int32 × Int32)) (h : lp (b_spl_52 ) n x = some z) : Fr [1, 2] x.1 ((fun y => y.1) z) :=
  lp_fr (g := fun y => y.1) (gz := fun y => y.1) (fun x o hb => fr_b_spl_52  x o hb) n x z h
set_option maxRecDepth 100000 in
theorem fr_spl (σ : Sg) (q : Sg) (h : s_spl σ = some q) : Fr [1, 2] σ ((fun y => y) q) := by
  unfold s_spl at h
  have f0 : Fr [1, 2] σ σ := Fr.rfl
  obtain ⟨o18, h1, h⟩ := oBind h
  have f2 := f0.trans ((frl_spl_52  100000 (σ, 0, 2) o18 h1).mono (by decide))
  obtain rfl := Option.some.inj h
  exact f2
section TOW
variable {M : MI} {p : Program} {l : Launch} {e : Env} {R : Room} {s : State} {m : MethodId} {args : Array Value} {below : List Frame} {meth : Method} {c : Code} {D : va_G} {tc : Nat → ClassId} {A : Nat → Prop} {Q : State → Prop} {kc ks : Nat} {pc : Nat} {ls ls' : List (Nat × Value)} {ws : va_W}
theorem Ec_toW {S : List (Nat × List Nat)} {ad : Nat → Nat} {σ : Sg} (hC : CxC M p s m args meth c D tc A) (hws : ws = wsG S tc ad σ) (hls : ls = ls'.map (fun q => (q.1, cv ad q.2))) (k : CxW S M p s m args meth c D tc ad A → Ew S M p l e R s m args below meth c D tc ad A Q kc ks pc ls' [] σ) : Ec M p l e R s m args below meth c D A Q ws kc ks pc ls [] := by
  intro H locs LS hP hD hS hl
  subst hws; subst hls
  obtain ⟨C1, C2, C3, C4, C5, C6, C7, C8, C9, C10, C11⟩ := hC
  have hI : InjG S ad := fun i j hi hj he => by
    have h1 := wsG_at S tc ad σ (List.getElem?_eq_getElem hi)
    have h2 := wsG_at S tc ad σ (List.getElem?_eq_getElem hj)
    exact hD.1 i j _ _ h1 h2 he
  have hA : ∀ k, k < S.length → A (ad k) := fun k hk => hD.2 k _ (wsG_at S tc ad σ (List.getElem?_eq_getElem hk))
  exact k ⟨C1, C2, C3, C4, C5, C6, C7, C8, C9, hI, hA⟩ H locs LS hP hS hl
end TOW
set_option maxRecDepth 100000 in
set_option maxHeartbeats 8000000 in
theorem w_c_X7_init (tc : Nat → ClassId) (h0 : Nat) : CalC M_X7_init 2 5 2228 tc [.ref h0] [(h0, .inr (7, [.null, .null, .null, .null, .null, .int 0]))] (Bc_X7_init tc h0) := by
  refine CalC.of (by decide +kernel) (Nat.le_of_ble_eq_true rfl) rfl (fun p l e s m args below meth c D hC hin => ?_)
  show Ec _ _ _ _ _ _ _ _ _ _ _ _ _ _ [(h0, .inr (7, [.null, .null, .null, .null, .null, .int 0]))] _ _ _ [(0, .ref h0)] _
  refine Ec_aload_n hC 0 (dt_X7_init.at 0 rfl) rfl ?_
  refine Ec_objInit hC (dt_X7_init.at 1 rfl) oi_X7 ⟨Nat.le_of_ble_eq_true rfl, Nat.le_of_ble_eq_true rfl⟩ ?_
  refine Ec_aload_n hC 0 (dt_X7_init.at 2 rfl) rfl ?_
  refine Ec_bipush hC (dt_X7_init.at 3 rfl) kb_84 ?_
  refine Ec_newI hC (N := 84) (dt_X7_init.at 4 rfl) (by decide) (by decide +kernel) (Nat.le_of_ble_eq_true rfl) ⟨Nat.le_of_ble_eq_true rfl, Nat.le_of_ble_eq_true rfl⟩ ac_int (fun q1 => ?_)
  refine Ec_putF hC hin 0 (dt_X7_init.at 5 rfl) fc_X7_11 rfl rfl rfl (Nat.le_of_ble_eq_true rfl) (ws' := [(h0, .inr (7, [.ref q1, .null, .null, .null, .null, .int 0])), (q1, .inl (tc 0, 84, .inl (fun _ => 0)))]) rfl ?_
  refine Ec_aload_n hC 0 (dt_X7_init.at 6 rfl) rfl ?_
  refine Ec_sipush hC (dt_X7_init.at 7 rfl) ks_512 ?_
  refine Ec_newJ hC (N := 512) (dt_X7_init.at 8 rfl) (by decide) (by decide +kernel) (Nat.le_of_ble_eq_true rfl) ⟨Nat.le_of_ble_eq_true rfl, Nat.le_of_ble_eq_true rfl⟩ ac_long (fun q2 => ?_)
  refine Ec_putF hC hin 0 (dt_X7_init.at 9 rfl) fc_X7_15 rfl rfl rfl (Nat.le_of_ble_eq_true rfl) (ws' := [(h0, .inr (7, [.ref q1, .ref q2, .null, .null, .null, .int 0])), (q1, .inl (tc 0, 84, .inl (fun _ => 0))), (q2, .inl (tc 2, 512, .inr (.inl (fun _ => 0))))]) rfl ?_
  refine Ec_aload_n hC 0 (dt_X7_init.at 10 rfl) rfl ?_
  refine Ec_sipush hC (dt_X7_init.at 11 rfl) ks_512 ?_
  refine Ec_newI hC (N := 512) (dt_X7_init.at 12 rfl) (by decide) (by decide +kernel) (Nat.le_of_ble_eq_true rfl) ⟨Nat.le_of_ble_eq_true rfl, Nat.le_of_ble_eq_true rfl⟩ ac_int (fun q3 => ?_)
  refine Ec_putF hC hin 0 (dt_X7_init.at 13 rfl) fc_X7_19 rfl rfl rfl (Nat.le_of_ble_eq_true rfl) (ws' := [(h0, .inr (7, [.ref q1, .ref q2, .ref q3, .null, .null, .int 0])), (q1, .inl (tc 0, 84, .inl (fun _ => 0))), (q2, .inl (tc 2, 512, .inr (.inl (fun _ => 0)))), (q3, .inl (tc 0, 512, .inl (fun _ => 0)))]) rfl ?_
  refine Ec_aload_n hC 0 (dt_X7_init.at 14 rfl) rfl ?_
  refine Ec_sipush hC (dt_X7_init.at 15 rfl) ks_840 ?_
  refine Ec_newI hC (N := 840) (dt_X7_init.at 16 rfl) (by decide) (by decide +kernel) (Nat.le_of_ble_eq_true rfl) ⟨Nat.le_of_ble_eq_true rfl, Nat.le_of_ble_eq_true rfl⟩ ac_int (fun q4 => ?_)
  refine Ec_putF hC hin 0 (dt_X7_init.at 17 rfl) fc_X7_22 rfl rfl rfl (Nat.le_of_ble_eq_true rfl) (ws' := [(h0, .inr (7, [.ref q1, .ref q2, .ref q3, .ref q4, .null, .int 0])), (q1, .inl (tc 0, 84, .inl (fun _ => 0))), (q2, .inl (tc 2, 512, .inr (.inl (fun _ => 0)))), (q3, .inl (tc 0, 512, .inl (fun _ => 0))), (q4, .inl (tc 0, 840, .inl (fun _ => 0)))]) rfl ?_
  refine Ec_aload_n hC 0 (dt_X7_init.at 18 rfl) rfl ?_
  refine Ec_sipush hC (dt_X7_init.at 19 rfl) ks_280 ?_
  refine Ec_newJ hC (N := 280) (dt_X7_init.at 20 rfl) (by decide) (by decide +kernel) (Nat.le_of_ble_eq_true rfl) ⟨Nat.le_of_ble_eq_true rfl, Nat.le_of_ble_eq_true rfl⟩ ac_long (fun q5 => ?_)
  refine Ec_putF hC hin 0 (dt_X7_init.at 21 rfl) fc_X7_25 rfl rfl rfl (Nat.le_of_ble_eq_true rfl) (ws' := [(h0, .inr (7, [.ref q1, .ref q2, .ref q3, .ref q4, .ref q5, .int 0])), (q1, .inl (tc 0, 84, .inl (fun _ => 0))), (q2, .inl (tc 2, 512, .inr (.inl (fun _ => 0)))), (q3, .inl (tc 0, 512, .inl (fun _ => 0))), (q4, .inl (tc 0, 840, .inl (fun _ => 0))), (q5, .inl (tc 2, 280, .inr (.inl (fun _ => 0))))]) rfl ?_
  obtain ⟨τ, hτ⟩ := Option.isSome_iff_exists.mp spl_ok
  have hfr := fr_spl sgZ τ hτ
  refine Ec_toW (S := S7) (ad := fun k => [h0, q1, q2, q3, q4, q5].getD k 0) (σ := sgZ) (ls' := [(0, .ref 0)]) hC rfl rfl (fun hW => w_spl hW ⟨Nat.le_of_ble_eq_true rfl, Nat.le_of_ble_eq_true rfl⟩ ⟨Nat.le_of_ble_eq_true rfl, Nat.le_of_ble_eq_true rfl⟩ sgZ hτ (fun pc pc' ls hd => ?_))
  intro H locs LS hP hS hl
  obtain ⟨h1, rfl⟩ := hd
  have e0 : gI τ 0 = gI sgZ 0 := (hfr 0 (by decide)).1
  have e3 : gI τ 3 = gI sgZ 3 := (hfr 3 (by decide)).1
  have e4 : gI τ 4 = gI sgZ 4 := (hfr 4 (by decide)).1
  have e5 : gL τ 5 = gL sgZ 5 := (hfr 5 (by decide)).2.1
  have hw : wsG S7 tc (fun k => [h0, q1, q2, q3, q4, q5].getD k 0) τ = [(h0, .inr (7, [.ref q1, .ref q2, .ref q3, .ref q4, .ref q5, .int (gI τ 0 5)])), (q1, .inl (tc 0, 84, .inl (gI τ 1))), (q2, .inl (tc 2, 512, .inr (.inl (gL τ 2)))), (q3, .inl (tc 0, 512, .inl (gI τ 3))), (q4, .inl (tc 0, 840, .inl (gI τ 4))), (q5, .inl (tc 2, 280, .inr (.inl (gL τ 5))))] := rfl
  rw [e0, e3, e4, e5] at hw
  have hB : Bc_X7_init tc h0 (wsG S7 tc (fun k => [h0, q1, q2, q3, q4, q5].getD k 0) τ) := ⟨q1, q2, q3, q4, q5, gI τ 1, gL τ 2, ⟨τ, hτ, rfl, rfl⟩, hw⟩
  exact W.vret hC.1 hC.2.1 (hC.2.2.2.1.trans rfl) (fun t ht hWm => ⟨rfl, ⟨_, hB, by rw [ht]; exact hP, wsG_D tc hW.2.2.2.2.2.2.2.2.2.1 hW.2.2.2.2.2.2.2.2.2.2 τ⟩, hS.F ht⟩) hS.2.2 h1 hC.2.2.2.2.2.2.1
