/-! CALLS over Ev: what the tables say of a call (CF..), and the rows -/
def CFn (Z : MI) (n : Nat) : Prop := codeW Z ∈ tbl ∧ Cond.initialized Z.1.cls ∈ tbl ∧ Z.2.2.1 ≤ 26 ∧ (Z.1.cls ≠ "java/lang/invoke/MethodHandle" ∧ Z.1.cls ≠ "java/lang/invoke/VarHandle" ∧ (parseMethodDescriptor Z.1.desc).map (fun d => d.parameters.length) = some n)
def CFV (own : String) (ix : Nat) (Z : MI) (n : Nat) : Prop := CFn Z n ∧ (Cond.methodLink own ix Z.1 ∈ tbl ∨ ∃ host, Cond.methodLinkNest own ix Z.1 host ∈ nst) ∧ Cond.instanceMethod Z.1 ∈ tbl ∧ Cond.selects Z.1.cls Z.1 Z.1 ∈ tbl
def CFS (own : String) (ix : Nat) (Z : MI) (n : Nat) : Prop := CFn Z n ∧ (Cond.methodLink own ix Z.1 ∈ tbl ∨ ∃ host, Cond.methodLinkNest own ix Z.1 host ∈ nst) ∧ Cond.static Z.1 ∈ tbl
/-- the receiver is a C, the named method x, declared in x's own class; Z is run -/
def CFO (own : String) (ix : Nat) (C : String) (x : MethodName) (Z : MI) (n : Nat) : Prop := CFn Z n ∧ Cond.methodLink own ix x ∈ tbl ∧ Cond.sameMethod x.cls x.cls x.name x.desc ∈ tbl ∧ Cond.instanceMethod x ∈ tbl ∧ Cond.selects C x Z.1 ∈ tbl ∧ Cond.instanceMethod Z.1 ∈ tbl ∧ (∃ b0 m0 r0, Cond.code x b0 m0 r0 ∈ tbl) ∧ (x.cls ≠ "java/lang/invoke/MethodHandle" ∧ x.cls ≠ "java/lang/invoke/VarHandle" ∧ (parseMethodDescriptor x.desc).map (fun d => d.parameters.length) = some n)
/-- the receiver is a C, the named method x is inherited from the class of Z -/
def CFU (own : String) (ix : Nat) (C : String) (x : MethodName) (Z : MI) (n : Nat) : Prop := CFn Z n ∧ Cond.methodLink own ix x ∈ tbl ∧ Cond.sameMethod x.cls Z.1.cls x.name x.desc ∈ tbl ∧ Cond.selects C x Z.1 ∈ tbl ∧ Cond.instanceMethod Z.1 ∈ tbl ∧ Z.1 = ⟨Z.1.cls, x.name, x.desc⟩ ∧ (parseMethodDescriptor x.desc).map (fun d => d.parameters.length) = some n
theorem rm_ok {dz d m : Nat} (h : dz < d) (hm : m ≤ 26) : (rmd dz).frames + 1 ≤ (rmd d).frames ∧ 8 + (m + 11) + (rmd dz).locals ≤ (rmd d).locals := by
  show dz + 1 ≤ d ∧ 8 + (m + 11) + 45 * dz ≤ 45 * d
  omega
theorem vk_R3_same {ad : Nat → Nat} {u U : State} (hv : U.vm = u.vm) (h : vk_R RX10 51 "places" (ad 90) u ∧ vk_R RX10 64 "person" (ad 91) u ∧ vk_R RX10 72 "errand" (ad 92) u) : vk_R RX10 51 "places" (ad 90) U ∧ vk_R RX10 64 "person" (ad 91) U ∧ vk_R RX10 72 "errand" (ad 92) U := ⟨vk_R.same hv h.1, vk_R.same hv h.2.1, vk_R.same hv h.2.2⟩
theorem SX_same {ad : Nat → Nat} {u U : State} {H : Heap} (hv : u.vm = U.vm) (h : SX ad u H) : SX ad U H := by
  have ha : u.vm.Alike U.vm := by rw [hv]; exact Vm.Alike.refl U.vm
  exact ⟨h.1.moved ha, vk_R3_same hv.symm h.2.1, h.2.2.1.moved ha, h.2.2.2.imp (fun z => z.moved ha) (fun z => z.moved ha)⟩
theorem SX_warm {ad : Nat → Nat} {s U : State} {H : Heap} (hW : s.WarmedH U.vm) (h : SX ad s H) : SX ad U H :=
  ⟨h.1.moved hW.alike, ⟨vk_R.warm hW h.2.1.1, vk_R.warm hW h.2.1.2.1, vk_R.warm hW h.2.1.2.2⟩, h.2.2.1.moved hW.alike, h.2.2.2.imp (fun z => z.moved hW.alike) (fun z => z.moved hW.alike)⟩
theorem SX_kept {ad : Nat → Nat} {s : State} {H0 H : Heap} {locs : List Loc} (h : SX ad s H0) (hS : va_S (Ao ad) H0 H locs) : SX ad s H :=
  ⟨h.1.kept hS.2.1, h.2.1, h.2.2.1.kept hS.2.1, h.2.2.2.imp (fun z => z.kept hS.2.1) (fun z => z.kept hS.2.1)⟩
theorem Po_blind {D : va_G} {tc : Nat → ClassId} {ad : Nat → Nat} {av : List Value} {σ : Sg} : FrameBlind (Po D tc ad av σ) := fun a U g mk q => ⟨q.1, q.2.1, va_K.moved (u := U) (U := U.calling g mk a) (Vm.Alike.refl U.vm) q.2.2.1, nst_same (u := U) (U := U.calling g mk a) rfl q.2.2.2.1, SX_same (u := U) (U := U.calling g mk a) rfl q.2.2.2.2⟩
theorem Po_now {D : va_G} {tc : Nat → ClassId} {ad : Nat → Nat} {av : List Value} {σ : Sg} {s : State} {H : Heap} (hP : va_P D vwCl (wsO tc ad σ) H) (hK : va_K D vwCl (tysO tc) s) (hN : ∀ w ∈ nst, va_Nw w s) (hX : SX ad s H) : ∀ U : State, U.heap = H → s.WarmedH U.vm → Po D tc ad av σ (av.map (cv ad)).toArray U := fun U hU hW => ⟨rfl, by rw [hU]; exact hP, va_K.moved hW.alike hK, nst_warm hW hN, by rw [hU]; exact SX_warm hW hX⟩
theorem cat_cv (ad : Nat → Nat) (st : List Value) : ((st.map (cv ad)).map fun v => v.category).sum = (st.map fun v => v.category).sum := by
  rw [List.map_map]
  congr 1
  apply List.map_congr_left
  intro v _
  exact cv_cat ad v
section EVC
variable {M Z : MI} {d dz n ix : Nat} {r r1 : Option Value} {τ σ σ1 : Sg} {pc pc' : Nat} {ls : List (Nat × Value)} {st stk st' : List Value} {As : List Value}
theorem W_back {p : Program} {l : Launch} {e : Env} {R : Room} {s : State} {m : MethodId} {args : Array Value} {below : List Frame} {meth : Method} {c : Code} {D : va_G} {tc : Nat → ClassId} {ad : Nat → Nat} {H : Heap} {locs : List Loc} {LS : Array Slot} {ST REST : List Value} {a : Array Value} {Q : State → Prop}
    (hr : va_Run p l e R s m args below meth c H locs 0 0 0 0 (F0 m pc LS ST) REST (Qo D tc ad r1 σ1 a) (Ao ad)) (hS : va_S (Ao ad) s.heap H locs)
    (kk : ∀ (H1 : Heap) (locs1 : List Loc), va_P D vwCl (wsO tc ad σ1) H1 → va_S (Ao ad) s.heap H1 locs1 → W p l e R s m args below meth c H1 locs1 0 0 Q (F0 m (pc + 3) LS ((r1.map (cv ad)).toList ++ REST))) : W p l e R s m args below meth c H locs 0 0 Q (F0 m pc LS ST) := by
  intro T hT X
  obtain ⟨v, st₀, t, T', L, h0, X', hL, e1, e2, ⟨hv, hP, hz, hk⟩, stp⟩ := hr T hT X
  cases hv
  rw [h0] at hz hk
  have hS1 : va_S (Ao ad) s.heap T'.heap (locs ++ L) := ⟨Nat.le_trans hS.1 (by rw [e1]; exact hz), fun q h1 h2 => by rw [e1, hk q (Nat.lt_of_lt_of_le h1 hS.1) h2]; exact hS.2.1 q h1 h2, fun q hq => by
      rcases List.mem_append.mp hq with h | h
      · exact hS.2.2 q h
      · exact hL q h⟩
  obtain ⟨t2, a1, b1⟩ := kk T'.heap (locs ++ L) (by rw [e1]; exact hP) hS1 T' rfl X'
  exact ⟨t2, stp t2 a1, b1⟩
theorem Ev_callV {k ci : Nat} {fl : List Nat} (As : List Value) (hd : Dc M.2.1 pc (.invokevirtual ix) 3 pc') (cf : CFV M.1.cls ix Z n) (hz : Cal Z dz (.ref k :: As) σ r1 σ1) (hlt : dz < d) (hs : SK[k]? = some (ci, fl)) (hc : (vwCl[ci]?).map (fun q => q.1) = some Z.1.cls) (hn : As.length = n) (hst : stk = As.reverse ++ .ref k :: st) (hroom : (st.map fun v => v.category).sum ≤ 8) (hst' : r1.toList ++ st = st') (kk : Ev M d r τ pc' ls st' σ1) : Ev M d r τ pc ls stk σ := by
  obtain ⟨h1, rfl⟩ := hd
  subst hst; subst hst'
  obtain ⟨⟨f1, f2, f3, f4⟩, f5, f6, f7⟩ := cf
  intro p l e R s m args below meth c D tc ad C H locs LS hP hS hl
  obtain ⟨C1, C2, C3, C4, C5, C6, C7, C8, C9, C10, rfl, C12⟩ := C
  have hwz := wz_tbl f1
  have ha := wsO_at tc ad σ hs
  cases hv : vwCl[ci]? with
  | none => rw [hv] at hc; cases hc
  | some q =>
  rw [hv] at hc
  have hci : ci < 100 := Nat.lt_of_lt_of_le (List.getElem?_eq_some_iff.mp hv).1 (by decide)
  rw [ent_obj hci] at ha
  have hrecv := va_recv C8 hP hv ha
  have hc2 : q.1 = _ := Option.some.inj hc
  rw [hc2] at hrecv
  have hstk : (As.reverse ++ .ref k :: st).map (cv ad) = (As.map (cv ad)).reverse ++ .ref (ad k) :: st.map (cv ad) := by rw [List.map_append, List.map_reverse]; rfl
  rw [hstk]
  refine W_back (σ1 := σ1) (r1 := r1) (REST := st.map (cv ad)) (a := ((.ref k :: As).map (cv ad)).toArray) (D := D) (tc := tc) (ad := ad) ?_ hS (fun H1 locs1 hP1 hS1 => ?_)
  · rcases f5 with f5 | ⟨host, f5⟩
    · exact va_runV (b := ad k) (As := As.map (cv ad)) (rest := st.map (cv ad)) ⟨C1, C2, C3, C6, C5⟩ (hz l D tc ad C10) (cwV n C5 (goodT (fun _ h => h) (fun w hw => by
          rcases List.mem_append.mp hw with hw | hw
          · simp only [List.mem_cons, List.not_mem_nil, or_false] at hw
            rcases hw with rfl | rfl | rfl | rfl
            · exact f5
            · exact f6
            · exact f7
            · exact f2
          · exact hwz w hw)) rfl rfl rfl ⟨rfl, f4⟩ (rm_ok hlt f3)) ⟨Po_blind, hrecv, Po_now (av := .ref k :: As) hP C8 C9 (SX_kept C12 hS)⟩ rfl (by rw [List.length_map]; exact hn) hl.1 rfl (lv_room (by rw [cat_cv]; exact hroom)) h1 ⟨Nat.zero_le _, Nat.zero_le _⟩
    · exact va_runVN (b := ad k) (As := As.map (cv ad)) (rest := st.map (cv ad)) ⟨C1, C2, C3, C6, C5⟩ (hz l D tc ad C10) ⟨va_cnB n C5 (goodT (fun _ h => h) hwz) rfl rfl rfl (C9 _ f5) (C5 _ f2) f4 (rm_ok hlt f3), C5 _ f6, C5 _ f7⟩ ⟨Po_blind, hrecv, Po_now (av := .ref k :: As) hP C8 C9 (SX_kept C12 hS)⟩ rfl (by rw [List.length_map]; exact hn) hl.1 rfl (lv_room (by rw [cat_cv]; exact hroom)) h1 ⟨Nat.zero_le _, Nat.zero_le _⟩
  · have hk := kk p l e _ s m args below meth c D tc ad ⟨C1, C2, C3, C4, C5, C6, C7, C8, C9, C10, rfl, C12⟩ H1 locs1 LS hP1 hS1 hl
    rw [List.map_append] at hk
    cases r1 <;> exact hk
theorem Ev_callS (As : List Value) (hd : Dc M.2.1 pc (.invokestatic ix) 3 pc') (cf : CFS M.1.cls ix Z n) (hz : Cal Z dz As σ r1 σ1) (hlt : dz < d) (hn : As.length = n) (hst : stk = As.reverse ++ st) (hroom : (st.map fun v => v.category).sum ≤ 8) (hst' : r1.toList ++ st = st') (kk : Ev M d r τ pc' ls st' σ1) : Ev M d r τ pc ls stk σ := by
  obtain ⟨h1, rfl⟩ := hd
  subst hst; subst hst'
  obtain ⟨⟨f1, f2, f3, f4⟩, f5, f6⟩ := cf
  intro p l e R s m args below meth c D tc ad C H locs LS hP hS hl
  obtain ⟨C1, C2, C3, C4, C5, C6, C7, C8, C9, C10, rfl, C12⟩ := C
  have hwz := wz_tbl f1
  have hstk : (As.reverse ++ st).map (cv ad) = (As.map (cv ad)).reverse ++ st.map (cv ad) := by rw [List.map_append, List.map_reverse]
  rw [hstk]
  refine W_back (σ1 := σ1) (r1 := r1) (REST := st.map (cv ad)) (a := (As.map (cv ad)).toArray) (D := D) (tc := tc) (ad := ad) ?_ hS (fun H1 locs1 hP1 hS1 => ?_)
  · rcases f5 with f5 | ⟨host, f5⟩
    · exact va_runS (As := As.map (cv ad)) (rest := st.map (cv ad)) ⟨C1, C2, C3, C6, C5⟩ (hz l D tc ad C10) (va_cwS n C5 (goodT (fun _ h => h) (fun w hw => by
          rcases List.mem_append.mp hw with hw | hw
          · simp only [List.mem_cons, List.not_mem_nil, or_false] at hw
            rcases hw with rfl | rfl | rfl
            · exact f5
            · exact f6
            · exact f2
          · exact hwz w hw)) rfl rfl rfl f4 (rm_ok hlt f3)) ⟨Po_blind, Po_now (av := As) hP C8 C9 (SX_kept C12 hS)⟩ rfl (by rw [List.length_map]; exact hn) hl.1 rfl (lv_room (by rw [cat_cv]; exact hroom)) h1 ⟨Nat.zero_le _, Nat.zero_le _⟩
    · exact va_runSN (As := As.map (cv ad)) (rest := st.map (cv ad)) ⟨C1, C2, C3, C6, C5⟩ (hz l D tc ad C10) ⟨va_cnB n C5 (goodT (fun _ h => h) hwz) rfl rfl rfl (C9 _ f5) (C5 _ f2) f4 (rm_ok hlt f3), C5 _ f6, trivial⟩ ⟨Po_blind, Po_now (av := As) hP C8 C9 (SX_kept C12 hS)⟩ rfl (by rw [List.length_map]; exact hn) hl.1 rfl (lv_room (by rw [cat_cv]; exact hroom)) h1 ⟨Nat.zero_le _, Nat.zero_le _⟩
  · have hk := kk p l e _ s m args below meth c D tc ad ⟨C1, C2, C3, C4, C5, C6, C7, C8, C9, C10, rfl, C12⟩ H1 locs1 LS hP1 hS1 hl
    rw [List.map_append] at hk
    cases r1 <;> exact hk
theorem Ev_callX {C0 owner : String} {x : MethodName} {k ci : Nat} {fl : List Nat} (As : List Value) (hd : Dc M.2.1 pc (.invokevirtual ix) 3 pc') (cf : CFn Z n) (cw : ∀ (R : Room) (s : State) (args : Array Value), (∀ w ∈ tbl, w.before args s = true) → ((rmd dz).frames + 1 ≤ R.frames ∧ 8 + (Z.2.2.1 + 11) + (rmd dz).locals ≤ R.locals) → va_CU R s args M.1.cls C0 owner ix x Z.1 Z.2.1 Z.2.2.1 Z.2.2.2 (wz Z) (rmd dz) 0 0 n) (hz : Cal Z dz (.ref k :: As) σ r1 σ1) (hlt : dz < d) (hs : SK[k]? = some (ci, fl)) (hc : (vwCl[ci]?).map (fun q => q.1) = some C0) (hn : As.length = n) (hst : stk = As.reverse ++ .ref k :: st) (hroom : (st.map fun v => v.category).sum ≤ 8) (hst' : r1.toList ++ st = st') (kk : Ev M d r τ pc' ls st' σ1) : Ev M d r τ pc ls stk σ := by
  obtain ⟨h1, rfl⟩ := hd
  subst hst; subst hst'
  obtain ⟨f1, f2, f3, f4⟩ := cf
  intro p l e R s m args below meth c D tc ad C H locs LS hP hS hl
  obtain ⟨C1, C2, C3, C4, C5, C6, C7, C8, C9, C10, rfl, C12⟩ := C
  have ha := wsO_at tc ad σ hs
  cases hv : vwCl[ci]? with
  | none => rw [hv] at hc; cases hc
  | some q =>
  rw [hv] at hc
  have hci : ci < 100 := Nat.lt_of_lt_of_le (List.getElem?_eq_some_iff.mp hv).1 (by decide)
  rw [ent_obj hci] at ha
  have hrecv := va_recv C8 hP hv ha
  have hc2 : q.1 = _ := Option.some.inj hc
  rw [hc2] at hrecv
  have hstk : (As.reverse ++ .ref k :: st).map (cv ad) = (As.map (cv ad)).reverse ++ .ref (ad k) :: st.map (cv ad) := by rw [List.map_append, List.map_reverse]; rfl
  rw [hstk]
  refine W_back (σ1 := σ1) (r1 := r1) (REST := st.map (cv ad)) (a := ((.ref k :: As).map (cv ad)).toArray) (D := D) (tc := tc) (ad := ad) ?_ hS (fun H1 locs1 hP1 hS1 => ?_)
  · exact va_runU (b := ad k) (As := As.map (cv ad)) (rest := st.map (cv ad)) ⟨C1, C2, C3, C6, C5⟩ (hz l D tc ad C10) (cw _ s args C5 (rm_ok hlt f3)) ⟨Po_blind, hrecv, Po_now (av := .ref k :: As) hP C8 C9 (SX_kept C12 hS)⟩ rfl (by rw [List.length_map]; exact hn) hl.1 rfl (lv_room (by rw [cat_cv]; exact hroom)) h1 ⟨Nat.zero_le _, Nat.zero_le _⟩
  · have hk := kk p l e _ s m args below meth c D tc ad ⟨C1, C2, C3, C4, C5, C6, C7, C8, C9, C10, rfl, C12⟩ H1 locs1 LS hP1 hS1 hl
    rw [List.map_append] at hk
    cases r1 <;> exact hk
theorem Ev_callO {C0 : String} {x : MethodName} {k ci : Nat} {fl : List Nat} (As : List Value) (hd : Dc M.2.1 pc (.invokevirtual ix) 3 pc') (cf : CFO M.1.cls ix C0 x Z n) (hz : Cal Z dz (.ref k :: As) σ r1 σ1) (hlt : dz < d) (hs : SK[k]? = some (ci, fl)) (hc : (vwCl[ci]?).map (fun q => q.1) = some C0) (hn : As.length = n) (hst : stk = As.reverse ++ .ref k :: st) (hroom : (st.map fun v => v.category).sum ≤ 8) (hst' : r1.toList ++ st = st') (kk : Ev M d r τ pc' ls st' σ1) : Ev M d r τ pc ls stk σ := by
  obtain ⟨f0, f1, f2, f3, f4, f5, ⟨b0, m0, r0, f6⟩, f7⟩ := cf
  have hwz := wz_tbl f0.1
  refine Ev_callX (C0 := C0) (owner := x.cls) (x := x) As hd f0 (fun R s args hts hR => va_cwO n hts (goodT (fun _ h => h) (fun w hw => ?_)) rfl rfl rfl (b0 := b0) (m0 := m0) (r0 := r0) f6 f7 hR) hz hlt hs hc hn hst hroom hst' kk
  rcases List.mem_append.mp hw with hw | hw
  · simp only [List.mem_cons, List.not_mem_nil, or_false] at hw
    rcases hw with rfl | rfl | rfl | rfl | rfl | rfl
    · exact f1
    · exact f2
    · exact f3
    · exact f4
    · exact f5
    · exact f0.2.1
  · exact hwz w hw
theorem Ev_callU {C0 : String} {x : MethodName} {k ci : Nat} {fl : List Nat} (As : List Value) (hd : Dc M.2.1 pc (.invokevirtual ix) 3 pc') (cf : CFU M.1.cls ix C0 x Z n) (hz : Cal Z dz (.ref k :: As) σ r1 σ1) (hlt : dz < d) (hs : SK[k]? = some (ci, fl)) (hc : (vwCl[ci]?).map (fun q => q.1) = some C0) (hn : As.length = n) (hst : stk = As.reverse ++ .ref k :: st) (hroom : (st.map fun v => v.category).sum ≤ 8) (hst' : r1.toList ++ st = st') (kk : Ev M d r τ pc' ls st' σ1) : Ev M d r τ pc ls stk σ := by
  obtain ⟨f0, f1, f2, f4, f5, f6, f7⟩ := cf
  have hwz := wz_tbl f0.1
  refine Ev_callX (C0 := C0) (owner := Z.1.cls) (x := x) As hd f0 (fun R s args hts hR => va_cwU n hts (goodT (fun _ h => h) (fun w hw => ?_)) rfl rfl rfl f6 ⟨f0.2.2.2.1, f0.2.2.2.2.1, f7⟩ hR) hz hlt hs hc hn hst hroom hst' kk
  rcases List.mem_append.mp hw with hw | hw
  · simp only [List.mem_cons, List.not_mem_nil, or_false] at hw
    rcases hw with rfl | rfl | rfl | rfl | rfl
    · exact f1
    · exact f2
    · exact f4
    · exact f5
    · exact f0.2.1
  · exact hwz w hw
/-- System.arraycopy over rows of ints -/
theorem Ev_copy {k0 k1 n0 n1 : Nat} {sp dp nn : Int32} (hd : Dc M.2.1 pc (.invokestatic ix) 3 pc') (hw : Cond.methodLink M.1.cls ix arraycopyName ∈ tbl ∧ Cond.native arraycopyName ∈ tbl ∧ Cond.static arraycopyName ∈ tbl ∧ Cond.initialized "java/lang/System" ∈ tbl) (hlt : 0 < d) (hs0 : SK[k0]? = some (100, [n0])) (hs1 : SK[k1]? = some (100, [n1])) (hin : 0 ≤ sp ∧ 0 ≤ dp ∧ 0 ≤ nn ∧ sp.toNatClampNeg + nn.toNatClampNeg ≤ n0 ∧ dp.toNatClampNeg + nn.toNatClampNeg ≤ n1) (hroom : (st.map fun v => v.category).sum ≤ 8) (kk : Ev M d r τ pc' ls st (cpI σ k0 sp.toNatClampNeg k1 dp.toNatClampNeg nn.toNatClampNeg)) : Ev M d r τ pc ls (.int nn :: .int dp :: .ref k1 :: .int sp :: .ref k0 :: st) σ := by
  obtain ⟨h1, rfl⟩ := hd
  obtain ⟨w1, w2, w3, w4⟩ := hw
  obtain ⟨i1, i2, i3, i4, i5⟩ := hin
  have neg : ∀ z : Int32, 0 ≤ z → ¬ z < 0 := fun z h q => by rw [Int32.le_iff_toInt_le] at h; rw [Int32.lt_iff_toInt_lt] at q; omega
  intro p l e R s m args below meth c D tc ad C H locs LS hP hS hl
  obtain ⟨C1, C2, C3, C4, C5, C6, C7, C8, C9, C10, rfl, C12⟩ := C
  refine va_copyi C1 C2 (C3.trans hl.1.symm) C6 (C5 _ w1) (C5 _ w2) (C5 _ w3) (C5 _ w4) C8 hP (wsO_D tc C10 σ) hS k0 k1 0 0 (wsO_at tc ad σ hs0) (wsO_at tc ad σ hs1) rfl rfl rfl (neg _ i1) (neg _ i2) (neg _ i3) i4 i5 (fun _ _ => rfl) (Nat.succ_le_of_lt hlt) ?_ h1 (fun H1 locs1 hP1 _ hS1 => ?_)
  · have e1 : nativeFrameWords "java/lang/System" "arraycopy" 5 = 7 := by decide
    rw [cat_cv, e1]
    show _ + (7 + 11) ≤ 45 * d
    omega
  · rw [wsO_set (τ := cpI σ k0 sp.toNatClampNeg k1 dp.toNatClampNeg nn.toNatClampNeg) hs1 ?_ ?_] at hP1
    · exact kk p l e _ s m args below meth c D tc ad ⟨C1, C2, C3, C4, C5, C6, C7, C8, C9, C10, rfl, C12⟩ H1 locs1 LS hP1 hS1 hl
    · show _ = (Sum.inl (tc 0, n1, Sum.inl (gI (cpI σ k0 sp.toNatClampNeg k1 dp.toNatClampNeg nn.toNatClampNeg) k1)) : va_E)
      have e2 : gI (cpI σ k0 sp.toNatClampNeg k1 dp.toNatClampNeg nn.toNatClampNeg) k1 = va_cpy (gI σ k0) (gI σ k1) sp.toNatClampNeg dp.toNatClampNeg nn.toNatClampNeg := by
        funext j
        simp only [gI_cpI, va_cpy, true_and]
      rw [e2]; rfl
    · intro j hj
      exact ⟨by funext a; simp [gI_cpI, hj], rfl, rfl⟩
end EVC
