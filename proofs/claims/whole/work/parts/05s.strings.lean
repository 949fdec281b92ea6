/-! the JDK's Strings over Ev: constant i lies at place 90 + i, its bytes at 93 + i -/
section EVS
variable {M Z : MI} {d dz n : Nat} {r r1 : Option Value} {τ σ σ1 : Sg} {pc pc' ix : Nat} {ls : List (Nat × Value)} {st stk st' : List Value}
theorem Cx_sx {M : MI} {d : Nat} {p : Program} {R : Room} {s : State} {m : MethodId} {args : Array Value} {meth : Method} {c : Code} {D : va_G} {tc : Nat → ClassId} {ad : Nat → Nat} (C : Cx M d p R s m args meth c D tc ad) : SX ad s s.heap := C.2.2.2.2.2.2.2.2.2.2.2
theorem Ev_ldcS0 (hd : Dc M.2.1 pc (.ldc 51) 2 pc') (ho : M.1.cls = RX10) (k : Ev M d r τ pc' ls (.ref 90 :: st) σ) : Ev M d r τ pc ls st σ := by
  obtain ⟨h1, rfl⟩ := hd
  intro p l e R s m args below meth c D tc ad C H locs LS hP hS hl
  exact va_ldcS (own := RX10) C.1 C.2.1 (by rw [← ho]; exact C.2.2.2.2.2.1) (Cx_sx C).2.1.1 h1 (k p l e R s m args below meth c D tc ad C H locs LS hP hS hl)
theorem Ev_ldcS1 (hd : Dc M.2.1 pc (.ldc 64) 2 pc') (ho : M.1.cls = RX10) (k : Ev M d r τ pc' ls (.ref 91 :: st) σ) : Ev M d r τ pc ls st σ := by
  obtain ⟨h1, rfl⟩ := hd
  intro p l e R s m args below meth c D tc ad C H locs LS hP hS hl
  exact va_ldcS (own := RX10) C.1 C.2.1 (by rw [← ho]; exact C.2.2.2.2.2.1) (Cx_sx C).2.1.2.1 h1 (k p l e R s m args below meth c D tc ad C H locs LS hP hS hl)
theorem Ev_ldcS2 (hd : Dc M.2.1 pc (.ldc 72) 2 pc') (ho : M.1.cls = RX10) (k : Ev M d r τ pc' ls (.ref 92 :: st) σ) : Ev M d r τ pc ls st σ := by
  obtain ⟨h1, rfl⟩ := hd
  intro p l e R s m args below meth c D tc ad C H locs LS hP hS hl
  exact va_ldcS (own := RX10) C.1 C.2.1 (by rw [← ho]; exact C.2.2.2.2.2.1) (Cx_sx C).2.1.2.2 h1 (k p l e R s m args below meth c D tc ad C H locs LS hP hS hl)
theorem Ev_sval (i : Nat) (hi : i < 3) (hd : Dc M.2.1 pc (.getfield ix) 3 pc') (hw : Cond.fieldLink M.1.cls ix "java/lang/String" "value" "[B" ∈ tbl) (k : Ev M d r τ pc' ls (.ref (93 + i) :: st) σ) : Ev M d r τ pc ls (.ref (90 + i) :: st) σ := by
  obtain ⟨h1, rfl⟩ := hd
  intro p l e R s m args below meth c D tc ad C H locs LS hP hS hl
  exact vk_getf C.1 C.2.1 ((Cx_sx C).1.1 i hi).2.2.1 hS C.2.2.2.2.2.1 (C.2.2.2.2.1 _ hw) (fun _ h => h) h1 (k p l e R s m args below meth c D tc ad C H locs LS hP hS hl)
theorem Ev_scod (i : Nat) (hi : i < 3) (hd : Dc M.2.1 pc (.getfield ix) 3 pc') (hw : Cond.fieldLink M.1.cls ix "java/lang/String" "coder" "B" ∈ tbl) (k : Ev M d r τ pc' ls (.int 0 :: st) σ) : Ev M d r τ pc ls (.ref (90 + i) :: st) σ := by
  obtain ⟨h1, rfl⟩ := hd
  intro p l e R s m args below meth c D tc ad C H locs LS hP hS hl
  exact vk_getf C.1 C.2.1 ((Cx_sx C).1.1 i hi).2.1 hS C.2.2.2.2.2.1 (C.2.2.2.2.1 _ hw) (fun _ h => h) h1 (k p l e R s m args below meth c D tc ad C H locs LS hP hS hl)
theorem Ev_getsC (hd : Dc M.2.1 pc (.getstatic ix) 3 pc') (hw : Cond.fieldLink M.1.cls ix "java/lang/String" "COMPACT_STRINGS" "Z" ∈ tbl) (k : Ev M d r τ pc' ls (.int 1 :: st) σ) : Ev M d r τ pc ls st σ := by
  obtain ⟨h1, rfl⟩ := hd
  intro p l e R s m args below meth c D tc ad C H locs LS hP hS hl
  exact va_gets C.1 C.2.1 (Cx_sx C).2.2.1 hS C.2.2.2.2.2.1 (C.2.2.2.2.1 _ hw) (fun _ h => h) h1 (k p l e R s m args below meth c D tc ad C H locs LS hP hS hl)
theorem Ev_slen (i : Nat) (hi : i < 3) {v : Int32} (hd : Dc M.2.1 pc .arraylength 1 pc') (hv : Int32.ofNat (lenW.getD i 0) = v) (k : Ev M d r τ pc' ls (.int v :: st) σ) : Ev M d r τ pc ls (.ref (93 + i) :: st) σ := by
  obtain ⟨h1, rfl⟩ := hd
  intro p l e R s m args below meth c D tc ad C H locs LS hP hS hl
  exact va_tlen C.1 C.2.1 ((Cx_sx C).1.1 i hi).2.2.2 hS hv h1 (k p l e R s m args below meth c D tc ad C H locs LS hP hS hl)
theorem Ev_sbyte (i : Nat) (hi : i < 3) {j : Int32} {N : Nat} (hN : lenW.getD i 0 = N) (hd : Dc M.2.1 pc .baload 1 pc') (hin : inB j N = true) (k : Ev M d r τ pc' ls (.int ((bytW.getD i []).getD j.toNatClampNeg 0) :: st) σ) : Ev M d r τ pc ls (.int j :: .ref (93 + i) :: st) σ := by
  obtain ⟨h1, rfl⟩ := hd
  subst hN
  intro p l e R s m args below meth c D tc ad C H locs LS hP hS hl
  exact va_tb C.1 C.2.1 ((Cx_sx C).1.1 i hi).2.2.2 hS (inB_vp hin) rfl h1 (k p l e R s m args below meth c D tc ad C H locs LS hP hS hl)
theorem Ev_i2c {x : Int32} (hd : Dc M.2.1 pc .i2c 1 pc') (k : Ev M d r τ pc' ls (.int (x.toUInt32 % 65536).toInt32 :: st) σ) : Ev M d r τ pc ls (.int x :: st) σ := by
  obtain ⟨h1, rfl⟩ := hd
  intro p l e R s m args below meth c D tc ad C H locs LS hP hS hl
  exact lv_i2c C.1 C.2.1 h1 rfl (k p l e R s m args below meth c D tc ad C H locs LS hP hS hl)
theorem Ev_bret {v x : Int32} (ty : FieldType) (hd : Dc M.2.1 pc .ireturn 1 pc') (hr : M.2.2.2 = some ty) (hz : narrow ty (.int v) = .int v) (h : some (v, σ) = some (x, τ)) : Ev M d (some (.int x)) τ pc ls [.int v] σ := by
  cases h
  obtain ⟨h1, rfl⟩ := hd
  intro p l e R s m args below meth c D tc ad C H locs LS hP hS hl
  exact W.zret (ty := ty) C.1 C.2.1 (C.2.2.2.1.trans hr) hz (fun t ht _ => Qo_of (v := some (.int v)) hP hS ht) hS.2.2 h1 C.2.2.2.2.2.2.1
/-- a method of a String constant -/
theorem Ev_callVS (i : Nat) (hi : i < 3) (As : List Value) (hd : Dc M.2.1 pc (.invokevirtual ix) 3 pc') (cf : CFV M.1.cls ix Z n) (hz : Cal Z dz (.ref (90 + i) :: As) σ r1 σ1) (hlt : dz < d) (hc : Z.1.cls = "java/lang/String") (hn : As.length = n) (hst : stk = As.reverse ++ .ref (90 + i) :: st) (hroom : (st.map fun v => v.category).sum ≤ 8) (hst' : r1.toList ++ st = st') (kk : Ev M d r τ pc' ls st' σ1) : Ev M d r τ pc ls stk σ := by
  obtain ⟨h1, rfl⟩ := hd
  subst hst; subst hst'
  obtain ⟨⟨f1, f2, f3, f4⟩, f5, f6, f7⟩ := cf
  intro p l e R s m args below meth c D tc ad C H locs LS hP hS hl
  obtain ⟨C1, C2, C3, C4, C5, C6, C7, C8, C9, C10, rfl, C12⟩ := C
  have hwz := wz_tbl f1
  have hrecv := vk_recv C12.1 hi hS
  rw [← hc] at hrecv
  have hstk : (As.reverse ++ .ref (90 + i) :: st).map (cv ad) = (As.map (cv ad)).reverse ++ .ref (ad (90 + i)) :: st.map (cv ad) := by rw [List.map_append, List.map_reverse]; rfl
  rw [hstk]
  refine W_back (σ1 := σ1) (r1 := r1) (REST := st.map (cv ad)) (a := ((.ref (90 + i) :: As).map (cv ad)).toArray) (D := D) (tc := tc) (ad := ad) ?_ hS (fun H1 locs1 hP1 hS1 => ?_)
  · rcases f5 with f5 | ⟨host, f5⟩
    · exact va_runV (b := ad (90 + i)) (As := As.map (cv ad)) (rest := st.map (cv ad)) ⟨C1, C2, C3, C6, C5⟩ (hz l D tc ad C10) (cwV n C5 (goodT (fun _ h => h) (fun w hw => by
          rcases List.mem_append.mp hw with hw | hw
          · simp only [List.mem_cons, List.not_mem_nil, or_false] at hw
            rcases hw with rfl | rfl | rfl | rfl
            · exact f5
            · exact f6
            · exact f7
            · exact f2
          · exact hwz w hw)) rfl rfl rfl ⟨rfl, f4⟩ (rm_ok hlt f3)) ⟨Po_blind, hrecv, Po_now (av := .ref (90 + i) :: As) hP C8 C9 (SX_kept C12 hS)⟩ rfl (by rw [List.length_map]; exact hn) hl.1 rfl (lv_room (by rw [cat_cv]; exact hroom)) h1 ⟨Nat.zero_le _, Nat.zero_le _⟩
    · exact va_runVN (b := ad (90 + i)) (As := As.map (cv ad)) (rest := st.map (cv ad)) ⟨C1, C2, C3, C6, C5⟩ (hz l D tc ad C10) ⟨va_cnB n C5 (goodT (fun _ h => h) hwz) rfl rfl rfl (C9 _ f5) (C5 _ f2) f4 (rm_ok hlt f3), C5 _ f6, C5 _ f7⟩ ⟨Po_blind, hrecv, Po_now (av := .ref (90 + i) :: As) hP C8 C9 (SX_kept C12 hS)⟩ rfl (by rw [List.length_map]; exact hn) hl.1 rfl (lv_room (by rw [cat_cv]; exact hroom)) h1 ⟨Nat.zero_le _, Nat.zero_le _⟩
  · have hk := kk p l e _ s m args below meth c D tc ad ⟨C1, C2, C3, C4, C5, C6, C7, C8, C9, C10, rfl, C12⟩ H1 locs1 LS hP1 hS1 hl
    rw [List.map_append] at hk
    cases r1 <;> exact hk
/-- the formatter: null or some reference, that nobody asks -/
theorem Ev_getsF (hd : Dc M.2.1 pc (.getstatic ix) 3 pc') (hw : Cond.fieldLink M.1.cls ix "jdk/internal/util/Preconditions" "SIOOBE_FORMATTER" "Ljava/util/function/BiFunction;" ∈ tbl) (k : ∀ v : Value, v = .null ∨ v = .ref 96 → Ev M d r τ pc' ls (v :: st) σ) : Ev M d r τ pc ls st σ := by
  obtain ⟨h1, rfl⟩ := hd
  intro p l e R s m args below meth c D tc ad C H locs LS hP hS hl
  rcases (Cx_sx C).2.2.2 with hZ | hZ
  · exact va_gets C.1 C.2.1 hZ hS C.2.2.2.2.2.1 (C.2.2.2.2.1 _ hw) (fun _ h => h) h1 (k .null (Or.inl rfl) p l e R s m args below meth c D tc ad C H locs LS hP hS hl)
  · exact va_gets C.1 C.2.1 hZ hS C.2.2.2.2.2.1 (C.2.2.2.2.1 _ hw) (fun _ h => h) h1 (k (.ref 96) (Or.inr rfl) p l e R s m args below meth c D tc ad C H locs LS hP hS hl)
end EVS
