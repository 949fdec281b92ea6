section EVR
variable {M : MI} {d : Nat} {r : Option Value} {τ : Sg} {pc pc' : Nat} {ls : List (Nat × Value)} {st : List Value} {σ : Sg}
theorem Ev_iadd {x y : Int32} (hd : Dc M.2.1 pc .iadd 1 pc')  (k : Ev M d r τ pc' ls (.int (x + y) :: st) σ) : Ev M d r τ pc ls (.int y :: .int x :: st) σ := by
  obtain ⟨h1, rfl⟩ := hd
  intro p l e R s m args below meth c D tc ad C H locs LS hP hS hl
  exact lv_iadd C.1 C.2.1 h1  (k p l e R s m args below meth c D tc ad C H locs LS hP hS hl)
theorem Ev_isub {x y : Int32} (hd : Dc M.2.1 pc .isub 1 pc')  (k : Ev M d r τ pc' ls (.int (x - y) :: st) σ) : Ev M d r τ pc ls (.int y :: .int x :: st) σ := by
  obtain ⟨h1, rfl⟩ := hd
  intro p l e R s m args below meth c D tc ad C H locs LS hP hS hl
  exact lv_isub C.1 C.2.1 h1  (k p l e R s m args below meth c D tc ad C H locs LS hP hS hl)
theorem Ev_imul {x y : Int32} (hd : Dc M.2.1 pc .imul 1 pc')  (k : Ev M d r τ pc' ls (.int (x * y) :: st) σ) : Ev M d r τ pc ls (.int y :: .int x :: st) σ := by
  obtain ⟨h1, rfl⟩ := hd
  intro p l e R s m args below meth c D tc ad C H locs LS hP hS hl
  exact lv_imul C.1 C.2.1 h1  (k p l e R s m args below meth c D tc ad C H locs LS hP hS hl)
theorem Ev_iand {x y : Int32} (hd : Dc M.2.1 pc .iand 1 pc')  (k : Ev M d r τ pc' ls (.int (x &&& y) :: st) σ) : Ev M d r τ pc ls (.int y :: .int x :: st) σ := by
  obtain ⟨h1, rfl⟩ := hd
  intro p l e R s m args below meth c D tc ad C H locs LS hP hS hl
  exact lv_iand C.1 C.2.1 h1  (k p l e R s m args below meth c D tc ad C H locs LS hP hS hl)
theorem Ev_ior {x y : Int32} (hd : Dc M.2.1 pc .ior 1 pc')  (k : Ev M d r τ pc' ls (.int (x ||| y) :: st) σ) : Ev M d r τ pc ls (.int y :: .int x :: st) σ := by
  obtain ⟨h1, rfl⟩ := hd
  intro p l e R s m args below meth c D tc ad C H locs LS hP hS hl
  exact lv_ior C.1 C.2.1 h1  (k p l e R s m args below meth c D tc ad C H locs LS hP hS hl)
theorem Ev_ixor {x y : Int32} (hd : Dc M.2.1 pc .ixor 1 pc')  (k : Ev M d r τ pc' ls (.int (x ^^^ y) :: st) σ) : Ev M d r τ pc ls (.int y :: .int x :: st) σ := by
  obtain ⟨h1, rfl⟩ := hd
  intro p l e R s m args below meth c D tc ad C H locs LS hP hS hl
  exact lv_ixor C.1 C.2.1 h1  (k p l e R s m args below meth c D tc ad C H locs LS hP hS hl)
theorem Ev_ishl {x y : Int32} (hd : Dc M.2.1 pc .ishl 1 pc')  (k : Ev M d r τ pc' ls (.int (x <<< (y &&& 31)) :: st) σ) : Ev M d r τ pc ls (.int y :: .int x :: st) σ := by
  obtain ⟨h1, rfl⟩ := hd
  intro p l e R s m args below meth c D tc ad C H locs LS hP hS hl
  exact lv_ishl C.1 C.2.1 h1  (k p l e R s m args below meth c D tc ad C H locs LS hP hS hl)
theorem Ev_ishr {x y : Int32} (hd : Dc M.2.1 pc .ishr 1 pc')  (k : Ev M d r τ pc' ls (.int (x >>> (y &&& 31)) :: st) σ) : Ev M d r τ pc ls (.int y :: .int x :: st) σ := by
  obtain ⟨h1, rfl⟩ := hd
  intro p l e R s m args below meth c D tc ad C H locs LS hP hS hl
  exact lv_ishr C.1 C.2.1 h1  (k p l e R s m args below meth c D tc ad C H locs LS hP hS hl)
theorem Ev_idiv {x y : Int32} (hd : Dc M.2.1 pc .idiv 1 pc') (hne : ¬ y = 0) (k : Ev M d r τ pc' ls (.int (x / y) :: st) σ) : Ev M d r τ pc ls (.int y :: .int x :: st) σ := by
  obtain ⟨h1, rfl⟩ := hd
  intro p l e R s m args below meth c D tc ad C H locs LS hP hS hl
  exact lv_idiv C.1 C.2.1 h1 hne (k p l e R s m args below meth c D tc ad C H locs LS hP hS hl)
theorem Ev_irem {x y : Int32} (hd : Dc M.2.1 pc .irem 1 pc') (hne : ¬ y = 0) (k : Ev M d r τ pc' ls (.int (x - x / y * y) :: st) σ) : Ev M d r τ pc ls (.int y :: .int x :: st) σ := by
  obtain ⟨h1, rfl⟩ := hd
  intro p l e R s m args below meth c D tc ad C H locs LS hP hS hl
  exact lv_irem C.1 C.2.1 h1 hne (k p l e R s m args below meth c D tc ad C H locs LS hP hS hl)
theorem Ev_iushr {x y : Int32} (hd : Dc M.2.1 pc .iushr 1 pc')  (k : Ev M d r τ pc' ls (.int (x.toUInt32 >>> (y.toUInt32 &&& Int32.toUInt32 31)).toInt32 :: st) σ) : Ev M d r τ pc ls (.int y :: .int x :: st) σ := by
  obtain ⟨h1, rfl⟩ := hd
  intro p l e R s m args below meth c D tc ad C H locs LS hP hS hl
  exact lv_iushr C.1 C.2.1 h1 rfl (k p l e R s m args below meth c D tc ad C H locs LS hP hS hl)
theorem Ev_ineg {x : Int32} (hd : Dc M.2.1 pc .ineg 1 pc')  (k : Ev M d r τ pc' ls (.int (-x) :: st) σ) : Ev M d r τ pc ls (.int x :: st) σ := by
  obtain ⟨h1, rfl⟩ := hd
  intro p l e R s m args below meth c D tc ad C H locs LS hP hS hl
  exact lv_ineg C.1 C.2.1 h1  (k p l e R s m args below meth c D tc ad C H locs LS hP hS hl)
theorem Ev_ladd {x y : Int64} (hd : Dc M.2.1 pc .ladd 1 pc')  (k : Ev M d r τ pc' ls (.long (x + y) :: st) σ) : Ev M d r τ pc ls (.long y :: .long x :: st) σ := by
  obtain ⟨h1, rfl⟩ := hd
  intro p l e R s m args below meth c D tc ad C H locs LS hP hS hl
  exact lv_ladd C.1 C.2.1 h1  (k p l e R s m args below meth c D tc ad C H locs LS hP hS hl)
theorem Ev_lsub {x y : Int64} (hd : Dc M.2.1 pc .lsub 1 pc')  (k : Ev M d r τ pc' ls (.long (x - y) :: st) σ) : Ev M d r τ pc ls (.long y :: .long x :: st) σ := by
  obtain ⟨h1, rfl⟩ := hd
  intro p l e R s m args below meth c D tc ad C H locs LS hP hS hl
  exact lv_lsub C.1 C.2.1 h1  (k p l e R s m args below meth c D tc ad C H locs LS hP hS hl)
theorem Ev_lmul {x y : Int64} (hd : Dc M.2.1 pc .lmul 1 pc')  (k : Ev M d r τ pc' ls (.long (x * y) :: st) σ) : Ev M d r τ pc ls (.long y :: .long x :: st) σ := by
  obtain ⟨h1, rfl⟩ := hd
  intro p l e R s m args below meth c D tc ad C H locs LS hP hS hl
  exact lv_lmul C.1 C.2.1 h1  (k p l e R s m args below meth c D tc ad C H locs LS hP hS hl)
theorem Ev_land {x y : Int64} (hd : Dc M.2.1 pc .land 1 pc')  (k : Ev M d r τ pc' ls (.long (x &&& y) :: st) σ) : Ev M d r τ pc ls (.long y :: .long x :: st) σ := by
  obtain ⟨h1, rfl⟩ := hd
  intro p l e R s m args below meth c D tc ad C H locs LS hP hS hl
  exact lv_land C.1 C.2.1 h1  (k p l e R s m args below meth c D tc ad C H locs LS hP hS hl)
theorem Ev_lor {x y : Int64} (hd : Dc M.2.1 pc .lor 1 pc')  (k : Ev M d r τ pc' ls (.long (x ||| y) :: st) σ) : Ev M d r τ pc ls (.long y :: .long x :: st) σ := by
  obtain ⟨h1, rfl⟩ := hd
  intro p l e R s m args below meth c D tc ad C H locs LS hP hS hl
  exact lv_lor C.1 C.2.1 h1  (k p l e R s m args below meth c D tc ad C H locs LS hP hS hl)
theorem Ev_ldiv {x y : Int64} (hd : Dc M.2.1 pc .ldiv 1 pc') (hne : ¬ y = 0) (k : Ev M d r τ pc' ls (.long (x / y) :: st) σ) : Ev M d r τ pc ls (.long y :: .long x :: st) σ := by
  obtain ⟨h1, rfl⟩ := hd
  intro p l e R s m args below meth c D tc ad C H locs LS hP hS hl
  exact lv_ldiv C.1 C.2.1 h1 hne (k p l e R s m args below meth c D tc ad C H locs LS hP hS hl)
theorem Ev_lrem {x y : Int64} (hd : Dc M.2.1 pc .lrem 1 pc') (hne : ¬ y = 0) (k : Ev M d r τ pc' ls (.long (x - x / y * y) :: st) σ) : Ev M d r τ pc ls (.long y :: .long x :: st) σ := by
  obtain ⟨h1, rfl⟩ := hd
  intro p l e R s m args below meth c D tc ad C H locs LS hP hS hl
  exact lv_lrem C.1 C.2.1 h1 hne (k p l e R s m args below meth c D tc ad C H locs LS hP hS hl)
theorem Ev_lneg {x : Int64} (hd : Dc M.2.1 pc .lneg 1 pc')  (k : Ev M d r τ pc' ls (.long (-x) :: st) σ) : Ev M d r τ pc ls (.long x :: st) σ := by
  obtain ⟨h1, rfl⟩ := hd
  intro p l e R s m args below meth c D tc ad C H locs LS hP hS hl
  exact lv_lneg C.1 C.2.1 h1  (k p l e R s m args below meth c D tc ad C H locs LS hP hS hl)
theorem Ev_lshl {x : Int64} {y : Int32} (hd : Dc M.2.1 pc .lshl 1 pc')  (k : Ev M d r τ pc' ls (.long (x <<< (y.toInt64 &&& 63)) :: st) σ) : Ev M d r τ pc ls (.int y :: .long x :: st) σ := by
  obtain ⟨h1, rfl⟩ := hd
  intro p l e R s m args below meth c D tc ad C H locs LS hP hS hl
  exact lv_lshl C.1 C.2.1 h1 rfl (k p l e R s m args below meth c D tc ad C H locs LS hP hS hl)
theorem Ev_lushr {x : Int64} {y : Int32} (hd : Dc M.2.1 pc .lushr 1 pc')  (k : Ev M d r τ pc' ls (.long (x.toUInt64 >>> (y.toInt64.toUInt64 &&& Int64.toUInt64 63)).toInt64 :: st) σ) : Ev M d r τ pc ls (.int y :: .long x :: st) σ := by
  obtain ⟨h1, rfl⟩ := hd
  intro p l e R s m args below meth c D tc ad C H locs LS hP hS hl
  exact lv_lushr C.1 C.2.1 h1 rfl (k p l e R s m args below meth c D tc ad C H locs LS hP hS hl)
theorem Ev_i2l {x : Int32} (hd : Dc M.2.1 pc .i2l 1 pc')  (k : Ev M d r τ pc' ls (.long x.toInt64 :: st) σ) : Ev M d r τ pc ls (.int x :: st) σ := by
  obtain ⟨h1, rfl⟩ := hd
  intro p l e R s m args below meth c D tc ad C H locs LS hP hS hl
  exact lv_i2l C.1 C.2.1 h1 rfl (k p l e R s m args below meth c D tc ad C H locs LS hP hS hl)
theorem Ev_l2i {x : Int64} (hd : Dc M.2.1 pc .l2i 1 pc')  (k : Ev M d r τ pc' ls (.int x.toInt32 :: st) σ) : Ev M d r τ pc ls (.long x :: st) σ := by
  obtain ⟨h1, rfl⟩ := hd
  intro p l e R s m args below meth c D tc ad C H locs LS hP hS hl
  exact lv_l2i C.1 C.2.1 h1 rfl (k p l e R s m args below meth c D tc ad C H locs LS hP hS hl)
theorem Ev_lcmp {x y : Int64} (hd : Dc M.2.1 pc .lcmp 1 pc')  (k : Ev M d r τ pc' ls (.int (lg_cmp x y) :: st) σ) : Ev M d r τ pc ls (.long y :: .long x :: st) σ := by
  obtain ⟨h1, rfl⟩ := hd
  intro p l e R s m args below meth c D tc ad C H locs LS hP hS hl
  exact W.lcmp C.1 C.2.1 h1  (k p l e R s m args below meth c D tc ad C H locs LS hP hS hl)
theorem Ev_iconst {n : Int} {v : Int32} (hd : Dc M.2.1 pc (.iconst n) 1 pc') (hv : Int32.ofInt n = v) (k : Ev M d r τ pc' ls (.int v :: st) σ) : Ev M d r τ pc ls (st) σ := by
  obtain ⟨h1, rfl⟩ := hd
  intro p l e R s m args below meth c D tc ad C H locs LS hP hS hl
  exact lv_iconst C.1 C.2.1 h1 hv (k p l e R s m args below meth c D tc ad C H locs LS hP hS hl)
theorem Ev_bipush {n : Int} {v : Int32} (hd : Dc M.2.1 pc (.bipush n) 2 pc') (hv : (Int8.ofInt n).toInt32 = v) (k : Ev M d r τ pc' ls (.int v :: st) σ) : Ev M d r τ pc ls (st) σ := by
  obtain ⟨h1, rfl⟩ := hd
  intro p l e R s m args below meth c D tc ad C H locs LS hP hS hl
  exact lv_bipush C.1 C.2.1 h1 hv (k p l e R s m args below meth c D tc ad C H locs LS hP hS hl)
theorem Ev_sipush {n : Int} {v : Int32} (hd : Dc M.2.1 pc (.sipush n) 3 pc') (hv : (Int16.ofInt n).toInt32 = v) (k : Ev M d r τ pc' ls (.int v :: st) σ) : Ev M d r τ pc ls (st) σ := by
  obtain ⟨h1, rfl⟩ := hd
  intro p l e R s m args below meth c D tc ad C H locs LS hP hS hl
  exact lv_sipush C.1 C.2.1 h1 hv (k p l e R s m args below meth c D tc ad C H locs LS hP hS hl)
theorem Ev_lconst {n : Fin 2} {v : Int64} (hd : Dc M.2.1 pc (.lconst n) 1 pc') (hv : Int64.ofNat (n : Nat) = v) (k : Ev M d r τ pc' ls (.long v :: st) σ) : Ev M d r τ pc ls (st) σ := by
  obtain ⟨h1, rfl⟩ := hd
  intro p l e R s m args below meth c D tc ad C H locs LS hP hS hl
  exact lv_lconst C.1 C.2.1 h1 hv (k p l e R s m args below meth c D tc ad C H locs LS hP hS hl)
theorem Ev_ldc {ix : Nat} {v : Int32} (hd : Dc M.2.1 pc (.ldc ix) 2 pc') (hw : Cond.constant M.1.cls ix v ∈ tbl) (k : Ev M d r τ pc' ls (.int v :: st) σ) : Ev M d r τ pc ls st σ := by
  obtain ⟨h1, rfl⟩ := hd
  intro p l e R s m args below meth c D tc ad C H locs LS hP hS hl
  exact lv_ldc C.1 C.2.1 C.2.2.2.2.2.1 (C.2.2.2.2.1 _ hw) h1 (k p l e R s m args below meth c D tc ad C H locs LS hP hS hl)
theorem Ev_ldc_w {ix : Nat} {v : Int32} (hd : Dc M.2.1 pc (.ldc_w ix) 3 pc') (hw : Cond.constant M.1.cls ix v ∈ tbl) (k : Ev M d r τ pc' ls (.int v :: st) σ) : Ev M d r τ pc ls st σ := by
  obtain ⟨h1, rfl⟩ := hd
  intro p l e R s m args below meth c D tc ad C H locs LS hP hS hl
  exact lv_ldcw C.1 C.2.1 C.2.2.2.2.2.1 (C.2.2.2.2.1 _ hw) h1 (k p l e R s m args below meth c D tc ad C H locs LS hP hS hl)
theorem Ev_ldc2 {ix : Nat} {v : Int64} (hd : Dc M.2.1 pc (.ldc2_w ix) 3 pc') (hw : Cond.constantLong M.1.cls ix v ∈ tbl) (k : Ev M d r τ pc' ls (.long v :: st) σ) : Ev M d r τ pc ls st σ := by
  obtain ⟨h1, rfl⟩ := hd
  intro p l e R s m args below meth c D tc ad C H locs LS hP hS hl
  exact lv_ldc2 C.1 C.2.1 C.2.2.2.2.2.1 (C.2.2.2.2.1 _ hw) h1 (k p l e R s m args below meth c D tc ad C H locs LS hP hS hl)
theorem Ev_dup {v : Value} (hd : Dc M.2.1 pc .dup 1 pc') (hc : v.category = 1) (k : Ev M d r τ pc' ls (v :: v :: st) σ) : Ev M d r τ pc ls (v :: st) σ := by
  obtain ⟨h1, rfl⟩ := hd
  intro p l e R s m args below meth c D tc ad C H locs LS hP hS hl
  exact lv_dup C.1 C.2.1 h1 (by rw [cv_cat]; exact hc) (k p l e R s m args below meth c D tc ad C H locs LS hP hS hl)
theorem Ev_dup2 {v u : Value} (hd : Dc M.2.1 pc .dup2 1 pc') (hc : v.category = 1) (hu : u.category = 1) (k : Ev M d r τ pc' ls (v :: u :: v :: u :: st) σ) : Ev M d r τ pc ls (v :: u :: st) σ := by
  obtain ⟨h1, rfl⟩ := hd
  intro p l e R s m args below meth c D tc ad C H locs LS hP hS hl
  exact lv_dup2_11 C.1 C.2.1 h1 (by rw [cv_cat]; exact hc) (by rw [cv_cat]; exact hu) (k p l e R s m args below meth c D tc ad C H locs LS hP hS hl)
theorem Ev_pop {v : Value} (hd : Dc M.2.1 pc .pop 1 pc') (hc : v.category = 1) (k : Ev M d r τ pc' ls st σ) : Ev M d r τ pc ls (v :: st) σ := by
  obtain ⟨h1, rfl⟩ := hd
  intro p l e R s m args below meth c D tc ad C H locs LS hP hS hl
  exact lv_pop C.1 C.2.1 h1 (by rw [cv_cat]; exact hc) (k p l e R s m args below meth c D tc ad C H locs LS hP hS hl)
theorem ls_at (ad : Nat → Nat) {LS : Array Slot} {nL : Nat} (hl : lv_has LS nL (ls.map fun q => (q.1, cv ad q.2))) {j i : Nat} {v : Value} (hk : ls[j]? = some (i, v)) : LS[i]? = some (.val (cv ad v)) :=
  lv_at hl j (by rw [List.getElem?_map, hk]; rfl)
theorem Ev_iload {i : Nat} {x : Int32} (j : Nat) (hd : Dc M.2.1 pc (.iload i) 2 pc') (hk : ls[j]? = some (i, .int x)) (k : Ev M d r τ pc' ls (.int x :: st) σ) : Ev M d r τ pc ls st σ := by
  obtain ⟨h1, rfl⟩ := hd
  intro p l e R s m args below meth c D tc ad C H locs LS hP hS hl
  exact lv_iload C.1 C.2.1 h1 (ls_at ad hl hk) (k p l e R s m args below meth c D tc ad C H locs LS hP hS hl)
theorem Ev_iload_n {i : Fin 4} {x : Int32} (j : Nat) (hd : Dc M.2.1 pc (.iload_n i) 1 pc') (hk : ls[j]? = some ((i : Nat), .int x)) (k : Ev M d r τ pc' ls (.int x :: st) σ) : Ev M d r τ pc ls st σ := by
  obtain ⟨h1, rfl⟩ := hd
  intro p l e R s m args below meth c D tc ad C H locs LS hP hS hl
  exact lv_iload_n C.1 C.2.1 h1 rfl (ls_at ad hl hk) (k p l e R s m args below meth c D tc ad C H locs LS hP hS hl)
theorem Ev_lload {i : Nat} {x : Int64} (j : Nat) (hd : Dc M.2.1 pc (.lload i) 2 pc') (hk : ls[j]? = some (i, .long x)) (k : Ev M d r τ pc' ls (.long x :: st) σ) : Ev M d r τ pc ls st σ := by
  obtain ⟨h1, rfl⟩ := hd
  intro p l e R s m args below meth c D tc ad C H locs LS hP hS hl
  exact lv_lload C.1 C.2.1 h1 (ls_at ad hl hk) (k p l e R s m args below meth c D tc ad C H locs LS hP hS hl)
theorem Ev_lload_n {i : Fin 4} {x : Int64} (j : Nat) (hd : Dc M.2.1 pc (.lload_n i) 1 pc') (hk : ls[j]? = some ((i : Nat), .long x)) (k : Ev M d r τ pc' ls (.long x :: st) σ) : Ev M d r τ pc ls st σ := by
  obtain ⟨h1, rfl⟩ := hd
  intro p l e R s m args below meth c D tc ad C H locs LS hP hS hl
  exact lv_lload_n C.1 C.2.1 h1 rfl (ls_at ad hl hk) (k p l e R s m args below meth c D tc ad C H locs LS hP hS hl)
theorem Ev_aload {i : Nat} {x : Nat} (j : Nat) (hd : Dc M.2.1 pc (.aload i) 2 pc') (hk : ls[j]? = some (i, .ref x)) (k : Ev M d r τ pc' ls (.ref x :: st) σ) : Ev M d r τ pc ls st σ := by
  obtain ⟨h1, rfl⟩ := hd
  intro p l e R s m args below meth c D tc ad C H locs LS hP hS hl
  exact lv_aload C.1 C.2.1 h1 (ls_at ad hl hk) (k p l e R s m args below meth c D tc ad C H locs LS hP hS hl)
theorem Ev_aload_n {i : Fin 4} {x : Nat} (j : Nat) (hd : Dc M.2.1 pc (.aload_n i) 1 pc') (hk : ls[j]? = some ((i : Nat), .ref x)) (k : Ev M d r τ pc' ls (.ref x :: st) σ) : Ev M d r τ pc ls st σ := by
  obtain ⟨h1, rfl⟩ := hd
  intro p l e R s m args below meth c D tc ad C H locs LS hP hS hl
  exact lv_aload_n C.1 C.2.1 h1 rfl (ls_at ad hl hk) (k p l e R s m args below meth c D tc ad C H locs LS hP hS hl)
def st1 (i : Nat) (v : Value) (l : List (Nat × Value)) : List (Nat × Value) := (i, v) :: l.filter (fun q => !(q.1 == i) && !(q.1 + 1 == i && q.2.category == 2))
def st2 (i : Nat) (v : Value) (l : List (Nat × Value)) : List (Nat × Value) := (i, v) :: l.filter (fun q => !(q.1 == i) && (!(q.1 == i + 1) && !(q.1 + 1 == i && q.2.category == 2)))
theorem st1_cv (ad : Nat → Nat) (i : Nat) (v : Value) (l : List (Nat × Value)) : st1 i (cv ad v) (l.map fun q => (q.1, cv ad q.2)) = (st1 i v l).map fun q => (q.1, cv ad q.2) := by
  simp only [st1, List.map_cons, List.filter_map, Function.comp_def, cv_cat]
theorem st2_cv (ad : Nat → Nat) (i : Nat) (v : Value) (l : List (Nat × Value)) : st2 i (cv ad v) (l.map fun q => (q.1, cv ad q.2)) = (st2 i v l).map fun q => (q.1, cv ad q.2) := by
  simp only [st2, List.map_cons, List.filter_map, Function.comp_def, cv_cat]
theorem Ev_istore {i : Nat} {x : Int32} {ls' : List (Nat × Value)} (hd : Dc M.2.1 pc (.istore i) 2 pc') (hn : i < M.2.2.1) (hk : st1 i (.int x) ls = ls') (k : Ev M d r τ pc' ls' st σ) : Ev M d r τ pc ls (.int x :: st) σ := by
  obtain ⟨h1, rfl⟩ := hd
  subst hk
  intro p l e R s m args below meth c D tc ad C H locs LS hP hS hl
  exact lv_istore C.1 C.2.1 h1 hl hn (st1_cv ad _ (.int x) ls) (fun LS' hl' => k p l e R s m args below meth c D tc ad C H locs LS' hP hS hl')
theorem Ev_istore_n {i : Fin 4} {x : Int32} {ls' : List (Nat × Value)} (hd : Dc M.2.1 pc (.istore_n i) 1 pc') (hn : (i : Nat) < M.2.2.1) (hk : st1 (i : Nat) (.int x) ls = ls') (k : Ev M d r τ pc' ls' st σ) : Ev M d r τ pc ls (.int x :: st) σ := by
  obtain ⟨h1, rfl⟩ := hd
  subst hk
  intro p l e R s m args below meth c D tc ad C H locs LS hP hS hl
  exact lv_istore_n C.1 C.2.1 h1 rfl hl hn (st1_cv ad _ (.int x) ls) (fun LS' hl' => k p l e R s m args below meth c D tc ad C H locs LS' hP hS hl')
theorem Ev_lstore {i : Nat} {x : Int64} {ls' : List (Nat × Value)} (hd : Dc M.2.1 pc (.lstore i) 2 pc') (hn : i + 1 < M.2.2.1) (hk : st2 i (.long x) ls = ls') (k : Ev M d r τ pc' ls' st σ) : Ev M d r τ pc ls (.long x :: st) σ := by
  obtain ⟨h1, rfl⟩ := hd
  subst hk
  intro p l e R s m args below meth c D tc ad C H locs LS hP hS hl
  exact lv_lstore C.1 C.2.1 h1 hl hn (st2_cv ad _ (.long x) ls) (fun LS' hl' => k p l e R s m args below meth c D tc ad C H locs LS' hP hS hl')
theorem Ev_lstore_n {i : Fin 4} {x : Int64} {ls' : List (Nat × Value)} (hd : Dc M.2.1 pc (.lstore_n i) 1 pc') (hn : (i : Nat) + 1 < M.2.2.1) (hk : st2 (i : Nat) (.long x) ls = ls') (k : Ev M d r τ pc' ls' st σ) : Ev M d r τ pc ls (.long x :: st) σ := by
  obtain ⟨h1, rfl⟩ := hd
  subst hk
  intro p l e R s m args below meth c D tc ad C H locs LS hP hS hl
  exact lv_lstore_n C.1 C.2.1 h1 rfl hl hn (st2_cv ad _ (.long x) ls) (fun LS' hl' => k p l e R s m args below meth c D tc ad C H locs LS' hP hS hl')
theorem Ev_astore {i : Nat} {x : Nat} {ls' : List (Nat × Value)} (hd : Dc M.2.1 pc (.astore i) 2 pc') (hn : i < M.2.2.1) (hk : st1 i (.ref x) ls = ls') (k : Ev M d r τ pc' ls' st σ) : Ev M d r τ pc ls (.ref x :: st) σ := by
  obtain ⟨h1, rfl⟩ := hd
  subst hk
  intro p l e R s m args below meth c D tc ad C H locs LS hP hS hl
  exact lv_astore C.1 C.2.1 h1 hl hn (st1_cv ad _ (.ref x) ls) (fun LS' hl' => k p l e R s m args below meth c D tc ad C H locs LS' hP hS hl')
theorem Ev_astore_n {i : Fin 4} {x : Nat} {ls' : List (Nat × Value)} (hd : Dc M.2.1 pc (.astore_n i) 1 pc') (hn : (i : Nat) < M.2.2.1) (hk : st1 (i : Nat) (.ref x) ls = ls') (k : Ev M d r τ pc' ls' st σ) : Ev M d r τ pc ls (.ref x :: st) σ := by
  obtain ⟨h1, rfl⟩ := hd
  subst hk
  intro p l e R s m args below meth c D tc ad C H locs LS hP hS hl
  exact lv_astore_n C.1 C.2.1 h1 rfl hl hn (st1_cv ad _ (.ref x) ls) (fun LS' hl' => k p l e R s m args below meth c D tc ad C H locs LS' hP hS hl')
theorem Ev_iinc {i : Nat} {n : Int} {x v : Int32} {ls' : List (Nat × Value)} (j : Nat) (hd : Dc M.2.1 pc (.iinc i n) 3 pc') (hj : ls[j]? = some (i, .int x)) (hv : v = x + Int32.ofInt n) (hn : i < M.2.2.1) (hk : st1 i (.int v) ls = ls') (k : Ev M d r τ pc' ls' st σ) : Ev M d r τ pc ls st σ := by
  obtain ⟨h1, rfl⟩ := hd
  subst hk
  intro p l e R s m args below meth c D tc ad C H locs LS hP hS hl
  exact lv_iinc C.1 C.2.1 h1 hl (k := j) (by rw [List.getElem?_map, hj]; rfl) hv.symm hn (st1_cv ad _ (.int v) ls) (fun LS' hl' => k p l e R s m args below meth c D tc ad C H locs LS' hP hS hl')
theorem Ev_sub {ls' : List (Nat × Value)} (ks : List Nat) (hk : lv_pick ls ks = ls') (k : Ev M d r τ pc ls' st σ) : Ev M d r τ pc ls st σ := by
  subst hk
  intro p l e R s m args below meth c D tc ad C H locs LS hP hS hl
  refine k p l e R s m args below meth c D tc ad C H locs LS hP hS (lv_sub hl ks ?_)
  simp only [lv_pick, List.map_filterMap]
  congr 1; funext i; rw [List.getElem?_map]
theorem Ev_if_eq {x : Int32} {off : Int} {tgt : Nat} (hd : Dc M.2.1 pc (.ifCond .eq off) 3 pc') (ht : (pc : Int) + off = (tgt : Int)) (kt : (x = 0) → Ev M d r τ tgt ls st σ) (kf : (¬ x = 0) → Ev M d r τ pc' ls st σ) : Ev M d r τ pc ls (.int x :: st) σ := by
  obtain ⟨h1, rfl⟩ := hd
  intro p l e R s m args below meth c D tc ad C H locs LS hP hS hl
  exact lv_if_eq C.1 C.2.1 h1 ht (fun h => kt h p l e R s m args below meth c D tc ad C H locs LS hP hS hl) (fun h => kf h p l e R s m args below meth c D tc ad C H locs LS hP hS hl)
theorem Ev_if_ne {x : Int32} {off : Int} {tgt : Nat} (hd : Dc M.2.1 pc (.ifCond .ne off) 3 pc') (ht : (pc : Int) + off = (tgt : Int)) (kt : (¬ x = 0) → Ev M d r τ tgt ls st σ) (kf : (x = 0) → Ev M d r τ pc' ls st σ) : Ev M d r τ pc ls (.int x :: st) σ := by
  obtain ⟨h1, rfl⟩ := hd
  intro p l e R s m args below meth c D tc ad C H locs LS hP hS hl
  exact lv_if_ne C.1 C.2.1 h1 ht (fun h => kt h p l e R s m args below meth c D tc ad C H locs LS hP hS hl) (fun h => kf h p l e R s m args below meth c D tc ad C H locs LS hP hS hl)
theorem Ev_if_lt {x : Int32} {off : Int} {tgt : Nat} (hd : Dc M.2.1 pc (.ifCond .lt off) 3 pc') (ht : (pc : Int) + off = (tgt : Int)) (kt : (x < 0) → Ev M d r τ tgt ls st σ) (kf : (¬ x < 0) → Ev M d r τ pc' ls st σ) : Ev M d r τ pc ls (.int x :: st) σ := by
  obtain ⟨h1, rfl⟩ := hd
  intro p l e R s m args below meth c D tc ad C H locs LS hP hS hl
  exact lv_if_lt C.1 C.2.1 h1 ht (fun h => kt h p l e R s m args below meth c D tc ad C H locs LS hP hS hl) (fun h => kf h p l e R s m args below meth c D tc ad C H locs LS hP hS hl)
theorem Ev_if_ge {x : Int32} {off : Int} {tgt : Nat} (hd : Dc M.2.1 pc (.ifCond .ge off) 3 pc') (ht : (pc : Int) + off = (tgt : Int)) (kt : (0 ≤ x) → Ev M d r τ tgt ls st σ) (kf : (¬ 0 ≤ x) → Ev M d r τ pc' ls st σ) : Ev M d r τ pc ls (.int x :: st) σ := by
  obtain ⟨h1, rfl⟩ := hd
  intro p l e R s m args below meth c D tc ad C H locs LS hP hS hl
  exact lv_if_ge C.1 C.2.1 h1 ht (fun h => kt h p l e R s m args below meth c D tc ad C H locs LS hP hS hl) (fun h => kf h p l e R s m args below meth c D tc ad C H locs LS hP hS hl)
theorem Ev_if_gt {x : Int32} {off : Int} {tgt : Nat} (hd : Dc M.2.1 pc (.ifCond .gt off) 3 pc') (ht : (pc : Int) + off = (tgt : Int)) (kt : (0 < x) → Ev M d r τ tgt ls st σ) (kf : (¬ 0 < x) → Ev M d r τ pc' ls st σ) : Ev M d r τ pc ls (.int x :: st) σ := by
  obtain ⟨h1, rfl⟩ := hd
  intro p l e R s m args below meth c D tc ad C H locs LS hP hS hl
  exact lv_if_gt C.1 C.2.1 h1 ht (fun h => kt h p l e R s m args below meth c D tc ad C H locs LS hP hS hl) (fun h => kf h p l e R s m args below meth c D tc ad C H locs LS hP hS hl)
theorem Ev_if_le {x : Int32} {off : Int} {tgt : Nat} (hd : Dc M.2.1 pc (.ifCond .le off) 3 pc') (ht : (pc : Int) + off = (tgt : Int)) (kt : (x ≤ 0) → Ev M d r τ tgt ls st σ) (kf : (¬ x ≤ 0) → Ev M d r τ pc' ls st σ) : Ev M d r τ pc ls (.int x :: st) σ := by
  obtain ⟨h1, rfl⟩ := hd
  intro p l e R s m args below meth c D tc ad C H locs LS hP hS hl
  exact lv_if_le C.1 C.2.1 h1 ht (fun h => kt h p l e R s m args below meth c D tc ad C H locs LS hP hS hl) (fun h => kf h p l e R s m args below meth c D tc ad C H locs LS hP hS hl)
theorem Ev_icmp_eq {x y : Int32} {off : Int} {tgt : Nat} (hd : Dc M.2.1 pc (.if_icmp .eq off) 3 pc') (ht : (pc : Int) + off = (tgt : Int)) (kt : (x = y) → Ev M d r τ tgt ls st σ) (kf : (¬ x = y) → Ev M d r τ pc' ls st σ) : Ev M d r τ pc ls (.int y :: .int x :: st) σ := by
  obtain ⟨h1, rfl⟩ := hd
  intro p l e R s m args below meth c D tc ad C H locs LS hP hS hl
  exact lv_icmp_eq C.1 C.2.1 h1 ht (fun h => kt h p l e R s m args below meth c D tc ad C H locs LS hP hS hl) (fun h => kf h p l e R s m args below meth c D tc ad C H locs LS hP hS hl)
theorem Ev_icmp_ne {x y : Int32} {off : Int} {tgt : Nat} (hd : Dc M.2.1 pc (.if_icmp .ne off) 3 pc') (ht : (pc : Int) + off = (tgt : Int)) (kt : (¬ x = y) → Ev M d r τ tgt ls st σ) (kf : (x = y) → Ev M d r τ pc' ls st σ) : Ev M d r τ pc ls (.int y :: .int x :: st) σ := by
  obtain ⟨h1, rfl⟩ := hd
  intro p l e R s m args below meth c D tc ad C H locs LS hP hS hl
  exact lv_icmp_ne C.1 C.2.1 h1 ht (fun h => kt h p l e R s m args below meth c D tc ad C H locs LS hP hS hl) (fun h => kf h p l e R s m args below meth c D tc ad C H locs LS hP hS hl)
theorem Ev_icmp_lt {x y : Int32} {off : Int} {tgt : Nat} (hd : Dc M.2.1 pc (.if_icmp .lt off) 3 pc') (ht : (pc : Int) + off = (tgt : Int)) (kt : (x < y) → Ev M d r τ tgt ls st σ) (kf : (¬ x < y) → Ev M d r τ pc' ls st σ) : Ev M d r τ pc ls (.int y :: .int x :: st) σ := by
  obtain ⟨h1, rfl⟩ := hd
  intro p l e R s m args below meth c D tc ad C H locs LS hP hS hl
  exact lv_icmp_lt C.1 C.2.1 h1 ht (fun h => kt h p l e R s m args below meth c D tc ad C H locs LS hP hS hl) (fun h => kf h p l e R s m args below meth c D tc ad C H locs LS hP hS hl)
theorem Ev_icmp_ge {x y : Int32} {off : Int} {tgt : Nat} (hd : Dc M.2.1 pc (.if_icmp .ge off) 3 pc') (ht : (pc : Int) + off = (tgt : Int)) (kt : (y ≤ x) → Ev M d r τ tgt ls st σ) (kf : (¬ y ≤ x) → Ev M d r τ pc' ls st σ) : Ev M d r τ pc ls (.int y :: .int x :: st) σ := by
  obtain ⟨h1, rfl⟩ := hd
  intro p l e R s m args below meth c D tc ad C H locs LS hP hS hl
  exact lv_icmp_ge C.1 C.2.1 h1 ht (fun h => kt h p l e R s m args below meth c D tc ad C H locs LS hP hS hl) (fun h => kf h p l e R s m args below meth c D tc ad C H locs LS hP hS hl)
theorem Ev_icmp_gt {x y : Int32} {off : Int} {tgt : Nat} (hd : Dc M.2.1 pc (.if_icmp .gt off) 3 pc') (ht : (pc : Int) + off = (tgt : Int)) (kt : (y < x) → Ev M d r τ tgt ls st σ) (kf : (¬ y < x) → Ev M d r τ pc' ls st σ) : Ev M d r τ pc ls (.int y :: .int x :: st) σ := by
  obtain ⟨h1, rfl⟩ := hd
  intro p l e R s m args below meth c D tc ad C H locs LS hP hS hl
  exact lv_icmp_gt C.1 C.2.1 h1 ht (fun h => kt h p l e R s m args below meth c D tc ad C H locs LS hP hS hl) (fun h => kf h p l e R s m args below meth c D tc ad C H locs LS hP hS hl)
theorem Ev_icmp_le {x y : Int32} {off : Int} {tgt : Nat} (hd : Dc M.2.1 pc (.if_icmp .le off) 3 pc') (ht : (pc : Int) + off = (tgt : Int)) (kt : (x ≤ y) → Ev M d r τ tgt ls st σ) (kf : (¬ x ≤ y) → Ev M d r τ pc' ls st σ) : Ev M d r τ pc ls (.int y :: .int x :: st) σ := by
  obtain ⟨h1, rfl⟩ := hd
  intro p l e R s m args below meth c D tc ad C H locs LS hP hS hl
  exact lv_icmp_le C.1 C.2.1 h1 ht (fun h => kt h p l e R s m args below meth c D tc ad C H locs LS hP hS hl) (fun h => kf h p l e R s m args below meth c D tc ad C H locs LS hP hS hl)
theorem Ev_goto {off : Int} {tgt : Nat} (hd : Dc M.2.1 pc (.goto off) 3 pc') (ht : (pc : Int) + off = (tgt : Int)) (k : Ev M d r τ tgt ls st σ) : Ev M d r τ pc ls st σ := by
  obtain ⟨h1, rfl⟩ := hd
  intro p l e R s m args below meth c D tc ad C H locs LS hP hS hl
  exact lv_goto C.1 C.2.1 h1 ht (k p l e R s m args below meth c D tc ad C H locs LS hP hS hl)
theorem Ev_tblIn {dflt lo hi : Int} {offs : Array Int} {n : Nat} {x : Int32} {off : Int} {tgt : Nat} (hd : Dc M.2.1 pc (.tableswitch dflt lo hi offs) n pc') (h1 : ¬ x.toInt < lo) (h2 : ¬ hi < x.toInt) (ho : offs[(x.toInt - lo).toNat]? = some off) (ht : (pc : Int) + off = (tgt : Int)) (k : Ev M d r τ tgt ls st σ) : Ev M d r τ pc ls (.int x :: st) σ := by
  obtain ⟨hd1, rfl⟩ := hd
  intro p l e R s m args below meth c D tc ad C H locs LS hP hS hl
  exact lv_tableIn C.1 C.2.1 hd1 h1 h2 ho ht (k p l e R s m args below meth c D tc ad C H locs LS hP hS hl)
theorem Ev_tblOut {dflt lo hi : Int} {offs : Array Int} {n : Nat} {x : Int32} {tgt : Nat} (hd : Dc M.2.1 pc (.tableswitch dflt lo hi offs) n pc') (h1 : x.toInt < lo ∨ hi < x.toInt) (ht : (pc : Int) + dflt = (tgt : Int)) (k : Ev M d r τ tgt ls st σ) : Ev M d r τ pc ls (.int x :: st) σ := by
  obtain ⟨hd1, rfl⟩ := hd
  intro p l e R s m args below meth c D tc ad C H locs LS hP hS hl
  exact lv_tableOut C.1 C.2.1 hd1 h1 ht (k p l e R s m args below meth c D tc ad C H locs LS hP hS hl)
theorem Ev_nmI {x : Int32} (k : ∀ y : Int32, y = x → Ev M d r τ pc ls (.int y :: st) σ) : Ev M d r τ pc ls (.int x :: st) σ := k x rfl
theorem Ev_nmL {x : Int64} (k : ∀ y : Int64, y = x → Ev M d r τ pc ls (.long y :: st) σ) : Ev M d r τ pc ls (.long x :: st) σ := k x rfl
theorem Ev_nmS (k : ∀ y : Sg, y = σ → Ev M d r τ pc ls st y) : Ev M d r τ pc ls st σ := k σ rfl
theorem Ev_alen {kd n : Nat} (k : Nat) {v : Int32} (hd : Dc M.2.1 pc .arraylength 1 pc') (hs : SK[k]? = some (kd, [n])) (hk : kd = 100 ∨ kd = 101 ∨ kd = 102) (hv : Int32.ofNat n = v) (kk : Ev M d r τ pc' ls (.int v :: st) σ) : Ev M d r τ pc ls (.ref k :: st) σ := by
  obtain ⟨h1, rfl⟩ := hd
  intro p l e R s m args below meth c D tc ad C H locs LS hP hS hl
  have ha := wsO_at tc ad σ hs
  rcases hk with rfl | rfl | rfl
  · exact va_alen C.1 C.2.1 C.2.2.2.2.2.2.2.1 hP k 0 ha rfl hv h1 (kk p l e R s m args below meth c D tc ad C H locs LS hP hS hl)
  · exact va_alen C.1 C.2.1 C.2.2.2.2.2.2.2.1 hP k 1 ha rfl hv h1 (kk p l e R s m args below meth c D tc ad C H locs LS hP hS hl)
  · exact va_alen C.1 C.2.1 C.2.2.2.2.2.2.2.1 hP k 2 ha rfl hv h1 (kk p l e R s m args below meth c D tc ad C H locs LS hP hS hl)
theorem Ev_iaload {n : Nat} (k : Nat) {i : Int32} (hd : Dc M.2.1 pc .iaload 1 pc') (hs : SK[k]? = some (100, [n])) (hin : inB i n = true) (kk : Ev M d r τ pc' ls (.int (gI σ k i.toNatClampNeg) :: st) σ) : Ev M d r τ pc ls (.int i :: .ref k :: st) σ := by
  obtain ⟨h1, rfl⟩ := hd
  intro p l e R s m args below meth c D tc ad C H locs LS hP hS hl
  exact va_iald C.1 C.2.1 C.2.2.2.2.2.2.2.1 hP k 0 (wsO_at tc ad σ hs) rfl (inB_vp hin) h1 (kk p l e R s m args below meth c D tc ad C H locs LS hP hS hl)
theorem Ev_baload {n : Nat} (k : Nat) {i : Int32} (hd : Dc M.2.1 pc .baload 1 pc') (hs : SK[k]? = some (101, [n])) (hin : inB i n = true) (kk : Ev M d r τ pc' ls (.int (gI σ k i.toNatClampNeg) :: st) σ) : Ev M d r τ pc ls (.int i :: .ref k :: st) σ := by
  obtain ⟨h1, rfl⟩ := hd
  intro p l e R s m args below meth c D tc ad C H locs LS hP hS hl
  exact va_zald C.1 C.2.1 C.2.2.2.2.2.2.2.1 hP k 1 (wsO_at tc ad σ hs) rfl (inB_vp hin) h1 (kk p l e R s m args below meth c D tc ad C H locs LS hP hS hl)
theorem Ev_laload {n : Nat} (k : Nat) {i : Int32} (hd : Dc M.2.1 pc .laload 1 pc') (hs : SK[k]? = some (102, [n])) (hin : inB i n = true) (kk : Ev M d r τ pc' ls (.long (gL σ k i.toNatClampNeg) :: st) σ) : Ev M d r τ pc ls (.int i :: .ref k :: st) σ := by
  obtain ⟨h1, rfl⟩ := hd
  intro p l e R s m args below meth c D tc ad C H locs LS hP hS hl
  exact va_lald C.1 C.2.1 C.2.2.2.2.2.2.2.1 hP k 2 (wsO_at tc ad σ hs) rfl (inB_vp hin) h1 (kk p l e R s m args below meth c D tc ad C H locs LS hP hS hl)
theorem pI_row (σ : Sg) (k i : Nat) (x : Int32) : gI (pI σ k i x) k = upd (gI σ k) i x := by
  funext j; simp only [gI_pI, upd, true_and]
theorem pL_row (σ : Sg) (k i : Nat) (x : Int64) : gL (pL σ k i x) k = vp_updL (gL σ k) i x := by
  funext j; simp only [gL_pL, vp_updL, true_and]
theorem pI_off (σ : Sg) (k i : Nat) (x : Int32) : ∀ j, j ≠ k → gI (pI σ k i x) j = gI σ j ∧ gL (pI σ k i x) j = gL σ j ∧ gR (pI σ k i x) j = gR σ j := fun j hj => ⟨by funext a; simp [gI_pI, hj], rfl, rfl⟩
theorem pL_off (σ : Sg) (k i : Nat) (x : Int64) : ∀ j, j ≠ k → gI (pL σ k i x) j = gI σ j ∧ gL (pL σ k i x) j = gL σ j ∧ gR (pL σ k i x) j = gR σ j := fun j hj => ⟨rfl, by funext a; simp [gL_pL, hj], rfl⟩
theorem pR_off (σ : Sg) (k i : Nat) (x : Nat) : ∀ j, j ≠ k → gI (pR σ k i x) j = gI σ j ∧ gL (pR σ k i x) j = gL σ j ∧ gR (pR σ k i x) j = gR σ j := fun j hj => ⟨rfl, rfl, by funext a; simp [gR_pR, hj]⟩
theorem Ev_iastore {n : Nat} (k : Nat) {i : Int32} {x : Int32} (hd : Dc M.2.1 pc .iastore 1 pc') (hs : SK[k]? = some (100, [n])) (hin : inB i n = true) (kk : Ev M d r τ pc' ls st (pI σ k i.toNatClampNeg x)) : Ev M d r τ pc ls (.int x :: .int i :: .ref k :: st) σ := by
  obtain ⟨h1, rfl⟩ := hd
  intro p l e R s m args below meth c D tc ad C H locs LS hP hS hl
  refine va_iast C.1 C.2.1 C.2.2.2.2.2.2.2.1 hP (wsO_D tc C.2.2.2.2.2.2.2.2.2.1 σ) hS k 0 (wsO_at tc ad σ hs) rfl (inB_vp hin) h1 (fun H1 locs1 hP1 _ hS1 => ?_)
  rw [wsO_set (τ := pI σ k i.toNatClampNeg x) hs (by show _ = (Sum.inl (tc 0, n, Sum.inl (gI (pI σ k i.toNatClampNeg x) k)) : va_E); rw [pI_row]; rfl) (pI_off σ k _ _)] at hP1
  exact kk p l e R s m args below meth c D tc ad C H1 locs1 LS hP1 hS1 hl
theorem Ev_bastore {n : Nat} (k : Nat) {i : Int32} {x : Int32} (hd : Dc M.2.1 pc .bastore 1 pc') (hs : SK[k]? = some (101, [n])) (hin : inB i n = true) (kk : Ev M d r τ pc' ls st (pI σ k i.toNatClampNeg (x &&& 1))) : Ev M d r τ pc ls (.int x :: .int i :: .ref k :: st) σ := by
  obtain ⟨h1, rfl⟩ := hd
  intro p l e R s m args below meth c D tc ad C H locs LS hP hS hl
  refine va_zast C.1 C.2.1 C.2.2.2.2.2.2.2.1 hP (wsO_D tc C.2.2.2.2.2.2.2.2.2.1 σ) hS k 1 (wsO_at tc ad σ hs) rfl (inB_vp hin) h1 (fun H1 locs1 hP1 _ hS1 => ?_)
  rw [wsO_set (τ := pI σ k i.toNatClampNeg (x &&& 1)) hs (by show _ = (Sum.inl (tc 1, n, Sum.inl (gI (pI σ k i.toNatClampNeg (x &&& 1)) k)) : va_E); rw [pI_row]; rfl) (pI_off σ k _ _)] at hP1
  exact kk p l e R s m args below meth c D tc ad C H1 locs1 LS hP1 hS1 hl
theorem Ev_lastore {n : Nat} (k : Nat) {i : Int32} {x : Int64} (hd : Dc M.2.1 pc .lastore 1 pc') (hs : SK[k]? = some (102, [n])) (hin : inB i n = true) (kk : Ev M d r τ pc' ls st (pL σ k i.toNatClampNeg x)) : Ev M d r τ pc ls (.long x :: .int i :: .ref k :: st) σ := by
  obtain ⟨h1, rfl⟩ := hd
  intro p l e R s m args below meth c D tc ad C H locs LS hP hS hl
  refine va_last C.1 C.2.1 C.2.2.2.2.2.2.2.1 hP (wsO_D tc C.2.2.2.2.2.2.2.2.2.1 σ) hS k 2 (wsO_at tc ad σ hs) rfl (inB_vp hin) h1 (fun H1 locs1 hP1 _ hS1 => ?_)
  rw [wsO_set (τ := pL σ k i.toNatClampNeg x) hs (by show _ = (Sum.inl (tc 2, n, Sum.inr (Sum.inl (gL (pL σ k i.toNatClampNeg x) k))) : va_E); rw [pL_row]; rfl) (pL_off σ k _ _)] at hP1
  exact kk p l e R s m args below meth c D tc ad C H1 locs1 LS hP1 hS1 hl
/-- entry ix of own's pool is field i of class ci -/
def FF (own : String) (ix ci i : Nat) : Prop := ∃ (C : String) (T : u_T) (N : Nat) (ty0 : Nat → FieldType), vwCl[ci]? = some (C, T, N) ∧ i < N ∧ (∀ w ∈ u_ws C T N, w ∈ tbl) ∧ (T i).1 = C ∧ (Cond.fieldLink own ix C (T i).2.1 (T i).2.2.1 ∈ tbl ∨ ∃ host, Cond.fieldLinkNest own ix C (T i).2.1 (T i).2.2.1 host ∈ nst) ∧ (∀ k, k < N → parseFieldDescriptor (T k).2.2.1 = some (ty0 k)) ∧ (∀ a, a < N → ∀ b, b < N → a ≠ b → (T a).2.1 ≠ (T b).2.1)
/-- it isn't final, its type is ty -/
def FW (ci i : Nat) (ty : FieldType) : Prop := ∃ q, vwCl[ci]? = some q ∧ (q.2.1 i).2.2.2 = false ∧ parseFieldDescriptor (q.2.1 i).2.2.1 = some ty
theorem ent_obj {tc : Nat → ClassId} {ad : Nat → Nat} {σ : Sg} {k ci : Nat} {fl : List Nat} (h : ci < 100) : ent tc ad σ k (ci, fl) = .inr (ci, fl.mapIdx (fun i c => cv ad (aval σ k i c))) := by
  unfold ent
  split <;> first | rfl | (exfalso; simp only at *; omega)
theorem Ev_get {k ci i c0 ix : Nat} {fl : List Nat} {v : Value} (hd : Dc M.2.1 pc (.getfield ix) 3 pc') (hf : FF M.1.cls ix ci i) (hs : SK[k]? = some (ci, fl)) (hi : fl[i]? = some c0) (hv : aval σ k i c0 = v) (kk : Ev M d r τ pc' ls (v :: st) σ) : Ev M d r τ pc ls (.ref k :: st) σ := by
  obtain ⟨h1, rfl⟩ := hd
  obtain ⟨C1, T, N, ty0, g1, g2, g3, g4, g5, g6, g7⟩ := hf
  intro p l e R s m args below meth c D tc ad C H locs LS hP hS hl
  have hci : ci < 100 := Nat.lt_of_lt_of_le (List.getElem?_eq_some_iff.mp g1).1 (by decide)
  have ha := wsO_at tc ad σ hs
  rw [ent_obj hci] at ha
  have hfv : (fl.mapIdx (fun i c => cv ad (aval σ k i c)))[i]? = some (cv ad v) := by rw [List.getElem?_mapIdx, hi, ← hv]; rfl
  have hown := C.2.2.2.2.2.1
  have hK := C.2.2.2.2.2.2.2.1
  rcases g5 with g5 | ⟨host, g5⟩
  · exact va_get C.1 C.2.1 C.2.2.2.2.1 g3 hown hK hP k ha g1 i g2 (C.2.2.2.2.1 _ g5) (fun x hx => by rw [g4] at hx; exact hx) hfv h1 (kk p l e R s m args below meth c D tc ad C H locs LS hP hS hl)
  · exact va_getN C.1 C.2.1 C.2.2.2.2.1 g3 hown hK hP k ha g1 i g2 (va_Nw.use rfl (C.2.2.2.2.2.2.2.2.1 _ g5)) (fun x hx => by rw [g4] at hx; exact hx) hfv h1 (kk p l e R s m args below meth c D tc ad C H locs LS hP hS hl)
theorem mapIdx_set {fl : List Nat} {f g : Nat → Nat → Value} {i : Nat} {v : Value} {c0 : Nat} (hi : fl[i]? = some c0) (hv : g i c0 = v) (h : ∀ j c, j ≠ i → g j c = f j c) : (fl.mapIdx f).set i v = fl.mapIdx g := by
  apply List.ext_getElem?
  intro j
  by_cases hj : j = i
  · subst hj
    rw [List.getElem?_set_self (by rw [List.length_mapIdx]; exact (List.getElem?_eq_some_iff.mp hi).1), List.getElem?_mapIdx, hi, ← hv]; rfl
  · rw [List.getElem?_set_ne (Ne.symm hj), List.getElem?_mapIdx, List.getElem?_mapIdx]
    cases fl[j]? with
    | none => rfl
    | some c => simp only [Option.map_some, h j c hj]
theorem put_row {k i : Nat} {σ τ : Sg} (h1 : ∀ j, j ≠ i → gI τ k j = gI σ k j) (h2 : ∀ j, j ≠ i → gL τ k j = gL σ k j) (h3 : ∀ j, j ≠ i → gR τ k j = gR σ k j) (ad : Nat → Nat) : ∀ j c, j ≠ i → cv ad (aval τ k j c) = cv ad (aval σ k j c) := by
  intro j c hj
  unfold aval
  split
  · rw [h1 j hj]
  · rw [h2 j hj]
  · rw [h3 j hj]
  · rfl
theorem put_any {k ci i c0 ix : Nat} {fl : List Nat} {v : Value} {ty : FieldType} (σ' : Sg) (hd : Dc M.2.1 pc (.putfield ix) 3 pc') (hf : FF M.1.cls ix ci i) (hw : FW ci i ty) (hs : SK[k]? = some (ci, fl)) (hi : fl[i]? = some c0) (hn : ∀ ad, narrow ty (cv ad v) = cv ad v) (hfit : ∀ ad, fits ty (cv ad v) = true) (hv : aval σ' k i c0 = v) (hrow : (∀ j, j ≠ i → gI σ' k j = gI σ k j) ∧ (∀ j, j ≠ i → gL σ' k j = gL σ k j) ∧ (∀ j, j ≠ i → gR σ' k j = gR σ k j)) (hoff : ∀ j, j ≠ k → gI σ' j = gI σ j ∧ gL σ' j = gL σ j ∧ gR σ' j = gR σ j) (kk : Ev M d r τ pc' ls st σ') : Ev M d r τ pc ls (v :: .ref k :: st) σ := by
  obtain ⟨h1, rfl⟩ := hd
  obtain ⟨C1, T, N, ty0, g1, g2, g3, g4, g5, g6, g7⟩ := hf
  obtain ⟨q, w1, w2, w3⟩ := hw
  rw [g1] at w1; cases w1
  intro p l e R s m args below meth c D tc ad C H locs LS hP hS hl
  have hci : ci < 100 := Nat.lt_of_lt_of_le (List.getElem?_eq_some_iff.mp g1).1 (by decide)
  have ha := wsO_at tc ad σ hs
  rw [ent_obj hci] at ha
  have hlen : i < (fl.mapIdx (fun i c => cv ad (aval σ k i c))).length := by rw [List.length_mapIdx]; exact (List.getElem?_eq_some_iff.mp hi).1
  have hset : (wsO tc ad σ).set k (ad k, .inr (ci, (fl.mapIdx (fun i c => cv ad (aval σ k i c))).set i (cv ad v))) = wsO tc ad σ' := by
    refine wsO_set hs ?_ hoff
    rw [ent_obj hci, mapIdx_set hi (by rw [hv]) (put_row hrow.1 hrow.2.1 hrow.2.2 ad)]
  have hown := C.2.2.2.2.2.1
  have hK := C.2.2.2.2.2.2.2.1
  have hD := wsO_D tc C.2.2.2.2.2.2.2.2.2.1 σ
  rcases g5 with g5 | ⟨host, g5⟩
  · refine va_put C.1 C.2.1 C.2.2.2.2.1 g3 ty0 g6 g7 hown hK hP hD hS k ha g1 i g2 (C.2.2.2.2.1 _ g5) (fun x hx => by rw [g4] at hx; exact hx) w2 w3 (hn ad) (hfit ad) hlen h1 (fun H1 locs1 hP1 _ hS1 => ?_)
    rw [hset] at hP1
    exact kk p l e R s m args below meth c D tc ad C H1 locs1 LS hP1 hS1 hl
  · refine va_putN C.1 C.2.1 C.2.2.2.2.1 g3 ty0 g6 g7 hown hK hP hD hS k ha g1 i g2 (va_Nw.use rfl (C.2.2.2.2.2.2.2.2.1 _ g5)) (fun x hx => by rw [g4] at hx; exact hx) w2 w3 (hn ad) (hfit ad) hlen h1 (fun H1 locs1 hP1 _ hS1 => ?_)
    rw [hset] at hP1
    exact kk p l e R s m args below meth c D tc ad C H1 locs1 LS hP1 hS1 hl
theorem Ev_putI {k ci i ix : Nat} {fl : List Nat} {x : Int32} (hd : Dc M.2.1 pc (.putfield ix) 3 pc') (hf : FF M.1.cls ix ci i) (hw : FW ci i .int) (hs : SK[k]? = some (ci, fl)) (hi : fl[i]? = some 0) (kk : Ev M d r τ pc' ls st (pI σ k i x)) : Ev M d r τ pc ls (.int x :: .ref k :: st) σ :=
  put_any (pI σ k i x) hd hf hw hs hi (fun _ => rfl) (fun _ => rfl) (by simp only [aval, gI_pI, and_self, if_true]) ⟨fun j hj => by simp [gI_pI, hj], fun _ _ => rfl, fun _ _ => rfl⟩ (pI_off σ k i x) kk
theorem Ev_putZ {k ci i ix : Nat} {fl : List Nat} {x : Int32} (hx : x = 0 ∨ x = 1) (hd : Dc M.2.1 pc (.putfield ix) 3 pc') (hf : FF M.1.cls ix ci i) (hw : FW ci i .boolean) (hs : SK[k]? = some (ci, fl)) (hi : fl[i]? = some 0) (kk : Ev M d r τ pc' ls st (pI σ k i x)) : Ev M d r τ pc ls (.int x :: .ref k :: st) σ :=
  put_any (pI σ k i x) hd hf hw hs hi (fun _ => by rcases hx with rfl | rfl <;> rfl) (fun _ => by rcases hx with rfl | rfl <;> rfl) (by simp only [aval, gI_pI, and_self, if_true]) ⟨fun j hj => by simp [gI_pI, hj], fun _ _ => rfl, fun _ _ => rfl⟩ (pI_off σ k i x) kk
theorem Ev_putL {k ci i ix : Nat} {fl : List Nat} {x : Int64} (hd : Dc M.2.1 pc (.putfield ix) 3 pc') (hf : FF M.1.cls ix ci i) (hw : FW ci i .long) (hs : SK[k]? = some (ci, fl)) (hi : fl[i]? = some 1) (kk : Ev M d r τ pc' ls st (pL σ k i x)) : Ev M d r τ pc ls (.long x :: .ref k :: st) σ :=
  put_any (pL σ k i x) hd hf hw hs hi (fun _ => rfl) (fun _ => rfl) (by simp only [aval, gL_pL, and_self, if_true]) ⟨fun _ _ => rfl, fun j hj => by simp [gL_pL, hj], fun _ _ => rfl⟩ (pL_off σ k i x) kk
theorem Ev_putR {k ci i ix : Nat} {fl : List Nat} {x : Nat} (hd : Dc M.2.1 pc (.putfield ix) 3 pc') (hf : FF M.1.cls ix ci i) (hw : FW ci i (.array .int)) (hs : SK[k]? = some (ci, fl)) (hi : fl[i]? = some 2) (kk : Ev M d r τ pc' ls st (pR σ k i x)) : Ev M d r τ pc ls (.ref x :: .ref k :: st) σ :=
  put_any (pR σ k i x) hd hf hw hs hi (fun _ => rfl) (fun _ => rfl) (by simp only [aval, gR_pR, and_self, if_true]) ⟨fun _ _ => rfl, fun _ _ => rfl, fun j hj => by simp [gR_pR, hj]⟩ (pR_off σ k i x) kk
theorem Ev_aaload {kd : Nat} {cs : List Nat} {c1 : Nat} (k : Nat) {i : Int32} (hd : Dc M.2.1 pc .aaload 1 pc') (hs : SK[k]? = some (kd, cs)) (hk : kd = 103 ∨ kd = 104) (hin : inB i cs.length = true) (hc : cs[i.toNatClampNeg]? = some c1) (kk : Ev M d r τ pc' ls (.ref c1 :: st) σ) : Ev M d r τ pc ls (.int i :: .ref k :: st) σ := by
  obtain ⟨h1, rfl⟩ := hd
  intro p l e R s m args below meth c D tc ad C H locs LS hP hS hl
  have ha := wsO_at tc ad σ hs
  have kk := kk p l e R s m args below meth c D tc ad C H locs LS hP hS hl
  rcases hk with rfl | rfl
  · refine va_aldq C.1 C.2.1 C.2.2.2.2.2.2.2.1 hP k 3 ha rfl (inB_vp hin) h1 ?_
    simp only [hc, Option.map_some]
    exact kk
  · refine va_aldq C.1 C.2.1 C.2.2.2.2.2.2.2.1 hP k 4 ha rfl (inB_vp hin) h1 ?_
    simp only [hc, Option.map_some]
    exact kk
theorem Qo_of {D : va_G} {tc : Nat → ClassId} {ad : Nat → Nat} {s t : State} {args : Array Value} {v : Option Value} {τ : Sg} {H : Heap} {locs : List Loc} (hP : va_P D vwCl (wsO tc ad τ) H) (hS : va_S (Ao ad) s.heap H locs) (ht : t.heap = H) : Qo D tc ad v τ args s (.returned (v.map (cv ad))) t := ⟨rfl, by rw [ht]; exact hP, hS.F ht⟩
theorem Ev_iret {v x : Int32} (hd : Dc M.2.1 pc .ireturn 1 pc') (hr : M.2.2.2 = some .int) (h : some (v, σ) = some (x, τ)) : Ev M d (some (.int x)) τ pc ls [.int v] σ := by
  cases h
  obtain ⟨h1, rfl⟩ := hd
  intro p l e R s m args below meth c D tc ad C H locs LS hP hS hl
  exact W.iret C.1 C.2.1 (C.2.2.2.1.trans hr) (fun t ht _ => Qo_of (v := some (.int v)) hP hS ht) hS.2.2 h1 C.2.2.2.2.2.2.1
theorem Ev_zret {v x : Int32} (hd : Dc M.2.1 pc .ireturn 1 pc') (hr : M.2.2.2 = some .boolean) (hz : v &&& 1 = v) (h : some (v, σ) = some (x, τ)) : Ev M d (some (.int x)) τ pc ls [.int v] σ := by
  cases h
  obtain ⟨h1, rfl⟩ := hd
  intro p l e R s m args below meth c D tc ad C H locs LS hP hS hl
  exact W.zret (ty := .boolean) C.1 C.2.1 (C.2.2.2.1.trans hr) (by show Value.int (v &&& 1) = Value.int v; rw [hz]) (fun t ht _ => Qo_of (v := some (.int v)) hP hS ht) hS.2.2 h1 C.2.2.2.2.2.2.1
theorem Ev_lret {v x : Int64} (hd : Dc M.2.1 pc .lreturn 1 pc') (hr : M.2.2.2 = some .long) (h : some (v, σ) = some (x, τ)) : Ev M d (some (.long x)) τ pc ls [.long v] σ := by
  cases h
  obtain ⟨h1, rfl⟩ := hd
  intro p l e R s m args below meth c D tc ad C H locs LS hP hS hl
  exact W.lret C.1 C.2.1 (C.2.2.2.1.trans hr) (fun t ht _ => Qo_of (v := some (.long v)) hP hS ht) hS.2.2 h1 C.2.2.2.2.2.2.1
theorem Ev_vret (hd : Dc M.2.1 pc .return_ 1 pc') (hr : M.2.2.2 = none) (h : some σ = some τ) : Ev M d none τ pc ls [] σ := by
  cases h
  obtain ⟨h1, rfl⟩ := hd
  intro p l e R s m args below meth c D tc ad C H locs LS hP hS hl
  exact W.vret C.1 C.2.1 (C.2.2.2.1.trans hr) (fun t ht _ => Qo_of (v := none) hP hS ht) hS.2.2 h1 C.2.2.2.2.2.2.1
end EVR
