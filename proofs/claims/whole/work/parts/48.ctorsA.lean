abbrev M_X7_init : MI := (yX7_init, cX7_init, 6, none)
abbrev M_X11_init : MI := (yX11_init, cX11_init, 3, none)
abbrev M_X10_init : MI := (yX10_init, cX10_init, 1, none)
abbrev M_X9_init : MI := (yX9_init, cX9_init, 1, none)
theorem cn_X9_init : CFn M_X9_init 0 := ⟨tbl_in 150 (by decide +kernel) (by decide +kernel), tbl_in 111 (by decide +kernel) (by decide +kernel), by decide, by decide +kernel, by decide +kernel, by decide +kernel⟩
theorem cn_X10_init : CFn M_X10_init 0 := ⟨tbl_in 144 (by decide +kernel) (by decide +kernel), tbl_in 110 (by decide +kernel) (by decide +kernel), by decide, by decide +kernel, by decide +kernel, by decide +kernel⟩
theorem cn_X7_init : CFn M_X7_init 0 := ⟨tbl_in 213 (by decide +kernel) (by decide +kernel), tbl_in 112 (by decide +kernel) (by decide +kernel), by decide, by decide +kernel, by decide +kernel, by decide +kernel⟩
abbrev M_X6_init : MI := (yX6_init, cX6_init, 2, none)
theorem cn_X6_init : CFn M_X6_init 1 := ⟨tbl_in 245 (by decide +kernel) (by decide +kernel), tbl_in 113 (by decide +kernel) (by decide +kernel), by decide, by decide +kernel, by decide +kernel, by decide +kernel⟩
abbrev M_X0_init : MI := (yX0_init, cX0_init, 2, none)
abbrev M_X5_init : MI := (yX5_init, cX5_init, 1, none)
theorem cn_X5_init : CFn M_X5_init 0 := ⟨tbl_in 290 (by decide +kernel) (by decide +kernel), tbl_in 115 (by decide +kernel) (by decide +kernel), by decide, by decide +kernel, by decide +kernel, by decide +kernel⟩
abbrev M_X2_init : MI := (yX2_init, cX2_init, 1, none)
theorem cn_X2_init : CFn M_X2_init 0 := ⟨tbl_in 297 (by decide +kernel) (by decide +kernel), tbl_in 116 (by decide +kernel) (by decide +kernel), by decide, by decide +kernel, by decide +kernel, by decide +kernel⟩
abbrev M_X8_init : MI := (yX8_init, cX8_init, 1, none)
theorem cn_X8_init : CFn M_X8_init 0 := ⟨tbl_in 304 (by decide +kernel) (by decide +kernel), tbl_in 117 (by decide +kernel) (by decide +kernel), by decide, by decide +kernel, by decide +kernel, by decide +kernel⟩
abbrev M_X4_init : MI := (yX4_init, cX4_init, 1, none)
theorem cn_X4_init : CFn M_X4_init 0 := ⟨tbl_in 311 (by decide +kernel) (by decide +kernel), tbl_in 118 (by decide +kernel) (by decide +kernel), by decide, by decide +kernel, by decide +kernel, by decide +kernel⟩
abbrev M_X3_init : MI := (yX3_init, cX3_init, 1, none)
theorem cn_X3_init : CFn M_X3_init 0 := ⟨tbl_in 318 (by decide +kernel) (by decide +kernel), tbl_in 119 (by decide +kernel) (by decide +kernel), by decide, by decide +kernel, by decide +kernel, by decide +kernel⟩
theorem cn_X0_init : CFn M_X0_init 1 := ⟨tbl_in 283 (by decide +kernel) (by decide +kernel), tbl_in 114 (by decide +kernel) (by decide +kernel), by decide, by decide +kernel, by decide +kernel, by decide +kernel⟩
abbrev M_X1_init : MI := (yX1_init, cX1_init, 2, none)
theorem cn_X1_init : CFn M_X1_init 1 := ⟨tbl_in 364 (by decide +kernel) (by decide +kernel), tbl_in 120 (by decide +kernel) (by decide +kernel), by decide, by decide +kernel, by decide +kernel, by decide +kernel⟩
abbrev M_X12_init : MI := (yX12_init, cX12_init, 1, none)
theorem ks_286 : (Int16.ofInt 286).toInt32 = (286 : Int32) := by decide +kernel
theorem ks_512 : (Int16.ofInt 512).toInt32 = (512 : Int32) := by decide +kernel
theorem ks_7442 : (Int16.ofInt 7442).toInt32 = (7442 : Int32) := by decide +kernel
abbrev M_X7_pairBit : MI := (yX7_pairBit, cX7_pairBit, 2, (some .long))
def tdt_X7_pairBit : List (Nat × Instr × Nat × Nat) := [(0, .lconst 1, 1, 1), (1, .iload_n 1, 1, 2), (2, .iload_n 1, 1, 3), (3, .iconst 1, 1, 4), (4, .isub, 1, 5), (5, .imul, 1, 6), (6, .iconst 2, 1, 7), (7, .idiv, 1, 8), (8, .iload_n 0, 1, 9), (9, .iadd, 1, 10), (10, .lshl, 1, 11), (11, .lreturn, 1, 12)]
set_option maxRecDepth 100000 in
theorem dt_X7_pairBit : DT cX7_pairBit tdt_X7_pairBit := by unfold DT; decide +kernel
theorem cn_X7_pairBit : CFn M_X7_pairBit 2 := ⟨tbl_in 217 (by decide +kernel) (by decide +kernel), tbl_in 112 (by decide +kernel) (by decide +kernel), by decide, by decide +kernel, by decide +kernel, by decide +kernel⟩
theorem cf_X7_28 : CFS RX7 28 M_X7_pairBit 2 := ⟨cn_X7_pairBit, Or.inl (tbl_in 215 (by decide +kernel) (by decide +kernel)), tbl_in 216 (by decide +kernel) (by decide +kernel)⟩
theorem kb_84 : (Int8.ofInt 84).toInt32 = (84 : Int32) := by decide +kernel
theorem ks_840 : (Int16.ofInt 840).toInt32 = (840 : Int32) := by decide +kernel
def tdt_X11_init : List (Nat × Instr × Nat × Nat) := [(0, .aload_n 0, 1, 1), (1, .invokespecial 1, 3, 4), (4, .aload_n 0, 1, 5), (5, .iconst 2, 1, 6), (6, .anewarray 9, 3, 9), (9, .putfield 11, 3, 12), (12, .aload_n 0, 1, 13), (13, .iconst 2, 1, 14), (14, .newarray .boolean, 2, 16), (16, .putfield 15, 3, 19), (19, .aload_n 0, 1, 20), (20, .sipush 250, 3, 23), (23, .newarray .int, 2, 25), (25, .putfield 19, 3, 28), (28, .aload_n 0, 1, 29), (29, .new 23, 3, 32), (32, .dup, 1, 33), (33, .invokespecial 25, 3, 36), (36, .putfield 26, 3, 39), (39, .aload_n 0, 1, 40), (40, .new 30, 3, 43), (43, .dup, 1, 44), (44, .invokespecial 32, 3, 47), (47, .putfield 33, 3, 50), (50, .aload_n 0, 1, 51), (51, .iconst 3, 1, 52), (52, .newarray .int, 2, 54), (54, .putfield 37, 3, 57), (57, .aload_n 0, 1, 58), (58, .iconst 1, 1, 59), (59, .putfield 40, 3, 62), (62, .new 44, 3, 65), (65, .dup, 1, 66), (66, .invokespecial 46, 3, 69), (69, .astore_n 1, 1, 70), (70, .aload_n 0, 1, 71), (71, .new 9, 3, 74), (74, .dup, 1, 75), (75, .aload_n 1, 1, 76), (76, .invokespecial 47, 3, 79), (79, .putfield 50, 3, 82), (82, .aload_n 0, 1, 83), (83, .new 54, 3, 86), (86, .dup, 1, 87), (87, .aload_n 1, 1, 88), (88, .invokespecial 56, 3, 91), (91, .putfield 57, 3, 94), (94, .aload_n 0, 1, 95), (95, .new 61, 3, 98), (98, .dup, 1, 99), (99, .aload_n 1, 1, 100), (100, .invokespecial 63, 3, 103), (103, .putfield 64, 3, 106), (106, .iconst 0, 1, 107), (107, .istore_n 2, 1, 108), (108, .iload_n 2, 1, 109), (109, .iconst 2, 1, 110), (110, .if_icmp .ge 29, 3, 113), (113, .aload_n 0, 1, 114), (114, .getfield 11, 3, 117), (117, .iload_n 2, 1, 118), (118, .new 9, 3, 121), (121, .dup, 1, 122), (122, .new 44, 3, 125), (125, .dup, 1, 126), (126, .invokespecial 46, 3, 129), (129, .invokespecial 47, 3, 132), (132, .aastore, 1, 133), (133, .iinc 2 1, 3, 136), (136, .goto (-28), 3, 139), (139, .return_, 1, 140)]
set_option maxRecDepth 100000 in
theorem dt_X11_init : DT cX11_init tdt_X11_init := by unfold DT; decide +kernel
theorem oi_X11 : Cond.methodLink RX11 1 Lib.objectInit ∈ tbl ∧ Cond.instanceMethod Lib.objectInit ∈ tbl ∧ Cond.code Lib.objectInit ⟨#[0xb1]⟩ 1 none ∈ tbl := ⟨tbl_in 135 (by decide +kernel) (by decide +kernel), tbl_in 136 (by decide +kernel) (by decide +kernel), tbl_in 137 (by decide +kernel) (by decide +kernel)⟩
theorem kl_X11_9 : Cond.classLink RX11 9 RX6 ∈ tbl := tbl_in 138 (by decide +kernel) (by decide +kernel)
theorem fc_X11_11 : FC RX11 11 11 1 true (.array (.object "TiedThrees$Scene")) := ⟨TX11, 15, tyX11, rfl, by decide, lay_11, rfl, tbl_in 380 (by decide +kernel) (by decide +kernel), tyX11_ok, nmX11, rfl, by decide +kernel⟩
theorem ac_boolean : Cond.arrayClass .boolean ∈ tbl := tbl_in 190 (by decide +kernel) (by decide +kernel)
theorem fc_X11_15 : FC RX11 15 11 2 true (.array .boolean) := ⟨TX11, 15, tyX11, rfl, by decide, lay_11, rfl, tbl_in 381 (by decide +kernel) (by decide +kernel), tyX11_ok, nmX11, rfl, by decide +kernel⟩
theorem ac_int : Cond.arrayClass .int ∈ tbl := tbl_in 191 (by decide +kernel) (by decide +kernel)
theorem fc_X11_19 : FC RX11 19 11 3 true (.array .int) := ⟨TX11, 15, tyX11, rfl, by decide, lay_11, rfl, tbl_in 382 (by decide +kernel) (by decide +kernel), tyX11_ok, nmX11, rfl, by decide +kernel⟩
theorem nc_X11_23 : NC RX11 23 10 5 [.null, .null, .int 0, .int 0, .int 0] := ⟨RX10, TX10, tyX10, rfl, tbl_in 140 (by decide +kernel) (by decide +kernel), tbl_in 141 (by decide +kernel) (by decide +kernel), tbl_in 110 (by decide +kernel) (by decide +kernel), lay_10, tyX10_ok, fun j hj => by
  match j, hj with
  | 0, _ => rfl
  | 1, _ => rfl
  | 2, _ => rfl
  | 3, _ => rfl
  | 4, _ => rfl
  | j + 5, hj => omega⟩
def tdt_X10_init : List (Nat × Instr × Nat × Nat) := [(0, .aload_n 0, 1, 1), (1, .invokespecial 3, 3, 4), (4, .aload_n 0, 1, 5), (5, .new 9, 3, 8), (8, .dup, 1, 9), (9, .invokespecial 11, 3, 12), (12, .putfield 12, 3, 15), (15, .aload_n 0, 1, 16), (16, .iconst 0, 1, 17), (17, .newarray .int, 2, 19), (19, .putfield 18, 3, 22), (22, .return_, 1, 23)]
set_option maxRecDepth 100000 in
theorem dt_X10_init : DT cX10_init tdt_X10_init := by unfold DT; decide +kernel
theorem oi_X10 : Cond.methodLink RX10 3 Lib.objectInit ∈ tbl ∧ Cond.instanceMethod Lib.objectInit ∈ tbl ∧ Cond.code Lib.objectInit ⟨#[0xb1]⟩ 1 none ∈ tbl := ⟨tbl_in 145 (by decide +kernel) (by decide +kernel), tbl_in 136 (by decide +kernel) (by decide +kernel), tbl_in 137 (by decide +kernel) (by decide +kernel)⟩
theorem nc_X10_9 : NC RX10 9 9 7 [.null, .null, .null, .null, .null, .int 0, .int 0] := ⟨RX9, TX9, tyX9, rfl, tbl_in 146 (by decide +kernel) (by decide +kernel), tbl_in 147 (by decide +kernel) (by decide +kernel), tbl_in 111 (by decide +kernel) (by decide +kernel), lay_9, tyX9_ok, fun j hj => by
  match j, hj with
  | 0, _ => rfl
  | 1, _ => rfl
  | 2, _ => rfl
  | 3, _ => rfl
  | 4, _ => rfl
  | 5, _ => rfl
  | 6, _ => rfl
  | j + 7, hj => omega⟩
def tdt_X9_init : List (Nat × Instr × Nat × Nat) := [(0, .aload_n 0, 1, 1), (1, .invokespecial 3, 3, 4), (4, .aload_n 0, 1, 5), (5, .bipush 9, 2, 7), (7, .newarray .int, 2, 9), (9, .putfield 9, 3, 12), (12, .aload_n 0, 1, 13), (13, .bipush 9, 2, 15), (15, .newarray .int, 2, 17), (17, .putfield 15, 3, 20), (20, .aload_n 0, 1, 21), (21, .bipush 9, 2, 23), (23, .newarray .int, 2, 25), (25, .putfield 18, 3, 28), (28, .aload_n 0, 1, 29), (29, .bipush 36, 2, 31), (31, .newarray .int, 2, 33), (33, .putfield 21, 3, 36), (36, .aload_n 0, 1, 37), (37, .bipush 36, 2, 39), (39, .newarray .int, 2, 41), (41, .putfield 24, 3, 44), (44, .aload_n 0, 1, 45), (45, .iconst 4, 1, 46), (46, .putfield 27, 3, 49), (49, .return_, 1, 50)]
set_option maxRecDepth 100000 in
theorem dt_X9_init : DT cX9_init tdt_X9_init := by unfold DT; decide +kernel
theorem oi_X9 : Cond.methodLink RX9 3 Lib.objectInit ∈ tbl ∧ Cond.instanceMethod Lib.objectInit ∈ tbl ∧ Cond.code Lib.objectInit ⟨#[0xb1]⟩ 1 none ∈ tbl := ⟨tbl_in 151 (by decide +kernel) (by decide +kernel), tbl_in 136 (by decide +kernel) (by decide +kernel), tbl_in 137 (by decide +kernel) (by decide +kernel)⟩
theorem fc_X9_9 : FC RX9 9 9 0 true (.array .int) := ⟨TX9, 7, tyX9, rfl, by decide, lay_9, rfl, tbl_in 152 (by decide +kernel) (by decide +kernel), tyX9_ok, nmX9, rfl, by decide +kernel⟩
theorem fc_X9_15 : FC RX9 15 9 1 true (.array .int) := ⟨TX9, 7, tyX9, rfl, by decide, lay_9, rfl, tbl_in 154 (by decide +kernel) (by decide +kernel), tyX9_ok, nmX9, rfl, by decide +kernel⟩
theorem fc_X9_18 : FC RX9 18 9 2 true (.array .int) := ⟨TX9, 7, tyX9, rfl, by decide, lay_9, rfl, tbl_in 155 (by decide +kernel) (by decide +kernel), tyX9_ok, nmX9, rfl, by decide +kernel⟩
theorem fc_X9_21 : FC RX9 21 9 3 true (.array .int) := ⟨TX9, 7, tyX9, rfl, by decide, lay_9, rfl, tbl_in 160 (by decide +kernel) (by decide +kernel), tyX9_ok, nmX9, rfl, by decide +kernel⟩
theorem fc_X9_24 : FC RX9 24 9 4 true (.array .int) := ⟨TX9, 7, tyX9, rfl, by decide, lay_9, rfl, tbl_in 163 (by decide +kernel) (by decide +kernel), tyX9_ok, nmX9, rfl, by decide +kernel⟩
theorem fc_X9_27 : FC RX9 27 9 5 false .int := ⟨TX9, 7, tyX9, rfl, by decide, lay_9, rfl, tbl_in 166 (by decide +kernel) (by decide +kernel), tyX9_ok, nmX9, rfl, by decide +kernel⟩
theorem ci_X10_11 : CFI RX10 11 M_X9_init 0 := ⟨cn_X9_init, Or.inr ⟨"TiedThrees", nst_in 148 (by decide +kernel) (by decide +kernel)⟩, tbl_in 149 (by decide +kernel) (by decide +kernel), rfl, rfl⟩
theorem fc_X10_12 : FC RX10 12 10 0 true (.object "TiedThrees$Town") := ⟨TX10, 5, tyX10, rfl, by decide, lay_10, rfl, tbl_in 192 (by decide +kernel) (by decide +kernel), tyX10_ok, nmX10, rfl, by decide +kernel⟩
theorem fc_X10_18 : FC RX10 18 10 1 false (.array .int) := ⟨TX10, 5, tyX10, rfl, by decide, lay_10, rfl, tbl_in 194 (by decide +kernel) (by decide +kernel), tyX10_ok, nmX10, rfl, by decide +kernel⟩
theorem ci_X11_25 : CFI RX11 25 M_X10_init 0 := ⟨cn_X10_init, Or.inr ⟨"TiedThrees", nst_in 142 (by decide +kernel) (by decide +kernel)⟩, tbl_in 143 (by decide +kernel) (by decide +kernel), rfl, rfl⟩
theorem fc_X11_26 : FC RX11 26 11 4 true (.object "TiedThrees$TownReader") := ⟨TX11, 15, tyX11, rfl, by decide, lay_11, rfl, tbl_in 383 (by decide +kernel) (by decide +kernel), tyX11_ok, nmX11, rfl, by decide +kernel⟩
theorem nc_X11_30 : NC RX11 30 7 6 [.null, .null, .null, .null, .null, .int 0] := ⟨RX7, TX7, tyX7, rfl, tbl_in 209 (by decide +kernel) (by decide +kernel), tbl_in 210 (by decide +kernel) (by decide +kernel), tbl_in 112 (by decide +kernel) (by decide +kernel), lay_7, tyX7_ok, fun j hj => by
  match j, hj with
  | 0, _ => rfl
  | 1, _ => rfl
  | 2, _ => rfl
  | 3, _ => rfl
  | 4, _ => rfl
  | 5, _ => rfl
  | j + 6, hj => omega⟩
theorem ci_X11_32 : CFI RX11 32 M_X7_init 0 := ⟨cn_X7_init, Or.inr ⟨"TiedThrees", nst_in 211 (by decide +kernel) (by decide +kernel)⟩, tbl_in 212 (by decide +kernel) (by decide +kernel), rfl, rfl⟩
theorem fc_X11_33 : FC RX11 33 11 7 true (.object "TiedThrees$Splits") := ⟨TX11, 15, tyX11, rfl, by decide, lay_11, rfl, tbl_in 386 (by decide +kernel) (by decide +kernel), tyX11_ok, nmX11, rfl, by decide +kernel⟩
theorem fc_X11_37 : FC RX11 37 11 8 true (.array .int) := ⟨TX11, 15, tyX11, rfl, by decide, lay_11, rfl, tbl_in 387 (by decide +kernel) (by decide +kernel), tyX11_ok, nmX11, rfl, by decide +kernel⟩
theorem fc_X11_40 : FC RX11 40 11 11 false .int := ⟨TX11, 15, tyX11, rfl, by decide, lay_11, rfl, tbl_in 390 (by decide +kernel) (by decide +kernel), tyX11_ok, nmX11, rfl, by decide +kernel⟩
theorem nc_X11_44 : NC RX11 44 9 7 [.null, .null, .null, .null, .null, .int 0, .int 0] := ⟨RX9, TX9, tyX9, rfl, tbl_in 240 (by decide +kernel) (by decide +kernel), tbl_in 147 (by decide +kernel) (by decide +kernel), tbl_in 111 (by decide +kernel) (by decide +kernel), lay_9, tyX9_ok, fun j hj => by
  match j, hj with
  | 0, _ => rfl
  | 1, _ => rfl
  | 2, _ => rfl
  | 3, _ => rfl
  | 4, _ => rfl
  | 5, _ => rfl
  | 6, _ => rfl
  | j + 7, hj => omega⟩
theorem ci_X11_46 : CFI RX11 46 M_X9_init 0 := ⟨cn_X9_init, Or.inr ⟨"TiedThrees", nst_in 241 (by decide +kernel) (by decide +kernel)⟩, tbl_in 149 (by decide +kernel) (by decide +kernel), rfl, rfl⟩
theorem nc_X11_9 : NC RX11 9 6 8 [.null, .null, .null, .null, .null, .null, .int 0, .int 0] := ⟨RX6, TX6, tyX6, rfl, tbl_in 138 (by decide +kernel) (by decide +kernel), tbl_in 242 (by decide +kernel) (by decide +kernel), tbl_in 113 (by decide +kernel) (by decide +kernel), lay_6, tyX6_ok, fun j hj => by
  match j, hj with
  | 0, _ => rfl
  | 1, _ => rfl
  | 2, _ => rfl
  | 3, _ => rfl
  | 4, _ => rfl
  | 5, _ => rfl
  | 6, _ => rfl
  | 7, _ => rfl
  | j + 8, hj => omega⟩
def tdt_X6_init : List (Nat × Instr × Nat × Nat) := [(0, .aload_n 0, 1, 1), (1, .invokespecial 3, 3, 4), (4, .aload_n 0, 1, 5), (5, .bipush 8, 2, 7), (7, .newarray .int, 2, 9), (9, .putfield 9, 3, 12), (12, .aload_n 0, 1, 13), (13, .bipush 18, 2, 15), (15, .newarray .int, 2, 17), (17, .putfield 15, 3, 20), (20, .aload_n 0, 1, 21), (21, .iconst 5, 1, 22), (22, .newarray .int, 2, 24), (24, .putfield 18, 3, 27), (27, .aload_n 0, 1, 28), (28, .iconst 5, 1, 29), (29, .newarray .int, 2, 31), (31, .putfield 21, 3, 34), (34, .aload_n 0, 1, 35), (35, .iconst 5, 1, 36), (36, .newarray .int, 2, 38), (38, .putfield 24, 3, 41), (41, .aload_n 0, 1, 42), (42, .aload_n 1, 1, 43), (43, .putfield 27, 3, 46), (46, .return_, 1, 47)]
set_option maxRecDepth 100000 in
theorem dt_X6_init : DT cX6_init tdt_X6_init := by unfold DT; decide +kernel
theorem oi_X6 : Cond.methodLink RX6 3 Lib.objectInit ∈ tbl ∧ Cond.instanceMethod Lib.objectInit ∈ tbl ∧ Cond.code Lib.objectInit ⟨#[0xb1]⟩ 1 none ∈ tbl := ⟨tbl_in 246 (by decide +kernel) (by decide +kernel), tbl_in 136 (by decide +kernel) (by decide +kernel), tbl_in 137 (by decide +kernel) (by decide +kernel)⟩
theorem fc_X6_9 : FC RX6 9 6 1 true (.array .int) := ⟨TX6, 8, tyX6, rfl, by decide, lay_6, rfl, tbl_in 249 (by decide +kernel) (by decide +kernel), tyX6_ok, nmX6, rfl, by decide +kernel⟩
theorem fc_X6_15 : FC RX6 15 6 2 true (.array .int) := ⟨TX6, 8, tyX6, rfl, by decide, lay_6, rfl, tbl_in 251 (by decide +kernel) (by decide +kernel), tyX6_ok, nmX6, rfl, by decide +kernel⟩
theorem fc_X6_18 : FC RX6 18 6 3 true (.array .int) := ⟨TX6, 8, tyX6, rfl, by decide, lay_6, rfl, tbl_in 252 (by decide +kernel) (by decide +kernel), tyX6_ok, nmX6, rfl, by decide +kernel⟩
theorem fc_X6_21 : FC RX6 21 6 4 true (.array .int) := ⟨TX6, 8, tyX6, rfl, by decide, lay_6, rfl, tbl_in 254 (by decide +kernel) (by decide +kernel), tyX6_ok, nmX6, rfl, by decide +kernel⟩
theorem fc_X6_24 : FC RX6 24 6 5 true (.array .int) := ⟨TX6, 8, tyX6, rfl, by decide, lay_6, rfl, tbl_in 256 (by decide +kernel) (by decide +kernel), tyX6_ok, nmX6, rfl, by decide +kernel⟩
theorem fc_X6_27 : FC RX6 27 6 0 true (.object "TiedThrees$Town") := ⟨TX6, 8, tyX6, rfl, by decide, lay_6, rfl, tbl_in 247 (by decide +kernel) (by decide +kernel), tyX6_ok, nmX6, rfl, by decide +kernel⟩
theorem ci_X11_47 : CFI RX11 47 M_X6_init 1 := ⟨cn_X6_init, Or.inr ⟨"TiedThrees", nst_in 243 (by decide +kernel) (by decide +kernel)⟩, tbl_in 244 (by decide +kernel) (by decide +kernel), rfl, rfl⟩
theorem fc_X11_50 : FC RX11 50 11 0 true (.object "TiedThrees$Scene") := ⟨TX11, 15, tyX11, rfl, by decide, lay_11, rfl, tbl_in 379 (by decide +kernel) (by decide +kernel), tyX11_ok, nmX11, rfl, by decide +kernel⟩
theorem nc_X11_54 : NC RX11 54 0 10 [.null, .null, .null, .null, .null, .null, .null, .int 0, .int 0, .int 0] := ⟨RX0, TX0, tyX0, rfl, tbl_in 279 (by decide +kernel) (by decide +kernel), tbl_in 280 (by decide +kernel) (by decide +kernel), tbl_in 114 (by decide +kernel) (by decide +kernel), lay_0, tyX0_ok, fun j hj => by
  match j, hj with
  | 0, _ => rfl
  | 1, _ => rfl
  | 2, _ => rfl
  | 3, _ => rfl
  | 4, _ => rfl
  | 5, _ => rfl
  | 6, _ => rfl
  | 7, _ => rfl
  | 8, _ => rfl
  | 9, _ => rfl
  | j + 10, hj => omega⟩
def tdt_X0_init : List (Nat × Instr × Nat × Nat) := [(0, .aload_n 0, 1, 1), (1, .invokespecial 3, 3, 4), (4, .aload_n 0, 1, 5), (5, .iconst 5, 1, 6), (6, .anewarray 9, 3, 9), (9, .putfield 11, 3, 12), (12, .aload_n 0, 1, 13), (13, .iconst 3, 1, 14), (14, .newarray .int, 2, 16), (16, .putfield 17, 3, 19), (19, .aload_n 0, 1, 20), (20, .iconst 3, 1, 21), (21, .newarray .int, 2, 23), (23, .putfield 21, 3, 26), (26, .aload_n 0, 1, 27), (27, .iconst 3, 1, 28), (28, .newarray .boolean, 2, 30), (30, .putfield 24, 3, 33), (33, .aload_n 0, 1, 34), (34, .bipush 36, 2, 36), (36, .newarray .boolean, 2, 38), (38, .putfield 28, 3, 41), (41, .aload_n 0, 1, 42), (42, .bipush 10, 2, 44), (44, .newarray .int, 2, 46), (46, .putfield 31, 3, 49), (49, .aload_n 0, 1, 50), (50, .aload_n 1, 1, 51), (51, .putfield 34, 3, 54), (54, .aload_n 0, 1, 55), (55, .getfield 11, 3, 58), (58, .iconst 0, 1, 59), (59, .new 9, 3, 62), (62, .dup, 1, 63), (63, .invokespecial 38, 3, 66), (66, .aastore, 1, 67), (67, .aload_n 0, 1, 68), (68, .getfield 11, 3, 71), (71, .iconst 1, 1, 72), (72, .new 39, 3, 75), (75, .dup, 1, 76), (76, .invokespecial 41, 3, 79), (79, .aastore, 1, 80), (80, .aload_n 0, 1, 81), (81, .getfield 11, 3, 84), (84, .iconst 2, 1, 85), (85, .new 42, 3, 88), (88, .dup, 1, 89), (89, .invokespecial 44, 3, 92), (92, .aastore, 1, 93), (93, .aload_n 0, 1, 94), (94, .getfield 11, 3, 97), (97, .iconst 3, 1, 98), (98, .new 45, 3, 101), (101, .dup, 1, 102), (102, .invokespecial 47, 3, 105), (105, .aastore, 1, 106), (106, .aload_n 0, 1, 107), (107, .getfield 11, 3, 110), (110, .iconst 4, 1, 111), (111, .new 48, 3, 114), (114, .dup, 1, 115), (115, .invokespecial 50, 3, 118), (118, .aastore, 1, 119), (119, .return_, 1, 120)]
set_option maxRecDepth 100000 in
theorem dt_X0_init : DT cX0_init tdt_X0_init := by unfold DT; decide +kernel
theorem oi_X0 : Cond.methodLink RX0 3 Lib.objectInit ∈ tbl ∧ Cond.instanceMethod Lib.objectInit ∈ tbl ∧ Cond.code Lib.objectInit ⟨#[0xb1]⟩ 1 none ∈ tbl := ⟨tbl_in 284 (by decide +kernel) (by decide +kernel), tbl_in 136 (by decide +kernel) (by decide +kernel), tbl_in 137 (by decide +kernel) (by decide +kernel)⟩
theorem kl_X0_9 : Cond.classLink RX0 9 RX5 ∈ tbl := tbl_in 285 (by decide +kernel) (by decide +kernel)
theorem fc_X0_11 : FC RX0 11 0 1 true (.array (.object "TiedThrees$Person")) := ⟨TX0, 10, tyX0, rfl, by decide, lay_0, rfl, tbl_in 322 (by decide +kernel) (by decide +kernel), tyX0_ok, nmX0, rfl, by decide +kernel⟩
theorem fc_X0_17 : FC RX0 17 0 2 true (.array .int) := ⟨TX0, 10, tyX0, rfl, by decide, lay_0, rfl, tbl_in 323 (by decide +kernel) (by decide +kernel), tyX0_ok, nmX0, rfl, by decide +kernel⟩
theorem fc_X0_21 : FC RX0 21 0 3 true (.array .int) := ⟨TX0, 10, tyX0, rfl, by decide, lay_0, rfl, tbl_in 324 (by decide +kernel) (by decide +kernel), tyX0_ok, nmX0, rfl, by decide +kernel⟩
theorem fc_X0_24 : FC RX0 24 0 4 true (.array .boolean) := ⟨TX0, 10, tyX0, rfl, by decide, lay_0, rfl, tbl_in 328 (by decide +kernel) (by decide +kernel), tyX0_ok, nmX0, rfl, by decide +kernel⟩
theorem fc_X0_28 : FC RX0 28 0 5 true (.array .boolean) := ⟨TX0, 10, tyX0, rfl, by decide, lay_0, rfl, tbl_in 330 (by decide +kernel) (by decide +kernel), tyX0_ok, nmX0, rfl, by decide +kernel⟩
theorem fc_X0_31 : FC RX0 31 0 6 true (.array .int) := ⟨TX0, 10, tyX0, rfl, by decide, lay_0, rfl, tbl_in 331 (by decide +kernel) (by decide +kernel), tyX0_ok, nmX0, rfl, by decide +kernel⟩
theorem fc_X0_34 : FC RX0 34 0 0 true (.object "TiedThrees$Town") := ⟨TX0, 10, tyX0, rfl, by decide, lay_0, rfl, tbl_in 321 (by decide +kernel) (by decide +kernel), tyX0_ok, nmX0, rfl, by decide +kernel⟩
theorem nc_X0_9 : NC RX0 9 5 0 [] := ⟨RX5, TX5, tyX5, rfl, tbl_in 285 (by decide +kernel) (by decide +kernel), tbl_in 287 (by decide +kernel) (by decide +kernel), tbl_in 115 (by decide +kernel) (by decide +kernel), fun w hw => by simp [u_ws] at hw, tyX5_ok, fun j hj => absurd hj (Nat.not_lt_zero j)⟩
def tdt_X5_init : List (Nat × Instr × Nat × Nat) := [(0, .aload_n 0, 1, 1), (1, .invokespecial 1, 3, 4), (4, .return_, 1, 5)]
set_option maxRecDepth 100000 in
theorem dt_X5_init : DT cX5_init tdt_X5_init := by unfold DT; decide +kernel
theorem oi_X5 : Cond.methodLink RX5 1 Lib.objectInit ∈ tbl ∧ Cond.instanceMethod Lib.objectInit ∈ tbl ∧ Cond.code Lib.objectInit ⟨#[0xb1]⟩ 1 none ∈ tbl := ⟨tbl_in 291 (by decide +kernel) (by decide +kernel), tbl_in 136 (by decide +kernel) (by decide +kernel), tbl_in 137 (by decide +kernel) (by decide +kernel)⟩
theorem ci_X0_38 : CFI RX0 38 M_X5_init 0 := ⟨cn_X5_init, Or.inr ⟨"TiedThrees", nst_in 288 (by decide +kernel) (by decide +kernel)⟩, tbl_in 289 (by decide +kernel) (by decide +kernel), rfl, rfl⟩
theorem nc_X0_39 : NC RX0 39 2 0 [] := ⟨RX2, TX2, tyX2, rfl, tbl_in 293 (by decide +kernel) (by decide +kernel), tbl_in 294 (by decide +kernel) (by decide +kernel), tbl_in 116 (by decide +kernel) (by decide +kernel), fun w hw => by simp [u_ws] at hw, tyX2_ok, fun j hj => absurd hj (Nat.not_lt_zero j)⟩
def tdt_X2_init : List (Nat × Instr × Nat × Nat) := [(0, .aload_n 0, 1, 1), (1, .invokespecial 1, 3, 4), (4, .return_, 1, 5)]
set_option maxRecDepth 100000 in
theorem dt_X2_init : DT cX2_init tdt_X2_init := by unfold DT; decide +kernel
theorem ci_X2_1 : CFI RX2 1 M_X5_init 0 := ⟨cn_X5_init, Or.inr ⟨"TiedThrees", nst_in 298 (by decide +kernel) (by decide +kernel)⟩, tbl_in 289 (by decide +kernel) (by decide +kernel), rfl, rfl⟩
theorem ci_X0_41 : CFI RX0 41 M_X2_init 0 := ⟨cn_X2_init, Or.inr ⟨"TiedThrees", nst_in 295 (by decide +kernel) (by decide +kernel)⟩, tbl_in 296 (by decide +kernel) (by decide +kernel), rfl, rfl⟩
theorem nc_X0_42 : NC RX0 42 8 0 [] := ⟨RX8, TX8, tyX8, rfl, tbl_in 300 (by decide +kernel) (by decide +kernel), tbl_in 301 (by decide +kernel) (by decide +kernel), tbl_in 117 (by decide +kernel) (by decide +kernel), fun w hw => by simp [u_ws] at hw, tyX8_ok, fun j hj => absurd hj (Nat.not_lt_zero j)⟩
def tdt_X8_init : List (Nat × Instr × Nat × Nat) := [(0, .aload_n 0, 1, 1), (1, .invokespecial 3, 3, 4), (4, .return_, 1, 5)]
set_option maxRecDepth 100000 in
theorem dt_X8_init : DT cX8_init tdt_X8_init := by unfold DT; decide +kernel
theorem ci_X8_3 : CFI RX8 3 M_X5_init 0 := ⟨cn_X5_init, Or.inr ⟨"TiedThrees", nst_in 305 (by decide +kernel) (by decide +kernel)⟩, tbl_in 289 (by decide +kernel) (by decide +kernel), rfl, rfl⟩
theorem ci_X0_44 : CFI RX0 44 M_X8_init 0 := ⟨cn_X8_init, Or.inr ⟨"TiedThrees", nst_in 302 (by decide +kernel) (by decide +kernel)⟩, tbl_in 303 (by decide +kernel) (by decide +kernel), rfl, rfl⟩
theorem nc_X0_45 : NC RX0 45 4 0 [] := ⟨RX4, TX4, tyX4, rfl, tbl_in 307 (by decide +kernel) (by decide +kernel), tbl_in 308 (by decide +kernel) (by decide +kernel), tbl_in 118 (by decide +kernel) (by decide +kernel), fun w hw => by simp [u_ws] at hw, tyX4_ok, fun j hj => absurd hj (Nat.not_lt_zero j)⟩
def tdt_X4_init : List (Nat × Instr × Nat × Nat) := [(0, .aload_n 0, 1, 1), (1, .invokespecial 1, 3, 4), (4, .return_, 1, 5)]
set_option maxRecDepth 100000 in
theorem dt_X4_init : DT cX4_init tdt_X4_init := by unfold DT; decide +kernel
theorem ci_X4_1 : CFI RX4 1 M_X5_init 0 := ⟨cn_X5_init, Or.inr ⟨"TiedThrees", nst_in 312 (by decide +kernel) (by decide +kernel)⟩, tbl_in 289 (by decide +kernel) (by decide +kernel), rfl, rfl⟩
theorem ci_X0_47 : CFI RX0 47 M_X4_init 0 := ⟨cn_X4_init, Or.inr ⟨"TiedThrees", nst_in 309 (by decide +kernel) (by decide +kernel)⟩, tbl_in 310 (by decide +kernel) (by decide +kernel), rfl, rfl⟩
theorem nc_X0_48 : NC RX0 48 3 0 [] := ⟨RX3, TX3, tyX3, rfl, tbl_in 314 (by decide +kernel) (by decide +kernel), tbl_in 315 (by decide +kernel) (by decide +kernel), tbl_in 119 (by decide +kernel) (by decide +kernel), fun w hw => by simp [u_ws] at hw, tyX3_ok, fun j hj => absurd hj (Nat.not_lt_zero j)⟩
def tdt_X3_init : List (Nat × Instr × Nat × Nat) := [(0, .aload_n 0, 1, 1), (1, .invokespecial 1, 3, 4), (4, .return_, 1, 5)]
set_option maxRecDepth 100000 in
theorem dt_X3_init : DT cX3_init tdt_X3_init := by unfold DT; decide +kernel
theorem ci_X3_1 : CFI RX3 1 M_X4_init 0 := ⟨cn_X4_init, Or.inr ⟨"TiedThrees", nst_in 319 (by decide +kernel) (by decide +kernel)⟩, tbl_in 310 (by decide +kernel) (by decide +kernel), rfl, rfl⟩
theorem ci_X0_50 : CFI RX0 50 M_X3_init 0 := ⟨cn_X3_init, Or.inr ⟨"TiedThrees", nst_in 316 (by decide +kernel) (by decide +kernel)⟩, tbl_in 317 (by decide +kernel) (by decide +kernel), rfl, rfl⟩
theorem ci_X11_56 : CFI RX11 56 M_X0_init 1 := ⟨cn_X0_init, Or.inr ⟨"TiedThrees", nst_in 281 (by decide +kernel) (by decide +kernel)⟩, tbl_in 282 (by decide +kernel) (by decide +kernel), rfl, rfl⟩
theorem fc_X11_57 : FC RX11 57 11 5 true (.object "TiedThrees$Day") := ⟨TX11, 15, tyX11, rfl, by decide, lay_11, rfl, tbl_in 384 (by decide +kernel) (by decide +kernel), tyX11_ok, nmX11, rfl, by decide +kernel⟩
theorem nc_X11_61 : NC RX11 61 1 4 [.null, .null, .null, .null] := ⟨RX1, TX1, tyX1, rfl, tbl_in 360 (by decide +kernel) (by decide +kernel), tbl_in 361 (by decide +kernel) (by decide +kernel), tbl_in 120 (by decide +kernel) (by decide +kernel), lay_1, tyX1_ok, fun j hj => by
  match j, hj with
  | 0, _ => rfl
  | 1, _ => rfl
  | 2, _ => rfl
  | 3, _ => rfl
  | j + 4, hj => omega⟩
def tdt_X1_init : List (Nat × Instr × Nat × Nat) := [(0, .aload_n 0, 1, 1), (1, .invokespecial 3, 3, 4), (4, .aload_n 0, 1, 5), (5, .bipush 60, 2, 7), (7, .newarray .int, 2, 9), (9, .putfield 9, 3, 12), (12, .aload_n 0, 1, 13), (13, .sipush 384, 3, 16), (16, .newarray .int, 2, 18), (18, .putfield 15, 3, 21), (21, .aload_n 0, 1, 22), (22, .sipush 384, 3, 25), (25, .newarray .int, 2, 27), (27, .putfield 18, 3, 30), (30, .aload_n 0, 1, 31), (31, .aload_n 1, 1, 32), (32, .putfield 21, 3, 35), (35, .return_, 1, 36)]
set_option maxRecDepth 100000 in
theorem dt_X1_init : DT cX1_init tdt_X1_init := by unfold DT; decide +kernel
theorem oi_X1 : Cond.methodLink RX1 3 Lib.objectInit ∈ tbl ∧ Cond.instanceMethod Lib.objectInit ∈ tbl ∧ Cond.code Lib.objectInit ⟨#[0xb1]⟩ 1 none ∈ tbl := ⟨tbl_in 365 (by decide +kernel) (by decide +kernel), tbl_in 136 (by decide +kernel) (by decide +kernel), tbl_in 137 (by decide +kernel) (by decide +kernel)⟩
theorem fc_X1_9 : FC RX1 9 1 1 true (.array .int) := ⟨TX1, 4, tyX1, rfl, by decide, lay_1, rfl, tbl_in 367 (by decide +kernel) (by decide +kernel), tyX1_ok, nmX1, rfl, by decide +kernel⟩
theorem fc_X1_15 : FC RX1 15 1 2 false (.array .int) := ⟨TX1, 4, tyX1, rfl, by decide, lay_1, rfl, tbl_in 368 (by decide +kernel) (by decide +kernel), tyX1_ok, nmX1, rfl, by decide +kernel⟩
theorem fc_X1_18 : FC RX1 18 1 3 false (.array .int) := ⟨TX1, 4, tyX1, rfl, by decide, lay_1, rfl, tbl_in 369 (by decide +kernel) (by decide +kernel), tyX1_ok, nmX1, rfl, by decide +kernel⟩
theorem fc_X1_21 : FC RX1 21 1 0 true (.object "TiedThrees$Town") := ⟨TX1, 4, tyX1, rfl, by decide, lay_1, rfl, tbl_in 366 (by decide +kernel) (by decide +kernel), tyX1_ok, nmX1, rfl, by decide +kernel⟩
theorem ci_X11_63 : CFI RX11 63 M_X1_init 1 := ⟨cn_X1_init, Or.inr ⟨"TiedThrees", nst_in 362 (by decide +kernel) (by decide +kernel)⟩, tbl_in 363 (by decide +kernel) (by decide +kernel), rfl, rfl⟩
theorem fc_X11_64 : FC RX11 64 11 6 true (.object "TiedThrees$FreeDay") := ⟨TX11, 15, tyX11, rfl, by decide, lay_11, rfl, tbl_in 385 (by decide +kernel) (by decide +kernel), tyX11_ok, nmX11, rfl, by decide +kernel⟩
def tdt_X12_init : List (Nat × Instr × Nat × Nat) := [(0, .aload_n 0, 1, 1), (1, .invokespecial 1, 3, 4), (4, .aload_n 0, 1, 5), (5, .sipush 143, 3, 8), (8, .newarray .int, 2, 10), (10, .putfield 7, 3, 13), (13, .aload_n 0, 1, 14), (14, .sipush 286, 3, 17), (17, .newarray .int, 2, 19), (19, .putfield 13, 3, 22), (22, .aload_n 0, 1, 23), (23, .iconst 2, 1, 24), (24, .newarray .boolean, 2, 26), (26, .putfield 16, 3, 29), (29, .aload_n 0, 1, 30), (30, .iconst 3, 1, 31), (31, .newarray .int, 2, 33), (33, .putfield 20, 3, 36), (36, .aload_n 0, 1, 37), (37, .lconst 1, 1, 38), (38, .putfield 23, 3, 41), (41, .aload_n 0, 1, 42), (42, .iconst 3, 1, 43), (43, .newarray .int, 2, 45), (45, .putfield 27, 3, 48), (48, .aload_n 0, 1, 49), (49, .iconst 3, 1, 50), (50, .newarray .int, 2, 52), (52, .putfield 30, 3, 55), (55, .aload_n 0, 1, 56), (56, .bipush 10, 2, 58), (58, .newarray .int, 2, 60), (60, .putfield 33, 3, 63), (63, .aload_n 0, 1, 64), (64, .sipush 24576, 3, 67), (67, .newarray .boolean, 2, 69), (69, .putfield 36, 3, 72), (72, .aload_n 0, 1, 73), (73, .sipush 24576, 3, 76), (76, .newarray .boolean, 2, 78), (78, .putfield 39, 3, 81), (81, .aload_n 0, 1, 82), (82, .iconst 3, 1, 83), (83, .newarray .int, 2, 85), (85, .putfield 42, 3, 88), (88, .aload_n 0, 1, 89), (89, .sipush 512, 3, 92), (92, .newarray .int, 2, 94), (94, .putfield 45, 3, 97), (97, .aload_n 0, 1, 98), (98, .iconst 3, 1, 99), (99, .newarray .int, 2, 101), (101, .putfield 48, 3, 104), (104, .aload_n 0, 1, 105), (105, .sipush 280, 3, 108), (108, .newarray .long, 2, 110), (110, .putfield 51, 3, 113), (113, .aload_n 0, 1, 114), (114, .sipush 7442, 3, 117), (117, .newarray .int, 2, 119), (119, .putfield 55, 3, 122), (122, .aload_n 0, 1, 123), (123, .sipush 7442, 3, 126), (126, .newarray .int, 2, 128), (128, .putfield 58, 3, 131), (131, .aload_n 0, 1, 132), (132, .sipush 7442, 3, 135), (135, .newarray .int, 2, 137), (137, .putfield 61, 3, 140), (140, .aload_n 0, 1, 141), (141, .sipush 250, 3, 144), (144, .newarray .int, 2, 146), (146, .putfield 64, 3, 149), (149, .aload_n 0, 1, 150), (150, .bipush 101, 2, 152), (152, .newarray .int, 2, 154), (154, .putfield 67, 3, 157), (157, .aload_n 0, 1, 158), (158, .getfield 7, 3, 161), (161, .iconst 0, 1, 162), (162, .iconst 4, 1, 163), (163, .iastore, 1, 164), (164, .return_, 1, 165)]
set_option maxRecDepth 100000 in
theorem dt_X12_init : DT cX12_init tdt_X12_init := by unfold DT; decide +kernel
theorem oi_X12 : Cond.methodLink RX12 1 Lib.objectInit ∈ tbl ∧ Cond.instanceMethod Lib.objectInit ∈ tbl ∧ Cond.code Lib.objectInit ⟨#[0xb1]⟩ 1 none ∈ tbl := ⟨tbl_in 948 (by decide +kernel) (by decide +kernel), tbl_in 136 (by decide +kernel) (by decide +kernel), tbl_in 137 (by decide +kernel) (by decide +kernel)⟩
theorem fc_X12_7 : FC RX12 7 12 0 true (.array .int) := ⟨TX12, 29, tyX12, rfl, by decide, lay_12, rfl, tbl_in 949 (by decide +kernel) (by decide +kernel), tyX12_ok, nmX12, rfl, by decide +kernel⟩
theorem fc_X12_13 : FC RX12 13 12 1 true (.array .int) := ⟨TX12, 29, tyX12, rfl, by decide, lay_12, rfl, tbl_in 950 (by decide +kernel) (by decide +kernel), tyX12_ok, nmX12, rfl, by decide +kernel⟩
theorem fc_X12_16 : FC RX12 16 12 2 true (.array .boolean) := ⟨TX12, 29, tyX12, rfl, by decide, lay_12, rfl, tbl_in 951 (by decide +kernel) (by decide +kernel), tyX12_ok, nmX12, rfl, by decide +kernel⟩
theorem fc_X12_20 : FC RX12 20 12 3 true (.array .int) := ⟨TX12, 29, tyX12, rfl, by decide, lay_12, rfl, tbl_in 952 (by decide +kernel) (by decide +kernel), tyX12_ok, nmX12, rfl, by decide +kernel⟩
theorem fc_X12_23 : FC RX12 23 12 5 false .long := ⟨TX12, 29, tyX12, rfl, by decide, lay_12, rfl, tbl_in 954 (by decide +kernel) (by decide +kernel), tyX12_ok, nmX12, rfl, by decide +kernel⟩
theorem fc_X12_27 : FC RX12 27 12 6 true (.array .int) := ⟨TX12, 29, tyX12, rfl, by decide, lay_12, rfl, tbl_in 955 (by decide +kernel) (by decide +kernel), tyX12_ok, nmX12, rfl, by decide +kernel⟩
theorem fc_X12_30 : FC RX12 30 12 7 true (.array .int) := ⟨TX12, 29, tyX12, rfl, by decide, lay_12, rfl, tbl_in 956 (by decide +kernel) (by decide +kernel), tyX12_ok, nmX12, rfl, by decide +kernel⟩
theorem fc_X12_33 : FC RX12 33 12 8 true (.array .int) := ⟨TX12, 29, tyX12, rfl, by decide, lay_12, rfl, tbl_in 957 (by decide +kernel) (by decide +kernel), tyX12_ok, nmX12, rfl, by decide +kernel⟩
theorem fc_X12_36 : FC RX12 36 12 10 true (.array .boolean) := ⟨TX12, 29, tyX12, rfl, by decide, lay_12, rfl, tbl_in 959 (by decide +kernel) (by decide +kernel), tyX12_ok, nmX12, rfl, by decide +kernel⟩
theorem fc_X12_39 : FC RX12 39 12 11 true (.array .boolean) := ⟨TX12, 29, tyX12, rfl, by decide, lay_12, rfl, tbl_in 960 (by decide +kernel) (by decide +kernel), tyX12_ok, nmX12, rfl, by decide +kernel⟩
theorem fc_X12_42 : FC RX12 42 12 12 true (.array .int) := ⟨TX12, 29, tyX12, rfl, by decide, lay_12, rfl, tbl_in 961 (by decide +kernel) (by decide +kernel), tyX12_ok, nmX12, rfl, by decide +kernel⟩
theorem fc_X12_45 : FC RX12 45 12 13 true (.array .int) := ⟨TX12, 29, tyX12, rfl, by decide, lay_12, rfl, tbl_in 962 (by decide +kernel) (by decide +kernel), tyX12_ok, nmX12, rfl, by decide +kernel⟩
theorem fc_X12_48 : FC RX12 48 12 14 true (.array .int) := ⟨TX12, 29, tyX12, rfl, by decide, lay_12, rfl, tbl_in 963 (by decide +kernel) (by decide +kernel), tyX12_ok, nmX12, rfl, by decide +kernel⟩
theorem ac_long : Cond.arrayClass .long ∈ tbl := tbl_in 239 (by decide +kernel) (by decide +kernel)
theorem fc_X12_51 : FC RX12 51 12 15 true (.array .long) := ⟨TX12, 29, tyX12, rfl, by decide, lay_12, rfl, tbl_in 964 (by decide +kernel) (by decide +kernel), tyX12_ok, nmX12, rfl, by decide +kernel⟩
theorem fc_X12_55 : FC RX12 55 12 17 true (.array .int) := ⟨TX12, 29, tyX12, rfl, by decide, lay_12, rfl, tbl_in 966 (by decide +kernel) (by decide +kernel), tyX12_ok, nmX12, rfl, by decide +kernel⟩
theorem fc_X12_58 : FC RX12 58 12 18 true (.array .int) := ⟨TX12, 29, tyX12, rfl, by decide, lay_12, rfl, tbl_in 967 (by decide +kernel) (by decide +kernel), tyX12_ok, nmX12, rfl, by decide +kernel⟩
theorem fc_X12_61 : FC RX12 61 12 19 true (.array .int) := ⟨TX12, 29, tyX12, rfl, by decide, lay_12, rfl, tbl_in 968 (by decide +kernel) (by decide +kernel), tyX12_ok, nmX12, rfl, by decide +kernel⟩
theorem fc_X12_64 : FC RX12 64 12 20 true (.array .int) := ⟨TX12, 29, tyX12, rfl, by decide, lay_12, rfl, tbl_in 969 (by decide +kernel) (by decide +kernel), tyX12_ok, nmX12, rfl, by decide +kernel⟩
theorem fc_X12_67 : FC RX12 67 12 26 true (.array .int) := ⟨TX12, 29, tyX12, rfl, by decide, lay_12, rfl, tbl_in 975 (by decide +kernel) (by decide +kernel), tyX12_ok, nmX12, rfl, by decide +kernel⟩
def tdt_X7_init : List (Nat × Instr × Nat × Nat) := [(0, .aload_n 0, 1, 1), (1, .invokespecial 3, 3, 4), (4, .aload_n 0, 1, 5), (5, .bipush 84, 2, 7), (7, .newarray .int, 2, 9), (9, .putfield 11, 3, 12), (12, .aload_n 0, 1, 13), (13, .sipush 512, 3, 16), (16, .newarray .long, 2, 18), (18, .putfield 15, 3, 21), (21, .aload_n 0, 1, 22), (22, .sipush 512, 3, 25), (25, .newarray .int, 2, 27), (27, .putfield 19, 3, 30), (30, .aload_n 0, 1, 31), (31, .sipush 840, 3, 34), (34, .newarray .int, 2, 36), (36, .putfield 22, 3, 39), (39, .aload_n 0, 1, 40), (40, .sipush 280, 3, 43), (43, .newarray .long, 2, 45), (45, .putfield 25, 3, 48), (48, .iconst 0, 1, 49), (49, .istore_n 1, 1, 50), (50, .iconst 2, 1, 51), (51, .istore_n 2, 1, 52), (52, .iload_n 2, 1, 53), (53, .bipush 9, 2, 55), (55, .if_icmp .ge 88, 3, 58), (58, .iconst 1, 1, 59), (59, .istore_n 3, 1, 60), (60, .iload_n 3, 1, 61), (61, .iload_n 2, 1, 62), (62, .if_icmp .ge 75, 3, 65), (65, .iconst 0, 1, 66), (66, .istore 4, 2, 68), (68, .iload 4, 2, 70), (70, .iload_n 3, 1, 71), (71, .if_icmp .ge 60, 3, 74), (74, .iconst 1, 1, 75), (75, .iload 4, 2, 77), (77, .ishl, 1, 78), (78, .iconst 1, 1, 79), (79, .iload_n 3, 1, 80), (80, .ishl, 1, 81), (81, .ior, 1, 82), (82, .iconst 1, 1, 83), (83, .iload_n 2, 1, 84), (84, .ishl, 1, 85), (85, .ior, 1, 86), (86, .istore 5, 2, 88), (88, .aload_n 0, 1, 89), (89, .getfield 11, 3, 92), (92, .iload_n 1, 1, 93), (93, .iload 5, 2, 95), (95, .iastore, 1, 96), (96, .aload_n 0, 1, 97), (97, .getfield 15, 3, 100), (100, .iload 5, 2, 102), (102, .iload 4, 2, 104), (104, .iload_n 3, 1, 105), (105, .invokestatic 28, 3, 108), (108, .iload 4, 2, 110), (110, .iload_n 2, 1, 111), (111, .invokestatic 28, 3, 114), (114, .lor, 1, 115), (115, .iload_n 3, 1, 116), (116, .iload_n 2, 1, 117), (117, .invokestatic 28, 3, 120), (120, .lor, 1, 121), (121, .lastore, 1, 122), (122, .iinc 1 1, 3, 125), (125, .iinc 4 1, 3, 128), (128, .goto (-60), 3, 131), (131, .iinc 3 1, 3, 134), (134, .goto (-74), 3, 137), (137, .iinc 2 1, 3, 140), (140, .goto (-88), 3, 143), (143, .return_, 1, 144)]
set_option maxRecDepth 100000 in
theorem dt_X7_init : DT cX7_init tdt_X7_init := by unfold DT; decide +kernel
theorem oi_X7 : Cond.methodLink RX7 3 Lib.objectInit ∈ tbl ∧ Cond.instanceMethod Lib.objectInit ∈ tbl ∧ Cond.code Lib.objectInit ⟨#[0xb1]⟩ 1 none ∈ tbl := ⟨tbl_in 214 (by decide +kernel) (by decide +kernel), tbl_in 136 (by decide +kernel) (by decide +kernel), tbl_in 137 (by decide +kernel) (by decide +kernel)⟩
theorem fc_X7_11 : FC RX7 11 7 0 true (.array .int) := ⟨TX7, 6, tyX7, rfl, by decide, lay_7, rfl, tbl_in 218 (by decide +kernel) (by decide +kernel), tyX7_ok, nmX7, rfl, by decide +kernel⟩
theorem fc_X7_15 : FC RX7 15 7 1 true (.array .long) := ⟨TX7, 6, tyX7, rfl, by decide, lay_7, rfl, tbl_in 220 (by decide +kernel) (by decide +kernel), tyX7_ok, nmX7, rfl, by decide +kernel⟩
theorem fc_X7_19 : FC RX7 19 7 2 true (.array .int) := ⟨TX7, 6, tyX7, rfl, by decide, lay_7, rfl, tbl_in 221 (by decide +kernel) (by decide +kernel), tyX7_ok, nmX7, rfl, by decide +kernel⟩
theorem fc_X7_22 : FC RX7 22 7 3 true (.array .int) := ⟨TX7, 6, tyX7, rfl, by decide, lay_7, rfl, tbl_in 223 (by decide +kernel) (by decide +kernel), tyX7_ok, nmX7, rfl, by decide +kernel⟩
theorem fc_X7_25 : FC RX7 25 7 4 true (.array .long) := ⟨TX7, 6, tyX7, rfl, by decide, lay_7, rfl, tbl_in 224 (by decide +kernel) (by decide +kernel), tyX7_ok, nmX7, rfl, by decide +kernel⟩
def s_Splits_pairBit (a0 : Int32) (a1 : Int32) : Option Int64 :=
  some ((1 : Int64) <<< ((Int32.toInt64 (((a1 * (a1 - 1)) / 2) + a0)) &&& 63))
/-! Splits: its loops are walked over its own six cells; pairBit needs no world -/
def S7 : List (Nat × List Nat) := [(7, [4, 5, 6, 7, 8, 0]), (100, [84]), (102, [512]), (100, [512]), (100, [840]), (102, [280])]
theorem s7_0 : S7[0]? = some (7, [4, 5, 6, 7, 8, 0]) := rfl
theorem s7_1 : S7[1]? = some (100, [84]) := rfl
theorem s7_2 : S7[2]? = some (102, [512]) := rfl
def sgZ : Sg := (fun _ _ => 0, fun _ _ => 0, fun _ _ => 0)
set_option maxRecDepth 100000 in
set_option maxHeartbeats 4000000 in
theorem c_pairBit (l : Launch) (a b q : Int32) (z : Int64) (h : s_Splits_pairBit a b = some z) : Met l M_X7_pairBit.1 (wz M_X7_pairBit) (rmd 0) (fun v _ => v = #[Value.int a, Value.int b]) (fun _ st o t => o = .returned (some (.long z)) ∧ t.heap = st.heap) 0 0 (fun _ => False) := by
  have h : some _ = some z := h
  refine va_MetF (cc := M_X7_pairBit.2.1) (maxL := M_X7_pairBit.2.2.1) (ret := M_X7_pairBit.2.2.2) (by decide +kernel) rfl ?_
  intro p e s m args below meth c s₁ B hml hv
  have hv : args = #[Value.int a, Value.int b] := hv
  subst hv
  have hx := B.exec
  have hb := B.bytes
  have hr := B.returns
  have hlocks := B.notSynchronized
  have hl := lv_entry ([.int a, .int b]) (n := M_X7_pairBit.2.2.1) (Nat.le_of_ble_eq_true rfl)
  rw [show (#[Value.int a, Value.int b] : Array Value) = ([.int a, .int b] : List Value).toArray from rfl, lg_entry_eq]
  refine lv_lconst hx hb (dt_X7_pairBit.at 0 rfl).1 kl_1 ?_
  refine lv_iload_n hx hb (dt_X7_pairBit.at 1 rfl).1 rfl (lv_at hl 1 rfl) ?_
  refine lv_iload_n hx hb (dt_X7_pairBit.at 2 rfl).1 rfl (lv_at hl 1 rfl) ?_
  refine lv_iconst hx hb (dt_X7_pairBit.at 3 rfl).1 ki_1 ?_
  refine lv_isub hx hb (dt_X7_pairBit.at 4 rfl).1 ?_
  refine lv_imul hx hb (dt_X7_pairBit.at 5 rfl).1 ?_
  refine lv_iconst hx hb (dt_X7_pairBit.at 6 rfl).1 ki_2 ?_
  refine lv_idiv hx hb (dt_X7_pairBit.at 7 rfl).1 (by decide) ?_
  refine lv_iload_n hx hb (dt_X7_pairBit.at 8 rfl).1 rfl (lv_at hl 0 rfl) ?_
  refine lv_iadd hx hb (dt_X7_pairBit.at 9 rfl).1 ?_
  refine lv_lshl hx hb (dt_X7_pairBit.at 10 rfl).1 rfl ?_
  cases h
  exact W.lret hx hb hr (fun t ht hW => ⟨rfl, ht⟩) (fun q h => by cases h) (dt_X7_pairBit.at 11 rfl).1
theorem Ew_callPB {S : List (Nat × List Nat)} {M : MI} {ix : Nat} {σ : Sg} {pc pc' : Nat} {ls : List (Nat × Value)} {st : List Value} {p : Program} {l : Launch} {e : Env} {R : Room} {s : State} {m : MethodId} {args : Array Value} {below : List Frame} {meth : Method} {c : Code} {D : va_G} {tc : Nat → ClassId} {ad : Nat → Nat} {A : Nat → Prop} {Q : State → Prop} {kc ks : Nat} {a b : Int32} {z : Int64}
    (hC : CxW S M p s m args meth c D tc ad A) (hf : kc ≤ R.cells ∧ ks ≤ R.slots) (hd : Dc M.2.1 pc (.invokestatic ix) 3 pc') (cf : CFS M.1.cls ix M_X7_pairBit 2) (h : s_Splits_pairBit a b = some z) (hR : 1 ≤ R.frames ∧ 45 ≤ R.locals) (hroom : (st.map fun v => v.category).sum ≤ 8) (kk : Ew S M p l e R s m args below meth c D tc ad A Q kc ks pc' ls (.long z :: st) σ) : Ew S M p l e R s m args below meth c D tc ad A Q kc ks pc ls (.int b :: .int a :: st) σ := by
  obtain ⟨h1, rfl⟩ := hd
  obtain ⟨⟨f1, f2, f3, f4⟩, f5, f6⟩ := cf
  intro H locs LS hP hS hl
  obtain ⟨C1, C2, C3, C4, C5, C6, C7, C8, C9, C10, C11⟩ := hC
  have hwz := wz_tbl f1
  have hR2 : (rmd 0).frames + 1 ≤ R.frames ∧ 8 + (M_X7_pairBit.2.2.1 + 11) + (rmd 0).locals ≤ R.locals := ⟨hR.1, Nat.le_trans (Nat.le_of_ble_eq_true rfl) hR.2⟩
  have hpre : ∀ U : State, U.heap = H → s.WarmedH U.vm → (fun (v : Array Value) (_ : State) => v = #[Value.int a, Value.int b]) ([.int a, .int b] : List Value).toArray U := fun U _ _ => rfl
  have hrun : va_Run p l e R s m args below meth c H locs kc ks 0 0 (F0 m pc LS ((.int b :: .int a :: st).map (cv ad))) (st.map (cv ad)) ((fun _ st o t => o = .returned (some (.long z)) ∧ t.heap = st.heap) ([.int a, .int b] : List Value).toArray) (fun _ => False) := by
    rcases f5 with f5 | ⟨host, f5⟩
    · exact va_runS (As := [.int a, .int b]) (rest := st.map (cv ad)) ⟨C1, C2, C3, C6, C5⟩ (c_pairBit l a b 0 z h) (va_cwS 2 C5 (goodT (fun _ h => h) (fun w hw => by
          rcases List.mem_append.mp hw with hw | hw
          · simp only [List.mem_cons, List.not_mem_nil, or_false] at hw
            rcases hw with rfl | rfl | rfl
            · exact f5
            · exact f6
            · exact f2
          · exact hwz w hw)) rfl rfl rfl f4 hR2) ⟨fun _ _ _ _ q => q, hpre⟩ rfl rfl hl.1 rfl (lv_room (by rw [cat_cv]; exact hroom)) h1 hf
    · exact va_runSN (As := [.int a, .int b]) (rest := st.map (cv ad)) ⟨C1, C2, C3, C6, C5⟩ (c_pairBit l a b 0 z h) ⟨va_cnB 2 C5 (goodT (fun _ h => h) hwz) rfl rfl rfl (C9 _ f5) (C5 _ f2) f4 hR2, C5 _ f6, trivial⟩ ⟨fun _ _ _ _ q => q, hpre⟩ rfl rfl hl.1 rfl (lv_room (by rw [cat_cv]; exact hroom)) h1 hf
  intro T hT X
  obtain ⟨v, st₀, t, T', L, h0, X', hL, e1, e2, ⟨hv, hh⟩, stp⟩ := hrun T hT X
  cases hv
  have eH : T'.heap = H := by rw [e1, hh, h0]
  have hS1 : va_S A s.heap H (locs ++ L) := ⟨hS.1, hS.2.1, fun q hq => by
      rcases List.mem_append.mp hq with h | h
      · exact hS.2.2 q h
      · exact (hL q h).elim⟩
  obtain ⟨t2, a1, b1⟩ := kk H (locs ++ L) LS hP hS1 hl T' eH X'
  exact ⟨t2, stp t2 a1, b1⟩
def b_spl_68 (v2 : Int32) (v3 : Int32) (x : (Sg × Int32 × Int32)) : Option ((Sg × Int32 × Int32) ⊕ (Sg × Int32 × Int32)) :=
  if v3 ≤ x.2.2 then
    some (.inr (x.1, x.2.1, x.2.2))
  else
    lt (((((1 : Int32) <<< (x.2.2 &&& 31)) ||| ((1 : Int32) <<< (v3 &&& 31))) ||| ((1 : Int32) <<< (v2 &&& 31))) : Int32) fun x4 =>
    if inB x.2.1 84 = true then
      lt (pI x.1 1 (Int32.toNatClampNeg x.2.1) x4 : Sg) fun s6 =>
      (s_Splits_pairBit x.2.2 v3).bind fun q7 =>
      (s_Splits_pairBit x.2.2 v2).bind fun q8 =>
      (s_Splits_pairBit v3 v2).bind fun q9 =>
      if inB x4 512 = true then
        lt (pL s6 2 (Int32.toNatClampNeg x4) ((q7 ||| q8) ||| q9) : Sg) fun s11 =>
        lt (x.2.1 + 1 : Int32) fun x12 =>
        lt (x.2.2 + 1 : Int32) fun x13 =>
        some (.inl (s11, x12, x13))
      else none
    else none
def b_spl_60 (v2 : Int32) (x : (Sg × Int32 × Int32)) : Option ((Sg × Int32 × Int32) ⊕ (Sg × Int32 × Int32)) :=
  if v2 ≤ x.2.2 then
    some (.inr (x.1, x.2.1, x.2.2))
  else
    (lp (b_spl_68 v2 x.2.2) 100000 (x.1, x.2.1, 0)).bind fun o14 =>
    lt (x.2.2 + 1 : Int32) fun x15 =>
    some (.inl (o14.1, o14.2.1, x15))
def b_spl_52  (x : (Sg × Int32 × Int32)) : Option ((Sg × Int32 × Int32) ⊕ (Sg × Int32 × Int32)) :=
  if 9 ≤ x.2.2 then
    some (.inr (x.1, x.2.1, x.2.2))
  else
    (lp (b_spl_60 x.2.2) 100000 (x.1, x.2.1, 1)).bind fun o16 =>
    lt (x.2.2 + 1 : Int32) fun x17 =>
    some (.inl (o16.1, o16.2.1, x17))
def s_spl (σ : Sg) : Option Sg :=
  (lp (b_spl_52 ) 100000 (σ, 0, 2)).bind fun o18 =>
  some o18.1
section SPLW
variable {p : Program} {l : Launch} {e : Env} {R : Room} {s : State} {m : MethodId} {args : Array Value} {below : List Frame} {meth : Method} {c : Code} {D : va_G} {tc : Nat → ClassId} {ad : Nat → Nat} {A : Nat → Prop} {Q : State → Prop} {kc ks : Nat} {τ1 : Sg}
set_option maxRecDepth 100000 in
set_option maxHeartbeats 8000000 in
theorem wb_spl_68 (v2 : Int32) (v3 : Int32) (x : (Sg × Int32 × Int32)) (hC : CxW S7 M_X7_init p s m args meth c D tc ad A) (hf : kc ≤ R.cells ∧ ks ≤ R.slots) (hR : 1 ≤ R.frames ∧ 45 ≤ R.locals) (o : ((Sg × Int32 × Int32) ⊕ (Sg × Int32 × Int32))) (h : (b_spl_68 v2 v3 x) = some o) (hc : ∀ y : (Sg × Int32 × Int32), o = .inl y → Ew S7 M_X7_init p l e R s m args below meth c D tc ad A Q kc ks 68 [(0, .ref 0), (1, .int y.2.1), (2, .int v2), (3, .int v3), (4, .int y.2.2)] [] y.1) (he : ∀ y : (Sg × Int32 × Int32), o = .inr y → Ew S7 M_X7_init p l e R s m args below meth c D tc ad A Q kc ks 131 [(0, .ref 0), (1, .int y.2.1), (2, .int v2), (3, .int v3)] [] y.1) : Ew S7 M_X7_init p l e R s m args below meth c D tc ad A Q kc ks 68 [(0, .ref 0), (1, .int x.2.1), (2, .int v2), (3, .int v3), (4, .int x.2.2)] [] x.1 := by
  unfold b_spl_68 at h
  refine Ew_iload hC 4 (dt_X7_init.at 36 rfl) rfl ?_
  refine Ew_iload_n hC 3 (dt_X7_init.at 37 rfl) rfl ?_
  refine Ew_icmp_ge hC (tgt := 131) (dt_X7_init.at 38 rfl) (by decide) (fun c3 => ?_) (fun c3 => ?_)
  · replace h := oPos h c3
    refine Ew_sub hC [0, 1, 2, 3] (ls' := [(0, .ref 0), (1, .int x.2.1), (2, .int v2), (3, .int v3)]) rfl ?_
    exact he (x.1, x.2.1, x.2.2) (Option.some.inj h).symm
  · replace h := oNeg h c3
    refine Ew_iconst hC (dt_X7_init.at 39 rfl) ki_1 ?_
    refine Ew_iload hC 4 (dt_X7_init.at 40 rfl) rfl ?_
    refine Ew_ishl hC (dt_X7_init.at 41 rfl) ?_
    refine Ew_iconst hC (dt_X7_init.at 42 rfl) ki_1 ?_
    refine Ew_iload_n hC 3 (dt_X7_init.at 43 rfl) rfl ?_
    refine Ew_ishl hC (dt_X7_init.at 44 rfl) ?_
    refine Ew_ior hC (dt_X7_init.at 45 rfl) ?_
    refine Ew_iconst hC (dt_X7_init.at 46 rfl) ki_1 ?_
    refine Ew_iload_n hC 2 (dt_X7_init.at 47 rfl) rfl ?_
    refine Ew_ishl hC (dt_X7_init.at 48 rfl) ?_
    refine Ew_ior hC (dt_X7_init.at 49 rfl) ?_
    refine Ew_nmI (fun x4 ex4 => ?_)
    replace h := oLt h ex4
    refine Ew_istore hC (dt_X7_init.at 50 rfl) (by decide) (ls' := [(5, .int x4), (0, .ref 0), (1, .int x.2.1), (2, .int v2), (3, .int v3), (4, .int x.2.2)]) rfl ?_
    refine Ew_aload_n hC 1 (dt_X7_init.at 51 rfl) rfl ?_
    refine Ew_get hC (i := 0) (v := .ref 1) (dt_X7_init.at 52 rfl) ff_X7_11 s7_0 rfl rfl ?_
    refine Ew_iload_n hC 2 (dt_X7_init.at 53 rfl) rfl ?_
    refine Ew_iload hC 0 (dt_X7_init.at 54 rfl) rfl ?_
    obtain ⟨g5, h⟩ := oGuard h
    refine Ew_iastore hC 1 (dt_X7_init.at 55 rfl) s7_1 g5 ?_
    refine Ew_nmS (fun s6 es6 => ?_)
    replace h := oLt h es6
    refine Ew_aload_n hC 1 (dt_X7_init.at 56 rfl) rfl ?_
    refine Ew_get hC (i := 1) (v := .ref 2) (dt_X7_init.at 57 rfl) ff_X7_15 s7_0 rfl rfl ?_
    refine Ew_iload hC 0 (dt_X7_init.at 58 rfl) rfl ?_
    refine Ew_iload hC 5 (dt_X7_init.at 59 rfl) rfl ?_
    refine Ew_iload_n hC 4 (dt_X7_init.at 60 rfl) rfl ?_
    obtain ⟨q7, hq7, h⟩ := oBind h
    refine Ew_callPB hC hf (st := [.int x4, .ref 2]) (dt_X7_init.at 61 rfl) cf_X7_28 hq7 hR (Nat.le_of_ble_eq_true rfl) ?_
    refine Ew_iload hC 5 (dt_X7_init.at 62 rfl) rfl ?_
    refine Ew_iload_n hC 3 (dt_X7_init.at 63 rfl) rfl ?_
    obtain ⟨q8, hq8, h⟩ := oBind h
    refine Ew_callPB hC hf (st := [.long q7, .int x4, .ref 2]) (dt_X7_init.at 64 rfl) cf_X7_28 hq8 hR (Nat.le_of_ble_eq_true rfl) ?_
    refine Ew_lor hC (dt_X7_init.at 65 rfl) ?_
    refine Ew_iload_n hC 4 (dt_X7_init.at 66 rfl) rfl ?_
    refine Ew_iload_n hC 3 (dt_X7_init.at 67 rfl) rfl ?_
    obtain ⟨q9, hq9, h⟩ := oBind h
    refine Ew_callPB hC hf (st := [.long (q7 ||| q8), .int x4, .ref 2]) (dt_X7_init.at 68 rfl) cf_X7_28 hq9 hR (Nat.le_of_ble_eq_true rfl) ?_
    refine Ew_lor hC (dt_X7_init.at 69 rfl) ?_
    obtain ⟨g10, h⟩ := oGuard h
    refine Ew_lastore hC 2 (dt_X7_init.at 70 rfl) s7_2 g10 ?_
    refine Ew_nmS (fun s11 es11 => ?_)
    replace h := oLt h es11
    obtain ⟨x12, ex12⟩ : ∃ z : Int32, z = x.2.1 + 1 := ⟨_, rfl⟩
    replace h := oLt h ex12
    refine Ew_iinc hC (v := x12) 2 (dt_X7_init.at 71 rfl) rfl (ex12.trans (congrArg (fun z => x.2.1 + z) ki_1.symm)) (by decide) (ls' := [(1, .int x12), (5, .int x4), (0, .ref 0), (2, .int v2), (3, .int v3), (4, .int x.2.2)]) rfl ?_
    obtain ⟨x13, ex13⟩ : ∃ z : Int32, z = x.2.2 + 1 := ⟨_, rfl⟩
    replace h := oLt h ex13
    refine Ew_iinc hC (v := x13) 5 (dt_X7_init.at 72 rfl) rfl (ex13.trans (congrArg (fun z => x.2.2 + z) ki_1.symm)) (by decide) (ls' := [(4, .int x13), (1, .int x12), (5, .int x4), (0, .ref 0), (2, .int v2), (3, .int v3)]) rfl ?_
    refine Ew_goto hC (tgt := 68) (dt_X7_init.at 73 rfl) (by decide) ?_
    refine Ew_sub hC [3, 1, 4, 5, 0] (ls' := [(0, .ref 0), (1, .int x12), (2, .int v2), (3, .int v3), (4, .int x13)]) rfl ?_
    exact hc (s11, x12, x13) (Option.some.inj h).symm
set_option maxRecDepth 100000 in
set_option maxHeartbeats 8000000 in
theorem wl_spl_68 (v2 : Int32) (v3 : Int32) (hC : CxW S7 M_X7_init p s m args meth c D tc ad A) (hf : kc ≤ R.cells ∧ ks ≤ R.slots) (hR : 1 ≤ R.frames ∧ 45 ≤ R.locals) (n : Nat) (x : (Sg × Int32 × Int32)) (z : (Sg × Int32 × Int32)) (h : lp (b_spl_68 v2 v3) n x = some z) (he : ∀ y : (Sg × Int32 × Int32), z = y → Ew S7 M_X7_init p l e R s m args below meth c D tc ad A Q kc ks 131 [(0, .ref 0), (1, .int y.2.1), (2, .int v2), (3, .int v3)] [] y.1) : Ew S7 M_X7_init p l e R s m args below meth c D tc ad A Q kc ks 68 [(0, .ref 0), (1, .int x.2.1), (2, .int v2), (3, .int v3), (4, .int x.2.2)] [] x.1 := by
  refine lp_ind (E := fun x : (Sg × Int32 × Int32) => Ew S7 M_X7_init p l e R s m args below meth c D tc ad A Q kc ks 68 [(0, .ref 0), (1, .int x.2.1), (2, .int v2), (3, .int v3), (4, .int x.2.2)] [] x.1) (fun x => ⟨fun y hb hy => ?_, fun hb => ?_⟩) n x h
  · exact wb_spl_68 v2 v3 x hC hf hR _ hb (fun y' e => by cases e; exact hy) (fun y' e => by cases e)
  · exact wb_spl_68 v2 v3 x hC hf hR _ hb (fun y' e => by cases e) (fun y' e => he y' (Sum.inr.inj e))
set_option maxRecDepth 100000 in
set_option maxHeartbeats 8000000 in
theorem wb_spl_60 (v2 : Int32) (x : (Sg × Int32 × Int32)) (hC : CxW S7 M_X7_init p s m args meth c D tc ad A) (hf : kc ≤ R.cells ∧ ks ≤ R.slots) (hR : 1 ≤ R.frames ∧ 45 ≤ R.locals) (o : ((Sg × Int32 × Int32) ⊕ (Sg × Int32 × Int32))) (h : (b_spl_60 v2 x) = some o) (hc : ∀ y : (Sg × Int32 × Int32), o = .inl y → Ew S7 M_X7_init p l e R s m args below meth c D tc ad A Q kc ks 60 [(0, .ref 0), (1, .int y.2.1), (2, .int v2), (3, .int y.2.2)] [] y.1) (he : ∀ y : (Sg × Int32 × Int32), o = .inr y → Ew S7 M_X7_init p l e R s m args below meth c D tc ad A Q kc ks 137 [(0, .ref 0), (1, .int y.2.1), (2, .int v2)] [] y.1) : Ew S7 M_X7_init p l e R s m args below meth c D tc ad A Q kc ks 60 [(0, .ref 0), (1, .int x.2.1), (2, .int v2), (3, .int x.2.2)] [] x.1 := by
  unfold b_spl_60 at h
  refine Ew_iload_n hC 3 (dt_X7_init.at 31 rfl) rfl ?_
  refine Ew_iload_n hC 2 (dt_X7_init.at 32 rfl) rfl ?_
  refine Ew_icmp_ge hC (tgt := 137) (dt_X7_init.at 33 rfl) (by decide) (fun c2 => ?_) (fun c2 => ?_)
  · replace h := oPos h c2
    refine Ew_sub hC [0, 1, 2] (ls' := [(0, .ref 0), (1, .int x.2.1), (2, .int v2)]) rfl ?_
    exact he (x.1, x.2.1, x.2.2) (Option.some.inj h).symm
  · replace h := oNeg h c2
    refine Ew_iconst hC (dt_X7_init.at 34 rfl) ki_0 ?_
    refine Ew_istore hC (dt_X7_init.at 35 rfl) (by decide) (ls' := [(4, .int 0), (0, .ref 0), (1, .int x.2.1), (2, .int v2), (3, .int x.2.2)]) rfl ?_
    refine Ew_sub hC [1, 2, 3, 4, 0] (ls' := [(0, .ref 0), (1, .int x.2.1), (2, .int v2), (3, .int x.2.2), (4, .int 0)]) rfl ?_
    obtain ⟨o14, ho14, h⟩ := oBind h
    refine wl_spl_68 v2 x.2.2 hC hf hR 100000 (x.1, x.2.1, 0) o14 ho14 (fun y ey => ?_)
    subst ey
    obtain ⟨x15, ex15⟩ : ∃ z : Int32, z = x.2.2 + 1 := ⟨_, rfl⟩
    replace h := oLt h ex15
    refine Ew_iinc hC (v := x15) 3 (dt_X7_init.at 74 rfl) rfl (ex15.trans (congrArg (fun z => x.2.2 + z) ki_1.symm)) (by decide) (ls' := [(3, .int x15), (0, .ref 0), (1, .int o14.2.1), (2, .int v2)]) rfl ?_
    refine Ew_goto hC (tgt := 60) (dt_X7_init.at 75 rfl) (by decide) ?_
    refine Ew_sub hC [1, 2, 3, 0] (ls' := [(0, .ref 0), (1, .int o14.2.1), (2, .int v2), (3, .int x15)]) rfl ?_
    exact hc (o14.1, o14.2.1, x15) (Option.some.inj h).symm
set_option maxRecDepth 100000 in
set_option maxHeartbeats 8000000 in
theorem wl_spl_60 (v2 : Int32) (hC : CxW S7 M_X7_init p s m args meth c D tc ad A) (hf : kc ≤ R.cells ∧ ks ≤ R.slots) (hR : 1 ≤ R.frames ∧ 45 ≤ R.locals) (n : Nat) (x : (Sg × Int32 × Int32)) (z : (Sg × Int32 × Int32)) (h : lp (b_spl_60 v2) n x = some z) (he : ∀ y : (Sg × Int32 × Int32), z = y → Ew S7 M_X7_init p l e R s m args below meth c D tc ad A Q kc ks 137 [(0, .ref 0), (1, .int y.2.1), (2, .int v2)] [] y.1) : Ew S7 M_X7_init p l e R s m args below meth c D tc ad A Q kc ks 60 [(0, .ref 0), (1, .int x.2.1), (2, .int v2), (3, .int x.2.2)] [] x.1 := by
  refine lp_ind (E := fun x : (Sg × Int32 × Int32) => Ew S7 M_X7_init p l e R s m args below meth c D tc ad A Q kc ks 60 [(0, .ref 0), (1, .int x.2.1), (2, .int v2), (3, .int x.2.2)] [] x.1) (fun x => ⟨fun y hb hy => ?_, fun hb => ?_⟩) n x h
  · exact wb_spl_60 v2 x hC hf hR _ hb (fun y' e => by cases e; exact hy) (fun y' e => by cases e)
  · exact wb_spl_60 v2 x hC hf hR _ hb (fun y' e => by cases e) (fun y' e => he y' (Sum.inr.inj e))
set_option maxRecDepth 100000 in
set_option maxHeartbeats 8000000 in
theorem wb_spl_52  (x : (Sg × Int32 × Int32)) (hC : CxW S7 M_X7_init p s m args meth c D tc ad A) (hf : kc ≤ R.cells ∧ ks ≤ R.slots) (hR : 1 ≤ R.frames ∧ 45 ≤ R.locals) (o : ((Sg × Int32 × Int32) ⊕ (Sg × Int32 × Int32))) (h : (b_spl_52  x) = some o) (hc : ∀ y : (Sg × Int32 × Int32), o = .inl y → Ew S7 M_X7_init p l e R s m args below meth c D tc ad A Q kc ks 52 [(0, .ref 0), (1, .int y.2.1), (2, .int y.2.2)] [] y.1) (he : ∀ y : (Sg × Int32 × Int32), o = .inr y → Ew S7 M_X7_init p l e R s m args below meth c D tc ad A Q kc ks 143 [] [] y.1) : Ew S7 M_X7_init p l e R s m args below meth c D tc ad A Q kc ks 52 [(0, .ref 0), (1, .int x.2.1), (2, .int x.2.2)] [] x.1 := by
  unfold b_spl_52 at h
  refine Ew_iload_n hC 2 (dt_X7_init.at 26 rfl) rfl ?_
  refine Ew_bipush hC (dt_X7_init.at 27 rfl) kb_9 ?_
  refine Ew_icmp_ge hC (tgt := 143) (dt_X7_init.at 28 rfl) (by decide) (fun c1 => ?_) (fun c1 => ?_)
  · replace h := oPos h c1
    refine Ew_sub hC [] (ls' := []) rfl ?_
    exact he (x.1, x.2.1, x.2.2) (Option.some.inj h).symm
  · replace h := oNeg h c1
    refine Ew_iconst hC (dt_X7_init.at 29 rfl) ki_1 ?_
    refine Ew_istore_n hC (dt_X7_init.at 30 rfl) (by decide) (ls' := [(3, .int 1), (0, .ref 0), (1, .int x.2.1), (2, .int x.2.2)]) rfl ?_
    refine Ew_sub hC [1, 2, 3, 0] (ls' := [(0, .ref 0), (1, .int x.2.1), (2, .int x.2.2), (3, .int 1)]) rfl ?_
    obtain ⟨o16, ho16, h⟩ := oBind h
    refine wl_spl_60 x.2.2 hC hf hR 100000 (x.1, x.2.1, 1) o16 ho16 (fun y ey => ?_)
    subst ey
    obtain ⟨x17, ex17⟩ : ∃ z : Int32, z = x.2.2 + 1 := ⟨_, rfl⟩
    replace h := oLt h ex17
    refine Ew_iinc hC (v := x17) 2 (dt_X7_init.at 76 rfl) rfl (ex17.trans (congrArg (fun z => x.2.2 + z) ki_1.symm)) (by decide) (ls' := [(2, .int x17), (0, .ref 0), (1, .int o16.2.1)]) rfl ?_
    refine Ew_goto hC (tgt := 52) (dt_X7_init.at 77 rfl) (by decide) ?_
    refine Ew_sub hC [1, 2, 0] (ls' := [(0, .ref 0), (1, .int o16.2.1), (2, .int x17)]) rfl ?_
    exact hc (o16.1, o16.2.1, x17) (Option.some.inj h).symm
set_option maxRecDepth 100000 in
set_option maxHeartbeats 8000000 in
theorem wl_spl_52  (hC : CxW S7 M_X7_init p s m args meth c D tc ad A) (hf : kc ≤ R.cells ∧ ks ≤ R.slots) (hR : 1 ≤ R.frames ∧ 45 ≤ R.locals) (n : Nat) (x : (Sg × Int32 × Int32)) (z : (Sg × Int32 × Int32)) (h : lp (b_spl_52 ) n x = some z) (he : ∀ y : (Sg × Int32 × Int32), z = y → Ew S7 M_X7_init p l e R s m args below meth c D tc ad A Q kc ks 143 [] [] y.1) : Ew S7 M_X7_init p l e R s m args below meth c D tc ad A Q kc ks 52 [(0, .ref 0), (1, .int x.2.1), (2, .int x.2.2)] [] x.1 := by
  refine lp_ind (E := fun x : (Sg × Int32 × Int32) => Ew S7 M_X7_init p l e R s m args below meth c D tc ad A Q kc ks 52 [(0, .ref 0), (1, .int x.2.1), (2, .int x.2.2)] [] x.1) (fun x => ⟨fun y hb hy => ?_, fun hb => ?_⟩) n x h
  · exact wb_spl_52  x hC hf hR _ hb (fun y' e => by cases e; exact hy) (fun y' e => by cases e)
  · exact wb_spl_52  x hC hf hR _ hb (fun y' e => by cases e) (fun y' e => he y' (Sum.inr.inj e))
set_option maxRecDepth 100000 in
set_option maxHeartbeats 8000000 in
theorem w_spl (hC : CxW S7 M_X7_init p s m args meth c D tc ad A) (hf : kc ≤ R.cells ∧ ks ≤ R.slots) (hR : 1 ≤ R.frames ∧ 45 ≤ R.locals) (σ : Sg) (h : s_spl σ = some τ1) (hend : ∀ (pc pc' : Nat) (ls : List (Nat × Value)), Dc M_X7_init.2.1 pc .return_ 1 pc' → Ew S7 M_X7_init p l e R s m args below meth c D tc ad A Q kc ks pc ls [] τ1) : Ew S7 M_X7_init p l e R s m args below meth c D tc ad A Q kc ks 48 [(0, .ref 0)] [] σ := by
  unfold s_spl at h
  refine Ew_iconst hC (dt_X7_init.at 22 rfl) ki_0 ?_
  refine Ew_istore_n hC (dt_X7_init.at 23 rfl) (by decide) (ls' := [(1, .int 0), (0, .ref 0)]) rfl ?_
  refine Ew_iconst hC (dt_X7_init.at 24 rfl) ki_2 ?_
  refine Ew_istore_n hC (dt_X7_init.at 25 rfl) (by decide) (ls' := [(2, .int 2), (1, .int 0), (0, .ref 0)]) rfl ?_
  refine Ew_sub hC [2, 1, 0] (ls' := [(0, .ref 0), (1, .int 0), (2, .int 2)]) rfl ?_
  obtain ⟨o18, ho18, h⟩ := oBind h
  refine wl_spl_52  hC hf hR 100000 (σ, 0, 2) o18 ho18 (fun y ey => ?_)
  subst ey
  cases h
  exact hend _ _ _ (dt_X7_init.at 78 rfl)
end SPLW
/-- what Splits' own loops leave in threes and pairs -/
def spl (f1 : Nat → Int32) (f2 : Nat → Int64) : Prop := ∃ τ : Sg, s_spl sgZ = some τ ∧ f1 = gI τ 1 ∧ f2 = gL τ 2
def Bc_X7_init (tc : Nat → ClassId) (h0 : Nat) : va_W → Prop := fun w => ∃ q1 : Nat, ∃ q2 : Nat, ∃ q3 : Nat, ∃ q4 : Nat, ∃ q5 : Nat, ∃ f1 : Nat → Int32, ∃ f2 : Nat → Int64, spl f1 f2 ∧ w = [(h0, .inr (7, [.ref q1, .ref q2, .ref q3, .ref q4, .ref q5, .int 0])), (q1, .inl (tc 0, 84, .inl f1)), (q2, .inl (tc 2, 512, .inr (.inl f2))), (q3, .inl (tc 0, 512, .inl (fun _ => 0))), (q4, .inl (tc 0, 840, .inl (fun _ => 0))), (q5, .inl (tc 2, 280, .inr (.inl (fun _ => 0))))]
theorem spl_ok : (s_spl sgZ).isSome = true := by decide +kernel
