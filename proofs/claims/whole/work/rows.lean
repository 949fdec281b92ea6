section
/-- a private method of a class that the tables say can be made, by its rows of tables_1 -/
def lw_okq (q : MethodName × Nat) : Prop := (q.1.cls ≠ "java/lang/invoke/MethodHandle" ∧ q.1.cls ≠ "java/lang/invoke/VarHandle") ∧ Cond.instantiable q.1.cls q.2 ∈ tables_1 ∧ Cond.privateMethod q.1 ∈ tables_1 ∧ Cond.instanceMethod q.1 ∈ tables_1
theorem lw_p0 : lw_okq (⟨"TiedThrees", "refusedBad", "(I)I"⟩, 15) := ⟨⟨by decide +kernel, by decide +kernel⟩, List.mem_of_getElem? (i := 23) (by decide +kernel), List.mem_of_getElem? (i := 322) (by decide +kernel), List.mem_of_getElem? (i := 323) (by decide +kernel)⟩
theorem lw_p1 : lw_okq (⟨"TiedThrees$Town", "startOver", "(I)V"⟩, 7) := ⟨⟨by decide +kernel, by decide +kernel⟩, List.mem_of_getElem? (i := 39) (by decide +kernel), List.mem_of_getElem? (i := 326) (by decide +kernel), List.mem_of_getElem? (i := 327) (by decide +kernel)⟩
theorem lw_p2 : lw_okq (⟨"TiedThrees$Scene", "forgetWeeksAndSights", "()V"⟩, 8) := ⟨⟨by decide +kernel, by decide +kernel⟩, List.mem_of_getElem? (i := 134) (by decide +kernel), List.mem_of_getElem? (i := 330) (by decide +kernel), List.mem_of_getElem? (i := 331) (by decide +kernel)⟩
theorem lw_p3 : lw_okq (⟨"TiedThrees", "refusedFull", "()I"⟩, 15) := ⟨⟨by decide +kernel, by decide +kernel⟩, List.mem_of_getElem? (i := 23) (by decide +kernel), List.mem_of_getElem? (i := 341) (by decide +kernel), List.mem_of_getElem? (i := 342) (by decide +kernel)⟩
theorem lw_p4 : lw_okq (⟨"TiedThrees$Town", "addPerson", "(II)I"⟩, 7) := ⟨⟨by decide +kernel, by decide +kernel⟩, List.mem_of_getElem? (i := 39) (by decide +kernel), List.mem_of_getElem? (i := 345) (by decide +kernel), List.mem_of_getElem? (i := 346) (by decide +kernel)⟩
theorem lw_p5 : lw_okq (⟨"TiedThrees$Town", "hasPerson", "(I)Z"⟩, 7) := ⟨⟨by decide +kernel, by decide +kernel⟩, List.mem_of_getElem? (i := 39) (by decide +kernel), List.mem_of_getElem? (i := 353) (by decide +kernel), List.mem_of_getElem? (i := 354) (by decide +kernel)⟩
theorem lw_p6 : lw_okq (⟨"TiedThrees$Town", "hasPlace", "(I)Z"⟩, 7) := ⟨⟨by decide +kernel, by decide +kernel⟩, List.mem_of_getElem? (i := 39) (by decide +kernel), List.mem_of_getElem? (i := 357) (by decide +kernel), List.mem_of_getElem? (i := 358) (by decide +kernel)⟩
theorem lw_p7 : lw_okq (⟨"TiedThrees$Town", "addErrand", "(III)I"⟩, 7) := ⟨⟨by decide +kernel, by decide +kernel⟩, List.mem_of_getElem? (i := 39) (by decide +kernel), List.mem_of_getElem? (i := 364) (by decide +kernel), List.mem_of_getElem? (i := 365) (by decide +kernel)⟩
theorem lw_p8 : lw_okq (⟨"TiedThrees", "refusedNo", "(I)I"⟩, 15) := ⟨⟨by decide +kernel, by decide +kernel⟩, List.mem_of_getElem? (i := 23) (by decide +kernel), List.mem_of_getElem? (i := 373) (by decide +kernel), List.mem_of_getElem? (i := 374) (by decide +kernel)⟩
theorem lw_p9 : lw_okq (⟨"TiedThrees$TownReader", "readTown", "([II)I"⟩, 5) := ⟨⟨by decide +kernel, by decide +kernel⟩, List.mem_of_getElem? (i := 33) (by decide +kernel), List.mem_of_getElem? (i := 389) (by decide +kernel), List.mem_of_getElem? (i := 390) (by decide +kernel)⟩
theorem lw_p10 : lw_okq (⟨"TiedThrees$TownReader", "skipBlanks", "()V"⟩, 5) := ⟨⟨by decide +kernel, by decide +kernel⟩, List.mem_of_getElem? (i := 33) (by decide +kernel), List.mem_of_getElem? (i := 397) (by decide +kernel), List.mem_of_getElem? (i := 398) (by decide +kernel)⟩
theorem lw_p11 : lw_okq (⟨"TiedThrees$TownReader", "readItem", "()V"⟩, 5) := ⟨⟨by decide +kernel, by decide +kernel⟩, List.mem_of_getElem? (i := 33) (by decide +kernel), List.mem_of_getElem? (i := 401) (by decide +kernel), List.mem_of_getElem? (i := 402) (by decide +kernel)⟩
theorem lw_p12 : lw_okq (⟨"TiedThrees$TownReader", "skipWord", "()V"⟩, 5) := ⟨⟨by decide +kernel, by decide +kernel⟩, List.mem_of_getElem? (i := 33) (by decide +kernel), List.mem_of_getElem? (i := 405) (by decide +kernel), List.mem_of_getElem? (i := 406) (by decide +kernel)⟩
theorem lw_p13 : lw_okq (⟨"TiedThrees$TownReader", "isWord", "(ILjava/lang/String;)Z"⟩, 5) := ⟨⟨by decide +kernel, by decide +kernel⟩, List.mem_of_getElem? (i := 33) (by decide +kernel), List.mem_of_getElem? (i := 410) (by decide +kernel), List.mem_of_getElem? (i := 411) (by decide +kernel)⟩
theorem lw_p14 : lw_okq (⟨"TiedThrees$Town", "errandsOfAll", "()I"⟩, 7) := ⟨⟨by decide +kernel, by decide +kernel⟩, List.mem_of_getElem? (i := 39) (by decide +kernel), List.mem_of_getElem? (i := 462) (by decide +kernel), List.mem_of_getElem? (i := 463) (by decide +kernel)⟩
theorem lw_p15 : lw_okq (⟨"TiedThrees$TownReader", "readPlaces", "()V"⟩, 5) := ⟨⟨by decide +kernel, by decide +kernel⟩, List.mem_of_getElem? (i := 33) (by decide +kernel), List.mem_of_getElem? (i := 466) (by decide +kernel), List.mem_of_getElem? (i := 467) (by decide +kernel)⟩
def lw_privs_1 : List (MethodName × Nat) := [(⟨"TiedThrees", "refusedBad", "(I)I"⟩, 15), (⟨"TiedThrees$Town", "startOver", "(I)V"⟩, 7), (⟨"TiedThrees$Scene", "forgetWeeksAndSights", "()V"⟩, 8), (⟨"TiedThrees", "refusedFull", "()I"⟩, 15), (⟨"TiedThrees$Town", "addPerson", "(II)I"⟩, 7), (⟨"TiedThrees$Town", "hasPerson", "(I)Z"⟩, 7), (⟨"TiedThrees$Town", "hasPlace", "(I)Z"⟩, 7), (⟨"TiedThrees$Town", "addErrand", "(III)I"⟩, 7), (⟨"TiedThrees", "refusedNo", "(I)I"⟩, 15), (⟨"TiedThrees$TownReader", "readTown", "([II)I"⟩, 5), (⟨"TiedThrees$TownReader", "skipBlanks", "()V"⟩, 5), (⟨"TiedThrees$TownReader", "readItem", "()V"⟩, 5), (⟨"TiedThrees$TownReader", "skipWord", "()V"⟩, 5), (⟨"TiedThrees$TownReader", "isWord", "(ILjava/lang/String;)Z"⟩, 5), (⟨"TiedThrees$Town", "errandsOfAll", "()I"⟩, 7), (⟨"TiedThrees$TownReader", "readPlaces", "()V"⟩, 5)]
theorem lw_r1 : ∀ q ∈ lw_privs_1, lw_okq q := List.forall_mem_cons.mpr ⟨lw_p0, List.forall_mem_cons.mpr ⟨lw_p1, List.forall_mem_cons.mpr ⟨lw_p2, List.forall_mem_cons.mpr ⟨lw_p3, List.forall_mem_cons.mpr ⟨lw_p4, List.forall_mem_cons.mpr ⟨lw_p5, List.forall_mem_cons.mpr ⟨lw_p6, List.forall_mem_cons.mpr ⟨lw_p7, List.forall_mem_cons.mpr ⟨lw_p8, List.forall_mem_cons.mpr ⟨lw_p9, List.forall_mem_cons.mpr ⟨lw_p10, List.forall_mem_cons.mpr ⟨lw_p11, List.forall_mem_cons.mpr ⟨lw_p12, List.forall_mem_cons.mpr ⟨lw_p13, List.forall_mem_cons.mpr ⟨lw_p14, List.forall_mem_cons.mpr ⟨lw_p15, fun _ h => absurd h List.not_mem_nil⟩⟩⟩⟩⟩⟩⟩⟩⟩⟩⟩⟩⟩⟩⟩⟩
theorem lw_p16 : lw_okq (⟨"TiedThrees$TownReader", "number", "(II)I"⟩, 5) := ⟨⟨by decide +kernel, by decide +kernel⟩, List.mem_of_getElem? (i := 33) (by decide +kernel), List.mem_of_getElem? (i := 470) (by decide +kernel), List.mem_of_getElem? (i := 471) (by decide +kernel)⟩
theorem lw_p17 : lw_okq (⟨"TiedThrees$TownReader", "isFigure", "(I)Z"⟩, 5) := ⟨⟨by decide +kernel, by decide +kernel⟩, List.mem_of_getElem? (i := 33) (by decide +kernel), List.mem_of_getElem? (i := 474) (by decide +kernel), List.mem_of_getElem? (i := 475) (by decide +kernel)⟩
theorem lw_p18 : lw_okq (⟨"TiedThrees$TownReader", "end", "()V"⟩, 5) := ⟨⟨by decide +kernel, by decide +kernel⟩, List.mem_of_getElem? (i := 33) (by decide +kernel), List.mem_of_getElem? (i := 478) (by decide +kernel), List.mem_of_getElem? (i := 479) (by decide +kernel)⟩
theorem lw_p19 : lw_okq (⟨"TiedThrees$TownReader", "readPerson", "()V"⟩, 5) := ⟨⟨by decide +kernel, by decide +kernel⟩, List.mem_of_getElem? (i := 33) (by decide +kernel), List.mem_of_getElem? (i := 483) (by decide +kernel), List.mem_of_getElem? (i := 484) (by decide +kernel)⟩
theorem lw_p20 : lw_okq (⟨"TiedThrees$TownReader", "readErrand", "()V"⟩, 5) := ⟨⟨by decide +kernel, by decide +kernel⟩, List.mem_of_getElem? (i := 33) (by decide +kernel), List.mem_of_getElem? (i := 489) (by decide +kernel), List.mem_of_getElem? (i := 490) (by decide +kernel)⟩
theorem lw_p21 : lw_okq (⟨"TiedThrees$Town", "become", "(LTiedThrees$Town;)V"⟩, 7) := ⟨⟨by decide +kernel, by decide +kernel⟩, List.mem_of_getElem? (i := 39) (by decide +kernel), List.mem_of_getElem? (i := 495) (by decide +kernel), List.mem_of_getElem? (i := 496) (by decide +kernel)⟩
theorem lw_p22 : lw_okq (⟨"TiedThrees$Town", "isThree", "(I)Z"⟩, 7) := ⟨⟨by decide +kernel, by decide +kernel⟩, List.mem_of_getElem? (i := 39) (by decide +kernel), List.mem_of_getElem? (i := 507) (by decide +kernel), List.mem_of_getElem? (i := 508) (by decide +kernel)⟩
theorem lw_p23 : lw_okq (⟨"TiedThrees$Town", "isGroup", "(I)Z"⟩, 7) := ⟨⟨by decide +kernel, by decide +kernel⟩, List.mem_of_getElem? (i := 39) (by decide +kernel), List.mem_of_getElem? (i := 511) (by decide +kernel), List.mem_of_getElem? (i := 512) (by decide +kernel)⟩
theorem lw_p24 : lw_okq (⟨"TiedThrees$Day", "pass", "(I)V"⟩, 10) := ⟨⟨by decide +kernel, by decide +kernel⟩, List.mem_of_getElem? (i := 172) (by decide +kernel), List.mem_of_getElem? (i := 521) (by decide +kernel), List.mem_of_getElem? (i := 522) (by decide +kernel)⟩
theorem lw_p25 : lw_okq (⟨"TiedThrees$Day", "begin", "(I)V"⟩, 10) := ⟨⟨by decide +kernel, by decide +kernel⟩, List.mem_of_getElem? (i := 172) (by decide +kernel), List.mem_of_getElem? (i := 525) (by decide +kernel), List.mem_of_getElem? (i := 526) (by decide +kernel)⟩
theorem lw_p26 : lw_okq (⟨"TiedThrees$Town", "isQuick", "(I)Z"⟩, 7) := ⟨⟨by decide +kernel, by decide +kernel⟩, List.mem_of_getElem? (i := 39) (by decide +kernel), List.mem_of_getElem? (i := 532) (by decide +kernel), List.mem_of_getElem? (i := 533) (by decide +kernel)⟩
theorem lw_p27 : lw_okq (⟨"TiedThrees$Day", "lookAround", "()V"⟩, 10) := ⟨⟨by decide +kernel, by decide +kernel⟩, List.mem_of_getElem? (i := 172) (by decide +kernel), List.mem_of_getElem? (i := 537) (by decide +kernel), List.mem_of_getElem? (i := 538) (by decide +kernel)⟩
theorem lw_p28 : lw_okq (⟨"TiedThrees$Day", "isOpen", "(I)Z"⟩, 10) := ⟨⟨by decide +kernel, by decide +kernel⟩, List.mem_of_getElem? (i := 172) (by decide +kernel), List.mem_of_getElem? (i := 541) (by decide +kernel), List.mem_of_getElem? (i := 542) (by decide +kernel)⟩
theorem lw_p29 : lw_okq (⟨"TiedThrees$Day", "chosen", "()I"⟩, 10) := ⟨⟨by decide +kernel, by decide +kernel⟩, List.mem_of_getElem? (i := 172) (by decide +kernel), List.mem_of_getElem? (i := 545) (by decide +kernel), List.mem_of_getElem? (i := 546) (by decide +kernel)⟩
theorem lw_p30 : lw_okq (⟨"TiedThrees$Day", "mostPressing", "(I)I"⟩, 10) := ⟨⟨by decide +kernel, by decide +kernel⟩, List.mem_of_getElem? (i := 172) (by decide +kernel), List.mem_of_getElem? (i := 556) (by decide +kernel), List.mem_of_getElem? (i := 557) (by decide +kernel)⟩
theorem lw_p31 : lw_okq (⟨"TiedThrees$Day", "firstUndone", "(I)I"⟩, 10) := ⟨⟨by decide +kernel, by decide +kernel⟩, List.mem_of_getElem? (i := 172) (by decide +kernel), List.mem_of_getElem? (i := 576) (by decide +kernel), List.mem_of_getElem? (i := 577) (by decide +kernel)⟩
def lw_privs_2 : List (MethodName × Nat) := [(⟨"TiedThrees$TownReader", "number", "(II)I"⟩, 5), (⟨"TiedThrees$TownReader", "isFigure", "(I)Z"⟩, 5), (⟨"TiedThrees$TownReader", "end", "()V"⟩, 5), (⟨"TiedThrees$TownReader", "readPerson", "()V"⟩, 5), (⟨"TiedThrees$TownReader", "readErrand", "()V"⟩, 5), (⟨"TiedThrees$Town", "become", "(LTiedThrees$Town;)V"⟩, 7), (⟨"TiedThrees$Town", "isThree", "(I)Z"⟩, 7), (⟨"TiedThrees$Town", "isGroup", "(I)Z"⟩, 7), (⟨"TiedThrees$Day", "pass", "(I)V"⟩, 10), (⟨"TiedThrees$Day", "begin", "(I)V"⟩, 10), (⟨"TiedThrees$Town", "isQuick", "(I)Z"⟩, 7), (⟨"TiedThrees$Day", "lookAround", "()V"⟩, 10), (⟨"TiedThrees$Day", "isOpen", "(I)Z"⟩, 10), (⟨"TiedThrees$Day", "chosen", "()I"⟩, 10), (⟨"TiedThrees$Day", "mostPressing", "(I)I"⟩, 10), (⟨"TiedThrees$Day", "firstUndone", "(I)I"⟩, 10)]
theorem lw_r2 : ∀ q ∈ lw_privs_2, lw_okq q := List.forall_mem_cons.mpr ⟨lw_p16, List.forall_mem_cons.mpr ⟨lw_p17, List.forall_mem_cons.mpr ⟨lw_p18, List.forall_mem_cons.mpr ⟨lw_p19, List.forall_mem_cons.mpr ⟨lw_p20, List.forall_mem_cons.mpr ⟨lw_p21, List.forall_mem_cons.mpr ⟨lw_p22, List.forall_mem_cons.mpr ⟨lw_p23, List.forall_mem_cons.mpr ⟨lw_p24, List.forall_mem_cons.mpr ⟨lw_p25, List.forall_mem_cons.mpr ⟨lw_p26, List.forall_mem_cons.mpr ⟨lw_p27, List.forall_mem_cons.mpr ⟨lw_p28, List.forall_mem_cons.mpr ⟨lw_p29, List.forall_mem_cons.mpr ⟨lw_p30, List.forall_mem_cons.mpr ⟨lw_p31, fun _ h => absurd h List.not_mem_nil⟩⟩⟩⟩⟩⟩⟩⟩⟩⟩⟩⟩⟩⟩⟩⟩
theorem lw_p32 : lw_okq (⟨"TiedThrees$Day", "stepTowards", "(I)V"⟩, 10) := ⟨⟨by decide +kernel, by decide +kernel⟩, List.mem_of_getElem? (i := 172) (by decide +kernel), List.mem_of_getElem? (i := 581) (by decide +kernel), List.mem_of_getElem? (i := 582) (by decide +kernel)⟩
theorem lw_p33 : lw_okq (⟨"TiedThrees$Town", "onRing", "(I)I"⟩, 7) := ⟨⟨by decide +kernel, by decide +kernel⟩, List.mem_of_getElem? (i := 39) (by decide +kernel), List.mem_of_getElem? (i := 585) (by decide +kernel), List.mem_of_getElem? (i := 586) (by decide +kernel)⟩
theorem lw_p34 : lw_okq (⟨"TiedThrees$Day", "doErrands", "()V"⟩, 10) := ⟨⟨by decide +kernel, by decide +kernel⟩, List.mem_of_getElem? (i := 172) (by decide +kernel), List.mem_of_getElem? (i := 592) (by decide +kernel), List.mem_of_getElem? (i := 593) (by decide +kernel)⟩
theorem lw_p35 : lw_okq (⟨"TiedThrees$FreeDay", "mostDone", "(I)I"⟩, 4) := ⟨⟨by decide +kernel, by decide +kernel⟩, List.mem_of_getElem? (i := 253) (by decide +kernel), List.mem_of_getElem? (i := 600) (by decide +kernel), List.mem_of_getElem? (i := 601) (by decide +kernel)⟩
theorem lw_p36 : lw_okq (⟨"TiedThrees$FreeDay", "weigh", "(I)V"⟩, 4) := ⟨⟨by decide +kernel, by decide +kernel⟩, List.mem_of_getElem? (i := 253) (by decide +kernel), List.mem_of_getElem? (i := 604) (by decide +kernel), List.mem_of_getElem? (i := 605) (by decide +kernel)⟩
theorem lw_p37 : lw_okq (⟨"TiedThrees$FreeDay", "weighErrandsOf", "(I)V"⟩, 4) := ⟨⟨by decide +kernel, by decide +kernel⟩, List.mem_of_getElem? (i := 253) (by decide +kernel), List.mem_of_getElem? (i := 612) (by decide +kernel), List.mem_of_getElem? (i := 613) (by decide +kernel)⟩
theorem lw_p38 : lw_okq (⟨"TiedThrees$FreeDay", "passHour", "(II)V"⟩, 4) := ⟨⟨by decide +kernel, by decide +kernel⟩, List.mem_of_getElem? (i := 253) (by decide +kernel), List.mem_of_getElem? (i := 617) (by decide +kernel), List.mem_of_getElem? (i := 618) (by decide +kernel)⟩
theorem lw_p39 : lw_okq (⟨"TiedThrees$FreeDay", "goOn", "(III)V"⟩, 4) := ⟨⟨by decide +kernel, by decide +kernel⟩, List.mem_of_getElem? (i := 253) (by decide +kernel), List.mem_of_getElem? (i := 621) (by decide +kernel), List.mem_of_getElem? (i := 622) (by decide +kernel)⟩
theorem lw_p40 : lw_okq (⟨"TiedThrees", "isAllInThrees", "()Z"⟩, 15) := ⟨⟨by decide +kernel, by decide +kernel⟩, List.mem_of_getElem? (i := 23) (by decide +kernel), List.mem_of_getElem? (i := 633) (by decide +kernel), List.mem_of_getElem? (i := 634) (by decide +kernel)⟩
theorem lw_p41 : lw_okq (⟨"TiedThrees$Splits", "list", "(I)V"⟩, 6) := ⟨⟨by decide +kernel, by decide +kernel⟩, List.mem_of_getElem? (i := 102) (by decide +kernel), List.mem_of_getElem? (i := 637) (by decide +kernel), List.mem_of_getElem? (i := 638) (by decide +kernel)⟩
theorem lw_p42 : lw_okq (⟨"TiedThrees$Splits", "listBehind", "(II)V"⟩, 6) := ⟨⟨by decide +kernel, by decide +kernel⟩, List.mem_of_getElem? (i := 102) (by decide +kernel), List.mem_of_getElem? (i := 644) (by decide +kernel), List.mem_of_getElem? (i := 645) (by decide +kernel)⟩
theorem lw_p43 : lw_okq (⟨"TiedThrees$Splits", "add", "(III)V"⟩, 6) := ⟨⟨by decide +kernel, by decide +kernel⟩, List.mem_of_getElem? (i := 102) (by decide +kernel), List.mem_of_getElem? (i := 648) (by decide +kernel), List.mem_of_getElem? (i := 649) (by decide +kernel)⟩
theorem lw_p44 : lw_okq (⟨"TiedThrees", "walkAllThrees", "()V"⟩, 15) := ⟨⟨by decide +kernel, by decide +kernel⟩, List.mem_of_getElem? (i := 23) (by decide +kernel), List.mem_of_getElem? (i := 652) (by decide +kernel), List.mem_of_getElem? (i := 653) (by decide +kernel)⟩
theorem lw_p45 : lw_okq (⟨"TiedThrees$Splits", "firstOfMost", "()I"⟩, 6) := ⟨⟨by decide +kernel, by decide +kernel⟩, List.mem_of_getElem? (i := 102) (by decide +kernel), List.mem_of_getElem? (i := 656) (by decide +kernel), List.mem_of_getElem? (i := 657) (by decide +kernel)⟩
theorem lw_p46 : lw_okq (⟨"TiedThrees$Splits", "doneBy", "(I)I"⟩, 6) := ⟨⟨by decide +kernel, by decide +kernel⟩, List.mem_of_getElem? (i := 102) (by decide +kernel), List.mem_of_getElem? (i := 660) (by decide +kernel), List.mem_of_getElem? (i := 661) (by decide +kernel)⟩
theorem lw_p47 : lw_okq (⟨"TiedThrees$Splits", "threeOf", "(II)I"⟩, 6) := ⟨⟨by decide +kernel, by decide +kernel⟩, List.mem_of_getElem? (i := 102) (by decide +kernel), List.mem_of_getElem? (i := 665) (by decide +kernel), List.mem_of_getElem? (i := 666) (by decide +kernel)⟩
def lw_privs_3 : List (MethodName × Nat) := [(⟨"TiedThrees$Day", "stepTowards", "(I)V"⟩, 10), (⟨"TiedThrees$Town", "onRing", "(I)I"⟩, 7), (⟨"TiedThrees$Day", "doErrands", "()V"⟩, 10), (⟨"TiedThrees$FreeDay", "mostDone", "(I)I"⟩, 4), (⟨"TiedThrees$FreeDay", "weigh", "(I)V"⟩, 4), (⟨"TiedThrees$FreeDay", "weighErrandsOf", "(I)V"⟩, 4), (⟨"TiedThrees$FreeDay", "passHour", "(II)V"⟩, 4), (⟨"TiedThrees$FreeDay", "goOn", "(III)V"⟩, 4), (⟨"TiedThrees", "isAllInThrees", "()Z"⟩, 15), (⟨"TiedThrees$Splits", "list", "(I)V"⟩, 6), (⟨"TiedThrees$Splits", "listBehind", "(II)V"⟩, 6), (⟨"TiedThrees$Splits", "add", "(III)V"⟩, 6), (⟨"TiedThrees", "walkAllThrees", "()V"⟩, 15), (⟨"TiedThrees$Splits", "firstOfMost", "()I"⟩, 6), (⟨"TiedThrees$Splits", "doneBy", "(I)I"⟩, 6), (⟨"TiedThrees$Splits", "threeOf", "(II)I"⟩, 6)]
theorem lw_r3 : ∀ q ∈ lw_privs_3, lw_okq q := List.forall_mem_cons.mpr ⟨lw_p32, List.forall_mem_cons.mpr ⟨lw_p33, List.forall_mem_cons.mpr ⟨lw_p34, List.forall_mem_cons.mpr ⟨lw_p35, List.forall_mem_cons.mpr ⟨lw_p36, List.forall_mem_cons.mpr ⟨lw_p37, List.forall_mem_cons.mpr ⟨lw_p38, List.forall_mem_cons.mpr ⟨lw_p39, List.forall_mem_cons.mpr ⟨lw_p40, List.forall_mem_cons.mpr ⟨lw_p41, List.forall_mem_cons.mpr ⟨lw_p42, List.forall_mem_cons.mpr ⟨lw_p43, List.forall_mem_cons.mpr ⟨lw_p44, List.forall_mem_cons.mpr ⟨lw_p45, List.forall_mem_cons.mpr ⟨lw_p46, List.forall_mem_cons.mpr ⟨lw_p47, fun _ h => absurd h List.not_mem_nil⟩⟩⟩⟩⟩⟩⟩⟩⟩⟩⟩⟩⟩⟩⟩⟩
theorem lw_p48 : lw_okq (⟨"TiedThrees", "drawLots", "(J)V"⟩, 15) := ⟨⟨by decide +kernel, by decide +kernel⟩, List.mem_of_getElem? (i := 23) (by decide +kernel), List.mem_of_getElem? (i := 675) (by decide +kernel), List.mem_of_getElem? (i := 676) (by decide +kernel)⟩
theorem lw_p49 : lw_okq (⟨"TiedThrees", "threeWith", "(I)I"⟩, 15) := ⟨⟨by decide +kernel, by decide +kernel⟩, List.mem_of_getElem? (i := 23) (by decide +kernel), List.mem_of_getElem? (i := 688) (by decide +kernel), List.mem_of_getElem? (i := 689) (by decide +kernel)⟩
theorem lw_p50 : lw_okq (⟨"TiedThrees$Splits", "rowsOf", "(I)J"⟩, 6) := ⟨⟨by decide +kernel, by decide +kernel⟩, List.mem_of_getElem? (i := 102) (by decide +kernel), List.mem_of_getElem? (i := 696) (by decide +kernel), List.mem_of_getElem? (i := 697) (by decide +kernel)⟩
theorem lw_p51 : lw_okq (⟨"TiedThrees", "keepSixths", "(I)V"⟩, 15) := ⟨⟨by decide +kernel, by decide +kernel⟩, List.mem_of_getElem? (i := 23) (by decide +kernel), List.mem_of_getElem? (i := 718) (by decide +kernel), List.mem_of_getElem? (i := 719) (by decide +kernel)⟩
theorem lw_p52 : lw_okq (⟨"TiedThrees$Town", "isThreeOrNone", "(I)Z"⟩, 7) := ⟨⟨by decide +kernel, by decide +kernel⟩, List.mem_of_getElem? (i := 39) (by decide +kernel), List.mem_of_getElem? (i := 726) (by decide +kernel), List.mem_of_getElem? (i := 727) (by decide +kernel)⟩
theorem lw_p53 : lw_okq (⟨"TiedThrees$Scene", "addWeek", "(III)I"⟩, 8) := ⟨⟨by decide +kernel, by decide +kernel⟩, List.mem_of_getElem? (i := 134) (by decide +kernel), List.mem_of_getElem? (i := 731) (by decide +kernel), List.mem_of_getElem? (i := 732) (by decide +kernel)⟩
theorem lw_p54 : lw_okq (⟨"TiedThrees$Scene", "toldInWeek", "(II)I"⟩, 8) := ⟨⟨by decide +kernel, by decide +kernel⟩, List.mem_of_getElem? (i := 134) (by decide +kernel), List.mem_of_getElem? (i := 744) (by decide +kernel), List.mem_of_getElem? (i := 745) (by decide +kernel)⟩
theorem lw_p55 : lw_okq (⟨"TiedThrees$Scene", "addSight", "(III)I"⟩, 8) := ⟨⟨by decide +kernel, by decide +kernel⟩, List.mem_of_getElem? (i := 134) (by decide +kernel), List.mem_of_getElem? (i := 770) (by decide +kernel), List.mem_of_getElem? (i := 771) (by decide +kernel)⟩
theorem lw_p56 : lw_okq (⟨"TiedThrees", "mayHaveBeen", "(II)Z"⟩, 15) := ⟨⟨by decide +kernel, by decide +kernel⟩, List.mem_of_getElem? (i := 23) (by decide +kernel), List.mem_of_getElem? (i := 782) (by decide +kernel), List.mem_of_getElem? (i := 783) (by decide +kernel)⟩
theorem lw_p57 : lw_okq (⟨"TiedThrees$Scene", "become", "(LTiedThrees$Scene;)V"⟩, 8) := ⟨⟨by decide +kernel, by decide +kernel⟩, List.mem_of_getElem? (i := 134) (by decide +kernel), List.mem_of_getElem? (i := 797) (by decide +kernel), List.mem_of_getElem? (i := 798) (by decide +kernel)⟩
theorem lw_p58 : lw_okq (⟨"TiedThrees", "howMany", "(I)I"⟩, 15) := ⟨⟨by decide +kernel, by decide +kernel⟩, List.mem_of_getElem? (i := 23) (by decide +kernel), List.mem_of_getElem? (i := 815) (by decide +kernel), List.mem_of_getElem? (i := 816) (by decide +kernel)⟩
theorem lw_p59 : lw_okq (⟨"TiedThrees$Scene", "digested", "(J)J"⟩, 8) := ⟨⟨by decide +kernel, by decide +kernel⟩, List.mem_of_getElem? (i := 134) (by decide +kernel), List.mem_of_getElem? (i := 826) (by decide +kernel), List.mem_of_getElem? (i := 827) (by decide +kernel)⟩
theorem lw_p60 : lw_okq (⟨"TiedThrees$Town", "digested", "(J)J"⟩, 7) := ⟨⟨by decide +kernel, by decide +kernel⟩, List.mem_of_getElem? (i := 39) (by decide +kernel), List.mem_of_getElem? (i := 830) (by decide +kernel), List.mem_of_getElem? (i := 831) (by decide +kernel)⟩
theorem lw_p61 : lw_okq (⟨"TiedThreesModel", "bad", "(I)I"⟩, 29) := ⟨⟨by decide +kernel, by decide +kernel⟩, List.mem_of_getElem? (i := 836) (by decide +kernel), List.mem_of_getElem? (i := 938) (by decide +kernel), List.mem_of_getElem? (i := 939) (by decide +kernel)⟩
theorem lw_p62 : lw_okq (⟨"TiedThreesModel", "ring", "()I"⟩, 29) := ⟨⟨by decide +kernel, by decide +kernel⟩, List.mem_of_getElem? (i := 836) (by decide +kernel), List.mem_of_getElem? (i := 942) (by decide +kernel), List.mem_of_getElem? (i := 943) (by decide +kernel)⟩
theorem lw_p63 : lw_okq (⟨"TiedThreesModel", "people", "()I"⟩, 29) := ⟨⟨by decide +kernel, by decide +kernel⟩, List.mem_of_getElem? (i := 836) (by decide +kernel), List.mem_of_getElem? (i := 952) (by decide +kernel), List.mem_of_getElem? (i := 953) (by decide +kernel)⟩
def lw_privs_4 : List (MethodName × Nat) := [(⟨"TiedThrees", "drawLots", "(J)V"⟩, 15), (⟨"TiedThrees", "threeWith", "(I)I"⟩, 15), (⟨"TiedThrees$Splits", "rowsOf", "(I)J"⟩, 6), (⟨"TiedThrees", "keepSixths", "(I)V"⟩, 15), (⟨"TiedThrees$Town", "isThreeOrNone", "(I)Z"⟩, 7), (⟨"TiedThrees$Scene", "addWeek", "(III)I"⟩, 8), (⟨"TiedThrees$Scene", "toldInWeek", "(II)I"⟩, 8), (⟨"TiedThrees$Scene", "addSight", "(III)I"⟩, 8), (⟨"TiedThrees", "mayHaveBeen", "(II)Z"⟩, 15), (⟨"TiedThrees$Scene", "become", "(LTiedThrees$Scene;)V"⟩, 8), (⟨"TiedThrees", "howMany", "(I)I"⟩, 15), (⟨"TiedThrees$Scene", "digested", "(J)J"⟩, 8), (⟨"TiedThrees$Town", "digested", "(J)J"⟩, 7), (⟨"TiedThreesModel", "bad", "(I)I"⟩, 29), (⟨"TiedThreesModel", "ring", "()I"⟩, 29), (⟨"TiedThreesModel", "people", "()I"⟩, 29)]
theorem lw_r4 : ∀ q ∈ lw_privs_4, lw_okq q := List.forall_mem_cons.mpr ⟨lw_p48, List.forall_mem_cons.mpr ⟨lw_p49, List.forall_mem_cons.mpr ⟨lw_p50, List.forall_mem_cons.mpr ⟨lw_p51, List.forall_mem_cons.mpr ⟨lw_p52, List.forall_mem_cons.mpr ⟨lw_p53, List.forall_mem_cons.mpr ⟨lw_p54, List.forall_mem_cons.mpr ⟨lw_p55, List.forall_mem_cons.mpr ⟨lw_p56, List.forall_mem_cons.mpr ⟨lw_p57, List.forall_mem_cons.mpr ⟨lw_p58, List.forall_mem_cons.mpr ⟨lw_p59, List.forall_mem_cons.mpr ⟨lw_p60, List.forall_mem_cons.mpr ⟨lw_p61, List.forall_mem_cons.mpr ⟨lw_p62, List.forall_mem_cons.mpr ⟨lw_p63, fun _ h => absurd h List.not_mem_nil⟩⟩⟩⟩⟩⟩⟩⟩⟩⟩⟩⟩⟩⟩⟩⟩
theorem lw_p64 : lw_okq (⟨"TiedThreesModel", "full", "()I"⟩, 29) := ⟨⟨by decide +kernel, by decide +kernel⟩, List.mem_of_getElem? (i := 836) (by decide +kernel), List.mem_of_getElem? (i := 956) (by decide +kernel), List.mem_of_getElem? (i := 957) (by decide +kernel)⟩
theorem lw_p65 : lw_okq (⟨"TiedThreesModel", "isOne", "(I)Z"⟩, 29) := ⟨⟨by decide +kernel, by decide +kernel⟩, List.mem_of_getElem? (i := 836) (by decide +kernel), List.mem_of_getElem? (i := 967) (by decide +kernel), List.mem_of_getElem? (i := 968) (by decide +kernel)⟩
theorem lw_p66 : lw_okq (⟨"TiedThreesModel", "of", "(II)I"⟩, 29) := ⟨⟨by decide +kernel, by decide +kernel⟩, List.mem_of_getElem? (i := 836) (by decide +kernel), List.mem_of_getElem? (i := 971) (by decide +kernel), List.mem_of_getElem? (i := 972) (by decide +kernel)⟩
theorem lw_p67 : lw_okq (⟨"TiedThreesModel", "no", "(I)I"⟩, 29) := ⟨⟨by decide +kernel, by decide +kernel⟩, List.mem_of_getElem? (i := 836) (by decide +kernel), List.mem_of_getElem? (i := 982) (by decide +kernel), List.mem_of_getElem? (i := 983) (by decide +kernel)⟩
theorem lw_p68 : lw_okq (⟨"TiedThreesModel", "isThree", "(I)Z"⟩, 29) := ⟨⟨by decide +kernel, by decide +kernel⟩, List.mem_of_getElem? (i := 836) (by decide +kernel), List.mem_of_getElem? (i := 990) (by decide +kernel), List.mem_of_getElem? (i := 991) (by decide +kernel)⟩
theorem lw_p69 : lw_okq (⟨"TiedThreesModel", "goDay", "(I)I"⟩, 29) := ⟨⟨by decide +kernel, by decide +kernel⟩, List.mem_of_getElem? (i := 836) (by decide +kernel), List.mem_of_getElem? (i := 998) (by decide +kernel), List.mem_of_getElem? (i := 999) (by decide +kernel)⟩
theorem lw_p70 : lw_okq (⟨"TiedThreesModel", "takeThree", "(I)V"⟩, 29) := ⟨⟨by decide +kernel, by decide +kernel⟩, List.mem_of_getElem? (i := 836) (by decide +kernel), List.mem_of_getElem? (i := 1002) (by decide +kernel), List.mem_of_getElem? (i := 1003) (by decide +kernel)⟩
theorem lw_p71 : lw_okq (⟨"TiedThreesModel", "vote", "(II)I"⟩, 29) := ⟨⟨by decide +kernel, by decide +kernel⟩, List.mem_of_getElem? (i := 836) (by decide +kernel), List.mem_of_getElem? (i := 1006) (by decide +kernel), List.mem_of_getElem? (i := 1007) (by decide +kernel)⟩
theorem lw_p72 : lw_okq (⟨"TiedThreesModel", "hastyVote", "(II)I"⟩, 29) := ⟨⟨by decide +kernel, by decide +kernel⟩, List.mem_of_getElem? (i := 836) (by decide +kernel), List.mem_of_getElem? (i := 1010) (by decide +kernel), List.mem_of_getElem? (i := 1011) (by decide +kernel)⟩
theorem lw_p73 : lw_okq (⟨"TiedThreesModel", "hourOf", "(II)I"⟩, 29) := ⟨⟨by decide +kernel, by decide +kernel⟩, List.mem_of_getElem? (i := 836) (by decide +kernel), List.mem_of_getElem? (i := 1014) (by decide +kernel), List.mem_of_getElem? (i := 1015) (by decide +kernel)⟩
theorem lw_p74 : lw_okq (⟨"TiedThreesModel", "isOpen", "(III)Z"⟩, 29) := ⟨⟨by decide +kernel, by decide +kernel⟩, List.mem_of_getElem? (i := 836) (by decide +kernel), List.mem_of_getElem? (i := 1018) (by decide +kernel), List.mem_of_getElem? (i := 1019) (by decide +kernel)⟩
theorem lw_p75 : lw_okq (⟨"TiedThreesModel", "placeOf", "(II)I"⟩, 29) := ⟨⟨by decide +kernel, by decide +kernel⟩, List.mem_of_getElem? (i := 836) (by decide +kernel), List.mem_of_getElem? (i := 1022) (by decide +kernel), List.mem_of_getElem? (i := 1023) (by decide +kernel)⟩
theorem lw_p76 : lw_okq (⟨"TiedThreesModel", "plainVote", "(II)I"⟩, 29) := ⟨⟨by decide +kernel, by decide +kernel⟩, List.mem_of_getElem? (i := 836) (by decide +kernel), List.mem_of_getElem? (i := 1026) (by decide +kernel), List.mem_of_getElem? (i := 1027) (by decide +kernel)⟩
theorem lw_p77 : lw_okq (⟨"TiedThreesModel", "firstOpen", "(II)I"⟩, 29) := ⟨⟨by decide +kernel, by decide +kernel⟩, List.mem_of_getElem? (i := 836) (by decide +kernel), List.mem_of_getElem? (i := 1030) (by decide +kernel), List.mem_of_getElem? (i := 1031) (by decide +kernel)⟩
theorem lw_p78 : lw_okq (⟨"TiedThreesModel", "kindVote", "(II)I"⟩, 29) := ⟨⟨by decide +kernel, by decide +kernel⟩, List.mem_of_getElem? (i := 836) (by decide +kernel), List.mem_of_getElem? (i := 1034) (by decide +kernel), List.mem_of_getElem? (i := 1035) (by decide +kernel)⟩
theorem lw_p79 : lw_okq (⟨"TiedThreesModel", "stepTo", "(I)V"⟩, 29) := ⟨⟨by decide +kernel, by decide +kernel⟩, List.mem_of_getElem? (i := 836) (by decide +kernel), List.mem_of_getElem? (i := 1038) (by decide +kernel), List.mem_of_getElem? (i := 1039) (by decide +kernel)⟩
def lw_privs_5 : List (MethodName × Nat) := [(⟨"TiedThreesModel", "full", "()I"⟩, 29), (⟨"TiedThreesModel", "isOne", "(I)Z"⟩, 29), (⟨"TiedThreesModel", "of", "(II)I"⟩, 29), (⟨"TiedThreesModel", "no", "(I)I"⟩, 29), (⟨"TiedThreesModel", "isThree", "(I)Z"⟩, 29), (⟨"TiedThreesModel", "goDay", "(I)I"⟩, 29), (⟨"TiedThreesModel", "takeThree", "(I)V"⟩, 29), (⟨"TiedThreesModel", "vote", "(II)I"⟩, 29), (⟨"TiedThreesModel", "hastyVote", "(II)I"⟩, 29), (⟨"TiedThreesModel", "hourOf", "(II)I"⟩, 29), (⟨"TiedThreesModel", "isOpen", "(III)Z"⟩, 29), (⟨"TiedThreesModel", "placeOf", "(II)I"⟩, 29), (⟨"TiedThreesModel", "plainVote", "(II)I"⟩, 29), (⟨"TiedThreesModel", "firstOpen", "(II)I"⟩, 29), (⟨"TiedThreesModel", "kindVote", "(II)I"⟩, 29), (⟨"TiedThreesModel", "stepTo", "(I)V"⟩, 29)]
theorem lw_r5 : ∀ q ∈ lw_privs_5, lw_okq q := List.forall_mem_cons.mpr ⟨lw_p64, List.forall_mem_cons.mpr ⟨lw_p65, List.forall_mem_cons.mpr ⟨lw_p66, List.forall_mem_cons.mpr ⟨lw_p67, List.forall_mem_cons.mpr ⟨lw_p68, List.forall_mem_cons.mpr ⟨lw_p69, List.forall_mem_cons.mpr ⟨lw_p70, List.forall_mem_cons.mpr ⟨lw_p71, List.forall_mem_cons.mpr ⟨lw_p72, List.forall_mem_cons.mpr ⟨lw_p73, List.forall_mem_cons.mpr ⟨lw_p74, List.forall_mem_cons.mpr ⟨lw_p75, List.forall_mem_cons.mpr ⟨lw_p76, List.forall_mem_cons.mpr ⟨lw_p77, List.forall_mem_cons.mpr ⟨lw_p78, List.forall_mem_cons.mpr ⟨lw_p79, fun _ h => absurd h List.not_mem_nil⟩⟩⟩⟩⟩⟩⟩⟩⟩⟩⟩⟩⟩⟩⟩⟩
theorem lw_p80 : lw_okq (⟨"TiedThreesModel", "isFast", "()Z"⟩, 29) := ⟨⟨by decide +kernel, by decide +kernel⟩, List.mem_of_getElem? (i := 836) (by decide +kernel), List.mem_of_getElem? (i := 1042) (by decide +kernel), List.mem_of_getElem? (i := 1043) (by decide +kernel)⟩
theorem lw_p81 : lw_okq (⟨"TiedThreesModel", "doAll", "(I)I"⟩, 29) := ⟨⟨by decide +kernel, by decide +kernel⟩, List.mem_of_getElem? (i := 836) (by decide +kernel), List.mem_of_getElem? (i := 1046) (by decide +kernel), List.mem_of_getElem? (i := 1047) (by decide +kernel)⟩
theorem lw_p82 : lw_okq (⟨"TiedThreesModel", "goOn", "(III)V"⟩, 29) := ⟨⟨by decide +kernel, by decide +kernel⟩, List.mem_of_getElem? (i := 836) (by decide +kernel), List.mem_of_getElem? (i := 1054) (by decide +kernel), List.mem_of_getElem? (i := 1055) (by decide +kernel)⟩
theorem lw_p83 : lw_okq (⟨"TiedThreesModel", "takeDone", "(I)V"⟩, 29) := ⟨⟨by decide +kernel, by decide +kernel⟩, List.mem_of_getElem? (i := 836) (by decide +kernel), List.mem_of_getElem? (i := 1058) (by decide +kernel), List.mem_of_getElem? (i := 1059) (by decide +kernel)⟩
theorem lw_p84 : lw_okq (⟨"TiedThreesModel", "doneNow", "()I"⟩, 29) := ⟨⟨by decide +kernel, by decide +kernel⟩, List.mem_of_getElem? (i := 836) (by decide +kernel), List.mem_of_getElem? (i := 1062) (by decide +kernel), List.mem_of_getElem? (i := 1063) (by decide +kernel)⟩
theorem lw_p85 : lw_okq (⟨"TiedThreesModel", "areThrees", "()Z"⟩, 29) := ⟨⟨by decide +kernel, by decide +kernel⟩, List.mem_of_getElem? (i := 836) (by decide +kernel), List.mem_of_getElem? (i := 1070) (by decide +kernel), List.mem_of_getElem? (i := 1071) (by decide +kernel)⟩
theorem lw_p86 : lw_okq (⟨"TiedThreesModel", "noThrees", "()V"⟩, 29) := ⟨⟨by decide +kernel, by decide +kernel⟩, List.mem_of_getElem? (i := 836) (by decide +kernel), List.mem_of_getElem? (i := 1074) (by decide +kernel), List.mem_of_getElem? (i := 1075) (by decide +kernel)⟩
theorem lw_p87 : lw_okq (⟨"TiedThreesModel", "nextAll", "()Z"⟩, 29) := ⟨⟨by decide +kernel, by decide +kernel⟩, List.mem_of_getElem? (i := 836) (by decide +kernel), List.mem_of_getElem? (i := 1078) (by decide +kernel), List.mem_of_getElem? (i := 1079) (by decide +kernel)⟩
theorem lw_p88 : lw_okq (⟨"TiedThreesModel", "findWays", "()V"⟩, 29) := ⟨⟨by decide +kernel, by decide +kernel⟩, List.mem_of_getElem? (i := 836) (by decide +kernel), List.mem_of_getElem? (i := 1101) (by decide +kernel), List.mem_of_getElem? (i := 1102) (by decide +kernel)⟩
theorem lw_p89 : lw_okq (⟨"TiedThreesModel", "more", "(JI)J"⟩, 29) := ⟨⟨by decide +kernel, by decide +kernel⟩, List.mem_of_getElem? (i := 836) (by decide +kernel), List.mem_of_getElem? (i := 1108) (by decide +kernel), List.mem_of_getElem? (i := 1109) (by decide +kernel)⟩
theorem lw_p90 : lw_okq (⟨"TiedThreesModel", "last", "(J)J"⟩, 29) := ⟨⟨by decide +kernel, by decide +kernel⟩, List.mem_of_getElem? (i := 836) (by decide +kernel), List.mem_of_getElem? (i := 1112) (by decide +kernel), List.mem_of_getElem? (i := 1113) (by decide +kernel)⟩
theorem lw_p91 : lw_okq (⟨"TiedThreesModel", "gainOf", "(I)I"⟩, 29) := ⟨⟨by decide +kernel, by decide +kernel⟩, List.mem_of_getElem? (i := 836) (by decide +kernel), List.mem_of_getElem? (i := 1126) (by decide +kernel), List.mem_of_getElem? (i := 1127) (by decide +kernel)⟩
theorem lw_p92 : lw_okq (⟨"TiedThreesModel", "tell", "(JJ)I"⟩, 29) := ⟨⟨by decide +kernel, by decide +kernel⟩, List.mem_of_getElem? (i := 836) (by decide +kernel), List.mem_of_getElem? (i := 1135) (by decide +kernel), List.mem_of_getElem? (i := 1136) (by decide +kernel)⟩
theorem lw_p93 : lw_okq (⟨"TiedThreesModel", "isSet", "(I)Z"⟩, 29) := ⟨⟨by decide +kernel, by decide +kernel⟩, List.mem_of_getElem? (i := 836) (by decide +kernel), List.mem_of_getElem? (i := 1151) (by decide +kernel), List.mem_of_getElem? (i := 1152) (by decide +kernel)⟩
theorem lw_p94 : lw_okq (⟨"TiedThreesModel", "known", "(II)I"⟩, 29) := ⟨⟨by decide +kernel, by decide +kernel⟩, List.mem_of_getElem? (i := 836) (by decide +kernel), List.mem_of_getElem? (i := 1155) (by decide +kernel), List.mem_of_getElem? (i := 1156) (by decide +kernel)⟩
theorem lw_p95 : lw_okq (⟨"TiedThreesModel", "layRope", "(III)V"⟩, 29) := ⟨⟨by decide +kernel, by decide +kernel⟩, List.mem_of_getElem? (i := 836) (by decide +kernel), List.mem_of_getElem? (i := 1168) (by decide +kernel), List.mem_of_getElem? (i := 1169) (by decide +kernel)⟩
def lw_privs_6 : List (MethodName × Nat) := [(⟨"TiedThreesModel", "isFast", "()Z"⟩, 29), (⟨"TiedThreesModel", "doAll", "(I)I"⟩, 29), (⟨"TiedThreesModel", "goOn", "(III)V"⟩, 29), (⟨"TiedThreesModel", "takeDone", "(I)V"⟩, 29), (⟨"TiedThreesModel", "doneNow", "()I"⟩, 29), (⟨"TiedThreesModel", "areThrees", "()Z"⟩, 29), (⟨"TiedThreesModel", "noThrees", "()V"⟩, 29), (⟨"TiedThreesModel", "nextAll", "()Z"⟩, 29), (⟨"TiedThreesModel", "findWays", "()V"⟩, 29), (⟨"TiedThreesModel", "more", "(JI)J"⟩, 29), (⟨"TiedThreesModel", "last", "(J)J"⟩, 29), (⟨"TiedThreesModel", "gainOf", "(I)I"⟩, 29), (⟨"TiedThreesModel", "tell", "(JJ)I"⟩, 29), (⟨"TiedThreesModel", "isSet", "(I)Z"⟩, 29), (⟨"TiedThreesModel", "known", "(II)I"⟩, 29), (⟨"TiedThreesModel", "layRope", "(III)V"⟩, 29)]
theorem lw_r6 : ∀ q ∈ lw_privs_6, lw_okq q := List.forall_mem_cons.mpr ⟨lw_p80, List.forall_mem_cons.mpr ⟨lw_p81, List.forall_mem_cons.mpr ⟨lw_p82, List.forall_mem_cons.mpr ⟨lw_p83, List.forall_mem_cons.mpr ⟨lw_p84, List.forall_mem_cons.mpr ⟨lw_p85, List.forall_mem_cons.mpr ⟨lw_p86, List.forall_mem_cons.mpr ⟨lw_p87, List.forall_mem_cons.mpr ⟨lw_p88, List.forall_mem_cons.mpr ⟨lw_p89, List.forall_mem_cons.mpr ⟨lw_p90, List.forall_mem_cons.mpr ⟨lw_p91, List.forall_mem_cons.mpr ⟨lw_p92, List.forall_mem_cons.mpr ⟨lw_p93, List.forall_mem_cons.mpr ⟨lw_p94, List.forall_mem_cons.mpr ⟨lw_p95, fun _ h => absurd h List.not_mem_nil⟩⟩⟩⟩⟩⟩⟩⟩⟩⟩⟩⟩⟩⟩⟩⟩
theorem lw_p96 : lw_okq (⟨"TiedThreesModel", "layEnd", "(III)V"⟩, 29) := ⟨⟨by decide +kernel, by decide +kernel⟩, List.mem_of_getElem? (i := 836) (by decide +kernel), List.mem_of_getElem? (i := 1175) (by decide +kernel), List.mem_of_getElem? (i := 1176) (by decide +kernel)⟩
theorem lw_p97 : lw_okq (⟨"TiedThreesModel", "isSeen", "(II)Z"⟩, 29) := ⟨⟨by decide +kernel, by decide +kernel⟩, List.mem_of_getElem? (i := 836) (by decide +kernel), List.mem_of_getElem? (i := 1191) (by decide +kernel), List.mem_of_getElem? (i := 1192) (by decide +kernel)⟩
theorem lw_p98 : lw_okq (⟨"TiedThreesModel", "look", "(I)V"⟩, 29) := ⟨⟨by decide +kernel, by decide +kernel⟩, List.mem_of_getElem? (i := 836) (by decide +kernel), List.mem_of_getElem? (i := 1209) (by decide +kernel), List.mem_of_getElem? (i := 1210) (by decide +kernel)⟩
theorem lw_p99 : lw_okq (⟨"TiedThreesModel", "readsItem", "()Z"⟩, 29) := ⟨⟨by decide +kernel, by decide +kernel⟩, List.mem_of_getElem? (i := 836) (by decide +kernel), List.mem_of_getElem? (i := 1223) (by decide +kernel), List.mem_of_getElem? (i := 1224) (by decide +kernel)⟩
theorem lw_p100 : lw_okq (⟨"TiedThreesModel", "isWord", "(IIIIII)Z"⟩, 29) := ⟨⟨by decide +kernel, by decide +kernel⟩, List.mem_of_getElem? (i := 836) (by decide +kernel), List.mem_of_getElem? (i := 1227) (by decide +kernel), List.mem_of_getElem? (i := 1228) (by decide +kernel)⟩
theorem lw_p101 : lw_okq (⟨"TiedThreesModel", "goNext", "()V"⟩, 29) := ⟨⟨by decide +kernel, by decide +kernel⟩, List.mem_of_getElem? (i := 836) (by decide +kernel), List.mem_of_getElem? (i := 1231) (by decide +kernel), List.mem_of_getElem? (i := 1232) (by decide +kernel)⟩
theorem lw_p102 : lw_okq (⟨"TiedThreesModel", "takes", "(II)Z"⟩, 29) := ⟨⟨by decide +kernel, by decide +kernel⟩, List.mem_of_getElem? (i := 836) (by decide +kernel), List.mem_of_getElem? (i := 1235) (by decide +kernel), List.mem_of_getElem? (i := 1236) (by decide +kernel)⟩
theorem lw_p103 : lw_okq (⟨"TiedThreesModel", "readsPerson", "()Z"⟩, 29) := ⟨⟨by decide +kernel, by decide +kernel⟩, List.mem_of_getElem? (i := 836) (by decide +kernel), List.mem_of_getElem? (i := 1239) (by decide +kernel), List.mem_of_getElem? (i := 1240) (by decide +kernel)⟩
theorem lw_p104 : lw_okq (⟨"TiedThreesModel", "readsErrand", "()Z"⟩, 29) := ⟨⟨by decide +kernel, by decide +kernel⟩, List.mem_of_getElem? (i := 836) (by decide +kernel), List.mem_of_getElem? (i := 1243) (by decide +kernel), List.mem_of_getElem? (i := 1244) (by decide +kernel)⟩
theorem lw_p105 : lw_okq (⟨"TiedThreesModel", "counted", "(I)I"⟩, 29) := ⟨⟨by decide +kernel, by decide +kernel⟩, List.mem_of_getElem? (i := 836) (by decide +kernel), List.mem_of_getElem? (i := 1268) (by decide +kernel), List.mem_of_getElem? (i := 1269) (by decide +kernel)⟩
theorem lw_p106 : lw_okq (⟨"TiedThreesModel", "allErrands", "()I"⟩, 29) := ⟨⟨by decide +kernel, by decide +kernel⟩, List.mem_of_getElem? (i := 836) (by decide +kernel), List.mem_of_getElem? (i := 1272) (by decide +kernel), List.mem_of_getElem? (i := 1273) (by decide +kernel)⟩
theorem lw_p107 : lw_okq (⟨"TiedThreesModel", "sums", "(JII)J"⟩, 29) := ⟨⟨by decide +kernel, by decide +kernel⟩, List.mem_of_getElem? (i := 836) (by decide +kernel), List.mem_of_getElem? (i := 1282) (by decide +kernel), List.mem_of_getElem? (i := 1283) (by decide +kernel)⟩
def lw_privs_7 : List (MethodName × Nat) := [(⟨"TiedThreesModel", "layEnd", "(III)V"⟩, 29), (⟨"TiedThreesModel", "isSeen", "(II)Z"⟩, 29), (⟨"TiedThreesModel", "look", "(I)V"⟩, 29), (⟨"TiedThreesModel", "readsItem", "()Z"⟩, 29), (⟨"TiedThreesModel", "isWord", "(IIIIII)Z"⟩, 29), (⟨"TiedThreesModel", "goNext", "()V"⟩, 29), (⟨"TiedThreesModel", "takes", "(II)Z"⟩, 29), (⟨"TiedThreesModel", "readsPerson", "()Z"⟩, 29), (⟨"TiedThreesModel", "readsErrand", "()Z"⟩, 29), (⟨"TiedThreesModel", "counted", "(I)I"⟩, 29), (⟨"TiedThreesModel", "allErrands", "()I"⟩, 29), (⟨"TiedThreesModel", "sums", "(JII)J"⟩, 29)]
theorem lw_r7 : ∀ q ∈ lw_privs_7, lw_okq q := List.forall_mem_cons.mpr ⟨lw_p96, List.forall_mem_cons.mpr ⟨lw_p97, List.forall_mem_cons.mpr ⟨lw_p98, List.forall_mem_cons.mpr ⟨lw_p99, List.forall_mem_cons.mpr ⟨lw_p100, List.forall_mem_cons.mpr ⟨lw_p101, List.forall_mem_cons.mpr ⟨lw_p102, List.forall_mem_cons.mpr ⟨lw_p103, List.forall_mem_cons.mpr ⟨lw_p104, List.forall_mem_cons.mpr ⟨lw_p105, List.forall_mem_cons.mpr ⟨lw_p106, List.forall_mem_cons.mpr ⟨lw_p107, fun _ h => absurd h List.not_mem_nil⟩⟩⟩⟩⟩⟩⟩⟩⟩⟩⟩⟩
def lw_privs : List (MethodName × Nat) := lw_privs_1 ++ (lw_privs_2 ++ (lw_privs_3 ++ (lw_privs_4 ++ (lw_privs_5 ++ (lw_privs_6 ++ (lw_privs_7))))))
def lw_tbl : List Cond := k2_sels lw_privs ++ tables_1
theorem lw_privs_ok : ∀ q ∈ lw_privs, lw_okq q := by
  show ∀ q ∈ lw_privs_1 ++ (lw_privs_2 ++ (lw_privs_3 ++ (lw_privs_4 ++ (lw_privs_5 ++ (lw_privs_6 ++ (lw_privs_7)))))), lw_okq q
  exact List.forall_mem_append.mpr ⟨lw_r1, List.forall_mem_append.mpr ⟨lw_r2, List.forall_mem_append.mpr ⟨lw_r3, List.forall_mem_append.mpr ⟨lw_r4, List.forall_mem_append.mpr ⟨lw_r5, List.forall_mem_append.mpr ⟨lw_r6, lw_r7⟩⟩⟩⟩⟩⟩
def RX0 : String := "TiedThrees$Day"
def TX0 : u_T := fun k => match k with
  | 0 => ("TiedThrees$Day", "town", "LTiedThrees$Town;", true)
  | 1 => ("TiedThrees$Day", "voters", "[LTiedThrees$Person;", true)
  | 2 => ("TiedThrees$Day", "members", "[I", true)
  | 3 => ("TiedThrees$Day", "wish", "[I", true)
  | 4 => ("TiedThrees$Day", "busy", "[Z", true)
  | 5 => ("TiedThrees$Day", "isDone", "[Z", true)
  | 6 => ("TiedThrees$Day", "where", "[I", true)
  | 7 => ("TiedThrees$Day", "hour", "I", false)
  | 8 => ("TiedThrees$Day", "at", "I", false)
  | _ => ("TiedThrees$Day", "doneMany", "I", false)
def tyX0 : Nat → FieldType := fun k => match k with
  | 0 => .object "TiedThrees$Town"
  | 1 => .array (.object "TiedThrees$Person")
  | 2 => .array .int
  | 3 => .array .int
  | 4 => .array .boolean
  | 5 => .array .boolean
  | 6 => .array .int
  | 7 => .int
  | 8 => .int
  | _ => .int
abbrev wsX00 : List Cond := u_ws RX0 TX0 10
theorem nmX0 : ∀ a, a < 10 → ∀ b, b < 10 → a ≠ b → (TX0 a).2.1 ≠ (TX0 b).2.1 := by decide +kernel
theorem tyX0_ok : ∀ k, k < 10 → parseFieldDescriptor (TX0 k).2.2.1 = some (tyX0 k) := by decide +kernel
abbrev cX0_init : ByteArray := prog_2_method_1_code
def yX0_init : MethodName := ⟨RX0, "<init>", "(LTiedThrees$Town;)V"⟩
abbrev cX0_pass : ByteArray := prog_2_method_2_code
def yX0_pass : MethodName := ⟨RX0, "pass", "(I)V"⟩
abbrev cX0_begin : ByteArray := prog_2_method_3_code
def yX0_begin : MethodName := ⟨RX0, "begin", "(I)V"⟩
abbrev cX0_isOpen : ByteArray := prog_2_method_4_code
def yX0_isOpen : MethodName := ⟨RX0, "isOpen", "(I)Z"⟩
abbrev cX0_lookAround : ByteArray := prog_2_method_5_code
def yX0_lookAround : MethodName := ⟨RX0, "lookAround", "()V"⟩
abbrev cX0_mostPressing : ByteArray := prog_2_method_6_code
def yX0_mostPressing : MethodName := ⟨RX0, "mostPressing", "(I)I"⟩
abbrev cX0_firstUndone : ByteArray := prog_2_method_7_code
def yX0_firstUndone : MethodName := ⟨RX0, "firstUndone", "(I)I"⟩
abbrev cX0_chosen : ByteArray := prog_2_method_8_code
def yX0_chosen : MethodName := ⟨RX0, "chosen", "()I"⟩
abbrev cX0_stepTowards : ByteArray := prog_2_method_9_code
def yX0_stepTowards : MethodName := ⟨RX0, "stepTowards", "(I)V"⟩
abbrev cX0_doErrands : ByteArray := prog_2_method_10_code
def yX0_doErrands : MethodName := ⟨RX0, "doErrands", "()V"⟩
def RX1 : String := "TiedThrees$FreeDay"
def TX1 : u_T := fun k => match k with
  | 0 => ("TiedThrees$FreeDay", "town", "LTiedThrees$Town;", true)
  | 1 => ("TiedThrees$FreeDay", "worth", "[I", true)
  | 2 => ("TiedThrees$FreeDay", "now", "[I", false)
  | _ => ("TiedThrees$FreeDay", "next", "[I", false)
def tyX1 : Nat → FieldType := fun k => match k with
  | 0 => .object "TiedThrees$Town"
  | 1 => .array .int
  | 2 => .array .int
  | _ => .array .int
abbrev wsX10 : List Cond := u_ws RX1 TX1 4
theorem nmX1 : ∀ a, a < 4 → ∀ b, b < 4 → a ≠ b → (TX1 a).2.1 ≠ (TX1 b).2.1 := by decide +kernel
theorem tyX1_ok : ∀ k, k < 4 → parseFieldDescriptor (TX1 k).2.2.1 = some (tyX1 k) := by decide +kernel
abbrev cX1_init : ByteArray := prog_3_method_1_code
def yX1_init : MethodName := ⟨RX1, "<init>", "(LTiedThrees$Town;)V"⟩
abbrev cX1_mostDone : ByteArray := prog_3_method_2_code
def yX1_mostDone : MethodName := ⟨RX1, "mostDone", "(I)I"⟩
abbrev cX1_weigh : ByteArray := prog_3_method_3_code
def yX1_weigh : MethodName := ⟨RX1, "weigh", "(I)V"⟩
abbrev cX1_weighErrandsOf : ByteArray := prog_3_method_4_code
def yX1_weighErrandsOf : MethodName := ⟨RX1, "weighErrandsOf", "(I)V"⟩
abbrev cX1_passHour : ByteArray := prog_3_method_5_code
def yX1_passHour : MethodName := ⟨RX1, "passHour", "(II)V"⟩
abbrev cX1_goOn : ByteArray := prog_3_method_6_code
def yX1_goOn : MethodName := ⟨RX1, "goOn", "(III)V"⟩
def RX2 : String := "TiedThrees$Hasty"
def TX2 : u_T := fun k => match k with
  | _ => ("", "", "", false)
def tyX2 : Nat → FieldType := fun k => match k with
  | _ => .int
abbrev wsX20 : List Cond := u_ws RX2 TX2 0
theorem nmX2 : ∀ a, a < 0 → ∀ b, b < 0 → a ≠ b → (TX2 a).2.1 ≠ (TX2 b).2.1 := by decide +kernel
theorem tyX2_ok : ∀ k, k < 0 → parseFieldDescriptor (TX2 k).2.2.1 = some (tyX2 k) := by decide +kernel
abbrev cX2_init : ByteArray := prog_4_method_1_code
def yX2_init : MethodName := ⟨RX2, "<init>", "()V"⟩
abbrev cX2_vote : ByteArray := prog_4_method_2_code
def yX2_vote : MethodName := ⟨RX2, "vote", "(LTiedThrees$Day;I)I"⟩
def RX3 : String := "TiedThrees$Idle"
def TX3 : u_T := fun k => match k with
  | _ => ("", "", "", false)
def tyX3 : Nat → FieldType := fun k => match k with
  | _ => .int
abbrev wsX30 : List Cond := u_ws RX3 TX3 0
theorem nmX3 : ∀ a, a < 0 → ∀ b, b < 0 → a ≠ b → (TX3 a).2.1 ≠ (TX3 b).2.1 := by decide +kernel
theorem tyX3_ok : ∀ k, k < 0 → parseFieldDescriptor (TX3 k).2.2.1 = some (tyX3 k) := by decide +kernel
abbrev cX3_init : ByteArray := prog_5_method_1_code
def yX3_init : MethodName := ⟨RX3, "<init>", "()V"⟩
abbrev cX3_vote : ByteArray := prog_5_method_2_code
def yX3_vote : MethodName := ⟨RX3, "vote", "(LTiedThrees$Day;I)I"⟩
def RX4 : String := "TiedThrees$Kind"
def TX4 : u_T := fun k => match k with
  | _ => ("", "", "", false)
def tyX4 : Nat → FieldType := fun k => match k with
  | _ => .int
abbrev wsX40 : List Cond := u_ws RX4 TX4 0
theorem nmX4 : ∀ a, a < 0 → ∀ b, b < 0 → a ≠ b → (TX4 a).2.1 ≠ (TX4 b).2.1 := by decide +kernel
theorem tyX4_ok : ∀ k, k < 0 → parseFieldDescriptor (TX4 k).2.2.1 = some (tyX4 k) := by decide +kernel
abbrev cX4_init : ByteArray := prog_6_method_1_code
def yX4_init : MethodName := ⟨RX4, "<init>", "()V"⟩
abbrev cX4_vote : ByteArray := prog_6_method_2_code
def yX4_vote : MethodName := ⟨RX4, "vote", "(LTiedThrees$Day;I)I"⟩
abbrev cX4_kindly : ByteArray := prog_6_method_3_code
def yX4_kindly : MethodName := ⟨RX4, "kindly", "(LTiedThrees$Day;I)I"⟩
def RX5 : String := "TiedThrees$Person"
def TX5 : u_T := fun k => match k with
  | _ => ("", "", "", false)
def tyX5 : Nat → FieldType := fun k => match k with
  | _ => .int
abbrev wsX50 : List Cond := u_ws RX5 TX5 0
theorem nmX5 : ∀ a, a < 0 → ∀ b, b < 0 → a ≠ b → (TX5 a).2.1 ≠ (TX5 b).2.1 := by decide +kernel
theorem tyX5_ok : ∀ k, k < 0 → parseFieldDescriptor (TX5 k).2.2.1 = some (tyX5 k) := by decide +kernel
abbrev cX5_init : ByteArray := prog_7_method_1_code
def yX5_init : MethodName := ⟨RX5, "<init>", "()V"⟩
abbrev cX5_vote : ByteArray := prog_7_method_2_code
def yX5_vote : MethodName := ⟨RX5, "vote", "(LTiedThrees$Day;I)I"⟩
def RX6 : String := "TiedThrees$Scene"
def TX6 : u_T := fun k => match k with
  | 0 => ("TiedThrees$Scene", "town", "LTiedThrees$Town;", true)
  | 1 => ("TiedThrees$Scene", "gains", "[I", true)
  | 2 => ("TiedThrees$Scene", "tied", "[I", true)
  | 3 => ("TiedThrees$Scene", "sightPerson", "[I", true)
  | 4 => ("TiedThrees$Scene", "sightPlace", "[I", true)
  | 5 => ("TiedThrees$Scene", "sightHour", "[I", true)
  | 6 => ("TiedThrees$Scene", "weeks", "I", false)
  | _ => ("TiedThrees$Scene", "sights", "I", false)
def tyX6 : Nat → FieldType := fun k => match k with
  | 0 => .object "TiedThrees$Town"
  | 1 => .array .int
  | 2 => .array .int
  | 3 => .array .int
  | 4 => .array .int
  | 5 => .array .int
  | 6 => .int
  | _ => .int
abbrev wsX60 : List Cond := u_ws RX6 TX6 8
theorem nmX6 : ∀ a, a < 8 → ∀ b, b < 8 → a ≠ b → (TX6 a).2.1 ≠ (TX6 b).2.1 := by decide +kernel
theorem tyX6_ok : ∀ k, k < 8 → parseFieldDescriptor (TX6 k).2.2.1 = some (tyX6 k) := by decide +kernel
abbrev cX6_init : ByteArray := prog_8_method_1_code
def yX6_init : MethodName := ⟨RX6, "<init>", "(LTiedThrees$Town;)V"⟩
abbrev cX6_forgetWeeksAndSights : ByteArray := prog_8_method_2_code
def yX6_forgetWeeksAndSights : MethodName := ⟨RX6, "forgetWeeksAndSights", "()V"⟩
abbrev cX6_addWeek : ByteArray := prog_8_method_3_code
def yX6_addWeek : MethodName := ⟨RX6, "addWeek", "(III)I"⟩
abbrev cX6_addSight : ByteArray := prog_8_method_4_code
def yX6_addSight : MethodName := ⟨RX6, "addSight", "(III)I"⟩
abbrev cX6_toldInWeek : ByteArray := prog_8_method_5_code
def yX6_toldInWeek : MethodName := ⟨RX6, "toldInWeek", "(II)I"⟩
abbrev cX6_become : ByteArray := prog_8_method_6_code
def yX6_become : MethodName := ⟨RX6, "become", "(LTiedThrees$Scene;)V"⟩
abbrev cX6_digested : ByteArray := prog_8_method_7_code
def yX6_digested : MethodName := ⟨RX6, "digested", "(J)J"⟩
def RX7 : String := "TiedThrees$Splits"
def TX7 : u_T := fun k => match k with
  | 0 => ("TiedThrees$Splits", "threes", "[I", true)
  | 1 => ("TiedThrees$Splits", "pairs", "[J", true)
  | 2 => ("TiedThrees$Splits", "done", "[I", true)
  | 3 => ("TiedThrees$Splits", "split", "[I", true)
  | 4 => ("TiedThrees$Splits", "together", "[J", true)
  | _ => ("TiedThrees$Splits", "many", "I", false)
def tyX7 : Nat → FieldType := fun k => match k with
  | 0 => .array .int
  | 1 => .array .long
  | 2 => .array .int
  | 3 => .array .int
  | 4 => .array .long
  | _ => .int
abbrev wsX70 : List Cond := u_ws RX7 TX7 6
theorem nmX7 : ∀ a, a < 6 → ∀ b, b < 6 → a ≠ b → (TX7 a).2.1 ≠ (TX7 b).2.1 := by decide +kernel
theorem tyX7_ok : ∀ k, k < 6 → parseFieldDescriptor (TX7 k).2.2.1 = some (tyX7 k) := by decide +kernel
abbrev cX7_init : ByteArray := prog_9_method_1_code
def yX7_init : MethodName := ⟨RX7, "<init>", "()V"⟩
abbrev cX7_pairBit : ByteArray := prog_9_method_2_code
def yX7_pairBit : MethodName := ⟨RX7, "pairBit", "(II)J"⟩
abbrev cX7_list : ByteArray := prog_9_method_3_code
def yX7_list : MethodName := ⟨RX7, "list", "(I)V"⟩
abbrev cX7_listBehind : ByteArray := prog_9_method_4_code
def yX7_listBehind : MethodName := ⟨RX7, "listBehind", "(II)V"⟩
abbrev cX7_tiesLeast : ByteArray := prog_9_method_5_code
def yX7_tiesLeast : MethodName := ⟨RX7, "tiesLeast", "(II)Z"⟩
abbrev cX7_add : ByteArray := prog_9_method_6_code
def yX7_add : MethodName := ⟨RX7, "add", "(III)V"⟩
abbrev cX7_doneBy : ByteArray := prog_9_method_7_code
def yX7_doneBy : MethodName := ⟨RX7, "doneBy", "(I)I"⟩
abbrev cX7_firstOfMost : ByteArray := prog_9_method_8_code
def yX7_firstOfMost : MethodName := ⟨RX7, "firstOfMost", "()I"⟩
abbrev cX7_threeOf : ByteArray := prog_9_method_9_code
def yX7_threeOf : MethodName := ⟨RX7, "threeOf", "(II)I"⟩
abbrev cX7_rowsOf : ByteArray := prog_9_method_10_code
def yX7_rowsOf : MethodName := ⟨RX7, "rowsOf", "(I)J"⟩
abbrev cX7_rowsBehind : ByteArray := prog_9_method_11_code
def yX7_rowsBehind : MethodName := ⟨RX7, "rowsBehind", "([JIJI)J"⟩
def RX8 : String := "TiedThrees$Stubborn"
def TX8 : u_T := fun k => match k with
  | _ => ("", "", "", false)
def tyX8 : Nat → FieldType := fun k => match k with
  | _ => .int
abbrev wsX80 : List Cond := u_ws RX8 TX8 0
theorem nmX8 : ∀ a, a < 0 → ∀ b, b < 0 → a ≠ b → (TX8 a).2.1 ≠ (TX8 b).2.1 := by decide +kernel
theorem tyX8_ok : ∀ k, k < 0 → parseFieldDescriptor (TX8 k).2.2.1 = some (tyX8 k) := by decide +kernel
abbrev cX8_init : ByteArray := prog_10_method_1_code
def yX8_init : MethodName := ⟨RX8, "<init>", "()V"⟩
abbrev cX8_vote : ByteArray := prog_10_method_2_code
def yX8_vote : MethodName := ⟨RX8, "vote", "(LTiedThrees$Day;I)I"⟩
def RX9 : String := "TiedThrees$Town"
def TX9 : u_T := fun k => match k with
  | 0 => ("TiedThrees$Town", "kind", "[I", true)
  | 1 => ("TiedThrees$Town", "pace", "[I", true)
  | 2 => ("TiedThrees$Town", "errands", "[I", true)
  | 3 => ("TiedThrees$Town", "place", "[I", true)
  | 4 => ("TiedThrees$Town", "hour", "[I", true)
  | 5 => ("TiedThrees$Town", "places", "I", false)
  | _ => ("TiedThrees$Town", "people", "I", false)
def tyX9 : Nat → FieldType := fun k => match k with
  | 0 => .array .int
  | 1 => .array .int
  | 2 => .array .int
  | 3 => .array .int
  | 4 => .array .int
  | 5 => .int
  | _ => .int
abbrev wsX90 : List Cond := u_ws RX9 TX9 7
theorem nmX9 : ∀ a, a < 7 → ∀ b, b < 7 → a ≠ b → (TX9 a).2.1 ≠ (TX9 b).2.1 := by decide +kernel
theorem tyX9_ok : ∀ k, k < 7 → parseFieldDescriptor (TX9 k).2.2.1 = some (tyX9 k) := by decide +kernel
abbrev cX9_init : ByteArray := prog_11_method_1_code
def yX9_init : MethodName := ⟨RX9, "<init>", "()V"⟩
abbrev cX9_startOver : ByteArray := prog_11_method_2_code
def yX9_startOver : MethodName := ⟨RX9, "startOver", "(I)V"⟩
abbrev cX9_hasPerson : ByteArray := prog_11_method_3_code
def yX9_hasPerson : MethodName := ⟨RX9, "hasPerson", "(I)Z"⟩
abbrev cX9_hasPlace : ByteArray := prog_11_method_4_code
def yX9_hasPlace : MethodName := ⟨RX9, "hasPlace", "(I)Z"⟩
abbrev cX9_isGroup : ByteArray := prog_11_method_5_code
def yX9_isGroup : MethodName := ⟨RX9, "isGroup", "(I)Z"⟩
abbrev cX9_isThree : ByteArray := prog_11_method_6_code
def yX9_isThree : MethodName := ⟨RX9, "isThree", "(I)Z"⟩
abbrev cX9_isThreeOrNone : ByteArray := prog_11_method_7_code
def yX9_isThreeOrNone : MethodName := ⟨RX9, "isThreeOrNone", "(I)Z"⟩
abbrev cX9_addPerson : ByteArray := prog_11_method_8_code
def yX9_addPerson : MethodName := ⟨RX9, "addPerson", "(II)I"⟩
abbrev cX9_addErrand : ByteArray := prog_11_method_9_code
def yX9_addErrand : MethodName := ⟨RX9, "addErrand", "(III)I"⟩
abbrev cX9_errandsOfAll : ByteArray := prog_11_method_10_code
def yX9_errandsOfAll : MethodName := ⟨RX9, "errandsOfAll", "()I"⟩
abbrev cX9_isQuick : ByteArray := prog_11_method_11_code
def yX9_isQuick : MethodName := ⟨RX9, "isQuick", "(I)Z"⟩
abbrev cX9_onRing : ByteArray := prog_11_method_12_code
def yX9_onRing : MethodName := ⟨RX9, "onRing", "(I)I"⟩
abbrev cX9_become : ByteArray := prog_11_method_13_code
def yX9_become : MethodName := ⟨RX9, "become", "(LTiedThrees$Town;)V"⟩
abbrev cX9_digested : ByteArray := prog_11_method_14_code
def yX9_digested : MethodName := ⟨RX9, "digested", "(J)J"⟩
def RX10 : String := "TiedThrees$TownReader"
def TX10 : u_T := fun k => match k with
  | 0 => ("TiedThrees$TownReader", "town", "LTiedThrees$Town;", true)
  | 1 => ("TiedThrees$TownReader", "bytes", "[I", false)
  | 2 => ("TiedThrees$TownReader", "length", "I", false)
  | 3 => ("TiedThrees$TownReader", "pos", "I", false)
  | _ => ("TiedThrees$TownReader", "fault", "I", false)
def tyX10 : Nat → FieldType := fun k => match k with
  | 0 => .object "TiedThrees$Town"
  | 1 => .array .int
  | 2 => .int
  | 3 => .int
  | _ => .int
abbrev wsX100 : List Cond := u_ws RX10 TX10 5
theorem nmX10 : ∀ a, a < 5 → ∀ b, b < 5 → a ≠ b → (TX10 a).2.1 ≠ (TX10 b).2.1 := by decide +kernel
theorem tyX10_ok : ∀ k, k < 5 → parseFieldDescriptor (TX10 k).2.2.1 = some (tyX10 k) := by decide +kernel
abbrev cX10_init : ByteArray := prog_12_method_1_code
def yX10_init : MethodName := ⟨RX10, "<init>", "()V"⟩
abbrev cX10_readTown : ByteArray := prog_12_method_2_code
def yX10_readTown : MethodName := ⟨RX10, "readTown", "([II)I"⟩
abbrev cX10_readItem : ByteArray := prog_12_method_3_code
def yX10_readItem : MethodName := ⟨RX10, "readItem", "()V"⟩
abbrev cX10_readPlaces : ByteArray := prog_12_method_4_code
def yX10_readPlaces : MethodName := ⟨RX10, "readPlaces", "()V"⟩
abbrev cX10_readPerson : ByteArray := prog_12_method_5_code
def yX10_readPerson : MethodName := ⟨RX10, "readPerson", "()V"⟩
abbrev cX10_readErrand : ByteArray := prog_12_method_6_code
def yX10_readErrand : MethodName := ⟨RX10, "readErrand", "()V"⟩
abbrev cX10_skipBlanks : ByteArray := prog_12_method_7_code
def yX10_skipBlanks : MethodName := ⟨RX10, "skipBlanks", "()V"⟩
abbrev cX10_skipWord : ByteArray := prog_12_method_8_code
def yX10_skipWord : MethodName := ⟨RX10, "skipWord", "()V"⟩
abbrev cX10_isWord : ByteArray := prog_12_method_9_code
def yX10_isWord : MethodName := ⟨RX10, "isWord", "(ILjava/lang/String;)Z"⟩
abbrev cX10_isFigure : ByteArray := prog_12_method_10_code
def yX10_isFigure : MethodName := ⟨RX10, "isFigure", "(I)Z"⟩
abbrev cX10_number : ByteArray := prog_12_method_11_code
def yX10_number : MethodName := ⟨RX10, "number", "(II)I"⟩
abbrev cX10_end : ByteArray := prog_12_method_12_code
def yX10_end : MethodName := ⟨RX10, "end", "()V"⟩
def RX11 : String := "TiedThrees"
def TX11 : u_T := fun k => match k with
  | 0 => ("TiedThrees", "scene", "LTiedThrees$Scene;", true)
  | 1 => ("TiedThrees", "images", "[LTiedThrees$Scene;", true)
  | 2 => ("TiedThrees", "kept", "[Z", true)
  | 3 => ("TiedThrees", "text", "[I", true)
  | 4 => ("TiedThrees", "reader", "LTiedThrees$TownReader;", true)
  | 5 => ("TiedThrees", "walked", "LTiedThrees$Day;", true)
  | 6 => ("TiedThrees", "free", "LTiedThrees$FreeDay;", true)
  | 7 => ("TiedThrees", "splits", "LTiedThrees$Splits;", true)
  | 8 => ("TiedThrees", "lots", "[I", true)
  | 9 => ("TiedThrees", "textLength", "I", false)
  | 10 => ("TiedThrees", "above", "I", false)
  | 11 => ("TiedThrees", "below", "I", false)
  | 12 => ("TiedThrees", "bads", "I", false)
  | 13 => ("TiedThrees", "nos", "I", false)
  | _ => ("TiedThrees", "fulls", "I", false)
def tyX11 : Nat → FieldType := fun k => match k with
  | 0 => .object "TiedThrees$Scene"
  | 1 => .array (.object "TiedThrees$Scene")
  | 2 => .array .boolean
  | 3 => .array .int
  | 4 => .object "TiedThrees$TownReader"
  | 5 => .object "TiedThrees$Day"
  | 6 => .object "TiedThrees$FreeDay"
  | 7 => .object "TiedThrees$Splits"
  | 8 => .array .int
  | 9 => .int
  | 10 => .int
  | 11 => .int
  | 12 => .int
  | 13 => .int
  | _ => .int
abbrev wsX110 : List Cond := u_ws RX11 TX11 15
theorem nmX11 : ∀ a, a < 15 → ∀ b, b < 15 → a ≠ b → (TX11 a).2.1 ≠ (TX11 b).2.1 := by decide +kernel
theorem tyX11_ok : ∀ k, k < 15 → parseFieldDescriptor (TX11 k).2.2.1 = some (tyX11 k) := by decide +kernel
abbrev cX11_init : ByteArray := prog_1_method_1_code
def yX11_init : MethodName := ⟨RX11, "<init>", "()V"⟩
abbrev cX11_places : ByteArray := prog_1_method_2_code
def yX11_places : MethodName := ⟨RX11, "places", "(I)I"⟩
abbrev cX11_person : ByteArray := prog_1_method_3_code
def yX11_person : MethodName := ⟨RX11, "person", "(II)I"⟩
abbrev cX11_errand : ByteArray := prog_1_method_4_code
def yX11_errand : MethodName := ⟨RX11, "errand", "(III)I"⟩
abbrev cX11_drop : ByteArray := prog_1_method_5_code
def yX11_drop : MethodName := ⟨RX11, "drop", "(I)I"⟩
abbrev cX11_type : ByteArray := prog_1_method_6_code
def yX11_type : MethodName := ⟨RX11, "type", "(JI)I"⟩
abbrev cX11_clear : ByteArray := prog_1_method_7_code
def yX11_clear : MethodName := ⟨RX11, "clear", "()I"⟩
abbrev cX11_read : ByteArray := prog_1_method_8_code
def yX11_read : MethodName := ⟨RX11, "read", "()I"⟩
abbrev cX11_day : ByteArray := prog_1_method_9_code
def yX11_day : MethodName := ⟨RX11, "day", "(II)I"⟩
abbrev cX11_best : ByteArray := prog_1_method_10_code
def yX11_best : MethodName := ⟨RX11, "best", "(I)I"⟩
abbrev cX11_most : ByteArray := prog_1_method_11_code
def yX11_most : MethodName := ⟨RX11, "most", "(I)I"⟩
abbrev cX11_lot : ByteArray := prog_1_method_12_code
def yX11_lot : MethodName := ⟨RX11, "lot", "(II)I"⟩
abbrev cX11_rows : ByteArray := prog_1_method_13_code
def yX11_rows : MethodName := ⟨RX11, "rows", "(I)J"⟩
abbrev cX11_gain : ByteArray := prog_1_method_14_code
def yX11_gain : MethodName := ⟨RX11, "gain", "(II)I"⟩
abbrev cX11_leaves : ByteArray := prog_1_method_15_code
def yX11_leaves : MethodName := ⟨RX11, "leaves", "(III)I"⟩
abbrev cX11_fair : ByteArray := prog_1_method_16_code
def yX11_fair : MethodName := ⟨RX11, "fair", "(I)I"⟩
abbrev cX11_week : ByteArray := prog_1_method_17_code
def yX11_week : MethodName := ⟨RX11, "week", "(III)I"⟩
abbrev cX11_loose : ByteArray := prog_1_method_18_code
def yX11_loose : MethodName := ⟨RX11, "loose", "()I"⟩
abbrev cX11_knows : ByteArray := prog_1_method_19_code
def yX11_knows : MethodName := ⟨RX11, "knows", "(II)I"⟩
abbrev cX11_when : ByteArray := prog_1_method_20_code
def yX11_when : MethodName := ⟨RX11, "when", "(II)I"⟩
abbrev cX11_rope : ByteArray := prog_1_method_21_code
def yX11_rope : MethodName := ⟨RX11, "rope", "(III)I"⟩
abbrev cX11_sight : ByteArray := prog_1_method_22_code
def yX11_sight : MethodName := ⟨RX11, "sight", "(III)I"⟩
abbrev cX11_blind : ByteArray := prog_1_method_23_code
def yX11_blind : MethodName := ⟨RX11, "blind", "()I"⟩
abbrev cX11_which : ByteArray := prog_1_method_24_code
def yX11_which : MethodName := ⟨RX11, "which", "(II)I"⟩
abbrev cX11_part : ByteArray := prog_1_method_25_code
def yX11_part : MethodName := ⟨RX11, "part", "(I)J"⟩
abbrev cX11_image : ByteArray := prog_1_method_26_code
def yX11_image : MethodName := ⟨RX11, "image", "(I)I"⟩
abbrev cX11_from : ByteArray := prog_1_method_27_code
def yX11_from : MethodName := ⟨RX11, "from", "(I)I"⟩
abbrev cX11_status : ByteArray := prog_1_method_28_code
def yX11_status : MethodName := ⟨RX11, "status", "(I)I"⟩
abbrev cX11_count : ByteArray := prog_1_method_29_code
def yX11_count : MethodName := ⟨RX11, "count", "(I)I"⟩
abbrev cX11_digest : ByteArray := prog_1_method_30_code
def yX11_digest : MethodName := ⟨RX11, "digest", "()J"⟩
abbrev cX11_refusedBad : ByteArray := prog_1_method_31_code
def yX11_refusedBad : MethodName := ⟨RX11, "refusedBad", "(I)I"⟩
abbrev cX11_refusedNo : ByteArray := prog_1_method_32_code
def yX11_refusedNo : MethodName := ⟨RX11, "refusedNo", "(I)I"⟩
abbrev cX11_refusedFull : ByteArray := prog_1_method_33_code
def yX11_refusedFull : MethodName := ⟨RX11, "refusedFull", "()I"⟩
abbrev cX11_isKindAndPace : ByteArray := prog_1_method_34_code
def yX11_isKindAndPace : MethodName := ⟨RX11, "isKindAndPace", "(II)Z"⟩
abbrev cX11_isHour : ByteArray := prog_1_method_35_code
def yX11_isHour : MethodName := ⟨RX11, "isHour", "(I)Z"⟩
abbrev cX11_isAmount : ByteArray := prog_1_method_36_code
def yX11_isAmount : MethodName := ⟨RX11, "isAmount", "(I)Z"⟩
abbrev cX11_isStrength : ByteArray := prog_1_method_37_code
def yX11_isStrength : MethodName := ⟨RX11, "isStrength", "(I)Z"⟩
abbrev cX11_isImage : ByteArray := prog_1_method_38_code
def yX11_isImage : MethodName := ⟨RX11, "isImage", "(I)Z"⟩
abbrev cX11_isIn : ByteArray := prog_1_method_39_code
def yX11_isIn : MethodName := ⟨RX11, "isIn", "(II)Z"⟩
abbrev cX11_isAllInThrees : ByteArray := prog_1_method_40_code
def yX11_isAllInThrees : MethodName := ⟨RX11, "isAllInThrees", "()Z"⟩
abbrev cX11_walkAllThrees : ByteArray := prog_1_method_41_code
def yX11_walkAllThrees : MethodName := ⟨RX11, "walkAllThrees", "()V"⟩
abbrev cX11_drawLots : ByteArray := prog_1_method_42_code
def yX11_drawLots : MethodName := ⟨RX11, "drawLots", "(J)V"⟩
abbrev cX11_nthOf : ByteArray := prog_1_method_43_code
def yX11_nthOf : MethodName := ⟨RX11, "nthOf", "(II)I"⟩
abbrev cX11_threeWith : ByteArray := prog_1_method_44_code
def yX11_threeWith : MethodName := ⟨RX11, "threeWith", "(I)I"⟩
abbrev cX11_keepSixths : ByteArray := prog_1_method_45_code
def yX11_keepSixths : MethodName := ⟨RX11, "keepSixths", "(I)V"⟩
abbrev cX11_ropeEnd : ByteArray := prog_1_method_46_code
def yX11_ropeEnd : MethodName := ⟨RX11, "ropeEnd", "(III)I"⟩
abbrev cX11_pullLoss : ByteArray := prog_1_method_47_code
def yX11_pullLoss : MethodName := ⟨RX11, "pullLoss", "(II)I"⟩
abbrev cX11_mayHaveBeen : ByteArray := prog_1_method_48_code
def yX11_mayHaveBeen : MethodName := ⟨RX11, "mayHaveBeen", "(II)Z"⟩
abbrev cX11_howMany : ByteArray := prog_1_method_49_code
def yX11_howMany : MethodName := ⟨RX11, "howMany", "(I)I"⟩
def RX12 : String := "TiedThreesModel"
def TX12 : u_T := fun k => match k with
  | 0 => ("TiedThreesModel", "now", "[I", true)
  | 1 => ("TiedThreesModel", "kept", "[I", true)
  | 2 => ("TiedThreesModel", "isKept", "[Z", true)
  | 3 => ("TiedThreesModel", "refused", "[I", true)
  | 4 => ("TiedThreesModel", "above", "J", false)
  | 5 => ("TiedThreesModel", "below", "J", false)
  | 6 => ("TiedThreesModel", "who", "[I", true)
  | 7 => ("TiedThreesModel", "did", "[I", true)
  | 8 => ("TiedThreesModel", "ends", "[I", true)
  | 9 => ("TiedThreesModel", "at", "I", false)
  | 10 => ("TiedThreesModel", "can", "[Z", true)
  | 11 => ("TiedThreesModel", "canThen", "[Z", true)
  | 12 => ("TiedThreesModel", "threes", "[I", true)
  | 13 => ("TiedThreesModel", "dayOf", "[I", true)
  | 14 => ("TiedThreesModel", "bestThrees", "[I", true)
  | 15 => ("TiedThreesModel", "pairsOf", "[J", true)
  | 16 => ("TiedThreesModel", "ways", "I", false)
  | 17 => ("TiedThreesModel", "oneHas", "[I", true)
  | 18 => ("TiedThreesModel", "twoHas", "[I", true)
  | 19 => ("TiedThreesModel", "turns", "[I", true)
  | 20 => ("TiedThreesModel", "bytes", "[I", true)
  | 21 => ("TiedThreesModel", "bytesLong", "I", false)
  | 22 => ("TiedThreesModel", "tokenAt", "I", false)
  | 23 => ("TiedThreesModel", "tokenLong", "I", false)
  | 24 => ("TiedThreesModel", "token", "I", false)
  | 25 => ("TiedThreesModel", "value", "I", false)
  | 26 => ("TiedThreesModel", "next", "[I", true)
  | 27 => ("TiedThreesModel", "isBusy", "Z", false)
  | _ => ("TiedThreesModel", "taken", "I", false)
def tyX12 : Nat → FieldType := fun k => match k with
  | 0 => .array .int
  | 1 => .array .int
  | 2 => .array .boolean
  | 3 => .array .int
  | 4 => .long
  | 5 => .long
  | 6 => .array .int
  | 7 => .array .int
  | 8 => .array .int
  | 9 => .int
  | 10 => .array .boolean
  | 11 => .array .boolean
  | 12 => .array .int
  | 13 => .array .int
  | 14 => .array .int
  | 15 => .array .long
  | 16 => .int
  | 17 => .array .int
  | 18 => .array .int
  | 19 => .array .int
  | 20 => .array .int
  | 21 => .int
  | 22 => .int
  | 23 => .int
  | 24 => .int
  | 25 => .int
  | 26 => .array .int
  | 27 => .boolean
  | _ => .int
abbrev wsX120 : List Cond := u_ws RX12 TX12 29
theorem nmX12 : ∀ a, a < 29 → ∀ b, b < 29 → a ≠ b → (TX12 a).2.1 ≠ (TX12 b).2.1 := by decide +kernel
theorem tyX12_ok : ∀ k, k < 29 → parseFieldDescriptor (TX12 k).2.2.1 = some (tyX12 k) := by decide +kernel
abbrev cX12_init : ByteArray := prog_14_method_1_code
def yX12_init : MethodName := ⟨RX12, "<init>", "()V"⟩
abbrev cX12_in : ByteArray := prog_14_method_3_code
def yX12_in : MethodName := ⟨RX12, "in", "(JJJ)Z"⟩
abbrev cX12_bad : ByteArray := prog_14_method_4_code
def yX12_bad : MethodName := ⟨RX12, "bad", "(I)I"⟩
abbrev cX12_no : ByteArray := prog_14_method_5_code
def yX12_no : MethodName := ⟨RX12, "no", "(I)I"⟩
abbrev cX12_full : ByteArray := prog_14_method_6_code
def yX12_full : MethodName := ⟨RX12, "full", "()I"⟩
abbrev cX12_bits : ByteArray := prog_14_method_7_code
def yX12_bits : MethodName := ⟨RX12, "bits", "(I)I"⟩
abbrev cX12_ring : ByteArray := prog_14_method_8_code
def yX12_ring : MethodName := ⟨RX12, "ring", "()I"⟩
abbrev cX12_people : ByteArray := prog_14_method_9_code
def yX12_people : MethodName := ⟨RX12, "people", "()I"⟩
abbrev cX12_isOne : ByteArray := prog_14_method_10_code
def yX12_isOne : MethodName := ⟨RX12, "isOne", "(I)Z"⟩
abbrev cX12_isThree : ByteArray := prog_14_method_11_code
def yX12_isThree : MethodName := ⟨RX12, "isThree", "(I)Z"⟩
abbrev cX12_of : ByteArray := prog_14_method_12_code
def yX12_of : MethodName := ⟨RX12, "of", "(II)I"⟩
abbrev cX12_placeOf : ByteArray := prog_14_method_13_code
def yX12_placeOf : MethodName := ⟨RX12, "placeOf", "(II)I"⟩
abbrev cX12_hourOf : ByteArray := prog_14_method_14_code
def yX12_hourOf : MethodName := ⟨RX12, "hourOf", "(II)I"⟩
abbrev cX12_places : ByteArray := prog_14_method_15_code
def yX12_places : MethodName := ⟨RX12, "places", "(I)I"⟩
abbrev cX12_layPerson : ByteArray := prog_14_method_16_code
def yX12_layPerson : MethodName := ⟨RX12, "layPerson", "([III)V"⟩
abbrev cX12_person : ByteArray := prog_14_method_17_code
def yX12_person : MethodName := ⟨RX12, "person", "(II)I"⟩
abbrev cX12_layErrand : ByteArray := prog_14_method_18_code
def yX12_layErrand : MethodName := ⟨RX12, "layErrand", "([IIII)V"⟩
abbrev cX12_errand : ByteArray := prog_14_method_19_code
def yX12_errand : MethodName := ⟨RX12, "errand", "(III)I"⟩
abbrev cX12_drop : ByteArray := prog_14_method_20_code
def yX12_drop : MethodName := ⟨RX12, "drop", "(I)I"⟩
abbrev cX12_takeThree : ByteArray := prog_14_method_21_code
def yX12_takeThree : MethodName := ⟨RX12, "takeThree", "(I)V"⟩
abbrev cX12_isOpen : ByteArray := prog_14_method_22_code
def yX12_isOpen : MethodName := ⟨RX12, "isOpen", "(III)Z"⟩
abbrev cX12_firstOpen : ByteArray := prog_14_method_23_code
def yX12_firstOpen : MethodName := ⟨RX12, "firstOpen", "(II)I"⟩
abbrev cX12_plainVote : ByteArray := prog_14_method_24_code
def yX12_plainVote : MethodName := ⟨RX12, "plainVote", "(II)I"⟩
abbrev cX12_hastyVote : ByteArray := prog_14_method_25_code
def yX12_hastyVote : MethodName := ⟨RX12, "hastyVote", "(II)I"⟩
abbrev cX12_kindVote : ByteArray := prog_14_method_26_code
def yX12_kindVote : MethodName := ⟨RX12, "kindVote", "(II)I"⟩
abbrev cX12_vote : ByteArray := prog_14_method_27_code
def yX12_vote : MethodName := ⟨RX12, "vote", "(II)I"⟩
abbrev cX12_isFast : ByteArray := prog_14_method_28_code
def yX12_isFast : MethodName := ⟨RX12, "isFast", "()Z"⟩
abbrev cX12_stepTo : ByteArray := prog_14_method_29_code
def yX12_stepTo : MethodName := ⟨RX12, "stepTo", "(I)V"⟩
abbrev cX12_doAll : ByteArray := prog_14_method_30_code
def yX12_doAll : MethodName := ⟨RX12, "doAll", "(I)I"⟩
abbrev cX12_goDay : ByteArray := prog_14_method_31_code
def yX12_goDay : MethodName := ⟨RX12, "goDay", "(I)I"⟩
abbrev cX12_day : ByteArray := prog_14_method_32_code
def yX12_day : MethodName := ⟨RX12, "day", "(II)I"⟩
abbrev cX12_takeDone : ByteArray := prog_14_method_33_code
def yX12_takeDone : MethodName := ⟨RX12, "takeDone", "(I)V"⟩
abbrev cX12_doneNow : ByteArray := prog_14_method_34_code
def yX12_doneNow : MethodName := ⟨RX12, "doneNow", "()I"⟩
abbrev cX12_goOn : ByteArray := prog_14_method_35_code
def yX12_goOn : MethodName := ⟨RX12, "goOn", "(III)V"⟩
abbrev cX12_best : ByteArray := prog_14_method_36_code
def yX12_best : MethodName := ⟨RX12, "best", "(I)I"⟩
abbrev cX12_areThrees : ByteArray := prog_14_method_37_code
def yX12_areThrees : MethodName := ⟨RX12, "areThrees", "()Z"⟩
abbrev cX12_least : ByteArray := prog_14_method_38_code
def yX12_least : MethodName := ⟨RX12, "least", "(I)I"⟩
abbrev cX12_nextThree : ByteArray := prog_14_method_39_code
def yX12_nextThree : MethodName := ⟨RX12, "nextThree", "(II)I"⟩
abbrev cX12_nextAll : ByteArray := prog_14_method_40_code
def yX12_nextAll : MethodName := ⟨RX12, "nextAll", "()Z"⟩
abbrev cX12_noThrees : ByteArray := prog_14_method_41_code
def yX12_noThrees : MethodName := ⟨RX12, "noThrees", "()V"⟩
abbrev cX12_most : ByteArray := prog_14_method_42_code
def yX12_most : MethodName := ⟨RX12, "most", "(I)I"⟩
abbrev cX12_lot : ByteArray := prog_14_method_43_code
def yX12_lot : MethodName := ⟨RX12, "lot", "(II)I"⟩
abbrev cX12_pair : ByteArray := prog_14_method_44_code
def yX12_pair : MethodName := ⟨RX12, "pair", "(II)I"⟩
abbrev cX12_findWays : ByteArray := prog_14_method_45_code
def yX12_findWays : MethodName := ⟨RX12, "findWays", "()V"⟩
abbrev cX12_rows : ByteArray := prog_14_method_46_code
def yX12_rows : MethodName := ⟨RX12, "rows", "(I)J"⟩
abbrev cX12_more : ByteArray := prog_14_method_47_code
def yX12_more : MethodName := ⟨RX12, "more", "(JI)J"⟩
abbrev cX12_last : ByteArray := prog_14_method_48_code
def yX12_last : MethodName := ⟨RX12, "last", "(J)J"⟩
abbrev cX12_gain : ByteArray := prog_14_method_49_code
def yX12_gain : MethodName := ⟨RX12, "gain", "(II)I"⟩
abbrev cX12_gainOf : ByteArray := prog_14_method_50_code
def yX12_gainOf : MethodName := ⟨RX12, "gainOf", "(I)I"⟩
abbrev cX12_leaves : ByteArray := prog_14_method_51_code
def yX12_leaves : MethodName := ⟨RX12, "leaves", "(III)I"⟩
abbrev cX12_tell : ByteArray := prog_14_method_52_code
def yX12_tell : MethodName := ⟨RX12, "tell", "(JJ)I"⟩
abbrev cX12_fair : ByteArray := prog_14_method_53_code
def yX12_fair : MethodName := ⟨RX12, "fair", "(I)I"⟩
abbrev cX12_week : ByteArray := prog_14_method_54_code
def yX12_week : MethodName := ⟨RX12, "week", "(III)I"⟩
abbrev cX12_loose : ByteArray := prog_14_method_55_code
def yX12_loose : MethodName := ⟨RX12, "loose", "()I"⟩
abbrev cX12_known : ByteArray := prog_14_method_56_code
def yX12_known : MethodName := ⟨RX12, "known", "(II)I"⟩
abbrev cX12_isSet : ByteArray := prog_14_method_57_code
def yX12_isSet : MethodName := ⟨RX12, "isSet", "(I)Z"⟩
abbrev cX12_knows : ByteArray := prog_14_method_58_code
def yX12_knows : MethodName := ⟨RX12, "knows", "(II)I"⟩
abbrev cX12_when : ByteArray := prog_14_method_59_code
def yX12_when : MethodName := ⟨RX12, "when", "(II)I"⟩
abbrev cX12_ropeAt : ByteArray := prog_14_method_60_code
def yX12_ropeAt : MethodName := ⟨RX12, "ropeAt", "(III)I"⟩
abbrev cX12_layEnd : ByteArray := prog_14_method_61_code
def yX12_layEnd : MethodName := ⟨RX12, "layEnd", "(III)V"⟩
abbrev cX12_layRope : ByteArray := prog_14_method_62_code
def yX12_layRope : MethodName := ⟨RX12, "layRope", "(III)V"⟩
abbrev cX12_rope : ByteArray := prog_14_method_63_code
def yX12_rope : MethodName := ⟨RX12, "rope", "(III)I"⟩
abbrev cX12_sight : ByteArray := prog_14_method_64_code
def yX12_sight : MethodName := ⟨RX12, "sight", "(III)I"⟩
abbrev cX12_blind : ByteArray := prog_14_method_65_code
def yX12_blind : MethodName := ⟨RX12, "blind", "()I"⟩
abbrev cX12_isSeen : ByteArray := prog_14_method_66_code
def yX12_isSeen : MethodName := ⟨RX12, "isSeen", "(II)Z"⟩
abbrev cX12_which : ByteArray := prog_14_method_67_code
def yX12_which : MethodName := ⟨RX12, "which", "(II)I"⟩
abbrev cX12_type : ByteArray := prog_14_method_68_code
def yX12_type : MethodName := ⟨RX12, "type", "(JI)I"⟩
abbrev cX12_clear : ByteArray := prog_14_method_69_code
def yX12_clear : MethodName := ⟨RX12, "clear", "()I"⟩
abbrev cX12_isSmall : ByteArray := prog_14_method_70_code
def yX12_isSmall : MethodName := ⟨RX12, "isSmall", "(I)Z"⟩
abbrev cX12_isFigure : ByteArray := prog_14_method_71_code
def yX12_isFigure : MethodName := ⟨RX12, "isFigure", "(I)Z"⟩
abbrev cX12_look : ByteArray := prog_14_method_72_code
def yX12_look : MethodName := ⟨RX12, "look", "(I)V"⟩
abbrev cX12_goNext : ByteArray := prog_14_method_73_code
def yX12_goNext : MethodName := ⟨RX12, "goNext", "()V"⟩
abbrev cX12_isWord : ByteArray := prog_14_method_74_code
def yX12_isWord : MethodName := ⟨RX12, "isWord", "(IIIIII)Z"⟩
abbrev cX12_takes : ByteArray := prog_14_method_75_code
def yX12_takes : MethodName := ⟨RX12, "takes", "(II)Z"⟩
abbrev cX12_readsPerson : ByteArray := prog_14_method_76_code
def yX12_readsPerson : MethodName := ⟨RX12, "readsPerson", "()Z"⟩
abbrev cX12_readsErrand : ByteArray := prog_14_method_77_code
def yX12_readsErrand : MethodName := ⟨RX12, "readsErrand", "()Z"⟩
abbrev cX12_readsItem : ByteArray := prog_14_method_78_code
def yX12_readsItem : MethodName := ⟨RX12, "readsItem", "()Z"⟩
abbrev cX12_read : ByteArray := prog_14_method_79_code
def yX12_read : MethodName := ⟨RX12, "read", "()I"⟩
abbrev cX12_part : ByteArray := prog_14_method_80_code
def yX12_part : MethodName := ⟨RX12, "part", "(I)J"⟩
abbrev cX12_image : ByteArray := prog_14_method_81_code
def yX12_image : MethodName := ⟨RX12, "image", "(I)I"⟩
abbrev cX12_from : ByteArray := prog_14_method_82_code
def yX12_from : MethodName := ⟨RX12, "from", "(I)I"⟩
abbrev cX12_status : ByteArray := prog_14_method_83_code
def yX12_status : MethodName := ⟨RX12, "status", "(I)I"⟩
abbrev cX12_allErrands : ByteArray := prog_14_method_84_code
def yX12_allErrands : MethodName := ⟨RX12, "allErrands", "()I"⟩
abbrev cX12_counted : ByteArray := prog_14_method_85_code
def yX12_counted : MethodName := ⟨RX12, "counted", "(I)I"⟩
abbrev cX12_count : ByteArray := prog_14_method_86_code
def yX12_count : MethodName := ⟨RX12, "count", "(I)I"⟩
abbrev cX12_sums : ByteArray := prog_14_method_87_code
def yX12_sums : MethodName := ⟨RX12, "sums", "(JII)J"⟩
abbrev cX12_digest : ByteArray := prog_14_method_88_code
def yX12_digest : MethodName := ⟨RX12, "digest", "()J"⟩
def RJ6 : String := "java/lang/Integer"
abbrev cJ6_bitCount_0f7a4 : ByteArray := prog_15_method_49_code
def yJ6_bitCount_0f7a4 : MethodName := ⟨RJ6, "bitCount", "(I)I"⟩
def RJ9 : String := "java/lang/Math"
abbrev cJ9_floorMod_7cf53 : ByteArray := prog_16_method_50_code
def yJ9_floorMod_7cf53 : MethodName := ⟨RJ9, "floorMod", "(II)I"⟩
abbrev cJ9_max_7cf53 : ByteArray := prog_16_method_65_code
def yJ9_max_7cf53 : MethodName := ⟨RJ9, "max", "(II)I"⟩
abbrev cJ9_min_7cf53 : ByteArray := prog_16_method_69_code
def yJ9_min_7cf53 : MethodName := ⟨RJ9, "min", "(II)I"⟩
def RJ0 : String := "java/lang/String"
abbrev cJ0_length_8abf5 : ByteArray := prog_17_method_54_code
def yJ0_length_8abf5 : MethodName := ⟨RJ0, "length", "()I"⟩
abbrev cJ0_charAt_5068e : ByteArray := prog_17_method_56_code
def yJ0_charAt_5068e : MethodName := ⟨RJ0, "charAt", "(I)C"⟩
abbrev cJ0_coder_7d493 : ByteArray := prog_17_method_152_code
def yJ0_coder_7d493 : MethodName := ⟨RJ0, "coder", "()B"⟩
abbrev cJ0_isLatin1_aae02 : ByteArray := prog_17_method_154_code
def yJ0_isLatin1_aae02 : MethodName := ⟨RJ0, "isLatin1", "()Z"⟩
abbrev cJ0_checkIndex_df160 : ByteArray := prog_17_method_155_code
def yJ0_checkIndex_df160 : MethodName := ⟨RJ0, "checkIndex", "(II)V"⟩
def RJ1 : String := "java/lang/StringLatin1"
abbrev cJ1_charAt_3b067 : ByteArray := prog_18_method_2_code
def yJ1_charAt_3b067 : MethodName := ⟨RJ1, "charAt", "([BI)C"⟩
def RJ2 : String := "java/lang/StringUTF16"
abbrev cJ2_getChar_3b067 : ByteArray := prog_19_method_5_code
def yJ2_getChar_3b067 : MethodName := ⟨RJ2, "getChar", "([BI)C"⟩
abbrev cJ2_length_9d52b : ByteArray := prog_19_method_6_code
def yJ2_length_9d52b : MethodName := ⟨RJ2, "length", "([B)I"⟩
abbrev cJ2_charAt_3b067 : ByteArray := prog_19_method_83_code
def yJ2_charAt_3b067 : MethodName := ⟨RJ2, "charAt", "([BI)C"⟩
abbrev cJ2_checkIndex_2214a : ByteArray := prog_19_method_91_code
def yJ2_checkIndex_2214a : MethodName := ⟨RJ2, "checkIndex", "(I[B)V"⟩
def RJ10 : String := "java/lang/System"
def RJ7 : String := "java/util/Arrays"
abbrev cJ7_fill_53178 : ByteArray := prog_21_method_103_code
def yJ7_fill_53178 : MethodName := ⟨RJ7, "fill", "([II)V"⟩
def RJ3 : String := "jdk/internal/util/Preconditions"
abbrev cJ3_checkIndex_8e157 : ByteArray := prog_22_method_11_code
def yJ3_checkIndex_8e157 : MethodName := ⟨RJ3, "checkIndex", "(IILjava/util/function/BiFunction;)I"⟩
def RL : String := "TiedThreesLaw"
abbrev cL_law : ByteArray := code
def yL_law : MethodName := ⟨RL, "law", "([I)Z"⟩
abbrev vwCl : List vw_C := [(RX0, TX0, 10), (RX1, TX1, 4), (RX2, TX2, 0), (RX3, TX3, 0), (RX4, TX4, 0), (RX5, TX5, 0), (RX6, TX6, 8), (RX7, TX7, 6), (RX8, TX8, 0), (RX9, TX9, 7), (RX10, TX10, 5), (RX11, TX11, 15), (RX12, TX12, 29)]
/-- the object graph: of each address its class and its fields (0 int, 1 long, 2 a reference that is told anew, k + 3 the reference to k), or its array (100 int, 101 boolean, 102 long with its length; 103, 104 of references) -/
def SK : List (Nat × List Nat) := [(11, [28, 4, 5, 6, 7, 34, 46, 15, 21, 0, 0, 0, 0, 0, 0]), (103, [53, 65]), (101, [2]), (100, [250]), (10, [9, 2, 0, 0, 0]), (100, [0]), (9, [10, 11, 12, 13, 14, 0, 0]), (100, [9]), (100, [9]), (100, [9]), (100, [36]), (100, [36]), (7, [16, 17, 18, 19, 20, 0]), (100, [84]), (102, [512]), (100, [512]), (100, [840]), (102, [280]), (100, [3]), (9, [23, 24, 25, 26, 27, 0, 0]), (100, [9]), (100, [9]), (100, [9]), (100, [36]), (100, [36]), (6, [22, 29, 30, 31, 32, 33, 0, 0]), (100, [8]), (100, [18]), (100, [5]), (100, [5]), (100, [5]), (0, [22, 35, 36, 37, 38, 39, 40, 0, 0, 0]), (104, [38, 39, 40, 41, 42]), (100, [3]), (100, [3]), (101, [3]), (101, [36]), (100, [10]), (5, []), (2, []), (8, []), (4, []), (3, []), (1, [22, 47, 2, 2]), (100, [60]), (100, [384]), (100, [384]), (9, [51, 52, 53, 54, 55, 0, 0]), (100, [9]), (100, [9]), (100, [9]), (100, [36]), (100, [36]), (6, [50, 57, 58, 59, 60, 61, 0, 0]), (100, [8]), (100, [18]), (100, [5]), (100, [5]), (100, [5]), (9, [63, 64, 65, 66, 67, 0, 0]), (100, [9]), (100, [9]), (100, [9]), (100, [36]), (100, [36]), (6, [62, 69, 70, 71, 72, 73, 0, 0]), (100, [8]), (100, [18]), (100, [5]), (100, [5]), (100, [5]), (12, [75, 76, 77, 78, 1, 1, 79, 80, 81, 0, 82, 83, 84, 85, 86, 87, 0, 88, 89, 90, 91, 0, 0, 0, 0, 0, 92, 0, 0]), (100, [143]), (100, [286]), (101, [2]), (100, [3]), (100, [3]), (100, [3]), (100, [10]), (101, [24576]), (101, [24576]), (100, [3]), (100, [512]), (100, [3]), (102, [280]), (100, [7442]), (100, [7442]), (100, [7442]), (100, [250]), (100, [101])]
end
section
/-! THE LAYER BETWEEN: a state of the system is three tables of numbers (ints, longs, references) by address and place; 'Ev' is the walk of a method over such states, 'Cal' a method's contract. Each row below is one instruction. -/
abbrev Sg : Type := (Nat → Nat → Int32) × (Nat → Nat → Int64) × (Nat → Nat → Nat)
def gI (σ : Sg) (k i : Nat) : Int32 := σ.1 k i
def gL (σ : Sg) (k i : Nat) : Int64 := σ.2.1 k i
def gR (σ : Sg) (k i : Nat) : Nat := σ.2.2 k i
def pI (σ : Sg) (k i : Nat) (v : Int32) : Sg := (fun a j => if a = k ∧ j = i then v else σ.1 a j, σ.2)
def pL (σ : Sg) (k i : Nat) (v : Int64) : Sg := (σ.1, fun a j => if a = k ∧ j = i then v else σ.2.1 a j, σ.2.2)
def pR (σ : Sg) (k i : Nat) (v : Nat) : Sg := (σ.1, σ.2.1, fun a j => if a = k ∧ j = i then v else σ.2.2 a j)
/-- from dp on, n numbers of row k are those of row k0 from sp on -/
def cpI (σ : Sg) (k0 sp k dp n : Nat) : Sg := (fun a j => if a = k ∧ dp ≤ j ∧ j < dp + n then σ.1 k0 (sp + (j - dp)) else σ.1 a j, σ.2)
theorem gI_pI (σ : Sg) (k i : Nat) (v : Int32) (a j : Nat) : gI (pI σ k i v) a j = if a = k ∧ j = i then v else gI σ a j := rfl
theorem gL_pL (σ : Sg) (k i : Nat) (v : Int64) (a j : Nat) : gL (pL σ k i v) a j = if a = k ∧ j = i then v else gL σ a j := rfl
theorem gR_pR (σ : Sg) (k i : Nat) (v : Nat) (a j : Nat) : gR (pR σ k i v) a j = if a = k ∧ j = i then v else gR σ a j := rfl
theorem gI_pL (σ : Sg) (k i : Nat) (v : Int64) (a j : Nat) : gI (pL σ k i v) a j = gI σ a j := rfl
theorem gI_pR (σ : Sg) (k i : Nat) (v : Nat) (a j : Nat) : gI (pR σ k i v) a j = gI σ a j := rfl
theorem gL_pI (σ : Sg) (k i : Nat) (v : Int32) (a j : Nat) : gL (pI σ k i v) a j = gL σ a j := rfl
theorem gL_pR (σ : Sg) (k i : Nat) (v : Nat) (a j : Nat) : gL (pR σ k i v) a j = gL σ a j := rfl
theorem gR_pI (σ : Sg) (k i : Nat) (v : Int32) (a j : Nat) : gR (pI σ k i v) a j = gR σ a j := rfl
theorem gR_pL (σ : Sg) (k i : Nat) (v : Int64) (a j : Nat) : gR (pL σ k i v) a j = gR σ a j := rfl
theorem gI_cpI (σ : Sg) (k0 sp k dp n a j : Nat) : gI (cpI σ k0 sp k dp n) a j = if a = k ∧ dp ≤ j ∧ j < dp + n then gI σ k0 (sp + (j - dp)) else gI σ a j := rfl
theorem gL_cpI (σ : Sg) (k0 sp k dp n a j : Nat) : gL (cpI σ k0 sp k dp n) a j = gL σ a j := rfl
theorem gR_cpI (σ : Sg) (k0 sp k dp n a j : Nat) : gR (cpI σ k0 sp k dp n) a j = gR σ a j := rfl
/-- the index is in the row -/
def inB (i : Int32) (n : Nat) : Bool := decide (0 ≤ i) && decide (i.toNatClampNeg < n)
theorem inB_vp {i : Int32} {n : Nat} (h : inB i n = true) : vp_in i n := by
  simp only [inB, Bool.and_eq_true, decide_eq_true_eq] at h
  intro q
  rcases q with q | q
  · exact absurd h.1 (by rw [Int32.le_iff_toInt_le]; rw [Int32.lt_iff_toInt_lt] at q; omega)
  · omega
/-! small rows for what a function over Option says -/
theorem oGuard {α : Type} {c : Prop} {dc : Decidable c} {x : Option α} {y : α} (h : (@ite _ c dc x none) = some y) : c ∧ x = some y := by
  by_cases hc : c
  · rw [if_pos hc] at h; exact ⟨hc, h⟩
  · rw [if_neg hc] at h; cases h
theorem oPos {α : Type} {c : Prop} {dc : Decidable c} {x z y : α} (h : (@ite _ c dc x z) = y) (hc : c) : x = y := by rw [if_pos hc] at h; exact h
theorem oNeg {α : Type} {c : Prop} {dc : Decidable c} {x z y : α} (h : (@ite _ c dc x z) = y) (hc : ¬ c) : z = y := by rw [if_neg hc] at h; exact h
theorem oBind {α β : Type} {x : Option α} {f : α → Option β} {y : β} (h : x.bind f = some y) : ∃ q, x = some q ∧ f q = some y := Option.bind_eq_some_iff.mp h
theorem oLet {α β : Type} {v x : α} {f : α → β} {y : β} (h : (let z := v; f z) = y) (e : x = v) : f x = y := by subst e; exact h
/-! the words -/
abbrev MI : Type := MethodName × ByteArray × Nat × Option FieldType
def tbl : List Cond := lw_tbl.filter goodWord
def isNst (w : Cond) : Bool := match w with
  | .fieldLinkNest .. => true
  | .methodLinkNest .. => true
  | _ => false
def nst : List Cond := lw_tbl.filter isNst
theorem tbl_in {w : Cond} (i : Nat) (h : lw_tbl[i]? = some w) (hg : goodWord w = true) : w ∈ tbl := List.mem_filter.mpr ⟨List.mem_of_getElem? h, hg⟩
theorem nst_in {w : Cond} (i : Nat) (h : lw_tbl[i]? = some w) (hg : isNst w = true) : w ∈ nst := List.mem_filter.mpr ⟨List.mem_of_getElem? h, hg⟩
theorem tbl_good {w : Cond} (h : w ∈ tbl) : goodWord w = true := (List.mem_filter.mp h).2
abbrev codeW (M : MI) : Cond := .code M.1 M.2.1 M.2.2.1 M.2.2.2
def wz (M : MI) : List Cond := codeW M :: tbl
theorem goodT {big ws : List Cond} (hb : ∀ w ∈ tbl, w ∈ big) (h : ∀ w ∈ ws, w ∈ tbl) : GoodIn big ws := fun w hw => ⟨hb w (h w hw), good_of_word (tbl_good (h w hw))⟩
theorem wz_tbl {M : MI} (h : codeW M ∈ tbl) : ∀ w ∈ wz M, w ∈ tbl := fun w hw => by
  rcases List.mem_cons.mp hw with rfl | hw
  · exact h
  · exact hw
theorem nst_same {u U : State} (hv : u.vm = U.vm) (h : ∀ w ∈ nst, va_Nw w u) : ∀ w ∈ nst, va_Nw w U := fun w hw => by
  have h1 := (List.mem_filter.mp hw).2
  have h2 := h w hw
  cases w <;> first | exact va_Nw.same rfl hv h2 | exact absurd h1 Bool.false_ne_true
theorem nst_warm {s U : State} (hW : s.WarmedH U.vm) (h : ∀ w ∈ nst, va_Nw w s) : ∀ w ∈ nst, va_Nw w U := fun w hw => by
  have h1 := (List.mem_filter.mp hw).2
  have h2 := h w hw
  cases w <;> first | exact va_Nw.warmF hW h2 | exact va_Nw.warmM hW h2 | exact absurd h1 Bool.false_ne_true
/-! the system's cells -/
def cv (ad : Nat → Nat) : Value → Value
  | .ref k => .ref (ad k)
  | v => v
theorem cv_cat (ad : Nat → Nat) (v : Value) : (cv ad v).category = v.category := by cases v <;> rfl
/-- a field as a value of the layer -/
def aval (σ : Sg) (k i c : Nat) : Value := match c with
  | 0 => .int (gI σ k i)
  | 1 => .long (gL σ k i)
  | 2 => .ref (gR σ k i)
  | c + 3 => .ref c
def ent (tc : Nat → ClassId) (ad : Nat → Nat) (σ : Sg) (k : Nat) (s : Nat × List Nat) : va_E :=
  match s.1 with
  | 100 => .inl (tc 0, s.2.headD 0, .inl (gI σ k))
  | 101 => .inl (tc 1, s.2.headD 0, .inl (gI σ k))
  | 102 => .inl (tc 2, s.2.headD 0, .inr (.inl (gL σ k)))
  | 103 => .inl (tc 3, s.2.length, .inr (.inr (.inr (.inr (fun j => (s.2[j]?).map ad)))))
  | 104 => .inl (tc 4, s.2.length, .inr (.inr (.inr (.inr (fun j => (s.2[j]?).map ad)))))
  | _ => .inr (s.1, s.2.mapIdx (fun i c => cv ad (aval σ k i c)))
def wsO (tc : Nat → ClassId) (ad : Nat → Nat) (σ : Sg) : va_W := SK.mapIdx (fun k s => (ad k, ent tc ad σ k s))
def tysO (tc : Nat → ClassId) : List (ClassId × FieldType) := [(tc 0, .int), (tc 1, .boolean), (tc 2, .long), (tc 3, .object RX6), (tc 4, .object RX5)]
def Ao (ad : Nat → Nat) : Nat → Prop := fun q => ∃ k, k < SK.length ∧ q = ad k
def Inj (ad : Nat → Nat) : Prop := ∀ i j, i < SK.length → j < SK.length → ad i = ad j → i = j
theorem wsO_at (tc : Nat → ClassId) (ad : Nat → Nat) (σ : Sg) {k : Nat} {s : Nat × List Nat} (h : SK[k]? = some s) : (wsO tc ad σ)[k]? = some (ad k, ent tc ad σ k s) := by
  rw [wsO, List.getElem?_mapIdx, h]; rfl
theorem wsO_inv {tc : Nat → ClassId} {ad : Nat → Nat} {σ : Sg} {k : Nat} {q : Nat × va_E} (h : (wsO tc ad σ)[k]? = some q) : k < SK.length ∧ q.1 = ad k := by
  rw [wsO, List.getElem?_mapIdx] at h
  cases hs : SK[k]? with
  | none => rw [hs] at h; cases h
  | some s =>
    rw [hs] at h
    cases h
    exact ⟨(List.getElem?_eq_some_iff.mp hs).1, rfl⟩
theorem wsO_D (tc : Nat → ClassId) {ad : Nat → Nat} (hi : Inj ad) (σ : Sg) : va_D (Ao ad) (wsO tc ad σ) := by
  refine ⟨fun i j p q h1 h2 e => ?_, fun k q h => ?_⟩
  · obtain ⟨a1, a2⟩ := wsO_inv h1
    obtain ⟨b1, b2⟩ := wsO_inv h2
    exact hi i j a1 b1 (by rw [← a2, ← b2]; exact e)
  · obtain ⟨a1, a2⟩ := wsO_inv h
    exact ⟨k, a1, a2⟩
theorem ent_same {tc : Nat → ClassId} {ad : Nat → Nat} {σ τ : Sg} {k : Nat} (h1 : gI τ k = gI σ k) (h2 : gL τ k = gL σ k) (h3 : gR τ k = gR σ k) (s : Nat × List Nat) : ent tc ad τ k s = ent tc ad σ k s := by
  have hv : ∀ i c, aval τ k i c = aval σ k i c := by
    intro i c
    unfold aval
    split
    · rw [h1]
    · rw [h2]
    · rw [h3]
    · rfl
  unfold ent
  simp only [h1, h2, hv]
theorem wsO_set {tc : Nat → ClassId} {ad : Nat → Nat} {σ τ : Sg} {k : Nat} {s : Nat × List Nat} {e : va_E} (hs : SK[k]? = some s) (he : e = ent tc ad τ k s) (h : ∀ j, j ≠ k → gI τ j = gI σ j ∧ gL τ j = gL σ j ∧ gR τ j = gR σ j) : (wsO tc ad σ).set k (ad k, e) = wsO tc ad τ := by
  subst he
  apply List.ext_getElem?
  intro j
  by_cases hj : j = k
  · subst hj
    rw [List.getElem?_set_self (List.getElem?_eq_some_iff.mp (wsO_at tc ad σ hs)).1, wsO_at tc ad τ hs]
  · rw [List.getElem?_set_ne (Ne.symm hj), wsO, wsO, List.getElem?_mapIdx, List.getElem?_mapIdx]
    cases SK[j]? with
    | none => rfl
    | some s' =>
      obtain ⟨h1, h2, h3⟩ := h j hj
      simp only [Option.map_some, ent_same h1 h2 h3]
/-! what the walks take of the JDK's side: three String constants with their bytes, and two statics; none of it is ever written -/
def lenW : List Nat := [6, 6, 6]
def bytW : List (List Int32) := [[112, 108, 97, 99, 101, 115], [112, 101, 114, 115, 111, 110], [101, 114, 114, 97, 110, 100]]
def SX (ad : Nat → Nat) (U : State) (H : Heap) : Prop :=
  vk_S 3 lenW bytW (fun i => ad (90 + i)) (fun i => ad (93 + i)) (Ao ad) U H ∧ (vk_R RX10 51 "places" (ad 90) U ∧ vk_R RX10 64 "person" (ad 91) U ∧ vk_R RX10 72 "errand" (ad 92) U) ∧ va_Z "java/lang/String" "COMPACT_STRINGS" "Z" (.int 1) (Ao ad) U H ∧ (va_Z "jdk/internal/util/Preconditions" "SIOOBE_FORMATTER" "Ljava/util/function/BiFunction;" .null (Ao ad) U H ∨ va_Z "jdk/internal/util/Preconditions" "SIOOBE_FORMATTER" "Ljava/util/function/BiFunction;" (.ref (ad 96)) (Ao ad) U H)
/-! the judgements -/
def rmd (d : Nat) : Room := { frames := d, cells := 0, slots := 0, locals := 45 * d }
def Po (D : va_G) (tc : Nat → ClassId) (ad : Nat → Nat) (av : List Value) (σ : Sg) : Array Value → State → Prop := fun v U => v = (av.map (cv ad)).toArray ∧ va_P D vwCl (wsO tc ad σ) U.heap ∧ va_K D vwCl (tysO tc) U ∧ (∀ w ∈ nst, va_Nw w U) ∧ SX ad U U.heap
def Qo (D : va_G) (tc : Nat → ClassId) (ad : Nat → Nat) (r : Option Value) (τ : Sg) : Array Value → State → Outcome → State → Prop := fun _ st o t => o = .returned (r.map (cv ad)) ∧ va_P D vwCl (wsO tc ad τ) t.heap ∧ va_F (Ao ad) st t
/-- M, called with av at σ, answers r and leaves τ; d frames below it are enough -/
def Cal (M : MI) (d : Nat) (av : List Value) (σ : Sg) (r : Option Value) (τ : Sg) : Prop := ∀ (l : Launch) (D : va_G) (tc : Nat → ClassId) (ad : Nat → Nat), Inj ad → Met l M.1 (wz M) (rmd d) (Po D tc ad av σ) (Qo D tc ad r τ) 0 0 (Ao ad)
def Cx (M : MI) (d : Nat) (p : Program) (R : Room) (s : State) (m : MethodId) (args : Array Value) (meth : Method) (c : Code) (D : va_G) (tc : Nat → ClassId) (ad : Nat → Nat) : Prop :=
  p.tables.exec = Jvm.exec ∧ c.code = M.2.1 ∧ c.maxLocals = M.2.2.1 ∧ meth.sig.returnType = M.2.2.2 ∧ (∀ w ∈ tbl, w.before args s = true) ∧ s.vm.findClass M.1.cls = some m.cls ∧ meth.locks = false ∧ va_K D vwCl (tysO tc) s ∧ (∀ w ∈ nst, va_Nw w s) ∧ Inj ad ∧ R = rmd d ∧ SX ad s s.heap
/-- from here M comes to its end with r and τ -/
def Ev (M : MI) (d : Nat) (r : Option Value) (τ : Sg) (pc : Nat) (ls : List (Nat × Value)) (st : List Value) (σ : Sg) : Prop :=
  ∀ (p : Program) (l : Launch) (e : Env) (R : Room) (s : State) (m : MethodId) (args : Array Value) (below : List Frame) (meth : Method) (c : Code) (D : va_G) (tc : Nat → ClassId) (ad : Nat → Nat), Cx M d p R s m args meth c D tc ad → ∀ (H : Heap) (locs : List Loc) (LS : Array Slot), va_P D vwCl (wsO tc ad σ) H → va_S (Ao ad) s.heap H locs → lv_has LS M.2.2.1 (ls.map fun q => (q.1, cv ad q.2)) → W p l e R s m args below meth c H locs 0 0 (MQ below (Qo D tc ad r τ) args s 0 0 (Ao ad)) (F0 m pc LS (st.map (cv ad)))
def Dc (b : ByteArray) (pc : Nat) (i : Instr) (n pc' : Nat) : Prop := decode b pc = .ok (i, n) ∧ pc + n = pc'
def DT (b : ByteArray) (t : List (Nat × Instr × Nat × Nat)) : Prop := ∀ q ∈ t, decode b q.1 = .ok (q.2.1, q.2.2.1) ∧ q.1 + q.2.2.1 = q.2.2.2
theorem DT.at {b : ByteArray} {t : List (Nat × Instr × Nat × Nat)} (h : DT b t) (k : Nat) {pc : Nat} {i : Instr} {n pc' : Nat} (hk : t[k]? = some (pc, i, n, pc')) : Dc b pc i n pc' := h (pc, i, n, pc') (List.mem_of_getElem? hk)
theorem lv_args_cv (ad : Nat → Nat) (av : List Value) : ∀ i, lv_args i (av.map (cv ad)) = (lv_args i av).map fun q => (q.1, cv ad q.2) := by
  induction av with
  | nil => intro i; rfl
  | cons v vs ih => intro i; simp only [List.map_cons, lv_args, cv_cat, ih]
theorem lg_sl_cv (ad : Nat → Nat) (av : List Value) : (lg_sl (av.map (cv ad))).length = (lg_sl av).length := by
  induction av with
  | nil => rfl
  | cons v vs ih =>
    have e : ∀ (x : Value) (xs : List Value), lg_sl (x :: xs) = lg_sl [x] ++ lg_sl xs := fun x xs => by simp [lg_sl]
    rw [List.map_cons, e, e v, List.length_append, List.length_append, ih]
    congr 1
    simp [lg_sl, cv_cat]
    split <;> rfl
/-- a contract out of a walk from the entry -/
theorem Cal.of {M : MI} {d : Nat} {av : List Value} {σ : Sg} {r : Option Value} {τ : Sg} (hy : plainName M.1.cls = true) (hn : (lg_sl av).length ≤ M.2.2.1) (k : Ev M d r τ 0 (lv_args 0 av) [] σ) : Cal M d av σ r τ := by
  intro l D tc ad hi
  refine Met.ofW (cc := M.2.1) (maxL := M.2.2.1) (ret := M.2.2.2) hy rfl ?_
  intro p e s m args below meth c s₁ B hml hv
  obtain ⟨rfl, hP, hK, hN, hX⟩ := hv
  have hts := atoms_spec (ws := wz M) B.pre
  have hl := lv_entry (av.map (cv ad)) (n := M.2.2.1) (by rw [lg_sl_cv]; exact hn)
  rw [lg_entry_eq]
  rw [lv_args_cv] at hl
  exact k p l e _ s m _ below meth c D tc ad ⟨B.exec, B.bytes, hml, B.returns, fun w hw => hts w (List.mem_cons_of_mem _ hw), findClass_of_methodNamed B.named, B.notSynchronized, hK, hN, hi, rfl, hX⟩ s.heap [] _ hP va_S.rf hl
end
section
section EVR
variable {M : MI} {d : Nat} {r : Option Value} {τ : Sg} {pc pc' : Nat} {ls : List (Nat × Value)} {st : List Value} {σ : Sg}
theorem Ev_iadd {x y : Int32} (hd : Dc M.2.1 pc .iadd 1 pc')  (k : Ev M d r τ pc' ls (.int (x + y) :: st) σ) : Ev M d r τ pc ls (.int y :: .int x :: st) σ := by
  obtain ⟨h1, rfl⟩ := hd
  intro p l e R s m args below meth c D tc ad C H locs LS hP hS hl
  exact lv_iadd C.1 C.2.1 h1  (k p l e R s m args below meth c D tc ad C H locs LS hP hS hl)
theorem Ev_isub {x y : Int32} (hd : Dc M.2.1 pc .isub 1 pc')  (k : Ev M d r τ pc' ls (.int (x - y) :: st) σ) : Ev M d r τ pc ls (.int y :: .int x :: st) σ := by
  obtain ⟨h1, rfl⟩ := hd
  intro p l e R s m args below meth c D tc ad C H locs LS hP hS hl
  exact lv_isub C.1 C.2.1 h1  (k p l e R s m args below meth c D tc ad C H locs LS hP hS hl)
theorem Ev_imul {x y : Int32} (hd : Dc M.2.1 pc .imul 1 pc')  (k : Ev M d r τ pc' ls (.int (x * y) :: st) σ) : Ev M d r τ pc ls (.int y :: .int x :: st) σ := by
  obtain ⟨h1, rfl⟩ := hd
  intro p l e R s m args below meth c D tc ad C H locs LS hP hS hl
  exact lv_imul C.1 C.2.1 h1  (k p l e R s m args below meth c D tc ad C H locs LS hP hS hl)
theorem Ev_iand {x y : Int32} (hd : Dc M.2.1 pc .iand 1 pc')  (k : Ev M d r τ pc' ls (.int (x &&& y) :: st) σ) : Ev M d r τ pc ls (.int y :: .int x :: st) σ := by
  obtain ⟨h1, rfl⟩ := hd
  intro p l e R s m args below meth c D tc ad C H locs LS hP hS hl
  exact lv_iand C.1 C.2.1 h1  (k p l e R s m args below meth c D tc ad C H locs LS hP hS hl)
theorem Ev_ior {x y : Int32} (hd : Dc M.2.1 pc .ior 1 pc')  (k : Ev M d r τ pc' ls (.int (x ||| y) :: st) σ) : Ev M d r τ pc ls (.int y :: .int x :: st) σ := by
  obtain ⟨h1, rfl⟩ := hd
  intro p l e R s m args below meth c D tc ad C H locs LS hP hS hl
  exact lv_ior C.1 C.2.1 h1  (k p l e R s m args below meth c D tc ad C H locs LS hP hS hl)
theorem Ev_ixor {x y : Int32} (hd : Dc M.2.1 pc .ixor 1 pc')  (k : Ev M d r τ pc' ls (.int (x ^^^ y) :: st) σ) : Ev M d r τ pc ls (.int y :: .int x :: st) σ := by
  obtain ⟨h1, rfl⟩ := hd
  intro p l e R s m args below meth c D tc ad C H locs LS hP hS hl
  exact lv_ixor C.1 C.2.1 h1  (k p l e R s m args below meth c D tc ad C H locs LS hP hS hl)
theorem Ev_ishl {x y : Int32} (hd : Dc M.2.1 pc .ishl 1 pc')  (k : Ev M d r τ pc' ls (.int (x <<< (y &&& 31)) :: st) σ) : Ev M d r τ pc ls (.int y :: .int x :: st) σ := by
  obtain ⟨h1, rfl⟩ := hd
  intro p l e R s m args below meth c D tc ad C H locs LS hP hS hl
  exact lv_ishl C.1 C.2.1 h1  (k p l e R s m args below meth c D tc ad C H locs LS hP hS hl)
theorem Ev_ishr {x y : Int32} (hd : Dc M.2.1 pc .ishr 1 pc')  (k : Ev M d r τ pc' ls (.int (x >>> (y &&& 31)) :: st) σ) : Ev M d r τ pc ls (.int y :: .int x :: st) σ := by
  obtain ⟨h1, rfl⟩ := hd
  intro p l e R s m args below meth c D tc ad C H locs LS hP hS hl
  exact lv_ishr C.1 C.2.1 h1  (k p l e R s m args below meth c D tc ad C H locs LS hP hS hl)
theorem Ev_idiv {x y : Int32} (hd : Dc M.2.1 pc .idiv 1 pc') (hne : ¬ y = 0) (k : Ev M d r τ pc' ls (.int (x / y) :: st) σ) : Ev M d r τ pc ls (.int y :: .int x :: st) σ := by
  obtain ⟨h1, rfl⟩ := hd
  intro p l e R s m args below meth c D tc ad C H locs LS hP hS hl
  exact lv_idiv C.1 C.2.1 h1 hne (k p l e R s m args below meth c D tc ad C H locs LS hP hS hl)
theorem Ev_irem {x y : Int32} (hd : Dc M.2.1 pc .irem 1 pc') (hne : ¬ y = 0) (k : Ev M d r τ pc' ls (.int (x - x / y * y) :: st) σ) : Ev M d r τ pc ls (.int y :: .int x :: st) σ := by
  obtain ⟨h1, rfl⟩ := hd
  intro p l e R s m args below meth c D tc ad C H locs LS hP hS hl
  exact lv_irem C.1 C.2.1 h1 hne (k p l e R s m args below meth c D tc ad C H locs LS hP hS hl)
theorem Ev_iushr {x y : Int32} (hd : Dc M.2.1 pc .iushr 1 pc')  (k : Ev M d r τ pc' ls (.int (x.toUInt32 >>> (y.toUInt32 &&& Int32.toUInt32 31)).toInt32 :: st) σ) : Ev M d r τ pc ls (.int y :: .int x :: st) σ := by
  obtain ⟨h1, rfl⟩ := hd
  intro p l e R s m args below meth c D tc ad C H locs LS hP hS hl
  exact lv_iushr C.1 C.2.1 h1 rfl (k p l e R s m args below meth c D tc ad C H locs LS hP hS hl)
theorem Ev_ineg {x : Int32} (hd : Dc M.2.1 pc .ineg 1 pc')  (k : Ev M d r τ pc' ls (.int (-x) :: st) σ) : Ev M d r τ pc ls (.int x :: st) σ := by
  obtain ⟨h1, rfl⟩ := hd
  intro p l e R s m args below meth c D tc ad C H locs LS hP hS hl
  exact lv_ineg C.1 C.2.1 h1  (k p l e R s m args below meth c D tc ad C H locs LS hP hS hl)
theorem Ev_ladd {x y : Int64} (hd : Dc M.2.1 pc .ladd 1 pc')  (k : Ev M d r τ pc' ls (.long (x + y) :: st) σ) : Ev M d r τ pc ls (.long y :: .long x :: st) σ := by
  obtain ⟨h1, rfl⟩ := hd
  intro p l e R s m args below meth c D tc ad C H locs LS hP hS hl
  exact lv_ladd C.1 C.2.1 h1  (k p l e R s m args below meth c D tc ad C H locs LS hP hS hl)
theorem Ev_lsub {x y : Int64} (hd : Dc M.2.1 pc .lsub 1 pc')  (k : Ev M d r τ pc' ls (.long (x - y) :: st) σ) : Ev M d r τ pc ls (.long y :: .long x :: st) σ := by
  obtain ⟨h1, rfl⟩ := hd
  intro p l e R s m args below meth c D tc ad C H locs LS hP hS hl
  exact lv_lsub C.1 C.2.1 h1  (k p l e R s m args below meth c D tc ad C H locs LS hP hS hl)
theorem Ev_lmul {x y : Int64} (hd : Dc M.2.1 pc .lmul 1 pc')  (k : Ev M d r τ pc' ls (.long (x * y) :: st) σ) : Ev M d r τ pc ls (.long y :: .long x :: st) σ := by
  obtain ⟨h1, rfl⟩ := hd
  intro p l e R s m args below meth c D tc ad C H locs LS hP hS hl
  exact lv_lmul C.1 C.2.1 h1  (k p l e R s m args below meth c D tc ad C H locs LS hP hS hl)
theorem Ev_land {x y : Int64} (hd : Dc M.2.1 pc .land 1 pc')  (k : Ev M d r τ pc' ls (.long (x &&& y) :: st) σ) : Ev M d r τ pc ls (.long y :: .long x :: st) σ := by
  obtain ⟨h1, rfl⟩ := hd
  intro p l e R s m args below meth c D tc ad C H locs LS hP hS hl
  exact lv_land C.1 C.2.1 h1  (k p l e R s m args below meth c D tc ad C H locs LS hP hS hl)
theorem Ev_lor {x y : Int64} (hd : Dc M.2.1 pc .lor 1 pc')  (k : Ev M d r τ pc' ls (.long (x ||| y) :: st) σ) : Ev M d r τ pc ls (.long y :: .long x :: st) σ := by
  obtain ⟨h1, rfl⟩ := hd
  intro p l e R s m args below meth c D tc ad C H locs LS hP hS hl
  exact lv_lor C.1 C.2.1 h1  (k p l e R s m args below meth c D tc ad C H locs LS hP hS hl)
theorem Ev_ldiv {x y : Int64} (hd : Dc M.2.1 pc .ldiv 1 pc') (hne : ¬ y = 0) (k : Ev M d r τ pc' ls (.long (x / y) :: st) σ) : Ev M d r τ pc ls (.long y :: .long x :: st) σ := by
  obtain ⟨h1, rfl⟩ := hd
  intro p l e R s m args below meth c D tc ad C H locs LS hP hS hl
  exact lv_ldiv C.1 C.2.1 h1 hne (k p l e R s m args below meth c D tc ad C H locs LS hP hS hl)
theorem Ev_lrem {x y : Int64} (hd : Dc M.2.1 pc .lrem 1 pc') (hne : ¬ y = 0) (k : Ev M d r τ pc' ls (.long (x - x / y * y) :: st) σ) : Ev M d r τ pc ls (.long y :: .long x :: st) σ := by
  obtain ⟨h1, rfl⟩ := hd
  intro p l e R s m args below meth c D tc ad C H locs LS hP hS hl
  exact lv_lrem C.1 C.2.1 h1 hne (k p l e R s m args below meth c D tc ad C H locs LS hP hS hl)
theorem Ev_lneg {x : Int64} (hd : Dc M.2.1 pc .lneg 1 pc')  (k : Ev M d r τ pc' ls (.long (-x) :: st) σ) : Ev M d r τ pc ls (.long x :: st) σ := by
  obtain ⟨h1, rfl⟩ := hd
  intro p l e R s m args below meth c D tc ad C H locs LS hP hS hl
  exact lv_lneg C.1 C.2.1 h1  (k p l e R s m args below meth c D tc ad C H locs LS hP hS hl)
theorem Ev_lshl {x : Int64} {y : Int32} (hd : Dc M.2.1 pc .lshl 1 pc')  (k : Ev M d r τ pc' ls (.long (x <<< (y.toInt64 &&& 63)) :: st) σ) : Ev M d r τ pc ls (.int y :: .long x :: st) σ := by
  obtain ⟨h1, rfl⟩ := hd
  intro p l e R s m args below meth c D tc ad C H locs LS hP hS hl
  exact lv_lshl C.1 C.2.1 h1 rfl (k p l e R s m args below meth c D tc ad C H locs LS hP hS hl)
theorem Ev_lushr {x : Int64} {y : Int32} (hd : Dc M.2.1 pc .lushr 1 pc')  (k : Ev M d r τ pc' ls (.long (x.toUInt64 >>> (y.toInt64.toUInt64 &&& Int64.toUInt64 63)).toInt64 :: st) σ) : Ev M d r τ pc ls (.int y :: .long x :: st) σ := by
  obtain ⟨h1, rfl⟩ := hd
  intro p l e R s m args below meth c D tc ad C H locs LS hP hS hl
  exact lv_lushr C.1 C.2.1 h1 rfl (k p l e R s m args below meth c D tc ad C H locs LS hP hS hl)
theorem Ev_i2l {x : Int32} (hd : Dc M.2.1 pc .i2l 1 pc')  (k : Ev M d r τ pc' ls (.long x.toInt64 :: st) σ) : Ev M d r τ pc ls (.int x :: st) σ := by
  obtain ⟨h1, rfl⟩ := hd
  intro p l e R s m args below meth c D tc ad C H locs LS hP hS hl
  exact lv_i2l C.1 C.2.1 h1 rfl (k p l e R s m args below meth c D tc ad C H locs LS hP hS hl)
theorem Ev_l2i {x : Int64} (hd : Dc M.2.1 pc .l2i 1 pc')  (k : Ev M d r τ pc' ls (.int x.toInt32 :: st) σ) : Ev M d r τ pc ls (.long x :: st) σ := by
  obtain ⟨h1, rfl⟩ := hd
  intro p l e R s m args below meth c D tc ad C H locs LS hP hS hl
  exact lv_l2i C.1 C.2.1 h1 rfl (k p l e R s m args below meth c D tc ad C H locs LS hP hS hl)
theorem Ev_lcmp {x y : Int64} (hd : Dc M.2.1 pc .lcmp 1 pc')  (k : Ev M d r τ pc' ls (.int (lg_cmp x y) :: st) σ) : Ev M d r τ pc ls (.long y :: .long x :: st) σ := by
  obtain ⟨h1, rfl⟩ := hd
  intro p l e R s m args below meth c D tc ad C H locs LS hP hS hl
  exact W.lcmp C.1 C.2.1 h1  (k p l e R s m args below meth c D tc ad C H locs LS hP hS hl)
theorem Ev_iconst {n : Int} {v : Int32} (hd : Dc M.2.1 pc (.iconst n) 1 pc') (hv : Int32.ofInt n = v) (k : Ev M d r τ pc' ls (.int v :: st) σ) : Ev M d r τ pc ls (st) σ := by
  obtain ⟨h1, rfl⟩ := hd
  intro p l e R s m args below meth c D tc ad C H locs LS hP hS hl
  exact lv_iconst C.1 C.2.1 h1 hv (k p l e R s m args below meth c D tc ad C H locs LS hP hS hl)
theorem Ev_bipush {n : Int} {v : Int32} (hd : Dc M.2.1 pc (.bipush n) 2 pc') (hv : (Int8.ofInt n).toInt32 = v) (k : Ev M d r τ pc' ls (.int v :: st) σ) : Ev M d r τ pc ls (st) σ := by
  obtain ⟨h1, rfl⟩ := hd
  intro p l e R s m args below meth c D tc ad C H locs LS hP hS hl
  exact lv_bipush C.1 C.2.1 h1 hv (k p l e R s m args below meth c D tc ad C H locs LS hP hS hl)
theorem Ev_sipush {n : Int} {v : Int32} (hd : Dc M.2.1 pc (.sipush n) 3 pc') (hv : (Int16.ofInt n).toInt32 = v) (k : Ev M d r τ pc' ls (.int v :: st) σ) : Ev M d r τ pc ls (st) σ := by
  obtain ⟨h1, rfl⟩ := hd
  intro p l e R s m args below meth c D tc ad C H locs LS hP hS hl
  exact lv_sipush C.1 C.2.1 h1 hv (k p l e R s m args below meth c D tc ad C H locs LS hP hS hl)
theorem Ev_lconst {n : Fin 2} {v : Int64} (hd : Dc M.2.1 pc (.lconst n) 1 pc') (hv : Int64.ofNat (n : Nat) = v) (k : Ev M d r τ pc' ls (.long v :: st) σ) : Ev M d r τ pc ls (st) σ := by
  obtain ⟨h1, rfl⟩ := hd
  intro p l e R s m args below meth c D tc ad C H locs LS hP hS hl
  exact lv_lconst C.1 C.2.1 h1 hv (k p l e R s m args below meth c D tc ad C H locs LS hP hS hl)
theorem Ev_ldc {ix : Nat} {v : Int32} (hd : Dc M.2.1 pc (.ldc ix) 2 pc') (hw : Cond.constant M.1.cls ix v ∈ tbl) (k : Ev M d r τ pc' ls (.int v :: st) σ) : Ev M d r τ pc ls st σ := by
  obtain ⟨h1, rfl⟩ := hd
  intro p l e R s m args below meth c D tc ad C H locs LS hP hS hl
  exact lv_ldc C.1 C.2.1 C.2.2.2.2.2.1 (C.2.2.2.2.1 _ hw) h1 (k p l e R s m args below meth c D tc ad C H locs LS hP hS hl)
theorem Ev_ldc_w {ix : Nat} {v : Int32} (hd : Dc M.2.1 pc (.ldc_w ix) 3 pc') (hw : Cond.constant M.1.cls ix v ∈ tbl) (k : Ev M d r τ pc' ls (.int v :: st) σ) : Ev M d r τ pc ls st σ := by
  obtain ⟨h1, rfl⟩ := hd
  intro p l e R s m args below meth c D tc ad C H locs LS hP hS hl
  exact lv_ldcw C.1 C.2.1 C.2.2.2.2.2.1 (C.2.2.2.2.1 _ hw) h1 (k p l e R s m args below meth c D tc ad C H locs LS hP hS hl)
theorem Ev_ldc2 {ix : Nat} {v : Int64} (hd : Dc M.2.1 pc (.ldc2_w ix) 3 pc') (hw : Cond.constantLong M.1.cls ix v ∈ tbl) (k : Ev M d r τ pc' ls (.long v :: st) σ) : Ev M d r τ pc ls st σ := by
  obtain ⟨h1, rfl⟩ := hd
  intro p l e R s m args below meth c D tc ad C H locs LS hP hS hl
  exact lv_ldc2 C.1 C.2.1 C.2.2.2.2.2.1 (C.2.2.2.2.1 _ hw) h1 (k p l e R s m args below meth c D tc ad C H locs LS hP hS hl)
theorem Ev_dup {v : Value} (hd : Dc M.2.1 pc .dup 1 pc') (hc : v.category = 1) (k : Ev M d r τ pc' ls (v :: v :: st) σ) : Ev M d r τ pc ls (v :: st) σ := by
  obtain ⟨h1, rfl⟩ := hd
  intro p l e R s m args below meth c D tc ad C H locs LS hP hS hl
  exact lv_dup C.1 C.2.1 h1 (by rw [cv_cat]; exact hc) (k p l e R s m args below meth c D tc ad C H locs LS hP hS hl)
theorem Ev_dup2 {v u : Value} (hd : Dc M.2.1 pc .dup2 1 pc') (hc : v.category = 1) (hu : u.category = 1) (k : Ev M d r τ pc' ls (v :: u :: v :: u :: st) σ) : Ev M d r τ pc ls (v :: u :: st) σ := by
  obtain ⟨h1, rfl⟩ := hd
  intro p l e R s m args below meth c D tc ad C H locs LS hP hS hl
  exact lv_dup2_11 C.1 C.2.1 h1 (by rw [cv_cat]; exact hc) (by rw [cv_cat]; exact hu) (k p l e R s m args below meth c D tc ad C H locs LS hP hS hl)
theorem Ev_pop {v : Value} (hd : Dc M.2.1 pc .pop 1 pc') (hc : v.category = 1) (k : Ev M d r τ pc' ls st σ) : Ev M d r τ pc ls (v :: st) σ := by
  obtain ⟨h1, rfl⟩ := hd
  intro p l e R s m args below meth c D tc ad C H locs LS hP hS hl
  exact lv_pop C.1 C.2.1 h1 (by rw [cv_cat]; exact hc) (k p l e R s m args below meth c D tc ad C H locs LS hP hS hl)
theorem ls_at (ad : Nat → Nat) {LS : Array Slot} {nL : Nat} (hl : lv_has LS nL (ls.map fun q => (q.1, cv ad q.2))) {j i : Nat} {v : Value} (hk : ls[j]? = some (i, v)) : LS[i]? = some (.val (cv ad v)) :=
  lv_at hl j (by rw [List.getElem?_map, hk]; rfl)
theorem Ev_iload {i : Nat} {x : Int32} (j : Nat) (hd : Dc M.2.1 pc (.iload i) 2 pc') (hk : ls[j]? = some (i, .int x)) (k : Ev M d r τ pc' ls (.int x :: st) σ) : Ev M d r τ pc ls st σ := by
  obtain ⟨h1, rfl⟩ := hd
  intro p l e R s m args below meth c D tc ad C H locs LS hP hS hl
  exact lv_iload C.1 C.2.1 h1 (ls_at ad hl hk) (k p l e R s m args below meth c D tc ad C H locs LS hP hS hl)
theorem Ev_iload_n {i : Fin 4} {x : Int32} (j : Nat) (hd : Dc M.2.1 pc (.iload_n i) 1 pc') (hk : ls[j]? = some ((i : Nat), .int x)) (k : Ev M d r τ pc' ls (.int x :: st) σ) : Ev M d r τ pc ls st σ := by
  obtain ⟨h1, rfl⟩ := hd
  intro p l e R s m args below meth c D tc ad C H locs LS hP hS hl
  exact lv_iload_n C.1 C.2.1 h1 rfl (ls_at ad hl hk) (k p l e R s m args below meth c D tc ad C H locs LS hP hS hl)
theorem Ev_lload {i : Nat} {x : Int64} (j : Nat) (hd : Dc M.2.1 pc (.lload i) 2 pc') (hk : ls[j]? = some (i, .long x)) (k : Ev M d r τ pc' ls (.long x :: st) σ) : Ev M d r τ pc ls st σ := by
  obtain ⟨h1, rfl⟩ := hd
  intro p l e R s m args below meth c D tc ad C H locs LS hP hS hl
  exact lv_lload C.1 C.2.1 h1 (ls_at ad hl hk) (k p l e R s m args below meth c D tc ad C H locs LS hP hS hl)
theorem Ev_lload_n {i : Fin 4} {x : Int64} (j : Nat) (hd : Dc M.2.1 pc (.lload_n i) 1 pc') (hk : ls[j]? = some ((i : Nat), .long x)) (k : Ev M d r τ pc' ls (.long x :: st) σ) : Ev M d r τ pc ls st σ := by
  obtain ⟨h1, rfl⟩ := hd
  intro p l e R s m args below meth c D tc ad C H locs LS hP hS hl
  exact lv_lload_n C.1 C.2.1 h1 rfl (ls_at ad hl hk) (k p l e R s m args below meth c D tc ad C H locs LS hP hS hl)
theorem Ev_aload {i : Nat} {x : Nat} (j : Nat) (hd : Dc M.2.1 pc (.aload i) 2 pc') (hk : ls[j]? = some (i, .ref x)) (k : Ev M d r τ pc' ls (.ref x :: st) σ) : Ev M d r τ pc ls st σ := by
  obtain ⟨h1, rfl⟩ := hd
  intro p l e R s m args below meth c D tc ad C H locs LS hP hS hl
  exact lv_aload C.1 C.2.1 h1 (ls_at ad hl hk) (k p l e R s m args below meth c D tc ad C H locs LS hP hS hl)
theorem Ev_aload_n {i : Fin 4} {x : Nat} (j : Nat) (hd : Dc M.2.1 pc (.aload_n i) 1 pc') (hk : ls[j]? = some ((i : Nat), .ref x)) (k : Ev M d r τ pc' ls (.ref x :: st) σ) : Ev M d r τ pc ls st σ := by
  obtain ⟨h1, rfl⟩ := hd
  intro p l e R s m args below meth c D tc ad C H locs LS hP hS hl
  exact lv_aload_n C.1 C.2.1 h1 rfl (ls_at ad hl hk) (k p l e R s m args below meth c D tc ad C H locs LS hP hS hl)
def st1 (i : Nat) (v : Value) (l : List (Nat × Value)) : List (Nat × Value) := (i, v) :: l.filter (fun q => !(q.1 == i) && !(q.1 + 1 == i && q.2.category == 2))
def st2 (i : Nat) (v : Value) (l : List (Nat × Value)) : List (Nat × Value) := (i, v) :: l.filter (fun q => !(q.1 == i) && (!(q.1 == i + 1) && !(q.1 + 1 == i && q.2.category == 2)))
theorem st1_cv (ad : Nat → Nat) (i : Nat) (v : Value) (l : List (Nat × Value)) : st1 i (cv ad v) (l.map fun q => (q.1, cv ad q.2)) = (st1 i v l).map fun q => (q.1, cv ad q.2) := by
  simp only [st1, List.map_cons, List.filter_map, Function.comp_def, cv_cat]
theorem st2_cv (ad : Nat → Nat) (i : Nat) (v : Value) (l : List (Nat × Value)) : st2 i (cv ad v) (l.map fun q => (q.1, cv ad q.2)) = (st2 i v l).map fun q => (q.1, cv ad q.2) := by
  simp only [st2, List.map_cons, List.filter_map, Function.comp_def, cv_cat]
theorem Ev_istore {i : Nat} {x : Int32} {ls' : List (Nat × Value)} (hd : Dc M.2.1 pc (.istore i) 2 pc') (hn : i < M.2.2.1) (hk : st1 i (.int x) ls = ls') (k : Ev M d r τ pc' ls' st σ) : Ev M d r τ pc ls (.int x :: st) σ := by
  obtain ⟨h1, rfl⟩ := hd
  subst hk
  intro p l e R s m args below meth c D tc ad C H locs LS hP hS hl
  exact lv_istore C.1 C.2.1 h1 hl hn (st1_cv ad _ (.int x) ls) (fun LS' hl' => k p l e R s m args below meth c D tc ad C H locs LS' hP hS hl')
theorem Ev_istore_n {i : Fin 4} {x : Int32} {ls' : List (Nat × Value)} (hd : Dc M.2.1 pc (.istore_n i) 1 pc') (hn : (i : Nat) < M.2.2.1) (hk : st1 (i : Nat) (.int x) ls = ls') (k : Ev M d r τ pc' ls' st σ) : Ev M d r τ pc ls (.int x :: st) σ := by
  obtain ⟨h1, rfl⟩ := hd
  subst hk
  intro p l e R s m args below meth c D tc ad C H locs LS hP hS hl
  exact lv_istore_n C.1 C.2.1 h1 rfl hl hn (st1_cv ad _ (.int x) ls) (fun LS' hl' => k p l e R s m args below meth c D tc ad C H locs LS' hP hS hl')
theorem Ev_lstore {i : Nat} {x : Int64} {ls' : List (Nat × Value)} (hd : Dc M.2.1 pc (.lstore i) 2 pc') (hn : i + 1 < M.2.2.1) (hk : st2 i (.long x) ls = ls') (k : Ev M d r τ pc' ls' st σ) : Ev M d r τ pc ls (.long x :: st) σ := by
  obtain ⟨h1, rfl⟩ := hd
  subst hk
  intro p l e R s m args below meth c D tc ad C H locs LS hP hS hl
  exact lv_lstore C.1 C.2.1 h1 hl hn (st2_cv ad _ (.long x) ls) (fun LS' hl' => k p l e R s m args below meth c D tc ad C H locs LS' hP hS hl')
theorem Ev_lstore_n {i : Fin 4} {x : Int64} {ls' : List (Nat × Value)} (hd : Dc M.2.1 pc (.lstore_n i) 1 pc') (hn : (i : Nat) + 1 < M.2.2.1) (hk : st2 (i : Nat) (.long x) ls = ls') (k : Ev M d r τ pc' ls' st σ) : Ev M d r τ pc ls (.long x :: st) σ := by
  obtain ⟨h1, rfl⟩ := hd
  subst hk
  intro p l e R s m args below meth c D tc ad C H locs LS hP hS hl
  exact lv_lstore_n C.1 C.2.1 h1 rfl hl hn (st2_cv ad _ (.long x) ls) (fun LS' hl' => k p l e R s m args below meth c D tc ad C H locs LS' hP hS hl')
theorem Ev_astore {i : Nat} {x : Nat} {ls' : List (Nat × Value)} (hd : Dc M.2.1 pc (.astore i) 2 pc') (hn : i < M.2.2.1) (hk : st1 i (.ref x) ls = ls') (k : Ev M d r τ pc' ls' st σ) : Ev M d r τ pc ls (.ref x :: st) σ := by
  obtain ⟨h1, rfl⟩ := hd
  subst hk
  intro p l e R s m args below meth c D tc ad C H locs LS hP hS hl
  exact lv_astore C.1 C.2.1 h1 hl hn (st1_cv ad _ (.ref x) ls) (fun LS' hl' => k p l e R s m args below meth c D tc ad C H locs LS' hP hS hl')
theorem Ev_astore_n {i : Fin 4} {x : Nat} {ls' : List (Nat × Value)} (hd : Dc M.2.1 pc (.astore_n i) 1 pc') (hn : (i : Nat) < M.2.2.1) (hk : st1 (i : Nat) (.ref x) ls = ls') (k : Ev M d r τ pc' ls' st σ) : Ev M d r τ pc ls (.ref x :: st) σ := by
  obtain ⟨h1, rfl⟩ := hd
  subst hk
  intro p l e R s m args below meth c D tc ad C H locs LS hP hS hl
  exact lv_astore_n C.1 C.2.1 h1 rfl hl hn (st1_cv ad _ (.ref x) ls) (fun LS' hl' => k p l e R s m args below meth c D tc ad C H locs LS' hP hS hl')
theorem Ev_iinc {i : Nat} {n : Int} {x v : Int32} {ls' : List (Nat × Value)} (j : Nat) (hd : Dc M.2.1 pc (.iinc i n) 3 pc') (hj : ls[j]? = some (i, .int x)) (hv : v = x + Int32.ofInt n) (hn : i < M.2.2.1) (hk : st1 i (.int v) ls = ls') (k : Ev M d r τ pc' ls' st σ) : Ev M d r τ pc ls st σ := by
  obtain ⟨h1, rfl⟩ := hd
  subst hk
  intro p l e R s m args below meth c D tc ad C H locs LS hP hS hl
  exact lv_iinc C.1 C.2.1 h1 hl (k := j) (by rw [List.getElem?_map, hj]; rfl) hv.symm hn (st1_cv ad _ (.int v) ls) (fun LS' hl' => k p l e R s m args below meth c D tc ad C H locs LS' hP hS hl')
theorem Ev_sub {ls' : List (Nat × Value)} (ks : List Nat) (hk : lv_pick ls ks = ls') (k : Ev M d r τ pc ls' st σ) : Ev M d r τ pc ls st σ := by
  subst hk
  intro p l e R s m args below meth c D tc ad C H locs LS hP hS hl
  refine k p l e R s m args below meth c D tc ad C H locs LS hP hS (lv_sub hl ks ?_)
  simp only [lv_pick, List.map_filterMap]
  congr 1; funext i; rw [List.getElem?_map]
theorem Ev_if_eq {x : Int32} {off : Int} {tgt : Nat} (hd : Dc M.2.1 pc (.ifCond .eq off) 3 pc') (ht : (pc : Int) + off = (tgt : Int)) (kt : (x = 0) → Ev M d r τ tgt ls st σ) (kf : (¬ x = 0) → Ev M d r τ pc' ls st σ) : Ev M d r τ pc ls (.int x :: st) σ := by
  obtain ⟨h1, rfl⟩ := hd
  intro p l e R s m args below meth c D tc ad C H locs LS hP hS hl
  exact lv_if_eq C.1 C.2.1 h1 ht (fun h => kt h p l e R s m args below meth c D tc ad C H locs LS hP hS hl) (fun h => kf h p l e R s m args below meth c D tc ad C H locs LS hP hS hl)
theorem Ev_if_ne {x : Int32} {off : Int} {tgt : Nat} (hd : Dc M.2.1 pc (.ifCond .ne off) 3 pc') (ht : (pc : Int) + off = (tgt : Int)) (kt : (¬ x = 0) → Ev M d r τ tgt ls st σ) (kf : (x = 0) → Ev M d r τ pc' ls st σ) : Ev M d r τ pc ls (.int x :: st) σ := by
  obtain ⟨h1, rfl⟩ := hd
  intro p l e R s m args below meth c D tc ad C H locs LS hP hS hl
  exact lv_if_ne C.1 C.2.1 h1 ht (fun h => kt h p l e R s m args below meth c D tc ad C H locs LS hP hS hl) (fun h => kf h p l e R s m args below meth c D tc ad C H locs LS hP hS hl)
theorem Ev_if_lt {x : Int32} {off : Int} {tgt : Nat} (hd : Dc M.2.1 pc (.ifCond .lt off) 3 pc') (ht : (pc : Int) + off = (tgt : Int)) (kt : (x < 0) → Ev M d r τ tgt ls st σ) (kf : (¬ x < 0) → Ev M d r τ pc' ls st σ) : Ev M d r τ pc ls (.int x :: st) σ := by
  obtain ⟨h1, rfl⟩ := hd
  intro p l e R s m args below meth c D tc ad C H locs LS hP hS hl
  exact lv_if_lt C.1 C.2.1 h1 ht (fun h => kt h p l e R s m args below meth c D tc ad C H locs LS hP hS hl) (fun h => kf h p l e R s m args below meth c D tc ad C H locs LS hP hS hl)
theorem Ev_if_ge {x : Int32} {off : Int} {tgt : Nat} (hd : Dc M.2.1 pc (.ifCond .ge off) 3 pc') (ht : (pc : Int) + off = (tgt : Int)) (kt : (0 ≤ x) → Ev M d r τ tgt ls st σ) (kf : (¬ 0 ≤ x) → Ev M d r τ pc' ls st σ) : Ev M d r τ pc ls (.int x :: st) σ := by
  obtain ⟨h1, rfl⟩ := hd
  intro p l e R s m args below meth c D tc ad C H locs LS hP hS hl
  exact lv_if_ge C.1 C.2.1 h1 ht (fun h => kt h p l e R s m args below meth c D tc ad C H locs LS hP hS hl) (fun h => kf h p l e R s m args below meth c D tc ad C H locs LS hP hS hl)
theorem Ev_if_gt {x : Int32} {off : Int} {tgt : Nat} (hd : Dc M.2.1 pc (.ifCond .gt off) 3 pc') (ht : (pc : Int) + off = (tgt : Int)) (kt : (0 < x) → Ev M d r τ tgt ls st σ) (kf : (¬ 0 < x) → Ev M d r τ pc' ls st σ) : Ev M d r τ pc ls (.int x :: st) σ := by
  obtain ⟨h1, rfl⟩ := hd
  intro p l e R s m args below meth c D tc ad C H locs LS hP hS hl
  exact lv_if_gt C.1 C.2.1 h1 ht (fun h => kt h p l e R s m args below meth c D tc ad C H locs LS hP hS hl) (fun h => kf h p l e R s m args below meth c D tc ad C H locs LS hP hS hl)
theorem Ev_if_le {x : Int32} {off : Int} {tgt : Nat} (hd : Dc M.2.1 pc (.ifCond .le off) 3 pc') (ht : (pc : Int) + off = (tgt : Int)) (kt : (x ≤ 0) → Ev M d r τ tgt ls st σ) (kf : (¬ x ≤ 0) → Ev M d r τ pc' ls st σ) : Ev M d r τ pc ls (.int x :: st) σ := by
  obtain ⟨h1, rfl⟩ := hd
  intro p l e R s m args below meth c D tc ad C H locs LS hP hS hl
  exact lv_if_le C.1 C.2.1 h1 ht (fun h => kt h p l e R s m args below meth c D tc ad C H locs LS hP hS hl) (fun h => kf h p l e R s m args below meth c D tc ad C H locs LS hP hS hl)
theorem Ev_icmp_eq {x y : Int32} {off : Int} {tgt : Nat} (hd : Dc M.2.1 pc (.if_icmp .eq off) 3 pc') (ht : (pc : Int) + off = (tgt : Int)) (kt : (x = y) → Ev M d r τ tgt ls st σ) (kf : (¬ x = y) → Ev M d r τ pc' ls st σ) : Ev M d r τ pc ls (.int y :: .int x :: st) σ := by
  obtain ⟨h1, rfl⟩ := hd
  intro p l e R s m args below meth c D tc ad C H locs LS hP hS hl
  exact lv_icmp_eq C.1 C.2.1 h1 ht (fun h => kt h p l e R s m args below meth c D tc ad C H locs LS hP hS hl) (fun h => kf h p l e R s m args below meth c D tc ad C H locs LS hP hS hl)
theorem Ev_icmp_ne {x y : Int32} {off : Int} {tgt : Nat} (hd : Dc M.2.1 pc (.if_icmp .ne off) 3 pc') (ht : (pc : Int) + off = (tgt : Int)) (kt : (¬ x = y) → Ev M d r τ tgt ls st σ) (kf : (x = y) → Ev M d r τ pc' ls st σ) : Ev M d r τ pc ls (.int y :: .int x :: st) σ := by
  obtain ⟨h1, rfl⟩ := hd
  intro p l e R s m args below meth c D tc ad C H locs LS hP hS hl
  exact lv_icmp_ne C.1 C.2.1 h1 ht (fun h => kt h p l e R s m args below meth c D tc ad C H locs LS hP hS hl) (fun h => kf h p l e R s m args below meth c D tc ad C H locs LS hP hS hl)
theorem Ev_icmp_lt {x y : Int32} {off : Int} {tgt : Nat} (hd : Dc M.2.1 pc (.if_icmp .lt off) 3 pc') (ht : (pc : Int) + off = (tgt : Int)) (kt : (x < y) → Ev M d r τ tgt ls st σ) (kf : (¬ x < y) → Ev M d r τ pc' ls st σ) : Ev M d r τ pc ls (.int y :: .int x :: st) σ := by
  obtain ⟨h1, rfl⟩ := hd
  intro p l e R s m args below meth c D tc ad C H locs LS hP hS hl
  exact lv_icmp_lt C.1 C.2.1 h1 ht (fun h => kt h p l e R s m args below meth c D tc ad C H locs LS hP hS hl) (fun h => kf h p l e R s m args below meth c D tc ad C H locs LS hP hS hl)
theorem Ev_icmp_ge {x y : Int32} {off : Int} {tgt : Nat} (hd : Dc M.2.1 pc (.if_icmp .ge off) 3 pc') (ht : (pc : Int) + off = (tgt : Int)) (kt : (y ≤ x) → Ev M d r τ tgt ls st σ) (kf : (¬ y ≤ x) → Ev M d r τ pc' ls st σ) : Ev M d r τ pc ls (.int y :: .int x :: st) σ := by
  obtain ⟨h1, rfl⟩ := hd
  intro p l e R s m args below meth c D tc ad C H locs LS hP hS hl
  exact lv_icmp_ge C.1 C.2.1 h1 ht (fun h => kt h p l e R s m args below meth c D tc ad C H locs LS hP hS hl) (fun h => kf h p l e R s m args below meth c D tc ad C H locs LS hP hS hl)
theorem Ev_icmp_gt {x y : Int32} {off : Int} {tgt : Nat} (hd : Dc M.2.1 pc (.if_icmp .gt off) 3 pc') (ht : (pc : Int) + off = (tgt : Int)) (kt : (y < x) → Ev M d r τ tgt ls st σ) (kf : (¬ y < x) → Ev M d r τ pc' ls st σ) : Ev M d r τ pc ls (.int y :: .int x :: st) σ := by
  obtain ⟨h1, rfl⟩ := hd
  intro p l e R s m args below meth c D tc ad C H locs LS hP hS hl
  exact lv_icmp_gt C.1 C.2.1 h1 ht (fun h => kt h p l e R s m args below meth c D tc ad C H locs LS hP hS hl) (fun h => kf h p l e R s m args below meth c D tc ad C H locs LS hP hS hl)
theorem Ev_icmp_le {x y : Int32} {off : Int} {tgt : Nat} (hd : Dc M.2.1 pc (.if_icmp .le off) 3 pc') (ht : (pc : Int) + off = (tgt : Int)) (kt : (x ≤ y) → Ev M d r τ tgt ls st σ) (kf : (¬ x ≤ y) → Ev M d r τ pc' ls st σ) : Ev M d r τ pc ls (.int y :: .int x :: st) σ := by
  obtain ⟨h1, rfl⟩ := hd
  intro p l e R s m args below meth c D tc ad C H locs LS hP hS hl
  exact lv_icmp_le C.1 C.2.1 h1 ht (fun h => kt h p l e R s m args below meth c D tc ad C H locs LS hP hS hl) (fun h => kf h p l e R s m args below meth c D tc ad C H locs LS hP hS hl)
theorem Ev_goto {off : Int} {tgt : Nat} (hd : Dc M.2.1 pc (.goto off) 3 pc') (ht : (pc : Int) + off = (tgt : Int)) (k : Ev M d r τ tgt ls st σ) : Ev M d r τ pc ls st σ := by
  obtain ⟨h1, rfl⟩ := hd
  intro p l e R s m args below meth c D tc ad C H locs LS hP hS hl
  exact lv_goto C.1 C.2.1 h1 ht (k p l e R s m args below meth c D tc ad C H locs LS hP hS hl)
theorem Ev_tblIn {dflt lo hi : Int} {offs : Array Int} {n : Nat} {x : Int32} {off : Int} {tgt : Nat} (hd : Dc M.2.1 pc (.tableswitch dflt lo hi offs) n pc') (h1 : ¬ x.toInt < lo) (h2 : ¬ hi < x.toInt) (ho : offs[(x.toInt - lo).toNat]? = some off) (ht : (pc : Int) + off = (tgt : Int)) (k : Ev M d r τ tgt ls st σ) : Ev M d r τ pc ls (.int x :: st) σ := by
  obtain ⟨hd1, rfl⟩ := hd
  intro p l e R s m args below meth c D tc ad C H locs LS hP hS hl
  exact lv_tableIn C.1 C.2.1 hd1 h1 h2 ho ht (k p l e R s m args below meth c D tc ad C H locs LS hP hS hl)
theorem Ev_tblOut {dflt lo hi : Int} {offs : Array Int} {n : Nat} {x : Int32} {tgt : Nat} (hd : Dc M.2.1 pc (.tableswitch dflt lo hi offs) n pc') (h1 : x.toInt < lo ∨ hi < x.toInt) (ht : (pc : Int) + dflt = (tgt : Int)) (k : Ev M d r τ tgt ls st σ) : Ev M d r τ pc ls (.int x :: st) σ := by
  obtain ⟨hd1, rfl⟩ := hd
  intro p l e R s m args below meth c D tc ad C H locs LS hP hS hl
  exact lv_tableOut C.1 C.2.1 hd1 h1 ht (k p l e R s m args below meth c D tc ad C H locs LS hP hS hl)
theorem Ev_nmI {x : Int32} (k : ∀ y : Int32, y = x → Ev M d r τ pc ls (.int y :: st) σ) : Ev M d r τ pc ls (.int x :: st) σ := k x rfl
theorem Ev_nmL {x : Int64} (k : ∀ y : Int64, y = x → Ev M d r τ pc ls (.long y :: st) σ) : Ev M d r τ pc ls (.long x :: st) σ := k x rfl
theorem Ev_nmS (k : ∀ y : Sg, y = σ → Ev M d r τ pc ls st y) : Ev M d r τ pc ls st σ := k σ rfl
theorem Ev_alen {kd n : Nat} (k : Nat) {v : Int32} (hd : Dc M.2.1 pc .arraylength 1 pc') (hs : SK[k]? = some (kd, [n])) (hk : kd = 100 ∨ kd = 101 ∨ kd = 102) (hv : Int32.ofNat n = v) (kk : Ev M d r τ pc' ls (.int v :: st) σ) : Ev M d r τ pc ls (.ref k :: st) σ := by
  obtain ⟨h1, rfl⟩ := hd
  intro p l e R s m args below meth c D tc ad C H locs LS hP hS hl
  have ha := wsO_at tc ad σ hs
  rcases hk with rfl | rfl | rfl
  · exact va_alen C.1 C.2.1 C.2.2.2.2.2.2.2.1 hP k 0 ha rfl hv h1 (kk p l e R s m args below meth c D tc ad C H locs LS hP hS hl)
  · exact va_alen C.1 C.2.1 C.2.2.2.2.2.2.2.1 hP k 1 ha rfl hv h1 (kk p l e R s m args below meth c D tc ad C H locs LS hP hS hl)
  · exact va_alen C.1 C.2.1 C.2.2.2.2.2.2.2.1 hP k 2 ha rfl hv h1 (kk p l e R s m args below meth c D tc ad C H locs LS hP hS hl)
theorem Ev_iaload {n : Nat} (k : Nat) {i : Int32} (hd : Dc M.2.1 pc .iaload 1 pc') (hs : SK[k]? = some (100, [n])) (hin : inB i n = true) (kk : Ev M d r τ pc' ls (.int (gI σ k i.toNatClampNeg) :: st) σ) : Ev M d r τ pc ls (.int i :: .ref k :: st) σ := by
  obtain ⟨h1, rfl⟩ := hd
  intro p l e R s m args below meth c D tc ad C H locs LS hP hS hl
  exact va_iald C.1 C.2.1 C.2.2.2.2.2.2.2.1 hP k 0 (wsO_at tc ad σ hs) rfl (inB_vp hin) h1 (kk p l e R s m args below meth c D tc ad C H locs LS hP hS hl)
theorem Ev_baload {n : Nat} (k : Nat) {i : Int32} (hd : Dc M.2.1 pc .baload 1 pc') (hs : SK[k]? = some (101, [n])) (hin : inB i n = true) (kk : Ev M d r τ pc' ls (.int (gI σ k i.toNatClampNeg) :: st) σ) : Ev M d r τ pc ls (.int i :: .ref k :: st) σ := by
  obtain ⟨h1, rfl⟩ := hd
  intro p l e R s m args below meth c D tc ad C H locs LS hP hS hl
  exact va_zald C.1 C.2.1 C.2.2.2.2.2.2.2.1 hP k 1 (wsO_at tc ad σ hs) rfl (inB_vp hin) h1 (kk p l e R s m args below meth c D tc ad C H locs LS hP hS hl)
theorem Ev_laload {n : Nat} (k : Nat) {i : Int32} (hd : Dc M.2.1 pc .laload 1 pc') (hs : SK[k]? = some (102, [n])) (hin : inB i n = true) (kk : Ev M d r τ pc' ls (.long (gL σ k i.toNatClampNeg) :: st) σ) : Ev M d r τ pc ls (.int i :: .ref k :: st) σ := by
  obtain ⟨h1, rfl⟩ := hd
  intro p l e R s m args below meth c D tc ad C H locs LS hP hS hl
  exact va_lald C.1 C.2.1 C.2.2.2.2.2.2.2.1 hP k 2 (wsO_at tc ad σ hs) rfl (inB_vp hin) h1 (kk p l e R s m args below meth c D tc ad C H locs LS hP hS hl)
theorem pI_row (σ : Sg) (k i : Nat) (x : Int32) : gI (pI σ k i x) k = upd (gI σ k) i x := by
  funext j; simp only [gI_pI, upd, true_and]
theorem pL_row (σ : Sg) (k i : Nat) (x : Int64) : gL (pL σ k i x) k = vp_updL (gL σ k) i x := by
  funext j; simp only [gL_pL, vp_updL, true_and]
theorem pI_off (σ : Sg) (k i : Nat) (x : Int32) : ∀ j, j ≠ k → gI (pI σ k i x) j = gI σ j ∧ gL (pI σ k i x) j = gL σ j ∧ gR (pI σ k i x) j = gR σ j := fun j hj => ⟨by funext a; simp [gI_pI, hj], rfl, rfl⟩
theorem pL_off (σ : Sg) (k i : Nat) (x : Int64) : ∀ j, j ≠ k → gI (pL σ k i x) j = gI σ j ∧ gL (pL σ k i x) j = gL σ j ∧ gR (pL σ k i x) j = gR σ j := fun j hj => ⟨rfl, by funext a; simp [gL_pL, hj], rfl⟩
theorem pR_off (σ : Sg) (k i : Nat) (x : Nat) : ∀ j, j ≠ k → gI (pR σ k i x) j = gI σ j ∧ gL (pR σ k i x) j = gL σ j ∧ gR (pR σ k i x) j = gR σ j := fun j hj => ⟨rfl, rfl, by funext a; simp [gR_pR, hj]⟩
theorem Ev_iastore {n : Nat} (k : Nat) {i : Int32} {x : Int32} (hd : Dc M.2.1 pc .iastore 1 pc') (hs : SK[k]? = some (100, [n])) (hin : inB i n = true) (kk : Ev M d r τ pc' ls st (pI σ k i.toNatClampNeg x)) : Ev M d r τ pc ls (.int x :: .int i :: .ref k :: st) σ := by
  obtain ⟨h1, rfl⟩ := hd
  intro p l e R s m args below meth c D tc ad C H locs LS hP hS hl
  refine va_iast C.1 C.2.1 C.2.2.2.2.2.2.2.1 hP (wsO_D tc C.2.2.2.2.2.2.2.2.2.1 σ) hS k 0 (wsO_at tc ad σ hs) rfl (inB_vp hin) h1 (fun H1 locs1 hP1 _ hS1 => ?_)
  rw [wsO_set (τ := pI σ k i.toNatClampNeg x) hs (by show _ = (Sum.inl (tc 0, n, Sum.inl (gI (pI σ k i.toNatClampNeg x) k)) : va_E); rw [pI_row]; rfl) (pI_off σ k _ _)] at hP1
  exact kk p l e R s m args below meth c D tc ad C H1 locs1 LS hP1 hS1 hl
theorem Ev_bastore {n : Nat} (k : Nat) {i : Int32} {x : Int32} (hd : Dc M.2.1 pc .bastore 1 pc') (hs : SK[k]? = some (101, [n])) (hin : inB i n = true) (kk : Ev M d r τ pc' ls st (pI σ k i.toNatClampNeg (x &&& 1))) : Ev M d r τ pc ls (.int x :: .int i :: .ref k :: st) σ := by
  obtain ⟨h1, rfl⟩ := hd
  intro p l e R s m args below meth c D tc ad C H locs LS hP hS hl
  refine va_zast C.1 C.2.1 C.2.2.2.2.2.2.2.1 hP (wsO_D tc C.2.2.2.2.2.2.2.2.2.1 σ) hS k 1 (wsO_at tc ad σ hs) rfl (inB_vp hin) h1 (fun H1 locs1 hP1 _ hS1 => ?_)
  rw [wsO_set (τ := pI σ k i.toNatClampNeg (x &&& 1)) hs (by show _ = (Sum.inl (tc 1, n, Sum.inl (gI (pI σ k i.toNatClampNeg (x &&& 1)) k)) : va_E); rw [pI_row]; rfl) (pI_off σ k _ _)] at hP1
  exact kk p l e R s m args below meth c D tc ad C H1 locs1 LS hP1 hS1 hl
theorem Ev_lastore {n : Nat} (k : Nat) {i : Int32} {x : Int64} (hd : Dc M.2.1 pc .lastore 1 pc') (hs : SK[k]? = some (102, [n])) (hin : inB i n = true) (kk : Ev M d r τ pc' ls st (pL σ k i.toNatClampNeg x)) : Ev M d r τ pc ls (.long x :: .int i :: .ref k :: st) σ := by
  obtain ⟨h1, rfl⟩ := hd
  intro p l e R s m args below meth c D tc ad C H locs LS hP hS hl
  refine va_last C.1 C.2.1 C.2.2.2.2.2.2.2.1 hP (wsO_D tc C.2.2.2.2.2.2.2.2.2.1 σ) hS k 2 (wsO_at tc ad σ hs) rfl (inB_vp hin) h1 (fun H1 locs1 hP1 _ hS1 => ?_)
  rw [wsO_set (τ := pL σ k i.toNatClampNeg x) hs (by show _ = (Sum.inl (tc 2, n, Sum.inr (Sum.inl (gL (pL σ k i.toNatClampNeg x) k))) : va_E); rw [pL_row]; rfl) (pL_off σ k _ _)] at hP1
  exact kk p l e R s m args below meth c D tc ad C H1 locs1 LS hP1 hS1 hl
/-- entry ix of own's pool is field i of class ci -/
def FF (own : String) (ix ci i : Nat) : Prop := ∃ (C : String) (T : u_T) (N : Nat) (ty0 : Nat → FieldType), vwCl[ci]? = some (C, T, N) ∧ i < N ∧ (∀ w ∈ u_ws C T N, w ∈ tbl) ∧ (T i).1 = C ∧ (Cond.fieldLink own ix C (T i).2.1 (T i).2.2.1 ∈ tbl ∨ ∃ host, Cond.fieldLinkNest own ix C (T i).2.1 (T i).2.2.1 host ∈ nst) ∧ (∀ k, k < N → parseFieldDescriptor (T k).2.2.1 = some (ty0 k)) ∧ (∀ a, a < N → ∀ b, b < N → a ≠ b → (T a).2.1 ≠ (T b).2.1)
/-- it isn't final, its type is ty -/
def FW (ci i : Nat) (ty : FieldType) : Prop := ∃ q, vwCl[ci]? = some q ∧ (q.2.1 i).2.2.2 = false ∧ parseFieldDescriptor (q.2.1 i).2.2.1 = some ty
theorem ent_obj {tc : Nat → ClassId} {ad : Nat → Nat} {σ : Sg} {k ci : Nat} {fl : List Nat} (h : ci < 100) : ent tc ad σ k (ci, fl) = .inr (ci, fl.mapIdx (fun i c => cv ad (aval σ k i c))) := by
  unfold ent
  split <;> first | rfl | (exfalso; simp only at *; omega)
theorem Ev_get {k ci i c0 ix : Nat} {fl : List Nat} {v : Value} (hd : Dc M.2.1 pc (.getfield ix) 3 pc') (hf : FF M.1.cls ix ci i) (hs : SK[k]? = some (ci, fl)) (hi : fl[i]? = some c0) (hv : aval σ k i c0 = v) (kk : Ev M d r τ pc' ls (v :: st) σ) : Ev M d r τ pc ls (.ref k :: st) σ := by
  obtain ⟨h1, rfl⟩ := hd
  obtain ⟨C1, T, N, ty0, g1, g2, g3, g4, g5, g6, g7⟩ := hf
  intro p l e R s m args below meth c D tc ad C H locs LS hP hS hl
  have hci : ci < 100 := Nat.lt_of_lt_of_le (List.getElem?_eq_some_iff.mp g1).1 (by decide)
  have ha := wsO_at tc ad σ hs
  rw [ent_obj hci] at ha
  have hfv : (fl.mapIdx (fun i c => cv ad (aval σ k i c)))[i]? = some (cv ad v) := by rw [List.getElem?_mapIdx, hi, ← hv]; rfl
  have hown := C.2.2.2.2.2.1
  have hK := C.2.2.2.2.2.2.2.1
  rcases g5 with g5 | ⟨host, g5⟩
  · exact va_get C.1 C.2.1 C.2.2.2.2.1 g3 hown hK hP k ha g1 i g2 (C.2.2.2.2.1 _ g5) (fun x hx => by rw [g4] at hx; exact hx) hfv h1 (kk p l e R s m args below meth c D tc ad C H locs LS hP hS hl)
  · exact va_getN C.1 C.2.1 C.2.2.2.2.1 g3 hown hK hP k ha g1 i g2 (va_Nw.use rfl (C.2.2.2.2.2.2.2.2.1 _ g5)) (fun x hx => by rw [g4] at hx; exact hx) hfv h1 (kk p l e R s m args below meth c D tc ad C H locs LS hP hS hl)
theorem mapIdx_set {fl : List Nat} {f g : Nat → Nat → Value} {i : Nat} {v : Value} {c0 : Nat} (hi : fl[i]? = some c0) (hv : g i c0 = v) (h : ∀ j c, j ≠ i → g j c = f j c) : (fl.mapIdx f).set i v = fl.mapIdx g := by
  apply List.ext_getElem?
  intro j
  by_cases hj : j = i
  · subst hj
    rw [List.getElem?_set_self (by rw [List.length_mapIdx]; exact (List.getElem?_eq_some_iff.mp hi).1), List.getElem?_mapIdx, hi, ← hv]; rfl
  · rw [List.getElem?_set_ne (Ne.symm hj), List.getElem?_mapIdx, List.getElem?_mapIdx]
    cases fl[j]? with
    | none => rfl
    | some c => simp only [Option.map_some, h j c hj]
theorem put_row {k i : Nat} {σ τ : Sg} (h1 : ∀ j, j ≠ i → gI τ k j = gI σ k j) (h2 : ∀ j, j ≠ i → gL τ k j = gL σ k j) (h3 : ∀ j, j ≠ i → gR τ k j = gR σ k j) (ad : Nat → Nat) : ∀ j c, j ≠ i → cv ad (aval τ k j c) = cv ad (aval σ k j c) := by
  intro j c hj
  unfold aval
  split
  · rw [h1 j hj]
  · rw [h2 j hj]
  · rw [h3 j hj]
  · rfl
theorem put_any {k ci i c0 ix : Nat} {fl : List Nat} {v : Value} {ty : FieldType} (σ' : Sg) (hd : Dc M.2.1 pc (.putfield ix) 3 pc') (hf : FF M.1.cls ix ci i) (hw : FW ci i ty) (hs : SK[k]? = some (ci, fl)) (hi : fl[i]? = some c0) (hn : ∀ ad, narrow ty (cv ad v) = cv ad v) (hfit : ∀ ad, fits ty (cv ad v) = true) (hv : aval σ' k i c0 = v) (hrow : (∀ j, j ≠ i → gI σ' k j = gI σ k j) ∧ (∀ j, j ≠ i → gL σ' k j = gL σ k j) ∧ (∀ j, j ≠ i → gR σ' k j = gR σ k j)) (hoff : ∀ j, j ≠ k → gI σ' j = gI σ j ∧ gL σ' j = gL σ j ∧ gR σ' j = gR σ j) (kk : Ev M d r τ pc' ls st σ') : Ev M d r τ pc ls (v :: .ref k :: st) σ := by
  obtain ⟨h1, rfl⟩ := hd
  obtain ⟨C1, T, N, ty0, g1, g2, g3, g4, g5, g6, g7⟩ := hf
  obtain ⟨q, w1, w2, w3⟩ := hw
  rw [g1] at w1; cases w1
  intro p l e R s m args below meth c D tc ad C H locs LS hP hS hl
  have hci : ci < 100 := Nat.lt_of_lt_of_le (List.getElem?_eq_some_iff.mp g1).1 (by decide)
  have ha := wsO_at tc ad σ hs
  rw [ent_obj hci] at ha
  have hlen : i < (fl.mapIdx (fun i c => cv ad (aval σ k i c))).length := by rw [List.length_mapIdx]; exact (List.getElem?_eq_some_iff.mp hi).1
  have hset : (wsO tc ad σ).set k (ad k, .inr (ci, (fl.mapIdx (fun i c => cv ad (aval σ k i c))).set i (cv ad v))) = wsO tc ad σ' := by
    refine wsO_set hs ?_ hoff
    rw [ent_obj hci, mapIdx_set hi (by rw [hv]) (put_row hrow.1 hrow.2.1 hrow.2.2 ad)]
  have hown := C.2.2.2.2.2.1
  have hK := C.2.2.2.2.2.2.2.1
  have hD := wsO_D tc C.2.2.2.2.2.2.2.2.2.1 σ
  rcases g5 with g5 | ⟨host, g5⟩
  · refine va_put C.1 C.2.1 C.2.2.2.2.1 g3 ty0 g6 g7 hown hK hP hD hS k ha g1 i g2 (C.2.2.2.2.1 _ g5) (fun x hx => by rw [g4] at hx; exact hx) w2 w3 (hn ad) (hfit ad) hlen h1 (fun H1 locs1 hP1 _ hS1 => ?_)
    rw [hset] at hP1
    exact kk p l e R s m args below meth c D tc ad C H1 locs1 LS hP1 hS1 hl
  · refine va_putN C.1 C.2.1 C.2.2.2.2.1 g3 ty0 g6 g7 hown hK hP hD hS k ha g1 i g2 (va_Nw.use rfl (C.2.2.2.2.2.2.2.2.1 _ g5)) (fun x hx => by rw [g4] at hx; exact hx) w2 w3 (hn ad) (hfit ad) hlen h1 (fun H1 locs1 hP1 _ hS1 => ?_)
    rw [hset] at hP1
    exact kk p l e R s m args below meth c D tc ad C H1 locs1 LS hP1 hS1 hl
theorem Ev_putI {k ci i ix : Nat} {fl : List Nat} {x : Int32} (hd : Dc M.2.1 pc (.putfield ix) 3 pc') (hf : FF M.1.cls ix ci i) (hw : FW ci i .int) (hs : SK[k]? = some (ci, fl)) (hi : fl[i]? = some 0) (kk : Ev M d r τ pc' ls st (pI σ k i x)) : Ev M d r τ pc ls (.int x :: .ref k :: st) σ :=
  put_any (pI σ k i x) hd hf hw hs hi (fun _ => rfl) (fun _ => rfl) (by simp only [aval, gI_pI, and_self, if_true]) ⟨fun j hj => by simp [gI_pI, hj], fun _ _ => rfl, fun _ _ => rfl⟩ (pI_off σ k i x) kk
theorem Ev_putZ {k ci i ix : Nat} {fl : List Nat} {x : Int32} (hx : x = 0 ∨ x = 1) (hd : Dc M.2.1 pc (.putfield ix) 3 pc') (hf : FF M.1.cls ix ci i) (hw : FW ci i .boolean) (hs : SK[k]? = some (ci, fl)) (hi : fl[i]? = some 0) (kk : Ev M d r τ pc' ls st (pI σ k i x)) : Ev M d r τ pc ls (.int x :: .ref k :: st) σ :=
  put_any (pI σ k i x) hd hf hw hs hi (fun _ => by rcases hx with rfl | rfl <;> rfl) (fun _ => by rcases hx with rfl | rfl <;> rfl) (by simp only [aval, gI_pI, and_self, if_true]) ⟨fun j hj => by simp [gI_pI, hj], fun _ _ => rfl, fun _ _ => rfl⟩ (pI_off σ k i x) kk
theorem Ev_putL {k ci i ix : Nat} {fl : List Nat} {x : Int64} (hd : Dc M.2.1 pc (.putfield ix) 3 pc') (hf : FF M.1.cls ix ci i) (hw : FW ci i .long) (hs : SK[k]? = some (ci, fl)) (hi : fl[i]? = some 1) (kk : Ev M d r τ pc' ls st (pL σ k i x)) : Ev M d r τ pc ls (.long x :: .ref k :: st) σ :=
  put_any (pL σ k i x) hd hf hw hs hi (fun _ => rfl) (fun _ => rfl) (by simp only [aval, gL_pL, and_self, if_true]) ⟨fun _ _ => rfl, fun j hj => by simp [gL_pL, hj], fun _ _ => rfl⟩ (pL_off σ k i x) kk
theorem Ev_putR {k ci i ix : Nat} {fl : List Nat} {x : Nat} (hd : Dc M.2.1 pc (.putfield ix) 3 pc') (hf : FF M.1.cls ix ci i) (hw : FW ci i (.array .int)) (hs : SK[k]? = some (ci, fl)) (hi : fl[i]? = some 2) (kk : Ev M d r τ pc' ls st (pR σ k i x)) : Ev M d r τ pc ls (.ref x :: .ref k :: st) σ :=
  put_any (pR σ k i x) hd hf hw hs hi (fun _ => rfl) (fun _ => rfl) (by simp only [aval, gR_pR, and_self, if_true]) ⟨fun _ _ => rfl, fun _ _ => rfl, fun j hj => by simp [gR_pR, hj]⟩ (pR_off σ k i x) kk
theorem Ev_aaload {t kd : Nat} {cs : List Nat} {c1 : Nat} (k : Nat) {i : Int32} (hd : Dc M.2.1 pc .aaload 1 pc') (hs : SK[k]? = some (kd, cs)) (hk : kd = 103 ∨ kd = 104) (hin : inB i cs.length = true) (hc : cs[i.toNatClampNeg]? = some c1) (kk : Ev M d r τ pc' ls (.ref c1 :: st) σ) : Ev M d r τ pc ls (.int i :: .ref k :: st) σ := by
  obtain ⟨h1, rfl⟩ := hd
  intro p l e R s m args below meth c D tc ad C H locs LS hP hS hl
  have ha := wsO_at tc ad σ hs
  have kk := kk p l e R s m args below meth c D tc ad C H locs LS hP hS hl
  rcases hk with rfl | rfl
  · refine va_aldq C.1 C.2.1 C.2.2.2.2.2.2.2.1 hP k 3 ha rfl (inB_vp hin) h1 ?_
    simp only [hc, Option.map_some]
    exact kk
  · refine va_aldq C.1 C.2.1 C.2.2.2.2.2.2.2.1 hP k 4 ha rfl (inB_vp hin) h1 ?_
    simp only [hc, Option.map_some]
    exact kk
theorem Qo_of {D : va_G} {tc : Nat → ClassId} {ad : Nat → Nat} {s t : State} {args : Array Value} {v : Option Value} {τ : Sg} {H : Heap} {locs : List Loc} (hP : va_P D vwCl (wsO tc ad τ) H) (hS : va_S (Ao ad) s.heap H locs) (ht : t.heap = H) : Qo D tc ad v τ args s (.returned (v.map (cv ad))) t := ⟨rfl, by rw [ht]; exact hP, hS.F ht⟩
theorem Ev_iret {v x : Int32} (hd : Dc M.2.1 pc .ireturn 1 pc') (hr : M.2.2.2 = some .int) (h : some (v, σ) = some (x, τ)) : Ev M d (some (.int x)) τ pc ls [.int v] σ := by
  cases h
  obtain ⟨h1, rfl⟩ := hd
  intro p l e R s m args below meth c D tc ad C H locs LS hP hS hl
  exact W.iret C.1 C.2.1 (C.2.2.2.1.trans hr) (fun t ht _ => Qo_of (v := some (.int v)) hP hS ht) hS.2.2 h1 C.2.2.2.2.2.2.1
theorem Ev_zret {v x : Int32} (hd : Dc M.2.1 pc .ireturn 1 pc') (hr : M.2.2.2 = some .boolean) (hz : v &&& 1 = v) (h : some (v, σ) = some (x, τ)) : Ev M d (some (.int x)) τ pc ls [.int v] σ := by
  cases h
  obtain ⟨h1, rfl⟩ := hd
  intro p l e R s m args below meth c D tc ad C H locs LS hP hS hl
  exact W.zret (ty := .boolean) C.1 C.2.1 (C.2.2.2.1.trans hr) (by show Value.int (v &&& 1) = Value.int v; rw [hz]) (fun t ht _ => Qo_of (v := some (.int v)) hP hS ht) hS.2.2 h1 C.2.2.2.2.2.2.1
theorem Ev_lret {v x : Int64} (hd : Dc M.2.1 pc .lreturn 1 pc') (hr : M.2.2.2 = some .long) (h : some (v, σ) = some (x, τ)) : Ev M d (some (.long x)) τ pc ls [.long v] σ := by
  cases h
  obtain ⟨h1, rfl⟩ := hd
  intro p l e R s m args below meth c D tc ad C H locs LS hP hS hl
  exact W.lret C.1 C.2.1 (C.2.2.2.1.trans hr) (fun t ht _ => Qo_of (v := some (.long v)) hP hS ht) hS.2.2 h1 C.2.2.2.2.2.2.1
theorem Ev_vret (hd : Dc M.2.1 pc .return_ 1 pc') (hr : M.2.2.2 = none) (h : some σ = some τ) : Ev M d none τ pc ls [] σ := by
  cases h
  obtain ⟨h1, rfl⟩ := hd
  intro p l e R s m args below meth c D tc ad C H locs LS hP hS hl
  exact W.vret C.1 C.2.1 (C.2.2.2.1.trans hr) (fun t ht _ => Qo_of (v := none) hP hS ht) hS.2.2 h1 C.2.2.2.2.2.2.1
end EVR
end
section
/-! CALLS over Ev: what the tables say of a call (CF..), and the rows -/
def CFn (Z : MI) (n : Nat) : Prop := codeW Z ∈ tbl ∧ Cond.initialized Z.1.cls ∈ tbl ∧ Z.2.2.1 ≤ 26 ∧ (Z.1.cls ≠ "java/lang/invoke/MethodHandle" ∧ Z.1.cls ≠ "java/lang/invoke/VarHandle" ∧ (parseMethodDescriptor Z.1.desc).map (fun d => d.parameters.length) = some n)
def CFV (own : String) (ix : Nat) (Z : MI) (n : Nat) : Prop := CFn Z n ∧ (Cond.methodLink own ix Z.1 ∈ tbl ∨ ∃ host, Cond.methodLinkNest own ix Z.1 host ∈ nst) ∧ Cond.instanceMethod Z.1 ∈ tbl ∧ Cond.selects Z.1.cls Z.1 Z.1 ∈ tbl
def CFS (own : String) (ix : Nat) (Z : MI) (n : Nat) : Prop := CFn Z n ∧ (Cond.methodLink own ix Z.1 ∈ tbl ∨ ∃ host, Cond.methodLinkNest own ix Z.1 host ∈ nst) ∧ Cond.static Z.1 ∈ tbl
/-- the receiver is a C, the named method x, declared in x's own class; Z is run -/
def CFO (own : String) (ix : Nat) (C : String) (x : MethodName) (Z : MI) (n : Nat) : Prop := CFn Z n ∧ Cond.methodLink own ix x ∈ tbl ∧ Cond.sameMethod x.cls x.cls x.name x.desc ∈ tbl ∧ Cond.instanceMethod x ∈ tbl ∧ Cond.selects C x Z.1 ∈ tbl ∧ Cond.instanceMethod Z.1 ∈ tbl ∧ (∃ b0 m0 r0, Cond.code x b0 m0 r0 ∈ tbl) ∧ (x.cls ≠ "java/lang/invoke/MethodHandle" ∧ x.cls ≠ "java/lang/invoke/VarHandle" ∧ (parseMethodDescriptor x.desc).map (fun d => d.parameters.length) = some n)
/-- the receiver is a C, the named method x is inherited from the class of Z -/
def CFU (own : String) (ix : Nat) (C : String) (x : MethodName) (Z : MI) (n : Nat) : Prop := CFn Z n ∧ Cond.methodLink own ix x ∈ tbl ∧ Cond.sameMethod x.cls Z.1.cls x.name x.desc ∈ tbl ∧ Cond.selects C x Z.1 ∈ tbl ∧ Cond.instanceMethod Z.1 ∈ tbl ∧ Z.1 = ⟨Z.1.cls, x.name, x.desc⟩ ∧ (parseMethodDescriptor x.desc).map (fun d => d.parameters.length) = some n
theorem rm_ok {dz d m : Nat} (h : dz < d) (hm : m ≤ 26) : (rmd dz).frames + 1 ≤ (rmd d).frames ∧ 8 + (m + 11) + (rmd dz).locals ≤ (rmd d).locals := by
  show dz + 1 ≤ d ∧ 8 + (m + 11) + 45 * dz ≤ 45 * d
  omega
theorem vk_R3_same {ad : Nat → Nat} {u U : State} (hv : U.vm = u.vm) (h : vk_R RX10 51 "places" (ad 90) u ∧ vk_R RX10 64 "person" (ad 91) u ∧ vk_R RX10 72 "errand" (ad 92) u) : vk_R RX10 51 "places" (ad 90) U ∧ vk_R RX10 64 "person" (ad 91) U ∧ vk_R RX10 72 "errand" (ad 92) U := ⟨vk_R.same hv h.1, vk_R.same hv h.2.1, vk_R.same hv h.2.2⟩
theorem SX_same {ad : Nat → Nat} {u U : State} {H : Heap} (hv : u.vm = U.vm) (h : SX ad u H) : SX ad U H := by
  have ha : u.vm.Alike U.vm := by rw [hv]; exact Vm.Alike.refl U.vm
  exact ⟨h.1.moved ha, vk_R3_same hv.symm h.2.1, h.2.2.1.moved ha, h.2.2.2.imp (fun z => z.moved ha) (fun z => z.moved ha)⟩
theorem SX_warm {ad : Nat → Nat} {s U : State} {H : Heap} (hW : s.WarmedH U.vm) (h : SX ad s H) : SX ad U H :=
  ⟨h.1.moved hW.alike, ⟨vk_R.warm hW h.2.1.1, vk_R.warm hW h.2.1.2.1, vk_R.warm hW h.2.1.2.2⟩, h.2.2.1.moved hW.alike, h.2.2.2.imp (fun z => z.moved hW.alike) (fun z => z.moved hW.alike)⟩
theorem SX_kept {ad : Nat → Nat} {s : State} {H0 H : Heap} {locs : List Loc} (h : SX ad s H0) (hS : va_S (Ao ad) H0 H locs) : SX ad s H :=
  ⟨h.1.kept hS.2.1, h.2.1, h.2.2.1.kept hS.2.1, h.2.2.2.imp (fun z => z.kept hS.2.1) (fun z => z.kept hS.2.1)⟩
theorem Po_blind {D : va_G} {tc : Nat → ClassId} {ad : Nat → Nat} {av : List Value} {σ : Sg} : FrameBlind (Po D tc ad av σ) := fun a U g mk q => ⟨q.1, q.2.1, va_K.moved (u := U) (U := U.calling g mk a) (Vm.Alike.refl U.vm) q.2.2.1, nst_same (u := U) (U := U.calling g mk a) rfl q.2.2.2.1, SX_same (u := U) (U := U.calling g mk a) rfl q.2.2.2.2⟩
theorem Po_now {D : va_G} {tc : Nat → ClassId} {ad : Nat → Nat} {av : List Value} {σ : Sg} {s : State} {H : Heap} (hP : va_P D vwCl (wsO tc ad σ) H) (hK : va_K D vwCl (tysO tc) s) (hN : ∀ w ∈ nst, va_Nw w s) (hX : SX ad s H) : ∀ U : State, U.heap = H → s.WarmedH U.vm → Po D tc ad av σ (av.map (cv ad)).toArray U := fun U hU hW => ⟨rfl, by rw [hU]; exact hP, va_K.moved hW.alike hK, nst_warm hW hN, by rw [hU]; exact SX_warm hW hX⟩
theorem cat_cv (ad : Nat → Nat) (st : List Value) : ((st.map (cv ad)).map fun v => v.category).sum = (st.map fun v => v.category).sum := by
  rw [List.map_map]
  congr 1
  apply List.map_congr_left
  intro v _
  exact cv_cat ad v
section EVC
variable {M Z : MI} {d dz n ix : Nat} {r r1 : Option Value} {τ σ σ1 : Sg} {pc pc' : Nat} {ls : List (Nat × Value)} {st stk st' : List Value} {As : List Value}
theorem W_back {p : Program} {l : Launch} {e : Env} {R : Room} {s : State} {m : MethodId} {args : Array Value} {below : List Frame} {meth : Method} {c : Code} {D : va_G} {tc : Nat → ClassId} {ad : Nat → Nat} {H : Heap} {locs : List Loc} {LS : Array Slot} {ST REST : List Value} {a : Array Value} {Q : State → Prop}
    (hr : va_Run p l e R s m args below meth c H locs 0 0 0 0 (F0 m pc LS ST) REST (Qo D tc ad r1 σ1 a) (Ao ad)) (hS : va_S (Ao ad) s.heap H locs)
    (kk : ∀ (H1 : Heap) (locs1 : List Loc), va_P D vwCl (wsO tc ad σ1) H1 → va_S (Ao ad) s.heap H1 locs1 → W p l e R s m args below meth c H1 locs1 0 0 Q (F0 m (pc + 3) LS ((r1.map (cv ad)).toList ++ REST))) : W p l e R s m args below meth c H locs 0 0 Q (F0 m pc LS ST) := by
  intro T hT X
  obtain ⟨v, st₀, t, T', L, h0, X', hL, e1, e2, ⟨hv, hP, hz, hk⟩, stp⟩ := hr T hT X
  cases hv
  rw [h0] at hz hk
  have hS1 : va_S (Ao ad) s.heap T'.heap (locs ++ L) := ⟨Nat.le_trans hS.1 (by rw [e1]; exact hz), fun q h1 h2 => by rw [e1, hk q (Nat.lt_of_lt_of_le h1 hS.1) h2]; exact hS.2.1 q h1 h2, fun q hq => by
      rcases List.mem_append.mp hq with h | h
      · exact hS.2.2 q h
      · exact hL q h⟩
  obtain ⟨t2, a1, b1⟩ := kk T'.heap (locs ++ L) (by rw [e1]; exact hP) hS1 T' rfl X'
  exact ⟨t2, stp t2 a1, b1⟩
theorem Ev_callV {k ci : Nat} {fl : List Nat} (As : List Value) (hd : Dc M.2.1 pc (.invokevirtual ix) 3 pc') (cf : CFV M.1.cls ix Z n) (hz : Cal Z dz (.ref k :: As) σ r1 σ1) (hlt : dz < d) (hs : SK[k]? = some (ci, fl)) (hc : (vwCl[ci]?).map (fun q => q.1) = some Z.1.cls) (hn : As.length = n) (hst : stk = As.reverse ++ .ref k :: st) (hroom : (st.map fun v => v.category).sum ≤ 8) (hst' : r1.toList ++ st = st') (kk : Ev M d r τ pc' ls st' σ1) : Ev M d r τ pc ls stk σ := by
  obtain ⟨h1, rfl⟩ := hd
  subst hst; subst hst'
  obtain ⟨⟨f1, f2, f3, f4⟩, f5, f6, f7⟩ := cf
  intro p l e R s m args below meth c D tc ad C H locs LS hP hS hl
  obtain ⟨C1, C2, C3, C4, C5, C6, C7, C8, C9, C10, rfl, C12⟩ := C
  have hwz := wz_tbl f1
  have ha := wsO_at tc ad σ hs
  cases hv : vwCl[ci]? with
  | none => rw [hv] at hc; cases hc
  | some q =>
  rw [hv] at hc
  have hci : ci < 100 := Nat.lt_of_lt_of_le (List.getElem?_eq_some_iff.mp hv).1 (by decide)
  rw [ent_obj hci] at ha
  have hrecv := va_recv C8 hP hv ha
  have hc2 : q.1 = _ := Option.some.inj hc
  rw [hc2] at hrecv
  have hstk : (As.reverse ++ .ref k :: st).map (cv ad) = (As.map (cv ad)).reverse ++ .ref (ad k) :: st.map (cv ad) := by rw [List.map_append, List.map_reverse]; rfl
  rw [hstk]
  refine W_back (σ1 := σ1) (r1 := r1) (REST := st.map (cv ad)) (a := ((.ref k :: As).map (cv ad)).toArray) (D := D) (tc := tc) (ad := ad) ?_ hS (fun H1 locs1 hP1 hS1 => ?_)
  · rcases f5 with f5 | ⟨host, f5⟩
    · exact va_runV (b := ad k) (As := As.map (cv ad)) (rest := st.map (cv ad)) ⟨C1, C2, C3, C6, C5⟩ (hz l D tc ad C10) (cwV n C5 (goodT (fun _ h => h) (fun w hw => by
          rcases List.mem_append.mp hw with hw | hw
          · simp only [List.mem_cons, List.not_mem_nil, or_false] at hw
            rcases hw with rfl | rfl | rfl | rfl
            · exact f5
            · exact f6
            · exact f7
            · exact f2
          · exact hwz w hw)) rfl rfl rfl ⟨rfl, f4⟩ (rm_ok hlt f3)) ⟨Po_blind, hrecv, Po_now (av := .ref k :: As) hP C8 C9 (SX_kept C12 hS)⟩ rfl (by rw [List.length_map]; exact hn) hl.1 rfl (lv_room (by rw [cat_cv]; exact hroom)) h1 ⟨Nat.zero_le _, Nat.zero_le _⟩
    · exact va_runVN (b := ad k) (As := As.map (cv ad)) (rest := st.map (cv ad)) ⟨C1, C2, C3, C6, C5⟩ (hz l D tc ad C10) ⟨va_cnB n C5 (goodT (fun _ h => h) hwz) rfl rfl rfl (C9 _ f5) (C5 _ f2) f4 (rm_ok hlt f3), C5 _ f6, C5 _ f7⟩ ⟨Po_blind, hrecv, Po_now (av := .ref k :: As) hP C8 C9 (SX_kept C12 hS)⟩ rfl (by rw [List.length_map]; exact hn) hl.1 rfl (lv_room (by rw [cat_cv]; exact hroom)) h1 ⟨Nat.zero_le _, Nat.zero_le _⟩
  · have hk := kk p l e _ s m args below meth c D tc ad ⟨C1, C2, C3, C4, C5, C6, C7, C8, C9, C10, rfl, C12⟩ H1 locs1 LS hP1 hS1 hl
    rw [List.map_append] at hk
    cases r1 <;> exact hk
theorem Ev_callS (As : List Value) (hd : Dc M.2.1 pc (.invokestatic ix) 3 pc') (cf : CFS M.1.cls ix Z n) (hz : Cal Z dz As σ r1 σ1) (hlt : dz < d) (hn : As.length = n) (hst : stk = As.reverse ++ st) (hroom : (st.map fun v => v.category).sum ≤ 8) (hst' : r1.toList ++ st = st') (kk : Ev M d r τ pc' ls st' σ1) : Ev M d r τ pc ls stk σ := by
  obtain ⟨h1, rfl⟩ := hd
  subst hst; subst hst'
  obtain ⟨⟨f1, f2, f3, f4⟩, f5, f6⟩ := cf
  intro p l e R s m args below meth c D tc ad C H locs LS hP hS hl
  obtain ⟨C1, C2, C3, C4, C5, C6, C7, C8, C9, C10, rfl, C12⟩ := C
  have hwz := wz_tbl f1
  have hstk : (As.reverse ++ st).map (cv ad) = (As.map (cv ad)).reverse ++ st.map (cv ad) := by rw [List.map_append, List.map_reverse]
  rw [hstk]
  refine W_back (σ1 := σ1) (r1 := r1) (REST := st.map (cv ad)) (a := (As.map (cv ad)).toArray) (D := D) (tc := tc) (ad := ad) ?_ hS (fun H1 locs1 hP1 hS1 => ?_)
  · rcases f5 with f5 | ⟨host, f5⟩
    · exact va_runS (As := As.map (cv ad)) (rest := st.map (cv ad)) ⟨C1, C2, C3, C6, C5⟩ (hz l D tc ad C10) (va_cwS n C5 (goodT (fun _ h => h) (fun w hw => by
          rcases List.mem_append.mp hw with hw | hw
          · simp only [List.mem_cons, List.not_mem_nil, or_false] at hw
            rcases hw with rfl | rfl | rfl
            · exact f5
            · exact f6
            · exact f2
          · exact hwz w hw)) rfl rfl rfl f4 (rm_ok hlt f3)) ⟨Po_blind, Po_now (av := As) hP C8 C9 (SX_kept C12 hS)⟩ rfl (by rw [List.length_map]; exact hn) hl.1 rfl (lv_room (by rw [cat_cv]; exact hroom)) h1 ⟨Nat.zero_le _, Nat.zero_le _⟩
    · exact va_runSN (As := As.map (cv ad)) (rest := st.map (cv ad)) ⟨C1, C2, C3, C6, C5⟩ (hz l D tc ad C10) ⟨va_cnB n C5 (goodT (fun _ h => h) hwz) rfl rfl rfl (C9 _ f5) (C5 _ f2) f4 (rm_ok hlt f3), C5 _ f6, trivial⟩ ⟨Po_blind, Po_now (av := As) hP C8 C9 (SX_kept C12 hS)⟩ rfl (by rw [List.length_map]; exact hn) hl.1 rfl (lv_room (by rw [cat_cv]; exact hroom)) h1 ⟨Nat.zero_le _, Nat.zero_le _⟩
  · have hk := kk p l e _ s m args below meth c D tc ad ⟨C1, C2, C3, C4, C5, C6, C7, C8, C9, C10, rfl, C12⟩ H1 locs1 LS hP1 hS1 hl
    rw [List.map_append] at hk
    cases r1 <;> exact hk
theorem Ev_callX {C0 owner : String} {x : MethodName} {k ci : Nat} {fl : List Nat} (As : List Value) (hd : Dc M.2.1 pc (.invokevirtual ix) 3 pc') (cf : CFn Z n) (cw : ∀ (R : Room) (s : State) (args : Array Value), (∀ w ∈ tbl, w.before args s = true) → ((rmd dz).frames + 1 ≤ R.frames ∧ 8 + (Z.2.2.1 + 11) + (rmd dz).locals ≤ R.locals) → va_CU R s args M.1.cls C0 owner ix x Z.1 Z.2.1 Z.2.2.1 Z.2.2.2 (wz Z) (rmd dz) 0 0 n) (hz : Cal Z dz (.ref k :: As) σ r1 σ1) (hlt : dz < d) (hs : SK[k]? = some (ci, fl)) (hc : (vwCl[ci]?).map (fun q => q.1) = some C0) (hn : As.length = n) (hst : stk = As.reverse ++ .ref k :: st) (hroom : (st.map fun v => v.category).sum ≤ 8) (hst' : r1.toList ++ st = st') (kk : Ev M d r τ pc' ls st' σ1) : Ev M d r τ pc ls stk σ := by
  obtain ⟨h1, rfl⟩ := hd
  subst hst; subst hst'
  obtain ⟨f1, f2, f3, f4⟩ := cf
  intro p l e R s m args below meth c D tc ad C H locs LS hP hS hl
  obtain ⟨C1, C2, C3, C4, C5, C6, C7, C8, C9, C10, rfl, C12⟩ := C
  have ha := wsO_at tc ad σ hs
  cases hv : vwCl[ci]? with
  | none => rw [hv] at hc; cases hc
  | some q =>
  rw [hv] at hc
  have hci : ci < 100 := Nat.lt_of_lt_of_le (List.getElem?_eq_some_iff.mp hv).1 (by decide)
  rw [ent_obj hci] at ha
  have hrecv := va_recv C8 hP hv ha
  have hc2 : q.1 = _ := Option.some.inj hc
  rw [hc2] at hrecv
  have hstk : (As.reverse ++ .ref k :: st).map (cv ad) = (As.map (cv ad)).reverse ++ .ref (ad k) :: st.map (cv ad) := by rw [List.map_append, List.map_reverse]; rfl
  rw [hstk]
  refine W_back (σ1 := σ1) (r1 := r1) (REST := st.map (cv ad)) (a := ((.ref k :: As).map (cv ad)).toArray) (D := D) (tc := tc) (ad := ad) ?_ hS (fun H1 locs1 hP1 hS1 => ?_)
  · exact va_runU (b := ad k) (As := As.map (cv ad)) (rest := st.map (cv ad)) ⟨C1, C2, C3, C6, C5⟩ (hz l D tc ad C10) (cw _ s args C5 (rm_ok hlt f3)) ⟨Po_blind, hrecv, Po_now (av := .ref k :: As) hP C8 C9 (SX_kept C12 hS)⟩ rfl (by rw [List.length_map]; exact hn) hl.1 rfl (lv_room (by rw [cat_cv]; exact hroom)) h1 ⟨Nat.zero_le _, Nat.zero_le _⟩
  · have hk := kk p l e _ s m args below meth c D tc ad ⟨C1, C2, C3, C4, C5, C6, C7, C8, C9, C10, rfl, C12⟩ H1 locs1 LS hP1 hS1 hl
    rw [List.map_append] at hk
    cases r1 <;> exact hk
theorem Ev_callO {C0 : String} {x : MethodName} {k ci : Nat} {fl : List Nat} (As : List Value) (hd : Dc M.2.1 pc (.invokevirtual ix) 3 pc') (cf : CFO M.1.cls ix C0 x Z n) (hz : Cal Z dz (.ref k :: As) σ r1 σ1) (hlt : dz < d) (hs : SK[k]? = some (ci, fl)) (hc : (vwCl[ci]?).map (fun q => q.1) = some C0) (hn : As.length = n) (hst : stk = As.reverse ++ .ref k :: st) (hroom : (st.map fun v => v.category).sum ≤ 8) (hst' : r1.toList ++ st = st') (kk : Ev M d r τ pc' ls st' σ1) : Ev M d r τ pc ls stk σ := by
  obtain ⟨f0, f1, f2, f3, f4, f5, ⟨b0, m0, r0, f6⟩, f7⟩ := cf
  have hwz := wz_tbl f0.1
  refine Ev_callX (C0 := C0) (owner := x.cls) (x := x) As hd f0 (fun R s args hts hR => va_cwO n hts (goodT (fun _ h => h) (fun w hw => ?_)) rfl rfl rfl (b0 := b0) (m0 := m0) (r0 := r0) f6 f7 hR) hz hlt hs hc hn hst hroom hst' kk
  rcases List.mem_append.mp hw with hw | hw
  · simp only [List.mem_cons, List.not_mem_nil, or_false] at hw
    rcases hw with rfl | rfl | rfl | rfl | rfl | rfl
    · exact f1
    · exact f2
    · exact f3
    · exact f4
    · exact f5
    · exact f0.2.1
  · exact hwz w hw
theorem Ev_callU {C0 : String} {x : MethodName} {k ci : Nat} {fl : List Nat} (As : List Value) (hd : Dc M.2.1 pc (.invokevirtual ix) 3 pc') (cf : CFU M.1.cls ix C0 x Z n) (hz : Cal Z dz (.ref k :: As) σ r1 σ1) (hlt : dz < d) (hs : SK[k]? = some (ci, fl)) (hc : (vwCl[ci]?).map (fun q => q.1) = some C0) (hn : As.length = n) (hst : stk = As.reverse ++ .ref k :: st) (hroom : (st.map fun v => v.category).sum ≤ 8) (hst' : r1.toList ++ st = st') (kk : Ev M d r τ pc' ls st' σ1) : Ev M d r τ pc ls stk σ := by
  obtain ⟨f0, f1, f2, f4, f5, f6, f7⟩ := cf
  have hwz := wz_tbl f0.1
  refine Ev_callX (C0 := C0) (owner := Z.1.cls) (x := x) As hd f0 (fun R s args hts hR => va_cwU n hts (goodT (fun _ h => h) (fun w hw => ?_)) rfl rfl rfl f6 ⟨f0.2.2.2.1, f0.2.2.2.2.1, f7⟩ hR) hz hlt hs hc hn hst hroom hst' kk
  rcases List.mem_append.mp hw with hw | hw
  · simp only [List.mem_cons, List.not_mem_nil, or_false] at hw
    rcases hw with rfl | rfl | rfl | rfl | rfl
    · exact f1
    · exact f2
    · exact f4
    · exact f5
    · exact f0.2.1
  · exact hwz w hw
/-- System.arraycopy over rows of ints -/
theorem Ev_copy {k0 k1 n0 n1 : Nat} {sp dp nn : Int32} (hd : Dc M.2.1 pc (.invokestatic ix) 3 pc') (hw : Cond.methodLink M.1.cls ix arraycopyName ∈ tbl ∧ Cond.native arraycopyName ∈ tbl ∧ Cond.static arraycopyName ∈ tbl ∧ Cond.initialized "java/lang/System" ∈ tbl) (hlt : 0 < d) (hs0 : SK[k0]? = some (100, [n0])) (hs1 : SK[k1]? = some (100, [n1])) (hin : 0 ≤ sp ∧ 0 ≤ dp ∧ 0 ≤ nn ∧ sp.toNatClampNeg + nn.toNatClampNeg ≤ n0 ∧ dp.toNatClampNeg + nn.toNatClampNeg ≤ n1) (hroom : (st.map fun v => v.category).sum ≤ 8) (kk : Ev M d r τ pc' ls st (cpI σ k0 sp.toNatClampNeg k1 dp.toNatClampNeg nn.toNatClampNeg)) : Ev M d r τ pc ls (.int nn :: .int dp :: .ref k1 :: .int sp :: .ref k0 :: st) σ := by
  obtain ⟨h1, rfl⟩ := hd
  obtain ⟨w1, w2, w3, w4⟩ := hw
  obtain ⟨i1, i2, i3, i4, i5⟩ := hin
  have neg : ∀ z : Int32, 0 ≤ z → ¬ z < 0 := fun z h q => by rw [Int32.le_iff_toInt_le] at h; rw [Int32.lt_iff_toInt_lt] at q; omega
  intro p l e R s m args below meth c D tc ad C H locs LS hP hS hl
  obtain ⟨C1, C2, C3, C4, C5, C6, C7, C8, C9, C10, rfl, C12⟩ := C
  refine va_copyi C1 C2 (C3.trans hl.1.symm) C6 (C5 _ w1) (C5 _ w2) (C5 _ w3) (C5 _ w4) C8 hP (wsO_D tc C10 σ) hS k0 k1 0 0 (wsO_at tc ad σ hs0) (wsO_at tc ad σ hs1) rfl rfl rfl (neg _ i1) (neg _ i2) (neg _ i3) i4 i5 (fun _ _ => rfl) (Nat.succ_le_of_lt hlt) ?_ h1 (fun H1 locs1 hP1 _ hS1 => ?_)
  · have e1 : nativeFrameWords "java/lang/System" "arraycopy" 5 = 7 := by decide
    rw [cat_cv, e1]
    show _ + (7 + 11) ≤ 45 * d
    omega
  · rw [wsO_set (τ := cpI σ k0 sp.toNatClampNeg k1 dp.toNatClampNeg nn.toNatClampNeg) hs1 ?_ ?_] at hP1
    · exact kk p l e _ s m args below meth c D tc ad ⟨C1, C2, C3, C4, C5, C6, C7, C8, C9, C10, rfl, C12⟩ H1 locs1 LS hP1 hS1 hl
    · show _ = (Sum.inl (tc 0, n1, Sum.inl (gI (cpI σ k0 sp.toNatClampNeg k1 dp.toNatClampNeg nn.toNatClampNeg) k1)) : va_E)
      have e2 : gI (cpI σ k0 sp.toNatClampNeg k1 dp.toNatClampNeg nn.toNatClampNeg) k1 = va_cpy (gI σ k0) (gI σ k1) sp.toNatClampNeg dp.toNatClampNeg nn.toNatClampNeg := by
        funext j
        simp only [gI_cpI, va_cpy, true_and]
      rw [e2]; rfl
    · intro j hj
      exact ⟨by funext a; simp [gI_cpI, hj], rfl, rfl⟩
end EVC
end
section
/-! small rows that the walks of part 07 and on use -/
def lt {α β : Type} (v : α) (f : α → β) : β := f v
theorem oLt {α β : Type} {v x : α} {f : α → β} {y : β} (h : lt v f = y) (e : x = v) : f x = y := by subst e; exact h
theorem oRet {α : Type} {v q : α} {σ : Sg} (h : some v = some q) : some (v, σ) = some (q, σ) := by cases h; rfl
def oElim {α β γ : Type} (o : α ⊕ β) (f : α → γ) (g : β → γ) : γ := match o with
  | .inl a => f a
  | .inr b => g b
theorem oElimL {α β γ : Type} {a : α} {f : α → γ} {g : β → γ} {y : γ} (h : oElim (.inl a) f g = y) : f a = y := h
theorem oElimR {α β γ : Type} {b : β} {f : α → γ} {g : β → γ} {y : γ} (h : oElim (.inr b) f g = y) : g b = y := h
/-- a loop: b answers the next round's numbers (inl) or what it ends with (inr) -/
def lp {P O : Type} (b : P → Option (P ⊕ O)) : Nat → P → Option O
  | 0, _ => none
  | n + 1, x => match b x with
    | none => none
    | some (.inl y) => lp b n y
    | some (.inr z) => some z
theorem lp_ind {P O : Type} {b : P → Option (P ⊕ O)} {E : P → Prop} {z : O} (hs : ∀ x, (∀ y, b x = some (.inl y) → E y → E x) ∧ (b x = some (.inr z) → E x)) : ∀ (n : Nat) (x : P), lp b n x = some z → E x := by
  intro n
  induction n with
  | zero => intro x h; cases h
  | succ n ih =>
    intro x h
    rw [lp] at h
    split at h
    next => cases h
    next y hb => exact (hs x).1 y hb (ih y h)
    next z' hb => cases h; exact (hs x).2 hb
theorem i32_ne {x v : Int32} {k : Int} (h : ¬ x = v) (hv : v.toInt = k) : x.toInt ≠ k := fun e => h (Int32.toInt_inj.mp (e.trans hv.symm))
theorem vt_at {j : Int32} (h : inB j 5 = true) : ([38, 39, 40, 41, 42] : List Nat)[j.toNatClampNeg]? = some (38 + j.toNatClampNeg) := by
  simp only [inB, Bool.and_eq_true, decide_eq_true_eq] at h
  generalize j.toNatClampNeg = n at h
  have h2 := h.2
  match n, h2 with
  | 0, _ => rfl
  | 1, _ => rfl
  | 2, _ => rfl
  | 3, _ => rfl
  | 4, _ => rfl
  | n + 5, h => omega
end
section
/-! the JDK's Strings over Ev: constant i lies at place 90 + i, its bytes at 93 + i -/
section EVS
variable {M Z : MI} {d dz n : Nat} {r r1 : Option Value} {τ σ σ1 : Sg} {pc pc' ix : Nat} {ls : List (Nat × Value)} {st stk st' : List Value}
theorem Cx_sx {M : MI} {d : Nat} {p : Program} {R : Room} {s : State} {m : MethodId} {args : Array Value} {meth : Method} {c : Code} {D : va_G} {tc : Nat → ClassId} {ad : Nat → Nat} (C : Cx M d p R s m args meth c D tc ad) : SX ad s s.heap := C.2.2.2.2.2.2.2.2.2.2.2
theorem Ev_ldcS0 (hd : Dc M.2.1 pc (.ldc 51) 2 pc') (ho : M.1.cls = RX10) (k : Ev M d r τ pc' ls (.ref 90 :: st) σ) : Ev M d r τ pc ls st σ := by
  obtain ⟨h1, rfl⟩ := hd
  intro p l e R s m args below meth c D tc ad C H locs LS hP hS hl
  exact va_ldcS (own := RX10) C.1 C.2.1 (by rw [← ho]; exact C.2.2.2.2.2.1) (Cx_sx C).2.1.1 h1 (k p l e R s m args below meth c D tc ad C H locs LS hP hS hl)
theorem Ev_ldcS1 (hd : Dc M.2.1 pc (.ldc 64) 2 pc') (ho : M.1.cls = RX10) (k : Ev M d r τ pc' ls (.ref 91 :: st) σ) : Ev M d r τ pc ls st σ := by
  obtain ⟨h1, rfl⟩ := hd
  intro p l e R s m args below meth c D tc ad C H locs LS hP hS hl
  exact va_ldcS (own := RX10) C.1 C.2.1 (by rw [← ho]; exact C.2.2.2.2.2.1) (Cx_sx C).2.1.2.1 h1 (k p l e R s m args below meth c D tc ad C H locs LS hP hS hl)
theorem Ev_ldcS2 (hd : Dc M.2.1 pc (.ldc 72) 2 pc') (ho : M.1.cls = RX10) (k : Ev M d r τ pc' ls (.ref 92 :: st) σ) : Ev M d r τ pc ls st σ := by
  obtain ⟨h1, rfl⟩ := hd
  intro p l e R s m args below meth c D tc ad C H locs LS hP hS hl
  exact va_ldcS (own := RX10) C.1 C.2.1 (by rw [← ho]; exact C.2.2.2.2.2.1) (Cx_sx C).2.1.2.2 h1 (k p l e R s m args below meth c D tc ad C H locs LS hP hS hl)
theorem Ev_sval (i : Nat) (hi : i < 3) (hd : Dc M.2.1 pc (.getfield ix) 3 pc') (hw : Cond.fieldLink M.1.cls ix "java/lang/String" "value" "[B" ∈ tbl) (k : Ev M d r τ pc' ls (.ref (93 + i) :: st) σ) : Ev M d r τ pc ls (.ref (90 + i) :: st) σ := by
  obtain ⟨h1, rfl⟩ := hd
  intro p l e R s m args below meth c D tc ad C H locs LS hP hS hl
  exact vk_getf C.1 C.2.1 ((Cx_sx C).1.1 i hi).2.2.1 hS C.2.2.2.2.2.1 (C.2.2.2.2.1 _ hw) (fun _ h => h) h1 (k p l e R s m args below meth c D tc ad C H locs LS hP hS hl)
theorem Ev_scod (i : Nat) (hi : i < 3) (hd : Dc M.2.1 pc (.getfield ix) 3 pc') (hw : Cond.fieldLink M.1.cls ix "java/lang/String" "coder" "B" ∈ tbl) (k : Ev M d r τ pc' ls (.int 0 :: st) σ) : Ev M d r τ pc ls (.ref (90 + i) :: st) σ := by
  obtain ⟨h1, rfl⟩ := hd
  intro p l e R s m args below meth c D tc ad C H locs LS hP hS hl
  exact vk_getf C.1 C.2.1 ((Cx_sx C).1.1 i hi).2.1 hS C.2.2.2.2.2.1 (C.2.2.2.2.1 _ hw) (fun _ h => h) h1 (k p l e R s m args below meth c D tc ad C H locs LS hP hS hl)
theorem Ev_getsC (hd : Dc M.2.1 pc (.getstatic ix) 3 pc') (hw : Cond.fieldLink M.1.cls ix "java/lang/String" "COMPACT_STRINGS" "Z" ∈ tbl) (k : Ev M d r τ pc' ls (.int 1 :: st) σ) : Ev M d r τ pc ls st σ := by
  obtain ⟨h1, rfl⟩ := hd
  intro p l e R s m args below meth c D tc ad C H locs LS hP hS hl
  exact va_gets C.1 C.2.1 (Cx_sx C).2.2.1 hS C.2.2.2.2.2.1 (C.2.2.2.2.1 _ hw) (fun _ h => h) h1 (k p l e R s m args below meth c D tc ad C H locs LS hP hS hl)
theorem Ev_slen (i : Nat) (hi : i < 3) {v : Int32} (hd : Dc M.2.1 pc .arraylength 1 pc') (hv : Int32.ofNat (lenW.getD i 0) = v) (k : Ev M d r τ pc' ls (.int v :: st) σ) : Ev M d r τ pc ls (.ref (93 + i) :: st) σ := by
  obtain ⟨h1, rfl⟩ := hd
  intro p l e R s m args below meth c D tc ad C H locs LS hP hS hl
  exact va_tlen C.1 C.2.1 ((Cx_sx C).1.1 i hi).2.2.2 hS hv h1 (k p l e R s m args below meth c D tc ad C H locs LS hP hS hl)
theorem Ev_sbyte (i : Nat) (hi : i < 3) {j : Int32} {N : Nat} (hN : lenW.getD i 0 = N) (hd : Dc M.2.1 pc .baload 1 pc') (hin : inB j N = true) (k : Ev M d r τ pc' ls (.int ((bytW.getD i []).getD j.toNatClampNeg 0) :: st) σ) : Ev M d r τ pc ls (.int j :: .ref (93 + i) :: st) σ := by
  obtain ⟨h1, rfl⟩ := hd
  subst hN
  intro p l e R s m args below meth c D tc ad C H locs LS hP hS hl
  exact va_tb C.1 C.2.1 ((Cx_sx C).1.1 i hi).2.2.2 hS (inB_vp hin) rfl h1 (k p l e R s m args below meth c D tc ad C H locs LS hP hS hl)
theorem Ev_i2c {x : Int32} (hd : Dc M.2.1 pc .i2c 1 pc') (k : Ev M d r τ pc' ls (.int (x.toUInt32 % 65536).toInt32 :: st) σ) : Ev M d r τ pc ls (.int x :: st) σ := by
  obtain ⟨h1, rfl⟩ := hd
  intro p l e R s m args below meth c D tc ad C H locs LS hP hS hl
  exact lv_i2c C.1 C.2.1 h1 rfl (k p l e R s m args below meth c D tc ad C H locs LS hP hS hl)
theorem Ev_bret {v x : Int32} (ty : FieldType) (hd : Dc M.2.1 pc .ireturn 1 pc') (hr : M.2.2.2 = some ty) (hz : narrow ty (.int v) = .int v) (h : some (v, σ) = some (x, τ)) : Ev M d (some (.int x)) τ pc ls [.int v] σ := by
  cases h
  obtain ⟨h1, rfl⟩ := hd
  intro p l e R s m args below meth c D tc ad C H locs LS hP hS hl
  exact W.zret (ty := ty) C.1 C.2.1 (C.2.2.2.1.trans hr) hz (fun t ht _ => Qo_of (v := some (.int v)) hP hS ht) hS.2.2 h1 C.2.2.2.2.2.2.1
/-- a method of a String constant -/
theorem Ev_callVS (i : Nat) (hi : i < 3) (As : List Value) (hd : Dc M.2.1 pc (.invokevirtual ix) 3 pc') (cf : CFV M.1.cls ix Z n) (hz : Cal Z dz (.ref (90 + i) :: As) σ r1 σ1) (hlt : dz < d) (hc : Z.1.cls = "java/lang/String") (hn : As.length = n) (hst : stk = As.reverse ++ .ref (90 + i) :: st) (hroom : (st.map fun v => v.category).sum ≤ 8) (hst' : r1.toList ++ st = st') (kk : Ev M d r τ pc' ls st' σ1) : Ev M d r τ pc ls stk σ := by
  obtain ⟨h1, rfl⟩ := hd
  subst hst; subst hst'
  obtain ⟨⟨f1, f2, f3, f4⟩, f5, f6, f7⟩ := cf
  intro p l e R s m args below meth c D tc ad C H locs LS hP hS hl
  obtain ⟨C1, C2, C3, C4, C5, C6, C7, C8, C9, C10, rfl, C12⟩ := C
  have hwz := wz_tbl f1
  have hrecv := vk_recv C12.1 hi hS
  rw [← hc] at hrecv
  have hstk : (As.reverse ++ .ref (90 + i) :: st).map (cv ad) = (As.map (cv ad)).reverse ++ .ref (ad (90 + i)) :: st.map (cv ad) := by rw [List.map_append, List.map_reverse]; rfl
  rw [hstk]
  refine W_back (σ1 := σ1) (r1 := r1) (REST := st.map (cv ad)) (a := ((.ref (90 + i) :: As).map (cv ad)).toArray) (D := D) (tc := tc) (ad := ad) ?_ hS (fun H1 locs1 hP1 hS1 => ?_)
  · rcases f5 with f5 | ⟨host, f5⟩
    · exact va_runV (b := ad (90 + i)) (As := As.map (cv ad)) (rest := st.map (cv ad)) ⟨C1, C2, C3, C6, C5⟩ (hz l D tc ad C10) (cwV n C5 (goodT (fun _ h => h) (fun w hw => by
          rcases List.mem_append.mp hw with hw | hw
          · simp only [List.mem_cons, List.not_mem_nil, or_false] at hw
            rcases hw with rfl | rfl | rfl | rfl
            · exact f5
            · exact f6
            · exact f7
            · exact f2
          · exact hwz w hw)) rfl rfl rfl ⟨rfl, f4⟩ (rm_ok hlt f3)) ⟨Po_blind, hrecv, Po_now (av := .ref (90 + i) :: As) hP C8 C9 (SX_kept C12 hS)⟩ rfl (by rw [List.length_map]; exact hn) hl.1 rfl (lv_room (by rw [cat_cv]; exact hroom)) h1 ⟨Nat.zero_le _, Nat.zero_le _⟩
    · exact va_runVN (b := ad (90 + i)) (As := As.map (cv ad)) (rest := st.map (cv ad)) ⟨C1, C2, C3, C6, C5⟩ (hz l D tc ad C10) ⟨va_cnB n C5 (goodT (fun _ h => h) hwz) rfl rfl rfl (C9 _ f5) (C5 _ f2) f4 (rm_ok hlt f3), C5 _ f6, C5 _ f7⟩ ⟨Po_blind, hrecv, Po_now (av := .ref (90 + i) :: As) hP C8 C9 (SX_kept C12 hS)⟩ rfl (by rw [List.length_map]; exact hn) hl.1 rfl (lv_room (by rw [cat_cv]; exact hroom)) h1 ⟨Nat.zero_le _, Nat.zero_le _⟩
  · have hk := kk p l e _ s m args below meth c D tc ad ⟨C1, C2, C3, C4, C5, C6, C7, C8, C9, C10, rfl, C12⟩ H1 locs1 LS hP1 hS1 hl
    rw [List.map_append] at hk
    cases r1 <;> exact hk
/-- the formatter: null or some reference, that nobody asks -/
theorem Ev_getsF (hd : Dc M.2.1 pc (.getstatic ix) 3 pc') (hw : Cond.fieldLink M.1.cls ix "jdk/internal/util/Preconditions" "SIOOBE_FORMATTER" "Ljava/util/function/BiFunction;" ∈ tbl) (k : ∀ v : Value, v = .null ∨ v = .ref 96 → Ev M d r τ pc' ls (v :: st) σ) : Ev M d r τ pc ls st σ := by
  obtain ⟨h1, rfl⟩ := hd
  intro p l e R s m args below meth c D tc ad C H locs LS hP hS hl
  rcases (Cx_sx C).2.2.2 with hZ | hZ
  · exact va_gets C.1 C.2.1 hZ hS C.2.2.2.2.2.1 (C.2.2.2.2.1 _ hw) (fun _ h => h) h1 (k .null (Or.inl rfl) p l e R s m args below meth c D tc ad C H locs LS hP hS hl)
  · exact va_gets C.1 C.2.1 hZ hS C.2.2.2.2.2.1 (C.2.2.2.2.1 _ hw) (fun _ h => h) h1 (k (.ref 96) (Or.inr rfl) p l e R s m args below meth c D tc ad C H locs LS hP hS hl)
end EVS
end
section
/-! FACTS of the tables, each once (laid by wip/whole/gen/gen.py) -/
abbrev M_X11_places : MI := (yX11_places, cX11_places, 3, (some .int))
def tdt_X11_places : List (Nat × Instr × Nat × Nat) := [(0, .iload_n 1, 1, 1), (1, .iconst 1, 1, 2), (2, .if_icmp .lt 9, 3, 5), (5, .iload_n 1, 1, 6), (6, .bipush 6, 2, 8), (8, .if_icmp .le 10, 3, 11), (11, .aload_n 0, 1, 12), (12, .bipush (-2), 2, 14), (14, .invokevirtual 68, 3, 17), (17, .ireturn, 1, 18), (18, .aload_n 0, 1, 19), (19, .getfield 50, 3, 22), (22, .getfield 72, 3, 25), (25, .getfield 76, 3, 28), (28, .istore_n 2, 1, 29), (29, .aload_n 0, 1, 30), (30, .getfield 50, 3, 33), (33, .getfield 72, 3, 36), (36, .iload_n 1, 1, 37), (37, .invokevirtual 79, 3, 40), (40, .aload_n 0, 1, 41), (41, .getfield 50, 3, 44), (44, .invokevirtual 83, 3, 47), (47, .iload_n 2, 1, 48), (48, .ireturn, 1, 49)]
set_option maxRecDepth 100000 in
theorem dt_X11_places : DT cX11_places tdt_X11_places := by unfold DT; decide +kernel
theorem ki_1 : Int32.ofInt 1 = (1 : Int32) := by decide +kernel
theorem kb_m2 : (Int8.ofInt (-2)).toInt32 = ((-2) : Int32) := by decide +kernel
abbrev M_X11_refusedBad : MI := (yX11_refusedBad, cX11_refusedBad, 2, (some .int))
def tdt_X11_refusedBad : List (Nat × Instr × Nat × Nat) := [(0, .aload_n 0, 1, 1), (1, .dup, 1, 2), (2, .getfield 232, 3, 5), (5, .iconst 1, 1, 6), (6, .iadd, 1, 7), (7, .putfield 232, 3, 10), (10, .iload_n 1, 1, 11), (11, .ireturn, 1, 12)]
set_option maxRecDepth 100000 in
theorem dt_X11_refusedBad : DT cX11_refusedBad tdt_X11_refusedBad := by unfold DT; decide +kernel
theorem lay_11 : ∀ w ∈ u_ws RX11 TX11 15, w ∈ tbl := by
  intro w hw
  refine List.mem_filter.mpr ⟨?_, ?_⟩
  · revert w; decide +kernel
  · revert w; decide +kernel
theorem ff_X11_232 : FF RX11 232 11 12 := ⟨RX11, TX11, 15, tyX11, rfl, by decide, lay_11, rfl, Or.inl (tbl_in 391 (by decide +kernel) (by decide +kernel)), tyX11_ok, nmX11⟩
theorem sk_0 : SK[0]? = some (11, [28, 4, 5, 6, 7, 34, 46, 15, 21, 0, 0, 0, 0, 0, 0]) := rfl
theorem fw_11_12 : FW 11 12 .int := ⟨_, rfl, by decide +kernel, by decide +kernel⟩
theorem cn_X11_refusedBad : CFn M_X11_refusedBad 1 := ⟨tbl_in 432 (by decide +kernel) (by decide +kernel), tbl_in 109 (by decide +kernel) (by decide +kernel), by decide, by decide +kernel, by decide +kernel, by decide +kernel⟩
theorem cf_X11_68 : CFV RX11 68 M_X11_refusedBad 1 := ⟨cn_X11_refusedBad, Or.inl (tbl_in 429 (by decide +kernel) (by decide +kernel)), tbl_in 431 (by decide +kernel) (by decide +kernel), tbl_in 0 (by decide +kernel) (by decide +kernel)⟩
theorem kb_6 : (Int8.ofInt 6).toInt32 = (6 : Int32) := by decide +kernel
theorem ff_X11_50 : FF RX11 50 11 0 := ⟨RX11, TX11, 15, tyX11, rfl, by decide, lay_11, rfl, Or.inl (tbl_in 379 (by decide +kernel) (by decide +kernel)), tyX11_ok, nmX11⟩
theorem lay_6 : ∀ w ∈ u_ws RX6 TX6 8, w ∈ tbl := by
  intro w hw
  refine List.mem_filter.mpr ⟨?_, ?_⟩
  · revert w; decide +kernel
  · revert w; decide +kernel
theorem ff_X11_72 : FF RX11 72 6 0 := ⟨RX6, TX6, 8, tyX6, rfl, by decide, lay_6, rfl, Or.inr ⟨"TiedThrees", nst_in 248 (by decide +kernel) (by decide +kernel)⟩, tyX6_ok, nmX6⟩
theorem sk_25 : SK[25]? = some (6, [22, 29, 30, 31, 32, 33, 0, 0]) := rfl
theorem lay_9 : ∀ w ∈ u_ws RX9 TX9 7, w ∈ tbl := by
  intro w hw
  refine List.mem_filter.mpr ⟨?_, ?_⟩
  · revert w; decide +kernel
  · revert w; decide +kernel
theorem ff_X11_76 : FF RX11 76 9 5 := ⟨RX9, TX9, 7, tyX9, rfl, by decide, lay_9, rfl, Or.inr ⟨"TiedThrees", nst_in 167 (by decide +kernel) (by decide +kernel)⟩, tyX9_ok, nmX9⟩
theorem sk_19 : SK[19]? = some (9, [23, 24, 25, 26, 27, 0, 0]) := rfl
abbrev M_X9_startOver : MI := (yX9_startOver, cX9_startOver, 2, none)
def tdt_X9_startOver : List (Nat × Instr × Nat × Nat) := [(0, .aload_n 0, 1, 1), (1, .iload_n 1, 1, 2), (2, .putfield 27, 3, 5), (5, .aload_n 0, 1, 6), (6, .iconst 0, 1, 7), (7, .putfield 31, 3, 10), (10, .return_, 1, 11)]
set_option maxRecDepth 100000 in
theorem dt_X9_startOver : DT cX9_startOver tdt_X9_startOver := by unfold DT; decide +kernel
theorem ff_X9_27 : FF RX9 27 9 5 := ⟨RX9, TX9, 7, tyX9, rfl, by decide, lay_9, rfl, Or.inl (tbl_in 166 (by decide +kernel) (by decide +kernel)), tyX9_ok, nmX9⟩
theorem fw_9_5 : FW 9 5 .int := ⟨_, rfl, by decide +kernel, by decide +kernel⟩
theorem ki_0 : Int32.ofInt 0 = (0 : Int32) := by decide +kernel
theorem ff_X9_31 : FF RX9 31 9 6 := ⟨RX9, TX9, 7, tyX9, rfl, by decide, lay_9, rfl, Or.inl (tbl_in 170 (by decide +kernel) (by decide +kernel)), tyX9_ok, nmX9⟩
theorem fw_9_6 : FW 9 6 .int := ⟨_, rfl, by decide +kernel, by decide +kernel⟩
theorem cn_X9_startOver : CFn M_X9_startOver 1 := ⟨tbl_in 436 (by decide +kernel) (by decide +kernel), tbl_in 111 (by decide +kernel) (by decide +kernel), by decide, by decide +kernel, by decide +kernel, by decide +kernel⟩
theorem cf_X11_79 : CFV RX11 79 M_X9_startOver 1 := ⟨cn_X9_startOver, Or.inr ⟨"TiedThrees", nst_in 433 (by decide +kernel) (by decide +kernel)⟩, tbl_in 435 (by decide +kernel) (by decide +kernel), tbl_in 1 (by decide +kernel) (by decide +kernel)⟩
abbrev M_X6_forgetWeeksAndSights : MI := (yX6_forgetWeeksAndSights, cX6_forgetWeeksAndSights, 1, none)
def tdt_X6_forgetWeeksAndSights : List (Nat × Instr × Nat × Nat) := [(0, .aload_n 0, 1, 1), (1, .iconst 0, 1, 2), (2, .putfield 31, 3, 5), (5, .aload_n 0, 1, 6), (6, .iconst 0, 1, 7), (7, .putfield 35, 3, 10), (10, .return_, 1, 11)]
set_option maxRecDepth 100000 in
theorem dt_X6_forgetWeeksAndSights : DT cX6_forgetWeeksAndSights tdt_X6_forgetWeeksAndSights := by unfold DT; decide +kernel
theorem ff_X6_31 : FF RX6 31 6 6 := ⟨RX6, TX6, 8, tyX6, rfl, by decide, lay_6, rfl, Or.inl (tbl_in 258 (by decide +kernel) (by decide +kernel)), tyX6_ok, nmX6⟩
theorem fw_6_6 : FW 6 6 .int := ⟨_, rfl, by decide +kernel, by decide +kernel⟩
theorem ff_X6_35 : FF RX6 35 6 7 := ⟨RX6, TX6, 8, tyX6, rfl, by decide, lay_6, rfl, Or.inl (tbl_in 260 (by decide +kernel) (by decide +kernel)), tyX6_ok, nmX6⟩
theorem fw_6_7 : FW 6 7 .int := ⟨_, rfl, by decide +kernel, by decide +kernel⟩
theorem cn_X6_forgetWeeksAndSights : CFn M_X6_forgetWeeksAndSights 0 := ⟨tbl_in 440 (by decide +kernel) (by decide +kernel), tbl_in 113 (by decide +kernel) (by decide +kernel), by decide, by decide +kernel, by decide +kernel, by decide +kernel⟩
theorem cf_X11_83 : CFV RX11 83 M_X6_forgetWeeksAndSights 0 := ⟨cn_X6_forgetWeeksAndSights, Or.inr ⟨"TiedThrees", nst_in 437 (by decide +kernel) (by decide +kernel)⟩, tbl_in 439 (by decide +kernel) (by decide +kernel), tbl_in 2 (by decide +kernel) (by decide +kernel)⟩
abbrev M_X11_person : MI := (yX11_person, cX11_person, 3, (some .int))
def tdt_X11_person : List (Nat × Instr × Nat × Nat) := [(0, .iload_n 1, 1, 1), (1, .iload_n 2, 1, 2), (2, .invokestatic 86, 3, 5), (5, .ifCond .ne 10, 3, 8), (8, .aload_n 0, 1, 9), (9, .bipush (-2), 2, 11), (11, .invokevirtual 68, 3, 14), (14, .ireturn, 1, 15), (15, .aload_n 0, 1, 16), (16, .getfield 50, 3, 19), (19, .getfield 72, 3, 22), (22, .getfield 90, 3, 25), (25, .bipush 9, 2, 27), (27, .if_icmp .lt 8, 3, 30), (30, .aload_n 0, 1, 31), (31, .invokevirtual 93, 3, 34), (34, .ireturn, 1, 35), (35, .aload_n 0, 1, 36), (36, .getfield 50, 3, 39), (39, .getfield 72, 3, 42), (42, .iload_n 1, 1, 43), (43, .iload_n 2, 1, 44), (44, .invokevirtual 97, 3, 47), (47, .ireturn, 1, 48)]
set_option maxRecDepth 100000 in
theorem dt_X11_person : DT cX11_person tdt_X11_person := by unfold DT; decide +kernel
abbrev M_X11_isKindAndPace : MI := (yX11_isKindAndPace, cX11_isKindAndPace, 2, (some .boolean))
def tdt_X11_isKindAndPace : List (Nat × Instr × Nat × Nat) := [(0, .iload_n 0, 1, 1), (1, .ifCond .lt 23, 3, 4), (4, .iload_n 0, 1, 5), (5, .iconst 5, 1, 6), (6, .if_icmp .ge 18, 3, 9), (9, .iload_n 1, 1, 10), (10, .iconst 1, 1, 11), (11, .if_icmp .lt 13, 3, 14), (14, .iload_n 1, 1, 15), (15, .bipush 9, 2, 17), (17, .if_icmp .gt 7, 3, 20), (20, .iconst 1, 1, 21), (21, .goto 4, 3, 24), (24, .iconst 0, 1, 25), (25, .ireturn, 1, 26)]
set_option maxRecDepth 100000 in
theorem dt_X11_isKindAndPace : DT cX11_isKindAndPace tdt_X11_isKindAndPace := by unfold DT; decide +kernel
theorem ki_5 : Int32.ofInt 5 = (5 : Int32) := by decide +kernel
theorem kb_9 : (Int8.ofInt 9).toInt32 = (9 : Int32) := by decide +kernel
theorem cn_X11_isKindAndPace : CFn M_X11_isKindAndPace 2 := ⟨tbl_in 447 (by decide +kernel) (by decide +kernel), tbl_in 109 (by decide +kernel) (by decide +kernel), by decide, by decide +kernel, by decide +kernel, by decide +kernel⟩
theorem cf_X11_86 : CFS RX11 86 M_X11_isKindAndPace 2 := ⟨cn_X11_isKindAndPace, Or.inl (tbl_in 445 (by decide +kernel) (by decide +kernel)), tbl_in 446 (by decide +kernel) (by decide +kernel)⟩
theorem ff_X11_90 : FF RX11 90 9 6 := ⟨RX9, TX9, 7, tyX9, rfl, by decide, lay_9, rfl, Or.inr ⟨"TiedThrees", nst_in 173 (by decide +kernel) (by decide +kernel)⟩, tyX9_ok, nmX9⟩
abbrev M_X9_addPerson : MI := (yX9_addPerson, cX9_addPerson, 3, (some .int))
def tdt_X9_addPerson : List (Nat × Instr × Nat × Nat) := [(0, .aload_n 0, 1, 1), (1, .getfield 31, 3, 4), (4, .bipush 9, 2, 6), (6, .if_icmp .lt 5, 3, 9), (9, .iconst (-1), 1, 10), (10, .ireturn, 1, 11), (11, .aload_n 0, 1, 12), (12, .getfield 9, 3, 15), (15, .aload_n 0, 1, 16), (16, .getfield 31, 3, 19), (19, .iload_n 1, 1, 20), (20, .iastore, 1, 21), (21, .aload_n 0, 1, 22), (22, .getfield 15, 3, 25), (25, .aload_n 0, 1, 26), (26, .getfield 31, 3, 29), (29, .iload_n 2, 1, 30), (30, .iastore, 1, 31), (31, .aload_n 0, 1, 32), (32, .getfield 18, 3, 35), (35, .aload_n 0, 1, 36), (36, .getfield 31, 3, 39), (39, .iconst 0, 1, 40), (40, .iastore, 1, 41), (41, .aload_n 0, 1, 42), (42, .dup, 1, 43), (43, .getfield 31, 3, 46), (46, .iconst 1, 1, 47), (47, .iadd, 1, 48), (48, .putfield 31, 3, 51), (51, .aload_n 0, 1, 52), (52, .getfield 31, 3, 55), (55, .iconst 1, 1, 56), (56, .isub, 1, 57), (57, .ireturn, 1, 58)]
set_option maxRecDepth 100000 in
theorem dt_X9_addPerson : DT cX9_addPerson tdt_X9_addPerson := by unfold DT; decide +kernel
theorem ff_X9_9 : FF RX9 9 9 0 := ⟨RX9, TX9, 7, tyX9, rfl, by decide, lay_9, rfl, Or.inl (tbl_in 152 (by decide +kernel) (by decide +kernel)), tyX9_ok, nmX9⟩
theorem sk_20 : SK[20]? = some (100, [9]) := rfl
theorem ff_X9_15 : FF RX9 15 9 1 := ⟨RX9, TX9, 7, tyX9, rfl, by decide, lay_9, rfl, Or.inl (tbl_in 154 (by decide +kernel) (by decide +kernel)), tyX9_ok, nmX9⟩
theorem sk_21 : SK[21]? = some (100, [9]) := rfl
theorem ff_X9_18 : FF RX9 18 9 2 := ⟨RX9, TX9, 7, tyX9, rfl, by decide, lay_9, rfl, Or.inl (tbl_in 155 (by decide +kernel) (by decide +kernel)), tyX9_ok, nmX9⟩
theorem sk_22 : SK[22]? = some (100, [9]) := rfl
theorem ki_m1 : Int32.ofInt (-1) = ((-1) : Int32) := by decide +kernel
theorem cn_X9_addPerson : CFn M_X9_addPerson 2 := ⟨tbl_in 455 (by decide +kernel) (by decide +kernel), tbl_in 111 (by decide +kernel) (by decide +kernel), by decide, by decide +kernel, by decide +kernel, by decide +kernel⟩
theorem cf_X11_97 : CFV RX11 97 M_X9_addPerson 2 := ⟨cn_X9_addPerson, Or.inr ⟨"TiedThrees", nst_in 452 (by decide +kernel) (by decide +kernel)⟩, tbl_in 454 (by decide +kernel) (by decide +kernel), tbl_in 4 (by decide +kernel) (by decide +kernel)⟩
abbrev M_X11_refusedFull : MI := (yX11_refusedFull, cX11_refusedFull, 1, (some .int))
def tdt_X11_refusedFull : List (Nat × Instr × Nat × Nat) := [(0, .aload_n 0, 1, 1), (1, .dup, 1, 2), (2, .getfield 238, 3, 5), (5, .iconst 1, 1, 6), (6, .iadd, 1, 7), (7, .putfield 238, 3, 10), (10, .bipush (-4), 2, 12), (12, .ireturn, 1, 13)]
set_option maxRecDepth 100000 in
theorem dt_X11_refusedFull : DT cX11_refusedFull tdt_X11_refusedFull := by unfold DT; decide +kernel
theorem ff_X11_238 : FF RX11 238 11 14 := ⟨RX11, TX11, 15, tyX11, rfl, by decide, lay_11, rfl, Or.inl (tbl_in 393 (by decide +kernel) (by decide +kernel)), tyX11_ok, nmX11⟩
theorem fw_11_14 : FW 11 14 .int := ⟨_, rfl, by decide +kernel, by decide +kernel⟩
theorem kb_m4 : (Int8.ofInt (-4)).toInt32 = ((-4) : Int32) := by decide +kernel
theorem cn_X11_refusedFull : CFn M_X11_refusedFull 0 := ⟨tbl_in 451 (by decide +kernel) (by decide +kernel), tbl_in 109 (by decide +kernel) (by decide +kernel), by decide, by decide +kernel, by decide +kernel, by decide +kernel⟩
theorem cf_X11_93 : CFV RX11 93 M_X11_refusedFull 0 := ⟨cn_X11_refusedFull, Or.inl (tbl_in 448 (by decide +kernel) (by decide +kernel)), tbl_in 450 (by decide +kernel) (by decide +kernel), tbl_in 3 (by decide +kernel) (by decide +kernel)⟩
abbrev M_X11_errand : MI := (yX11_errand, cX11_errand, 5, (some .int))
def tdt_X11_errand : List (Nat × Instr × Nat × Nat) := [(0, .aload_n 0, 1, 1), (1, .getfield 50, 3, 4), (4, .getfield 72, 3, 7), (7, .astore 4, 2, 9), (9, .aload 4, 2, 11), (11, .iload_n 1, 1, 12), (12, .invokevirtual 101, 3, 15), (15, .ifCond .eq 19, 3, 18), (18, .aload 4, 2, 20), (20, .iload_n 2, 1, 21), (21, .invokevirtual 105, 3, 24), (24, .ifCond .eq 10, 3, 27), (27, .iload_n 3, 1, 28), (28, .invokestatic 108, 3, 31), (31, .ifCond .ne 10, 3, 34), (34, .aload_n 0, 1, 35), (35, .bipush (-2), 2, 37), (37, .invokevirtual 68, 3, 40), (40, .ireturn, 1, 41), (41, .aload 4, 2, 43), (43, .getfield 111, 3, 46), (46, .iload_n 1, 1, 47), (47, .iaload, 1, 48), (48, .iconst 4, 1, 49), (49, .if_icmp .lt 8, 3, 52), (52, .aload_n 0, 1, 53), (53, .invokevirtual 93, 3, 56), (56, .ireturn, 1, 57), (57, .aload 4, 2, 59), (59, .iload_n 1, 1, 60), (60, .iload_n 2, 1, 61), (61, .iload_n 3, 1, 62), (62, .invokevirtual 114, 3, 65), (65, .ireturn, 1, 66)]
set_option maxRecDepth 100000 in
theorem dt_X11_errand : DT cX11_errand tdt_X11_errand := by unfold DT; decide +kernel
abbrev M_X9_hasPerson : MI := (yX9_hasPerson, cX9_hasPerson, 2, (some .boolean))
def tdt_X9_hasPerson : List (Nat × Instr × Nat × Nat) := [(0, .iload_n 1, 1, 1), (1, .ifCond .lt 15, 3, 4), (4, .iload_n 1, 1, 5), (5, .aload_n 0, 1, 6), (6, .getfield 31, 3, 9), (9, .if_icmp .ge 7, 3, 12), (12, .iconst 1, 1, 13), (13, .goto 4, 3, 16), (16, .iconst 0, 1, 17), (17, .ireturn, 1, 18)]
set_option maxRecDepth 100000 in
theorem dt_X9_hasPerson : DT cX9_hasPerson tdt_X9_hasPerson := by unfold DT; decide +kernel
theorem cn_X9_hasPerson : CFn M_X9_hasPerson 1 := ⟨tbl_in 463 (by decide +kernel) (by decide +kernel), tbl_in 111 (by decide +kernel) (by decide +kernel), by decide, by decide +kernel, by decide +kernel, by decide +kernel⟩
theorem cf_X11_101 : CFV RX11 101 M_X9_hasPerson 1 := ⟨cn_X9_hasPerson, Or.inr ⟨"TiedThrees", nst_in 460 (by decide +kernel) (by decide +kernel)⟩, tbl_in 462 (by decide +kernel) (by decide +kernel), tbl_in 5 (by decide +kernel) (by decide +kernel)⟩
abbrev M_X9_hasPlace : MI := (yX9_hasPlace, cX9_hasPlace, 2, (some .boolean))
def tdt_X9_hasPlace : List (Nat × Instr × Nat × Nat) := [(0, .iload_n 1, 1, 1), (1, .ifCond .lt 15, 3, 4), (4, .iload_n 1, 1, 5), (5, .aload_n 0, 1, 6), (6, .getfield 27, 3, 9), (9, .if_icmp .ge 7, 3, 12), (12, .iconst 1, 1, 13), (13, .goto 4, 3, 16), (16, .iconst 0, 1, 17), (17, .ireturn, 1, 18)]
set_option maxRecDepth 100000 in
theorem dt_X9_hasPlace : DT cX9_hasPlace tdt_X9_hasPlace := by unfold DT; decide +kernel
theorem cn_X9_hasPlace : CFn M_X9_hasPlace 1 := ⟨tbl_in 467 (by decide +kernel) (by decide +kernel), tbl_in 111 (by decide +kernel) (by decide +kernel), by decide, by decide +kernel, by decide +kernel, by decide +kernel⟩
theorem cf_X11_105 : CFV RX11 105 M_X9_hasPlace 1 := ⟨cn_X9_hasPlace, Or.inr ⟨"TiedThrees", nst_in 464 (by decide +kernel) (by decide +kernel)⟩, tbl_in 466 (by decide +kernel) (by decide +kernel), tbl_in 6 (by decide +kernel) (by decide +kernel)⟩
abbrev M_X11_isHour : MI := (yX11_isHour, cX11_isHour, 1, (some .boolean))
def tdt_X11_isHour : List (Nat × Instr × Nat × Nat) := [(0, .iload_n 0, 1, 1), (1, .ifCond .lt 13, 3, 4), (4, .iload_n 0, 1, 5), (5, .bipush 10, 2, 7), (7, .if_icmp .ge 7, 3, 10), (10, .iconst 1, 1, 11), (11, .goto 4, 3, 14), (14, .iconst 0, 1, 15), (15, .ireturn, 1, 16)]
set_option maxRecDepth 100000 in
theorem dt_X11_isHour : DT cX11_isHour tdt_X11_isHour := by unfold DT; decide +kernel
theorem kb_10 : (Int8.ofInt 10).toInt32 = (10 : Int32) := by decide +kernel
theorem cn_X11_isHour : CFn M_X11_isHour 1 := ⟨tbl_in 470 (by decide +kernel) (by decide +kernel), tbl_in 109 (by decide +kernel) (by decide +kernel), by decide, by decide +kernel, by decide +kernel, by decide +kernel⟩
theorem cf_X11_108 : CFS RX11 108 M_X11_isHour 1 := ⟨cn_X11_isHour, Or.inl (tbl_in 468 (by decide +kernel) (by decide +kernel)), tbl_in 469 (by decide +kernel) (by decide +kernel)⟩
theorem ff_X11_111 : FF RX11 111 9 2 := ⟨RX9, TX9, 7, tyX9, rfl, by decide, lay_9, rfl, Or.inr ⟨"TiedThrees", nst_in 157 (by decide +kernel) (by decide +kernel)⟩, tyX9_ok, nmX9⟩
theorem ki_4 : Int32.ofInt 4 = (4 : Int32) := by decide +kernel
abbrev M_X9_addErrand : MI := (yX9_addErrand, cX9_addErrand, 5, (some .int))
def tdt_X9_addErrand : List (Nat × Instr × Nat × Nat) := [(0, .aload_n 0, 1, 1), (1, .iload_n 1, 1, 2), (2, .invokevirtual 47, 3, 5), (5, .ifCond .eq 13, 3, 8), (8, .aload_n 0, 1, 9), (9, .getfield 18, 3, 12), (12, .iload_n 1, 1, 13), (13, .iaload, 1, 14), (14, .iconst 4, 1, 15), (15, .if_icmp .lt 5, 3, 18), (18, .iconst (-1), 1, 19), (19, .ireturn, 1, 20), (20, .aload_n 0, 1, 21), (21, .getfield 18, 3, 24), (24, .iload_n 1, 1, 25), (25, .iaload, 1, 26), (26, .istore 4, 2, 28), (28, .aload_n 0, 1, 29), (29, .getfield 21, 3, 32), (32, .iload_n 1, 1, 33), (33, .iconst 4, 1, 34), (34, .imul, 1, 35), (35, .iload 4, 2, 37), (37, .iadd, 1, 38), (38, .iload_n 2, 1, 39), (39, .iastore, 1, 40), (40, .aload_n 0, 1, 41), (41, .getfield 24, 3, 44), (44, .iload_n 1, 1, 45), (45, .iconst 4, 1, 46), (46, .imul, 1, 47), (47, .iload 4, 2, 49), (49, .iadd, 1, 50), (50, .iload_n 3, 1, 51), (51, .iastore, 1, 52), (52, .aload_n 0, 1, 53), (53, .getfield 18, 3, 56), (56, .iload_n 1, 1, 57), (57, .dup2, 1, 58), (58, .iaload, 1, 59), (59, .iconst 1, 1, 60), (60, .iadd, 1, 61), (61, .iastore, 1, 62), (62, .iload 4, 2, 64), (64, .ireturn, 1, 65)]
set_option maxRecDepth 100000 in
theorem dt_X9_addErrand : DT cX9_addErrand tdt_X9_addErrand := by unfold DT; decide +kernel
theorem cf_X9_47 : CFV RX9 47 M_X9_hasPerson 1 := ⟨cn_X9_hasPerson, Or.inl (tbl_in 475 (by decide +kernel) (by decide +kernel)), tbl_in 462 (by decide +kernel) (by decide +kernel), tbl_in 5 (by decide +kernel) (by decide +kernel)⟩
theorem ff_X9_21 : FF RX9 21 9 3 := ⟨RX9, TX9, 7, tyX9, rfl, by decide, lay_9, rfl, Or.inl (tbl_in 160 (by decide +kernel) (by decide +kernel)), tyX9_ok, nmX9⟩
theorem sk_23 : SK[23]? = some (100, [36]) := rfl
theorem ff_X9_24 : FF RX9 24 9 4 := ⟨RX9, TX9, 7, tyX9, rfl, by decide, lay_9, rfl, Or.inl (tbl_in 163 (by decide +kernel) (by decide +kernel)), tyX9_ok, nmX9⟩
theorem sk_24 : SK[24]? = some (100, [36]) := rfl
theorem cn_X9_addErrand : CFn M_X9_addErrand 3 := ⟨tbl_in 474 (by decide +kernel) (by decide +kernel), tbl_in 111 (by decide +kernel) (by decide +kernel), by decide, by decide +kernel, by decide +kernel, by decide +kernel⟩
theorem cf_X11_114 : CFV RX11 114 M_X9_addErrand 3 := ⟨cn_X9_addErrand, Or.inr ⟨"TiedThrees", nst_in 471 (by decide +kernel) (by decide +kernel)⟩, tbl_in 473 (by decide +kernel) (by decide +kernel), tbl_in 7 (by decide +kernel) (by decide +kernel)⟩
abbrev M_X11_drop : MI := (yX11_drop, cX11_drop, 3, (some .int))
def tdt_X11_drop : List (Nat × Instr × Nat × Nat) := [(0, .aload_n 0, 1, 1), (1, .getfield 50, 3, 4), (4, .getfield 72, 3, 7), (7, .astore_n 2, 1, 8), (8, .aload_n 2, 1, 9), (9, .iload_n 1, 1, 10), (10, .invokevirtual 101, 3, 13), (13, .ifCond .ne 10, 3, 16), (16, .aload_n 0, 1, 17), (17, .bipush (-2), 2, 19), (19, .invokevirtual 68, 3, 22), (22, .ireturn, 1, 23), (23, .aload_n 2, 1, 24), (24, .getfield 111, 3, 27), (27, .iload_n 1, 1, 28), (28, .iaload, 1, 29), (29, .ifCond .ne 10, 3, 32), (32, .aload_n 0, 1, 33), (33, .bipush (-3), 2, 35), (35, .invokevirtual 118, 3, 38), (38, .ireturn, 1, 39), (39, .aload_n 2, 1, 40), (40, .getfield 111, 3, 43), (43, .iload_n 1, 1, 44), (44, .dup2, 1, 45), (45, .iaload, 1, 46), (46, .iconst 1, 1, 47), (47, .isub, 1, 48), (48, .iastore, 1, 49), (49, .aload_n 2, 1, 50), (50, .getfield 111, 3, 53), (53, .iload_n 1, 1, 54), (54, .iaload, 1, 55), (55, .ireturn, 1, 56)]
set_option maxRecDepth 100000 in
theorem dt_X11_drop : DT cX11_drop tdt_X11_drop := by unfold DT; decide +kernel
theorem kb_m3 : (Int8.ofInt (-3)).toInt32 = ((-3) : Int32) := by decide +kernel
abbrev M_X11_refusedNo : MI := (yX11_refusedNo, cX11_refusedNo, 2, (some .int))
def tdt_X11_refusedNo : List (Nat × Instr × Nat × Nat) := [(0, .aload_n 0, 1, 1), (1, .dup, 1, 2), (2, .getfield 235, 3, 5), (5, .iconst 1, 1, 6), (6, .iadd, 1, 7), (7, .putfield 235, 3, 10), (10, .iload_n 1, 1, 11), (11, .ireturn, 1, 12)]
set_option maxRecDepth 100000 in
theorem dt_X11_refusedNo : DT cX11_refusedNo tdt_X11_refusedNo := by unfold DT; decide +kernel
theorem ff_X11_235 : FF RX11 235 11 13 := ⟨RX11, TX11, 15, tyX11, rfl, by decide, lay_11, rfl, Or.inl (tbl_in 392 (by decide +kernel) (by decide +kernel)), tyX11_ok, nmX11⟩
theorem fw_11_13 : FW 11 13 .int := ⟨_, rfl, by decide +kernel, by decide +kernel⟩
theorem cn_X11_refusedNo : CFn M_X11_refusedNo 1 := ⟨tbl_in 483 (by decide +kernel) (by decide +kernel), tbl_in 109 (by decide +kernel) (by decide +kernel), by decide, by decide +kernel, by decide +kernel, by decide +kernel⟩
theorem cf_X11_118 : CFV RX11 118 M_X11_refusedNo 1 := ⟨cn_X11_refusedNo, Or.inl (tbl_in 480 (by decide +kernel) (by decide +kernel)), tbl_in 482 (by decide +kernel) (by decide +kernel), tbl_in 8 (by decide +kernel) (by decide +kernel)⟩
abbrev M_X11_type : MI := (yX11_type, cX11_type, 5, (some .int))
def tdt_X11_type : List (Nat × Instr × Nat × Nat) := [(0, .iload_n 3, 1, 1), (1, .iconst 1, 1, 2), (2, .if_icmp .lt 9, 3, 5), (5, .iload_n 3, 1, 6), (6, .bipush 8, 2, 8), (8, .if_icmp .le 10, 3, 11), (11, .aload_n 0, 1, 12), (12, .bipush (-2), 2, 14), (14, .invokevirtual 68, 3, 17), (17, .ireturn, 1, 18), (18, .aload_n 0, 1, 19), (19, .getfield 121, 3, 22), (22, .iload_n 3, 1, 23), (23, .iadd, 1, 24), (24, .sipush 250, 3, 27), (27, .if_icmp .le 8, 3, 30), (30, .aload_n 0, 1, 31), (31, .invokevirtual 93, 3, 34), (34, .ireturn, 1, 35), (35, .iload_n 3, 1, 36), (36, .iconst 1, 1, 37), (37, .isub, 1, 38), (38, .istore 4, 2, 40), (40, .iload 4, 2, 42), (42, .ifCond .lt 40, 3, 45), (45, .aload_n 0, 1, 46), (46, .getfield 19, 3, 49), (49, .aload_n 0, 1, 50), (50, .getfield 121, 3, 53), (53, .lload_n 1, 1, 54), (54, .bipush 8, 2, 56), (56, .iload 4, 2, 58), (58, .imul, 1, 59), (59, .lushr, 1, 60), (60, .l2i, 1, 61), (61, .sipush 255, 3, 64), (64, .iand, 1, 65), (65, .iastore, 1, 66), (66, .aload_n 0, 1, 67), (67, .dup, 1, 68), (68, .getfield 121, 3, 71), (71, .iconst 1, 1, 72), (72, .iadd, 1, 73), (73, .putfield 121, 3, 76), (76, .iinc 4 (-1), 3, 79), (79, .goto (-39), 3, 82), (82, .aload_n 0, 1, 83), (83, .getfield 121, 3, 86), (86, .ireturn, 1, 87)]
set_option maxRecDepth 100000 in
theorem dt_X11_type : DT cX11_type tdt_X11_type := by unfold DT; decide +kernel
theorem kb_8 : (Int8.ofInt 8).toInt32 = (8 : Int32) := by decide +kernel
theorem ff_X11_121 : FF RX11 121 11 9 := ⟨RX11, TX11, 15, tyX11, rfl, by decide, lay_11, rfl, Or.inl (tbl_in 388 (by decide +kernel) (by decide +kernel)), tyX11_ok, nmX11⟩
theorem ks_250 : (Int16.ofInt 250).toInt32 = (250 : Int32) := by decide +kernel
theorem ff_X11_19 : FF RX11 19 11 3 := ⟨RX11, TX11, 15, tyX11, rfl, by decide, lay_11, rfl, Or.inl (tbl_in 382 (by decide +kernel) (by decide +kernel)), tyX11_ok, nmX11⟩
theorem ks_255 : (Int16.ofInt 255).toInt32 = (255 : Int32) := by decide +kernel
theorem sk_3 : SK[3]? = some (100, [250]) := rfl
theorem fw_11_9 : FW 11 9 .int := ⟨_, rfl, by decide +kernel, by decide +kernel⟩
abbrev M_X11_clear : MI := (yX11_clear, cX11_clear, 2, (some .int))
def tdt_X11_clear : List (Nat × Instr × Nat × Nat) := [(0, .aload_n 0, 1, 1), (1, .getfield 121, 3, 4), (4, .istore_n 1, 1, 5), (5, .aload_n 0, 1, 6), (6, .iconst 0, 1, 7), (7, .putfield 121, 3, 10), (10, .iload_n 1, 1, 11), (11, .ireturn, 1, 12)]
set_option maxRecDepth 100000 in
theorem dt_X11_clear : DT cX11_clear tdt_X11_clear := by unfold DT; decide +kernel
abbrev M_X11_day : MI := (yX11_day, cX11_day, 3, (some .int))
def tdt_X11_day : List (Nat × Instr × Nat × Nat) := [(0, .aload_n 0, 1, 1), (1, .getfield 50, 3, 4), (4, .getfield 72, 3, 7), (7, .iload_n 1, 1, 8), (8, .invokevirtual 132, 3, 11), (11, .ifCond .eq 15, 3, 14), (14, .iload_n 2, 1, 15), (15, .iconst (-1), 1, 16), (16, .if_icmp .eq 17, 3, 19), (19, .iload_n 2, 1, 20), (20, .invokestatic 108, 3, 23), (23, .ifCond .ne 10, 3, 26), (26, .aload_n 0, 1, 27), (27, .bipush (-10), 2, 29), (29, .invokevirtual 68, 3, 32), (32, .ireturn, 1, 33), (33, .aload_n 0, 1, 34), (34, .getfield 57, 3, 37), (37, .iload_n 1, 1, 38), (38, .invokevirtual 135, 3, 41), (41, .iload_n 2, 1, 42), (42, .iconst (-1), 1, 43), (43, .if_icmp .ne 13, 3, 46), (46, .aload_n 0, 1, 47), (47, .getfield 57, 3, 50), (50, .getfield 138, 3, 53), (53, .goto 12, 3, 56), (56, .aload_n 0, 1, 57), (57, .getfield 57, 3, 60), (60, .getfield 141, 3, 63), (63, .iload_n 2, 1, 64), (64, .iaload, 1, 65), (65, .ireturn, 1, 66)]
set_option maxRecDepth 100000 in
theorem dt_X11_day : DT cX11_day tdt_X11_day := by unfold DT; decide +kernel
abbrev M_X9_isThree : MI := (yX9_isThree, cX9_isThree, 2, (some .boolean))
def tdt_X9_isThree : List (Nat × Instr × Nat × Nat) := [(0, .aload_n 0, 1, 1), (1, .iload_n 1, 1, 2), (2, .invokevirtual 34, 3, 5), (5, .ifCond .eq 15, 3, 8), (8, .iload_n 1, 1, 9), (9, .invokestatic 38, 3, 12), (12, .iconst 3, 1, 13), (13, .if_icmp .ne 7, 3, 16), (16, .iconst 1, 1, 17), (17, .goto 4, 3, 20), (20, .iconst 0, 1, 21), (21, .ireturn, 1, 22)]
set_option maxRecDepth 100000 in
theorem dt_X9_isThree : DT cX9_isThree tdt_X9_isThree := by unfold DT; decide +kernel
abbrev M_X9_isGroup : MI := (yX9_isGroup, cX9_isGroup, 2, (some .boolean))
def tdt_X9_isGroup : List (Nat × Instr × Nat × Nat) := [(0, .iload_n 1, 1, 1), (1, .ifCond .lt 17, 3, 4), (4, .iload_n 1, 1, 5), (5, .iconst 1, 1, 6), (6, .aload_n 0, 1, 7), (7, .getfield 31, 3, 10), (10, .ishl, 1, 11), (11, .if_icmp .ge 7, 3, 14), (14, .iconst 1, 1, 15), (15, .goto 4, 3, 18), (18, .iconst 0, 1, 19), (19, .ireturn, 1, 20)]
set_option maxRecDepth 100000 in
theorem dt_X9_isGroup : DT cX9_isGroup tdt_X9_isGroup := by unfold DT; decide +kernel
theorem cn_X9_isGroup : CFn M_X9_isGroup 1 := ⟨tbl_in 621 (by decide +kernel) (by decide +kernel), tbl_in 111 (by decide +kernel) (by decide +kernel), by decide, by decide +kernel, by decide +kernel, by decide +kernel⟩
theorem cf_X9_34 : CFV RX9 34 M_X9_isGroup 1 := ⟨cn_X9_isGroup, Or.inl (tbl_in 618 (by decide +kernel) (by decide +kernel)), tbl_in 620 (by decide +kernel) (by decide +kernel), tbl_in 23 (by decide +kernel) (by decide +kernel)⟩
abbrev M_J6_bitCount : MI := (yJ6_bitCount_0f7a4, cJ6_bitCount_0f7a4, 1, (some .int))
def tdt_J6_bitCount : List (Nat × Instr × Nat × Nat) := [(0, .iload_n 0, 1, 1), (1, .iload_n 0, 1, 2), (2, .iconst 1, 1, 3), (3, .iushr, 1, 4), (4, .ldc_w 265, 3, 7), (7, .iand, 1, 8), (8, .isub, 1, 9), (9, .istore_n 0, 1, 10), (10, .iload_n 0, 1, 11), (11, .ldc_w 266, 3, 14), (14, .iand, 1, 15), (15, .iload_n 0, 1, 16), (16, .iconst 2, 1, 17), (17, .iushr, 1, 18), (18, .ldc_w 266, 3, 21), (21, .iand, 1, 22), (22, .iadd, 1, 23), (23, .istore_n 0, 1, 24), (24, .iload_n 0, 1, 25), (25, .iload_n 0, 1, 26), (26, .iconst 4, 1, 27), (27, .iushr, 1, 28), (28, .iadd, 1, 29), (29, .ldc_w 267, 3, 32), (32, .iand, 1, 33), (33, .istore_n 0, 1, 34), (34, .iload_n 0, 1, 35), (35, .iload_n 0, 1, 36), (36, .bipush 8, 2, 38), (38, .iushr, 1, 39), (39, .iadd, 1, 40), (40, .istore_n 0, 1, 41), (41, .iload_n 0, 1, 42), (42, .iload_n 0, 1, 43), (43, .bipush 16, 2, 45), (45, .iushr, 1, 46), (46, .iadd, 1, 47), (47, .istore_n 0, 1, 48), (48, .iload_n 0, 1, 49), (49, .bipush 63, 2, 51), (51, .iand, 1, 52), (52, .ireturn, 1, 53)]
set_option maxRecDepth 100000 in
theorem dt_J6_bitCount : DT cJ6_bitCount_0f7a4 tdt_J6_bitCount := by unfold DT; decide +kernel
theorem ci_J6_265 : Cond.constant RJ6 265 1431655765 ∈ tbl := tbl_in 625 (by decide +kernel) (by decide +kernel)
theorem ci_J6_266 : Cond.constant RJ6 266 858993459 ∈ tbl := tbl_in 626 (by decide +kernel) (by decide +kernel)
theorem ki_2 : Int32.ofInt 2 = (2 : Int32) := by decide +kernel
theorem ci_J6_267 : Cond.constant RJ6 267 252645135 ∈ tbl := tbl_in 627 (by decide +kernel) (by decide +kernel)
theorem kb_16 : (Int8.ofInt 16).toInt32 = (16 : Int32) := by decide +kernel
theorem kb_63 : (Int8.ofInt 63).toInt32 = (63 : Int32) := by decide +kernel
theorem cn_J6_bitCount : CFn M_J6_bitCount 1 := ⟨tbl_in 624 (by decide +kernel) (by decide +kernel), tbl_in 128 (by decide +kernel) (by decide +kernel), by decide, by decide +kernel, by decide +kernel, by decide +kernel⟩
theorem cf_X9_38 : CFS RX9 38 M_J6_bitCount 1 := ⟨cn_J6_bitCount, Or.inl (tbl_in 622 (by decide +kernel) (by decide +kernel)), tbl_in 623 (by decide +kernel) (by decide +kernel)⟩
theorem ki_3 : Int32.ofInt 3 = (3 : Int32) := by decide +kernel
theorem cn_X9_isThree : CFn M_X9_isThree 1 := ⟨tbl_in 617 (by decide +kernel) (by decide +kernel), tbl_in 111 (by decide +kernel) (by decide +kernel), by decide, by decide +kernel, by decide +kernel, by decide +kernel⟩
theorem cf_X11_132 : CFV RX11 132 M_X9_isThree 1 := ⟨cn_X9_isThree, Or.inr ⟨"TiedThrees", nst_in 614 (by decide +kernel) (by decide +kernel)⟩, tbl_in 616 (by decide +kernel) (by decide +kernel), tbl_in 22 (by decide +kernel) (by decide +kernel)⟩
theorem kb_m10 : (Int8.ofInt (-10)).toInt32 = ((-10) : Int32) := by decide +kernel
theorem ff_X11_57 : FF RX11 57 11 5 := ⟨RX11, TX11, 15, tyX11, rfl, by decide, lay_11, rfl, Or.inl (tbl_in 384 (by decide +kernel) (by decide +kernel)), tyX11_ok, nmX11⟩
abbrev M_X0_pass : MI := (yX0_pass, cX0_pass, 5, none)
def tdt_X0_pass : List (Nat × Instr × Nat × Nat) := [(0, .aload_n 0, 1, 1), (1, .iload_n 1, 1, 2), (2, .invokevirtual 51, 3, 5), (5, .aload_n 0, 1, 6), (6, .getfield 34, 3, 9), (9, .iload_n 1, 1, 10), (10, .invokevirtual 55, 3, 13), (13, .istore_n 2, 1, 14), (14, .iconst 0, 1, 15), (15, .istore_n 3, 1, 16), (16, .iload_n 3, 1, 17), (17, .bipush 10, 2, 19), (19, .if_icmp .ge 54, 3, 22), (22, .aload_n 0, 1, 23), (23, .iload_n 3, 1, 24), (24, .putfield 61, 3, 27), (27, .aload_n 0, 1, 28), (28, .invokevirtual 65, 3, 31), (31, .aload_n 0, 1, 32), (32, .invokevirtual 68, 3, 35), (35, .istore 4, 2, 37), (37, .aload_n 0, 1, 38), (38, .iload 4, 2, 40), (40, .invokevirtual 72, 3, 43), (43, .iload_n 2, 1, 44), (44, .ifCond .eq 9, 3, 47), (47, .aload_n 0, 1, 48), (48, .iload 4, 2, 50), (50, .invokevirtual 72, 3, 53), (53, .aload_n 0, 1, 54), (54, .invokevirtual 75, 3, 57), (57, .aload_n 0, 1, 58), (58, .getfield 31, 3, 61), (61, .iload_n 3, 1, 62), (62, .aload_n 0, 1, 63), (63, .getfield 78, 3, 66), (66, .iastore, 1, 67), (67, .iinc 3 1, 3, 70), (70, .goto (-54), 3, 73), (73, .return_, 1, 74)]
set_option maxRecDepth 100000 in
theorem dt_X0_pass : DT cX0_pass tdt_X0_pass := by unfold DT; decide +kernel
abbrev M_X0_begin : MI := (yX0_begin, cX0_begin, 4, none)
def tdt_X0_begin : List (Nat × Instr × Nat × Nat) := [(0, .aload_n 0, 1, 1), (1, .iconst 0, 1, 2), (2, .putfield 78, 3, 5), (5, .aload_n 0, 1, 6), (6, .iconst 0, 1, 7), (7, .putfield 81, 3, 10), (10, .iconst 0, 1, 11), (11, .istore_n 2, 1, 12), (12, .iconst 0, 1, 13), (13, .istore_n 3, 1, 14), (14, .iload_n 3, 1, 15), (15, .aload_n 0, 1, 16), (16, .getfield 34, 3, 19), (19, .getfield 84, 3, 22), (22, .if_icmp .ge 32, 3, 25), (25, .iload_n 2, 1, 26), (26, .iconst 3, 1, 27), (27, .if_icmp .ge 27, 3, 30), (30, .iload_n 1, 1, 31), (31, .iload_n 3, 1, 32), (32, .invokestatic 87, 3, 35), (35, .ifCond .eq 13, 3, 38), (38, .aload_n 0, 1, 39), (39, .getfield 17, 3, 42), (42, .iload_n 2, 1, 43), (43, .iload_n 3, 1, 44), (44, .iastore, 1, 45), (45, .iinc 2 1, 3, 48), (48, .iinc 3 1, 3, 51), (51, .goto (-37), 3, 54), (54, .iconst 0, 1, 55), (55, .istore_n 3, 1, 56), (56, .iload_n 3, 1, 57), (57, .bipush 36, 2, 59), (59, .if_icmp .ge 16, 3, 62), (62, .aload_n 0, 1, 63), (63, .getfield 28, 3, 66), (66, .iload_n 3, 1, 67), (67, .iconst 0, 1, 68), (68, .bastore, 1, 69), (69, .iinc 3 1, 3, 72), (72, .goto (-16), 3, 75), (75, .return_, 1, 76)]
set_option maxRecDepth 100000 in
theorem dt_X0_begin : DT cX0_begin tdt_X0_begin := by unfold DT; decide +kernel
theorem lay_0 : ∀ w ∈ u_ws RX0 TX0 10, w ∈ tbl := by
  intro w hw
  refine List.mem_filter.mpr ⟨?_, ?_⟩
  · revert w; decide +kernel
  · revert w; decide +kernel
theorem ff_X0_78 : FF RX0 78 0 8 := ⟨RX0, TX0, 10, tyX0, rfl, by decide, lay_0, rfl, Or.inl (tbl_in 336 (by decide +kernel) (by decide +kernel)), tyX0_ok, nmX0⟩
theorem sk_31 : SK[31]? = some (0, [22, 35, 36, 37, 38, 39, 40, 0, 0, 0]) := rfl
theorem fw_0_8 : FW 0 8 .int := ⟨_, rfl, by decide +kernel, by decide +kernel⟩
theorem ff_X0_81 : FF RX0 81 0 9 := ⟨RX0, TX0, 10, tyX0, rfl, by decide, lay_0, rfl, Or.inl (tbl_in 337 (by decide +kernel) (by decide +kernel)), tyX0_ok, nmX0⟩
theorem fw_0_9 : FW 0 9 .int := ⟨_, rfl, by decide +kernel, by decide +kernel⟩
theorem ff_X0_34 : FF RX0 34 0 0 := ⟨RX0, TX0, 10, tyX0, rfl, by decide, lay_0, rfl, Or.inl (tbl_in 321 (by decide +kernel) (by decide +kernel)), tyX0_ok, nmX0⟩
theorem ff_X0_84 : FF RX0 84 9 6 := ⟨RX9, TX9, 7, tyX9, rfl, by decide, lay_9, rfl, Or.inr ⟨"TiedThrees", nst_in 172 (by decide +kernel) (by decide +kernel)⟩, tyX9_ok, nmX9⟩
abbrev M_X11_isIn : MI := (yX11_isIn, cX11_isIn, 2, (some .boolean))
def tdt_X11_isIn : List (Nat × Instr × Nat × Nat) := [(0, .iload_n 0, 1, 1), (1, .iload_n 1, 1, 2), (2, .ishr, 1, 3), (3, .iconst 1, 1, 4), (4, .iand, 1, 5), (5, .iconst 1, 1, 6), (6, .if_icmp .ne 7, 3, 9), (9, .iconst 1, 1, 10), (10, .goto 4, 3, 13), (13, .iconst 0, 1, 14), (14, .ireturn, 1, 15)]
set_option maxRecDepth 100000 in
theorem dt_X11_isIn : DT cX11_isIn tdt_X11_isIn := by unfold DT; decide +kernel
theorem cn_X11_isIn : CFn M_X11_isIn 2 := ⟨tbl_in 638 (by decide +kernel) (by decide +kernel), tbl_in 109 (by decide +kernel) (by decide +kernel), by decide, by decide +kernel, by decide +kernel, by decide +kernel⟩
theorem cf_X0_87 : CFS RX0 87 M_X11_isIn 2 := ⟨cn_X11_isIn, Or.inr ⟨"TiedThrees", nst_in 636 (by decide +kernel) (by decide +kernel)⟩, tbl_in 637 (by decide +kernel) (by decide +kernel)⟩
theorem ff_X0_17 : FF RX0 17 0 2 := ⟨RX0, TX0, 10, tyX0, rfl, by decide, lay_0, rfl, Or.inl (tbl_in 323 (by decide +kernel) (by decide +kernel)), tyX0_ok, nmX0⟩
theorem sk_33 : SK[33]? = some (100, [3]) := rfl
theorem kb_36 : (Int8.ofInt 36).toInt32 = (36 : Int32) := by decide +kernel
theorem ff_X0_28 : FF RX0 28 0 5 := ⟨RX0, TX0, 10, tyX0, rfl, by decide, lay_0, rfl, Or.inl (tbl_in 330 (by decide +kernel) (by decide +kernel)), tyX0_ok, nmX0⟩
theorem sk_36 : SK[36]? = some (101, [36]) := rfl
theorem cn_X0_begin : CFn M_X0_begin 1 := ⟨tbl_in 635 (by decide +kernel) (by decide +kernel), tbl_in 114 (by decide +kernel) (by decide +kernel), by decide, by decide +kernel, by decide +kernel, by decide +kernel⟩
theorem cf_X0_51 : CFV RX0 51 M_X0_begin 1 := ⟨cn_X0_begin, Or.inl (tbl_in 632 (by decide +kernel) (by decide +kernel)), tbl_in 634 (by decide +kernel) (by decide +kernel), tbl_in 25 (by decide +kernel) (by decide +kernel)⟩
abbrev M_X9_isQuick : MI := (yX9_isQuick, cX9_isQuick, 3, (some .boolean))
def tdt_X9_isQuick : List (Nat × Instr × Nat × Nat) := [(0, .iconst 0, 1, 1), (1, .istore_n 2, 1, 2), (2, .iload_n 2, 1, 3), (3, .aload_n 0, 1, 4), (4, .getfield 31, 3, 7), (7, .if_icmp .ge 29, 3, 10), (10, .iload_n 1, 1, 11), (11, .iload_n 2, 1, 12), (12, .invokestatic 50, 3, 15), (15, .ifCond .eq 15, 3, 18), (18, .aload_n 0, 1, 19), (19, .getfield 15, 3, 22), (22, .iload_n 2, 1, 23), (23, .iaload, 1, 24), (24, .iconst 5, 1, 25), (25, .if_icmp .ge 5, 3, 28), (28, .iconst 0, 1, 29), (29, .ireturn, 1, 30), (30, .iinc 2 1, 3, 33), (33, .goto (-31), 3, 36), (36, .iconst 1, 1, 37), (37, .ireturn, 1, 38)]
set_option maxRecDepth 100000 in
theorem dt_X9_isQuick : DT cX9_isQuick tdt_X9_isQuick := by unfold DT; decide +kernel
theorem cf_X9_50 : CFS RX9 50 M_X11_isIn 2 := ⟨cn_X11_isIn, Or.inr ⟨"TiedThrees", nst_in 643 (by decide +kernel) (by decide +kernel)⟩, tbl_in 637 (by decide +kernel) (by decide +kernel)⟩
theorem cn_X9_isQuick : CFn M_X9_isQuick 1 := ⟨tbl_in 642 (by decide +kernel) (by decide +kernel), tbl_in 111 (by decide +kernel) (by decide +kernel), by decide, by decide +kernel, by decide +kernel, by decide +kernel⟩
theorem cf_X0_55 : CFV RX0 55 M_X9_isQuick 1 := ⟨cn_X9_isQuick, Or.inr ⟨"TiedThrees", nst_in 639 (by decide +kernel) (by decide +kernel)⟩, tbl_in 641 (by decide +kernel) (by decide +kernel), tbl_in 26 (by decide +kernel) (by decide +kernel)⟩
theorem ff_X0_61 : FF RX0 61 0 7 := ⟨RX0, TX0, 10, tyX0, rfl, by decide, lay_0, rfl, Or.inl (tbl_in 334 (by decide +kernel) (by decide +kernel)), tyX0_ok, nmX0⟩
theorem fw_0_7 : FW 0 7 .int := ⟨_, rfl, by decide +kernel, by decide +kernel⟩
abbrev M_X0_lookAround : MI := (yX0_lookAround, cX0_lookAround, 4, none)
def tdt_X0_lookAround : List (Nat × Instr × Nat × Nat) := [(0, .iconst 0, 1, 1), (1, .istore_n 1, 1, 2), (2, .iload_n 1, 1, 3), (3, .iconst 3, 1, 4), (4, .if_icmp .ge 102, 3, 7), (7, .aload_n 0, 1, 8), (8, .getfield 17, 3, 11), (11, .iload_n 1, 1, 12), (12, .iaload, 1, 13), (13, .iconst 4, 1, 14), (14, .imul, 1, 15), (15, .istore_n 2, 1, 16), (16, .aload_n 0, 1, 17), (17, .getfield 21, 3, 20), (20, .iload_n 1, 1, 21), (21, .aload_n 0, 1, 22), (22, .getfield 78, 3, 25), (25, .iastore, 1, 26), (26, .aload_n 0, 1, 27), (27, .getfield 24, 3, 30), (30, .iload_n 1, 1, 31), (31, .iconst 0, 1, 32), (32, .bastore, 1, 33), (33, .iload_n 2, 1, 34), (34, .istore_n 3, 1, 35), (35, .iload_n 3, 1, 36), (36, .iload_n 2, 1, 37), (37, .aload_n 0, 1, 38), (38, .getfield 34, 3, 41), (41, .getfield 93, 3, 44), (44, .aload_n 0, 1, 45), (45, .getfield 17, 3, 48), (48, .iload_n 1, 1, 49), (49, .iaload, 1, 50), (50, .iaload, 1, 51), (51, .iadd, 1, 52), (52, .if_icmp .ge 48, 3, 55), (55, .aload_n 0, 1, 56), (56, .getfield 24, 3, 59), (59, .iload_n 1, 1, 60), (60, .baload, 1, 61), (61, .ifCond .ne 39, 3, 64), (64, .aload_n 0, 1, 65), (65, .iload_n 3, 1, 66), (66, .invokevirtual 96, 3, 69), (69, .ifCond .eq 25, 3, 72), (72, .aload_n 0, 1, 73), (73, .getfield 21, 3, 76), (76, .iload_n 1, 1, 77), (77, .aload_n 0, 1, 78), (78, .getfield 34, 3, 81), (81, .getfield 99, 3, 84), (84, .iload_n 3, 1, 85), (85, .iaload, 1, 86), (86, .iastore, 1, 87), (87, .aload_n 0, 1, 88), (88, .getfield 24, 3, 91), (91, .iload_n 1, 1, 92), (92, .iconst 1, 1, 93), (93, .bastore, 1, 94), (94, .iinc 3 1, 3, 97), (97, .goto (-62), 3, 100), (100, .iinc 1 1, 3, 103), (103, .goto (-101), 3, 106), (106, .return_, 1, 107)]
set_option maxRecDepth 100000 in
theorem dt_X0_lookAround : DT cX0_lookAround tdt_X0_lookAround := by unfold DT; decide +kernel
theorem ff_X0_21 : FF RX0 21 0 3 := ⟨RX0, TX0, 10, tyX0, rfl, by decide, lay_0, rfl, Or.inl (tbl_in 324 (by decide +kernel) (by decide +kernel)), tyX0_ok, nmX0⟩
theorem sk_34 : SK[34]? = some (100, [3]) := rfl
theorem ff_X0_24 : FF RX0 24 0 4 := ⟨RX0, TX0, 10, tyX0, rfl, by decide, lay_0, rfl, Or.inl (tbl_in 328 (by decide +kernel) (by decide +kernel)), tyX0_ok, nmX0⟩
theorem sk_35 : SK[35]? = some (101, [3]) := rfl
theorem ff_X0_93 : FF RX0 93 9 2 := ⟨RX9, TX9, 7, tyX9, rfl, by decide, lay_9, rfl, Or.inr ⟨"TiedThrees", nst_in 158 (by decide +kernel) (by decide +kernel)⟩, tyX9_ok, nmX9⟩
abbrev M_X0_isOpen : MI := (yX0_isOpen, cX0_isOpen, 2, (some .boolean))
def tdt_X0_isOpen : List (Nat × Instr × Nat × Nat) := [(0, .aload_n 0, 1, 1), (1, .getfield 28, 3, 4), (4, .iload_n 1, 1, 5), (5, .baload, 1, 6), (6, .ifCond .ne 23, 3, 9), (9, .aload_n 0, 1, 10), (10, .getfield 34, 3, 13), (13, .getfield 91, 3, 16), (16, .iload_n 1, 1, 17), (17, .iaload, 1, 18), (18, .aload_n 0, 1, 19), (19, .getfield 61, 3, 22), (22, .if_icmp .lt 7, 3, 25), (25, .iconst 1, 1, 26), (26, .goto 4, 3, 29), (29, .iconst 0, 1, 30), (30, .ireturn, 1, 31)]
set_option maxRecDepth 100000 in
theorem dt_X0_isOpen : DT cX0_isOpen tdt_X0_isOpen := by unfold DT; decide +kernel
theorem ff_X0_91 : FF RX0 91 9 4 := ⟨RX9, TX9, 7, tyX9, rfl, by decide, lay_9, rfl, Or.inr ⟨"TiedThrees", nst_in 164 (by decide +kernel) (by decide +kernel)⟩, tyX9_ok, nmX9⟩
theorem cn_X0_isOpen : CFn M_X0_isOpen 1 := ⟨tbl_in 651 (by decide +kernel) (by decide +kernel), tbl_in 114 (by decide +kernel) (by decide +kernel), by decide, by decide +kernel, by decide +kernel, by decide +kernel⟩
theorem cf_X0_96 : CFV RX0 96 M_X0_isOpen 1 := ⟨cn_X0_isOpen, Or.inl (tbl_in 648 (by decide +kernel) (by decide +kernel)), tbl_in 650 (by decide +kernel) (by decide +kernel), tbl_in 28 (by decide +kernel) (by decide +kernel)⟩
theorem ff_X0_99 : FF RX0 99 9 3 := ⟨RX9, TX9, 7, tyX9, rfl, by decide, lay_9, rfl, Or.inr ⟨"TiedThrees", nst_in 162 (by decide +kernel) (by decide +kernel)⟩, tyX9_ok, nmX9⟩
theorem cn_X0_lookAround : CFn M_X0_lookAround 0 := ⟨tbl_in 647 (by decide +kernel) (by decide +kernel), tbl_in 114 (by decide +kernel) (by decide +kernel), by decide, by decide +kernel, by decide +kernel, by decide +kernel⟩
theorem cf_X0_65 : CFV RX0 65 M_X0_lookAround 0 := ⟨cn_X0_lookAround, Or.inl (tbl_in 644 (by decide +kernel) (by decide +kernel)), tbl_in 646 (by decide +kernel) (by decide +kernel), tbl_in 27 (by decide +kernel) (by decide +kernel)⟩
abbrev M_X0_chosen : MI := (yX0_chosen, cX0_chosen, 4, (some .int))
def tdt_X0_chosen : List (Nat × Instr × Nat × Nat) := [(0, .aload_n 0, 1, 1), (1, .getfield 11, 3, 4), (4, .aload_n 0, 1, 5), (5, .getfield 34, 3, 8), (8, .getfield 102, 3, 11), (11, .aload_n 0, 1, 12), (12, .getfield 17, 3, 15), (15, .iconst 0, 1, 16), (16, .iaload, 1, 17), (17, .iaload, 1, 18), (18, .aaload, 1, 19), (19, .aload_n 0, 1, 20), (20, .iconst 0, 1, 21), (21, .invokevirtual 105, 3, 24), (24, .istore_n 1, 1, 25), (25, .aload_n 0, 1, 26), (26, .getfield 11, 3, 29), (29, .aload_n 0, 1, 30), (30, .getfield 34, 3, 33), (33, .getfield 102, 3, 36), (36, .aload_n 0, 1, 37), (37, .getfield 17, 3, 40), (40, .iconst 1, 1, 41), (41, .iaload, 1, 42), (42, .iaload, 1, 43), (43, .aaload, 1, 44), (44, .aload_n 0, 1, 45), (45, .iconst 1, 1, 46), (46, .invokevirtual 105, 3, 49), (49, .istore_n 2, 1, 50), (50, .aload_n 0, 1, 51), (51, .getfield 11, 3, 54), (54, .aload_n 0, 1, 55), (55, .getfield 34, 3, 58), (58, .getfield 102, 3, 61), (61, .aload_n 0, 1, 62), (62, .getfield 17, 3, 65), (65, .iconst 2, 1, 66), (66, .iaload, 1, 67), (67, .iaload, 1, 68), (68, .aaload, 1, 69), (69, .aload_n 0, 1, 70), (70, .iconst 2, 1, 71), (71, .invokevirtual 105, 3, 74), (74, .istore_n 3, 1, 75), (75, .iload_n 2, 1, 76), (76, .iload_n 3, 1, 77), (77, .if_icmp .ne 7, 3, 80), (80, .iload_n 2, 1, 81), (81, .goto 4, 3, 84), (84, .iload_n 1, 1, 85), (85, .ireturn, 1, 86)]
set_option maxRecDepth 100000 in
theorem dt_X0_chosen : DT cX0_chosen tdt_X0_chosen := by unfold DT; decide +kernel
theorem ff_X0_11 : FF RX0 11 0 1 := ⟨RX0, TX0, 10, tyX0, rfl, by decide, lay_0, rfl, Or.inl (tbl_in 322 (by decide +kernel) (by decide +kernel)), tyX0_ok, nmX0⟩
theorem ff_X0_102 : FF RX0 102 9 0 := ⟨RX9, TX9, 7, tyX9, rfl, by decide, lay_9, rfl, Or.inr ⟨"TiedThrees", nst_in 153 (by decide +kernel) (by decide +kernel)⟩, tyX9_ok, nmX9⟩
theorem ib_0_3 : inB 0 3 = true := by decide +kernel
theorem sk_32 : SK[32]? = some (104, [38, 39, 40, 41, 42]) := rfl
abbrev M_X5_vote : MI := (yX5_vote, cX5_vote, 3, (some .int))
def tdt_X5_vote : List (Nat × Instr × Nat × Nat) := [(0, .aload_n 1, 1, 1), (1, .getfield 7, 3, 4), (4, .iload_n 2, 1, 5), (5, .iaload, 1, 6), (6, .ireturn, 1, 7)]
set_option maxRecDepth 100000 in
theorem dt_X5_vote : DT cX5_vote tdt_X5_vote := by unfold DT; decide +kernel
theorem ff_X5_7 : FF RX5 7 0 3 := ⟨RX0, TX0, 10, tyX0, rfl, by decide, lay_0, rfl, Or.inr ⟨"TiedThrees", nst_in 325 (by decide +kernel) (by decide +kernel)⟩, tyX0_ok, nmX0⟩
abbrev M_X2_vote : MI := (yX2_vote, cX2_vote, 3, (some .int))
def tdt_X2_vote : List (Nat × Instr × Nat × Nat) := [(0, .aload_n 1, 1, 1), (1, .iload_n 2, 1, 2), (2, .invokevirtual 7, 3, 5), (5, .ireturn, 1, 6)]
set_option maxRecDepth 100000 in
theorem dt_X2_vote : DT cX2_vote tdt_X2_vote := by unfold DT; decide +kernel
abbrev M_X0_mostPressing : MI := (yX0_mostPressing, cX0_mostPressing, 6, (some .int))
def tdt_X0_mostPressing : List (Nat × Instr × Nat × Nat) := [(0, .aload_n 0, 1, 1), (1, .getfield 17, 3, 4), (4, .iload_n 1, 1, 5), (5, .iaload, 1, 6), (6, .iconst 4, 1, 7), (7, .imul, 1, 8), (8, .istore_n 2, 1, 9), (9, .aload_n 0, 1, 10), (10, .getfield 78, 3, 13), (13, .istore_n 3, 1, 14), (14, .bipush 10, 2, 16), (16, .istore 4, 2, 18), (18, .iload_n 2, 1, 19), (19, .istore 5, 2, 21), (21, .iload 5, 2, 23), (23, .iload_n 2, 1, 24), (24, .aload_n 0, 1, 25), (25, .getfield 34, 3, 28), (28, .getfield 93, 3, 31), (31, .aload_n 0, 1, 32), (32, .getfield 17, 3, 35), (35, .iload_n 1, 1, 36), (36, .iaload, 1, 37), (37, .iaload, 1, 38), (38, .iadd, 1, 39), (39, .if_icmp .ge 56, 3, 42), (42, .aload_n 0, 1, 43), (43, .iload 5, 2, 45), (45, .invokevirtual 96, 3, 48), (48, .ifCond .eq 41, 3, 51), (51, .aload_n 0, 1, 52), (52, .getfield 34, 3, 55), (55, .getfield 91, 3, 58), (58, .iload 5, 2, 60), (60, .iaload, 1, 61), (61, .iload 4, 2, 63), (63, .if_icmp .ge 26, 3, 66), (66, .aload_n 0, 1, 67), (67, .getfield 34, 3, 70), (70, .getfield 91, 3, 73), (73, .iload 5, 2, 75), (75, .iaload, 1, 76), (76, .istore 4, 2, 78), (78, .aload_n 0, 1, 79), (79, .getfield 34, 3, 82), (82, .getfield 99, 3, 85), (85, .iload 5, 2, 87), (87, .iaload, 1, 88), (88, .istore_n 3, 1, 89), (89, .iinc 5 1, 3, 92), (92, .goto (-71), 3, 95), (95, .iload_n 3, 1, 96), (96, .ireturn, 1, 97)]
set_option maxRecDepth 100000 in
theorem dt_X0_mostPressing : DT cX0_mostPressing tdt_X0_mostPressing := by unfold DT; decide +kernel
theorem cn_X0_mostPressing : CFn M_X0_mostPressing 1 := ⟨tbl_in 666 (by decide +kernel) (by decide +kernel), tbl_in 114 (by decide +kernel) (by decide +kernel), by decide, by decide +kernel, by decide +kernel, by decide +kernel⟩
theorem cf_X2_7 : CFV RX2 7 M_X0_mostPressing 1 := ⟨cn_X0_mostPressing, Or.inr ⟨"TiedThrees", nst_in 663 (by decide +kernel) (by decide +kernel)⟩, tbl_in 665 (by decide +kernel) (by decide +kernel), tbl_in 30 (by decide +kernel) (by decide +kernel)⟩
abbrev M_X8_vote : MI := (yX8_vote, cX8_vote, 4, (some .int))
def tdt_X8_vote : List (Nat × Instr × Nat × Nat) := [(0, .aload_n 1, 1, 1), (1, .iload_n 2, 1, 2), (2, .invokevirtual 9, 3, 5), (5, .istore_n 3, 1, 6), (6, .iload_n 3, 1, 7), (7, .iconst (-1), 1, 8), (8, .if_icmp .ne 12, 3, 11), (11, .aload_n 1, 1, 12), (12, .getfield 15, 3, 15), (15, .iload_n 2, 1, 16), (16, .iaload, 1, 17), (17, .goto 4, 3, 20), (20, .iload_n 3, 1, 21), (21, .ireturn, 1, 22)]
set_option maxRecDepth 100000 in
theorem dt_X8_vote : DT cX8_vote tdt_X8_vote := by unfold DT; decide +kernel
abbrev M_X0_firstUndone : MI := (yX0_firstUndone, cX0_firstUndone, 3, (some .int))
def tdt_X0_firstUndone : List (Nat × Instr × Nat × Nat) := [(0, .aload_n 0, 1, 1), (1, .getfield 17, 3, 4), (4, .iload_n 1, 1, 5), (5, .iaload, 1, 6), (6, .iconst 4, 1, 7), (7, .imul, 1, 8), (8, .istore_n 2, 1, 9), (9, .aload_n 0, 1, 10), (10, .getfield 34, 3, 13), (13, .getfield 93, 3, 16), (16, .aload_n 0, 1, 17), (17, .getfield 17, 3, 20), (20, .iload_n 1, 1, 21), (21, .iaload, 1, 22), (22, .iaload, 1, 23), (23, .ifCond .eq 12, 3, 26), (26, .aload_n 0, 1, 27), (27, .getfield 28, 3, 30), (30, .iload_n 2, 1, 31), (31, .baload, 1, 32), (32, .ifCond .eq 7, 3, 35), (35, .iconst (-1), 1, 36), (36, .goto 12, 3, 39), (39, .aload_n 0, 1, 40), (40, .getfield 34, 3, 43), (43, .getfield 99, 3, 46), (46, .iload_n 2, 1, 47), (47, .iaload, 1, 48), (48, .ireturn, 1, 49)]
set_option maxRecDepth 100000 in
theorem dt_X0_firstUndone : DT cX0_firstUndone tdt_X0_firstUndone := by unfold DT; decide +kernel
theorem cn_X0_firstUndone : CFn M_X0_firstUndone 1 := ⟨tbl_in 686 (by decide +kernel) (by decide +kernel), tbl_in 114 (by decide +kernel) (by decide +kernel), by decide, by decide +kernel, by decide +kernel, by decide +kernel⟩
theorem cf_X8_9 : CFV RX8 9 M_X0_firstUndone 1 := ⟨cn_X0_firstUndone, Or.inr ⟨"TiedThrees", nst_in 683 (by decide +kernel) (by decide +kernel)⟩, tbl_in 685 (by decide +kernel) (by decide +kernel), tbl_in 31 (by decide +kernel) (by decide +kernel)⟩
theorem ff_X8_15 : FF RX8 15 0 3 := ⟨RX0, TX0, 10, tyX0, rfl, by decide, lay_0, rfl, Or.inr ⟨"TiedThrees", nst_in 326 (by decide +kernel) (by decide +kernel)⟩, tyX0_ok, nmX0⟩
abbrev M_X4_vote : MI := (yX4_vote, cX4_vote, 3, (some .int))
def tdt_X4_vote : List (Nat × Instr × Nat × Nat) := [(0, .aload_n 0, 1, 1), (1, .aload_n 1, 1, 2), (2, .iload_n 2, 1, 3), (3, .invokevirtual 7, 3, 6), (6, .ireturn, 1, 7)]
set_option maxRecDepth 100000 in
theorem dt_X4_vote : DT cX4_vote tdt_X4_vote := by unfold DT; decide +kernel
abbrev M_X4_kindly : MI := (yX4_kindly, cX4_kindly, 3, (some .int))
def tdt_X4_kindly : List (Nat × Instr × Nat × Nat) := [(0, .aload_n 1, 1, 1), (1, .getfield 13, 3, 4), (4, .iload_n 2, 1, 5), (5, .baload, 1, 6), (6, .ifCond .eq 10, 3, 9), (9, .aload_n 1, 1, 10), (10, .getfield 19, 3, 13), (13, .iload_n 2, 1, 14), (14, .iaload, 1, 15), (15, .ireturn, 1, 16), (16, .aload_n 1, 1, 17), (17, .getfield 19, 3, 20), (20, .iload_n 2, 1, 21), (21, .ifCond .ne 7, 3, 24), (24, .iconst 1, 1, 25), (25, .goto 4, 3, 28), (28, .iconst 0, 1, 29), (29, .iaload, 1, 30), (30, .ireturn, 1, 31)]
set_option maxRecDepth 100000 in
theorem dt_X4_kindly : DT cX4_kindly tdt_X4_kindly := by unfold DT; decide +kernel
theorem ff_X4_13 : FF RX4 13 0 4 := ⟨RX0, TX0, 10, tyX0, rfl, by decide, lay_0, rfl, Or.inr ⟨"TiedThrees", nst_in 329 (by decide +kernel) (by decide +kernel)⟩, tyX0_ok, nmX0⟩
theorem ff_X4_19 : FF RX4 19 0 3 := ⟨RX0, TX0, 10, tyX0, rfl, by decide, lay_0, rfl, Or.inr ⟨"TiedThrees", nst_in 327 (by decide +kernel) (by decide +kernel)⟩, tyX0_ok, nmX0⟩
theorem ib_1_3 : inB 1 3 = true := by decide +kernel
theorem cn_X4_kindly : CFn M_X4_kindly 2 := ⟨tbl_in 675 (by decide +kernel) (by decide +kernel), tbl_in 118 (by decide +kernel) (by decide +kernel), by decide, by decide +kernel, by decide +kernel, by decide +kernel⟩
theorem cf_X4_7 : CFV RX4 7 M_X4_kindly 2 := ⟨cn_X4_kindly, Or.inl (tbl_in 679 (by decide +kernel) (by decide +kernel)), tbl_in 674 (by decide +kernel) (by decide +kernel), tbl_in 1396 (by decide +kernel) (by decide +kernel)⟩
theorem sk_41 : SK[41]? = some (4, []) := rfl
abbrev M_X3_vote : MI := (yX3_vote, cX3_vote, 3, (some .int))
def tdt_X3_vote : List (Nat × Instr × Nat × Nat) := [(0, .aload_n 1, 1, 1), (1, .getfield 7, 3, 4), (4, .iconst 2, 1, 5), (5, .irem, 1, 6), (6, .ifCond .ne 10, 3, 9), (9, .aload_n 1, 1, 10), (10, .getfield 13, 3, 13), (13, .goto 9, 3, 16), (16, .aload_n 0, 1, 17), (17, .aload_n 1, 1, 18), (18, .iload_n 2, 1, 19), (19, .invokevirtual 16, 3, 22), (22, .ireturn, 1, 23)]
set_option maxRecDepth 100000 in
theorem dt_X3_vote : DT cX3_vote tdt_X3_vote := by unfold DT; decide +kernel
theorem ff_X3_7 : FF RX3 7 0 7 := ⟨RX0, TX0, 10, tyX0, rfl, by decide, lay_0, rfl, Or.inr ⟨"TiedThrees", nst_in 333 (by decide +kernel) (by decide +kernel)⟩, tyX0_ok, nmX0⟩
theorem cu_X3_16_X3 : CFU RX3 16 RX3 ⟨RX3, "kindly", "(LTiedThrees$Day;I)I"⟩ M_X4_kindly 2 := ⟨cn_X4_kindly, tbl_in 670 (by decide +kernel) (by decide +kernel), tbl_in 671 (by decide +kernel) (by decide +kernel), tbl_in 673 (by decide +kernel) (by decide +kernel), tbl_in 674 (by decide +kernel) (by decide +kernel), rfl, by decide +kernel⟩
theorem sk_42 : SK[42]? = some (3, []) := rfl
theorem ff_X3_13 : FF RX3 13 0 8 := ⟨RX0, TX0, 10, tyX0, rfl, by decide, lay_0, rfl, Or.inr ⟨"TiedThrees", nst_in 335 (by decide +kernel) (by decide +kernel)⟩, tyX0_ok, nmX0⟩
theorem cn_X5_vote : CFn M_X5_vote 2 := ⟨tbl_in 687 (by decide +kernel) (by decide +kernel), tbl_in 115 (by decide +kernel) (by decide +kernel), by decide, by decide +kernel, by decide +kernel, by decide +kernel⟩
theorem cf_X0_105 : CFV RX0 105 M_X5_vote 2 := ⟨cn_X5_vote, Or.inl (tbl_in 656 (by decide +kernel) (by decide +kernel)), tbl_in 657 (by decide +kernel) (by decide +kernel), tbl_in 658 (by decide +kernel) (by decide +kernel)⟩
theorem sk_38 : SK[38]? = some (5, []) := rfl
theorem cn_X2_vote : CFn M_X2_vote 2 := ⟨tbl_in 662 (by decide +kernel) (by decide +kernel), tbl_in 116 (by decide +kernel) (by decide +kernel), by decide, by decide +kernel, by decide +kernel, by decide +kernel⟩
theorem co_X0_105_X2 : CFO RX0 105 RX2 yX5_vote M_X2_vote 2 := ⟨cn_X2_vote, tbl_in 656 (by decide +kernel) (by decide +kernel), tbl_in 659 (by decide +kernel) (by decide +kernel), tbl_in 657 (by decide +kernel) (by decide +kernel), tbl_in 660 (by decide +kernel) (by decide +kernel), tbl_in 661 (by decide +kernel) (by decide +kernel), ⟨cX5_vote, 3, (some .int), tbl_in 687 (by decide +kernel) (by decide +kernel)⟩, by decide +kernel, by decide +kernel, by decide +kernel⟩
theorem sk_39 : SK[39]? = some (2, []) := rfl
theorem cn_X8_vote : CFn M_X8_vote 2 := ⟨tbl_in 682 (by decide +kernel) (by decide +kernel), tbl_in 117 (by decide +kernel) (by decide +kernel), by decide, by decide +kernel, by decide +kernel, by decide +kernel⟩
theorem co_X0_105_X8 : CFO RX0 105 RX8 yX5_vote M_X8_vote 2 := ⟨cn_X8_vote, tbl_in 656 (by decide +kernel) (by decide +kernel), tbl_in 659 (by decide +kernel) (by decide +kernel), tbl_in 657 (by decide +kernel) (by decide +kernel), tbl_in 680 (by decide +kernel) (by decide +kernel), tbl_in 681 (by decide +kernel) (by decide +kernel), ⟨cX5_vote, 3, (some .int), tbl_in 687 (by decide +kernel) (by decide +kernel)⟩, by decide +kernel, by decide +kernel, by decide +kernel⟩
theorem sk_40 : SK[40]? = some (8, []) := rfl
theorem cn_X4_vote : CFn M_X4_vote 2 := ⟨tbl_in 678 (by decide +kernel) (by decide +kernel), tbl_in 118 (by decide +kernel) (by decide +kernel), by decide, by decide +kernel, by decide +kernel, by decide +kernel⟩
theorem co_X0_105_X4 : CFO RX0 105 RX4 yX5_vote M_X4_vote 2 := ⟨cn_X4_vote, tbl_in 656 (by decide +kernel) (by decide +kernel), tbl_in 659 (by decide +kernel) (by decide +kernel), tbl_in 657 (by decide +kernel) (by decide +kernel), tbl_in 676 (by decide +kernel) (by decide +kernel), tbl_in 677 (by decide +kernel) (by decide +kernel), ⟨cX5_vote, 3, (some .int), tbl_in 687 (by decide +kernel) (by decide +kernel)⟩, by decide +kernel, by decide +kernel, by decide +kernel⟩
theorem cn_X3_vote : CFn M_X3_vote 2 := ⟨tbl_in 669 (by decide +kernel) (by decide +kernel), tbl_in 119 (by decide +kernel) (by decide +kernel), by decide, by decide +kernel, by decide +kernel, by decide +kernel⟩
theorem co_X0_105_X3 : CFO RX0 105 RX3 yX5_vote M_X3_vote 2 := ⟨cn_X3_vote, tbl_in 656 (by decide +kernel) (by decide +kernel), tbl_in 659 (by decide +kernel) (by decide +kernel), tbl_in 657 (by decide +kernel) (by decide +kernel), tbl_in 667 (by decide +kernel) (by decide +kernel), tbl_in 668 (by decide +kernel) (by decide +kernel), ⟨cX5_vote, 3, (some .int), tbl_in 687 (by decide +kernel) (by decide +kernel)⟩, by decide +kernel, by decide +kernel, by decide +kernel⟩
theorem ib_2_3 : inB 2 3 = true := by decide +kernel
theorem cn_X0_chosen : CFn M_X0_chosen 0 := ⟨tbl_in 655 (by decide +kernel) (by decide +kernel), tbl_in 114 (by decide +kernel) (by decide +kernel), by decide, by decide +kernel, by decide +kernel, by decide +kernel⟩
theorem cf_X0_68 : CFV RX0 68 M_X0_chosen 0 := ⟨cn_X0_chosen, Or.inl (tbl_in 652 (by decide +kernel) (by decide +kernel)), tbl_in 654 (by decide +kernel) (by decide +kernel), tbl_in 29 (by decide +kernel) (by decide +kernel)⟩
abbrev M_X0_stepTowards : MI := (yX0_stepTowards, cX0_stepTowards, 3, none)
def tdt_X0_stepTowards : List (Nat × Instr × Nat × Nat) := [(0, .aload_n 0, 1, 1), (1, .getfield 34, 3, 4), (4, .iload_n 1, 1, 5), (5, .aload_n 0, 1, 6), (6, .getfield 78, 3, 9), (9, .isub, 1, 10), (10, .invokevirtual 109, 3, 13), (13, .istore_n 2, 1, 14), (14, .iload_n 2, 1, 15), (15, .ifCond .ne 4, 3, 18), (18, .return_, 1, 19), (19, .aload_n 0, 1, 20), (20, .aload_n 0, 1, 21), (21, .getfield 34, 3, 24), (24, .iconst 2, 1, 25), (25, .iload_n 2, 1, 26), (26, .imul, 1, 27), (27, .aload_n 0, 1, 28), (28, .getfield 34, 3, 31), (31, .getfield 113, 3, 34), (34, .if_icmp .gt 12, 3, 37), (37, .aload_n 0, 1, 38), (38, .getfield 78, 3, 41), (41, .iconst 1, 1, 42), (42, .iadd, 1, 43), (43, .goto 9, 3, 46), (46, .aload_n 0, 1, 47), (47, .getfield 78, 3, 50), (50, .iconst 1, 1, 51), (51, .isub, 1, 52), (52, .invokevirtual 109, 3, 55), (55, .putfield 78, 3, 58), (58, .return_, 1, 59)]
set_option maxRecDepth 100000 in
theorem dt_X0_stepTowards : DT cX0_stepTowards tdt_X0_stepTowards := by unfold DT; decide +kernel
abbrev M_X9_onRing : MI := (yX9_onRing, cX9_onRing, 2, (some .int))
def tdt_X9_onRing : List (Nat × Instr × Nat × Nat) := [(0, .aload_n 0, 1, 1), (1, .getfield 27, 3, 4), (4, .iconst 1, 1, 5), (5, .if_icmp .ge 7, 3, 8), (8, .iconst 0, 1, 9), (9, .goto 11, 3, 12), (12, .iload_n 1, 1, 13), (13, .aload_n 0, 1, 14), (14, .getfield 27, 3, 17), (17, .invokestatic 54, 3, 20), (20, .ireturn, 1, 21)]
set_option maxRecDepth 100000 in
theorem dt_X9_onRing : DT cX9_onRing tdt_X9_onRing := by unfold DT; decide +kernel
abbrev M_J9_floorMod : MI := (yJ9_floorMod_7cf53, cJ9_floorMod_7cf53, 3, (some .int))
def tdt_J9_floorMod : List (Nat × Instr × Nat × Nat) := [(0, .iload_n 0, 1, 1), (1, .iload_n 1, 1, 2), (2, .irem, 1, 3), (3, .istore_n 2, 1, 4), (4, .iload_n 0, 1, 5), (5, .iload_n 1, 1, 6), (6, .ixor, 1, 7), (7, .ifCond .ge 11, 3, 10), (10, .iload_n 2, 1, 11), (11, .ifCond .eq 7, 3, 14), (14, .iload_n 2, 1, 15), (15, .iload_n 1, 1, 16), (16, .iadd, 1, 17), (17, .ireturn, 1, 18), (18, .iload_n 2, 1, 19), (19, .ireturn, 1, 20)]
set_option maxRecDepth 100000 in
theorem dt_J9_floorMod : DT cJ9_floorMod_7cf53 tdt_J9_floorMod := by unfold DT; decide +kernel
theorem cn_J9_floorMod : CFn M_J9_floorMod 2 := ⟨tbl_in 698 (by decide +kernel) (by decide +kernel), tbl_in 122 (by decide +kernel) (by decide +kernel), by decide, by decide +kernel, by decide +kernel, by decide +kernel⟩
theorem cf_X9_54 : CFS RX9 54 M_J9_floorMod 2 := ⟨cn_J9_floorMod, Or.inl (tbl_in 696 (by decide +kernel) (by decide +kernel)), tbl_in 697 (by decide +kernel) (by decide +kernel)⟩
theorem cn_X9_onRing : CFn M_X9_onRing 1 := ⟨tbl_in 695 (by decide +kernel) (by decide +kernel), tbl_in 111 (by decide +kernel) (by decide +kernel), by decide, by decide +kernel, by decide +kernel, by decide +kernel⟩
theorem cf_X0_109 : CFV RX0 109 M_X9_onRing 1 := ⟨cn_X9_onRing, Or.inr ⟨"TiedThrees", nst_in 692 (by decide +kernel) (by decide +kernel)⟩, tbl_in 694 (by decide +kernel) (by decide +kernel), tbl_in 33 (by decide +kernel) (by decide +kernel)⟩
theorem ff_X0_113 : FF RX0 113 9 5 := ⟨RX9, TX9, 7, tyX9, rfl, by decide, lay_9, rfl, Or.inr ⟨"TiedThrees", nst_in 169 (by decide +kernel) (by decide +kernel)⟩, tyX9_ok, nmX9⟩
theorem cn_X0_stepTowards : CFn M_X0_stepTowards 1 := ⟨tbl_in 691 (by decide +kernel) (by decide +kernel), tbl_in 114 (by decide +kernel) (by decide +kernel), by decide, by decide +kernel, by decide +kernel, by decide +kernel⟩
theorem cf_X0_72 : CFV RX0 72 M_X0_stepTowards 1 := ⟨cn_X0_stepTowards, Or.inl (tbl_in 688 (by decide +kernel) (by decide +kernel)), tbl_in 690 (by decide +kernel) (by decide +kernel), tbl_in 32 (by decide +kernel) (by decide +kernel)⟩
abbrev M_X0_doErrands : MI := (yX0_doErrands, cX0_doErrands, 7, none)
def tdt_X0_doErrands : List (Nat × Instr × Nat × Nat) := [(0, .aload_n 0, 1, 1), (1, .getfield 17, 3, 4), (4, .astore_n 1, 1, 5), (5, .aload_n 1, 1, 6), (6, .arraylength, 1, 7), (7, .istore_n 2, 1, 8), (8, .iconst 0, 1, 9), (9, .istore_n 3, 1, 10), (10, .iload_n 3, 1, 11), (11, .iload_n 2, 1, 12), (12, .if_icmp .ge 92, 3, 15), (15, .aload_n 1, 1, 16), (16, .iload_n 3, 1, 17), (17, .iaload, 1, 18), (18, .istore 4, 2, 20), (20, .iload 4, 2, 22), (22, .iconst 4, 1, 23), (23, .imul, 1, 24), (24, .istore 5, 2, 26), (26, .iload 5, 2, 28), (28, .istore 6, 2, 30), (30, .iload 6, 2, 32), (32, .iload 5, 2, 34), (34, .aload_n 0, 1, 35), (35, .getfield 34, 3, 38), (38, .getfield 93, 3, 41), (41, .iload 4, 2, 43), (43, .iaload, 1, 44), (44, .iadd, 1, 45), (45, .if_icmp .ge 53, 3, 48), (48, .aload_n 0, 1, 49), (49, .getfield 34, 3, 52), (52, .getfield 99, 3, 55), (55, .iload 6, 2, 57), (57, .iaload, 1, 58), (58, .aload_n 0, 1, 59), (59, .getfield 78, 3, 62), (62, .if_icmp .ne 30, 3, 65), (65, .aload_n 0, 1, 66), (66, .iload 6, 2, 68), (68, .invokevirtual 96, 3, 71), (71, .ifCond .eq 21, 3, 74), (74, .aload_n 0, 1, 75), (75, .getfield 28, 3, 78), (78, .iload 6, 2, 80), (80, .iconst 1, 1, 81), (81, .bastore, 1, 82), (82, .aload_n 0, 1, 83), (83, .dup, 1, 84), (84, .getfield 81, 3, 87), (87, .iconst 1, 1, 88), (88, .iadd, 1, 89), (89, .putfield 81, 3, 92), (92, .iinc 6 1, 3, 95), (95, .goto (-65), 3, 98), (98, .iinc 3 1, 3, 101), (101, .goto (-91), 3, 104), (104, .return_, 1, 105)]
set_option maxRecDepth 100000 in
theorem dt_X0_doErrands : DT cX0_doErrands tdt_X0_doErrands := by unfold DT; decide +kernel
theorem kn_3 : Int32.ofNat 3 = (3 : Int32) := by decide +kernel
theorem cn_X0_doErrands : CFn M_X0_doErrands 0 := ⟨tbl_in 702 (by decide +kernel) (by decide +kernel), tbl_in 114 (by decide +kernel) (by decide +kernel), by decide, by decide +kernel, by decide +kernel, by decide +kernel⟩
theorem cf_X0_75 : CFV RX0 75 M_X0_doErrands 0 := ⟨cn_X0_doErrands, Or.inl (tbl_in 699 (by decide +kernel) (by decide +kernel)), tbl_in 701 (by decide +kernel) (by decide +kernel), tbl_in 34 (by decide +kernel) (by decide +kernel)⟩
theorem ff_X0_31 : FF RX0 31 0 6 := ⟨RX0, TX0, 10, tyX0, rfl, by decide, lay_0, rfl, Or.inl (tbl_in 331 (by decide +kernel) (by decide +kernel)), tyX0_ok, nmX0⟩
theorem sk_37 : SK[37]? = some (100, [10]) := rfl
theorem cn_X0_pass : CFn M_X0_pass 1 := ⟨tbl_in 631 (by decide +kernel) (by decide +kernel), tbl_in 114 (by decide +kernel) (by decide +kernel), by decide, by decide +kernel, by decide +kernel, by decide +kernel⟩
theorem cf_X11_135 : CFV RX11 135 M_X0_pass 1 := ⟨cn_X0_pass, Or.inr ⟨"TiedThrees", nst_in 628 (by decide +kernel) (by decide +kernel)⟩, tbl_in 630 (by decide +kernel) (by decide +kernel), tbl_in 24 (by decide +kernel) (by decide +kernel)⟩
theorem ff_X11_141 : FF RX11 141 0 6 := ⟨RX0, TX0, 10, tyX0, rfl, by decide, lay_0, rfl, Or.inr ⟨"TiedThrees", nst_in 332 (by decide +kernel) (by decide +kernel)⟩, tyX0_ok, nmX0⟩
theorem ff_X11_138 : FF RX11 138 0 9 := ⟨RX0, TX0, 10, tyX0, rfl, by decide, lay_0, rfl, Or.inr ⟨"TiedThrees", nst_in 338 (by decide +kernel) (by decide +kernel)⟩, tyX0_ok, nmX0⟩
abbrev M_X11_best : MI := (yX11_best, cX11_best, 2, (some .int))
def tdt_X11_best : List (Nat × Instr × Nat × Nat) := [(0, .aload_n 0, 1, 1), (1, .getfield 50, 3, 4), (4, .getfield 72, 3, 7), (7, .iload_n 1, 1, 8), (8, .invokevirtual 132, 3, 11), (11, .ifCond .ne 10, 3, 14), (14, .aload_n 0, 1, 15), (15, .bipush (-2), 2, 17), (17, .invokevirtual 68, 3, 20), (20, .ireturn, 1, 21), (21, .aload_n 0, 1, 22), (22, .getfield 64, 3, 25), (25, .iload_n 1, 1, 26), (26, .invokevirtual 144, 3, 29), (29, .ireturn, 1, 30)]
set_option maxRecDepth 100000 in
theorem dt_X11_best : DT cX11_best tdt_X11_best := by unfold DT; decide +kernel
theorem ff_X11_64 : FF RX11 64 11 6 := ⟨RX11, TX11, 15, tyX11, rfl, by decide, lay_11, rfl, Or.inl (tbl_in 385 (by decide +kernel) (by decide +kernel)), tyX11_ok, nmX11⟩
abbrev M_X1_mostDone : MI := (yX1_mostDone, cX1_mostDone, 8, (some .int))
def tdt_X1_mostDone : List (Nat × Instr × Nat × Nat) := [(0, .aload_n 0, 1, 1), (1, .iload_n 1, 1, 2), (2, .invokevirtual 25, 3, 5), (5, .aload_n 0, 1, 6), (6, .getfield 21, 3, 9), (9, .iload_n 1, 1, 10), (10, .invokevirtual 29, 3, 13), (13, .ifCond .eq 7, 3, 16), (16, .iconst 2, 1, 17), (17, .goto 4, 3, 20), (20, .iconst 1, 1, 21), (21, .istore_n 2, 1, 22), (22, .aload_n 0, 1, 23), (23, .getfield 15, 3, 26), (26, .iconst (-1), 1, 27), (27, .invokestatic 35, 3, 30), (30, .aload_n 0, 1, 31), (31, .getfield 15, 3, 34), (34, .iconst 0, 1, 35), (35, .iconst 0, 1, 36), (36, .iastore, 1, 37), (37, .iconst 0, 1, 38), (38, .istore_n 3, 1, 39), (39, .iload_n 3, 1, 40), (40, .bipush 10, 2, 42), (42, .if_icmp .ge 15, 3, 45), (45, .aload_n 0, 1, 46), (46, .iload_n 3, 1, 47), (47, .iload_n 2, 1, 48), (48, .invokevirtual 41, 3, 51), (51, .iinc 3 1, 3, 54), (54, .goto (-15), 3, 57), (57, .iconst 0, 1, 58), (58, .istore_n 3, 1, 59), (59, .aload_n 0, 1, 60), (60, .getfield 15, 3, 63), (63, .astore 4, 2, 65), (65, .aload 4, 2, 67), (67, .arraylength, 1, 68), (68, .istore 5, 2, 70), (70, .iconst 0, 1, 71), (71, .istore 6, 2, 73), (73, .iload 6, 2, 75), (75, .iload 5, 2, 77), (77, .if_icmp .ge 23, 3, 80), (80, .aload 4, 2, 82), (82, .iload 6, 2, 84), (84, .iaload, 1, 85), (85, .istore 7, 2, 87), (87, .iload_n 3, 1, 88), (88, .iload 7, 2, 90), (90, .invokestatic 45, 3, 93), (93, .istore_n 3, 1, 94), (94, .iinc 6 1, 3, 97), (97, .goto (-24), 3, 100), (100, .iload_n 3, 1, 101), (101, .ireturn, 1, 102)]
set_option maxRecDepth 100000 in
theorem dt_X1_mostDone : DT cX1_mostDone tdt_X1_mostDone := by unfold DT; decide +kernel
abbrev M_X1_weigh : MI := (yX1_weigh, cX1_weigh, 3, none)
def tdt_X1_weigh : List (Nat × Instr × Nat × Nat) := [(0, .aload_n 0, 1, 1), (1, .getfield 9, 3, 4), (4, .iconst 0, 1, 5), (5, .invokestatic 35, 3, 8), (8, .iconst 0, 1, 9), (9, .istore_n 2, 1, 10), (10, .iload_n 2, 1, 11), (11, .aload_n 0, 1, 12), (12, .getfield 21, 3, 15), (15, .getfield 51, 3, 18), (18, .if_icmp .ge 22, 3, 21), (21, .iload_n 1, 1, 22), (22, .iload_n 2, 1, 23), (23, .invokestatic 55, 3, 26), (26, .ifCond .eq 8, 3, 29), (29, .aload_n 0, 1, 30), (30, .iload_n 2, 1, 31), (31, .invokevirtual 59, 3, 34), (34, .iinc 2 1, 3, 37), (37, .goto (-27), 3, 40), (40, .return_, 1, 41)]
set_option maxRecDepth 100000 in
theorem dt_X1_weigh : DT cX1_weigh tdt_X1_weigh := by unfold DT; decide +kernel
theorem lay_1 : ∀ w ∈ u_ws RX1 TX1 4, w ∈ tbl := by
  intro w hw
  refine List.mem_filter.mpr ⟨?_, ?_⟩
  · revert w; decide +kernel
  · revert w; decide +kernel
theorem ff_X1_9 : FF RX1 9 1 1 := ⟨RX1, TX1, 4, tyX1, rfl, by decide, lay_1, rfl, Or.inl (tbl_in 367 (by decide +kernel) (by decide +kernel)), tyX1_ok, nmX1⟩
theorem sk_43 : SK[43]? = some (1, [22, 47, 2, 2]) := rfl
abbrev M_J7_fill : MI := (yJ7_fill_53178, cJ7_fill_53178, 4, none)
def tdt_J7_fill : List (Nat × Instr × Nat × Nat) := [(0, .iconst 0, 1, 1), (1, .istore_n 2, 1, 2), (2, .aload_n 0, 1, 3), (3, .arraylength, 1, 4), (4, .istore_n 3, 1, 5), (5, .iload_n 2, 1, 6), (6, .iload_n 3, 1, 7), (7, .if_icmp .ge 13, 3, 10), (10, .aload_n 0, 1, 11), (11, .iload_n 2, 1, 12), (12, .iload_n 1, 1, 13), (13, .iastore, 1, 14), (14, .iinc 2 1, 3, 17), (17, .goto (-12), 3, 20), (20, .return_, 1, 21)]
set_option maxRecDepth 100000 in
theorem dt_J7_fill : DT cJ7_fill_53178 tdt_J7_fill := by unfold DT; decide +kernel
theorem kn_60 : Int32.ofNat 60 = (60 : Int32) := by decide +kernel
theorem sk_44 : SK[44]? = some (100, [60]) := rfl
theorem cn_J7_fill : CFn M_J7_fill 2 := ⟨tbl_in 717 (by decide +kernel) (by decide +kernel), tbl_in 129 (by decide +kernel) (by decide +kernel), by decide, by decide +kernel, by decide +kernel, by decide +kernel⟩
theorem cf_X1_35 : CFS RX1 35 M_J7_fill 2 := ⟨cn_J7_fill, Or.inl (tbl_in 715 (by decide +kernel) (by decide +kernel)), tbl_in 716 (by decide +kernel) (by decide +kernel)⟩
theorem ff_X1_21 : FF RX1 21 1 0 := ⟨RX1, TX1, 4, tyX1, rfl, by decide, lay_1, rfl, Or.inl (tbl_in 366 (by decide +kernel) (by decide +kernel)), tyX1_ok, nmX1⟩
theorem ff_X1_51 : FF RX1 51 9 6 := ⟨RX9, TX9, 7, tyX9, rfl, by decide, lay_9, rfl, Or.inr ⟨"TiedThrees", nst_in 171 (by decide +kernel) (by decide +kernel)⟩, tyX9_ok, nmX9⟩
theorem cf_X1_55 : CFS RX1 55 M_X11_isIn 2 := ⟨cn_X11_isIn, Or.inr ⟨"TiedThrees", nst_in 718 (by decide +kernel) (by decide +kernel)⟩, tbl_in 637 (by decide +kernel) (by decide +kernel)⟩
abbrev M_X1_weighErrandsOf : MI := (yX1_weighErrandsOf, cX1_weighErrandsOf, 5, none)
def tdt_X1_weighErrandsOf : List (Nat × Instr × Nat × Nat) := [(0, .iload_n 1, 1, 1), (1, .iconst 4, 1, 2), (2, .imul, 1, 3), (3, .istore_n 2, 1, 4), (4, .iload_n 2, 1, 5), (5, .istore_n 3, 1, 6), (6, .iload_n 3, 1, 7), (7, .iload_n 2, 1, 8), (8, .aload_n 0, 1, 9), (9, .getfield 21, 3, 12), (12, .getfield 62, 3, 15), (15, .iload_n 1, 1, 16), (16, .iaload, 1, 17), (17, .iadd, 1, 18), (18, .if_icmp .ge 56, 3, 21), (21, .iconst 0, 1, 22), (22, .istore 4, 2, 24), (24, .iload 4, 2, 26), (26, .aload_n 0, 1, 27), (27, .getfield 21, 3, 30), (30, .getfield 65, 3, 33), (33, .iload_n 3, 1, 34), (34, .iaload, 1, 35), (35, .if_icmp .gt 33, 3, 38), (38, .aload_n 0, 1, 39), (39, .getfield 9, 3, 42), (42, .aload_n 0, 1, 43), (43, .getfield 21, 3, 46), (46, .getfield 68, 3, 49), (49, .iload_n 3, 1, 50), (50, .iaload, 1, 51), (51, .bipush 10, 2, 53), (53, .imul, 1, 54), (54, .iload 4, 2, 56), (56, .iadd, 1, 57), (57, .dup2, 1, 58), (58, .iaload, 1, 59), (59, .iconst 1, 1, 60), (60, .iadd, 1, 61), (61, .iastore, 1, 62), (62, .iinc 4 1, 3, 65), (65, .goto (-41), 3, 68), (68, .iinc 3 1, 3, 71), (71, .goto (-65), 3, 74), (74, .return_, 1, 75)]
set_option maxRecDepth 100000 in
theorem dt_X1_weighErrandsOf : DT cX1_weighErrandsOf tdt_X1_weighErrandsOf := by unfold DT; decide +kernel
theorem ff_X1_62 : FF RX1 62 9 2 := ⟨RX9, TX9, 7, tyX9, rfl, by decide, lay_9, rfl, Or.inr ⟨"TiedThrees", nst_in 156 (by decide +kernel) (by decide +kernel)⟩, tyX9_ok, nmX9⟩
theorem ff_X1_65 : FF RX1 65 9 4 := ⟨RX9, TX9, 7, tyX9, rfl, by decide, lay_9, rfl, Or.inr ⟨"TiedThrees", nst_in 165 (by decide +kernel) (by decide +kernel)⟩, tyX9_ok, nmX9⟩
theorem ff_X1_68 : FF RX1 68 9 3 := ⟨RX9, TX9, 7, tyX9, rfl, by decide, lay_9, rfl, Or.inr ⟨"TiedThrees", nst_in 161 (by decide +kernel) (by decide +kernel)⟩, tyX9_ok, nmX9⟩
theorem cn_X1_weighErrandsOf : CFn M_X1_weighErrandsOf 1 := ⟨tbl_in 722 (by decide +kernel) (by decide +kernel), tbl_in 120 (by decide +kernel) (by decide +kernel), by decide, by decide +kernel, by decide +kernel, by decide +kernel⟩
theorem cf_X1_59 : CFV RX1 59 M_X1_weighErrandsOf 1 := ⟨cn_X1_weighErrandsOf, Or.inl (tbl_in 719 (by decide +kernel) (by decide +kernel)), tbl_in 721 (by decide +kernel) (by decide +kernel), tbl_in 37 (by decide +kernel) (by decide +kernel)⟩
theorem cn_X1_weigh : CFn M_X1_weigh 1 := ⟨tbl_in 714 (by decide +kernel) (by decide +kernel), tbl_in 120 (by decide +kernel) (by decide +kernel), by decide, by decide +kernel, by decide +kernel, by decide +kernel⟩
theorem cf_X1_25 : CFV RX1 25 M_X1_weigh 1 := ⟨cn_X1_weigh, Or.inl (tbl_in 711 (by decide +kernel) (by decide +kernel)), tbl_in 713 (by decide +kernel) (by decide +kernel), tbl_in 36 (by decide +kernel) (by decide +kernel)⟩
theorem cf_X1_29 : CFV RX1 29 M_X9_isQuick 1 := ⟨cn_X9_isQuick, Or.inr ⟨"TiedThrees", nst_in 723 (by decide +kernel) (by decide +kernel)⟩, tbl_in 641 (by decide +kernel) (by decide +kernel), tbl_in 26 (by decide +kernel) (by decide +kernel)⟩
theorem ff_X1_15 : FF RX1 15 1 2 := ⟨RX1, TX1, 4, tyX1, rfl, by decide, lay_1, rfl, Or.inl (tbl_in 368 (by decide +kernel) (by decide +kernel)), tyX1_ok, nmX1⟩
theorem kn_384 : Int32.ofNat 384 = (384 : Int32) := by decide +kernel
theorem sk_45 : SK[45]? = some (100, [384]) := rfl
theorem ib_0_384 : inB 0 384 = true := by decide +kernel
abbrev M_X1_passHour : MI := (yX1_passHour, cX1_passHour, 4, none)
def tdt_X1_passHour : List (Nat × Instr × Nat × Nat) := [(0, .aload_n 0, 1, 1), (1, .getfield 18, 3, 4), (4, .iconst (-1), 1, 5), (5, .invokestatic 35, 3, 8), (8, .iconst 0, 1, 9), (9, .istore_n 3, 1, 10), (10, .iload_n 3, 1, 11), (11, .sipush 384, 3, 14), (14, .if_icmp .ge 26, 3, 17), (17, .aload_n 0, 1, 18), (18, .getfield 15, 3, 21), (21, .iload_n 3, 1, 22), (22, .iaload, 1, 23), (23, .iconst (-1), 1, 24), (24, .if_icmp .eq 10, 3, 27), (27, .aload_n 0, 1, 28), (28, .iload_n 3, 1, 29), (29, .iload_n 1, 1, 30), (30, .iload_n 2, 1, 31), (31, .invokevirtual 71, 3, 34), (34, .iinc 3 1, 3, 37), (37, .goto (-27), 3, 40), (40, .aload_n 0, 1, 41), (41, .getfield 15, 3, 44), (44, .astore_n 3, 1, 45), (45, .aload_n 0, 1, 46), (46, .aload_n 0, 1, 47), (47, .getfield 18, 3, 50), (50, .putfield 15, 3, 53), (53, .aload_n 0, 1, 54), (54, .aload_n 3, 1, 55), (55, .putfield 18, 3, 58), (58, .return_, 1, 59)]
set_option maxRecDepth 100000 in
theorem dt_X1_passHour : DT cX1_passHour tdt_X1_passHour := by unfold DT; decide +kernel
theorem ff_X1_18 : FF RX1 18 1 3 := ⟨RX1, TX1, 4, tyX1, rfl, by decide, lay_1, rfl, Or.inl (tbl_in 369 (by decide +kernel) (by decide +kernel)), tyX1_ok, nmX1⟩
theorem ks_384 : (Int16.ofInt 384).toInt32 = (384 : Int32) := by decide +kernel
abbrev M_X1_goOn : MI := (yX1_goOn, cX1_goOn, 10, none)
def tdt_X1_goOn : List (Nat × Instr × Nat × Nat) := [(0, .iload_n 1, 1, 1), (1, .bipush 63, 2, 3), (3, .iand, 1, 4), (4, .istore 4, 2, 6), (6, .iload_n 1, 1, 7), (7, .bipush 6, 2, 9), (9, .ishr, 1, 10), (10, .istore 5, 2, 12), (12, .iload_n 3, 1, 13), (13, .ineg, 1, 14), (14, .istore 6, 2, 16), (16, .iload 6, 2, 18), (18, .iload_n 3, 1, 19), (19, .if_icmp .gt 92, 3, 22), (22, .aload_n 0, 1, 23), (23, .getfield 21, 3, 26), (26, .iload 5, 2, 28), (28, .iload 6, 2, 30), (30, .iadd, 1, 31), (31, .invokevirtual 75, 3, 34), (34, .istore 7, 2, 36), (36, .aload_n 0, 1, 37), (37, .getfield 15, 3, 40), (40, .iload_n 1, 1, 41), (41, .iaload, 1, 42), (42, .iload 4, 2, 44), (44, .iload 7, 2, 46), (46, .invokestatic 55, 3, 49), (49, .ifCond .eq 7, 3, 52), (52, .iconst 0, 1, 53), (53, .goto 15, 3, 56), (56, .aload_n 0, 1, 57), (57, .getfield 9, 3, 60), (60, .iload 7, 2, 62), (62, .bipush 10, 2, 64), (64, .imul, 1, 65), (65, .iload_n 2, 1, 66), (66, .iadd, 1, 67), (67, .iaload, 1, 68), (68, .iadd, 1, 69), (69, .istore 8, 2, 71), (71, .iload 7, 2, 73), (73, .bipush 6, 2, 75), (75, .ishl, 1, 76), (76, .iload 4, 2, 78), (78, .iconst 1, 1, 79), (79, .iload 7, 2, 81), (81, .ishl, 1, 82), (82, .ior, 1, 83), (83, .iadd, 1, 84), (84, .istore 9, 2, 86), (86, .aload_n 0, 1, 87), (87, .getfield 18, 3, 90), (90, .iload 9, 2, 92), (92, .aload_n 0, 1, 93), (93, .getfield 18, 3, 96), (96, .iload 9, 2, 98), (98, .iaload, 1, 99), (99, .iload 8, 2, 101), (101, .invokestatic 45, 3, 104), (104, .iastore, 1, 105), (105, .iinc 6 1, 3, 108), (108, .goto (-92), 3, 111), (111, .return_, 1, 112)]
set_option maxRecDepth 100000 in
theorem dt_X1_goOn : DT cX1_goOn tdt_X1_goOn := by unfold DT; decide +kernel
theorem cf_X1_75 : CFV RX1 75 M_X9_onRing 1 := ⟨cn_X9_onRing, Or.inr ⟨"TiedThrees", nst_in 732 (by decide +kernel) (by decide +kernel)⟩, tbl_in 694 (by decide +kernel) (by decide +kernel), tbl_in 33 (by decide +kernel) (by decide +kernel)⟩
abbrev M_J9_max : MI := (yJ9_max_7cf53, cJ9_max_7cf53, 2, (some .int))
def tdt_J9_max : List (Nat × Instr × Nat × Nat) := [(0, .iload_n 0, 1, 1), (1, .iload_n 1, 1, 2), (2, .if_icmp .lt 7, 3, 5), (5, .iload_n 0, 1, 6), (6, .goto 4, 3, 9), (9, .iload_n 1, 1, 10), (10, .ireturn, 1, 11)]
set_option maxRecDepth 100000 in
theorem dt_J9_max : DT cJ9_max_7cf53 tdt_J9_max := by unfold DT; decide +kernel
theorem cn_J9_max : CFn M_J9_max 2 := ⟨tbl_in 735 (by decide +kernel) (by decide +kernel), tbl_in 122 (by decide +kernel) (by decide +kernel), by decide, by decide +kernel, by decide +kernel, by decide +kernel⟩
theorem cf_X1_45 : CFS RX1 45 M_J9_max 2 := ⟨cn_J9_max, Or.inl (tbl_in 733 (by decide +kernel) (by decide +kernel)), tbl_in 734 (by decide +kernel) (by decide +kernel)⟩
theorem sk_46 : SK[46]? = some (100, [384]) := rfl
theorem cn_X1_goOn : CFn M_X1_goOn 3 := ⟨tbl_in 731 (by decide +kernel) (by decide +kernel), tbl_in 120 (by decide +kernel) (by decide +kernel), by decide, by decide +kernel, by decide +kernel, by decide +kernel⟩
theorem cf_X1_71 : CFV RX1 71 M_X1_goOn 3 := ⟨cn_X1_goOn, Or.inl (tbl_in 728 (by decide +kernel) (by decide +kernel)), tbl_in 730 (by decide +kernel) (by decide +kernel), tbl_in 39 (by decide +kernel) (by decide +kernel)⟩
theorem fw_1_2 : FW 1 2 (.array .int) := ⟨_, rfl, by decide +kernel, by decide +kernel⟩
theorem fw_1_3 : FW 1 3 (.array .int) := ⟨_, rfl, by decide +kernel, by decide +kernel⟩
theorem cn_X1_passHour : CFn M_X1_passHour 2 := ⟨tbl_in 727 (by decide +kernel) (by decide +kernel), tbl_in 120 (by decide +kernel) (by decide +kernel), by decide, by decide +kernel, by decide +kernel, by decide +kernel⟩
theorem cf_X1_41 : CFV RX1 41 M_X1_passHour 2 := ⟨cn_X1_passHour, Or.inl (tbl_in 724 (by decide +kernel) (by decide +kernel)), tbl_in 726 (by decide +kernel) (by decide +kernel), tbl_in 38 (by decide +kernel) (by decide +kernel)⟩
theorem cn_X1_mostDone : CFn M_X1_mostDone 1 := ⟨tbl_in 710 (by decide +kernel) (by decide +kernel), tbl_in 120 (by decide +kernel) (by decide +kernel), by decide, by decide +kernel, by decide +kernel, by decide +kernel⟩
theorem cf_X11_144 : CFV RX11 144 M_X1_mostDone 1 := ⟨cn_X1_mostDone, Or.inr ⟨"TiedThrees", nst_in 707 (by decide +kernel) (by decide +kernel)⟩, tbl_in 709 (by decide +kernel) (by decide +kernel), tbl_in 35 (by decide +kernel) (by decide +kernel)⟩
abbrev M_X11_most : MI := (yX11_most, cX11_most, 3, (some .int))
def tdt_X11_most : List (Nat × Instr × Nat × Nat) := [(0, .iload_n 1, 1, 1), (1, .iconst (-1), 1, 2), (2, .if_icmp .eq 24, 3, 5), (5, .aload_n 0, 1, 6), (6, .getfield 50, 3, 9), (9, .getfield 72, 3, 12), (12, .iload_n 1, 1, 13), (13, .invokevirtual 101, 3, 16), (16, .ifCond .ne 10, 3, 19), (19, .aload_n 0, 1, 20), (20, .bipush (-10), 2, 22), (22, .invokevirtual 68, 3, 25), (25, .ireturn, 1, 26), (26, .aload_n 0, 1, 27), (27, .invokevirtual 147, 3, 30), (30, .ifCond .ne 10, 3, 33), (33, .aload_n 0, 1, 34), (34, .bipush (-20), 2, 36), (36, .invokevirtual 118, 3, 39), (39, .ireturn, 1, 40), (40, .aload_n 0, 1, 41), (41, .getfield 33, 3, 44), (44, .aload_n 0, 1, 45), (45, .getfield 50, 3, 48), (48, .getfield 72, 3, 51), (51, .getfield 90, 3, 54), (54, .invokevirtual 151, 3, 57), (57, .aload_n 0, 1, 58), (58, .invokevirtual 154, 3, 61), (61, .aload_n 0, 1, 62), (62, .getfield 33, 3, 65), (65, .invokevirtual 157, 3, 68), (68, .istore_n 2, 1, 69), (69, .iload_n 1, 1, 70), (70, .iconst (-1), 1, 71), (71, .if_icmp .ne 14, 3, 74), (74, .aload_n 0, 1, 75), (75, .getfield 33, 3, 78), (78, .iload_n 2, 1, 79), (79, .invokevirtual 160, 3, 82), (82, .goto 12, 3, 85), (85, .aload_n 0, 1, 86), (86, .getfield 33, 3, 89), (89, .iload_n 2, 1, 90), (90, .iload_n 1, 1, 91), (91, .invokevirtual 163, 3, 94), (94, .ireturn, 1, 95)]
set_option maxRecDepth 100000 in
theorem dt_X11_most : DT cX11_most tdt_X11_most := by unfold DT; decide +kernel
abbrev M_X11_isAllInThrees : MI := (yX11_isAllInThrees, cX11_isAllInThrees, 2, (some .boolean))
def tdt_X11_isAllInThrees : List (Nat × Instr × Nat × Nat) := [(0, .aload_n 0, 1, 1), (1, .getfield 50, 3, 4), (4, .getfield 72, 3, 7), (7, .getfield 90, 3, 10), (10, .istore_n 1, 1, 11), (11, .iload_n 1, 1, 12), (12, .iconst 3, 1, 13), (13, .if_icmp .eq 15, 3, 16), (16, .iload_n 1, 1, 17), (17, .bipush 6, 2, 19), (19, .if_icmp .eq 9, 3, 22), (22, .iload_n 1, 1, 23), (23, .bipush 9, 2, 25), (25, .if_icmp .ne 7, 3, 28), (28, .iconst 1, 1, 29), (29, .goto 4, 3, 32), (32, .iconst 0, 1, 33), (33, .ireturn, 1, 34)]
set_option maxRecDepth 100000 in
theorem dt_X11_isAllInThrees : DT cX11_isAllInThrees tdt_X11_isAllInThrees := by unfold DT; decide +kernel
theorem cn_X11_isAllInThrees : CFn M_X11_isAllInThrees 0 := ⟨tbl_in 743 (by decide +kernel) (by decide +kernel), tbl_in 109 (by decide +kernel) (by decide +kernel), by decide, by decide +kernel, by decide +kernel, by decide +kernel⟩
theorem cf_X11_147 : CFV RX11 147 M_X11_isAllInThrees 0 := ⟨cn_X11_isAllInThrees, Or.inl (tbl_in 740 (by decide +kernel) (by decide +kernel)), tbl_in 742 (by decide +kernel) (by decide +kernel), tbl_in 40 (by decide +kernel) (by decide +kernel)⟩
theorem ff_X11_33 : FF RX11 33 11 7 := ⟨RX11, TX11, 15, tyX11, rfl, by decide, lay_11, rfl, Or.inl (tbl_in 386 (by decide +kernel) (by decide +kernel)), tyX11_ok, nmX11⟩
abbrev M_X7_list : MI := (yX7_list, cX7_list, 7, none)
def tdt_X7_list : List (Nat × Instr × Nat × Nat) := [(0, .aload_n 0, 1, 1), (1, .iconst 0, 1, 2), (2, .putfield 32, 3, 5), (5, .iconst 1, 1, 6), (6, .iload_n 1, 1, 7), (7, .ishl, 1, 8), (8, .iconst 1, 1, 9), (9, .isub, 1, 10), (10, .istore_n 2, 1, 11), (11, .aload_n 0, 1, 12), (12, .getfield 11, 3, 15), (15, .astore_n 3, 1, 16), (16, .aload_n 3, 1, 17), (17, .arraylength, 1, 18), (18, .istore 4, 2, 20), (20, .iconst 0, 1, 21), (21, .istore 5, 2, 23), (23, .iload 5, 2, 25), (25, .iload 4, 2, 27), (27, .if_icmp .ge 36, 3, 30), (30, .aload_n 3, 1, 31), (31, .iload 5, 2, 33), (33, .iaload, 1, 34), (34, .istore 6, 2, 36), (36, .iload 6, 2, 38), (38, .iload_n 2, 1, 39), (39, .invokestatic 36, 3, 42), (42, .ifCond .eq 15, 3, 45), (45, .aload_n 0, 1, 46), (46, .iload 6, 2, 48), (48, .iload_n 2, 1, 49), (49, .iload 6, 2, 51), (51, .iconst (-1), 1, 52), (52, .ixor, 1, 53), (53, .iand, 1, 54), (54, .invokevirtual 40, 3, 57), (57, .iinc 5 1, 3, 60), (60, .goto (-37), 3, 63), (63, .return_, 1, 64)]
set_option maxRecDepth 100000 in
theorem dt_X7_list : DT cX7_list tdt_X7_list := by unfold DT; decide +kernel
theorem lay_7 : ∀ w ∈ u_ws RX7 TX7 6, w ∈ tbl := by
  intro w hw
  refine List.mem_filter.mpr ⟨?_, ?_⟩
  · revert w; decide +kernel
  · revert w; decide +kernel
theorem ff_X7_32 : FF RX7 32 7 5 := ⟨RX7, TX7, 6, tyX7, rfl, by decide, lay_7, rfl, Or.inl (tbl_in 225 (by decide +kernel) (by decide +kernel)), tyX7_ok, nmX7⟩
theorem sk_12 : SK[12]? = some (7, [16, 17, 18, 19, 20, 0]) := rfl
theorem fw_7_5 : FW 7 5 .int := ⟨_, rfl, by decide +kernel, by decide +kernel⟩
theorem ff_X7_11 : FF RX7 11 7 0 := ⟨RX7, TX7, 6, tyX7, rfl, by decide, lay_7, rfl, Or.inl (tbl_in 218 (by decide +kernel) (by decide +kernel)), tyX7_ok, nmX7⟩
theorem kn_84 : Int32.ofNat 84 = (84 : Int32) := by decide +kernel
theorem sk_13 : SK[13]? = some (100, [84]) := rfl
abbrev M_X7_tiesLeast : MI := (yX7_tiesLeast, cX7_tiesLeast, 2, (some .boolean))
def tdt_X7_tiesLeast : List (Nat × Instr × Nat × Nat) := [(0, .iload_n 0, 1, 1), (1, .iload_n 1, 1, 2), (2, .iconst (-1), 1, 3), (3, .ixor, 1, 4), (4, .iand, 1, 5), (5, .ifCond .ne 16, 3, 8), (8, .iload_n 0, 1, 9), (9, .iload_n 1, 1, 10), (10, .iload_n 1, 1, 11), (11, .ineg, 1, 12), (12, .iand, 1, 13), (13, .iand, 1, 14), (14, .ifCond .eq 7, 3, 17), (17, .iconst 1, 1, 18), (18, .goto 4, 3, 21), (21, .iconst 0, 1, 22), (22, .ireturn, 1, 23)]
set_option maxRecDepth 100000 in
theorem dt_X7_tiesLeast : DT cX7_tiesLeast tdt_X7_tiesLeast := by unfold DT; decide +kernel
theorem cn_X7_tiesLeast : CFn M_X7_tiesLeast 2 := ⟨tbl_in 750 (by decide +kernel) (by decide +kernel), tbl_in 112 (by decide +kernel) (by decide +kernel), by decide, by decide +kernel, by decide +kernel, by decide +kernel⟩
theorem cf_X7_36 : CFS RX7 36 M_X7_tiesLeast 2 := ⟨cn_X7_tiesLeast, Or.inl (tbl_in 748 (by decide +kernel) (by decide +kernel)), tbl_in 749 (by decide +kernel) (by decide +kernel)⟩
abbrev M_X7_listBehind : MI := (yX7_listBehind, cX7_listBehind, 7, none)
def tdt_X7_listBehind : List (Nat × Instr × Nat × Nat) := [(0, .iload_n 2, 1, 1), (1, .ifCond .ne 11, 3, 4), (4, .aload_n 0, 1, 5), (5, .iload_n 1, 1, 6), (6, .iconst 0, 1, 7), (7, .iconst 0, 1, 8), (8, .invokevirtual 44, 3, 11), (11, .return_, 1, 12), (12, .aload_n 0, 1, 13), (13, .getfield 11, 3, 16), (16, .astore_n 3, 1, 17), (17, .aload_n 3, 1, 18), (18, .arraylength, 1, 19), (19, .istore 4, 2, 21), (21, .iconst 0, 1, 22), (22, .istore 5, 2, 24), (24, .iload 5, 2, 26), (26, .iload 4, 2, 28), (28, .if_icmp .ge 37, 3, 31), (31, .aload_n 3, 1, 32), (32, .iload 5, 2, 34), (34, .iaload, 1, 35), (35, .istore 6, 2, 37), (37, .iload 6, 2, 39), (39, .iload_n 2, 1, 40), (40, .invokestatic 36, 3, 43), (43, .ifCond .eq 16, 3, 46), (46, .aload_n 0, 1, 47), (47, .iload_n 1, 1, 48), (48, .iload 6, 2, 50), (50, .iload_n 2, 1, 51), (51, .iload 6, 2, 53), (53, .iconst (-1), 1, 54), (54, .ixor, 1, 55), (55, .iand, 1, 56), (56, .invokevirtual 44, 3, 59), (59, .iinc 5 1, 3, 62), (62, .goto (-38), 3, 65), (65, .return_, 1, 66)]
set_option maxRecDepth 100000 in
theorem dt_X7_listBehind : DT cX7_listBehind tdt_X7_listBehind := by unfold DT; decide +kernel
abbrev M_X7_add : MI := (yX7_add, cX7_add, 4, none)
def tdt_X7_add : List (Nat × Instr × Nat × Nat) := [(0, .aload_n 0, 1, 1), (1, .getfield 32, 3, 4), (4, .sipush 280, 3, 7), (7, .if_icmp .lt 4, 3, 10), (10, .return_, 1, 11), (11, .aload_n 0, 1, 12), (12, .getfield 22, 3, 15), (15, .aload_n 0, 1, 16), (16, .getfield 32, 3, 19), (19, .iconst 3, 1, 20), (20, .imul, 1, 21), (21, .iload_n 1, 1, 22), (22, .iastore, 1, 23), (23, .aload_n 0, 1, 24), (24, .getfield 22, 3, 27), (27, .aload_n 0, 1, 28), (28, .getfield 32, 3, 31), (31, .iconst 3, 1, 32), (32, .imul, 1, 33), (33, .iconst 1, 1, 34), (34, .iadd, 1, 35), (35, .iload_n 2, 1, 36), (36, .iastore, 1, 37), (37, .aload_n 0, 1, 38), (38, .getfield 22, 3, 41), (41, .aload_n 0, 1, 42), (42, .getfield 32, 3, 45), (45, .iconst 3, 1, 46), (46, .imul, 1, 47), (47, .iconst 2, 1, 48), (48, .iadd, 1, 49), (49, .iload_n 3, 1, 50), (50, .iastore, 1, 51), (51, .aload_n 0, 1, 52), (52, .getfield 25, 3, 55), (55, .aload_n 0, 1, 56), (56, .getfield 32, 3, 59), (59, .aload_n 0, 1, 60), (60, .getfield 15, 3, 63), (63, .iload_n 1, 1, 64), (64, .laload, 1, 65), (65, .aload_n 0, 1, 66), (66, .getfield 15, 3, 69), (69, .iload_n 2, 1, 70), (70, .laload, 1, 71), (71, .lor, 1, 72), (72, .aload_n 0, 1, 73), (73, .getfield 15, 3, 76), (76, .iload_n 3, 1, 77), (77, .laload, 1, 78), (78, .lor, 1, 79), (79, .lastore, 1, 80), (80, .aload_n 0, 1, 81), (81, .dup, 1, 82), (82, .getfield 32, 3, 85), (85, .iconst 1, 1, 86), (86, .iadd, 1, 87), (87, .putfield 32, 3, 90), (90, .return_, 1, 91)]
set_option maxRecDepth 100000 in
theorem dt_X7_add : DT cX7_add tdt_X7_add := by unfold DT; decide +kernel
theorem ks_280 : (Int16.ofInt 280).toInt32 = (280 : Int32) := by decide +kernel
theorem ff_X7_22 : FF RX7 22 7 3 := ⟨RX7, TX7, 6, tyX7, rfl, by decide, lay_7, rfl, Or.inl (tbl_in 223 (by decide +kernel) (by decide +kernel)), tyX7_ok, nmX7⟩
theorem sk_16 : SK[16]? = some (100, [840]) := rfl
theorem ff_X7_25 : FF RX7 25 7 4 := ⟨RX7, TX7, 6, tyX7, rfl, by decide, lay_7, rfl, Or.inl (tbl_in 224 (by decide +kernel) (by decide +kernel)), tyX7_ok, nmX7⟩
theorem ff_X7_15 : FF RX7 15 7 1 := ⟨RX7, TX7, 6, tyX7, rfl, by decide, lay_7, rfl, Or.inl (tbl_in 220 (by decide +kernel) (by decide +kernel)), tyX7_ok, nmX7⟩
theorem sk_14 : SK[14]? = some (102, [512]) := rfl
theorem sk_17 : SK[17]? = some (102, [280]) := rfl
theorem cn_X7_add : CFn M_X7_add 3 := ⟨tbl_in 758 (by decide +kernel) (by decide +kernel), tbl_in 112 (by decide +kernel) (by decide +kernel), by decide, by decide +kernel, by decide +kernel, by decide +kernel⟩
theorem cf_X7_44 : CFV RX7 44 M_X7_add 3 := ⟨cn_X7_add, Or.inl (tbl_in 755 (by decide +kernel) (by decide +kernel)), tbl_in 757 (by decide +kernel) (by decide +kernel), tbl_in 43 (by decide +kernel) (by decide +kernel)⟩
theorem cn_X7_listBehind : CFn M_X7_listBehind 2 := ⟨tbl_in 754 (by decide +kernel) (by decide +kernel), tbl_in 112 (by decide +kernel) (by decide +kernel), by decide, by decide +kernel, by decide +kernel, by decide +kernel⟩
theorem cf_X7_40 : CFV RX7 40 M_X7_listBehind 2 := ⟨cn_X7_listBehind, Or.inl (tbl_in 751 (by decide +kernel) (by decide +kernel)), tbl_in 753 (by decide +kernel) (by decide +kernel), tbl_in 42 (by decide +kernel) (by decide +kernel)⟩
theorem cn_X7_list : CFn M_X7_list 1 := ⟨tbl_in 747 (by decide +kernel) (by decide +kernel), tbl_in 112 (by decide +kernel) (by decide +kernel), by decide, by decide +kernel, by decide +kernel, by decide +kernel⟩
theorem cf_X11_151 : CFV RX11 151 M_X7_list 1 := ⟨cn_X7_list, Or.inr ⟨"TiedThrees", nst_in 744 (by decide +kernel) (by decide +kernel)⟩, tbl_in 746 (by decide +kernel) (by decide +kernel), tbl_in 41 (by decide +kernel) (by decide +kernel)⟩
abbrev M_X11_walkAllThrees : MI := (yX11_walkAllThrees, cX11_walkAllThrees, 5, none)
def tdt_X11_walkAllThrees : List (Nat × Instr × Nat × Nat) := [(0, .aload_n 0, 1, 1), (1, .getfield 33, 3, 4), (4, .getfield 217, 3, 7), (7, .astore_n 1, 1, 8), (8, .aload_n 1, 1, 9), (9, .arraylength, 1, 10), (10, .istore_n 2, 1, 11), (11, .iconst 0, 1, 12), (12, .istore_n 3, 1, 13), (13, .iload_n 3, 1, 14), (14, .iload_n 2, 1, 15), (15, .if_icmp .ge 55, 3, 18), (18, .aload_n 1, 1, 19), (19, .iload_n 3, 1, 20), (20, .iaload, 1, 21), (21, .istore 4, 2, 23), (23, .aload_n 0, 1, 24), (24, .getfield 50, 3, 27), (27, .getfield 72, 3, 30), (30, .iload 4, 2, 32), (32, .invokevirtual 132, 3, 35), (35, .ifCond .eq 29, 3, 38), (38, .aload_n 0, 1, 39), (39, .getfield 57, 3, 42), (42, .iload 4, 2, 44), (44, .invokevirtual 135, 3, 47), (47, .aload_n 0, 1, 48), (48, .getfield 33, 3, 51), (51, .getfield 252, 3, 54), (54, .iload 4, 2, 56), (56, .aload_n 0, 1, 57), (57, .getfield 57, 3, 60), (60, .getfield 138, 3, 63), (63, .iastore, 1, 64), (64, .iinc 3 1, 3, 67), (67, .goto (-54), 3, 70), (70, .return_, 1, 71)]
set_option maxRecDepth 100000 in
theorem dt_X11_walkAllThrees : DT cX11_walkAllThrees tdt_X11_walkAllThrees := by unfold DT; decide +kernel
theorem ff_X11_217 : FF RX11 217 7 0 := ⟨RX7, TX7, 6, tyX7, rfl, by decide, lay_7, rfl, Or.inr ⟨"TiedThrees", nst_in 219 (by decide +kernel) (by decide +kernel)⟩, tyX7_ok, nmX7⟩
theorem ff_X11_252 : FF RX11 252 7 2 := ⟨RX7, TX7, 6, tyX7, rfl, by decide, lay_7, rfl, Or.inr ⟨"TiedThrees", nst_in 222 (by decide +kernel) (by decide +kernel)⟩, tyX7_ok, nmX7⟩
theorem sk_15 : SK[15]? = some (100, [512]) := rfl
theorem cn_X11_walkAllThrees : CFn M_X11_walkAllThrees 0 := ⟨tbl_in 762 (by decide +kernel) (by decide +kernel), tbl_in 109 (by decide +kernel) (by decide +kernel), by decide, by decide +kernel, by decide +kernel, by decide +kernel⟩
theorem cf_X11_154 : CFV RX11 154 M_X11_walkAllThrees 0 := ⟨cn_X11_walkAllThrees, Or.inl (tbl_in 759 (by decide +kernel) (by decide +kernel)), tbl_in 761 (by decide +kernel) (by decide +kernel), tbl_in 44 (by decide +kernel) (by decide +kernel)⟩
abbrev M_X7_firstOfMost : MI := (yX7_firstOfMost, cX7_firstOfMost, 3, (some .int))
def tdt_X7_firstOfMost : List (Nat × Instr × Nat × Nat) := [(0, .iconst 0, 1, 1), (1, .istore_n 1, 1, 2), (2, .iconst 1, 1, 3), (3, .istore_n 2, 1, 4), (4, .iload_n 2, 1, 5), (5, .aload_n 0, 1, 6), (6, .getfield 32, 3, 9), (9, .if_icmp .ge 24, 3, 12), (12, .aload_n 0, 1, 13), (13, .iload_n 2, 1, 14), (14, .invokevirtual 48, 3, 17), (17, .aload_n 0, 1, 18), (18, .iload_n 1, 1, 19), (19, .invokevirtual 48, 3, 22), (22, .if_icmp .le 5, 3, 25), (25, .iload_n 2, 1, 26), (26, .istore_n 1, 1, 27), (27, .iinc 2 1, 3, 30), (30, .goto (-26), 3, 33), (33, .iload_n 1, 1, 34), (34, .ireturn, 1, 35)]
set_option maxRecDepth 100000 in
theorem dt_X7_firstOfMost : DT cX7_firstOfMost tdt_X7_firstOfMost := by unfold DT; decide +kernel
abbrev M_X7_doneBy : MI := (yX7_doneBy, cX7_doneBy, 4, (some .int))
def tdt_X7_doneBy : List (Nat × Instr × Nat × Nat) := [(0, .iconst 0, 1, 1), (1, .istore_n 2, 1, 2), (2, .iload_n 1, 1, 3), (3, .iconst 3, 1, 4), (4, .imul, 1, 5), (5, .istore_n 3, 1, 6), (6, .iload_n 3, 1, 7), (7, .iload_n 1, 1, 8), (8, .iconst 1, 1, 9), (9, .iadd, 1, 10), (10, .iconst 3, 1, 11), (11, .imul, 1, 12), (12, .if_icmp .ge 23, 3, 15), (15, .iload_n 2, 1, 16), (16, .aload_n 0, 1, 17), (17, .getfield 19, 3, 20), (20, .aload_n 0, 1, 21), (21, .getfield 22, 3, 24), (24, .iload_n 3, 1, 25), (25, .iaload, 1, 26), (26, .iaload, 1, 27), (27, .iadd, 1, 28), (28, .istore_n 2, 1, 29), (29, .iinc 3 1, 3, 32), (32, .goto (-26), 3, 35), (35, .iload_n 2, 1, 36), (36, .ireturn, 1, 37)]
set_option maxRecDepth 100000 in
theorem dt_X7_doneBy : DT cX7_doneBy tdt_X7_doneBy := by unfold DT; decide +kernel
theorem ff_X7_19 : FF RX7 19 7 2 := ⟨RX7, TX7, 6, tyX7, rfl, by decide, lay_7, rfl, Or.inl (tbl_in 221 (by decide +kernel) (by decide +kernel)), tyX7_ok, nmX7⟩
theorem cn_X7_doneBy : CFn M_X7_doneBy 1 := ⟨tbl_in 770 (by decide +kernel) (by decide +kernel), tbl_in 112 (by decide +kernel) (by decide +kernel), by decide, by decide +kernel, by decide +kernel, by decide +kernel⟩
theorem cf_X7_48 : CFV RX7 48 M_X7_doneBy 1 := ⟨cn_X7_doneBy, Or.inl (tbl_in 767 (by decide +kernel) (by decide +kernel)), tbl_in 769 (by decide +kernel) (by decide +kernel), tbl_in 46 (by decide +kernel) (by decide +kernel)⟩
theorem cn_X7_firstOfMost : CFn M_X7_firstOfMost 0 := ⟨tbl_in 766 (by decide +kernel) (by decide +kernel), tbl_in 112 (by decide +kernel) (by decide +kernel), by decide, by decide +kernel, by decide +kernel, by decide +kernel⟩
theorem cf_X11_157 : CFV RX11 157 M_X7_firstOfMost 0 := ⟨cn_X7_firstOfMost, Or.inr ⟨"TiedThrees", nst_in 763 (by decide +kernel) (by decide +kernel)⟩, tbl_in 765 (by decide +kernel) (by decide +kernel), tbl_in 45 (by decide +kernel) (by decide +kernel)⟩
abbrev M_X7_threeOf : MI := (yX7_threeOf, cX7_threeOf, 4, (some .int))
def tdt_X7_threeOf : List (Nat × Instr × Nat × Nat) := [(0, .iload_n 1, 1, 1), (1, .iconst 3, 1, 2), (2, .imul, 1, 3), (3, .istore_n 3, 1, 4), (4, .iload_n 3, 1, 5), (5, .iload_n 1, 1, 6), (6, .iconst 1, 1, 7), (7, .iadd, 1, 8), (8, .iconst 3, 1, 9), (9, .imul, 1, 10), (10, .if_icmp .ge 29, 3, 13), (13, .aload_n 0, 1, 14), (14, .getfield 22, 3, 17), (17, .iload_n 3, 1, 18), (18, .iaload, 1, 19), (19, .iload_n 2, 1, 20), (20, .invokestatic 52, 3, 23), (23, .ifCond .eq 10, 3, 26), (26, .aload_n 0, 1, 27), (27, .getfield 22, 3, 30), (30, .iload_n 3, 1, 31), (31, .iaload, 1, 32), (32, .ireturn, 1, 33), (33, .iinc 3 1, 3, 36), (36, .goto (-32), 3, 39), (39, .iconst 0, 1, 40), (40, .ireturn, 1, 41)]
set_option maxRecDepth 100000 in
theorem dt_X7_threeOf : DT cX7_threeOf tdt_X7_threeOf := by unfold DT; decide +kernel
theorem cf_X7_52 : CFS RX7 52 M_X11_isIn 2 := ⟨cn_X11_isIn, Or.inr ⟨"TiedThrees", nst_in 776 (by decide +kernel) (by decide +kernel)⟩, tbl_in 637 (by decide +kernel) (by decide +kernel)⟩
theorem cn_X7_threeOf : CFn M_X7_threeOf 2 := ⟨tbl_in 775 (by decide +kernel) (by decide +kernel), tbl_in 112 (by decide +kernel) (by decide +kernel), by decide, by decide +kernel, by decide +kernel, by decide +kernel⟩
theorem cf_X11_163 : CFV RX11 163 M_X7_threeOf 2 := ⟨cn_X7_threeOf, Or.inr ⟨"TiedThrees", nst_in 772 (by decide +kernel) (by decide +kernel)⟩, tbl_in 774 (by decide +kernel) (by decide +kernel), tbl_in 47 (by decide +kernel) (by decide +kernel)⟩
theorem cf_X11_160 : CFV RX11 160 M_X7_doneBy 1 := ⟨cn_X7_doneBy, Or.inr ⟨"TiedThrees", nst_in 771 (by decide +kernel) (by decide +kernel)⟩, tbl_in 769 (by decide +kernel) (by decide +kernel), tbl_in 46 (by decide +kernel) (by decide +kernel)⟩
theorem kb_m20 : (Int8.ofInt (-20)).toInt32 = ((-20) : Int32) := by decide +kernel
abbrev M_X11_lot : MI := (yX11_lot, cX11_lot, 3, (some .int))
def tdt_X11_lot : List (Nat × Instr × Nat × Nat) := [(0, .iload_n 1, 1, 1), (1, .ifCond .lt 23, 3, 4), (4, .iload_n 1, 1, 5), (5, .ldc 166, 2, 7), (7, .if_icmp .gt 17, 3, 10), (10, .aload_n 0, 1, 11), (11, .getfield 50, 3, 14), (14, .getfield 72, 3, 17), (17, .iload_n 2, 1, 18), (18, .invokevirtual 101, 3, 21), (21, .ifCond .ne 10, 3, 24), (24, .aload_n 0, 1, 25), (25, .bipush (-2), 2, 27), (27, .invokevirtual 68, 3, 30), (30, .ireturn, 1, 31), (31, .aload_n 0, 1, 32), (32, .invokevirtual 147, 3, 35), (35, .ifCond .ne 10, 3, 38), (38, .aload_n 0, 1, 39), (39, .bipush (-3), 2, 41), (41, .invokevirtual 118, 3, 44), (44, .ireturn, 1, 45), (45, .aload_n 0, 1, 46), (46, .iload_n 1, 1, 47), (47, .i2l, 1, 48), (48, .invokevirtual 167, 3, 51), (51, .aload_n 0, 1, 52), (52, .iload_n 2, 1, 53), (53, .invokevirtual 171, 3, 56), (56, .ireturn, 1, 57)]
set_option maxRecDepth 100000 in
theorem dt_X11_lot : DT cX11_lot tdt_X11_lot := by unfold DT; decide +kernel
theorem ci_X11_166 : Cond.constant RX11 166 999999 ∈ tbl := tbl_in 781 (by decide +kernel) (by decide +kernel)
abbrev M_X11_drawLots : MI := (yX11_drawLots, cX11_drawLots, 11, none)
def tdt_X11_drawLots : List (Nat × Instr × Nat × Nat) := [(0, .lload_n 1, 1, 1), (1, .lstore_n 3, 1, 2), (2, .iconst 1, 1, 3), (3, .aload_n 0, 1, 4), (4, .getfield 50, 3, 7), (7, .getfield 72, 3, 10), (10, .getfield 90, 3, 13), (13, .ishl, 1, 14), (14, .iconst 1, 1, 15), (15, .isub, 1, 16), (16, .istore 5, 2, 18), (18, .iconst 0, 1, 19), (19, .istore 6, 2, 21), (21, .iload 6, 2, 23), (23, .iconst 3, 1, 24), (24, .if_icmp .ge 113, 3, 27), (27, .iload 5, 2, 29), (29, .iload 5, 2, 31), (31, .ineg, 1, 32), (32, .iand, 1, 33), (33, .istore 7, 2, 35), (35, .iload 5, 2, 37), (37, .iload 7, 2, 39), (39, .iconst (-1), 1, 40), (40, .ixor, 1, 41), (41, .iand, 1, 42), (42, .istore 5, 2, 44), (44, .iconst 0, 1, 45), (45, .istore 8, 2, 47), (47, .iload 8, 2, 49), (49, .iconst 2, 1, 50), (50, .if_icmp .ge 72, 3, 53), (53, .lload_n 3, 1, 54), (54, .ldc2_w 255, 3, 57), (57, .lmul, 1, 58), (58, .ldc2_w 257, 3, 61), (61, .ladd, 1, 62), (62, .ldc2_w 259, 3, 65), (65, .lrem, 1, 66), (66, .lstore_n 3, 1, 67), (67, .iload 5, 2, 69), (69, .invokestatic 261, 3, 72), (72, .istore 9, 2, 74), (74, .iload 9, 2, 76), (76, .ifCond .ne 7, 3, 79), (79, .iconst 0, 1, 80), (80, .goto 18, 3, 83), (83, .iload 5, 2, 85), (85, .lload_n 3, 1, 86), (86, .ldc2_w 266, 3, 89), (89, .ldiv, 1, 90), (90, .iload 9, 2, 92), (92, .i2l, 1, 93), (93, .lrem, 1, 94), (94, .l2i, 1, 95), (95, .invokestatic 268, 3, 98), (98, .istore 10, 2, 100), (100, .iload 7, 2, 102), (102, .iload 10, 2, 104), (104, .ior, 1, 105), (105, .istore 7, 2, 107), (107, .iload 5, 2, 109), (109, .iload 10, 2, 111), (111, .iconst (-1), 1, 112), (112, .ixor, 1, 113), (113, .iand, 1, 114), (114, .istore 5, 2, 116), (116, .iinc 8 1, 3, 119), (119, .goto (-72), 3, 122), (122, .aload_n 0, 1, 123), (123, .getfield 37, 3, 126), (126, .iload 6, 2, 128), (128, .iload 7, 2, 130), (130, .iastore, 1, 131), (131, .iinc 6 1, 3, 134), (134, .goto (-113), 3, 137), (137, .return_, 1, 138)]
set_option maxRecDepth 100000 in
theorem dt_X11_drawLots : DT cX11_drawLots tdt_X11_drawLots := by unfold DT; decide +kernel
theorem cl_X11_255 : Cond.constantLong RX11 255 1103515245 ∈ tbl := tbl_in 786 (by decide +kernel) (by decide +kernel)
theorem cl_X11_257 : Cond.constantLong RX11 257 12345 ∈ tbl := tbl_in 787 (by decide +kernel) (by decide +kernel)
theorem cl_X11_259 : Cond.constantLong RX11 259 2147483648 ∈ tbl := tbl_in 788 (by decide +kernel) (by decide +kernel)
theorem cf_X11_261 : CFS RX11 261 M_J6_bitCount 1 := ⟨cn_J6_bitCount, Or.inl (tbl_in 789 (by decide +kernel) (by decide +kernel)), tbl_in 623 (by decide +kernel) (by decide +kernel)⟩
theorem cl_X11_266 : Cond.constantLong RX11 266 65536 ∈ tbl := tbl_in 790 (by decide +kernel) (by decide +kernel)
abbrev M_X11_nthOf : MI := (yX11_nthOf, cX11_nthOf, 4, (some .int))
def tdt_X11_nthOf : List (Nat × Instr × Nat × Nat) := [(0, .iconst 0, 1, 1), (1, .istore_n 2, 1, 2), (2, .iconst 0, 1, 3), (3, .istore_n 3, 1, 4), (4, .iload_n 3, 1, 5), (5, .bipush 9, 2, 7), (7, .if_icmp .ge 29, 3, 10), (10, .iload_n 0, 1, 11), (11, .iload_n 3, 1, 12), (12, .invokestatic 202, 3, 15), (15, .ifCond .eq 15, 3, 18), (18, .iload_n 2, 1, 19), (19, .iload_n 1, 1, 20), (20, .if_icmp .ne 7, 3, 23), (23, .iconst 1, 1, 24), (24, .iload_n 3, 1, 25), (25, .ishl, 1, 26), (26, .ireturn, 1, 27), (27, .iinc 2 1, 3, 30), (30, .iinc 3 1, 3, 33), (33, .goto (-29), 3, 36), (36, .iconst 0, 1, 37), (37, .ireturn, 1, 38)]
set_option maxRecDepth 100000 in
theorem dt_X11_nthOf : DT cX11_nthOf tdt_X11_nthOf := by unfold DT; decide +kernel
theorem cf_X11_202 : CFS RX11 202 M_X11_isIn 2 := ⟨cn_X11_isIn, Or.inl (tbl_in 794 (by decide +kernel) (by decide +kernel)), tbl_in 637 (by decide +kernel) (by decide +kernel)⟩
theorem cn_X11_nthOf : CFn M_X11_nthOf 2 := ⟨tbl_in 793 (by decide +kernel) (by decide +kernel), tbl_in 109 (by decide +kernel) (by decide +kernel), by decide, by decide +kernel, by decide +kernel, by decide +kernel⟩
theorem cf_X11_268 : CFS RX11 268 M_X11_nthOf 2 := ⟨cn_X11_nthOf, Or.inl (tbl_in 791 (by decide +kernel) (by decide +kernel)), tbl_in 792 (by decide +kernel) (by decide +kernel)⟩
theorem ff_X11_37 : FF RX11 37 11 8 := ⟨RX11, TX11, 15, tyX11, rfl, by decide, lay_11, rfl, Or.inl (tbl_in 387 (by decide +kernel) (by decide +kernel)), tyX11_ok, nmX11⟩
theorem sk_18 : SK[18]? = some (100, [3]) := rfl
theorem cn_X11_drawLots : CFn M_X11_drawLots 1 := ⟨tbl_in 785 (by decide +kernel) (by decide +kernel), tbl_in 109 (by decide +kernel) (by decide +kernel), by decide, by decide +kernel, by decide +kernel, by decide +kernel⟩
theorem cf_X11_167 : CFV RX11 167 M_X11_drawLots 1 := ⟨cn_X11_drawLots, Or.inl (tbl_in 782 (by decide +kernel) (by decide +kernel)), tbl_in 784 (by decide +kernel) (by decide +kernel), tbl_in 48 (by decide +kernel) (by decide +kernel)⟩
abbrev M_X11_threeWith : MI := (yX11_threeWith, cX11_threeWith, 6, (some .int))
def tdt_X11_threeWith : List (Nat × Instr × Nat × Nat) := [(0, .aload_n 0, 1, 1), (1, .getfield 37, 3, 4), (4, .astore_n 2, 1, 5), (5, .aload_n 2, 1, 6), (6, .arraylength, 1, 7), (7, .istore_n 3, 1, 8), (8, .iconst 0, 1, 9), (9, .istore 4, 2, 11), (11, .iload 4, 2, 13), (13, .iload_n 3, 1, 14), (14, .if_icmp .ge 27, 3, 17), (17, .aload_n 2, 1, 18), (18, .iload 4, 2, 20), (20, .iaload, 1, 21), (21, .istore 5, 2, 23), (23, .iload 5, 2, 25), (25, .iload_n 1, 1, 26), (26, .invokestatic 202, 3, 29), (29, .ifCond .eq 6, 3, 32), (32, .iload 5, 2, 34), (34, .ireturn, 1, 35), (35, .iinc 4 1, 3, 38), (38, .goto (-27), 3, 41), (41, .iconst 0, 1, 42), (42, .ireturn, 1, 43)]
set_option maxRecDepth 100000 in
theorem dt_X11_threeWith : DT cX11_threeWith tdt_X11_threeWith := by unfold DT; decide +kernel
theorem cn_X11_threeWith : CFn M_X11_threeWith 1 := ⟨tbl_in 798 (by decide +kernel) (by decide +kernel), tbl_in 109 (by decide +kernel) (by decide +kernel), by decide, by decide +kernel, by decide +kernel, by decide +kernel⟩
theorem cf_X11_171 : CFV RX11 171 M_X11_threeWith 1 := ⟨cn_X11_threeWith, Or.inl (tbl_in 795 (by decide +kernel) (by decide +kernel)), tbl_in 797 (by decide +kernel) (by decide +kernel), tbl_in 49 (by decide +kernel) (by decide +kernel)⟩
abbrev M_X11_rows : MI := (yX11_rows, cX11_rows, 2, (some .long))
def tdt_X11_rows : List (Nat × Instr × Nat × Nat) := [(0, .iload_n 1, 1, 1), (1, .iconst 1, 1, 2), (2, .if_icmp .lt 8, 3, 5), (5, .iload_n 1, 1, 6), (6, .iconst 4, 1, 7), (7, .if_icmp .le 11, 3, 10), (10, .aload_n 0, 1, 11), (11, .bipush (-2), 2, 13), (13, .invokevirtual 68, 3, 16), (16, .i2l, 1, 17), (17, .lreturn, 1, 18), (18, .aload_n 0, 1, 19), (19, .invokevirtual 147, 3, 22), (22, .ifCond .ne 11, 3, 25), (25, .aload_n 0, 1, 26), (26, .bipush (-3), 2, 28), (28, .invokevirtual 118, 3, 31), (31, .i2l, 1, 32), (32, .lreturn, 1, 33), (33, .aload_n 0, 1, 34), (34, .getfield 33, 3, 37), (37, .aload_n 0, 1, 38), (38, .getfield 50, 3, 41), (41, .getfield 72, 3, 44), (44, .getfield 90, 3, 47), (47, .invokevirtual 151, 3, 50), (50, .aload_n 0, 1, 51), (51, .getfield 33, 3, 54), (54, .iload_n 1, 1, 55), (55, .invokevirtual 174, 3, 58), (58, .lreturn, 1, 59)]
set_option maxRecDepth 100000 in
theorem dt_X11_rows : DT cX11_rows tdt_X11_rows := by unfold DT; decide +kernel
abbrev M_X7_rowsOf : MI := (yX7_rowsOf, cX7_rowsOf, 2, (some .long))
def tdt_X7_rowsOf : List (Nat × Instr × Nat × Nat) := [(0, .aload_n 0, 1, 1), (1, .getfield 32, 3, 4), (4, .i2l, 1, 5), (5, .aload_n 0, 1, 6), (6, .getfield 25, 3, 9), (9, .aload_n 0, 1, 10), (10, .getfield 32, 3, 13), (13, .aload_n 0, 1, 14), (14, .getfield 25, 3, 17), (17, .iconst 0, 1, 18), (18, .laload, 1, 19), (19, .iload_n 1, 1, 20), (20, .iconst 1, 1, 21), (21, .isub, 1, 22), (22, .invokestatic 55, 3, 25), (25, .lmul, 1, 26), (26, .lreturn, 1, 27)]
set_option maxRecDepth 100000 in
theorem dt_X7_rowsOf : DT cX7_rowsOf tdt_X7_rowsOf := by unfold DT; decide +kernel
theorem ib_0_280 : inB 0 280 = true := by decide +kernel
abbrev M_X7_rowsBehind : MI := (yX7_rowsBehind, cX7_rowsBehind, 8, (some .long))
def tdt_X7_rowsBehind : List (Nat × Instr × Nat × Nat) := [(0, .iload 4, 2, 2), (2, .ifCond .gt 5, 3, 5), (5, .lconst 1, 1, 6), (6, .lreturn, 1, 7), (7, .lconst 0, 1, 8), (8, .lstore 5, 2, 10), (10, .iconst 0, 1, 11), (11, .istore 7, 2, 13), (13, .iload 7, 2, 15), (15, .iload_n 1, 1, 16), (16, .if_icmp .ge 40, 3, 19), (19, .aload_n 0, 1, 20), (20, .iload 7, 2, 22), (22, .laload, 1, 23), (23, .lload_n 2, 1, 24), (24, .land, 1, 25), (25, .lconst 0, 1, 26), (26, .lcmp, 1, 27), (27, .ifCond .ne 23, 3, 30), (30, .lload 5, 2, 32), (32, .aload_n 0, 1, 33), (33, .iload_n 1, 1, 34), (34, .lload_n 2, 1, 35), (35, .aload_n 0, 1, 36), (36, .iload 7, 2, 38), (38, .laload, 1, 39), (39, .lor, 1, 40), (40, .iload 4, 2, 42), (42, .iconst 1, 1, 43), (43, .isub, 1, 44), (44, .invokestatic 55, 3, 47), (47, .ladd, 1, 48), (48, .lstore 5, 2, 50), (50, .iinc 7 1, 3, 53), (53, .goto (-40), 3, 56), (56, .lload 5, 2, 58), (58, .lreturn, 1, 59)]
set_option maxRecDepth 100000 in
theorem dt_X7_rowsBehind : DT cX7_rowsBehind tdt_X7_rowsBehind := by unfold DT; decide +kernel
theorem kl_0 : Int64.ofNat ((0 : Fin 2) : Nat) = (0 : Int64) := by decide +kernel
theorem kl_1 : Int64.ofNat ((1 : Fin 2) : Nat) = (1 : Int64) := by decide +kernel
theorem cn_X7_rowsBehind : CFn M_X7_rowsBehind 4 := ⟨tbl_in 809 (by decide +kernel) (by decide +kernel), tbl_in 112 (by decide +kernel) (by decide +kernel), by decide, by decide +kernel, by decide +kernel, by decide +kernel⟩
theorem cf_X7_55 : CFS RX7 55 M_X7_rowsBehind 4 := ⟨cn_X7_rowsBehind, Or.inl (tbl_in 807 (by decide +kernel) (by decide +kernel)), tbl_in 808 (by decide +kernel) (by decide +kernel)⟩
theorem cn_X7_rowsOf : CFn M_X7_rowsOf 1 := ⟨tbl_in 806 (by decide +kernel) (by decide +kernel), tbl_in 112 (by decide +kernel) (by decide +kernel), by decide, by decide +kernel, by decide +kernel, by decide +kernel⟩
theorem cf_X11_174 : CFV RX11 174 M_X7_rowsOf 1 := ⟨cn_X7_rowsOf, Or.inr ⟨"TiedThrees", nst_in 803 (by decide +kernel) (by decide +kernel)⟩, tbl_in 805 (by decide +kernel) (by decide +kernel), tbl_in 50 (by decide +kernel) (by decide +kernel)⟩
abbrev M_X11_gain : MI := (yX11_gain, cX11_gain, 4, (some .int))
def tdt_X11_gain : List (Nat × Instr × Nat × Nat) := [(0, .iload_n 1, 1, 1), (1, .iconst 1, 1, 2), (2, .if_icmp .lt 16, 3, 5), (5, .iload_n 1, 1, 6), (6, .bipush 7, 2, 8), (8, .if_icmp .gt 10, 3, 11), (11, .iload_n 2, 1, 12), (12, .invokestatic 178, 3, 15), (15, .ifCond .ne 10, 3, 18), (18, .aload_n 0, 1, 19), (19, .bipush (-2), 2, 21), (21, .invokevirtual 68, 3, 24), (24, .ireturn, 1, 25), (25, .aload_n 0, 1, 26), (26, .getfield 50, 3, 29), (29, .getfield 181, 3, 32), (32, .iload_n 1, 1, 33), (33, .iaload, 1, 34), (34, .istore_n 3, 1, 35), (35, .aload_n 0, 1, 36), (36, .getfield 50, 3, 39), (39, .getfield 181, 3, 42), (42, .iload_n 1, 1, 43), (43, .iload_n 2, 1, 44), (44, .iastore, 1, 45), (45, .iload_n 3, 1, 46), (46, .ireturn, 1, 47)]
set_option maxRecDepth 100000 in
theorem dt_X11_gain : DT cX11_gain tdt_X11_gain := by unfold DT; decide +kernel
theorem kb_7 : (Int8.ofInt 7).toInt32 = (7 : Int32) := by decide +kernel
abbrev M_X11_isAmount : MI := (yX11_isAmount, cX11_isAmount, 1, (some .boolean))
def tdt_X11_isAmount : List (Nat × Instr × Nat × Nat) := [(0, .iload_n 0, 1, 1), (1, .ifCond .lt 13, 3, 4), (4, .iload_n 0, 1, 5), (5, .bipush 99, 2, 7), (7, .if_icmp .gt 7, 3, 10), (10, .iconst 1, 1, 11), (11, .goto 4, 3, 14), (14, .iconst 0, 1, 15), (15, .ireturn, 1, 16)]
set_option maxRecDepth 100000 in
theorem dt_X11_isAmount : DT cX11_isAmount tdt_X11_isAmount := by unfold DT; decide +kernel
theorem kb_99 : (Int8.ofInt 99).toInt32 = (99 : Int32) := by decide +kernel
theorem cn_X11_isAmount : CFn M_X11_isAmount 1 := ⟨tbl_in 816 (by decide +kernel) (by decide +kernel), tbl_in 109 (by decide +kernel) (by decide +kernel), by decide, by decide +kernel, by decide +kernel, by decide +kernel⟩
theorem cf_X11_178 : CFS RX11 178 M_X11_isAmount 1 := ⟨cn_X11_isAmount, Or.inl (tbl_in 814 (by decide +kernel) (by decide +kernel)), tbl_in 815 (by decide +kernel) (by decide +kernel)⟩
theorem ff_X11_181 : FF RX11 181 6 1 := ⟨RX6, TX6, 8, tyX6, rfl, by decide, lay_6, rfl, Or.inr ⟨"TiedThrees", nst_in 250 (by decide +kernel) (by decide +kernel)⟩, tyX6_ok, nmX6⟩
theorem sk_26 : SK[26]? = some (100, [8]) := rfl
abbrev M_X11_leaves : MI := (yX11_leaves, cX11_leaves, 6, (some .int))
def tdt_X11_leaves : List (Nat × Instr × Nat × Nat) := [(0, .iload_n 1, 1, 1), (1, .invokestatic 178, 3, 4), (4, .ifCond .eq 17, 3, 7), (7, .iload_n 2, 1, 8), (8, .invokestatic 178, 3, 11), (11, .ifCond .eq 10, 3, 14), (14, .iload_n 3, 1, 15), (15, .invokestatic 178, 3, 18), (18, .ifCond .ne 10, 3, 21), (21, .aload_n 0, 1, 22), (22, .bipush (-2), 2, 24), (24, .invokevirtual 68, 3, 27), (27, .ireturn, 1, 28), (28, .iload_n 1, 1, 29), (29, .iload_n 2, 1, 30), (30, .iadd, 1, 31), (31, .iload_n 3, 1, 32), (32, .iadd, 1, 33), (33, .aload_n 0, 1, 34), (34, .getfield 50, 3, 37), (37, .getfield 181, 3, 40), (40, .bipush 7, 2, 42), (42, .iaload, 1, 43), (43, .if_icmp .eq 6, 3, 46), (46, .bipush 7, 2, 48), (48, .ireturn, 1, 49), (49, .iconst 1, 1, 50), (50, .istore 4, 2, 52), (52, .iload 4, 2, 54), (54, .bipush 7, 2, 56), (56, .if_icmp .ge 53, 3, 59), (59, .iload 4, 2, 61), (61, .iconst 1, 1, 62), (62, .iand, 1, 63), (63, .iload_n 1, 1, 64), (64, .imul, 1, 65), (65, .iload 4, 2, 67), (67, .iconst 1, 1, 68), (68, .ishr, 1, 69), (69, .iconst 1, 1, 70), (70, .iand, 1, 71), (71, .iload_n 2, 1, 72), (72, .imul, 1, 73), (73, .iadd, 1, 74), (74, .iload 4, 2, 76), (76, .iconst 2, 1, 77), (77, .ishr, 1, 78), (78, .iconst 1, 1, 79), (79, .iand, 1, 80), (80, .iload_n 3, 1, 81), (81, .imul, 1, 82), (82, .iadd, 1, 83), (83, .istore 5, 2, 85), (85, .iload 5, 2, 87), (87, .aload_n 0, 1, 88), (88, .getfield 50, 3, 91), (91, .getfield 181, 3, 94), (94, .iload 4, 2, 96), (96, .iaload, 1, 97), (97, .if_icmp .ge 6, 3, 100), (100, .iload 4, 2, 102), (102, .ireturn, 1, 103), (103, .iinc 4 1, 3, 106), (106, .goto (-54), 3, 109), (109, .iconst (-1), 1, 110), (110, .ireturn, 1, 111)]
set_option maxRecDepth 100000 in
theorem dt_X11_leaves : DT cX11_leaves tdt_X11_leaves := by unfold DT; decide +kernel
theorem ib_7_8 : inB 7 8 = true := by decide +kernel
abbrev M_X11_fair : MI := (yX11_fair, cX11_fair, 9, (some .int))
def tdt_X11_fair : List (Nat × Instr × Nat × Nat) := [(0, .iload_n 1, 1, 1), (1, .ifCond .lt 8, 3, 4), (4, .iload_n 1, 1, 5), (5, .iconst 3, 1, 6), (6, .if_icmp .lt 10, 3, 9), (9, .aload_n 0, 1, 10), (10, .bipush (-2), 2, 12), (12, .invokevirtual 68, 3, 15), (15, .ireturn, 1, 16), (16, .aload_n 0, 1, 17), (17, .getfield 50, 3, 20), (20, .getfield 181, 3, 23), (23, .astore_n 2, 1, 24), (24, .iconst 1, 1, 25), (25, .iload_n 1, 1, 26), (26, .ishl, 1, 27), (27, .istore_n 3, 1, 28), (28, .iload_n 1, 1, 29), (29, .ifCond .ne 7, 3, 32), (32, .iconst 2, 1, 33), (33, .goto 4, 3, 36), (36, .iconst 1, 1, 37), (37, .istore 4, 2, 39), (39, .bipush 7, 2, 41), (41, .iload_n 3, 1, 42), (42, .isub, 1, 43), (43, .iload 4, 2, 45), (45, .isub, 1, 46), (46, .istore 5, 2, 48), (48, .aload_n 2, 1, 49), (49, .iload_n 3, 1, 50), (50, .iaload, 1, 51), (51, .istore 6, 2, 53), (53, .aload_n 2, 1, 54), (54, .iload_n 3, 1, 55), (55, .iload 4, 2, 57), (57, .ior, 1, 58), (58, .iaload, 1, 59), (59, .aload_n 2, 1, 60), (60, .iload 4, 2, 62), (62, .iaload, 1, 63), (63, .isub, 1, 64), (64, .aload_n 2, 1, 65), (65, .iload_n 3, 1, 66), (66, .iload 5, 2, 68), (68, .ior, 1, 69), (69, .iaload, 1, 70), (70, .iadd, 1, 71), (71, .aload_n 2, 1, 72), (72, .iload 5, 2, 74), (74, .iaload, 1, 75), (75, .isub, 1, 76), (76, .istore 7, 2, 78), (78, .aload_n 2, 1, 79), (79, .bipush 7, 2, 81), (81, .iaload, 1, 82), (82, .aload_n 2, 1, 83), (83, .iload 4, 2, 85), (85, .iload 5, 2, 87), (87, .ior, 1, 88), (88, .iaload, 1, 89), (89, .isub, 1, 90), (90, .istore 8, 2, 92), (92, .aload_n 0, 1, 93), (93, .iconst 2, 1, 94), (94, .iload 6, 2, 96), (96, .imul, 1, 97), (97, .iload 7, 2, 99), (99, .iadd, 1, 100), (100, .iconst 2, 1, 101), (101, .iload 8, 2, 103), (103, .imul, 1, 104), (104, .iadd, 1, 105), (105, .invokevirtual 184, 3, 108), (108, .iconst 1, 1, 109), (109, .ireturn, 1, 110)]
set_option maxRecDepth 100000 in
theorem dt_X11_fair : DT cX11_fair tdt_X11_fair := by unfold DT; decide +kernel
abbrev M_X11_keepSixths : MI := (yX11_keepSixths, cX11_keepSixths, 2, none)
def tdt_X11_keepSixths : List (Nat × Instr × Nat × Nat) := [(0, .aload_n 0, 1, 1), (1, .iload_n 1, 1, 2), (2, .putfield 223, 3, 5), (5, .aload_n 0, 1, 6), (6, .bipush 6, 2, 8), (8, .putfield 40, 3, 11), (11, .aload_n 0, 1, 12), (12, .getfield 223, 3, 15), (15, .iconst 2, 1, 16), (16, .irem, 1, 17), (17, .ifCond .ne 23, 3, 20), (20, .aload_n 0, 1, 21), (21, .dup, 1, 22), (22, .getfield 223, 3, 25), (25, .iconst 2, 1, 26), (26, .idiv, 1, 27), (27, .putfield 223, 3, 30), (30, .aload_n 0, 1, 31), (31, .dup, 1, 32), (32, .getfield 40, 3, 35), (35, .iconst 2, 1, 36), (36, .idiv, 1, 37), (37, .putfield 40, 3, 40), (40, .aload_n 0, 1, 41), (41, .getfield 223, 3, 44), (44, .iconst 3, 1, 45), (45, .irem, 1, 46), (46, .ifCond .ne 23, 3, 49), (49, .aload_n 0, 1, 50), (50, .dup, 1, 51), (51, .getfield 223, 3, 54), (54, .iconst 3, 1, 55), (55, .idiv, 1, 56), (56, .putfield 223, 3, 59), (59, .aload_n 0, 1, 60), (60, .dup, 1, 61), (61, .getfield 40, 3, 64), (64, .iconst 3, 1, 65), (65, .idiv, 1, 66), (66, .putfield 40, 3, 69), (69, .return_, 1, 70)]
set_option maxRecDepth 100000 in
theorem dt_X11_keepSixths : DT cX11_keepSixths tdt_X11_keepSixths := by unfold DT; decide +kernel
theorem ff_X11_223 : FF RX11 223 11 10 := ⟨RX11, TX11, 15, tyX11, rfl, by decide, lay_11, rfl, Or.inl (tbl_in 389 (by decide +kernel) (by decide +kernel)), tyX11_ok, nmX11⟩
theorem fw_11_10 : FW 11 10 .int := ⟨_, rfl, by decide +kernel, by decide +kernel⟩
theorem ff_X11_40 : FF RX11 40 11 11 := ⟨RX11, TX11, 15, tyX11, rfl, by decide, lay_11, rfl, Or.inl (tbl_in 390 (by decide +kernel) (by decide +kernel)), tyX11_ok, nmX11⟩
theorem fw_11_11 : FW 11 11 .int := ⟨_, rfl, by decide +kernel, by decide +kernel⟩
theorem cn_X11_keepSixths : CFn M_X11_keepSixths 1 := ⟨tbl_in 828 (by decide +kernel) (by decide +kernel), tbl_in 109 (by decide +kernel) (by decide +kernel), by decide, by decide +kernel, by decide +kernel, by decide +kernel⟩
theorem cf_X11_184 : CFV RX11 184 M_X11_keepSixths 1 := ⟨cn_X11_keepSixths, Or.inl (tbl_in 825 (by decide +kernel) (by decide +kernel)), tbl_in 827 (by decide +kernel) (by decide +kernel), tbl_in 51 (by decide +kernel) (by decide +kernel)⟩
abbrev M_X11_week : MI := (yX11_week, cX11_week, 5, (some .int))
def tdt_X11_week : List (Nat × Instr × Nat × Nat) := [(0, .aload_n 0, 1, 1), (1, .getfield 50, 3, 4), (4, .getfield 72, 3, 7), (7, .astore 4, 2, 9), (9, .aload 4, 2, 11), (11, .iload_n 1, 1, 12), (12, .invokevirtual 187, 3, 15), (15, .ifCond .eq 21, 3, 18), (18, .aload 4, 2, 20), (20, .iload_n 2, 1, 21), (21, .invokevirtual 187, 3, 24), (24, .ifCond .eq 12, 3, 27), (27, .aload 4, 2, 29), (29, .iload_n 3, 1, 30), (30, .invokevirtual 187, 3, 33), (33, .ifCond .ne 10, 3, 36), (36, .aload_n 0, 1, 37), (37, .bipush (-2), 2, 39), (39, .invokevirtual 68, 3, 42), (42, .ireturn, 1, 43), (43, .iload_n 1, 1, 44), (44, .iload_n 2, 1, 45), (45, .iand, 1, 46), (46, .ifCond .ne 15, 3, 49), (49, .iload_n 1, 1, 50), (50, .iload_n 3, 1, 51), (51, .iand, 1, 52), (52, .ifCond .ne 9, 3, 55), (55, .iload_n 2, 1, 56), (56, .iload_n 3, 1, 57), (57, .iand, 1, 58), (58, .ifCond .eq 10, 3, 61), (61, .aload_n 0, 1, 62), (62, .bipush (-2), 2, 64), (64, .invokevirtual 68, 3, 67), (67, .ireturn, 1, 68), (68, .aload_n 0, 1, 69), (69, .getfield 50, 3, 72), (72, .getfield 190, 3, 75), (75, .bipush 6, 2, 77), (77, .if_icmp .lt 8, 3, 80), (80, .aload_n 0, 1, 81), (81, .invokevirtual 93, 3, 84), (84, .ireturn, 1, 85), (85, .aload_n 0, 1, 86), (86, .getfield 50, 3, 89), (89, .iload_n 1, 1, 90), (90, .iload_n 2, 1, 91), (91, .iload_n 3, 1, 92), (92, .invokevirtual 193, 3, 95), (95, .ireturn, 1, 96)]
set_option maxRecDepth 100000 in
theorem dt_X11_week : DT cX11_week tdt_X11_week := by unfold DT; decide +kernel
abbrev M_X9_isThreeOrNone : MI := (yX9_isThreeOrNone, cX9_isThreeOrNone, 2, (some .boolean))
def tdt_X9_isThreeOrNone : List (Nat × Instr × Nat × Nat) := [(0, .iload_n 1, 1, 1), (1, .ifCond .eq 11, 3, 4), (4, .aload_n 0, 1, 5), (5, .iload_n 1, 1, 6), (6, .invokevirtual 44, 3, 9), (9, .ifCond .eq 7, 3, 12), (12, .iconst 1, 1, 13), (13, .goto 4, 3, 16), (16, .iconst 0, 1, 17), (17, .ireturn, 1, 18)]
set_option maxRecDepth 100000 in
theorem dt_X9_isThreeOrNone : DT cX9_isThreeOrNone tdt_X9_isThreeOrNone := by unfold DT; decide +kernel
theorem cf_X9_44 : CFV RX9 44 M_X9_isThree 1 := ⟨cn_X9_isThree, Or.inl (tbl_in 837 (by decide +kernel) (by decide +kernel)), tbl_in 616 (by decide +kernel) (by decide +kernel), tbl_in 22 (by decide +kernel) (by decide +kernel)⟩
theorem cn_X9_isThreeOrNone : CFn M_X9_isThreeOrNone 1 := ⟨tbl_in 836 (by decide +kernel) (by decide +kernel), tbl_in 111 (by decide +kernel) (by decide +kernel), by decide, by decide +kernel, by decide +kernel, by decide +kernel⟩
theorem cf_X11_187 : CFV RX11 187 M_X9_isThreeOrNone 1 := ⟨cn_X9_isThreeOrNone, Or.inr ⟨"TiedThrees", nst_in 833 (by decide +kernel) (by decide +kernel)⟩, tbl_in 835 (by decide +kernel) (by decide +kernel), tbl_in 52 (by decide +kernel) (by decide +kernel)⟩
theorem ff_X11_190 : FF RX11 190 6 6 := ⟨RX6, TX6, 8, tyX6, rfl, by decide, lay_6, rfl, Or.inr ⟨"TiedThrees", nst_in 259 (by decide +kernel) (by decide +kernel)⟩, tyX6_ok, nmX6⟩
abbrev M_X6_addWeek : MI := (yX6_addWeek, cX6_addWeek, 4, (some .int))
def tdt_X6_addWeek : List (Nat × Instr × Nat × Nat) := [(0, .aload_n 0, 1, 1), (1, .getfield 31, 3, 4), (4, .bipush 6, 2, 6), (6, .if_icmp .lt 5, 3, 9), (9, .iconst (-1), 1, 10), (10, .ireturn, 1, 11), (11, .aload_n 0, 1, 12), (12, .getfield 15, 3, 15), (15, .aload_n 0, 1, 16), (16, .getfield 31, 3, 19), (19, .iconst 3, 1, 20), (20, .imul, 1, 21), (21, .iload_n 1, 1, 22), (22, .iastore, 1, 23), (23, .aload_n 0, 1, 24), (24, .getfield 15, 3, 27), (27, .aload_n 0, 1, 28), (28, .getfield 31, 3, 31), (31, .iconst 3, 1, 32), (32, .imul, 1, 33), (33, .iconst 1, 1, 34), (34, .iadd, 1, 35), (35, .iload_n 2, 1, 36), (36, .iastore, 1, 37), (37, .aload_n 0, 1, 38), (38, .getfield 15, 3, 41), (41, .aload_n 0, 1, 42), (42, .getfield 31, 3, 45), (45, .iconst 3, 1, 46), (46, .imul, 1, 47), (47, .iconst 2, 1, 48), (48, .iadd, 1, 49), (49, .iload_n 3, 1, 50), (50, .iastore, 1, 51), (51, .aload_n 0, 1, 52), (52, .dup, 1, 53), (53, .getfield 31, 3, 56), (56, .iconst 1, 1, 57), (57, .iadd, 1, 58), (58, .putfield 31, 3, 61), (61, .aload_n 0, 1, 62), (62, .getfield 31, 3, 65), (65, .iconst 1, 1, 66), (66, .isub, 1, 67), (67, .ireturn, 1, 68)]
set_option maxRecDepth 100000 in
theorem dt_X6_addWeek : DT cX6_addWeek tdt_X6_addWeek := by unfold DT; decide +kernel
theorem ff_X6_15 : FF RX6 15 6 2 := ⟨RX6, TX6, 8, tyX6, rfl, by decide, lay_6, rfl, Or.inl (tbl_in 251 (by decide +kernel) (by decide +kernel)), tyX6_ok, nmX6⟩
theorem sk_27 : SK[27]? = some (100, [18]) := rfl
theorem cn_X6_addWeek : CFn M_X6_addWeek 3 := ⟨tbl_in 841 (by decide +kernel) (by decide +kernel), tbl_in 113 (by decide +kernel) (by decide +kernel), by decide, by decide +kernel, by decide +kernel, by decide +kernel⟩
theorem cf_X11_193 : CFV RX11 193 M_X6_addWeek 3 := ⟨cn_X6_addWeek, Or.inr ⟨"TiedThrees", nst_in 838 (by decide +kernel) (by decide +kernel)⟩, tbl_in 840 (by decide +kernel) (by decide +kernel), tbl_in 53 (by decide +kernel) (by decide +kernel)⟩
abbrev M_X11_loose : MI := (yX11_loose, cX11_loose, 2, (some .int))
def tdt_X11_loose : List (Nat × Instr × Nat × Nat) := [(0, .aload_n 0, 1, 1), (1, .getfield 50, 3, 4), (4, .getfield 190, 3, 7), (7, .istore_n 1, 1, 8), (8, .aload_n 0, 1, 9), (9, .getfield 50, 3, 12), (12, .iconst 0, 1, 13), (13, .putfield 190, 3, 16), (16, .iload_n 1, 1, 17), (17, .ireturn, 1, 18)]
set_option maxRecDepth 100000 in
theorem dt_X11_loose : DT cX11_loose tdt_X11_loose := by unfold DT; decide +kernel
abbrev M_X11_knows : MI := (yX11_knows, cX11_knows, 5, (some .int))
def tdt_X11_knows : List (Nat × Instr × Nat × Nat) := [(0, .aload_n 0, 1, 1), (1, .getfield 50, 3, 4), (4, .getfield 72, 3, 7), (7, .iload_n 1, 1, 8), (8, .invokevirtual 196, 3, 11), (11, .ifCond .eq 18, 3, 14), (14, .iload_n 2, 1, 15), (15, .ifCond .lt 14, 3, 18), (18, .iload_n 2, 1, 19), (19, .aload_n 0, 1, 20), (20, .getfield 50, 3, 23), (23, .getfield 190, 3, 26), (26, .if_icmp .le 10, 3, 29), (29, .aload_n 0, 1, 30), (30, .bipush (-2), 2, 32), (32, .invokevirtual 68, 3, 35), (35, .ireturn, 1, 36), (36, .iload_n 1, 1, 37), (37, .istore_n 3, 1, 38), (38, .iconst 0, 1, 39), (39, .istore 4, 2, 41), (41, .iload 4, 2, 43), (43, .iload_n 2, 1, 44), (44, .if_icmp .ge 20, 3, 47), (47, .aload_n 0, 1, 48), (48, .getfield 50, 3, 51), (51, .iload 4, 2, 53), (53, .iload_n 3, 1, 54), (54, .invokevirtual 199, 3, 57), (57, .istore_n 3, 1, 58), (58, .iinc 4 1, 3, 61), (61, .goto (-20), 3, 64), (64, .iload_n 3, 1, 65), (65, .ireturn, 1, 66)]
set_option maxRecDepth 100000 in
theorem dt_X11_knows : DT cX11_knows tdt_X11_knows := by unfold DT; decide +kernel
theorem cf_X11_196 : CFV RX11 196 M_X9_isGroup 1 := ⟨cn_X9_isGroup, Or.inr ⟨"TiedThrees", nst_in 850 (by decide +kernel) (by decide +kernel)⟩, tbl_in 620 (by decide +kernel) (by decide +kernel), tbl_in 23 (by decide +kernel) (by decide +kernel)⟩
abbrev M_X6_toldInWeek : MI := (yX6_toldInWeek, cX6_toldInWeek, 6, (some .int))
def tdt_X6_toldInWeek : List (Nat × Instr × Nat × Nat) := [(0, .iload_n 2, 1, 1), (1, .istore_n 3, 1, 2), (2, .iconst 0, 1, 3), (3, .istore 4, 2, 5), (5, .iload 4, 2, 7), (7, .iconst 3, 1, 8), (8, .if_icmp .ge 34, 3, 11), (11, .aload_n 0, 1, 12), (12, .getfield 15, 3, 15), (15, .iload_n 1, 1, 16), (16, .iconst 3, 1, 17), (17, .imul, 1, 18), (18, .iload 4, 2, 20), (20, .iadd, 1, 21), (21, .iaload, 1, 22), (22, .istore 5, 2, 24), (24, .iload 5, 2, 26), (26, .iload_n 2, 1, 27), (27, .iand, 1, 28), (28, .ifCond .eq 8, 3, 31), (31, .iload_n 3, 1, 32), (32, .iload 5, 2, 34), (34, .ior, 1, 35), (35, .istore_n 3, 1, 36), (36, .iinc 4 1, 3, 39), (39, .goto (-34), 3, 42), (42, .iload_n 3, 1, 43), (43, .ireturn, 1, 44)]
set_option maxRecDepth 100000 in
theorem dt_X6_toldInWeek : DT cX6_toldInWeek tdt_X6_toldInWeek := by unfold DT; decide +kernel
theorem cn_X6_toldInWeek : CFn M_X6_toldInWeek 2 := ⟨tbl_in 854 (by decide +kernel) (by decide +kernel), tbl_in 113 (by decide +kernel) (by decide +kernel), by decide, by decide +kernel, by decide +kernel, by decide +kernel⟩
theorem cf_X11_199 : CFV RX11 199 M_X6_toldInWeek 2 := ⟨cn_X6_toldInWeek, Or.inr ⟨"TiedThrees", nst_in 851 (by decide +kernel) (by decide +kernel)⟩, tbl_in 853 (by decide +kernel) (by decide +kernel), tbl_in 54 (by decide +kernel) (by decide +kernel)⟩
abbrev M_X11_when : MI := (yX11_when, cX11_when, 5, (some .int))
def tdt_X11_when : List (Nat × Instr × Nat × Nat) := [(0, .aload_n 0, 1, 1), (1, .getfield 50, 3, 4), (4, .getfield 72, 3, 7), (7, .iload_n 1, 1, 8), (8, .invokevirtual 196, 3, 11), (11, .ifCond .eq 17, 3, 14), (14, .aload_n 0, 1, 15), (15, .getfield 50, 3, 18), (18, .getfield 72, 3, 21), (21, .iload_n 2, 1, 22), (22, .invokevirtual 101, 3, 25), (25, .ifCond .ne 10, 3, 28), (28, .aload_n 0, 1, 29), (29, .bipush (-2), 2, 31), (31, .invokevirtual 68, 3, 34), (34, .ireturn, 1, 35), (35, .iload_n 1, 1, 36), (36, .istore_n 3, 1, 37), (37, .iconst 0, 1, 38), (38, .istore 4, 2, 40), (40, .iload 4, 2, 42), (42, .aload_n 0, 1, 43), (43, .getfield 50, 3, 46), (46, .getfield 190, 3, 49), (49, .if_icmp .ge 31, 3, 52), (52, .iload_n 3, 1, 53), (53, .iload_n 2, 1, 54), (54, .invokestatic 202, 3, 57), (57, .ifCond .eq 6, 3, 60), (60, .iload 4, 2, 62), (62, .ireturn, 1, 63), (63, .aload_n 0, 1, 64), (64, .getfield 50, 3, 67), (67, .iload 4, 2, 69), (69, .iload_n 3, 1, 70), (70, .invokevirtual 199, 3, 73), (73, .istore_n 3, 1, 74), (74, .iinc 4 1, 3, 77), (77, .goto (-37), 3, 80), (80, .iload_n 3, 1, 81), (81, .iload_n 2, 1, 82), (82, .invokestatic 202, 3, 85), (85, .ifCond .eq 13, 3, 88), (88, .aload_n 0, 1, 89), (89, .getfield 50, 3, 92), (92, .getfield 190, 3, 95), (95, .goto 4, 3, 98), (98, .iconst (-1), 1, 99), (99, .ireturn, 1, 100)]
set_option maxRecDepth 100000 in
theorem dt_X11_when : DT cX11_when tdt_X11_when := by unfold DT; decide +kernel
abbrev M_X11_rope : MI := (yX11_rope, cX11_rope, 4, (some .int))
def tdt_X11_rope : List (Nat × Instr × Nat × Nat) := [(0, .iload_n 1, 1, 1), (1, .invokestatic 205, 3, 4), (4, .ifCond .eq 19, 3, 7), (7, .iload_n 2, 1, 8), (8, .invokestatic 205, 3, 11), (11, .ifCond .eq 12, 3, 14), (14, .iload_n 3, 1, 15), (15, .ifCond .lt 8, 3, 18), (18, .iload_n 3, 1, 19), (19, .iconst 2, 1, 20), (20, .if_icmp .le 10, 3, 23), (23, .aload_n 0, 1, 24), (24, .bipush (-2), 2, 26), (26, .invokevirtual 68, 3, 29), (29, .ireturn, 1, 30), (30, .iload_n 1, 1, 31), (31, .iload_n 2, 1, 32), (32, .iload_n 3, 1, 33), (33, .invokestatic 208, 3, 36), (36, .ireturn, 1, 37)]
set_option maxRecDepth 100000 in
theorem dt_X11_rope : DT cX11_rope tdt_X11_rope := by unfold DT; decide +kernel
abbrev M_X11_isStrength : MI := (yX11_isStrength, cX11_isStrength, 1, (some .boolean))
def tdt_X11_isStrength : List (Nat × Instr × Nat × Nat) := [(0, .iload_n 0, 1, 1), (1, .iconst 1, 1, 2), (2, .if_icmp .lt 13, 3, 5), (5, .iload_n 0, 1, 6), (6, .bipush 60, 2, 8), (8, .if_icmp .gt 7, 3, 11), (11, .iconst 1, 1, 12), (12, .goto 4, 3, 15), (15, .iconst 0, 1, 16), (16, .ireturn, 1, 17)]
set_option maxRecDepth 100000 in
theorem dt_X11_isStrength : DT cX11_isStrength tdt_X11_isStrength := by unfold DT; decide +kernel
theorem kb_60 : (Int8.ofInt 60).toInt32 = (60 : Int32) := by decide +kernel
theorem cn_X11_isStrength : CFn M_X11_isStrength 1 := ⟨tbl_in 865 (by decide +kernel) (by decide +kernel), tbl_in 109 (by decide +kernel) (by decide +kernel), by decide, by decide +kernel, by decide +kernel, by decide +kernel⟩
theorem cf_X11_205 : CFS RX11 205 M_X11_isStrength 1 := ⟨cn_X11_isStrength, Or.inl (tbl_in 863 (by decide +kernel) (by decide +kernel)), tbl_in 864 (by decide +kernel) (by decide +kernel)⟩
abbrev M_X11_ropeEnd : MI := (yX11_ropeEnd, cX11_ropeEnd, 10, (some .int))
def tdt_X11_ropeEnd : List (Nat × Instr × Nat × Nat) := [(0, .iload_n 0, 1, 1), (1, .istore_n 3, 1, 2), (2, .iload_n 1, 1, 3), (3, .istore 4, 2, 5), (5, .iconst 0, 1, 6), (6, .istore 5, 2, 8), (8, .iload_n 3, 1, 9), (9, .ifCond .le 41, 3, 12), (12, .iload 4, 2, 14), (14, .ifCond .le 36, 3, 17), (17, .iload 5, 2, 19), (19, .bipush 120, 2, 21), (21, .if_icmp .ge 29, 3, 24), (24, .iload_n 3, 1, 25), (25, .iload 5, 2, 27), (27, .iconst 0, 1, 28), (28, .invokestatic 271, 3, 31), (31, .isub, 1, 32), (32, .istore_n 3, 1, 33), (33, .iload 4, 2, 35), (35, .iload 5, 2, 37), (37, .iconst 1, 1, 38), (38, .invokestatic 271, 3, 41), (41, .isub, 1, 42), (42, .istore 4, 2, 44), (44, .iinc 5 1, 3, 47), (47, .goto (-39), 3, 50), (50, .iload_n 3, 1, 51), (51, .iconst 0, 1, 52), (52, .invokestatic 274, 3, 55), (55, .istore 6, 2, 57), (57, .iload 4, 2, 59), (59, .iconst 0, 1, 60), (60, .invokestatic 274, 3, 63), (63, .istore 7, 2, 65), (65, .iload 5, 2, 67), (67, .iconst 1, 1, 68), (68, .isub, 1, 69), (69, .istore 8, 2, 71), (71, .iload 5, 2, 73), (73, .iconst 1, 1, 74), (74, .isub, 1, 75), (75, .istore 9, 2, 77), (77, .iload 9, 2, 79), (79, .ifCond .lt 100, 3, 82), (82, .iload_n 3, 1, 83), (83, .iload 9, 2, 85), (85, .iconst 0, 1, 86), (86, .invokestatic 271, 3, 89), (89, .iadd, 1, 90), (90, .istore_n 3, 1, 91), (91, .iload 4, 2, 93), (93, .iload 9, 2, 95), (95, .iconst 1, 1, 96), (96, .invokestatic 271, 3, 99), (99, .iadd, 1, 100), (100, .istore 4, 2, 102), (102, .iload 9, 2, 104), (104, .iconst 2, 1, 105), (105, .irem, 1, 106), (106, .ifCond .ne 31, 3, 109), (109, .iload_n 3, 1, 110), (110, .iload_n 3, 1, 111), (111, .iconst 2, 1, 112), (112, .idiv, 1, 113), (113, .isub, 1, 114), (114, .iload 6, 2, 116), (116, .if_icmp .le 21, 3, 119), (119, .iload_n 3, 1, 120), (120, .iload_n 3, 1, 121), (121, .iconst 2, 1, 122), (122, .idiv, 1, 123), (123, .isub, 1, 124), (124, .istore 6, 2, 126), (126, .iload 4, 2, 128), (128, .istore 7, 2, 130), (130, .iload 9, 2, 132), (132, .istore 8, 2, 134), (134, .goto 39, 3, 137), (137, .iload 9, 2, 139), (139, .iconst 2, 1, 140), (140, .irem, 1, 141), (141, .iconst 1, 1, 142), (142, .if_icmp .ne 31, 3, 145), (145, .iload 4, 2, 147), (147, .iload 4, 2, 149), (149, .iconst 2, 1, 150), (150, .idiv, 1, 151), (151, .isub, 1, 152), (152, .iload 7, 2, 154), (154, .if_icmp .le 19, 3, 157), (157, .iload_n 3, 1, 158), (158, .istore 6, 2, 160), (160, .iload 4, 2, 162), (162, .iload 4, 2, 164), (164, .iconst 2, 1, 165), (165, .idiv, 1, 166), (166, .isub, 1, 167), (167, .istore 7, 2, 169), (169, .iload 9, 2, 171), (171, .istore 8, 2, 173), (173, .iinc 9 (-1), 3, 176), (176, .goto (-99), 3, 179), (179, .iload_n 2, 1, 180), (180, .ifCond .ne 8, 3, 183), (183, .iload 6, 2, 185), (185, .goto 15, 3, 188), (188, .iload_n 2, 1, 189), (189, .iconst 1, 1, 190), (190, .if_icmp .ne 8, 3, 193), (193, .iload 7, 2, 195), (195, .goto 5, 3, 198), (198, .iload 8, 2, 200), (200, .ireturn, 1, 201)]
set_option maxRecDepth 100000 in
theorem dt_X11_ropeEnd : DT cX11_ropeEnd tdt_X11_ropeEnd := by unfold DT; decide +kernel
theorem kb_120 : (Int8.ofInt 120).toInt32 = (120 : Int32) := by decide +kernel
abbrev M_X11_pullLoss : MI := (yX11_pullLoss, cX11_pullLoss, 2, (some .int))
def tdt_X11_pullLoss : List (Nat × Instr × Nat × Nat) := [(0, .iload_n 0, 1, 1), (1, .iconst 2, 1, 2), (2, .irem, 1, 3), (3, .iload_n 1, 1, 4), (4, .if_icmp .ne 7, 3, 7), (7, .iconst 1, 1, 8), (8, .goto 4, 3, 11), (11, .iconst 2, 1, 12), (12, .ireturn, 1, 13)]
set_option maxRecDepth 100000 in
theorem dt_X11_pullLoss : DT cX11_pullLoss tdt_X11_pullLoss := by unfold DT; decide +kernel
theorem cn_X11_pullLoss : CFn M_X11_pullLoss 2 := ⟨tbl_in 871 (by decide +kernel) (by decide +kernel), tbl_in 109 (by decide +kernel) (by decide +kernel), by decide, by decide +kernel, by decide +kernel, by decide +kernel⟩
theorem cf_X11_271 : CFS RX11 271 M_X11_pullLoss 2 := ⟨cn_X11_pullLoss, Or.inl (tbl_in 869 (by decide +kernel) (by decide +kernel)), tbl_in 870 (by decide +kernel) (by decide +kernel)⟩
theorem cf_X11_274 : CFS RX11 274 M_J9_max 2 := ⟨cn_J9_max, Or.inl (tbl_in 872 (by decide +kernel) (by decide +kernel)), tbl_in 734 (by decide +kernel) (by decide +kernel)⟩
theorem cn_X11_ropeEnd : CFn M_X11_ropeEnd 3 := ⟨tbl_in 868 (by decide +kernel) (by decide +kernel), tbl_in 109 (by decide +kernel) (by decide +kernel), by decide, by decide +kernel, by decide +kernel, by decide +kernel⟩
theorem cf_X11_208 : CFS RX11 208 M_X11_ropeEnd 3 := ⟨cn_X11_ropeEnd, Or.inl (tbl_in 866 (by decide +kernel) (by decide +kernel)), tbl_in 867 (by decide +kernel) (by decide +kernel)⟩
abbrev M_X11_sight : MI := (yX11_sight, cX11_sight, 5, (some .int))
def tdt_X11_sight : List (Nat × Instr × Nat × Nat) := [(0, .aload_n 0, 1, 1), (1, .getfield 50, 3, 4), (4, .getfield 72, 3, 7), (7, .astore 4, 2, 9), (9, .aload 4, 2, 11), (11, .iload_n 1, 1, 12), (12, .invokevirtual 101, 3, 15), (15, .ifCond .eq 19, 3, 18), (18, .aload 4, 2, 20), (20, .iload_n 2, 1, 21), (21, .invokevirtual 105, 3, 24), (24, .ifCond .eq 10, 3, 27), (27, .iload_n 3, 1, 28), (28, .invokestatic 108, 3, 31), (31, .ifCond .ne 10, 3, 34), (34, .aload_n 0, 1, 35), (35, .bipush (-2), 2, 37), (37, .invokevirtual 68, 3, 40), (40, .ireturn, 1, 41), (41, .aload_n 0, 1, 42), (42, .getfield 50, 3, 45), (45, .getfield 211, 3, 48), (48, .iconst 5, 1, 49), (49, .if_icmp .lt 8, 3, 52), (52, .aload_n 0, 1, 53), (53, .invokevirtual 93, 3, 56), (56, .ireturn, 1, 57), (57, .aload_n 0, 1, 58), (58, .getfield 50, 3, 61), (61, .iload_n 1, 1, 62), (62, .iload_n 2, 1, 63), (63, .iload_n 3, 1, 64), (64, .invokevirtual 214, 3, 67), (67, .ireturn, 1, 68)]
set_option maxRecDepth 100000 in
theorem dt_X11_sight : DT cX11_sight tdt_X11_sight := by unfold DT; decide +kernel
theorem ff_X11_211 : FF RX11 211 6 7 := ⟨RX6, TX6, 8, tyX6, rfl, by decide, lay_6, rfl, Or.inr ⟨"TiedThrees", nst_in 261 (by decide +kernel) (by decide +kernel)⟩, tyX6_ok, nmX6⟩
abbrev M_X6_addSight : MI := (yX6_addSight, cX6_addSight, 4, (some .int))
def tdt_X6_addSight : List (Nat × Instr × Nat × Nat) := [(0, .aload_n 0, 1, 1), (1, .getfield 35, 3, 4), (4, .iconst 5, 1, 5), (5, .if_icmp .lt 5, 3, 8), (8, .iconst (-1), 1, 9), (9, .ireturn, 1, 10), (10, .aload_n 0, 1, 11), (11, .getfield 18, 3, 14), (14, .aload_n 0, 1, 15), (15, .getfield 35, 3, 18), (18, .iload_n 1, 1, 19), (19, .iastore, 1, 20), (20, .aload_n 0, 1, 21), (21, .getfield 21, 3, 24), (24, .aload_n 0, 1, 25), (25, .getfield 35, 3, 28), (28, .iload_n 2, 1, 29), (29, .iastore, 1, 30), (30, .aload_n 0, 1, 31), (31, .getfield 24, 3, 34), (34, .aload_n 0, 1, 35), (35, .getfield 35, 3, 38), (38, .iload_n 3, 1, 39), (39, .iastore, 1, 40), (40, .aload_n 0, 1, 41), (41, .dup, 1, 42), (42, .getfield 35, 3, 45), (45, .iconst 1, 1, 46), (46, .iadd, 1, 47), (47, .putfield 35, 3, 50), (50, .aload_n 0, 1, 51), (51, .getfield 35, 3, 54), (54, .iconst 1, 1, 55), (55, .isub, 1, 56), (56, .ireturn, 1, 57)]
set_option maxRecDepth 100000 in
theorem dt_X6_addSight : DT cX6_addSight tdt_X6_addSight := by unfold DT; decide +kernel
theorem ff_X6_18 : FF RX6 18 6 3 := ⟨RX6, TX6, 8, tyX6, rfl, by decide, lay_6, rfl, Or.inl (tbl_in 252 (by decide +kernel) (by decide +kernel)), tyX6_ok, nmX6⟩
theorem sk_28 : SK[28]? = some (100, [5]) := rfl
theorem ff_X6_21 : FF RX6 21 6 4 := ⟨RX6, TX6, 8, tyX6, rfl, by decide, lay_6, rfl, Or.inl (tbl_in 254 (by decide +kernel) (by decide +kernel)), tyX6_ok, nmX6⟩
theorem sk_29 : SK[29]? = some (100, [5]) := rfl
theorem ff_X6_24 : FF RX6 24 6 5 := ⟨RX6, TX6, 8, tyX6, rfl, by decide, lay_6, rfl, Or.inl (tbl_in 256 (by decide +kernel) (by decide +kernel)), tyX6_ok, nmX6⟩
theorem sk_30 : SK[30]? = some (100, [5]) := rfl
theorem cn_X6_addSight : CFn M_X6_addSight 3 := ⟨tbl_in 880 (by decide +kernel) (by decide +kernel), tbl_in 113 (by decide +kernel) (by decide +kernel), by decide, by decide +kernel, by decide +kernel, by decide +kernel⟩
theorem cf_X11_214 : CFV RX11 214 M_X6_addSight 3 := ⟨cn_X6_addSight, Or.inr ⟨"TiedThrees", nst_in 877 (by decide +kernel) (by decide +kernel)⟩, tbl_in 879 (by decide +kernel) (by decide +kernel), tbl_in 55 (by decide +kernel) (by decide +kernel)⟩
abbrev M_X11_blind : MI := (yX11_blind, cX11_blind, 2, (some .int))
def tdt_X11_blind : List (Nat × Instr × Nat × Nat) := [(0, .aload_n 0, 1, 1), (1, .getfield 50, 3, 4), (4, .getfield 211, 3, 7), (7, .istore_n 1, 1, 8), (8, .aload_n 0, 1, 9), (9, .getfield 50, 3, 12), (12, .iconst 0, 1, 13), (13, .putfield 211, 3, 16), (16, .iload_n 1, 1, 17), (17, .ireturn, 1, 18)]
set_option maxRecDepth 100000 in
theorem dt_X11_blind : DT cX11_blind tdt_X11_blind := by unfold DT; decide +kernel
abbrev M_X11_which : MI := (yX11_which, cX11_which, 8, (some .int))
def tdt_X11_which : List (Nat × Instr × Nat × Nat) := [(0, .aload_n 0, 1, 1), (1, .getfield 50, 3, 4), (4, .getfield 72, 3, 7), (7, .iload_n 1, 1, 8), (8, .invokevirtual 101, 3, 11), (11, .ifCond .eq 8, 3, 14), (14, .iload_n 2, 1, 15), (15, .iconst (-1), 1, 16), (16, .if_icmp .ge 10, 3, 19), (19, .aload_n 0, 1, 20), (20, .bipush (-10), 2, 22), (22, .invokevirtual 68, 3, 25), (25, .ireturn, 1, 26), (26, .iconst 0, 1, 27), (27, .istore_n 3, 1, 28), (28, .aload_n 0, 1, 29), (29, .getfield 33, 3, 32), (32, .getfield 217, 3, 35), (35, .astore 4, 2, 37), (37, .aload 4, 2, 39), (39, .arraylength, 1, 40), (40, .istore 5, 2, 42), (42, .iconst 0, 1, 43), (43, .istore 6, 2, 45), (45, .iload 6, 2, 47), (47, .iload 5, 2, 49), (49, .if_icmp .ge 61, 3, 52), (52, .aload 4, 2, 54), (54, .iload 6, 2, 56), (56, .iaload, 1, 57), (57, .istore 7, 2, 59), (59, .iload 7, 2, 61), (61, .iload_n 1, 1, 62), (62, .invokestatic 202, 3, 65), (65, .ifCond .eq 39, 3, 68), (68, .aload_n 0, 1, 69), (69, .getfield 50, 3, 72), (72, .getfield 72, 3, 75), (75, .iload 7, 2, 77), (77, .invokevirtual 132, 3, 80), (80, .ifCond .eq 24, 3, 83), (83, .aload_n 0, 1, 84), (84, .iload 7, 2, 86), (86, .iload_n 1, 1, 87), (87, .invokevirtual 220, 3, 90), (90, .ifCond .eq 14, 3, 93), (93, .iload_n 3, 1, 94), (94, .iload_n 2, 1, 95), (95, .if_icmp .ne 6, 3, 98), (98, .iload 7, 2, 100), (100, .ireturn, 1, 101), (101, .iinc 3 1, 3, 104), (104, .iinc 6 1, 3, 107), (107, .goto (-62), 3, 110), (110, .iload_n 2, 1, 111), (111, .iconst (-1), 1, 112), (112, .if_icmp .ne 7, 3, 115), (115, .iload_n 3, 1, 116), (116, .goto 5, 3, 119), (119, .bipush (-5), 2, 121), (121, .ireturn, 1, 122)]
set_option maxRecDepth 100000 in
theorem dt_X11_which : DT cX11_which tdt_X11_which := by unfold DT; decide +kernel
abbrev M_X11_mayHaveBeen : MI := (yX11_mayHaveBeen, cX11_mayHaveBeen, 5, (some .boolean))
def tdt_X11_mayHaveBeen : List (Nat × Instr × Nat × Nat) := [(0, .aload_n 0, 1, 1), (1, .getfield 57, 3, 4), (4, .iload_n 1, 1, 5), (5, .invokevirtual 135, 3, 8), (8, .iconst 0, 1, 9), (9, .istore_n 3, 1, 10), (10, .iload_n 3, 1, 11), (11, .aload_n 0, 1, 12), (12, .getfield 50, 3, 15), (15, .getfield 211, 3, 18), (18, .if_icmp .ge 57, 3, 21), (21, .aload_n 0, 1, 22), (22, .getfield 50, 3, 25), (25, .getfield 279, 3, 28), (28, .iload_n 3, 1, 29), (29, .iaload, 1, 30), (30, .istore 4, 2, 32), (32, .aload_n 0, 1, 33), (33, .getfield 50, 3, 36), (36, .getfield 282, 3, 39), (39, .iload_n 3, 1, 40), (40, .iaload, 1, 41), (41, .iload_n 2, 1, 42), (42, .if_icmp .ne 27, 3, 45), (45, .aload_n 0, 1, 46), (46, .getfield 57, 3, 49), (49, .getfield 141, 3, 52), (52, .iload 4, 2, 54), (54, .iaload, 1, 55), (55, .aload_n 0, 1, 56), (56, .getfield 50, 3, 59), (59, .getfield 285, 3, 62), (62, .iload_n 3, 1, 63), (63, .iaload, 1, 64), (64, .if_icmp .eq 5, 3, 67), (67, .iconst 0, 1, 68), (68, .ireturn, 1, 69), (69, .iinc 3 1, 3, 72), (72, .goto (-62), 3, 75), (75, .iconst 1, 1, 76), (76, .ireturn, 1, 77)]
set_option maxRecDepth 100000 in
theorem dt_X11_mayHaveBeen : DT cX11_mayHaveBeen tdt_X11_mayHaveBeen := by unfold DT; decide +kernel
theorem ff_X11_279 : FF RX11 279 6 5 := ⟨RX6, TX6, 8, tyX6, rfl, by decide, lay_6, rfl, Or.inr ⟨"TiedThrees", nst_in 257 (by decide +kernel) (by decide +kernel)⟩, tyX6_ok, nmX6⟩
theorem ff_X11_282 : FF RX11 282 6 3 := ⟨RX6, TX6, 8, tyX6, rfl, by decide, lay_6, rfl, Or.inr ⟨"TiedThrees", nst_in 253 (by decide +kernel) (by decide +kernel)⟩, tyX6_ok, nmX6⟩
theorem ff_X11_285 : FF RX11 285 6 4 := ⟨RX6, TX6, 8, tyX6, rfl, by decide, lay_6, rfl, Or.inr ⟨"TiedThrees", nst_in 255 (by decide +kernel) (by decide +kernel)⟩, tyX6_ok, nmX6⟩
theorem cn_X11_mayHaveBeen : CFn M_X11_mayHaveBeen 2 := ⟨tbl_in 892 (by decide +kernel) (by decide +kernel), tbl_in 109 (by decide +kernel) (by decide +kernel), by decide, by decide +kernel, by decide +kernel, by decide +kernel⟩
theorem cf_X11_220 : CFV RX11 220 M_X11_mayHaveBeen 2 := ⟨cn_X11_mayHaveBeen, Or.inl (tbl_in 889 (by decide +kernel) (by decide +kernel)), tbl_in 891 (by decide +kernel) (by decide +kernel), tbl_in 56 (by decide +kernel) (by decide +kernel)⟩
theorem kb_m5 : (Int8.ofInt (-5)).toInt32 = ((-5) : Int32) := by decide +kernel
abbrev M_X11_part : MI := (yX11_part, cX11_part, 2, (some .long))
def tdt_X11_part : List (Nat × Instr × Nat × Nat) := [(0, .iload_n 1, 1, 1), (1, .ifCond .lt 8, 3, 4), (4, .iload_n 1, 1, 5), (5, .iconst 1, 1, 6), (6, .if_icmp .le 12, 3, 9), (9, .aload_n 0, 1, 10), (10, .sipush (-1000), 3, 13), (13, .invokevirtual 68, 3, 16), (16, .i2l, 1, 17), (17, .lreturn, 1, 18), (18, .iload_n 1, 1, 19), (19, .ifCond .ne 11, 3, 22), (22, .aload_n 0, 1, 23), (23, .getfield 223, 3, 26), (26, .i2l, 1, 27), (27, .goto 8, 3, 30), (30, .aload_n 0, 1, 31), (31, .getfield 40, 3, 34), (34, .i2l, 1, 35), (35, .lreturn, 1, 36)]
set_option maxRecDepth 100000 in
theorem dt_X11_part : DT cX11_part tdt_X11_part := by unfold DT; decide +kernel
theorem ks_m1000 : (Int16.ofInt (-1000)).toInt32 = ((-1000) : Int32) := by decide +kernel
abbrev M_X11_image : MI := (yX11_image, cX11_image, 2, (some .int))
def tdt_X11_image : List (Nat × Instr × Nat × Nat) := [(0, .iload_n 1, 1, 1), (1, .invokestatic 226, 3, 4), (4, .ifCond .ne 10, 3, 7), (7, .aload_n 0, 1, 8), (8, .bipush (-2), 2, 10), (10, .invokevirtual 68, 3, 13), (13, .ireturn, 1, 14), (14, .aload_n 0, 1, 15), (15, .getfield 11, 3, 18), (18, .iload_n 1, 1, 19), (19, .aaload, 1, 20), (20, .aload_n 0, 1, 21), (21, .getfield 50, 3, 24), (24, .invokevirtual 229, 3, 27), (27, .aload_n 0, 1, 28), (28, .getfield 15, 3, 31), (31, .iload_n 1, 1, 32), (32, .iconst 1, 1, 33), (33, .bastore, 1, 34), (34, .iconst 1, 1, 35), (35, .ireturn, 1, 36)]
set_option maxRecDepth 100000 in
theorem dt_X11_image : DT cX11_image tdt_X11_image := by unfold DT; decide +kernel
abbrev M_X11_isImage : MI := (yX11_isImage, cX11_isImage, 1, (some .boolean))
def tdt_X11_isImage : List (Nat × Instr × Nat × Nat) := [(0, .iload_n 0, 1, 1), (1, .ifCond .lt 12, 3, 4), (4, .iload_n 0, 1, 5), (5, .iconst 2, 1, 6), (6, .if_icmp .ge 7, 3, 9), (9, .iconst 1, 1, 10), (10, .goto 4, 3, 13), (13, .iconst 0, 1, 14), (14, .ireturn, 1, 15)]
set_option maxRecDepth 100000 in
theorem dt_X11_isImage : DT cX11_isImage tdt_X11_isImage := by unfold DT; decide +kernel
theorem cn_X11_isImage : CFn M_X11_isImage 1 := ⟨tbl_in 903 (by decide +kernel) (by decide +kernel), tbl_in 109 (by decide +kernel) (by decide +kernel), by decide, by decide +kernel, by decide +kernel, by decide +kernel⟩
theorem cf_X11_226 : CFS RX11 226 M_X11_isImage 1 := ⟨cn_X11_isImage, Or.inl (tbl_in 901 (by decide +kernel) (by decide +kernel)), tbl_in 902 (by decide +kernel) (by decide +kernel)⟩
theorem ff_X11_11 : FF RX11 11 11 1 := ⟨RX11, TX11, 15, tyX11, rfl, by decide, lay_11, rfl, Or.inl (tbl_in 380 (by decide +kernel) (by decide +kernel)), tyX11_ok, nmX11⟩
theorem sk_1 : SK[1]? = some (103, [53, 65]) := rfl
abbrev M_X6_become : MI := (yX6_become, cX6_become, 2, none)
def tdt_X6_become : List (Nat × Instr × Nat × Nat) := [(0, .aload_n 0, 1, 1), (1, .getfield 27, 3, 4), (4, .aload_n 1, 1, 5), (5, .getfield 27, 3, 8), (8, .invokevirtual 38, 3, 11), (11, .aload_n 1, 1, 12), (12, .getfield 9, 3, 15), (15, .iconst 0, 1, 16), (16, .aload_n 0, 1, 17), (17, .getfield 9, 3, 20), (20, .iconst 0, 1, 21), (21, .bipush 8, 2, 23), (23, .invokestatic 44, 3, 26), (26, .aload_n 1, 1, 27), (27, .getfield 15, 3, 30), (30, .iconst 0, 1, 31), (31, .aload_n 0, 1, 32), (32, .getfield 15, 3, 35), (35, .iconst 0, 1, 36), (36, .bipush 18, 2, 38), (38, .invokestatic 44, 3, 41), (41, .aload_n 1, 1, 42), (42, .getfield 18, 3, 45), (45, .iconst 0, 1, 46), (46, .aload_n 0, 1, 47), (47, .getfield 18, 3, 50), (50, .iconst 0, 1, 51), (51, .iconst 5, 1, 52), (52, .invokestatic 44, 3, 55), (55, .aload_n 1, 1, 56), (56, .getfield 21, 3, 59), (59, .iconst 0, 1, 60), (60, .aload_n 0, 1, 61), (61, .getfield 21, 3, 64), (64, .iconst 0, 1, 65), (65, .iconst 5, 1, 66), (66, .invokestatic 44, 3, 69), (69, .aload_n 1, 1, 70), (70, .getfield 24, 3, 73), (73, .iconst 0, 1, 74), (74, .aload_n 0, 1, 75), (75, .getfield 24, 3, 78), (78, .iconst 0, 1, 79), (79, .iconst 5, 1, 80), (80, .invokestatic 44, 3, 83), (83, .aload_n 0, 1, 84), (84, .aload_n 1, 1, 85), (85, .getfield 31, 3, 88), (88, .putfield 31, 3, 91), (91, .aload_n 0, 1, 92), (92, .aload_n 1, 1, 93), (93, .getfield 35, 3, 96), (96, .putfield 35, 3, 99), (99, .return_, 1, 100)]
set_option maxRecDepth 100000 in
theorem dt_X6_become : DT cX6_become tdt_X6_become := by unfold DT; decide +kernel
theorem ff_X6_27 : FF RX6 27 6 0 := ⟨RX6, TX6, 8, tyX6, rfl, by decide, lay_6, rfl, Or.inl (tbl_in 247 (by decide +kernel) (by decide +kernel)), tyX6_ok, nmX6⟩
theorem sk_53 : SK[53]? = some (6, [50, 57, 58, 59, 60, 61, 0, 0]) := rfl
abbrev M_X9_become : MI := (yX9_become, cX9_become, 2, none)
def tdt_X9_become : List (Nat × Instr × Nat × Nat) := [(0, .aload_n 0, 1, 1), (1, .aload_n 1, 1, 2), (2, .getfield 27, 3, 5), (5, .putfield 27, 3, 8), (8, .aload_n 0, 1, 9), (9, .aload_n 1, 1, 10), (10, .getfield 31, 3, 13), (13, .putfield 31, 3, 16), (16, .aload_n 1, 1, 17), (17, .getfield 9, 3, 20), (20, .iconst 0, 1, 21), (21, .aload_n 0, 1, 22), (22, .getfield 9, 3, 25), (25, .iconst 0, 1, 26), (26, .bipush 9, 2, 28), (28, .invokestatic 60, 3, 31), (31, .aload_n 1, 1, 32), (32, .getfield 15, 3, 35), (35, .iconst 0, 1, 36), (36, .aload_n 0, 1, 37), (37, .getfield 15, 3, 40), (40, .iconst 0, 1, 41), (41, .bipush 9, 2, 43), (43, .invokestatic 60, 3, 46), (46, .aload_n 1, 1, 47), (47, .getfield 18, 3, 50), (50, .iconst 0, 1, 51), (51, .aload_n 0, 1, 52), (52, .getfield 18, 3, 55), (55, .iconst 0, 1, 56), (56, .bipush 9, 2, 58), (58, .invokestatic 60, 3, 61), (61, .aload_n 1, 1, 62), (62, .getfield 21, 3, 65), (65, .iconst 0, 1, 66), (66, .aload_n 0, 1, 67), (67, .getfield 21, 3, 70), (70, .iconst 0, 1, 71), (71, .bipush 36, 2, 73), (73, .invokestatic 60, 3, 76), (76, .aload_n 1, 1, 77), (77, .getfield 24, 3, 80), (80, .iconst 0, 1, 81), (81, .aload_n 0, 1, 82), (82, .getfield 24, 3, 85), (85, .iconst 0, 1, 86), (86, .bipush 36, 2, 88), (88, .invokestatic 60, 3, 91), (91, .return_, 1, 92)]
set_option maxRecDepth 100000 in
theorem dt_X9_become : DT cX9_become tdt_X9_become := by unfold DT; decide +kernel
theorem sk_47 : SK[47]? = some (9, [51, 52, 53, 54, 55, 0, 0]) := rfl
theorem ac_X9_60 : Cond.methodLink RX9 60 arraycopyName ∈ tbl ∧ Cond.native arraycopyName ∈ tbl ∧ Cond.static arraycopyName ∈ tbl ∧ Cond.initialized "java/lang/System" ∈ tbl := ⟨tbl_in 606 (by decide +kernel) (by decide +kernel), tbl_in 608 (by decide +kernel) (by decide +kernel), tbl_in 607 (by decide +kernel) (by decide +kernel), tbl_in 127 (by decide +kernel) (by decide +kernel)⟩
theorem sk_48 : SK[48]? = some (100, [9]) := rfl
theorem sk_49 : SK[49]? = some (100, [9]) := rfl
theorem sk_50 : SK[50]? = some (100, [9]) := rfl
theorem sk_51 : SK[51]? = some (100, [36]) := rfl
theorem sk_52 : SK[52]? = some (100, [36]) := rfl
theorem cn_X9_become : CFn M_X9_become 1 := ⟨tbl_in 605 (by decide +kernel) (by decide +kernel), tbl_in 111 (by decide +kernel) (by decide +kernel), by decide, by decide +kernel, by decide +kernel, by decide +kernel⟩
theorem cf_X6_38 : CFV RX6 38 M_X9_become 1 := ⟨cn_X9_become, Or.inr ⟨"TiedThrees", nst_in 908 (by decide +kernel) (by decide +kernel)⟩, tbl_in 604 (by decide +kernel) (by decide +kernel), tbl_in 21 (by decide +kernel) (by decide +kernel)⟩
theorem ff_X6_9 : FF RX6 9 6 1 := ⟨RX6, TX6, 8, tyX6, rfl, by decide, lay_6, rfl, Or.inl (tbl_in 249 (by decide +kernel) (by decide +kernel)), tyX6_ok, nmX6⟩
theorem ac_X6_44 : Cond.methodLink RX6 44 arraycopyName ∈ tbl ∧ Cond.native arraycopyName ∈ tbl ∧ Cond.static arraycopyName ∈ tbl ∧ Cond.initialized "java/lang/System" ∈ tbl := ⟨tbl_in 909 (by decide +kernel) (by decide +kernel), tbl_in 608 (by decide +kernel) (by decide +kernel), tbl_in 607 (by decide +kernel) (by decide +kernel), tbl_in 127 (by decide +kernel) (by decide +kernel)⟩
theorem sk_54 : SK[54]? = some (100, [8]) := rfl
theorem kb_18 : (Int8.ofInt 18).toInt32 = (18 : Int32) := by decide +kernel
theorem sk_55 : SK[55]? = some (100, [18]) := rfl
theorem sk_56 : SK[56]? = some (100, [5]) := rfl
theorem sk_57 : SK[57]? = some (100, [5]) := rfl
theorem sk_58 : SK[58]? = some (100, [5]) := rfl
theorem cn_X6_become : CFn M_X6_become 1 := ⟨tbl_in 907 (by decide +kernel) (by decide +kernel), tbl_in 113 (by decide +kernel) (by decide +kernel), by decide, by decide +kernel, by decide +kernel, by decide +kernel⟩
theorem cf_X11_229 : CFV RX11 229 M_X6_become 1 := ⟨cn_X6_become, Or.inr ⟨"TiedThrees", nst_in 904 (by decide +kernel) (by decide +kernel)⟩, tbl_in 906 (by decide +kernel) (by decide +kernel), tbl_in 57 (by decide +kernel) (by decide +kernel)⟩
theorem ff_X11_15 : FF RX11 15 11 2 := ⟨RX11, TX11, 15, tyX11, rfl, by decide, lay_11, rfl, Or.inl (tbl_in 381 (by decide +kernel) (by decide +kernel)), tyX11_ok, nmX11⟩
theorem sk_2 : SK[2]? = some (101, [2]) := rfl
theorem sk_65 : SK[65]? = some (6, [62, 69, 70, 71, 72, 73, 0, 0]) := rfl
theorem sk_59 : SK[59]? = some (9, [63, 64, 65, 66, 67, 0, 0]) := rfl
theorem sk_60 : SK[60]? = some (100, [9]) := rfl
theorem sk_61 : SK[61]? = some (100, [9]) := rfl
theorem sk_62 : SK[62]? = some (100, [9]) := rfl
theorem sk_63 : SK[63]? = some (100, [36]) := rfl
theorem sk_64 : SK[64]? = some (100, [36]) := rfl
theorem sk_66 : SK[66]? = some (100, [8]) := rfl
theorem sk_67 : SK[67]? = some (100, [18]) := rfl
theorem sk_68 : SK[68]? = some (100, [5]) := rfl
theorem sk_69 : SK[69]? = some (100, [5]) := rfl
theorem sk_70 : SK[70]? = some (100, [5]) := rfl
abbrev M_X11_from : MI := (yX11_from, cX11_from, 2, (some .int))
def tdt_X11_from : List (Nat × Instr × Nat × Nat) := [(0, .iload_n 1, 1, 1), (1, .invokestatic 226, 3, 4), (4, .ifCond .ne 10, 3, 7), (7, .aload_n 0, 1, 8), (8, .bipush (-2), 2, 10), (10, .invokevirtual 68, 3, 13), (13, .ireturn, 1, 14), (14, .aload_n 0, 1, 15), (15, .getfield 15, 3, 18), (18, .iload_n 1, 1, 19), (19, .baload, 1, 20), (20, .ifCond .ne 10, 3, 23), (23, .aload_n 0, 1, 24), (24, .bipush (-3), 2, 26), (26, .invokevirtual 118, 3, 29), (29, .ireturn, 1, 30), (30, .aload_n 0, 1, 31), (31, .getfield 50, 3, 34), (34, .aload_n 0, 1, 35), (35, .getfield 11, 3, 38), (38, .iload_n 1, 1, 39), (39, .aaload, 1, 40), (40, .invokevirtual 229, 3, 43), (43, .iconst 1, 1, 44), (44, .ireturn, 1, 45)]
set_option maxRecDepth 100000 in
theorem dt_X11_from : DT cX11_from tdt_X11_from := by unfold DT; decide +kernel
abbrev M_X11_status : MI := (yX11_status, cX11_status, 2, (some .int))
def tdt_X11_status : List (Nat × Instr × Nat × Nat) := [(0, .iload_n 1, 1, 1), (1, .tableswitch 42 0 2 #[27, 32, 37], 27, 28), (28, .aload_n 0, 1, 29), (29, .getfield 232, 3, 32), (32, .ireturn, 1, 33), (33, .aload_n 0, 1, 34), (34, .getfield 235, 3, 37), (37, .ireturn, 1, 38), (38, .aload_n 0, 1, 39), (39, .getfield 238, 3, 42), (42, .ireturn, 1, 43), (43, .aload_n 0, 1, 44), (44, .iconst (-1), 1, 45), (45, .invokevirtual 68, 3, 48), (48, .ireturn, 1, 49)]
set_option maxRecDepth 100000 in
theorem dt_X11_status : DT cX11_status tdt_X11_status := by unfold DT; decide +kernel
abbrev M_X11_count : MI := (yX11_count, cX11_count, 2, (some .int))
def tdt_X11_count : List (Nat × Instr × Nat × Nat) := [(0, .iload_n 1, 1, 1), (1, .ifCond .lt 8, 3, 4), (4, .iload_n 1, 1, 5), (5, .iconst 5, 1, 6), (6, .if_icmp .le 12, 3, 9), (9, .aload_n 0, 1, 10), (10, .bipush (-2), 2, 12), (12, .invokevirtual 68, 3, 15), (15, .goto 8, 3, 18), (18, .aload_n 0, 1, 19), (19, .iload_n 1, 1, 20), (20, .invokevirtual 241, 3, 23), (23, .ireturn, 1, 24)]
set_option maxRecDepth 100000 in
theorem dt_X11_count : DT cX11_count tdt_X11_count := by unfold DT; decide +kernel
abbrev M_X11_howMany : MI := (yX11_howMany, cX11_howMany, 2, (some .int))
def tdt_X11_howMany : List (Nat × Instr × Nat × Nat) := [(0, .iload_n 1, 1, 1), (1, .tableswitch 84 0 4 #[35, 46, 57, 68, 76], 35, 36), (36, .aload_n 0, 1, 37), (37, .getfield 50, 3, 40), (40, .getfield 72, 3, 43), (43, .getfield 76, 3, 46), (46, .ireturn, 1, 47), (47, .aload_n 0, 1, 48), (48, .getfield 50, 3, 51), (51, .getfield 72, 3, 54), (54, .getfield 90, 3, 57), (57, .ireturn, 1, 58), (58, .aload_n 0, 1, 59), (59, .getfield 50, 3, 62), (62, .getfield 72, 3, 65), (65, .invokevirtual 288, 3, 68), (68, .ireturn, 1, 69), (69, .aload_n 0, 1, 70), (70, .getfield 50, 3, 73), (73, .getfield 190, 3, 76), (76, .ireturn, 1, 77), (77, .aload_n 0, 1, 78), (78, .getfield 50, 3, 81), (81, .getfield 211, 3, 84), (84, .ireturn, 1, 85), (85, .aload_n 0, 1, 86), (86, .getfield 121, 3, 89), (89, .ireturn, 1, 90)]
set_option maxRecDepth 100000 in
theorem dt_X11_howMany : DT cX11_howMany tdt_X11_howMany := by unfold DT; decide +kernel
abbrev M_X9_errandsOfAll : MI := (yX9_errandsOfAll, cX9_errandsOfAll, 3, (some .int))
def tdt_X9_errandsOfAll : List (Nat × Instr × Nat × Nat) := [(0, .iconst 0, 1, 1), (1, .istore_n 1, 1, 2), (2, .iconst 0, 1, 3), (3, .istore_n 2, 1, 4), (4, .iload_n 2, 1, 5), (5, .aload_n 0, 1, 6), (6, .getfield 31, 3, 9), (9, .if_icmp .ge 18, 3, 12), (12, .iload_n 1, 1, 13), (13, .aload_n 0, 1, 14), (14, .getfield 18, 3, 17), (17, .iload_n 2, 1, 18), (18, .iaload, 1, 19), (19, .iadd, 1, 20), (20, .istore_n 1, 1, 21), (21, .iinc 2 1, 3, 24), (24, .goto (-20), 3, 27), (27, .iload_n 1, 1, 28), (28, .ireturn, 1, 29)]
set_option maxRecDepth 100000 in
theorem dt_X9_errandsOfAll : DT cX9_errandsOfAll tdt_X9_errandsOfAll := by unfold DT; decide +kernel
theorem cn_X9_errandsOfAll : CFn M_X9_errandsOfAll 0 := ⟨tbl_in 572 (by decide +kernel) (by decide +kernel), tbl_in 111 (by decide +kernel) (by decide +kernel), by decide, by decide +kernel, by decide +kernel, by decide +kernel⟩
theorem cf_X11_288 : CFV RX11 288 M_X9_errandsOfAll 0 := ⟨cn_X9_errandsOfAll, Or.inr ⟨"TiedThrees", nst_in 926 (by decide +kernel) (by decide +kernel)⟩, tbl_in 571 (by decide +kernel) (by decide +kernel), tbl_in 14 (by decide +kernel) (by decide +kernel)⟩
theorem cn_X11_howMany : CFn M_X11_howMany 1 := ⟨tbl_in 925 (by decide +kernel) (by decide +kernel), tbl_in 109 (by decide +kernel) (by decide +kernel), by decide, by decide +kernel, by decide +kernel, by decide +kernel⟩
theorem cf_X11_241 : CFV RX11 241 M_X11_howMany 1 := ⟨cn_X11_howMany, Or.inl (tbl_in 922 (by decide +kernel) (by decide +kernel)), tbl_in 924 (by decide +kernel) (by decide +kernel), tbl_in 58 (by decide +kernel) (by decide +kernel)⟩
abbrev M_X11_digest : MI := (yX11_digest, cX11_digest, 4, (some .long))
def tdt_X11_digest : List (Nat × Instr × Nat × Nat) := [(0, .ldc2_w 244, 3, 3), (3, .lstore_n 1, 1, 4), (4, .iconst 0, 1, 5), (5, .istore_n 3, 1, 6), (6, .iload_n 3, 1, 7), (7, .iconst 5, 1, 8), (8, .if_icmp .gt 22, 3, 11), (11, .ldc2_w 246, 3, 14), (14, .lload_n 1, 1, 15), (15, .lmul, 1, 16), (16, .aload_n 0, 1, 17), (17, .iload_n 3, 1, 18), (18, .invokevirtual 241, 3, 21), (21, .i2l, 1, 22), (22, .ladd, 1, 23), (23, .lstore_n 1, 1, 24), (24, .iinc 3 1, 3, 27), (27, .goto (-21), 3, 30), (30, .aload_n 0, 1, 31), (31, .getfield 50, 3, 34), (34, .lload_n 1, 1, 35), (35, .invokevirtual 248, 3, 38), (38, .lstore_n 1, 1, 39), (39, .ldc2_w 246, 3, 42), (42, .lload_n 1, 1, 43), (43, .lmul, 1, 44), (44, .aload_n 0, 1, 45), (45, .getfield 223, 3, 48), (48, .i2l, 1, 49), (49, .ladd, 1, 50), (50, .lstore_n 1, 1, 51), (51, .ldc2_w 246, 3, 54), (54, .lload_n 1, 1, 55), (55, .lmul, 1, 56), (56, .aload_n 0, 1, 57), (57, .getfield 40, 3, 60), (60, .i2l, 1, 61), (61, .ladd, 1, 62), (62, .lreturn, 1, 63)]
set_option maxRecDepth 100000 in
theorem dt_X11_digest : DT cX11_digest tdt_X11_digest := by unfold DT; decide +kernel
theorem cl_X11_244 : Cond.constantLong RX11 244 769 ∈ tbl := tbl_in 931 (by decide +kernel) (by decide +kernel)
theorem cl_X11_246 : Cond.constantLong RX11 246 31 ∈ tbl := tbl_in 932 (by decide +kernel) (by decide +kernel)
abbrev M_X6_digested : MI := (yX6_digested, cX6_digested, 6, (some .long))
def tdt_X6_digested : List (Nat × Instr × Nat × Nat) := [(0, .aload_n 0, 1, 1), (1, .getfield 27, 3, 4), (4, .lload_n 1, 1, 5), (5, .invokevirtual 50, 3, 8), (8, .lstore_n 3, 1, 9), (9, .iconst 1, 1, 10), (10, .istore 5, 2, 12), (12, .iload 5, 2, 14), (14, .bipush 7, 2, 16), (16, .if_icmp .gt 24, 3, 19), (19, .ldc2_w 54, 3, 22), (22, .lload_n 3, 1, 23), (23, .lmul, 1, 24), (24, .aload_n 0, 1, 25), (25, .getfield 9, 3, 28), (28, .iload 5, 2, 30), (30, .iaload, 1, 31), (31, .i2l, 1, 32), (32, .ladd, 1, 33), (33, .lstore_n 3, 1, 34), (34, .iinc 5 1, 3, 37), (37, .goto (-25), 3, 40), (40, .iconst 0, 1, 41), (41, .istore 5, 2, 43), (43, .iload 5, 2, 45), (45, .aload_n 0, 1, 46), (46, .getfield 31, 3, 49), (49, .iconst 3, 1, 50), (50, .imul, 1, 51), (51, .if_icmp .ge 24, 3, 54), (54, .ldc2_w 54, 3, 57), (57, .lload_n 3, 1, 58), (58, .lmul, 1, 59), (59, .aload_n 0, 1, 60), (60, .getfield 15, 3, 63), (63, .iload 5, 2, 65), (65, .iaload, 1, 66), (66, .i2l, 1, 67), (67, .ladd, 1, 68), (68, .lstore_n 3, 1, 69), (69, .iinc 5 1, 3, 72), (72, .goto (-29), 3, 75), (75, .iconst 0, 1, 76), (76, .istore 5, 2, 78), (78, .iload 5, 2, 80), (80, .aload_n 0, 1, 81), (81, .getfield 35, 3, 84), (84, .if_icmp .ge 54, 3, 87), (87, .ldc2_w 54, 3, 90), (90, .lload_n 3, 1, 91), (91, .lmul, 1, 92), (92, .aload_n 0, 1, 93), (93, .getfield 18, 3, 96), (96, .iload 5, 2, 98), (98, .iaload, 1, 99), (99, .i2l, 1, 100), (100, .ladd, 1, 101), (101, .lstore_n 3, 1, 102), (102, .ldc2_w 54, 3, 105), (105, .lload_n 3, 1, 106), (106, .lmul, 1, 107), (107, .aload_n 0, 1, 108), (108, .getfield 21, 3, 111), (111, .iload 5, 2, 113), (113, .iaload, 1, 114), (114, .i2l, 1, 115), (115, .ladd, 1, 116), (116, .lstore_n 3, 1, 117), (117, .ldc2_w 54, 3, 120), (120, .lload_n 3, 1, 121), (121, .lmul, 1, 122), (122, .aload_n 0, 1, 123), (123, .getfield 24, 3, 126), (126, .iload 5, 2, 128), (128, .iaload, 1, 129), (129, .i2l, 1, 130), (130, .ladd, 1, 131), (131, .lstore_n 3, 1, 132), (132, .iinc 5 1, 3, 135), (135, .goto (-57), 3, 138), (138, .lload_n 3, 1, 139), (139, .lreturn, 1, 140)]
set_option maxRecDepth 100000 in
theorem dt_X6_digested : DT cX6_digested tdt_X6_digested := by unfold DT; decide +kernel
abbrev M_X9_digested : MI := (yX9_digested, cX9_digested, 7, (some .long))
def tdt_X9_digested : List (Nat × Instr × Nat × Nat) := [(0, .lload_n 1, 1, 1), (1, .lstore_n 3, 1, 2), (2, .iconst 0, 1, 3), (3, .istore 5, 2, 5), (5, .iload 5, 2, 7), (7, .aload_n 0, 1, 8), (8, .getfield 31, 3, 11), (11, .if_icmp .ge 115, 3, 14), (14, .ldc2_w 66, 3, 17), (17, .lload_n 3, 1, 18), (18, .lmul, 1, 19), (19, .aload_n 0, 1, 20), (20, .getfield 9, 3, 23), (23, .iload 5, 2, 25), (25, .iaload, 1, 26), (26, .i2l, 1, 27), (27, .ladd, 1, 28), (28, .lstore_n 3, 1, 29), (29, .ldc2_w 66, 3, 32), (32, .lload_n 3, 1, 33), (33, .lmul, 1, 34), (34, .aload_n 0, 1, 35), (35, .getfield 15, 3, 38), (38, .iload 5, 2, 40), (40, .iaload, 1, 41), (41, .i2l, 1, 42), (42, .ladd, 1, 43), (43, .lstore_n 3, 1, 44), (44, .ldc2_w 66, 3, 47), (47, .lload_n 3, 1, 48), (48, .lmul, 1, 49), (49, .aload_n 0, 1, 50), (50, .getfield 18, 3, 53), (53, .iload 5, 2, 55), (55, .iaload, 1, 56), (56, .i2l, 1, 57), (57, .ladd, 1, 58), (58, .lstore_n 3, 1, 59), (59, .iconst 0, 1, 60), (60, .istore 6, 2, 62), (62, .iload 6, 2, 64), (64, .aload_n 0, 1, 65), (65, .getfield 18, 3, 68), (68, .iload 5, 2, 70), (70, .iaload, 1, 71), (71, .if_icmp .ge 49, 3, 74), (74, .ldc2_w 66, 3, 77), (77, .lload_n 3, 1, 78), (78, .lmul, 1, 79), (79, .aload_n 0, 1, 80), (80, .getfield 21, 3, 83), (83, .iload 5, 2, 85), (85, .iconst 4, 1, 86), (86, .imul, 1, 87), (87, .iload 6, 2, 89), (89, .iadd, 1, 90), (90, .iaload, 1, 91), (91, .i2l, 1, 92), (92, .ladd, 1, 93), (93, .lstore_n 3, 1, 94), (94, .ldc2_w 66, 3, 97), (97, .lload_n 3, 1, 98), (98, .lmul, 1, 99), (99, .aload_n 0, 1, 100), (100, .getfield 24, 3, 103), (103, .iload 5, 2, 105), (105, .iconst 4, 1, 106), (106, .imul, 1, 107), (107, .iload 6, 2, 109), (109, .iadd, 1, 110), (110, .iaload, 1, 111), (111, .i2l, 1, 112), (112, .ladd, 1, 113), (113, .lstore_n 3, 1, 114), (114, .iinc 6 1, 3, 117), (117, .goto (-55), 3, 120), (120, .iinc 5 1, 3, 123), (123, .goto (-118), 3, 126), (126, .lload_n 3, 1, 127), (127, .lreturn, 1, 128)]
set_option maxRecDepth 100000 in
theorem dt_X9_digested : DT cX9_digested tdt_X9_digested := by unfold DT; decide +kernel
theorem cl_X9_66 : Cond.constantLong RX9 66 31 ∈ tbl := tbl_in 941 (by decide +kernel) (by decide +kernel)
theorem cn_X9_digested : CFn M_X9_digested 1 := ⟨tbl_in 940 (by decide +kernel) (by decide +kernel), tbl_in 111 (by decide +kernel) (by decide +kernel), by decide, by decide +kernel, by decide +kernel, by decide +kernel⟩
theorem cf_X6_50 : CFV RX6 50 M_X9_digested 1 := ⟨cn_X9_digested, Or.inr ⟨"TiedThrees", nst_in 937 (by decide +kernel) (by decide +kernel)⟩, tbl_in 939 (by decide +kernel) (by decide +kernel), tbl_in 60 (by decide +kernel) (by decide +kernel)⟩
theorem cl_X6_54 : Cond.constantLong RX6 54 31 ∈ tbl := tbl_in 942 (by decide +kernel) (by decide +kernel)
theorem cn_X6_digested : CFn M_X6_digested 1 := ⟨tbl_in 936 (by decide +kernel) (by decide +kernel), tbl_in 113 (by decide +kernel) (by decide +kernel), by decide, by decide +kernel, by decide +kernel, by decide +kernel⟩
theorem cf_X11_248 : CFV RX11 248 M_X6_digested 1 := ⟨cn_X6_digested, Or.inr ⟨"TiedThrees", nst_in 933 (by decide +kernel) (by decide +kernel)⟩, tbl_in 935 (by decide +kernel) (by decide +kernel), tbl_in 59 (by decide +kernel) (by decide +kernel)⟩
abbrev M_X11_read : MI := (yX11_read, cX11_read, 2, (some .int))
def tdt_X11_read : List (Nat × Instr × Nat × Nat) := [(0, .aload_n 0, 1, 1), (1, .getfield 26, 3, 4), (4, .aload_n 0, 1, 5), (5, .getfield 19, 3, 8), (8, .aload_n 0, 1, 9), (9, .getfield 121, 3, 12), (12, .invokevirtual 124, 3, 15), (15, .istore_n 1, 1, 16), (16, .iload_n 1, 1, 17), (17, .ifCond .lt 27, 3, 20), (20, .aload_n 0, 1, 21), (21, .getfield 50, 3, 24), (24, .getfield 72, 3, 27), (27, .aload_n 0, 1, 28), (28, .getfield 26, 3, 31), (31, .getfield 128, 3, 34), (34, .invokevirtual 129, 3, 37), (37, .aload_n 0, 1, 38), (38, .getfield 50, 3, 41), (41, .invokevirtual 83, 3, 44), (44, .iload_n 1, 1, 45), (45, .ireturn, 1, 46)]
set_option maxRecDepth 100000 in
theorem dt_X11_read : DT cX11_read tdt_X11_read := by unfold DT; decide +kernel
theorem ff_X11_26 : FF RX11 26 11 4 := ⟨RX11, TX11, 15, tyX11, rfl, by decide, lay_11, rfl, Or.inl (tbl_in 383 (by decide +kernel) (by decide +kernel)), tyX11_ok, nmX11⟩
abbrev M_X10_readTown : MI := (yX10_readTown, cX10_readTown, 4, (some .int))
def tdt_X10_readTown : List (Nat × Instr × Nat × Nat) := [(0, .aload_n 0, 1, 1), (1, .aload_n 1, 1, 2), (2, .putfield 18, 3, 5), (5, .aload_n 0, 1, 6), (6, .iload_n 2, 1, 7), (7, .aload_n 1, 1, 8), (8, .arraylength, 1, 9), (9, .invokestatic 22, 3, 12), (12, .putfield 28, 3, 15), (15, .aload_n 0, 1, 16), (16, .iconst 0, 1, 17), (17, .putfield 32, 3, 20), (20, .aload_n 0, 1, 21), (21, .iconst (-1), 1, 22), (22, .putfield 35, 3, 25), (25, .aload_n 0, 1, 26), (26, .getfield 12, 3, 29), (29, .iconst 4, 1, 30), (30, .invokevirtual 38, 3, 33), (33, .iconst 0, 1, 34), (34, .istore_n 3, 1, 35), (35, .aload_n 0, 1, 36), (36, .invokevirtual 42, 3, 39), (39, .aload_n 0, 1, 40), (40, .getfield 32, 3, 43), (43, .aload_n 0, 1, 44), (44, .getfield 28, 3, 47), (47, .if_icmp .ge 32, 3, 50), (50, .aload_n 0, 1, 51), (51, .getfield 35, 3, 54), (54, .iconst (-1), 1, 55), (55, .if_icmp .ne 24, 3, 58), (58, .iload_n 3, 1, 59), (59, .sipush 250, 3, 62), (62, .if_icmp .ge 17, 3, 65), (65, .aload_n 0, 1, 66), (66, .invokevirtual 45, 3, 69), (69, .aload_n 0, 1, 70), (70, .invokevirtual 42, 3, 73), (73, .iinc 3 1, 3, 76), (76, .goto (-37), 3, 79), (79, .aload_n 0, 1, 80), (80, .getfield 35, 3, 83), (83, .iconst (-1), 1, 84), (84, .if_icmp .ne 7, 3, 87), (87, .iload_n 3, 1, 88), (88, .goto 10, 3, 91), (91, .bipush (-10), 2, 93), (93, .aload_n 0, 1, 94), (94, .getfield 35, 3, 97), (97, .isub, 1, 98), (98, .ireturn, 1, 99)]
set_option maxRecDepth 100000 in
theorem dt_X10_readTown : DT cX10_readTown tdt_X10_readTown := by unfold DT; decide +kernel
theorem lay_10 : ∀ w ∈ u_ws RX10 TX10 5, w ∈ tbl := by
  intro w hw
  refine List.mem_filter.mpr ⟨?_, ?_⟩
  · revert w; decide +kernel
  · revert w; decide +kernel
theorem ff_X10_18 : FF RX10 18 10 1 := ⟨RX10, TX10, 5, tyX10, rfl, by decide, lay_10, rfl, Or.inl (tbl_in 194 (by decide +kernel) (by decide +kernel)), tyX10_ok, nmX10⟩
theorem sk_4 : SK[4]? = some (10, [9, 2, 0, 0, 0]) := rfl
theorem fw_10_1 : FW 10 1 (.array .int) := ⟨_, rfl, by decide +kernel, by decide +kernel⟩
theorem kn_250 : Int32.ofNat 250 = (250 : Int32) := by decide +kernel
abbrev M_J9_min : MI := (yJ9_min_7cf53, cJ9_min_7cf53, 2, (some .int))
def tdt_J9_min : List (Nat × Instr × Nat × Nat) := [(0, .iload_n 0, 1, 1), (1, .iload_n 1, 1, 2), (2, .if_icmp .gt 7, 3, 5), (5, .iload_n 0, 1, 6), (6, .goto 4, 3, 9), (9, .iload_n 1, 1, 10), (10, .ireturn, 1, 11)]
set_option maxRecDepth 100000 in
theorem dt_J9_min : DT cJ9_min_7cf53 tdt_J9_min := by unfold DT; decide +kernel
theorem cn_J9_min : CFn M_J9_min 2 := ⟨tbl_in 502 (by decide +kernel) (by decide +kernel), tbl_in 122 (by decide +kernel) (by decide +kernel), by decide, by decide +kernel, by decide +kernel, by decide +kernel⟩
theorem cf_X10_22 : CFS RX10 22 M_J9_min 2 := ⟨cn_J9_min, Or.inl (tbl_in 500 (by decide +kernel) (by decide +kernel)), tbl_in 501 (by decide +kernel) (by decide +kernel)⟩
theorem ff_X10_28 : FF RX10 28 10 2 := ⟨RX10, TX10, 5, tyX10, rfl, by decide, lay_10, rfl, Or.inl (tbl_in 195 (by decide +kernel) (by decide +kernel)), tyX10_ok, nmX10⟩
theorem fw_10_2 : FW 10 2 .int := ⟨_, rfl, by decide +kernel, by decide +kernel⟩
theorem ff_X10_32 : FF RX10 32 10 3 := ⟨RX10, TX10, 5, tyX10, rfl, by decide, lay_10, rfl, Or.inl (tbl_in 196 (by decide +kernel) (by decide +kernel)), tyX10_ok, nmX10⟩
theorem fw_10_3 : FW 10 3 .int := ⟨_, rfl, by decide +kernel, by decide +kernel⟩
theorem ff_X10_35 : FF RX10 35 10 4 := ⟨RX10, TX10, 5, tyX10, rfl, by decide, lay_10, rfl, Or.inl (tbl_in 197 (by decide +kernel) (by decide +kernel)), tyX10_ok, nmX10⟩
theorem fw_10_4 : FW 10 4 .int := ⟨_, rfl, by decide +kernel, by decide +kernel⟩
theorem ff_X10_12 : FF RX10 12 10 0 := ⟨RX10, TX10, 5, tyX10, rfl, by decide, lay_10, rfl, Or.inl (tbl_in 192 (by decide +kernel) (by decide +kernel)), tyX10_ok, nmX10⟩
theorem sk_6 : SK[6]? = some (9, [10, 11, 12, 13, 14, 0, 0]) := rfl
theorem cf_X10_38 : CFV RX10 38 M_X9_startOver 1 := ⟨cn_X9_startOver, Or.inr ⟨"TiedThrees", nst_in 503 (by decide +kernel) (by decide +kernel)⟩, tbl_in 435 (by decide +kernel) (by decide +kernel), tbl_in 1 (by decide +kernel) (by decide +kernel)⟩
abbrev M_X10_skipBlanks : MI := (yX10_skipBlanks, cX10_skipBlanks, 1, none)
def tdt_X10_skipBlanks : List (Nat × Instr × Nat × Nat) := [(0, .aload_n 0, 1, 1), (1, .getfield 32, 3, 4), (4, .aload_n 0, 1, 5), (5, .getfield 28, 3, 8), (8, .if_icmp .ge 30, 3, 11), (11, .aload_n 0, 1, 12), (12, .getfield 18, 3, 15), (15, .aload_n 0, 1, 16), (16, .getfield 32, 3, 19), (19, .iaload, 1, 20), (20, .bipush 32, 2, 22), (22, .if_icmp .ne 16, 3, 25), (25, .aload_n 0, 1, 26), (26, .dup, 1, 27), (27, .getfield 32, 3, 30), (30, .iconst 1, 1, 31), (31, .iadd, 1, 32), (32, .putfield 32, 3, 35), (35, .goto (-35), 3, 38), (38, .return_, 1, 39)]
set_option maxRecDepth 100000 in
theorem dt_X10_skipBlanks : DT cX10_skipBlanks tdt_X10_skipBlanks := by unfold DT; decide +kernel
theorem kb_32 : (Int8.ofInt 32).toInt32 = (32 : Int32) := by decide +kernel
theorem cn_X10_skipBlanks : CFn M_X10_skipBlanks 0 := ⟨tbl_in 507 (by decide +kernel) (by decide +kernel), tbl_in 110 (by decide +kernel) (by decide +kernel), by decide, by decide +kernel, by decide +kernel, by decide +kernel⟩
theorem cf_X10_42 : CFV RX10 42 M_X10_skipBlanks 0 := ⟨cn_X10_skipBlanks, Or.inl (tbl_in 504 (by decide +kernel) (by decide +kernel)), tbl_in 506 (by decide +kernel) (by decide +kernel), tbl_in 10 (by decide +kernel) (by decide +kernel)⟩
abbrev M_X10_readItem : MI := (yX10_readItem, cX10_readItem, 2, none)
def tdt_X10_readItem : List (Nat × Instr × Nat × Nat) := [(0, .aload_n 0, 1, 1), (1, .getfield 32, 3, 4), (4, .istore_n 1, 1, 5), (5, .aload_n 0, 1, 6), (6, .invokevirtual 48, 3, 9), (9, .aload_n 0, 1, 10), (10, .iload_n 1, 1, 11), (11, .ldc 51, 2, 13), (13, .invokevirtual 53, 3, 16), (16, .ifCond .eq 20, 3, 19), (19, .aload_n 0, 1, 20), (20, .getfield 12, 3, 23), (23, .invokevirtual 57, 3, 26), (26, .ifCond .ne 10, 3, 29), (29, .aload_n 0, 1, 30), (30, .invokevirtual 61, 3, 33), (33, .goto 54, 3, 36), (36, .aload_n 0, 1, 37), (37, .iload_n 1, 1, 38), (38, .ldc 64, 2, 40), (40, .invokevirtual 53, 3, 43), (43, .ifCond .eq 22, 3, 46), (46, .aload_n 0, 1, 47), (47, .getfield 12, 3, 50), (50, .getfield 66, 3, 53), (53, .bipush 9, 2, 55), (55, .if_icmp .ge 10, 3, 58), (58, .aload_n 0, 1, 59), (59, .invokevirtual 69, 3, 62), (62, .goto 25, 3, 65), (65, .aload_n 0, 1, 66), (66, .iload_n 1, 1, 67), (67, .ldc 72, 2, 69), (69, .invokevirtual 53, 3, 72), (72, .ifCond .eq 10, 3, 75), (75, .aload_n 0, 1, 76), (76, .invokevirtual 74, 3, 79), (79, .goto 8, 3, 82), (82, .aload_n 0, 1, 83), (83, .iload_n 1, 1, 84), (84, .putfield 35, 3, 87), (87, .return_, 1, 88)]
set_option maxRecDepth 100000 in
theorem dt_X10_readItem : DT cX10_readItem tdt_X10_readItem := by unfold DT; decide +kernel
abbrev M_X10_skipWord : MI := (yX10_skipWord, cX10_skipWord, 1, none)
def tdt_X10_skipWord : List (Nat × Instr × Nat × Nat) := [(0, .aload_n 0, 1, 1), (1, .getfield 32, 3, 4), (4, .aload_n 0, 1, 5), (5, .getfield 28, 3, 8), (8, .if_icmp .ge 44, 3, 11), (11, .aload_n 0, 1, 12), (12, .getfield 18, 3, 15), (15, .aload_n 0, 1, 16), (16, .getfield 32, 3, 19), (19, .iaload, 1, 20), (20, .bipush 97, 2, 22), (22, .if_icmp .lt 30, 3, 25), (25, .aload_n 0, 1, 26), (26, .getfield 18, 3, 29), (29, .aload_n 0, 1, 30), (30, .getfield 32, 3, 33), (33, .iaload, 1, 34), (34, .bipush 122, 2, 36), (36, .if_icmp .gt 16, 3, 39), (39, .aload_n 0, 1, 40), (40, .dup, 1, 41), (41, .getfield 32, 3, 44), (44, .iconst 1, 1, 45), (45, .iadd, 1, 46), (46, .putfield 32, 3, 49), (49, .goto (-49), 3, 52), (52, .return_, 1, 53)]
set_option maxRecDepth 100000 in
theorem dt_X10_skipWord : DT cX10_skipWord tdt_X10_skipWord := by unfold DT; decide +kernel
theorem kb_97 : (Int8.ofInt 97).toInt32 = (97 : Int32) := by decide +kernel
theorem kb_122 : (Int8.ofInt 122).toInt32 = (122 : Int32) := by decide +kernel
theorem cn_X10_skipWord : CFn M_X10_skipWord 0 := ⟨tbl_in 515 (by decide +kernel) (by decide +kernel), tbl_in 110 (by decide +kernel) (by decide +kernel), by decide, by decide +kernel, by decide +kernel, by decide +kernel⟩
theorem cf_X10_48 : CFV RX10 48 M_X10_skipWord 0 := ⟨cn_X10_skipWord, Or.inl (tbl_in 512 (by decide +kernel) (by decide +kernel)), tbl_in 514 (by decide +kernel) (by decide +kernel), tbl_in 12 (by decide +kernel) (by decide +kernel)⟩
abbrev M_X10_isWord : MI := (yX10_isWord, cX10_isWord, 4, (some .boolean))
def tdt_X10_isWord : List (Nat × Instr × Nat × Nat) := [(0, .aload_n 0, 1, 1), (1, .getfield 32, 3, 4), (4, .iload_n 1, 1, 5), (5, .isub, 1, 6), (6, .aload_n 2, 1, 7), (7, .invokevirtual 99, 3, 10), (10, .if_icmp .eq 5, 3, 13), (13, .iconst 0, 1, 14), (14, .ireturn, 1, 15), (15, .iconst 0, 1, 16), (16, .istore_n 3, 1, 17), (17, .iload_n 3, 1, 18), (18, .aload_n 2, 1, 19), (19, .invokevirtual 99, 3, 22), (22, .if_icmp .ge 27, 3, 25), (25, .aload_n 0, 1, 26), (26, .getfield 18, 3, 29), (29, .iload_n 1, 1, 30), (30, .iload_n 3, 1, 31), (31, .iadd, 1, 32), (32, .iaload, 1, 33), (33, .aload_n 2, 1, 34), (34, .iload_n 3, 1, 35), (35, .invokevirtual 103, 3, 38), (38, .if_icmp .eq 5, 3, 41), (41, .iconst 0, 1, 42), (42, .ireturn, 1, 43), (43, .iinc 3 1, 3, 46), (46, .goto (-29), 3, 49), (49, .iconst 1, 1, 50), (50, .ireturn, 1, 51)]
set_option maxRecDepth 100000 in
theorem dt_X10_isWord : DT cX10_isWord tdt_X10_isWord := by unfold DT; decide +kernel
abbrev M_J0_length : MI := (yJ0_length_8abf5, cJ0_length_8abf5, 1, (some .int))
def tdt_J0_length : List (Nat × Instr × Nat × Nat) := [(0, .aload_n 0, 1, 1), (1, .getfield 9, 3, 4), (4, .arraylength, 1, 5), (5, .aload_n 0, 1, 6), (6, .invokevirtual 335, 3, 9), (9, .ishr, 1, 10), (10, .ireturn, 1, 11)]
set_option maxRecDepth 100000 in
theorem dt_J0_length : DT cJ0_length_8abf5 tdt_J0_length := by unfold DT; decide +kernel
theorem fs_J0_9 : Cond.fieldLink RJ0 9 "java/lang/String" "value" "[B" ∈ tbl := tbl_in 1401 (by decide +kernel) (by decide +kernel)
theorem kn_6 : Int32.ofNat 6 = (6 : Int32) := by decide +kernel
abbrev M_J0_coder : MI := (yJ0_coder_7d493, cJ0_coder_7d493, 1, (some .byte))
def tdt_J0_coder : List (Nat × Instr × Nat × Nat) := [(0, .getstatic 38, 3, 3), (3, .ifCond .eq 10, 3, 6), (6, .aload_n 0, 1, 7), (7, .getfield 15, 3, 10), (10, .goto 4, 3, 13), (13, .iconst 1, 1, 14), (14, .ireturn, 1, 15)]
set_option maxRecDepth 100000 in
theorem dt_J0_coder : DT cJ0_coder_7d493 tdt_J0_coder := by unfold DT; decide +kernel
theorem fs_J0_38 : Cond.fieldLink RJ0 38 "java/lang/String" "COMPACT_STRINGS" "Z" ∈ tbl := tbl_in 529 (by decide +kernel) (by decide +kernel)
theorem fs_J0_15 : Cond.fieldLink RJ0 15 "java/lang/String" "coder" "B" ∈ tbl := tbl_in 1402 (by decide +kernel) (by decide +kernel)
theorem cn_J0_coder : CFn M_J0_coder 0 := ⟨tbl_in 528 (by decide +kernel) (by decide +kernel), tbl_in 123 (by decide +kernel) (by decide +kernel), by decide, by decide +kernel, by decide +kernel, by decide +kernel⟩
theorem cf_J0_335 : CFV RJ0 335 M_J0_coder 0 := ⟨cn_J0_coder, Or.inl (tbl_in 525 (by decide +kernel) (by decide +kernel)), tbl_in 526 (by decide +kernel) (by decide +kernel), tbl_in 527 (by decide +kernel) (by decide +kernel)⟩
theorem cn_J0_length : CFn M_J0_length 0 := ⟨tbl_in 524 (by decide +kernel) (by decide +kernel), tbl_in 123 (by decide +kernel) (by decide +kernel), by decide, by decide +kernel, by decide +kernel, by decide +kernel⟩
theorem cf_X10_99 : CFV RX10 99 M_J0_length 0 := ⟨cn_J0_length, Or.inl (tbl_in 521 (by decide +kernel) (by decide +kernel)), tbl_in 522 (by decide +kernel) (by decide +kernel), tbl_in 523 (by decide +kernel) (by decide +kernel)⟩
abbrev M_J0_charAt : MI := (yJ0_charAt_5068e, cJ0_charAt_5068e, 2, (some .char))
def tdt_J0_charAt : List (Nat × Instr × Nat × Nat) := [(0, .aload_n 0, 1, 1), (1, .invokevirtual 492, 3, 4), (4, .ifCond .eq 12, 3, 7), (7, .aload_n 0, 1, 8), (8, .getfield 9, 3, 11), (11, .iload_n 1, 1, 12), (12, .invokestatic 495, 3, 15), (15, .ireturn, 1, 16), (16, .aload_n 0, 1, 17), (17, .getfield 9, 3, 20), (20, .iload_n 1, 1, 21), (21, .invokestatic 498, 3, 24), (24, .ireturn, 1, 25)]
set_option maxRecDepth 100000 in
theorem dt_J0_charAt : DT cJ0_charAt_5068e tdt_J0_charAt := by unfold DT; decide +kernel
abbrev M_J0_isLatin1 : MI := (yJ0_isLatin1_aae02, cJ0_isLatin1_aae02, 1, (some .boolean))
def tdt_J0_isLatin1 : List (Nat × Instr × Nat × Nat) := [(0, .getstatic 38, 3, 3), (3, .ifCond .eq 14, 3, 6), (6, .aload_n 0, 1, 7), (7, .getfield 15, 3, 10), (10, .ifCond .ne 7, 3, 13), (13, .iconst 1, 1, 14), (14, .goto 4, 3, 17), (17, .iconst 0, 1, 18), (18, .ireturn, 1, 19)]
set_option maxRecDepth 100000 in
theorem dt_J0_isLatin1 : DT cJ0_isLatin1_aae02 tdt_J0_isLatin1 := by unfold DT; decide +kernel
theorem cn_J0_isLatin1 : CFn M_J0_isLatin1 0 := ⟨tbl_in 538 (by decide +kernel) (by decide +kernel), tbl_in 123 (by decide +kernel) (by decide +kernel), by decide, by decide +kernel, by decide +kernel, by decide +kernel⟩
theorem cf_J0_492 : CFV RJ0 492 M_J0_isLatin1 0 := ⟨cn_J0_isLatin1, Or.inl (tbl_in 535 (by decide +kernel) (by decide +kernel)), tbl_in 536 (by decide +kernel) (by decide +kernel), tbl_in 537 (by decide +kernel) (by decide +kernel)⟩
abbrev M_J1_charAt : MI := (yJ1_charAt_3b067, cJ1_charAt_3b067, 2, (some .char))
def tdt_J1_charAt : List (Nat × Instr × Nat × Nat) := [(0, .iload_n 1, 1, 1), (1, .aload_n 0, 1, 2), (2, .arraylength, 1, 3), (3, .invokestatic 9, 3, 6), (6, .aload_n 0, 1, 7), (7, .iload_n 1, 1, 8), (8, .baload, 1, 9), (9, .sipush 255, 3, 12), (12, .iand, 1, 13), (13, .i2c, 1, 14), (14, .ireturn, 1, 15)]
set_option maxRecDepth 100000 in
theorem dt_J1_charAt : DT cJ1_charAt_3b067 tdt_J1_charAt := by unfold DT; decide +kernel
abbrev M_J0_checkIndex : MI := (yJ0_checkIndex_df160, cJ0_checkIndex_df160, 2, none)
theorem cn_J0_checkIndex : CFn M_J0_checkIndex 2 := ⟨tbl_in 544 (by decide +kernel) (by decide +kernel), tbl_in 123 (by decide +kernel) (by decide +kernel), by decide, by decide +kernel, by decide +kernel, by decide +kernel⟩
theorem cf_J1_9 : CFS RJ1 9 M_J0_checkIndex 2 := ⟨cn_J0_checkIndex, Or.inl (tbl_in 542 (by decide +kernel) (by decide +kernel)), tbl_in 543 (by decide +kernel) (by decide +kernel)⟩
abbrev M_J3_checkIndex : MI := (yJ3_checkIndex_8e157, cJ3_checkIndex_8e157, 3, (some .int))
theorem cn_J3_checkIndex : CFn M_J3_checkIndex 3 := ⟨tbl_in 549 (by decide +kernel) (by decide +kernel), tbl_in 125 (by decide +kernel) (by decide +kernel), by decide, by decide +kernel, by decide +kernel, by decide +kernel⟩
theorem cf_J0_1059 : CFS RJ0 1059 M_J3_checkIndex 3 := ⟨cn_J3_checkIndex, Or.inl (tbl_in 547 (by decide +kernel) (by decide +kernel)), tbl_in 548 (by decide +kernel) (by decide +kernel)⟩
def tdt_J0_checkIndex : List (Nat × Instr × Nat × Nat) := [(0, .iload_n 0, 1, 1), (1, .iload_n 1, 1, 2), (2, .getstatic 1053, 3, 5), (5, .invokestatic 1059, 3, 8), (8, .pop, 1, 9), (9, .return_, 1, 10)]
set_option maxRecDepth 100000 in
theorem dt_J0_checkIndex : DT cJ0_checkIndex_df160 tdt_J0_checkIndex := by unfold DT; decide +kernel
def tdt_J3_checkIndex : List (Nat × Instr × Nat × Nat) := [(0, .iload_n 0, 1, 1), (1, .ifCond .lt 8, 3, 4), (4, .iload_n 0, 1, 5), (5, .iload_n 1, 1, 6), (6, .if_icmp .lt 10, 3, 9), (9, .aload_n 2, 1, 10), (10, .iload_n 0, 1, 11), (11, .iload_n 1, 1, 12), (12, .invokestatic 95, 3, 15), (15, .athrow, 1, 16), (16, .iload_n 0, 1, 17), (17, .ireturn, 1, 18)]
set_option maxRecDepth 100000 in
theorem dt_J3_checkIndex : DT cJ3_checkIndex_8e157 tdt_J3_checkIndex := by unfold DT; decide +kernel
theorem fs_J0_1053 : Cond.fieldLink RJ0 1053 "jdk/internal/util/Preconditions" "SIOOBE_FORMATTER" "Ljava/util/function/BiFunction;" ∈ tbl := tbl_in 545 (by decide +kernel) (by decide +kernel)
theorem cn_J1_charAt : CFn M_J1_charAt 2 := ⟨tbl_in 541 (by decide +kernel) (by decide +kernel), tbl_in 124 (by decide +kernel) (by decide +kernel), by decide, by decide +kernel, by decide +kernel, by decide +kernel⟩
theorem cf_J0_495 : CFS RJ0 495 M_J1_charAt 2 := ⟨cn_J1_charAt, Or.inl (tbl_in 539 (by decide +kernel) (by decide +kernel)), tbl_in 540 (by decide +kernel) (by decide +kernel)⟩
theorem cn_J0_charAt : CFn M_J0_charAt 1 := ⟨tbl_in 534 (by decide +kernel) (by decide +kernel), tbl_in 123 (by decide +kernel) (by decide +kernel), by decide, by decide +kernel, by decide +kernel, by decide +kernel⟩
theorem cf_X10_103 : CFV RX10 103 M_J0_charAt 1 := ⟨cn_J0_charAt, Or.inl (tbl_in 531 (by decide +kernel) (by decide +kernel)), tbl_in 532 (by decide +kernel) (by decide +kernel), tbl_in 533 (by decide +kernel) (by decide +kernel)⟩
theorem cn_X10_isWord : CFn M_X10_isWord 2 := ⟨tbl_in 520 (by decide +kernel) (by decide +kernel), tbl_in 110 (by decide +kernel) (by decide +kernel), by decide, by decide +kernel, by decide +kernel, by decide +kernel⟩
theorem cf_X10_53 : CFV RX10 53 M_X10_isWord 2 := ⟨cn_X10_isWord, Or.inl (tbl_in 517 (by decide +kernel) (by decide +kernel)), tbl_in 519 (by decide +kernel) (by decide +kernel), tbl_in 13 (by decide +kernel) (by decide +kernel)⟩
abbrev M_X10_readErrand : MI := (yX10_readErrand, cX10_readErrand, 4, none)
def tdt_X10_readErrand : List (Nat × Instr × Nat × Nat) := [(0, .aload_n 0, 1, 1), (1, .iconst 0, 1, 2), (2, .aload_n 0, 1, 3), (3, .getfield 12, 3, 6), (6, .getfield 66, 3, 9), (9, .iconst 1, 1, 10), (10, .isub, 1, 11), (11, .invokevirtual 77, 3, 14), (14, .istore_n 1, 1, 15), (15, .aload_n 0, 1, 16), (16, .getfield 12, 3, 19), (19, .iload_n 1, 1, 20), (20, .invokevirtual 88, 3, 23), (23, .ifCond .eq 26, 3, 26), (26, .aload_n 0, 1, 27), (27, .getfield 12, 3, 30), (30, .getfield 92, 3, 33), (33, .iload_n 1, 1, 34), (34, .iaload, 1, 35), (35, .iconst 4, 1, 36), (36, .if_icmp .lt 13, 3, 39), (39, .aload_n 0, 1, 40), (40, .aload_n 0, 1, 41), (41, .getfield 32, 3, 44), (44, .iconst 1, 1, 45), (45, .isub, 1, 46), (46, .putfield 35, 3, 49), (49, .aload_n 0, 1, 50), (50, .iconst 0, 1, 51), (51, .aload_n 0, 1, 52), (52, .getfield 12, 3, 55), (55, .getfield 83, 3, 58), (58, .iconst 1, 1, 59), (59, .isub, 1, 60), (60, .invokevirtual 77, 3, 63), (63, .istore_n 2, 1, 64), (64, .aload_n 0, 1, 65), (65, .iconst 0, 1, 66), (66, .bipush 9, 2, 68), (68, .invokevirtual 77, 3, 71), (71, .istore_n 3, 1, 72), (72, .aload_n 0, 1, 73), (73, .invokevirtual 80, 3, 76), (76, .aload_n 0, 1, 77), (77, .getfield 35, 3, 80), (80, .iconst (-1), 1, 81), (81, .if_icmp .ne 14, 3, 84), (84, .aload_n 0, 1, 85), (85, .getfield 12, 3, 88), (88, .iload_n 1, 1, 89), (89, .iload_n 2, 1, 90), (90, .iload_n 3, 1, 91), (91, .invokevirtual 95, 3, 94), (94, .pop, 1, 95), (95, .return_, 1, 96)]
set_option maxRecDepth 100000 in
theorem dt_X10_readErrand : DT cX10_readErrand tdt_X10_readErrand := by unfold DT; decide +kernel
theorem ff_X10_66 : FF RX10 66 9 6 := ⟨RX9, TX9, 7, tyX9, rfl, by decide, lay_9, rfl, Or.inr ⟨"TiedThrees", nst_in 174 (by decide +kernel) (by decide +kernel)⟩, tyX9_ok, nmX9⟩
abbrev M_X10_number : MI := (yX10_number, cX10_number, 4, (some .int))
def tdt_X10_number : List (Nat × Instr × Nat × Nat) := [(0, .aload_n 0, 1, 1), (1, .getfield 35, 3, 4), (4, .iconst (-1), 1, 5), (5, .if_icmp .eq 5, 3, 8), (8, .iconst (-1), 1, 9), (9, .ireturn, 1, 10), (10, .aload_n 0, 1, 11), (11, .invokevirtual 42, 3, 14), (14, .aload_n 0, 1, 15), (15, .aload_n 0, 1, 16), (16, .getfield 32, 3, 19), (19, .invokevirtual 107, 3, 22), (22, .ifCond .eq 31, 3, 25), (25, .aload_n 0, 1, 26), (26, .aload_n 0, 1, 27), (27, .getfield 32, 3, 30), (30, .iconst 1, 1, 31), (31, .iadd, 1, 32), (32, .invokevirtual 107, 3, 35), (35, .ifCond .ne 18, 3, 38), (38, .aload_n 0, 1, 39), (39, .getfield 18, 3, 42), (42, .aload_n 0, 1, 43), (43, .getfield 32, 3, 46), (46, .iaload, 1, 47), (47, .bipush 48, 2, 49), (49, .isub, 1, 50), (50, .goto 4, 3, 53), (53, .iconst (-1), 1, 54), (54, .istore_n 3, 1, 55), (55, .iload_n 3, 1, 56), (56, .iload_n 1, 1, 57), (57, .if_icmp .lt 8, 3, 60), (60, .iload_n 3, 1, 61), (61, .iload_n 2, 1, 62), (62, .if_icmp .le 13, 3, 65), (65, .aload_n 0, 1, 66), (66, .aload_n 0, 1, 67), (67, .getfield 32, 3, 70), (70, .putfield 35, 3, 73), (73, .iconst (-1), 1, 74), (74, .ireturn, 1, 75), (75, .aload_n 0, 1, 76), (76, .dup, 1, 77), (77, .getfield 32, 3, 80), (80, .iconst 1, 1, 81), (81, .iadd, 1, 82), (82, .putfield 32, 3, 85), (85, .iload_n 3, 1, 86), (86, .ireturn, 1, 87)]
set_option maxRecDepth 100000 in
theorem dt_X10_number : DT cX10_number tdt_X10_number := by unfold DT; decide +kernel
abbrev M_X10_isFigure : MI := (yX10_isFigure, cX10_isFigure, 2, (some .boolean))
def tdt_X10_isFigure : List (Nat × Instr × Nat × Nat) := [(0, .iload_n 1, 1, 1), (1, .aload_n 0, 1, 2), (2, .getfield 28, 3, 5), (5, .if_icmp .ge 29, 3, 8), (8, .aload_n 0, 1, 9), (9, .getfield 18, 3, 12), (12, .iload_n 1, 1, 13), (13, .iaload, 1, 14), (14, .bipush 48, 2, 16), (16, .if_icmp .lt 18, 3, 19), (19, .aload_n 0, 1, 20), (20, .getfield 18, 3, 23), (23, .iload_n 1, 1, 24), (24, .iaload, 1, 25), (25, .bipush 57, 2, 27), (27, .if_icmp .gt 7, 3, 30), (30, .iconst 1, 1, 31), (31, .goto 4, 3, 34), (34, .iconst 0, 1, 35), (35, .ireturn, 1, 36)]
set_option maxRecDepth 100000 in
theorem dt_X10_isFigure : DT cX10_isFigure tdt_X10_isFigure := by unfold DT; decide +kernel
theorem kb_48 : (Int8.ofInt 48).toInt32 = (48 : Int32) := by decide +kernel
theorem kb_57 : (Int8.ofInt 57).toInt32 = (57 : Int32) := by decide +kernel
theorem cn_X10_isFigure : CFn M_X10_isFigure 1 := ⟨tbl_in 584 (by decide +kernel) (by decide +kernel), tbl_in 110 (by decide +kernel) (by decide +kernel), by decide, by decide +kernel, by decide +kernel, by decide +kernel⟩
theorem cf_X10_107 : CFV RX10 107 M_X10_isFigure 1 := ⟨cn_X10_isFigure, Or.inl (tbl_in 581 (by decide +kernel) (by decide +kernel)), tbl_in 583 (by decide +kernel) (by decide +kernel), tbl_in 17 (by decide +kernel) (by decide +kernel)⟩
theorem cn_X10_number : CFn M_X10_number 2 := ⟨tbl_in 580 (by decide +kernel) (by decide +kernel), tbl_in 110 (by decide +kernel) (by decide +kernel), by decide, by decide +kernel, by decide +kernel, by decide +kernel⟩
theorem cf_X10_77 : CFV RX10 77 M_X10_number 2 := ⟨cn_X10_number, Or.inl (tbl_in 577 (by decide +kernel) (by decide +kernel)), tbl_in 579 (by decide +kernel) (by decide +kernel), tbl_in 16 (by decide +kernel) (by decide +kernel)⟩
theorem cf_X10_88 : CFV RX10 88 M_X9_hasPerson 1 := ⟨cn_X9_hasPerson, Or.inr ⟨"TiedThrees", nst_in 600 (by decide +kernel) (by decide +kernel)⟩, tbl_in 462 (by decide +kernel) (by decide +kernel), tbl_in 5 (by decide +kernel) (by decide +kernel)⟩
theorem ff_X10_83 : FF RX10 83 9 5 := ⟨RX9, TX9, 7, tyX9, rfl, by decide, lay_9, rfl, Or.inr ⟨"TiedThrees", nst_in 168 (by decide +kernel) (by decide +kernel)⟩, tyX9_ok, nmX9⟩
abbrev M_X10_end : MI := (yX10_end, cX10_end, 1, none)
def tdt_X10_end : List (Nat × Instr × Nat × Nat) := [(0, .aload_n 0, 1, 1), (1, .getfield 35, 3, 4), (4, .iconst (-1), 1, 5), (5, .if_icmp .eq 4, 3, 8), (8, .return_, 1, 9), (9, .aload_n 0, 1, 10), (10, .invokevirtual 42, 3, 13), (13, .aload_n 0, 1, 14), (14, .getfield 32, 3, 17), (17, .aload_n 0, 1, 18), (18, .getfield 28, 3, 21), (21, .if_icmp .ge 30, 3, 24), (24, .aload_n 0, 1, 25), (25, .getfield 18, 3, 28), (28, .aload_n 0, 1, 29), (29, .getfield 32, 3, 32), (32, .iaload, 1, 33), (33, .bipush 59, 2, 35), (35, .if_icmp .ne 16, 3, 38), (38, .aload_n 0, 1, 39), (39, .dup, 1, 40), (40, .getfield 32, 3, 43), (43, .iconst 1, 1, 44), (44, .iadd, 1, 45), (45, .putfield 32, 3, 48), (48, .goto 11, 3, 51), (51, .aload_n 0, 1, 52), (52, .aload_n 0, 1, 53), (53, .getfield 32, 3, 56), (56, .putfield 35, 3, 59), (59, .return_, 1, 60)]
set_option maxRecDepth 100000 in
theorem dt_X10_end : DT cX10_end tdt_X10_end := by unfold DT; decide +kernel
theorem kb_59 : (Int8.ofInt 59).toInt32 = (59 : Int32) := by decide +kernel
theorem cn_X10_end : CFn M_X10_end 0 := ⟨tbl_in 588 (by decide +kernel) (by decide +kernel), tbl_in 110 (by decide +kernel) (by decide +kernel), by decide, by decide +kernel, by decide +kernel, by decide +kernel⟩
theorem cf_X10_80 : CFV RX10 80 M_X10_end 0 := ⟨cn_X10_end, Or.inl (tbl_in 585 (by decide +kernel) (by decide +kernel)), tbl_in 587 (by decide +kernel) (by decide +kernel), tbl_in 18 (by decide +kernel) (by decide +kernel)⟩
theorem sk_9 : SK[9]? = some (100, [9]) := rfl
theorem sk_10 : SK[10]? = some (100, [36]) := rfl
theorem sk_11 : SK[11]? = some (100, [36]) := rfl
theorem cf_X10_95 : CFV RX10 95 M_X9_addErrand 3 := ⟨cn_X9_addErrand, Or.inr ⟨"TiedThrees", nst_in 601 (by decide +kernel) (by decide +kernel)⟩, tbl_in 473 (by decide +kernel) (by decide +kernel), tbl_in 7 (by decide +kernel) (by decide +kernel)⟩
theorem ff_X10_92 : FF RX10 92 9 2 := ⟨RX9, TX9, 7, tyX9, rfl, by decide, lay_9, rfl, Or.inr ⟨"TiedThrees", nst_in 159 (by decide +kernel) (by decide +kernel)⟩, tyX9_ok, nmX9⟩
theorem cn_X10_readErrand : CFn M_X10_readErrand 0 := ⟨tbl_in 599 (by decide +kernel) (by decide +kernel), tbl_in 110 (by decide +kernel) (by decide +kernel), by decide, by decide +kernel, by decide +kernel, by decide +kernel⟩
theorem cf_X10_74 : CFV RX10 74 M_X10_readErrand 0 := ⟨cn_X10_readErrand, Or.inl (tbl_in 596 (by decide +kernel) (by decide +kernel)), tbl_in 598 (by decide +kernel) (by decide +kernel), tbl_in 20 (by decide +kernel) (by decide +kernel)⟩
abbrev M_X10_readPerson : MI := (yX10_readPerson, cX10_readPerson, 3, none)
def tdt_X10_readPerson : List (Nat × Instr × Nat × Nat) := [(0, .aload_n 0, 1, 1), (1, .iconst 0, 1, 2), (2, .iconst 4, 1, 3), (3, .invokevirtual 77, 3, 6), (6, .istore_n 1, 1, 7), (7, .aload_n 0, 1, 8), (8, .iconst 1, 1, 9), (9, .bipush 9, 2, 11), (11, .invokevirtual 77, 3, 14), (14, .istore_n 2, 1, 15), (15, .aload_n 0, 1, 16), (16, .invokevirtual 80, 3, 19), (19, .aload_n 0, 1, 20), (20, .getfield 35, 3, 23), (23, .iconst (-1), 1, 24), (24, .if_icmp .ne 13, 3, 27), (27, .aload_n 0, 1, 28), (28, .getfield 12, 3, 31), (31, .iload_n 1, 1, 32), (32, .iload_n 2, 1, 33), (33, .invokevirtual 85, 3, 36), (36, .pop, 1, 37), (37, .return_, 1, 38)]
set_option maxRecDepth 100000 in
theorem dt_X10_readPerson : DT cX10_readPerson tdt_X10_readPerson := by unfold DT; decide +kernel
theorem sk_7 : SK[7]? = some (100, [9]) := rfl
theorem sk_8 : SK[8]? = some (100, [9]) := rfl
theorem cf_X10_85 : CFV RX10 85 M_X9_addPerson 2 := ⟨cn_X9_addPerson, Or.inr ⟨"TiedThrees", nst_in 594 (by decide +kernel) (by decide +kernel)⟩, tbl_in 454 (by decide +kernel) (by decide +kernel), tbl_in 4 (by decide +kernel) (by decide +kernel)⟩
theorem cn_X10_readPerson : CFn M_X10_readPerson 0 := ⟨tbl_in 593 (by decide +kernel) (by decide +kernel), tbl_in 110 (by decide +kernel) (by decide +kernel), by decide, by decide +kernel, by decide +kernel, by decide +kernel⟩
theorem cf_X10_69 : CFV RX10 69 M_X10_readPerson 0 := ⟨cn_X10_readPerson, Or.inl (tbl_in 590 (by decide +kernel) (by decide +kernel)), tbl_in 592 (by decide +kernel) (by decide +kernel), tbl_in 19 (by decide +kernel) (by decide +kernel)⟩
theorem cf_X10_57 : CFV RX10 57 M_X9_errandsOfAll 0 := ⟨cn_X9_errandsOfAll, Or.inr ⟨"TiedThrees", nst_in 569 (by decide +kernel) (by decide +kernel)⟩, tbl_in 571 (by decide +kernel) (by decide +kernel), tbl_in 14 (by decide +kernel) (by decide +kernel)⟩
abbrev M_X10_readPlaces : MI := (yX10_readPlaces, cX10_readPlaces, 2, none)
def tdt_X10_readPlaces : List (Nat × Instr × Nat × Nat) := [(0, .aload_n 0, 1, 1), (1, .iconst 1, 1, 2), (2, .bipush 6, 2, 4), (4, .invokevirtual 77, 3, 7), (7, .istore_n 1, 1, 8), (8, .aload_n 0, 1, 9), (9, .invokevirtual 80, 3, 12), (12, .aload_n 0, 1, 13), (13, .getfield 35, 3, 16), (16, .iconst (-1), 1, 17), (17, .if_icmp .ne 11, 3, 20), (20, .aload_n 0, 1, 21), (21, .getfield 12, 3, 24), (24, .iload_n 1, 1, 25), (25, .putfield 83, 3, 28), (28, .return_, 1, 29)]
set_option maxRecDepth 100000 in
theorem dt_X10_readPlaces : DT cX10_readPlaces tdt_X10_readPlaces := by unfold DT; decide +kernel
theorem cn_X10_readPlaces : CFn M_X10_readPlaces 0 := ⟨tbl_in 576 (by decide +kernel) (by decide +kernel), tbl_in 110 (by decide +kernel) (by decide +kernel), by decide, by decide +kernel, by decide +kernel, by decide +kernel⟩
theorem cf_X10_61 : CFV RX10 61 M_X10_readPlaces 0 := ⟨cn_X10_readPlaces, Or.inl (tbl_in 573 (by decide +kernel) (by decide +kernel)), tbl_in 575 (by decide +kernel) (by decide +kernel), tbl_in 15 (by decide +kernel) (by decide +kernel)⟩
theorem cn_X10_readItem : CFn M_X10_readItem 0 := ⟨tbl_in 511 (by decide +kernel) (by decide +kernel), tbl_in 110 (by decide +kernel) (by decide +kernel), by decide, by decide +kernel, by decide +kernel, by decide +kernel⟩
theorem cf_X10_45 : CFV RX10 45 M_X10_readItem 0 := ⟨cn_X10_readItem, Or.inl (tbl_in 508 (by decide +kernel) (by decide +kernel)), tbl_in 510 (by decide +kernel) (by decide +kernel), tbl_in 11 (by decide +kernel) (by decide +kernel)⟩
theorem cn_X10_readTown : CFn M_X10_readTown 2 := ⟨tbl_in 499 (by decide +kernel) (by decide +kernel), tbl_in 110 (by decide +kernel) (by decide +kernel), by decide, by decide +kernel, by decide +kernel, by decide +kernel⟩
theorem cf_X11_124 : CFV RX11 124 M_X10_readTown 2 := ⟨cn_X10_readTown, Or.inr ⟨"TiedThrees", nst_in 496 (by decide +kernel) (by decide +kernel)⟩, tbl_in 498 (by decide +kernel) (by decide +kernel), tbl_in 9 (by decide +kernel) (by decide +kernel)⟩
theorem ff_X11_128 : FF RX11 128 10 0 := ⟨RX10, TX10, 5, tyX10, rfl, by decide, lay_10, rfl, Or.inr ⟨"TiedThrees", nst_in 193 (by decide +kernel) (by decide +kernel)⟩, tyX10_ok, nmX10⟩
theorem cf_X11_129 : CFV RX11 129 M_X9_become 1 := ⟨cn_X9_become, Or.inr ⟨"TiedThrees", nst_in 602 (by decide +kernel) (by decide +kernel)⟩, tbl_in 604 (by decide +kernel) (by decide +kernel), tbl_in 21 (by decide +kernel) (by decide +kernel)⟩
abbrev M_X12_places : MI := (yX12_places, cX12_places, 3, (some .int))
def tdt_X12_places : List (Nat × Instr × Nat × Nat) := [(0, .iload_n 1, 1, 1), (1, .i2l, 1, 2), (2, .lconst 1, 1, 3), (3, .ldc2_w 86, 3, 6), (6, .invokestatic 74, 3, 9), (9, .ifCond .ne 10, 3, 12), (12, .aload_n 0, 1, 13), (13, .bipush (-2), 2, 15), (15, .invokevirtual 88, 3, 18), (18, .ireturn, 1, 19), (19, .aload_n 0, 1, 20), (20, .invokevirtual 91, 3, 23), (23, .istore_n 2, 1, 24), (24, .aload_n 0, 1, 25), (25, .getfield 7, 3, 28), (28, .iconst 0, 1, 29), (29, .iload_n 1, 1, 30), (30, .iastore, 1, 31), (31, .aload_n 0, 1, 32), (32, .getfield 7, 3, 35), (35, .iconst 1, 1, 36), (36, .iconst 0, 1, 37), (37, .iastore, 1, 38), (38, .aload_n 0, 1, 39), (39, .getfield 7, 3, 42), (42, .bipush 108, 2, 44), (44, .iconst 0, 1, 45), (45, .iastore, 1, 46), (46, .aload_n 0, 1, 47), (47, .getfield 7, 3, 50), (50, .bipush 127, 2, 52), (52, .iconst 0, 1, 53), (53, .iastore, 1, 54), (54, .iload_n 2, 1, 55), (55, .ireturn, 1, 56)]
set_option maxRecDepth 100000 in
theorem dt_X12_places : DT cX12_places tdt_X12_places := by unfold DT; decide +kernel
theorem cl_X12_86 : Cond.constantLong RX12 86 6 ∈ tbl := tbl_in 1041 (by decide +kernel) (by decide +kernel)
abbrev M_X12_in : MI := (yX12_in, cX12_in, 6, (some .boolean))
def tdt_X12_in : List (Nat × Instr × Nat × Nat) := [(0, .lload_n 0, 1, 1), (1, .lload_n 2, 1, 2), (2, .lcmp, 1, 3), (3, .ifCond .lt 14, 3, 6), (6, .lload_n 0, 1, 7), (7, .lload 4, 2, 9), (9, .lcmp, 1, 10), (10, .ifCond .gt 7, 3, 13), (13, .iconst 1, 1, 14), (14, .goto 4, 3, 17), (17, .iconst 0, 1, 18), (18, .ireturn, 1, 19)]
set_option maxRecDepth 100000 in
theorem dt_X12_in : DT cX12_in tdt_X12_in := by unfold DT; decide +kernel
theorem cn_X12_in : CFn M_X12_in 3 := ⟨tbl_in 1044 (by decide +kernel) (by decide +kernel), tbl_in 121 (by decide +kernel) (by decide +kernel), by decide, by decide +kernel, by decide +kernel, by decide +kernel⟩
theorem cf_X12_74 : CFS RX12 74 M_X12_in 3 := ⟨cn_X12_in, Or.inl (tbl_in 1042 (by decide +kernel) (by decide +kernel)), tbl_in 1043 (by decide +kernel) (by decide +kernel)⟩
abbrev M_X12_ring : MI := (yX12_ring, cX12_ring, 1, (some .int))
def tdt_X12_ring : List (Nat × Instr × Nat × Nat) := [(0, .aload_n 0, 1, 1), (1, .getfield 7, 3, 4), (4, .iconst 0, 1, 5), (5, .iaload, 1, 6), (6, .ireturn, 1, 7)]
set_option maxRecDepth 100000 in
theorem dt_X12_ring : DT cX12_ring tdt_X12_ring := by unfold DT; decide +kernel
theorem lay_12 : ∀ w ∈ u_ws RX12 TX12 29, w ∈ tbl := by
  intro w hw
  refine List.mem_filter.mpr ⟨?_, ?_⟩
  · revert w; decide +kernel
  · revert w; decide +kernel
theorem ff_X12_7 : FF RX12 7 12 0 := ⟨RX12, TX12, 29, tyX12, rfl, by decide, lay_12, rfl, Or.inl (tbl_in 949 (by decide +kernel) (by decide +kernel)), tyX12_ok, nmX12⟩
theorem sk_71 : SK[71]? = some (12, [75, 76, 77, 78, 1, 1, 79, 80, 81, 0, 82, 83, 84, 85, 86, 87, 0, 88, 89, 90, 91, 0, 0, 0, 0, 0, 92, 0, 0]) := rfl
theorem sk_72 : SK[72]? = some (100, [143]) := rfl
theorem ib_0_143 : inB 0 143 = true := by decide +kernel
theorem cn_X12_ring : CFn M_X12_ring 0 := ⟨tbl_in 1052 (by decide +kernel) (by decide +kernel), tbl_in 121 (by decide +kernel) (by decide +kernel), by decide, by decide +kernel, by decide +kernel, by decide +kernel⟩
theorem cf_X12_91 : CFV RX12 91 M_X12_ring 0 := ⟨cn_X12_ring, Or.inl (tbl_in 1049 (by decide +kernel) (by decide +kernel)), tbl_in 1051 (by decide +kernel) (by decide +kernel), tbl_in 62 (by decide +kernel) (by decide +kernel)⟩
theorem ib_1_143 : inB 1 143 = true := by decide +kernel
theorem kb_108 : (Int8.ofInt 108).toInt32 = (108 : Int32) := by decide +kernel
theorem ib_108_143 : inB 108 143 = true := by decide +kernel
theorem kb_127 : (Int8.ofInt 127).toInt32 = (127 : Int32) := by decide +kernel
theorem ib_127_143 : inB 127 143 = true := by decide +kernel
abbrev M_X12_bad : MI := (yX12_bad, cX12_bad, 2, (some .int))
def tdt_X12_bad : List (Nat × Instr × Nat × Nat) := [(0, .aload_n 0, 1, 1), (1, .getfield 20, 3, 4), (4, .iconst 0, 1, 5), (5, .dup2, 1, 6), (6, .iaload, 1, 7), (7, .iconst 1, 1, 8), (8, .iadd, 1, 9), (9, .iastore, 1, 10), (10, .iload_n 1, 1, 11), (11, .ireturn, 1, 12)]
set_option maxRecDepth 100000 in
theorem dt_X12_bad : DT cX12_bad tdt_X12_bad := by unfold DT; decide +kernel
theorem ff_X12_20 : FF RX12 20 12 3 := ⟨RX12, TX12, 29, tyX12, rfl, by decide, lay_12, rfl, Or.inl (tbl_in 952 (by decide +kernel) (by decide +kernel)), tyX12_ok, nmX12⟩
theorem sk_75 : SK[75]? = some (100, [3]) := rfl
theorem cn_X12_bad : CFn M_X12_bad 1 := ⟨tbl_in 1048 (by decide +kernel) (by decide +kernel), tbl_in 121 (by decide +kernel) (by decide +kernel), by decide, by decide +kernel, by decide +kernel, by decide +kernel⟩
theorem cf_X12_88 : CFV RX12 88 M_X12_bad 1 := ⟨cn_X12_bad, Or.inl (tbl_in 1045 (by decide +kernel) (by decide +kernel)), tbl_in 1047 (by decide +kernel) (by decide +kernel), tbl_in 61 (by decide +kernel) (by decide +kernel)⟩
abbrev M_X12_person : MI := (yX12_person, cX12_person, 3, (some .int))
def tdt_X12_person : List (Nat × Instr × Nat × Nat) := [(0, .iload_n 1, 1, 1), (1, .i2l, 1, 2), (2, .lconst 0, 1, 3), (3, .ldc2_w 94, 3, 6), (6, .invokestatic 74, 3, 9), (9, .ifCond .eq 15, 3, 12), (12, .iload_n 2, 1, 13), (13, .i2l, 1, 14), (14, .lconst 1, 1, 15), (15, .ldc2_w 96, 3, 18), (18, .invokestatic 74, 3, 21), (21, .ifCond .ne 10, 3, 24), (24, .aload_n 0, 1, 25), (25, .bipush (-2), 2, 27), (27, .invokevirtual 88, 3, 30), (30, .ireturn, 1, 31), (31, .aload_n 0, 1, 32), (32, .invokevirtual 70, 3, 35), (35, .bipush 9, 2, 37), (37, .if_icmp .ne 8, 3, 40), (40, .aload_n 0, 1, 41), (41, .invokevirtual 98, 3, 44), (44, .ireturn, 1, 45), (45, .aload_n 0, 1, 46), (46, .getfield 7, 3, 49), (49, .iload_n 1, 1, 50), (50, .iload_n 2, 1, 51), (51, .invokestatic 101, 3, 54), (54, .aload_n 0, 1, 55), (55, .invokevirtual 70, 3, 58), (58, .iconst 1, 1, 59), (59, .isub, 1, 60), (60, .ireturn, 1, 61)]
set_option maxRecDepth 100000 in
theorem dt_X12_person : DT cX12_person tdt_X12_person := by unfold DT; decide +kernel
theorem cl_X12_94 : Cond.constantLong RX12 94 4 ∈ tbl := tbl_in 1057 (by decide +kernel) (by decide +kernel)
theorem cl_X12_96 : Cond.constantLong RX12 96 9 ∈ tbl := tbl_in 1058 (by decide +kernel) (by decide +kernel)
abbrev M_X12_people : MI := (yX12_people, cX12_people, 1, (some .int))
def tdt_X12_people : List (Nat × Instr × Nat × Nat) := [(0, .aload_n 0, 1, 1), (1, .getfield 7, 3, 4), (4, .iconst 1, 1, 5), (5, .iaload, 1, 6), (6, .ireturn, 1, 7)]
set_option maxRecDepth 100000 in
theorem dt_X12_people : DT cX12_people tdt_X12_people := by unfold DT; decide +kernel
theorem cn_X12_people : CFn M_X12_people 0 := ⟨tbl_in 1062 (by decide +kernel) (by decide +kernel), tbl_in 121 (by decide +kernel) (by decide +kernel), by decide, by decide +kernel, by decide +kernel, by decide +kernel⟩
theorem cf_X12_70 : CFV RX12 70 M_X12_people 0 := ⟨cn_X12_people, Or.inl (tbl_in 1059 (by decide +kernel) (by decide +kernel)), tbl_in 1061 (by decide +kernel) (by decide +kernel), tbl_in 63 (by decide +kernel) (by decide +kernel)⟩
abbrev M_X12_layPerson : MI := (yX12_layPerson, cX12_layPerson, 4, none)
def tdt_X12_layPerson : List (Nat × Instr × Nat × Nat) := [(0, .iconst 2, 1, 1), (1, .bipush 11, 2, 3), (3, .aload_n 0, 1, 4), (4, .iconst 1, 1, 5), (5, .iaload, 1, 6), (6, .imul, 1, 7), (7, .iadd, 1, 8), (8, .istore_n 3, 1, 9), (9, .aload_n 0, 1, 10), (10, .iload_n 3, 1, 11), (11, .iconst 0, 1, 12), (12, .iadd, 1, 13), (13, .iload_n 1, 1, 14), (14, .iastore, 1, 15), (15, .aload_n 0, 1, 16), (16, .iload_n 3, 1, 17), (17, .iconst 1, 1, 18), (18, .iadd, 1, 19), (19, .iload_n 2, 1, 20), (20, .iastore, 1, 21), (21, .aload_n 0, 1, 22), (22, .iload_n 3, 1, 23), (23, .iconst 2, 1, 24), (24, .iadd, 1, 25), (25, .iconst 0, 1, 26), (26, .iastore, 1, 27), (27, .aload_n 0, 1, 28), (28, .iconst 1, 1, 29), (29, .dup2, 1, 30), (30, .iaload, 1, 31), (31, .iconst 1, 1, 32), (32, .iadd, 1, 33), (33, .iastore, 1, 34), (34, .return_, 1, 35)]
set_option maxRecDepth 100000 in
theorem dt_X12_layPerson : DT cX12_layPerson tdt_X12_layPerson := by unfold DT; decide +kernel
theorem kb_11 : (Int8.ofInt 11).toInt32 = (11 : Int32) := by decide +kernel
theorem cn_X12_layPerson : CFn M_X12_layPerson 3 := ⟨tbl_in 1069 (by decide +kernel) (by decide +kernel), tbl_in 121 (by decide +kernel) (by decide +kernel), by decide, by decide +kernel, by decide +kernel, by decide +kernel⟩
theorem cf_X12_101 : CFS RX12 101 M_X12_layPerson 3 := ⟨cn_X12_layPerson, Or.inl (tbl_in 1067 (by decide +kernel) (by decide +kernel)), tbl_in 1068 (by decide +kernel) (by decide +kernel)⟩
abbrev M_X12_full : MI := (yX12_full, cX12_full, 1, (some .int))
def tdt_X12_full : List (Nat × Instr × Nat × Nat) := [(0, .aload_n 0, 1, 1), (1, .getfield 20, 3, 4), (4, .iconst 2, 1, 5), (5, .dup2, 1, 6), (6, .iaload, 1, 7), (7, .iconst 1, 1, 8), (8, .iadd, 1, 9), (9, .iastore, 1, 10), (10, .bipush (-4), 2, 12), (12, .ireturn, 1, 13)]
set_option maxRecDepth 100000 in
theorem dt_X12_full : DT cX12_full tdt_X12_full := by unfold DT; decide +kernel
theorem cn_X12_full : CFn M_X12_full 0 := ⟨tbl_in 1066 (by decide +kernel) (by decide +kernel), tbl_in 121 (by decide +kernel) (by decide +kernel), by decide, by decide +kernel, by decide +kernel, by decide +kernel⟩
theorem cf_X12_98 : CFV RX12 98 M_X12_full 0 := ⟨cn_X12_full, Or.inl (tbl_in 1063 (by decide +kernel) (by decide +kernel)), tbl_in 1065 (by decide +kernel) (by decide +kernel), tbl_in 64 (by decide +kernel) (by decide +kernel)⟩
abbrev M_X12_errand : MI := (yX12_errand, cX12_errand, 4, (some .int))
def tdt_X12_errand : List (Nat × Instr × Nat × Nat) := [(0, .aload_n 0, 1, 1), (1, .iload_n 1, 1, 2), (2, .invokevirtual 105, 3, 5), (5, .ifCond .eq 31, 3, 8), (8, .iload_n 2, 1, 9), (9, .i2l, 1, 10), (10, .lconst 0, 1, 11), (11, .aload_n 0, 1, 12), (12, .invokevirtual 91, 3, 15), (15, .iconst 1, 1, 16), (16, .isub, 1, 17), (17, .i2l, 1, 18), (18, .invokestatic 74, 3, 21), (21, .ifCond .eq 15, 3, 24), (24, .iload_n 3, 1, 25), (25, .i2l, 1, 26), (26, .lconst 0, 1, 27), (27, .ldc2_w 96, 3, 30), (30, .invokestatic 74, 3, 33), (33, .ifCond .ne 10, 3, 36), (36, .aload_n 0, 1, 37), (37, .bipush (-2), 2, 39), (39, .invokevirtual 88, 3, 42), (42, .ireturn, 1, 43), (43, .aload_n 0, 1, 44), (44, .iload_n 1, 1, 45), (45, .iconst 2, 1, 46), (46, .invokevirtual 82, 3, 49), (49, .iconst 4, 1, 50), (50, .if_icmp .ne 8, 3, 53), (53, .aload_n 0, 1, 54), (54, .invokevirtual 98, 3, 57), (57, .ireturn, 1, 58), (58, .aload_n 0, 1, 59), (59, .getfield 7, 3, 62), (62, .iload_n 1, 1, 63), (63, .iload_n 2, 1, 64), (64, .iload_n 3, 1, 65), (65, .invokestatic 109, 3, 68), (68, .aload_n 0, 1, 69), (69, .iload_n 1, 1, 70), (70, .iconst 2, 1, 71), (71, .invokevirtual 82, 3, 74), (74, .iconst 1, 1, 75), (75, .isub, 1, 76), (76, .ireturn, 1, 77)]
set_option maxRecDepth 100000 in
theorem dt_X12_errand : DT cX12_errand tdt_X12_errand := by unfold DT; decide +kernel
abbrev M_X12_isOne : MI := (yX12_isOne, cX12_isOne, 2, (some .boolean))
def tdt_X12_isOne : List (Nat × Instr × Nat × Nat) := [(0, .iload_n 1, 1, 1), (1, .i2l, 1, 2), (2, .lconst 0, 1, 3), (3, .aload_n 0, 1, 4), (4, .invokevirtual 70, 3, 7), (7, .iconst 1, 1, 8), (8, .isub, 1, 9), (9, .i2l, 1, 10), (10, .invokestatic 74, 3, 13), (13, .ireturn, 1, 14)]
set_option maxRecDepth 100000 in
theorem dt_X12_isOne : DT cX12_isOne tdt_X12_isOne := by unfold DT; decide +kernel
theorem cn_X12_isOne : CFn M_X12_isOne 1 := ⟨tbl_in 1077 (by decide +kernel) (by decide +kernel), tbl_in 121 (by decide +kernel) (by decide +kernel), by decide, by decide +kernel, by decide +kernel, by decide +kernel⟩
theorem cf_X12_105 : CFV RX12 105 M_X12_isOne 1 := ⟨cn_X12_isOne, Or.inl (tbl_in 1074 (by decide +kernel) (by decide +kernel)), tbl_in 1076 (by decide +kernel) (by decide +kernel), tbl_in 65 (by decide +kernel) (by decide +kernel)⟩
abbrev M_X12_of : MI := (yX12_of, cX12_of, 3, (some .int))
def tdt_X12_of : List (Nat × Instr × Nat × Nat) := [(0, .aload_n 0, 1, 1), (1, .getfield 7, 3, 4), (4, .iconst 2, 1, 5), (5, .bipush 11, 2, 7), (7, .iload_n 1, 1, 8), (8, .imul, 1, 9), (9, .iadd, 1, 10), (10, .iload_n 2, 1, 11), (11, .iadd, 1, 12), (12, .iaload, 1, 13), (13, .ireturn, 1, 14)]
set_option maxRecDepth 100000 in
theorem dt_X12_of : DT cX12_of tdt_X12_of := by unfold DT; decide +kernel
theorem cn_X12_of : CFn M_X12_of 2 := ⟨tbl_in 1081 (by decide +kernel) (by decide +kernel), tbl_in 121 (by decide +kernel) (by decide +kernel), by decide, by decide +kernel, by decide +kernel, by decide +kernel⟩
theorem cf_X12_82 : CFV RX12 82 M_X12_of 2 := ⟨cn_X12_of, Or.inl (tbl_in 1078 (by decide +kernel) (by decide +kernel)), tbl_in 1080 (by decide +kernel) (by decide +kernel), tbl_in 66 (by decide +kernel) (by decide +kernel)⟩
abbrev M_X12_layErrand : MI := (yX12_layErrand, cX12_layErrand, 6, none)
def tdt_X12_layErrand : List (Nat × Instr × Nat × Nat) := [(0, .iconst 2, 1, 1), (1, .bipush 11, 2, 3), (3, .iload_n 1, 1, 4), (4, .imul, 1, 5), (5, .iadd, 1, 6), (6, .istore 4, 2, 8), (8, .aload_n 0, 1, 9), (9, .iload 4, 2, 11), (11, .iconst 2, 1, 12), (12, .iadd, 1, 13), (13, .iaload, 1, 14), (14, .istore 5, 2, 16), (16, .aload_n 0, 1, 17), (17, .iload 4, 2, 19), (19, .iconst 3, 1, 20), (20, .iadd, 1, 21), (21, .iconst 2, 1, 22), (22, .iload 5, 2, 24), (24, .imul, 1, 25), (25, .iadd, 1, 26), (26, .iload_n 2, 1, 27), (27, .iastore, 1, 28), (28, .aload_n 0, 1, 29), (29, .iload 4, 2, 31), (31, .iconst 3, 1, 32), (32, .iadd, 1, 33), (33, .iconst 2, 1, 34), (34, .iload 5, 2, 36), (36, .imul, 1, 37), (37, .iadd, 1, 38), (38, .iconst 1, 1, 39), (39, .iadd, 1, 40), (40, .iload_n 3, 1, 41), (41, .iastore, 1, 42), (42, .aload_n 0, 1, 43), (43, .iload 4, 2, 45), (45, .iconst 2, 1, 46), (46, .iadd, 1, 47), (47, .dup2, 1, 48), (48, .iaload, 1, 49), (49, .iconst 1, 1, 50), (50, .iadd, 1, 51), (51, .iastore, 1, 52), (52, .return_, 1, 53)]
set_option maxRecDepth 100000 in
theorem dt_X12_layErrand : DT cX12_layErrand tdt_X12_layErrand := by unfold DT; decide +kernel
theorem cn_X12_layErrand : CFn M_X12_layErrand 4 := ⟨tbl_in 1084 (by decide +kernel) (by decide +kernel), tbl_in 121 (by decide +kernel) (by decide +kernel), by decide, by decide +kernel, by decide +kernel, by decide +kernel⟩
theorem cf_X12_109 : CFS RX12 109 M_X12_layErrand 4 := ⟨cn_X12_layErrand, Or.inl (tbl_in 1082 (by decide +kernel) (by decide +kernel)), tbl_in 1083 (by decide +kernel) (by decide +kernel)⟩
abbrev M_X12_drop : MI := (yX12_drop, cX12_drop, 2, (some .int))
def tdt_X12_drop : List (Nat × Instr × Nat × Nat) := [(0, .aload_n 0, 1, 1), (1, .iload_n 1, 1, 2), (2, .invokevirtual 105, 3, 5), (5, .ifCond .ne 10, 3, 8), (8, .aload_n 0, 1, 9), (9, .bipush (-2), 2, 11), (11, .invokevirtual 88, 3, 14), (14, .ireturn, 1, 15), (15, .aload_n 0, 1, 16), (16, .iload_n 1, 1, 17), (17, .iconst 2, 1, 18), (18, .invokevirtual 82, 3, 21), (21, .ifCond .ne 10, 3, 24), (24, .aload_n 0, 1, 25), (25, .bipush (-3), 2, 27), (27, .invokevirtual 113, 3, 30), (30, .ireturn, 1, 31), (31, .aload_n 0, 1, 32), (32, .getfield 7, 3, 35), (35, .iconst 2, 1, 36), (36, .bipush 11, 2, 38), (38, .iload_n 1, 1, 39), (39, .imul, 1, 40), (40, .iadd, 1, 41), (41, .iconst 2, 1, 42), (42, .iadd, 1, 43), (43, .dup2, 1, 44), (44, .iaload, 1, 45), (45, .iconst 1, 1, 46), (46, .isub, 1, 47), (47, .iastore, 1, 48), (48, .aload_n 0, 1, 49), (49, .iload_n 1, 1, 50), (50, .iconst 2, 1, 51), (51, .invokevirtual 82, 3, 54), (54, .ireturn, 1, 55)]
set_option maxRecDepth 100000 in
theorem dt_X12_drop : DT cX12_drop tdt_X12_drop := by unfold DT; decide +kernel
abbrev M_X12_no : MI := (yX12_no, cX12_no, 2, (some .int))
def tdt_X12_no : List (Nat × Instr × Nat × Nat) := [(0, .aload_n 0, 1, 1), (1, .getfield 20, 3, 4), (4, .iconst 1, 1, 5), (5, .dup2, 1, 6), (6, .iaload, 1, 7), (7, .iconst 1, 1, 8), (8, .iadd, 1, 9), (9, .iastore, 1, 10), (10, .iload_n 1, 1, 11), (11, .ireturn, 1, 12)]
set_option maxRecDepth 100000 in
theorem dt_X12_no : DT cX12_no tdt_X12_no := by unfold DT; decide +kernel
theorem cn_X12_no : CFn M_X12_no 1 := ⟨tbl_in 1092 (by decide +kernel) (by decide +kernel), tbl_in 121 (by decide +kernel) (by decide +kernel), by decide, by decide +kernel, by decide +kernel, by decide +kernel⟩
theorem cf_X12_113 : CFV RX12 113 M_X12_no 1 := ⟨cn_X12_no, Or.inl (tbl_in 1089 (by decide +kernel) (by decide +kernel)), tbl_in 1091 (by decide +kernel) (by decide +kernel), tbl_in 67 (by decide +kernel) (by decide +kernel)⟩
abbrev M_X12_type : MI := (yX12_type, cX12_type, 5, (some .int))
def tdt_X12_type : List (Nat × Instr × Nat × Nat) := [(0, .iload_n 3, 1, 1), (1, .i2l, 1, 2), (2, .lconst 1, 1, 3), (3, .ldc2_w 257, 3, 6), (6, .invokestatic 74, 3, 9), (9, .ifCond .ne 10, 3, 12), (12, .aload_n 0, 1, 13), (13, .bipush (-2), 2, 15), (15, .invokevirtual 88, 3, 18), (18, .ireturn, 1, 19), (19, .aload_n 0, 1, 20), (20, .getfield 259, 3, 23), (23, .iload_n 3, 1, 24), (24, .iadd, 1, 25), (25, .sipush 250, 3, 28), (28, .if_icmp .le 8, 3, 31), (31, .aload_n 0, 1, 32), (32, .invokevirtual 98, 3, 35), (35, .ireturn, 1, 36), (36, .iload_n 3, 1, 37), (37, .iconst 1, 1, 38), (38, .isub, 1, 39), (39, .istore 4, 2, 41), (41, .iload 4, 2, 43), (43, .ifCond .lt 40, 3, 46), (46, .aload_n 0, 1, 47), (47, .getfield 64, 3, 50), (50, .aload_n 0, 1, 51), (51, .getfield 259, 3, 54), (54, .lload_n 1, 1, 55), (55, .bipush 8, 2, 57), (57, .iload 4, 2, 59), (59, .imul, 1, 60), (60, .lushr, 1, 61), (61, .ldc2_w 262, 3, 64), (64, .land, 1, 65), (65, .l2i, 1, 66), (66, .iastore, 1, 67), (67, .aload_n 0, 1, 68), (68, .dup, 1, 69), (69, .getfield 259, 3, 72), (72, .iconst 1, 1, 73), (73, .iadd, 1, 74), (74, .putfield 259, 3, 77), (77, .iinc 4 (-1), 3, 80), (80, .goto (-39), 3, 83), (83, .aload_n 0, 1, 84), (84, .getfield 259, 3, 87), (87, .ireturn, 1, 88)]
set_option maxRecDepth 100000 in
theorem dt_X12_type : DT cX12_type tdt_X12_type := by unfold DT; decide +kernel
theorem cl_X12_257 : Cond.constantLong RX12 257 8 ∈ tbl := tbl_in 1306 (by decide +kernel) (by decide +kernel)
theorem ff_X12_259 : FF RX12 259 12 21 := ⟨RX12, TX12, 29, tyX12, rfl, by decide, lay_12, rfl, Or.inl (tbl_in 970 (by decide +kernel) (by decide +kernel)), tyX12_ok, nmX12⟩
theorem ff_X12_64 : FF RX12 64 12 20 := ⟨RX12, TX12, 29, tyX12, rfl, by decide, lay_12, rfl, Or.inl (tbl_in 969 (by decide +kernel) (by decide +kernel)), tyX12_ok, nmX12⟩
theorem cl_X12_262 : Cond.constantLong RX12 262 255 ∈ tbl := tbl_in 1307 (by decide +kernel) (by decide +kernel)
theorem sk_88 : SK[88]? = some (100, [250]) := rfl
theorem fw_12_21 : FW 12 21 .int := ⟨_, rfl, by decide +kernel, by decide +kernel⟩
abbrev M_X12_clear : MI := (yX12_clear, cX12_clear, 2, (some .int))
def tdt_X12_clear : List (Nat × Instr × Nat × Nat) := [(0, .aload_n 0, 1, 1), (1, .getfield 259, 3, 4), (4, .istore_n 1, 1, 5), (5, .aload_n 0, 1, 6), (6, .iconst 0, 1, 7), (7, .putfield 259, 3, 10), (10, .iload_n 1, 1, 11), (11, .ireturn, 1, 12)]
set_option maxRecDepth 100000 in
theorem dt_X12_clear : DT cX12_clear tdt_X12_clear := by unfold DT; decide +kernel
abbrev M_X12_day : MI := (yX12_day, cX12_day, 4, (some .int))
def tdt_X12_day : List (Nat × Instr × Nat × Nat) := [(0, .aload_n 0, 1, 1), (1, .iload_n 1, 1, 2), (2, .invokevirtual 159, 3, 5), (5, .ifCond .eq 17, 3, 8), (8, .iload_n 2, 1, 9), (9, .i2l, 1, 10), (10, .ldc2_w 162, 3, 13), (13, .ldc2_w 96, 3, 16), (16, .invokestatic 74, 3, 19), (19, .ifCond .ne 10, 3, 22), (22, .aload_n 0, 1, 23), (23, .bipush (-10), 2, 25), (25, .invokevirtual 88, 3, 28), (28, .ireturn, 1, 29), (29, .aload_n 0, 1, 30), (30, .iload_n 1, 1, 31), (31, .invokevirtual 164, 3, 34), (34, .istore_n 3, 1, 35), (35, .iload_n 2, 1, 36), (36, .iconst (-1), 1, 37), (37, .if_icmp .ne 7, 3, 40), (40, .iload_n 3, 1, 41), (41, .goto 9, 3, 44), (44, .aload_n 0, 1, 45), (45, .getfield 33, 3, 48), (48, .iload_n 2, 1, 49), (49, .iaload, 1, 50), (50, .ireturn, 1, 51)]
set_option maxRecDepth 100000 in
theorem dt_X12_day : DT cX12_day tdt_X12_day := by unfold DT; decide +kernel
abbrev M_X12_isThree : MI := (yX12_isThree, cX12_isThree, 2, (some .boolean))
def tdt_X12_isThree : List (Nat × Instr × Nat × Nat) := [(0, .iload_n 1, 1, 1), (1, .i2l, 1, 2), (2, .lconst 0, 1, 3), (3, .iconst 1, 1, 4), (4, .aload_n 0, 1, 5), (5, .invokevirtual 70, 3, 8), (8, .ishl, 1, 9), (9, .iconst 1, 1, 10), (10, .isub, 1, 11), (11, .i2l, 1, 12), (12, .invokestatic 74, 3, 15), (15, .ifCond .eq 15, 3, 18), (18, .iload_n 1, 1, 19), (19, .invokestatic 78, 3, 22), (22, .iconst 3, 1, 23), (23, .if_icmp .ne 7, 3, 26), (26, .iconst 1, 1, 27), (27, .goto 4, 3, 30), (30, .iconst 0, 1, 31), (31, .ireturn, 1, 32)]
set_option maxRecDepth 100000 in
theorem dt_X12_isThree : DT cX12_isThree tdt_X12_isThree := by unfold DT; decide +kernel
abbrev M_X12_bits : MI := (yX12_bits, cX12_bits, 3, (some .int))
def tdt_X12_bits : List (Nat × Instr × Nat × Nat) := [(0, .iconst 0, 1, 1), (1, .istore_n 1, 1, 2), (2, .iload_n 0, 1, 3), (3, .istore_n 2, 1, 4), (4, .iload_n 2, 1, 5), (5, .ifCond .le 16, 3, 8), (8, .iload_n 1, 1, 9), (9, .iload_n 2, 1, 10), (10, .iconst 1, 1, 11), (11, .iand, 1, 12), (12, .iadd, 1, 13), (13, .istore_n 1, 1, 14), (14, .iload_n 2, 1, 15), (15, .iconst 1, 1, 16), (16, .ishr, 1, 17), (17, .istore_n 2, 1, 18), (18, .goto (-14), 3, 21), (21, .iload_n 1, 1, 22), (22, .ireturn, 1, 23)]
set_option maxRecDepth 100000 in
theorem dt_X12_bits : DT cX12_bits tdt_X12_bits := by unfold DT; decide +kernel
theorem cn_X12_bits : CFn M_X12_bits 1 := ⟨tbl_in 1103 (by decide +kernel) (by decide +kernel), tbl_in 121 (by decide +kernel) (by decide +kernel), by decide, by decide +kernel, by decide +kernel, by decide +kernel⟩
theorem cf_X12_78 : CFS RX12 78 M_X12_bits 1 := ⟨cn_X12_bits, Or.inl (tbl_in 1101 (by decide +kernel) (by decide +kernel)), tbl_in 1102 (by decide +kernel) (by decide +kernel)⟩
theorem cn_X12_isThree : CFn M_X12_isThree 1 := ⟨tbl_in 1100 (by decide +kernel) (by decide +kernel), tbl_in 121 (by decide +kernel) (by decide +kernel), by decide, by decide +kernel, by decide +kernel, by decide +kernel⟩
theorem cf_X12_159 : CFV RX12 159 M_X12_isThree 1 := ⟨cn_X12_isThree, Or.inl (tbl_in 1097 (by decide +kernel) (by decide +kernel)), tbl_in 1099 (by decide +kernel) (by decide +kernel), tbl_in 68 (by decide +kernel) (by decide +kernel)⟩
theorem cl_X12_162 : Cond.constantLong RX12 162 (-1) ∈ tbl := tbl_in 1104 (by decide +kernel) (by decide +kernel)
abbrev M_X12_goDay : MI := (yX12_goDay, cX12_goDay, 8, (some .int))
def tdt_X12_goDay : List (Nat × Instr × Nat × Nat) := [(0, .aload_n 0, 1, 1), (1, .iload_n 1, 1, 2), (2, .invokevirtual 142, 3, 5), (5, .iconst 0, 1, 6), (6, .istore_n 2, 1, 7), (7, .iconst 0, 1, 8), (8, .istore_n 3, 1, 9), (9, .iload_n 3, 1, 10), (10, .bipush 10, 2, 12), (12, .if_icmp .ge 86, 3, 15), (15, .aload_n 0, 1, 16), (16, .iconst 0, 1, 17), (17, .iload_n 3, 1, 18), (18, .invokevirtual 146, 3, 21), (21, .istore 4, 2, 23), (23, .aload_n 0, 1, 24), (24, .iconst 1, 1, 25), (25, .iload_n 3, 1, 26), (26, .invokevirtual 146, 3, 29), (29, .istore 5, 2, 31), (31, .aload_n 0, 1, 32), (32, .iconst 2, 1, 33), (33, .iload_n 3, 1, 34), (34, .invokevirtual 146, 3, 37), (37, .istore 6, 2, 39), (39, .iload 5, 2, 41), (41, .iload 6, 2, 43), (43, .if_icmp .ne 8, 3, 46), (46, .iload 5, 2, 48), (48, .goto 5, 3, 51), (51, .iload 4, 2, 53), (53, .istore 7, 2, 55), (55, .aload_n 0, 1, 56), (56, .iload 7, 2, 58), (58, .invokevirtual 149, 3, 61), (61, .aload_n 0, 1, 62), (62, .invokevirtual 152, 3, 65), (65, .ifCond .eq 9, 3, 68), (68, .aload_n 0, 1, 69), (69, .iload 7, 2, 71), (71, .invokevirtual 149, 3, 74), (74, .iload_n 2, 1, 75), (75, .aload_n 0, 1, 76), (76, .iload_n 3, 1, 77), (77, .invokevirtual 156, 3, 80), (80, .iadd, 1, 81), (81, .istore_n 2, 1, 82), (82, .aload_n 0, 1, 83), (83, .getfield 33, 3, 86), (86, .iload_n 3, 1, 87), (87, .aload_n 0, 1, 88), (88, .getfield 116, 3, 91), (91, .iastore, 1, 92), (92, .iinc 3 1, 3, 95), (95, .goto (-86), 3, 98), (98, .iload_n 2, 1, 99), (99, .ireturn, 1, 100)]
set_option maxRecDepth 100000 in
theorem dt_X12_goDay : DT cX12_goDay tdt_X12_goDay := by unfold DT; decide +kernel
abbrev M_X12_takeThree : MI := (yX12_takeThree, cX12_takeThree, 4, none)
def tdt_X12_takeThree : List (Nat × Instr × Nat × Nat) := [(0, .iconst 0, 1, 1), (1, .istore_n 2, 1, 2), (2, .iconst 0, 1, 3), (3, .istore_n 3, 1, 4), (4, .iload_n 3, 1, 5), (5, .bipush 9, 2, 7), (7, .if_icmp .ge 35, 3, 10), (10, .iload_n 1, 1, 11), (11, .iload_n 3, 1, 12), (12, .ishr, 1, 13), (13, .iconst 1, 1, 14), (14, .iand, 1, 15), (15, .iconst 1, 1, 16), (16, .if_icmp .ne 20, 3, 19), (19, .aload_n 0, 1, 20), (20, .getfield 27, 3, 23), (23, .iload_n 2, 1, 24), (24, .iload_n 3, 1, 25), (25, .iastore, 1, 26), (26, .aload_n 0, 1, 27), (27, .getfield 30, 3, 30), (30, .iload_n 2, 1, 31), (31, .iconst 0, 1, 32), (32, .iastore, 1, 33), (33, .iinc 2 1, 3, 36), (36, .iinc 3 1, 3, 39), (39, .goto (-35), 3, 42), (42, .aload_n 0, 1, 43), (43, .iconst 0, 1, 44), (44, .putfield 116, 3, 47), (47, .return_, 1, 48)]
set_option maxRecDepth 100000 in
theorem dt_X12_takeThree : DT cX12_takeThree tdt_X12_takeThree := by unfold DT; decide +kernel
theorem ff_X12_27 : FF RX12 27 12 6 := ⟨RX12, TX12, 29, tyX12, rfl, by decide, lay_12, rfl, Or.inl (tbl_in 955 (by decide +kernel) (by decide +kernel)), tyX12_ok, nmX12⟩
theorem sk_76 : SK[76]? = some (100, [3]) := rfl
theorem ff_X12_30 : FF RX12 30 12 7 := ⟨RX12, TX12, 29, tyX12, rfl, by decide, lay_12, rfl, Or.inl (tbl_in 956 (by decide +kernel) (by decide +kernel)), tyX12_ok, nmX12⟩
theorem sk_77 : SK[77]? = some (100, [3]) := rfl
theorem ff_X12_116 : FF RX12 116 12 9 := ⟨RX12, TX12, 29, tyX12, rfl, by decide, lay_12, rfl, Or.inl (tbl_in 958 (by decide +kernel) (by decide +kernel)), tyX12_ok, nmX12⟩
theorem fw_12_9 : FW 12 9 .int := ⟨_, rfl, by decide +kernel, by decide +kernel⟩
theorem cn_X12_takeThree : CFn M_X12_takeThree 1 := ⟨tbl_in 1112 (by decide +kernel) (by decide +kernel), tbl_in 121 (by decide +kernel) (by decide +kernel), by decide, by decide +kernel, by decide +kernel, by decide +kernel⟩
theorem cf_X12_142 : CFV RX12 142 M_X12_takeThree 1 := ⟨cn_X12_takeThree, Or.inl (tbl_in 1109 (by decide +kernel) (by decide +kernel)), tbl_in 1111 (by decide +kernel) (by decide +kernel), tbl_in 70 (by decide +kernel) (by decide +kernel)⟩
abbrev M_X12_stepTo : MI := (yX12_stepTo, cX12_stepTo, 3, none)
def tdt_X12_stepTo : List (Nat × Instr × Nat × Nat) := [(0, .iload_n 1, 1, 1), (1, .aload_n 0, 1, 2), (2, .getfield 116, 3, 5), (5, .isub, 1, 6), (6, .aload_n 0, 1, 7), (7, .invokevirtual 91, 3, 10), (10, .iadd, 1, 11), (11, .aload_n 0, 1, 12), (12, .invokevirtual 91, 3, 15), (15, .irem, 1, 16), (16, .istore_n 2, 1, 17), (17, .iload_n 2, 1, 18), (18, .ifCond .le 47, 3, 21), (21, .aload_n 0, 1, 22), (22, .iconst 2, 1, 23), (23, .iload_n 2, 1, 24), (24, .imul, 1, 25), (25, .aload_n 0, 1, 26), (26, .invokevirtual 91, 3, 29), (29, .if_icmp .gt 17, 3, 32), (32, .aload_n 0, 1, 33), (33, .getfield 116, 3, 36), (36, .iconst 1, 1, 37), (37, .iadd, 1, 38), (38, .aload_n 0, 1, 39), (39, .invokevirtual 91, 3, 42), (42, .irem, 1, 43), (43, .goto 19, 3, 46), (46, .aload_n 0, 1, 47), (47, .getfield 116, 3, 50), (50, .iconst 1, 1, 51), (51, .isub, 1, 52), (52, .aload_n 0, 1, 53), (53, .invokevirtual 91, 3, 56), (56, .iadd, 1, 57), (57, .aload_n 0, 1, 58), (58, .invokevirtual 91, 3, 61), (61, .irem, 1, 62), (62, .putfield 116, 3, 65), (65, .return_, 1, 66)]
set_option maxRecDepth 100000 in
theorem dt_X12_stepTo : DT cX12_stepTo tdt_X12_stepTo := by unfold DT; decide +kernel
theorem cn_X12_stepTo : CFn M_X12_stepTo 1 := ⟨tbl_in 1148 (by decide +kernel) (by decide +kernel), tbl_in 121 (by decide +kernel) (by decide +kernel), by decide, by decide +kernel, by decide +kernel, by decide +kernel⟩
theorem cf_X12_149 : CFV RX12 149 M_X12_stepTo 1 := ⟨cn_X12_stepTo, Or.inl (tbl_in 1145 (by decide +kernel) (by decide +kernel)), tbl_in 1147 (by decide +kernel) (by decide +kernel), tbl_in 79 (by decide +kernel) (by decide +kernel)⟩
abbrev M_X12_isFast : MI := (yX12_isFast, cX12_isFast, 1, (some .boolean))
def tdt_X12_isFast : List (Nat × Instr × Nat × Nat) := [(0, .aload_n 0, 1, 1), (1, .aload_n 0, 1, 2), (2, .getfield 27, 3, 5), (5, .iconst 0, 1, 6), (6, .iaload, 1, 7), (7, .iconst 1, 1, 8), (8, .invokevirtual 82, 3, 11), (11, .iconst 5, 1, 12), (12, .if_icmp .lt 37, 3, 15), (15, .aload_n 0, 1, 16), (16, .aload_n 0, 1, 17), (17, .getfield 27, 3, 20), (20, .iconst 1, 1, 21), (21, .iaload, 1, 22), (22, .iconst 1, 1, 23), (23, .invokevirtual 82, 3, 26), (26, .iconst 5, 1, 27), (27, .if_icmp .lt 22, 3, 30), (30, .aload_n 0, 1, 31), (31, .aload_n 0, 1, 32), (32, .getfield 27, 3, 35), (35, .iconst 2, 1, 36), (36, .iaload, 1, 37), (37, .iconst 1, 1, 38), (38, .invokevirtual 82, 3, 41), (41, .iconst 5, 1, 42), (42, .if_icmp .lt 7, 3, 45), (45, .iconst 1, 1, 46), (46, .goto 4, 3, 49), (49, .iconst 0, 1, 50), (50, .ireturn, 1, 51)]
set_option maxRecDepth 100000 in
theorem dt_X12_isFast : DT cX12_isFast tdt_X12_isFast := by unfold DT; decide +kernel
theorem cn_X12_isFast : CFn M_X12_isFast 0 := ⟨tbl_in 1152 (by decide +kernel) (by decide +kernel), tbl_in 121 (by decide +kernel) (by decide +kernel), by decide, by decide +kernel, by decide +kernel, by decide +kernel⟩
theorem cf_X12_152 : CFV RX12 152 M_X12_isFast 0 := ⟨cn_X12_isFast, Or.inl (tbl_in 1149 (by decide +kernel) (by decide +kernel)), tbl_in 1151 (by decide +kernel) (by decide +kernel), tbl_in 80 (by decide +kernel) (by decide +kernel)⟩
abbrev M_X12_doAll : MI := (yX12_doAll, cX12_doAll, 5, (some .int))
def tdt_X12_doAll : List (Nat × Instr × Nat × Nat) := [(0, .iconst 0, 1, 1), (1, .istore_n 2, 1, 2), (2, .iconst 0, 1, 3), (3, .istore_n 3, 1, 4), (4, .iload_n 3, 1, 5), (5, .iconst 3, 1, 6), (6, .if_icmp .ge 80, 3, 9), (9, .iconst 0, 1, 10), (10, .istore 4, 2, 12), (12, .iload 4, 2, 14), (14, .aload_n 0, 1, 15), (15, .aload_n 0, 1, 16), (16, .getfield 27, 3, 19), (19, .iload_n 3, 1, 20), (20, .iaload, 1, 21), (21, .iconst 2, 1, 22), (22, .invokevirtual 82, 3, 25), (25, .if_icmp .ge 55, 3, 28), (28, .aload_n 0, 1, 29), (29, .iload_n 3, 1, 30), (30, .iload 4, 2, 32), (32, .iload_n 1, 1, 33), (33, .invokevirtual 123, 3, 36), (36, .ifCond .eq 38, 3, 39), (39, .aload_n 0, 1, 40), (40, .aload_n 0, 1, 41), (41, .getfield 27, 3, 44), (44, .iload_n 3, 1, 45), (45, .iaload, 1, 46), (46, .iload 4, 2, 48), (48, .invokevirtual 130, 3, 51), (51, .aload_n 0, 1, 52), (52, .getfield 116, 3, 55), (55, .if_icmp .ne 19, 3, 58), (58, .aload_n 0, 1, 59), (59, .getfield 30, 3, 62), (62, .iload_n 3, 1, 63), (63, .dup2, 1, 64), (64, .iaload, 1, 65), (65, .iconst 1, 1, 66), (66, .iload 4, 2, 68), (68, .ishl, 1, 69), (69, .ior, 1, 70), (70, .iastore, 1, 71), (71, .iinc 2 1, 3, 74), (74, .iinc 4 1, 3, 77), (77, .goto (-65), 3, 80), (80, .iinc 3 1, 3, 83), (83, .goto (-79), 3, 86), (86, .iload_n 2, 1, 87), (87, .ireturn, 1, 88)]
set_option maxRecDepth 100000 in
theorem dt_X12_doAll : DT cX12_doAll tdt_X12_doAll := by unfold DT; decide +kernel
abbrev M_X12_isOpen : MI := (yX12_isOpen, cX12_isOpen, 4, (some .boolean))
def tdt_X12_isOpen : List (Nat × Instr × Nat × Nat) := [(0, .aload_n 0, 1, 1), (1, .getfield 30, 3, 4), (4, .iload_n 1, 1, 5), (5, .iaload, 1, 6), (6, .iload_n 2, 1, 7), (7, .ishr, 1, 8), (8, .iconst 1, 1, 9), (9, .iand, 1, 10), (10, .ifCond .ne 22, 3, 13), (13, .aload_n 0, 1, 14), (14, .aload_n 0, 1, 15), (15, .getfield 27, 3, 18), (18, .iload_n 1, 1, 19), (19, .iaload, 1, 20), (20, .iload_n 2, 1, 21), (21, .invokevirtual 120, 3, 24), (24, .iload_n 3, 1, 25), (25, .if_icmp .lt 7, 3, 28), (28, .iconst 1, 1, 29), (29, .goto 4, 3, 32), (32, .iconst 0, 1, 33), (33, .ireturn, 1, 34)]
set_option maxRecDepth 100000 in
theorem dt_X12_isOpen : DT cX12_isOpen tdt_X12_isOpen := by unfold DT; decide +kernel
abbrev M_X12_hourOf : MI := (yX12_hourOf, cX12_hourOf, 3, (some .int))
def tdt_X12_hourOf : List (Nat × Instr × Nat × Nat) := [(0, .aload_n 0, 1, 1), (1, .iload_n 1, 1, 2), (2, .iconst 3, 1, 3), (3, .iconst 2, 1, 4), (4, .iload_n 2, 1, 5), (5, .imul, 1, 6), (6, .iadd, 1, 7), (7, .iconst 1, 1, 8), (8, .iadd, 1, 9), (9, .invokevirtual 82, 3, 12), (12, .ireturn, 1, 13)]
set_option maxRecDepth 100000 in
theorem dt_X12_hourOf : DT cX12_hourOf tdt_X12_hourOf := by unfold DT; decide +kernel
theorem cn_X12_hourOf : CFn M_X12_hourOf 2 := ⟨tbl_in 1124 (by decide +kernel) (by decide +kernel), tbl_in 121 (by decide +kernel) (by decide +kernel), by decide, by decide +kernel, by decide +kernel, by decide +kernel⟩
theorem cf_X12_120 : CFV RX12 120 M_X12_hourOf 2 := ⟨cn_X12_hourOf, Or.inl (tbl_in 1121 (by decide +kernel) (by decide +kernel)), tbl_in 1123 (by decide +kernel) (by decide +kernel), tbl_in 73 (by decide +kernel) (by decide +kernel)⟩
theorem cn_X12_isOpen : CFn M_X12_isOpen 3 := ⟨tbl_in 1128 (by decide +kernel) (by decide +kernel), tbl_in 121 (by decide +kernel) (by decide +kernel), by decide, by decide +kernel, by decide +kernel, by decide +kernel⟩
theorem cf_X12_123 : CFV RX12 123 M_X12_isOpen 3 := ⟨cn_X12_isOpen, Or.inl (tbl_in 1125 (by decide +kernel) (by decide +kernel)), tbl_in 1127 (by decide +kernel) (by decide +kernel), tbl_in 74 (by decide +kernel) (by decide +kernel)⟩
abbrev M_X12_placeOf : MI := (yX12_placeOf, cX12_placeOf, 3, (some .int))
def tdt_X12_placeOf : List (Nat × Instr × Nat × Nat) := [(0, .aload_n 0, 1, 1), (1, .iload_n 1, 1, 2), (2, .iconst 3, 1, 3), (3, .iconst 2, 1, 4), (4, .iload_n 2, 1, 5), (5, .imul, 1, 6), (6, .iadd, 1, 7), (7, .invokevirtual 82, 3, 10), (10, .ireturn, 1, 11)]
set_option maxRecDepth 100000 in
theorem dt_X12_placeOf : DT cX12_placeOf tdt_X12_placeOf := by unfold DT; decide +kernel
theorem cn_X12_placeOf : CFn M_X12_placeOf 2 := ⟨tbl_in 1132 (by decide +kernel) (by decide +kernel), tbl_in 121 (by decide +kernel) (by decide +kernel), by decide, by decide +kernel, by decide +kernel, by decide +kernel⟩
theorem cf_X12_130 : CFV RX12 130 M_X12_placeOf 2 := ⟨cn_X12_placeOf, Or.inl (tbl_in 1129 (by decide +kernel) (by decide +kernel)), tbl_in 1131 (by decide +kernel) (by decide +kernel), tbl_in 75 (by decide +kernel) (by decide +kernel)⟩
theorem cn_X12_doAll : CFn M_X12_doAll 1 := ⟨tbl_in 1156 (by decide +kernel) (by decide +kernel), tbl_in 121 (by decide +kernel) (by decide +kernel), by decide, by decide +kernel, by decide +kernel, by decide +kernel⟩
theorem cf_X12_156 : CFV RX12 156 M_X12_doAll 1 := ⟨cn_X12_doAll, Or.inl (tbl_in 1153 (by decide +kernel) (by decide +kernel)), tbl_in 1155 (by decide +kernel) (by decide +kernel), tbl_in 81 (by decide +kernel) (by decide +kernel)⟩
theorem ff_X12_33 : FF RX12 33 12 8 := ⟨RX12, TX12, 29, tyX12, rfl, by decide, lay_12, rfl, Or.inl (tbl_in 957 (by decide +kernel) (by decide +kernel)), tyX12_ok, nmX12⟩
theorem sk_78 : SK[78]? = some (100, [10]) := rfl
theorem cn_X12_goDay : CFn M_X12_goDay 1 := ⟨tbl_in 1108 (by decide +kernel) (by decide +kernel), tbl_in 121 (by decide +kernel) (by decide +kernel), by decide, by decide +kernel, by decide +kernel, by decide +kernel⟩
theorem cf_X12_164 : CFV RX12 164 M_X12_goDay 1 := ⟨cn_X12_goDay, Or.inl (tbl_in 1105 (by decide +kernel) (by decide +kernel)), tbl_in 1107 (by decide +kernel) (by decide +kernel), tbl_in 69 (by decide +kernel) (by decide +kernel)⟩
abbrev M_X12_best : MI := (yX12_best, cX12_best, 5, (some .int))
def tdt_X12_best : List (Nat × Instr × Nat × Nat) := [(0, .aload_n 0, 1, 1), (1, .iload_n 1, 1, 2), (2, .invokevirtual 159, 3, 5), (5, .ifCond .ne 10, 3, 8), (8, .aload_n 0, 1, 9), (9, .bipush (-2), 2, 11), (11, .invokevirtual 88, 3, 14), (14, .ireturn, 1, 15), (15, .aload_n 0, 1, 16), (16, .iload_n 1, 1, 17), (17, .invokevirtual 142, 3, 20), (20, .iconst 0, 1, 21), (21, .istore_n 2, 1, 22), (22, .iload_n 2, 1, 23), (23, .sipush 24576, 3, 26), (26, .if_icmp .ge 31, 3, 29), (29, .aload_n 0, 1, 30), (30, .getfield 36, 3, 33), (33, .iload_n 2, 1, 34), (34, .iload_n 2, 1, 35), (35, .ifCond .ne 7, 3, 38), (38, .iconst 1, 1, 39), (39, .goto 4, 3, 42), (42, .iconst 0, 1, 43), (43, .bastore, 1, 44), (44, .aload_n 0, 1, 45), (45, .getfield 39, 3, 48), (48, .iload_n 2, 1, 49), (49, .iconst 0, 1, 50), (50, .bastore, 1, 51), (51, .iinc 2 1, 3, 54), (54, .goto (-32), 3, 57), (57, .iconst 0, 1, 58), (58, .istore_n 2, 1, 59), (59, .iload_n 2, 1, 60), (60, .bipush 10, 2, 62), (62, .if_icmp .ge 85, 3, 65), (65, .iconst 0, 1, 66), (66, .istore_n 3, 1, 67), (67, .iload_n 3, 1, 68), (68, .sipush 24576, 3, 71), (71, .if_icmp .ge 36, 3, 74), (74, .aload_n 0, 1, 75), (75, .getfield 36, 3, 78), (78, .iload_n 3, 1, 79), (79, .baload, 1, 80), (80, .ifCond .eq 21, 3, 83), (83, .aload_n 0, 1, 84), (84, .iload_n 3, 1, 85), (85, .iload_n 2, 1, 86), (86, .aload_n 0, 1, 87), (87, .invokevirtual 152, 3, 90), (90, .ifCond .eq 7, 3, 93), (93, .iconst 2, 1, 94), (94, .goto 4, 3, 97), (97, .iconst 1, 1, 98), (98, .invokevirtual 173, 3, 101), (101, .iinc 3 1, 3, 104), (104, .goto (-37), 3, 107), (107, .iconst 0, 1, 108), (108, .istore_n 3, 1, 109), (109, .iload_n 3, 1, 110), (110, .sipush 24576, 3, 113), (113, .if_icmp .ge 28, 3, 116), (116, .aload_n 0, 1, 117), (117, .getfield 36, 3, 120), (120, .iload_n 3, 1, 121), (121, .aload_n 0, 1, 122), (122, .getfield 39, 3, 125), (125, .iload_n 3, 1, 126), (126, .baload, 1, 127), (127, .bastore, 1, 128), (128, .aload_n 0, 1, 129), (129, .getfield 39, 3, 132), (132, .iload_n 3, 1, 133), (133, .iconst 0, 1, 134), (134, .bastore, 1, 135), (135, .iinc 3 1, 3, 138), (138, .goto (-29), 3, 141), (141, .iinc 2 1, 3, 144), (144, .goto (-85), 3, 147), (147, .iconst 0, 1, 148), (148, .istore_n 2, 1, 149), (149, .iconst 0, 1, 150), (150, .istore_n 3, 1, 151), (151, .iload_n 3, 1, 152), (152, .sipush 24576, 3, 155), (155, .if_icmp .ge 45, 3, 158), (158, .aload_n 0, 1, 159), (159, .getfield 36, 3, 162), (162, .iload_n 3, 1, 163), (163, .baload, 1, 164), (164, .ifCond .eq 14, 3, 167), (167, .iload_n 3, 1, 168), (168, .sipush 4096, 3, 171), (171, .irem, 1, 172), (172, .invokestatic 78, 3, 175), (175, .goto 4, 3, 178), (178, .iconst 0, 1, 179), (179, .istore 4, 2, 181), (181, .iload 4, 2, 183), (183, .iload_n 2, 1, 184), (184, .if_icmp .le 8, 3, 187), (187, .iload 4, 2, 189), (189, .goto 4, 3, 192), (192, .iload_n 2, 1, 193), (193, .istore_n 2, 1, 194), (194, .iinc 3 1, 3, 197), (197, .goto (-46), 3, 200), (200, .iload_n 2, 1, 201), (201, .ireturn, 1, 202)]
set_option maxRecDepth 100000 in
theorem dt_X12_best : DT cX12_best tdt_X12_best := by unfold DT; decide +kernel
theorem ks_24576 : (Int16.ofInt 24576).toInt32 = (24576 : Int32) := by decide +kernel
theorem ff_X12_36 : FF RX12 36 12 10 := ⟨RX12, TX12, 29, tyX12, rfl, by decide, lay_12, rfl, Or.inl (tbl_in 959 (by decide +kernel) (by decide +kernel)), tyX12_ok, nmX12⟩
theorem sk_79 : SK[79]? = some (101, [24576]) := rfl
theorem ff_X12_39 : FF RX12 39 12 11 := ⟨RX12, TX12, 29, tyX12, rfl, by decide, lay_12, rfl, Or.inl (tbl_in 960 (by decide +kernel) (by decide +kernel)), tyX12_ok, nmX12⟩
theorem sk_80 : SK[80]? = some (101, [24576]) := rfl
abbrev M_X12_goOn : MI := (yX12_goOn, cX12_goOn, 6, none)
def tdt_X12_goOn : List (Nat × Instr × Nat × Nat) := [(0, .iload_n 3, 1, 1), (1, .ineg, 1, 2), (2, .istore 4, 2, 4), (4, .iload 4, 2, 6), (6, .iload_n 3, 1, 7), (7, .if_icmp .gt 68, 3, 10), (10, .aload_n 0, 1, 11), (11, .iload_n 1, 1, 12), (12, .sipush 4096, 3, 15), (15, .irem, 1, 16), (16, .invokevirtual 167, 3, 19), (19, .aload_n 0, 1, 20), (20, .iload_n 1, 1, 21), (21, .sipush 4096, 3, 24), (24, .idiv, 1, 25), (25, .iload 4, 2, 27), (27, .iadd, 1, 28), (28, .iconst 2, 1, 29), (29, .aload_n 0, 1, 30), (30, .invokevirtual 91, 3, 33), (33, .imul, 1, 34), (34, .iadd, 1, 35), (35, .aload_n 0, 1, 36), (36, .invokevirtual 91, 3, 39), (39, .irem, 1, 40), (40, .putfield 116, 3, 43), (43, .aload_n 0, 1, 44), (44, .iload_n 2, 1, 45), (45, .invokevirtual 156, 3, 48), (48, .istore 5, 2, 50), (50, .aload_n 0, 1, 51), (51, .getfield 39, 3, 54), (54, .sipush 4096, 3, 57), (57, .aload_n 0, 1, 58), (58, .getfield 116, 3, 61), (61, .imul, 1, 62), (62, .aload_n 0, 1, 63), (63, .invokevirtual 170, 3, 66), (66, .iadd, 1, 67), (67, .iconst 1, 1, 68), (68, .bastore, 1, 69), (69, .iinc 4 1, 3, 72), (72, .goto (-68), 3, 75), (75, .return_, 1, 76)]
set_option maxRecDepth 100000 in
theorem dt_X12_goOn : DT cX12_goOn tdt_X12_goOn := by unfold DT; decide +kernel
theorem ks_4096 : (Int16.ofInt 4096).toInt32 = (4096 : Int32) := by decide +kernel
abbrev M_X12_takeDone : MI := (yX12_takeDone, cX12_takeDone, 2, none)
def tdt_X12_takeDone : List (Nat × Instr × Nat × Nat) := [(0, .aload_n 0, 1, 1), (1, .getfield 30, 3, 4), (4, .iconst 0, 1, 5), (5, .iload_n 1, 1, 6), (6, .bipush 15, 2, 8), (8, .iand, 1, 9), (9, .iastore, 1, 10), (10, .aload_n 0, 1, 11), (11, .getfield 30, 3, 14), (14, .iconst 1, 1, 15), (15, .iload_n 1, 1, 16), (16, .iconst 4, 1, 17), (17, .ishr, 1, 18), (18, .bipush 15, 2, 20), (20, .iand, 1, 21), (21, .iastore, 1, 22), (22, .aload_n 0, 1, 23), (23, .getfield 30, 3, 26), (26, .iconst 2, 1, 27), (27, .iload_n 1, 1, 28), (28, .bipush 8, 2, 30), (30, .ishr, 1, 31), (31, .bipush 15, 2, 33), (33, .iand, 1, 34), (34, .iastore, 1, 35), (35, .return_, 1, 36)]
set_option maxRecDepth 100000 in
theorem dt_X12_takeDone : DT cX12_takeDone tdt_X12_takeDone := by unfold DT; decide +kernel
theorem kb_15 : (Int8.ofInt 15).toInt32 = (15 : Int32) := by decide +kernel
theorem cn_X12_takeDone : CFn M_X12_takeDone 1 := ⟨tbl_in 1168 (by decide +kernel) (by decide +kernel), tbl_in 121 (by decide +kernel) (by decide +kernel), by decide, by decide +kernel, by decide +kernel, by decide +kernel⟩
theorem cf_X12_167 : CFV RX12 167 M_X12_takeDone 1 := ⟨cn_X12_takeDone, Or.inl (tbl_in 1165 (by decide +kernel) (by decide +kernel)), tbl_in 1167 (by decide +kernel) (by decide +kernel), tbl_in 83 (by decide +kernel) (by decide +kernel)⟩
abbrev M_X12_doneNow : MI := (yX12_doneNow, cX12_doneNow, 1, (some .int))
def tdt_X12_doneNow : List (Nat × Instr × Nat × Nat) := [(0, .aload_n 0, 1, 1), (1, .getfield 30, 3, 4), (4, .iconst 0, 1, 5), (5, .iaload, 1, 6), (6, .aload_n 0, 1, 7), (7, .getfield 30, 3, 10), (10, .iconst 1, 1, 11), (11, .iaload, 1, 12), (12, .iconst 4, 1, 13), (13, .ishl, 1, 14), (14, .ior, 1, 15), (15, .aload_n 0, 1, 16), (16, .getfield 30, 3, 19), (19, .iconst 2, 1, 20), (20, .iaload, 1, 21), (21, .bipush 8, 2, 23), (23, .ishl, 1, 24), (24, .ior, 1, 25), (25, .ireturn, 1, 26)]
set_option maxRecDepth 100000 in
theorem dt_X12_doneNow : DT cX12_doneNow tdt_X12_doneNow := by unfold DT; decide +kernel
theorem cn_X12_doneNow : CFn M_X12_doneNow 0 := ⟨tbl_in 1172 (by decide +kernel) (by decide +kernel), tbl_in 121 (by decide +kernel) (by decide +kernel), by decide, by decide +kernel, by decide +kernel, by decide +kernel⟩
theorem cf_X12_170 : CFV RX12 170 M_X12_doneNow 0 := ⟨cn_X12_doneNow, Or.inl (tbl_in 1169 (by decide +kernel) (by decide +kernel)), tbl_in 1171 (by decide +kernel) (by decide +kernel), tbl_in 84 (by decide +kernel) (by decide +kernel)⟩
theorem cn_X12_goOn : CFn M_X12_goOn 3 := ⟨tbl_in 1164 (by decide +kernel) (by decide +kernel), tbl_in 121 (by decide +kernel) (by decide +kernel), by decide, by decide +kernel, by decide +kernel, by decide +kernel⟩
theorem cf_X12_173 : CFV RX12 173 M_X12_goOn 3 := ⟨cn_X12_goOn, Or.inl (tbl_in 1161 (by decide +kernel) (by decide +kernel)), tbl_in 1163 (by decide +kernel) (by decide +kernel), tbl_in 82 (by decide +kernel) (by decide +kernel)⟩
abbrev M_X12_most : MI := (yX12_most, cX12_most, 5, (some .int))
def tdt_X12_most : List (Nat × Instr × Nat × Nat) := [(0, .iload_n 1, 1, 1), (1, .iconst (-1), 1, 2), (2, .if_icmp .eq 18, 3, 5), (5, .aload_n 0, 1, 6), (6, .iload_n 1, 1, 7), (7, .invokevirtual 105, 3, 10), (10, .ifCond .ne 10, 3, 13), (13, .aload_n 0, 1, 14), (14, .bipush (-10), 2, 16), (16, .invokevirtual 88, 3, 19), (19, .ireturn, 1, 20), (20, .aload_n 0, 1, 21), (21, .invokevirtual 183, 3, 24), (24, .ifCond .ne 10, 3, 27), (27, .aload_n 0, 1, 28), (28, .bipush (-20), 2, 30), (30, .invokevirtual 113, 3, 33), (33, .ireturn, 1, 34), (34, .iconst 0, 1, 35), (35, .istore_n 2, 1, 36), (36, .iload_n 2, 1, 37), (37, .iconst 1, 1, 38), (38, .aload_n 0, 1, 39), (39, .invokevirtual 70, 3, 42), (42, .ishl, 1, 43), (43, .if_icmp .ge 32, 3, 46), (46, .aload_n 0, 1, 47), (47, .getfield 45, 3, 50), (50, .iload_n 2, 1, 51), (51, .iload_n 2, 1, 52), (52, .invokestatic 78, 3, 55), (55, .iconst 3, 1, 56), (56, .if_icmp .ne 11, 3, 59), (59, .aload_n 0, 1, 60), (60, .iload_n 2, 1, 61), (61, .invokevirtual 164, 3, 64), (64, .goto 4, 3, 67), (67, .iconst 0, 1, 68), (68, .iastore, 1, 69), (69, .iinc 2 1, 3, 72), (72, .goto (-36), 3, 75), (75, .iconst (-1), 1, 76), (76, .istore_n 2, 1, 77), (77, .aload_n 0, 1, 78), (78, .invokevirtual 186, 3, 81), (81, .aload_n 0, 1, 82), (82, .invokevirtual 189, 3, 85), (85, .ifCond .eq 79, 3, 88), (88, .iconst 0, 1, 89), (89, .istore_n 3, 1, 90), (90, .iconst 0, 1, 91), (91, .istore 4, 2, 93), (93, .iload 4, 2, 95), (95, .aload_n 0, 1, 96), (96, .invokevirtual 70, 3, 99), (99, .iconst 3, 1, 100), (100, .idiv, 1, 101), (101, .if_icmp .ge 24, 3, 104), (104, .iload_n 3, 1, 105), (105, .aload_n 0, 1, 106), (106, .getfield 45, 3, 109), (109, .aload_n 0, 1, 110), (110, .getfield 42, 3, 113), (113, .iload 4, 2, 115), (115, .iaload, 1, 116), (116, .iaload, 1, 117), (117, .iadd, 1, 118), (118, .istore_n 3, 1, 119), (119, .iinc 4 1, 3, 122), (122, .goto (-29), 3, 125), (125, .iload_n 3, 1, 126), (126, .iload_n 2, 1, 127), (127, .if_icmp .le 34, 3, 130), (130, .iload_n 3, 1, 131), (131, .istore_n 2, 1, 132), (132, .iconst 0, 1, 133), (133, .istore 4, 2, 135), (135, .iload 4, 2, 137), (137, .iconst 3, 1, 138), (138, .if_icmp .ge 23, 3, 141), (141, .aload_n 0, 1, 142), (142, .getfield 48, 3, 145), (145, .iload 4, 2, 147), (147, .aload_n 0, 1, 148), (148, .getfield 42, 3, 151), (151, .iload 4, 2, 153), (153, .iaload, 1, 154), (154, .iastore, 1, 155), (155, .iinc 4 1, 3, 158), (158, .goto (-23), 3, 161), (161, .goto (-80), 3, 164), (164, .iconst (-1), 1, 165), (165, .istore_n 3, 1, 166), (166, .iconst 0, 1, 167), (167, .istore 4, 2, 169), (169, .iload 4, 2, 171), (171, .aload_n 0, 1, 172), (172, .invokevirtual 70, 3, 175), (175, .iconst 3, 1, 176), (176, .idiv, 1, 177), (177, .if_icmp .ge 41, 3, 180), (180, .iload_n 1, 1, 181), (181, .iconst (-1), 1, 182), (182, .if_icmp .eq 36, 3, 185), (185, .aload_n 0, 1, 186), (186, .getfield 48, 3, 189), (189, .iload 4, 2, 191), (191, .iaload, 1, 192), (192, .iload_n 1, 1, 193), (193, .ishr, 1, 194), (194, .iconst 1, 1, 195), (195, .iand, 1, 196), (196, .iconst 1, 1, 197), (197, .if_icmp .ne 13, 3, 200), (200, .aload_n 0, 1, 201), (201, .getfield 48, 3, 204), (204, .iload 4, 2, 206), (206, .iaload, 1, 207), (207, .goto 4, 3, 210), (210, .iload_n 3, 1, 211), (211, .istore_n 3, 1, 212), (212, .iinc 4 1, 3, 215), (215, .goto (-46), 3, 218), (218, .iload_n 1, 1, 219), (219, .iconst (-1), 1, 220), (220, .if_icmp .ne 7, 3, 223), (223, .iload_n 2, 1, 224), (224, .goto 4, 3, 227), (227, .iload_n 3, 1, 228), (228, .ireturn, 1, 229)]
set_option maxRecDepth 100000 in
theorem dt_X12_most : DT cX12_most tdt_X12_most := by unfold DT; decide +kernel
abbrev M_X12_areThrees : MI := (yX12_areThrees, cX12_areThrees, 1, (some .boolean))
def tdt_X12_areThrees : List (Nat × Instr × Nat × Nat) := [(0, .aload_n 0, 1, 1), (1, .invokevirtual 70, 3, 4), (4, .iconst 3, 1, 5), (5, .if_icmp .eq 21, 3, 8), (8, .aload_n 0, 1, 9), (9, .invokevirtual 70, 3, 12), (12, .bipush 6, 2, 14), (14, .if_icmp .eq 12, 3, 17), (17, .aload_n 0, 1, 18), (18, .invokevirtual 70, 3, 21), (21, .bipush 9, 2, 23), (23, .if_icmp .ne 7, 3, 26), (26, .iconst 1, 1, 27), (27, .goto 4, 3, 30), (30, .iconst 0, 1, 31), (31, .ireturn, 1, 32)]
set_option maxRecDepth 100000 in
theorem dt_X12_areThrees : DT cX12_areThrees tdt_X12_areThrees := by unfold DT; decide +kernel
theorem cn_X12_areThrees : CFn M_X12_areThrees 0 := ⟨tbl_in 1180 (by decide +kernel) (by decide +kernel), tbl_in 121 (by decide +kernel) (by decide +kernel), by decide, by decide +kernel, by decide +kernel, by decide +kernel⟩
theorem cf_X12_183 : CFV RX12 183 M_X12_areThrees 0 := ⟨cn_X12_areThrees, Or.inl (tbl_in 1177 (by decide +kernel) (by decide +kernel)), tbl_in 1179 (by decide +kernel) (by decide +kernel), tbl_in 85 (by decide +kernel) (by decide +kernel)⟩
theorem ff_X12_45 : FF RX12 45 12 13 := ⟨RX12, TX12, 29, tyX12, rfl, by decide, lay_12, rfl, Or.inl (tbl_in 962 (by decide +kernel) (by decide +kernel)), tyX12_ok, nmX12⟩
theorem sk_82 : SK[82]? = some (100, [512]) := rfl
abbrev M_X12_noThrees : MI := (yX12_noThrees, cX12_noThrees, 2, none)
def tdt_X12_noThrees : List (Nat × Instr × Nat × Nat) := [(0, .iconst 0, 1, 1), (1, .istore_n 1, 1, 2), (2, .iload_n 1, 1, 3), (3, .iconst 3, 1, 4), (4, .if_icmp .ge 16, 3, 7), (7, .aload_n 0, 1, 8), (8, .getfield 42, 3, 11), (11, .iload_n 1, 1, 12), (12, .iconst (-1), 1, 13), (13, .iastore, 1, 14), (14, .iinc 1 1, 3, 17), (17, .goto (-15), 3, 20), (20, .return_, 1, 21)]
set_option maxRecDepth 100000 in
theorem dt_X12_noThrees : DT cX12_noThrees tdt_X12_noThrees := by unfold DT; decide +kernel
theorem ff_X12_42 : FF RX12 42 12 12 := ⟨RX12, TX12, 29, tyX12, rfl, by decide, lay_12, rfl, Or.inl (tbl_in 961 (by decide +kernel) (by decide +kernel)), tyX12_ok, nmX12⟩
theorem sk_81 : SK[81]? = some (100, [3]) := rfl
theorem cn_X12_noThrees : CFn M_X12_noThrees 0 := ⟨tbl_in 1184 (by decide +kernel) (by decide +kernel), tbl_in 121 (by decide +kernel) (by decide +kernel), by decide, by decide +kernel, by decide +kernel, by decide +kernel⟩
theorem cf_X12_186 : CFV RX12 186 M_X12_noThrees 0 := ⟨cn_X12_noThrees, Or.inl (tbl_in 1181 (by decide +kernel) (by decide +kernel)), tbl_in 1183 (by decide +kernel) (by decide +kernel), tbl_in 86 (by decide +kernel) (by decide +kernel)⟩
abbrev M_X12_nextAll : MI := (yX12_nextAll, cX12_nextAll, 8, (some .boolean))
def tdt_X12_nextAll : List (Nat × Instr × Nat × Nat) := [(0, .iconst 1, 1, 1), (1, .aload_n 0, 1, 2), (2, .invokevirtual 70, 3, 5), (5, .ishl, 1, 6), (6, .iconst 1, 1, 7), (7, .isub, 1, 8), (8, .istore_n 1, 1, 9), (9, .aload_n 0, 1, 10), (10, .invokevirtual 70, 3, 13), (13, .iconst 3, 1, 14), (14, .idiv, 1, 15), (15, .istore_n 2, 1, 16), (16, .aload_n 0, 1, 17), (17, .getfield 42, 3, 20), (20, .iconst 0, 1, 21), (21, .iaload, 1, 22), (22, .iconst (-1), 1, 23), (23, .if_icmp .ne 7, 3, 26), (26, .iconst 1, 1, 27), (27, .goto 4, 3, 30), (30, .iconst 0, 1, 31), (31, .istore_n 3, 1, 32), (32, .iload_n 3, 1, 33), (33, .ifCond .eq 7, 3, 36), (36, .iconst 0, 1, 37), (37, .goto 6, 3, 40), (40, .iload_n 2, 1, 41), (41, .iconst 1, 1, 42), (42, .isub, 1, 43), (43, .istore 4, 2, 45), (45, .iconst 0, 1, 46), (46, .istore 5, 2, 48), (48, .iload 4, 2, 50), (50, .ifCond .lt 117, 3, 53), (53, .iload_n 1, 1, 54), (54, .istore 6, 2, 56), (56, .iconst 0, 1, 57), (57, .istore 7, 2, 59), (59, .iload 7, 2, 61), (61, .iload 4, 2, 63), (63, .if_icmp .ge 23, 3, 66), (66, .iload 6, 2, 68), (68, .aload_n 0, 1, 69), (69, .getfield 42, 3, 72), (72, .iload 7, 2, 74), (74, .iaload, 1, 75), (75, .iconst (-1), 1, 76), (76, .ixor, 1, 77), (77, .iand, 1, 78), (78, .istore 6, 2, 80), (80, .iinc 7 1, 3, 83), (83, .goto (-24), 3, 86), (86, .aload_n 0, 1, 87), (87, .getfield 42, 3, 90), (90, .iload 4, 2, 92), (92, .iaload, 1, 93), (93, .iconst (-1), 1, 94), (94, .if_icmp .ne 7, 3, 97), (97, .iconst 0, 1, 98), (98, .goto 12, 3, 101), (101, .aload_n 0, 1, 102), (102, .getfield 42, 3, 105), (105, .iload 4, 2, 107), (107, .iaload, 1, 108), (108, .iconst 1, 1, 109), (109, .iadd, 1, 110), (110, .istore 5, 2, 112), (112, .aload_n 0, 1, 113), (113, .getfield 42, 3, 116), (116, .iload 4, 2, 118), (118, .iload 6, 2, 120), (120, .iload 5, 2, 122), (122, .invokestatic 180, 3, 125), (125, .iastore, 1, 126), (126, .aload_n 0, 1, 127), (127, .getfield 42, 3, 130), (130, .iload 4, 2, 132), (132, .iaload, 1, 133), (133, .iconst (-1), 1, 134), (134, .if_icmp .ne 9, 3, 137), (137, .iinc 4 (-1), 3, 140), (140, .goto 24, 3, 143), (143, .iload 4, 2, 145), (145, .iload_n 2, 1, 146), (146, .iconst 1, 1, 147), (147, .isub, 1, 148), (148, .if_icmp .ne 5, 3, 151), (151, .iconst 1, 1, 152), (152, .ireturn, 1, 153), (153, .iinc 4 1, 3, 156), (156, .aload_n 0, 1, 157), (157, .getfield 42, 3, 160), (160, .iload 4, 2, 162), (162, .iconst (-1), 1, 163), (163, .iastore, 1, 164), (164, .goto (-116), 3, 167), (167, .iconst 0, 1, 168), (168, .ireturn, 1, 169)]
set_option maxRecDepth 100000 in
theorem dt_X12_nextAll : DT cX12_nextAll tdt_X12_nextAll := by unfold DT; decide +kernel
abbrev M_X12_nextThree : MI := (yX12_nextThree, cX12_nextThree, 4, (some .int))
def tdt_X12_nextThree : List (Nat × Instr × Nat × Nat) := [(0, .iload_n 1, 1, 1), (1, .istore_n 2, 1, 2), (2, .iconst 1, 1, 3), (3, .iload_n 0, 1, 4), (4, .invokestatic 177, 3, 7), (7, .ishl, 1, 8), (8, .istore_n 3, 1, 9), (9, .iload_n 2, 1, 10), (10, .iload_n 0, 1, 11), (11, .if_icmp .gt 31, 3, 14), (14, .iload_n 2, 1, 15), (15, .iload_n 0, 1, 16), (16, .iconst (-1), 1, 17), (17, .ixor, 1, 18), (18, .iand, 1, 19), (19, .ifCond .ne 17, 3, 22), (22, .iload_n 2, 1, 23), (23, .iload_n 3, 1, 24), (24, .iand, 1, 25), (25, .ifCond .eq 11, 3, 28), (28, .iload_n 2, 1, 29), (29, .invokestatic 78, 3, 32), (32, .iconst 3, 1, 33), (33, .if_icmp .eq 9, 3, 36), (36, .iinc 2 1, 3, 39), (39, .goto (-30), 3, 42), (42, .iload_n 2, 1, 43), (43, .iload_n 0, 1, 44), (44, .if_icmp .gt 7, 3, 47), (47, .iload_n 2, 1, 48), (48, .goto 4, 3, 51), (51, .iconst (-1), 1, 52), (52, .ireturn, 1, 53)]
set_option maxRecDepth 100000 in
theorem dt_X12_nextThree : DT cX12_nextThree tdt_X12_nextThree := by unfold DT; decide +kernel
abbrev M_X12_least : MI := (yX12_least, cX12_least, 2, (some .int))
def tdt_X12_least : List (Nat × Instr × Nat × Nat) := [(0, .iconst 0, 1, 1), (1, .istore_n 1, 1, 2), (2, .iload_n 0, 1, 3), (3, .iload_n 1, 1, 4), (4, .ishr, 1, 5), (5, .iconst 1, 1, 6), (6, .iand, 1, 7), (7, .ifCond .ne 9, 3, 10), (10, .iinc 1 1, 3, 13), (13, .goto (-11), 3, 16), (16, .iload_n 1, 1, 17), (17, .ireturn, 1, 18)]
set_option maxRecDepth 100000 in
theorem dt_X12_least : DT cX12_least tdt_X12_least := by unfold DT; decide +kernel
theorem cn_X12_least : CFn M_X12_least 1 := ⟨tbl_in 1194 (by decide +kernel) (by decide +kernel), tbl_in 121 (by decide +kernel) (by decide +kernel), by decide, by decide +kernel, by decide +kernel, by decide +kernel⟩
theorem cf_X12_177 : CFS RX12 177 M_X12_least 1 := ⟨cn_X12_least, Or.inl (tbl_in 1192 (by decide +kernel) (by decide +kernel)), tbl_in 1193 (by decide +kernel) (by decide +kernel)⟩
theorem cn_X12_nextThree : CFn M_X12_nextThree 2 := ⟨tbl_in 1191 (by decide +kernel) (by decide +kernel), tbl_in 121 (by decide +kernel) (by decide +kernel), by decide, by decide +kernel, by decide +kernel, by decide +kernel⟩
theorem cf_X12_180 : CFS RX12 180 M_X12_nextThree 2 := ⟨cn_X12_nextThree, Or.inl (tbl_in 1189 (by decide +kernel) (by decide +kernel)), tbl_in 1190 (by decide +kernel) (by decide +kernel)⟩
theorem cn_X12_nextAll : CFn M_X12_nextAll 0 := ⟨tbl_in 1188 (by decide +kernel) (by decide +kernel), tbl_in 121 (by decide +kernel) (by decide +kernel), by decide, by decide +kernel, by decide +kernel, by decide +kernel⟩
theorem cf_X12_189 : CFV RX12 189 M_X12_nextAll 0 := ⟨cn_X12_nextAll, Or.inl (tbl_in 1185 (by decide +kernel) (by decide +kernel)), tbl_in 1187 (by decide +kernel) (by decide +kernel), tbl_in 87 (by decide +kernel) (by decide +kernel)⟩
theorem ff_X12_48 : FF RX12 48 12 14 := ⟨RX12, TX12, 29, tyX12, rfl, by decide, lay_12, rfl, Or.inl (tbl_in 963 (by decide +kernel) (by decide +kernel)), tyX12_ok, nmX12⟩
theorem sk_83 : SK[83]? = some (100, [3]) := rfl
abbrev M_X12_lot : MI := (yX12_lot, cX12_lot, 12, (some .int))
def tdt_X12_lot : List (Nat × Instr × Nat × Nat) := [(0, .iload_n 1, 1, 1), (1, .i2l, 1, 2), (2, .lconst 0, 1, 3), (3, .ldc2_w 192, 3, 6), (6, .invokestatic 74, 3, 9), (9, .ifCond .eq 11, 3, 12), (12, .aload_n 0, 1, 13), (13, .iload_n 2, 1, 14), (14, .invokevirtual 105, 3, 17), (17, .ifCond .ne 10, 3, 20), (20, .aload_n 0, 1, 21), (21, .bipush (-2), 2, 23), (23, .invokevirtual 88, 3, 26), (26, .ireturn, 1, 27), (27, .aload_n 0, 1, 28), (28, .invokevirtual 183, 3, 31), (31, .ifCond .ne 10, 3, 34), (34, .aload_n 0, 1, 35), (35, .bipush (-3), 2, 37), (37, .invokevirtual 113, 3, 40), (40, .ireturn, 1, 41), (41, .iload_n 1, 1, 42), (42, .i2l, 1, 43), (43, .lstore_n 3, 1, 44), (44, .iconst 1, 1, 45), (45, .aload_n 0, 1, 46), (46, .invokevirtual 70, 3, 49), (49, .ishl, 1, 50), (50, .iconst 1, 1, 51), (51, .isub, 1, 52), (52, .istore 5, 2, 54), (54, .iconst (-1), 1, 55), (55, .istore 6, 2, 57), (57, .iload 5, 2, 59), (59, .ifCond .eq 141, 3, 62), (62, .iconst 1, 1, 63), (63, .iload 5, 2, 65), (65, .invokestatic 177, 3, 68), (68, .ishl, 1, 69), (69, .istore 7, 2, 71), (71, .iload 5, 2, 73), (73, .iload 7, 2, 75), (75, .iconst (-1), 1, 76), (76, .ixor, 1, 77), (77, .iand, 1, 78), (78, .istore 5, 2, 80), (80, .iconst 0, 1, 81), (81, .istore 8, 2, 83), (83, .iload 8, 2, 85), (85, .iconst 2, 1, 86), (86, .if_icmp .ge 92, 3, 89), (89, .lload_n 3, 1, 90), (90, .ldc2_w 194, 3, 93), (93, .lmul, 1, 94), (94, .ldc2_w 196, 3, 97), (97, .ladd, 1, 98), (98, .ldc2_w 198, 3, 101), (101, .lrem, 1, 102), (102, .lstore_n 3, 1, 103), (103, .lload_n 3, 1, 104), (104, .ldc2_w 200, 3, 107), (107, .ldiv, 1, 108), (108, .iload 5, 2, 110), (110, .invokestatic 78, 3, 113), (113, .i2l, 1, 114), (114, .lrem, 1, 115), (115, .l2i, 1, 116), (116, .istore 9, 2, 118), (118, .iload 5, 2, 120), (120, .istore 10, 2, 122), (122, .iconst 0, 1, 123), (123, .istore 11, 2, 125), (125, .iload 11, 2, 127), (127, .iload 9, 2, 129), (129, .if_icmp .ge 18, 3, 132), (132, .iload 10, 2, 134), (134, .iload 10, 2, 136), (136, .iconst 1, 1, 137), (137, .isub, 1, 138), (138, .iand, 1, 139), (139, .istore 10, 2, 141), (141, .iinc 11 1, 3, 144), (144, .goto (-19), 3, 147), (147, .iconst 1, 1, 148), (148, .iload 10, 2, 150), (150, .invokestatic 177, 3, 153), (153, .ishl, 1, 154), (154, .istore 11, 2, 156), (156, .iload 7, 2, 158), (158, .iload 11, 2, 160), (160, .ior, 1, 161), (161, .istore 7, 2, 163), (163, .iload 5, 2, 165), (165, .iload 11, 2, 167), (167, .iconst (-1), 1, 168), (168, .ixor, 1, 169), (169, .iand, 1, 170), (170, .istore 5, 2, 172), (172, .iinc 8 1, 3, 175), (175, .goto (-92), 3, 178), (178, .iload 7, 2, 180), (180, .iload_n 2, 1, 181), (181, .ishr, 1, 182), (182, .iconst 1, 1, 183), (183, .iand, 1, 184), (184, .iconst 1, 1, 185), (185, .if_icmp .ne 8, 3, 188), (188, .iload 7, 2, 190), (190, .goto 5, 3, 193), (193, .iload 6, 2, 195), (195, .istore 6, 2, 197), (197, .goto (-140), 3, 200), (200, .iload 6, 2, 202), (202, .ireturn, 1, 203)]
set_option maxRecDepth 100000 in
theorem dt_X12_lot : DT cX12_lot tdt_X12_lot := by unfold DT; decide +kernel
theorem cl_X12_192 : Cond.constantLong RX12 192 999999 ∈ tbl := tbl_in 1199 (by decide +kernel) (by decide +kernel)
theorem cl_X12_194 : Cond.constantLong RX12 194 1103515245 ∈ tbl := tbl_in 1200 (by decide +kernel) (by decide +kernel)
theorem cl_X12_196 : Cond.constantLong RX12 196 12345 ∈ tbl := tbl_in 1201 (by decide +kernel) (by decide +kernel)
theorem cl_X12_198 : Cond.constantLong RX12 198 2147483648 ∈ tbl := tbl_in 1202 (by decide +kernel) (by decide +kernel)
theorem cl_X12_200 : Cond.constantLong RX12 200 65536 ∈ tbl := tbl_in 1203 (by decide +kernel) (by decide +kernel)
abbrev M_X12_rows : MI := (yX12_rows, cX12_rows, 6, (some .long))
def tdt_X12_rows : List (Nat × Instr × Nat × Nat) := [(0, .iload_n 1, 1, 1), (1, .i2l, 1, 2), (2, .lconst 1, 1, 3), (3, .ldc2_w 94, 3, 6), (6, .invokestatic 74, 3, 9), (9, .ifCond .ne 11, 3, 12), (12, .aload_n 0, 1, 13), (13, .bipush (-2), 2, 15), (15, .invokevirtual 88, 3, 18), (18, .i2l, 1, 19), (19, .lreturn, 1, 20), (20, .aload_n 0, 1, 21), (21, .invokevirtual 183, 3, 24), (24, .ifCond .ne 11, 3, 27), (27, .aload_n 0, 1, 28), (28, .bipush (-3), 2, 30), (30, .invokevirtual 113, 3, 33), (33, .i2l, 1, 34), (34, .lreturn, 1, 35), (35, .aload_n 0, 1, 36), (36, .invokevirtual 208, 3, 39), (39, .iload_n 1, 1, 40), (40, .iconst 1, 1, 41), (41, .if_icmp .ne 9, 3, 44), (44, .aload_n 0, 1, 45), (45, .getfield 202, 3, 48), (48, .i2l, 1, 49), (49, .lreturn, 1, 50), (50, .lconst 0, 1, 51), (51, .lstore_n 2, 1, 52), (52, .iconst 0, 1, 53), (53, .istore 4, 2, 55), (55, .iload 4, 2, 57), (57, .aload_n 0, 1, 58), (58, .getfield 202, 3, 61), (61, .if_icmp .ge 81, 3, 64), (64, .iconst 0, 1, 65), (65, .istore 5, 2, 67), (67, .iload 5, 2, 69), (69, .aload_n 0, 1, 70), (70, .getfield 202, 3, 73), (73, .if_icmp .ge 63, 3, 76), (76, .aload_n 0, 1, 77), (77, .getfield 51, 3, 80), (80, .iload 4, 2, 82), (82, .laload, 1, 83), (83, .aload_n 0, 1, 84), (84, .getfield 51, 3, 87), (87, .iload 5, 2, 89), (89, .laload, 1, 90), (90, .land, 1, 91), (91, .lconst 0, 1, 92), (92, .lcmp, 1, 93), (93, .ifCond .ne 37, 3, 96), (96, .lload_n 2, 1, 97), (97, .iload_n 1, 1, 98), (98, .iconst 2, 1, 99), (99, .if_icmp .ne 7, 3, 102), (102, .lconst 1, 1, 103), (103, .goto 25, 3, 106), (106, .aload_n 0, 1, 107), (107, .aload_n 0, 1, 108), (108, .getfield 51, 3, 111), (111, .iload 4, 2, 113), (113, .laload, 1, 114), (114, .aload_n 0, 1, 115), (115, .getfield 51, 3, 118), (118, .iload 5, 2, 120), (120, .laload, 1, 121), (121, .lor, 1, 122), (122, .iload_n 1, 1, 123), (123, .iconst 2, 1, 124), (124, .isub, 1, 125), (125, .invokevirtual 211, 3, 128), (128, .ladd, 1, 129), (129, .lstore_n 2, 1, 130), (130, .iinc 5 1, 3, 133), (133, .goto (-66), 3, 136), (136, .iinc 4 1, 3, 139), (139, .goto (-84), 3, 142), (142, .lload_n 2, 1, 143), (143, .lreturn, 1, 144)]
set_option maxRecDepth 100000 in
theorem dt_X12_rows : DT cX12_rows tdt_X12_rows := by unfold DT; decide +kernel
abbrev M_X12_findWays : MI := (yX12_findWays, cX12_findWays, 4, none)
def tdt_X12_findWays : List (Nat × Instr × Nat × Nat) := [(0, .aload_n 0, 1, 1), (1, .iconst 0, 1, 2), (2, .putfield 202, 3, 5), (5, .aload_n 0, 1, 6), (6, .invokevirtual 186, 3, 9), (9, .aload_n 0, 1, 10), (10, .invokevirtual 189, 3, 13), (13, .ifCond .eq 112, 3, 16), (16, .lconst 0, 1, 17), (17, .lstore_n 1, 1, 18), (18, .iconst 0, 1, 19), (19, .istore_n 3, 1, 20), (20, .iload_n 3, 1, 21), (21, .aload_n 0, 1, 22), (22, .invokevirtual 70, 3, 25), (25, .iconst 3, 1, 26), (26, .idiv, 1, 27), (27, .if_icmp .ge 75, 3, 30), (30, .aload_n 0, 1, 31), (31, .aload_n 0, 1, 32), (32, .getfield 42, 3, 35), (35, .iload_n 3, 1, 36), (36, .iaload, 1, 37), (37, .invokevirtual 142, 3, 40), (40, .lload_n 1, 1, 41), (41, .lconst 1, 1, 42), (42, .aload_n 0, 1, 43), (43, .getfield 27, 3, 46), (46, .iconst 0, 1, 47), (47, .iaload, 1, 48), (48, .aload_n 0, 1, 49), (49, .getfield 27, 3, 52), (52, .iconst 1, 1, 53), (53, .iaload, 1, 54), (54, .invokestatic 205, 3, 57), (57, .lshl, 1, 58), (58, .lconst 1, 1, 59), (59, .aload_n 0, 1, 60), (60, .getfield 27, 3, 63), (63, .iconst 0, 1, 64), (64, .iaload, 1, 65), (65, .aload_n 0, 1, 66), (66, .getfield 27, 3, 69), (69, .iconst 2, 1, 70), (70, .iaload, 1, 71), (71, .invokestatic 205, 3, 74), (74, .lshl, 1, 75), (75, .lor, 1, 76), (76, .lconst 1, 1, 77), (77, .aload_n 0, 1, 78), (78, .getfield 27, 3, 81), (81, .iconst 1, 1, 82), (82, .iaload, 1, 83), (83, .aload_n 0, 1, 84), (84, .getfield 27, 3, 87), (87, .iconst 2, 1, 88), (88, .iaload, 1, 89), (89, .invokestatic 205, 3, 92), (92, .lshl, 1, 93), (93, .lor, 1, 94), (94, .lor, 1, 95), (95, .lstore_n 1, 1, 96), (96, .iinc 3 1, 3, 99), (99, .goto (-79), 3, 102), (102, .aload_n 0, 1, 103), (103, .getfield 51, 3, 106), (106, .aload_n 0, 1, 107), (107, .getfield 202, 3, 110), (110, .lload_n 1, 1, 111), (111, .lastore, 1, 112), (112, .aload_n 0, 1, 113), (113, .dup, 1, 114), (114, .getfield 202, 3, 117), (117, .iconst 1, 1, 118), (118, .iadd, 1, 119), (119, .putfield 202, 3, 122), (122, .goto (-113), 3, 125), (125, .return_, 1, 126)]
set_option maxRecDepth 100000 in
theorem dt_X12_findWays : DT cX12_findWays tdt_X12_findWays := by unfold DT; decide +kernel
theorem ff_X12_202 : FF RX12 202 12 16 := ⟨RX12, TX12, 29, tyX12, rfl, by decide, lay_12, rfl, Or.inl (tbl_in 965 (by decide +kernel) (by decide +kernel)), tyX12_ok, nmX12⟩
theorem fw_12_16 : FW 12 16 .int := ⟨_, rfl, by decide +kernel, by decide +kernel⟩
abbrev M_X12_pair : MI := (yX12_pair, cX12_pair, 2, (some .int))
def tdt_X12_pair : List (Nat × Instr × Nat × Nat) := [(0, .iload_n 1, 1, 1), (1, .iload_n 1, 1, 2), (2, .iconst 1, 1, 3), (3, .isub, 1, 4), (4, .imul, 1, 5), (5, .iconst 2, 1, 6), (6, .idiv, 1, 7), (7, .iload_n 0, 1, 8), (8, .iadd, 1, 9), (9, .ireturn, 1, 10)]
set_option maxRecDepth 100000 in
theorem dt_X12_pair : DT cX12_pair tdt_X12_pair := by unfold DT; decide +kernel
theorem cn_X12_pair : CFn M_X12_pair 2 := ⟨tbl_in 1214 (by decide +kernel) (by decide +kernel), tbl_in 121 (by decide +kernel) (by decide +kernel), by decide, by decide +kernel, by decide +kernel, by decide +kernel⟩
theorem cf_X12_205 : CFS RX12 205 M_X12_pair 2 := ⟨cn_X12_pair, Or.inl (tbl_in 1212 (by decide +kernel) (by decide +kernel)), tbl_in 1213 (by decide +kernel) (by decide +kernel)⟩
theorem ff_X12_51 : FF RX12 51 12 15 := ⟨RX12, TX12, 29, tyX12, rfl, by decide, lay_12, rfl, Or.inl (tbl_in 964 (by decide +kernel) (by decide +kernel)), tyX12_ok, nmX12⟩
theorem sk_84 : SK[84]? = some (102, [280]) := rfl
theorem cn_X12_findWays : CFn M_X12_findWays 0 := ⟨tbl_in 1211 (by decide +kernel) (by decide +kernel), tbl_in 121 (by decide +kernel) (by decide +kernel), by decide, by decide +kernel, by decide +kernel, by decide +kernel⟩
theorem cf_X12_208 : CFV RX12 208 M_X12_findWays 0 := ⟨cn_X12_findWays, Or.inl (tbl_in 1208 (by decide +kernel) (by decide +kernel)), tbl_in 1210 (by decide +kernel) (by decide +kernel), tbl_in 88 (by decide +kernel) (by decide +kernel)⟩
abbrev M_X12_more : MI := (yX12_more, cX12_more, 7, (some .long))
def tdt_X12_more : List (Nat × Instr × Nat × Nat) := [(0, .lconst 0, 1, 1), (1, .lstore 4, 2, 3), (3, .iconst 0, 1, 4), (4, .istore 6, 2, 6), (6, .iload 6, 2, 8), (8, .aload_n 0, 1, 9), (9, .getfield 202, 3, 12), (12, .if_icmp .ge 50, 3, 15), (15, .lload_n 1, 1, 16), (16, .aload_n 0, 1, 17), (17, .getfield 51, 3, 20), (20, .iload 6, 2, 22), (22, .laload, 1, 23), (23, .land, 1, 24), (24, .lconst 0, 1, 25), (25, .lcmp, 1, 26), (26, .ifCond .ne 30, 3, 29), (29, .lload 4, 2, 31), (31, .iload_n 3, 1, 32), (32, .iconst 1, 1, 33), (33, .if_icmp .ne 7, 3, 36), (36, .lconst 1, 1, 37), (37, .goto 16, 3, 40), (40, .aload_n 0, 1, 41), (41, .lload_n 1, 1, 42), (42, .aload_n 0, 1, 43), (43, .getfield 51, 3, 46), (46, .iload 6, 2, 48), (48, .laload, 1, 49), (49, .lor, 1, 50), (50, .invokevirtual 215, 3, 53), (53, .ladd, 1, 54), (54, .lstore 4, 2, 56), (56, .iinc 6 1, 3, 59), (59, .goto (-53), 3, 62), (62, .lload 4, 2, 64), (64, .lreturn, 1, 65)]
set_option maxRecDepth 100000 in
theorem dt_X12_more : DT cX12_more tdt_X12_more := by unfold DT; decide +kernel
abbrev M_X12_last : MI := (yX12_last, cX12_last, 6, (some .long))
def tdt_X12_last : List (Nat × Instr × Nat × Nat) := [(0, .lconst 0, 1, 1), (1, .lstore_n 3, 1, 2), (2, .iconst 0, 1, 3), (3, .istore 5, 2, 5), (5, .iload 5, 2, 7), (7, .aload_n 0, 1, 8), (8, .getfield 202, 3, 11), (11, .if_icmp .ge 31, 3, 14), (14, .lload_n 3, 1, 15), (15, .lload_n 1, 1, 16), (16, .aload_n 0, 1, 17), (17, .getfield 51, 3, 20), (20, .iload 5, 2, 22), (22, .laload, 1, 23), (23, .land, 1, 24), (24, .lconst 0, 1, 25), (25, .lcmp, 1, 26), (26, .ifCond .ne 7, 3, 29), (29, .lconst 1, 1, 30), (30, .goto 4, 3, 33), (33, .lconst 0, 1, 34), (34, .ladd, 1, 35), (35, .lstore_n 3, 1, 36), (36, .iinc 5 1, 3, 39), (39, .goto (-34), 3, 42), (42, .lload_n 3, 1, 43), (43, .lreturn, 1, 44)]
set_option maxRecDepth 100000 in
theorem dt_X12_last : DT cX12_last tdt_X12_last := by unfold DT; decide +kernel
theorem cn_X12_last : CFn M_X12_last 1 := ⟨tbl_in 1222 (by decide +kernel) (by decide +kernel), tbl_in 121 (by decide +kernel) (by decide +kernel), by decide, by decide +kernel, by decide +kernel, by decide +kernel⟩
theorem cf_X12_215 : CFV RX12 215 M_X12_last 1 := ⟨cn_X12_last, Or.inl (tbl_in 1219 (by decide +kernel) (by decide +kernel)), tbl_in 1221 (by decide +kernel) (by decide +kernel), tbl_in 90 (by decide +kernel) (by decide +kernel)⟩
theorem cn_X12_more : CFn M_X12_more 2 := ⟨tbl_in 1218 (by decide +kernel) (by decide +kernel), tbl_in 121 (by decide +kernel) (by decide +kernel), by decide, by decide +kernel, by decide +kernel, by decide +kernel⟩
theorem cf_X12_211 : CFV RX12 211 M_X12_more 2 := ⟨cn_X12_more, Or.inl (tbl_in 1215 (by decide +kernel) (by decide +kernel)), tbl_in 1217 (by decide +kernel) (by decide +kernel), tbl_in 89 (by decide +kernel) (by decide +kernel)⟩
abbrev M_X12_gain : MI := (yX12_gain, cX12_gain, 4, (some .int))
def tdt_X12_gain : List (Nat × Instr × Nat × Nat) := [(0, .iload_n 1, 1, 1), (1, .i2l, 1, 2), (2, .lconst 1, 1, 3), (3, .ldc2_w 219, 3, 6), (6, .invokestatic 74, 3, 9), (9, .ifCond .eq 15, 3, 12), (12, .iload_n 2, 1, 13), (13, .i2l, 1, 14), (14, .lconst 0, 1, 15), (15, .ldc2_w 221, 3, 18), (18, .invokestatic 74, 3, 21), (21, .ifCond .ne 10, 3, 24), (24, .aload_n 0, 1, 25), (25, .bipush (-2), 2, 27), (27, .invokevirtual 88, 3, 30), (30, .ireturn, 1, 31), (31, .aload_n 0, 1, 32), (32, .getfield 7, 3, 35), (35, .bipush 101, 2, 37), (37, .iload_n 1, 1, 38), (38, .iadd, 1, 39), (39, .iconst 1, 1, 40), (40, .isub, 1, 41), (41, .iaload, 1, 42), (42, .istore_n 3, 1, 43), (43, .aload_n 0, 1, 44), (44, .getfield 7, 3, 47), (47, .bipush 101, 2, 49), (49, .iload_n 1, 1, 50), (50, .iadd, 1, 51), (51, .iconst 1, 1, 52), (52, .isub, 1, 53), (53, .iload_n 2, 1, 54), (54, .iastore, 1, 55), (55, .iload_n 3, 1, 56), (56, .ireturn, 1, 57)]
set_option maxRecDepth 100000 in
theorem dt_X12_gain : DT cX12_gain tdt_X12_gain := by unfold DT; decide +kernel
theorem cl_X12_219 : Cond.constantLong RX12 219 7 ∈ tbl := tbl_in 1227 (by decide +kernel) (by decide +kernel)
theorem cl_X12_221 : Cond.constantLong RX12 221 99 ∈ tbl := tbl_in 1228 (by decide +kernel) (by decide +kernel)
theorem kb_101 : (Int8.ofInt 101).toInt32 = (101 : Int32) := by decide +kernel
abbrev M_X12_leaves : MI := (yX12_leaves, cX12_leaves, 6, (some .int))
def tdt_X12_leaves : List (Nat × Instr × Nat × Nat) := [(0, .iload_n 1, 1, 1), (1, .i2l, 1, 2), (2, .lconst 0, 1, 3), (3, .ldc2_w 221, 3, 6), (6, .invokestatic 74, 3, 9), (9, .ifCond .eq 27, 3, 12), (12, .iload_n 2, 1, 13), (13, .i2l, 1, 14), (14, .lconst 0, 1, 15), (15, .ldc2_w 221, 3, 18), (18, .invokestatic 74, 3, 21), (21, .ifCond .eq 15, 3, 24), (24, .iload_n 3, 1, 25), (25, .i2l, 1, 26), (26, .lconst 0, 1, 27), (27, .ldc2_w 221, 3, 30), (30, .invokestatic 74, 3, 33), (33, .ifCond .ne 10, 3, 36), (36, .aload_n 0, 1, 37), (37, .bipush (-2), 2, 39), (39, .invokevirtual 88, 3, 42), (42, .ireturn, 1, 43), (43, .iload_n 1, 1, 44), (44, .iload_n 2, 1, 45), (45, .iadd, 1, 46), (46, .iload_n 3, 1, 47), (47, .iadd, 1, 48), (48, .aload_n 0, 1, 49), (49, .bipush 7, 2, 51), (51, .invokevirtual 223, 3, 54), (54, .if_icmp .eq 6, 3, 57), (57, .bipush 7, 2, 59), (59, .ireturn, 1, 60), (60, .iconst 1, 1, 61), (61, .istore 4, 2, 63), (63, .iload 4, 2, 65), (65, .bipush 7, 2, 67), (67, .if_icmp .ge 49, 3, 70), (70, .iload 4, 2, 72), (72, .iconst 1, 1, 73), (73, .iand, 1, 74), (74, .iload_n 1, 1, 75), (75, .imul, 1, 76), (76, .iload 4, 2, 78), (78, .iconst 1, 1, 79), (79, .ishr, 1, 80), (80, .iconst 1, 1, 81), (81, .iand, 1, 82), (82, .iload_n 2, 1, 83), (83, .imul, 1, 84), (84, .iadd, 1, 85), (85, .iload 4, 2, 87), (87, .iconst 2, 1, 88), (88, .ishr, 1, 89), (89, .iconst 1, 1, 90), (90, .iand, 1, 91), (91, .iload_n 3, 1, 92), (92, .imul, 1, 93), (93, .iadd, 1, 94), (94, .istore 5, 2, 96), (96, .iload 5, 2, 98), (98, .aload_n 0, 1, 99), (99, .iload 4, 2, 101), (101, .invokevirtual 223, 3, 104), (104, .if_icmp .ge 6, 3, 107), (107, .iload 4, 2, 109), (109, .ireturn, 1, 110), (110, .iinc 4 1, 3, 113), (113, .goto (-50), 3, 116), (116, .iconst (-1), 1, 117), (117, .ireturn, 1, 118)]
set_option maxRecDepth 100000 in
theorem dt_X12_leaves : DT cX12_leaves tdt_X12_leaves := by unfold DT; decide +kernel
abbrev M_X12_gainOf : MI := (yX12_gainOf, cX12_gainOf, 2, (some .int))
def tdt_X12_gainOf : List (Nat × Instr × Nat × Nat) := [(0, .iload_n 1, 1, 1), (1, .ifCond .ne 7, 3, 4), (4, .iconst 0, 1, 5), (5, .goto 14, 3, 8), (8, .aload_n 0, 1, 9), (9, .getfield 7, 3, 12), (12, .bipush 101, 2, 14), (14, .iload_n 1, 1, 15), (15, .iadd, 1, 16), (16, .iconst 1, 1, 17), (17, .isub, 1, 18), (18, .iaload, 1, 19), (19, .ireturn, 1, 20)]
set_option maxRecDepth 100000 in
theorem dt_X12_gainOf : DT cX12_gainOf tdt_X12_gainOf := by unfold DT; decide +kernel
theorem cn_X12_gainOf : CFn M_X12_gainOf 1 := ⟨tbl_in 1236 (by decide +kernel) (by decide +kernel), tbl_in 121 (by decide +kernel) (by decide +kernel), by decide, by decide +kernel, by decide +kernel, by decide +kernel⟩
theorem cf_X12_223 : CFV RX12 223 M_X12_gainOf 1 := ⟨cn_X12_gainOf, Or.inl (tbl_in 1233 (by decide +kernel) (by decide +kernel)), tbl_in 1235 (by decide +kernel) (by decide +kernel), tbl_in 91 (by decide +kernel) (by decide +kernel)⟩
abbrev M_X12_fair : MI := (yX12_fair, cX12_fair, 6, (some .int))
def tdt_X12_fair : List (Nat × Instr × Nat × Nat) := [(0, .iload_n 1, 1, 1), (1, .i2l, 1, 2), (2, .lconst 0, 1, 3), (3, .ldc2_w 229, 3, 6), (6, .invokestatic 74, 3, 9), (9, .ifCond .ne 10, 3, 12), (12, .aload_n 0, 1, 13), (13, .bipush (-2), 2, 15), (15, .invokevirtual 88, 3, 18), (18, .ireturn, 1, 19), (19, .iconst 1, 1, 20), (20, .iload_n 1, 1, 21), (21, .ishl, 1, 22), (22, .istore_n 2, 1, 23), (23, .iconst 0, 1, 24), (24, .istore_n 3, 1, 25), (25, .iconst 0, 1, 26), (26, .istore 4, 2, 28), (28, .iload 4, 2, 30), (30, .bipush 8, 2, 32), (32, .if_icmp .ge 57, 3, 35), (35, .iload 4, 2, 37), (37, .invokestatic 78, 3, 40), (40, .iconst 1, 1, 41), (41, .if_icmp .ne 7, 3, 44), (44, .iconst 1, 1, 45), (45, .goto 4, 3, 48), (48, .iconst 2, 1, 49), (49, .istore 5, 2, 51), (51, .iload_n 3, 1, 52), (52, .iload 4, 2, 54), (54, .iload_n 2, 1, 55), (55, .iand, 1, 56), (56, .ifCond .ne 24, 3, 59), (59, .iload 5, 2, 61), (61, .aload_n 0, 1, 62), (62, .iload 4, 2, 64), (64, .iload_n 2, 1, 65), (65, .ior, 1, 66), (66, .invokevirtual 223, 3, 69), (69, .aload_n 0, 1, 70), (70, .iload 4, 2, 72), (72, .invokevirtual 223, 3, 75), (75, .isub, 1, 76), (76, .imul, 1, 77), (77, .goto 4, 3, 80), (80, .iconst 0, 1, 81), (81, .iadd, 1, 82), (82, .istore_n 3, 1, 83), (83, .iinc 4 1, 3, 86), (86, .goto (-58), 3, 89), (89, .aload_n 0, 1, 90), (90, .iload_n 3, 1, 91), (91, .i2l, 1, 92), (92, .ldc2_w 86, 3, 95), (95, .invokevirtual 231, 3, 98), (98, .ireturn, 1, 99)]
set_option maxRecDepth 100000 in
theorem dt_X12_fair : DT cX12_fair tdt_X12_fair := by unfold DT; decide +kernel
theorem cl_X12_229 : Cond.constantLong RX12 229 2 ∈ tbl := tbl_in 1241 (by decide +kernel) (by decide +kernel)
abbrev M_X12_tell : MI := (yX12_tell, cX12_tell, 11, (some .int))
def tdt_X12_tell : List (Nat × Instr × Nat × Nat) := [(0, .lload_n 1, 1, 1), (1, .lconst 0, 1, 2), (2, .lcmp, 1, 3), (3, .ifCond .ge 8, 3, 6), (6, .lload_n 1, 1, 7), (7, .lneg, 1, 8), (8, .goto 4, 3, 11), (11, .lload_n 1, 1, 12), (12, .lstore 5, 2, 14), (14, .lload_n 3, 1, 15), (15, .lstore 7, 2, 17), (17, .lload 7, 2, 19), (19, .lconst 0, 1, 20), (20, .lcmp, 1, 21), (21, .ifCond .eq 21, 3, 24), (24, .lload 5, 2, 26), (26, .lload 7, 2, 28), (28, .lrem, 1, 29), (29, .lstore 9, 2, 31), (31, .lload 7, 2, 33), (33, .lstore 5, 2, 35), (35, .lload 9, 2, 37), (37, .lstore 7, 2, 39), (39, .goto (-22), 3, 42), (42, .aload_n 0, 1, 43), (43, .lload_n 1, 1, 44), (44, .lload 5, 2, 46), (46, .ldiv, 1, 47), (47, .putfield 226, 3, 50), (50, .aload_n 0, 1, 51), (51, .lload_n 3, 1, 52), (52, .lload 5, 2, 54), (54, .ldiv, 1, 55), (55, .putfield 23, 3, 58), (58, .iconst 1, 1, 59), (59, .ireturn, 1, 60)]
set_option maxRecDepth 100000 in
theorem dt_X12_tell : DT cX12_tell tdt_X12_tell := by unfold DT; decide +kernel
theorem ff_X12_226 : FF RX12 226 12 4 := ⟨RX12, TX12, 29, tyX12, rfl, by decide, lay_12, rfl, Or.inl (tbl_in 953 (by decide +kernel) (by decide +kernel)), tyX12_ok, nmX12⟩
theorem fw_12_4 : FW 12 4 .long := ⟨_, rfl, by decide +kernel, by decide +kernel⟩
theorem ff_X12_23 : FF RX12 23 12 5 := ⟨RX12, TX12, 29, tyX12, rfl, by decide, lay_12, rfl, Or.inl (tbl_in 954 (by decide +kernel) (by decide +kernel)), tyX12_ok, nmX12⟩
theorem fw_12_5 : FW 12 5 .long := ⟨_, rfl, by decide +kernel, by decide +kernel⟩
theorem cn_X12_tell : CFn M_X12_tell 2 := ⟨tbl_in 1245 (by decide +kernel) (by decide +kernel), tbl_in 121 (by decide +kernel) (by decide +kernel), by decide, by decide +kernel, by decide +kernel, by decide +kernel⟩
theorem cf_X12_231 : CFV RX12 231 M_X12_tell 2 := ⟨cn_X12_tell, Or.inl (tbl_in 1242 (by decide +kernel) (by decide +kernel)), tbl_in 1244 (by decide +kernel) (by decide +kernel), tbl_in 92 (by decide +kernel) (by decide +kernel)⟩
abbrev M_X12_week : MI := (yX12_week, cX12_week, 6, (some .int))
def tdt_X12_week : List (Nat × Instr × Nat × Nat) := [(0, .iload_n 1, 1, 1), (1, .ifCond .eq 11, 3, 4), (4, .aload_n 0, 1, 5), (5, .iload_n 1, 1, 6), (6, .invokevirtual 159, 3, 9), (9, .ifCond .eq 31, 3, 12), (12, .iload_n 2, 1, 13), (13, .ifCond .eq 11, 3, 16), (16, .aload_n 0, 1, 17), (17, .iload_n 2, 1, 18), (18, .invokevirtual 159, 3, 21), (21, .ifCond .eq 19, 3, 24), (24, .iload_n 3, 1, 25), (25, .ifCond .eq 11, 3, 28), (28, .aload_n 0, 1, 29), (29, .iload_n 3, 1, 30), (30, .invokevirtual 159, 3, 33), (33, .ifCond .eq 7, 3, 36), (36, .iconst 1, 1, 37), (37, .goto 4, 3, 40), (40, .iconst 0, 1, 41), (41, .istore 4, 2, 43), (43, .iload 4, 2, 45), (45, .ifCond .eq 21, 3, 48), (48, .iload_n 1, 1, 49), (49, .iload_n 2, 1, 50), (50, .iand, 1, 51), (51, .ifCond .ne 15, 3, 54), (54, .iload_n 1, 1, 55), (55, .iload_n 3, 1, 56), (56, .iand, 1, 57), (57, .ifCond .ne 9, 3, 60), (60, .iload_n 2, 1, 61), (61, .iload_n 3, 1, 62), (62, .iand, 1, 63), (63, .ifCond .eq 10, 3, 66), (66, .aload_n 0, 1, 67), (67, .bipush (-2), 2, 69), (69, .invokevirtual 88, 3, 72), (72, .ireturn, 1, 73), (73, .aload_n 0, 1, 74), (74, .getfield 7, 3, 77), (77, .bipush 108, 2, 79), (79, .iaload, 1, 80), (80, .istore 5, 2, 82), (82, .iload 5, 2, 84), (84, .bipush 6, 2, 86), (86, .if_icmp .ne 8, 3, 89), (89, .aload_n 0, 1, 90), (90, .invokevirtual 98, 3, 93), (93, .ireturn, 1, 94), (94, .aload_n 0, 1, 95), (95, .getfield 7, 3, 98), (98, .bipush 109, 2, 100), (100, .iconst 3, 1, 101), (101, .iload 5, 2, 103), (103, .imul, 1, 104), (104, .iadd, 1, 105), (105, .iload_n 1, 1, 106), (106, .iastore, 1, 107), (107, .aload_n 0, 1, 108), (108, .getfield 7, 3, 111), (111, .bipush 109, 2, 113), (113, .iconst 3, 1, 114), (114, .iload 5, 2, 116), (116, .imul, 1, 117), (117, .iadd, 1, 118), (118, .iconst 1, 1, 119), (119, .iadd, 1, 120), (120, .iload_n 2, 1, 121), (121, .iastore, 1, 122), (122, .aload_n 0, 1, 123), (123, .getfield 7, 3, 126), (126, .bipush 109, 2, 128), (128, .iconst 3, 1, 129), (129, .iload 5, 2, 131), (131, .imul, 1, 132), (132, .iadd, 1, 133), (133, .iconst 2, 1, 134), (134, .iadd, 1, 135), (135, .iload_n 3, 1, 136), (136, .iastore, 1, 137), (137, .aload_n 0, 1, 138), (138, .getfield 7, 3, 141), (141, .bipush 108, 2, 143), (143, .dup2, 1, 144), (144, .iaload, 1, 145), (145, .iconst 1, 1, 146), (146, .iadd, 1, 147), (147, .iastore, 1, 148), (148, .iload 5, 2, 150), (150, .ireturn, 1, 151)]
set_option maxRecDepth 100000 in
theorem dt_X12_week : DT cX12_week tdt_X12_week := by unfold DT; decide +kernel
theorem kb_109 : (Int8.ofInt 109).toInt32 = (109 : Int32) := by decide +kernel
abbrev M_X12_loose : MI := (yX12_loose, cX12_loose, 2, (some .int))
def tdt_X12_loose : List (Nat × Instr × Nat × Nat) := [(0, .aload_n 0, 1, 1), (1, .getfield 7, 3, 4), (4, .bipush 108, 2, 6), (6, .iaload, 1, 7), (7, .istore_n 1, 1, 8), (8, .aload_n 0, 1, 9), (9, .getfield 7, 3, 12), (12, .bipush 108, 2, 14), (14, .iconst 0, 1, 15), (15, .iastore, 1, 16), (16, .iload_n 1, 1, 17), (17, .ireturn, 1, 18)]
set_option maxRecDepth 100000 in
theorem dt_X12_loose : DT cX12_loose tdt_X12_loose := by unfold DT; decide +kernel
abbrev M_X12_knows : MI := (yX12_knows, cX12_knows, 3, (some .int))
def tdt_X12_knows : List (Nat × Instr × Nat × Nat) := [(0, .aload_n 0, 1, 1), (1, .iload_n 1, 1, 2), (2, .invokevirtual 235, 3, 5), (5, .ifCond .eq 20, 3, 8), (8, .iload_n 2, 1, 9), (9, .i2l, 1, 10), (10, .lconst 0, 1, 11), (11, .aload_n 0, 1, 12), (12, .getfield 7, 3, 15), (15, .bipush 108, 2, 17), (17, .iaload, 1, 18), (18, .i2l, 1, 19), (19, .invokestatic 74, 3, 22), (22, .ifCond .ne 10, 3, 25), (25, .aload_n 0, 1, 26), (26, .bipush (-2), 2, 28), (28, .invokevirtual 88, 3, 31), (31, .ireturn, 1, 32), (32, .aload_n 0, 1, 33), (33, .iload_n 1, 1, 34), (34, .iload_n 2, 1, 35), (35, .invokevirtual 238, 3, 38), (38, .ireturn, 1, 39)]
set_option maxRecDepth 100000 in
theorem dt_X12_knows : DT cX12_knows tdt_X12_knows := by unfold DT; decide +kernel
abbrev M_X12_isSet : MI := (yX12_isSet, cX12_isSet, 2, (some .boolean))
def tdt_X12_isSet : List (Nat × Instr × Nat × Nat) := [(0, .iload_n 1, 1, 1), (1, .i2l, 1, 2), (2, .lconst 0, 1, 3), (3, .iconst 1, 1, 4), (4, .aload_n 0, 1, 5), (5, .invokevirtual 70, 3, 8), (8, .ishl, 1, 9), (9, .iconst 1, 1, 10), (10, .isub, 1, 11), (11, .i2l, 1, 12), (12, .invokestatic 74, 3, 15), (15, .ireturn, 1, 16)]
set_option maxRecDepth 100000 in
theorem dt_X12_isSet : DT cX12_isSet tdt_X12_isSet := by unfold DT; decide +kernel
theorem cn_X12_isSet : CFn M_X12_isSet 1 := ⟨tbl_in 1261 (by decide +kernel) (by decide +kernel), tbl_in 121 (by decide +kernel) (by decide +kernel), by decide, by decide +kernel, by decide +kernel, by decide +kernel⟩
theorem cf_X12_235 : CFV RX12 235 M_X12_isSet 1 := ⟨cn_X12_isSet, Or.inl (tbl_in 1258 (by decide +kernel) (by decide +kernel)), tbl_in 1260 (by decide +kernel) (by decide +kernel), tbl_in 93 (by decide +kernel) (by decide +kernel)⟩
abbrev M_X12_known : MI := (yX12_known, cX12_known, 6, (some .int))
def tdt_X12_known : List (Nat × Instr × Nat × Nat) := [(0, .iload_n 1, 1, 1), (1, .istore_n 3, 1, 2), (2, .iconst 0, 1, 3), (3, .istore 4, 2, 5), (5, .iload 4, 2, 7), (7, .iconst 3, 1, 8), (8, .iload_n 2, 1, 9), (9, .imul, 1, 10), (10, .if_icmp .ge 37, 3, 13), (13, .aload_n 0, 1, 14), (14, .getfield 7, 3, 17), (17, .bipush 109, 2, 19), (19, .iload 4, 2, 21), (21, .iadd, 1, 22), (22, .iaload, 1, 23), (23, .istore 5, 2, 25), (25, .iload_n 3, 1, 26), (26, .iload_n 3, 1, 27), (27, .iload 5, 2, 29), (29, .iand, 1, 30), (30, .ifCond .eq 8, 3, 33), (33, .iload 5, 2, 35), (35, .goto 4, 3, 38), (38, .iconst 0, 1, 39), (39, .ior, 1, 40), (40, .istore_n 3, 1, 41), (41, .iinc 4 1, 3, 44), (44, .goto (-39), 3, 47), (47, .iload_n 3, 1, 48), (48, .ireturn, 1, 49)]
set_option maxRecDepth 100000 in
theorem dt_X12_known : DT cX12_known tdt_X12_known := by unfold DT; decide +kernel
theorem cn_X12_known : CFn M_X12_known 2 := ⟨tbl_in 1265 (by decide +kernel) (by decide +kernel), tbl_in 121 (by decide +kernel) (by decide +kernel), by decide, by decide +kernel, by decide +kernel, by decide +kernel⟩
theorem cf_X12_238 : CFV RX12 238 M_X12_known 2 := ⟨cn_X12_known, Or.inl (tbl_in 1262 (by decide +kernel) (by decide +kernel)), tbl_in 1264 (by decide +kernel) (by decide +kernel), tbl_in 94 (by decide +kernel) (by decide +kernel)⟩
abbrev M_X12_when : MI := (yX12_when, cX12_when, 4, (some .int))
def tdt_X12_when : List (Nat × Instr × Nat × Nat) := [(0, .aload_n 0, 1, 1), (1, .iload_n 1, 1, 2), (2, .invokevirtual 235, 3, 5), (5, .ifCond .eq 11, 3, 8), (8, .aload_n 0, 1, 9), (9, .iload_n 2, 1, 10), (10, .invokevirtual 105, 3, 13), (13, .ifCond .ne 10, 3, 16), (16, .aload_n 0, 1, 17), (17, .bipush (-2), 2, 19), (19, .invokevirtual 88, 3, 22), (22, .ireturn, 1, 23), (23, .iconst 0, 1, 24), (24, .istore_n 3, 1, 25), (25, .iload_n 3, 1, 26), (26, .aload_n 0, 1, 27), (27, .getfield 7, 3, 30), (30, .bipush 108, 2, 32), (32, .iaload, 1, 33), (33, .if_icmp .gt 25, 3, 36), (36, .aload_n 0, 1, 37), (37, .iload_n 1, 1, 38), (38, .iload_n 3, 1, 39), (39, .invokevirtual 238, 3, 42), (42, .iload_n 2, 1, 43), (43, .ishr, 1, 44), (44, .iconst 1, 1, 45), (45, .iand, 1, 46), (46, .iconst 1, 1, 47), (47, .if_icmp .ne 5, 3, 50), (50, .iload_n 3, 1, 51), (51, .ireturn, 1, 52), (52, .iinc 3 1, 3, 55), (55, .goto (-30), 3, 58), (58, .iconst (-1), 1, 59), (59, .ireturn, 1, 60)]
set_option maxRecDepth 100000 in
theorem dt_X12_when : DT cX12_when tdt_X12_when := by unfold DT; decide +kernel
abbrev M_X12_rope : MI := (yX12_rope, cX12_rope, 6, (some .int))
def tdt_X12_rope : List (Nat × Instr × Nat × Nat) := [(0, .iload_n 1, 1, 1), (1, .i2l, 1, 2), (2, .lconst 1, 1, 3), (3, .ldc2_w 248, 3, 6), (6, .invokestatic 74, 3, 9), (9, .ifCond .eq 27, 3, 12), (12, .iload_n 2, 1, 13), (13, .i2l, 1, 14), (14, .lconst 1, 1, 15), (15, .ldc2_w 248, 3, 18), (18, .invokestatic 74, 3, 21), (21, .ifCond .eq 15, 3, 24), (24, .iload_n 3, 1, 25), (25, .i2l, 1, 26), (26, .lconst 0, 1, 27), (27, .ldc2_w 229, 3, 30), (30, .invokestatic 74, 3, 33), (33, .ifCond .ne 10, 3, 36), (36, .aload_n 0, 1, 37), (37, .bipush (-2), 2, 39), (39, .invokevirtual 88, 3, 42), (42, .ireturn, 1, 43), (43, .iconst 1, 1, 44), (44, .istore 4, 2, 46), (46, .iload 4, 2, 48), (48, .iload_n 1, 1, 49), (49, .if_icmp .gt 42, 3, 52), (52, .iconst 1, 1, 53), (53, .istore 5, 2, 55), (55, .iload 5, 2, 57), (57, .iload_n 2, 1, 58), (58, .if_icmp .gt 27, 3, 61), (61, .aload_n 0, 1, 62), (62, .iload 4, 2, 64), (64, .iload 5, 2, 66), (66, .iconst 0, 1, 67), (67, .invokevirtual 250, 3, 70), (70, .aload_n 0, 1, 71), (71, .iload 4, 2, 73), (73, .iload 5, 2, 75), (75, .iconst 1, 1, 76), (76, .invokevirtual 250, 3, 79), (79, .iinc 5 1, 3, 82), (82, .goto (-27), 3, 85), (85, .iinc 4 1, 3, 88), (88, .goto (-42), 3, 91), (91, .iload_n 1, 1, 92), (92, .iload_n 2, 1, 93), (93, .iconst 0, 1, 94), (94, .invokestatic 241, 3, 97), (97, .istore 4, 2, 99), (99, .iload_n 3, 1, 100), (100, .ifCond .ne 13, 3, 103), (103, .aload_n 0, 1, 104), (104, .getfield 55, 3, 107), (107, .iload 4, 2, 109), (109, .iaload, 1, 110), (110, .goto 25, 3, 113), (113, .iload_n 3, 1, 114), (114, .iconst 1, 1, 115), (115, .if_icmp .ne 13, 3, 118), (118, .aload_n 0, 1, 119), (119, .getfield 58, 3, 122), (122, .iload 4, 2, 124), (124, .iaload, 1, 125), (125, .goto 10, 3, 128), (128, .aload_n 0, 1, 129), (129, .getfield 61, 3, 132), (132, .iload 4, 2, 134), (134, .iaload, 1, 135), (135, .ireturn, 1, 136)]
set_option maxRecDepth 100000 in
theorem dt_X12_rope : DT cX12_rope tdt_X12_rope := by unfold DT; decide +kernel
theorem cl_X12_248 : Cond.constantLong RX12 248 60 ∈ tbl := tbl_in 1274 (by decide +kernel) (by decide +kernel)
abbrev M_X12_layRope : MI := (yX12_layRope, cX12_layRope, 8, none)
def tdt_X12_layRope : List (Nat × Instr × Nat × Nat) := [(0, .iload_n 1, 1, 1), (1, .iload_n 2, 1, 2), (2, .iload_n 3, 1, 3), (3, .invokestatic 241, 3, 6), (6, .istore 4, 2, 8), (8, .iload_n 3, 1, 9), (9, .ifCond .ne 9, 3, 12), (12, .iload_n 1, 1, 13), (13, .iconst 1, 1, 14), (14, .isub, 1, 15), (15, .goto 6, 3, 18), (18, .iload_n 1, 1, 19), (19, .iconst 2, 1, 20), (20, .isub, 1, 21), (21, .istore 5, 2, 23), (23, .iload_n 3, 1, 24), (24, .ifCond .ne 9, 3, 27), (27, .iload_n 2, 1, 28), (28, .iconst 2, 1, 29), (29, .isub, 1, 30), (30, .goto 6, 3, 33), (33, .iload_n 2, 1, 34), (34, .iconst 1, 1, 35), (35, .isub, 1, 36), (36, .istore 6, 2, 38), (38, .iload 5, 2, 40), (40, .ifCond .le 8, 3, 43), (43, .iload 6, 2, 45), (45, .ifCond .gt 16, 3, 48), (48, .aload_n 0, 1, 49), (49, .iload 4, 2, 51), (51, .iload 5, 2, 53), (53, .iload 6, 2, 55), (55, .invokevirtual 245, 3, 58), (58, .goto 59, 3, 61), (61, .iload 5, 2, 63), (63, .iload 6, 2, 65), (65, .iconst 1, 1, 66), (66, .iload_n 3, 1, 67), (67, .isub, 1, 68), (68, .invokestatic 241, 3, 71), (71, .istore 7, 2, 73), (73, .aload_n 0, 1, 74), (74, .getfield 55, 3, 77), (77, .iload 4, 2, 79), (79, .aload_n 0, 1, 80), (80, .getfield 55, 3, 83), (83, .iload 7, 2, 85), (85, .iaload, 1, 86), (86, .iastore, 1, 87), (87, .aload_n 0, 1, 88), (88, .getfield 58, 3, 91), (91, .iload 4, 2, 93), (93, .aload_n 0, 1, 94), (94, .getfield 58, 3, 97), (97, .iload 7, 2, 99), (99, .iaload, 1, 100), (100, .iastore, 1, 101), (101, .aload_n 0, 1, 102), (102, .getfield 61, 3, 105), (105, .iload 4, 2, 107), (107, .aload_n 0, 1, 108), (108, .getfield 61, 3, 111), (111, .iload 7, 2, 113), (113, .iaload, 1, 114), (114, .iconst 1, 1, 115), (115, .iadd, 1, 116), (116, .iastore, 1, 117), (117, .iload_n 3, 1, 118), (118, .ifCond .ne 11, 3, 121), (121, .iload_n 1, 1, 122), (122, .iload_n 1, 1, 123), (123, .iconst 2, 1, 124), (124, .idiv, 1, 125), (125, .isub, 1, 126), (126, .goto 8, 3, 129), (129, .iload_n 2, 1, 130), (130, .iload_n 2, 1, 131), (131, .iconst 2, 1, 132), (132, .idiv, 1, 133), (133, .isub, 1, 134), (134, .istore 7, 2, 136), (136, .iload 7, 2, 138), (138, .iload_n 3, 1, 139), (139, .ifCond .ne 13, 3, 142), (142, .aload_n 0, 1, 143), (143, .getfield 55, 3, 146), (146, .iload 4, 2, 148), (148, .iaload, 1, 149), (149, .goto 10, 3, 152), (152, .aload_n 0, 1, 153), (153, .getfield 58, 3, 156), (156, .iload 4, 2, 158), (158, .iaload, 1, 159), (159, .if_icmp .le 29, 3, 162), (162, .aload_n 0, 1, 163), (163, .iload 4, 2, 165), (165, .iload_n 3, 1, 166), (166, .ifCond .ne 8, 3, 169), (169, .iload 7, 2, 171), (171, .goto 4, 3, 174), (174, .iload_n 1, 1, 175), (175, .iload_n 3, 1, 176), (176, .ifCond .ne 7, 3, 179), (179, .iload_n 2, 1, 180), (180, .goto 5, 3, 183), (183, .iload 7, 2, 185), (185, .invokevirtual 245, 3, 188), (188, .return_, 1, 189)]
set_option maxRecDepth 100000 in
theorem dt_X12_layRope : DT cX12_layRope tdt_X12_layRope := by unfold DT; decide +kernel
abbrev M_X12_ropeAt : MI := (yX12_ropeAt, cX12_ropeAt, 3, (some .int))
def tdt_X12_ropeAt : List (Nat × Instr × Nat × Nat) := [(0, .bipush 61, 2, 2), (2, .iload_n 0, 1, 3), (3, .imul, 1, 4), (4, .iload_n 1, 1, 5), (5, .iadd, 1, 6), (6, .iconst 2, 1, 7), (7, .imul, 1, 8), (8, .iload_n 2, 1, 9), (9, .iadd, 1, 10), (10, .ireturn, 1, 11)]
set_option maxRecDepth 100000 in
theorem dt_X12_ropeAt : DT cX12_ropeAt tdt_X12_ropeAt := by unfold DT; decide +kernel
theorem kb_61 : (Int8.ofInt 61).toInt32 = (61 : Int32) := by decide +kernel
theorem cn_X12_ropeAt : CFn M_X12_ropeAt 3 := ⟨tbl_in 1281 (by decide +kernel) (by decide +kernel), tbl_in 121 (by decide +kernel) (by decide +kernel), by decide, by decide +kernel, by decide +kernel, by decide +kernel⟩
theorem cf_X12_241 : CFS RX12 241 M_X12_ropeAt 3 := ⟨cn_X12_ropeAt, Or.inl (tbl_in 1279 (by decide +kernel) (by decide +kernel)), tbl_in 1280 (by decide +kernel) (by decide +kernel)⟩
abbrev M_X12_layEnd : MI := (yX12_layEnd, cX12_layEnd, 4, none)
def tdt_X12_layEnd : List (Nat × Instr × Nat × Nat) := [(0, .aload_n 0, 1, 1), (1, .getfield 55, 3, 4), (4, .iload_n 1, 1, 5), (5, .iload_n 2, 1, 6), (6, .ifCond .ge 7, 3, 9), (9, .iconst 0, 1, 10), (10, .goto 4, 3, 13), (13, .iload_n 2, 1, 14), (14, .iastore, 1, 15), (15, .aload_n 0, 1, 16), (16, .getfield 58, 3, 19), (19, .iload_n 1, 1, 20), (20, .iload_n 3, 1, 21), (21, .ifCond .ge 7, 3, 24), (24, .iconst 0, 1, 25), (25, .goto 4, 3, 28), (28, .iload_n 3, 1, 29), (29, .iastore, 1, 30), (30, .aload_n 0, 1, 31), (31, .getfield 61, 3, 34), (34, .iload_n 1, 1, 35), (35, .iconst 0, 1, 36), (36, .iastore, 1, 37), (37, .return_, 1, 38)]
set_option maxRecDepth 100000 in
theorem dt_X12_layEnd : DT cX12_layEnd tdt_X12_layEnd := by unfold DT; decide +kernel
theorem ff_X12_55 : FF RX12 55 12 17 := ⟨RX12, TX12, 29, tyX12, rfl, by decide, lay_12, rfl, Or.inl (tbl_in 966 (by decide +kernel) (by decide +kernel)), tyX12_ok, nmX12⟩
theorem sk_85 : SK[85]? = some (100, [7442]) := rfl
theorem ff_X12_58 : FF RX12 58 12 18 := ⟨RX12, TX12, 29, tyX12, rfl, by decide, lay_12, rfl, Or.inl (tbl_in 967 (by decide +kernel) (by decide +kernel)), tyX12_ok, nmX12⟩
theorem sk_86 : SK[86]? = some (100, [7442]) := rfl
theorem ff_X12_61 : FF RX12 61 12 19 := ⟨RX12, TX12, 29, tyX12, rfl, by decide, lay_12, rfl, Or.inl (tbl_in 968 (by decide +kernel) (by decide +kernel)), tyX12_ok, nmX12⟩
theorem sk_87 : SK[87]? = some (100, [7442]) := rfl
theorem cn_X12_layEnd : CFn M_X12_layEnd 3 := ⟨tbl_in 1285 (by decide +kernel) (by decide +kernel), tbl_in 121 (by decide +kernel) (by decide +kernel), by decide, by decide +kernel, by decide +kernel, by decide +kernel⟩
theorem cf_X12_245 : CFV RX12 245 M_X12_layEnd 3 := ⟨cn_X12_layEnd, Or.inl (tbl_in 1282 (by decide +kernel) (by decide +kernel)), tbl_in 1284 (by decide +kernel) (by decide +kernel), tbl_in 96 (by decide +kernel) (by decide +kernel)⟩
theorem cn_X12_layRope : CFn M_X12_layRope 3 := ⟨tbl_in 1278 (by decide +kernel) (by decide +kernel), tbl_in 121 (by decide +kernel) (by decide +kernel), by decide, by decide +kernel, by decide +kernel, by decide +kernel⟩
theorem cf_X12_250 : CFV RX12 250 M_X12_layRope 3 := ⟨cn_X12_layRope, Or.inl (tbl_in 1275 (by decide +kernel) (by decide +kernel)), tbl_in 1277 (by decide +kernel) (by decide +kernel), tbl_in 95 (by decide +kernel) (by decide +kernel)⟩
abbrev M_X12_sight : MI := (yX12_sight, cX12_sight, 5, (some .int))
def tdt_X12_sight : List (Nat × Instr × Nat × Nat) := [(0, .aload_n 0, 1, 1), (1, .iload_n 1, 1, 2), (2, .invokevirtual 105, 3, 5), (5, .ifCond .eq 31, 3, 8), (8, .iload_n 2, 1, 9), (9, .i2l, 1, 10), (10, .lconst 0, 1, 11), (11, .aload_n 0, 1, 12), (12, .invokevirtual 91, 3, 15), (15, .iconst 1, 1, 16), (16, .isub, 1, 17), (17, .i2l, 1, 18), (18, .invokestatic 74, 3, 21), (21, .ifCond .eq 15, 3, 24), (24, .iload_n 3, 1, 25), (25, .i2l, 1, 26), (26, .lconst 0, 1, 27), (27, .ldc2_w 96, 3, 30), (30, .invokestatic 74, 3, 33), (33, .ifCond .ne 10, 3, 36), (36, .aload_n 0, 1, 37), (37, .bipush (-2), 2, 39), (39, .invokevirtual 88, 3, 42), (42, .ireturn, 1, 43), (43, .aload_n 0, 1, 44), (44, .getfield 7, 3, 47), (47, .bipush 127, 2, 49), (49, .iaload, 1, 50), (50, .istore 4, 2, 52), (52, .iload 4, 2, 54), (54, .iconst 5, 1, 55), (55, .if_icmp .ne 8, 3, 58), (58, .aload_n 0, 1, 59), (59, .invokevirtual 98, 3, 62), (62, .ireturn, 1, 63), (63, .aload_n 0, 1, 64), (64, .getfield 7, 3, 67), (67, .sipush 128, 3, 70), (70, .iconst 3, 1, 71), (71, .iload 4, 2, 73), (73, .imul, 1, 74), (74, .iadd, 1, 75), (75, .iload_n 1, 1, 76), (76, .iastore, 1, 77), (77, .aload_n 0, 1, 78), (78, .getfield 7, 3, 81), (81, .sipush 128, 3, 84), (84, .iconst 3, 1, 85), (85, .iload 4, 2, 87), (87, .imul, 1, 88), (88, .iadd, 1, 89), (89, .iconst 1, 1, 90), (90, .iadd, 1, 91), (91, .iload_n 2, 1, 92), (92, .iastore, 1, 93), (93, .aload_n 0, 1, 94), (94, .getfield 7, 3, 97), (97, .sipush 128, 3, 100), (100, .iconst 3, 1, 101), (101, .iload 4, 2, 103), (103, .imul, 1, 104), (104, .iadd, 1, 105), (105, .iconst 2, 1, 106), (106, .iadd, 1, 107), (107, .iload_n 3, 1, 108), (108, .iastore, 1, 109), (109, .aload_n 0, 1, 110), (110, .getfield 7, 3, 113), (113, .bipush 127, 2, 115), (115, .dup2, 1, 116), (116, .iaload, 1, 117), (117, .iconst 1, 1, 118), (118, .iadd, 1, 119), (119, .iastore, 1, 120), (120, .iload 4, 2, 122), (122, .ireturn, 1, 123)]
set_option maxRecDepth 100000 in
theorem dt_X12_sight : DT cX12_sight tdt_X12_sight := by unfold DT; decide +kernel
theorem ks_128 : (Int16.ofInt 128).toInt32 = (128 : Int32) := by decide +kernel
abbrev M_X12_blind : MI := (yX12_blind, cX12_blind, 2, (some .int))
def tdt_X12_blind : List (Nat × Instr × Nat × Nat) := [(0, .aload_n 0, 1, 1), (1, .getfield 7, 3, 4), (4, .bipush 127, 2, 6), (6, .iaload, 1, 7), (7, .istore_n 1, 1, 8), (8, .aload_n 0, 1, 9), (9, .getfield 7, 3, 12), (12, .bipush 127, 2, 14), (14, .iconst 0, 1, 15), (15, .iastore, 1, 16), (16, .iload_n 1, 1, 17), (17, .ireturn, 1, 18)]
set_option maxRecDepth 100000 in
theorem dt_X12_blind : DT cX12_blind tdt_X12_blind := by unfold DT; decide +kernel
abbrev M_X12_which : MI := (yX12_which, cX12_which, 6, (some .int))
def tdt_X12_which : List (Nat × Instr × Nat × Nat) := [(0, .aload_n 0, 1, 1), (1, .iload_n 1, 1, 2), (2, .invokevirtual 105, 3, 5), (5, .ifCond .eq 8, 3, 8), (8, .iload_n 2, 1, 9), (9, .iconst (-1), 1, 10), (10, .if_icmp .ge 10, 3, 13), (13, .aload_n 0, 1, 14), (14, .bipush (-10), 2, 16), (16, .invokevirtual 88, 3, 19), (19, .ireturn, 1, 20), (20, .iconst 0, 1, 21), (21, .istore_n 3, 1, 22), (22, .bipush (-5), 2, 24), (24, .istore 4, 2, 26), (26, .iconst 0, 1, 27), (27, .istore 5, 2, 29), (29, .iload 5, 2, 31), (31, .iconst 1, 1, 32), (32, .aload_n 0, 1, 33), (33, .invokevirtual 70, 3, 36), (36, .ishl, 1, 37), (37, .if_icmp .ge 55, 3, 40), (40, .iload 5, 2, 42), (42, .invokestatic 78, 3, 45), (45, .iconst 3, 1, 46), (46, .if_icmp .ne 40, 3, 49), (49, .iload 5, 2, 51), (51, .iload_n 1, 1, 52), (52, .ishr, 1, 53), (53, .iconst 1, 1, 54), (54, .iand, 1, 55), (55, .iconst 1, 1, 56), (56, .if_icmp .ne 30, 3, 59), (59, .aload_n 0, 1, 60), (60, .iload_n 1, 1, 61), (61, .iload 5, 2, 63), (63, .invokevirtual 253, 3, 66), (66, .ifCond .eq 20, 3, 69), (69, .iload_n 3, 1, 70), (70, .iload_n 2, 1, 71), (71, .if_icmp .ne 8, 3, 74), (74, .iload 5, 2, 76), (76, .goto 5, 3, 79), (79, .iload 4, 2, 81), (81, .istore 4, 2, 83), (83, .iinc 3 1, 3, 86), (86, .iinc 5 1, 3, 89), (89, .goto (-60), 3, 92), (92, .iload_n 2, 1, 93), (93, .iconst (-1), 1, 94), (94, .if_icmp .ne 7, 3, 97), (97, .iload_n 3, 1, 98), (98, .goto 5, 3, 101), (101, .iload 4, 2, 103), (103, .ireturn, 1, 104)]
set_option maxRecDepth 100000 in
theorem dt_X12_which : DT cX12_which tdt_X12_which := by unfold DT; decide +kernel
abbrev M_X12_isSeen : MI := (yX12_isSeen, cX12_isSeen, 7, (some .boolean))
def tdt_X12_isSeen : List (Nat × Instr × Nat × Nat) := [(0, .aload_n 0, 1, 1), (1, .iload_n 2, 1, 2), (2, .invokevirtual 164, 3, 5), (5, .istore_n 3, 1, 6), (6, .iconst 1, 1, 7), (7, .istore 4, 2, 9), (9, .iconst 0, 1, 10), (10, .istore 5, 2, 12), (12, .iload 5, 2, 14), (14, .aload_n 0, 1, 15), (15, .getfield 7, 3, 18), (18, .bipush 127, 2, 20), (20, .iaload, 1, 21), (21, .if_icmp .ge 88, 3, 24), (24, .aload_n 0, 1, 25), (25, .getfield 7, 3, 28), (28, .sipush 128, 3, 31), (31, .iconst 3, 1, 32), (32, .iload 5, 2, 34), (34, .imul, 1, 35), (35, .iadd, 1, 36), (36, .iaload, 1, 37), (37, .iload_n 1, 1, 38), (38, .if_icmp .ne 7, 3, 41), (41, .iconst 1, 1, 42), (42, .goto 4, 3, 45), (45, .iconst 0, 1, 46), (46, .istore 6, 2, 48), (48, .iload 4, 2, 50), (50, .ifCond .eq 50, 3, 53), (53, .iload 6, 2, 55), (55, .ifCond .eq 41, 3, 58), (58, .aload_n 0, 1, 59), (59, .getfield 33, 3, 62), (62, .aload_n 0, 1, 63), (63, .getfield 7, 3, 66), (66, .sipush 128, 3, 69), (69, .iconst 3, 1, 70), (70, .iload 5, 2, 72), (72, .imul, 1, 73), (73, .iadd, 1, 74), (74, .iconst 2, 1, 75), (75, .iadd, 1, 76), (76, .iaload, 1, 77), (77, .iaload, 1, 78), (78, .aload_n 0, 1, 79), (79, .getfield 7, 3, 82), (82, .sipush 128, 3, 85), (85, .iconst 3, 1, 86), (86, .iload 5, 2, 88), (88, .imul, 1, 89), (89, .iadd, 1, 90), (90, .iconst 1, 1, 91), (91, .iadd, 1, 92), (92, .iaload, 1, 93), (93, .if_icmp .ne 7, 3, 96), (96, .iconst 1, 1, 97), (97, .goto 4, 3, 100), (100, .iconst 0, 1, 101), (101, .istore 4, 2, 103), (103, .iinc 5 1, 3, 106), (106, .goto (-94), 3, 109), (109, .iload 4, 2, 111), (111, .ireturn, 1, 112)]
set_option maxRecDepth 100000 in
theorem dt_X12_isSeen : DT cX12_isSeen tdt_X12_isSeen := by unfold DT; decide +kernel
theorem cn_X12_isSeen : CFn M_X12_isSeen 2 := ⟨tbl_in 1301 (by decide +kernel) (by decide +kernel), tbl_in 121 (by decide +kernel) (by decide +kernel), by decide, by decide +kernel, by decide +kernel, by decide +kernel⟩
theorem cf_X12_253 : CFV RX12 253 M_X12_isSeen 2 := ⟨cn_X12_isSeen, Or.inl (tbl_in 1298 (by decide +kernel) (by decide +kernel)), tbl_in 1300 (by decide +kernel) (by decide +kernel), tbl_in 97 (by decide +kernel) (by decide +kernel)⟩
abbrev M_X12_part : MI := (yX12_part, cX12_part, 2, (some .long))
def tdt_X12_part : List (Nat × Instr × Nat × Nat) := [(0, .iload_n 1, 1, 1), (1, .ifCond .ne 10, 3, 4), (4, .aload_n 0, 1, 5), (5, .getfield 226, 3, 8), (8, .goto 23, 3, 11), (11, .iload_n 1, 1, 12), (12, .iconst 1, 1, 13), (13, .if_icmp .ne 10, 3, 16), (16, .aload_n 0, 1, 17), (17, .getfield 23, 3, 20), (20, .goto 11, 3, 23), (23, .aload_n 0, 1, 24), (24, .sipush (-1000), 3, 27), (27, .invokevirtual 88, 3, 30), (30, .i2l, 1, 31), (31, .lreturn, 1, 32)]
set_option maxRecDepth 100000 in
theorem dt_X12_part : DT cX12_part tdt_X12_part := by unfold DT; decide +kernel
abbrev M_X12_image : MI := (yX12_image, cX12_image, 3, (some .int))
def tdt_X12_image : List (Nat × Instr × Nat × Nat) := [(0, .iload_n 1, 1, 1), (1, .i2l, 1, 2), (2, .lconst 0, 1, 3), (3, .lconst 1, 1, 4), (4, .invokestatic 74, 3, 7), (7, .ifCond .ne 10, 3, 10), (10, .aload_n 0, 1, 11), (11, .bipush (-2), 2, 13), (13, .invokevirtual 88, 3, 16), (16, .ireturn, 1, 17), (17, .iconst 0, 1, 18), (18, .istore_n 2, 1, 19), (19, .iload_n 2, 1, 20), (20, .sipush 143, 3, 23), (23, .if_icmp .ge 27, 3, 26), (26, .aload_n 0, 1, 27), (27, .getfield 13, 3, 30), (30, .sipush 143, 3, 33), (33, .iload_n 1, 1, 34), (34, .imul, 1, 35), (35, .iload_n 2, 1, 36), (36, .iadd, 1, 37), (37, .aload_n 0, 1, 38), (38, .getfield 7, 3, 41), (41, .iload_n 2, 1, 42), (42, .iaload, 1, 43), (43, .iastore, 1, 44), (44, .iinc 2 1, 3, 47), (47, .goto (-28), 3, 50), (50, .aload_n 0, 1, 51), (51, .getfield 16, 3, 54), (54, .iload_n 1, 1, 55), (55, .iconst 1, 1, 56), (56, .bastore, 1, 57), (57, .iconst 1, 1, 58), (58, .ireturn, 1, 59)]
set_option maxRecDepth 100000 in
theorem dt_X12_image : DT cX12_image tdt_X12_image := by unfold DT; decide +kernel
theorem ks_143 : (Int16.ofInt 143).toInt32 = (143 : Int32) := by decide +kernel
theorem ff_X12_13 : FF RX12 13 12 1 := ⟨RX12, TX12, 29, tyX12, rfl, by decide, lay_12, rfl, Or.inl (tbl_in 950 (by decide +kernel) (by decide +kernel)), tyX12_ok, nmX12⟩
theorem sk_73 : SK[73]? = some (100, [286]) := rfl
theorem ff_X12_16 : FF RX12 16 12 2 := ⟨RX12, TX12, 29, tyX12, rfl, by decide, lay_12, rfl, Or.inl (tbl_in 951 (by decide +kernel) (by decide +kernel)), tyX12_ok, nmX12⟩
theorem sk_74 : SK[74]? = some (101, [2]) := rfl
abbrev M_X12_from : MI := (yX12_from, cX12_from, 3, (some .int))
def tdt_X12_from : List (Nat × Instr × Nat × Nat) := [(0, .iload_n 1, 1, 1), (1, .i2l, 1, 2), (2, .lconst 0, 1, 3), (3, .lconst 1, 1, 4), (4, .invokestatic 74, 3, 7), (7, .ifCond .ne 10, 3, 10), (10, .aload_n 0, 1, 11), (11, .bipush (-2), 2, 13), (13, .invokevirtual 88, 3, 16), (16, .ireturn, 1, 17), (17, .aload_n 0, 1, 18), (18, .getfield 16, 3, 21), (21, .iload_n 1, 1, 22), (22, .baload, 1, 23), (23, .ifCond .ne 10, 3, 26), (26, .aload_n 0, 1, 27), (27, .bipush (-3), 2, 29), (29, .invokevirtual 113, 3, 32), (32, .ireturn, 1, 33), (33, .iconst 0, 1, 34), (34, .istore_n 2, 1, 35), (35, .iload_n 2, 1, 36), (36, .sipush 143, 3, 39), (39, .if_icmp .ge 27, 3, 42), (42, .aload_n 0, 1, 43), (43, .getfield 7, 3, 46), (46, .iload_n 2, 1, 47), (47, .aload_n 0, 1, 48), (48, .getfield 13, 3, 51), (51, .sipush 143, 3, 54), (54, .iload_n 1, 1, 55), (55, .imul, 1, 56), (56, .iload_n 2, 1, 57), (57, .iadd, 1, 58), (58, .iaload, 1, 59), (59, .iastore, 1, 60), (60, .iinc 2 1, 3, 63), (63, .goto (-28), 3, 66), (66, .iconst 1, 1, 67), (67, .ireturn, 1, 68)]
set_option maxRecDepth 100000 in
theorem dt_X12_from : DT cX12_from tdt_X12_from := by unfold DT; decide +kernel
abbrev M_X12_status : MI := (yX12_status, cX12_status, 2, (some .int))
def tdt_X12_status : List (Nat × Instr × Nat × Nat) := [(0, .iload_n 1, 1, 1), (1, .i2l, 1, 2), (2, .lconst 0, 1, 3), (3, .ldc2_w 229, 3, 6), (6, .invokestatic 74, 3, 9), (9, .ifCond .eq 12, 3, 12), (12, .aload_n 0, 1, 13), (13, .getfield 20, 3, 16), (16, .iload_n 1, 1, 17), (17, .iaload, 1, 18), (18, .goto 8, 3, 21), (21, .aload_n 0, 1, 22), (22, .iconst (-1), 1, 23), (23, .invokevirtual 88, 3, 26), (26, .ireturn, 1, 27)]
set_option maxRecDepth 100000 in
theorem dt_X12_status : DT cX12_status tdt_X12_status := by unfold DT; decide +kernel
abbrev M_X12_count : MI := (yX12_count, cX12_count, 2, (some .int))
def tdt_X12_count : List (Nat × Instr × Nat × Nat) := [(0, .iload_n 1, 1, 1), (1, .i2l, 1, 2), (2, .lconst 0, 1, 3), (3, .ldc2_w 322, 3, 6), (6, .invokestatic 74, 3, 9), (9, .ifCond .eq 11, 3, 12), (12, .aload_n 0, 1, 13), (13, .iload_n 1, 1, 14), (14, .invokevirtual 324, 3, 17), (17, .goto 9, 3, 20), (20, .aload_n 0, 1, 21), (21, .bipush (-2), 2, 23), (23, .invokevirtual 88, 3, 26), (26, .ireturn, 1, 27)]
set_option maxRecDepth 100000 in
theorem dt_X12_count : DT cX12_count tdt_X12_count := by unfold DT; decide +kernel
theorem cl_X12_322 : Cond.constantLong RX12 322 5 ∈ tbl := tbl_in 1374 (by decide +kernel) (by decide +kernel)
abbrev M_X12_counted : MI := (yX12_counted, cX12_counted, 2, (some .int))
def tdt_X12_counted : List (Nat × Instr × Nat × Nat) := [(0, .iload_n 1, 1, 1), (1, .tableswitch 66 0 4 #[35, 40, 45, 50, 58], 35, 36), (36, .aload_n 0, 1, 37), (37, .invokevirtual 91, 3, 40), (40, .ireturn, 1, 41), (41, .aload_n 0, 1, 42), (42, .invokevirtual 70, 3, 45), (45, .ireturn, 1, 46), (46, .aload_n 0, 1, 47), (47, .invokevirtual 319, 3, 50), (50, .ireturn, 1, 51), (51, .aload_n 0, 1, 52), (52, .getfield 7, 3, 55), (55, .bipush 108, 2, 57), (57, .iaload, 1, 58), (58, .ireturn, 1, 59), (59, .aload_n 0, 1, 60), (60, .getfield 7, 3, 63), (63, .bipush 127, 2, 65), (65, .iaload, 1, 66), (66, .ireturn, 1, 67), (67, .aload_n 0, 1, 68), (68, .getfield 259, 3, 71), (71, .ireturn, 1, 72)]
set_option maxRecDepth 100000 in
theorem dt_X12_counted : DT cX12_counted tdt_X12_counted := by unfold DT; decide +kernel
abbrev M_X12_allErrands : MI := (yX12_allErrands, cX12_allErrands, 3, (some .int))
def tdt_X12_allErrands : List (Nat × Instr × Nat × Nat) := [(0, .iconst 0, 1, 1), (1, .istore_n 1, 1, 2), (2, .iconst 0, 1, 3), (3, .istore_n 2, 1, 4), (4, .iload_n 2, 1, 5), (5, .aload_n 0, 1, 6), (6, .invokevirtual 70, 3, 9), (9, .if_icmp .ge 18, 3, 12), (12, .iload_n 1, 1, 13), (13, .aload_n 0, 1, 14), (14, .iload_n 2, 1, 15), (15, .iconst 2, 1, 16), (16, .invokevirtual 82, 3, 19), (19, .iadd, 1, 20), (20, .istore_n 1, 1, 21), (21, .iinc 2 1, 3, 24), (24, .goto (-20), 3, 27), (27, .iload_n 1, 1, 28), (28, .ireturn, 1, 29)]
set_option maxRecDepth 100000 in
theorem dt_X12_allErrands : DT cX12_allErrands tdt_X12_allErrands := by unfold DT; decide +kernel
theorem cn_X12_allErrands : CFn M_X12_allErrands 0 := ⟨tbl_in 1382 (by decide +kernel) (by decide +kernel), tbl_in 121 (by decide +kernel) (by decide +kernel), by decide, by decide +kernel, by decide +kernel, by decide +kernel⟩
theorem cf_X12_319 : CFV RX12 319 M_X12_allErrands 0 := ⟨cn_X12_allErrands, Or.inl (tbl_in 1379 (by decide +kernel) (by decide +kernel)), tbl_in 1381 (by decide +kernel) (by decide +kernel), tbl_in 106 (by decide +kernel) (by decide +kernel)⟩
theorem cn_X12_counted : CFn M_X12_counted 1 := ⟨tbl_in 1378 (by decide +kernel) (by decide +kernel), tbl_in 121 (by decide +kernel) (by decide +kernel), by decide, by decide +kernel, by decide +kernel, by decide +kernel⟩
theorem cf_X12_324 : CFV RX12 324 M_X12_counted 1 := ⟨cn_X12_counted, Or.inl (tbl_in 1375 (by decide +kernel) (by decide +kernel)), tbl_in 1377 (by decide +kernel) (by decide +kernel), tbl_in 105 (by decide +kernel) (by decide +kernel)⟩
abbrev M_X12_digest : MI := (yX12_digest, cX12_digest, 4, (some .long))
def tdt_X12_digest : List (Nat × Instr × Nat × Nat) := [(0, .ldc2_w 329, 3, 3), (3, .lstore_n 1, 1, 4), (4, .iconst 0, 1, 5), (5, .istore_n 3, 1, 6), (6, .iload_n 3, 1, 7), (7, .bipush 6, 2, 9), (9, .if_icmp .ge 22, 3, 12), (12, .ldc2_w 327, 3, 15), (15, .lload_n 1, 1, 16), (16, .lmul, 1, 17), (17, .aload_n 0, 1, 18), (18, .iload_n 3, 1, 19), (19, .invokevirtual 324, 3, 22), (22, .i2l, 1, 23), (23, .ladd, 1, 24), (24, .lstore_n 1, 1, 25), (25, .iinc 3 1, 3, 28), (28, .goto (-22), 3, 31), (31, .iconst 0, 1, 32), (32, .istore_n 3, 1, 33), (33, .iload_n 3, 1, 34), (34, .aload_n 0, 1, 35), (35, .invokevirtual 70, 3, 38), (38, .if_icmp .ge 31, 3, 41), (41, .aload_n 0, 1, 42), (42, .lload_n 1, 1, 43), (43, .iconst 2, 1, 44), (44, .bipush 11, 2, 46), (46, .iload_n 3, 1, 47), (47, .imul, 1, 48), (48, .iadd, 1, 49), (49, .iconst 3, 1, 50), (50, .iconst 2, 1, 51), (51, .aload_n 0, 1, 52), (52, .iload_n 3, 1, 53), (53, .iconst 2, 1, 54), (54, .invokevirtual 82, 3, 57), (57, .imul, 1, 58), (58, .iadd, 1, 59), (59, .invokevirtual 331, 3, 62), (62, .lstore_n 1, 1, 63), (63, .iinc 3 1, 3, 66), (66, .goto (-33), 3, 69), (69, .aload_n 0, 1, 70), (70, .lload_n 1, 1, 71), (71, .bipush 101, 2, 73), (73, .bipush 7, 2, 75), (75, .invokevirtual 331, 3, 78), (78, .lstore_n 1, 1, 79), (79, .aload_n 0, 1, 80), (80, .lload_n 1, 1, 81), (81, .bipush 109, 2, 83), (83, .iconst 3, 1, 84), (84, .aload_n 0, 1, 85), (85, .getfield 7, 3, 88), (88, .bipush 108, 2, 90), (90, .iaload, 1, 91), (91, .imul, 1, 92), (92, .invokevirtual 331, 3, 95), (95, .lstore_n 1, 1, 96), (96, .aload_n 0, 1, 97), (97, .lload_n 1, 1, 98), (98, .sipush 128, 3, 101), (101, .iconst 3, 1, 102), (102, .aload_n 0, 1, 103), (103, .getfield 7, 3, 106), (106, .bipush 127, 2, 108), (108, .iaload, 1, 109), (109, .imul, 1, 110), (110, .invokevirtual 331, 3, 113), (113, .lstore_n 1, 1, 114), (114, .ldc2_w 327, 3, 117), (117, .ldc2_w 327, 3, 120), (120, .lload_n 1, 1, 121), (121, .lmul, 1, 122), (122, .aload_n 0, 1, 123), (123, .getfield 226, 3, 126), (126, .ladd, 1, 127), (127, .lmul, 1, 128), (128, .aload_n 0, 1, 129), (129, .getfield 23, 3, 132), (132, .ladd, 1, 133), (133, .lreturn, 1, 134)]
set_option maxRecDepth 100000 in
theorem dt_X12_digest : DT cX12_digest tdt_X12_digest := by unfold DT; decide +kernel
theorem cl_X12_329 : Cond.constantLong RX12 329 769 ∈ tbl := tbl_in 1387 (by decide +kernel) (by decide +kernel)
theorem cl_X12_327 : Cond.constantLong RX12 327 31 ∈ tbl := tbl_in 1388 (by decide +kernel) (by decide +kernel)
abbrev M_X12_sums : MI := (yX12_sums, cX12_sums, 8, (some .long))
def tdt_X12_sums : List (Nat × Instr × Nat × Nat) := [(0, .lload_n 1, 1, 1), (1, .lstore 5, 2, 3), (3, .iconst 0, 1, 4), (4, .istore 7, 2, 6), (6, .iload 7, 2, 8), (8, .iload 4, 2, 10), (10, .if_icmp .ge 28, 3, 13), (13, .ldc2_w 327, 3, 16), (16, .lload 5, 2, 18), (18, .lmul, 1, 19), (19, .aload_n 0, 1, 20), (20, .getfield 7, 3, 23), (23, .iload_n 3, 1, 24), (24, .iload 7, 2, 26), (26, .iadd, 1, 27), (27, .iaload, 1, 28), (28, .i2l, 1, 29), (29, .ladd, 1, 30), (30, .lstore 5, 2, 32), (32, .iinc 7 1, 3, 35), (35, .goto (-29), 3, 38), (38, .lload 5, 2, 40), (40, .lreturn, 1, 41)]
set_option maxRecDepth 100000 in
theorem dt_X12_sums : DT cX12_sums tdt_X12_sums := by unfold DT; decide +kernel
theorem cn_X12_sums : CFn M_X12_sums 3 := ⟨tbl_in 1392 (by decide +kernel) (by decide +kernel), tbl_in 121 (by decide +kernel) (by decide +kernel), by decide, by decide +kernel, by decide +kernel, by decide +kernel⟩
theorem cf_X12_331 : CFV RX12 331 M_X12_sums 3 := ⟨cn_X12_sums, Or.inl (tbl_in 1389 (by decide +kernel) (by decide +kernel)), tbl_in 1391 (by decide +kernel) (by decide +kernel), tbl_in 107 (by decide +kernel) (by decide +kernel)⟩
abbrev M_X12_read : MI := (yX12_read, cX12_read, 3, (some .int))
def tdt_X12_read : List (Nat × Instr × Nat × Nat) := [(0, .aload_n 0, 1, 1), (1, .getfield 67, 3, 4), (4, .iconst 0, 1, 5), (5, .iconst 4, 1, 6), (6, .iastore, 1, 7), (7, .aload_n 0, 1, 8), (8, .getfield 67, 3, 11), (11, .iconst 1, 1, 12), (12, .iconst 0, 1, 13), (13, .iastore, 1, 14), (14, .aload_n 0, 1, 15), (15, .iconst 0, 1, 16), (16, .putfield 302, 3, 19), (19, .aload_n 0, 1, 20), (20, .iconst 0, 1, 21), (21, .putfield 293, 3, 24), (24, .iconst 0, 1, 25), (25, .istore_n 1, 1, 26), (26, .aload_n 0, 1, 27), (27, .iconst 0, 1, 28), (28, .invokevirtual 290, 3, 31), (31, .aload_n 0, 1, 32), (32, .getfield 278, 3, 35), (35, .ifCond .eq 36, 3, 38), (38, .aload_n 0, 1, 39), (39, .invokevirtual 316, 3, 42), (42, .ifCond .eq 11, 3, 45), (45, .aload_n 0, 1, 46), (46, .getfield 278, 3, 49), (49, .iconst 3, 1, 50), (50, .if_icmp .eq 11, 3, 53), (53, .bipush (-10), 2, 55), (55, .aload_n 0, 1, 56), (56, .getfield 272, 3, 59), (59, .isub, 1, 60), (60, .ireturn, 1, 61), (61, .aload_n 0, 1, 62), (62, .invokevirtual 296, 3, 65), (65, .iinc 1 1, 3, 68), (68, .goto (-37), 3, 71), (71, .iconst 0, 1, 72), (72, .istore_n 2, 1, 73), (73, .iload_n 2, 1, 74), (74, .bipush 101, 2, 76), (76, .if_icmp .ge 21, 3, 79), (79, .aload_n 0, 1, 80), (80, .getfield 7, 3, 83), (83, .iload_n 2, 1, 84), (84, .aload_n 0, 1, 85), (85, .getfield 67, 3, 88), (88, .iload_n 2, 1, 89), (89, .iaload, 1, 90), (90, .iastore, 1, 91), (91, .iinc 2 1, 3, 94), (94, .goto (-21), 3, 97), (97, .aload_n 0, 1, 98), (98, .getfield 7, 3, 101), (101, .bipush 108, 2, 103), (103, .iconst 0, 1, 104), (104, .iastore, 1, 105), (105, .aload_n 0, 1, 106), (106, .getfield 7, 3, 109), (109, .bipush 127, 2, 111), (111, .iconst 0, 1, 112), (112, .iastore, 1, 113), (113, .iload_n 1, 1, 114), (114, .ireturn, 1, 115)]
set_option maxRecDepth 100000 in
theorem dt_X12_read : DT cX12_read tdt_X12_read := by unfold DT; decide +kernel
theorem ff_X12_67 : FF RX12 67 12 26 := ⟨RX12, TX12, 29, tyX12, rfl, by decide, lay_12, rfl, Or.inl (tbl_in 975 (by decide +kernel) (by decide +kernel)), tyX12_ok, nmX12⟩
theorem sk_89 : SK[89]? = some (100, [101]) := rfl
theorem ib_0_101 : inB 0 101 = true := by decide +kernel
theorem ib_1_101 : inB 1 101 = true := by decide +kernel
theorem ff_X12_302 : FF RX12 302 12 27 := ⟨RX12, TX12, 29, tyX12, rfl, by decide, lay_12, rfl, Or.inl (tbl_in 976 (by decide +kernel) (by decide +kernel)), tyX12_ok, nmX12⟩
theorem fw_12_27 : FW 12 27 .boolean := ⟨_, rfl, by decide +kernel, by decide +kernel⟩
theorem ff_X12_293 : FF RX12 293 12 28 := ⟨RX12, TX12, 29, tyX12, rfl, by decide, lay_12, rfl, Or.inl (tbl_in 977 (by decide +kernel) (by decide +kernel)), tyX12_ok, nmX12⟩
theorem fw_12_28 : FW 12 28 .int := ⟨_, rfl, by decide +kernel, by decide +kernel⟩
abbrev M_X12_look : MI := (yX12_look, cX12_look, 5, none)
def tdt_X12_look : List (Nat × Instr × Nat × Nat) := [(0, .aload_n 0, 1, 1), (1, .iload_n 1, 1, 2), (2, .putfield 272, 3, 5), (5, .aload_n 0, 1, 6), (6, .getfield 272, 3, 9), (9, .aload_n 0, 1, 10), (10, .getfield 259, 3, 13), (13, .if_icmp .ge 30, 3, 16), (16, .aload_n 0, 1, 17), (17, .getfield 64, 3, 20), (20, .aload_n 0, 1, 21), (21, .getfield 272, 3, 24), (24, .iaload, 1, 25), (25, .bipush 32, 2, 27), (27, .if_icmp .ne 16, 3, 30), (30, .aload_n 0, 1, 31), (31, .dup, 1, 32), (32, .getfield 272, 3, 35), (35, .iconst 1, 1, 36), (36, .iadd, 1, 37), (37, .putfield 272, 3, 40), (40, .goto (-35), 3, 43), (43, .aload_n 0, 1, 44), (44, .iconst 0, 1, 45), (45, .putfield 275, 3, 48), (48, .aload_n 0, 1, 49), (49, .iconst 0, 1, 50), (50, .putfield 278, 3, 53), (53, .aload_n 0, 1, 54), (54, .iconst 0, 1, 55), (55, .putfield 281, 3, 58), (58, .aload_n 0, 1, 59), (59, .getfield 272, 3, 62), (62, .aload_n 0, 1, 63), (63, .getfield 259, 3, 66), (66, .if_icmp .ne 4, 3, 69), (69, .return_, 1, 70), (70, .aload_n 0, 1, 71), (71, .getfield 64, 3, 74), (74, .aload_n 0, 1, 75), (75, .getfield 272, 3, 78), (78, .iaload, 1, 79), (79, .istore_n 2, 1, 80), (80, .aload_n 0, 1, 81), (81, .iload_n 2, 1, 82), (82, .invokestatic 284, 3, 85), (85, .ifCond .eq 7, 3, 88), (88, .iconst 1, 1, 89), (89, .goto 25, 3, 92), (92, .iload_n 2, 1, 93), (93, .invokestatic 287, 3, 96), (96, .ifCond .eq 7, 3, 99), (99, .iconst 2, 1, 100), (100, .goto 14, 3, 103), (103, .iload_n 2, 1, 104), (104, .bipush 59, 2, 106), (106, .if_icmp .ne 7, 3, 109), (109, .iconst 3, 1, 110), (110, .goto 4, 3, 113), (113, .iconst 4, 1, 114), (114, .putfield 278, 3, 117), (117, .aload_n 0, 1, 118), (118, .iconst 1, 1, 119), (119, .putfield 275, 3, 122), (122, .aload_n 0, 1, 123), (123, .getfield 278, 3, 126), (126, .iconst 3, 1, 127), (127, .if_icmp .ge 7, 3, 130), (130, .iconst 1, 1, 131), (131, .goto 4, 3, 134), (134, .iconst 0, 1, 135), (135, .istore_n 3, 1, 136), (136, .iload_n 3, 1, 137), (137, .ifCond .eq 78, 3, 140), (140, .aload_n 0, 1, 141), (141, .getfield 272, 3, 144), (144, .aload_n 0, 1, 145), (145, .getfield 275, 3, 148), (148, .iadd, 1, 149), (149, .aload_n 0, 1, 150), (150, .getfield 259, 3, 153), (153, .if_icmp .ge 62, 3, 156), (156, .aload_n 0, 1, 157), (157, .getfield 64, 3, 160), (160, .aload_n 0, 1, 161), (161, .getfield 272, 3, 164), (164, .aload_n 0, 1, 165), (165, .getfield 275, 3, 168), (168, .iadd, 1, 169), (169, .iaload, 1, 170), (170, .istore 4, 2, 172), (172, .aload_n 0, 1, 173), (173, .getfield 278, 3, 176), (176, .iconst 1, 1, 177), (177, .if_icmp .ne 11, 3, 180), (180, .iload 4, 2, 182), (182, .invokestatic 284, 3, 185), (185, .goto 8, 3, 188), (188, .iload 4, 2, 190), (190, .invokestatic 287, 3, 193), (193, .istore_n 3, 1, 194), (194, .aload_n 0, 1, 195), (195, .dup, 1, 196), (196, .getfield 275, 3, 199), (199, .iload_n 3, 1, 200), (200, .ifCond .eq 7, 3, 203), (203, .iconst 1, 1, 204), (204, .goto 4, 3, 207), (207, .iconst 0, 1, 208), (208, .iadd, 1, 209), (209, .putfield 275, 3, 212), (212, .goto (-76), 3, 215), (215, .aload_n 0, 1, 216), (216, .iload_n 2, 1, 217), (217, .bipush 48, 2, 219), (219, .isub, 1, 220), (220, .putfield 281, 3, 223), (223, .aload_n 0, 1, 224), (224, .aload_n 0, 1, 225), (225, .getfield 278, 3, 228), (228, .iconst 2, 1, 229), (229, .if_icmp .ne 15, 3, 232), (232, .aload_n 0, 1, 233), (233, .getfield 275, 3, 236), (236, .iconst 1, 1, 237), (237, .if_icmp .le 7, 3, 240), (240, .iconst 4, 1, 241), (241, .goto 7, 3, 244), (244, .aload_n 0, 1, 245), (245, .getfield 278, 3, 248), (248, .putfield 278, 3, 251), (251, .return_, 1, 252)]
set_option maxRecDepth 100000 in
theorem dt_X12_look : DT cX12_look tdt_X12_look := by unfold DT; decide +kernel
theorem ff_X12_272 : FF RX12 272 12 22 := ⟨RX12, TX12, 29, tyX12, rfl, by decide, lay_12, rfl, Or.inl (tbl_in 971 (by decide +kernel) (by decide +kernel)), tyX12_ok, nmX12⟩
theorem fw_12_22 : FW 12 22 .int := ⟨_, rfl, by decide +kernel, by decide +kernel⟩
theorem ff_X12_275 : FF RX12 275 12 23 := ⟨RX12, TX12, 29, tyX12, rfl, by decide, lay_12, rfl, Or.inl (tbl_in 972 (by decide +kernel) (by decide +kernel)), tyX12_ok, nmX12⟩
theorem fw_12_23 : FW 12 23 .int := ⟨_, rfl, by decide +kernel, by decide +kernel⟩
theorem ff_X12_278 : FF RX12 278 12 24 := ⟨RX12, TX12, 29, tyX12, rfl, by decide, lay_12, rfl, Or.inl (tbl_in 973 (by decide +kernel) (by decide +kernel)), tyX12_ok, nmX12⟩
theorem fw_12_24 : FW 12 24 .int := ⟨_, rfl, by decide +kernel, by decide +kernel⟩
theorem ff_X12_281 : FF RX12 281 12 25 := ⟨RX12, TX12, 29, tyX12, rfl, by decide, lay_12, rfl, Or.inl (tbl_in 974 (by decide +kernel) (by decide +kernel)), tyX12_ok, nmX12⟩
theorem fw_12_25 : FW 12 25 .int := ⟨_, rfl, by decide +kernel, by decide +kernel⟩
abbrev M_X12_isSmall : MI := (yX12_isSmall, cX12_isSmall, 1, (some .boolean))
def tdt_X12_isSmall : List (Nat × Instr × Nat × Nat) := [(0, .iload_n 0, 1, 1), (1, .i2l, 1, 2), (2, .ldc2_w 264, 3, 5), (5, .ldc2_w 266, 3, 8), (8, .invokestatic 74, 3, 11), (11, .ireturn, 1, 12)]
set_option maxRecDepth 100000 in
theorem dt_X12_isSmall : DT cX12_isSmall tdt_X12_isSmall := by unfold DT; decide +kernel
theorem cl_X12_264 : Cond.constantLong RX12 264 97 ∈ tbl := tbl_in 1323 (by decide +kernel) (by decide +kernel)
theorem cl_X12_266 : Cond.constantLong RX12 266 122 ∈ tbl := tbl_in 1324 (by decide +kernel) (by decide +kernel)
theorem cn_X12_isSmall : CFn M_X12_isSmall 1 := ⟨tbl_in 1322 (by decide +kernel) (by decide +kernel), tbl_in 121 (by decide +kernel) (by decide +kernel), by decide, by decide +kernel, by decide +kernel, by decide +kernel⟩
theorem cf_X12_284 : CFS RX12 284 M_X12_isSmall 1 := ⟨cn_X12_isSmall, Or.inl (tbl_in 1320 (by decide +kernel) (by decide +kernel)), tbl_in 1321 (by decide +kernel) (by decide +kernel)⟩
abbrev M_X12_isFigure : MI := (yX12_isFigure, cX12_isFigure, 1, (some .boolean))
def tdt_X12_isFigure : List (Nat × Instr × Nat × Nat) := [(0, .iload_n 0, 1, 1), (1, .i2l, 1, 2), (2, .ldc2_w 268, 3, 5), (5, .ldc2_w 270, 3, 8), (8, .invokestatic 74, 3, 11), (11, .ireturn, 1, 12)]
set_option maxRecDepth 100000 in
theorem dt_X12_isFigure : DT cX12_isFigure tdt_X12_isFigure := by unfold DT; decide +kernel
theorem cl_X12_268 : Cond.constantLong RX12 268 48 ∈ tbl := tbl_in 1328 (by decide +kernel) (by decide +kernel)
theorem cl_X12_270 : Cond.constantLong RX12 270 57 ∈ tbl := tbl_in 1329 (by decide +kernel) (by decide +kernel)
theorem cn_X12_isFigure : CFn M_X12_isFigure 1 := ⟨tbl_in 1327 (by decide +kernel) (by decide +kernel), tbl_in 121 (by decide +kernel) (by decide +kernel), by decide, by decide +kernel, by decide +kernel, by decide +kernel⟩
theorem cf_X12_287 : CFS RX12 287 M_X12_isFigure 1 := ⟨cn_X12_isFigure, Or.inl (tbl_in 1325 (by decide +kernel) (by decide +kernel)), tbl_in 1326 (by decide +kernel) (by decide +kernel)⟩
theorem cn_X12_look : CFn M_X12_look 1 := ⟨tbl_in 1319 (by decide +kernel) (by decide +kernel), tbl_in 121 (by decide +kernel) (by decide +kernel), by decide, by decide +kernel, by decide +kernel, by decide +kernel⟩
theorem cf_X12_290 : CFV RX12 290 M_X12_look 1 := ⟨cn_X12_look, Or.inl (tbl_in 1316 (by decide +kernel) (by decide +kernel)), tbl_in 1318 (by decide +kernel) (by decide +kernel), tbl_in 98 (by decide +kernel) (by decide +kernel)⟩
abbrev M_X12_readsItem : MI := (yX12_readsItem, cX12_readsItem, 2, (some .boolean))
def tdt_X12_readsItem : List (Nat × Instr × Nat × Nat) := [(0, .aload_n 0, 1, 1), (1, .bipush 112, 2, 3), (3, .bipush 108, 2, 5), (5, .bipush 97, 2, 7), (7, .bipush 99, 2, 9), (9, .bipush 101, 2, 11), (11, .bipush 115, 2, 13), (13, .invokevirtual 306, 3, 16), (16, .ifCond .eq 36, 3, 19), (19, .aload_n 0, 1, 20), (20, .getfield 302, 3, 23), (23, .ifCond .eq 5, 3, 26), (26, .iconst 0, 1, 27), (27, .ireturn, 1, 28), (28, .aload_n 0, 1, 29), (29, .invokevirtual 296, 3, 32), (32, .aload_n 0, 1, 33), (33, .iconst 1, 1, 34), (34, .bipush 6, 2, 36), (36, .invokevirtual 299, 3, 39), (39, .istore_n 1, 1, 40), (40, .aload_n 0, 1, 41), (41, .getfield 67, 3, 44), (44, .iconst 0, 1, 45), (45, .aload_n 0, 1, 46), (46, .getfield 293, 3, 49), (49, .iastore, 1, 50), (50, .iload_n 1, 1, 51), (51, .ireturn, 1, 52), (52, .aload_n 0, 1, 53), (53, .bipush 112, 2, 55), (55, .bipush 101, 2, 57), (57, .bipush 114, 2, 59), (59, .bipush 115, 2, 61), (61, .bipush 111, 2, 63), (63, .bipush 110, 2, 65), (65, .invokevirtual 306, 3, 68), (68, .ifCond .eq 8, 3, 71), (71, .aload_n 0, 1, 72), (72, .invokevirtual 310, 3, 75), (75, .ireturn, 1, 76), (76, .aload_n 0, 1, 77), (77, .bipush 101, 2, 79), (79, .bipush 114, 2, 81), (81, .bipush 114, 2, 83), (83, .bipush 97, 2, 85), (85, .bipush 110, 2, 87), (87, .bipush 100, 2, 89), (89, .invokevirtual 306, 3, 92), (92, .ifCond .eq 14, 3, 95), (95, .aload_n 0, 1, 96), (96, .invokevirtual 313, 3, 99), (99, .ifCond .eq 7, 3, 102), (102, .iconst 1, 1, 103), (103, .goto 4, 3, 106), (106, .iconst 0, 1, 107), (107, .ireturn, 1, 108)]
set_option maxRecDepth 100000 in
theorem dt_X12_readsItem : DT cX12_readsItem tdt_X12_readsItem := by unfold DT; decide +kernel
theorem kb_112 : (Int8.ofInt 112).toInt32 = (112 : Int32) := by decide +kernel
theorem kb_115 : (Int8.ofInt 115).toInt32 = (115 : Int32) := by decide +kernel
abbrev M_X12_isWord : MI := (yX12_isWord, cX12_isWord, 9, (some .boolean))
def tdt_X12_isWord : List (Nat × Instr × Nat × Nat) := [(0, .aload_n 0, 1, 1), (1, .getfield 278, 3, 4), (4, .iconst 1, 1, 5), (5, .if_icmp .ne 16, 3, 8), (8, .aload_n 0, 1, 9), (9, .getfield 275, 3, 12), (12, .bipush 6, 2, 14), (14, .if_icmp .ne 7, 3, 17), (17, .iconst 1, 1, 18), (18, .goto 4, 3, 21), (21, .iconst 0, 1, 22), (22, .istore 7, 2, 24), (24, .iconst 0, 1, 25), (25, .istore 8, 2, 27), (27, .iload 8, 2, 29), (29, .bipush 6, 2, 31), (31, .if_icmp .ge 89, 3, 34), (34, .iload 7, 2, 36), (36, .ifCond .eq 84, 3, 39), (39, .aload_n 0, 1, 40), (40, .getfield 64, 3, 43), (43, .aload_n 0, 1, 44), (44, .getfield 272, 3, 47), (47, .iload 8, 2, 49), (49, .iadd, 1, 50), (50, .iaload, 1, 51), (51, .iload 8, 2, 53), (53, .ifCond .ne 7, 3, 56), (56, .iload_n 1, 1, 57), (57, .goto 47, 3, 60), (60, .iload 8, 2, 62), (62, .iconst 1, 1, 63), (63, .if_icmp .ne 7, 3, 66), (66, .iload_n 2, 1, 67), (67, .goto 37, 3, 70), (70, .iload 8, 2, 72), (72, .iconst 2, 1, 73), (73, .if_icmp .ne 7, 3, 76), (76, .iload_n 3, 1, 77), (77, .goto 27, 3, 80), (80, .iload 8, 2, 82), (82, .iconst 3, 1, 83), (83, .if_icmp .ne 8, 3, 86), (86, .iload 4, 2, 88), (88, .goto 16, 3, 91), (91, .iload 8, 2, 93), (93, .iconst 4, 1, 94), (94, .if_icmp .ne 8, 3, 97), (97, .iload 5, 2, 99), (99, .goto 5, 3, 102), (102, .iload 6, 2, 104), (104, .if_icmp .ne 7, 3, 107), (107, .iconst 1, 1, 108), (108, .goto 4, 3, 111), (111, .iconst 0, 1, 112), (112, .istore 7, 2, 114), (114, .iinc 8 1, 3, 117), (117, .goto (-90), 3, 120), (120, .iload 7, 2, 122), (122, .ireturn, 1, 123)]
set_option maxRecDepth 100000 in
theorem dt_X12_isWord : DT cX12_isWord tdt_X12_isWord := by unfold DT; decide +kernel
theorem cn_X12_isWord : CFn M_X12_isWord 6 := ⟨tbl_in 1337 (by decide +kernel) (by decide +kernel), tbl_in 121 (by decide +kernel) (by decide +kernel), by decide, by decide +kernel, by decide +kernel, by decide +kernel⟩
theorem cf_X12_306 : CFV RX12 306 M_X12_isWord 6 := ⟨cn_X12_isWord, Or.inl (tbl_in 1334 (by decide +kernel) (by decide +kernel)), tbl_in 1336 (by decide +kernel) (by decide +kernel), tbl_in 100 (by decide +kernel) (by decide +kernel)⟩
theorem kb_114 : (Int8.ofInt 114).toInt32 = (114 : Int32) := by decide +kernel
theorem kb_111 : (Int8.ofInt 111).toInt32 = (111 : Int32) := by decide +kernel
theorem kb_110 : (Int8.ofInt 110).toInt32 = (110 : Int32) := by decide +kernel
theorem kb_100 : (Int8.ofInt 100).toInt32 = (100 : Int32) := by decide +kernel
abbrev M_X12_readsErrand : MI := (yX12_readsErrand, cX12_readsErrand, 3, (some .boolean))
def tdt_X12_readsErrand : List (Nat × Instr × Nat × Nat) := [(0, .aload_n 0, 1, 1), (1, .iconst 1, 1, 2), (2, .putfield 302, 3, 5), (5, .aload_n 0, 1, 6), (6, .invokevirtual 296, 3, 9), (9, .aload_n 0, 1, 10), (10, .getfield 278, 3, 13), (13, .iconst 2, 1, 14), (14, .if_icmp .ne 36, 3, 17), (17, .aload_n 0, 1, 18), (18, .getfield 281, 3, 21), (21, .aload_n 0, 1, 22), (22, .getfield 67, 3, 25), (25, .iconst 1, 1, 26), (26, .iaload, 1, 27), (27, .if_icmp .ge 23, 3, 30), (30, .aload_n 0, 1, 31), (31, .getfield 67, 3, 34), (34, .iconst 2, 1, 35), (35, .bipush 11, 2, 37), (37, .aload_n 0, 1, 38), (38, .getfield 281, 3, 41), (41, .imul, 1, 42), (42, .iadd, 1, 43), (43, .iconst 2, 1, 44), (44, .iadd, 1, 45), (45, .iaload, 1, 46), (46, .iconst 4, 1, 47), (47, .if_icmp .ne 5, 3, 50), (50, .iconst 0, 1, 51), (51, .ireturn, 1, 52), (52, .aload_n 0, 1, 53), (53, .getfield 281, 3, 56), (56, .istore_n 1, 1, 57), (57, .aload_n 0, 1, 58), (58, .invokevirtual 296, 3, 61), (61, .aload_n 0, 1, 62), (62, .iconst 0, 1, 63), (63, .aload_n 0, 1, 64), (64, .getfield 67, 3, 67), (67, .iconst 0, 1, 68), (68, .iaload, 1, 69), (69, .iconst 1, 1, 70), (70, .isub, 1, 71), (71, .invokevirtual 299, 3, 74), (74, .ifCond .ne 5, 3, 77), (77, .iconst 0, 1, 78), (78, .ireturn, 1, 79), (79, .aload_n 0, 1, 80), (80, .getfield 293, 3, 83), (83, .istore_n 2, 1, 84), (84, .aload_n 0, 1, 85), (85, .iconst 0, 1, 86), (86, .bipush 9, 2, 88), (88, .invokevirtual 299, 3, 91), (91, .ifCond .ne 5, 3, 94), (94, .iconst 0, 1, 95), (95, .ireturn, 1, 96), (96, .aload_n 0, 1, 97), (97, .getfield 67, 3, 100), (100, .iload_n 1, 1, 101), (101, .iload_n 2, 1, 102), (102, .aload_n 0, 1, 103), (103, .getfield 293, 3, 106), (106, .invokestatic 109, 3, 109), (109, .iconst 1, 1, 110), (110, .ireturn, 1, 111)]
set_option maxRecDepth 100000 in
theorem dt_X12_readsErrand : DT cX12_readsErrand tdt_X12_readsErrand := by unfold DT; decide +kernel
abbrev M_X12_goNext : MI := (yX12_goNext, cX12_goNext, 1, none)
def tdt_X12_goNext : List (Nat × Instr × Nat × Nat) := [(0, .aload_n 0, 1, 1), (1, .aload_n 0, 1, 2), (2, .getfield 272, 3, 5), (5, .aload_n 0, 1, 6), (6, .getfield 275, 3, 9), (9, .iadd, 1, 10), (10, .invokevirtual 290, 3, 13), (13, .return_, 1, 14)]
set_option maxRecDepth 100000 in
theorem dt_X12_goNext : DT cX12_goNext tdt_X12_goNext := by unfold DT; decide +kernel
theorem cn_X12_goNext : CFn M_X12_goNext 0 := ⟨tbl_in 1341 (by decide +kernel) (by decide +kernel), tbl_in 121 (by decide +kernel) (by decide +kernel), by decide, by decide +kernel, by decide +kernel, by decide +kernel⟩
theorem cf_X12_296 : CFV RX12 296 M_X12_goNext 0 := ⟨cn_X12_goNext, Or.inl (tbl_in 1338 (by decide +kernel) (by decide +kernel)), tbl_in 1340 (by decide +kernel) (by decide +kernel), tbl_in 101 (by decide +kernel) (by decide +kernel)⟩
abbrev M_X12_takes : MI := (yX12_takes, cX12_takes, 3, (some .boolean))
def tdt_X12_takes : List (Nat × Instr × Nat × Nat) := [(0, .aload_n 0, 1, 1), (1, .getfield 278, 3, 4), (4, .iconst 2, 1, 5), (5, .if_icmp .ne 18, 3, 8), (8, .aload_n 0, 1, 9), (9, .getfield 281, 3, 12), (12, .i2l, 1, 13), (13, .iload_n 1, 1, 14), (14, .i2l, 1, 15), (15, .iload_n 2, 1, 16), (16, .i2l, 1, 17), (17, .invokestatic 74, 3, 20), (20, .ifCond .ne 5, 3, 23), (23, .iconst 0, 1, 24), (24, .ireturn, 1, 25), (25, .aload_n 0, 1, 26), (26, .aload_n 0, 1, 27), (27, .getfield 281, 3, 30), (30, .putfield 293, 3, 33), (33, .aload_n 0, 1, 34), (34, .invokevirtual 296, 3, 37), (37, .iconst 1, 1, 38), (38, .ireturn, 1, 39)]
set_option maxRecDepth 100000 in
theorem dt_X12_takes : DT cX12_takes tdt_X12_takes := by unfold DT; decide +kernel
theorem cn_X12_takes : CFn M_X12_takes 2 := ⟨tbl_in 1345 (by decide +kernel) (by decide +kernel), tbl_in 121 (by decide +kernel) (by decide +kernel), by decide, by decide +kernel, by decide +kernel, by decide +kernel⟩
theorem cf_X12_299 : CFV RX12 299 M_X12_takes 2 := ⟨cn_X12_takes, Or.inl (tbl_in 1342 (by decide +kernel) (by decide +kernel)), tbl_in 1344 (by decide +kernel) (by decide +kernel), tbl_in 102 (by decide +kernel) (by decide +kernel)⟩
theorem cn_X12_readsErrand : CFn M_X12_readsErrand 0 := ⟨tbl_in 1353 (by decide +kernel) (by decide +kernel), tbl_in 121 (by decide +kernel) (by decide +kernel), by decide, by decide +kernel, by decide +kernel, by decide +kernel⟩
theorem cf_X12_313 : CFV RX12 313 M_X12_readsErrand 0 := ⟨cn_X12_readsErrand, Or.inl (tbl_in 1350 (by decide +kernel) (by decide +kernel)), tbl_in 1352 (by decide +kernel) (by decide +kernel), tbl_in 104 (by decide +kernel) (by decide +kernel)⟩
abbrev M_X12_readsPerson : MI := (yX12_readsPerson, cX12_readsPerson, 2, (some .boolean))
def tdt_X12_readsPerson : List (Nat × Instr × Nat × Nat) := [(0, .aload_n 0, 1, 1), (1, .getfield 67, 3, 4), (4, .iconst 1, 1, 5), (5, .iaload, 1, 6), (6, .bipush 9, 2, 8), (8, .if_icmp .ne 5, 3, 11), (11, .iconst 0, 1, 12), (12, .ireturn, 1, 13), (13, .aload_n 0, 1, 14), (14, .invokevirtual 296, 3, 17), (17, .aload_n 0, 1, 18), (18, .iconst 0, 1, 19), (19, .iconst 4, 1, 20), (20, .invokevirtual 299, 3, 23), (23, .ifCond .ne 5, 3, 26), (26, .iconst 0, 1, 27), (27, .ireturn, 1, 28), (28, .aload_n 0, 1, 29), (29, .getfield 293, 3, 32), (32, .istore_n 1, 1, 33), (33, .aload_n 0, 1, 34), (34, .iconst 1, 1, 35), (35, .bipush 9, 2, 37), (37, .invokevirtual 299, 3, 40), (40, .ifCond .ne 5, 3, 43), (43, .iconst 0, 1, 44), (44, .ireturn, 1, 45), (45, .aload_n 0, 1, 46), (46, .getfield 67, 3, 49), (49, .iload_n 1, 1, 50), (50, .aload_n 0, 1, 51), (51, .getfield 293, 3, 54), (54, .invokestatic 101, 3, 57), (57, .iconst 1, 1, 58), (58, .ireturn, 1, 59)]
set_option maxRecDepth 100000 in
theorem dt_X12_readsPerson : DT cX12_readsPerson tdt_X12_readsPerson := by unfold DT; decide +kernel
theorem cn_X12_readsPerson : CFn M_X12_readsPerson 0 := ⟨tbl_in 1349 (by decide +kernel) (by decide +kernel), tbl_in 121 (by decide +kernel) (by decide +kernel), by decide, by decide +kernel, by decide +kernel, by decide +kernel⟩
theorem cf_X12_310 : CFV RX12 310 M_X12_readsPerson 0 := ⟨cn_X12_readsPerson, Or.inl (tbl_in 1346 (by decide +kernel) (by decide +kernel)), tbl_in 1348 (by decide +kernel) (by decide +kernel), tbl_in 103 (by decide +kernel) (by decide +kernel)⟩
theorem cn_X12_readsItem : CFn M_X12_readsItem 0 := ⟨tbl_in 1333 (by decide +kernel) (by decide +kernel), tbl_in 121 (by decide +kernel) (by decide +kernel), by decide, by decide +kernel, by decide +kernel, by decide +kernel⟩
theorem cf_X12_316 : CFV RX12 316 M_X12_readsItem 0 := ⟨cn_X12_readsItem, Or.inl (tbl_in 1330 (by decide +kernel) (by decide +kernel)), tbl_in 1332 (by decide +kernel) (by decide +kernel), tbl_in 99 (by decide +kernel) (by decide +kernel)⟩
theorem w_checkIndexP (σ : Sg) (v : Value) (hv : v = .null ∨ v = .ref 96) (i n : Int32) (h : 0 ≤ i ∧ i < n) : Cal M_J3_checkIndex 0 [.int i, .int n, v] σ (some (.int i)) σ := by
  refine Cal.of (M := M_J3_checkIndex) (by decide +kernel) (by rcases hv with rfl | rfl <;> exact Nat.le_of_ble_eq_true rfl) ?_
  show Ev _ _ _ _ 0 [(0, .int i), (1, .int n), (2, v)] [] σ
  have hn : ¬ i < 0 := fun q => by
    have h1 := h.1
    rw [Int32.le_iff_toInt_le] at h1; rw [Int32.lt_iff_toInt_lt] at q; omega
  refine Ev_iload_n 0 (dt_J3_checkIndex.at 0 rfl) rfl ?_
  refine Ev_if_lt (tgt := 9) (dt_J3_checkIndex.at 1 rfl) (by decide) (fun c => absurd c hn) (fun _ => ?_)
  refine Ev_iload_n 0 (dt_J3_checkIndex.at 2 rfl) rfl ?_
  refine Ev_iload_n 1 (dt_J3_checkIndex.at 3 rfl) rfl ?_
  refine Ev_icmp_lt (tgt := 16) (dt_J3_checkIndex.at 4 rfl) (by decide) (fun _ => ?_) (fun c => absurd h.2 c)
  refine Ev_iload_n 0 (dt_J3_checkIndex.at 10 rfl) rfl ?_
  exact Ev_iret (dt_J3_checkIndex.at 11 rfl) rfl rfl
theorem w_checkIndex (σ : Sg) (i n : Int32) (h : 0 ≤ i ∧ i < n) : Cal M_J0_checkIndex 1 [.int i, .int n] σ none σ := by
  refine Cal.of (M := M_J0_checkIndex) (by decide +kernel) (Nat.le_of_ble_eq_true rfl) ?_
  show Ev _ _ _ _ 0 [(0, .int i), (1, .int n)] [] σ
  refine Ev_iload_n 0 (dt_J0_checkIndex.at 0 rfl) rfl ?_
  refine Ev_iload_n 1 (dt_J0_checkIndex.at 1 rfl) rfl ?_
  refine Ev_getsF (dt_J0_checkIndex.at 2 rfl) fs_J0_1053 (fun v hv => ?_)
  refine Ev_callS (st := []) (st' := [.int i]) [.int i, .int n, v] (dt_J0_checkIndex.at 3 rfl) cf_J0_1059 (w_checkIndexP σ v hv i n h) (by decide) rfl rfl (Nat.le_of_ble_eq_true rfl) rfl ?_
  refine Ev_pop (dt_J0_checkIndex.at 4 rfl) rfl ?_
  exact Ev_vret (dt_J0_checkIndex.at 5 rfl) rfl rfl
end
section
def s_x_refusedBad (σ : Sg) (a1 : Int32) : Option (Int32 × Sg) :=
  lt (pI σ 0 12 ((gI σ 0 12) + 1) : Sg) fun s1 =>
  some (a1, s1)
set_option maxRecDepth 100000 in
set_option maxHeartbeats 4000000 in
theorem w_x_refusedBad (σ : Sg) (a1 : Int32) (q : (Int32 × Sg)) (h : s_x_refusedBad σ a1 = some q) : Cal M_X11_refusedBad 0 [.ref 0, .int a1] σ (some (.int q.1)) q.2 := by
  refine Cal.of (M := M_X11_refusedBad) (by decide +kernel) (Nat.le_of_ble_eq_true rfl) ?_
  show Ev _ _ _ _ 0 [(0, .ref 0), (1, .int a1)] [] σ
  unfold s_x_refusedBad at h
  refine Ev_aload_n 0 (dt_X11_refusedBad.at 0 rfl) rfl ?_
  refine Ev_dup (dt_X11_refusedBad.at 1 rfl) rfl ?_
  refine Ev_get (i := 12) (v := .int (gI σ 0 12)) (dt_X11_refusedBad.at 2 rfl) ff_X11_232 sk_0 rfl rfl ?_
  refine Ev_iconst (dt_X11_refusedBad.at 3 rfl) ki_1 ?_
  refine Ev_iadd (dt_X11_refusedBad.at 4 rfl) ?_
  refine Ev_putI (dt_X11_refusedBad.at 5 rfl) ff_X11_232 fw_11_12 sk_0 rfl ?_
  refine Ev_nmS (fun s1 es1 => ?_)
  replace h := oLt h es1
  refine Ev_iload_n 1 (dt_X11_refusedBad.at 6 rfl) rfl ?_
  exact Ev_iret (dt_X11_refusedBad.at 7 rfl) rfl h
def s_Town_startOver (σ : Sg) (a1 : Int32) : Option Sg :=
  lt (pI σ 19 5 a1 : Sg) fun s1 =>
  lt (pI s1 19 6 0 : Sg) fun s2 =>
  some s2
set_option maxRecDepth 100000 in
set_option maxHeartbeats 4000000 in
theorem w_Town_startOver (σ : Sg) (a1 : Int32) (q : Sg) (h : s_Town_startOver σ a1 = some q) : Cal M_X9_startOver 0 [.ref 19, .int a1] σ none q := by
  refine Cal.of (M := M_X9_startOver) (by decide +kernel) (Nat.le_of_ble_eq_true rfl) ?_
  show Ev _ _ _ _ 0 [(0, .ref 19), (1, .int a1)] [] σ
  unfold s_Town_startOver at h
  refine Ev_aload_n 0 (dt_X9_startOver.at 0 rfl) rfl ?_
  refine Ev_iload_n 1 (dt_X9_startOver.at 1 rfl) rfl ?_
  refine Ev_putI (dt_X9_startOver.at 2 rfl) ff_X9_27 fw_9_5 sk_19 rfl ?_
  refine Ev_nmS (fun s1 es1 => ?_)
  replace h := oLt h es1
  refine Ev_aload_n 0 (dt_X9_startOver.at 3 rfl) rfl ?_
  refine Ev_iconst (dt_X9_startOver.at 4 rfl) ki_0 ?_
  refine Ev_putI (dt_X9_startOver.at 5 rfl) ff_X9_31 fw_9_6 sk_19 rfl ?_
  refine Ev_nmS (fun s2 es2 => ?_)
  replace h := oLt h es2
  exact Ev_vret (dt_X9_startOver.at 6 rfl) rfl h
def s_Scene_forgetWeeksAndSights (σ : Sg)  : Option Sg :=
  lt (pI σ 25 6 0 : Sg) fun s1 =>
  lt (pI s1 25 7 0 : Sg) fun s2 =>
  some s2
set_option maxRecDepth 100000 in
set_option maxHeartbeats 4000000 in
theorem w_Scene_forgetWeeksAndSights (σ : Sg)  (q : Sg) (h : s_Scene_forgetWeeksAndSights σ  = some q) : Cal M_X6_forgetWeeksAndSights 0 [.ref 25] σ none q := by
  refine Cal.of (M := M_X6_forgetWeeksAndSights) (by decide +kernel) (Nat.le_of_ble_eq_true rfl) ?_
  show Ev _ _ _ _ 0 [(0, .ref 25)] [] σ
  unfold s_Scene_forgetWeeksAndSights at h
  refine Ev_aload_n 0 (dt_X6_forgetWeeksAndSights.at 0 rfl) rfl ?_
  refine Ev_iconst (dt_X6_forgetWeeksAndSights.at 1 rfl) ki_0 ?_
  refine Ev_putI (dt_X6_forgetWeeksAndSights.at 2 rfl) ff_X6_31 fw_6_6 sk_25 rfl ?_
  refine Ev_nmS (fun s1 es1 => ?_)
  replace h := oLt h es1
  refine Ev_aload_n 0 (dt_X6_forgetWeeksAndSights.at 3 rfl) rfl ?_
  refine Ev_iconst (dt_X6_forgetWeeksAndSights.at 4 rfl) ki_0 ?_
  refine Ev_putI (dt_X6_forgetWeeksAndSights.at 5 rfl) ff_X6_35 fw_6_7 sk_25 rfl ?_
  refine Ev_nmS (fun s2 es2 => ?_)
  replace h := oLt h es2
  exact Ev_vret (dt_X6_forgetWeeksAndSights.at 6 rfl) rfl h
def s_x_places (σ : Sg) (a1 : Int32) : Option (Int32 × Sg) :=
  if a1 < 1 then
    (s_x_refusedBad σ (-2)).bind fun q2 =>
    some (q2.1, q2.2)
  else
    if a1 ≤ 6 then
      lt ((gI σ 19 5) : Int32) fun x4 =>
      (s_Town_startOver σ a1).bind fun q5 =>
      (s_Scene_forgetWeeksAndSights q5 ).bind fun q6 =>
      some (x4, q6)
    else
      (s_x_refusedBad σ (-2)).bind fun q7 =>
      some (q7.1, q7.2)
set_option maxRecDepth 100000 in
set_option maxHeartbeats 4000000 in
theorem w_x_places (σ : Sg) (a1 : Int32) (q : (Int32 × Sg)) (h : s_x_places σ a1 = some q) : Cal M_X11_places 1 [.ref 0, .int a1] σ (some (.int q.1)) q.2 := by
  refine Cal.of (M := M_X11_places) (by decide +kernel) (Nat.le_of_ble_eq_true rfl) ?_
  show Ev _ _ _ _ 0 [(0, .ref 0), (1, .int a1)] [] σ
  unfold s_x_places at h
  refine Ev_iload_n 1 (dt_X11_places.at 0 rfl) rfl ?_
  refine Ev_iconst (dt_X11_places.at 1 rfl) ki_1 ?_
  refine Ev_icmp_lt (tgt := 11) (dt_X11_places.at 2 rfl) (by decide) (fun c1 => ?_) (fun c1 => ?_)
  · replace h := oPos h c1
    refine Ev_aload_n 0 (dt_X11_places.at 6 rfl) rfl ?_
    refine Ev_bipush (dt_X11_places.at 7 rfl) kb_m2 ?_
    obtain ⟨q2, hq2, h⟩ := oBind h
    refine Ev_callV (st := []) (st' := [.int q2.1]) [.int (-2)] (dt_X11_places.at 8 rfl) cf_X11_68 (w_x_refusedBad σ (-2) q2 hq2) (by decide) sk_0 rfl rfl rfl (Nat.le_of_ble_eq_true rfl) rfl ?_
    exact Ev_iret (dt_X11_places.at 9 rfl) rfl h
  · replace h := oNeg h c1
    refine Ev_iload_n 1 (dt_X11_places.at 3 rfl) rfl ?_
    refine Ev_bipush (dt_X11_places.at 4 rfl) kb_6 ?_
    refine Ev_icmp_le (tgt := 18) (dt_X11_places.at 5 rfl) (by decide) (fun c3 => ?_) (fun c3 => ?_)
    · replace h := oPos h c3
      refine Ev_aload_n 0 (dt_X11_places.at 10 rfl) rfl ?_
      refine Ev_get (i := 0) (v := .ref 25) (dt_X11_places.at 11 rfl) ff_X11_50 sk_0 rfl rfl ?_
      refine Ev_get (i := 0) (v := .ref 19) (dt_X11_places.at 12 rfl) ff_X11_72 sk_25 rfl rfl ?_
      refine Ev_get (i := 5) (v := .int (gI σ 19 5)) (dt_X11_places.at 13 rfl) ff_X11_76 sk_19 rfl rfl ?_
      refine Ev_nmI (fun x4 ex4 => ?_)
      replace h := oLt h ex4
      refine Ev_istore_n (dt_X11_places.at 14 rfl) (by decide) (ls' := [(2, .int x4), (0, .ref 0), (1, .int a1)]) rfl ?_
      refine Ev_aload_n 1 (dt_X11_places.at 15 rfl) rfl ?_
      refine Ev_get (i := 0) (v := .ref 25) (dt_X11_places.at 16 rfl) ff_X11_50 sk_0 rfl rfl ?_
      refine Ev_get (i := 0) (v := .ref 19) (dt_X11_places.at 17 rfl) ff_X11_72 sk_25 rfl rfl ?_
      refine Ev_iload_n 2 (dt_X11_places.at 18 rfl) rfl ?_
      obtain ⟨q5, hq5, h⟩ := oBind h
      refine Ev_callV (st := []) (st' := []) [.int a1] (dt_X11_places.at 19 rfl) cf_X11_79 (w_Town_startOver σ a1 q5 hq5) (by decide) sk_19 rfl rfl rfl (Nat.le_of_ble_eq_true rfl) rfl ?_
      refine Ev_aload_n 1 (dt_X11_places.at 20 rfl) rfl ?_
      refine Ev_get (i := 0) (v := .ref 25) (dt_X11_places.at 21 rfl) ff_X11_50 sk_0 rfl rfl ?_
      obtain ⟨q6, hq6, h⟩ := oBind h
      refine Ev_callV (st := []) (st' := []) [] (dt_X11_places.at 22 rfl) cf_X11_83 (w_Scene_forgetWeeksAndSights q5  q6 hq6) (by decide) sk_25 rfl rfl rfl (Nat.le_of_ble_eq_true rfl) rfl ?_
      refine Ev_iload_n 0 (dt_X11_places.at 23 rfl) rfl ?_
      exact Ev_iret (dt_X11_places.at 24 rfl) rfl h
    · replace h := oNeg h c3
      refine Ev_aload_n 0 (dt_X11_places.at 6 rfl) rfl ?_
      refine Ev_bipush (dt_X11_places.at 7 rfl) kb_m2 ?_
      obtain ⟨q7, hq7, h⟩ := oBind h
      refine Ev_callV (st := []) (st' := [.int q7.1]) [.int (-2)] (dt_X11_places.at 8 rfl) cf_X11_68 (w_x_refusedBad σ (-2) q7 hq7) (by decide) sk_0 rfl rfl rfl (Nat.le_of_ble_eq_true rfl) rfl ?_
      exact Ev_iret (dt_X11_places.at 9 rfl) rfl h
def s_x_isKindAndPace (a0 : Int32) (a1 : Int32) : Option Int32 :=
  if a0 < 0 then
    some 0
  else
    if 5 ≤ a0 then
      some 0
    else
      if a1 < 1 then
        some 0
      else
        if 9 < a1 then
          some 0
        else
          some 1
set_option maxRecDepth 100000 in
set_option maxHeartbeats 4000000 in
theorem w_x_isKindAndPace (σ : Sg) (a0 : Int32) (a1 : Int32) (q : Int32) (h : s_x_isKindAndPace a0 a1 = some q) : Cal M_X11_isKindAndPace 0 [.int a0, .int a1] σ (some (.int q)) σ := by
  refine Cal.of (M := M_X11_isKindAndPace) (by decide +kernel) (Nat.le_of_ble_eq_true rfl) ?_
  show Ev _ _ _ _ 0 [(0, .int a0), (1, .int a1)] [] σ
  unfold s_x_isKindAndPace at h
  refine Ev_iload_n 0 (dt_X11_isKindAndPace.at 0 rfl) rfl ?_
  refine Ev_if_lt (tgt := 24) (dt_X11_isKindAndPace.at 1 rfl) (by decide) (fun c1 => ?_) (fun c1 => ?_)
  · replace h := oPos h c1
    refine Ev_iconst (dt_X11_isKindAndPace.at 13 rfl) ki_0 ?_
    exact Ev_zret (dt_X11_isKindAndPace.at 14 rfl) rfl (by decide) (oRet h)
  · replace h := oNeg h c1
    refine Ev_iload_n 0 (dt_X11_isKindAndPace.at 2 rfl) rfl ?_
    refine Ev_iconst (dt_X11_isKindAndPace.at 3 rfl) ki_5 ?_
    refine Ev_icmp_ge (tgt := 24) (dt_X11_isKindAndPace.at 4 rfl) (by decide) (fun c2 => ?_) (fun c2 => ?_)
    · replace h := oPos h c2
      refine Ev_iconst (dt_X11_isKindAndPace.at 13 rfl) ki_0 ?_
      exact Ev_zret (dt_X11_isKindAndPace.at 14 rfl) rfl (by decide) (oRet h)
    · replace h := oNeg h c2
      refine Ev_iload_n 1 (dt_X11_isKindAndPace.at 5 rfl) rfl ?_
      refine Ev_iconst (dt_X11_isKindAndPace.at 6 rfl) ki_1 ?_
      refine Ev_icmp_lt (tgt := 24) (dt_X11_isKindAndPace.at 7 rfl) (by decide) (fun c3 => ?_) (fun c3 => ?_)
      · replace h := oPos h c3
        refine Ev_iconst (dt_X11_isKindAndPace.at 13 rfl) ki_0 ?_
        exact Ev_zret (dt_X11_isKindAndPace.at 14 rfl) rfl (by decide) (oRet h)
      · replace h := oNeg h c3
        refine Ev_iload_n 1 (dt_X11_isKindAndPace.at 8 rfl) rfl ?_
        refine Ev_bipush (dt_X11_isKindAndPace.at 9 rfl) kb_9 ?_
        refine Ev_icmp_gt (tgt := 24) (dt_X11_isKindAndPace.at 10 rfl) (by decide) (fun c4 => ?_) (fun c4 => ?_)
        · replace h := oPos h c4
          refine Ev_iconst (dt_X11_isKindAndPace.at 13 rfl) ki_0 ?_
          exact Ev_zret (dt_X11_isKindAndPace.at 14 rfl) rfl (by decide) (oRet h)
        · replace h := oNeg h c4
          refine Ev_iconst (dt_X11_isKindAndPace.at 11 rfl) ki_1 ?_
          refine Ev_goto (tgt := 25) (dt_X11_isKindAndPace.at 12 rfl) (by decide) ?_
          exact Ev_zret (dt_X11_isKindAndPace.at 14 rfl) rfl (by decide) (oRet h)
def s_Town_addPerson (σ : Sg) (a1 : Int32) (a2 : Int32) : Option (Int32 × Sg) :=
  if (gI σ 19 6) < 9 then
    if inB (gI σ 19 6) 9 = true then
      lt (pI σ 20 (Int32.toNatClampNeg (gI σ 19 6)) a1 : Sg) fun s3 =>
      if inB (gI s3 19 6) 9 = true then
        lt (pI s3 21 (Int32.toNatClampNeg (gI s3 19 6)) a2 : Sg) fun s5 =>
        if inB (gI s5 19 6) 9 = true then
          lt (pI s5 22 (Int32.toNatClampNeg (gI s5 19 6)) 0 : Sg) fun s7 =>
          lt (pI s7 19 6 ((gI s7 19 6) + 1) : Sg) fun s8 =>
          some (((gI s8 19 6) - 1), s8)
        else none
      else none
    else none
  else
    some ((-1), σ)
set_option maxRecDepth 100000 in
set_option maxHeartbeats 4000000 in
theorem w_Town_addPerson (σ : Sg) (a1 : Int32) (a2 : Int32) (q : (Int32 × Sg)) (h : s_Town_addPerson σ a1 a2 = some q) : Cal M_X9_addPerson 0 [.ref 19, .int a1, .int a2] σ (some (.int q.1)) q.2 := by
  refine Cal.of (M := M_X9_addPerson) (by decide +kernel) (Nat.le_of_ble_eq_true rfl) ?_
  show Ev _ _ _ _ 0 [(0, .ref 19), (1, .int a1), (2, .int a2)] [] σ
  unfold s_Town_addPerson at h
  refine Ev_aload_n 0 (dt_X9_addPerson.at 0 rfl) rfl ?_
  refine Ev_get (i := 6) (v := .int (gI σ 19 6)) (dt_X9_addPerson.at 1 rfl) ff_X9_31 sk_19 rfl rfl ?_
  refine Ev_bipush (dt_X9_addPerson.at 2 rfl) kb_9 ?_
  refine Ev_icmp_lt (tgt := 11) (dt_X9_addPerson.at 3 rfl) (by decide) (fun c1 => ?_) (fun c1 => ?_)
  · replace h := oPos h c1
    refine Ev_aload_n 0 (dt_X9_addPerson.at 6 rfl) rfl ?_
    refine Ev_get (i := 0) (v := .ref 20) (dt_X9_addPerson.at 7 rfl) ff_X9_9 sk_19 rfl rfl ?_
    refine Ev_aload_n 0 (dt_X9_addPerson.at 8 rfl) rfl ?_
    refine Ev_get (i := 6) (v := .int (gI σ 19 6)) (dt_X9_addPerson.at 9 rfl) ff_X9_31 sk_19 rfl rfl ?_
    refine Ev_iload_n 1 (dt_X9_addPerson.at 10 rfl) rfl ?_
    obtain ⟨g2, h⟩ := oGuard h
    refine Ev_iastore 20 (dt_X9_addPerson.at 11 rfl) sk_20 g2 ?_
    refine Ev_nmS (fun s3 es3 => ?_)
    replace h := oLt h es3
    refine Ev_aload_n 0 (dt_X9_addPerson.at 12 rfl) rfl ?_
    refine Ev_get (i := 1) (v := .ref 21) (dt_X9_addPerson.at 13 rfl) ff_X9_15 sk_19 rfl rfl ?_
    refine Ev_aload_n 0 (dt_X9_addPerson.at 14 rfl) rfl ?_
    refine Ev_get (i := 6) (v := .int (gI s3 19 6)) (dt_X9_addPerson.at 15 rfl) ff_X9_31 sk_19 rfl rfl ?_
    refine Ev_iload_n 2 (dt_X9_addPerson.at 16 rfl) rfl ?_
    obtain ⟨g4, h⟩ := oGuard h
    refine Ev_iastore 21 (dt_X9_addPerson.at 17 rfl) sk_21 g4 ?_
    refine Ev_nmS (fun s5 es5 => ?_)
    replace h := oLt h es5
    refine Ev_aload_n 0 (dt_X9_addPerson.at 18 rfl) rfl ?_
    refine Ev_get (i := 2) (v := .ref 22) (dt_X9_addPerson.at 19 rfl) ff_X9_18 sk_19 rfl rfl ?_
    refine Ev_aload_n 0 (dt_X9_addPerson.at 20 rfl) rfl ?_
    refine Ev_get (i := 6) (v := .int (gI s5 19 6)) (dt_X9_addPerson.at 21 rfl) ff_X9_31 sk_19 rfl rfl ?_
    refine Ev_iconst (dt_X9_addPerson.at 22 rfl) ki_0 ?_
    obtain ⟨g6, h⟩ := oGuard h
    refine Ev_iastore 22 (dt_X9_addPerson.at 23 rfl) sk_22 g6 ?_
    refine Ev_nmS (fun s7 es7 => ?_)
    replace h := oLt h es7
    refine Ev_aload_n 0 (dt_X9_addPerson.at 24 rfl) rfl ?_
    refine Ev_dup (dt_X9_addPerson.at 25 rfl) rfl ?_
    refine Ev_get (i := 6) (v := .int (gI s7 19 6)) (dt_X9_addPerson.at 26 rfl) ff_X9_31 sk_19 rfl rfl ?_
    refine Ev_iconst (dt_X9_addPerson.at 27 rfl) ki_1 ?_
    refine Ev_iadd (dt_X9_addPerson.at 28 rfl) ?_
    refine Ev_putI (dt_X9_addPerson.at 29 rfl) ff_X9_31 fw_9_6 sk_19 rfl ?_
    refine Ev_nmS (fun s8 es8 => ?_)
    replace h := oLt h es8
    refine Ev_aload_n 0 (dt_X9_addPerson.at 30 rfl) rfl ?_
    refine Ev_get (i := 6) (v := .int (gI s8 19 6)) (dt_X9_addPerson.at 31 rfl) ff_X9_31 sk_19 rfl rfl ?_
    refine Ev_iconst (dt_X9_addPerson.at 32 rfl) ki_1 ?_
    refine Ev_isub (dt_X9_addPerson.at 33 rfl) ?_
    exact Ev_iret (dt_X9_addPerson.at 34 rfl) rfl h
  · replace h := oNeg h c1
    refine Ev_iconst (dt_X9_addPerson.at 4 rfl) ki_m1 ?_
    exact Ev_iret (dt_X9_addPerson.at 5 rfl) rfl h
end
