section
/-- a private method of a class that the tables say can be made, by its rows of tables_1 -/
def lw_okq (q : MethodName × Nat) : Prop := (q.1.cls ≠ "java/lang/invoke/MethodHandle" ∧ q.1.cls ≠ "java/lang/invoke/VarHandle") ∧ Cond.instantiable q.1.cls q.2 ∈ tables_1 ∧ Cond.privateMethod q.1 ∈ tables_1 ∧ Cond.instanceMethod q.1 ∈ tables_1
theorem lw_p0 : lw_okq (⟨"TiedThrees", "refusedBad", "(I)I"⟩, 15) := ⟨⟨by decide +kernel, by decide +kernel⟩, List.mem_of_getElem? (i := 23) (by decide +kernel), List.mem_of_getElem? (i := 322) (by decide +kernel), List.mem_of_getElem? (i := 323) (by decide +kernel)⟩
theorem lw_p1 : lw_okq (⟨"TiedThrees$Town", "startOver", "(I)V"⟩, 7) := ⟨⟨by decide +kernel, by decide +kernel⟩, List.mem_of_getElem? (i := 39) (by decide +kernel), List.mem_of_getElem? (i := 326) (by decide +kernel), List.mem_of_getElem? (i := 327) (by decide +kernel)⟩
theorem lw_p2 : lw_okq (⟨"TiedThrees$Scene", "forgetWeeksAndSights", "()V"⟩, 8) := ⟨⟨by decide +kernel, by decide +kernel⟩, List.mem_of_getElem? (i := 134) (by decide +kernel), List.mem_of_getElem? (i := 330) (by decide +kernel), List.mem_of_getElem? (i := 331) (by decide +kernel)⟩
theorem lw_p3 : lw_okq (⟨"TiedThrees", "refusedFull", "()I"⟩, 15) := ⟨⟨by decide +kernel, by decide +kernel⟩, List.mem_of_getElem? (i := 23) (by decide +kernel), List.mem_of_getElem? (i := 341) (by decide +kernel), List.mem_of_getElem? (i := 342) (by decide +kernel)⟩
theorem lw_p4 : lw_okq (⟨"TiedThrees$Town", "addPerson", "(II)I"⟩, 7) := ⟨⟨by decide +kernel, by decide +kernel⟩, List.mem_of_getElem? (i := 39) (by decide +kernel), List.mem_of_getElem? (i := 345) (by decide +kernel), List.mem_of_getElem? (i := 346) (by decide +kernel)⟩
theorem lw_p5 : lw_okq (⟨"TiedThrees$Town", "hasPerson", "(I)Z"⟩, 7) := ⟨⟨by decide +kernel, by decide +kernel⟩, List.mem_of_getElem? (i := 39) (by decide +kernel), List.mem_of_getElem? (i := 353) (by decide +kernel), List.mem_of_getElem? (i := 354) (by decide +kernel)⟩
theorem lw_p6 : lw_okq (⟨"TiedThrees$Town", "hasPlace", "(I)Z"⟩, 7) := ⟨⟨by decide +kernel, by decide +kernel⟩, List.mem_of_getElem? (i := 39) (by decide +kernel), List.mem_of_getElem? (i := 357) (by decide +kernel), List.mem_of_getElem? (i := 358) (by decide +kernel)⟩
theorem lw_p7 : lw_okq (⟨"TiedThrees$Town", "addErrand", "(III)I"⟩, 7) := ⟨⟨by decide +kernel, by decide +kernel⟩, List.mem_of_getElem? (i := 39) (by decide +kernel), List.mem_of_getElem? (i := 364) (by decide +kernel), List.mem_of_getElem? (i := 365) (by decide +kernel)⟩
theorem lw_p8 : lw_okq (⟨"TiedThrees", "refusedNo", "(I)I"⟩, 15) := ⟨⟨by decide +kernel, by decide +kernel⟩, List.mem_of_getElem? (i := 23) (by decide +kernel), List.mem_of_getElem? (i := 373) (by decide +kernel), List.mem_of_getElem? (i := 374) (by decide +kernel)⟩
theorem lw_p9 : lw_okq (⟨"TiedThrees$TownReader", "readTown", "([II)I"⟩, 5) := ⟨⟨by decide +kernel, by decide +kernel⟩, List.mem_of_getElem? (i := 33) (by decide +kernel), List.mem_of_getElem? (i := 389) (by decide +kernel), List.mem_of_getElem? (i := 390) (by decide +kernel)⟩
theorem lw_p10 : lw_okq (⟨"TiedThrees$TownReader", "skipBlanks", "()V"⟩, 5) := ⟨⟨by decide +kernel, by decide +kernel⟩, List.mem_of_getElem? (i := 33) (by decide +kernel), List.mem_of_getElem? (i := 397) (by decide +kernel), List.mem_of_getElem? (i := 398) (by decide +kernel)⟩
theorem lw_p11 : lw_okq (⟨"TiedThrees$TownReader", "readItem", "()V"⟩, 5) := ⟨⟨by decide +kernel, by decide +kernel⟩, List.mem_of_getElem? (i := 33) (by decide +kernel), List.mem_of_getElem? (i := 401) (by decide +kernel), List.mem_of_getElem? (i := 402) (by decide +kernel)⟩
theorem lw_p12 : lw_okq (⟨"TiedThrees$TownReader", "skipWord", "()V"⟩, 5) := ⟨⟨by decide +kernel, by decide +kernel⟩, List.mem_of_getElem? (i := 33) (by decide +kernel), List.mem_of_getElem? (i := 405) (by decide +kernel), List.mem_of_getElem? (i := 406) (by decide +kernel)⟩
theorem lw_p13 : lw_okq (⟨"TiedThrees$TownReader", "isWord", "(ILjava/lang/String;)Z"⟩, 5) := ⟨⟨by decide +kernel, by decide +kernel⟩, List.mem_of_getElem? (i := 33) (by decide +kernel), List.mem_of_getElem? (i := 410) (by decide +kernel), List.mem_of_getElem? (i := 411) (by decide +kernel)⟩
theorem lw_p14 : lw_okq (⟨"TiedThrees$Town", "errandsOfAll", "()I"⟩, 7) := ⟨⟨by decide +kernel, by decide +kernel⟩, List.mem_of_getElem? (i := 39) (by decide +kernel), List.mem_of_getElem? (i := 462) (by decide +kernel), List.mem_of_getElem? (i := 463) (by decide +kernel)⟩
theorem lw_p15 : lw_okq (⟨"TiedThrees$TownReader", "readPlaces", "()V"⟩, 5) := ⟨⟨by decide +kernel, by decide +kernel⟩, List.mem_of_getElem? (i := 33) (by decide +kernel), List.mem_of_getElem? (i := 466) (by decide +kernel), List.mem_of_getElem? (i := 467) (by decide +kernel)⟩
def lw_privs_1 : List (MethodName × Nat) := [(⟨"TiedThrees", "refusedBad", "(I)I"⟩, 15), (⟨"TiedThrees$Town", "startOver", "(I)V"⟩, 7), (⟨"TiedThrees$Scene", "forgetWeeksAndSights", "()V"⟩, 8), (⟨"TiedThrees", "refusedFull", "()I"⟩, 15), (⟨"TiedThrees$Town", "addPerson", "(II)I"⟩, 7), (⟨"TiedThrees$Town", "hasPerson", "(I)Z"⟩, 7), (⟨"TiedThrees$Town", "hasPlace", "(I)Z"⟩, 7), (⟨"TiedThrees$Town", "addErrand", "(III)I"⟩, 7), (⟨"TiedThrees", "refusedNo", "(I)I"⟩, 15), (⟨"TiedThrees$TownReader", "readTown", "([II)I"⟩, 5), (⟨"TiedThrees$TownReader", "skipBlanks", "()V"⟩, 5), (⟨"TiedThrees$TownReader", "readItem", "()V"⟩, 5), (⟨"TiedThrees$TownReader", "skipWord", "()V"⟩, 5), (⟨"TiedThrees$TownReader", "isWord", "(ILjava/lang/String;)Z"⟩, 5), (⟨"TiedThrees$Town", "errandsOfAll", "()I"⟩, 7), (⟨"TiedThrees$TownReader", "readPlaces", "()V"⟩, 5)]
theorem lw_r1 : ∀ q ∈ lw_privs_1, lw_okq q := List.forall_mem_cons.mpr ⟨lw_p0, List.forall_mem_cons.mpr ⟨lw_p1, List.forall_mem_cons.mpr ⟨lw_p2, List.forall_mem_cons.mpr ⟨lw_p3, List.forall_mem_cons.mpr ⟨lw_p4, List.forall_mem_cons.mpr ⟨lw_p5, List.forall_mem_cons.mpr ⟨lw_p6, List.forall_mem_cons.mpr ⟨lw_p7, List.forall_mem_cons.mpr ⟨lw_p8, List.forall_mem_cons.mpr ⟨lw_p9, List.forall_mem_cons.mpr ⟨lw_p10, List.forall_mem_cons.mpr ⟨lw_p11, List.forall_mem_cons.mpr ⟨lw_p12, List.forall_mem_cons.mpr ⟨lw_p13, List.forall_mem_cons.mpr ⟨lw_p14, List.forall_mem_cons.mpr ⟨lw_p15, fun _ h => absurd h List.not_mem_nil⟩⟩⟩⟩⟩⟩⟩⟩⟩⟩⟩⟩⟩⟩⟩⟩
theorem lw_p16 : lw_okq (⟨"TiedThrees$TownReader", "number", "(II)I"⟩, 5) := ⟨⟨by decide +kernel, by decide +kernel⟩, List.mem_of_getElem? (i := 33) (by decide +kernel), List.mem_of_getElem? (i := 470) (by decide +kernel), List.mem_of_getElem? (i := 471) (by decide +kernel)⟩
theorem lw_p17 : lw_okq (⟨"TiedThrees$TownReader", "isFigure", "(I)Z"⟩, 5) := ⟨⟨by decide +kernel, by decide +kernel⟩, List.mem_of_getElem? (i := 33) (by decide +kernel), List.mem_of_getElem? (i := 474) (by decide +kernel), List.mem_of_getElem? (i := 475) (by decide +kernel)⟩
theorem lw_p18 : lw_okq (⟨"TiedThrees$TownReader", "end", "()V"⟩, 5) := ⟨⟨by decide +kernel, by decide +kernel⟩, List.mem_of_getElem? (i := 33) (by decide +kernel), List.mem_of_getElem? (i := 478) (by decide +kernel), List.mem_of_getElem? (i := 479) (by decide +kernel)⟩
theorem lw_p19 : lw_okq (⟨"TiedThrees$TownReader", "readPerson", "()V"⟩, 5) := ⟨⟨by decide +kernel, by decide +kernel⟩, List.mem_of_getElem? (i := 33) (by decide +kernel), List.mem_of_getElem? (i := 483) (by decide +kernel), List.mem_of_getElem? (i := 484) (by decide +kernel)⟩
theorem lw_p20 : lw_okq (⟨"TiedThrees$TownReader", "readErrand", "()V"⟩, 5) := ⟨⟨by decide +kernel, by decide +kernel⟩, List.mem_of_getElem? (i := 33) (by decide +kernel), List.mem_of_getElem? (i := 489) (by decide +kernel), List.mem_of_getElem? (i := 490) (by decide +kernel)⟩
theorem lw_p21 : lw_okq (⟨"TiedThrees$Town", "become", "(LTiedThrees$Town;)V"⟩, 7) := ⟨⟨by decide +kernel, by decide +kernel⟩, List.mem_of_getElem? (i := 39) (by decide +kernel), List.mem_of_getElem? (i := 495) (by decide +kernel), List.mem_of_getElem? (i := 496) (by decide +kernel)⟩
theorem lw_p22 : lw_okq (⟨"TiedThrees$Town", "isThree", "(I)Z"⟩, 7) := ⟨⟨by decide +kernel, by decide +kernel⟩, List.mem_of_getElem? (i := 39) (by decide +kernel), List.mem_of_getElem? (i := 507) (by decide +kernel), List.mem_of_getElem? (i := 508) (by decide +kernel)⟩
theorem lw_p23 : lw_okq (⟨"TiedThrees$Town", "isGroup", "(I)Z"⟩, 7) := ⟨⟨by decide +kernel, by decide +kernel⟩, List.mem_of_getElem? (i := 39) (by decide +kernel), List.mem_of_getElem? (i := 511) (by decide +kernel), List.mem_of_getElem? (i := 512) (by decide +kernel)⟩
theorem lw_p24 : lw_okq (⟨"TiedThrees$Day", "pass", "(I)V"⟩, 10) := ⟨⟨by decide +kernel, by decide +kernel⟩, List.mem_of_getElem? (i := 172) (by decide +kernel), List.mem_of_getElem? (i := 521) (by decide +kernel), List.mem_of_getElem? (i := 522) (by decide +kernel)⟩
theorem lw_p25 : lw_okq (⟨"TiedThrees$Day", "begin", "(I)V"⟩, 10) := ⟨⟨by decide +kernel, by decide +kernel⟩, List.mem_of_getElem? (i := 172) (by decide +kernel), List.mem_of_getElem? (i := 525) (by decide +kernel), List.mem_of_getElem? (i := 526) (by decide +kernel)⟩
theorem lw_p26 : lw_okq (⟨"TiedThrees$Town", "isQuick", "(I)Z"⟩, 7) := ⟨⟨by decide +kernel, by decide +kernel⟩, List.mem_of_getElem? (i := 39) (by decide +kernel), List.mem_of_getElem? (i := 532) (by decide +kernel), List.mem_of_getElem? (i := 533) (by decide +kernel)⟩
theorem lw_p27 : lw_okq (⟨"TiedThrees$Day", "lookAround", "()V"⟩, 10) := ⟨⟨by decide +kernel, by decide +kernel⟩, List.mem_of_getElem? (i := 172) (by decide +kernel), List.mem_of_getElem? (i := 537) (by decide +kernel), List.mem_of_getElem? (i := 538) (by decide +kernel)⟩
theorem lw_p28 : lw_okq (⟨"TiedThrees$Day", "isOpen", "(I)Z"⟩, 10) := ⟨⟨by decide +kernel, by decide +kernel⟩, List.mem_of_getElem? (i := 172) (by decide +kernel), List.mem_of_getElem? (i := 541) (by decide +kernel), List.mem_of_getElem? (i := 542) (by decide +kernel)⟩
theorem lw_p29 : lw_okq (⟨"TiedThrees$Day", "chosen", "()I"⟩, 10) := ⟨⟨by decide +kernel, by decide +kernel⟩, List.mem_of_getElem? (i := 172) (by decide +kernel), List.mem_of_getElem? (i := 545) (by decide +kernel), List.mem_of_getElem? (i := 546) (by decide +kernel)⟩
theorem lw_p30 : lw_okq (⟨"TiedThrees$Day", "mostPressing", "(I)I"⟩, 10) := ⟨⟨by decide +kernel, by decide +kernel⟩, List.mem_of_getElem? (i := 172) (by decide +kernel), List.mem_of_getElem? (i := 556) (by decide +kernel), List.mem_of_getElem? (i := 557) (by decide +kernel)⟩
theorem lw_p31 : lw_okq (⟨"TiedThrees$Day", "firstUndone", "(I)I"⟩, 10) := ⟨⟨by decide +kernel, by decide +kernel⟩, List.mem_of_getElem? (i := 172) (by decide +kernel), List.mem_of_getElem? (i := 576) (by decide +kernel), List.mem_of_getElem? (i := 577) (by decide +kernel)⟩
def lw_privs_2 : List (MethodName × Nat) := [(⟨"TiedThrees$TownReader", "number", "(II)I"⟩, 5), (⟨"TiedThrees$TownReader", "isFigure", "(I)Z"⟩, 5), (⟨"TiedThrees$TownReader", "end", "()V"⟩, 5), (⟨"TiedThrees$TownReader", "readPerson", "()V"⟩, 5), (⟨"TiedThrees$TownReader", "readErrand", "()V"⟩, 5), (⟨"TiedThrees$Town", "become", "(LTiedThrees$Town;)V"⟩, 7), (⟨"TiedThrees$Town", "isThree", "(I)Z"⟩, 7), (⟨"TiedThrees$Town", "isGroup", "(I)Z"⟩, 7), (⟨"TiedThrees$Day", "pass", "(I)V"⟩, 10), (⟨"TiedThrees$Day", "begin", "(I)V"⟩, 10), (⟨"TiedThrees$Town", "isQuick", "(I)Z"⟩, 7), (⟨"TiedThrees$Day", "lookAround", "()V"⟩, 10), (⟨"TiedThrees$Day", "isOpen", "(I)Z"⟩, 10), (⟨"TiedThrees$Day", "chosen", "()I"⟩, 10), (⟨"TiedThrees$Day", "mostPressing", "(I)I"⟩, 10), (⟨"TiedThrees$Day", "firstUndone", "(I)I"⟩, 10)]
theorem lw_r2 : ∀ q ∈ lw_privs_2, lw_okq q := List.forall_mem_cons.mpr ⟨lw_p16, List.forall_mem_cons.mpr ⟨lw_p17, List.forall_mem_cons.mpr ⟨lw_p18, List.forall_mem_cons.mpr ⟨lw_p19, List.forall_mem_cons.mpr ⟨lw_p20, List.forall_mem_cons.mpr ⟨lw_p21, List.forall_mem_cons.mpr ⟨lw_p22, List.forall_mem_cons.mpr ⟨lw_p23, List.forall_mem_cons.mpr ⟨lw_p24, List.forall_mem_cons.mpr ⟨lw_p25, List.forall_mem_cons.mpr ⟨lw_p26, List.forall_mem_cons.mpr ⟨lw_p27, List.forall_mem_cons.mpr ⟨lw_p28, List.forall_mem_cons.mpr ⟨lw_p29, List.forall_mem_cons.mpr ⟨lw_p30, List.forall_mem_cons.mpr ⟨lw_p31, fun _ h => absurd h List.not_mem_nil⟩⟩⟩⟩⟩⟩⟩⟩⟩⟩⟩⟩⟩⟩⟩⟩
theorem lw_p32 : lw_okq (⟨"TiedThrees$Day", "stepTowards", "(I)V"⟩, 10) := ⟨⟨by decide +kernel, by decide +kernel⟩, List.mem_of_getElem? (i := 172) (by decide +kernel), List.mem_of_getElem? (i := 581) (by decide +kernel), List.mem_of_getElem? (i := 582) (by decide +kernel)⟩
theorem lw_p33 : lw_okq (⟨"TiedThrees$Town", "onRing", "(I)I"⟩, 7) := ⟨⟨by decide +kernel, by decide +kernel⟩, List.mem_of_getElem? (i := 39) (by decide +kernel), List.mem_of_getElem? (i := 585) (by decide +kernel), List.mem_of_getElem? (i := 586) (by decide +kernel)⟩
theorem lw_p34 : lw_okq (⟨"TiedThrees$Day", "doErrands", "()V"⟩, 10) := ⟨⟨by decide +kernel, by decide +kernel⟩, List.mem_of_getElem? (i := 172) (by decide +kernel), List.mem_of_getElem? (i := 592) (by decide +kernel), List.mem_of_getElem? (i := 593) (by decide +kernel)⟩
theorem lw_p35 : lw_okq (⟨"TiedThrees$FreeDay", "mostDone", "(I)I"⟩, 4) := ⟨⟨by decide +kernel, by decide +kernel⟩, List.mem_of_getElem? (i := 253) (by decide +kernel), List.mem_of_getElem? (i := 600) (by decide +kernel), List.mem_of_getElem? (i := 601) (by decide +kernel)⟩
theorem lw_p36 : lw_okq (⟨"TiedThrees$FreeDay", "weigh", "(I)V"⟩, 4) := ⟨⟨by decide +kernel, by decide +kernel⟩, List.mem_of_getElem? (i := 253) (by decide +kernel), List.mem_of_getElem? (i := 604) (by decide +kernel), List.mem_of_getElem? (i := 605) (by decide +kernel)⟩
theorem lw_p37 : lw_okq (⟨"TiedThrees$FreeDay", "weighErrandsOf", "(I)V"⟩, 4) := ⟨⟨by decide +kernel, by decide +kernel⟩, List.mem_of_getElem? (i := 253) (by decide +kernel), List.mem_of_getElem? (i := 612) (by decide +kernel), List.mem_of_getElem? (i := 613) (by decide +kernel)⟩
theorem lw_p38 : lw_okq (⟨"TiedThrees$FreeDay", "passHour", "(II)V"⟩, 4) := ⟨⟨by decide +kernel, by decide +kernel⟩, List.mem_of_getElem? (i := 253) (by decide +kernel), List.mem_of_getElem? (i := 617) (by decide +kernel), List.mem_of_getElem? (i := 618) (by decide +kernel)⟩
theorem lw_p39 : lw_okq (⟨"TiedThrees$FreeDay", "goOn", "(III)V"⟩, 4) := ⟨⟨by decide +kernel, by decide +kernel⟩, List.mem_of_getElem? (i := 253) (by decide +kernel), List.mem_of_getElem? (i := 621) (by decide +kernel), List.mem_of_getElem? (i := 622) (by decide +kernel)⟩
theorem lw_p40 : lw_okq (⟨"TiedThrees", "isAllInThrees", "()Z"⟩, 15) := ⟨⟨by decide +kernel, by decide +kernel⟩, List.mem_of_getElem? (i := 23) (by decide +kernel), List.mem_of_getElem? (i := 633) (by decide +kernel), List.mem_of_getElem? (i := 634) (by decide +kernel)⟩
theorem lw_p41 : lw_okq (⟨"TiedThrees$Splits", "list", "(I)V"⟩, 6) := ⟨⟨by decide +kernel, by decide +kernel⟩, List.mem_of_getElem? (i := 102) (by decide +kernel), List.mem_of_getElem? (i := 637) (by decide +kernel), List.mem_of_getElem? (i := 638) (by decide +kernel)⟩
theorem lw_p42 : lw_okq (⟨"TiedThrees$Splits", "listBehind", "(II)V"⟩, 6) := ⟨⟨by decide +kernel, by decide +kernel⟩, List.mem_of_getElem? (i := 102) (by decide +kernel), List.mem_of_getElem? (i := 644) (by decide +kernel), List.mem_of_getElem? (i := 645) (by decide +kernel)⟩
theorem lw_p43 : lw_okq (⟨"TiedThrees$Splits", "add", "(III)V"⟩, 6) := ⟨⟨by decide +kernel, by decide +kernel⟩, List.mem_of_getElem? (i := 102) (by decide +kernel), List.mem_of_getElem? (i := 648) (by decide +kernel), List.mem_of_getElem? (i := 649) (by decide +kernel)⟩
theorem lw_p44 : lw_okq (⟨"TiedThrees", "walkAllThrees", "()V"⟩, 15) := ⟨⟨by decide +kernel, by decide +kernel⟩, List.mem_of_getElem? (i := 23) (by decide +kernel), List.mem_of_getElem? (i := 652) (by decide +kernel), List.mem_of_getElem? (i := 653) (by decide +kernel)⟩
theorem lw_p45 : lw_okq (⟨"TiedThrees$Splits", "firstOfMost", "()I"⟩, 6) := ⟨⟨by decide +kernel, by decide +kernel⟩, List.mem_of_getElem? (i := 102) (by decide +kernel), List.mem_of_getElem? (i := 656) (by decide +kernel), List.mem_of_getElem? (i := 657) (by decide +kernel)⟩
theorem lw_p46 : lw_okq (⟨"TiedThrees$Splits", "doneBy", "(I)I"⟩, 6) := ⟨⟨by decide +kernel, by decide +kernel⟩, List.mem_of_getElem? (i := 102) (by decide +kernel), List.mem_of_getElem? (i := 660) (by decide +kernel), List.mem_of_getElem? (i := 661) (by decide +kernel)⟩
theorem lw_p47 : lw_okq (⟨"TiedThrees$Splits", "threeOf", "(II)I"⟩, 6) := ⟨⟨by decide +kernel, by decide +kernel⟩, List.mem_of_getElem? (i := 102) (by decide +kernel), List.mem_of_getElem? (i := 665) (by decide +kernel), List.mem_of_getElem? (i := 666) (by decide +kernel)⟩
def lw_privs_3 : List (MethodName × Nat) := [(⟨"TiedThrees$Day", "stepTowards", "(I)V"⟩, 10), (⟨"TiedThrees$Town", "onRing", "(I)I"⟩, 7), (⟨"TiedThrees$Day", "doErrands", "()V"⟩, 10), (⟨"TiedThrees$FreeDay", "mostDone", "(I)I"⟩, 4), (⟨"TiedThrees$FreeDay", "weigh", "(I)V"⟩, 4), (⟨"TiedThrees$FreeDay", "weighErrandsOf", "(I)V"⟩, 4), (⟨"TiedThrees$FreeDay", "passHour", "(II)V"⟩, 4), (⟨"TiedThrees$FreeDay", "goOn", "(III)V"⟩, 4), (⟨"TiedThrees", "isAllInThrees", "()Z"⟩, 15), (⟨"TiedThrees$Splits", "list", "(I)V"⟩, 6), (⟨"TiedThrees$Splits", "listBehind", "(II)V"⟩, 6), (⟨"TiedThrees$Splits", "add", "(III)V"⟩, 6), (⟨"TiedThrees", "walkAllThrees", "()V"⟩, 15), (⟨"TiedThrees$Splits", "firstOfMost", "()I"⟩, 6), (⟨"TiedThrees$Splits", "doneBy", "(I)I"⟩, 6), (⟨"TiedThrees$Splits", "threeOf", "(II)I"⟩, 6)]
theorem lw_r3 : ∀ q ∈ lw_privs_3, lw_okq q := List.forall_mem_cons.mpr ⟨lw_p32, List.forall_mem_cons.mpr ⟨lw_p33, List.forall_mem_cons.mpr ⟨lw_p34, List.forall_mem_cons.mpr ⟨lw_p35, List.forall_mem_cons.mpr ⟨lw_p36, List.forall_mem_cons.mpr ⟨lw_p37, List.forall_mem_cons.mpr ⟨lw_p38, List.forall_mem_cons.mpr ⟨lw_p39, List.forall_mem_cons.mpr ⟨lw_p40, List.forall_mem_cons.mpr ⟨lw_p41, List.forall_mem_cons.mpr ⟨lw_p42, List.forall_mem_cons.mpr ⟨lw_p43, List.forall_mem_cons.mpr ⟨lw_p44, List.forall_mem_cons.mpr ⟨lw_p45, List.forall_mem_cons.mpr ⟨lw_p46, List.forall_mem_cons.mpr ⟨lw_p47, fun _ h => absurd h List.not_mem_nil⟩⟩⟩⟩⟩⟩⟩⟩⟩⟩⟩⟩⟩⟩⟩⟩
theorem lw_p48 : lw_okq (⟨"TiedThrees", "drawLots", "(J)V"⟩, 15) := ⟨⟨by decide +kernel, by decide +kernel⟩, List.mem_of_getElem? (i := 23) (by decide +kernel), List.mem_of_getElem? (i := 675) (by decide +kernel), List.mem_of_getElem? (i := 676) (by decide +kernel)⟩
theorem lw_p49 : lw_okq (⟨"TiedThrees", "threeWith", "(I)I"⟩, 15) := ⟨⟨by decide +kernel, by decide +kernel⟩, List.mem_of_getElem? (i := 23) (by decide +kernel), List.mem_of_getElem? (i := 688) (by decide +kernel), List.mem_of_getElem? (i := 689) (by decide +kernel)⟩
theorem lw_p50 : lw_okq (⟨"TiedThrees$Splits", "rowsOf", "(I)J"⟩, 6) := ⟨⟨by decide +kernel, by decide +kernel⟩, List.mem_of_getElem? (i := 102) (by decide +kernel), List.mem_of_getElem? (i := 696) (by decide +kernel), List.mem_of_getElem? (i := 697) (by decide +kernel)⟩
theorem lw_p51 : lw_okq (⟨"TiedThrees", "keepSixths", "(I)V"⟩, 15) := ⟨⟨by decide +kernel, by decide +kernel⟩, List.mem_of_getElem? (i := 23) (by decide +kernel), List.mem_of_getElem? (i := 718) (by decide +kernel), List.mem_of_getElem? (i := 719) (by decide +kernel)⟩
theorem lw_p52 : lw_okq (⟨"TiedThrees$Town", "isThreeOrNone", "(I)Z"⟩, 7) := ⟨⟨by decide +kernel, by decide +kernel⟩, List.mem_of_getElem? (i := 39) (by decide +kernel), List.mem_of_getElem? (i := 726) (by decide +kernel), List.mem_of_getElem? (i := 727) (by decide +kernel)⟩
theorem lw_p53 : lw_okq (⟨"TiedThrees$Scene", "addWeek", "(III)I"⟩, 8) := ⟨⟨by decide +kernel, by decide +kernel⟩, List.mem_of_getElem? (i := 134) (by decide +kernel), List.mem_of_getElem? (i := 731) (by decide +kernel), List.mem_of_getElem? (i := 732) (by decide +kernel)⟩
theorem lw_p54 : lw_okq (⟨"TiedThrees$Scene", "toldInWeek", "(II)I"⟩, 8) := ⟨⟨by decide +kernel, by decide +kernel⟩, List.mem_of_getElem? (i := 134) (by decide +kernel), List.mem_of_getElem? (i := 744) (by decide +kernel), List.mem_of_getElem? (i := 745) (by decide +kernel)⟩
theorem lw_p55 : lw_okq (⟨"TiedThrees$Scene", "addSight", "(III)I"⟩, 8) := ⟨⟨by decide +kernel, by decide +kernel⟩, List.mem_of_getElem? (i := 134) (by decide +kernel), List.mem_of_getElem? (i := 770) (by decide +kernel), List.mem_of_getElem? (i := 771) (by decide +kernel)⟩
theorem lw_p56 : lw_okq (⟨"TiedThrees", "mayHaveBeen", "(II)Z"⟩, 15) := ⟨⟨by decide +kernel, by decide +kernel⟩, List.mem_of_getElem? (i := 23) (by decide +kernel), List.mem_of_getElem? (i := 782) (by decide +kernel), List.mem_of_getElem? (i := 783) (by decide +kernel)⟩
theorem lw_p57 : lw_okq (⟨"TiedThrees$Scene", "become", "(LTiedThrees$Scene;)V"⟩, 8) := ⟨⟨by decide +kernel, by decide +kernel⟩, List.mem_of_getElem? (i := 134) (by decide +kernel), List.mem_of_getElem? (i := 797) (by decide +kernel), List.mem_of_getElem? (i := 798) (by decide +kernel)⟩
theorem lw_p58 : lw_okq (⟨"TiedThrees", "howMany", "(I)I"⟩, 15) := ⟨⟨by decide +kernel, by decide +kernel⟩, List.mem_of_getElem? (i := 23) (by decide +kernel), List.mem_of_getElem? (i := 815) (by decide +kernel), List.mem_of_getElem? (i := 816) (by decide +kernel)⟩
theorem lw_p59 : lw_okq (⟨"TiedThrees$Scene", "digested", "(J)J"⟩, 8) := ⟨⟨by decide +kernel, by decide +kernel⟩, List.mem_of_getElem? (i := 134) (by decide +kernel), List.mem_of_getElem? (i := 826) (by decide +kernel), List.mem_of_getElem? (i := 827) (by decide +kernel)⟩
theorem lw_p60 : lw_okq (⟨"TiedThrees$Town", "digested", "(J)J"⟩, 7) := ⟨⟨by decide +kernel, by decide +kernel⟩, List.mem_of_getElem? (i := 39) (by decide +kernel), List.mem_of_getElem? (i := 830) (by decide +kernel), List.mem_of_getElem? (i := 831) (by decide +kernel)⟩
theorem lw_p61 : lw_okq (⟨"TiedThreesModel", "bad", "(I)I"⟩, 29) := ⟨⟨by decide +kernel, by decide +kernel⟩, List.mem_of_getElem? (i := 836) (by decide +kernel), List.mem_of_getElem? (i := 938) (by decide +kernel), List.mem_of_getElem? (i := 939) (by decide +kernel)⟩
theorem lw_p62 : lw_okq (⟨"TiedThreesModel", "ring", "()I"⟩, 29) := ⟨⟨by decide +kernel, by decide +kernel⟩, List.mem_of_getElem? (i := 836) (by decide +kernel), List.mem_of_getElem? (i := 942) (by decide +kernel), List.mem_of_getElem? (i := 943) (by decide +kernel)⟩
theorem lw_p63 : lw_okq (⟨"TiedThreesModel", "people", "()I"⟩, 29) := ⟨⟨by decide +kernel, by decide +kernel⟩, List.mem_of_getElem? (i := 836) (by decide +kernel), List.mem_of_getElem? (i := 952) (by decide +kernel), List.mem_of_getElem? (i := 953) (by decide +kernel)⟩
def lw_privs_4 : List (MethodName × Nat) := [(⟨"TiedThrees", "drawLots", "(J)V"⟩, 15), (⟨"TiedThrees", "threeWith", "(I)I"⟩, 15), (⟨"TiedThrees$Splits", "rowsOf", "(I)J"⟩, 6), (⟨"TiedThrees", "keepSixths", "(I)V"⟩, 15), (⟨"TiedThrees$Town", "isThreeOrNone", "(I)Z"⟩, 7), (⟨"TiedThrees$Scene", "addWeek", "(III)I"⟩, 8), (⟨"TiedThrees$Scene", "toldInWeek", "(II)I"⟩, 8), (⟨"TiedThrees$Scene", "addSight", "(III)I"⟩, 8), (⟨"TiedThrees", "mayHaveBeen", "(II)Z"⟩, 15), (⟨"TiedThrees$Scene", "become", "(LTiedThrees$Scene;)V"⟩, 8), (⟨"TiedThrees", "howMany", "(I)I"⟩, 15), (⟨"TiedThrees$Scene", "digested", "(J)J"⟩, 8), (⟨"TiedThrees$Town", "digested", "(J)J"⟩, 7), (⟨"TiedThreesModel", "bad", "(I)I"⟩, 29), (⟨"TiedThreesModel", "ring", "()I"⟩, 29), (⟨"TiedThreesModel", "people", "()I"⟩, 29)]
theorem lw_r4 : ∀ q ∈ lw_privs_4, lw_okq q := List.forall_mem_cons.mpr ⟨lw_p48, List.forall_mem_cons.mpr ⟨lw_p49, List.forall_mem_cons.mpr ⟨lw_p50, List.forall_mem_cons.mpr ⟨lw_p51, List.forall_mem_cons.mpr ⟨lw_p52, List.forall_mem_cons.mpr ⟨lw_p53, List.forall_mem_cons.mpr ⟨lw_p54, List.forall_mem_cons.mpr ⟨lw_p55, List.forall_mem_cons.mpr ⟨lw_p56, List.forall_mem_cons.mpr ⟨lw_p57, List.forall_mem_cons.mpr ⟨lw_p58, List.forall_mem_cons.mpr ⟨lw_p59, List.forall_mem_cons.mpr ⟨lw_p60, List.forall_mem_cons.mpr ⟨lw_p61, List.forall_mem_cons.mpr ⟨lw_p62, List.forall_mem_cons.mpr ⟨lw_p63, fun _ h => absurd h List.not_mem_nil⟩⟩⟩⟩⟩⟩⟩⟩⟩⟩⟩⟩⟩⟩⟩⟩
theorem lw_p64 : lw_okq (⟨"TiedThreesModel", "full", "()I"⟩, 29) := ⟨⟨by decide +kernel, by decide +kernel⟩, List.mem_of_getElem? (i := 836) (by decide +kernel), List.mem_of_getElem? (i := 956) (by decide +kernel), List.mem_of_getElem? (i := 957) (by decide +kernel)⟩
theorem lw_p65 : lw_okq (⟨"TiedThreesModel", "isOne", "(I)Z"⟩, 29) := ⟨⟨by decide +kernel, by decide +kernel⟩, List.mem_of_getElem? (i := 836) (by decide +kernel), List.mem_of_getElem? (i := 967) (by decide +kernel), List.mem_of_getElem? (i := 968) (by decide +kernel)⟩
theorem lw_p66 : lw_okq (⟨"TiedThreesModel", "of", "(II)I"⟩, 29) := ⟨⟨by decide +kernel, by decide +kernel⟩, List.mem_of_getElem? (i := 836) (by decide +kernel), List.mem_of_getElem? (i := 971) (by decide +kernel), List.mem_of_getElem? (i := 972) (by decide +kernel)⟩
theorem lw_p67 : lw_okq (⟨"TiedThreesModel", "no", "(I)I"⟩, 29) := ⟨⟨by decide +kernel, by decide +kernel⟩, List.mem_of_getElem? (i := 836) (by decide +kernel), List.mem_of_getElem? (i := 982) (by decide +kernel), List.mem_of_getElem? (i := 983) (by decide +kernel)⟩
theorem lw_p68 : lw_okq (⟨"TiedThreesModel", "isThree", "(I)Z"⟩, 29) := ⟨⟨by decide +kernel, by decide +kernel⟩, List.mem_of_getElem? (i := 836) (by decide +kernel), List.mem_of_getElem? (i := 990) (by decide +kernel), List.mem_of_getElem? (i := 991) (by decide +kernel)⟩
theorem lw_p69 : lw_okq (⟨"TiedThreesModel", "goDay", "(I)I"⟩, 29) := ⟨⟨by decide +kernel, by decide +kernel⟩, List.mem_of_getElem? (i := 836) (by decide +kernel), List.mem_of_getElem? (i := 998) (by decide +kernel), List.mem_of_getElem? (i := 999) (by decide +kernel)⟩
theorem lw_p70 : lw_okq (⟨"TiedThreesModel", "takeThree", "(I)V"⟩, 29) := ⟨⟨by decide +kernel, by decide +kernel⟩, List.mem_of_getElem? (i := 836) (by decide +kernel), List.mem_of_getElem? (i := 1002) (by decide +kernel), List.mem_of_getElem? (i := 1003) (by decide +kernel)⟩
theorem lw_p71 : lw_okq (⟨"TiedThreesModel", "vote", "(II)I"⟩, 29) := ⟨⟨by decide +kernel, by decide +kernel⟩, List.mem_of_getElem? (i := 836) (by decide +kernel), List.mem_of_getElem? (i := 1006) (by decide +kernel), List.mem_of_getElem? (i := 1007) (by decide +kernel)⟩
theorem lw_p72 : lw_okq (⟨"TiedThreesModel", "hastyVote", "(II)I"⟩, 29) := ⟨⟨by decide +kernel, by decide +kernel⟩, List.mem_of_getElem? (i := 836) (by decide +kernel), List.mem_of_getElem? (i := 1010) (by decide +kernel), List.mem_of_getElem? (i := 1011) (by decide +kernel)⟩
theorem lw_p73 : lw_okq (⟨"TiedThreesModel", "hourOf", "(II)I"⟩, 29) := ⟨⟨by decide +kernel, by decide +kernel⟩, List.mem_of_getElem? (i := 836) (by decide +kernel), List.mem_of_getElem? (i := 1014) (by decide +kernel), List.mem_of_getElem? (i := 1015) (by decide +kernel)⟩
theorem lw_p74 : lw_okq (⟨"TiedThreesModel", "isOpen", "(III)Z"⟩, 29) := ⟨⟨by decide +kernel, by decide +kernel⟩, List.mem_of_getElem? (i := 836) (by decide +kernel), List.mem_of_getElem? (i := 1018) (by decide +kernel), List.mem_of_getElem? (i := 1019) (by decide +kernel)⟩
theorem lw_p75 : lw_okq (⟨"TiedThreesModel", "placeOf", "(II)I"⟩, 29) := ⟨⟨by decide +kernel, by decide +kernel⟩, List.mem_of_getElem? (i := 836) (by decide +kernel), List.mem_of_getElem? (i := 1022) (by decide +kernel), List.mem_of_getElem? (i := 1023) (by decide +kernel)⟩
theorem lw_p76 : lw_okq (⟨"TiedThreesModel", "plainVote", "(II)I"⟩, 29) := ⟨⟨by decide +kernel, by decide +kernel⟩, List.mem_of_getElem? (i := 836) (by decide +kernel), List.mem_of_getElem? (i := 1026) (by decide +kernel), List.mem_of_getElem? (i := 1027) (by decide +kernel)⟩
theorem lw_p77 : lw_okq (⟨"TiedThreesModel", "firstOpen", "(II)I"⟩, 29) := ⟨⟨by decide +kernel, by decide +kernel⟩, List.mem_of_getElem? (i := 836) (by decide +kernel), List.mem_of_getElem? (i := 1030) (by decide +kernel), List.mem_of_getElem? (i := 1031) (by decide +kernel)⟩
theorem lw_p78 : lw_okq (⟨"TiedThreesModel", "kindVote", "(II)I"⟩, 29) := ⟨⟨by decide +kernel, by decide +kernel⟩, List.mem_of_getElem? (i := 836) (by decide +kernel), List.mem_of_getElem? (i := 1034) (by decide +kernel), List.mem_of_getElem? (i := 1035) (by decide +kernel)⟩
theorem lw_p79 : lw_okq (⟨"TiedThreesModel", "stepTo", "(I)V"⟩, 29) := ⟨⟨by decide +kernel, by decide +kernel⟩, List.mem_of_getElem? (i := 836) (by decide +kernel), List.mem_of_getElem? (i := 1038) (by decide +kernel), List.mem_of_getElem? (i := 1039) (by decide +kernel)⟩
def lw_privs_5 : List (MethodName × Nat) := [(⟨"TiedThreesModel", "full", "()I"⟩, 29), (⟨"TiedThreesModel", "isOne", "(I)Z"⟩, 29), (⟨"TiedThreesModel", "of", "(II)I"⟩, 29), (⟨"TiedThreesModel", "no", "(I)I"⟩, 29), (⟨"TiedThreesModel", "isThree", "(I)Z"⟩, 29), (⟨"TiedThreesModel", "goDay", "(I)I"⟩, 29), (⟨"TiedThreesModel", "takeThree", "(I)V"⟩, 29), (⟨"TiedThreesModel", "vote", "(II)I"⟩, 29), (⟨"TiedThreesModel", "hastyVote", "(II)I"⟩, 29), (⟨"TiedThreesModel", "hourOf", "(II)I"⟩, 29), (⟨"TiedThreesModel", "isOpen", "(III)Z"⟩, 29), (⟨"TiedThreesModel", "placeOf", "(II)I"⟩, 29), (⟨"TiedThreesModel", "plainVote", "(II)I"⟩, 29), (⟨"TiedThreesModel", "firstOpen", "(II)I"⟩, 29), (⟨"TiedThreesModel", "kindVote", "(II)I"⟩, 29), (⟨"TiedThreesModel", "stepTo", "(I)V"⟩, 29)]
theorem lw_r5 : ∀ q ∈ lw_privs_5, lw_okq q := List.forall_mem_cons.mpr ⟨lw_p64, List.forall_mem_cons.mpr ⟨lw_p65, List.forall_mem_cons.mpr ⟨lw_p66, List.forall_mem_cons.mpr ⟨lw_p67, List.forall_mem_cons.mpr ⟨lw_p68, List.forall_mem_cons.mpr ⟨lw_p69, List.forall_mem_cons.mpr ⟨lw_p70, List.forall_mem_cons.mpr ⟨lw_p71, List.forall_mem_cons.mpr ⟨lw_p72, List.forall_mem_cons.mpr ⟨lw_p73, List.forall_mem_cons.mpr ⟨lw_p74, List.forall_mem_cons.mpr ⟨lw_p75, List.forall_mem_cons.mpr ⟨lw_p76, List.forall_mem_cons.mpr ⟨lw_p77, List.forall_mem_cons.mpr ⟨lw_p78, List.forall_mem_cons.mpr ⟨lw_p79, fun _ h => absurd h List.not_mem_nil⟩⟩⟩⟩⟩⟩⟩⟩⟩⟩⟩⟩⟩⟩⟩⟩
theorem lw_p80 : lw_okq (⟨"TiedThreesModel", "isFast", "()Z"⟩, 29) := ⟨⟨by decide +kernel, by decide +kernel⟩, List.mem_of_getElem? (i := 836) (by decide +kernel), List.mem_of_getElem? (i := 1042) (by decide +kernel), List.mem_of_getElem? (i := 1043) (by decide +kernel)⟩
theorem lw_p81 : lw_okq (⟨"TiedThreesModel", "doAll", "(I)I"⟩, 29) := ⟨⟨by decide +kernel, by decide +kernel⟩, List.mem_of_getElem? (i := 836) (by decide +kernel), List.mem_of_getElem? (i := 1046) (by decide +kernel), List.mem_of_getElem? (i := 1047) (by decide +kernel)⟩
theorem lw_p82 : lw_okq (⟨"TiedThreesModel", "goOn", "(III)V"⟩, 29) := ⟨⟨by decide +kernel, by decide +kernel⟩, List.mem_of_getElem? (i := 836) (by decide +kernel), List.mem_of_getElem? (i := 1054) (by decide +kernel), List.mem_of_getElem? (i := 1055) (by decide +kernel)⟩
theorem lw_p83 : lw_okq (⟨"TiedThreesModel", "takeDone", "(I)V"⟩, 29) := ⟨⟨by decide +kernel, by decide +kernel⟩, List.mem_of_getElem? (i := 836) (by decide +kernel), List.mem_of_getElem? (i := 1058) (by decide +kernel), List.mem_of_getElem? (i := 1059) (by decide +kernel)⟩
theorem lw_p84 : lw_okq (⟨"TiedThreesModel", "doneNow", "()I"⟩, 29) := ⟨⟨by decide +kernel, by decide +kernel⟩, List.mem_of_getElem? (i := 836) (by decide +kernel), List.mem_of_getElem? (i := 1062) (by decide +kernel), List.mem_of_getElem? (i := 1063) (by decide +kernel)⟩
theorem lw_p85 : lw_okq (⟨"TiedThreesModel", "areThrees", "()Z"⟩, 29) := ⟨⟨by decide +kernel, by decide +kernel⟩, List.mem_of_getElem? (i := 836) (by decide +kernel), List.mem_of_getElem? (i := 1070) (by decide +kernel), List.mem_of_getElem? (i := 1071) (by decide +kernel)⟩
theorem lw_p86 : lw_okq (⟨"TiedThreesModel", "noThrees", "()V"⟩, 29) := ⟨⟨by decide +kernel, by decide +kernel⟩, List.mem_of_getElem? (i := 836) (by decide +kernel), List.mem_of_getElem? (i := 1074) (by decide +kernel), List.mem_of_getElem? (i := 1075) (by decide +kernel)⟩
theorem lw_p87 : lw_okq (⟨"TiedThreesModel", "nextAll", "()Z"⟩, 29) := ⟨⟨by decide +kernel, by decide +kernel⟩, List.mem_of_getElem? (i := 836) (by decide +kernel), List.mem_of_getElem? (i := 1078) (by decide +kernel), List.mem_of_getElem? (i := 1079) (by decide +kernel)⟩
theorem lw_p88 : lw_okq (⟨"TiedThreesModel", "findWays", "()V"⟩, 29) := ⟨⟨by decide +kernel, by decide +kernel⟩, List.mem_of_getElem? (i := 836) (by decide +kernel), List.mem_of_getElem? (i := 1101) (by decide +kernel), List.mem_of_getElem? (i := 1102) (by decide +kernel)⟩
theorem lw_p89 : lw_okq (⟨"TiedThreesModel", "more", "(JI)J"⟩, 29) := ⟨⟨by decide +kernel, by decide +kernel⟩, List.mem_of_getElem? (i := 836) (by decide +kernel), List.mem_of_getElem? (i := 1108) (by decide +kernel), List.mem_of_getElem? (i := 1109) (by decide +kernel)⟩
theorem lw_p90 : lw_okq (⟨"TiedThreesModel", "last", "(J)J"⟩, 29) := ⟨⟨by decide +kernel, by decide +kernel⟩, List.mem_of_getElem? (i := 836) (by decide +kernel), List.mem_of_getElem? (i := 1112) (by decide +kernel), List.mem_of_getElem? (i := 1113) (by decide +kernel)⟩
theorem lw_p91 : lw_okq (⟨"TiedThreesModel", "gainOf", "(I)I"⟩, 29) := ⟨⟨by decide +kernel, by decide +kernel⟩, List.mem_of_getElem? (i := 836) (by decide +kernel), List.mem_of_getElem? (i := 1126) (by decide +kernel), List.mem_of_getElem? (i := 1127) (by decide +kernel)⟩
theorem lw_p92 : lw_okq (⟨"TiedThreesModel", "tell", "(JJ)I"⟩, 29) := ⟨⟨by decide +kernel, by decide +kernel⟩, List.mem_of_getElem? (i := 836) (by decide +kernel), List.mem_of_getElem? (i := 1135) (by decide +kernel), List.mem_of_getElem? (i := 1136) (by decide +kernel)⟩
theorem lw_p93 : lw_okq (⟨"TiedThreesModel", "isSet", "(I)Z"⟩, 29) := ⟨⟨by decide +kernel, by decide +kernel⟩, List.mem_of_getElem? (i := 836) (by decide +kernel), List.mem_of_getElem? (i := 1151) (by decide +kernel), List.mem_of_getElem? (i := 1152) (by decide +kernel)⟩
theorem lw_p94 : lw_okq (⟨"TiedThreesModel", "known", "(II)I"⟩, 29) := ⟨⟨by decide +kernel, by decide +kernel⟩, List.mem_of_getElem? (i := 836) (by decide +kernel), List.mem_of_getElem? (i := 1155) (by decide +kernel), List.mem_of_getElem? (i := 1156) (by decide +kernel)⟩
theorem lw_p95 : lw_okq (⟨"TiedThreesModel", "layRope", "(III)V"⟩, 29) := ⟨⟨by decide +kernel, by decide +kernel⟩, List.mem_of_getElem? (i := 836) (by decide +kernel), List.mem_of_getElem? (i := 1168) (by decide +kernel), List.mem_of_getElem? (i := 1169) (by decide +kernel)⟩
def lw_privs_6 : List (MethodName × Nat) := [(⟨"TiedThreesModel", "isFast", "()Z"⟩, 29), (⟨"TiedThreesModel", "doAll", "(I)I"⟩, 29), (⟨"TiedThreesModel", "goOn", "(III)V"⟩, 29), (⟨"TiedThreesModel", "takeDone", "(I)V"⟩, 29), (⟨"TiedThreesModel", "doneNow", "()I"⟩, 29), (⟨"TiedThreesModel", "areThrees", "()Z"⟩, 29), (⟨"TiedThreesModel", "noThrees", "()V"⟩, 29), (⟨"TiedThreesModel", "nextAll", "()Z"⟩, 29), (⟨"TiedThreesModel", "findWays", "()V"⟩, 29), (⟨"TiedThreesModel", "more", "(JI)J"⟩, 29), (⟨"TiedThreesModel", "last", "(J)J"⟩, 29), (⟨"TiedThreesModel", "gainOf", "(I)I"⟩, 29), (⟨"TiedThreesModel", "tell", "(JJ)I"⟩, 29), (⟨"TiedThreesModel", "isSet", "(I)Z"⟩, 29), (⟨"TiedThreesModel", "known", "(II)I"⟩, 29), (⟨"TiedThreesModel", "layRope", "(III)V"⟩, 29)]
theorem lw_r6 : ∀ q ∈ lw_privs_6, lw_okq q := List.forall_mem_cons.mpr ⟨lw_p80, List.forall_mem_cons.mpr ⟨lw_p81, List.forall_mem_cons.mpr ⟨lw_p82, List.forall_mem_cons.mpr ⟨lw_p83, List.forall_mem_cons.mpr ⟨lw_p84, List.forall_mem_cons.mpr ⟨lw_p85, List.forall_mem_cons.mpr ⟨lw_p86, List.forall_mem_cons.mpr ⟨lw_p87, List.forall_mem_cons.mpr ⟨lw_p88, List.forall_mem_cons.mpr ⟨lw_p89, List.forall_mem_cons.mpr ⟨lw_p90, List.forall_mem_cons.mpr ⟨lw_p91, List.forall_mem_cons.mpr ⟨lw_p92, List.forall_mem_cons.mpr ⟨lw_p93, List.forall_mem_cons.mpr ⟨lw_p94, List.forall_mem_cons.mpr ⟨lw_p95, fun _ h => absurd h List.not_mem_nil⟩⟩⟩⟩⟩⟩⟩⟩⟩⟩⟩⟩⟩⟩⟩⟩
theorem lw_p96 : lw_okq (⟨"TiedThreesModel", "layEnd", "(III)V"⟩, 29) := ⟨⟨by decide +kernel, by decide +kernel⟩, List.mem_of_getElem? (i := 836) (by decide +kernel), List.mem_of_getElem? (i := 1175) (by decide +kernel), List.mem_of_getElem? (i := 1176) (by decide +kernel)⟩
theorem lw_p97 : lw_okq (⟨"TiedThreesModel", "isSeen", "(II)Z"⟩, 29) := ⟨⟨by decide +kernel, by decide +kernel⟩, List.mem_of_getElem? (i := 836) (by decide +kernel), List.mem_of_getElem? (i := 1191) (by decide +kernel), List.mem_of_getElem? (i := 1192) (by decide +kernel)⟩
theorem lw_p98 : lw_okq (⟨"TiedThreesModel", "look", "(I)V"⟩, 29) := ⟨⟨by decide +kernel, by decide +kernel⟩, List.mem_of_getElem? (i := 836) (by decide +kernel), List.mem_of_getElem? (i := 1209) (by decide +kernel), List.mem_of_getElem? (i := 1210) (by decide +kernel)⟩
theorem lw_p99 : lw_okq (⟨"TiedThreesModel", "readsItem", "()Z"⟩, 29) := ⟨⟨by decide +kernel, by decide +kernel⟩, List.mem_of_getElem? (i := 836) (by decide +kernel), List.mem_of_getElem? (i := 1223) (by decide +kernel), List.mem_of_getElem? (i := 1224) (by decide +kernel)⟩
theorem lw_p100 : lw_okq (⟨"TiedThreesModel", "isWord", "(IIIIII)Z"⟩, 29) := ⟨⟨by decide +kernel, by decide +kernel⟩, List.mem_of_getElem? (i := 836) (by decide +kernel), List.mem_of_getElem? (i := 1227) (by decide +kernel), List.mem_of_getElem? (i := 1228) (by decide +kernel)⟩
theorem lw_p101 : lw_okq (⟨"TiedThreesModel", "goNext", "()V"⟩, 29) := ⟨⟨by decide +kernel, by decide +kernel⟩, List.mem_of_getElem? (i := 836) (by decide +kernel), List.mem_of_getElem? (i := 1231) (by decide +kernel), List.mem_of_getElem? (i := 1232) (by decide +kernel)⟩
theorem lw_p102 : lw_okq (⟨"TiedThreesModel", "takes", "(II)Z"⟩, 29) := ⟨⟨by decide +kernel, by decide +kernel⟩, List.mem_of_getElem? (i := 836) (by decide +kernel), List.mem_of_getElem? (i := 1235) (by decide +kernel), List.mem_of_getElem? (i := 1236) (by decide +kernel)⟩
theorem lw_p103 : lw_okq (⟨"TiedThreesModel", "readsPerson", "()Z"⟩, 29) := ⟨⟨by decide +kernel, by decide +kernel⟩, List.mem_of_getElem? (i := 836) (by decide +kernel), List.mem_of_getElem? (i := 1239) (by decide +kernel), List.mem_of_getElem? (i := 1240) (by decide +kernel)⟩
theorem lw_p104 : lw_okq (⟨"TiedThreesModel", "readsErrand", "()Z"⟩, 29) := ⟨⟨by decide +kernel, by decide +kernel⟩, List.mem_of_getElem? (i := 836) (by decide +kernel), List.mem_of_getElem? (i := 1243) (by decide +kernel), List.mem_of_getElem? (i := 1244) (by decide +kernel)⟩
theorem lw_p105 : lw_okq (⟨"TiedThreesModel", "counted", "(I)I"⟩, 29) := ⟨⟨by decide +kernel, by decide +kernel⟩, List.mem_of_getElem? (i := 836) (by decide +kernel), List.mem_of_getElem? (i := 1268) (by decide +kernel), List.mem_of_getElem? (i := 1269) (by decide +kernel)⟩
theorem lw_p106 : lw_okq (⟨"TiedThreesModel", "allErrands", "()I"⟩, 29) := ⟨⟨by decide +kernel, by decide +kernel⟩, List.mem_of_getElem? (i := 836) (by decide +kernel), List.mem_of_getElem? (i := 1272) (by decide +kernel), List.mem_of_getElem? (i := 1273) (by decide +kernel)⟩
theorem lw_p107 : lw_okq (⟨"TiedThreesModel", "sums", "(JII)J"⟩, 29) := ⟨⟨by decide +kernel, by decide +kernel⟩, List.mem_of_getElem? (i := 836) (by decide +kernel), List.mem_of_getElem? (i := 1282) (by decide +kernel), List.mem_of_getElem? (i := 1283) (by decide +kernel)⟩
def lw_privs_7 : List (MethodName × Nat) := [(⟨"TiedThreesModel", "layEnd", "(III)V"⟩, 29), (⟨"TiedThreesModel", "isSeen", "(II)Z"⟩, 29), (⟨"TiedThreesModel", "look", "(I)V"⟩, 29), (⟨"TiedThreesModel", "readsItem", "()Z"⟩, 29), (⟨"TiedThreesModel", "isWord", "(IIIIII)Z"⟩, 29), (⟨"TiedThreesModel", "goNext", "()V"⟩, 29), (⟨"TiedThreesModel", "takes", "(II)Z"⟩, 29), (⟨"TiedThreesModel", "readsPerson", "()Z"⟩, 29), (⟨"TiedThreesModel", "readsErrand", "()Z"⟩, 29), (⟨"TiedThreesModel", "counted", "(I)I"⟩, 29), (⟨"TiedThreesModel", "allErrands", "()I"⟩, 29), (⟨"TiedThreesModel", "sums", "(JII)J"⟩, 29)]
theorem lw_r7 : ∀ q ∈ lw_privs_7, lw_okq q := List.forall_mem_cons.mpr ⟨lw_p96, List.forall_mem_cons.mpr ⟨lw_p97, List.forall_mem_cons.mpr ⟨lw_p98, List.forall_mem_cons.mpr ⟨lw_p99, List.forall_mem_cons.mpr ⟨lw_p100, List.forall_mem_cons.mpr ⟨lw_p101, List.forall_mem_cons.mpr ⟨lw_p102, List.forall_mem_cons.mpr ⟨lw_p103, List.forall_mem_cons.mpr ⟨lw_p104, List.forall_mem_cons.mpr ⟨lw_p105, List.forall_mem_cons.mpr ⟨lw_p106, List.forall_mem_cons.mpr ⟨lw_p107, fun _ h => absurd h List.not_mem_nil⟩⟩⟩⟩⟩⟩⟩⟩⟩⟩⟩⟩
def lw_privs : List (MethodName × Nat) := lw_privs_1 ++ (lw_privs_2 ++ (lw_privs_3 ++ (lw_privs_4 ++ (lw_privs_5 ++ (lw_privs_6 ++ (lw_privs_7))))))
def lw_tbl : List Cond := k2_sels lw_privs ++ tables_1
theorem lw_privs_ok : ∀ q ∈ lw_privs, lw_okq q := by
  show ∀ q ∈ lw_privs_1 ++ (lw_privs_2 ++ (lw_privs_3 ++ (lw_privs_4 ++ (lw_privs_5 ++ (lw_privs_6 ++ (lw_privs_7)))))), lw_okq q
  exact List.forall_mem_append.mpr ⟨lw_r1, List.forall_mem_append.mpr ⟨lw_r2, List.forall_mem_append.mpr ⟨lw_r3, List.forall_mem_append.mpr ⟨lw_r4, List.forall_mem_append.mpr ⟨lw_r5, List.forall_mem_append.mpr ⟨lw_r6, lw_r7⟩⟩⟩⟩⟩⟩
def RX0 : String := "TiedThrees$Day"
def TX0 : u_T := fun k => match k with
  | 0 => ("TiedThrees$Day", "town", "LTiedThrees$Town;", true)
  | 1 => ("TiedThrees$Day", "voters", "[LTiedThrees$Person;", true)
  | 2 => ("TiedThrees$Day", "members", "[I", true)
  | 3 => ("TiedThrees$Day", "wish", "[I", true)
  | 4 => ("TiedThrees$Day", "busy", "[Z", true)
  | 5 => ("TiedThrees$Day", "isDone", "[Z", true)
  | 6 => ("TiedThrees$Day", "where", "[I", true)
  | 7 => ("TiedThrees$Day", "hour", "I", false)
  | 8 => ("TiedThrees$Day", "at", "I", false)
  | _ => ("TiedThrees$Day", "doneMany", "I", false)
def tyX0 : Nat → FieldType := fun k => match k with
  | 0 => .object "TiedThrees$Town"
  | 1 => .array (.object "TiedThrees$Person")
  | 2 => .array .int
  | 3 => .array .int
  | 4 => .array .boolean
  | 5 => .array .boolean
  | 6 => .array .int
  | 7 => .int
  | 8 => .int
  | _ => .int
abbrev wsX00 : List Cond := u_ws RX0 TX0 10
theorem nmX0 : ∀ a, a < 10 → ∀ b, b < 10 → a ≠ b → (TX0 a).2.1 ≠ (TX0 b).2.1 := by decide +kernel
theorem tyX0_ok : ∀ k, k < 10 → parseFieldDescriptor (TX0 k).2.2.1 = some (tyX0 k) := by decide +kernel
abbrev cX0_init : ByteArray := prog_2_method_1_code
def yX0_init : MethodName := ⟨RX0, "<init>", "(LTiedThrees$Town;)V"⟩
abbrev cX0_pass : ByteArray := prog_2_method_2_code
def yX0_pass : MethodName := ⟨RX0, "pass", "(I)V"⟩
abbrev cX0_begin : ByteArray := prog_2_method_3_code
def yX0_begin : MethodName := ⟨RX0, "begin", "(I)V"⟩
abbrev cX0_isOpen : ByteArray := prog_2_method_4_code
def yX0_isOpen : MethodName := ⟨RX0, "isOpen", "(I)Z"⟩
abbrev cX0_lookAround : ByteArray := prog_2_method_5_code
def yX0_lookAround : MethodName := ⟨RX0, "lookAround", "()V"⟩
abbrev cX0_mostPressing : ByteArray := prog_2_method_6_code
def yX0_mostPressing : MethodName := ⟨RX0, "mostPressing", "(I)I"⟩
abbrev cX0_firstUndone : ByteArray := prog_2_method_7_code
def yX0_firstUndone : MethodName := ⟨RX0, "firstUndone", "(I)I"⟩
abbrev cX0_chosen : ByteArray := prog_2_method_8_code
def yX0_chosen : MethodName := ⟨RX0, "chosen", "()I"⟩
abbrev cX0_stepTowards : ByteArray := prog_2_method_9_code
def yX0_stepTowards : MethodName := ⟨RX0, "stepTowards", "(I)V"⟩
abbrev cX0_doErrands : ByteArray := prog_2_method_10_code
def yX0_doErrands : MethodName := ⟨RX0, "doErrands", "()V"⟩
def RX1 : String := "TiedThrees$FreeDay"
def TX1 : u_T := fun k => match k with
  | 0 => ("TiedThrees$FreeDay", "town", "LTiedThrees$Town;", true)
  | 1 => ("TiedThrees$FreeDay", "worth", "[I", true)
  | 2 => ("TiedThrees$FreeDay", "now", "[I", false)
  | _ => ("TiedThrees$FreeDay", "next", "[I", false)
def tyX1 : Nat → FieldType := fun k => match k with
  | 0 => .object "TiedThrees$Town"
  | 1 => .array .int
  | 2 => .array .int
  | _ => .array .int
abbrev wsX10 : List Cond := u_ws RX1 TX1 4
theorem nmX1 : ∀ a, a < 4 → ∀ b, b < 4 → a ≠ b → (TX1 a).2.1 ≠ (TX1 b).2.1 := by decide +kernel
theorem tyX1_ok : ∀ k, k < 4 → parseFieldDescriptor (TX1 k).2.2.1 = some (tyX1 k) := by decide +kernel
abbrev cX1_init : ByteArray := prog_3_method_1_code
def yX1_init : MethodName := ⟨RX1, "<init>", "(LTiedThrees$Town;)V"⟩
abbrev cX1_mostDone : ByteArray := prog_3_method_2_code
def yX1_mostDone : MethodName := ⟨RX1, "mostDone", "(I)I"⟩
abbrev cX1_weigh : ByteArray := prog_3_method_3_code
def yX1_weigh : MethodName := ⟨RX1, "weigh", "(I)V"⟩
abbrev cX1_weighErrandsOf : ByteArray := prog_3_method_4_code
def yX1_weighErrandsOf : MethodName := ⟨RX1, "weighErrandsOf", "(I)V"⟩
abbrev cX1_passHour : ByteArray := prog_3_method_5_code
def yX1_passHour : MethodName := ⟨RX1, "passHour", "(II)V"⟩
abbrev cX1_goOn : ByteArray := prog_3_method_6_code
def yX1_goOn : MethodName := ⟨RX1, "goOn", "(III)V"⟩
def RX2 : String := "TiedThrees$Hasty"
def TX2 : u_T := fun k => match k with
  | _ => ("", "", "", false)
def tyX2 : Nat → FieldType := fun k => match k with
  | _ => .int
abbrev wsX20 : List Cond := u_ws RX2 TX2 0
theorem nmX2 : ∀ a, a < 0 → ∀ b, b < 0 → a ≠ b → (TX2 a).2.1 ≠ (TX2 b).2.1 := by decide +kernel
theorem tyX2_ok : ∀ k, k < 0 → parseFieldDescriptor (TX2 k).2.2.1 = some (tyX2 k) := by decide +kernel
abbrev cX2_init : ByteArray := prog_4_method_1_code
def yX2_init : MethodName := ⟨RX2, "<init>", "()V"⟩
abbrev cX2_vote : ByteArray := prog_4_method_2_code
def yX2_vote : MethodName := ⟨RX2, "vote", "(LTiedThrees$Day;I)I"⟩
def RX3 : String := "TiedThrees$Idle"
def TX3 : u_T := fun k => match k with
  | _ => ("", "", "", false)
def tyX3 : Nat → FieldType := fun k => match k with
  | _ => .int
abbrev wsX30 : List Cond := u_ws RX3 TX3 0
theorem nmX3 : ∀ a, a < 0 → ∀ b, b < 0 → a ≠ b → (TX3 a).2.1 ≠ (TX3 b).2.1 := by decide +kernel
theorem tyX3_ok : ∀ k, k < 0 → parseFieldDescriptor (TX3 k).2.2.1 = some (tyX3 k) := by decide +kernel
abbrev cX3_init : ByteArray := prog_5_method_1_code
def yX3_init : MethodName := ⟨RX3, "<init>", "()V"⟩
abbrev cX3_vote : ByteArray := prog_5_method_2_code
def yX3_vote : MethodName := ⟨RX3, "vote", "(LTiedThrees$Day;I)I"⟩
def RX4 : String := "TiedThrees$Kind"
def TX4 : u_T := fun k => match k with
  | _ => ("", "", "", false)
def tyX4 : Nat → FieldType := fun k => match k with
  | _ => .int
abbrev wsX40 : List Cond := u_ws RX4 TX4 0
theorem nmX4 : ∀ a, a < 0 → ∀ b, b < 0 → a ≠ b → (TX4 a).2.1 ≠ (TX4 b).2.1 := by decide +kernel
theorem tyX4_ok : ∀ k, k < 0 → parseFieldDescriptor (TX4 k).2.2.1 = some (tyX4 k) := by decide +kernel
abbrev cX4_init : ByteArray := prog_6_method_1_code
def yX4_init : MethodName := ⟨RX4, "<init>", "()V"⟩
abbrev cX4_vote : ByteArray := prog_6_method_2_code
def yX4_vote : MethodName := ⟨RX4, "vote", "(LTiedThrees$Day;I)I"⟩
abbrev cX4_kindly : ByteArray := prog_6_method_3_code
def yX4_kindly : MethodName := ⟨RX4, "kindly", "(LTiedThrees$Day;I)I"⟩
def RX5 : String := "TiedThrees$Person"
def TX5 : u_T := fun k => match k with
  | _ => ("", "", "", false)
def tyX5 : Nat → FieldType := fun k => match k with
  | _ => .int
abbrev wsX50 : List Cond := u_ws RX5 TX5 0
theorem nmX5 : ∀ a, a < 0 → ∀ b, b < 0 → a ≠ b → (TX5 a).2.1 ≠ (TX5 b).2.1 := by decide +kernel
theorem tyX5_ok : ∀ k, k < 0 → parseFieldDescriptor (TX5 k).2.2.1 = some (tyX5 k) := by decide +kernel
abbrev cX5_init : ByteArray := prog_7_method_1_code
def yX5_init : MethodName := ⟨RX5, "<init>", "()V"⟩
abbrev cX5_vote : ByteArray := prog_7_method_2_code
def yX5_vote : MethodName := ⟨RX5, "vote", "(LTiedThrees$Day;I)I"⟩
def RX6 : String := "TiedThrees$Scene"
def TX6 : u_T := fun k => match k with
  | 0 => ("TiedThrees$Scene", "town", "LTiedThrees$Town;", true)
  | 1 => ("TiedThrees$Scene", "gains", "[I", true)
  | 2 => ("TiedThrees$Scene", "tied", "[I", true)
  | 3 => ("TiedThrees$Scene", "sightPerson", "[I", true)
  | 4 => ("TiedThrees$Scene", "sightPlace", "[I", true)
  | 5 => ("TiedThrees$Scene", "sightHour", "[I", true)
  | 6 => ("TiedThrees$Scene", "weeks", "I", false)
  | _ => ("TiedThrees$Scene", "sights", "I", false)
def tyX6 : Nat → FieldType := fun k => match k with
  | 0 => .object "TiedThrees$Town"
  | 1 => .array .int
  | 2 => .array .int
  | 3 => .array .int
  | 4 => .array .int
  | 5 => .array .int
  | 6 => .int
  | _ => .int
abbrev wsX60 : List Cond := u_ws RX6 TX6 8
theorem nmX6 : ∀ a, a < 8 → ∀ b, b < 8 → a ≠ b → (TX6 a).2.1 ≠ (TX6 b).2.1 := by decide +kernel
theorem tyX6_ok : ∀ k, k < 8 → parseFieldDescriptor (TX6 k).2.2.1 = some (tyX6 k) := by decide +kernel
abbrev cX6_init : ByteArray := prog_8_method_1_code
def yX6_init : MethodName := ⟨RX6, "<init>", "(LTiedThrees$Town;)V"⟩
abbrev cX6_forgetWeeksAndSights : ByteArray := prog_8_method_2_code
def yX6_forgetWeeksAndSights : MethodName := ⟨RX6, "forgetWeeksAndSights", "()V"⟩
abbrev cX6_addWeek : ByteArray := prog_8_method_3_code
def yX6_addWeek : MethodName := ⟨RX6, "addWeek", "(III)I"⟩
abbrev cX6_addSight : ByteArray := prog_8_method_4_code
def yX6_addSight : MethodName := ⟨RX6, "addSight", "(III)I"⟩
abbrev cX6_toldInWeek : ByteArray := prog_8_method_5_code
def yX6_toldInWeek : MethodName := ⟨RX6, "toldInWeek", "(II)I"⟩
abbrev cX6_become : ByteArray := prog_8_method_6_code
def yX6_become : MethodName := ⟨RX6, "become", "(LTiedThrees$Scene;)V"⟩
abbrev cX6_digested : ByteArray := prog_8_method_7_code
def yX6_digested : MethodName := ⟨RX6, "digested", "(J)J"⟩
def RX7 : String := "TiedThrees$Splits"
def TX7 : u_T := fun k => match k with
  | 0 => ("TiedThrees$Splits", "threes", "[I", true)
  | 1 => ("TiedThrees$Splits", "pairs", "[J", true)
  | 2 => ("TiedThrees$Splits", "done", "[I", true)
  | 3 => ("TiedThrees$Splits", "split", "[I", true)
  | 4 => ("TiedThrees$Splits", "together", "[J", true)
  | _ => ("TiedThrees$Splits", "many", "I", false)
def tyX7 : Nat → FieldType := fun k => match k with
  | 0 => .array .int
  | 1 => .array .long
  | 2 => .array .int
  | 3 => .array .int
  | 4 => .array .long
  | _ => .int
abbrev wsX70 : List Cond := u_ws RX7 TX7 6
theorem nmX7 : ∀ a, a < 6 → ∀ b, b < 6 → a ≠ b → (TX7 a).2.1 ≠ (TX7 b).2.1 := by decide +kernel
theorem tyX7_ok : ∀ k, k < 6 → parseFieldDescriptor (TX7 k).2.2.1 = some (tyX7 k) := by decide +kernel
abbrev cX7_init : ByteArray := prog_9_method_1_code
def yX7_init : MethodName := ⟨RX7, "<init>", "()V"⟩
abbrev cX7_pairBit : ByteArray := prog_9_method_2_code
def yX7_pairBit : MethodName := ⟨RX7, "pairBit", "(II)J"⟩
abbrev cX7_list : ByteArray := prog_9_method_3_code
def yX7_list : MethodName := ⟨RX7, "list", "(I)V"⟩
abbrev cX7_listBehind : ByteArray := prog_9_method_4_code
def yX7_listBehind : MethodName := ⟨RX7, "listBehind", "(II)V"⟩
abbrev cX7_tiesLeast : ByteArray := prog_9_method_5_code
def yX7_tiesLeast : MethodName := ⟨RX7, "tiesLeast", "(II)Z"⟩
abbrev cX7_add : ByteArray := prog_9_method_6_code
def yX7_add : MethodName := ⟨RX7, "add", "(III)V"⟩
abbrev cX7_doneBy : ByteArray := prog_9_method_7_code
def yX7_doneBy : MethodName := ⟨RX7, "doneBy", "(I)I"⟩
abbrev cX7_firstOfMost : ByteArray := prog_9_method_8_code
def yX7_firstOfMost : MethodName := ⟨RX7, "firstOfMost", "()I"⟩
abbrev cX7_threeOf : ByteArray := prog_9_method_9_code
def yX7_threeOf : MethodName := ⟨RX7, "threeOf", "(II)I"⟩
abbrev cX7_rowsOf : ByteArray := prog_9_method_10_code
def yX7_rowsOf : MethodName := ⟨RX7, "rowsOf", "(I)J"⟩
abbrev cX7_rowsBehind : ByteArray := prog_9_method_11_code
def yX7_rowsBehind : MethodName := ⟨RX7, "rowsBehind", "([JIJI)J"⟩
def RX8 : String := "TiedThrees$Stubborn"
def TX8 : u_T := fun k => match k with
  | _ => ("", "", "", false)
def tyX8 : Nat → FieldType := fun k => match k with
  | _ => .int
abbrev wsX80 : List Cond := u_ws RX8 TX8 0
theorem nmX8 : ∀ a, a < 0 → ∀ b, b < 0 → a ≠ b → (TX8 a).2.1 ≠ (TX8 b).2.1 := by decide +kernel
theorem tyX8_ok : ∀ k, k < 0 → parseFieldDescriptor (TX8 k).2.2.1 = some (tyX8 k) := by decide +kernel
abbrev cX8_init : ByteArray := prog_10_method_1_code
def yX8_init : MethodName := ⟨RX8, "<init>", "()V"⟩
abbrev cX8_vote : ByteArray := prog_10_method_2_code
def yX8_vote : MethodName := ⟨RX8, "vote", "(LTiedThrees$Day;I)I"⟩
def RX9 : String := "TiedThrees$Town"
def TX9 : u_T := fun k => match k with
  | 0 => ("TiedThrees$Town", "kind", "[I", true)
  | 1 => ("TiedThrees$Town", "pace", "[I", true)
  | 2 => ("TiedThrees$Town", "errands", "[I", true)
  | 3 => ("TiedThrees$Town", "place", "[I", true)
  | 4 => ("TiedThrees$Town", "hour", "[I", true)
  | 5 => ("TiedThrees$Town", "places", "I", false)
  | _ => ("TiedThrees$Town", "people", "I", false)
def tyX9 : Nat → FieldType := fun k => match k with
  | 0 => .array .int
  | 1 => .array .int
  | 2 => .array .int
  | 3 => .array .int
  | 4 => .array .int
  | 5 => .int
  | _ => .int
abbrev wsX90 : List Cond := u_ws RX9 TX9 7
theorem nmX9 : ∀ a, a < 7 → ∀ b, b < 7 → a ≠ b → (TX9 a).2.1 ≠ (TX9 b).2.1 := by decide +kernel
theorem tyX9_ok : ∀ k, k < 7 → parseFieldDescriptor (TX9 k).2.2.1 = some (tyX9 k) := by decide +kernel
abbrev cX9_init : ByteArray := prog_11_method_1_code
def yX9_init : MethodName := ⟨RX9, "<init>", "()V"⟩
abbrev cX9_startOver : ByteArray := prog_11_method_2_code
def yX9_startOver : MethodName := ⟨RX9, "startOver", "(I)V"⟩
abbrev cX9_hasPerson : ByteArray := prog_11_method_3_code
def yX9_hasPerson : MethodName := ⟨RX9, "hasPerson", "(I)Z"⟩
abbrev cX9_hasPlace : ByteArray := prog_11_method_4_code
def yX9_hasPlace : MethodName := ⟨RX9, "hasPlace", "(I)Z"⟩
abbrev cX9_isGroup : ByteArray := prog_11_method_5_code
def yX9_isGroup : MethodName := ⟨RX9, "isGroup", "(I)Z"⟩
abbrev cX9_isThree : ByteArray := prog_11_method_6_code
def yX9_isThree : MethodName := ⟨RX9, "isThree", "(I)Z"⟩
abbrev cX9_isThreeOrNone : ByteArray := prog_11_method_7_code
def yX9_isThreeOrNone : MethodName := ⟨RX9, "isThreeOrNone", "(I)Z"⟩
abbrev cX9_addPerson : ByteArray := prog_11_method_8_code
def yX9_addPerson : MethodName := ⟨RX9, "addPerson", "(II)I"⟩
abbrev cX9_addErrand : ByteArray := prog_11_method_9_code
def yX9_addErrand : MethodName := ⟨RX9, "addErrand", "(III)I"⟩
abbrev cX9_errandsOfAll : ByteArray := prog_11_method_10_code
def yX9_errandsOfAll : MethodName := ⟨RX9, "errandsOfAll", "()I"⟩
abbrev cX9_isQuick : ByteArray := prog_11_method_11_code
def yX9_isQuick : MethodName := ⟨RX9, "isQuick", "(I)Z"⟩
abbrev cX9_onRing : ByteArray := prog_11_method_12_code
def yX9_onRing : MethodName := ⟨RX9, "onRing", "(I)I"⟩
abbrev cX9_become : ByteArray := prog_11_method_13_code
def yX9_become : MethodName := ⟨RX9, "become", "(LTiedThrees$Town;)V"⟩
abbrev cX9_digested : ByteArray := prog_11_method_14_code
def yX9_digested : MethodName := ⟨RX9, "digested", "(J)J"⟩
def RX10 : String := "TiedThrees$TownReader"
def TX10 : u_T := fun k => match k with
  | 0 => ("TiedThrees$TownReader", "town", "LTiedThrees$Town;", true)
  | 1 => ("TiedThrees$TownReader", "bytes", "[I", false)
  | 2 => ("TiedThrees$TownReader", "length", "I", false)
  | 3 => ("TiedThrees$TownReader", "pos", "I", false)
  | _ => ("TiedThrees$TownReader", "fault", "I", false)
def tyX10 : Nat → FieldType := fun k => match k with
  | 0 => .object "TiedThrees$Town"
  | 1 => .array .int
  | 2 => .int
  | 3 => .int
  | _ => .int
abbrev wsX100 : List Cond := u_ws RX10 TX10 5
theorem nmX10 : ∀ a, a < 5 → ∀ b, b < 5 → a ≠ b → (TX10 a).2.1 ≠ (TX10 b).2.1 := by decide +kernel
theorem tyX10_ok : ∀ k, k < 5 → parseFieldDescriptor (TX10 k).2.2.1 = some (tyX10 k) := by decide +kernel
abbrev cX10_init : ByteArray := prog_12_method_1_code
def yX10_init : MethodName := ⟨RX10, "<init>", "()V"⟩
abbrev cX10_readTown : ByteArray := prog_12_method_2_code
def yX10_readTown : MethodName := ⟨RX10, "readTown", "([II)I"⟩
abbrev cX10_readItem : ByteArray := prog_12_method_3_code
def yX10_readItem : MethodName := ⟨RX10, "readItem", "()V"⟩
abbrev cX10_readPlaces : ByteArray := prog_12_method_4_code
def yX10_readPlaces : MethodName := ⟨RX10, "readPlaces", "()V"⟩
abbrev cX10_readPerson : ByteArray := prog_12_method_5_code
def yX10_readPerson : MethodName := ⟨RX10, "readPerson", "()V"⟩
abbrev cX10_readErrand : ByteArray := prog_12_method_6_code
def yX10_readErrand : MethodName := ⟨RX10, "readErrand", "()V"⟩
abbrev cX10_skipBlanks : ByteArray := prog_12_method_7_code
def yX10_skipBlanks : MethodName := ⟨RX10, "skipBlanks", "()V"⟩
abbrev cX10_skipWord : ByteArray := prog_12_method_8_code
def yX10_skipWord : MethodName := ⟨RX10, "skipWord", "()V"⟩
abbrev cX10_isWord : ByteArray := prog_12_method_9_code
def yX10_isWord : MethodName := ⟨RX10, "isWord", "(ILjava/lang/String;)Z"⟩
abbrev cX10_isFigure : ByteArray := prog_12_method_10_code
def yX10_isFigure : MethodName := ⟨RX10, "isFigure", "(I)Z"⟩
abbrev cX10_number : ByteArray := prog_12_method_11_code
def yX10_number : MethodName := ⟨RX10, "number", "(II)I"⟩
abbrev cX10_end : ByteArray := prog_12_method_12_code
def yX10_end : MethodName := ⟨RX10, "end", "()V"⟩
def RX11 : String := "TiedThrees"
def TX11 : u_T := fun k => match k with
  | 0 => ("TiedThrees", "scene", "LTiedThrees$Scene;", true)
  | 1 => ("TiedThrees", "images", "[LTiedThrees$Scene;", true)
  | 2 => ("TiedThrees", "kept", "[Z", true)
  | 3 => ("TiedThrees", "text", "[I", true)
  | 4 => ("TiedThrees", "reader", "LTiedThrees$TownReader;", true)
  | 5 => ("TiedThrees", "walked", "LTiedThrees$Day;", true)
  | 6 => ("TiedThrees", "free", "LTiedThrees$FreeDay;", true)
  | 7 => ("TiedThrees", "splits", "LTiedThrees$Splits;", true)
  | 8 => ("TiedThrees", "lots", "[I", true)
  | 9 => ("TiedThrees", "textLength", "I", false)
  | 10 => ("TiedThrees", "above", "I", false)
  | 11 => ("TiedThrees", "below", "I", false)
  | 12 => ("TiedThrees", "bads", "I", false)
  | 13 => ("TiedThrees", "nos", "I", false)
  | _ => ("TiedThrees", "fulls", "I", false)
def tyX11 : Nat → FieldType := fun k => match k with
  | 0 => .object "TiedThrees$Scene"
  | 1 => .array (.object "TiedThrees$Scene")
  | 2 => .array .boolean
  | 3 => .array .int
  | 4 => .object "TiedThrees$TownReader"
  | 5 => .object "TiedThrees$Day"
  | 6 => .object "TiedThrees$FreeDay"
  | 7 => .object "TiedThrees$Splits"
  | 8 => .array .int
  | 9 => .int
  | 10 => .int
  | 11 => .int
  | 12 => .int
  | 13 => .int
  | _ => .int
abbrev wsX110 : List Cond := u_ws RX11 TX11 15
theorem nmX11 : ∀ a, a < 15 → ∀ b, b < 15 → a ≠ b → (TX11 a).2.1 ≠ (TX11 b).2.1 := by decide +kernel
theorem tyX11_ok : ∀ k, k < 15 → parseFieldDescriptor (TX11 k).2.2.1 = some (tyX11 k) := by decide +kernel
abbrev cX11_init : ByteArray := prog_1_method_1_code
def yX11_init : MethodName := ⟨RX11, "<init>", "()V"⟩
abbrev cX11_places : ByteArray := prog_1_method_2_code
def yX11_places : MethodName := ⟨RX11, "places", "(I)I"⟩
abbrev cX11_person : ByteArray := prog_1_method_3_code
def yX11_person : MethodName := ⟨RX11, "person", "(II)I"⟩
abbrev cX11_errand : ByteArray := prog_1_method_4_code
def yX11_errand : MethodName := ⟨RX11, "errand", "(III)I"⟩
abbrev cX11_drop : ByteArray := prog_1_method_5_code
def yX11_drop : MethodName := ⟨RX11, "drop", "(I)I"⟩
abbrev cX11_type : ByteArray := prog_1_method_6_code
def yX11_type : MethodName := ⟨RX11, "type", "(JI)I"⟩
abbrev cX11_clear : ByteArray := prog_1_method_7_code
def yX11_clear : MethodName := ⟨RX11, "clear", "()I"⟩
abbrev cX11_read : ByteArray := prog_1_method_8_code
def yX11_read : MethodName := ⟨RX11, "read", "()I"⟩
abbrev cX11_day : ByteArray := prog_1_method_9_code
def yX11_day : MethodName := ⟨RX11, "day", "(II)I"⟩
abbrev cX11_best : ByteArray := prog_1_method_10_code
def yX11_best : MethodName := ⟨RX11, "best", "(I)I"⟩
abbrev cX11_most : ByteArray := prog_1_method_11_code
def yX11_most : MethodName := ⟨RX11, "most", "(I)I"⟩
abbrev cX11_lot : ByteArray := prog_1_method_12_code
def yX11_lot : MethodName := ⟨RX11, "lot", "(II)I"⟩
abbrev cX11_rows : ByteArray := prog_1_method_13_code
def yX11_rows : MethodName := ⟨RX11, "rows", "(I)J"⟩
abbrev cX11_gain : ByteArray := prog_1_method_14_code
def yX11_gain : MethodName := ⟨RX11, "gain", "(II)I"⟩
abbrev cX11_leaves : ByteArray := prog_1_method_15_code
def yX11_leaves : MethodName := ⟨RX11, "leaves", "(III)I"⟩
abbrev cX11_fair : ByteArray := prog_1_method_16_code
def yX11_fair : MethodName := ⟨RX11, "fair", "(I)I"⟩
abbrev cX11_week : ByteArray := prog_1_method_17_code
def yX11_week : MethodName := ⟨RX11, "week", "(III)I"⟩
abbrev cX11_loose : ByteArray := prog_1_method_18_code
def yX11_loose : MethodName := ⟨RX11, "loose", "()I"⟩
abbrev cX11_knows : ByteArray := prog_1_method_19_code
def yX11_knows : MethodName := ⟨RX11, "knows", "(II)I"⟩
abbrev cX11_when : ByteArray := prog_1_method_20_code
def yX11_when : MethodName := ⟨RX11, "when", "(II)I"⟩
abbrev cX11_rope : ByteArray := prog_1_method_21_code
def yX11_rope : MethodName := ⟨RX11, "rope", "(III)I"⟩
abbrev cX11_sight : ByteArray := prog_1_method_22_code
def yX11_sight : MethodName := ⟨RX11, "sight", "(III)I"⟩
abbrev cX11_blind : ByteArray := prog_1_method_23_code
def yX11_blind : MethodName := ⟨RX11, "blind", "()I"⟩
abbrev cX11_which : ByteArray := prog_1_method_24_code
def yX11_which : MethodName := ⟨RX11, "which", "(II)I"⟩
abbrev cX11_part : ByteArray := prog_1_method_25_code
def yX11_part : MethodName := ⟨RX11, "part", "(I)J"⟩
abbrev cX11_image : ByteArray := prog_1_method_26_code
def yX11_image : MethodName := ⟨RX11, "image", "(I)I"⟩
abbrev cX11_from : ByteArray := prog_1_method_27_code
def yX11_from : MethodName := ⟨RX11, "from", "(I)I"⟩
abbrev cX11_status : ByteArray := prog_1_method_28_code
def yX11_status : MethodName := ⟨RX11, "status", "(I)I"⟩
abbrev cX11_count : ByteArray := prog_1_method_29_code
def yX11_count : MethodName := ⟨RX11, "count", "(I)I"⟩
abbrev cX11_digest : ByteArray := prog_1_method_30_code
def yX11_digest : MethodName := ⟨RX11, "digest", "()J"⟩
abbrev cX11_refusedBad : ByteArray := prog_1_method_31_code
def yX11_refusedBad : MethodName := ⟨RX11, "refusedBad", "(I)I"⟩
abbrev cX11_refusedNo : ByteArray := prog_1_method_32_code
def yX11_refusedNo : MethodName := ⟨RX11, "refusedNo", "(I)I"⟩
abbrev cX11_refusedFull : ByteArray := prog_1_method_33_code
def yX11_refusedFull : MethodName := ⟨RX11, "refusedFull", "()I"⟩
abbrev cX11_isKindAndPace : ByteArray := prog_1_method_34_code
def yX11_isKindAndPace : MethodName := ⟨RX11, "isKindAndPace", "(II)Z"⟩
abbrev cX11_isHour : ByteArray := prog_1_method_35_code
def yX11_isHour : MethodName := ⟨RX11, "isHour", "(I)Z"⟩
abbrev cX11_isAmount : ByteArray := prog_1_method_36_code
def yX11_isAmount : MethodName := ⟨RX11, "isAmount", "(I)Z"⟩
abbrev cX11_isStrength : ByteArray := prog_1_method_37_code
def yX11_isStrength : MethodName := ⟨RX11, "isStrength", "(I)Z"⟩
abbrev cX11_isImage : ByteArray := prog_1_method_38_code
def yX11_isImage : MethodName := ⟨RX11, "isImage", "(I)Z"⟩
abbrev cX11_isIn : ByteArray := prog_1_method_39_code
def yX11_isIn : MethodName := ⟨RX11, "isIn", "(II)Z"⟩
abbrev cX11_isAllInThrees : ByteArray := prog_1_method_40_code
def yX11_isAllInThrees : MethodName := ⟨RX11, "isAllInThrees", "()Z"⟩
abbrev cX11_walkAllThrees : ByteArray := prog_1_method_41_code
def yX11_walkAllThrees : MethodName := ⟨RX11, "walkAllThrees", "()V"⟩
abbrev cX11_drawLots : ByteArray := prog_1_method_42_code
def yX11_drawLots : MethodName := ⟨RX11, "drawLots", "(J)V"⟩
abbrev cX11_nthOf : ByteArray := prog_1_method_43_code
def yX11_nthOf : MethodName := ⟨RX11, "nthOf", "(II)I"⟩
abbrev cX11_threeWith : ByteArray := prog_1_method_44_code
def yX11_threeWith : MethodName := ⟨RX11, "threeWith", "(I)I"⟩
abbrev cX11_keepSixths : ByteArray := prog_1_method_45_code
def yX11_keepSixths : MethodName := ⟨RX11, "keepSixths", "(I)V"⟩
abbrev cX11_ropeEnd : ByteArray := prog_1_method_46_code
def yX11_ropeEnd : MethodName := ⟨RX11, "ropeEnd", "(III)I"⟩
abbrev cX11_pullLoss : ByteArray := prog_1_method_47_code
def yX11_pullLoss : MethodName := ⟨RX11, "pullLoss", "(II)I"⟩
abbrev cX11_mayHaveBeen : ByteArray := prog_1_method_48_code
def yX11_mayHaveBeen : MethodName := ⟨RX11, "mayHaveBeen", "(II)Z"⟩
abbrev cX11_howMany : ByteArray := prog_1_method_49_code
def yX11_howMany : MethodName := ⟨RX11, "howMany", "(I)I"⟩
def RX12 : String := "TiedThreesModel"
def TX12 : u_T := fun k => match k with
  | 0 => ("TiedThreesModel", "now", "[I", true)
  | 1 => ("TiedThreesModel", "kept", "[I", true)
  | 2 => ("TiedThreesModel", "isKept", "[Z", true)
  | 3 => ("TiedThreesModel", "refused", "[I", true)
  | 4 => ("TiedThreesModel", "above", "J", false)
  | 5 => ("TiedThreesModel", "below", "J", false)
  | 6 => ("TiedThreesModel", "who", "[I", true)
  | 7 => ("TiedThreesModel", "did", "[I", true)
  | 8 => ("TiedThreesModel", "ends", "[I", true)
  | 9 => ("TiedThreesModel", "at", "I", false)
  | 10 => ("TiedThreesModel", "can", "[Z", true)
  | 11 => ("TiedThreesModel", "canThen", "[Z", true)
  | 12 => ("TiedThreesModel", "threes", "[I", true)
  | 13 => ("TiedThreesModel", "dayOf", "[I", true)
  | 14 => ("TiedThreesModel", "bestThrees", "[I", true)
  | 15 => ("TiedThreesModel", "pairsOf", "[J", true)
  | 16 => ("TiedThreesModel", "ways", "I", false)
  | 17 => ("TiedThreesModel", "oneHas", "[I", true)
  | 18 => ("TiedThreesModel", "twoHas", "[I", true)
  | 19 => ("TiedThreesModel", "turns", "[I", true)
  | 20 => ("TiedThreesModel", "bytes", "[I", true)
  | 21 => ("TiedThreesModel", "bytesLong", "I", false)
  | 22 => ("TiedThreesModel", "tokenAt", "I", false)
  | 23 => ("TiedThreesModel", "tokenLong", "I", false)
  | 24 => ("TiedThreesModel", "token", "I", false)
  | 25 => ("TiedThreesModel", "value", "I", false)
  | 26 => ("TiedThreesModel", "next", "[I", true)
  | 27 => ("TiedThreesModel", "isBusy", "Z", false)
  | _ => ("TiedThreesModel", "taken", "I", false)
def tyX12 : Nat → FieldType := fun k => match k with
  | 0 => .array .int
  | 1 => .array .int
  | 2 => .array .boolean
  | 3 => .array .int
  | 4 => .long
  | 5 => .long
  | 6 => .array .int
  | 7 => .array .int
  | 8 => .array .int
  | 9 => .int
  | 10 => .array .boolean
  | 11 => .array .boolean
  | 12 => .array .int
  | 13 => .array .int
  | 14 => .array .int
  | 15 => .array .long
  | 16 => .int
  | 17 => .array .int
  | 18 => .array .int
  | 19 => .array .int
  | 20 => .array .int
  | 21 => .int
  | 22 => .int
  | 23 => .int
  | 24 => .int
  | 25 => .int
  | 26 => .array .int
  | 27 => .boolean
  | _ => .int
abbrev wsX120 : List Cond := u_ws RX12 TX12 29
theorem nmX12 : ∀ a, a < 29 → ∀ b, b < 29 → a ≠ b → (TX12 a).2.1 ≠ (TX12 b).2.1 := by decide +kernel
theorem tyX12_ok : ∀ k, k < 29 → parseFieldDescriptor (TX12 k).2.2.1 = some (tyX12 k) := by decide +kernel
abbrev cX12_init : ByteArray := prog_14_method_1_code
def yX12_init : MethodName := ⟨RX12, "<init>", "()V"⟩
abbrev cX12_in : ByteArray := prog_14_method_3_code
def yX12_in : MethodName := ⟨RX12, "in", "(JJJ)Z"⟩
abbrev cX12_bad : ByteArray := prog_14_method_4_code
def yX12_bad : MethodName := ⟨RX12, "bad", "(I)I"⟩
abbrev cX12_no : ByteArray := prog_14_method_5_code
def yX12_no : MethodName := ⟨RX12, "no", "(I)I"⟩
abbrev cX12_full : ByteArray := prog_14_method_6_code
def yX12_full : MethodName := ⟨RX12, "full", "()I"⟩
abbrev cX12_bits : ByteArray := prog_14_method_7_code
def yX12_bits : MethodName := ⟨RX12, "bits", "(I)I"⟩
abbrev cX12_ring : ByteArray := prog_14_method_8_code
def yX12_ring : MethodName := ⟨RX12, "ring", "()I"⟩
abbrev cX12_people : ByteArray := prog_14_method_9_code
def yX12_people : MethodName := ⟨RX12, "people", "()I"⟩
abbrev cX12_isOne : ByteArray := prog_14_method_10_code
def yX12_isOne : MethodName := ⟨RX12, "isOne", "(I)Z"⟩
abbrev cX12_isThree : ByteArray := prog_14_method_11_code
def yX12_isThree : MethodName := ⟨RX12, "isThree", "(I)Z"⟩
abbrev cX12_of : ByteArray := prog_14_method_12_code
def yX12_of : MethodName := ⟨RX12, "of", "(II)I"⟩
abbrev cX12_placeOf : ByteArray := prog_14_method_13_code
def yX12_placeOf : MethodName := ⟨RX12, "placeOf", "(II)I"⟩
abbrev cX12_hourOf : ByteArray := prog_14_method_14_code
def yX12_hourOf : MethodName := ⟨RX12, "hourOf", "(II)I"⟩
abbrev cX12_places : ByteArray := prog_14_method_15_code
def yX12_places : MethodName := ⟨RX12, "places", "(I)I"⟩
abbrev cX12_layPerson : ByteArray := prog_14_method_16_code
def yX12_layPerson : MethodName := ⟨RX12, "layPerson", "([III)V"⟩
abbrev cX12_person : ByteArray := prog_14_method_17_code
def yX12_person : MethodName := ⟨RX12, "person", "(II)I"⟩
abbrev cX12_layErrand : ByteArray := prog_14_method_18_code
def yX12_layErrand : MethodName := ⟨RX12, "layErrand", "([IIII)V"⟩
abbrev cX12_errand : ByteArray := prog_14_method_19_code
def yX12_errand : MethodName := ⟨RX12, "errand", "(III)I"⟩
abbrev cX12_drop : ByteArray := prog_14_method_20_code
def yX12_drop : MethodName := ⟨RX12, "drop", "(I)I"⟩
abbrev cX12_takeThree : ByteArray := prog_14_method_21_code
def yX12_takeThree : MethodName := ⟨RX12, "takeThree", "(I)V"⟩
abbrev cX12_isOpen : ByteArray := prog_14_method_22_code
def yX12_isOpen : MethodName := ⟨RX12, "isOpen", "(III)Z"⟩
abbrev cX12_firstOpen : ByteArray := prog_14_method_23_code
def yX12_firstOpen : MethodName := ⟨RX12, "firstOpen", "(II)I"⟩
abbrev cX12_plainVote : ByteArray := prog_14_method_24_code
def yX12_plainVote : MethodName := ⟨RX12, "plainVote", "(II)I"⟩
abbrev cX12_hastyVote : ByteArray := prog_14_method_25_code
def yX12_hastyVote : MethodName := ⟨RX12, "hastyVote", "(II)I"⟩
abbrev cX12_kindVote : ByteArray := prog_14_method_26_code
def yX12_kindVote : MethodName := ⟨RX12, "kindVote", "(II)I"⟩
abbrev cX12_vote : ByteArray := prog_14_method_27_code
def yX12_vote : MethodName := ⟨RX12, "vote", "(II)I"⟩
abbrev cX12_isFast : ByteArray := prog_14_method_28_code
def yX12_isFast : MethodName := ⟨RX12, "isFast", "()Z"⟩
abbrev cX12_stepTo : ByteArray := prog_14_method_29_code
def yX12_stepTo : MethodName := ⟨RX12, "stepTo", "(I)V"⟩
abbrev cX12_doAll : ByteArray := prog_14_method_30_code
def yX12_doAll : MethodName := ⟨RX12, "doAll", "(I)I"⟩
abbrev cX12_goDay : ByteArray := prog_14_method_31_code
def yX12_goDay : MethodName := ⟨RX12, "goDay", "(I)I"⟩
abbrev cX12_day : ByteArray := prog_14_method_32_code
def yX12_day : MethodName := ⟨RX12, "day", "(II)I"⟩
abbrev cX12_takeDone : ByteArray := prog_14_method_33_code
def yX12_takeDone : MethodName := ⟨RX12, "takeDone", "(I)V"⟩
abbrev cX12_doneNow : ByteArray := prog_14_method_34_code
def yX12_doneNow : MethodName := ⟨RX12, "doneNow", "()I"⟩
abbrev cX12_goOn : ByteArray := prog_14_method_35_code
def yX12_goOn : MethodName := ⟨RX12, "goOn", "(III)V"⟩
abbrev cX12_best : ByteArray := prog_14_method_36_code
def yX12_best : MethodName := ⟨RX12, "best", "(I)I"⟩
abbrev cX12_areThrees : ByteArray := prog_14_method_37_code
def yX12_areThrees : MethodName := ⟨RX12, "areThrees", "()Z"⟩
abbrev cX12_least : ByteArray := prog_14_method_38_code
def yX12_least : MethodName := ⟨RX12, "least", "(I)I"⟩
abbrev cX12_nextThree : ByteArray := prog_14_method_39_code
def yX12_nextThree : MethodName := ⟨RX12, "nextThree", "(II)I"⟩
abbrev cX12_nextAll : ByteArray := prog_14_method_40_code
def yX12_nextAll : MethodName := ⟨RX12, "nextAll", "()Z"⟩
abbrev cX12_noThrees : ByteArray := prog_14_method_41_code
def yX12_noThrees : MethodName := ⟨RX12, "noThrees", "()V"⟩
abbrev cX12_most : ByteArray := prog_14_method_42_code
def yX12_most : MethodName := ⟨RX12, "most", "(I)I"⟩
abbrev cX12_lot : ByteArray := prog_14_method_43_code
def yX12_lot : MethodName := ⟨RX12, "lot", "(II)I"⟩
abbrev cX12_pair : ByteArray := prog_14_method_44_code
def yX12_pair : MethodName := ⟨RX12, "pair", "(II)I"⟩
abbrev cX12_findWays : ByteArray := prog_14_method_45_code
def yX12_findWays : MethodName := ⟨RX12, "findWays", "()V"⟩
abbrev cX12_rows : ByteArray := prog_14_method_46_code
def yX12_rows : MethodName := ⟨RX12, "rows", "(I)J"⟩
abbrev cX12_more : ByteArray := prog_14_method_47_code
def yX12_more : MethodName := ⟨RX12, "more", "(JI)J"⟩
abbrev cX12_last : ByteArray := prog_14_method_48_code
def yX12_last : MethodName := ⟨RX12, "last", "(J)J"⟩
abbrev cX12_gain : ByteArray := prog_14_method_49_code
def yX12_gain : MethodName := ⟨RX12, "gain", "(II)I"⟩
abbrev cX12_gainOf : ByteArray := prog_14_method_50_code
def yX12_gainOf : MethodName := ⟨RX12, "gainOf", "(I)I"⟩
abbrev cX12_leaves : ByteArray := prog_14_method_51_code
def yX12_leaves : MethodName := ⟨RX12, "leaves", "(III)I"⟩
abbrev cX12_tell : ByteArray := prog_14_method_52_code
def yX12_tell : MethodName := ⟨RX12, "tell", "(JJ)I"⟩
abbrev cX12_fair : ByteArray := prog_14_method_53_code
def yX12_fair : MethodName := ⟨RX12, "fair", "(I)I"⟩
abbrev cX12_week : ByteArray := prog_14_method_54_code
def yX12_week : MethodName := ⟨RX12, "week", "(III)I"⟩
abbrev cX12_loose : ByteArray := prog_14_method_55_code
def yX12_loose : MethodName := ⟨RX12, "loose", "()I"⟩
abbrev cX12_known : ByteArray := prog_14_method_56_code
def yX12_known : MethodName := ⟨RX12, "known", "(II)I"⟩
abbrev cX12_isSet : ByteArray := prog_14_method_57_code
def yX12_isSet : MethodName := ⟨RX12, "isSet", "(I)Z"⟩
abbrev cX12_knows : ByteArray := prog_14_method_58_code
def yX12_knows : MethodName := ⟨RX12, "knows", "(II)I"⟩
abbrev cX12_when : ByteArray := prog_14_method_59_code
def yX12_when : MethodName := ⟨RX12, "when", "(II)I"⟩
abbrev cX12_ropeAt : ByteArray := prog_14_method_60_code
def yX12_ropeAt : MethodName := ⟨RX12, "ropeAt", "(III)I"⟩
abbrev cX12_layEnd : ByteArray := prog_14_method_61_code
def yX12_layEnd : MethodName := ⟨RX12, "layEnd", "(III)V"⟩
abbrev cX12_layRope : ByteArray := prog_14_method_62_code
def yX12_layRope : MethodName := ⟨RX12, "layRope", "(III)V"⟩
abbrev cX12_rope : ByteArray := prog_14_method_63_code
def yX12_rope : MethodName := ⟨RX12, "rope", "(III)I"⟩
abbrev cX12_sight : ByteArray := prog_14_method_64_code
def yX12_sight : MethodName := ⟨RX12, "sight", "(III)I"⟩
abbrev cX12_blind : ByteArray := prog_14_method_65_code
def yX12_blind : MethodName := ⟨RX12, "blind", "()I"⟩
abbrev cX12_isSeen : ByteArray := prog_14_method_66_code
def yX12_isSeen : MethodName := ⟨RX12, "isSeen", "(II)Z"⟩
abbrev cX12_which : ByteArray := prog_14_method_67_code
def yX12_which : MethodName := ⟨RX12, "which", "(II)I"⟩
abbrev cX12_type : ByteArray := prog_14_method_68_code
def yX12_type : MethodName := ⟨RX12, "type", "(JI)I"⟩
abbrev cX12_clear : ByteArray := prog_14_method_69_code
def yX12_clear : MethodName := ⟨RX12, "clear", "()I"⟩
abbrev cX12_isSmall : ByteArray := prog_14_method_70_code
def yX12_isSmall : MethodName := ⟨RX12, "isSmall", "(I)Z"⟩
abbrev cX12_isFigure : ByteArray := prog_14_method_71_code
def yX12_isFigure : MethodName := ⟨RX12, "isFigure", "(I)Z"⟩
abbrev cX12_look : ByteArray := prog_14_method_72_code
def yX12_look : MethodName := ⟨RX12, "look", "(I)V"⟩
abbrev cX12_goNext : ByteArray := prog_14_method_73_code
def yX12_goNext : MethodName := ⟨RX12, "goNext", "()V"⟩
abbrev cX12_isWord : ByteArray := prog_14_method_74_code
def yX12_isWord : MethodName := ⟨RX12, "isWord", "(IIIIII)Z"⟩
abbrev cX12_takes : ByteArray := prog_14_method_75_code
def yX12_takes : MethodName := ⟨RX12, "takes", "(II)Z"⟩
abbrev cX12_readsPerson : ByteArray := prog_14_method_76_code
def yX12_readsPerson : MethodName := ⟨RX12, "readsPerson", "()Z"⟩
abbrev cX12_readsErrand : ByteArray := prog_14_method_77_code
def yX12_readsErrand : MethodName := ⟨RX12, "readsErrand", "()Z"⟩
abbrev cX12_readsItem : ByteArray := prog_14_method_78_code
def yX12_readsItem : MethodName := ⟨RX12, "readsItem", "()Z"⟩
abbrev cX12_read : ByteArray := prog_14_method_79_code
def yX12_read : MethodName := ⟨RX12, "read", "()I"⟩
abbrev cX12_part : ByteArray := prog_14_method_80_code
def yX12_part : MethodName := ⟨RX12, "part", "(I)J"⟩
abbrev cX12_image : ByteArray := prog_14_method_81_code
def yX12_image : MethodName := ⟨RX12, "image", "(I)I"⟩
abbrev cX12_from : ByteArray := prog_14_method_82_code
def yX12_from : MethodName := ⟨RX12, "from", "(I)I"⟩
abbrev cX12_status : ByteArray := prog_14_method_83_code
def yX12_status : MethodName := ⟨RX12, "status", "(I)I"⟩
abbrev cX12_allErrands : ByteArray := prog_14_method_84_code
def yX12_allErrands : MethodName := ⟨RX12, "allErrands", "()I"⟩
abbrev cX12_counted : ByteArray := prog_14_method_85_code
def yX12_counted : MethodName := ⟨RX12, "counted", "(I)I"⟩
abbrev cX12_count : ByteArray := prog_14_method_86_code
def yX12_count : MethodName := ⟨RX12, "count", "(I)I"⟩
abbrev cX12_sums : ByteArray := prog_14_method_87_code
def yX12_sums : MethodName := ⟨RX12, "sums", "(JII)J"⟩
abbrev cX12_digest : ByteArray := prog_14_method_88_code
def yX12_digest : MethodName := ⟨RX12, "digest", "()J"⟩
def RJ6 : String := "java/lang/Integer"
abbrev cJ6_bitCount_0f7a4 : ByteArray := prog_15_method_49_code
def yJ6_bitCount_0f7a4 : MethodName := ⟨RJ6, "bitCount", "(I)I"⟩
def RJ9 : String := "java/lang/Math"
abbrev cJ9_floorMod_7cf53 : ByteArray := prog_16_method_50_code
def yJ9_floorMod_7cf53 : MethodName := ⟨RJ9, "floorMod", "(II)I"⟩
abbrev cJ9_max_7cf53 : ByteArray := prog_16_method_65_code
def yJ9_max_7cf53 : MethodName := ⟨RJ9, "max", "(II)I"⟩
abbrev cJ9_min_7cf53 : ByteArray := prog_16_method_69_code
def yJ9_min_7cf53 : MethodName := ⟨RJ9, "min", "(II)I"⟩
def RJ0 : String := "java/lang/String"
abbrev cJ0_length_8abf5 : ByteArray := prog_17_method_54_code
def yJ0_length_8abf5 : MethodName := ⟨RJ0, "length", "()I"⟩
abbrev cJ0_charAt_5068e : ByteArray := prog_17_method_56_code
def yJ0_charAt_5068e : MethodName := ⟨RJ0, "charAt", "(I)C"⟩
abbrev cJ0_coder_7d493 : ByteArray := prog_17_method_152_code
def yJ0_coder_7d493 : MethodName := ⟨RJ0, "coder", "()B"⟩
abbrev cJ0_isLatin1_aae02 : ByteArray := prog_17_method_154_code
def yJ0_isLatin1_aae02 : MethodName := ⟨RJ0, "isLatin1", "()Z"⟩
abbrev cJ0_checkIndex_df160 : ByteArray := prog_17_method_155_code
def yJ0_checkIndex_df160 : MethodName := ⟨RJ0, "checkIndex", "(II)V"⟩
def RJ1 : String := "java/lang/StringLatin1"
abbrev cJ1_charAt_3b067 : ByteArray := prog_18_method_2_code
def yJ1_charAt_3b067 : MethodName := ⟨RJ1, "charAt", "([BI)C"⟩
def RJ2 : String := "java/lang/StringUTF16"
abbrev cJ2_getChar_3b067 : ByteArray := prog_19_method_5_code
def yJ2_getChar_3b067 : MethodName := ⟨RJ2, "getChar", "([BI)C"⟩
abbrev cJ2_length_9d52b : ByteArray := prog_19_method_6_code
def yJ2_length_9d52b : MethodName := ⟨RJ2, "length", "([B)I"⟩
abbrev cJ2_charAt_3b067 : ByteArray := prog_19_method_83_code
def yJ2_charAt_3b067 : MethodName := ⟨RJ2, "charAt", "([BI)C"⟩
abbrev cJ2_checkIndex_2214a : ByteArray := prog_19_method_91_code
def yJ2_checkIndex_2214a : MethodName := ⟨RJ2, "checkIndex", "(I[B)V"⟩
def RJ10 : String := "java/lang/System"
def RJ7 : String := "java/util/Arrays"
abbrev cJ7_fill_53178 : ByteArray := prog_21_method_103_code
def yJ7_fill_53178 : MethodName := ⟨RJ7, "fill", "([II)V"⟩
def RJ3 : String := "jdk/internal/util/Preconditions"
abbrev cJ3_checkIndex_8e157 : ByteArray := prog_22_method_11_code
def yJ3_checkIndex_8e157 : MethodName := ⟨RJ3, "checkIndex", "(IILjava/util/function/BiFunction;)I"⟩
def RL : String := "TiedThreesLaw"
abbrev cL_law : ByteArray := code
def yL_law : MethodName := ⟨RL, "law", "([I)Z"⟩
abbrev vwCl : List vw_C := [(RX0, TX0, 10), (RX1, TX1, 4), (RX2, TX2, 0), (RX3, TX3, 0), (RX4, TX4, 0), (RX5, TX5, 0), (RX6, TX6, 8), (RX7, TX7, 6), (RX8, TX8, 0), (RX9, TX9, 7), (RX10, TX10, 5), (RX11, TX11, 15), (RX12, TX12, 29)]
/-- the object graph: of each address its class and its fields (0 int, 1 long, 2 a reference that is told anew, k + 3 the reference to k), or its array (100 int, 101 boolean, 102 long with its length; 103, 104 of references) -/
def SK : List (Nat × List Nat) := [(11, [28, 4, 5, 6, 7, 34, 46, 15, 21, 0, 0, 0, 0, 0, 0]), (103, [53, 65]), (101, [2]), (100, [250]), (10, [9, 2, 0, 0, 0]), (100, [0]), (9, [10, 11, 12, 13, 14, 0, 0]), (100, [9]), (100, [9]), (100, [9]), (100, [36]), (100, [36]), (7, [16, 17, 18, 19, 20, 0]), (100, [84]), (102, [512]), (100, [512]), (100, [840]), (102, [280]), (100, [3]), (9, [23, 24, 25, 26, 27, 0, 0]), (100, [9]), (100, [9]), (100, [9]), (100, [36]), (100, [36]), (6, [22, 29, 30, 31, 32, 33, 0, 0]), (100, [8]), (100, [18]), (100, [5]), (100, [5]), (100, [5]), (0, [22, 35, 36, 37, 38, 39, 40, 0, 0, 0]), (104, [38, 39, 40, 41, 42]), (100, [3]), (100, [3]), (101, [3]), (101, [36]), (100, [10]), (5, []), (2, []), (8, []), (4, []), (3, []), (1, [22, 47, 2, 2]), (100, [60]), (100, [384]), (100, [384]), (9, [51, 52, 53, 54, 55, 0, 0]), (100, [9]), (100, [9]), (100, [9]), (100, [36]), (100, [36]), (6, [50, 57, 58, 59, 60, 61, 0, 0]), (100, [8]), (100, [18]), (100, [5]), (100, [5]), (100, [5]), (9, [63, 64, 65, 66, 67, 0, 0]), (100, [9]), (100, [9]), (100, [9]), (100, [36]), (100, [36]), (6, [62, 69, 70, 71, 72, 73, 0, 0]), (100, [8]), (100, [18]), (100, [5]), (100, [5]), (100, [5]), (12, [75, 76, 77, 78, 1, 1, 79, 80, 81, 0, 82, 83, 84, 85, 86, 87, 0, 88, 89, 90, 91, 0, 0, 0, 0, 0, 92, 0, 0]), (100, [143]), (100, [286]), (101, [2]), (100, [3]), (100, [3]), (100, [3]), (100, [10]), (101, [24576]), (101, [24576]), (100, [3]), (100, [512]), (100, [3]), (102, [280]), (100, [7442]), (100, [7442]), (100, [7442]), (100, [250]), (100, [101])]
end
section
/-! THE LAYER BETWEEN: a state of the system is three tables of numbers (ints, longs, references) by address and place; 'Ev' is the walk of a method over such states, 'Cal' a method's contract. Each row below is one instruction. -/
abbrev Sg : Type := (Nat → Nat → Int32) × (Nat → Nat → Int64) × (Nat → Nat → Nat)
def gI (σ : Sg) (k i : Nat) : Int32 := σ.1 k i
def gL (σ : Sg) (k i : Nat) : Int64 := σ.2.1 k i
def gR (σ : Sg) (k i : Nat) : Nat := σ.2.2 k i
def pI (σ : Sg) (k i : Nat) (v : Int32) : Sg := (fun a j => if a = k ∧ j = i then v else σ.1 a j, σ.2)
def pL (σ : Sg) (k i : Nat) (v : Int64) : Sg := (σ.1, fun a j => if a = k ∧ j = i then v else σ.2.1 a j, σ.2.2)
def pR (σ : Sg) (k i : Nat) (v : Nat) : Sg := (σ.1, σ.2.1, fun a j => if a = k ∧ j = i then v else σ.2.2 a j)
/-- from dp on, n numbers of row k are those of row k0 from sp on -/
def cpI (σ : Sg) (k0 sp k dp n : Nat) : Sg := (fun a j => if a = k ∧ dp ≤ j ∧ j < dp + n then σ.1 k0 (sp + (j - dp)) else σ.1 a j, σ.2)
theorem gI_pI (σ : Sg) (k i : Nat) (v : Int32) (a j : Nat) : gI (pI σ k i v) a j = if a = k ∧ j = i then v else gI σ a j := rfl
theorem gL_pL (σ : Sg) (k i : Nat) (v : Int64) (a j : Nat) : gL (pL σ k i v) a j = if a = k ∧ j = i then v else gL σ a j := rfl
theorem gR_pR (σ : Sg) (k i : Nat) (v : Nat) (a j : Nat) : gR (pR σ k i v) a j = if a = k ∧ j = i then v else gR σ a j := rfl
theorem gI_pL (σ : Sg) (k i : Nat) (v : Int64) (a j : Nat) : gI (pL σ k i v) a j = gI σ a j := rfl
theorem gI_pR (σ : Sg) (k i : Nat) (v : Nat) (a j : Nat) : gI (pR σ k i v) a j = gI σ a j := rfl
theorem gL_pI (σ : Sg) (k i : Nat) (v : Int32) (a j : Nat) : gL (pI σ k i v) a j = gL σ a j := rfl
theorem gL_pR (σ : Sg) (k i : Nat) (v : Nat) (a j : Nat) : gL (pR σ k i v) a j = gL σ a j := rfl
theorem gR_pI (σ : Sg) (k i : Nat) (v : Int32) (a j : Nat) : gR (pI σ k i v) a j = gR σ a j := rfl
theorem gR_pL (σ : Sg) (k i : Nat) (v : Int64) (a j : Nat) : gR (pL σ k i v) a j = gR σ a j := rfl
theorem gI_cpI (σ : Sg) (k0 sp k dp n a j : Nat) : gI (cpI σ k0 sp k dp n) a j = if a = k ∧ dp ≤ j ∧ j < dp + n then gI σ k0 (sp + (j - dp)) else gI σ a j := rfl
theorem gL_cpI (σ : Sg) (k0 sp k dp n a j : Nat) : gL (cpI σ k0 sp k dp n) a j = gL σ a j := rfl
theorem gR_cpI (σ : Sg) (k0 sp k dp n a j : Nat) : gR (cpI σ k0 sp k dp n) a j = gR σ a j := rfl
/-- the index is in the row -/
def inB (i : Int32) (n : Nat) : Bool := decide (0 ≤ i) && decide (i.toNatClampNeg < n)
theorem inB_vp {i : Int32} {n : Nat} (h : inB i n = true) : vp_in i n := by
  simp only [inB, Bool.and_eq_true, decide_eq_true_eq] at h
  intro q
  rcases q with q | q
  · exact absurd h.1 (by rw [Int32.le_iff_toInt_le]; rw [Int32.lt_iff_toInt_lt] at q; omega)
  · omega
/-! small rows for what a function over Option says -/
theorem oGuard {α : Type} {c : Prop} {dc : Decidable c} {x : Option α} {y : α} (h : (@ite _ c dc x none) = some y) : c ∧ x = some y := by
  by_cases hc : c
  · rw [if_pos hc] at h; exact ⟨hc, h⟩
  · rw [if_neg hc] at h; cases h
theorem oPos {α : Type} {c : Prop} {dc : Decidable c} {x z y : α} (h : (@ite _ c dc x z) = y) (hc : c) : x = y := by rw [if_pos hc] at h; exact h
theorem oNeg {α : Type} {c : Prop} {dc : Decidable c} {x z y : α} (h : (@ite _ c dc x z) = y) (hc : ¬ c) : z = y := by rw [if_neg hc] at h; exact h
theorem oBind {α β : Type} {x : Option α} {f : α → Option β} {y : β} (h : x.bind f = some y) : ∃ q, x = some q ∧ f q = some y := Option.bind_eq_some_iff.mp h
theorem oLet {α β : Type} {v x : α} {f : α → β} {y : β} (h : (let z := v; f z) = y) (e : x = v) : f x = y := by subst e; exact h
/-! the words -/
abbrev MI : Type := MethodName × ByteArray × Nat × Option FieldType
def tbl : List Cond := lw_tbl.filter goodWord
def isNst (w : Cond) : Bool := match w with
  | .fieldLinkNest .. => true
  | .methodLinkNest .. => true
  | _ => false
def nst : List Cond := lw_tbl.filter isNst
theorem tbl_in {w : Cond} (i : Nat) (h : lw_tbl[i]? = some w) (hg : goodWord w = true) : w ∈ tbl := List.mem_filter.mpr ⟨List.mem_of_getElem? h, hg⟩
theorem nst_in {w : Cond} (i : Nat) (h : lw_tbl[i]? = some w) (hg : isNst w = true) : w ∈ nst := List.mem_filter.mpr ⟨List.mem_of_getElem? h, hg⟩
theorem tbl_good {w : Cond} (h : w ∈ tbl) : goodWord w = true := (List.mem_filter.mp h).2
abbrev codeW (M : MI) : Cond := .code M.1 M.2.1 M.2.2.1 M.2.2.2
def wz (M : MI) : List Cond := codeW M :: tbl
theorem goodT {big ws : List Cond} (hb : ∀ w ∈ tbl, w ∈ big) (h : ∀ w ∈ ws, w ∈ tbl) : GoodIn big ws := fun w hw => ⟨hb w (h w hw), good_of_word (tbl_good (h w hw))⟩
theorem wz_tbl {M : MI} (h : codeW M ∈ tbl) : ∀ w ∈ wz M, w ∈ tbl := fun w hw => by
  rcases List.mem_cons.mp hw with rfl | hw
  · exact h
  · exact hw
theorem nst_same {u U : State} (hv : u.vm = U.vm) (h : ∀ w ∈ nst, va_Nw w u) : ∀ w ∈ nst, va_Nw w U := fun w hw => by
  have h1 := (List.mem_filter.mp hw).2
  have h2 := h w hw
  cases w <;> first | exact va_Nw.same rfl hv h2 | exact absurd h1 Bool.false_ne_true
theorem nst_warm {s U : State} (hW : s.WarmedH U.vm) (h : ∀ w ∈ nst, va_Nw w s) : ∀ w ∈ nst, va_Nw w U := fun w hw => by
  have h1 := (List.mem_filter.mp hw).2
  have h2 := h w hw
  cases w <;> first | exact va_Nw.warmF hW h2 | exact va_Nw.warmM hW h2 | exact absurd h1 Bool.false_ne_true
/-! the system's cells -/
def cv (ad : Nat → Nat) : Value → Value
  | .ref k => .ref (ad k)
  | v => v
theorem cv_cat (ad : Nat → Nat) (v : Value) : (cv ad v).category = v.category := by cases v <;> rfl
/-- a field as a value of the layer -/
def aval (σ : Sg) (k i c : Nat) : Value := match c with
  | 0 => .int (gI σ k i)
  | 1 => .long (gL σ k i)
  | 2 => .ref (gR σ k i)
  | c + 3 => .ref c
def ent (tc : Nat → ClassId) (ad : Nat → Nat) (σ : Sg) (k : Nat) (s : Nat × List Nat) : va_E :=
  match s.1 with
  | 100 => .inl (tc 0, s.2.headD 0, .inl (gI σ k))
  | 101 => .inl (tc 1, s.2.headD 0, .inl (gI σ k))
  | 102 => .inl (tc 2, s.2.headD 0, .inr (.inl (gL σ k)))
  | 103 => .inl (tc 3, s.2.length, .inr (.inr (.inr (.inr (fun j => (s.2[j]?).map ad)))))
  | 104 => .inl (tc 4, s.2.length, .inr (.inr (.inr (.inr (fun j => (s.2[j]?).map ad)))))
  | _ => .inr (s.1, s.2.mapIdx (fun i c => cv ad (aval σ k i c)))
def wsO (tc : Nat → ClassId) (ad : Nat → Nat) (σ : Sg) : va_W := SK.mapIdx (fun k s => (ad k, ent tc ad σ k s))
def tysO (tc : Nat → ClassId) : List (ClassId × FieldType) := [(tc 0, .int), (tc 1, .boolean), (tc 2, .long), (tc 3, .object RX6), (tc 4, .object RX5)]
def Ao (ad : Nat → Nat) : Nat → Prop := fun q => ∃ k, k < SK.length ∧ q = ad k
def Inj (ad : Nat → Nat) : Prop := ∀ i j, i < SK.length → j < SK.length → ad i = ad j → i = j
theorem wsO_at (tc : Nat → ClassId) (ad : Nat → Nat) (σ : Sg) {k : Nat} {s : Nat × List Nat} (h : SK[k]? = some s) : (wsO tc ad σ)[k]? = some (ad k, ent tc ad σ k s) := by
  rw [wsO, List.getElem?_mapIdx, h]; rfl
theorem wsO_inv {tc : Nat → ClassId} {ad : Nat → Nat} {σ : Sg} {k : Nat} {q : Nat × va_E} (h : (wsO tc ad σ)[k]? = some q) : k < SK.length ∧ q.1 = ad k := by
  rw [wsO, List.getElem?_mapIdx] at h
  cases hs : SK[k]? with
  | none => rw [hs] at h; cases h
  | some s =>
    rw [hs] at h
    cases h
    exact ⟨(List.getElem?_eq_some_iff.mp hs).1, rfl⟩
theorem wsO_D (tc : Nat → ClassId) {ad : Nat → Nat} (hi : Inj ad) (σ : Sg) : va_D (Ao ad) (wsO tc ad σ) := by
  refine ⟨fun i j p q h1 h2 e => ?_, fun k q h => ?_⟩
  · obtain ⟨a1, a2⟩ := wsO_inv h1
    obtain ⟨b1, b2⟩ := wsO_inv h2
    exact hi i j a1 b1 (by rw [← a2, ← b2]; exact e)
  · obtain ⟨a1, a2⟩ := wsO_inv h
    exact ⟨k, a1, a2⟩
theorem ent_same {tc : Nat → ClassId} {ad : Nat → Nat} {σ τ : Sg} {k : Nat} (h1 : gI τ k = gI σ k) (h2 : gL τ k = gL σ k) (h3 : gR τ k = gR σ k) (s : Nat × List Nat) : ent tc ad τ k s = ent tc ad σ k s := by
  have hv : ∀ i c, aval τ k i c = aval σ k i c := by
    intro i c
    unfold aval
    split
    · rw [h1]
    · rw [h2]
    · rw [h3]
    · rfl
  unfold ent
  simp only [h1, h2, hv]
theorem wsO_set {tc : Nat → ClassId} {ad : Nat → Nat} {σ τ : Sg} {k : Nat} {s : Nat × List Nat} {e : va_E} (hs : SK[k]? = some s) (he : e = ent tc ad τ k s) (h : ∀ j, j ≠ k → gI τ j = gI σ j ∧ gL τ j = gL σ j ∧ gR τ j = gR σ j) : (wsO tc ad σ).set k (ad k, e) = wsO tc ad τ := by
  subst he
  apply List.ext_getElem?
  intro j
  by_cases hj : j = k
  · subst hj
    rw [List.getElem?_set_self (List.getElem?_eq_some_iff.mp (wsO_at tc ad σ hs)).1, wsO_at tc ad τ hs]
  · rw [List.getElem?_set_ne (Ne.symm hj), wsO, wsO, List.getElem?_mapIdx, List.getElem?_mapIdx]
    cases SK[j]? with
    | none => rfl
    | some s' =>
      obtain ⟨h1, h2, h3⟩ := h j hj
      simp only [Option.map_some, ent_same h1 h2 h3]
/-! the judgements -/
def rmd (d : Nat) : Room := { frames := d, cells := 0, slots := 0, locals := 45 * d }
def Po (D : va_G) (tc : Nat → ClassId) (ad : Nat → Nat) (av : List Value) (σ : Sg) : Array Value → State → Prop := fun v U => v = (av.map (cv ad)).toArray ∧ va_P D vwCl (wsO tc ad σ) U.heap ∧ va_K D vwCl (tysO tc) U ∧ ∀ w ∈ nst, va_Nw w U
def Qo (D : va_G) (tc : Nat → ClassId) (ad : Nat → Nat) (r : Option Value) (τ : Sg) : Array Value → State → Outcome → State → Prop := fun _ st o t => o = .returned (r.map (cv ad)) ∧ va_P D vwCl (wsO tc ad τ) t.heap ∧ va_F (Ao ad) st t
/-- M, called with av at σ, answers r and leaves τ; d frames below it are enough -/
def Cal (M : MI) (d : Nat) (av : List Value) (σ : Sg) (r : Option Value) (τ : Sg) : Prop := ∀ (l : Launch) (D : va_G) (tc : Nat → ClassId) (ad : Nat → Nat), Inj ad → Met l M.1 (wz M) (rmd d) (Po D tc ad av σ) (Qo D tc ad r τ) 0 0 (Ao ad)
def Cx (M : MI) (d : Nat) (p : Program) (R : Room) (s : State) (m : MethodId) (args : Array Value) (meth : Method) (c : Code) (D : va_G) (tc : Nat → ClassId) (ad : Nat → Nat) : Prop :=
  p.tables.exec = Jvm.exec ∧ c.code = M.2.1 ∧ c.maxLocals = M.2.2.1 ∧ meth.sig.returnType = M.2.2.2 ∧ (∀ w ∈ tbl, w.before args s = true) ∧ s.vm.findClass M.1.cls = some m.cls ∧ meth.locks = false ∧ va_K D vwCl (tysO tc) s ∧ (∀ w ∈ nst, va_Nw w s) ∧ Inj ad ∧ R = rmd d
/-- from here M comes to its end with r and τ -/
def Ev (M : MI) (d : Nat) (r : Option Value) (τ : Sg) (pc : Nat) (ls : List (Nat × Value)) (st : List Value) (σ : Sg) : Prop :=
  ∀ (p : Program) (l : Launch) (e : Env) (R : Room) (s : State) (m : MethodId) (args : Array Value) (below : List Frame) (meth : Method) (c : Code) (D : va_G) (tc : Nat → ClassId) (ad : Nat → Nat), Cx M d p R s m args meth c D tc ad → ∀ (H : Heap) (locs : List Loc) (LS : Array Slot), va_P D vwCl (wsO tc ad σ) H → va_S (Ao ad) s.heap H locs → lv_has LS M.2.2.1 (ls.map fun q => (q.1, cv ad q.2)) → W p l e R s m args below meth c H locs 0 0 (MQ below (Qo D tc ad r τ) args s 0 0 (Ao ad)) (F0 m pc LS (st.map (cv ad)))
def Dc (b : ByteArray) (pc : Nat) (i : Instr) (n pc' : Nat) : Prop := decode b pc = .ok (i, n) ∧ pc + n = pc'
def DT (b : ByteArray) (t : List (Nat × Instr × Nat × Nat)) : Prop := ∀ q ∈ t, decode b q.1 = .ok (q.2.1, q.2.2.1) ∧ q.1 + q.2.2.1 = q.2.2.2
theorem DT.at {b : ByteArray} {t : List (Nat × Instr × Nat × Nat)} (h : DT b t) (k : Nat) {pc : Nat} {i : Instr} {n pc' : Nat} (hk : t[k]? = some (pc, i, n, pc')) : Dc b pc i n pc' := h (pc, i, n, pc') (List.mem_of_getElem? hk)
theorem lv_args_cv (ad : Nat → Nat) (av : List Value) : ∀ i, lv_args i (av.map (cv ad)) = (lv_args i av).map fun q => (q.1, cv ad q.2) := by
  induction av with
  | nil => intro i; rfl
  | cons v vs ih => intro i; simp only [List.map_cons, lv_args, cv_cat, ih]
theorem lg_sl_cv (ad : Nat → Nat) (av : List Value) : (lg_sl (av.map (cv ad))).length = (lg_sl av).length := by
  induction av with
  | nil => rfl
  | cons v vs ih =>
    have e : ∀ (x : Value) (xs : List Value), lg_sl (x :: xs) = lg_sl [x] ++ lg_sl xs := fun x xs => by simp [lg_sl]
    rw [List.map_cons, e, e v, List.length_append, List.length_append, ih]
    congr 1
    simp [lg_sl, cv_cat]
    split <;> rfl
/-- a contract out of a walk from the entry -/
theorem Cal.of {M : MI} {d : Nat} {av : List Value} {σ : Sg} {r : Option Value} {τ : Sg} (hy : plainName M.1.cls = true) (hn : (lg_sl av).length ≤ M.2.2.1) (k : Ev M d r τ 0 (lv_args 0 av) [] σ) : Cal M d av σ r τ := by
  intro l D tc ad hi
  refine Met.ofW (cc := M.2.1) (maxL := M.2.2.1) (ret := M.2.2.2) hy rfl ?_
  intro p e s m args below meth c s₁ B hml hv
  obtain ⟨rfl, hP, hK, hN⟩ := hv
  have hts := atoms_spec (ws := wz M) B.pre
  have hl := lv_entry (av.map (cv ad)) (n := M.2.2.1) (by rw [lg_sl_cv]; exact hn)
  rw [lg_entry_eq]
  rw [lv_args_cv] at hl
  exact k p l e _ s m _ below meth c D tc ad ⟨B.exec, B.bytes, hml, B.returns, fun w hw => hts w (List.mem_cons_of_mem _ hw), findClass_of_methodNamed B.named, B.notSynchronized, hK, hN, hi, rfl⟩ s.heap [] _ hP va_S.rf hl
end
section
section EVR
variable {M : MI} {d : Nat} {r : Option Value} {τ : Sg} {pc pc' : Nat} {ls : List (Nat × Value)} {st : List Value} {σ : Sg}
theorem Ev_iadd {x y : Int32} (hd : Dc M.2.1 pc .iadd 1 pc')  (k : Ev M d r τ pc' ls (.int (x + y) :: st) σ) : Ev M d r τ pc ls (.int y :: .int x :: st) σ := by
  obtain ⟨h1, rfl⟩ := hd
  intro p l e R s m args below meth c D tc ad C H locs LS hP hS hl
  exact lv_iadd C.1 C.2.1 h1  (k p l e R s m args below meth c D tc ad C H locs LS hP hS hl)
theorem Ev_isub {x y : Int32} (hd : Dc M.2.1 pc .isub 1 pc')  (k : Ev M d r τ pc' ls (.int (x - y) :: st) σ) : Ev M d r τ pc ls (.int y :: .int x :: st) σ := by
  obtain ⟨h1, rfl⟩ := hd
  intro p l e R s m args below meth c D tc ad C H locs LS hP hS hl
  exact lv_isub C.1 C.2.1 h1  (k p l e R s m args below meth c D tc ad C H locs LS hP hS hl)
theorem Ev_imul {x y : Int32} (hd : Dc M.2.1 pc .imul 1 pc')  (k : Ev M d r τ pc' ls (.int (x * y) :: st) σ) : Ev M d r τ pc ls (.int y :: .int x :: st) σ := by
  obtain ⟨h1, rfl⟩ := hd
  intro p l e R s m args below meth c D tc ad C H locs LS hP hS hl
  exact lv_imul C.1 C.2.1 h1  (k p l e R s m args below meth c D tc ad C H locs LS hP hS hl)
theorem Ev_iand {x y : Int32} (hd : Dc M.2.1 pc .iand 1 pc')  (k : Ev M d r τ pc' ls (.int (x &&& y) :: st) σ) : Ev M d r τ pc ls (.int y :: .int x :: st) σ := by
  obtain ⟨h1, rfl⟩ := hd
  intro p l e R s m args below meth c D tc ad C H locs LS hP hS hl
  exact lv_iand C.1 C.2.1 h1  (k p l e R s m args below meth c D tc ad C H locs LS hP hS hl)
theorem Ev_ior {x y : Int32} (hd : Dc M.2.1 pc .ior 1 pc')  (k : Ev M d r τ pc' ls (.int (x ||| y) :: st) σ) : Ev M d r τ pc ls (.int y :: .int x :: st) σ := by
  obtain ⟨h1, rfl⟩ := hd
  intro p l e R s m args below meth c D tc ad C H locs LS hP hS hl
  exact lv_ior C.1 C.2.1 h1  (k p l e R s m args below meth c D tc ad C H locs LS hP hS hl)
theorem Ev_ixor {x y : Int32} (hd : Dc M.2.1 pc .ixor 1 pc')  (k : Ev M d r τ pc' ls (.int (x ^^^ y) :: st) σ) : Ev M d r τ pc ls (.int y :: .int x :: st) σ := by
  obtain ⟨h1, rfl⟩ := hd
  intro p l e R s m args below meth c D tc ad C H locs LS hP hS hl
  exact lv_ixor C.1 C.2.1 h1  (k p l e R s m args below meth c D tc ad C H locs LS hP hS hl)
theorem Ev_ishl {x y : Int32} (hd : Dc M.2.1 pc .ishl 1 pc')  (k : Ev M d r τ pc' ls (.int (x <<< (y &&& 31)) :: st) σ) : Ev M d r τ pc ls (.int y :: .int x :: st) σ := by
  obtain ⟨h1, rfl⟩ := hd
  intro p l e R s m args below meth c D tc ad C H locs LS hP hS hl
  exact lv_ishl C.1 C.2.1 h1  (k p l e R s m args below meth c D tc ad C H locs LS hP hS hl)
theorem Ev_ishr {x y : Int32} (hd : Dc M.2.1 pc .ishr 1 pc')  (k : Ev M d r τ pc' ls (.int (x >>> (y &&& 31)) :: st) σ) : Ev M d r τ pc ls (.int y :: .int x :: st) σ := by
  obtain ⟨h1, rfl⟩ := hd
  intro p l e R s m args below meth c D tc ad C H locs LS hP hS hl
  exact lv_ishr C.1 C.2.1 h1  (k p l e R s m args below meth c D tc ad C H locs LS hP hS hl)
theorem Ev_idiv {x y : Int32} (hd : Dc M.2.1 pc .idiv 1 pc') (hne : ¬ y = 0) (k : Ev M d r τ pc' ls (.int (x / y) :: st) σ) : Ev M d r τ pc ls (.int y :: .int x :: st) σ := by
  obtain ⟨h1, rfl⟩ := hd
  intro p l e R s m args below meth c D tc ad C H locs LS hP hS hl
  exact lv_idiv C.1 C.2.1 h1 hne (k p l e R s m args below meth c D tc ad C H locs LS hP hS hl)
theorem Ev_irem {x y : Int32} (hd : Dc M.2.1 pc .irem 1 pc') (hne : ¬ y = 0) (k : Ev M d r τ pc' ls (.int (x - x / y * y) :: st) σ) : Ev M d r τ pc ls (.int y :: .int x :: st) σ := by
  obtain ⟨h1, rfl⟩ := hd
  intro p l e R s m args below meth c D tc ad C H locs LS hP hS hl
  exact lv_irem C.1 C.2.1 h1 hne (k p l e R s m args below meth c D tc ad C H locs LS hP hS hl)
theorem Ev_iushr {x y : Int32} (hd : Dc M.2.1 pc .iushr 1 pc')  (k : Ev M d r τ pc' ls (.int (x.toUInt32 >>> (y.toUInt32 &&& Int32.toUInt32 31)).toInt32 :: st) σ) : Ev M d r τ pc ls (.int y :: .int x :: st) σ := by
  obtain ⟨h1, rfl⟩ := hd
  intro p l e R s m args below meth c D tc ad C H locs LS hP hS hl
  exact lv_iushr C.1 C.2.1 h1 rfl (k p l e R s m args below meth c D tc ad C H locs LS hP hS hl)
theorem Ev_ineg {x : Int32} (hd : Dc M.2.1 pc .ineg 1 pc')  (k : Ev M d r τ pc' ls (.int (-x) :: st) σ) : Ev M d r τ pc ls (.int x :: st) σ := by
  obtain ⟨h1, rfl⟩ := hd
  intro p l e R s m args below meth c D tc ad C H locs LS hP hS hl
  exact lv_ineg C.1 C.2.1 h1  (k p l e R s m args below meth c D tc ad C H locs LS hP hS hl)
theorem Ev_ladd {x y : Int64} (hd : Dc M.2.1 pc .ladd 1 pc')  (k : Ev M d r τ pc' ls (.long (x + y) :: st) σ) : Ev M d r τ pc ls (.long y :: .long x :: st) σ := by
  obtain ⟨h1, rfl⟩ := hd
  intro p l e R s m args below meth c D tc ad C H locs LS hP hS hl
  exact lv_ladd C.1 C.2.1 h1  (k p l e R s m args below meth c D tc ad C H locs LS hP hS hl)
theorem Ev_lsub {x y : Int64} (hd : Dc M.2.1 pc .lsub 1 pc')  (k : Ev M d r τ pc' ls (.long (x - y) :: st) σ) : Ev M d r τ pc ls (.long y :: .long x :: st) σ := by
  obtain ⟨h1, rfl⟩ := hd
  intro p l e R s m args below meth c D tc ad C H locs LS hP hS hl
  exact lv_lsub C.1 C.2.1 h1  (k p l e R s m args below meth c D tc ad C H locs LS hP hS hl)
theorem Ev_lmul {x y : Int64} (hd : Dc M.2.1 pc .lmul 1 pc')  (k : Ev M d r τ pc' ls (.long (x * y) :: st) σ) : Ev M d r τ pc ls (.long y :: .long x :: st) σ := by
  obtain ⟨h1, rfl⟩ := hd
  intro p l e R s m args below meth c D tc ad C H locs LS hP hS hl
  exact lv_lmul C.1 C.2.1 h1  (k p l e R s m args below meth c D tc ad C H locs LS hP hS hl)
theorem Ev_land {x y : Int64} (hd : Dc M.2.1 pc .land 1 pc')  (k : Ev M d r τ pc' ls (.long (x &&& y) :: st) σ) : Ev M d r τ pc ls (.long y :: .long x :: st) σ := by
  obtain ⟨h1, rfl⟩ := hd
  intro p l e R s m args below meth c D tc ad C H locs LS hP hS hl
  exact lv_land C.1 C.2.1 h1  (k p l e R s m args below meth c D tc ad C H locs LS hP hS hl)
theorem Ev_lor {x y : Int64} (hd : Dc M.2.1 pc .lor 1 pc')  (k : Ev M d r τ pc' ls (.long (x ||| y) :: st) σ) : Ev M d r τ pc ls (.long y :: .long x :: st) σ := by
  obtain ⟨h1, rfl⟩ := hd
  intro p l e R s m args below meth c D tc ad C H locs LS hP hS hl
  exact lv_lor C.1 C.2.1 h1  (k p l e R s m args below meth c D tc ad C H locs LS hP hS hl)
theorem Ev_ldiv {x y : Int64} (hd : Dc M.2.1 pc .ldiv 1 pc') (hne : ¬ y = 0) (k : Ev M d r τ pc' ls (.long (x / y) :: st) σ) : Ev M d r τ pc ls (.long y :: .long x :: st) σ := by
  obtain ⟨h1, rfl⟩ := hd
  intro p l e R s m args below meth c D tc ad C H locs LS hP hS hl
  exact lv_ldiv C.1 C.2.1 h1 hne (k p l e R s m args below meth c D tc ad C H locs LS hP hS hl)
theorem Ev_lrem {x y : Int64} (hd : Dc M.2.1 pc .lrem 1 pc') (hne : ¬ y = 0) (k : Ev M d r τ pc' ls (.long (x - x / y * y) :: st) σ) : Ev M d r τ pc ls (.long y :: .long x :: st) σ := by
  obtain ⟨h1, rfl⟩ := hd
  intro p l e R s m args below meth c D tc ad C H locs LS hP hS hl
  exact lv_lrem C.1 C.2.1 h1 hne (k p l e R s m args below meth c D tc ad C H locs LS hP hS hl)
theorem Ev_lneg {x : Int64} (hd : Dc M.2.1 pc .lneg 1 pc')  (k : Ev M d r τ pc' ls (.long (-x) :: st) σ) : Ev M d r τ pc ls (.long x :: st) σ := by
  obtain ⟨h1, rfl⟩ := hd
  intro p l e R s m args below meth c D tc ad C H locs LS hP hS hl
  exact lv_lneg C.1 C.2.1 h1  (k p l e R s m args below meth c D tc ad C H locs LS hP hS hl)
theorem Ev_lshl {x : Int64} {y : Int32} (hd : Dc M.2.1 pc .lshl 1 pc')  (k : Ev M d r τ pc' ls (.long (x <<< (y.toInt64 &&& 63)) :: st) σ) : Ev M d r τ pc ls (.int y :: .long x :: st) σ := by
  obtain ⟨h1, rfl⟩ := hd
  intro p l e R s m args below meth c D tc ad C H locs LS hP hS hl
  exact lv_lshl C.1 C.2.1 h1 rfl (k p l e R s m args below meth c D tc ad C H locs LS hP hS hl)
theorem Ev_lushr {x : Int64} {y : Int32} (hd : Dc M.2.1 pc .lushr 1 pc')  (k : Ev M d r τ pc' ls (.long (x.toUInt64 >>> (y.toInt64.toUInt64 &&& Int64.toUInt64 63)).toInt64 :: st) σ) : Ev M d r τ pc ls (.int y :: .long x :: st) σ := by
  obtain ⟨h1, rfl⟩ := hd
  intro p l e R s m args below meth c D tc ad C H locs LS hP hS hl
  exact lv_lushr C.1 C.2.1 h1 rfl (k p l e R s m args below meth c D tc ad C H locs LS hP hS hl)
theorem Ev_i2l {x : Int32} (hd : Dc M.2.1 pc .i2l 1 pc')  (k : Ev M d r τ pc' ls (.long x.toInt64 :: st) σ) : Ev M d r τ pc ls (.int x :: st) σ := by
  obtain ⟨h1, rfl⟩ := hd
  intro p l e R s m args below meth c D tc ad C H locs LS hP hS hl
  exact lv_i2l C.1 C.2.1 h1 rfl (k p l e R s m args below meth c D tc ad C H locs LS hP hS hl)
theorem Ev_l2i {x : Int64} (hd : Dc M.2.1 pc .l2i 1 pc')  (k : Ev M d r τ pc' ls (.int x.toInt32 :: st) σ) : Ev M d r τ pc ls (.long x :: st) σ := by
  obtain ⟨h1, rfl⟩ := hd
  intro p l e R s m args below meth c D tc ad C H locs LS hP hS hl
  exact lv_l2i C.1 C.2.1 h1 rfl (k p l e R s m args below meth c D tc ad C H locs LS hP hS hl)
theorem Ev_lcmp {x y : Int64} (hd : Dc M.2.1 pc .lcmp 1 pc')  (k : Ev M d r τ pc' ls (.int (lg_cmp x y) :: st) σ) : Ev M d r τ pc ls (.long y :: .long x :: st) σ := by
  obtain ⟨h1, rfl⟩ := hd
  intro p l e R s m args below meth c D tc ad C H locs LS hP hS hl
  exact W.lcmp C.1 C.2.1 h1  (k p l e R s m args below meth c D tc ad C H locs LS hP hS hl)
theorem Ev_iconst {n : Int} {v : Int32} (hd : Dc M.2.1 pc (.iconst n) 1 pc') (hv : Int32.ofInt n = v) (k : Ev M d r τ pc' ls (.int v :: st) σ) : Ev M d r τ pc ls (st) σ := by
  obtain ⟨h1, rfl⟩ := hd
  intro p l e R s m args below meth c D tc ad C H locs LS hP hS hl
  exact lv_iconst C.1 C.2.1 h1 hv (k p l e R s m args below meth c D tc ad C H locs LS hP hS hl)
theorem Ev_bipush {n : Int} {v : Int32} (hd : Dc M.2.1 pc (.bipush n) 2 pc') (hv : (Int8.ofInt n).toInt32 = v) (k : Ev M d r τ pc' ls (.int v :: st) σ) : Ev M d r τ pc ls (st) σ := by
  obtain ⟨h1, rfl⟩ := hd
  intro p l e R s m args below meth c D tc ad C H locs LS hP hS hl
  exact lv_bipush C.1 C.2.1 h1 hv (k p l e R s m args below meth c D tc ad C H locs LS hP hS hl)
theorem Ev_sipush {n : Int} {v : Int32} (hd : Dc M.2.1 pc (.sipush n) 3 pc') (hv : (Int16.ofInt n).toInt32 = v) (k : Ev M d r τ pc' ls (.int v :: st) σ) : Ev M d r τ pc ls (st) σ := by
  obtain ⟨h1, rfl⟩ := hd
  intro p l e R s m args below meth c D tc ad C H locs LS hP hS hl
  exact lv_sipush C.1 C.2.1 h1 hv (k p l e R s m args below meth c D tc ad C H locs LS hP hS hl)
theorem Ev_lconst {n : Fin 2} {v : Int64} (hd : Dc M.2.1 pc (.lconst n) 1 pc') (hv : Int64.ofNat (n : Nat) = v) (k : Ev M d r τ pc' ls (.long v :: st) σ) : Ev M d r τ pc ls (st) σ := by
  obtain ⟨h1, rfl⟩ := hd
  intro p l e R s m args below meth c D tc ad C H locs LS hP hS hl
  exact lv_lconst C.1 C.2.1 h1 hv (k p l e R s m args below meth c D tc ad C H locs LS hP hS hl)
theorem Ev_ldc {ix : Nat} {v : Int32} (hd : Dc M.2.1 pc (.ldc ix) 2 pc') (hw : Cond.constant M.1.cls ix v ∈ tbl) (k : Ev M d r τ pc' ls (.int v :: st) σ) : Ev M d r τ pc ls st σ := by
  obtain ⟨h1, rfl⟩ := hd
  intro p l e R s m args below meth c D tc ad C H locs LS hP hS hl
  exact lv_ldc C.1 C.2.1 C.2.2.2.2.2.1 (C.2.2.2.2.1 _ hw) h1 (k p l e R s m args below meth c D tc ad C H locs LS hP hS hl)
theorem Ev_ldc_w {ix : Nat} {v : Int32} (hd : Dc M.2.1 pc (.ldc_w ix) 3 pc') (hw : Cond.constant M.1.cls ix v ∈ tbl) (k : Ev M d r τ pc' ls (.int v :: st) σ) : Ev M d r τ pc ls st σ := by
  obtain ⟨h1, rfl⟩ := hd
  intro p l e R s m args below meth c D tc ad C H locs LS hP hS hl
  exact lv_ldcw C.1 C.2.1 C.2.2.2.2.2.1 (C.2.2.2.2.1 _ hw) h1 (k p l e R s m args below meth c D tc ad C H locs LS hP hS hl)
theorem Ev_ldc2 {ix : Nat} {v : Int64} (hd : Dc M.2.1 pc (.ldc2_w ix) 3 pc') (hw : Cond.constantLong M.1.cls ix v ∈ tbl) (k : Ev M d r τ pc' ls (.long v :: st) σ) : Ev M d r τ pc ls st σ := by
  obtain ⟨h1, rfl⟩ := hd
  intro p l e R s m args below meth c D tc ad C H locs LS hP hS hl
  exact lv_ldc2 C.1 C.2.1 C.2.2.2.2.2.1 (C.2.2.2.2.1 _ hw) h1 (k p l e R s m args below meth c D tc ad C H locs LS hP hS hl)
theorem Ev_dup {v : Value} (hd : Dc M.2.1 pc .dup 1 pc') (hc : v.category = 1) (k : Ev M d r τ pc' ls (v :: v :: st) σ) : Ev M d r τ pc ls (v :: st) σ := by
  obtain ⟨h1, rfl⟩ := hd
  intro p l e R s m args below meth c D tc ad C H locs LS hP hS hl
  exact lv_dup C.1 C.2.1 h1 (by rw [cv_cat]; exact hc) (k p l e R s m args below meth c D tc ad C H locs LS hP hS hl)
theorem Ev_dup2 {v u : Value} (hd : Dc M.2.1 pc .dup2 1 pc') (hc : v.category = 1) (hu : u.category = 1) (k : Ev M d r τ pc' ls (v :: u :: v :: u :: st) σ) : Ev M d r τ pc ls (v :: u :: st) σ := by
  obtain ⟨h1, rfl⟩ := hd
  intro p l e R s m args below meth c D tc ad C H locs LS hP hS hl
  exact lv_dup2_11 C.1 C.2.1 h1 (by rw [cv_cat]; exact hc) (by rw [cv_cat]; exact hu) (k p l e R s m args below meth c D tc ad C H locs LS hP hS hl)
theorem Ev_pop {v : Value} (hd : Dc M.2.1 pc .pop 1 pc') (hc : v.category = 1) (k : Ev M d r τ pc' ls st σ) : Ev M d r τ pc ls (v :: st) σ := by
  obtain ⟨h1, rfl⟩ := hd
  intro p l e R s m args below meth c D tc ad C H locs LS hP hS hl
  exact lv_pop C.1 C.2.1 h1 (by rw [cv_cat]; exact hc) (k p l e R s m args below meth c D tc ad C H locs LS hP hS hl)
theorem ls_at (ad : Nat → Nat) {LS : Array Slot} {nL : Nat} (hl : lv_has LS nL (ls.map fun q => (q.1, cv ad q.2))) {j i : Nat} {v : Value} (hk : ls[j]? = some (i, v)) : LS[i]? = some (.val (cv ad v)) :=
  lv_at hl j (by rw [List.getElem?_map, hk]; rfl)
theorem Ev_iload {i : Nat} {x : Int32} (j : Nat) (hd : Dc M.2.1 pc (.iload i) 2 pc') (hk : ls[j]? = some (i, .int x)) (k : Ev M d r τ pc' ls (.int x :: st) σ) : Ev M d r τ pc ls st σ := by
  obtain ⟨h1, rfl⟩ := hd
  intro p l e R s m args below meth c D tc ad C H locs LS hP hS hl
  exact lv_iload C.1 C.2.1 h1 (ls_at ad hl hk) (k p l e R s m args below meth c D tc ad C H locs LS hP hS hl)
theorem Ev_iload_n {i : Fin 4} {x : Int32} (j : Nat) (hd : Dc M.2.1 pc (.iload_n i) 1 pc') (hk : ls[j]? = some ((i : Nat), .int x)) (k : Ev M d r τ pc' ls (.int x :: st) σ) : Ev M d r τ pc ls st σ := by
  obtain ⟨h1, rfl⟩ := hd
  intro p l e R s m args below meth c D tc ad C H locs LS hP hS hl
  exact lv_iload_n C.1 C.2.1 h1 rfl (ls_at ad hl hk) (k p l e R s m args below meth c D tc ad C H locs LS hP hS hl)
theorem Ev_lload {i : Nat} {x : Int64} (j : Nat) (hd : Dc M.2.1 pc (.lload i) 2 pc') (hk : ls[j]? = some (i, .long x)) (k : Ev M d r τ pc' ls (.long x :: st) σ) : Ev M d r τ pc ls st σ := by
  obtain ⟨h1, rfl⟩ := hd
  intro p l e R s m args below meth c D tc ad C H locs LS hP hS hl
  exact lv_lload C.1 C.2.1 h1 (ls_at ad hl hk) (k p l e R s m args below meth c D tc ad C H locs LS hP hS hl)
theorem Ev_lload_n {i : Fin 4} {x : Int64} (j : Nat) (hd : Dc M.2.1 pc (.lload_n i) 1 pc') (hk : ls[j]? = some ((i : Nat), .long x)) (k : Ev M d r τ pc' ls (.long x :: st) σ) : Ev M d r τ pc ls st σ := by
  obtain ⟨h1, rfl⟩ := hd
  intro p l e R s m args below meth c D tc ad C H locs LS hP hS hl
  exact lv_lload_n C.1 C.2.1 h1 rfl (ls_at ad hl hk) (k p l e R s m args below meth c D tc ad C H locs LS hP hS hl)
theorem Ev_aload {i : Nat} {x : Nat} (j : Nat) (hd : Dc M.2.1 pc (.aload i) 2 pc') (hk : ls[j]? = some (i, .ref x)) (k : Ev M d r τ pc' ls (.ref x :: st) σ) : Ev M d r τ pc ls st σ := by
  obtain ⟨h1, rfl⟩ := hd
  intro p l e R s m args below meth c D tc ad C H locs LS hP hS hl
  exact lv_aload C.1 C.2.1 h1 (ls_at ad hl hk) (k p l e R s m args below meth c D tc ad C H locs LS hP hS hl)
theorem Ev_aload_n {i : Fin 4} {x : Nat} (j : Nat) (hd : Dc M.2.1 pc (.aload_n i) 1 pc') (hk : ls[j]? = some ((i : Nat), .ref x)) (k : Ev M d r τ pc' ls (.ref x :: st) σ) : Ev M d r τ pc ls st σ := by
  obtain ⟨h1, rfl⟩ := hd
  intro p l e R s m args below meth c D tc ad C H locs LS hP hS hl
  exact lv_aload_n C.1 C.2.1 h1 rfl (ls_at ad hl hk) (k p l e R s m args below meth c D tc ad C H locs LS hP hS hl)
def st1 (i : Nat) (v : Value) (l : List (Nat × Value)) : List (Nat × Value) := (i, v) :: l.filter (fun q => !(q.1 == i) && !(q.1 + 1 == i && q.2.category == 2))
def st2 (i : Nat) (v : Value) (l : List (Nat × Value)) : List (Nat × Value) := (i, v) :: l.filter (fun q => !(q.1 == i) && (!(q.1 == i + 1) && !(q.1 + 1 == i && q.2.category == 2)))
theorem st1_cv (ad : Nat → Nat) (i : Nat) (v : Value) (l : List (Nat × Value)) : st1 i (cv ad v) (l.map fun q => (q.1, cv ad q.2)) = (st1 i v l).map fun q => (q.1, cv ad q.2) := by
  simp only [st1, List.map_cons, List.filter_map, Function.comp_def, cv_cat]
theorem st2_cv (ad : Nat → Nat) (i : Nat) (v : Value) (l : List (Nat × Value)) : st2 i (cv ad v) (l.map fun q => (q.1, cv ad q.2)) = (st2 i v l).map fun q => (q.1, cv ad q.2) := by
  simp only [st2, List.map_cons, List.filter_map, Function.comp_def, cv_cat]
theorem Ev_istore {i : Nat} {x : Int32} {ls' : List (Nat × Value)} (hd : Dc M.2.1 pc (.istore i) 2 pc') (hn : i < M.2.2.1) (hk : st1 i (.int x) ls = ls') (k : Ev M d r τ pc' ls' st σ) : Ev M d r τ pc ls (.int x :: st) σ := by
  obtain ⟨h1, rfl⟩ := hd
  subst hk
  intro p l e R s m args below meth c D tc ad C H locs LS hP hS hl
  exact lv_istore C.1 C.2.1 h1 hl hn (st1_cv ad _ (.int x) ls) (fun LS' hl' => k p l e R s m args below meth c D tc ad C H locs LS' hP hS hl')
theorem Ev_istore_n {i : Fin 4} {x : Int32} {ls' : List (Nat × Value)} (hd : Dc M.2.1 pc (.istore_n i) 1 pc') (hn : (i : Nat) < M.2.2.1) (hk : st1 (i : Nat) (.int x) ls = ls') (k : Ev M d r τ pc' ls' st σ) : Ev M d r τ pc ls (.int x :: st) σ := by
  obtain ⟨h1, rfl⟩ := hd
  subst hk
  intro p l e R s m args below meth c D tc ad C H locs LS hP hS hl
  exact lv_istore_n C.1 C.2.1 h1 rfl hl hn (st1_cv ad _ (.int x) ls) (fun LS' hl' => k p l e R s m args below meth c D tc ad C H locs LS' hP hS hl')
theorem Ev_lstore {i : Nat} {x : Int64} {ls' : List (Nat × Value)} (hd : Dc M.2.1 pc (.lstore i) 2 pc') (hn : i + 1 < M.2.2.1) (hk : st2 i (.long x) ls = ls') (k : Ev M d r τ pc' ls' st σ) : Ev M d r τ pc ls (.long x :: st) σ := by
  obtain ⟨h1, rfl⟩ := hd
  subst hk
  intro p l e R s m args below meth c D tc ad C H locs LS hP hS hl
  exact lv_lstore C.1 C.2.1 h1 hl hn (st2_cv ad _ (.long x) ls) (fun LS' hl' => k p l e R s m args below meth c D tc ad C H locs LS' hP hS hl')
theorem Ev_lstore_n {i : Fin 4} {x : Int64} {ls' : List (Nat × Value)} (hd : Dc M.2.1 pc (.lstore_n i) 1 pc') (hn : (i : Nat) + 1 < M.2.2.1) (hk : st2 (i : Nat) (.long x) ls = ls') (k : Ev M d r τ pc' ls' st σ) : Ev M d r τ pc ls (.long x :: st) σ := by
  obtain ⟨h1, rfl⟩ := hd
  subst hk
  intro p l e R s m args below meth c D tc ad C H locs LS hP hS hl
  exact lv_lstore_n C.1 C.2.1 h1 rfl hl hn (st2_cv ad _ (.long x) ls) (fun LS' hl' => k p l e R s m args below meth c D tc ad C H locs LS' hP hS hl')
theorem Ev_astore {i : Nat} {x : Nat} {ls' : List (Nat × Value)} (hd : Dc M.2.1 pc (.astore i) 2 pc') (hn : i < M.2.2.1) (hk : st1 i (.ref x) ls = ls') (k : Ev M d r τ pc' ls' st σ) : Ev M d r τ pc ls (.ref x :: st) σ := by
  obtain ⟨h1, rfl⟩ := hd
  subst hk
  intro p l e R s m args below meth c D tc ad C H locs LS hP hS hl
  exact lv_astore C.1 C.2.1 h1 hl hn (st1_cv ad _ (.ref x) ls) (fun LS' hl' => k p l e R s m args below meth c D tc ad C H locs LS' hP hS hl')
theorem Ev_astore_n {i : Fin 4} {x : Nat} {ls' : List (Nat × Value)} (hd : Dc M.2.1 pc (.astore_n i) 1 pc') (hn : (i : Nat) < M.2.2.1) (hk : st1 (i : Nat) (.ref x) ls = ls') (k : Ev M d r τ pc' ls' st σ) : Ev M d r τ pc ls (.ref x :: st) σ := by
  obtain ⟨h1, rfl⟩ := hd
  subst hk
  intro p l e R s m args below meth c D tc ad C H locs LS hP hS hl
  exact lv_astore_n C.1 C.2.1 h1 rfl hl hn (st1_cv ad _ (.ref x) ls) (fun LS' hl' => k p l e R s m args below meth c D tc ad C H locs LS' hP hS hl')
theorem Ev_iinc {i : Nat} {n : Int} {x v : Int32} {ls' : List (Nat × Value)} (j : Nat) (hd : Dc M.2.1 pc (.iinc i n) 3 pc') (hj : ls[j]? = some (i, .int x)) (hv : v = x + Int32.ofInt n) (hn : i < M.2.2.1) (hk : st1 i (.int v) ls = ls') (k : Ev M d r τ pc' ls' st σ) : Ev M d r τ pc ls st σ := by
  obtain ⟨h1, rfl⟩ := hd
  subst hk
  intro p l e R s m args below meth c D tc ad C H locs LS hP hS hl
  exact lv_iinc C.1 C.2.1 h1 hl (k := j) (by rw [List.getElem?_map, hj]; rfl) hv.symm hn (st1_cv ad _ (.int v) ls) (fun LS' hl' => k p l e R s m args below meth c D tc ad C H locs LS' hP hS hl')
theorem Ev_sub {ls' : List (Nat × Value)} (ks : List Nat) (hk : lv_pick ls ks = ls') (k : Ev M d r τ pc ls' st σ) : Ev M d r τ pc ls st σ := by
  subst hk
  intro p l e R s m args below meth c D tc ad C H locs LS hP hS hl
  refine k p l e R s m args below meth c D tc ad C H locs LS hP hS (lv_sub hl ks ?_)
  simp only [lv_pick, List.map_filterMap]
  congr 1; funext i; rw [List.getElem?_map]
theorem Ev_if_eq {x : Int32} {off : Int} {tgt : Nat} (hd : Dc M.2.1 pc (.ifCond .eq off) 3 pc') (ht : (pc : Int) + off = (tgt : Int)) (kt : (x = 0) → Ev M d r τ tgt ls st σ) (kf : (¬ x = 0) → Ev M d r τ pc' ls st σ) : Ev M d r τ pc ls (.int x :: st) σ := by
  obtain ⟨h1, rfl⟩ := hd
  intro p l e R s m args below meth c D tc ad C H locs LS hP hS hl
  exact lv_if_eq C.1 C.2.1 h1 ht (fun h => kt h p l e R s m args below meth c D tc ad C H locs LS hP hS hl) (fun h => kf h p l e R s m args below meth c D tc ad C H locs LS hP hS hl)
theorem Ev_if_ne {x : Int32} {off : Int} {tgt : Nat} (hd : Dc M.2.1 pc (.ifCond .ne off) 3 pc') (ht : (pc : Int) + off = (tgt : Int)) (kt : (¬ x = 0) → Ev M d r τ tgt ls st σ) (kf : (x = 0) → Ev M d r τ pc' ls st σ) : Ev M d r τ pc ls (.int x :: st) σ := by
  obtain ⟨h1, rfl⟩ := hd
  intro p l e R s m args below meth c D tc ad C H locs LS hP hS hl
  exact lv_if_ne C.1 C.2.1 h1 ht (fun h => kt h p l e R s m args below meth c D tc ad C H locs LS hP hS hl) (fun h => kf h p l e R s m args below meth c D tc ad C H locs LS hP hS hl)
theorem Ev_if_lt {x : Int32} {off : Int} {tgt : Nat} (hd : Dc M.2.1 pc (.ifCond .lt off) 3 pc') (ht : (pc : Int) + off = (tgt : Int)) (kt : (x < 0) → Ev M d r τ tgt ls st σ) (kf : (¬ x < 0) → Ev M d r τ pc' ls st σ) : Ev M d r τ pc ls (.int x :: st) σ := by
  obtain ⟨h1, rfl⟩ := hd
  intro p l e R s m args below meth c D tc ad C H locs LS hP hS hl
  exact lv_if_lt C.1 C.2.1 h1 ht (fun h => kt h p l e R s m args below meth c D tc ad C H locs LS hP hS hl) (fun h => kf h p l e R s m args below meth c D tc ad C H locs LS hP hS hl)
theorem Ev_if_ge {x : Int32} {off : Int} {tgt : Nat} (hd : Dc M.2.1 pc (.ifCond .ge off) 3 pc') (ht : (pc : Int) + off = (tgt : Int)) (kt : (0 ≤ x) → Ev M d r τ tgt ls st σ) (kf : (¬ 0 ≤ x) → Ev M d r τ pc' ls st σ) : Ev M d r τ pc ls (.int x :: st) σ := by
  obtain ⟨h1, rfl⟩ := hd
  intro p l e R s m args below meth c D tc ad C H locs LS hP hS hl
  exact lv_if_ge C.1 C.2.1 h1 ht (fun h => kt h p l e R s m args below meth c D tc ad C H locs LS hP hS hl) (fun h => kf h p l e R s m args below meth c D tc ad C H locs LS hP hS hl)
theorem Ev_if_gt {x : Int32} {off : Int} {tgt : Nat} (hd : Dc M.2.1 pc (.ifCond .gt off) 3 pc') (ht : (pc : Int) + off = (tgt : Int)) (kt : (0 < x) → Ev M d r τ tgt ls st σ) (kf : (¬ 0 < x) → Ev M d r τ pc' ls st σ) : Ev M d r τ pc ls (.int x :: st) σ := by
  obtain ⟨h1, rfl⟩ := hd
  intro p l e R s m args below meth c D tc ad C H locs LS hP hS hl
  exact lv_if_gt C.1 C.2.1 h1 ht (fun h => kt h p l e R s m args below meth c D tc ad C H locs LS hP hS hl) (fun h => kf h p l e R s m args below meth c D tc ad C H locs LS hP hS hl)
theorem Ev_if_le {x : Int32} {off : Int} {tgt : Nat} (hd : Dc M.2.1 pc (.ifCond .le off) 3 pc') (ht : (pc : Int) + off = (tgt : Int)) (kt : (x ≤ 0) → Ev M d r τ tgt ls st σ) (kf : (¬ x ≤ 0) → Ev M d r τ pc' ls st σ) : Ev M d r τ pc ls (.int x :: st) σ := by
  obtain ⟨h1, rfl⟩ := hd
  intro p l e R s m args below meth c D tc ad C H locs LS hP hS hl
  exact lv_if_le C.1 C.2.1 h1 ht (fun h => kt h p l e R s m args below meth c D tc ad C H locs LS hP hS hl) (fun h => kf h p l e R s m args below meth c D tc ad C H locs LS hP hS hl)
theorem Ev_icmp_eq {x y : Int32} {off : Int} {tgt : Nat} (hd : Dc M.2.1 pc (.if_icmp .eq off) 3 pc') (ht : (pc : Int) + off = (tgt : Int)) (kt : (x = y) → Ev M d r τ tgt ls st σ) (kf : (¬ x = y) → Ev M d r τ pc' ls st σ) : Ev M d r τ pc ls (.int y :: .int x :: st) σ := by
  obtain ⟨h1, rfl⟩ := hd
  intro p l e R s m args below meth c D tc ad C H locs LS hP hS hl
  exact lv_icmp_eq C.1 C.2.1 h1 ht (fun h => kt h p l e R s m args below meth c D tc ad C H locs LS hP hS hl) (fun h => kf h p l e R s m args below meth c D tc ad C H locs LS hP hS hl)
theorem Ev_icmp_ne {x y : Int32} {off : Int} {tgt : Nat} (hd : Dc M.2.1 pc (.if_icmp .ne off) 3 pc') (ht : (pc : Int) + off = (tgt : Int)) (kt : (¬ x = y) → Ev M d r τ tgt ls st σ) (kf : (x = y) → Ev M d r τ pc' ls st σ) : Ev M d r τ pc ls (.int y :: .int x :: st) σ := by
  obtain ⟨h1, rfl⟩ := hd
  intro p l e R s m args below meth c D tc ad C H locs LS hP hS hl
  exact lv_icmp_ne C.1 C.2.1 h1 ht (fun h => kt h p l e R s m args below meth c D tc ad C H locs LS hP hS hl) (fun h => kf h p l e R s m args below meth c D tc ad C H locs LS hP hS hl)
theorem Ev_icmp_lt {x y : Int32} {off : Int} {tgt : Nat} (hd : Dc M.2.1 pc (.if_icmp .lt off) 3 pc') (ht : (pc : Int) + off = (tgt : Int)) (kt : (x < y) → Ev M d r τ tgt ls st σ) (kf : (¬ x < y) → Ev M d r τ pc' ls st σ) : Ev M d r τ pc ls (.int y :: .int x :: st) σ := by
  obtain ⟨h1, rfl⟩ := hd
  intro p l e R s m args below meth c D tc ad C H locs LS hP hS hl
  exact lv_icmp_lt C.1 C.2.1 h1 ht (fun h => kt h p l e R s m args below meth c D tc ad C H locs LS hP hS hl) (fun h => kf h p l e R s m args below meth c D tc ad C H locs LS hP hS hl)
theorem Ev_icmp_ge {x y : Int32} {off : Int} {tgt : Nat} (hd : Dc M.2.1 pc (.if_icmp .ge off) 3 pc') (ht : (pc : Int) + off = (tgt : Int)) (kt : (y ≤ x) → Ev M d r τ tgt ls st σ) (kf : (¬ y ≤ x) → Ev M d r τ pc' ls st σ) : Ev M d r τ pc ls (.int y :: .int x :: st) σ := by
  obtain ⟨h1, rfl⟩ := hd
  intro p l e R s m args below meth c D tc ad C H locs LS hP hS hl
  exact lv_icmp_ge C.1 C.2.1 h1 ht (fun h => kt h p l e R s m args below meth c D tc ad C H locs LS hP hS hl) (fun h => kf h p l e R s m args below meth c D tc ad C H locs LS hP hS hl)
theorem Ev_icmp_gt {x y : Int32} {off : Int} {tgt : Nat} (hd : Dc M.2.1 pc (.if_icmp .gt off) 3 pc') (ht : (pc : Int) + off = (tgt : Int)) (kt : (y < x) → Ev M d r τ tgt ls st σ) (kf : (¬ y < x) → Ev M d r τ pc' ls st σ) : Ev M d r τ pc ls (.int y :: .int x :: st) σ := by
  obtain ⟨h1, rfl⟩ := hd
  intro p l e R s m args below meth c D tc ad C H locs LS hP hS hl
  exact lv_icmp_gt C.1 C.2.1 h1 ht (fun h => kt h p l e R s m args below meth c D tc ad C H locs LS hP hS hl) (fun h => kf h p l e R s m args below meth c D tc ad C H locs LS hP hS hl)
theorem Ev_icmp_le {x y : Int32} {off : Int} {tgt : Nat} (hd : Dc M.2.1 pc (.if_icmp .le off) 3 pc') (ht : (pc : Int) + off = (tgt : Int)) (kt : (x ≤ y) → Ev M d r τ tgt ls st σ) (kf : (¬ x ≤ y) → Ev M d r τ pc' ls st σ) : Ev M d r τ pc ls (.int y :: .int x :: st) σ := by
  obtain ⟨h1, rfl⟩ := hd
  intro p l e R s m args below meth c D tc ad C H locs LS hP hS hl
  exact lv_icmp_le C.1 C.2.1 h1 ht (fun h => kt h p l e R s m args below meth c D tc ad C H locs LS hP hS hl) (fun h => kf h p l e R s m args below meth c D tc ad C H locs LS hP hS hl)
theorem Ev_goto {off : Int} {tgt : Nat} (hd : Dc M.2.1 pc (.goto off) 3 pc') (ht : (pc : Int) + off = (tgt : Int)) (k : Ev M d r τ tgt ls st σ) : Ev M d r τ pc ls st σ := by
  obtain ⟨h1, rfl⟩ := hd
  intro p l e R s m args below meth c D tc ad C H locs LS hP hS hl
  exact lv_goto C.1 C.2.1 h1 ht (k p l e R s m args below meth c D tc ad C H locs LS hP hS hl)
theorem Ev_tblIn {dflt lo hi : Int} {offs : Array Int} {n : Nat} {x : Int32} {off : Int} {tgt : Nat} (hd : Dc M.2.1 pc (.tableswitch dflt lo hi offs) n pc') (h1 : ¬ x.toInt < lo) (h2 : ¬ hi < x.toInt) (ho : offs[(x.toInt - lo).toNat]? = some off) (ht : (pc : Int) + off = (tgt : Int)) (k : Ev M d r τ tgt ls st σ) : Ev M d r τ pc ls (.int x :: st) σ := by
  obtain ⟨hd1, rfl⟩ := hd
  intro p l e R s m args below meth c D tc ad C H locs LS hP hS hl
  exact lv_tableIn C.1 C.2.1 hd1 h1 h2 ho ht (k p l e R s m args below meth c D tc ad C H locs LS hP hS hl)
theorem Ev_tblOut {dflt lo hi : Int} {offs : Array Int} {n : Nat} {x : Int32} {tgt : Nat} (hd : Dc M.2.1 pc (.tableswitch dflt lo hi offs) n pc') (h1 : x.toInt < lo ∨ hi < x.toInt) (ht : (pc : Int) + dflt = (tgt : Int)) (k : Ev M d r τ tgt ls st σ) : Ev M d r τ pc ls (.int x :: st) σ := by
  obtain ⟨hd1, rfl⟩ := hd
  intro p l e R s m args below meth c D tc ad C H locs LS hP hS hl
  exact lv_tableOut C.1 C.2.1 hd1 h1 ht (k p l e R s m args below meth c D tc ad C H locs LS hP hS hl)
theorem Ev_nmI {x : Int32} (k : ∀ y : Int32, y = x → Ev M d r τ pc ls (.int y :: st) σ) : Ev M d r τ pc ls (.int x :: st) σ := k x rfl
theorem Ev_nmL {x : Int64} (k : ∀ y : Int64, y = x → Ev M d r τ pc ls (.long y :: st) σ) : Ev M d r τ pc ls (.long x :: st) σ := k x rfl
theorem Ev_nmS (k : ∀ y : Sg, y = σ → Ev M d r τ pc ls st y) : Ev M d r τ pc ls st σ := k σ rfl
theorem Ev_alen {kd n : Nat} (k : Nat) {v : Int32} (hd : Dc M.2.1 pc .arraylength 1 pc') (hs : SK[k]? = some (kd, [n])) (hk : kd = 100 ∨ kd = 101 ∨ kd = 102) (hv : Int32.ofNat n = v) (kk : Ev M d r τ pc' ls (.int v :: st) σ) : Ev M d r τ pc ls (.ref k :: st) σ := by
  obtain ⟨h1, rfl⟩ := hd
  intro p l e R s m args below meth c D tc ad C H locs LS hP hS hl
  have ha := wsO_at tc ad σ hs
  rcases hk with rfl | rfl | rfl
  · exact va_alen C.1 C.2.1 C.2.2.2.2.2.2.2.1 hP k 0 ha rfl hv h1 (kk p l e R s m args below meth c D tc ad C H locs LS hP hS hl)
  · exact va_alen C.1 C.2.1 C.2.2.2.2.2.2.2.1 hP k 1 ha rfl hv h1 (kk p l e R s m args below meth c D tc ad C H locs LS hP hS hl)
  · exact va_alen C.1 C.2.1 C.2.2.2.2.2.2.2.1 hP k 2 ha rfl hv h1 (kk p l e R s m args below meth c D tc ad C H locs LS hP hS hl)
theorem Ev_iaload {n : Nat} (k : Nat) {i : Int32} (hd : Dc M.2.1 pc .iaload 1 pc') (hs : SK[k]? = some (100, [n])) (hin : inB i n = true) (kk : Ev M d r τ pc' ls (.int (gI σ k i.toNatClampNeg) :: st) σ) : Ev M d r τ pc ls (.int i :: .ref k :: st) σ := by
  obtain ⟨h1, rfl⟩ := hd
  intro p l e R s m args below meth c D tc ad C H locs LS hP hS hl
  exact va_iald C.1 C.2.1 C.2.2.2.2.2.2.2.1 hP k 0 (wsO_at tc ad σ hs) rfl (inB_vp hin) h1 (kk p l e R s m args below meth c D tc ad C H locs LS hP hS hl)
theorem Ev_baload {n : Nat} (k : Nat) {i : Int32} (hd : Dc M.2.1 pc .baload 1 pc') (hs : SK[k]? = some (101, [n])) (hin : inB i n = true) (kk : Ev M d r τ pc' ls (.int (gI σ k i.toNatClampNeg) :: st) σ) : Ev M d r τ pc ls (.int i :: .ref k :: st) σ := by
  obtain ⟨h1, rfl⟩ := hd
  intro p l e R s m args below meth c D tc ad C H locs LS hP hS hl
  exact va_zald C.1 C.2.1 C.2.2.2.2.2.2.2.1 hP k 1 (wsO_at tc ad σ hs) rfl (inB_vp hin) h1 (kk p l e R s m args below meth c D tc ad C H locs LS hP hS hl)
theorem Ev_laload {n : Nat} (k : Nat) {i : Int32} (hd : Dc M.2.1 pc .laload 1 pc') (hs : SK[k]? = some (102, [n])) (hin : inB i n = true) (kk : Ev M d r τ pc' ls (.long (gL σ k i.toNatClampNeg) :: st) σ) : Ev M d r τ pc ls (.int i :: .ref k :: st) σ := by
  obtain ⟨h1, rfl⟩ := hd
  intro p l e R s m args below meth c D tc ad C H locs LS hP hS hl
  exact va_lald C.1 C.2.1 C.2.2.2.2.2.2.2.1 hP k 2 (wsO_at tc ad σ hs) rfl (inB_vp hin) h1 (kk p l e R s m args below meth c D tc ad C H locs LS hP hS hl)
theorem pI_row (σ : Sg) (k i : Nat) (x : Int32) : gI (pI σ k i x) k = upd (gI σ k) i x := by
  funext j; simp only [gI_pI, upd, true_and]
theorem pL_row (σ : Sg) (k i : Nat) (x : Int64) : gL (pL σ k i x) k = vp_updL (gL σ k) i x := by
  funext j; simp only [gL_pL, vp_updL, true_and]
theorem pI_off (σ : Sg) (k i : Nat) (x : Int32) : ∀ j, j ≠ k → gI (pI σ k i x) j = gI σ j ∧ gL (pI σ k i x) j = gL σ j ∧ gR (pI σ k i x) j = gR σ j := fun j hj => ⟨by funext a; simp [gI_pI, hj], rfl, rfl⟩
theorem pL_off (σ : Sg) (k i : Nat) (x : Int64) : ∀ j, j ≠ k → gI (pL σ k i x) j = gI σ j ∧ gL (pL σ k i x) j = gL σ j ∧ gR (pL σ k i x) j = gR σ j := fun j hj => ⟨rfl, by funext a; simp [gL_pL, hj], rfl⟩
theorem pR_off (σ : Sg) (k i : Nat) (x : Nat) : ∀ j, j ≠ k → gI (pR σ k i x) j = gI σ j ∧ gL (pR σ k i x) j = gL σ j ∧ gR (pR σ k i x) j = gR σ j := fun j hj => ⟨rfl, rfl, by funext a; simp [gR_pR, hj]⟩
theorem Ev_iastore {n : Nat} (k : Nat) {i : Int32} {x : Int32} (hd : Dc M.2.1 pc .iastore 1 pc') (hs : SK[k]? = some (100, [n])) (hin : inB i n = true) (kk : Ev M d r τ pc' ls st (pI σ k i.toNatClampNeg x)) : Ev M d r τ pc ls (.int x :: .int i :: .ref k :: st) σ := by
  obtain ⟨h1, rfl⟩ := hd
  intro p l e R s m args below meth c D tc ad C H locs LS hP hS hl
  refine va_iast C.1 C.2.1 C.2.2.2.2.2.2.2.1 hP (wsO_D tc C.2.2.2.2.2.2.2.2.2.1 σ) hS k 0 (wsO_at tc ad σ hs) rfl (inB_vp hin) h1 (fun H1 locs1 hP1 _ hS1 => ?_)
  rw [wsO_set (τ := pI σ k i.toNatClampNeg x) hs (by show _ = (Sum.inl (tc 0, n, Sum.inl (gI (pI σ k i.toNatClampNeg x) k)) : va_E); rw [pI_row]; rfl) (pI_off σ k _ _)] at hP1
  exact kk p l e R s m args below meth c D tc ad C H1 locs1 LS hP1 hS1 hl
theorem Ev_bastore {n : Nat} (k : Nat) {i : Int32} {x : Int32} (hd : Dc M.2.1 pc .bastore 1 pc') (hs : SK[k]? = some (101, [n])) (hin : inB i n = true) (kk : Ev M d r τ pc' ls st (pI σ k i.toNatClampNeg (x &&& 1))) : Ev M d r τ pc ls (.int x :: .int i :: .ref k :: st) σ := by
  obtain ⟨h1, rfl⟩ := hd
  intro p l e R s m args below meth c D tc ad C H locs LS hP hS hl
  refine va_zast C.1 C.2.1 C.2.2.2.2.2.2.2.1 hP (wsO_D tc C.2.2.2.2.2.2.2.2.2.1 σ) hS k 1 (wsO_at tc ad σ hs) rfl (inB_vp hin) h1 (fun H1 locs1 hP1 _ hS1 => ?_)
  rw [wsO_set (τ := pI σ k i.toNatClampNeg (x &&& 1)) hs (by show _ = (Sum.inl (tc 1, n, Sum.inl (gI (pI σ k i.toNatClampNeg (x &&& 1)) k)) : va_E); rw [pI_row]; rfl) (pI_off σ k _ _)] at hP1
  exact kk p l e R s m args below meth c D tc ad C H1 locs1 LS hP1 hS1 hl
theorem Ev_lastore {n : Nat} (k : Nat) {i : Int32} {x : Int64} (hd : Dc M.2.1 pc .lastore 1 pc') (hs : SK[k]? = some (102, [n])) (hin : inB i n = true) (kk : Ev M d r τ pc' ls st (pL σ k i.toNatClampNeg x)) : Ev M d r τ pc ls (.long x :: .int i :: .ref k :: st) σ := by
  obtain ⟨h1, rfl⟩ := hd
  intro p l e R s m args below meth c D tc ad C H locs LS hP hS hl
  refine va_last C.1 C.2.1 C.2.2.2.2.2.2.2.1 hP (wsO_D tc C.2.2.2.2.2.2.2.2.2.1 σ) hS k 2 (wsO_at tc ad σ hs) rfl (inB_vp hin) h1 (fun H1 locs1 hP1 _ hS1 => ?_)
  rw [wsO_set (τ := pL σ k i.toNatClampNeg x) hs (by show _ = (Sum.inl (tc 2, n, Sum.inr (Sum.inl (gL (pL σ k i.toNatClampNeg x) k))) : va_E); rw [pL_row]; rfl) (pL_off σ k _ _)] at hP1
  exact kk p l e R s m args below meth c D tc ad C H1 locs1 LS hP1 hS1 hl
/-- entry ix of own's pool is field i of class ci -/
def FF (own : String) (ix ci i : Nat) : Prop := ∃ (C : String) (T : u_T) (N : Nat) (ty0 : Nat → FieldType), vwCl[ci]? = some (C, T, N) ∧ i < N ∧ (∀ w ∈ u_ws C T N, w ∈ tbl) ∧ (T i).1 = C ∧ (Cond.fieldLink own ix C (T i).2.1 (T i).2.2.1 ∈ tbl ∨ ∃ host, Cond.fieldLinkNest own ix C (T i).2.1 (T i).2.2.1 host ∈ nst) ∧ (∀ k, k < N → parseFieldDescriptor (T k).2.2.1 = some (ty0 k)) ∧ (∀ a, a < N → ∀ b, b < N → a ≠ b → (T a).2.1 ≠ (T b).2.1)
/-- it isn't final, its type is ty -/
def FW (ci i : Nat) (ty : FieldType) : Prop := ∃ q, vwCl[ci]? = some q ∧ (q.2.1 i).2.2.2 = false ∧ parseFieldDescriptor (q.2.1 i).2.2.1 = some ty
theorem ent_obj {tc : Nat → ClassId} {ad : Nat → Nat} {σ : Sg} {k ci : Nat} {fl : List Nat} (h : ci < 100) : ent tc ad σ k (ci, fl) = .inr (ci, fl.mapIdx (fun i c => cv ad (aval σ k i c))) := by
  unfold ent
  split <;> first | rfl | (exfalso; simp only at *; omega)
theorem Ev_get {k ci i c0 ix : Nat} {fl : List Nat} {v : Value} (hd : Dc M.2.1 pc (.getfield ix) 3 pc') (hf : FF M.1.cls ix ci i) (hs : SK[k]? = some (ci, fl)) (hi : fl[i]? = some c0) (hv : aval σ k i c0 = v) (kk : Ev M d r τ pc' ls (v :: st) σ) : Ev M d r τ pc ls (.ref k :: st) σ := by
  obtain ⟨h1, rfl⟩ := hd
  obtain ⟨C1, T, N, ty0, g1, g2, g3, g4, g5, g6, g7⟩ := hf
  intro p l e R s m args below meth c D tc ad C H locs LS hP hS hl
  have hci : ci < 100 := Nat.lt_of_lt_of_le (List.getElem?_eq_some_iff.mp g1).1 (by decide)
  have ha := wsO_at tc ad σ hs
  rw [ent_obj hci] at ha
  have hfv : (fl.mapIdx (fun i c => cv ad (aval σ k i c)))[i]? = some (cv ad v) := by rw [List.getElem?_mapIdx, hi, ← hv]; rfl
  have hown := C.2.2.2.2.2.1
  have hK := C.2.2.2.2.2.2.2.1
  rcases g5 with g5 | ⟨host, g5⟩
  · exact va_get C.1 C.2.1 C.2.2.2.2.1 g3 hown hK hP k ha g1 i g2 (C.2.2.2.2.1 _ g5) (fun x hx => by rw [g4] at hx; exact hx) hfv h1 (kk p l e R s m args below meth c D tc ad C H locs LS hP hS hl)
  · exact va_getN C.1 C.2.1 C.2.2.2.2.1 g3 hown hK hP k ha g1 i g2 (va_Nw.use rfl (C.2.2.2.2.2.2.2.2.1 _ g5)) (fun x hx => by rw [g4] at hx; exact hx) hfv h1 (kk p l e R s m args below meth c D tc ad C H locs LS hP hS hl)
theorem mapIdx_set {fl : List Nat} {f g : Nat → Nat → Value} {i : Nat} {v : Value} {c0 : Nat} (hi : fl[i]? = some c0) (hv : g i c0 = v) (h : ∀ j c, j ≠ i → g j c = f j c) : (fl.mapIdx f).set i v = fl.mapIdx g := by
  apply List.ext_getElem?
  intro j
  by_cases hj : j = i
  · subst hj
    rw [List.getElem?_set_self (by rw [List.length_mapIdx]; exact (List.getElem?_eq_some_iff.mp hi).1), List.getElem?_mapIdx, hi, ← hv]; rfl
  · rw [List.getElem?_set_ne (Ne.symm hj), List.getElem?_mapIdx, List.getElem?_mapIdx]
    cases fl[j]? with
    | none => rfl
    | some c => simp only [Option.map_some, h j c hj]
theorem put_row {k i : Nat} {σ τ : Sg} (h1 : ∀ j, j ≠ i → gI τ k j = gI σ k j) (h2 : ∀ j, j ≠ i → gL τ k j = gL σ k j) (h3 : ∀ j, j ≠ i → gR τ k j = gR σ k j) (ad : Nat → Nat) : ∀ j c, j ≠ i → cv ad (aval τ k j c) = cv ad (aval σ k j c) := by
  intro j c hj
  unfold aval
  split
  · rw [h1 j hj]
  · rw [h2 j hj]
  · rw [h3 j hj]
  · rfl
theorem put_any {k ci i c0 ix : Nat} {fl : List Nat} {v : Value} {ty : FieldType} (σ' : Sg) (hd : Dc M.2.1 pc (.putfield ix) 3 pc') (hf : FF M.1.cls ix ci i) (hw : FW ci i ty) (hs : SK[k]? = some (ci, fl)) (hi : fl[i]? = some c0) (hn : ∀ ad, narrow ty (cv ad v) = cv ad v) (hfit : ∀ ad, fits ty (cv ad v) = true) (hv : aval σ' k i c0 = v) (hrow : (∀ j, j ≠ i → gI σ' k j = gI σ k j) ∧ (∀ j, j ≠ i → gL σ' k j = gL σ k j) ∧ (∀ j, j ≠ i → gR σ' k j = gR σ k j)) (hoff : ∀ j, j ≠ k → gI σ' j = gI σ j ∧ gL σ' j = gL σ j ∧ gR σ' j = gR σ j) (kk : Ev M d r τ pc' ls st σ') : Ev M d r τ pc ls (v :: .ref k :: st) σ := by
  obtain ⟨h1, rfl⟩ := hd
  obtain ⟨C1, T, N, ty0, g1, g2, g3, g4, g5, g6, g7⟩ := hf
  obtain ⟨q, w1, w2, w3⟩ := hw
  rw [g1] at w1; cases w1
  intro p l e R s m args below meth c D tc ad C H locs LS hP hS hl
  have hci : ci < 100 := Nat.lt_of_lt_of_le (List.getElem?_eq_some_iff.mp g1).1 (by decide)
  have ha := wsO_at tc ad σ hs
  rw [ent_obj hci] at ha
  have hlen : i < (fl.mapIdx (fun i c => cv ad (aval σ k i c))).length := by rw [List.length_mapIdx]; exact (List.getElem?_eq_some_iff.mp hi).1
  have hset : (wsO tc ad σ).set k (ad k, .inr (ci, (fl.mapIdx (fun i c => cv ad (aval σ k i c))).set i (cv ad v))) = wsO tc ad σ' := by
    refine wsO_set hs ?_ hoff
    rw [ent_obj hci, mapIdx_set hi (by rw [hv]) (put_row hrow.1 hrow.2.1 hrow.2.2 ad)]
  have hown := C.2.2.2.2.2.1
  have hK := C.2.2.2.2.2.2.2.1
  have hD := wsO_D tc C.2.2.2.2.2.2.2.2.2.1 σ
  rcases g5 with g5 | ⟨host, g5⟩
  · refine va_put C.1 C.2.1 C.2.2.2.2.1 g3 ty0 g6 g7 hown hK hP hD hS k ha g1 i g2 (C.2.2.2.2.1 _ g5) (fun x hx => by rw [g4] at hx; exact hx) w2 w3 (hn ad) (hfit ad) hlen h1 (fun H1 locs1 hP1 _ hS1 => ?_)
    rw [hset] at hP1
    exact kk p l e R s m args below meth c D tc ad C H1 locs1 LS hP1 hS1 hl
  · refine va_putN C.1 C.2.1 C.2.2.2.2.1 g3 ty0 g6 g7 hown hK hP hD hS k ha g1 i g2 (va_Nw.use rfl (C.2.2.2.2.2.2.2.2.1 _ g5)) (fun x hx => by rw [g4] at hx; exact hx) w2 w3 (hn ad) (hfit ad) hlen h1 (fun H1 locs1 hP1 _ hS1 => ?_)
    rw [hset] at hP1
    exact kk p l e R s m args below meth c D tc ad C H1 locs1 LS hP1 hS1 hl
theorem Ev_putI {k ci i ix : Nat} {fl : List Nat} {x : Int32} (hd : Dc M.2.1 pc (.putfield ix) 3 pc') (hf : FF M.1.cls ix ci i) (hw : FW ci i .int) (hs : SK[k]? = some (ci, fl)) (hi : fl[i]? = some 0) (kk : Ev M d r τ pc' ls st (pI σ k i x)) : Ev M d r τ pc ls (.int x :: .ref k :: st) σ :=
  put_any (pI σ k i x) hd hf hw hs hi (fun _ => rfl) (fun _ => rfl) (by simp only [aval, gI_pI, and_self, if_true]) ⟨fun j hj => by simp [gI_pI, hj], fun _ _ => rfl, fun _ _ => rfl⟩ (pI_off σ k i x) kk
theorem Ev_putZ {k ci i ix : Nat} {fl : List Nat} {x : Int32} (hx : x = 0 ∨ x = 1) (hd : Dc M.2.1 pc (.putfield ix) 3 pc') (hf : FF M.1.cls ix ci i) (hw : FW ci i .boolean) (hs : SK[k]? = some (ci, fl)) (hi : fl[i]? = some 0) (kk : Ev M d r τ pc' ls st (pI σ k i x)) : Ev M d r τ pc ls (.int x :: .ref k :: st) σ :=
  put_any (pI σ k i x) hd hf hw hs hi (fun _ => by rcases hx with rfl | rfl <;> rfl) (fun _ => by rcases hx with rfl | rfl <;> rfl) (by simp only [aval, gI_pI, and_self, if_true]) ⟨fun j hj => by simp [gI_pI, hj], fun _ _ => rfl, fun _ _ => rfl⟩ (pI_off σ k i x) kk
theorem Ev_putL {k ci i ix : Nat} {fl : List Nat} {x : Int64} (hd : Dc M.2.1 pc (.putfield ix) 3 pc') (hf : FF M.1.cls ix ci i) (hw : FW ci i .long) (hs : SK[k]? = some (ci, fl)) (hi : fl[i]? = some 1) (kk : Ev M d r τ pc' ls st (pL σ k i x)) : Ev M d r τ pc ls (.long x :: .ref k :: st) σ :=
  put_any (pL σ k i x) hd hf hw hs hi (fun _ => rfl) (fun _ => rfl) (by simp only [aval, gL_pL, and_self, if_true]) ⟨fun _ _ => rfl, fun j hj => by simp [gL_pL, hj], fun _ _ => rfl⟩ (pL_off σ k i x) kk
theorem Ev_putR {k ci i ix : Nat} {fl : List Nat} {x : Nat} (hd : Dc M.2.1 pc (.putfield ix) 3 pc') (hf : FF M.1.cls ix ci i) (hw : FW ci i (.array .int)) (hs : SK[k]? = some (ci, fl)) (hi : fl[i]? = some 2) (kk : Ev M d r τ pc' ls st (pR σ k i x)) : Ev M d r τ pc ls (.ref x :: .ref k :: st) σ :=
  put_any (pR σ k i x) hd hf hw hs hi (fun _ => rfl) (fun _ => rfl) (by simp only [aval, gR_pR, and_self, if_true]) ⟨fun _ _ => rfl, fun _ _ => rfl, fun j hj => by simp [gR_pR, hj]⟩ (pR_off σ k i x) kk
theorem Ev_aaload {t kd : Nat} {cs : List Nat} {c1 : Nat} (k : Nat) {i : Int32} (hd : Dc M.2.1 pc .aaload 1 pc') (hs : SK[k]? = some (kd, cs)) (hk : kd = 103 ∨ kd = 104) (hin : inB i cs.length = true) (hc : cs[i.toNatClampNeg]? = some c1) (kk : Ev M d r τ pc' ls (.ref c1 :: st) σ) : Ev M d r τ pc ls (.int i :: .ref k :: st) σ := by
  obtain ⟨h1, rfl⟩ := hd
  intro p l e R s m args below meth c D tc ad C H locs LS hP hS hl
  have ha := wsO_at tc ad σ hs
  have kk := kk p l e R s m args below meth c D tc ad C H locs LS hP hS hl
  rcases hk with rfl | rfl
  · refine va_aldq C.1 C.2.1 C.2.2.2.2.2.2.2.1 hP k 3 ha rfl (inB_vp hin) h1 ?_
    simp only [hc, Option.map_some]
    exact kk
  · refine va_aldq C.1 C.2.1 C.2.2.2.2.2.2.2.1 hP k 4 ha rfl (inB_vp hin) h1 ?_
    simp only [hc, Option.map_some]
    exact kk
theorem Qo_of {D : va_G} {tc : Nat → ClassId} {ad : Nat → Nat} {s t : State} {args : Array Value} {v : Option Value} {τ : Sg} {H : Heap} {locs : List Loc} (hP : va_P D vwCl (wsO tc ad τ) H) (hS : va_S (Ao ad) s.heap H locs) (ht : t.heap = H) : Qo D tc ad v τ args s (.returned (v.map (cv ad))) t := ⟨rfl, by rw [ht]; exact hP, hS.F ht⟩
theorem Ev_iret {v x : Int32} (hd : Dc M.2.1 pc .ireturn 1 pc') (hr : M.2.2.2 = some .int) (h : some (v, σ) = some (x, τ)) : Ev M d (some (.int x)) τ pc ls [.int v] σ := by
  cases h
  obtain ⟨h1, rfl⟩ := hd
  intro p l e R s m args below meth c D tc ad C H locs LS hP hS hl
  exact W.iret C.1 C.2.1 (C.2.2.2.1.trans hr) (fun t ht _ => Qo_of (v := some (.int v)) hP hS ht) hS.2.2 h1 C.2.2.2.2.2.2.1
theorem Ev_zret {v x : Int32} (hd : Dc M.2.1 pc .ireturn 1 pc') (hr : M.2.2.2 = some .boolean) (hz : v &&& 1 = v) (h : some (v, σ) = some (x, τ)) : Ev M d (some (.int x)) τ pc ls [.int v] σ := by
  cases h
  obtain ⟨h1, rfl⟩ := hd
  intro p l e R s m args below meth c D tc ad C H locs LS hP hS hl
  exact W.zret (ty := .boolean) C.1 C.2.1 (C.2.2.2.1.trans hr) (by show Value.int (v &&& 1) = Value.int v; rw [hz]) (fun t ht _ => Qo_of (v := some (.int v)) hP hS ht) hS.2.2 h1 C.2.2.2.2.2.2.1
theorem Ev_lret {v x : Int64} (hd : Dc M.2.1 pc .lreturn 1 pc') (hr : M.2.2.2 = some .long) (h : some (v, σ) = some (x, τ)) : Ev M d (some (.long x)) τ pc ls [.long v] σ := by
  cases h
  obtain ⟨h1, rfl⟩ := hd
  intro p l e R s m args below meth c D tc ad C H locs LS hP hS hl
  exact W.lret C.1 C.2.1 (C.2.2.2.1.trans hr) (fun t ht _ => Qo_of (v := some (.long v)) hP hS ht) hS.2.2 h1 C.2.2.2.2.2.2.1
theorem Ev_vret (hd : Dc M.2.1 pc .return_ 1 pc') (hr : M.2.2.2 = none) (h : some σ = some τ) : Ev M d none τ pc ls [] σ := by
  cases h
  obtain ⟨h1, rfl⟩ := hd
  intro p l e R s m args below meth c D tc ad C H locs LS hP hS hl
  exact W.vret C.1 C.2.1 (C.2.2.2.1.trans hr) (fun t ht _ => Qo_of (v := none) hP hS ht) hS.2.2 h1 C.2.2.2.2.2.2.1
end EVR
end
section
/-! CALLS over Ev: what the tables say of a call (CF..), and the rows -/
def CFn (Z : MI) (n : Nat) : Prop := codeW Z ∈ tbl ∧ Cond.initialized Z.1.cls ∈ tbl ∧ Z.2.2.1 ≤ 26 ∧ (Z.1.cls ≠ "java/lang/invoke/MethodHandle" ∧ Z.1.cls ≠ "java/lang/invoke/VarHandle" ∧ (parseMethodDescriptor Z.1.desc).map (fun d => d.parameters.length) = some n)
def CFV (own : String) (ix : Nat) (Z : MI) (n : Nat) : Prop := CFn Z n ∧ (Cond.methodLink own ix Z.1 ∈ tbl ∨ ∃ host, Cond.methodLinkNest own ix Z.1 host ∈ nst) ∧ Cond.instanceMethod Z.1 ∈ tbl ∧ Cond.selects Z.1.cls Z.1 Z.1 ∈ tbl
def CFS (own : String) (ix : Nat) (Z : MI) (n : Nat) : Prop := CFn Z n ∧ (Cond.methodLink own ix Z.1 ∈ tbl ∨ ∃ host, Cond.methodLinkNest own ix Z.1 host ∈ nst) ∧ Cond.static Z.1 ∈ tbl
/-- the receiver is a C, the named method x, declared in x's own class; Z is run -/
def CFO (own : String) (ix : Nat) (C : String) (x : MethodName) (Z : MI) (n : Nat) : Prop := CFn Z n ∧ Cond.methodLink own ix x ∈ tbl ∧ Cond.sameMethod x.cls x.cls x.name x.desc ∈ tbl ∧ Cond.instanceMethod x ∈ tbl ∧ Cond.selects C x Z.1 ∈ tbl ∧ Cond.instanceMethod Z.1 ∈ tbl ∧ (∃ b0 m0 r0, Cond.code x b0 m0 r0 ∈ tbl) ∧ (x.cls ≠ "java/lang/invoke/MethodHandle" ∧ x.cls ≠ "java/lang/invoke/VarHandle" ∧ (parseMethodDescriptor x.desc).map (fun d => d.parameters.length) = some n)
/-- the receiver is a C, the named method x is inherited from the class of Z -/
def CFU (own : String) (ix : Nat) (C : String) (x : MethodName) (Z : MI) (n : Nat) : Prop := CFn Z n ∧ Cond.methodLink own ix x ∈ tbl ∧ Cond.sameMethod x.cls Z.1.cls x.name x.desc ∈ tbl ∧ Cond.selects C x Z.1 ∈ tbl ∧ Cond.instanceMethod Z.1 ∈ tbl ∧ Z.1 = ⟨Z.1.cls, x.name, x.desc⟩ ∧ (parseMethodDescriptor x.desc).map (fun d => d.parameters.length) = some n
theorem rm_ok {dz d m : Nat} (h : dz < d) (hm : m ≤ 26) : (rmd dz).frames + 1 ≤ (rmd d).frames ∧ 8 + (m + 11) + (rmd dz).locals ≤ (rmd d).locals := by
  show dz + 1 ≤ d ∧ 8 + (m + 11) + 45 * dz ≤ 45 * d
  omega
theorem Po_blind {D : va_G} {tc : Nat → ClassId} {ad : Nat → Nat} {av : List Value} {σ : Sg} : FrameBlind (Po D tc ad av σ) := fun a U g mk q => ⟨q.1, q.2.1, va_K.moved (u := U) (U := U.calling g mk a) (Vm.Alike.refl U.vm) q.2.2.1, nst_same (u := U) (U := U.calling g mk a) rfl q.2.2.2⟩
theorem Po_now {D : va_G} {tc : Nat → ClassId} {ad : Nat → Nat} {av : List Value} {σ : Sg} {s : State} {H : Heap} (hP : va_P D vwCl (wsO tc ad σ) H) (hK : va_K D vwCl (tysO tc) s) (hN : ∀ w ∈ nst, va_Nw w s) : ∀ U : State, U.heap = H → s.WarmedH U.vm → Po D tc ad av σ (av.map (cv ad)).toArray U := fun U hU hW => ⟨rfl, by rw [hU]; exact hP, va_K.moved hW.alike hK, nst_warm hW hN⟩
theorem cat_cv (ad : Nat → Nat) (st : List Value) : ((st.map (cv ad)).map fun v => v.category).sum = (st.map fun v => v.category).sum := by
  rw [List.map_map]
  congr 1
  apply List.map_congr_left
  intro v _
  exact cv_cat ad v
section EVC
variable {M Z : MI} {d dz n ix : Nat} {r r1 : Option Value} {τ σ σ1 : Sg} {pc pc' : Nat} {ls : List (Nat × Value)} {st stk st' : List Value} {As : List Value}
theorem W_back {p : Program} {l : Launch} {e : Env} {R : Room} {s : State} {m : MethodId} {args : Array Value} {below : List Frame} {meth : Method} {c : Code} {D : va_G} {tc : Nat → ClassId} {ad : Nat → Nat} {H : Heap} {locs : List Loc} {LS : Array Slot} {ST REST : List Value} {a : Array Value} {Q : State → Prop}
    (hr : va_Run p l e R s m args below meth c H locs 0 0 0 0 (F0 m pc LS ST) REST (Qo D tc ad r1 σ1 a) (Ao ad)) (hS : va_S (Ao ad) s.heap H locs)
    (kk : ∀ (H1 : Heap) (locs1 : List Loc), va_P D vwCl (wsO tc ad σ1) H1 → va_S (Ao ad) s.heap H1 locs1 → W p l e R s m args below meth c H1 locs1 0 0 Q (F0 m (pc + 3) LS ((r1.map (cv ad)).toList ++ REST))) : W p l e R s m args below meth c H locs 0 0 Q (F0 m pc LS ST) := by
  intro T hT X
  obtain ⟨v, st₀, t, T', L, h0, X', hL, e1, e2, ⟨hv, hP, hz, hk⟩, stp⟩ := hr T hT X
  cases hv
  rw [h0] at hz hk
  have hS1 : va_S (Ao ad) s.heap T'.heap (locs ++ L) := ⟨Nat.le_trans hS.1 (by rw [e1]; exact hz), fun q h1 h2 => by rw [e1, hk q (Nat.lt_of_lt_of_le h1 hS.1) h2]; exact hS.2.1 q h1 h2, fun q hq => by
      rcases List.mem_append.mp hq with h | h
      · exact hS.2.2 q h
      · exact hL q h⟩
  obtain ⟨t2, a1, b1⟩ := kk T'.heap (locs ++ L) (by rw [e1]; exact hP) hS1 T' rfl X'
  exact ⟨t2, stp t2 a1, b1⟩
theorem Ev_callV {k ci : Nat} {fl : List Nat} (As : List Value) (hd : Dc M.2.1 pc (.invokevirtual ix) 3 pc') (cf : CFV M.1.cls ix Z n) (hz : Cal Z dz (.ref k :: As) σ r1 σ1) (hlt : dz < d) (hs : SK[k]? = some (ci, fl)) (hc : (vwCl[ci]?).map (fun q => q.1) = some Z.1.cls) (hn : As.length = n) (hst : stk = As.reverse ++ .ref k :: st) (hroom : (st.map fun v => v.category).sum ≤ 8) (hst' : r1.toList ++ st = st') (kk : Ev M d r τ pc' ls st' σ1) : Ev M d r τ pc ls stk σ := by
  obtain ⟨h1, rfl⟩ := hd
  subst hst; subst hst'
  obtain ⟨⟨f1, f2, f3, f4⟩, f5, f6, f7⟩ := cf
  intro p l e R s m args below meth c D tc ad C H locs LS hP hS hl
  obtain ⟨C1, C2, C3, C4, C5, C6, C7, C8, C9, C10, rfl⟩ := C
  have hwz := wz_tbl f1
  have ha := wsO_at tc ad σ hs
  cases hv : vwCl[ci]? with
  | none => rw [hv] at hc; cases hc
  | some q =>
  rw [hv] at hc
  have hci : ci < 100 := Nat.lt_of_lt_of_le (List.getElem?_eq_some_iff.mp hv).1 (by decide)
  rw [ent_obj hci] at ha
  have hrecv := va_recv C8 hP hv ha
  have hc2 : q.1 = _ := Option.some.inj hc
  rw [hc2] at hrecv
  have hstk : (As.reverse ++ .ref k :: st).map (cv ad) = (As.map (cv ad)).reverse ++ .ref (ad k) :: st.map (cv ad) := by rw [List.map_append, List.map_reverse]; rfl
  rw [hstk]
  refine W_back (σ1 := σ1) (r1 := r1) (REST := st.map (cv ad)) (a := ((.ref k :: As).map (cv ad)).toArray) (D := D) (tc := tc) (ad := ad) ?_ hS (fun H1 locs1 hP1 hS1 => ?_)
  · rcases f5 with f5 | ⟨host, f5⟩
    · exact va_runV (b := ad k) (As := As.map (cv ad)) (rest := st.map (cv ad)) ⟨C1, C2, C3, C6, C5⟩ (hz l D tc ad C10) (cwV n C5 (goodT (fun _ h => h) (fun w hw => by
          rcases List.mem_append.mp hw with hw | hw
          · simp only [List.mem_cons, List.not_mem_nil, or_false] at hw
            rcases hw with rfl | rfl | rfl | rfl
            · exact f5
            · exact f6
            · exact f7
            · exact f2
          · exact hwz w hw)) rfl rfl rfl ⟨rfl, f4⟩ (rm_ok hlt f3)) ⟨Po_blind, hrecv, Po_now (av := .ref k :: As) hP C8 C9⟩ rfl (by rw [List.length_map]; exact hn) hl.1 rfl (lv_room (by rw [cat_cv]; exact hroom)) h1 ⟨Nat.zero_le _, Nat.zero_le _⟩
    · exact va_runVN (b := ad k) (As := As.map (cv ad)) (rest := st.map (cv ad)) ⟨C1, C2, C3, C6, C5⟩ (hz l D tc ad C10) ⟨va_cnB n C5 (goodT (fun _ h => h) hwz) rfl rfl rfl (C9 _ f5) (C5 _ f2) f4 (rm_ok hlt f3), C5 _ f6, C5 _ f7⟩ ⟨Po_blind, hrecv, Po_now (av := .ref k :: As) hP C8 C9⟩ rfl (by rw [List.length_map]; exact hn) hl.1 rfl (lv_room (by rw [cat_cv]; exact hroom)) h1 ⟨Nat.zero_le _, Nat.zero_le _⟩
  · have hk := kk p l e _ s m args below meth c D tc ad ⟨C1, C2, C3, C4, C5, C6, C7, C8, C9, C10, rfl⟩ H1 locs1 LS hP1 hS1 hl
    rw [List.map_append] at hk
    cases r1 <;> exact hk
theorem Ev_callS (As : List Value) (hd : Dc M.2.1 pc (.invokestatic ix) 3 pc') (cf : CFS M.1.cls ix Z n) (hz : Cal Z dz As σ r1 σ1) (hlt : dz < d) (hn : As.length = n) (hst : stk = As.reverse ++ st) (hroom : (st.map fun v => v.category).sum ≤ 8) (hst' : r1.toList ++ st = st') (kk : Ev M d r τ pc' ls st' σ1) : Ev M d r τ pc ls stk σ := by
  obtain ⟨h1, rfl⟩ := hd
  subst hst; subst hst'
  obtain ⟨⟨f1, f2, f3, f4⟩, f5, f6⟩ := cf
  intro p l e R s m args below meth c D tc ad C H locs LS hP hS hl
  obtain ⟨C1, C2, C3, C4, C5, C6, C7, C8, C9, C10, rfl⟩ := C
  have hwz := wz_tbl f1
  have hstk : (As.reverse ++ st).map (cv ad) = (As.map (cv ad)).reverse ++ st.map (cv ad) := by rw [List.map_append, List.map_reverse]
  rw [hstk]
  refine W_back (σ1 := σ1) (r1 := r1) (REST := st.map (cv ad)) (a := (As.map (cv ad)).toArray) (D := D) (tc := tc) (ad := ad) ?_ hS (fun H1 locs1 hP1 hS1 => ?_)
  · rcases f5 with f5 | ⟨host, f5⟩
    · exact va_runS (As := As.map (cv ad)) (rest := st.map (cv ad)) ⟨C1, C2, C3, C6, C5⟩ (hz l D tc ad C10) (va_cwS n C5 (goodT (fun _ h => h) (fun w hw => by
          rcases List.mem_append.mp hw with hw | hw
          · simp only [List.mem_cons, List.not_mem_nil, or_false] at hw
            rcases hw with rfl | rfl | rfl
            · exact f5
            · exact f6
            · exact f2
          · exact hwz w hw)) rfl rfl rfl f4 (rm_ok hlt f3)) ⟨Po_blind, Po_now (av := As) hP C8 C9⟩ rfl (by rw [List.length_map]; exact hn) hl.1 rfl (lv_room (by rw [cat_cv]; exact hroom)) h1 ⟨Nat.zero_le _, Nat.zero_le _⟩
    · exact va_runSN (As := As.map (cv ad)) (rest := st.map (cv ad)) ⟨C1, C2, C3, C6, C5⟩ (hz l D tc ad C10) ⟨va_cnB n C5 (goodT (fun _ h => h) hwz) rfl rfl rfl (C9 _ f5) (C5 _ f2) f4 (rm_ok hlt f3), C5 _ f6, trivial⟩ ⟨Po_blind, Po_now (av := As) hP C8 C9⟩ rfl (by rw [List.length_map]; exact hn) hl.1 rfl (lv_room (by rw [cat_cv]; exact hroom)) h1 ⟨Nat.zero_le _, Nat.zero_le _⟩
  · have hk := kk p l e _ s m args below meth c D tc ad ⟨C1, C2, C3, C4, C5, C6, C7, C8, C9, C10, rfl⟩ H1 locs1 LS hP1 hS1 hl
    rw [List.map_append] at hk
    cases r1 <;> exact hk
theorem Ev_callX {C0 owner : String} {x : MethodName} {k ci : Nat} {fl : List Nat} (As : List Value) (hd : Dc M.2.1 pc (.invokevirtual ix) 3 pc') (cf : CFn Z n) (cw : ∀ (R : Room) (s : State) (args : Array Value), (∀ w ∈ tbl, w.before args s = true) → ((rmd dz).frames + 1 ≤ R.frames ∧ 8 + (Z.2.2.1 + 11) + (rmd dz).locals ≤ R.locals) → va_CU R s args M.1.cls C0 owner ix x Z.1 Z.2.1 Z.2.2.1 Z.2.2.2 (wz Z) (rmd dz) 0 0 n) (hz : Cal Z dz (.ref k :: As) σ r1 σ1) (hlt : dz < d) (hs : SK[k]? = some (ci, fl)) (hc : (vwCl[ci]?).map (fun q => q.1) = some C0) (hn : As.length = n) (hst : stk = As.reverse ++ .ref k :: st) (hroom : (st.map fun v => v.category).sum ≤ 8) (hst' : r1.toList ++ st = st') (kk : Ev M d r τ pc' ls st' σ1) : Ev M d r τ pc ls stk σ := by
  obtain ⟨h1, rfl⟩ := hd
  subst hst; subst hst'
  obtain ⟨f1, f2, f3, f4⟩ := cf
  intro p l e R s m args below meth c D tc ad C H locs LS hP hS hl
  obtain ⟨C1, C2, C3, C4, C5, C6, C7, C8, C9, C10, rfl⟩ := C
  have ha := wsO_at tc ad σ hs
  cases hv : vwCl[ci]? with
  | none => rw [hv] at hc; cases hc
  | some q =>
  rw [hv] at hc
  have hci : ci < 100 := Nat.lt_of_lt_of_le (List.getElem?_eq_some_iff.mp hv).1 (by decide)
  rw [ent_obj hci] at ha
  have hrecv := va_recv C8 hP hv ha
  have hc2 : q.1 = _ := Option.some.inj hc
  rw [hc2] at hrecv
  have hstk : (As.reverse ++ .ref k :: st).map (cv ad) = (As.map (cv ad)).reverse ++ .ref (ad k) :: st.map (cv ad) := by rw [List.map_append, List.map_reverse]; rfl
  rw [hstk]
  refine W_back (σ1 := σ1) (r1 := r1) (REST := st.map (cv ad)) (a := ((.ref k :: As).map (cv ad)).toArray) (D := D) (tc := tc) (ad := ad) ?_ hS (fun H1 locs1 hP1 hS1 => ?_)
  · exact va_runU (b := ad k) (As := As.map (cv ad)) (rest := st.map (cv ad)) ⟨C1, C2, C3, C6, C5⟩ (hz l D tc ad C10) (cw _ s args C5 (rm_ok hlt f3)) ⟨Po_blind, hrecv, Po_now (av := .ref k :: As) hP C8 C9⟩ rfl (by rw [List.length_map]; exact hn) hl.1 rfl (lv_room (by rw [cat_cv]; exact hroom)) h1 ⟨Nat.zero_le _, Nat.zero_le _⟩
  · have hk := kk p l e _ s m args below meth c D tc ad ⟨C1, C2, C3, C4, C5, C6, C7, C8, C9, C10, rfl⟩ H1 locs1 LS hP1 hS1 hl
    rw [List.map_append] at hk
    cases r1 <;> exact hk
theorem Ev_callO {C0 : String} {x : MethodName} {k ci : Nat} {fl : List Nat} (As : List Value) (hd : Dc M.2.1 pc (.invokevirtual ix) 3 pc') (cf : CFO M.1.cls ix C0 x Z n) (hz : Cal Z dz (.ref k :: As) σ r1 σ1) (hlt : dz < d) (hs : SK[k]? = some (ci, fl)) (hc : (vwCl[ci]?).map (fun q => q.1) = some C0) (hn : As.length = n) (hst : stk = As.reverse ++ .ref k :: st) (hroom : (st.map fun v => v.category).sum ≤ 8) (hst' : r1.toList ++ st = st') (kk : Ev M d r τ pc' ls st' σ1) : Ev M d r τ pc ls stk σ := by
  obtain ⟨f0, f1, f2, f3, f4, f5, ⟨b0, m0, r0, f6⟩, f7⟩ := cf
  have hwz := wz_tbl f0.1
  refine Ev_callX (C0 := C0) (owner := x.cls) (x := x) As hd f0 (fun R s args hts hR => va_cwO n hts (goodT (fun _ h => h) (fun w hw => ?_)) rfl rfl rfl (b0 := b0) (m0 := m0) (r0 := r0) f6 f7 hR) hz hlt hs hc hn hst hroom hst' kk
  rcases List.mem_append.mp hw with hw | hw
  · simp only [List.mem_cons, List.not_mem_nil, or_false] at hw
    rcases hw with rfl | rfl | rfl | rfl | rfl | rfl
    · exact f1
    · exact f2
    · exact f3
    · exact f4
    · exact f5
    · exact f0.2.1
  · exact hwz w hw
theorem Ev_callU {C0 : String} {x : MethodName} {k ci : Nat} {fl : List Nat} (As : List Value) (hd : Dc M.2.1 pc (.invokevirtual ix) 3 pc') (cf : CFU M.1.cls ix C0 x Z n) (hz : Cal Z dz (.ref k :: As) σ r1 σ1) (hlt : dz < d) (hs : SK[k]? = some (ci, fl)) (hc : (vwCl[ci]?).map (fun q => q.1) = some C0) (hn : As.length = n) (hst : stk = As.reverse ++ .ref k :: st) (hroom : (st.map fun v => v.category).sum ≤ 8) (hst' : r1.toList ++ st = st') (kk : Ev M d r τ pc' ls st' σ1) : Ev M d r τ pc ls stk σ := by
  obtain ⟨f0, f1, f2, f4, f5, f6, f7⟩ := cf
  have hwz := wz_tbl f0.1
  refine Ev_callX (C0 := C0) (owner := Z.1.cls) (x := x) As hd f0 (fun R s args hts hR => va_cwU n hts (goodT (fun _ h => h) (fun w hw => ?_)) rfl rfl rfl f6 ⟨f0.2.2.2.1, f0.2.2.2.2.1, f7⟩ hR) hz hlt hs hc hn hst hroom hst' kk
  rcases List.mem_append.mp hw with hw | hw
  · simp only [List.mem_cons, List.not_mem_nil, or_false] at hw
    rcases hw with rfl | rfl | rfl | rfl | rfl
    · exact f1
    · exact f2
    · exact f4
    · exact f5
    · exact f0.2.1
  · exact hwz w hw
/-- System.arraycopy over rows of ints -/
theorem Ev_copy {k0 k1 n0 n1 : Nat} {sp dp nn : Int32} (hd : Dc M.2.1 pc (.invokestatic ix) 3 pc') (hw : Cond.methodLink M.1.cls ix arraycopyName ∈ tbl ∧ Cond.native arraycopyName ∈ tbl ∧ Cond.static arraycopyName ∈ tbl ∧ Cond.initialized "java/lang/System" ∈ tbl) (hlt : 0 < d) (hs0 : SK[k0]? = some (100, [n0])) (hs1 : SK[k1]? = some (100, [n1])) (hin : 0 ≤ sp ∧ 0 ≤ dp ∧ 0 ≤ nn ∧ sp.toNatClampNeg + nn.toNatClampNeg ≤ n0 ∧ dp.toNatClampNeg + nn.toNatClampNeg ≤ n1) (hroom : (st.map fun v => v.category).sum ≤ 8) (kk : Ev M d r τ pc' ls st (cpI σ k0 sp.toNatClampNeg k1 dp.toNatClampNeg nn.toNatClampNeg)) : Ev M d r τ pc ls (.int nn :: .int dp :: .ref k1 :: .int sp :: .ref k0 :: st) σ := by
  obtain ⟨h1, rfl⟩ := hd
  obtain ⟨w1, w2, w3, w4⟩ := hw
  obtain ⟨i1, i2, i3, i4, i5⟩ := hin
  have neg : ∀ z : Int32, 0 ≤ z → ¬ z < 0 := fun z h q => by rw [Int32.le_iff_toInt_le] at h; rw [Int32.lt_iff_toInt_lt] at q; omega
  intro p l e R s m args below meth c D tc ad C H locs LS hP hS hl
  obtain ⟨C1, C2, C3, C4, C5, C6, C7, C8, C9, C10, rfl⟩ := C
  refine va_copyi C1 C2 (C3.trans hl.1.symm) C6 (C5 _ w1) (C5 _ w2) (C5 _ w3) (C5 _ w4) C8 hP (wsO_D tc C10 σ) hS k0 k1 0 0 (wsO_at tc ad σ hs0) (wsO_at tc ad σ hs1) rfl rfl rfl (neg _ i1) (neg _ i2) (neg _ i3) i4 i5 (fun _ _ => rfl) (Nat.succ_le_of_lt hlt) ?_ h1 (fun H1 locs1 hP1 _ hS1 => ?_)
  · have e1 : nativeFrameWords "java/lang/System" "arraycopy" 5 = 7 := by decide
    rw [cat_cv, e1]
    show _ + (7 + 11) ≤ 45 * d
    omega
  · rw [wsO_set (τ := cpI σ k0 sp.toNatClampNeg k1 dp.toNatClampNeg nn.toNatClampNeg) hs1 ?_ ?_] at hP1
    · exact kk p l e _ s m args below meth c D tc ad ⟨C1, C2, C3, C4, C5, C6, C7, C8, C9, C10, rfl⟩ H1 locs1 LS hP1 hS1 hl
    · show _ = (Sum.inl (tc 0, n1, Sum.inl (gI (cpI σ k0 sp.toNatClampNeg k1 dp.toNatClampNeg nn.toNatClampNeg) k1)) : va_E)
      have e2 : gI (cpI σ k0 sp.toNatClampNeg k1 dp.toNatClampNeg nn.toNatClampNeg) k1 = va_cpy (gI σ k0) (gI σ k1) sp.toNatClampNeg dp.toNatClampNeg nn.toNatClampNeg := by
        funext j
        simp only [gI_cpI, va_cpy, true_and]
      rw [e2]; rfl
    · intro j hj
      exact ⟨by funext a; simp [gI_cpI, hj], rfl, rfl⟩
end EVC
end
