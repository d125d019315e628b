section
-- ===== PART A: goes FIRST, ahead of the names: the tables' words, and 'selects' of the private methods out of them =====
/-- a private method of a class that the tables say can be made, by its rows of tables_1 -/
def lw_okq (q : MethodName × Nat) : Prop := (q.1.cls ≠ "java/lang/invoke/MethodHandle" ∧ q.1.cls ≠ "java/lang/invoke/VarHandle") ∧ Cond.instantiable q.1.cls q.2 ∈ tables_1 ∧ Cond.privateMethod q.1 ∈ tables_1 ∧ Cond.instanceMethod q.1 ∈ tables_1
theorem lw_p0 : lw_okq (⟨"TideBook", "takesReading", "(II)Z"⟩, 8) := ⟨⟨by decide +kernel, by decide +kernel⟩, List.mem_of_getElem? (i := 11) (by decide +kernel), List.mem_of_getElem? (i := 134) (by decide +kernel), List.mem_of_getElem? (i := 135) (by decide +kernel)⟩
theorem lw_p1 : lw_okq (⟨"TideBook", "isFull", "()Z"⟩, 8) := ⟨⟨by decide +kernel, by decide +kernel⟩, List.mem_of_getElem? (i := 11) (by decide +kernel), List.mem_of_getElem? (i := 148) (by decide +kernel), List.mem_of_getElem? (i := 149) (by decide +kernel)⟩
theorem lw_p2 : lw_okq (⟨"TideBook", "changed", "(I)LTideBook$Row;"⟩, 8) := ⟨⟨by decide +kernel, by decide +kernel⟩, List.mem_of_getElem? (i := 11) (by decide +kernel), List.mem_of_getElem? (i := 155) (by decide +kernel), List.mem_of_getElem? (i := 156) (by decide +kernel)⟩
theorem lw_p3 : lw_okq (⟨"TideBook", "settle", "()V"⟩, 8) := ⟨⟨by decide +kernel, by decide +kernel⟩, List.mem_of_getElem? (i := 11) (by decide +kernel), List.mem_of_getElem? (i := 237) (by decide +kernel), List.mem_of_getElem? (i := 238) (by decide +kernel)⟩
theorem lw_p4 : lw_okq (⟨"TideBook$Reckoner", "takeSecond", "(I[LTideBook$Row;)V"⟩, 5) := ⟨⟨by decide +kernel, by decide +kernel⟩, List.mem_of_getElem? (i := 65) (by decide +kernel), List.mem_of_getElem? (i := 263) (by decide +kernel), List.mem_of_getElem? (i := 264) (by decide +kernel)⟩
theorem lw_p5 : lw_okq (⟨"TideBook$Reckoner", "sort", "()V"⟩, 5) := ⟨⟨by decide +kernel, by decide +kernel⟩, List.mem_of_getElem? (i := 65) (by decide +kernel), List.mem_of_getElem? (i := 268) (by decide +kernel), List.mem_of_getElem? (i := 269) (by decide +kernel)⟩
theorem lw_p6 : lw_okq (⟨"TideBook$Reckoner", "insert", "(D)V"⟩, 5) := ⟨⟨by decide +kernel, by decide +kernel⟩, List.mem_of_getElem? (i := 65) (by decide +kernel), List.mem_of_getElem? (i := 273) (by decide +kernel), List.mem_of_getElem? (i := 274) (by decide +kernel)⟩
theorem lw_p7 : lw_okq (⟨"TideBook$Reckoner", "leavesBlank", "(LTideBook$Row;I)Z"⟩, 5) := ⟨⟨by decide +kernel, by decide +kernel⟩, List.mem_of_getElem? (i := 65) (by decide +kernel), List.mem_of_getElem? (i := 283) (by decide +kernel), List.mem_of_getElem? (i := 284) (by decide +kernel)⟩
theorem lw_p8 : lw_okq (⟨"TideBook$Reckoner", "hasBothNeighbours", "(I)Z"⟩, 5) := ⟨⟨by decide +kernel, by decide +kernel⟩, List.mem_of_getElem? (i := 65) (by decide +kernel), List.mem_of_getElem? (i := 304) (by decide +kernel), List.mem_of_getElem? (i := 305) (by decide +kernel)⟩
theorem lw_p9 : lw_okq (⟨"TideBook$Reckoner", "hasDifference", "(I)Z"⟩, 5) := ⟨⟨by decide +kernel, by decide +kernel⟩, List.mem_of_getElem? (i := 65) (by decide +kernel), List.mem_of_getElem? (i := 308) (by decide +kernel), List.mem_of_getElem? (i := 309) (by decide +kernel)⟩
theorem lw_p10 : lw_okq (⟨"TideBook$Reckoner", "numberAt", "(LTideBook$Row;I)D"⟩, 5) := ⟨⟨by decide +kernel, by decide +kernel⟩, List.mem_of_getElem? (i := 65) (by decide +kernel), List.mem_of_getElem? (i := 313) (by decide +kernel), List.mem_of_getElem? (i := 314) (by decide +kernel)⟩
theorem lw_p11 : lw_okq (⟨"TideBook$Reckoner", "ofOne", "(ID)D"⟩, 5) := ⟨⟨by decide +kernel, by decide +kernel⟩, List.mem_of_getElem? (i := 65) (by decide +kernel), List.mem_of_getElem? (i := 317) (by decide +kernel), List.mem_of_getElem? (i := 318) (by decide +kernel)⟩
theorem lw_p12 : lw_okq (⟨"TideBook$Reckoner", "quotient", "(DD)D"⟩, 5) := ⟨⟨by decide +kernel, by decide +kernel⟩, List.mem_of_getElem? (i := 65) (by decide +kernel), List.mem_of_getElem? (i := 335) (by decide +kernel), List.mem_of_getElem? (i := 336) (by decide +kernel)⟩
theorem lw_p13 : lw_okq (⟨"TideBook$Reckoner", "product", "(DD)D"⟩, 5) := ⟨⟨by decide +kernel, by decide +kernel⟩, List.mem_of_getElem? (i := 65) (by decide +kernel), List.mem_of_getElem? (i := 339) (by decide +kernel), List.mem_of_getElem? (i := 340) (by decide +kernel)⟩
theorem lw_p14 : lw_okq (⟨"TideBook$Reckoner", "ofTwo", "(IDD)D"⟩, 5) := ⟨⟨by decide +kernel, by decide +kernel⟩, List.mem_of_getElem? (i := 65) (by decide +kernel), List.mem_of_getElem? (i := 343) (by decide +kernel), List.mem_of_getElem? (i := 344) (by decide +kernel)⟩
theorem lw_p15 : lw_okq (⟨"TideBook$Reckoner", "sum", "(DD)D"⟩, 5) := ⟨⟨by decide +kernel, by decide +kernel⟩, List.mem_of_getElem? (i := 65) (by decide +kernel), List.mem_of_getElem? (i := 347) (by decide +kernel), List.mem_of_getElem? (i := 348) (by decide +kernel)⟩
def lw_privs_1 : List (MethodName × Nat) := [(⟨"TideBook", "takesReading", "(II)Z"⟩, 8), (⟨"TideBook", "isFull", "()Z"⟩, 8), (⟨"TideBook", "changed", "(I)LTideBook$Row;"⟩, 8), (⟨"TideBook", "settle", "()V"⟩, 8), (⟨"TideBook$Reckoner", "takeSecond", "(I[LTideBook$Row;)V"⟩, 5), (⟨"TideBook$Reckoner", "sort", "()V"⟩, 5), (⟨"TideBook$Reckoner", "insert", "(D)V"⟩, 5), (⟨"TideBook$Reckoner", "leavesBlank", "(LTideBook$Row;I)Z"⟩, 5), (⟨"TideBook$Reckoner", "hasBothNeighbours", "(I)Z"⟩, 5), (⟨"TideBook$Reckoner", "hasDifference", "(I)Z"⟩, 5), (⟨"TideBook$Reckoner", "numberAt", "(LTideBook$Row;I)D"⟩, 5), (⟨"TideBook$Reckoner", "ofOne", "(ID)D"⟩, 5), (⟨"TideBook$Reckoner", "quotient", "(DD)D"⟩, 5), (⟨"TideBook$Reckoner", "product", "(DD)D"⟩, 5), (⟨"TideBook$Reckoner", "ofTwo", "(IDD)D"⟩, 5), (⟨"TideBook$Reckoner", "sum", "(DD)D"⟩, 5)]
theorem lw_r1 : ∀ q ∈ lw_privs_1, lw_okq q := List.forall_mem_cons.mpr ⟨lw_p0, List.forall_mem_cons.mpr ⟨lw_p1, List.forall_mem_cons.mpr ⟨lw_p2, List.forall_mem_cons.mpr ⟨lw_p3, List.forall_mem_cons.mpr ⟨lw_p4, List.forall_mem_cons.mpr ⟨lw_p5, List.forall_mem_cons.mpr ⟨lw_p6, List.forall_mem_cons.mpr ⟨lw_p7, List.forall_mem_cons.mpr ⟨lw_p8, List.forall_mem_cons.mpr ⟨lw_p9, List.forall_mem_cons.mpr ⟨lw_p10, List.forall_mem_cons.mpr ⟨lw_p11, List.forall_mem_cons.mpr ⟨lw_p12, List.forall_mem_cons.mpr ⟨lw_p13, List.forall_mem_cons.mpr ⟨lw_p14, List.forall_mem_cons.mpr ⟨lw_p15, fun _ h => absurd h List.not_mem_nil⟩⟩⟩⟩⟩⟩⟩⟩⟩⟩⟩⟩⟩⟩⟩⟩
theorem lw_p16 : lw_okq (⟨"TideBook$Reckoner", "remainder", "(DD)D"⟩, 5) := ⟨⟨by decide +kernel, by decide +kernel⟩, List.mem_of_getElem? (i := 65) (by decide +kernel), List.mem_of_getElem? (i := 351) (by decide +kernel), List.mem_of_getElem? (i := 352) (by decide +kernel)⟩
theorem lw_p17 : lw_okq (⟨"TideBook$Reckoner", "middleAt", "(I)D"⟩, 5) := ⟨⟨by decide +kernel, by decide +kernel⟩, List.mem_of_getElem? (i := 65) (by decide +kernel), List.mem_of_getElem? (i := 360) (by decide +kernel), List.mem_of_getElem? (i := 361) (by decide +kernel)⟩
theorem lw_p18 : lw_okq (⟨"TideBook$Reckoner", "farthestAt", "(LTideBook$Row;I)D"⟩, 5) := ⟨⟨by decide +kernel, by decide +kernel⟩, List.mem_of_getElem? (i := 65) (by decide +kernel), List.mem_of_getElem? (i := 364) (by decide +kernel), List.mem_of_getElem? (i := 365) (by decide +kernel)⟩
theorem lw_p19 : lw_okq (⟨"TideBook$Reckoner", "lesserPlaces", "(D)I"⟩, 5) := ⟨⟨by decide +kernel, by decide +kernel⟩, List.mem_of_getElem? (i := 65) (by decide +kernel), List.mem_of_getElem? (i := 368) (by decide +kernel), List.mem_of_getElem? (i := 369) (by decide +kernel)⟩
theorem lw_p20 : lw_okq (⟨"TideBook", "placesWhere", "(III)I"⟩, 8) := ⟨⟨by decide +kernel, by decide +kernel⟩, List.mem_of_getElem? (i := 11) (by decide +kernel), List.mem_of_getElem? (i := 420) (by decide +kernel), List.mem_of_getElem? (i := 421) (by decide +kernel)⟩
theorem lw_p21 : lw_okq (⟨"TideBook", "isNumber", "(II)Z"⟩, 8) := ⟨⟨by decide +kernel, by decide +kernel⟩, List.mem_of_getElem? (i := 11) (by decide +kernel), List.mem_of_getElem? (i := 439) (by decide +kernel), List.mem_of_getElem? (i := 440) (by decide +kernel)⟩
theorem lw_p22 : lw_okq (⟨"TideBook$Alarm", "firstRang", "()I"⟩, 6) := ⟨⟨by decide +kernel, by decide +kernel⟩, List.mem_of_getElem? (i := 388) (by decide +kernel), List.mem_of_getElem? (i := 480) (by decide +kernel), List.mem_of_getElem? (i := 481) (by decide +kernel)⟩
theorem lw_p23 : lw_okq (⟨"TideBook", "toldOfBook", "(I)I"⟩, 8) := ⟨⟨by decide +kernel, by decide +kernel⟩, List.mem_of_getElem? (i := 11) (by decide +kernel), List.mem_of_getElem? (i := 488) (by decide +kernel), List.mem_of_getElem? (i := 489) (by decide +kernel)⟩
theorem lw_p24 : lw_okq (⟨"TideBookModel", "canSet", "(II)Z"⟩, 19) := ⟨⟨by decide +kernel, by decide +kernel⟩, List.mem_of_getElem? (i := 495) (by decide +kernel), List.mem_of_getElem? (i := 570) (by decide +kernel), List.mem_of_getElem? (i := 571) (by decide +kernel)⟩
theorem lw_p25 : lw_okq (⟨"TideBookModel", "picture", "()V"⟩, 19) := ⟨⟨by decide +kernel, by decide +kernel⟩, List.mem_of_getElem? (i := 495) (by decide +kernel), List.mem_of_getElem? (i := 577) (by decide +kernel), List.mem_of_getElem? (i := 578) (by decide +kernel)⟩
theorem lw_p26 : lw_okq (⟨"TideBookModel", "put", "(ID)V"⟩, 19) := ⟨⟨by decide +kernel, by decide +kernel⟩, List.mem_of_getElem? (i := 495) (by decide +kernel), List.mem_of_getElem? (i := 588) (by decide +kernel), List.mem_of_getElem? (i := 589) (by decide +kernel)⟩
theorem lw_p27 : lw_okq (⟨"TideBookModel", "changed", "()I"⟩, 19) := ⟨⟨by decide +kernel, by decide +kernel⟩, List.mem_of_getElem? (i := 495) (by decide +kernel), List.mem_of_getElem? (i := 592) (by decide +kernel), List.mem_of_getElem? (i := 593) (by decide +kernel)⟩
theorem lw_p28 : lw_okq (⟨"TideBookModel", "putSpecial", "(IIZ)V"⟩, 19) := ⟨⟨by decide +kernel, by decide +kernel⟩, List.mem_of_getElem? (i := 495) (by decide +kernel), List.mem_of_getElem? (i := 600) (by decide +kernel), List.mem_of_getElem? (i := 601) (by decide +kernel)⟩
theorem lw_p29 : lw_okq (⟨"TideBookModel", "reckonAll", "()V"⟩, 19) := ⟨⟨by decide +kernel, by decide +kernel⟩, List.mem_of_getElem? (i := 495) (by decide +kernel), List.mem_of_getElem? (i := 627) (by decide +kernel), List.mem_of_getElem? (i := 628) (by decide +kernel)⟩
theorem lw_p30 : lw_okq (⟨"TideBookModel", "reckon", "(II)V"⟩, 19) := ⟨⟨by decide +kernel, by decide +kernel⟩, List.mem_of_getElem? (i := 495) (by decide +kernel), List.mem_of_getElem? (i := 631) (by decide +kernel), List.mem_of_getElem? (i := 632) (by decide +kernel)⟩
theorem lw_p31 : lw_okq (⟨"TideBookModel", "noX", "(II)Z"⟩, 19) := ⟨⟨by decide +kernel, by decide +kernel⟩, List.mem_of_getElem? (i := 495) (by decide +kernel), List.mem_of_getElem? (i := 635) (by decide +kernel), List.mem_of_getElem? (i := 636) (by decide +kernel)⟩
def lw_privs_2 : List (MethodName × Nat) := [(⟨"TideBook$Reckoner", "remainder", "(DD)D"⟩, 5), (⟨"TideBook$Reckoner", "middleAt", "(I)D"⟩, 5), (⟨"TideBook$Reckoner", "farthestAt", "(LTideBook$Row;I)D"⟩, 5), (⟨"TideBook$Reckoner", "lesserPlaces", "(D)I"⟩, 5), (⟨"TideBook", "placesWhere", "(III)I"⟩, 8), (⟨"TideBook", "isNumber", "(II)Z"⟩, 8), (⟨"TideBook$Alarm", "firstRang", "()I"⟩, 6), (⟨"TideBook", "toldOfBook", "(I)I"⟩, 8), (⟨"TideBookModel", "canSet", "(II)Z"⟩, 19), (⟨"TideBookModel", "picture", "()V"⟩, 19), (⟨"TideBookModel", "put", "(ID)V"⟩, 19), (⟨"TideBookModel", "changed", "()I"⟩, 19), (⟨"TideBookModel", "putSpecial", "(IIZ)V"⟩, 19), (⟨"TideBookModel", "reckonAll", "()V"⟩, 19), (⟨"TideBookModel", "reckon", "(II)V"⟩, 19), (⟨"TideBookModel", "noX", "(II)Z"⟩, 19)]
theorem lw_r2 : ∀ q ∈ lw_privs_2, lw_okq q := List.forall_mem_cons.mpr ⟨lw_p16, List.forall_mem_cons.mpr ⟨lw_p17, List.forall_mem_cons.mpr ⟨lw_p18, List.forall_mem_cons.mpr ⟨lw_p19, List.forall_mem_cons.mpr ⟨lw_p20, List.forall_mem_cons.mpr ⟨lw_p21, List.forall_mem_cons.mpr ⟨lw_p22, List.forall_mem_cons.mpr ⟨lw_p23, List.forall_mem_cons.mpr ⟨lw_p24, List.forall_mem_cons.mpr ⟨lw_p25, List.forall_mem_cons.mpr ⟨lw_p26, List.forall_mem_cons.mpr ⟨lw_p27, List.forall_mem_cons.mpr ⟨lw_p28, List.forall_mem_cons.mpr ⟨lw_p29, List.forall_mem_cons.mpr ⟨lw_p30, List.forall_mem_cons.mpr ⟨lw_p31, fun _ h => absurd h List.not_mem_nil⟩⟩⟩⟩⟩⟩⟩⟩⟩⟩⟩⟩⟩⟩⟩⟩
theorem lw_p32 : lw_okq (⟨"TideBookModel", "noY", "(II)Z"⟩, 19) := ⟨⟨by decide +kernel, by decide +kernel⟩, List.mem_of_getElem? (i := 495) (by decide +kernel), List.mem_of_getElem? (i := 642) (by decide +kernel), List.mem_of_getElem? (i := 643) (by decide +kernel)⟩
theorem lw_p33 : lw_okq (⟨"TideBookModel", "givesNothing", "()V"⟩, 19) := ⟨⟨by decide +kernel, by decide +kernel⟩, List.mem_of_getElem? (i := 495) (by decide +kernel), List.mem_of_getElem? (i := 646) (by decide +kernel), List.mem_of_getElem? (i := 647) (by decide +kernel)⟩
theorem lw_p34 : lw_okq (⟨"TideBookModel", "x", "(II)D"⟩, 19) := ⟨⟨by decide +kernel, by decide +kernel⟩, List.mem_of_getElem? (i := 495) (by decide +kernel), List.mem_of_getElem? (i := 650) (by decide +kernel), List.mem_of_getElem? (i := 651) (by decide +kernel)⟩
theorem lw_p35 : lw_okq (⟨"TideBookModel", "single", "(IDZ)V"⟩, 19) := ⟨⟨by decide +kernel, by decide +kernel⟩, List.mem_of_getElem? (i := 495) (by decide +kernel), List.mem_of_getElem? (i := 654) (by decide +kernel), List.mem_of_getElem? (i := 655) (by decide +kernel)⟩
theorem lw_p36 : lw_okq (⟨"TideBookModel", "gives", "(D)V"⟩, 19) := ⟨⟨by decide +kernel, by decide +kernel⟩, List.mem_of_getElem? (i := 495) (by decide +kernel), List.mem_of_getElem? (i := 658) (by decide +kernel), List.mem_of_getElem? (i := 659) (by decide +kernel)⟩
theorem lw_p37 : lw_okq (⟨"TideBookModel", "y", "(II)D"⟩, 19) := ⟨⟨by decide +kernel, by decide +kernel⟩, List.mem_of_getElem? (i := 495) (by decide +kernel), List.mem_of_getElem? (i := 686) (by decide +kernel), List.mem_of_getElem? (i := 687) (by decide +kernel)⟩
theorem lw_p38 : lw_okq (⟨"TideBookModel", "both", "(IDDZ)V"⟩, 19) := ⟨⟨by decide +kernel, by decide +kernel⟩, List.mem_of_getElem? (i := 495) (by decide +kernel), List.mem_of_getElem? (i := 690) (by decide +kernel), List.mem_of_getElem? (i := 691) (by decide +kernel)⟩
theorem lw_p39 : lw_okq (⟨"TideBookModel", "difference", "(DDZ)V"⟩, 19) := ⟨⟨by decide +kernel, by decide +kernel⟩, List.mem_of_getElem? (i := 495) (by decide +kernel), List.mem_of_getElem? (i := 700) (by decide +kernel), List.mem_of_getElem? (i := 701) (by decide +kernel)⟩
theorem lw_p40 : lw_okq (⟨"TideBookModel", "compares", "(II)Z"⟩, 19) := ⟨⟨by decide +kernel, by decide +kernel⟩, List.mem_of_getElem? (i := 495) (by decide +kernel), List.mem_of_getElem? (i := 707) (by decide +kernel), List.mem_of_getElem? (i := 708) (by decide +kernel)⟩
theorem lw_p41 : lw_okq (⟨"TideBookModel", "manyX", "(III)I"⟩, 19) := ⟨⟨by decide +kernel, by decide +kernel⟩, List.mem_of_getElem? (i := 495) (by decide +kernel), List.mem_of_getElem? (i := 714) (by decide +kernel), List.mem_of_getElem? (i := 715) (by decide +kernel)⟩
theorem lw_p42 : lw_okq (⟨"TideBookModel", "ranked", "(IIII)V"⟩, 19) := ⟨⟨by decide +kernel, by decide +kernel⟩, List.mem_of_getElem? (i := 495) (by decide +kernel), List.mem_of_getElem? (i := 718) (by decide +kernel), List.mem_of_getElem? (i := 719) (by decide +kernel)⟩
theorem lw_p43 : lw_okq (⟨"TideBookModel", "rank", "(IIII)I"⟩, 19) := ⟨⟨by decide +kernel, by decide +kernel⟩, List.mem_of_getElem? (i := 495) (by decide +kernel), List.mem_of_getElem? (i := 722) (by decide +kernel), List.mem_of_getElem? (i := 723) (by decide +kernel)⟩
theorem lw_p44 : lw_okq (⟨"TideBookModel", "lessThan", "(II)I"⟩, 19) := ⟨⟨by decide +kernel, by decide +kernel⟩, List.mem_of_getElem? (i := 495) (by decide +kernel), List.mem_of_getElem? (i := 726) (by decide +kernel), List.mem_of_getElem? (i := 727) (by decide +kernel)⟩
theorem lw_p45 : lw_okq (⟨"TideBookModel", "manySo", "(II)I"⟩, 19) := ⟨⟨by decide +kernel, by decide +kernel⟩, List.mem_of_getElem? (i := 495) (by decide +kernel), List.mem_of_getElem? (i := 730) (by decide +kernel), List.mem_of_getElem? (i := 731) (by decide +kernel)⟩
theorem lw_p46 : lw_okq (⟨"TideBookModel", "holds", "(II)Z"⟩, 19) := ⟨⟨by decide +kernel, by decide +kernel⟩, List.mem_of_getElem? (i := 495) (by decide +kernel), List.mem_of_getElem? (i := 746) (by decide +kernel), List.mem_of_getElem? (i := 747) (by decide +kernel)⟩
theorem lw_p47 : lw_okq (⟨"TideBookModel", "isThere", "(II)Z"⟩, 19) := ⟨⟨by decide +kernel, by decide +kernel⟩, List.mem_of_getElem? (i := 495) (by decide +kernel), List.mem_of_getElem? (i := 761) (by decide +kernel), List.mem_of_getElem? (i := 762) (by decide +kernel)⟩
def lw_privs_3 : List (MethodName × Nat) := [(⟨"TideBookModel", "noY", "(II)Z"⟩, 19), (⟨"TideBookModel", "givesNothing", "()V"⟩, 19), (⟨"TideBookModel", "x", "(II)D"⟩, 19), (⟨"TideBookModel", "single", "(IDZ)V"⟩, 19), (⟨"TideBookModel", "gives", "(D)V"⟩, 19), (⟨"TideBookModel", "y", "(II)D"⟩, 19), (⟨"TideBookModel", "both", "(IDDZ)V"⟩, 19), (⟨"TideBookModel", "difference", "(DDZ)V"⟩, 19), (⟨"TideBookModel", "compares", "(II)Z"⟩, 19), (⟨"TideBookModel", "manyX", "(III)I"⟩, 19), (⟨"TideBookModel", "ranked", "(IIII)V"⟩, 19), (⟨"TideBookModel", "rank", "(IIII)I"⟩, 19), (⟨"TideBookModel", "lessThan", "(II)I"⟩, 19), (⟨"TideBookModel", "manySo", "(II)I"⟩, 19), (⟨"TideBookModel", "holds", "(II)Z"⟩, 19), (⟨"TideBookModel", "isThere", "(II)Z"⟩, 19)]
theorem lw_r3 : ∀ q ∈ lw_privs_3, lw_okq q := List.forall_mem_cons.mpr ⟨lw_p32, List.forall_mem_cons.mpr ⟨lw_p33, List.forall_mem_cons.mpr ⟨lw_p34, List.forall_mem_cons.mpr ⟨lw_p35, List.forall_mem_cons.mpr ⟨lw_p36, List.forall_mem_cons.mpr ⟨lw_p37, List.forall_mem_cons.mpr ⟨lw_p38, List.forall_mem_cons.mpr ⟨lw_p39, List.forall_mem_cons.mpr ⟨lw_p40, List.forall_mem_cons.mpr ⟨lw_p41, List.forall_mem_cons.mpr ⟨lw_p42, List.forall_mem_cons.mpr ⟨lw_p43, List.forall_mem_cons.mpr ⟨lw_p44, List.forall_mem_cons.mpr ⟨lw_p45, List.forall_mem_cons.mpr ⟨lw_p46, List.forall_mem_cons.mpr ⟨lw_p47, fun _ h => absurd h List.not_mem_nil⟩⟩⟩⟩⟩⟩⟩⟩⟩⟩⟩⟩⟩⟩⟩⟩
def lw_privs : List (MethodName × Nat) := lw_privs_1 ++ (lw_privs_2 ++ (lw_privs_3))
def lw_tbl : List Cond := k2_sels lw_privs ++ tables_1
theorem lw_privs_ok : ∀ q ∈ lw_privs, lw_okq q := by
  show ∀ q ∈ lw_privs_1 ++ (lw_privs_2 ++ (lw_privs_3)), lw_okq q
  exact List.forall_mem_append.mpr ⟨lw_r1, List.forall_mem_append.mpr ⟨lw_r2, lw_r3⟩⟩
/-- the streams that the claim lets the run draw from -/
abbrev lw_cs : List Choice := [Jvm.Choice.named "NaN.bits"]
theorem lw_bits : nanBits ∈ lw_cs := by first | decide | exact List.mem_cons_self | simp [lw_cs, nanBits]
end
section
def RX0 : String := "TideBook$Alarm"
def TX0 : u_T := fun k => match k with
  | 0 => ("TideBook$Alarm", "column", "I", true)
  | 1 => ("TideBook$Alarm", "c", "I", true)
  | 2 => ("TideBook$Alarm", "b", "I", true)
  | 3 => ("TideBook$Alarm", "held", "I", false)
  | 4 => ("TideBook$Alarm", "rang", "I", false)
  | _ => ("TideBook$Alarm", "lookedAt", "Z", false)
def tyX0 : Nat → FieldType := fun k => match k with
  | 0 => .int
  | 1 => .int
  | 2 => .int
  | 3 => .int
  | 4 => .int
  | _ => .boolean
theorem nmX0 : ∀ a, a < 6 → ∀ b, b < 6 → a ≠ b → (TX0 a).2.1 ≠ (TX0 b).2.1 := by decide +kernel
theorem tyX0_ok : ∀ k, k < 6 → parseFieldDescriptor (TX0 k).2.2.1 = some (tyX0 k) := by decide +kernel
abbrev cX0_init : ByteArray := prog_2_method_1_code
def yX0_init : MethodName := ⟨RX0, "<init>", "(III)V"⟩
abbrev cX0_look : ByteArray := prog_2_method_2_code
def yX0_look : MethodName := ⟨RX0, "look", "(I)I"⟩
abbrev cX0_answer : ByteArray := prog_2_method_3_code
def yX0_answer : MethodName := ⟨RX0, "answer", "(I)I"⟩
abbrev cX0_firstRang : ByteArray := prog_2_method_4_code
def yX0_firstRang : MethodName := ⟨RX0, "firstRang", "()I"⟩
def RX1 : String := "TideBook$Change"
def TX1 : u_T := fun k => match k with
  | 0 => ("TideBook$Change", "row", "I", true)
  | 1 => ("TideBook$Change", "old", "LTideBook$Row;", true)
  | _ => ("TideBook$Change", "before", "LTideBook$Change;", true)
def tyX1 : Nat → FieldType := fun k => match k with
  | 0 => .int
  | 1 => .object "TideBook$Row"
  | _ => .object "TideBook$Change"
theorem nmX1 : ∀ a, a < 3 → ∀ b, b < 3 → a ≠ b → (TX1 a).2.1 ≠ (TX1 b).2.1 := by decide +kernel
theorem tyX1_ok : ∀ k, k < 3 → parseFieldDescriptor (TX1 k).2.2.1 = some (tyX1 k) := by decide +kernel
abbrev cX1_init : ByteArray := prog_3_method_1_code
def yX1_init : MethodName := ⟨RX1, "<init>", "(ILTideBook$Row;LTideBook$Change;)V"⟩
def RX2 : String := "TideBook$Reckoner"
def TX2 : u_T := fun k => match k with
  | 0 => ("TideBook$Reckoner", "scale", "LTideBook$Scale;", true)
  | 1 => ("TideBook$Reckoner", "x", "LTideBook$Row;", true)
  | 2 => ("TideBook$Reckoner", "y", "LTideBook$Row;", true)
  | 3 => ("TideBook$Reckoner", "sorted", "[D", true)
  | _ => ("TideBook$Reckoner", "sortedCount", "I", false)
def tyX2 : Nat → FieldType := fun k => match k with
  | 0 => .object "TideBook$Scale"
  | 1 => .object "TideBook$Row"
  | 2 => .object "TideBook$Row"
  | 3 => .array .double
  | _ => .int
theorem nmX2 : ∀ a, a < 5 → ∀ b, b < 5 → a ≠ b → (TX2 a).2.1 ≠ (TX2 b).2.1 := by decide +kernel
theorem tyX2_ok : ∀ k, k < 5 → parseFieldDescriptor (TX2 k).2.2.1 = some (tyX2 k) := by decide +kernel
abbrev cX2_init : ByteArray := prog_4_method_1_code
def yX2_init : MethodName := ⟨RX2, "<init>", "()V"⟩
abbrev cX2_reckon : ByteArray := prog_4_method_2_code
def yX2_reckon : MethodName := ⟨RX2, "reckon", "(LTideBook$Row;[LTideBook$Row;)V"⟩
abbrev cX2_takeSecond : ByteArray := prog_4_method_3_code
def yX2_takeSecond : MethodName := ⟨RX2, "takeSecond", "(I[LTideBook$Row;)V"⟩
abbrev cX2_isOfTwo : ByteArray := prog_4_method_4_code
def yX2_isOfTwo : MethodName := ⟨RX2, "isOfTwo", "(I)Z"⟩
abbrev cX2_leavesBlank : ByteArray := prog_4_method_5_code
def yX2_leavesBlank : MethodName := ⟨RX2, "leavesBlank", "(LTideBook$Row;I)Z"⟩
abbrev cX2_hasBothNeighbours : ByteArray := prog_4_method_6_code
def yX2_hasBothNeighbours : MethodName := ⟨RX2, "hasBothNeighbours", "(I)Z"⟩
abbrev cX2_hasDifference : ByteArray := prog_4_method_7_code
def yX2_hasDifference : MethodName := ⟨RX2, "hasDifference", "(I)Z"⟩
abbrev cX2_isUndefined : ByteArray := prog_4_method_8_code
def yX2_isUndefined : MethodName := ⟨RX2, "isUndefined", "(IDD)Z"⟩
abbrev cX2_numberAt : ByteArray := prog_4_method_9_code
def yX2_numberAt : MethodName := ⟨RX2, "numberAt", "(LTideBook$Row;I)D"⟩
abbrev cX2_ofOne : ByteArray := prog_4_method_10_code
def yX2_ofOne : MethodName := ⟨RX2, "ofOne", "(ID)D"⟩
abbrev cX2_ofTwo : ByteArray := prog_4_method_11_code
def yX2_ofTwo : MethodName := ⟨RX2, "ofTwo", "(IDD)D"⟩
abbrev cX2_sum : ByteArray := prog_4_method_12_code
def yX2_sum : MethodName := ⟨RX2, "sum", "(DD)D"⟩
abbrev cX2_product : ByteArray := prog_4_method_13_code
def yX2_product : MethodName := ⟨RX2, "product", "(DD)D"⟩
abbrev cX2_quotient : ByteArray := prog_4_method_14_code
def yX2_quotient : MethodName := ⟨RX2, "quotient", "(DD)D"⟩
abbrev cX2_isSurelyWhole : ByteArray := prog_4_method_15_code
def yX2_isSurelyWhole : MethodName := ⟨RX2, "isSurelyWhole", "(D)Z"⟩
abbrev cX2_floor : ByteArray := prog_4_method_16_code
def yX2_floor : MethodName := ⟨RX2, "floor", "(D)D"⟩
abbrev cX2_nearest : ByteArray := prog_4_method_17_code
def yX2_nearest : MethodName := ⟨RX2, "nearest", "(D)D"⟩
abbrev cX2_remainder : ByteArray := prog_4_method_18_code
def yX2_remainder : MethodName := ⟨RX2, "remainder", "(DD)D"⟩
abbrev cX2_comesBefore : ByteArray := prog_4_method_19_code
def yX2_comesBefore : MethodName := ⟨RX2, "comesBefore", "(DD)Z"⟩
abbrev cX2_middleAt : ByteArray := prog_4_method_20_code
def yX2_middleAt : MethodName := ⟨RX2, "middleAt", "(I)D"⟩
abbrev cX2_farthestAt : ByteArray := prog_4_method_21_code
def yX2_farthestAt : MethodName := ⟨RX2, "farthestAt", "(LTideBook$Row;I)D"⟩
abbrev cX2_sort : ByteArray := prog_4_method_22_code
def yX2_sort : MethodName := ⟨RX2, "sort", "()V"⟩
abbrev cX2_insert : ByteArray := prog_4_method_23_code
def yX2_insert : MethodName := ⟨RX2, "insert", "(D)V"⟩
abbrev cX2_lesserPlaces : ByteArray := prog_4_method_24_code
def yX2_lesserPlaces : MethodName := ⟨RX2, "lesserPlaces", "(D)I"⟩
def RX3 : String := "TideBook$Row"
def TX3 : u_T := fun k => match k with
  | 0 => ("TideBook$Row", "numbers", "[D", true)
  | 1 => ("TideBook$Row", "blanks", "I", false)
  | 2 => ("TideBook$Row", "narrow", "Z", false)
  | 3 => ("TideBook$Row", "f", "I", false)
  | 4 => ("TideBook$Row", "a", "I", false)
  | 5 => ("TideBook$Row", "b", "I", false)
  | _ => ("TideBook$Row", "c", "I", false)
def tyX3 : Nat → FieldType := fun k => match k with
  | 0 => .array .double
  | 1 => .int
  | 2 => .boolean
  | 3 => .int
  | 4 => .int
  | 5 => .int
  | _ => .int
theorem nmX3 : ∀ a, a < 7 → ∀ b, b < 7 → a ≠ b → (TX3 a).2.1 ≠ (TX3 b).2.1 := by decide +kernel
theorem tyX3_ok : ∀ k, k < 7 → parseFieldDescriptor (TX3 k).2.2.1 = some (tyX3 k) := by decide +kernel
abbrev cX3_init : ByteArray := prog_5_method_1_code
def yX3_init : MethodName := ⟨RX3, "<init>", "()V"⟩
abbrev cX3_copy : ByteArray := prog_5_method_2_code
def yX3_copy : MethodName := ⟨RX3, "copy", "()LTideBook$Row;"⟩
abbrev cX3_hasFormula : ByteArray := prog_5_method_3_code
def yX3_hasFormula : MethodName := ⟨RX3, "hasFormula", "()Z"⟩
abbrev cX3_isTouched : ByteArray := prog_5_method_4_code
def yX3_isTouched : MethodName := ⟨RX3, "isTouched", "(II)Z"⟩
abbrev cX3_blankAt : ByteArray := prog_5_method_5_code
def yX3_blankAt : MethodName := ⟨RX3, "blankAt", "(I)Z"⟩
abbrev cX3_put : ByteArray := prog_5_method_6_code
def yX3_put : MethodName := ⟨RX3, "put", "(ID)V"⟩
abbrev cX3_clear : ByteArray := prog_5_method_7_code
def yX3_clear : MethodName := ⟨RX3, "clear", "(I)V"⟩
abbrev cX3_bringTo : ByteArray := prog_5_method_8_code
def yX3_bringTo : MethodName := ⟨RX3, "bringTo", "(Z)V"⟩
abbrev cX3_takeAll : ByteArray := prog_5_method_9_code
def yX3_takeAll : MethodName := ⟨RX3, "takeAll", "(LTideBook$Row;)V"⟩
abbrev cX3_takeOne : ByteArray := prog_5_method_10_code
def yX3_takeOne : MethodName := ⟨RX3, "takeOne", "(ILTideBook$Row;I)V"⟩
def RX4 : String := "TideBook$Scale"
def TX4 : u_T := fun k => match k with
  | 0 => ("TideBook$Scale", "up", "[D", true)
  | _ => ("TideBook$Scale", "down", "[D", true)
def tyX4 : Nat → FieldType := fun k => match k with
  | 0 => .array .double
  | _ => .array .double
theorem nmX4 : ∀ a, a < 2 → ∀ b, b < 2 → a ≠ b → (TX4 a).2.1 ≠ (TX4 b).2.1 := by decide +kernel
theorem tyX4_ok : ∀ k, k < 2 → parseFieldDescriptor (TX4 k).2.2.1 = some (tyX4 k) := by decide +kernel
abbrev cX4_init : ByteArray := prog_6_method_1_code
def yX4_init : MethodName := ⟨RX4, "<init>", "()V"⟩
abbrev cX4_times : ByteArray := prog_6_method_2_code
def yX4_times : MethodName := ⟨RX4, "times", "(DI)D"⟩
abbrev cX4_unit : ByteArray := prog_6_method_3_code
def yX4_unit : MethodName := ⟨RX4, "unit", "(DZ)I"⟩
abbrev cX4_bitsOf : ByteArray := prog_6_method_4_code
def yX4_bitsOf : MethodName := ⟨RX4, "bitsOf", "(DZ)J"⟩
def RX5 : String := "TideBook"
def TX5 : u_T := fun k => match k with
  | 0 => ("TideBook", "rows", "[LTideBook$Row;", true)
  | 1 => ("TideBook", "alarms", "[LTideBook$Alarm;", true)
  | 2 => ("TideBook", "reckoner", "LTideBook$Reckoner;", true)
  | 3 => ("TideBook", "latest", "LTideBook$Change;", false)
  | 4 => ("TideBook", "changes", "I", false)
  | 5 => ("TideBook", "alarmCount", "I", false)
  | 6 => ("TideBook", "rings", "I", false)
  | _ => ("TideBook", "stale", "I", false)
def tyX5 : Nat → FieldType := fun k => match k with
  | 0 => .array (.object "TideBook$Row")
  | 1 => .array (.object "TideBook$Alarm")
  | 2 => .object "TideBook$Reckoner"
  | 3 => .object "TideBook$Change"
  | 4 => .int
  | 5 => .int
  | 6 => .int
  | _ => .int
theorem nmX5 : ∀ a, a < 8 → ∀ b, b < 8 → a ≠ b → (TX5 a).2.1 ≠ (TX5 b).2.1 := by decide +kernel
theorem tyX5_ok : ∀ k, k < 8 → parseFieldDescriptor (TX5 k).2.2.1 = some (tyX5 k) := by decide +kernel
abbrev cX5_init : ByteArray := prog_1_method_1_code
def yX5_init : MethodName := ⟨RX5, "<init>", "()V"⟩
abbrev cX5_set : ByteArray := prog_1_method_2_code
def yX5_set : MethodName := ⟨RX5, "set", "(IIII)I"⟩
abbrev cX5_special : ByteArray := prog_1_method_3_code
def yX5_special : MethodName := ⟨RX5, "special", "(III)I"⟩
abbrev cX5_constant : ByteArray := prog_1_method_4_code
def yX5_constant : MethodName := ⟨RX5, "constant", "(III)I"⟩
abbrev cX5_constantSpecial : ByteArray := prog_1_method_5_code
def yX5_constantSpecial : MethodName := ⟨RX5, "constantSpecial", "(II)I"⟩
abbrev cX5_formula : ByteArray := prog_1_method_6_code
def yX5_formula : MethodName := ⟨RX5, "formula", "(IIIII)I"⟩
abbrev cX5_input : ByteArray := prog_1_method_7_code
def yX5_input : MethodName := ⟨RX5, "input", "(I)I"⟩
abbrev cX5_width : ByteArray := prog_1_method_8_code
def yX5_width : MethodName := ⟨RX5, "width", "(IZ)I"⟩
abbrev cX5_back : ByteArray := prog_1_method_9_code
def yX5_back : MethodName := ⟨RX5, "back", "()I"⟩
abbrev cX5_alarm : ByteArray := prog_1_method_10_code
def yX5_alarm : MethodName := ⟨RX5, "alarm", "(III)I"⟩
abbrev cX5_ring : ByteArray := prog_1_method_11_code
def yX5_ring : MethodName := ⟨RX5, "ring", "()I"⟩
abbrev cX5_reading : ByteArray := prog_1_method_12_code
def yX5_reading : MethodName := ⟨RX5, "reading", "(II)D"⟩
abbrev cX5_isBlank : ByteArray := prog_1_method_13_code
def yX5_isBlank : MethodName := ⟨RX5, "isBlank", "(II)Z"⟩
abbrev cX5_isMinus : ByteArray := prog_1_method_14_code
def yX5_isMinus : MethodName := ⟨RX5, "isMinus", "(II)Z"⟩
abbrev cX5_bits : ByteArray := prog_1_method_15_code
def yX5_bits : MethodName := ⟨RX5, "bits", "(II)J"⟩
abbrev cX5_compared : ByteArray := prog_1_method_16_code
def yX5_compared : MethodName := ⟨RX5, "compared", "(III)I"⟩
abbrev cX5_alarmed : ByteArray := prog_1_method_17_code
def yX5_alarmed : MethodName := ⟨RX5, "alarmed", "(II)I"⟩
abbrev cX5_told : ByteArray := prog_1_method_18_code
def yX5_told : MethodName := ⟨RX5, "told", "(II)I"⟩
abbrev cX5_toldOfBook : ByteArray := prog_1_method_19_code
def yX5_toldOfBook : MethodName := ⟨RX5, "toldOfBook", "(I)I"⟩
abbrev cX5_toldOfColumn : ByteArray := prog_1_method_20_code
def yX5_toldOfColumn : MethodName := ⟨RX5, "toldOfColumn", "(LTideBook$Row;I)I"⟩
abbrev cX5_isColumn : ByteArray := prog_1_method_21_code
def yX5_isColumn : MethodName := ⟨RX5, "isColumn", "(I)Z"⟩
abbrev cX5_isPlace : ByteArray := prog_1_method_22_code
def yX5_isPlace : MethodName := ⟨RX5, "isPlace", "(I)Z"⟩
abbrev cX5_isConstant : ByteArray := prog_1_method_23_code
def yX5_isConstant : MethodName := ⟨RX5, "isConstant", "(I)Z"⟩
abbrev cX5_isComparison : ByteArray := prog_1_method_24_code
def yX5_isComparison : MethodName := ⟨RX5, "isComparison", "(I)Z"⟩
abbrev cX5_isExponent : ByteArray := prog_1_method_25_code
def yX5_isExponent : MethodName := ⟨RX5, "isExponent", "(I)Z"⟩
abbrev cX5_isSpecial : ByteArray := prog_1_method_26_code
def yX5_isSpecial : MethodName := ⟨RX5, "isSpecial", "(I)Z"⟩
abbrev cX5_isFull : ByteArray := prog_1_method_27_code
def yX5_isFull : MethodName := ⟨RX5, "isFull", "()Z"⟩
abbrev cX5_takesReading : ByteArray := prog_1_method_28_code
def yX5_takesReading : MethodName := ⟨RX5, "takesReading", "(II)Z"⟩
abbrev cX5_isNumber : ByteArray := prog_1_method_29_code
def yX5_isNumber : MethodName := ⟨RX5, "isNumber", "(II)Z"⟩
abbrev cX5_changed : ByteArray := prog_1_method_30_code
def yX5_changed : MethodName := ⟨RX5, "changed", "(I)LTideBook$Row;"⟩
abbrev cX5_putSpecial : ByteArray := prog_1_method_31_code
def yX5_putSpecial : MethodName := ⟨RX5, "putSpecial", "(LTideBook$Row;II)V"⟩
abbrev cX5_settle : ByteArray := prog_1_method_32_code
def yX5_settle : MethodName := ⟨RX5, "settle", "()V"⟩
abbrev cX5_placesWhere : ByteArray := prog_1_method_33_code
def yX5_placesWhere : MethodName := ⟨RX5, "placesWhere", "(III)I"⟩
abbrev cX5_isSo : ByteArray := prog_1_method_34_code
def yX5_isSo : MethodName := ⟨RX5, "isSo", "(ILTideBook$Row;ILTideBook$Row;I)Z"⟩
abbrev cX5_isSoOfNumbers : ByteArray := prog_1_method_35_code
def yX5_isSoOfNumbers : MethodName := ⟨RX5, "isSoOfNumbers", "(IDD)Z"⟩
abbrev cX5_hasMinus : ByteArray := prog_1_method_36_code
def yX5_hasMinus : MethodName := ⟨RX5, "hasMinus", "(D)Z"⟩
abbrev cX5_isInfinite : ByteArray := prog_1_method_37_code
def yX5_isInfinite : MethodName := ⟨RX5, "isInfinite", "(D)Z"⟩
def RX6 : String := "TideBookModel"
def TX6 : u_T := fun k => match k with
  | 0 => ("TideBookModel", "told", "[D", true)
  | 1 => ("TideBookModel", "blank", "[Z", true)
  | 2 => ("TideBookModel", "narrow", "[Z", true)
  | 3 => ("TideBookModel", "made", "[I", true)
  | 4 => ("TideBookModel", "now", "[D", true)
  | 5 => ("TideBookModel", "none", "[Z", true)
  | 6 => ("TideBookModel", "toldThen", "[D", true)
  | 7 => ("TideBookModel", "blankThen", "[Z", true)
  | 8 => ("TideBookModel", "narrowThen", "[Z", true)
  | 9 => ("TideBookModel", "madeThen", "[I", true)
  | 10 => ("TideBookModel", "changes", "I", false)
  | 11 => ("TideBookModel", "alarms", "[I", true)
  | 12 => ("TideBookModel", "held", "[I", true)
  | 13 => ("TideBookModel", "rang", "[I", true)
  | 14 => ("TideBookModel", "looked", "[Z", true)
  | 15 => ("TideBookModel", "alarmMany", "I", false)
  | 16 => ("TideBookModel", "rings", "I", false)
  | 17 => ("TideBookModel", "worth", "D", false)
  | _ => ("TideBookModel", "isNone", "Z", false)
def tyX6 : Nat → FieldType := fun k => match k with
  | 0 => .array .double
  | 1 => .array .boolean
  | 2 => .array .boolean
  | 3 => .array .int
  | 4 => .array .double
  | 5 => .array .boolean
  | 6 => .array .double
  | 7 => .array .boolean
  | 8 => .array .boolean
  | 9 => .array .int
  | 10 => .int
  | 11 => .array .int
  | 12 => .array .int
  | 13 => .array .int
  | 14 => .array .boolean
  | 15 => .int
  | 16 => .int
  | 17 => .double
  | _ => .boolean
theorem nmX6 : ∀ a, a < 19 → ∀ b, b < 19 → a ≠ b → (TX6 a).2.1 ≠ (TX6 b).2.1 := by decide +kernel
theorem tyX6_ok : ∀ k, k < 19 → parseFieldDescriptor (TX6 k).2.2.1 = some (tyX6 k) := by decide +kernel
abbrev cX6_init : ByteArray := prog_8_method_1_code
def yX6_init : MethodName := ⟨RX6, "<init>", "()V"⟩
abbrev cX6_isIn : ByteArray := prog_8_method_2_code
def yX6_isIn : MethodName := ⟨RX6, "isIn", "(III)Z"⟩
abbrev cX6_isZero : ByteArray := prog_8_method_3_code
def yX6_isZero : MethodName := ⟨RX6, "isZero", "(D)Z"⟩
abbrev cX6_isInfinite : ByteArray := prog_8_method_4_code
def yX6_isInfinite : MethodName := ⟨RX6, "isInfinite", "(D)Z"⟩
abbrev cX6_hasMinus : ByteArray := prog_8_method_5_code
def yX6_hasMinus : MethodName := ⟨RX6, "hasMinus", "(D)Z"⟩
abbrev cX6_zero : ByteArray := prog_8_method_6_code
def yX6_zero : MethodName := ⟨RX6, "zero", "(Z)D"⟩
abbrev cX6_brought : ByteArray := prog_8_method_7_code
def yX6_brought : MethodName := ⟨RX6, "brought", "(DZ)D"⟩
abbrev cX6_isLower : ByteArray := prog_8_method_8_code
def yX6_isLower : MethodName := ⟨RX6, "isLower", "(DD)Z"⟩
abbrev cX6_isSo : ByteArray := prog_8_method_9_code
def yX6_isSo : MethodName := ⟨RX6, "isSo", "(IDZDZ)Z"⟩
abbrev cX6_whole : ByteArray := prog_8_method_10_code
def yX6_whole : MethodName := ⟨RX6, "whole", "(DI)D"⟩
abbrev cX6_sum : ByteArray := prog_8_method_11_code
def yX6_sum : MethodName := ⟨RX6, "sum", "(DDZ)D"⟩
abbrev cX6_product : ByteArray := prog_8_method_12_code
def yX6_product : MethodName := ⟨RX6, "product", "(DDZ)D"⟩
abbrev cX6_quotient : ByteArray := prog_8_method_13_code
def yX6_quotient : MethodName := ⟨RX6, "quotient", "(DDZ)D"⟩
abbrev cX6_power : ByteArray := prog_8_method_14_code
def yX6_power : MethodName := ⟨RX6, "power", "(II)D"⟩
abbrev cX6_gives : ByteArray := prog_8_method_15_code
def yX6_gives : MethodName := ⟨RX6, "gives", "(D)V"⟩
abbrev cX6_givesNothing : ByteArray := prog_8_method_16_code
def yX6_givesNothing : MethodName := ⟨RX6, "givesNothing", "()V"⟩
abbrev cX6_at : ByteArray := prog_8_method_17_code
def yX6_at : MethodName := ⟨RX6, "at", "(II)I"⟩
abbrev cX6_single : ByteArray := prog_8_method_18_code
def yX6_single : MethodName := ⟨RX6, "single", "(IDZ)V"⟩
abbrev cX6_difference : ByteArray := prog_8_method_19_code
def yX6_difference : MethodName := ⟨RX6, "difference", "(DDZ)V"⟩
abbrev cX6_both : ByteArray := prog_8_method_20_code
def yX6_both : MethodName := ⟨RX6, "both", "(IDDZ)V"⟩
abbrev cX6_x : ByteArray := prog_8_method_21_code
def yX6_x : MethodName := ⟨RX6, "x", "(II)D"⟩
abbrev cX6_noX : ByteArray := prog_8_method_22_code
def yX6_noX : MethodName := ⟨RX6, "noX", "(II)Z"⟩
abbrev cX6_y : ByteArray := prog_8_method_23_code
def yX6_y : MethodName := ⟨RX6, "y", "(II)D"⟩
abbrev cX6_noY : ByteArray := prog_8_method_24_code
def yX6_noY : MethodName := ⟨RX6, "noY", "(II)Z"⟩
abbrev cX6_compares : ByteArray := prog_8_method_25_code
def yX6_compares : MethodName := ⟨RX6, "compares", "(II)Z"⟩
abbrev cX6_rank : ByteArray := prog_8_method_26_code
def yX6_rank : MethodName := ⟨RX6, "rank", "(IIII)I"⟩
abbrev cX6_ranked : ByteArray := prog_8_method_27_code
def yX6_ranked : MethodName := ⟨RX6, "ranked", "(IIII)V"⟩
abbrev cX6_manyX : ByteArray := prog_8_method_28_code
def yX6_manyX : MethodName := ⟨RX6, "manyX", "(III)I"⟩
abbrev cX6_lessThan : ByteArray := prog_8_method_29_code
def yX6_lessThan : MethodName := ⟨RX6, "lessThan", "(II)I"⟩
abbrev cX6_manySo : ByteArray := prog_8_method_30_code
def yX6_manySo : MethodName := ⟨RX6, "manySo", "(II)I"⟩
abbrev cX6_reckon : ByteArray := prog_8_method_31_code
def yX6_reckon : MethodName := ⟨RX6, "reckon", "(II)V"⟩
abbrev cX6_reckonAll : ByteArray := prog_8_method_32_code
def yX6_reckonAll : MethodName := ⟨RX6, "reckonAll", "()V"⟩
abbrev cX6_changed : ByteArray := prog_8_method_33_code
def yX6_changed : MethodName := ⟨RX6, "changed", "()I"⟩
abbrev cX6_picture : ByteArray := prog_8_method_34_code
def yX6_picture : MethodName := ⟨RX6, "picture", "()V"⟩
abbrev cX6_back : ByteArray := prog_8_method_35_code
def yX6_back : MethodName := ⟨RX6, "back", "()I"⟩
abbrev cX6_canSet : ByteArray := prog_8_method_36_code
def yX6_canSet : MethodName := ⟨RX6, "canSet", "(II)Z"⟩
abbrev cX6_put : ByteArray := prog_8_method_37_code
def yX6_put : MethodName := ⟨RX6, "put", "(ID)V"⟩
abbrev cX6_putSpecial : ByteArray := prog_8_method_38_code
def yX6_putSpecial : MethodName := ⟨RX6, "putSpecial", "(IIZ)V"⟩
abbrev cX6_set : ByteArray := prog_8_method_39_code
def yX6_set : MethodName := ⟨RX6, "set", "(IIII)I"⟩
abbrev cX6_special : ByteArray := prog_8_method_40_code
def yX6_special : MethodName := ⟨RX6, "special", "(III)I"⟩
abbrev cX6_constant : ByteArray := prog_8_method_41_code
def yX6_constant : MethodName := ⟨RX6, "constant", "(III)I"⟩
abbrev cX6_constantSpecial : ByteArray := prog_8_method_42_code
def yX6_constantSpecial : MethodName := ⟨RX6, "constantSpecial", "(II)I"⟩
abbrev cX6_formula : ByteArray := prog_8_method_43_code
def yX6_formula : MethodName := ⟨RX6, "formula", "(IIIII)I"⟩
abbrev cX6_input : ByteArray := prog_8_method_44_code
def yX6_input : MethodName := ⟨RX6, "input", "(I)I"⟩
abbrev cX6_width : ByteArray := prog_8_method_45_code
def yX6_width : MethodName := ⟨RX6, "width", "(IZ)I"⟩
abbrev cX6_alarm : ByteArray := prog_8_method_46_code
def yX6_alarm : MethodName := ⟨RX6, "alarm", "(III)I"⟩
abbrev cX6_holds : ByteArray := prog_8_method_47_code
def yX6_holds : MethodName := ⟨RX6, "holds", "(II)Z"⟩
abbrev cX6_manyBits : ByteArray := prog_8_method_48_code
def yX6_manyBits : MethodName := ⟨RX6, "manyBits", "(I)I"⟩
abbrev cX6_ring : ByteArray := prog_8_method_49_code
def yX6_ring : MethodName := ⟨RX6, "ring", "()I"⟩
abbrev cX6_alarmed : ByteArray := prog_8_method_50_code
def yX6_alarmed : MethodName := ⟨RX6, "alarmed", "(II)I"⟩
abbrev cX6_isThere : ByteArray := prog_8_method_51_code
def yX6_isThere : MethodName := ⟨RX6, "isThere", "(II)Z"⟩
abbrev cX6_reading : ByteArray := prog_8_method_52_code
def yX6_reading : MethodName := ⟨RX6, "reading", "(II)D"⟩
abbrev cX6_isBlank : ByteArray := prog_8_method_53_code
def yX6_isBlank : MethodName := ⟨RX6, "isBlank", "(II)Z"⟩
abbrev cX6_isMinus : ByteArray := prog_8_method_54_code
def yX6_isMinus : MethodName := ⟨RX6, "isMinus", "(II)Z"⟩
abbrev cX6_digits : ByteArray := prog_8_method_55_code
def yX6_digits : MethodName := ⟨RX6, "digits", "(DIII)J"⟩
abbrev cX6_bits : ByteArray := prog_8_method_56_code
def yX6_bits : MethodName := ⟨RX6, "bits", "(II)J"⟩
abbrev cX6_compared : ByteArray := prog_8_method_57_code
def yX6_compared : MethodName := ⟨RX6, "compared", "(III)I"⟩
abbrev cX6_told : ByteArray := prog_8_method_58_code
def yX6_told : MethodName := ⟨RX6, "told", "(II)I"⟩
def RJ6 : String := "java/lang/Integer"
abbrev cJ6_bitCount_0f7a4 : ByteArray := prog_9_method_49_code
def yJ6_bitCount_0f7a4 : MethodName := ⟨RJ6, "bitCount", "(I)I"⟩
def RJ10 : String := "java/lang/System"
def RL : String := "TideBookLaw"
abbrev cL_law : ByteArray := code
def yL_law : MethodName := ⟨RL, "law", "([I)Z"⟩
abbrev vwCl : List vw_C := [(RX0, TX0, 6), (RX1, TX1, 3), (RX2, TX2, 5), (RX3, TX3, 7), (RX4, TX4, 2), (RX5, TX5, 8), (RX6, TX6, 19)]
end
section
/-! ===== THE HEAP AS A MAP: address to entry, and its size. An array's entry bears the number of its kind (0 double, 1 int, 2 boolean, 3 Row, 4 Alarm) where the kit's bears its class ===== -/
abbrev hm : Type := (Nat → Option va_E) × Nat
abbrev hX : Type := Nat × va_G × (Nat → ClassId)
def hA (X : hX) : Nat → Prop := fun q => X.1 ≤ q
def htr (dA : Nat → ClassId) (e : va_E) : va_E := match e with
  | .inl (k, a) => .inl (dA k, a)
  | .inr o => .inr o
def hp (X : hX) (M : hm) (H : Heap) : Prop := M.2 = H.size ∧ ∀ (a : Nat) (e : va_E), M.1 a = some e → X.1 ≤ a ∧ va_at X.2.1 vwCl (a, htr X.2.2 e) H
def hty (X : hX) : List (ClassId × FieldType) := [(X.2.2 0, .double), (X.2.2 1, .int), (X.2.2 2, .boolean), (X.2.2 3, .object RX3), (X.2.2 4, .object RX0)]
def hnw : List Cond := [.methodLinkNest RX2 134 yX5_hasMinus RX5, .methodLinkNest RX2 107 yX5_isInfinite RX5, .methodLinkNest RX2 97 yX5_isSo RX5, .methodLinkNest RX4 20 yX5_hasMinus RX5, .methodLinkNest RX4 28 yX5_isInfinite RX5]
def hKn (U : State) : Prop := va_Nw (.methodLinkNest RX2 134 yX5_hasMinus RX5) U ∧ va_Nw (.methodLinkNest RX2 107 yX5_isInfinite RX5) U ∧ va_Nw (.methodLinkNest RX2 97 yX5_isSo RX5) U ∧ va_Nw (.methodLinkNest RX4 20 yX5_hasMinus RX5) U ∧ va_Nw (.methodLinkNest RX4 28 yX5_isInfinite RX5) U
def hK (X : hX) (U : State) : Prop := va_K X.2.1 vwCl (hty X) U ∧ hKn U ∧ va_AO RX3 U ∧ va_AO RX0 U
theorem hK.warm {X : hX} {s U : State} (h : hK X s) (hW : s.WarmedH U.vm) : hK X U :=
  ⟨va_K.moved hW.alike h.1, ⟨va_Nw.warmM hW h.2.1.1, va_Nw.warmM hW h.2.1.2.1, va_Nw.warmM hW h.2.1.2.2.1, va_Nw.warmM hW h.2.1.2.2.2.1, va_Nw.warmM hW h.2.1.2.2.2.2⟩, va_AO.moved hW.alike h.2.2.1, va_AO.moved hW.alike h.2.2.2⟩
def hu (M : hm) (a : Nat) (e : va_E) : hm := (fun j => if j = a then some e else M.1 j, M.2)
def hnew (M : hm) (e : va_E) : hm := (fun j => if j = M.2 then some e else M.1 j, M.2 + 1)
theorem hu_s {M : hm} {a : Nat} {e : va_E} : (hu M a e).1 a = some e := by simp [hu]
theorem hu_n {M : hm} {a b : Nat} {e : va_E} (h : b ≠ a) : (hu M a e).1 b = M.1 b := by simp [hu, h]
theorem hp.set {X : hX} {M : hm} {H H1 : Heap} {a : Nat} {e : va_E} (h : hp X M H) (ha : X.1 ≤ a) (hs : H1.size = H.size) (he : va_at X.2.1 vwCl (a, htr X.2.2 e) H1) (oq : ∀ q : Nat, q ≠ a → H1[q]? = H[q]?) : hp X (hu M a e) H1 := by
  refine ⟨by rw [hs]; exact h.1, fun b x hx => ?_⟩
  by_cases hb : b = a
  · subst hb
    rw [hu_s] at hx
    cases hx
    exact ⟨ha, he⟩
  · rw [hu_n hb] at hx
    exact ⟨(h.2 b x hx).1, ((h.2 b x hx).2).kept (oq b hb)⟩
theorem hp.push {X : hX} {M : hm} {H H1 : Heap} {e : va_E} (h : hp X M H) (ha : X.1 ≤ H.size) (hs : H1.size = H.size + 1) (he : va_at X.2.1 vwCl (H.size, htr X.2.2 e) H1) (oq : ∀ q : Nat, q < H.size → H1[q]? = H[q]?) : hp X (hnew M e) H1 := by
  refine ⟨by show M.2 + 1 = _; rw [hs, h.1], fun b x hx => ?_⟩
  by_cases hb : b = M.2
  · subst hb
    simp only [hnew, if_pos] at hx
    cases hx
    rw [h.1]
    exact ⟨ha, he⟩
  · simp only [hnew, if_neg hb] at hx
    have hl := ((h.2 b x hx).2).lt
    exact ⟨(h.2 b x hx).1, ((h.2 b x hx).2).kept (oq b hl)⟩
/-! what is read and written, as functions: none where the machine would throw -/
def fO (M : hm) (a ci : Nat) : Option (List Value) := match M.1 a with
  | some (.inr (c, fs)) => if c = ci then some fs else none
  | _ => none
def fA (M : hm) (a k : Nat) : Option vp_A := match M.1 a with
  | some (.inl (c, x)) => if c = k then some x else none
  | _ => none
theorem fO_eq {M : hm} {a ci : Nat} {fs : List Value} (h : fO M a ci = some fs) : M.1 a = some (.inr (ci, fs)) := by
  unfold fO at h
  split at h
  · split at h
    · cases h; subst_vars; assumption
    · cases h
  · cases h
theorem fA_eq {M : hm} {a k : Nat} {x : vp_A} (h : fA M a k = some x) : M.1 a = some (.inl (k, x)) := by
  unfold fA at h
  split at h
  · split at h
    · cases h; subst_vars; assumption
    · cases h
  · cases h
def vI (v : Option Value) : Option Int32 := match v with
  | some (.int x) => some x
  | _ => none
def vD (v : Option Value) : Option UInt64 := match v with
  | some (.double x) => some x
  | _ => none
def vR (v : Option Value) : Option (Option Nat) := match v with
  | some (.ref x) => some (some x)
  | some .null => some none
  | _ => none
theorem vI_eq {v : Option Value} {x : Int32} (h : vI v = some x) : v = some (.int x) := by
  unfold vI at h
  split at h
  · cases h; rfl
  · cases h
theorem vD_eq {v : Option Value} {x : UInt64} (h : vD v = some x) : v = some (.double x) := by
  unfold vD at h
  split at h
  · cases h; rfl
  · cases h
theorem vR_eq {v : Option Value} {x : Option Nat} (h : vR v = some x) : v = some (va_rf x) := by
  unfold vR at h
  split at h
  · cases h; rfl
  · cases h; rfl
  · cases h
def gI (M : hm) (a ci k : Nat) : Option Int32 := (fO M a ci).bind fun fs => vI fs[k]?
def gD (M : hm) (a ci k : Nat) : Option UInt64 := (fO M a ci).bind fun fs => vD fs[k]?
def gR (M : hm) (a ci k : Nat) : Option (Option Nat) := (fO M a ci).bind fun fs => vR fs[k]?
def pV (M : hm) (a ci k : Nat) (v : Value) : Option hm := (fO M a ci).bind fun fs => if k < fs.length then some (hu M a (.inr (ci, fs.set k v))) else none
def isO (M : hm) (a ci : Nat) : Option Unit := (fO M a ci).map fun _ => ()
def aix (i : Int32) (n : Nat) : Option Nat := if i < 0 ∨ n ≤ i.toNatClampNeg then none else some i.toNatClampNeg
theorem aix_eq {i : Int32} {n j : Nat} (h : aix i n = some j) : vp_in i n ∧ j = i.toNatClampNeg := by
  unfold aix at h
  split at h
  · cases h
  · cases h; exact ⟨by assumption, rfl⟩
def pD (x : vp_A) : Option (Nat × (Nat → UInt64)) := match x with
  | (n, .inr (.inr (.inr (.inl f)))) => some (n, f)
  | _ => none
def pI (x : vp_A) : Option (Nat × (Nat → Int32)) := match x with
  | (n, .inl f) => some (n, f)
  | _ => none
def pR (x : vp_A) : Option (Nat × (Nat → Option Nat)) := match x with
  | (n, .inr (.inr (.inr (.inr f)))) => some (n, f)
  | _ => none
theorem pD_eq {x : vp_A} {q : Nat × (Nat → UInt64)} (h : pD x = some q) : x = (q.1, .inr (.inr (.inr (.inl q.2)))) := by
  unfold pD at h
  split at h
  · cases h; rfl
  · cases h
theorem pI_eq {x : vp_A} {q : Nat × (Nat → Int32)} (h : pI x = some q) : x = (q.1, .inl q.2) := by
  unfold pI at h
  split at h
  · cases h; rfl
  · cases h
theorem pR_eq {x : vp_A} {q : Nat × (Nat → Option Nat)} (h : pR x = some q) : x = (q.1, .inr (.inr (.inr (.inr q.2)))) := by
  unfold pR at h
  split at h
  · cases h; rfl
  · cases h
def fD (M : hm) (a : Nat) : Option (Nat × (Nat → UInt64)) := (fA M a 0).bind pD
def fI (M : hm) (a k : Nat) : Option (Nat × (Nat → Int32)) := (fA M a k).bind pI
def fR (M : hm) (a k : Nat) : Option (Nat × (Nat → Option Nat)) := (fA M a k).bind pR
theorem fD_eq {M : hm} {a : Nat} {q : Nat × (Nat → UInt64)} (h : fD M a = some q) : M.1 a = some (.inl (0, q.1, .inr (.inr (.inr (.inl q.2))))) := by
  obtain ⟨x, h1, h2⟩ := Option.bind_eq_some_iff.mp h
  rw [fA_eq h1, pD_eq h2]
theorem fI_eq {M : hm} {a k : Nat} {q : Nat × (Nat → Int32)} (h : fI M a k = some q) : M.1 a = some (.inl (k, q.1, .inl q.2)) := by
  obtain ⟨x, h1, h2⟩ := Option.bind_eq_some_iff.mp h
  rw [fA_eq h1, pI_eq h2]
theorem fR_eq {M : hm} {a k : Nat} {q : Nat × (Nat → Option Nat)} (h : fR M a k = some q) : M.1 a = some (.inl (k, q.1, .inr (.inr (.inr (.inr q.2))))) := by
  obtain ⟨x, h1, h2⟩ := Option.bind_eq_some_iff.mp h
  rw [fA_eq h1, pR_eq h2]
def aD (M : hm) (a : Nat) (i : Int32) : Option UInt64 := (fD M a).bind fun q => (aix i q.1).bind fun j => some (q.2 j)
def aI (M : hm) (a k : Nat) (i : Int32) : Option Int32 := (fI M a k).bind fun q => (aix i q.1).bind fun j => some (q.2 j)
def aR (M : hm) (a k : Nat) (i : Int32) : Option (Option Nat) := (fR M a k).bind fun q => (aix i q.1).bind fun j => some (q.2 j)
def sD (M : hm) (a : Nat) (i : Int32) (v : UInt64) : Option hm := (fD M a).bind fun q => (aix i q.1).bind fun j => some (hu M a (.inl (0, q.1, .inr (.inr (.inr (.inl (vf_upd q.2 j v)))))))
def sI (M : hm) (a : Nat) (i : Int32) (v : Int32) : Option hm := (fI M a 1).bind fun q => (aix i q.1).bind fun j => some (hu M a (.inl (1, q.1, .inl (upd q.2 j v))))
def sZ (M : hm) (a : Nat) (i : Int32) (v : Int32) : Option hm := (fI M a 2).bind fun q => (aix i q.1).bind fun j => some (hu M a (.inl (2, q.1, .inl (upd q.2 j (vp_nar .boolean v)))))
def oR (M : hm) (v : Option Nat) (ci : Nat) : Option Unit := match v with
  | none => some ()
  | some b => isO M b ci
def sR (M : hm) (a k ci : Nat) (i : Int32) (v : Option Nat) : Option hm := (oR M v ci).bind fun _ => (fR M a k).bind fun q => (aix i q.1).bind fun j => some (hu M a (.inl (k, q.1, .inr (.inr (.inr (.inr (va_up q.2 j v)))))))
def n64 (r : UInt64) : Option UInt64 := if r &&& 0x7fffffffffffffff ≤ 0x7ff0000000000000 then some r else none
def n32 (r : UInt32) : Option UInt32 := if r &&& 0x7fffffff ≤ 0x7f800000 then some r else none
theorem n64_eq {r v : UInt64} (h : n64 r = some v) : vf_n64 r ∧ v = r := by
  unfold n64 at h
  split at h
  · cases h; exact ⟨by assumption, rfl⟩
  · cases h
theorem n32_eq {r v : UInt32} (h : n32 r = some v) : vf_n32 r ∧ v = r := by
  unfold n32 at h
  split at h
  · cases h; exact ⟨by assumption, rfl⟩
  · cases h
def zb (v : Int32) : Option Int32 := if v = 0 ∨ v = 1 then some v else none
theorem zb_eq {v r : Int32} (h : zb v = some r) : (v = 0 ∨ v = 1) ∧ r = v := by
  unfold zb at h
  split at h
  · cases h; exact ⟨by assumption, rfl⟩
  · cases h
theorem zb_nar {v : Int32} (h : v = 0 ∨ v = 1) : narrow .boolean (.int v) = .int v ∧ fits .boolean (.int v) = true := by
  rcases h with rfl | rfl <;> exact ⟨by decide, by decide⟩
def hcp (M : hm) (a : Nat) (sp : Int32) (b : Nat) (dp n : Int32) : Option hm := (fD M a).bind fun q => (fD M b).bind fun q2 => if ¬ sp < 0 ∧ ¬ dp < 0 ∧ ¬ n < 0 ∧ sp.toNatClampNeg + n.toNatClampNeg ≤ q.1 ∧ dp.toNatClampNeg + n.toNatClampNeg ≤ q2.1 then some (hu M b (.inl (0, q2.1, .inr (.inr (.inr (.inl (va_cpy q.2 q2.2 sp.toNatClampNeg dp.toNatClampNeg n.toNatClampNeg))))))) else none
def nO (M : hm) (ci : Nat) (fs : List Value) : Option (hm × Nat) := some (hnew M (.inr (ci, fs)), M.2)
def nA (M : hm) (k : Nat) (a : vp_A) : Option (hm × Nat) := some (hnew M (.inl (k, a)), M.2)
theorem if_t {α : Type} {c : Prop} [Decidable c] {a b R : α} (h : c) (hj : (if c then a else b) = R) : a = R := by rwa [if_pos h] at hj
theorem if_f {α : Type} {c : Prop} [Decidable c] {a b R : α} (h : ¬ c) (hj : (if c then a else b) = R) : b = R := by rwa [if_neg h] at hj
theorem if_n {α : Type} {c : Prop} [Decidable c] {b : Option α} {R : α} (hj : (if c then none else b) = some R) : ¬ c := by
  intro h
  rw [if_pos h] at hj
  cases hj
theorem no_zero {α : Type} {R : α} {P : Prop} (h : (none : Option α) = some R) : P := nomatch h
theorem cat_rf (r : Option Nat) : (va_rf r).category = 1 := by cases r <;> rfl
theorem nar_rf (C : String) (r : Option Nat) : narrow (.object C) (va_rf r) = va_rf r ∧ fits (.object C) (va_rf r) = true := by cases r <;> exact ⟨rfl, rfl⟩
theorem nar_ra (t : FieldType) (r : Option Nat) : narrow (.array t) (va_rf r) = va_rf r ∧ fits (.array t) (va_rf r) = true := by cases r <;> exact ⟨rfl, rfl⟩
theorem sw_step {a b : Int} (h : b ≥ a) (hn : b ≠ a) : b ≥ a + 1 := by omega
theorem sw_ne {x v : Int32} {k : Int} (h : ¬ x = v) (hv : v.toInt = k) : x.toInt ≠ k := fun e => h (Int32.toInt_inj.mp (e.trans hv.symm))
theorem sw_nt {x v : Int32} {k : Int} (h : ¬ x = v) (hv : v.toInt = k) : (x.toInt = k) = False := eq_false (sw_ne h hv)
/-! the words: all good ones of the tables -/
def wG : List Cond := lw_tbl.filter goodWord
theorem wG_of {w : Cond} (h : w ∈ lw_tbl) (hg : goodWord w = true) : w ∈ wG := List.mem_filter.mpr ⟨h, hg⟩
theorem wG_t {w : Cond} (h : w ∈ tables_1) (hg : goodWord w = true) : w ∈ wG := wG_of (List.mem_append_right _ h) hg
theorem wG_p {q : MethodName × Nat} (h : q ∈ lw_privs) (hg : goodWord (Cond.selects q.1.cls q.1 q.1) = true) : Cond.selects q.1.cls q.1 q.1 ∈ wG := wG_of (List.mem_append_left _ (List.mem_map.mpr ⟨q, h, rfl⟩)) hg
theorem wG_good : GoodIn wG wG := fun w h => ⟨h, good_of_word (List.mem_filter.mp h).2⟩
theorem wG_c {c1 : Cond} (h : c1 ∈ wG) : GoodIn wG (c1 :: wG) := fun w hw => by
  rcases List.mem_cons.mp hw with rfl | h1
  · exact wG_good _ h
  · exact wG_good _ h1
theorem wG_V {own C : String} {idx : Nat} {y : MethodName} {c1 : Cond} (h1 : c1 ∈ wG) (h2 : Cond.methodLink own idx y ∈ wG) (h3 : Cond.instanceMethod y ∈ wG) (h4 : Cond.selects C y y ∈ wG) (h5 : Cond.initialized C ∈ wG) : GoodIn wG (wsV own idx C y (c1 :: wG)) := fun w hw => by
  unfold wsV at hw
  rcases List.mem_append.mp hw with h | h
  · simp only [List.mem_cons, List.not_mem_nil, or_false] at h
    rcases h with rfl | rfl | rfl | rfl
    · exact wG_good _ h2
    · exact wG_good _ h3
    · exact wG_good _ h4
    · exact wG_good _ h5
  · exact wG_c h1 w h
theorem wG_S {own : String} {idx : Nat} {y : MethodName} {c1 : Cond} (h1 : c1 ∈ wG) (h2 : Cond.methodLink own idx y ∈ wG) (h3 : Cond.static y ∈ wG) (h5 : Cond.initialized y.cls ∈ wG) : GoodIn wG (va_wsS own idx y (c1 :: wG)) := fun w hw => by
  unfold va_wsS at hw
  rcases List.mem_append.mp hw with h | h
  · simp only [List.mem_cons, List.not_mem_nil, or_false] at h
    rcases h with rfl | rfl | rfl
    · exact wG_good _ h2
    · exact wG_good _ h3
    · exact wG_good _ h5
  · exact wG_c h1 w h
/-! ===== rows over the map ===== -/
/-- what stays in a method: the machine, its code, the words, its class, the tables, the base -/
def CX (X : hX) (p : Program) (c : Code) (cc : ByteArray) (nL : Nat) (s : State) (m : MethodId) (args : Array Value) (own : String) : Prop := p.tables.exec = Jvm.exec ∧ c.code = cc ∧ c.maxLocals = nL ∧ s.vm.findClass own = some m.cls ∧ (∀ w ∈ wG, w.before args s = true) ∧ hK X s ∧ X.1 ≤ s.heap.size
section HR
variable {p : Program} {l : Launch} {e : Env} {R : Room} {s : State} {m : MethodId} {args : Array Value} {below : List Frame} {meth : Method} {c : Code} {H : Heap} {locs : List Loc} {cells slots : Nat} {Q : State → Prop}
variable {cc : ByteArray} {pc nL : Nat} {ls : Array Slot} {rest : List Value} {X : hX} {a : Nat} {M : hm} {H0 : Heap} {own : String}
theorem hp_one (hP : hp X M H) {e : va_E} (he : M.1 a = some e) : va_P X.2.1 vwCl [(a, htr X.2.2 e)] H := by
  intro k q hk
  cases k with
  | zero => cases hk; exact (hP.2 a e he).2
  | succ k => cases hk
theorem r_getI (cx : CX X p c cc nL s m args own) (hP : hp X M H) {ci k : Nat} {v : Int32} (hg : gI M a ci k = some v) {C : String} {T : u_T} {N index : Nat} (hin : ∀ w ∈ u_ws C T N, w ∈ wG) (hc : vwCl[ci]? = some (C, T, N)) (hk : k < N) (hlink : Cond.fieldLink own index (T k).1 (T k).2.1 (T k).2.2.1 ∈ wG) (hdg : decode cc pc = .ok (.getfield index, 3))
    (kk : W p l e R s m args below meth c H locs cells slots Q (F0 m (pc + 3) ls (.int v :: rest))) : W p l e R s m args below meth c H locs cells slots Q (F0 m pc ls (.ref a :: rest)) := by
  obtain ⟨fs, h1, h2⟩ := Option.bind_eq_some_iff.mp hg
  exact va_get cx.1 cx.2.1 cx.2.2.2.2.1 hin cx.2.2.2.1 cx.2.2.2.2.2.1.1 (hp_one hP (fO_eq h1)) 0 rfl hc k hk (cx.2.2.2.2.1 _ hlink) (fun _ h => h) (vI_eq h2) hdg kk
theorem r_getD (cx : CX X p c cc nL s m args own) (hP : hp X M H) {ci k : Nat} {v : UInt64} (hg : gD M a ci k = some v) {C : String} {T : u_T} {N index : Nat} (hin : ∀ w ∈ u_ws C T N, w ∈ wG) (hc : vwCl[ci]? = some (C, T, N)) (hk : k < N) (hlink : Cond.fieldLink own index (T k).1 (T k).2.1 (T k).2.2.1 ∈ wG) (hdg : decode cc pc = .ok (.getfield index, 3))
    (kk : W p l e R s m args below meth c H locs cells slots Q (F0 m (pc + 3) ls (.double v :: rest))) : W p l e R s m args below meth c H locs cells slots Q (F0 m pc ls (.ref a :: rest)) := by
  obtain ⟨fs, h1, h2⟩ := Option.bind_eq_some_iff.mp hg
  exact va_get cx.1 cx.2.1 cx.2.2.2.2.1 hin cx.2.2.2.1 cx.2.2.2.2.2.1.1 (hp_one hP (fO_eq h1)) 0 rfl hc k hk (cx.2.2.2.2.1 _ hlink) (fun _ h => h) (vD_eq h2) hdg kk
theorem r_getR (cx : CX X p c cc nL s m args own) (hP : hp X M H) {ci k : Nat} {v : Option Nat} (hg : gR M a ci k = some v) {C : String} {T : u_T} {N index : Nat} (hin : ∀ w ∈ u_ws C T N, w ∈ wG) (hc : vwCl[ci]? = some (C, T, N)) (hk : k < N) (hlink : Cond.fieldLink own index (T k).1 (T k).2.1 (T k).2.2.1 ∈ wG) (hdg : decode cc pc = .ok (.getfield index, 3))
    (kk : W p l e R s m args below meth c H locs cells slots Q (F0 m (pc + 3) ls (va_rf v :: rest))) : W p l e R s m args below meth c H locs cells slots Q (F0 m pc ls (.ref a :: rest)) := by
  obtain ⟨fs, h1, h2⟩ := Option.bind_eq_some_iff.mp hg
  exact va_get cx.1 cx.2.1 cx.2.2.2.2.1 hin cx.2.2.2.1 cx.2.2.2.2.2.1.1 (hp_one hP (fO_eq h1)) 0 rfl hc k hk (cx.2.2.2.2.1 _ hlink) (fun _ h => h) (vR_eq h2) hdg kk
theorem r_aldD (cx : CX X p c cc nL s m args own) (hP : hp X M H) {i : Int32} {v : UInt64} (hg : aD M a i = some v) (hdg : decode cc pc = .ok (.daload, 1))
    (kk : W p l e R s m args below meth c H locs cells slots Q (F0 m (pc + 1) ls (.double v :: rest))) : W p l e R s m args below meth c H locs cells slots Q (F0 m pc ls (.int i :: .ref a :: rest)) := by
  obtain ⟨q, h1, h2⟩ := Option.bind_eq_some_iff.mp hg
  obtain ⟨j, h3, h4⟩ := Option.bind_eq_some_iff.mp h2
  obtain ⟨h5, rfl⟩ := aix_eq h3
  cases h4
  exact va_dald cx.1 cx.2.1 cx.2.2.2.2.2.1.1 (hp_one hP (fD_eq h1)) 0 0 rfl rfl h5 hdg kk
theorem r_aldI (cx : CX X p c cc nL s m args own) (hP : hp X M H) {i : Int32} {v : Int32} (hg : aI M a 1 i = some v) (hdg : decode cc pc = .ok (.iaload, 1))
    (kk : W p l e R s m args below meth c H locs cells slots Q (F0 m (pc + 1) ls (.int v :: rest))) : W p l e R s m args below meth c H locs cells slots Q (F0 m pc ls (.int i :: .ref a :: rest)) := by
  obtain ⟨q, h1, h2⟩ := Option.bind_eq_some_iff.mp hg
  obtain ⟨j, h3, h4⟩ := Option.bind_eq_some_iff.mp h2
  obtain ⟨h5, rfl⟩ := aix_eq h3
  cases h4
  exact va_iald cx.1 cx.2.1 cx.2.2.2.2.2.1.1 (hp_one hP (fI_eq h1)) 0 1 rfl rfl h5 hdg kk
theorem r_aldZ (cx : CX X p c cc nL s m args own) (hP : hp X M H) {i : Int32} {v : Int32} (hg : aI M a 2 i = some v) (hdg : decode cc pc = .ok (.baload, 1))
    (kk : W p l e R s m args below meth c H locs cells slots Q (F0 m (pc + 1) ls (.int v :: rest))) : W p l e R s m args below meth c H locs cells slots Q (F0 m pc ls (.int i :: .ref a :: rest)) := by
  obtain ⟨q, h1, h2⟩ := Option.bind_eq_some_iff.mp hg
  obtain ⟨j, h3, h4⟩ := Option.bind_eq_some_iff.mp h2
  obtain ⟨h5, rfl⟩ := aix_eq h3
  cases h4
  exact va_zald cx.1 cx.2.1 cx.2.2.2.2.2.1.1 (hp_one hP (fI_eq h1)) 0 2 rfl rfl h5 hdg kk
theorem r_aldR (cx : CX X p c cc nL s m args own) (hP : hp X M H) {C : String} {k : Nat} (hk : (hty X)[k]? = some (X.2.2 k, .object C)) {i : Int32} {v : Option Nat} (hg : aR M a k i = some v) (hdg : decode cc pc = .ok (.aaload, 1))
    (kk : W p l e R s m args below meth c H locs cells slots Q (F0 m (pc + 1) ls (va_rf v :: rest))) : W p l e R s m args below meth c H locs cells slots Q (F0 m pc ls (.int i :: .ref a :: rest)) := by
  obtain ⟨q, h1, h2⟩ := Option.bind_eq_some_iff.mp hg
  obtain ⟨j, h3, h4⟩ := Option.bind_eq_some_iff.mp h2
  obtain ⟨h5, rfl⟩ := aix_eq h3
  cases h4
  exact va_aldq cx.1 cx.2.1 cx.2.2.2.2.2.1.1 (hp_one hP (fR_eq h1)) 0 k rfl hk h5 hdg kk
theorem r_put (cx : CX X p c cc nL s m args own) (hP : hp X M H) (hS0 : va_S (hA X) H0 H locs) {ci k : Nat} {v : Value} {M' : hm} (hg : pV M a ci k v = some M') {C : String} {T : u_T} {N index : Nat} (hin : ∀ w ∈ u_ws C T N, w ∈ wG) (ty0 : Nat → FieldType) (hty : ∀ k, k < N → parseFieldDescriptor (T k).2.2.1 = some (ty0 k)) (hnm : ∀ a, a < N → ∀ b, b < N → a ≠ b → (T a).2.1 ≠ (T b).2.1) (hc : vwCl[ci]? = some (C, T, N)) (hk : k < N) (hlink : Cond.fieldLink own index (T k).1 (T k).2.1 (T k).2.2.1 ∈ wG) (hfin : (T k).2.2.2 = false) (hn : narrow (ty0 k) v = v) (hfit : fits (ty0 k) v = true) (hdg : decode cc pc = .ok (.putfield index, 3))
    (kk : ∀ (H1 : Heap) (locs1 : List Loc), hp X M' H1 → va_S (hA X) H0 H1 locs1 → W p l e R s m args below meth c H1 locs1 cells slots Q (F0 m (pc + 3) ls rest)) : W p l e R s m args below meth c H locs cells slots Q (F0 m pc ls (v :: .ref a :: rest)) := by
  obtain ⟨fs, g1, g2⟩ := Option.bind_eq_some_iff.mp hg
  have he := fO_eq g1
  split at g2
  case isFalse => cases g2
  case isTrue hl =>
  cases g2
  have hK := cx.2.2.2.2.2.1.1
  have hts := cx.2.2.2.2.1
  have hap := va_apart (own := own) hts hin ty0 hty hnm hK hc
  obtain ⟨hA1, r, h1, cell, q1, q2, q3, q4⟩ := hP.2 _ _ he
  have hr : r = (C, T, N) := Option.some.inj (h1.symm.trans hc)
  subst hr
  obtain ⟨hS, hfc, kC, hkC, hkind⟩ := hK.1 ci _ hc
  obtain ⟨cf, kf, fi, f, hi, hsl⟩ := hS k hk
  have hlay := hts _ (hin _ (u_in_lay hk))
  unfold u_lay at hlay
  rw [if_neg (by rw [hfin]; decide)] at hlay
  have hst := (u_facts hfc hkC (u_lays hts hin hk) hi).1
  have h6 := u_store hfc hkC hkind hlay hi (hty k hk) hn hfit
  refine W.putK cx.1 cx.2.1 (f := f) ⟨cx.2.2.2.1, hts _ hlink, ⟨_, _, _, hi⟩, hst⟩ (by rw [q2]; exact h6) q1 q3 (by rw [hsl]; exact k2_hasslot (q4 k hk)) rfl rfl hdg fun H' e1 e2 e3 => ?_
  rw [hsl] at e1 ⊢
  exact kk H' _ (hP.set hA1 e2 ⟨_, hc, t_OB.to (V := updV (vp_V fs) k v) ⟨_, e1, q2, q3, t_set q4 hap hk v⟩ (fun j _ => vp_updV_set hl v j)⟩ e3) (hS0.put e2 e3 hA1)
theorem r_putF (cx : CX X p c cc nL s m args own) (hP : hp X M H) (hS0 : va_S (hA X) H0 H locs) {ci k : Nat} {v : Value} {M' : hm} (hg : pV M a ci k v = some M') {C : String} {T : u_T} {N index : Nat} (hin : ∀ w ∈ u_ws C T N, w ∈ wG) (ty0 : Nat → FieldType) (hty : ∀ k, k < N → parseFieldDescriptor (T k).2.2.1 = some (ty0 k)) (hnm : ∀ a, a < N → ∀ b, b < N → a ≠ b → (T a).2.1 ≠ (T b).2.1) (hc : vwCl[ci]? = some (C, T, N)) (hk : k < N) (hlink : Cond.fieldLink own index (T k).1 (T k).2.1 (T k).2.2.1 ∈ wG) (hfin : (T k).2.2.2 = true) (hin2 : meth.name = "<init>") (hdecl : (T k).1 = own) (hn : narrow (ty0 k) v = v) (hfit : fits (ty0 k) v = true) (hdg : decode cc pc = .ok (.putfield index, 3))
    (kk : ∀ (H1 : Heap) (locs1 : List Loc), hp X M' H1 → va_S (hA X) H0 H1 locs1 → W p l e R s m args below meth c H1 locs1 cells slots Q (F0 m (pc + 3) ls rest)) : W p l e R s m args below meth c H locs cells slots Q (F0 m pc ls (v :: .ref a :: rest)) := by
  obtain ⟨fs, g1, g2⟩ := Option.bind_eq_some_iff.mp hg
  have he := fO_eq g1
  split at g2
  case isFalse => cases g2
  case isTrue hl =>
  cases g2
  have hK := cx.2.2.2.2.2.1.1
  have hts := cx.2.2.2.2.1
  have hap := va_apart (own := own) hts hin ty0 hty hnm hK hc
  obtain ⟨hA1, r, h1, cell, q1, q2, q3, q4⟩ := hP.2 _ _ he
  have hr : r = (C, T, N) := Option.some.inj (h1.symm.trans hc)
  subst hr
  obtain ⟨hS, hfc, kC, hkC, hkind⟩ := hK.1 ci _ hc
  obtain ⟨cf, kf, fi, f, hi, hsl⟩ := hS k hk
  have hlay := hts _ (hin _ (u_in_lay hk))
  unfold u_lay at hlay
  rw [if_pos hfin] at hlay
  have hst := (u_facts hfc hkC (u_lays hts hin hk) hi).1
  have hcf : m.cls = cf := by
    obtain ⟨_, _, c', _, _, _, -, -, hf', -, -, -, hown2, -⟩ := Cond.laysFinal_spec hlay
    have e1 : c' = cf := by have := hi.symm.trans hf'; simp at this; exact this.1.symm
    rw [hdecl] at hown2
    rw [← e1]; exact Option.some.inj (cx.2.2.2.1.symm.trans hown2)
  have h6 := u_fits hfc hkC hkind (Or.inr hlay) hi (hty k hk) hn hfit
  refine W.putFinK cx.1 cx.2.1 cx.2.2.2.1 (hts _ hlink) hi hst hcf hin2 (by rw [q2]; exact h6) q1 q3 (by rw [hsl]; exact k2_hasslot (q4 k hk)) rfl rfl hdg fun H' e1 e2 e3 => ?_
  rw [hsl] at e1 ⊢
  exact kk H' _ (hP.set hA1 e2 ⟨_, hc, t_OB.to (V := updV (vp_V fs) k v) ⟨_, e1, q2, q3, t_set q4 hap hk v⟩ (fun j _ => vp_updV_set hl v j)⟩ e3) (hS0.put e2 e3 hA1)
theorem r_astD (cx : CX X p c cc nL s m args own) (hP : hp X M H) (hS : va_S (hA X) H0 H locs) {i : Int32} {x : UInt64} {M' : hm} (hg : sD M a i x = some M') (hdg : decode cc pc = .ok (.dastore, 1))
    (kk : ∀ (H1 : Heap) (locs1 : List Loc), hp X M' H1 → va_S (hA X) H0 H1 locs1 → W p l e R s m args below meth c H1 locs1 cells slots Q (F0 m (pc + 1) ls rest)) : W p l e R s m args below meth c H locs cells slots Q (F0 m pc ls (.double x :: .int i :: .ref a :: rest)) := by
  obtain ⟨q, h1, h2⟩ := Option.bind_eq_some_iff.mp hg
  obtain ⟨j, h3, h4⟩ := Option.bind_eq_some_iff.mp h2
  obtain ⟨hin, rfl⟩ := aix_eq h3
  cases h4
  obtain ⟨n, f⟩ := q
  have he := fD_eq h1
  have hK := cx.2.2.2.2.2.1.1
  refine W.dast cx.1 cx.2.1 (hP.2 _ _ he).2 ((hK.2 0 _ rfl).1 n (fun j => .double (f j))) (fun q => by cases q) (by show ¬ (i < 0 ∨ (arrV _ _ _).slots.size ≤ _); rw [arrV_size]; exact hin) rfl rfl hdg fun H1 e1 z oq => ?_
  refine kk H1 _ (hP.set (hP.2 _ _ he).1 z ?_ oq) (hS.put z oq (hP.2 _ _ he).1)
  show H1[a]? = some (vp_cell _ _)
  rw [e1]
  rw [vp_cell_d, vp_cell_d, arrV_store]
  congr 2
  funext q
  by_cases hq : q = i.toNatClampNeg
  · subst hq
    simp [updV, vf_upd]
  · simp [updV, vf_upd, hq]
theorem r_astI (cx : CX X p c cc nL s m args own) (hP : hp X M H) (hS : va_S (hA X) H0 H locs) {i : Int32} {x : Int32} {M' : hm} (hg : sI M a i x = some M') (hdg : decode cc pc = .ok (.iastore, 1))
    (kk : ∀ (H1 : Heap) (locs1 : List Loc), hp X M' H1 → va_S (hA X) H0 H1 locs1 → W p l e R s m args below meth c H1 locs1 cells slots Q (F0 m (pc + 1) ls rest)) : W p l e R s m args below meth c H locs cells slots Q (F0 m pc ls (.int x :: .int i :: .ref a :: rest)) := by
  obtain ⟨q, h1, h2⟩ := Option.bind_eq_some_iff.mp hg
  obtain ⟨j, h3, h4⟩ := Option.bind_eq_some_iff.mp h2
  obtain ⟨hin, rfl⟩ := aix_eq h3
  cases h4
  obtain ⟨n, f⟩ := q
  have he := fI_eq h1
  have hK := cx.2.2.2.2.2.1.1
  refine W.iast cx.1 cx.2.1 (hP.2 _ _ he).2 ((hK.2 1 _ rfl).1 n (fun j => .int (f j))) (fun q => by cases q) (by show ¬ (i < 0 ∨ (arrV _ _ _).slots.size ≤ _); rw [arrV_size]; exact hin) rfl rfl hdg fun H1 e1 z oq => ?_
  refine kk H1 _ (hP.set (hP.2 _ _ he).1 z ?_ oq) (hS.put z oq (hP.2 _ _ he).1)
  show H1[a]? = some (vp_cell _ _)
  rw [e1]
  rw [vp_cell_i, vp_cell_i, arrV_store]
  congr 2
  funext q
  by_cases hq : q = i.toNatClampNeg
  · subst hq
    simp [updV, upd]
  · simp [updV, upd, hq]
theorem r_astZ (cx : CX X p c cc nL s m args own) (hP : hp X M H) (hS : va_S (hA X) H0 H locs) {i : Int32} {x : Int32} {M' : hm} (hg : sZ M a i x = some M') (hdg : decode cc pc = .ok (.bastore, 1))
    (kk : ∀ (H1 : Heap) (locs1 : List Loc), hp X M' H1 → va_S (hA X) H0 H1 locs1 → W p l e R s m args below meth c H1 locs1 cells slots Q (F0 m (pc + 1) ls rest)) : W p l e R s m args below meth c H locs cells slots Q (F0 m pc ls (.int x :: .int i :: .ref a :: rest)) := by
  obtain ⟨q, h1, h2⟩ := Option.bind_eq_some_iff.mp hg
  obtain ⟨j, h3, h4⟩ := Option.bind_eq_some_iff.mp h2
  obtain ⟨hin, rfl⟩ := aix_eq h3
  cases h4
  obtain ⟨n, f⟩ := q
  have he := fI_eq h1
  have hK := cx.2.2.2.2.2.1.1
  refine W.zast cx.1 cx.2.1 (hP.2 _ _ he).2 ((hK.2 2 _ rfl).1 n (fun j => .int (f j))) (fun q => by cases q) (by show ¬ (i < 0 ∨ (arrV _ _ _).slots.size ≤ _); rw [arrV_size]; exact hin) rfl rfl hdg fun H1 e1 z oq => ?_
  refine kk H1 _ (hP.set (hP.2 _ _ he).1 z ?_ oq) (hS.put z oq (hP.2 _ _ he).1)
  show H1[a]? = some (vp_cell _ _)
  rw [e1]
  rw [vp_cell_i, vp_cell_i, arrV_store]
  congr 2
  funext q
  by_cases hq : q = i.toNatClampNeg
  · subst hq
    simp [updV, upd, vp_nar]
    try rfl
  · simp [updV, upd, hq]
theorem r_astR (cx : CX X p c cc nL s m args own) (hP : hp X M H) (hS : va_S (hA X) H0 H locs) {k ci : Nat} {r : vw_C} (hk : (hty X)[k]? = some (X.2.2 k, .object r.1)) (hc : vwCl[ci]? = some r) {i : Int32} {v : Option Nat} {M' : hm} (hg : sR M a k ci i v = some M') (hdg : decode cc pc = .ok (.aastore, 1))
    (kk : ∀ (H1 : Heap) (locs1 : List Loc), hp X M' H1 → va_S (hA X) H0 H1 locs1 → W p l e R s m args below meth c H1 locs1 cells slots Q (F0 m (pc + 1) ls rest)) : W p l e R s m args below meth c H locs cells slots Q (F0 m pc ls (va_rf v :: .int i :: .ref a :: rest)) := by
  obtain ⟨_, h0, hg⟩ := Option.bind_eq_some_iff.mp hg
  obtain ⟨q, h1, h2⟩ := Option.bind_eq_some_iff.mp hg
  obtain ⟨j, h3, h4⟩ := Option.bind_eq_some_iff.mp h2
  obtain ⟨hin, rfl⟩ := aix_eq h3
  cases h4
  obtain ⟨n, f⟩ := q
  have he := fR_eq h1
  have hK := cx.2.2.2.2.2.1.1
  have hlt : i.toNatClampNeg < n := Nat.not_le.mp fun q => hin (Or.inr q)
  have hi0 : ¬ i < 0 := fun q => hin (Or.inl q)
  have hend : ∀ (H1 : Heap) (locs1 : List Loc), H1[a]? = some ((vp_cell (X.2.2 k) (n, .inr (.inr (.inr (.inr f))))).setSlot i.toNatClampNeg (va_rf v)) → H1.size = H.size → (∀ q, q ≠ a → H1[q]? = H[q]?) → hp X (hu M a (.inl (k, n, .inr (.inr (.inr (.inr (va_up f i.toNatClampNeg v))))))) H1 := by
    intro H1 locs1 e1 z oq
    refine hP.set (hP.2 _ _ he).1 z ?_ oq
    show H1[a]? = some (vp_cell _ _)
    rw [e1]
    rw [vp_cell_q, vp_cell_q, arrV_store]
    congr 2
    funext q
    by_cases hq : q = i.toNatClampNeg
    · subst hq
      simp [updV, va_up]
    · simp [updV, va_up, hq]
  cases v with
  | none =>
    refine va_WaastN (C := r.1) cx.1 cx.2.1 (hP.2 _ _ he).2 ((hK.2 k _ hk).1 n (fun j => va_rf (f j))) (fun h => by cases h) (by show ¬ (i < 0 ∨ (arrV _ _ _).slots.size ≤ _); rw [arrV_size]; exact hin) rfl rfl hdg fun H1 e1 z oq => ?_
    exact kk H1 _ (hend H1 [] e1 z oq) (hS.put z oq (hP.2 _ _ he).1)
  | some b =>
    obtain ⟨vs, hv0, -⟩ := Option.map_eq_some_iff.mp h0
    have hv := fO_eq hv0
    obtain ⟨-, r', hr', cellV, g1, g2, g3, -⟩ := hP.2 _ _ hv
    have hcls := (hK.1 ci r hc).2
    obtain ⟨kA, comp, k1, k2, k3, -⟩ := (hK.2 k _ hk).2
    have hcomp : comp = X.2.1.1 ci := Option.some.inj (k3.symm.trans hcls.1)
    subst hcomp
    obtain ⟨kC, hkC, -⟩ := hcls.2
    refine W.aast cx.1 cx.2.1 (hP.2 _ _ he).2 (fun q h => by cases h) (fun h => by cases h) k1 k2 rfl hkC ⟨hi0, by show _ < (arrV _ _ _).slots.size; rw [arrV_size]; exact hlt⟩ g1 (fun q h => by rw [g3] at h; cases h) (by rw [g2]; exact hkC) (by rw [g2]; exact va_assign hcls) rfl rfl hdg fun H1 e1 z oq => ?_
    exact kk H1 _ (hend H1 [] e1 z oq) (hS.put z oq (hP.2 _ _ he).1)
theorem r_new {N ci index : Nat} {fs : List Value} (cx : CX X p c cc nL s m args own) (hP : hp X M H) (hS : va_S (hA X) s.heap H locs) {q : hm × Nat} (hg : nO M ci fs = some q) {C : String} {T : u_T} (hin : ∀ w ∈ u_ws C T N, w ∈ wG) (ty : Nat → FieldType) (hty : ∀ k, k < N → parseFieldDescriptor (T k).2.2.1 = some (ty k)) (hcl : Cond.classLink own index C ∈ wG) (hinst : Cond.instantiable C N ∈ wG) (hini : Cond.initialized C ∈ wG) (hc : vwCl[ci]? = some (C, T, N)) (hfs : ∀ j, j < N → defaultValue (ty j) = vp_V fs j) (hcells : cells + 1 ≤ R.cells) (hslots : slots + N ≤ R.slots) (hdg : decode cc pc = .ok (.new index, 3))
    (kk : ∀ H1 : Heap, hp X q.1 H1 → va_S (hA X) s.heap H1 locs → W p l e R s m args below meth c H1 locs (cells + 1) (slots + N) Q (F0 m (pc + 3) ls (.ref q.2 :: rest))) : W p l e R s m args below meth c H locs cells slots Q (F0 m pc ls rest) := by
  cases hg
  have hK := cx.2.2.2.2.2.1.1
  have hts := cx.2.2.2.2.1
  have hKn := hK.1 ci _ hc
  refine W.newcK cx.1 cx.2.1 cx.2.2.2.1 (hts _ hcl) (hts _ hinst) (hts _ hini) rfl hdg hcells hslots hKn.2.1 rfl fun H1 kC hkC e1 z1 o1 => ?_
  have hb : X.1 ≤ H.size := Nat.le_trans cx.2.2.2.2.2.2 hS.1
  have h := kk H1 (hP.push hb z1 (e := .inr (ci, fs)) ⟨_, hc, (u_born ty hts hin hKn hkC e1 hty).to hfs⟩ o1) ⟨Nat.le_trans hS.1 (by omega), fun x h1 h2 => (o1 x (Nat.lt_of_lt_of_le h1 hS.1)).trans (hS.2.1 x h1 h2), hS.2.2⟩
  have e0 : (hnew M (.inr (ci, fs)), M.2).2 = H.size := hP.1
  rw [e0] at h
  exact h
/-- a reference or null, loaded and stored -/
theorem h_aload_n (hexec : p.tables.exec = Jvm.exec) (hb : c.code = cc) {k : Fin 4} {i : Nat} {x : Option Nat} (hdg : decode cc pc = .ok (.aload_n k, 1)) (hi : (k : Nat) = i) (hl : ls[i]? = some (.val (va_rf x))) (kk : W p l e R s m args below meth c H locs cells slots Q (F0 m (pc + 1) ls (va_rf x :: rest))) : W p l e R s m args below meth c H locs cells slots Q (F0 m pc ls (rest)) := by
  cases x with
  | none => exact lv_aload_nN hexec hb hdg hi hl kk
  | some b => exact lv_aload_n hexec hb hdg hi hl kk
theorem h_aload (hexec : p.tables.exec = Jvm.exec) (hb : c.code = cc) {i : Nat} {x : Option Nat} (hdg : decode cc pc = .ok (.aload i, 2)) (hl : ls[i]? = some (.val (va_rf x))) (kk : W p l e R s m args below meth c H locs cells slots Q (F0 m (pc + 2) ls (va_rf x :: rest))) : W p l e R s m args below meth c H locs cells slots Q (F0 m pc ls (rest)) := by
  cases x with
  | none => exact lv_aloadN hexec hb hdg hl kk
  | some b => exact lv_aload hexec hb hdg hl kk
theorem h_astore_n (hexec : p.tables.exec = Jvm.exec) (hb : c.code = cc) {k : Fin 4} {i nL : Nat} {x : Option Nat} {lv lv' : List (Nat × Value)} (hdg : decode cc pc = .ok (.astore_n k, 1)) (hi : (k : Nat) = i) (h : lv_has ls nL lv) (hn : i < nL) (hl : (i, va_rf x) :: lv.filter (fun q => !(q.1 == i) && !(q.1 + 1 == i && q.2.category == 2)) = lv') (kk : ∀ ls' : Array Slot, lv_has ls' nL lv' → W p l e R s m args below meth c H locs cells slots Q (F0 m (pc + 1) ls' rest)) : W p l e R s m args below meth c H locs cells slots Q (F0 m pc ls (va_rf x :: rest)) := by
  cases x with
  | none => exact lv_astore_nN hexec hb hdg hi h hn hl kk
  | some b => exact lv_astore_n hexec hb hdg hi h hn hl kk
theorem h_astore (hexec : p.tables.exec = Jvm.exec) (hb : c.code = cc) {i nL : Nat} {x : Option Nat} {lv lv' : List (Nat × Value)} (hdg : decode cc pc = .ok (.astore i, 2)) (h : lv_has ls nL lv) (hn : i < nL) (hl : (i, va_rf x) :: lv.filter (fun q => !(q.1 == i) && !(q.1 + 1 == i && q.2.category == 2)) = lv') (kk : ∀ ls' : Array Slot, lv_has ls' nL lv' → W p l e R s m args below meth c H locs cells slots Q (F0 m (pc + 2) ls' rest)) : W p l e R s m args below meth c H locs cells slots Q (F0 m pc ls (va_rf x :: rest)) := by
  cases x with
  | none => exact lv_astoreN hexec hb hdg h hn hl kk
  | some b => exact lv_astore hexec hb hdg h hn hl kk
end HR
/-! ===== new arrays, a copy; contracts, calls, entries, ends ===== -/
section HC
variable {p : Program} {l : Launch} {e : Env} {R : Room} {s : State} {m : MethodId} {args : Array Value} {below : List Frame} {meth : Method} {c : Code} {H : Heap} {locs : List Loc} {cells slots : Nat} {Q : State → Prop}
variable {cc : ByteArray} {pc nL : Nat} {ls : Array Slot} {rest : List Value} {X : hX} {a : Nat} {M : hm} {own : String}
theorem r_newA {k N : Nat} {a0 : vp_A} (cx : CX X p c cc nL s m args own) (hP : hp X M H) (hS : va_S (hA X) s.heap H locs) {q : hm × Nat} (hg : nA M k a0 = some q) {atype : ArrayType} {ty : FieldType} (hty : newarray.typeOf atype = ty) (harr : Cond.arrayClass ty ∈ wG) (hk : (hty X)[k]? = some (X.2.2 k, ty)) (hra : ∀ cA : ClassId, va_RA s cA ty → s.vm.findClass ("[" ++ ty.toString) = some cA) {n : Int32} (ha : ∀ cA : ClassId, vp_cell cA a0 = arrV cA N (fun _ => defaultValue ty)) (hn : ¬ n < 0) (hN : n.toNatClampNeg = N) (hbytes : N * componentBytes ty ≤ 536870912) (hcells : cells + 1 ≤ R.cells) (hslots : slots + N ≤ R.slots) (hdg : decode cc pc = .ok (.newarray atype, 2))
    (kk : ∀ H1 : Heap, hp X q.1 H1 → va_S (hA X) s.heap H1 locs → W p l e R s m args below meth c H1 locs (cells + 1) (slots + N) Q (F0 m (pc + 2) ls (.ref q.2 :: rest))) : W p l e R s m args below meth c H locs cells slots Q (F0 m pc ls (.int n :: rest)) := by
  cases hg
  subst hty
  have hK := cx.2.2.2.2.2.1.1
  refine va_newaK cx.1 cx.2.1 (cx.2.2.2.2.1 _ harr) rfl hdg rfl hn hN hbytes hcells hslots rfl fun H1 cA e1 z1 o1 hAr hNm => ?_
  have hcA : cA = X.2.2 k := Option.some.inj (hNm.symm.trans (hra _ (hK.2 k _ hk).2))
  subst hcA
  have hb : X.1 ≤ H.size := Nat.le_trans cx.2.2.2.2.2.2 hS.1
  have h := kk H1 (hP.push hb z1 (e := .inl (k, a0)) (by show H1[H.size]? = some (vp_cell _ _); rw [ha]; exact e1) o1) ⟨Nat.le_trans hS.1 (by omega), fun x h1 h2 => (o1 x (Nat.lt_of_lt_of_le h1 hS.1)).trans (hS.2.1 x h1 h2), hS.2.2⟩
  have e0 : (hnew M (.inl (k, a0)), M.2).2 = H.size := hP.1
  rw [e0] at h
  exact h
theorem r_newQ {k N : Nat} (cx : CX X p c cc nL s m args own) (hP : hp X M H) (hS : va_S (hA X) s.heap H locs) {q : hm × Nat} (hg : nA M k (N, .inr (.inr (.inr (.inr (fun _ => none))))) = some q) {C : String} {index : Nat} (hcl : Cond.classLink own index C ∈ wG) (hover : va_AO C s) (hk : (hty X)[k]? = some (X.2.2 k, .object C)) {n : Int32} (hn : ¬ n < 0) (hN : n.toNatClampNeg = N) (hbytes : N * 4 ≤ 536870912) (hcells : cells + 1 ≤ R.cells) (hslots : slots + N ≤ R.slots) (hdg : decode cc pc = .ok (.anewarray index, 3))
    (kk : ∀ H1 : Heap, hp X q.1 H1 → va_S (hA X) s.heap H1 locs → W p l e R s m args below meth c H1 locs (cells + 1) (slots + N) Q (F0 m (pc + 3) ls (.ref q.2 :: rest))) : W p l e R s m args below meth c H locs cells slots Q (F0 m pc ls (.int n :: rest)) := by
  cases hg
  subst hN
  have hK := cx.2.2.2.2.2.1.1
  refine W.anew cx.1 cx.2.1 cx.2.2.2.1 (cx.2.2.2.2.1 _ hcl) (va_AO.use hover) rfl hdg rfl hn hbytes hcells hslots fun cA kA comp f1 f2 f3 f4 => ?_
  generalize hH1 : H.push ({ cls := cA, slots := Array.replicate n.toNatClampNeg .null, vm := .none } : Cell) = H1
  have z1 : H1.size = H.size + 1 := by rw [← hH1, Array.size_push]
  have e1 : H1[H.size]? = some (arrV cA n.toNatClampNeg (fun _ => .null)) := by rw [← hH1, Array.getElem?_push_size, ← arrV_new]
  have o1 : ∀ q : Nat, q < H.size → H1[q]? = H[q]? := fun q hq => by rw [← hH1, Array.getElem?_push, if_neg (Nat.ne_of_lt hq)]
  obtain ⟨_, _, _, _, _, hNm⟩ := (hK.2 k _ hk).2
  have hcA : cA = X.2.2 k := Option.some.inj (f1.symm.trans hNm)
  subst hcA
  have hb : X.1 ≤ H.size := Nat.le_trans cx.2.2.2.2.2.2 hS.1
  have h := kk H1 (hP.push hb z1 (e := .inl (k, n.toNatClampNeg, .inr (.inr (.inr (.inr (fun _ => none)))))) (by show H1[H.size]? = some (vp_cell _ _); rw [vp_cell_q]; exact e1) o1) ⟨Nat.le_trans hS.1 (by omega), fun x h1 h2 => (o1 x (Nat.lt_of_lt_of_le h1 hS.1)).trans (hS.2.1 x h1 h2), hS.2.2⟩
  have e0 : (hnew M (.inl (k, n.toNatClampNeg, .inr (.inr (.inr (.inr (fun _ => none)))))), M.2).2 = H.size := hP.1
  rw [e0] at h
  exact h
theorem r_copy (cx : CX X p c cc nL s m args own) (hsz : ls.size = nL) (hP : hp X M H) (hS : va_S (hA X) s.heap H locs) {index a0 : Nat} (hlink : Cond.methodLink own index arraycopyName ∈ wG) (hnat : Cond.native arraycopyName ∈ wG) (hstat : Cond.static arraycopyName ∈ wG) (hini : Cond.initialized "java/lang/System" ∈ wG) {sp dp n : Int32} {M' : hm} (hg : hcp M a0 sp a dp n = some M') (hframes : 1 ≤ R.frames) (hlocals : (rest.map fun v => v.category).sum + 18 ≤ R.locals) (hdg : decode cc pc = .ok (.invokestatic index, 3))
    (kk : ∀ (H1 : Heap) (locs1 : List Loc), hp X M' H1 → va_S (hA X) s.heap H1 locs1 → W p l e R s m args below meth c H1 locs1 cells slots Q (F0 m (pc + 3) ls rest)) : W p l e R s m args below meth c H locs cells slots Q (F0 m pc ls (.int n :: .int dp :: .ref a :: .int sp :: .ref a0 :: rest)) := by
  obtain ⟨⟨n0, f⟩, g1, g2⟩ := Option.bind_eq_some_iff.mp hg
  obtain ⟨⟨n1, g⟩, g3, g4⟩ := Option.bind_eq_some_iff.mp g2
  split at g4
  case isFalse => cases g4
  case isTrue hh =>
  cases g4
  obtain ⟨h1, h2, h3, h4, h5⟩ := hh
  have hK := cx.2.2.2.2.2.1.1
  have hts := cx.2.2.2.2.1
  have nn : ∀ z : Int32, ¬ z < 0 → z.toInt = (z.toNatClampNeg : Int) := by
    intro z hz
    have hz0 : (0 : Int) ≤ z.toInt := by
      have := Int32.not_lt.mp hz
      simpa using Int32.le_iff_toInt_le.mp this
    show z.toInt = ((z.toInt.toNat : Nat) : Int)
    omega
  intro T hT Y
  have hc0 : H[a0]? = some (vp_cell (X.2.2 0) (n0, .inr (.inr (.inr (.inl f))))) := (hP.2 _ _ (fD_eq g1)).2
  have hc1 : H[a]? = some (vp_cell (X.2.2 0) (n1, .inr (.inr (.inr (.inl g))))) := (hP.2 _ _ (fD_eq g3)).2
  have hA1 : X.1 ≤ a := (hP.2 _ _ (fD_eq g3)).1
  obtain ⟨-, k0, hk0, cm0, hkk0⟩ := (hK.2 0 _ rfl).1 n0 (fun j => .double (f j))
  obtain ⟨-, k1, hk1, cm1, hkk1⟩ := (hK.2 0 _ rfl).1 n1 (fun j => .double (g j))
  obtain ⟨vm', Y', step⟩ := Y.arraycopy cx.1 cx.2.2.2.1 (hts _ hlink) (hts _ hnat) (hts _ hstat) (hts _ hini) (src := a0) (dst := a) (cs := vp_cell (X.2.2 0) (n0, .inr (.inr (.inr (.inl f))))) (cd := vp_cell (X.2.2 0) (n1, .inr (.inr (.inr (.inl g))))) (srcPos := sp) (destPos := dp) (n := n) (by rw [hT]; exact hc0) (by rw [hT]; exact hc1)
    (fun _ h => by cases h) (fun _ h => by cases h) (fun h => by cases h) (fun h => by cases h) hk0 hk1 hkk0 hkk1 (by simp [refKind]) h1 h2 h3
    (by rw [nn sp h1, nn n h3]; show ¬ _ > ((arrV _ n0 (fun j => .double (f j))).slots.size : Int); rw [arrV_size]; omega)
    (by rw [nn dp h2, nn n h3]; show ¬ _ > ((arrV _ n1 (fun j => .double (g j))).slots.size : Int); rw [arrV_size]; omega)
    (fun vm₁ _ i hi => by
      have e : (vp_cell (X.2.2 0) (n0, .inr (.inr (.inr (.inl f))))).slots.getD (sp.toNatClampNeg + i) .null = .double (f (sp.toNatClampNeg + i)) := by
        show (arrV _ n0 (fun j => .double (f j))).slots.getD _ _ = _
        rw [Array.getD_eq_getD_getElem?, arrV_read _ _ (by omega)]
        rfl
      refine ⟨?_, ?_⟩
      · rw [e]
        rfl
      · rw [e]
        exact trivial)
    (g := F0 m pc ls (.int n :: .int dp :: .ref a :: .int sp :: .ref a0 :: rest)) rfl (by rw [cx.2.2.1, ← hsz]) (rest := rest) rfl (by rw [cx.2.1]; exact hdg) hframes (by show 2 * 0 + _ + _ ≤ _; have hw : nativeFrameWords "java/lang/System" "arraycopy" 5 = 7 := by decide
                                                                                                                                                                                 omega)
  have e1 : copied (vp_cell (X.2.2 0) (n0, .inr (.inr (.inr (.inl f))))) (vp_cell (X.2.2 0) (n1, .inr (.inr (.inr (.inl g))))) sp dp n = vp_cell (X.2.2 0) (n1, .inr (.inr (.inr (.inl (va_cpy f g sp.toNatClampNeg dp.toNatClampNeg n.toNatClampNeg))))) := va_copied (fun z => .double z) _ _ f g h4
  rw [e1] at Y' step
  have hl : a < H.size := (Array.getElem?_eq_some_iff.mp hc1).1
  generalize hcell : vp_cell (X.2.2 0) (n1, .inr (.inr (.inr (.inl (va_cpy f g sp.toNatClampNeg dp.toNatClampNeg n.toNatClampNeg))))) = cell1 at Y' step
  have hheap : ((T.setVm vm').setCell a cell1).heap = H.setIfInBounds a cell1 := by rw [← hT]; rfl
  have oq : ∀ q : Nat, q ≠ a → (H.setIfInBounds a cell1)[q]? = H[q]? := fun q hq => by simp [Array.getElem?_setIfInBounds, Ne.symm hq]
  obtain ⟨t, a1, b1⟩ := kk _ _ (hP.set hA1 (by simp) (show (H.setIfInBounds a cell1)[a]? = some _ by rw [← hcell]; simp [Array.getElem?_setIfInBounds, hl]; rfl) oq) ⟨by simp; exact hS.1, fun q g1 g2 => by
      rw [oq q (fun e => g2 (by rw [e]; exact hA1))]
      exact hS.2.1 q g1 g2, fun q hq => by
      rcases List.mem_append.mp hq with h | h
      · exact hS.2.2 q h
      · obtain ⟨z, -, hz⟩ := List.mem_map.mp h
        rw [← hz]
        exact hA1⟩ _ hheap Y'
  exact ⟨t, step t a1, b1⟩
end HC
/-- a contract's start and ends: the map before, and the map and the answer behind, are just these -/
def hPre (X : hX) (M : hm) (U : State) : Prop := X.1 ≤ U.heap.size ∧ hp X M U.heap ∧ hK X U
theorem hK.same {X : hX} {s U : State} (h : hK X s) (e : s.vm = U.vm) : hK X U :=
  ⟨va_K.moved (e ▸ Vm.Alike.refl s.vm) h.1, ⟨va_Nw.same rfl e h.2.1.1, va_Nw.same rfl e h.2.1.2.1, va_Nw.same rfl e h.2.1.2.2.1, va_Nw.same rfl e h.2.1.2.2.2.1, va_Nw.same rfl e h.2.1.2.2.2.2⟩, va_AO.moved (e ▸ Vm.Alike.refl s.vm) h.2.2.1, va_AO.moved (e ▸ Vm.Alike.refl s.vm) h.2.2.2⟩
def qV (X : hX) (R : hm) : Array Value → State → Outcome → State → Prop := va_Qv (fun u : hm => u = R) (fun u t => hp X u t.heap) (hA X)
def qI (X : hX) (R : hm × Int32) : Array Value → State → Outcome → State → Prop := va_Qi (fun r (u : hm) => (u, r) = R) (fun u t => hp X u t.heap) (hA X)
def qL (X : hX) (R : hm × Int64) : Array Value → State → Outcome → State → Prop := va_Ql (fun r (u : hm) => (u, r) = R) (fun u t => hp X u t.heap) (hA X)
def qD (X : hX) (R : hm × UInt64) : Array Value → State → Outcome → State → Prop := va_Qd (fun r (u : hm) => (u, r) = R) (fun u t => hp X u t.heap) (hA X)
def qR (X : hX) (R : hm × Option Nat) : Array Value → State → Outcome → State → Prop := va_Qq (fun r (u : hm) => (u, r) = R) (fun u t => hp X u t.heap) (hA X)
def Ct (l : Launch) (X : hX) (y : MethodName) (cc : ByteArray) (maxL : Nat) (ret : Option FieldType) (rm : Room) (av : List Value) (M : hm) (Qc : Array Value → State → Outcome → State → Prop) : Prop :=
  Met l y (.code y cc maxL ret :: wG) rm (va_Pc av (fun U => hPre X M U)) Qc rm.cells rm.slots (hA X)
theorem hblind {X : hX} {M : hm} {av : List Value} : FrameBlind (va_Pc av (fun U => hPre X M U)) := fun a U g mk q => ⟨q.1, q.2.1, q.2.2.1, hK.same q.2.2.2 rfl⟩
section HD
variable {p : Program} {l : Launch} {e : Env} {R : Room} {s : State} {m : MethodId} {args : Array Value} {below : List Frame} {meth : Method} {c : Code} {H : Heap} {locs : List Loc} {cells slots : Nat} {Q : State → Prop}
variable {cc bytes : ByteArray} {pc nL maxL n index ci b : Nat} {ls : Array Slot} {rest st0 As : List Value} {X : hX} {M : hm} {own C : String} {y : MethodName} {ret : Option FieldType} {rm : Room} {Qc : Array Value → State → Outcome → State → Prop}
theorem hpreU (cx : CX X p c cc nL s m args own) (hP : hp X M H) (hS : va_S (hA X) s.heap H locs) {av : List Value} : ∀ U : State, U.heap = H → s.WarmedH U.vm → va_Pc av (fun U => hPre X M U) av.toArray U := fun U hU hW => ⟨rfl, by rw [hU]; exact Nat.le_trans cx.2.2.2.2.2.2 hS.1, by rw [hU]; exact hP, cx.2.2.2.2.2.1.warm hW⟩
theorem k_V (cx : CX X p c cc nL s m args own) (hsz : ls.size = nL) (hP : hp X M H) (hS : va_S (hA X) s.heap H locs) (hM : Ct l X y bytes maxL ret rm (.ref b :: As) M Qc) (ho : isO M b ci = some ()) {T : u_T} {N : Nat} (hc : vwCl[ci]? = some (C, T, N)) (h1 : Cond.code y bytes maxL ret ∈ wG) (h2 : Cond.methodLink own index y ∈ wG) (h3 : Cond.instanceMethod y ∈ wG) (h4 : Cond.selects C y y ∈ wG) (h5 : Cond.initialized C ∈ wG)
    (hd : y.cls = C ∧ y.cls ≠ "java/lang/invoke/MethodHandle" ∧ y.cls ≠ "java/lang/invoke/VarHandle" ∧ (parseMethodDescriptor y.desc).map (fun d => d.parameters.length) = some n) (hR : rm.frames + 1 ≤ R.frames ∧ 8 + (maxL + 11) + rm.locals ≤ R.locals) (hn : As.length = n) (hst : st0 = As.reverse ++ .ref b :: rest) (hw : (rest.map fun v => v.category).sum ≤ 8) (hdg : decode cc pc = .ok (.invokevirtual index, 3)) (hf : cells + rm.cells ≤ R.cells ∧ slots + rm.slots ≤ R.slots) :
    va_Run p l e R s m args below meth c H locs cells slots rm.cells rm.slots (F0 m pc ls st0) rest (Qc (Value.ref b :: As).toArray) (hA X) := by
  obtain ⟨fs, hv0, -⟩ := Option.map_eq_some_iff.mp ho
  subst hst
  exact va_runV ⟨cx.1, cx.2.1, cx.2.2.1, cx.2.2.2.1, cx.2.2.2.2.1⟩ hM (cwV n cx.2.2.2.2.1 (wG_V h1 h2 h3 h4 h5) rfl rfl rfl hd hR) ⟨hblind, va_recv cx.2.2.2.2.2.1.1 (hp_one hP (fO_eq hv0)) hc (q0 := 0) rfl, hpreU cx hP hS⟩ rfl hn hsz rfl (lv_room hw) hdg hf
theorem k_S (cx : CX X p c cc nL s m args own) (hsz : ls.size = nL) (hP : hp X M H) (hS : va_S (hA X) s.heap H locs) (hM : Ct l X y bytes maxL ret rm As M Qc) (h1 : Cond.code y bytes maxL ret ∈ wG) (h2 : Cond.methodLink own index y ∈ wG) (h3 : Cond.static y ∈ wG) (h5 : Cond.initialized y.cls ∈ wG)
    (hd : y.cls ≠ "java/lang/invoke/MethodHandle" ∧ y.cls ≠ "java/lang/invoke/VarHandle" ∧ (parseMethodDescriptor y.desc).map (fun d => d.parameters.length) = some n) (hR : rm.frames + 1 ≤ R.frames ∧ 8 + (maxL + 11) + rm.locals ≤ R.locals) (hn : As.length = n) (hst : st0 = As.reverse ++ rest) (hw : (rest.map fun v => v.category).sum ≤ 8) (hdg : decode cc pc = .ok (.invokestatic index, 3)) (hf : cells + rm.cells ≤ R.cells ∧ slots + rm.slots ≤ R.slots) :
    va_Run p l e R s m args below meth c H locs cells slots rm.cells rm.slots (F0 m pc ls st0) rest (Qc As.toArray) (hA X) := by
  subst hst
  exact va_runS ⟨cx.1, cx.2.1, cx.2.2.1, cx.2.2.2.1, cx.2.2.2.2.1⟩ hM (va_cwS n cx.2.2.2.2.1 (wG_S h1 h2 h3 h5) rfl rfl rfl hd hR) ⟨hblind, hpreU cx hP hS⟩ rfl hn hsz rfl (lv_room hw) hdg hf
theorem k_N (cx : CX X p c cc nL s m args own) (hsz : ls.size = nL) (hP : hp X M H) (hS : va_S (hA X) s.heap H locs) (hM : Ct l X y bytes maxL ret rm As M Qc) (h1 : Cond.code y bytes maxL ret ∈ wG) {host : String} (h2 : va_Nw (.methodLinkNest own index y host) s) (h3 : Cond.static y ∈ wG) (h5 : Cond.initialized y.cls ∈ wG)
    (hd : y.cls ≠ "java/lang/invoke/MethodHandle" ∧ y.cls ≠ "java/lang/invoke/VarHandle" ∧ (parseMethodDescriptor y.desc).map (fun d => d.parameters.length) = some n) (hR : rm.frames + 1 ≤ R.frames ∧ 8 + (maxL + 11) + rm.locals ≤ R.locals) (hn : As.length = n) (hst : st0 = As.reverse ++ rest) (hw : (rest.map fun v => v.category).sum ≤ 8) (hdg : decode cc pc = .ok (.invokestatic index, 3)) (hf : cells + rm.cells ≤ R.cells ∧ slots + rm.slots ≤ R.slots) :
    va_Run p l e R s m args below meth c H locs cells slots rm.cells rm.slots (F0 m pc ls st0) rest (Qc As.toArray) (hA X) := by
  subst hst
  exact va_runSN ⟨cx.1, cx.2.1, cx.2.2.1, cx.2.2.2.1, cx.2.2.2.2.1⟩ hM ⟨va_cnB n cx.2.2.2.2.1 (wG_c h1) rfl rfl rfl h2 (cx.2.2.2.2.1 _ h5) hd hR, cx.2.2.2.2.1 _ h3, trivial⟩ ⟨hblind, hpreU cx hP hS⟩ rfl hn hsz rfl (lv_room hw) hdg hf
theorem k_I (cx : CX X p c cc nL s m args own) (hsz : ls.size = nL) (hP : hp X M H) (hS : va_S (hA X) s.heap H locs) (hM : Ct l X y bytes maxL none rm (.ref b :: As) M Qc) (h1 : Cond.code y bytes maxL none ∈ wG) (h2 : Cond.methodLink own index y ∈ wG) (h3 : Cond.instanceMethod y ∈ wG) (h5 : Cond.initialized y.cls ∈ wG) (hy1 : y.name = "<init>")
    (hd : y.cls ≠ "java/lang/invoke/MethodHandle" ∧ y.cls ≠ "java/lang/invoke/VarHandle" ∧ (parseMethodDescriptor y.desc).map (fun d => d.parameters.length) = some n) (hR : rm.frames + 1 ≤ R.frames ∧ 8 + (maxL + 11) + rm.locals ≤ R.locals) (hn : As.length = n) (hst : st0 = As.reverse ++ .ref b :: rest) (hw : (rest.map fun v => v.category).sum ≤ 8) (hdg : decode cc pc = .ok (.invokespecial index, 3)) (hf : cells + rm.cells ≤ R.cells ∧ slots + rm.slots ≤ R.slots) :
    va_Run p l e R s m args below meth c H locs cells slots rm.cells rm.slots (F0 m pc ls st0) rest (Qc (Value.ref b :: As).toArray) (hA X) := by
  subst hst
  have hts := cx.2.2.2.2.1
  exact va_runI ⟨cx.1, cx.2.1, cx.2.2.1, cx.2.2.2.1, hts⟩ hM (cwI n hts (wG_c h1) rfl rfl rfl (hts _ h5) (hts _ h2) (hts _ h3) hy1 hd hR) ⟨hblind, hpreU cx hP hS⟩ rfl hn hsz rfl (lv_room hw) hdg hf
variable {av : Array Value} {mc ms : Nat}
theorem f_V {Rr : hm} (hr : va_Run p l e R s m args below meth c H locs cells slots mc ms (F0 m pc ls st0) rest (qV X Rr av) (hA X)) (hS : va_S (hA X) s.heap H locs) (kk : ∀ (H1 : Heap) (locs1 : List Loc), hp X Rr H1 → va_S (hA X) s.heap H1 locs1 → W p l e R s m args below meth c H1 locs1 (cells + mc) (slots + ms) Q (F0 m (pc + 3) ls rest)) : W p l e R s m args below meth c H locs cells slots Q (F0 m pc ls st0) :=
  va_callv hr hS (fun q _ h => h) (fun q h => h) (fun u t H1 locs1 ht hvm hw hB _ _ hS1 => by
    cases hw
    rw [ht] at hB
    exact kk H1 locs1 hB hS1)
theorem f_I {Mr : hm} {rr : Int32} (hr : va_Run p l e R s m args below meth c H locs cells slots mc ms (F0 m pc ls st0) rest (qI X (Mr, rr) av) (hA X)) (hS : va_S (hA X) s.heap H locs) (kk : ∀ (H1 : Heap) (locs1 : List Loc), hp X Mr H1 → va_S (hA X) s.heap H1 locs1 → W p l e R s m args below meth c H1 locs1 (cells + mc) (slots + ms) Q (F0 m (pc + 3) ls (.int rr :: rest))) : W p l e R s m args below meth c H locs cells slots Q (F0 m pc ls st0) :=
  va_calli hr hS (fun q _ h => h) (fun q h => h) (fun r u t H1 locs1 ht hvm hw hB _ _ hS1 => by
    cases hw
    rw [ht] at hB
    exact kk H1 locs1 hB hS1)
theorem f_L {Mr : hm} {rr : Int64} (hr : va_Run p l e R s m args below meth c H locs cells slots mc ms (F0 m pc ls st0) rest (qL X (Mr, rr) av) (hA X)) (hS : va_S (hA X) s.heap H locs) (kk : ∀ (H1 : Heap) (locs1 : List Loc), hp X Mr H1 → va_S (hA X) s.heap H1 locs1 → W p l e R s m args below meth c H1 locs1 (cells + mc) (slots + ms) Q (F0 m (pc + 3) ls (.long rr :: rest))) : W p l e R s m args below meth c H locs cells slots Q (F0 m pc ls st0) :=
  va_calll hr hS (fun q _ h => h) (fun q h => h) (fun r u t H1 locs1 ht hvm hw hB _ _ hS1 => by
    cases hw
    rw [ht] at hB
    exact kk H1 locs1 hB hS1)
theorem f_D {Mr : hm} {rr : UInt64} (hr : va_Run p l e R s m args below meth c H locs cells slots mc ms (F0 m pc ls st0) rest (qD X (Mr, rr) av) (hA X)) (hS : va_S (hA X) s.heap H locs) (kk : ∀ (H1 : Heap) (locs1 : List Loc), hp X Mr H1 → va_S (hA X) s.heap H1 locs1 → W p l e R s m args below meth c H1 locs1 (cells + mc) (slots + ms) Q (F0 m (pc + 3) ls (.double rr :: rest))) : W p l e R s m args below meth c H locs cells slots Q (F0 m pc ls st0) :=
  va_calld hr hS (fun q _ h => h) (fun q h => h) (fun r u t H1 locs1 ht hvm hw hB _ _ hS1 => by
    cases hw
    rw [ht] at hB
    exact kk H1 locs1 hB hS1)
theorem f_R {Mr : hm} {rr : Option Nat} (hr : va_Run p l e R s m args below meth c H locs cells slots mc ms (F0 m pc ls st0) rest (qR X (Mr, rr) av) (hA X)) (hS : va_S (hA X) s.heap H locs) (kk : ∀ (H1 : Heap) (locs1 : List Loc), hp X Mr H1 → va_S (hA X) s.heap H1 locs1 → W p l e R s m args below meth c H1 locs1 (cells + mc) (slots + ms) Q (F0 m (pc + 3) ls (va_rf rr :: rest))) : W p l e R s m args below meth c H locs cells slots Q (F0 m pc ls st0) :=
  va_callq hr hS (fun q _ h => h) (fun q h => h) (fun r u t H1 locs1 ht hvm hw hB _ _ hS1 => by
    cases hw
    rw [ht] at hB
    exact kk H1 locs1 hB hS1)
/-- a method's end -/
theorem t_V {Rr : hm} (cx : CX X p c cc nL s m args own) (hr : meth.sig.returnType = none) (hlocks : meth.locks = false) (hP : hp X M H) (hS : va_S (hA X) s.heap H locs) (hR : M = Rr) (h1 : cells ≤ mc) (h2 : slots ≤ ms) (hdg : decode cc pc = .ok (.return_, 1)) : W p l e R s m args below meth c H locs cells slots (MQ below (qV X Rr) args s mc ms (hA X)) (F0 m pc ls []) :=
  W.widen h1 h2 (W.vret cx.1 cx.2.1 hr (fun t ht hW => ⟨⟨M, rfl, hR, by rw [ht]; exact hP⟩, hS.F ht⟩) hS.2.2 hdg hlocks)
theorem t_I {Rr : hm × Int32} {v : Int32} (cx : CX X p c cc nL s m args own) (hr : meth.sig.returnType = some .int) (hlocks : meth.locks = false) (hP : hp X M H) (hS : va_S (hA X) s.heap H locs) (hR : (M, v) = Rr) (h1 : cells ≤ mc) (h2 : slots ≤ ms) (hdg : decode cc pc = .ok (.ireturn, 1)) : W p l e R s m args below meth c H locs cells slots (MQ below (qI X Rr) args s mc ms (hA X)) (F0 m pc ls [.int v]) :=
  W.widen h1 h2 (W.iret cx.1 cx.2.1 hr (fun t ht hW => ⟨⟨v, M, rfl, hR, by rw [ht]; exact hP⟩, hS.F ht⟩) hS.2.2 hdg hlocks)
theorem t_Z {Rr : hm × Int32} {v : Int32} (cx : CX X p c cc nL s m args own) (hr : meth.sig.returnType = some .boolean) (hlocks : meth.locks = false) (hP : hp X M H) (hS : va_S (hA X) s.heap H locs) (hv : v = 0 ∨ v = 1) (hR : (M, v) = Rr) (h1 : cells ≤ mc) (h2 : slots ≤ ms) (hdg : decode cc pc = .ok (.ireturn, 1)) : W p l e R s m args below meth c H locs cells slots (MQ below (qI X Rr) args s mc ms (hA X)) (F0 m pc ls [.int v]) :=
  W.widen h1 h2 (W.zret cx.1 cx.2.1 hr (zb_nar hv).1 (fun t ht hW => ⟨⟨v, M, rfl, hR, by rw [ht]; exact hP⟩, hS.F ht⟩) hS.2.2 hdg hlocks)
theorem t_L {Rr : hm × Int64} {v : Int64} (cx : CX X p c cc nL s m args own) (hr : meth.sig.returnType = some .long) (hlocks : meth.locks = false) (hP : hp X M H) (hS : va_S (hA X) s.heap H locs) (hR : (M, v) = Rr) (h1 : cells ≤ mc) (h2 : slots ≤ ms) (hdg : decode cc pc = .ok (.lreturn, 1)) : W p l e R s m args below meth c H locs cells slots (MQ below (qL X Rr) args s mc ms (hA X)) (F0 m pc ls [.long v]) :=
  W.widen h1 h2 (W.lret cx.1 cx.2.1 hr (fun t ht hW => ⟨⟨v, M, rfl, hR, by rw [ht]; exact hP⟩, hS.F ht⟩) hS.2.2 hdg hlocks)
theorem t_D {Rr : hm × UInt64} {v : UInt64} (cx : CX X p c cc nL s m args own) (hr : meth.sig.returnType = some .double) (hlocks : meth.locks = false) (hP : hp X M H) (hS : va_S (hA X) s.heap H locs) (hR : (M, v) = Rr) (h1 : cells ≤ mc) (h2 : slots ≤ ms) (hdg : decode cc pc = .ok (.dreturn, 1)) : W p l e R s m args below meth c H locs cells slots (MQ below (qD X Rr) args s mc ms (hA X)) (F0 m pc ls [.double v]) :=
  W.widen h1 h2 (W.dret cx.1 cx.2.1 hr (fun t ht hW => ⟨⟨v, M, rfl, hR, by rw [ht]; exact hP⟩, hS.F ht⟩) hS.2.2 hdg hlocks)
theorem t_R {Rr : hm × Option Nat} {v : Option Nat} {ty : String} (cx : CX X p c cc nL s m args own) (hr : meth.sig.returnType = some (.object ty)) (hlocks : meth.locks = false) (hP : hp X M H) (hS : va_S (hA X) s.heap H locs) (hR : (M, v) = Rr) (h1 : cells ≤ mc) (h2 : slots ≤ ms) (hdg : decode cc pc = .ok (.areturn, 1)) : W p l e R s m args below meth c H locs cells slots (MQ below (qR X Rr) args s mc ms (hA X)) (F0 m pc ls [va_rf v]) :=
  W.widen h1 h2 (W.aret cx.1 cx.2.1 hr (Or.inl ⟨ty, rfl⟩) (by cases v with | none => exact Or.inl rfl | some b => exact Or.inr ⟨b, rfl⟩) (fun t ht hW => ⟨⟨v, M, rfl, hR, by rw [ht]; exact hP⟩, hS.F ht⟩) hS.2.2 hdg hlocks)
end HD
/-- a method's entry -/
theorem h_enter {l : Launch} {X : hX} {y : MethodName} {cc : ByteArray} {maxL : Nat} {ret : Option FieldType} {rm : Room} {av : List Value} {M : hm} {Qc : Array Value → State → Outcome → State → Prop} {own : String} (hy : plainName y.cls = true) (ho : y.cls = own) (hlen : (lg_sl av).length ≤ maxL)
    (body : ∀ (p : Program) (e : Env) (s : State) (m : MethodId) (below : List Frame) (meth : Method) (c : Code) (ls : Array Slot), CX X p c cc maxL s m av.toArray own → meth.sig.returnType = ret → meth.locks = false → meth.name = y.name → hp X M s.heap → va_S (hA X) s.heap s.heap [] → lv_has ls maxL (lv_args 0 av) → W p l e rm s m av.toArray below meth c s.heap [] 0 0 (MQ below Qc av.toArray s rm.cells rm.slots (hA X)) (F0 m 0 ls [])) : Ct l X y cc maxL ret rm av M Qc := by
  refine Met.ofW (cc := cc) (maxL := maxL) (ret := ret) hy rfl ?_
  intro p e s m args below meth c s₁ B hml hv
  obtain ⟨rfl, hb, hP, hK⟩ := hv
  have hts := atoms_spec (ws := Cond.code y cc maxL ret :: wG) B.pre
  have hown : s.vm.findClass y.cls = some m.cls := findClass_of_methodNamed B.named
  rw [ho] at hown
  have hl := lv_entry av (n := maxL) hlen
  rw [lg_entry_eq]
  exact body p e s m below meth c _ ⟨B.exec, B.bytes, hml, hown, fun w hw => hts w (List.mem_cons_of_mem _ hw), hK, hb⟩ B.returns B.notSynchronized (name_of_methodNamed B.named B.method).1 hP va_S.rf hl
end
