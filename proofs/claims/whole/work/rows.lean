section
-- ===== PART A: goes FIRST, ahead of the names: the tables' words, and 'selects' of the private methods out of them =====
/-- a private method of a class that the tables say can be made, by its rows of tables_1 -/
def lw_okq (q : MethodName × Nat) : Prop := (q.1.cls ≠ "java/lang/invoke/MethodHandle" ∧ q.1.cls ≠ "java/lang/invoke/VarHandle") ∧ Cond.instantiable q.1.cls q.2 ∈ tables_1 ∧ Cond.privateMethod q.1 ∈ tables_1 ∧ Cond.instanceMethod q.1 ∈ tables_1
theorem lw_p0 : lw_okq (⟨"TideBook", "takesReading", "(II)Z"⟩, 8) := ⟨⟨by decide +kernel, by decide +kernel⟩, List.mem_of_getElem? (i := 11) (by decide +kernel), List.mem_of_getElem? (i := 134) (by decide +kernel), List.mem_of_getElem? (i := 135) (by decide +kernel)⟩
theorem lw_p1 : lw_okq (⟨"TideBook", "isFull", "()Z"⟩, 8) := ⟨⟨by decide +kernel, by decide +kernel⟩, List.mem_of_getElem? (i := 11) (by decide +kernel), List.mem_of_getElem? (i := 148) (by decide +kernel), List.mem_of_getElem? (i := 149) (by decide +kernel)⟩
theorem lw_p2 : lw_okq (⟨"TideBook", "changed", "(I)LTideBook$Row;"⟩, 8) := ⟨⟨by decide +kernel, by decide +kernel⟩, List.mem_of_getElem? (i := 11) (by decide +kernel), List.mem_of_getElem? (i := 155) (by decide +kernel), List.mem_of_getElem? (i := 156) (by decide +kernel)⟩
theorem lw_p3 : lw_okq (⟨"TideBook", "settle", "()V"⟩, 8) := ⟨⟨by decide +kernel, by decide +kernel⟩, List.mem_of_getElem? (i := 11) (by decide +kernel), List.mem_of_getElem? (i := 237) (by decide +kernel), List.mem_of_getElem? (i := 238) (by decide +kernel)⟩
theorem lw_p4 : lw_okq (⟨"TideBook$Reckoner", "takeSecond", "(I[LTideBook$Row;)V"⟩, 5) := ⟨⟨by decide +kernel, by decide +kernel⟩, List.mem_of_getElem? (i := 65) (by decide +kernel), List.mem_of_getElem? (i := 263) (by decide +kernel), List.mem_of_getElem? (i := 264) (by decide +kernel)⟩
theorem lw_p5 : lw_okq (⟨"TideBook$Reckoner", "sort", "()V"⟩, 5) := ⟨⟨by decide +kernel, by decide +kernel⟩, List.mem_of_getElem? (i := 65) (by decide +kernel), List.mem_of_getElem? (i := 268) (by decide +kernel), List.mem_of_getElem? (i := 269) (by decide +kernel)⟩
theorem lw_p6 : lw_okq (⟨"TideBook$Reckoner", "insert", "(D)V"⟩, 5) := ⟨⟨by decide +kernel, by decide +kernel⟩, List.mem_of_getElem? (i := 65) (by decide +kernel), List.mem_of_getElem? (i := 273) (by decide +kernel), List.mem_of_getElem? (i := 274) (by decide +kernel)⟩
theorem lw_p7 : lw_okq (⟨"TideBook$Reckoner", "leavesBlank", "(LTideBook$Row;I)Z"⟩, 5) := ⟨⟨by decide +kernel, by decide +kernel⟩, List.mem_of_getElem? (i := 65) (by decide +kernel), List.mem_of_getElem? (i := 283) (by decide +kernel), List.mem_of_getElem? (i := 284) (by decide +kernel)⟩
theorem lw_p8 : lw_okq (⟨"TideBook$Reckoner", "hasBothNeighbours", "(I)Z"⟩, 5) := ⟨⟨by decide +kernel, by decide +kernel⟩, List.mem_of_getElem? (i := 65) (by decide +kernel), List.mem_of_getElem? (i := 304) (by decide +kernel), List.mem_of_getElem? (i := 305) (by decide +kernel)⟩
theorem lw_p9 : lw_okq (⟨"TideBook$Reckoner", "hasDifference", "(I)Z"⟩, 5) := ⟨⟨by decide +kernel, by decide +kernel⟩, List.mem_of_getElem? (i := 65) (by decide +kernel), List.mem_of_getElem? (i := 308) (by decide +kernel), List.mem_of_getElem? (i := 309) (by decide +kernel)⟩
theorem lw_p10 : lw_okq (⟨"TideBook$Reckoner", "numberAt", "(LTideBook$Row;I)D"⟩, 5) := ⟨⟨by decide +kernel, by decide +kernel⟩, List.mem_of_getElem? (i := 65) (by decide +kernel), List.mem_of_getElem? (i := 313) (by decide +kernel), List.mem_of_getElem? (i := 314) (by decide +kernel)⟩
theorem lw_p11 : lw_okq (⟨"TideBook$Reckoner", "ofOne", "(ID)D"⟩, 5) := ⟨⟨by decide +kernel, by decide +kernel⟩, List.mem_of_getElem? (i := 65) (by decide +kernel), List.mem_of_getElem? (i := 317) (by decide +kernel), List.mem_of_getElem? (i := 318) (by decide +kernel)⟩
theorem lw_p12 : lw_okq (⟨"TideBook$Reckoner", "quotient", "(DD)D"⟩, 5) := ⟨⟨by decide +kernel, by decide +kernel⟩, List.mem_of_getElem? (i := 65) (by decide +kernel), List.mem_of_getElem? (i := 335) (by decide +kernel), List.mem_of_getElem? (i := 336) (by decide +kernel)⟩
theorem lw_p13 : lw_okq (⟨"TideBook$Reckoner", "product", "(DD)D"⟩, 5) := ⟨⟨by decide +kernel, by decide +kernel⟩, List.mem_of_getElem? (i := 65) (by decide +kernel), List.mem_of_getElem? (i := 339) (by decide +kernel), List.mem_of_getElem? (i := 340) (by decide +kernel)⟩
theorem lw_p14 : lw_okq (⟨"TideBook$Reckoner", "ofTwo", "(IDD)D"⟩, 5) := ⟨⟨by decide +kernel, by decide +kernel⟩, List.mem_of_getElem? (i := 65) (by decide +kernel), List.mem_of_getElem? (i := 343) (by decide +kernel), List.mem_of_getElem? (i := 344) (by decide +kernel)⟩
theorem lw_p15 : lw_okq (⟨"TideBook$Reckoner", "sum", "(DD)D"⟩, 5) := ⟨⟨by decide +kernel, by decide +kernel⟩, List.mem_of_getElem? (i := 65) (by decide +kernel), List.mem_of_getElem? (i := 347) (by decide +kernel), List.mem_of_getElem? (i := 348) (by decide +kernel)⟩
def lw_privs_1 : List (MethodName × Nat) := [(⟨"TideBook", "takesReading", "(II)Z"⟩, 8), (⟨"TideBook", "isFull", "()Z"⟩, 8), (⟨"TideBook", "changed", "(I)LTideBook$Row;"⟩, 8), (⟨"TideBook", "settle", "()V"⟩, 8), (⟨"TideBook$Reckoner", "takeSecond", "(I[LTideBook$Row;)V"⟩, 5), (⟨"TideBook$Reckoner", "sort", "()V"⟩, 5), (⟨"TideBook$Reckoner", "insert", "(D)V"⟩, 5), (⟨"TideBook$Reckoner", "leavesBlank", "(LTideBook$Row;I)Z"⟩, 5), (⟨"TideBook$Reckoner", "hasBothNeighbours", "(I)Z"⟩, 5), (⟨"TideBook$Reckoner", "hasDifference", "(I)Z"⟩, 5), (⟨"TideBook$Reckoner", "numberAt", "(LTideBook$Row;I)D"⟩, 5), (⟨"TideBook$Reckoner", "ofOne", "(ID)D"⟩, 5), (⟨"TideBook$Reckoner", "quotient", "(DD)D"⟩, 5), (⟨"TideBook$Reckoner", "product", "(DD)D"⟩, 5), (⟨"TideBook$Reckoner", "ofTwo", "(IDD)D"⟩, 5), (⟨"TideBook$Reckoner", "sum", "(DD)D"⟩, 5)]
theorem lw_r1 : ∀ q ∈ lw_privs_1, lw_okq q := List.forall_mem_cons.mpr ⟨lw_p0, List.forall_mem_cons.mpr ⟨lw_p1, List.forall_mem_cons.mpr ⟨lw_p2, List.forall_mem_cons.mpr ⟨lw_p3, List.forall_mem_cons.mpr ⟨lw_p4, List.forall_mem_cons.mpr ⟨lw_p5, List.forall_mem_cons.mpr ⟨lw_p6, List.forall_mem_cons.mpr ⟨lw_p7, List.forall_mem_cons.mpr ⟨lw_p8, List.forall_mem_cons.mpr ⟨lw_p9, List.forall_mem_cons.mpr ⟨lw_p10, List.forall_mem_cons.mpr ⟨lw_p11, List.forall_mem_cons.mpr ⟨lw_p12, List.forall_mem_cons.mpr ⟨lw_p13, List.forall_mem_cons.mpr ⟨lw_p14, List.forall_mem_cons.mpr ⟨lw_p15, fun _ h => absurd h List.not_mem_nil⟩⟩⟩⟩⟩⟩⟩⟩⟩⟩⟩⟩⟩⟩⟩⟩
theorem lw_p16 : lw_okq (⟨"TideBook$Reckoner", "remainder", "(DD)D"⟩, 5) := ⟨⟨by decide +kernel, by decide +kernel⟩, List.mem_of_getElem? (i := 65) (by decide +kernel), List.mem_of_getElem? (i := 351) (by decide +kernel), List.mem_of_getElem? (i := 352) (by decide +kernel)⟩
theorem lw_p17 : lw_okq (⟨"TideBook$Reckoner", "middleAt", "(I)D"⟩, 5) := ⟨⟨by decide +kernel, by decide +kernel⟩, List.mem_of_getElem? (i := 65) (by decide +kernel), List.mem_of_getElem? (i := 360) (by decide +kernel), List.mem_of_getElem? (i := 361) (by decide +kernel)⟩
theorem lw_p18 : lw_okq (⟨"TideBook$Reckoner", "farthestAt", "(LTideBook$Row;I)D"⟩, 5) := ⟨⟨by decide +kernel, by decide +kernel⟩, List.mem_of_getElem? (i := 65) (by decide +kernel), List.mem_of_getElem? (i := 364) (by decide +kernel), List.mem_of_getElem? (i := 365) (by decide +kernel)⟩
theorem lw_p19 : lw_okq (⟨"TideBook$Reckoner", "lesserPlaces", "(D)I"⟩, 5) := ⟨⟨by decide +kernel, by decide +kernel⟩, List.mem_of_getElem? (i := 65) (by decide +kernel), List.mem_of_getElem? (i := 368) (by decide +kernel), List.mem_of_getElem? (i := 369) (by decide +kernel)⟩
theorem lw_p20 : lw_okq (⟨"TideBook", "placesWhere", "(III)I"⟩, 8) := ⟨⟨by decide +kernel, by decide +kernel⟩, List.mem_of_getElem? (i := 11) (by decide +kernel), List.mem_of_getElem? (i := 420) (by decide +kernel), List.mem_of_getElem? (i := 421) (by decide +kernel)⟩
theorem lw_p21 : lw_okq (⟨"TideBook", "isNumber", "(II)Z"⟩, 8) := ⟨⟨by decide +kernel, by decide +kernel⟩, List.mem_of_getElem? (i := 11) (by decide +kernel), List.mem_of_getElem? (i := 439) (by decide +kernel), List.mem_of_getElem? (i := 440) (by decide +kernel)⟩
theorem lw_p22 : lw_okq (⟨"TideBook$Alarm", "firstRang", "()I"⟩, 6) := ⟨⟨by decide +kernel, by decide +kernel⟩, List.mem_of_getElem? (i := 388) (by decide +kernel), List.mem_of_getElem? (i := 480) (by decide +kernel), List.mem_of_getElem? (i := 481) (by decide +kernel)⟩
theorem lw_p23 : lw_okq (⟨"TideBook", "toldOfBook", "(I)I"⟩, 8) := ⟨⟨by decide +kernel, by decide +kernel⟩, List.mem_of_getElem? (i := 11) (by decide +kernel), List.mem_of_getElem? (i := 488) (by decide +kernel), List.mem_of_getElem? (i := 489) (by decide +kernel)⟩
theorem lw_p24 : lw_okq (⟨"TideBookModel", "canSet", "(II)Z"⟩, 19) := ⟨⟨by decide +kernel, by decide +kernel⟩, List.mem_of_getElem? (i := 495) (by decide +kernel), List.mem_of_getElem? (i := 570) (by decide +kernel), List.mem_of_getElem? (i := 571) (by decide +kernel)⟩
theorem lw_p25 : lw_okq (⟨"TideBookModel", "picture", "()V"⟩, 19) := ⟨⟨by decide +kernel, by decide +kernel⟩, List.mem_of_getElem? (i := 495) (by decide +kernel), List.mem_of_getElem? (i := 577) (by decide +kernel), List.mem_of_getElem? (i := 578) (by decide +kernel)⟩
theorem lw_p26 : lw_okq (⟨"TideBookModel", "put", "(ID)V"⟩, 19) := ⟨⟨by decide +kernel, by decide +kernel⟩, List.mem_of_getElem? (i := 495) (by decide +kernel), List.mem_of_getElem? (i := 588) (by decide +kernel), List.mem_of_getElem? (i := 589) (by decide +kernel)⟩
theorem lw_p27 : lw_okq (⟨"TideBookModel", "changed", "()I"⟩, 19) := ⟨⟨by decide +kernel, by decide +kernel⟩, List.mem_of_getElem? (i := 495) (by decide +kernel), List.mem_of_getElem? (i := 592) (by decide +kernel), List.mem_of_getElem? (i := 593) (by decide +kernel)⟩
theorem lw_p28 : lw_okq (⟨"TideBookModel", "putSpecial", "(IIZ)V"⟩, 19) := ⟨⟨by decide +kernel, by decide +kernel⟩, List.mem_of_getElem? (i := 495) (by decide +kernel), List.mem_of_getElem? (i := 600) (by decide +kernel), List.mem_of_getElem? (i := 601) (by decide +kernel)⟩
theorem lw_p29 : lw_okq (⟨"TideBookModel", "reckonAll", "()V"⟩, 19) := ⟨⟨by decide +kernel, by decide +kernel⟩, List.mem_of_getElem? (i := 495) (by decide +kernel), List.mem_of_getElem? (i := 627) (by decide +kernel), List.mem_of_getElem? (i := 628) (by decide +kernel)⟩
theorem lw_p30 : lw_okq (⟨"TideBookModel", "reckon", "(II)V"⟩, 19) := ⟨⟨by decide +kernel, by decide +kernel⟩, List.mem_of_getElem? (i := 495) (by decide +kernel), List.mem_of_getElem? (i := 631) (by decide +kernel), List.mem_of_getElem? (i := 632) (by decide +kernel)⟩
theorem lw_p31 : lw_okq (⟨"TideBookModel", "noX", "(II)Z"⟩, 19) := ⟨⟨by decide +kernel, by decide +kernel⟩, List.mem_of_getElem? (i := 495) (by decide +kernel), List.mem_of_getElem? (i := 635) (by decide +kernel), List.mem_of_getElem? (i := 636) (by decide +kernel)⟩
def lw_privs_2 : List (MethodName × Nat) := [(⟨"TideBook$Reckoner", "remainder", "(DD)D"⟩, 5), (⟨"TideBook$Reckoner", "middleAt", "(I)D"⟩, 5), (⟨"TideBook$Reckoner", "farthestAt", "(LTideBook$Row;I)D"⟩, 5), (⟨"TideBook$Reckoner", "lesserPlaces", "(D)I"⟩, 5), (⟨"TideBook", "placesWhere", "(III)I"⟩, 8), (⟨"TideBook", "isNumber", "(II)Z"⟩, 8), (⟨"TideBook$Alarm", "firstRang", "()I"⟩, 6), (⟨"TideBook", "toldOfBook", "(I)I"⟩, 8), (⟨"TideBookModel", "canSet", "(II)Z"⟩, 19), (⟨"TideBookModel", "picture", "()V"⟩, 19), (⟨"TideBookModel", "put", "(ID)V"⟩, 19), (⟨"TideBookModel", "changed", "()I"⟩, 19), (⟨"TideBookModel", "putSpecial", "(IIZ)V"⟩, 19), (⟨"TideBookModel", "reckonAll", "()V"⟩, 19), (⟨"TideBookModel", "reckon", "(II)V"⟩, 19), (⟨"TideBookModel", "noX", "(II)Z"⟩, 19)]
theorem lw_r2 : ∀ q ∈ lw_privs_2, lw_okq q := List.forall_mem_cons.mpr ⟨lw_p16, List.forall_mem_cons.mpr ⟨lw_p17, List.forall_mem_cons.mpr ⟨lw_p18, List.forall_mem_cons.mpr ⟨lw_p19, List.forall_mem_cons.mpr ⟨lw_p20, List.forall_mem_cons.mpr ⟨lw_p21, List.forall_mem_cons.mpr ⟨lw_p22, List.forall_mem_cons.mpr ⟨lw_p23, List.forall_mem_cons.mpr ⟨lw_p24, List.forall_mem_cons.mpr ⟨lw_p25, List.forall_mem_cons.mpr ⟨lw_p26, List.forall_mem_cons.mpr ⟨lw_p27, List.forall_mem_cons.mpr ⟨lw_p28, List.forall_mem_cons.mpr ⟨lw_p29, List.forall_mem_cons.mpr ⟨lw_p30, List.forall_mem_cons.mpr ⟨lw_p31, fun _ h => absurd h List.not_mem_nil⟩⟩⟩⟩⟩⟩⟩⟩⟩⟩⟩⟩⟩⟩⟩⟩
theorem lw_p32 : lw_okq (⟨"TideBookModel", "noY", "(II)Z"⟩, 19) := ⟨⟨by decide +kernel, by decide +kernel⟩, List.mem_of_getElem? (i := 495) (by decide +kernel), List.mem_of_getElem? (i := 642) (by decide +kernel), List.mem_of_getElem? (i := 643) (by decide +kernel)⟩
theorem lw_p33 : lw_okq (⟨"TideBookModel", "givesNothing", "()V"⟩, 19) := ⟨⟨by decide +kernel, by decide +kernel⟩, List.mem_of_getElem? (i := 495) (by decide +kernel), List.mem_of_getElem? (i := 646) (by decide +kernel), List.mem_of_getElem? (i := 647) (by decide +kernel)⟩
theorem lw_p34 : lw_okq (⟨"TideBookModel", "x", "(II)D"⟩, 19) := ⟨⟨by decide +kernel, by decide +kernel⟩, List.mem_of_getElem? (i := 495) (by decide +kernel), List.mem_of_getElem? (i := 650) (by decide +kernel), List.mem_of_getElem? (i := 651) (by decide +kernel)⟩
theorem lw_p35 : lw_okq (⟨"TideBookModel", "single", "(IDZ)V"⟩, 19) := ⟨⟨by decide +kernel, by decide +kernel⟩, List.mem_of_getElem? (i := 495) (by decide +kernel), List.mem_of_getElem? (i := 654) (by decide +kernel), List.mem_of_getElem? (i := 655) (by decide +kernel)⟩
theorem lw_p36 : lw_okq (⟨"TideBookModel", "gives", "(D)V"⟩, 19) := ⟨⟨by decide +kernel, by decide +kernel⟩, List.mem_of_getElem? (i := 495) (by decide +kernel), List.mem_of_getElem? (i := 658) (by decide +kernel), List.mem_of_getElem? (i := 659) (by decide +kernel)⟩
theorem lw_p37 : lw_okq (⟨"TideBookModel", "y", "(II)D"⟩, 19) := ⟨⟨by decide +kernel, by decide +kernel⟩, List.mem_of_getElem? (i := 495) (by decide +kernel), List.mem_of_getElem? (i := 686) (by decide +kernel), List.mem_of_getElem? (i := 687) (by decide +kernel)⟩
theorem lw_p38 : lw_okq (⟨"TideBookModel", "both", "(IDDZ)V"⟩, 19) := ⟨⟨by decide +kernel, by decide +kernel⟩, List.mem_of_getElem? (i := 495) (by decide +kernel), List.mem_of_getElem? (i := 690) (by decide +kernel), List.mem_of_getElem? (i := 691) (by decide +kernel)⟩
theorem lw_p39 : lw_okq (⟨"TideBookModel", "difference", "(DDZ)V"⟩, 19) := ⟨⟨by decide +kernel, by decide +kernel⟩, List.mem_of_getElem? (i := 495) (by decide +kernel), List.mem_of_getElem? (i := 700) (by decide +kernel), List.mem_of_getElem? (i := 701) (by decide +kernel)⟩
theorem lw_p40 : lw_okq (⟨"TideBookModel", "compares", "(II)Z"⟩, 19) := ⟨⟨by decide +kernel, by decide +kernel⟩, List.mem_of_getElem? (i := 495) (by decide +kernel), List.mem_of_getElem? (i := 707) (by decide +kernel), List.mem_of_getElem? (i := 708) (by decide +kernel)⟩
theorem lw_p41 : lw_okq (⟨"TideBookModel", "manyX", "(III)I"⟩, 19) := ⟨⟨by decide +kernel, by decide +kernel⟩, List.mem_of_getElem? (i := 495) (by decide +kernel), List.mem_of_getElem? (i := 714) (by decide +kernel), List.mem_of_getElem? (i := 715) (by decide +kernel)⟩
theorem lw_p42 : lw_okq (⟨"TideBookModel", "ranked", "(IIII)V"⟩, 19) := ⟨⟨by decide +kernel, by decide +kernel⟩, List.mem_of_getElem? (i := 495) (by decide +kernel), List.mem_of_getElem? (i := 718) (by decide +kernel), List.mem_of_getElem? (i := 719) (by decide +kernel)⟩
theorem lw_p43 : lw_okq (⟨"TideBookModel", "rank", "(IIII)I"⟩, 19) := ⟨⟨by decide +kernel, by decide +kernel⟩, List.mem_of_getElem? (i := 495) (by decide +kernel), List.mem_of_getElem? (i := 722) (by decide +kernel), List.mem_of_getElem? (i := 723) (by decide +kernel)⟩
theorem lw_p44 : lw_okq (⟨"TideBookModel", "lessThan", "(II)I"⟩, 19) := ⟨⟨by decide +kernel, by decide +kernel⟩, List.mem_of_getElem? (i := 495) (by decide +kernel), List.mem_of_getElem? (i := 726) (by decide +kernel), List.mem_of_getElem? (i := 727) (by decide +kernel)⟩
theorem lw_p45 : lw_okq (⟨"TideBookModel", "manySo", "(II)I"⟩, 19) := ⟨⟨by decide +kernel, by decide +kernel⟩, List.mem_of_getElem? (i := 495) (by decide +kernel), List.mem_of_getElem? (i := 730) (by decide +kernel), List.mem_of_getElem? (i := 731) (by decide +kernel)⟩
theorem lw_p46 : lw_okq (⟨"TideBookModel", "holds", "(II)Z"⟩, 19) := ⟨⟨by decide +kernel, by decide +kernel⟩, List.mem_of_getElem? (i := 495) (by decide +kernel), List.mem_of_getElem? (i := 746) (by decide +kernel), List.mem_of_getElem? (i := 747) (by decide +kernel)⟩
theorem lw_p47 : lw_okq (⟨"TideBookModel", "isThere", "(II)Z"⟩, 19) := ⟨⟨by decide +kernel, by decide +kernel⟩, List.mem_of_getElem? (i := 495) (by decide +kernel), List.mem_of_getElem? (i := 761) (by decide +kernel), List.mem_of_getElem? (i := 762) (by decide +kernel)⟩
def lw_privs_3 : List (MethodName × Nat) := [(⟨"TideBookModel", "noY", "(II)Z"⟩, 19), (⟨"TideBookModel", "givesNothing", "()V"⟩, 19), (⟨"TideBookModel", "x", "(II)D"⟩, 19), (⟨"TideBookModel", "single", "(IDZ)V"⟩, 19), (⟨"TideBookModel", "gives", "(D)V"⟩, 19), (⟨"TideBookModel", "y", "(II)D"⟩, 19), (⟨"TideBookModel", "both", "(IDDZ)V"⟩, 19), (⟨"TideBookModel", "difference", "(DDZ)V"⟩, 19), (⟨"TideBookModel", "compares", "(II)Z"⟩, 19), (⟨"TideBookModel", "manyX", "(III)I"⟩, 19), (⟨"TideBookModel", "ranked", "(IIII)V"⟩, 19), (⟨"TideBookModel", "rank", "(IIII)I"⟩, 19), (⟨"TideBookModel", "lessThan", "(II)I"⟩, 19), (⟨"TideBookModel", "manySo", "(II)I"⟩, 19), (⟨"TideBookModel", "holds", "(II)Z"⟩, 19), (⟨"TideBookModel", "isThere", "(II)Z"⟩, 19)]
theorem lw_r3 : ∀ q ∈ lw_privs_3, lw_okq q := List.forall_mem_cons.mpr ⟨lw_p32, List.forall_mem_cons.mpr ⟨lw_p33, List.forall_mem_cons.mpr ⟨lw_p34, List.forall_mem_cons.mpr ⟨lw_p35, List.forall_mem_cons.mpr ⟨lw_p36, List.forall_mem_cons.mpr ⟨lw_p37, List.forall_mem_cons.mpr ⟨lw_p38, List.forall_mem_cons.mpr ⟨lw_p39, List.forall_mem_cons.mpr ⟨lw_p40, List.forall_mem_cons.mpr ⟨lw_p41, List.forall_mem_cons.mpr ⟨lw_p42, List.forall_mem_cons.mpr ⟨lw_p43, List.forall_mem_cons.mpr ⟨lw_p44, List.forall_mem_cons.mpr ⟨lw_p45, List.forall_mem_cons.mpr ⟨lw_p46, List.forall_mem_cons.mpr ⟨lw_p47, fun _ h => absurd h List.not_mem_nil⟩⟩⟩⟩⟩⟩⟩⟩⟩⟩⟩⟩⟩⟩⟩⟩
def lw_privs : List (MethodName × Nat) := lw_privs_1 ++ (lw_privs_2 ++ (lw_privs_3))
def lw_tbl : List Cond := k2_sels lw_privs ++ tables_1
theorem lw_privs_ok : ∀ q ∈ lw_privs, lw_okq q := by
  show ∀ q ∈ lw_privs_1 ++ (lw_privs_2 ++ (lw_privs_3)), lw_okq q
  exact List.forall_mem_append.mpr ⟨lw_r1, List.forall_mem_append.mpr ⟨lw_r2, lw_r3⟩⟩
/-- the streams that the claim lets the run draw from -/
abbrev lw_cs : List Choice := [Jvm.Choice.named "NaN.bits"]
theorem lw_bits : nanBits ∈ lw_cs := by first | decide | exact List.mem_cons_self | simp [lw_cs, nanBits]
end
section
def RX0 : String := "TideBook$Alarm"
def TX0 : u_T := fun k => match k with
  | 0 => ("TideBook$Alarm", "column", "I", true)
  | 1 => ("TideBook$Alarm", "c", "I", true)
  | 2 => ("TideBook$Alarm", "b", "I", true)
  | 3 => ("TideBook$Alarm", "held", "I", false)
  | 4 => ("TideBook$Alarm", "rang", "I", false)
  | _ => ("TideBook$Alarm", "lookedAt", "Z", false)
def tyX0 : Nat → FieldType := fun k => match k with
  | 0 => .int
  | 1 => .int
  | 2 => .int
  | 3 => .int
  | 4 => .int
  | _ => .boolean
theorem nmX0 : ∀ a, a < 6 → ∀ b, b < 6 → a ≠ b → (TX0 a).2.1 ≠ (TX0 b).2.1 := by decide +kernel
theorem tyX0_ok : ∀ k, k < 6 → parseFieldDescriptor (TX0 k).2.2.1 = some (tyX0 k) := by decide +kernel
abbrev cX0_init : ByteArray := prog_2_method_1_code
def yX0_init : MethodName := ⟨RX0, "<init>", "(III)V"⟩
abbrev cX0_look : ByteArray := prog_2_method_2_code
def yX0_look : MethodName := ⟨RX0, "look", "(I)I"⟩
abbrev cX0_answer : ByteArray := prog_2_method_3_code
def yX0_answer : MethodName := ⟨RX0, "answer", "(I)I"⟩
abbrev cX0_firstRang : ByteArray := prog_2_method_4_code
def yX0_firstRang : MethodName := ⟨RX0, "firstRang", "()I"⟩
def RX1 : String := "TideBook$Change"
def TX1 : u_T := fun k => match k with
  | 0 => ("TideBook$Change", "row", "I", true)
  | 1 => ("TideBook$Change", "old", "LTideBook$Row;", true)
  | _ => ("TideBook$Change", "before", "LTideBook$Change;", true)
def tyX1 : Nat → FieldType := fun k => match k with
  | 0 => .int
  | 1 => .object "TideBook$Row"
  | _ => .object "TideBook$Change"
theorem nmX1 : ∀ a, a < 3 → ∀ b, b < 3 → a ≠ b → (TX1 a).2.1 ≠ (TX1 b).2.1 := by decide +kernel
theorem tyX1_ok : ∀ k, k < 3 → parseFieldDescriptor (TX1 k).2.2.1 = some (tyX1 k) := by decide +kernel
abbrev cX1_init : ByteArray := prog_3_method_1_code
def yX1_init : MethodName := ⟨RX1, "<init>", "(ILTideBook$Row;LTideBook$Change;)V"⟩
def RX2 : String := "TideBook$Reckoner"
def TX2 : u_T := fun k => match k with
  | 0 => ("TideBook$Reckoner", "scale", "LTideBook$Scale;", true)
  | 1 => ("TideBook$Reckoner", "x", "LTideBook$Row;", true)
  | 2 => ("TideBook$Reckoner", "y", "LTideBook$Row;", true)
  | 3 => ("TideBook$Reckoner", "sorted", "[D", true)
  | _ => ("TideBook$Reckoner", "sortedCount", "I", false)
def tyX2 : Nat → FieldType := fun k => match k with
  | 0 => .object "TideBook$Scale"
  | 1 => .object "TideBook$Row"
  | 2 => .object "TideBook$Row"
  | 3 => .array .double
  | _ => .int
theorem nmX2 : ∀ a, a < 5 → ∀ b, b < 5 → a ≠ b → (TX2 a).2.1 ≠ (TX2 b).2.1 := by decide +kernel
theorem tyX2_ok : ∀ k, k < 5 → parseFieldDescriptor (TX2 k).2.2.1 = some (tyX2 k) := by decide +kernel
abbrev cX2_init : ByteArray := prog_4_method_1_code
def yX2_init : MethodName := ⟨RX2, "<init>", "()V"⟩
abbrev cX2_reckon : ByteArray := prog_4_method_2_code
def yX2_reckon : MethodName := ⟨RX2, "reckon", "(LTideBook$Row;[LTideBook$Row;)V"⟩
abbrev cX2_takeSecond : ByteArray := prog_4_method_3_code
def yX2_takeSecond : MethodName := ⟨RX2, "takeSecond", "(I[LTideBook$Row;)V"⟩
abbrev cX2_isOfTwo : ByteArray := prog_4_method_4_code
def yX2_isOfTwo : MethodName := ⟨RX2, "isOfTwo", "(I)Z"⟩
abbrev cX2_leavesBlank : ByteArray := prog_4_method_5_code
def yX2_leavesBlank : MethodName := ⟨RX2, "leavesBlank", "(LTideBook$Row;I)Z"⟩
abbrev cX2_hasBothNeighbours : ByteArray := prog_4_method_6_code
def yX2_hasBothNeighbours : MethodName := ⟨RX2, "hasBothNeighbours", "(I)Z"⟩
abbrev cX2_hasDifference : ByteArray := prog_4_method_7_code
def yX2_hasDifference : MethodName := ⟨RX2, "hasDifference", "(I)Z"⟩
abbrev cX2_isUndefined : ByteArray := prog_4_method_8_code
def yX2_isUndefined : MethodName := ⟨RX2, "isUndefined", "(IDD)Z"⟩
abbrev cX2_numberAt : ByteArray := prog_4_method_9_code
def yX2_numberAt : MethodName := ⟨RX2, "numberAt", "(LTideBook$Row;I)D"⟩
abbrev cX2_ofOne : ByteArray := prog_4_method_10_code
def yX2_ofOne : MethodName := ⟨RX2, "ofOne", "(ID)D"⟩
abbrev cX2_ofTwo : ByteArray := prog_4_method_11_code
def yX2_ofTwo : MethodName := ⟨RX2, "ofTwo", "(IDD)D"⟩
abbrev cX2_sum : ByteArray := prog_4_method_12_code
def yX2_sum : MethodName := ⟨RX2, "sum", "(DD)D"⟩
abbrev cX2_product : ByteArray := prog_4_method_13_code
def yX2_product : MethodName := ⟨RX2, "product", "(DD)D"⟩
abbrev cX2_quotient : ByteArray := prog_4_method_14_code
def yX2_quotient : MethodName := ⟨RX2, "quotient", "(DD)D"⟩
abbrev cX2_isSurelyWhole : ByteArray := prog_4_method_15_code
def yX2_isSurelyWhole : MethodName := ⟨RX2, "isSurelyWhole", "(D)Z"⟩
abbrev cX2_floor : ByteArray := prog_4_method_16_code
def yX2_floor : MethodName := ⟨RX2, "floor", "(D)D"⟩
abbrev cX2_nearest : ByteArray := prog_4_method_17_code
def yX2_nearest : MethodName := ⟨RX2, "nearest", "(D)D"⟩
abbrev cX2_remainder : ByteArray := prog_4_method_18_code
def yX2_remainder : MethodName := ⟨RX2, "remainder", "(DD)D"⟩
abbrev cX2_comesBefore : ByteArray := prog_4_method_19_code
def yX2_comesBefore : MethodName := ⟨RX2, "comesBefore", "(DD)Z"⟩
abbrev cX2_middleAt : ByteArray := prog_4_method_20_code
def yX2_middleAt : MethodName := ⟨RX2, "middleAt", "(I)D"⟩
abbrev cX2_farthestAt : ByteArray := prog_4_method_21_code
def yX2_farthestAt : MethodName := ⟨RX2, "farthestAt", "(LTideBook$Row;I)D"⟩
abbrev cX2_sort : ByteArray := prog_4_method_22_code
def yX2_sort : MethodName := ⟨RX2, "sort", "()V"⟩
abbrev cX2_insert : ByteArray := prog_4_method_23_code
def yX2_insert : MethodName := ⟨RX2, "insert", "(D)V"⟩
abbrev cX2_lesserPlaces : ByteArray := prog_4_method_24_code
def yX2_lesserPlaces : MethodName := ⟨RX2, "lesserPlaces", "(D)I"⟩
def RX3 : String := "TideBook$Row"
def TX3 : u_T := fun k => match k with
  | 0 => ("TideBook$Row", "numbers", "[D", true)
  | 1 => ("TideBook$Row", "blanks", "I", false)
  | 2 => ("TideBook$Row", "narrow", "Z", false)
  | 3 => ("TideBook$Row", "f", "I", false)
  | 4 => ("TideBook$Row", "a", "I", false)
  | 5 => ("TideBook$Row", "b", "I", false)
  | _ => ("TideBook$Row", "c", "I", false)
def tyX3 : Nat → FieldType := fun k => match k with
  | 0 => .array .double
  | 1 => .int
  | 2 => .boolean
  | 3 => .int
  | 4 => .int
  | 5 => .int
  | _ => .int
theorem nmX3 : ∀ a, a < 7 → ∀ b, b < 7 → a ≠ b → (TX3 a).2.1 ≠ (TX3 b).2.1 := by decide +kernel
theorem tyX3_ok : ∀ k, k < 7 → parseFieldDescriptor (TX3 k).2.2.1 = some (tyX3 k) := by decide +kernel
abbrev cX3_init : ByteArray := prog_5_method_1_code
def yX3_init : MethodName := ⟨RX3, "<init>", "()V"⟩
abbrev cX3_copy : ByteArray := prog_5_method_2_code
def yX3_copy : MethodName := ⟨RX3, "copy", "()LTideBook$Row;"⟩
abbrev cX3_hasFormula : ByteArray := prog_5_method_3_code
def yX3_hasFormula : MethodName := ⟨RX3, "hasFormula", "()Z"⟩
abbrev cX3_isTouched : ByteArray := prog_5_method_4_code
def yX3_isTouched : MethodName := ⟨RX3, "isTouched", "(II)Z"⟩
abbrev cX3_blankAt : ByteArray := prog_5_method_5_code
def yX3_blankAt : MethodName := ⟨RX3, "blankAt", "(I)Z"⟩
abbrev cX3_put : ByteArray := prog_5_method_6_code
def yX3_put : MethodName := ⟨RX3, "put", "(ID)V"⟩
abbrev cX3_clear : ByteArray := prog_5_method_7_code
def yX3_clear : MethodName := ⟨RX3, "clear", "(I)V"⟩
abbrev cX3_bringTo : ByteArray := prog_5_method_8_code
def yX3_bringTo : MethodName := ⟨RX3, "bringTo", "(Z)V"⟩
abbrev cX3_takeAll : ByteArray := prog_5_method_9_code
def yX3_takeAll : MethodName := ⟨RX3, "takeAll", "(LTideBook$Row;)V"⟩
abbrev cX3_takeOne : ByteArray := prog_5_method_10_code
def yX3_takeOne : MethodName := ⟨RX3, "takeOne", "(ILTideBook$Row;I)V"⟩
def RX4 : String := "TideBook$Scale"
def TX4 : u_T := fun k => match k with
  | 0 => ("TideBook$Scale", "up", "[D", true)
  | _ => ("TideBook$Scale", "down", "[D", true)
def tyX4 : Nat → FieldType := fun k => match k with
  | 0 => .array .double
  | _ => .array .double
theorem nmX4 : ∀ a, a < 2 → ∀ b, b < 2 → a ≠ b → (TX4 a).2.1 ≠ (TX4 b).2.1 := by decide +kernel
theorem tyX4_ok : ∀ k, k < 2 → parseFieldDescriptor (TX4 k).2.2.1 = some (tyX4 k) := by decide +kernel
abbrev cX4_init : ByteArray := prog_6_method_1_code
def yX4_init : MethodName := ⟨RX4, "<init>", "()V"⟩
abbrev cX4_times : ByteArray := prog_6_method_2_code
def yX4_times : MethodName := ⟨RX4, "times", "(DI)D"⟩
abbrev cX4_unit : ByteArray := prog_6_method_3_code
def yX4_unit : MethodName := ⟨RX4, "unit", "(DZ)I"⟩
abbrev cX4_bitsOf : ByteArray := prog_6_method_4_code
def yX4_bitsOf : MethodName := ⟨RX4, "bitsOf", "(DZ)J"⟩
def RX5 : String := "TideBook"
def TX5 : u_T := fun k => match k with
  | 0 => ("TideBook", "rows", "[LTideBook$Row;", true)
  | 1 => ("TideBook", "alarms", "[LTideBook$Alarm;", true)
  | 2 => ("TideBook", "reckoner", "LTideBook$Reckoner;", true)
  | 3 => ("TideBook", "latest", "LTideBook$Change;", false)
  | 4 => ("TideBook", "changes", "I", false)
  | 5 => ("TideBook", "alarmCount", "I", false)
  | 6 => ("TideBook", "rings", "I", false)
  | _ => ("TideBook", "stale", "I", false)
def tyX5 : Nat → FieldType := fun k => match k with
  | 0 => .array (.object "TideBook$Row")
  | 1 => .array (.object "TideBook$Alarm")
  | 2 => .object "TideBook$Reckoner"
  | 3 => .object "TideBook$Change"
  | 4 => .int
  | 5 => .int
  | 6 => .int
  | _ => .int
theorem nmX5 : ∀ a, a < 8 → ∀ b, b < 8 → a ≠ b → (TX5 a).2.1 ≠ (TX5 b).2.1 := by decide +kernel
theorem tyX5_ok : ∀ k, k < 8 → parseFieldDescriptor (TX5 k).2.2.1 = some (tyX5 k) := by decide +kernel
abbrev cX5_init : ByteArray := prog_1_method_1_code
def yX5_init : MethodName := ⟨RX5, "<init>", "()V"⟩
abbrev cX5_set : ByteArray := prog_1_method_2_code
def yX5_set : MethodName := ⟨RX5, "set", "(IIII)I"⟩
abbrev cX5_special : ByteArray := prog_1_method_3_code
def yX5_special : MethodName := ⟨RX5, "special", "(III)I"⟩
abbrev cX5_constant : ByteArray := prog_1_method_4_code
def yX5_constant : MethodName := ⟨RX5, "constant", "(III)I"⟩
abbrev cX5_constantSpecial : ByteArray := prog_1_method_5_code
def yX5_constantSpecial : MethodName := ⟨RX5, "constantSpecial", "(II)I"⟩
abbrev cX5_formula : ByteArray := prog_1_method_6_code
def yX5_formula : MethodName := ⟨RX5, "formula", "(IIIII)I"⟩
abbrev cX5_input : ByteArray := prog_1_method_7_code
def yX5_input : MethodName := ⟨RX5, "input", "(I)I"⟩
abbrev cX5_width : ByteArray := prog_1_method_8_code
def yX5_width : MethodName := ⟨RX5, "width", "(IZ)I"⟩
abbrev cX5_back : ByteArray := prog_1_method_9_code
def yX5_back : MethodName := ⟨RX5, "back", "()I"⟩
abbrev cX5_alarm : ByteArray := prog_1_method_10_code
def yX5_alarm : MethodName := ⟨RX5, "alarm", "(III)I"⟩
abbrev cX5_ring : ByteArray := prog_1_method_11_code
def yX5_ring : MethodName := ⟨RX5, "ring", "()I"⟩
abbrev cX5_reading : ByteArray := prog_1_method_12_code
def yX5_reading : MethodName := ⟨RX5, "reading", "(II)D"⟩
abbrev cX5_isBlank : ByteArray := prog_1_method_13_code
def yX5_isBlank : MethodName := ⟨RX5, "isBlank", "(II)Z"⟩
abbrev cX5_isMinus : ByteArray := prog_1_method_14_code
def yX5_isMinus : MethodName := ⟨RX5, "isMinus", "(II)Z"⟩
abbrev cX5_bits : ByteArray := prog_1_method_15_code
def yX5_bits : MethodName := ⟨RX5, "bits", "(II)J"⟩
abbrev cX5_compared : ByteArray := prog_1_method_16_code
def yX5_compared : MethodName := ⟨RX5, "compared", "(III)I"⟩
abbrev cX5_alarmed : ByteArray := prog_1_method_17_code
def yX5_alarmed : MethodName := ⟨RX5, "alarmed", "(II)I"⟩
abbrev cX5_told : ByteArray := prog_1_method_18_code
def yX5_told : MethodName := ⟨RX5, "told", "(II)I"⟩
abbrev cX5_toldOfBook : ByteArray := prog_1_method_19_code
def yX5_toldOfBook : MethodName := ⟨RX5, "toldOfBook", "(I)I"⟩
abbrev cX5_toldOfColumn : ByteArray := prog_1_method_20_code
def yX5_toldOfColumn : MethodName := ⟨RX5, "toldOfColumn", "(LTideBook$Row;I)I"⟩
abbrev cX5_isColumn : ByteArray := prog_1_method_21_code
def yX5_isColumn : MethodName := ⟨RX5, "isColumn", "(I)Z"⟩
abbrev cX5_isPlace : ByteArray := prog_1_method_22_code
def yX5_isPlace : MethodName := ⟨RX5, "isPlace", "(I)Z"⟩
abbrev cX5_isConstant : ByteArray := prog_1_method_23_code
def yX5_isConstant : MethodName := ⟨RX5, "isConstant", "(I)Z"⟩
abbrev cX5_isComparison : ByteArray := prog_1_method_24_code
def yX5_isComparison : MethodName := ⟨RX5, "isComparison", "(I)Z"⟩
abbrev cX5_isExponent : ByteArray := prog_1_method_25_code
def yX5_isExponent : MethodName := ⟨RX5, "isExponent", "(I)Z"⟩
abbrev cX5_isSpecial : ByteArray := prog_1_method_26_code
def yX5_isSpecial : MethodName := ⟨RX5, "isSpecial", "(I)Z"⟩
abbrev cX5_isFull : ByteArray := prog_1_method_27_code
def yX5_isFull : MethodName := ⟨RX5, "isFull", "()Z"⟩
abbrev cX5_takesReading : ByteArray := prog_1_method_28_code
def yX5_takesReading : MethodName := ⟨RX5, "takesReading", "(II)Z"⟩
abbrev cX5_isNumber : ByteArray := prog_1_method_29_code
def yX5_isNumber : MethodName := ⟨RX5, "isNumber", "(II)Z"⟩
abbrev cX5_changed : ByteArray := prog_1_method_30_code
def yX5_changed : MethodName := ⟨RX5, "changed", "(I)LTideBook$Row;"⟩
abbrev cX5_putSpecial : ByteArray := prog_1_method_31_code
def yX5_putSpecial : MethodName := ⟨RX5, "putSpecial", "(LTideBook$Row;II)V"⟩
abbrev cX5_settle : ByteArray := prog_1_method_32_code
def yX5_settle : MethodName := ⟨RX5, "settle", "()V"⟩
abbrev cX5_placesWhere : ByteArray := prog_1_method_33_code
def yX5_placesWhere : MethodName := ⟨RX5, "placesWhere", "(III)I"⟩
abbrev cX5_isSo : ByteArray := prog_1_method_34_code
def yX5_isSo : MethodName := ⟨RX5, "isSo", "(ILTideBook$Row;ILTideBook$Row;I)Z"⟩
abbrev cX5_isSoOfNumbers : ByteArray := prog_1_method_35_code
def yX5_isSoOfNumbers : MethodName := ⟨RX5, "isSoOfNumbers", "(IDD)Z"⟩
abbrev cX5_hasMinus : ByteArray := prog_1_method_36_code
def yX5_hasMinus : MethodName := ⟨RX5, "hasMinus", "(D)Z"⟩
abbrev cX5_isInfinite : ByteArray := prog_1_method_37_code
def yX5_isInfinite : MethodName := ⟨RX5, "isInfinite", "(D)Z"⟩
def RX6 : String := "TideBookModel"
def TX6 : u_T := fun k => match k with
  | 0 => ("TideBookModel", "told", "[D", true)
  | 1 => ("TideBookModel", "blank", "[Z", true)
  | 2 => ("TideBookModel", "narrow", "[Z", true)
  | 3 => ("TideBookModel", "made", "[I", true)
  | 4 => ("TideBookModel", "now", "[D", true)
  | 5 => ("TideBookModel", "none", "[Z", true)
  | 6 => ("TideBookModel", "toldThen", "[D", true)
  | 7 => ("TideBookModel", "blankThen", "[Z", true)
  | 8 => ("TideBookModel", "narrowThen", "[Z", true)
  | 9 => ("TideBookModel", "madeThen", "[I", true)
  | 10 => ("TideBookModel", "changes", "I", false)
  | 11 => ("TideBookModel", "alarms", "[I", true)
  | 12 => ("TideBookModel", "held", "[I", true)
  | 13 => ("TideBookModel", "rang", "[I", true)
  | 14 => ("TideBookModel", "looked", "[Z", true)
  | 15 => ("TideBookModel", "alarmMany", "I", false)
  | 16 => ("TideBookModel", "rings", "I", false)
  | 17 => ("TideBookModel", "worth", "D", false)
  | _ => ("TideBookModel", "isNone", "Z", false)
def tyX6 : Nat → FieldType := fun k => match k with
  | 0 => .array .double
  | 1 => .array .boolean
  | 2 => .array .boolean
  | 3 => .array .int
  | 4 => .array .double
  | 5 => .array .boolean
  | 6 => .array .double
  | 7 => .array .boolean
  | 8 => .array .boolean
  | 9 => .array .int
  | 10 => .int
  | 11 => .array .int
  | 12 => .array .int
  | 13 => .array .int
  | 14 => .array .boolean
  | 15 => .int
  | 16 => .int
  | 17 => .double
  | _ => .boolean
theorem nmX6 : ∀ a, a < 19 → ∀ b, b < 19 → a ≠ b → (TX6 a).2.1 ≠ (TX6 b).2.1 := by decide +kernel
theorem tyX6_ok : ∀ k, k < 19 → parseFieldDescriptor (TX6 k).2.2.1 = some (tyX6 k) := by decide +kernel
abbrev cX6_init : ByteArray := prog_8_method_1_code
def yX6_init : MethodName := ⟨RX6, "<init>", "()V"⟩
abbrev cX6_isIn : ByteArray := prog_8_method_2_code
def yX6_isIn : MethodName := ⟨RX6, "isIn", "(III)Z"⟩
abbrev cX6_isZero : ByteArray := prog_8_method_3_code
def yX6_isZero : MethodName := ⟨RX6, "isZero", "(D)Z"⟩
abbrev cX6_isInfinite : ByteArray := prog_8_method_4_code
def yX6_isInfinite : MethodName := ⟨RX6, "isInfinite", "(D)Z"⟩
abbrev cX6_hasMinus : ByteArray := prog_8_method_5_code
def yX6_hasMinus : MethodName := ⟨RX6, "hasMinus", "(D)Z"⟩
abbrev cX6_zero : ByteArray := prog_8_method_6_code
def yX6_zero : MethodName := ⟨RX6, "zero", "(Z)D"⟩
abbrev cX6_brought : ByteArray := prog_8_method_7_code
def yX6_brought : MethodName := ⟨RX6, "brought", "(DZ)D"⟩
abbrev cX6_isLower : ByteArray := prog_8_method_8_code
def yX6_isLower : MethodName := ⟨RX6, "isLower", "(DD)Z"⟩
abbrev cX6_isSo : ByteArray := prog_8_method_9_code
def yX6_isSo : MethodName := ⟨RX6, "isSo", "(IDZDZ)Z"⟩
abbrev cX6_whole : ByteArray := prog_8_method_10_code
def yX6_whole : MethodName := ⟨RX6, "whole", "(DI)D"⟩
abbrev cX6_sum : ByteArray := prog_8_method_11_code
def yX6_sum : MethodName := ⟨RX6, "sum", "(DDZ)D"⟩
abbrev cX6_product : ByteArray := prog_8_method_12_code
def yX6_product : MethodName := ⟨RX6, "product", "(DDZ)D"⟩
abbrev cX6_quotient : ByteArray := prog_8_method_13_code
def yX6_quotient : MethodName := ⟨RX6, "quotient", "(DDZ)D"⟩
abbrev cX6_power : ByteArray := prog_8_method_14_code
def yX6_power : MethodName := ⟨RX6, "power", "(II)D"⟩
abbrev cX6_gives : ByteArray := prog_8_method_15_code
def yX6_gives : MethodName := ⟨RX6, "gives", "(D)V"⟩
abbrev cX6_givesNothing : ByteArray := prog_8_method_16_code
def yX6_givesNothing : MethodName := ⟨RX6, "givesNothing", "()V"⟩
abbrev cX6_at : ByteArray := prog_8_method_17_code
def yX6_at : MethodName := ⟨RX6, "at", "(II)I"⟩
abbrev cX6_single : ByteArray := prog_8_method_18_code
def yX6_single : MethodName := ⟨RX6, "single", "(IDZ)V"⟩
abbrev cX6_difference : ByteArray := prog_8_method_19_code
def yX6_difference : MethodName := ⟨RX6, "difference", "(DDZ)V"⟩
abbrev cX6_both : ByteArray := prog_8_method_20_code
def yX6_both : MethodName := ⟨RX6, "both", "(IDDZ)V"⟩
abbrev cX6_x : ByteArray := prog_8_method_21_code
def yX6_x : MethodName := ⟨RX6, "x", "(II)D"⟩
abbrev cX6_noX : ByteArray := prog_8_method_22_code
def yX6_noX : MethodName := ⟨RX6, "noX", "(II)Z"⟩
abbrev cX6_y : ByteArray := prog_8_method_23_code
def yX6_y : MethodName := ⟨RX6, "y", "(II)D"⟩
abbrev cX6_noY : ByteArray := prog_8_method_24_code
def yX6_noY : MethodName := ⟨RX6, "noY", "(II)Z"⟩
abbrev cX6_compares : ByteArray := prog_8_method_25_code
def yX6_compares : MethodName := ⟨RX6, "compares", "(II)Z"⟩
abbrev cX6_rank : ByteArray := prog_8_method_26_code
def yX6_rank : MethodName := ⟨RX6, "rank", "(IIII)I"⟩
abbrev cX6_ranked : ByteArray := prog_8_method_27_code
def yX6_ranked : MethodName := ⟨RX6, "ranked", "(IIII)V"⟩
abbrev cX6_manyX : ByteArray := prog_8_method_28_code
def yX6_manyX : MethodName := ⟨RX6, "manyX", "(III)I"⟩
abbrev cX6_lessThan : ByteArray := prog_8_method_29_code
def yX6_lessThan : MethodName := ⟨RX6, "lessThan", "(II)I"⟩
abbrev cX6_manySo : ByteArray := prog_8_method_30_code
def yX6_manySo : MethodName := ⟨RX6, "manySo", "(II)I"⟩
abbrev cX6_reckon : ByteArray := prog_8_method_31_code
def yX6_reckon : MethodName := ⟨RX6, "reckon", "(II)V"⟩
abbrev cX6_reckonAll : ByteArray := prog_8_method_32_code
def yX6_reckonAll : MethodName := ⟨RX6, "reckonAll", "()V"⟩
abbrev cX6_changed : ByteArray := prog_8_method_33_code
def yX6_changed : MethodName := ⟨RX6, "changed", "()I"⟩
abbrev cX6_picture : ByteArray := prog_8_method_34_code
def yX6_picture : MethodName := ⟨RX6, "picture", "()V"⟩
abbrev cX6_back : ByteArray := prog_8_method_35_code
def yX6_back : MethodName := ⟨RX6, "back", "()I"⟩
abbrev cX6_canSet : ByteArray := prog_8_method_36_code
def yX6_canSet : MethodName := ⟨RX6, "canSet", "(II)Z"⟩
abbrev cX6_put : ByteArray := prog_8_method_37_code
def yX6_put : MethodName := ⟨RX6, "put", "(ID)V"⟩
abbrev cX6_putSpecial : ByteArray := prog_8_method_38_code
def yX6_putSpecial : MethodName := ⟨RX6, "putSpecial", "(IIZ)V"⟩
abbrev cX6_set : ByteArray := prog_8_method_39_code
def yX6_set : MethodName := ⟨RX6, "set", "(IIII)I"⟩
abbrev cX6_special : ByteArray := prog_8_method_40_code
def yX6_special : MethodName := ⟨RX6, "special", "(III)I"⟩
abbrev cX6_constant : ByteArray := prog_8_method_41_code
def yX6_constant : MethodName := ⟨RX6, "constant", "(III)I"⟩
abbrev cX6_constantSpecial : ByteArray := prog_8_method_42_code
def yX6_constantSpecial : MethodName := ⟨RX6, "constantSpecial", "(II)I"⟩
abbrev cX6_formula : ByteArray := prog_8_method_43_code
def yX6_formula : MethodName := ⟨RX6, "formula", "(IIIII)I"⟩
abbrev cX6_input : ByteArray := prog_8_method_44_code
def yX6_input : MethodName := ⟨RX6, "input", "(I)I"⟩
abbrev cX6_width : ByteArray := prog_8_method_45_code
def yX6_width : MethodName := ⟨RX6, "width", "(IZ)I"⟩
abbrev cX6_alarm : ByteArray := prog_8_method_46_code
def yX6_alarm : MethodName := ⟨RX6, "alarm", "(III)I"⟩
abbrev cX6_holds : ByteArray := prog_8_method_47_code
def yX6_holds : MethodName := ⟨RX6, "holds", "(II)Z"⟩
abbrev cX6_manyBits : ByteArray := prog_8_method_48_code
def yX6_manyBits : MethodName := ⟨RX6, "manyBits", "(I)I"⟩
abbrev cX6_ring : ByteArray := prog_8_method_49_code
def yX6_ring : MethodName := ⟨RX6, "ring", "()I"⟩
abbrev cX6_alarmed : ByteArray := prog_8_method_50_code
def yX6_alarmed : MethodName := ⟨RX6, "alarmed", "(II)I"⟩
abbrev cX6_isThere : ByteArray := prog_8_method_51_code
def yX6_isThere : MethodName := ⟨RX6, "isThere", "(II)Z"⟩
abbrev cX6_reading : ByteArray := prog_8_method_52_code
def yX6_reading : MethodName := ⟨RX6, "reading", "(II)D"⟩
abbrev cX6_isBlank : ByteArray := prog_8_method_53_code
def yX6_isBlank : MethodName := ⟨RX6, "isBlank", "(II)Z"⟩
abbrev cX6_isMinus : ByteArray := prog_8_method_54_code
def yX6_isMinus : MethodName := ⟨RX6, "isMinus", "(II)Z"⟩
abbrev cX6_digits : ByteArray := prog_8_method_55_code
def yX6_digits : MethodName := ⟨RX6, "digits", "(DIII)J"⟩
abbrev cX6_bits : ByteArray := prog_8_method_56_code
def yX6_bits : MethodName := ⟨RX6, "bits", "(II)J"⟩
abbrev cX6_compared : ByteArray := prog_8_method_57_code
def yX6_compared : MethodName := ⟨RX6, "compared", "(III)I"⟩
abbrev cX6_told : ByteArray := prog_8_method_58_code
def yX6_told : MethodName := ⟨RX6, "told", "(II)I"⟩
def RJ6 : String := "java/lang/Integer"
abbrev cJ6_bitCount_0f7a4 : ByteArray := prog_9_method_49_code
def yJ6_bitCount_0f7a4 : MethodName := ⟨RJ6, "bitCount", "(I)I"⟩
def RJ10 : String := "java/lang/System"
def RL : String := "TideBookLaw"
abbrev cL_law : ByteArray := code
def yL_law : MethodName := ⟨RL, "law", "([I)Z"⟩
abbrev vwCl : List vw_C := [(RX0, TX0, 6), (RX1, TX1, 3), (RX2, TX2, 5), (RX3, TX3, 7), (RX4, TX4, 2), (RX5, TX5, 8), (RX6, TX6, 19)]
end
section
theorem dX0_init_0 : decode cX0_init 0 = .ok (.aload_n 0, 1) := by decide +kernel
theorem dX0_init_1 : decode cX0_init 1 = .ok (.invokespecial 3, 3) := by decide +kernel
theorem dX0_init_4 : decode cX0_init 4 = .ok (.aload_n 0, 1) := by decide +kernel
theorem dX0_init_5 : decode cX0_init 5 = .ok (.iload_n 1, 1) := by decide +kernel
theorem dX0_init_6 : decode cX0_init 6 = .ok (.putfield 9, 3) := by decide +kernel
theorem dX0_init_9 : decode cX0_init 9 = .ok (.aload_n 0, 1) := by decide +kernel
theorem dX0_init_10 : decode cX0_init 10 = .ok (.iload_n 2, 1) := by decide +kernel
theorem dX0_init_11 : decode cX0_init 11 = .ok (.putfield 15, 3) := by decide +kernel
theorem dX0_init_14 : decode cX0_init 14 = .ok (.aload_n 0, 1) := by decide +kernel
theorem dX0_init_15 : decode cX0_init 15 = .ok (.iload_n 3, 1) := by decide +kernel
theorem dX0_init_16 : decode cX0_init 16 = .ok (.putfield 18, 3) := by decide +kernel
theorem dX0_init_19 : decode cX0_init 19 = .ok (.aload_n 0, 1) := by decide +kernel
theorem dX0_init_20 : decode cX0_init 20 = .ok (.iconst 0, 1) := by decide +kernel
theorem dX0_init_21 : decode cX0_init 21 = .ok (.putfield 21, 3) := by decide +kernel
theorem dX0_init_24 : decode cX0_init 24 = .ok (.aload_n 0, 1) := by decide +kernel
theorem dX0_init_25 : decode cX0_init 25 = .ok (.iconst 0, 1) := by decide +kernel
theorem dX0_init_26 : decode cX0_init 26 = .ok (.putfield 24, 3) := by decide +kernel
theorem dX0_init_29 : decode cX0_init 29 = .ok (.aload_n 0, 1) := by decide +kernel
theorem dX0_init_30 : decode cX0_init 30 = .ok (.iconst 0, 1) := by decide +kernel
theorem dX0_init_31 : decode cX0_init 31 = .ok (.putfield 27, 3) := by decide +kernel
theorem dX0_init_34 : decode cX0_init 34 = .ok (.return_, 1) := by decide +kernel
theorem dX0_look_0 : decode cX0_look 0 = .ok (.aload_n 0, 1) := by decide +kernel
theorem dX0_look_1 : decode cX0_look 1 = .ok (.iload_n 1, 1) := by decide +kernel
theorem dX0_look_2 : decode cX0_look 2 = .ok (.aload_n 0, 1) := by decide +kernel
theorem dX0_look_3 : decode cX0_look 3 = .ok (.getfield 21, 3) := by decide +kernel
theorem dX0_look_6 : decode cX0_look 6 = .ok (.iconst (-1), 1) := by decide +kernel
theorem dX0_look_7 : decode cX0_look 7 = .ok (.ixor, 1) := by decide +kernel
theorem dX0_look_8 : decode cX0_look 8 = .ok (.iand, 1) := by decide +kernel
theorem dX0_look_9 : decode cX0_look 9 = .ok (.putfield 24, 3) := by decide +kernel
theorem dX0_look_12 : decode cX0_look 12 = .ok (.aload_n 0, 1) := by decide +kernel
theorem dX0_look_13 : decode cX0_look 13 = .ok (.iload_n 1, 1) := by decide +kernel
theorem dX0_look_14 : decode cX0_look 14 = .ok (.putfield 21, 3) := by decide +kernel
theorem dX0_look_17 : decode cX0_look 17 = .ok (.aload_n 0, 1) := by decide +kernel
theorem dX0_look_18 : decode cX0_look 18 = .ok (.iconst 1, 1) := by decide +kernel
theorem dX0_look_19 : decode cX0_look 19 = .ok (.putfield 27, 3) := by decide +kernel
theorem dX0_look_22 : decode cX0_look 22 = .ok (.aload_n 0, 1) := by decide +kernel
theorem dX0_look_23 : decode cX0_look 23 = .ok (.getfield 24, 3) := by decide +kernel
theorem dX0_look_26 : decode cX0_look 26 = .ok (.invokestatic 31, 3) := by decide +kernel
theorem dX0_look_29 : decode cX0_look 29 = .ok (.ireturn, 1) := by decide +kernel
theorem dX0_answer_0 : decode cX0_answer 0 = .ok (.aload_n 0, 1) := by decide +kernel
theorem dX0_answer_1 : decode cX0_answer 1 = .ok (.getfield 27, 3) := by decide +kernel
theorem dX0_answer_4 : decode cX0_answer 4 = .ok (.ifCond .ne 5, 3) := by decide +kernel
theorem dX0_answer_7 : decode cX0_answer 7 = .ok (.iconst (-1), 1) := by decide +kernel
theorem dX0_answer_8 : decode cX0_answer 8 = .ok (.ireturn, 1) := by decide +kernel
theorem dX0_answer_9 : decode cX0_answer 9 = .ok (.iload_n 1, 1) := by decide +kernel
theorem dX0_answer_10 : decode cX0_answer 10 = .ok (.tableswitch 47 0 2 #[26, 34, 42], 26) := by decide +kernel
theorem dX0_answer_36 : decode cX0_answer 36 = .ok (.aload_n 0, 1) := by decide +kernel
theorem dX0_answer_37 : decode cX0_answer 37 = .ok (.getfield 21, 3) := by decide +kernel
theorem dX0_answer_40 : decode cX0_answer 40 = .ok (.invokestatic 31, 3) := by decide +kernel
theorem dX0_answer_43 : decode cX0_answer 43 = .ok (.ireturn, 1) := by decide +kernel
theorem dX0_answer_44 : decode cX0_answer 44 = .ok (.aload_n 0, 1) := by decide +kernel
theorem dX0_answer_45 : decode cX0_answer 45 = .ok (.getfield 24, 3) := by decide +kernel
theorem dX0_answer_48 : decode cX0_answer 48 = .ok (.invokestatic 31, 3) := by decide +kernel
theorem dX0_answer_51 : decode cX0_answer 51 = .ok (.ireturn, 1) := by decide +kernel
theorem dX0_answer_52 : decode cX0_answer 52 = .ok (.aload_n 0, 1) := by decide +kernel
theorem dX0_answer_53 : decode cX0_answer 53 = .ok (.invokevirtual 37, 3) := by decide +kernel
theorem dX0_answer_56 : decode cX0_answer 56 = .ok (.ireturn, 1) := by decide +kernel
theorem dX0_answer_57 : decode cX0_answer 57 = .ok (.iconst (-1), 1) := by decide +kernel
theorem dX0_answer_58 : decode cX0_answer 58 = .ok (.ireturn, 1) := by decide +kernel
theorem dX0_firstRang_0 : decode cX0_firstRang 0 = .ok (.iconst 0, 1) := by decide +kernel
theorem dX0_firstRang_1 : decode cX0_firstRang 1 = .ok (.istore_n 1, 1) := by decide +kernel
theorem dX0_firstRang_2 : decode cX0_firstRang 2 = .ok (.iload_n 1, 1) := by decide +kernel
theorem dX0_firstRang_3 : decode cX0_firstRang 3 = .ok (.bipush 16, 2) := by decide +kernel
theorem dX0_firstRang_5 : decode cX0_firstRang 5 = .ok (.if_icmp .ge 23, 3) := by decide +kernel
theorem dX0_firstRang_8 : decode cX0_firstRang 8 = .ok (.aload_n 0, 1) := by decide +kernel
theorem dX0_firstRang_9 : decode cX0_firstRang 9 = .ok (.getfield 24, 3) := by decide +kernel
theorem dX0_firstRang_12 : decode cX0_firstRang 12 = .ok (.iload_n 1, 1) := by decide +kernel
theorem dX0_firstRang_13 : decode cX0_firstRang 13 = .ok (.ishr, 1) := by decide +kernel
theorem dX0_firstRang_14 : decode cX0_firstRang 14 = .ok (.iconst 1, 1) := by decide +kernel
theorem dX0_firstRang_15 : decode cX0_firstRang 15 = .ok (.iand, 1) := by decide +kernel
theorem dX0_firstRang_16 : decode cX0_firstRang 16 = .ok (.iconst 1, 1) := by decide +kernel
theorem dX0_firstRang_17 : decode cX0_firstRang 17 = .ok (.if_icmp .ne 5, 3) := by decide +kernel
theorem dX0_firstRang_20 : decode cX0_firstRang 20 = .ok (.iload_n 1, 1) := by decide +kernel
theorem dX0_firstRang_21 : decode cX0_firstRang 21 = .ok (.ireturn, 1) := by decide +kernel
theorem dX0_firstRang_22 : decode cX0_firstRang 22 = .ok (.iinc 1 1, 3) := by decide +kernel
theorem dX0_firstRang_25 : decode cX0_firstRang 25 = .ok (.goto (-23), 3) := by decide +kernel
theorem dX0_firstRang_28 : decode cX0_firstRang 28 = .ok (.iconst (-1), 1) := by decide +kernel
theorem dX0_firstRang_29 : decode cX0_firstRang 29 = .ok (.ireturn, 1) := by decide +kernel
theorem dX1_init_0 : decode cX1_init 0 = .ok (.aload_n 0, 1) := by decide +kernel
theorem dX1_init_1 : decode cX1_init 1 = .ok (.invokespecial 1, 3) := by decide +kernel
theorem dX1_init_4 : decode cX1_init 4 = .ok (.aload_n 0, 1) := by decide +kernel
theorem dX1_init_5 : decode cX1_init 5 = .ok (.iload_n 1, 1) := by decide +kernel
theorem dX1_init_6 : decode cX1_init 6 = .ok (.putfield 7, 3) := by decide +kernel
theorem dX1_init_9 : decode cX1_init 9 = .ok (.aload_n 0, 1) := by decide +kernel
theorem dX1_init_10 : decode cX1_init 10 = .ok (.aload_n 2, 1) := by decide +kernel
theorem dX1_init_11 : decode cX1_init 11 = .ok (.putfield 13, 3) := by decide +kernel
theorem dX1_init_14 : decode cX1_init 14 = .ok (.aload_n 0, 1) := by decide +kernel
theorem dX1_init_15 : decode cX1_init 15 = .ok (.aload_n 3, 1) := by decide +kernel
theorem dX1_init_16 : decode cX1_init 16 = .ok (.putfield 17, 3) := by decide +kernel
theorem dX1_init_19 : decode cX1_init 19 = .ok (.return_, 1) := by decide +kernel
theorem dX2_init_0 : decode cX2_init 0 = .ok (.aload_n 0, 1) := by decide +kernel
theorem dX2_init_1 : decode cX2_init 1 = .ok (.invokespecial 3, 3) := by decide +kernel
theorem dX2_init_4 : decode cX2_init 4 = .ok (.aload_n 0, 1) := by decide +kernel
theorem dX2_init_5 : decode cX2_init 5 = .ok (.new 9, 3) := by decide +kernel
theorem dX2_init_8 : decode cX2_init 8 = .ok (.dup, 1) := by decide +kernel
theorem dX2_init_9 : decode cX2_init 9 = .ok (.invokespecial 11, 3) := by decide +kernel
theorem dX2_init_12 : decode cX2_init 12 = .ok (.putfield 12, 3) := by decide +kernel
theorem dX2_init_15 : decode cX2_init 15 = .ok (.aload_n 0, 1) := by decide +kernel
theorem dX2_init_16 : decode cX2_init 16 = .ok (.new 18, 3) := by decide +kernel
theorem dX2_init_19 : decode cX2_init 19 = .ok (.dup, 1) := by decide +kernel
theorem dX2_init_20 : decode cX2_init 20 = .ok (.invokespecial 20, 3) := by decide +kernel
theorem dX2_init_23 : decode cX2_init 23 = .ok (.putfield 21, 3) := by decide +kernel
theorem dX2_init_26 : decode cX2_init 26 = .ok (.aload_n 0, 1) := by decide +kernel
theorem dX2_init_27 : decode cX2_init 27 = .ok (.new 18, 3) := by decide +kernel
theorem dX2_init_30 : decode cX2_init 30 = .ok (.dup, 1) := by decide +kernel
theorem dX2_init_31 : decode cX2_init 31 = .ok (.invokespecial 20, 3) := by decide +kernel
theorem dX2_init_34 : decode cX2_init 34 = .ok (.putfield 25, 3) := by decide +kernel
theorem dX2_init_37 : decode cX2_init 37 = .ok (.aload_n 0, 1) := by decide +kernel
theorem dX2_init_38 : decode cX2_init 38 = .ok (.bipush 16, 2) := by decide +kernel
theorem dX2_init_40 : decode cX2_init 40 = .ok (.newarray .double, 2) := by decide +kernel
theorem dX2_init_42 : decode cX2_init 42 = .ok (.putfield 28, 3) := by decide +kernel
theorem dX2_init_45 : decode cX2_init 45 = .ok (.aload_n 0, 1) := by decide +kernel
theorem dX2_init_46 : decode cX2_init 46 = .ok (.iconst 0, 1) := by decide +kernel
theorem dX2_init_47 : decode cX2_init 47 = .ok (.putfield 32, 3) := by decide +kernel
theorem dX2_init_50 : decode cX2_init 50 = .ok (.return_, 1) := by decide +kernel
theorem dX2_reckon_0 : decode cX2_reckon 0 = .ok (.aload_n 0, 1) := by decide +kernel
theorem dX2_reckon_1 : decode cX2_reckon 1 = .ok (.getfield 21, 3) := by decide +kernel
theorem dX2_reckon_4 : decode cX2_reckon 4 = .ok (.aload_n 1, 1) := by decide +kernel
theorem dX2_reckon_5 : decode cX2_reckon 5 = .ok (.getfield 36, 3) := by decide +kernel
theorem dX2_reckon_8 : decode cX2_reckon 8 = .ok (.putfield 36, 3) := by decide +kernel
theorem dX2_reckon_11 : decode cX2_reckon 11 = .ok (.aload_n 0, 1) := by decide +kernel
theorem dX2_reckon_12 : decode cX2_reckon 12 = .ok (.getfield 25, 3) := by decide +kernel
theorem dX2_reckon_15 : decode cX2_reckon 15 = .ok (.aload_n 1, 1) := by decide +kernel
theorem dX2_reckon_16 : decode cX2_reckon 16 = .ok (.getfield 36, 3) := by decide +kernel
theorem dX2_reckon_19 : decode cX2_reckon 19 = .ok (.putfield 36, 3) := by decide +kernel
theorem dX2_reckon_22 : decode cX2_reckon 22 = .ok (.aload_n 0, 1) := by decide +kernel
theorem dX2_reckon_23 : decode cX2_reckon 23 = .ok (.getfield 21, 3) := by decide +kernel
theorem dX2_reckon_26 : decode cX2_reckon 26 = .ok (.aload_n 2, 1) := by decide +kernel
theorem dX2_reckon_27 : decode cX2_reckon 27 = .ok (.aload_n 1, 1) := by decide +kernel
theorem dX2_reckon_28 : decode cX2_reckon 28 = .ok (.getfield 40, 3) := by decide +kernel
theorem dX2_reckon_31 : decode cX2_reckon 31 = .ok (.aaload, 1) := by decide +kernel
theorem dX2_reckon_32 : decode cX2_reckon 32 = .ok (.invokevirtual 43, 3) := by decide +kernel
theorem dX2_reckon_35 : decode cX2_reckon 35 = .ok (.aload_n 0, 1) := by decide +kernel
theorem dX2_reckon_36 : decode cX2_reckon 36 = .ok (.aload_n 1, 1) := by decide +kernel
theorem dX2_reckon_37 : decode cX2_reckon 37 = .ok (.getfield 47, 3) := by decide +kernel
theorem dX2_reckon_40 : decode cX2_reckon 40 = .ok (.aload_n 2, 1) := by decide +kernel
theorem dX2_reckon_41 : decode cX2_reckon 41 = .ok (.invokevirtual 50, 3) := by decide +kernel
theorem dX2_reckon_44 : decode cX2_reckon 44 = .ok (.aload_n 1, 1) := by decide +kernel
theorem dX2_reckon_45 : decode cX2_reckon 45 = .ok (.getfield 54, 3) := by decide +kernel
theorem dX2_reckon_48 : decode cX2_reckon 48 = .ok (.bipush 22, 2) := by decide +kernel
theorem dX2_reckon_50 : decode cX2_reckon 50 = .ok (.if_icmp .ne 7, 3) := by decide +kernel
theorem dX2_reckon_53 : decode cX2_reckon 53 = .ok (.aload_n 0, 1) := by decide +kernel
theorem dX2_reckon_54 : decode cX2_reckon 54 = .ok (.invokevirtual 57, 3) := by decide +kernel
theorem dX2_reckon_57 : decode cX2_reckon 57 = .ok (.iconst 0, 1) := by decide +kernel
theorem dX2_reckon_58 : decode cX2_reckon 58 = .ok (.istore_n 3, 1) := by decide +kernel
theorem dX2_reckon_59 : decode cX2_reckon 59 = .ok (.iload_n 3, 1) := by decide +kernel
theorem dX2_reckon_60 : decode cX2_reckon 60 = .ok (.bipush 16, 2) := by decide +kernel
theorem dX2_reckon_62 : decode cX2_reckon 62 = .ok (.if_icmp .ge 37, 3) := by decide +kernel
theorem dX2_reckon_65 : decode cX2_reckon 65 = .ok (.aload_n 0, 1) := by decide +kernel
theorem dX2_reckon_66 : decode cX2_reckon 66 = .ok (.aload_n 1, 1) := by decide +kernel
theorem dX2_reckon_67 : decode cX2_reckon 67 = .ok (.iload_n 3, 1) := by decide +kernel
theorem dX2_reckon_68 : decode cX2_reckon 68 = .ok (.invokevirtual 60, 3) := by decide +kernel
theorem dX2_reckon_71 : decode cX2_reckon 71 = .ok (.ifCond .eq 11, 3) := by decide +kernel
theorem dX2_reckon_74 : decode cX2_reckon 74 = .ok (.aload_n 1, 1) := by decide +kernel
theorem dX2_reckon_75 : decode cX2_reckon 75 = .ok (.iload_n 3, 1) := by decide +kernel
theorem dX2_reckon_76 : decode cX2_reckon 76 = .ok (.invokevirtual 64, 3) := by decide +kernel
theorem dX2_reckon_79 : decode cX2_reckon 79 = .ok (.goto 14, 3) := by decide +kernel
theorem dX2_reckon_82 : decode cX2_reckon 82 = .ok (.aload_n 1, 1) := by decide +kernel
theorem dX2_reckon_83 : decode cX2_reckon 83 = .ok (.iload_n 3, 1) := by decide +kernel
theorem dX2_reckon_84 : decode cX2_reckon 84 = .ok (.aload_n 0, 1) := by decide +kernel
theorem dX2_reckon_85 : decode cX2_reckon 85 = .ok (.aload_n 1, 1) := by decide +kernel
theorem dX2_reckon_86 : decode cX2_reckon 86 = .ok (.iload_n 3, 1) := by decide +kernel
theorem dX2_reckon_87 : decode cX2_reckon 87 = .ok (.invokevirtual 68, 3) := by decide +kernel
theorem dX2_reckon_90 : decode cX2_reckon 90 = .ok (.invokevirtual 72, 3) := by decide +kernel
theorem dX2_reckon_93 : decode cX2_reckon 93 = .ok (.iinc 3 1, 3) := by decide +kernel
theorem dX2_reckon_96 : decode cX2_reckon 96 = .ok (.goto (-37), 3) := by decide +kernel
theorem dX2_reckon_99 : decode cX2_reckon 99 = .ok (.return_, 1) := by decide +kernel
theorem dX2_takeSecond_0 : decode cX2_takeSecond 0 = .ok (.iload_n 1, 1) := by decide +kernel
theorem dX2_takeSecond_1 : decode cX2_takeSecond 1 = .ok (.bipush 16, 2) := by decide +kernel
theorem dX2_takeSecond_3 : decode cX2_takeSecond 3 = .ok (.if_icmp .ge 14, 3) := by decide +kernel
theorem dX2_takeSecond_6 : decode cX2_takeSecond 6 = .ok (.aload_n 0, 1) := by decide +kernel
theorem dX2_takeSecond_7 : decode cX2_takeSecond 7 = .ok (.getfield 25, 3) := by decide +kernel
theorem dX2_takeSecond_10 : decode cX2_takeSecond 10 = .ok (.aload_n 2, 1) := by decide +kernel
theorem dX2_takeSecond_11 : decode cX2_takeSecond 11 = .ok (.iload_n 1, 1) := by decide +kernel
theorem dX2_takeSecond_12 : decode cX2_takeSecond 12 = .ok (.aaload, 1) := by decide +kernel
theorem dX2_takeSecond_13 : decode cX2_takeSecond 13 = .ok (.invokevirtual 43, 3) := by decide +kernel
theorem dX2_takeSecond_16 : decode cX2_takeSecond 16 = .ok (.return_, 1) := by decide +kernel
theorem dX2_takeSecond_17 : decode cX2_takeSecond 17 = .ok (.iconst 0, 1) := by decide +kernel
theorem dX2_takeSecond_18 : decode cX2_takeSecond 18 = .ok (.istore_n 3, 1) := by decide +kernel
theorem dX2_takeSecond_19 : decode cX2_takeSecond 19 = .ok (.iload_n 3, 1) := by decide +kernel
theorem dX2_takeSecond_20 : decode cX2_takeSecond 20 = .ok (.bipush 16, 2) := by decide +kernel
theorem dX2_takeSecond_22 : decode cX2_takeSecond 22 = .ok (.if_icmp .ge 25, 3) := by decide +kernel
theorem dX2_takeSecond_25 : decode cX2_takeSecond 25 = .ok (.aload_n 0, 1) := by decide +kernel
theorem dX2_takeSecond_26 : decode cX2_takeSecond 26 = .ok (.getfield 25, 3) := by decide +kernel
theorem dX2_takeSecond_29 : decode cX2_takeSecond 29 = .ok (.iload_n 3, 1) := by decide +kernel
theorem dX2_takeSecond_30 : decode cX2_takeSecond 30 = .ok (.aload_n 2, 1) := by decide +kernel
theorem dX2_takeSecond_31 : decode cX2_takeSecond 31 = .ok (.bipush 12, 2) := by decide +kernel
theorem dX2_takeSecond_33 : decode cX2_takeSecond 33 = .ok (.aaload, 1) := by decide +kernel
theorem dX2_takeSecond_34 : decode cX2_takeSecond 34 = .ok (.iload_n 1, 1) := by decide +kernel
theorem dX2_takeSecond_35 : decode cX2_takeSecond 35 = .ok (.bipush 16, 2) := by decide +kernel
theorem dX2_takeSecond_37 : decode cX2_takeSecond 37 = .ok (.isub, 1) := by decide +kernel
theorem dX2_takeSecond_38 : decode cX2_takeSecond 38 = .ok (.invokevirtual 76, 3) := by decide +kernel
theorem dX2_takeSecond_41 : decode cX2_takeSecond 41 = .ok (.iinc 3 1, 3) := by decide +kernel
theorem dX2_takeSecond_44 : decode cX2_takeSecond 44 = .ok (.goto (-25), 3) := by decide +kernel
theorem dX2_takeSecond_47 : decode cX2_takeSecond 47 = .ok (.return_, 1) := by decide +kernel
theorem dX2_isOfTwo_0 : decode cX2_isOfTwo 0 = .ok (.iload_n 0, 1) := by decide +kernel
theorem dX2_isOfTwo_1 : decode cX2_isOfTwo 1 = .ok (.bipush 9, 2) := by decide +kernel
theorem dX2_isOfTwo_3 : decode cX2_isOfTwo 3 = .ok (.if_icmp .lt 9, 3) := by decide +kernel
theorem dX2_isOfTwo_6 : decode cX2_isOfTwo 6 = .ok (.iload_n 0, 1) := by decide +kernel
theorem dX2_isOfTwo_7 : decode cX2_isOfTwo 7 = .ok (.bipush 16, 2) := by decide +kernel
theorem dX2_isOfTwo_9 : decode cX2_isOfTwo 9 = .ok (.if_icmp .le 9, 3) := by decide +kernel
theorem dX2_isOfTwo_12 : decode cX2_isOfTwo 12 = .ok (.iload_n 0, 1) := by decide +kernel
theorem dX2_isOfTwo_13 : decode cX2_isOfTwo 13 = .ok (.bipush 26, 2) := by decide +kernel
theorem dX2_isOfTwo_15 : decode cX2_isOfTwo 15 = .ok (.if_icmp .ne 7, 3) := by decide +kernel
theorem dX2_isOfTwo_18 : decode cX2_isOfTwo 18 = .ok (.iconst 1, 1) := by decide +kernel
theorem dX2_isOfTwo_19 : decode cX2_isOfTwo 19 = .ok (.goto 4, 3) := by decide +kernel
theorem dX2_isOfTwo_22 : decode cX2_isOfTwo 22 = .ok (.iconst 0, 1) := by decide +kernel
theorem dX2_isOfTwo_23 : decode cX2_isOfTwo 23 = .ok (.ireturn, 1) := by decide +kernel
theorem dX2_leavesBlank_0 : decode cX2_leavesBlank 0 = .ok (.aload_n 1, 1) := by decide +kernel
theorem dX2_leavesBlank_1 : decode cX2_leavesBlank 1 = .ok (.getfield 54, 3) := by decide +kernel
theorem dX2_leavesBlank_4 : decode cX2_leavesBlank 4 = .ok (.invokestatic 80, 3) := by decide +kernel
theorem dX2_leavesBlank_7 : decode cX2_leavesBlank 7 = .ok (.ifCond .eq 59, 3) := by decide +kernel
theorem dX2_leavesBlank_10 : decode cX2_leavesBlank 10 = .ok (.aload_n 0, 1) := by decide +kernel
theorem dX2_leavesBlank_11 : decode cX2_leavesBlank 11 = .ok (.getfield 21, 3) := by decide +kernel
theorem dX2_leavesBlank_14 : decode cX2_leavesBlank 14 = .ok (.iload_n 2, 1) := by decide +kernel
theorem dX2_leavesBlank_15 : decode cX2_leavesBlank 15 = .ok (.invokevirtual 84, 3) := by decide +kernel
theorem dX2_leavesBlank_18 : decode cX2_leavesBlank 18 = .ok (.ifCond .ne 42, 3) := by decide +kernel
theorem dX2_leavesBlank_21 : decode cX2_leavesBlank 21 = .ok (.aload_n 0, 1) := by decide +kernel
theorem dX2_leavesBlank_22 : decode cX2_leavesBlank 22 = .ok (.getfield 25, 3) := by decide +kernel
theorem dX2_leavesBlank_25 : decode cX2_leavesBlank 25 = .ok (.iload_n 2, 1) := by decide +kernel
theorem dX2_leavesBlank_26 : decode cX2_leavesBlank 26 = .ok (.invokevirtual 84, 3) := by decide +kernel
theorem dX2_leavesBlank_29 : decode cX2_leavesBlank 29 = .ok (.ifCond .ne 31, 3) := by decide +kernel
theorem dX2_leavesBlank_32 : decode cX2_leavesBlank 32 = .ok (.aload_n 1, 1) := by decide +kernel
theorem dX2_leavesBlank_33 : decode cX2_leavesBlank 33 = .ok (.getfield 54, 3) := by decide +kernel
theorem dX2_leavesBlank_36 : decode cX2_leavesBlank 36 = .ok (.aload_n 0, 1) := by decide +kernel
theorem dX2_leavesBlank_37 : decode cX2_leavesBlank 37 = .ok (.getfield 21, 3) := by decide +kernel
theorem dX2_leavesBlank_40 : decode cX2_leavesBlank 40 = .ok (.getfield 87, 3) := by decide +kernel
theorem dX2_leavesBlank_43 : decode cX2_leavesBlank 43 = .ok (.iload_n 2, 1) := by decide +kernel
theorem dX2_leavesBlank_44 : decode cX2_leavesBlank 44 = .ok (.daload, 1) := by decide +kernel
theorem dX2_leavesBlank_45 : decode cX2_leavesBlank 45 = .ok (.aload_n 0, 1) := by decide +kernel
theorem dX2_leavesBlank_46 : decode cX2_leavesBlank 46 = .ok (.getfield 25, 3) := by decide +kernel
theorem dX2_leavesBlank_49 : decode cX2_leavesBlank 49 = .ok (.getfield 87, 3) := by decide +kernel
theorem dX2_leavesBlank_52 : decode cX2_leavesBlank 52 = .ok (.iload_n 2, 1) := by decide +kernel
theorem dX2_leavesBlank_53 : decode cX2_leavesBlank 53 = .ok (.daload, 1) := by decide +kernel
theorem dX2_leavesBlank_54 : decode cX2_leavesBlank 54 = .ok (.invokestatic 90, 3) := by decide +kernel
theorem dX2_leavesBlank_57 : decode cX2_leavesBlank 57 = .ok (.ifCond .eq 7, 3) := by decide +kernel
theorem dX2_leavesBlank_60 : decode cX2_leavesBlank 60 = .ok (.iconst 1, 1) := by decide +kernel
theorem dX2_leavesBlank_61 : decode cX2_leavesBlank 61 = .ok (.goto 4, 3) := by decide +kernel
theorem dX2_leavesBlank_64 : decode cX2_leavesBlank 64 = .ok (.iconst 0, 1) := by decide +kernel
theorem dX2_leavesBlank_65 : decode cX2_leavesBlank 65 = .ok (.ireturn, 1) := by decide +kernel
theorem dX2_leavesBlank_66 : decode cX2_leavesBlank 66 = .ok (.aload_n 1, 1) := by decide +kernel
theorem dX2_leavesBlank_67 : decode cX2_leavesBlank 67 = .ok (.getfield 54, 3) := by decide +kernel
theorem dX2_leavesBlank_70 : decode cX2_leavesBlank 70 = .ok (.tableswitch 190 17 25 #[50, 87, 115, 129, 129, 160, 190, 174, 188], 50) := by decide +kernel
theorem dX2_leavesBlank_120 : decode cX2_leavesBlank 120 = .ok (.aload_n 0, 1) := by decide +kernel
theorem dX2_leavesBlank_121 : decode cX2_leavesBlank 121 = .ok (.getfield 21, 3) := by decide +kernel
theorem dX2_leavesBlank_124 : decode cX2_leavesBlank 124 = .ok (.iload_n 2, 1) := by decide +kernel
theorem dX2_leavesBlank_125 : decode cX2_leavesBlank 125 = .ok (.invokevirtual 84, 3) := by decide +kernel
theorem dX2_leavesBlank_128 : decode cX2_leavesBlank 128 = .ok (.ifCond .ne 23, 3) := by decide +kernel
theorem dX2_leavesBlank_131 : decode cX2_leavesBlank 131 = .ok (.aload_n 1, 1) := by decide +kernel
theorem dX2_leavesBlank_132 : decode cX2_leavesBlank 132 = .ok (.getfield 94, 3) := by decide +kernel
theorem dX2_leavesBlank_135 : decode cX2_leavesBlank 135 = .ok (.aload_n 0, 1) := by decide +kernel
theorem dX2_leavesBlank_136 : decode cX2_leavesBlank 136 = .ok (.getfield 21, 3) := by decide +kernel
theorem dX2_leavesBlank_139 : decode cX2_leavesBlank 139 = .ok (.iload_n 2, 1) := by decide +kernel
theorem dX2_leavesBlank_140 : decode cX2_leavesBlank 140 = .ok (.aload_n 0, 1) := by decide +kernel
theorem dX2_leavesBlank_141 : decode cX2_leavesBlank 141 = .ok (.getfield 25, 3) := by decide +kernel
theorem dX2_leavesBlank_144 : decode cX2_leavesBlank 144 = .ok (.iload_n 2, 1) := by decide +kernel
theorem dX2_leavesBlank_145 : decode cX2_leavesBlank 145 = .ok (.invokestatic 97, 3) := by decide +kernel
theorem dX2_leavesBlank_148 : decode cX2_leavesBlank 148 = .ok (.ifCond .ne 7, 3) := by decide +kernel
theorem dX2_leavesBlank_151 : decode cX2_leavesBlank 151 = .ok (.iconst 1, 1) := by decide +kernel
theorem dX2_leavesBlank_152 : decode cX2_leavesBlank 152 = .ok (.goto 4, 3) := by decide +kernel
theorem dX2_leavesBlank_155 : decode cX2_leavesBlank 155 = .ok (.iconst 0, 1) := by decide +kernel
theorem dX2_leavesBlank_156 : decode cX2_leavesBlank 156 = .ok (.ireturn, 1) := by decide +kernel
theorem dX2_leavesBlank_157 : decode cX2_leavesBlank 157 = .ok (.aload_n 0, 1) := by decide +kernel
theorem dX2_leavesBlank_158 : decode cX2_leavesBlank 158 = .ok (.getfield 21, 3) := by decide +kernel
theorem dX2_leavesBlank_161 : decode cX2_leavesBlank 161 = .ok (.iload_n 2, 1) := by decide +kernel
theorem dX2_leavesBlank_162 : decode cX2_leavesBlank 162 = .ok (.invokevirtual 84, 3) := by decide +kernel
theorem dX2_leavesBlank_165 : decode cX2_leavesBlank 165 = .ok (.ifCond .eq 18, 3) := by decide +kernel
theorem dX2_leavesBlank_168 : decode cX2_leavesBlank 168 = .ok (.aload_n 0, 1) := by decide +kernel
theorem dX2_leavesBlank_169 : decode cX2_leavesBlank 169 = .ok (.getfield 25, 3) := by decide +kernel
theorem dX2_leavesBlank_172 : decode cX2_leavesBlank 172 = .ok (.iload_n 2, 1) := by decide +kernel
theorem dX2_leavesBlank_173 : decode cX2_leavesBlank 173 = .ok (.invokevirtual 84, 3) := by decide +kernel
theorem dX2_leavesBlank_176 : decode cX2_leavesBlank 176 = .ok (.ifCond .eq 7, 3) := by decide +kernel
theorem dX2_leavesBlank_179 : decode cX2_leavesBlank 179 = .ok (.iconst 1, 1) := by decide +kernel
theorem dX2_leavesBlank_180 : decode cX2_leavesBlank 180 = .ok (.goto 4, 3) := by decide +kernel
theorem dX2_leavesBlank_183 : decode cX2_leavesBlank 183 = .ok (.iconst 0, 1) := by decide +kernel
theorem dX2_leavesBlank_184 : decode cX2_leavesBlank 184 = .ok (.ireturn, 1) := by decide +kernel
theorem dX2_leavesBlank_185 : decode cX2_leavesBlank 185 = .ok (.aload_n 0, 1) := by decide +kernel
theorem dX2_leavesBlank_186 : decode cX2_leavesBlank 186 = .ok (.iload_n 2, 1) := by decide +kernel
theorem dX2_leavesBlank_187 : decode cX2_leavesBlank 187 = .ok (.invokevirtual 101, 3) := by decide +kernel
theorem dX2_leavesBlank_190 : decode cX2_leavesBlank 190 = .ok (.ifCond .ne 7, 3) := by decide +kernel
theorem dX2_leavesBlank_193 : decode cX2_leavesBlank 193 = .ok (.iconst 1, 1) := by decide +kernel
theorem dX2_leavesBlank_194 : decode cX2_leavesBlank 194 = .ok (.goto 4, 3) := by decide +kernel
theorem dX2_leavesBlank_197 : decode cX2_leavesBlank 197 = .ok (.iconst 0, 1) := by decide +kernel
theorem dX2_leavesBlank_198 : decode cX2_leavesBlank 198 = .ok (.ireturn, 1) := by decide +kernel
theorem dX2_leavesBlank_199 : decode cX2_leavesBlank 199 = .ok (.aload_n 0, 1) := by decide +kernel
theorem dX2_leavesBlank_200 : decode cX2_leavesBlank 200 = .ok (.getfield 21, 3) := by decide +kernel
theorem dX2_leavesBlank_203 : decode cX2_leavesBlank 203 = .ok (.iload_n 2, 1) := by decide +kernel
theorem dX2_leavesBlank_204 : decode cX2_leavesBlank 204 = .ok (.invokevirtual 84, 3) := by decide +kernel
theorem dX2_leavesBlank_207 : decode cX2_leavesBlank 207 = .ok (.ifCond .eq 21, 3) := by decide +kernel
theorem dX2_leavesBlank_210 : decode cX2_leavesBlank 210 = .ok (.iload_n 2, 1) := by decide +kernel
theorem dX2_leavesBlank_211 : decode cX2_leavesBlank 211 = .ok (.ifCond .eq 13, 3) := by decide +kernel
theorem dX2_leavesBlank_214 : decode cX2_leavesBlank 214 = .ok (.aload_n 1, 1) := by decide +kernel
theorem dX2_leavesBlank_215 : decode cX2_leavesBlank 215 = .ok (.iload_n 2, 1) := by decide +kernel
theorem dX2_leavesBlank_216 : decode cX2_leavesBlank 216 = .ok (.iconst 1, 1) := by decide +kernel
theorem dX2_leavesBlank_217 : decode cX2_leavesBlank 217 = .ok (.isub, 1) := by decide +kernel
theorem dX2_leavesBlank_218 : decode cX2_leavesBlank 218 = .ok (.invokevirtual 84, 3) := by decide +kernel
theorem dX2_leavesBlank_221 : decode cX2_leavesBlank 221 = .ok (.ifCond .eq 7, 3) := by decide +kernel
theorem dX2_leavesBlank_224 : decode cX2_leavesBlank 224 = .ok (.iconst 1, 1) := by decide +kernel
theorem dX2_leavesBlank_225 : decode cX2_leavesBlank 225 = .ok (.goto 4, 3) := by decide +kernel
theorem dX2_leavesBlank_228 : decode cX2_leavesBlank 228 = .ok (.iconst 0, 1) := by decide +kernel
theorem dX2_leavesBlank_229 : decode cX2_leavesBlank 229 = .ok (.ireturn, 1) := by decide +kernel
theorem dX2_leavesBlank_230 : decode cX2_leavesBlank 230 = .ok (.iload_n 2, 1) := by decide +kernel
theorem dX2_leavesBlank_231 : decode cX2_leavesBlank 231 = .ok (.aload_n 0, 1) := by decide +kernel
theorem dX2_leavesBlank_232 : decode cX2_leavesBlank 232 = .ok (.getfield 32, 3) := by decide +kernel
theorem dX2_leavesBlank_235 : decode cX2_leavesBlank 235 = .ok (.if_icmp .lt 7, 3) := by decide +kernel
theorem dX2_leavesBlank_238 : decode cX2_leavesBlank 238 = .ok (.iconst 1, 1) := by decide +kernel
theorem dX2_leavesBlank_239 : decode cX2_leavesBlank 239 = .ok (.goto 4, 3) := by decide +kernel
theorem dX2_leavesBlank_242 : decode cX2_leavesBlank 242 = .ok (.iconst 0, 1) := by decide +kernel
theorem dX2_leavesBlank_243 : decode cX2_leavesBlank 243 = .ok (.ireturn, 1) := by decide +kernel
theorem dX2_leavesBlank_244 : decode cX2_leavesBlank 244 = .ok (.aload_n 0, 1) := by decide +kernel
theorem dX2_leavesBlank_245 : decode cX2_leavesBlank 245 = .ok (.iload_n 2, 1) := by decide +kernel
theorem dX2_leavesBlank_246 : decode cX2_leavesBlank 246 = .ok (.invokevirtual 104, 3) := by decide +kernel
theorem dX2_leavesBlank_249 : decode cX2_leavesBlank 249 = .ok (.ifCond .ne 7, 3) := by decide +kernel
theorem dX2_leavesBlank_252 : decode cX2_leavesBlank 252 = .ok (.iconst 1, 1) := by decide +kernel
theorem dX2_leavesBlank_253 : decode cX2_leavesBlank 253 = .ok (.goto 4, 3) := by decide +kernel
theorem dX2_leavesBlank_256 : decode cX2_leavesBlank 256 = .ok (.iconst 0, 1) := by decide +kernel
theorem dX2_leavesBlank_257 : decode cX2_leavesBlank 257 = .ok (.ireturn, 1) := by decide +kernel
theorem dX2_leavesBlank_258 : decode cX2_leavesBlank 258 = .ok (.iconst 0, 1) := by decide +kernel
theorem dX2_leavesBlank_259 : decode cX2_leavesBlank 259 = .ok (.ireturn, 1) := by decide +kernel
theorem dX2_leavesBlank_260 : decode cX2_leavesBlank 260 = .ok (.aload_n 0, 1) := by decide +kernel
theorem dX2_leavesBlank_261 : decode cX2_leavesBlank 261 = .ok (.getfield 21, 3) := by decide +kernel
theorem dX2_leavesBlank_264 : decode cX2_leavesBlank 264 = .ok (.iload_n 2, 1) := by decide +kernel
theorem dX2_leavesBlank_265 : decode cX2_leavesBlank 265 = .ok (.invokevirtual 84, 3) := by decide +kernel
theorem dX2_leavesBlank_268 : decode cX2_leavesBlank 268 = .ok (.ireturn, 1) := by decide +kernel
theorem dX2_hasBothNeighbours_0 : decode cX2_hasBothNeighbours 0 = .ok (.iload_n 1, 1) := by decide +kernel
theorem dX2_hasBothNeighbours_1 : decode cX2_hasBothNeighbours 1 = .ok (.ifCond .le 50, 3) := by decide +kernel
theorem dX2_hasBothNeighbours_4 : decode cX2_hasBothNeighbours 4 = .ok (.iload_n 1, 1) := by decide +kernel
theorem dX2_hasBothNeighbours_5 : decode cX2_hasBothNeighbours 5 = .ok (.bipush 15, 2) := by decide +kernel
theorem dX2_hasBothNeighbours_7 : decode cX2_hasBothNeighbours 7 = .ok (.if_icmp .ge 44, 3) := by decide +kernel
theorem dX2_hasBothNeighbours_10 : decode cX2_hasBothNeighbours 10 = .ok (.aload_n 0, 1) := by decide +kernel
theorem dX2_hasBothNeighbours_11 : decode cX2_hasBothNeighbours 11 = .ok (.getfield 21, 3) := by decide +kernel
theorem dX2_hasBothNeighbours_14 : decode cX2_hasBothNeighbours 14 = .ok (.iload_n 1, 1) := by decide +kernel
theorem dX2_hasBothNeighbours_15 : decode cX2_hasBothNeighbours 15 = .ok (.iconst 1, 1) := by decide +kernel
theorem dX2_hasBothNeighbours_16 : decode cX2_hasBothNeighbours 16 = .ok (.isub, 1) := by decide +kernel
theorem dX2_hasBothNeighbours_17 : decode cX2_hasBothNeighbours 17 = .ok (.invokevirtual 84, 3) := by decide +kernel
theorem dX2_hasBothNeighbours_20 : decode cX2_hasBothNeighbours 20 = .ok (.ifCond .ne 31, 3) := by decide +kernel
theorem dX2_hasBothNeighbours_23 : decode cX2_hasBothNeighbours 23 = .ok (.aload_n 0, 1) := by decide +kernel
theorem dX2_hasBothNeighbours_24 : decode cX2_hasBothNeighbours 24 = .ok (.getfield 21, 3) := by decide +kernel
theorem dX2_hasBothNeighbours_27 : decode cX2_hasBothNeighbours 27 = .ok (.iload_n 1, 1) := by decide +kernel
theorem dX2_hasBothNeighbours_28 : decode cX2_hasBothNeighbours 28 = .ok (.invokevirtual 84, 3) := by decide +kernel
theorem dX2_hasBothNeighbours_31 : decode cX2_hasBothNeighbours 31 = .ok (.ifCond .ne 20, 3) := by decide +kernel
theorem dX2_hasBothNeighbours_34 : decode cX2_hasBothNeighbours 34 = .ok (.aload_n 0, 1) := by decide +kernel
theorem dX2_hasBothNeighbours_35 : decode cX2_hasBothNeighbours 35 = .ok (.getfield 21, 3) := by decide +kernel
theorem dX2_hasBothNeighbours_38 : decode cX2_hasBothNeighbours 38 = .ok (.iload_n 1, 1) := by decide +kernel
theorem dX2_hasBothNeighbours_39 : decode cX2_hasBothNeighbours 39 = .ok (.iconst 1, 1) := by decide +kernel
theorem dX2_hasBothNeighbours_40 : decode cX2_hasBothNeighbours 40 = .ok (.iadd, 1) := by decide +kernel
theorem dX2_hasBothNeighbours_41 : decode cX2_hasBothNeighbours 41 = .ok (.invokevirtual 84, 3) := by decide +kernel
theorem dX2_hasBothNeighbours_44 : decode cX2_hasBothNeighbours 44 = .ok (.ifCond .ne 7, 3) := by decide +kernel
theorem dX2_hasBothNeighbours_47 : decode cX2_hasBothNeighbours 47 = .ok (.iconst 1, 1) := by decide +kernel
theorem dX2_hasBothNeighbours_48 : decode cX2_hasBothNeighbours 48 = .ok (.goto 4, 3) := by decide +kernel
theorem dX2_hasBothNeighbours_51 : decode cX2_hasBothNeighbours 51 = .ok (.iconst 0, 1) := by decide +kernel
theorem dX2_hasBothNeighbours_52 : decode cX2_hasBothNeighbours 52 = .ok (.ireturn, 1) := by decide +kernel
theorem dX2_hasDifference_0 : decode cX2_hasDifference 0 = .ok (.iload_n 1, 1) := by decide +kernel
theorem dX2_hasDifference_1 : decode cX2_hasDifference 1 = .ok (.ifCond .le 59, 3) := by decide +kernel
theorem dX2_hasDifference_4 : decode cX2_hasDifference 4 = .ok (.aload_n 0, 1) := by decide +kernel
theorem dX2_hasDifference_5 : decode cX2_hasDifference 5 = .ok (.getfield 21, 3) := by decide +kernel
theorem dX2_hasDifference_8 : decode cX2_hasDifference 8 = .ok (.iload_n 1, 1) := by decide +kernel
theorem dX2_hasDifference_9 : decode cX2_hasDifference 9 = .ok (.iconst 1, 1) := by decide +kernel
theorem dX2_hasDifference_10 : decode cX2_hasDifference 10 = .ok (.isub, 1) := by decide +kernel
theorem dX2_hasDifference_11 : decode cX2_hasDifference 11 = .ok (.invokevirtual 84, 3) := by decide +kernel
theorem dX2_hasDifference_14 : decode cX2_hasDifference 14 = .ok (.ifCond .ne 46, 3) := by decide +kernel
theorem dX2_hasDifference_17 : decode cX2_hasDifference 17 = .ok (.aload_n 0, 1) := by decide +kernel
theorem dX2_hasDifference_18 : decode cX2_hasDifference 18 = .ok (.getfield 21, 3) := by decide +kernel
theorem dX2_hasDifference_21 : decode cX2_hasDifference 21 = .ok (.iload_n 1, 1) := by decide +kernel
theorem dX2_hasDifference_22 : decode cX2_hasDifference 22 = .ok (.invokevirtual 84, 3) := by decide +kernel
theorem dX2_hasDifference_25 : decode cX2_hasDifference 25 = .ok (.ifCond .ne 35, 3) := by decide +kernel
theorem dX2_hasDifference_28 : decode cX2_hasDifference 28 = .ok (.bipush 10, 2) := by decide +kernel
theorem dX2_hasDifference_30 : decode cX2_hasDifference 30 = .ok (.aload_n 0, 1) := by decide +kernel
theorem dX2_hasDifference_31 : decode cX2_hasDifference 31 = .ok (.getfield 21, 3) := by decide +kernel
theorem dX2_hasDifference_34 : decode cX2_hasDifference 34 = .ok (.getfield 87, 3) := by decide +kernel
theorem dX2_hasDifference_37 : decode cX2_hasDifference 37 = .ok (.iload_n 1, 1) := by decide +kernel
theorem dX2_hasDifference_38 : decode cX2_hasDifference 38 = .ok (.daload, 1) := by decide +kernel
theorem dX2_hasDifference_39 : decode cX2_hasDifference 39 = .ok (.aload_n 0, 1) := by decide +kernel
theorem dX2_hasDifference_40 : decode cX2_hasDifference 40 = .ok (.getfield 21, 3) := by decide +kernel
theorem dX2_hasDifference_43 : decode cX2_hasDifference 43 = .ok (.getfield 87, 3) := by decide +kernel
theorem dX2_hasDifference_46 : decode cX2_hasDifference 46 = .ok (.iload_n 1, 1) := by decide +kernel
theorem dX2_hasDifference_47 : decode cX2_hasDifference 47 = .ok (.iconst 1, 1) := by decide +kernel
theorem dX2_hasDifference_48 : decode cX2_hasDifference 48 = .ok (.isub, 1) := by decide +kernel
theorem dX2_hasDifference_49 : decode cX2_hasDifference 49 = .ok (.daload, 1) := by decide +kernel
theorem dX2_hasDifference_50 : decode cX2_hasDifference 50 = .ok (.invokestatic 90, 3) := by decide +kernel
theorem dX2_hasDifference_53 : decode cX2_hasDifference 53 = .ok (.ifCond .ne 7, 3) := by decide +kernel
theorem dX2_hasDifference_56 : decode cX2_hasDifference 56 = .ok (.iconst 1, 1) := by decide +kernel
theorem dX2_hasDifference_57 : decode cX2_hasDifference 57 = .ok (.goto 4, 3) := by decide +kernel
theorem dX2_hasDifference_60 : decode cX2_hasDifference 60 = .ok (.iconst 0, 1) := by decide +kernel
theorem dX2_hasDifference_61 : decode cX2_hasDifference 61 = .ok (.ireturn, 1) := by decide +kernel
theorem dX2_isUndefined_0 : decode cX2_isUndefined 0 = .ok (.dload_n 1, 1) := by decide +kernel
theorem dX2_isUndefined_1 : decode cX2_isUndefined 1 = .ok (.invokestatic 107, 3) := by decide +kernel
theorem dX2_isUndefined_4 : decode cX2_isUndefined 4 = .ok (.ifCond .eq 14, 3) := by decide +kernel
theorem dX2_isUndefined_7 : decode cX2_isUndefined 7 = .ok (.dload_n 3, 1) := by decide +kernel
theorem dX2_isUndefined_8 : decode cX2_isUndefined 8 = .ok (.invokestatic 107, 3) := by decide +kernel
theorem dX2_isUndefined_11 : decode cX2_isUndefined 11 = .ok (.ifCond .eq 7, 3) := by decide +kernel
theorem dX2_isUndefined_14 : decode cX2_isUndefined 14 = .ok (.iconst 1, 1) := by decide +kernel
theorem dX2_isUndefined_15 : decode cX2_isUndefined 15 = .ok (.goto 4, 3) := by decide +kernel
theorem dX2_isUndefined_18 : decode cX2_isUndefined 18 = .ok (.iconst 0, 1) := by decide +kernel
theorem dX2_isUndefined_19 : decode cX2_isUndefined 19 = .ok (.istore 5, 2) := by decide +kernel
theorem dX2_isUndefined_21 : decode cX2_isUndefined 21 = .ok (.iload_n 0, 1) := by decide +kernel
theorem dX2_isUndefined_22 : decode cX2_isUndefined 22 = .ok (.tableswitch 213 9 26 #[86, 103, 120, 152, 175, 213, 213, 213, 213, 213, 213, 213, 213, 213, 213, 213, 213, 194], 86) := by decide +kernel
theorem dX2_isUndefined_108 : decode cX2_isUndefined 108 = .ok (.iload 5, 2) := by decide +kernel
theorem dX2_isUndefined_110 : decode cX2_isUndefined 110 = .ok (.ifCond .eq 13, 3) := by decide +kernel
theorem dX2_isUndefined_113 : decode cX2_isUndefined 113 = .ok (.dload_n 1, 1) := by decide +kernel
theorem dX2_isUndefined_114 : decode cX2_isUndefined 114 = .ok (.dload_n 3, 1) := by decide +kernel
theorem dX2_isUndefined_115 : decode cX2_isUndefined 115 = .ok (.dcmp .l, 1) := by decide +kernel
theorem dX2_isUndefined_116 : decode cX2_isUndefined 116 = .ok (.ifCond .eq 7, 3) := by decide +kernel
theorem dX2_isUndefined_119 : decode cX2_isUndefined 119 = .ok (.iconst 1, 1) := by decide +kernel
theorem dX2_isUndefined_120 : decode cX2_isUndefined 120 = .ok (.goto 4, 3) := by decide +kernel
theorem dX2_isUndefined_123 : decode cX2_isUndefined 123 = .ok (.iconst 0, 1) := by decide +kernel
theorem dX2_isUndefined_124 : decode cX2_isUndefined 124 = .ok (.ireturn, 1) := by decide +kernel
theorem dX2_isUndefined_125 : decode cX2_isUndefined 125 = .ok (.iload 5, 2) := by decide +kernel
theorem dX2_isUndefined_127 : decode cX2_isUndefined 127 = .ok (.ifCond .eq 13, 3) := by decide +kernel
theorem dX2_isUndefined_130 : decode cX2_isUndefined 130 = .ok (.dload_n 1, 1) := by decide +kernel
theorem dX2_isUndefined_131 : decode cX2_isUndefined 131 = .ok (.dload_n 3, 1) := by decide +kernel
theorem dX2_isUndefined_132 : decode cX2_isUndefined 132 = .ok (.dcmp .l, 1) := by decide +kernel
theorem dX2_isUndefined_133 : decode cX2_isUndefined 133 = .ok (.ifCond .ne 7, 3) := by decide +kernel
theorem dX2_isUndefined_136 : decode cX2_isUndefined 136 = .ok (.iconst 1, 1) := by decide +kernel
theorem dX2_isUndefined_137 : decode cX2_isUndefined 137 = .ok (.goto 4, 3) := by decide +kernel
theorem dX2_isUndefined_140 : decode cX2_isUndefined 140 = .ok (.iconst 0, 1) := by decide +kernel
theorem dX2_isUndefined_141 : decode cX2_isUndefined 141 = .ok (.ireturn, 1) := by decide +kernel
theorem dX2_isUndefined_142 : decode cX2_isUndefined 142 = .ok (.dload_n 1, 1) := by decide +kernel
theorem dX2_isUndefined_143 : decode cX2_isUndefined 143 = .ok (.dconst 0, 1) := by decide +kernel
theorem dX2_isUndefined_144 : decode cX2_isUndefined 144 = .ok (.dcmp .l, 1) := by decide +kernel
theorem dX2_isUndefined_145 : decode cX2_isUndefined 145 = .ok (.ifCond .ne 10, 3) := by decide +kernel
theorem dX2_isUndefined_148 : decode cX2_isUndefined 148 = .ok (.dload_n 3, 1) := by decide +kernel
theorem dX2_isUndefined_149 : decode cX2_isUndefined 149 = .ok (.invokestatic 107, 3) := by decide +kernel
theorem dX2_isUndefined_152 : decode cX2_isUndefined 152 = .ok (.ifCond .ne 16, 3) := by decide +kernel
theorem dX2_isUndefined_155 : decode cX2_isUndefined 155 = .ok (.dload_n 1, 1) := by decide +kernel
theorem dX2_isUndefined_156 : decode cX2_isUndefined 156 = .ok (.invokestatic 107, 3) := by decide +kernel
theorem dX2_isUndefined_159 : decode cX2_isUndefined 159 = .ok (.ifCond .eq 13, 3) := by decide +kernel
theorem dX2_isUndefined_162 : decode cX2_isUndefined 162 = .ok (.dload_n 3, 1) := by decide +kernel
theorem dX2_isUndefined_163 : decode cX2_isUndefined 163 = .ok (.dconst 0, 1) := by decide +kernel
theorem dX2_isUndefined_164 : decode cX2_isUndefined 164 = .ok (.dcmp .l, 1) := by decide +kernel
theorem dX2_isUndefined_165 : decode cX2_isUndefined 165 = .ok (.ifCond .ne 7, 3) := by decide +kernel
theorem dX2_isUndefined_168 : decode cX2_isUndefined 168 = .ok (.iconst 1, 1) := by decide +kernel
theorem dX2_isUndefined_169 : decode cX2_isUndefined 169 = .ok (.goto 4, 3) := by decide +kernel
theorem dX2_isUndefined_172 : decode cX2_isUndefined 172 = .ok (.iconst 0, 1) := by decide +kernel
theorem dX2_isUndefined_173 : decode cX2_isUndefined 173 = .ok (.ireturn, 1) := by decide +kernel
theorem dX2_isUndefined_174 : decode cX2_isUndefined 174 = .ok (.iload 5, 2) := by decide +kernel
theorem dX2_isUndefined_176 : decode cX2_isUndefined 176 = .ok (.ifCond .ne 15, 3) := by decide +kernel
theorem dX2_isUndefined_179 : decode cX2_isUndefined 179 = .ok (.dload_n 1, 1) := by decide +kernel
theorem dX2_isUndefined_180 : decode cX2_isUndefined 180 = .ok (.dconst 0, 1) := by decide +kernel
theorem dX2_isUndefined_181 : decode cX2_isUndefined 181 = .ok (.dcmp .l, 1) := by decide +kernel
theorem dX2_isUndefined_182 : decode cX2_isUndefined 182 = .ok (.ifCond .ne 13, 3) := by decide +kernel
theorem dX2_isUndefined_185 : decode cX2_isUndefined 185 = .ok (.dload_n 3, 1) := by decide +kernel
theorem dX2_isUndefined_186 : decode cX2_isUndefined 186 = .ok (.dconst 0, 1) := by decide +kernel
theorem dX2_isUndefined_187 : decode cX2_isUndefined 187 = .ok (.dcmp .l, 1) := by decide +kernel
theorem dX2_isUndefined_188 : decode cX2_isUndefined 188 = .ok (.ifCond .ne 7, 3) := by decide +kernel
theorem dX2_isUndefined_191 : decode cX2_isUndefined 191 = .ok (.iconst 1, 1) := by decide +kernel
theorem dX2_isUndefined_192 : decode cX2_isUndefined 192 = .ok (.goto 4, 3) := by decide +kernel
theorem dX2_isUndefined_195 : decode cX2_isUndefined 195 = .ok (.iconst 0, 1) := by decide +kernel
theorem dX2_isUndefined_196 : decode cX2_isUndefined 196 = .ok (.ireturn, 1) := by decide +kernel
theorem dX2_isUndefined_197 : decode cX2_isUndefined 197 = .ok (.dload_n 3, 1) := by decide +kernel
theorem dX2_isUndefined_198 : decode cX2_isUndefined 198 = .ok (.dconst 0, 1) := by decide +kernel
theorem dX2_isUndefined_199 : decode cX2_isUndefined 199 = .ok (.dcmp .l, 1) := by decide +kernel
theorem dX2_isUndefined_200 : decode cX2_isUndefined 200 = .ok (.ifCond .eq 10, 3) := by decide +kernel
theorem dX2_isUndefined_203 : decode cX2_isUndefined 203 = .ok (.dload_n 1, 1) := by decide +kernel
theorem dX2_isUndefined_204 : decode cX2_isUndefined 204 = .ok (.invokestatic 107, 3) := by decide +kernel
theorem dX2_isUndefined_207 : decode cX2_isUndefined 207 = .ok (.ifCond .eq 7, 3) := by decide +kernel
theorem dX2_isUndefined_210 : decode cX2_isUndefined 210 = .ok (.iconst 1, 1) := by decide +kernel
theorem dX2_isUndefined_211 : decode cX2_isUndefined 211 = .ok (.goto 4, 3) := by decide +kernel
theorem dX2_isUndefined_214 : decode cX2_isUndefined 214 = .ok (.iconst 0, 1) := by decide +kernel
theorem dX2_isUndefined_215 : decode cX2_isUndefined 215 = .ok (.ireturn, 1) := by decide +kernel
theorem dX2_isUndefined_216 : decode cX2_isUndefined 216 = .ok (.dload_n 3, 1) := by decide +kernel
theorem dX2_isUndefined_217 : decode cX2_isUndefined 217 = .ok (.dconst 0, 1) := by decide +kernel
theorem dX2_isUndefined_218 : decode cX2_isUndefined 218 = .ok (.dcmp .l, 1) := by decide +kernel
theorem dX2_isUndefined_219 : decode cX2_isUndefined 219 = .ok (.ifCond .eq 10, 3) := by decide +kernel
theorem dX2_isUndefined_222 : decode cX2_isUndefined 222 = .ok (.dload_n 3, 1) := by decide +kernel
theorem dX2_isUndefined_223 : decode cX2_isUndefined 223 = .ok (.invokestatic 107, 3) := by decide +kernel
theorem dX2_isUndefined_226 : decode cX2_isUndefined 226 = .ok (.ifCond .eq 7, 3) := by decide +kernel
theorem dX2_isUndefined_229 : decode cX2_isUndefined 229 = .ok (.iconst 1, 1) := by decide +kernel
theorem dX2_isUndefined_230 : decode cX2_isUndefined 230 = .ok (.goto 4, 3) := by decide +kernel
theorem dX2_isUndefined_233 : decode cX2_isUndefined 233 = .ok (.iconst 0, 1) := by decide +kernel
theorem dX2_isUndefined_234 : decode cX2_isUndefined 234 = .ok (.ireturn, 1) := by decide +kernel
theorem dX2_isUndefined_235 : decode cX2_isUndefined 235 = .ok (.iconst 0, 1) := by decide +kernel
theorem dX2_isUndefined_236 : decode cX2_isUndefined 236 = .ok (.ireturn, 1) := by decide +kernel
theorem dX2_numberAt_0 : decode cX2_numberAt 0 = .ok (.aload_n 1, 1) := by decide +kernel
theorem dX2_numberAt_1 : decode cX2_numberAt 1 = .ok (.getfield 54, 3) := by decide +kernel
theorem dX2_numberAt_4 : decode cX2_numberAt 4 = .ok (.bipush 8, 2) := by decide +kernel
theorem dX2_numberAt_6 : decode cX2_numberAt 6 = .ok (.if_icmp .gt 21, 3) := by decide +kernel
theorem dX2_numberAt_9 : decode cX2_numberAt 9 = .ok (.aload_n 0, 1) := by decide +kernel
theorem dX2_numberAt_10 : decode cX2_numberAt 10 = .ok (.aload_n 1, 1) := by decide +kernel
theorem dX2_numberAt_11 : decode cX2_numberAt 11 = .ok (.getfield 54, 3) := by decide +kernel
theorem dX2_numberAt_14 : decode cX2_numberAt 14 = .ok (.aload_n 0, 1) := by decide +kernel
theorem dX2_numberAt_15 : decode cX2_numberAt 15 = .ok (.getfield 21, 3) := by decide +kernel
theorem dX2_numberAt_18 : decode cX2_numberAt 18 = .ok (.getfield 87, 3) := by decide +kernel
theorem dX2_numberAt_21 : decode cX2_numberAt 21 = .ok (.iload_n 2, 1) := by decide +kernel
theorem dX2_numberAt_22 : decode cX2_numberAt 22 = .ok (.daload, 1) := by decide +kernel
theorem dX2_numberAt_23 : decode cX2_numberAt 23 = .ok (.invokevirtual 111, 3) := by decide +kernel
theorem dX2_numberAt_26 : decode cX2_numberAt 26 = .ok (.dreturn, 1) := by decide +kernel
theorem dX2_numberAt_27 : decode cX2_numberAt 27 = .ok (.aload_n 1, 1) := by decide +kernel
theorem dX2_numberAt_28 : decode cX2_numberAt 28 = .ok (.getfield 54, 3) := by decide +kernel
theorem dX2_numberAt_31 : decode cX2_numberAt 31 = .ok (.invokestatic 80, 3) := by decide +kernel
theorem dX2_numberAt_34 : decode cX2_numberAt 34 = .ok (.ifCond .eq 30, 3) := by decide +kernel
theorem dX2_numberAt_37 : decode cX2_numberAt 37 = .ok (.aload_n 0, 1) := by decide +kernel
theorem dX2_numberAt_38 : decode cX2_numberAt 38 = .ok (.aload_n 1, 1) := by decide +kernel
theorem dX2_numberAt_39 : decode cX2_numberAt 39 = .ok (.getfield 54, 3) := by decide +kernel
theorem dX2_numberAt_42 : decode cX2_numberAt 42 = .ok (.aload_n 0, 1) := by decide +kernel
theorem dX2_numberAt_43 : decode cX2_numberAt 43 = .ok (.getfield 21, 3) := by decide +kernel
theorem dX2_numberAt_46 : decode cX2_numberAt 46 = .ok (.getfield 87, 3) := by decide +kernel
theorem dX2_numberAt_49 : decode cX2_numberAt 49 = .ok (.iload_n 2, 1) := by decide +kernel
theorem dX2_numberAt_50 : decode cX2_numberAt 50 = .ok (.daload, 1) := by decide +kernel
theorem dX2_numberAt_51 : decode cX2_numberAt 51 = .ok (.aload_n 0, 1) := by decide +kernel
theorem dX2_numberAt_52 : decode cX2_numberAt 52 = .ok (.getfield 25, 3) := by decide +kernel
theorem dX2_numberAt_55 : decode cX2_numberAt 55 = .ok (.getfield 87, 3) := by decide +kernel
theorem dX2_numberAt_58 : decode cX2_numberAt 58 = .ok (.iload_n 2, 1) := by decide +kernel
theorem dX2_numberAt_59 : decode cX2_numberAt 59 = .ok (.daload, 1) := by decide +kernel
theorem dX2_numberAt_60 : decode cX2_numberAt 60 = .ok (.invokevirtual 115, 3) := by decide +kernel
theorem dX2_numberAt_63 : decode cX2_numberAt 63 = .ok (.dreturn, 1) := by decide +kernel
theorem dX2_numberAt_64 : decode cX2_numberAt 64 = .ok (.aload_n 1, 1) := by decide +kernel
theorem dX2_numberAt_65 : decode cX2_numberAt 65 = .ok (.getfield 54, 3) := by decide +kernel
theorem dX2_numberAt_68 : decode cX2_numberAt 68 = .ok (.tableswitch 205 18 25 #[48, 81, 87, 87, 94, 113, 128, 162], 48) := by decide +kernel
theorem dX2_numberAt_116 : decode cX2_numberAt 116 = .ok (.aload_n 0, 1) := by decide +kernel
theorem dX2_numberAt_117 : decode cX2_numberAt 117 = .ok (.getfield 21, 3) := by decide +kernel
theorem dX2_numberAt_120 : decode cX2_numberAt 120 = .ok (.iload_n 2, 1) := by decide +kernel
theorem dX2_numberAt_121 : decode cX2_numberAt 121 = .ok (.invokevirtual 84, 3) := by decide +kernel
theorem dX2_numberAt_124 : decode cX2_numberAt 124 = .ok (.ifCond .eq 15, 3) := by decide +kernel
theorem dX2_numberAt_127 : decode cX2_numberAt 127 = .ok (.aload_n 0, 1) := by decide +kernel
theorem dX2_numberAt_128 : decode cX2_numberAt 128 = .ok (.getfield 25, 3) := by decide +kernel
theorem dX2_numberAt_131 : decode cX2_numberAt 131 = .ok (.getfield 87, 3) := by decide +kernel
theorem dX2_numberAt_134 : decode cX2_numberAt 134 = .ok (.iload_n 2, 1) := by decide +kernel
theorem dX2_numberAt_135 : decode cX2_numberAt 135 = .ok (.daload, 1) := by decide +kernel
theorem dX2_numberAt_136 : decode cX2_numberAt 136 = .ok (.goto 12, 3) := by decide +kernel
theorem dX2_numberAt_139 : decode cX2_numberAt 139 = .ok (.aload_n 0, 1) := by decide +kernel
theorem dX2_numberAt_140 : decode cX2_numberAt 140 = .ok (.getfield 21, 3) := by decide +kernel
theorem dX2_numberAt_143 : decode cX2_numberAt 143 = .ok (.getfield 87, 3) := by decide +kernel
theorem dX2_numberAt_146 : decode cX2_numberAt 146 = .ok (.iload_n 2, 1) := by decide +kernel
theorem dX2_numberAt_147 : decode cX2_numberAt 147 = .ok (.daload, 1) := by decide +kernel
theorem dX2_numberAt_148 : decode cX2_numberAt 148 = .ok (.dreturn, 1) := by decide +kernel
theorem dX2_numberAt_149 : decode cX2_numberAt 149 = .ok (.aload_n 0, 1) := by decide +kernel
theorem dX2_numberAt_150 : decode cX2_numberAt 150 = .ok (.iload_n 2, 1) := by decide +kernel
theorem dX2_numberAt_151 : decode cX2_numberAt 151 = .ok (.invokevirtual 119, 3) := by decide +kernel
theorem dX2_numberAt_154 : decode cX2_numberAt 154 = .ok (.dreturn, 1) := by decide +kernel
theorem dX2_numberAt_155 : decode cX2_numberAt 155 = .ok (.aload_n 0, 1) := by decide +kernel
theorem dX2_numberAt_156 : decode cX2_numberAt 156 = .ok (.aload_n 1, 1) := by decide +kernel
theorem dX2_numberAt_157 : decode cX2_numberAt 157 = .ok (.iload_n 2, 1) := by decide +kernel
theorem dX2_numberAt_158 : decode cX2_numberAt 158 = .ok (.invokevirtual 123, 3) := by decide +kernel
theorem dX2_numberAt_161 : decode cX2_numberAt 161 = .ok (.dreturn, 1) := by decide +kernel
theorem dX2_numberAt_162 : decode cX2_numberAt 162 = .ok (.iload_n 2, 1) := by decide +kernel
theorem dX2_numberAt_163 : decode cX2_numberAt 163 = .ok (.aload_n 0, 1) := by decide +kernel
theorem dX2_numberAt_164 : decode cX2_numberAt 164 = .ok (.getfield 32, 3) := by decide +kernel
theorem dX2_numberAt_167 : decode cX2_numberAt 167 = .ok (.if_icmp .ge 12, 3) := by decide +kernel
theorem dX2_numberAt_170 : decode cX2_numberAt 170 = .ok (.aload_n 0, 1) := by decide +kernel
theorem dX2_numberAt_171 : decode cX2_numberAt 171 = .ok (.getfield 28, 3) := by decide +kernel
theorem dX2_numberAt_174 : decode cX2_numberAt 174 = .ok (.iload_n 2, 1) := by decide +kernel
theorem dX2_numberAt_175 : decode cX2_numberAt 175 = .ok (.daload, 1) := by decide +kernel
theorem dX2_numberAt_176 : decode cX2_numberAt 176 = .ok (.goto 4, 3) := by decide +kernel
theorem dX2_numberAt_179 : decode cX2_numberAt 179 = .ok (.dconst 0, 1) := by decide +kernel
theorem dX2_numberAt_180 : decode cX2_numberAt 180 = .ok (.dreturn, 1) := by decide +kernel
theorem dX2_numberAt_181 : decode cX2_numberAt 181 = .ok (.aload_n 0, 1) := by decide +kernel
theorem dX2_numberAt_182 : decode cX2_numberAt 182 = .ok (.aload_n 0, 1) := by decide +kernel
theorem dX2_numberAt_183 : decode cX2_numberAt 183 = .ok (.getfield 21, 3) := by decide +kernel
theorem dX2_numberAt_186 : decode cX2_numberAt 186 = .ok (.getfield 87, 3) := by decide +kernel
theorem dX2_numberAt_189 : decode cX2_numberAt 189 = .ok (.iload_n 2, 1) := by decide +kernel
theorem dX2_numberAt_190 : decode cX2_numberAt 190 = .ok (.daload, 1) := by decide +kernel
theorem dX2_numberAt_191 : decode cX2_numberAt 191 = .ok (.invokevirtual 126, 3) := by decide +kernel
theorem dX2_numberAt_194 : decode cX2_numberAt 194 = .ok (.i2d, 1) := by decide +kernel
theorem dX2_numberAt_195 : decode cX2_numberAt 195 = .ok (.dreturn, 1) := by decide +kernel
theorem dX2_numberAt_196 : decode cX2_numberAt 196 = .ok (.iload_n 2, 1) := by decide +kernel
theorem dX2_numberAt_197 : decode cX2_numberAt 197 = .ok (.ifCond .ne 7, 3) := by decide +kernel
theorem dX2_numberAt_200 : decode cX2_numberAt 200 = .ok (.dconst 0, 1) := by decide +kernel
theorem dX2_numberAt_201 : decode cX2_numberAt 201 = .ok (.goto 28, 3) := by decide +kernel
theorem dX2_numberAt_204 : decode cX2_numberAt 204 = .ok (.aload_n 0, 1) := by decide +kernel
theorem dX2_numberAt_205 : decode cX2_numberAt 205 = .ok (.aload_n 0, 1) := by decide +kernel
theorem dX2_numberAt_206 : decode cX2_numberAt 206 = .ok (.getfield 21, 3) := by decide +kernel
theorem dX2_numberAt_209 : decode cX2_numberAt 209 = .ok (.getfield 87, 3) := by decide +kernel
theorem dX2_numberAt_212 : decode cX2_numberAt 212 = .ok (.iload_n 2, 1) := by decide +kernel
theorem dX2_numberAt_213 : decode cX2_numberAt 213 = .ok (.daload, 1) := by decide +kernel
theorem dX2_numberAt_214 : decode cX2_numberAt 214 = .ok (.aload_n 0, 1) := by decide +kernel
theorem dX2_numberAt_215 : decode cX2_numberAt 215 = .ok (.getfield 21, 3) := by decide +kernel
theorem dX2_numberAt_218 : decode cX2_numberAt 218 = .ok (.getfield 87, 3) := by decide +kernel
theorem dX2_numberAt_221 : decode cX2_numberAt 221 = .ok (.iload_n 2, 1) := by decide +kernel
theorem dX2_numberAt_222 : decode cX2_numberAt 222 = .ok (.iconst 1, 1) := by decide +kernel
theorem dX2_numberAt_223 : decode cX2_numberAt 223 = .ok (.isub, 1) := by decide +kernel
theorem dX2_numberAt_224 : decode cX2_numberAt 224 = .ok (.daload, 1) := by decide +kernel
theorem dX2_numberAt_225 : decode cX2_numberAt 225 = .ok (.dneg, 1) := by decide +kernel
theorem dX2_numberAt_226 : decode cX2_numberAt 226 = .ok (.invokevirtual 130, 3) := by decide +kernel
theorem dX2_numberAt_229 : decode cX2_numberAt 229 = .ok (.dreturn, 1) := by decide +kernel
theorem dX2_numberAt_230 : decode cX2_numberAt 230 = .ok (.iload_n 2, 1) := by decide +kernel
theorem dX2_numberAt_231 : decode cX2_numberAt 231 = .ok (.ifCond .ne 7, 3) := by decide +kernel
theorem dX2_numberAt_234 : decode cX2_numberAt 234 = .ok (.dconst 0, 1) := by decide +kernel
theorem dX2_numberAt_235 : decode cX2_numberAt 235 = .ok (.goto 11, 3) := by decide +kernel
theorem dX2_numberAt_238 : decode cX2_numberAt 238 = .ok (.aload_n 1, 1) := by decide +kernel
theorem dX2_numberAt_239 : decode cX2_numberAt 239 = .ok (.getfield 87, 3) := by decide +kernel
theorem dX2_numberAt_242 : decode cX2_numberAt 242 = .ok (.iload_n 2, 1) := by decide +kernel
theorem dX2_numberAt_243 : decode cX2_numberAt 243 = .ok (.iconst 1, 1) := by decide +kernel
theorem dX2_numberAt_244 : decode cX2_numberAt 244 = .ok (.isub, 1) := by decide +kernel
theorem dX2_numberAt_245 : decode cX2_numberAt 245 = .ok (.daload, 1) := by decide +kernel
theorem dX2_numberAt_246 : decode cX2_numberAt 246 = .ok (.aload_n 1, 1) := by decide +kernel
theorem dX2_numberAt_247 : decode cX2_numberAt 247 = .ok (.getfield 94, 3) := by decide +kernel
theorem dX2_numberAt_250 : decode cX2_numberAt 250 = .ok (.aload_n 0, 1) := by decide +kernel
theorem dX2_numberAt_251 : decode cX2_numberAt 251 = .ok (.getfield 21, 3) := by decide +kernel
theorem dX2_numberAt_254 : decode cX2_numberAt 254 = .ok (.iload_n 2, 1) := by decide +kernel
theorem dX2_numberAt_255 : decode cX2_numberAt 255 = .ok (.aload_n 0, 1) := by decide +kernel
theorem dX2_numberAt_256 : decode cX2_numberAt 256 = .ok (.getfield 25, 3) := by decide +kernel
theorem dX2_numberAt_259 : decode cX2_numberAt 259 = .ok (.iload_n 2, 1) := by decide +kernel
theorem dX2_numberAt_260 : decode cX2_numberAt 260 = .ok (.invokestatic 97, 3) := by decide +kernel
theorem dX2_numberAt_263 : decode cX2_numberAt 263 = .ok (.ifCond .eq 7, 3) := by decide +kernel
theorem dX2_numberAt_266 : decode cX2_numberAt 266 = .ok (.dconst 1, 1) := by decide +kernel
theorem dX2_numberAt_267 : decode cX2_numberAt 267 = .ok (.goto 4, 3) := by decide +kernel
theorem dX2_numberAt_270 : decode cX2_numberAt 270 = .ok (.dconst 0, 1) := by decide +kernel
theorem dX2_numberAt_271 : decode cX2_numberAt 271 = .ok (.dadd, 1) := by decide +kernel
theorem dX2_numberAt_272 : decode cX2_numberAt 272 = .ok (.dreturn, 1) := by decide +kernel
theorem dX2_numberAt_273 : decode cX2_numberAt 273 = .ok (.aload_n 0, 1) := by decide +kernel
theorem dX2_numberAt_274 : decode cX2_numberAt 274 = .ok (.getfield 21, 3) := by decide +kernel
theorem dX2_numberAt_277 : decode cX2_numberAt 277 = .ok (.getfield 87, 3) := by decide +kernel
theorem dX2_numberAt_280 : decode cX2_numberAt 280 = .ok (.iload_n 2, 1) := by decide +kernel
theorem dX2_numberAt_281 : decode cX2_numberAt 281 = .ok (.daload, 1) := by decide +kernel
theorem dX2_numberAt_282 : decode cX2_numberAt 282 = .ok (.dreturn, 1) := by decide +kernel
theorem dX2_ofOne_0 : decode cX2_ofOne 0 = .ok (.iload_n 1, 1) := by decide +kernel
theorem dX2_ofOne_1 : decode cX2_ofOne 1 = .ok (.tableswitch 123 1 8 #[47, 61, 66, 73, 78, 102, 111, 120], 47) := by decide +kernel
theorem dX2_ofOne_48 : decode cX2_ofOne 48 = .ok (.dload_n 2, 1) := by decide +kernel
theorem dX2_ofOne_49 : decode cX2_ofOne 49 = .ok (.invokestatic 134, 3) := by decide +kernel
theorem dX2_ofOne_52 : decode cX2_ofOne 52 = .ok (.ifCond .eq 8, 3) := by decide +kernel
theorem dX2_ofOne_55 : decode cX2_ofOne 55 = .ok (.dload_n 2, 1) := by decide +kernel
theorem dX2_ofOne_56 : decode cX2_ofOne 56 = .ok (.dneg, 1) := by decide +kernel
theorem dX2_ofOne_57 : decode cX2_ofOne 57 = .ok (.goto 4, 3) := by decide +kernel
theorem dX2_ofOne_60 : decode cX2_ofOne 60 = .ok (.dload_n 2, 1) := by decide +kernel
theorem dX2_ofOne_61 : decode cX2_ofOne 61 = .ok (.dreturn, 1) := by decide +kernel
theorem dX2_ofOne_62 : decode cX2_ofOne 62 = .ok (.dload_n 2, 1) := by decide +kernel
theorem dX2_ofOne_63 : decode cX2_ofOne 63 = .ok (.invokestatic 137, 3) := by decide +kernel
theorem dX2_ofOne_66 : decode cX2_ofOne 66 = .ok (.dreturn, 1) := by decide +kernel
theorem dX2_ofOne_67 : decode cX2_ofOne 67 = .ok (.dload_n 2, 1) := by decide +kernel
theorem dX2_ofOne_68 : decode cX2_ofOne 68 = .ok (.dneg, 1) := by decide +kernel
theorem dX2_ofOne_69 : decode cX2_ofOne 69 = .ok (.invokestatic 137, 3) := by decide +kernel
theorem dX2_ofOne_72 : decode cX2_ofOne 72 = .ok (.dneg, 1) := by decide +kernel
theorem dX2_ofOne_73 : decode cX2_ofOne 73 = .ok (.dreturn, 1) := by decide +kernel
theorem dX2_ofOne_74 : decode cX2_ofOne 74 = .ok (.dload_n 2, 1) := by decide +kernel
theorem dX2_ofOne_75 : decode cX2_ofOne 75 = .ok (.invokestatic 141, 3) := by decide +kernel
theorem dX2_ofOne_78 : decode cX2_ofOne 78 = .ok (.dreturn, 1) := by decide +kernel
theorem dX2_ofOne_79 : decode cX2_ofOne 79 = .ok (.dload_n 2, 1) := by decide +kernel
theorem dX2_ofOne_80 : decode cX2_ofOne 80 = .ok (.dconst 0, 1) := by decide +kernel
theorem dX2_ofOne_81 : decode cX2_ofOne 81 = .ok (.dcmp .l, 1) := by decide +kernel
theorem dX2_ofOne_82 : decode cX2_ofOne 82 = .ok (.ifCond .le 7, 3) := by decide +kernel
theorem dX2_ofOne_85 : decode cX2_ofOne 85 = .ok (.dconst 1, 1) := by decide +kernel
theorem dX2_ofOne_86 : decode cX2_ofOne 86 = .ok (.goto 16, 3) := by decide +kernel
theorem dX2_ofOne_89 : decode cX2_ofOne 89 = .ok (.dload_n 2, 1) := by decide +kernel
theorem dX2_ofOne_90 : decode cX2_ofOne 90 = .ok (.dconst 0, 1) := by decide +kernel
theorem dX2_ofOne_91 : decode cX2_ofOne 91 = .ok (.dcmp .g, 1) := by decide +kernel
theorem dX2_ofOne_92 : decode cX2_ofOne 92 = .ok (.ifCond .ge 9, 3) := by decide +kernel
theorem dX2_ofOne_95 : decode cX2_ofOne 95 = .ok (.ldc2_w 144, 3) := by decide +kernel
theorem dX2_ofOne_98 : decode cX2_ofOne 98 = .ok (.goto 4, 3) := by decide +kernel
theorem dX2_ofOne_101 : decode cX2_ofOne 101 = .ok (.dload_n 2, 1) := by decide +kernel
theorem dX2_ofOne_102 : decode cX2_ofOne 102 = .ok (.dreturn, 1) := by decide +kernel
theorem dX2_ofOne_103 : decode cX2_ofOne 103 = .ok (.aload_n 0, 1) := by decide +kernel
theorem dX2_ofOne_104 : decode cX2_ofOne 104 = .ok (.dload_n 2, 1) := by decide +kernel
theorem dX2_ofOne_105 : decode cX2_ofOne 105 = .ok (.ldc2_w 146, 3) := by decide +kernel
theorem dX2_ofOne_108 : decode cX2_ofOne 108 = .ok (.invokevirtual 148, 3) := by decide +kernel
theorem dX2_ofOne_111 : decode cX2_ofOne 111 = .ok (.dreturn, 1) := by decide +kernel
theorem dX2_ofOne_112 : decode cX2_ofOne 112 = .ok (.aload_n 0, 1) := by decide +kernel
theorem dX2_ofOne_113 : decode cX2_ofOne 113 = .ok (.dload_n 2, 1) := by decide +kernel
theorem dX2_ofOne_114 : decode cX2_ofOne 114 = .ok (.ldc2_w 146, 3) := by decide +kernel
theorem dX2_ofOne_117 : decode cX2_ofOne 117 = .ok (.invokevirtual 151, 3) := by decide +kernel
theorem dX2_ofOne_120 : decode cX2_ofOne 120 = .ok (.dreturn, 1) := by decide +kernel
theorem dX2_ofOne_121 : decode cX2_ofOne 121 = .ok (.dload_n 2, 1) := by decide +kernel
theorem dX2_ofOne_122 : decode cX2_ofOne 122 = .ok (.dneg, 1) := by decide +kernel
theorem dX2_ofOne_123 : decode cX2_ofOne 123 = .ok (.dreturn, 1) := by decide +kernel
theorem dX2_ofOne_124 : decode cX2_ofOne 124 = .ok (.dload_n 2, 1) := by decide +kernel
theorem dX2_ofOne_125 : decode cX2_ofOne 125 = .ok (.dreturn, 1) := by decide +kernel
theorem dX2_ofTwo_0 : decode cX2_ofTwo 0 = .ok (.iload_n 1, 1) := by decide +kernel
theorem dX2_ofTwo_1 : decode cX2_ofTwo 1 = .ok (.tableswitch 139 9 16 #[47, 55, 64, 72, 80, 88, 104, 120], 47) := by decide +kernel
theorem dX2_ofTwo_48 : decode cX2_ofTwo 48 = .ok (.aload_n 0, 1) := by decide +kernel
theorem dX2_ofTwo_49 : decode cX2_ofTwo 49 = .ok (.dload_n 2, 1) := by decide +kernel
theorem dX2_ofTwo_50 : decode cX2_ofTwo 50 = .ok (.dload 4, 2) := by decide +kernel
theorem dX2_ofTwo_52 : decode cX2_ofTwo 52 = .ok (.invokevirtual 130, 3) := by decide +kernel
theorem dX2_ofTwo_55 : decode cX2_ofTwo 55 = .ok (.dreturn, 1) := by decide +kernel
theorem dX2_ofTwo_56 : decode cX2_ofTwo 56 = .ok (.aload_n 0, 1) := by decide +kernel
theorem dX2_ofTwo_57 : decode cX2_ofTwo 57 = .ok (.dload_n 2, 1) := by decide +kernel
theorem dX2_ofTwo_58 : decode cX2_ofTwo 58 = .ok (.dload 4, 2) := by decide +kernel
theorem dX2_ofTwo_60 : decode cX2_ofTwo 60 = .ok (.dneg, 1) := by decide +kernel
theorem dX2_ofTwo_61 : decode cX2_ofTwo 61 = .ok (.invokevirtual 130, 3) := by decide +kernel
theorem dX2_ofTwo_64 : decode cX2_ofTwo 64 = .ok (.dreturn, 1) := by decide +kernel
theorem dX2_ofTwo_65 : decode cX2_ofTwo 65 = .ok (.aload_n 0, 1) := by decide +kernel
theorem dX2_ofTwo_66 : decode cX2_ofTwo 66 = .ok (.dload_n 2, 1) := by decide +kernel
theorem dX2_ofTwo_67 : decode cX2_ofTwo 67 = .ok (.dload 4, 2) := by decide +kernel
theorem dX2_ofTwo_69 : decode cX2_ofTwo 69 = .ok (.invokevirtual 151, 3) := by decide +kernel
theorem dX2_ofTwo_72 : decode cX2_ofTwo 72 = .ok (.dreturn, 1) := by decide +kernel
theorem dX2_ofTwo_73 : decode cX2_ofTwo 73 = .ok (.aload_n 0, 1) := by decide +kernel
theorem dX2_ofTwo_74 : decode cX2_ofTwo 74 = .ok (.dload_n 2, 1) := by decide +kernel
theorem dX2_ofTwo_75 : decode cX2_ofTwo 75 = .ok (.dload 4, 2) := by decide +kernel
theorem dX2_ofTwo_77 : decode cX2_ofTwo 77 = .ok (.invokevirtual 148, 3) := by decide +kernel
theorem dX2_ofTwo_80 : decode cX2_ofTwo 80 = .ok (.dreturn, 1) := by decide +kernel
theorem dX2_ofTwo_81 : decode cX2_ofTwo 81 = .ok (.aload_n 0, 1) := by decide +kernel
theorem dX2_ofTwo_82 : decode cX2_ofTwo 82 = .ok (.dload_n 2, 1) := by decide +kernel
theorem dX2_ofTwo_83 : decode cX2_ofTwo 83 = .ok (.dload 4, 2) := by decide +kernel
theorem dX2_ofTwo_85 : decode cX2_ofTwo 85 = .ok (.invokevirtual 154, 3) := by decide +kernel
theorem dX2_ofTwo_88 : decode cX2_ofTwo 88 = .ok (.dreturn, 1) := by decide +kernel
theorem dX2_ofTwo_89 : decode cX2_ofTwo 89 = .ok (.dload 4, 2) := by decide +kernel
theorem dX2_ofTwo_91 : decode cX2_ofTwo 91 = .ok (.dload_n 2, 1) := by decide +kernel
theorem dX2_ofTwo_92 : decode cX2_ofTwo 92 = .ok (.invokestatic 157, 3) := by decide +kernel
theorem dX2_ofTwo_95 : decode cX2_ofTwo 95 = .ok (.ifCond .eq 8, 3) := by decide +kernel
theorem dX2_ofTwo_98 : decode cX2_ofTwo 98 = .ok (.dload 4, 2) := by decide +kernel
theorem dX2_ofTwo_100 : decode cX2_ofTwo 100 = .ok (.goto 4, 3) := by decide +kernel
theorem dX2_ofTwo_103 : decode cX2_ofTwo 103 = .ok (.dload_n 2, 1) := by decide +kernel
theorem dX2_ofTwo_104 : decode cX2_ofTwo 104 = .ok (.dreturn, 1) := by decide +kernel
theorem dX2_ofTwo_105 : decode cX2_ofTwo 105 = .ok (.dload 4, 2) := by decide +kernel
theorem dX2_ofTwo_107 : decode cX2_ofTwo 107 = .ok (.dload_n 2, 1) := by decide +kernel
theorem dX2_ofTwo_108 : decode cX2_ofTwo 108 = .ok (.invokestatic 157, 3) := by decide +kernel
theorem dX2_ofTwo_111 : decode cX2_ofTwo 111 = .ok (.ifCond .eq 7, 3) := by decide +kernel
theorem dX2_ofTwo_114 : decode cX2_ofTwo 114 = .ok (.dload_n 2, 1) := by decide +kernel
theorem dX2_ofTwo_115 : decode cX2_ofTwo 115 = .ok (.goto 5, 3) := by decide +kernel
theorem dX2_ofTwo_118 : decode cX2_ofTwo 118 = .ok (.dload 4, 2) := by decide +kernel
theorem dX2_ofTwo_120 : decode cX2_ofTwo 120 = .ok (.dreturn, 1) := by decide +kernel
theorem dX2_ofTwo_121 : decode cX2_ofTwo 121 = .ok (.dload_n 2, 1) := by decide +kernel
theorem dX2_ofTwo_122 : decode cX2_ofTwo 122 = .ok (.invokestatic 134, 3) := by decide +kernel
theorem dX2_ofTwo_125 : decode cX2_ofTwo 125 = .ok (.dload 4, 2) := by decide +kernel
theorem dX2_ofTwo_127 : decode cX2_ofTwo 127 = .ok (.invokestatic 134, 3) := by decide +kernel
theorem dX2_ofTwo_130 : decode cX2_ofTwo 130 = .ok (.if_icmp .ne 7, 3) := by decide +kernel
theorem dX2_ofTwo_133 : decode cX2_ofTwo 133 = .ok (.dload_n 2, 1) := by decide +kernel
theorem dX2_ofTwo_134 : decode cX2_ofTwo 134 = .ok (.goto 5, 3) := by decide +kernel
theorem dX2_ofTwo_137 : decode cX2_ofTwo 137 = .ok (.dload_n 2, 1) := by decide +kernel
theorem dX2_ofTwo_138 : decode cX2_ofTwo 138 = .ok (.dneg, 1) := by decide +kernel
theorem dX2_ofTwo_139 : decode cX2_ofTwo 139 = .ok (.dreturn, 1) := by decide +kernel
theorem dX2_ofTwo_140 : decode cX2_ofTwo 140 = .ok (.aload_n 0, 1) := by decide +kernel
theorem dX2_ofTwo_141 : decode cX2_ofTwo 141 = .ok (.aload_n 0, 1) := by decide +kernel
theorem dX2_ofTwo_142 : decode cX2_ofTwo 142 = .ok (.dload_n 2, 1) := by decide +kernel
theorem dX2_ofTwo_143 : decode cX2_ofTwo 143 = .ok (.dload 4, 2) := by decide +kernel
theorem dX2_ofTwo_145 : decode cX2_ofTwo 145 = .ok (.invokevirtual 148, 3) := by decide +kernel
theorem dX2_ofTwo_148 : decode cX2_ofTwo 148 = .ok (.invokestatic 141, 3) := by decide +kernel
theorem dX2_ofTwo_151 : decode cX2_ofTwo 151 = .ok (.dload 4, 2) := by decide +kernel
theorem dX2_ofTwo_153 : decode cX2_ofTwo 153 = .ok (.invokevirtual 151, 3) := by decide +kernel
theorem dX2_ofTwo_156 : decode cX2_ofTwo 156 = .ok (.dreturn, 1) := by decide +kernel
theorem dX2_sum_0 : decode cX2_sum 0 = .ok (.aload_n 0, 1) := by decide +kernel
theorem dX2_sum_1 : decode cX2_sum 1 = .ok (.getfield 21, 3) := by decide +kernel
theorem dX2_sum_4 : decode cX2_sum 4 = .ok (.getfield 36, 3) := by decide +kernel
theorem dX2_sum_7 : decode cX2_sum 7 = .ok (.ifCond .eq 12, 3) := by decide +kernel
theorem dX2_sum_10 : decode cX2_sum 10 = .ok (.dload_n 1, 1) := by decide +kernel
theorem dX2_sum_11 : decode cX2_sum 11 = .ok (.d2f, 1) := by decide +kernel
theorem dX2_sum_12 : decode cX2_sum 12 = .ok (.dload_n 3, 1) := by decide +kernel
theorem dX2_sum_13 : decode cX2_sum 13 = .ok (.d2f, 1) := by decide +kernel
theorem dX2_sum_14 : decode cX2_sum 14 = .ok (.fadd, 1) := by decide +kernel
theorem dX2_sum_15 : decode cX2_sum 15 = .ok (.f2d, 1) := by decide +kernel
theorem dX2_sum_16 : decode cX2_sum 16 = .ok (.goto 6, 3) := by decide +kernel
theorem dX2_sum_19 : decode cX2_sum 19 = .ok (.dload_n 1, 1) := by decide +kernel
theorem dX2_sum_20 : decode cX2_sum 20 = .ok (.dload_n 3, 1) := by decide +kernel
theorem dX2_sum_21 : decode cX2_sum 21 = .ok (.dadd, 1) := by decide +kernel
theorem dX2_sum_22 : decode cX2_sum 22 = .ok (.dreturn, 1) := by decide +kernel
theorem dX2_product_0 : decode cX2_product 0 = .ok (.aload_n 0, 1) := by decide +kernel
theorem dX2_product_1 : decode cX2_product 1 = .ok (.getfield 21, 3) := by decide +kernel
theorem dX2_product_4 : decode cX2_product 4 = .ok (.getfield 36, 3) := by decide +kernel
theorem dX2_product_7 : decode cX2_product 7 = .ok (.ifCond .eq 12, 3) := by decide +kernel
theorem dX2_product_10 : decode cX2_product 10 = .ok (.dload_n 1, 1) := by decide +kernel
theorem dX2_product_11 : decode cX2_product 11 = .ok (.d2f, 1) := by decide +kernel
theorem dX2_product_12 : decode cX2_product 12 = .ok (.dload_n 3, 1) := by decide +kernel
theorem dX2_product_13 : decode cX2_product 13 = .ok (.d2f, 1) := by decide +kernel
theorem dX2_product_14 : decode cX2_product 14 = .ok (.fmul, 1) := by decide +kernel
theorem dX2_product_15 : decode cX2_product 15 = .ok (.f2d, 1) := by decide +kernel
theorem dX2_product_16 : decode cX2_product 16 = .ok (.goto 6, 3) := by decide +kernel
theorem dX2_product_19 : decode cX2_product 19 = .ok (.dload_n 1, 1) := by decide +kernel
theorem dX2_product_20 : decode cX2_product 20 = .ok (.dload_n 3, 1) := by decide +kernel
theorem dX2_product_21 : decode cX2_product 21 = .ok (.dmul, 1) := by decide +kernel
theorem dX2_product_22 : decode cX2_product 22 = .ok (.dreturn, 1) := by decide +kernel
theorem dX2_quotient_0 : decode cX2_quotient 0 = .ok (.aload_n 0, 1) := by decide +kernel
theorem dX2_quotient_1 : decode cX2_quotient 1 = .ok (.getfield 21, 3) := by decide +kernel
theorem dX2_quotient_4 : decode cX2_quotient 4 = .ok (.getfield 36, 3) := by decide +kernel
theorem dX2_quotient_7 : decode cX2_quotient 7 = .ok (.ifCond .eq 12, 3) := by decide +kernel
theorem dX2_quotient_10 : decode cX2_quotient 10 = .ok (.dload_n 1, 1) := by decide +kernel
theorem dX2_quotient_11 : decode cX2_quotient 11 = .ok (.d2f, 1) := by decide +kernel
theorem dX2_quotient_12 : decode cX2_quotient 12 = .ok (.dload_n 3, 1) := by decide +kernel
theorem dX2_quotient_13 : decode cX2_quotient 13 = .ok (.d2f, 1) := by decide +kernel
theorem dX2_quotient_14 : decode cX2_quotient 14 = .ok (.fdiv, 1) := by decide +kernel
theorem dX2_quotient_15 : decode cX2_quotient 15 = .ok (.f2d, 1) := by decide +kernel
theorem dX2_quotient_16 : decode cX2_quotient 16 = .ok (.goto 6, 3) := by decide +kernel
theorem dX2_quotient_19 : decode cX2_quotient 19 = .ok (.dload_n 1, 1) := by decide +kernel
theorem dX2_quotient_20 : decode cX2_quotient 20 = .ok (.dload_n 3, 1) := by decide +kernel
theorem dX2_quotient_21 : decode cX2_quotient 21 = .ok (.ddiv, 1) := by decide +kernel
theorem dX2_quotient_22 : decode cX2_quotient 22 = .ok (.dreturn, 1) := by decide +kernel
theorem dX2_isSurelyWhole_0 : decode cX2_isSurelyWhole 0 = .ok (.dload_n 0, 1) := by decide +kernel
theorem dX2_isSurelyWhole_1 : decode cX2_isSurelyWhole 1 = .ok (.ldc2_w 161, 3) := by decide +kernel
theorem dX2_isSurelyWhole_4 : decode cX2_isSurelyWhole 4 = .ok (.dcmp .l, 1) := by decide +kernel
theorem dX2_isSurelyWhole_5 : decode cX2_isSurelyWhole 5 = .ok (.ifCond .ge 17, 3) := by decide +kernel
theorem dX2_isSurelyWhole_8 : decode cX2_isSurelyWhole 8 = .ok (.dload_n 0, 1) := by decide +kernel
theorem dX2_isSurelyWhole_9 : decode cX2_isSurelyWhole 9 = .ok (.ldc2_w 163, 3) := by decide +kernel
theorem dX2_isSurelyWhole_12 : decode cX2_isSurelyWhole 12 = .ok (.dcmp .g, 1) := by decide +kernel
theorem dX2_isSurelyWhole_13 : decode cX2_isSurelyWhole 13 = .ok (.ifCond .le 9, 3) := by decide +kernel
theorem dX2_isSurelyWhole_16 : decode cX2_isSurelyWhole 16 = .ok (.dload_n 0, 1) := by decide +kernel
theorem dX2_isSurelyWhole_17 : decode cX2_isSurelyWhole 17 = .ok (.dconst 0, 1) := by decide +kernel
theorem dX2_isSurelyWhole_18 : decode cX2_isSurelyWhole 18 = .ok (.dcmp .l, 1) := by decide +kernel
theorem dX2_isSurelyWhole_19 : decode cX2_isSurelyWhole 19 = .ok (.ifCond .ne 7, 3) := by decide +kernel
theorem dX2_isSurelyWhole_22 : decode cX2_isSurelyWhole 22 = .ok (.iconst 1, 1) := by decide +kernel
theorem dX2_isSurelyWhole_23 : decode cX2_isSurelyWhole 23 = .ok (.goto 4, 3) := by decide +kernel
theorem dX2_isSurelyWhole_26 : decode cX2_isSurelyWhole 26 = .ok (.iconst 0, 1) := by decide +kernel
theorem dX2_isSurelyWhole_27 : decode cX2_isSurelyWhole 27 = .ok (.ireturn, 1) := by decide +kernel
theorem dX2_floor_0 : decode cX2_floor 0 = .ok (.dload_n 0, 1) := by decide +kernel
theorem dX2_floor_1 : decode cX2_floor 1 = .ok (.invokestatic 165, 3) := by decide +kernel
theorem dX2_floor_4 : decode cX2_floor 4 = .ok (.ifCond .eq 5, 3) := by decide +kernel
theorem dX2_floor_7 : decode cX2_floor 7 = .ok (.dload_n 0, 1) := by decide +kernel
theorem dX2_floor_8 : decode cX2_floor 8 = .ok (.dreturn, 1) := by decide +kernel
theorem dX2_floor_9 : decode cX2_floor 9 = .ok (.dload_n 0, 1) := by decide +kernel
theorem dX2_floor_10 : decode cX2_floor 10 = .ok (.d2l, 1) := by decide +kernel
theorem dX2_floor_11 : decode cX2_floor 11 = .ok (.l2d, 1) := by decide +kernel
theorem dX2_floor_12 : decode cX2_floor 12 = .ok (.dstore_n 2, 1) := by decide +kernel
theorem dX2_floor_13 : decode cX2_floor 13 = .ok (.dload_n 2, 1) := by decide +kernel
theorem dX2_floor_14 : decode cX2_floor 14 = .ok (.dload_n 0, 1) := by decide +kernel
theorem dX2_floor_15 : decode cX2_floor 15 = .ok (.dcmp .l, 1) := by decide +kernel
theorem dX2_floor_16 : decode cX2_floor 16 = .ok (.ifCond .le 9, 3) := by decide +kernel
theorem dX2_floor_19 : decode cX2_floor 19 = .ok (.dload_n 2, 1) := by decide +kernel
theorem dX2_floor_20 : decode cX2_floor 20 = .ok (.dconst 1, 1) := by decide +kernel
theorem dX2_floor_21 : decode cX2_floor 21 = .ok (.dsub, 1) := by decide +kernel
theorem dX2_floor_22 : decode cX2_floor 22 = .ok (.goto 4, 3) := by decide +kernel
theorem dX2_floor_25 : decode cX2_floor 25 = .ok (.dload_n 2, 1) := by decide +kernel
theorem dX2_floor_26 : decode cX2_floor 26 = .ok (.dreturn, 1) := by decide +kernel
theorem dX2_nearest_0 : decode cX2_nearest 0 = .ok (.dload_n 0, 1) := by decide +kernel
theorem dX2_nearest_1 : decode cX2_nearest 1 = .ok (.invokestatic 165, 3) := by decide +kernel
theorem dX2_nearest_4 : decode cX2_nearest 4 = .ok (.ifCond .eq 5, 3) := by decide +kernel
theorem dX2_nearest_7 : decode cX2_nearest 7 = .ok (.dload_n 0, 1) := by decide +kernel
theorem dX2_nearest_8 : decode cX2_nearest 8 = .ok (.dreturn, 1) := by decide +kernel
theorem dX2_nearest_9 : decode cX2_nearest 9 = .ok (.dload_n 0, 1) := by decide +kernel
theorem dX2_nearest_10 : decode cX2_nearest 10 = .ok (.dconst 0, 1) := by decide +kernel
theorem dX2_nearest_11 : decode cX2_nearest 11 = .ok (.dcmp .g, 1) := by decide +kernel
theorem dX2_nearest_12 : decode cX2_nearest 12 = .ok (.ifCond .ge 8, 3) := by decide +kernel
theorem dX2_nearest_15 : decode cX2_nearest 15 = .ok (.dload_n 0, 1) := by decide +kernel
theorem dX2_nearest_16 : decode cX2_nearest 16 = .ok (.dneg, 1) := by decide +kernel
theorem dX2_nearest_17 : decode cX2_nearest 17 = .ok (.goto 4, 3) := by decide +kernel
theorem dX2_nearest_20 : decode cX2_nearest 20 = .ok (.dload_n 0, 1) := by decide +kernel
theorem dX2_nearest_21 : decode cX2_nearest 21 = .ok (.dstore_n 2, 1) := by decide +kernel
theorem dX2_nearest_22 : decode cX2_nearest 22 = .ok (.dload_n 2, 1) := by decide +kernel
theorem dX2_nearest_23 : decode cX2_nearest 23 = .ok (.d2l, 1) := by decide +kernel
theorem dX2_nearest_24 : decode cX2_nearest 24 = .ok (.lstore 4, 2) := by decide +kernel
theorem dX2_nearest_26 : decode cX2_nearest 26 = .ok (.dload_n 2, 1) := by decide +kernel
theorem dX2_nearest_27 : decode cX2_nearest 27 = .ok (.lload 4, 2) := by decide +kernel
theorem dX2_nearest_29 : decode cX2_nearest 29 = .ok (.l2d, 1) := by decide +kernel
theorem dX2_nearest_30 : decode cX2_nearest 30 = .ok (.dsub, 1) := by decide +kernel
theorem dX2_nearest_31 : decode cX2_nearest 31 = .ok (.dstore 6, 2) := by decide +kernel
theorem dX2_nearest_33 : decode cX2_nearest 33 = .ok (.dload 6, 2) := by decide +kernel
theorem dX2_nearest_35 : decode cX2_nearest 35 = .ok (.ldc2_w 168, 3) := by decide +kernel
theorem dX2_nearest_38 : decode cX2_nearest 38 = .ok (.dcmp .l, 1) := by decide +kernel
theorem dX2_nearest_39 : decode cX2_nearest 39 = .ok (.ifCond .gt 21, 3) := by decide +kernel
theorem dX2_nearest_42 : decode cX2_nearest 42 = .ok (.dload 6, 2) := by decide +kernel
theorem dX2_nearest_44 : decode cX2_nearest 44 = .ok (.ldc2_w 168, 3) := by decide +kernel
theorem dX2_nearest_47 : decode cX2_nearest 47 = .ok (.dcmp .l, 1) := by decide +kernel
theorem dX2_nearest_48 : decode cX2_nearest 48 = .ok (.ifCond .ne 18, 3) := by decide +kernel
theorem dX2_nearest_51 : decode cX2_nearest 51 = .ok (.lload 4, 2) := by decide +kernel
theorem dX2_nearest_53 : decode cX2_nearest 53 = .ok (.lconst 1, 1) := by decide +kernel
theorem dX2_nearest_54 : decode cX2_nearest 54 = .ok (.land, 1) := by decide +kernel
theorem dX2_nearest_55 : decode cX2_nearest 55 = .ok (.lconst 1, 1) := by decide +kernel
theorem dX2_nearest_56 : decode cX2_nearest 56 = .ok (.lcmp, 1) := by decide +kernel
theorem dX2_nearest_57 : decode cX2_nearest 57 = .ok (.ifCond .ne 9, 3) := by decide +kernel
theorem dX2_nearest_60 : decode cX2_nearest 60 = .ok (.lload 4, 2) := by decide +kernel
theorem dX2_nearest_62 : decode cX2_nearest 62 = .ok (.lconst 1, 1) := by decide +kernel
theorem dX2_nearest_63 : decode cX2_nearest 63 = .ok (.ladd, 1) := by decide +kernel
theorem dX2_nearest_64 : decode cX2_nearest 64 = .ok (.lstore 4, 2) := by decide +kernel
theorem dX2_nearest_66 : decode cX2_nearest 66 = .ok (.dload_n 0, 1) := by decide +kernel
theorem dX2_nearest_67 : decode cX2_nearest 67 = .ok (.dconst 0, 1) := by decide +kernel
theorem dX2_nearest_68 : decode cX2_nearest 68 = .ok (.dcmp .g, 1) := by decide +kernel
theorem dX2_nearest_69 : decode cX2_nearest 69 = .ok (.ifCond .ge 10, 3) := by decide +kernel
theorem dX2_nearest_72 : decode cX2_nearest 72 = .ok (.lload 4, 2) := by decide +kernel
theorem dX2_nearest_74 : decode cX2_nearest 74 = .ok (.l2d, 1) := by decide +kernel
theorem dX2_nearest_75 : decode cX2_nearest 75 = .ok (.dneg, 1) := by decide +kernel
theorem dX2_nearest_76 : decode cX2_nearest 76 = .ok (.goto 6, 3) := by decide +kernel
theorem dX2_nearest_79 : decode cX2_nearest 79 = .ok (.lload 4, 2) := by decide +kernel
theorem dX2_nearest_81 : decode cX2_nearest 81 = .ok (.l2d, 1) := by decide +kernel
theorem dX2_nearest_82 : decode cX2_nearest 82 = .ok (.dreturn, 1) := by decide +kernel
theorem dX2_remainder_0 : decode cX2_remainder 0 = .ok (.dload_n 1, 1) := by decide +kernel
theorem dX2_remainder_1 : decode cX2_remainder 1 = .ok (.invokestatic 134, 3) := by decide +kernel
theorem dX2_remainder_4 : decode cX2_remainder 4 = .ok (.ifCond .eq 8, 3) := by decide +kernel
theorem dX2_remainder_7 : decode cX2_remainder 7 = .ok (.dload_n 1, 1) := by decide +kernel
theorem dX2_remainder_8 : decode cX2_remainder 8 = .ok (.dneg, 1) := by decide +kernel
theorem dX2_remainder_9 : decode cX2_remainder 9 = .ok (.goto 4, 3) := by decide +kernel
theorem dX2_remainder_12 : decode cX2_remainder 12 = .ok (.dload_n 1, 1) := by decide +kernel
theorem dX2_remainder_13 : decode cX2_remainder 13 = .ok (.dstore 5, 2) := by decide +kernel
theorem dX2_remainder_15 : decode cX2_remainder 15 = .ok (.dload_n 3, 1) := by decide +kernel
theorem dX2_remainder_16 : decode cX2_remainder 16 = .ok (.dconst 0, 1) := by decide +kernel
theorem dX2_remainder_17 : decode cX2_remainder 17 = .ok (.dcmp .g, 1) := by decide +kernel
theorem dX2_remainder_18 : decode cX2_remainder 18 = .ok (.ifCond .ge 8, 3) := by decide +kernel
theorem dX2_remainder_21 : decode cX2_remainder 21 = .ok (.dload_n 3, 1) := by decide +kernel
theorem dX2_remainder_22 : decode cX2_remainder 22 = .ok (.dneg, 1) := by decide +kernel
theorem dX2_remainder_23 : decode cX2_remainder 23 = .ok (.goto 4, 3) := by decide +kernel
theorem dX2_remainder_26 : decode cX2_remainder 26 = .ok (.dload_n 3, 1) := by decide +kernel
theorem dX2_remainder_27 : decode cX2_remainder 27 = .ok (.dstore 7, 2) := by decide +kernel
theorem dX2_remainder_29 : decode cX2_remainder 29 = .ok (.dload 5, 2) := by decide +kernel
theorem dX2_remainder_31 : decode cX2_remainder 31 = .ok (.dload 7, 2) := by decide +kernel
theorem dX2_remainder_33 : decode cX2_remainder 33 = .ok (.dcmp .g, 1) := by decide +kernel
theorem dX2_remainder_34 : decode cX2_remainder 34 = .ok (.ifCond .lt 10, 3) := by decide +kernel
theorem dX2_remainder_37 : decode cX2_remainder 37 = .ok (.dload 5, 2) := by decide +kernel
theorem dX2_remainder_39 : decode cX2_remainder 39 = .ok (.dconst 0, 1) := by decide +kernel
theorem dX2_remainder_40 : decode cX2_remainder 40 = .ok (.dcmp .l, 1) := by decide +kernel
theorem dX2_remainder_41 : decode cX2_remainder 41 = .ok (.ifCond .ne 5, 3) := by decide +kernel
theorem dX2_remainder_44 : decode cX2_remainder 44 = .ok (.dload_n 1, 1) := by decide +kernel
theorem dX2_remainder_45 : decode cX2_remainder 45 = .ok (.dreturn, 1) := by decide +kernel
theorem dX2_remainder_46 : decode cX2_remainder 46 = .ok (.aload_n 0, 1) := by decide +kernel
theorem dX2_remainder_47 : decode cX2_remainder 47 = .ok (.getfield 12, 3) := by decide +kernel
theorem dX2_remainder_50 : decode cX2_remainder 50 = .ok (.dload 5, 2) := by decide +kernel
theorem dX2_remainder_52 : decode cX2_remainder 52 = .ok (.iconst 0, 1) := by decide +kernel
theorem dX2_remainder_53 : decode cX2_remainder 53 = .ok (.invokevirtual 170, 3) := by decide +kernel
theorem dX2_remainder_56 : decode cX2_remainder 56 = .ok (.istore 9, 2) := by decide +kernel
theorem dX2_remainder_58 : decode cX2_remainder 58 = .ok (.aload_n 0, 1) := by decide +kernel
theorem dX2_remainder_59 : decode cX2_remainder 59 = .ok (.getfield 12, 3) := by decide +kernel
theorem dX2_remainder_62 : decode cX2_remainder 62 = .ok (.dload 7, 2) := by decide +kernel
theorem dX2_remainder_64 : decode cX2_remainder 64 = .ok (.iconst 0, 1) := by decide +kernel
theorem dX2_remainder_65 : decode cX2_remainder 65 = .ok (.invokevirtual 170, 3) := by decide +kernel
theorem dX2_remainder_68 : decode cX2_remainder 68 = .ok (.istore 10, 2) := by decide +kernel
theorem dX2_remainder_70 : decode cX2_remainder 70 = .ok (.aload_n 0, 1) := by decide +kernel
theorem dX2_remainder_71 : decode cX2_remainder 71 = .ok (.getfield 12, 3) := by decide +kernel
theorem dX2_remainder_74 : decode cX2_remainder 74 = .ok (.dload 7, 2) := by decide +kernel
theorem dX2_remainder_76 : decode cX2_remainder 76 = .ok (.iload 10, 2) := by decide +kernel
theorem dX2_remainder_78 : decode cX2_remainder 78 = .ok (.ineg, 1) := by decide +kernel
theorem dX2_remainder_79 : decode cX2_remainder 79 = .ok (.invokevirtual 174, 3) := by decide +kernel
theorem dX2_remainder_82 : decode cX2_remainder 82 = .ok (.d2l, 1) := by decide +kernel
theorem dX2_remainder_83 : decode cX2_remainder 83 = .ok (.lstore 11, 2) := by decide +kernel
theorem dX2_remainder_85 : decode cX2_remainder 85 = .ok (.lload 11, 2) := by decide +kernel
theorem dX2_remainder_87 : decode cX2_remainder 87 = .ok (.lconst 0, 1) := by decide +kernel
theorem dX2_remainder_88 : decode cX2_remainder 88 = .ok (.lcmp, 1) := by decide +kernel
theorem dX2_remainder_89 : decode cX2_remainder 89 = .ok (.ifCond .gt 5, 3) := by decide +kernel
theorem dX2_remainder_92 : decode cX2_remainder 92 = .ok (.dload_n 1, 1) := by decide +kernel
theorem dX2_remainder_93 : decode cX2_remainder 93 = .ok (.dreturn, 1) := by decide +kernel
theorem dX2_remainder_94 : decode cX2_remainder 94 = .ok (.aload_n 0, 1) := by decide +kernel
theorem dX2_remainder_95 : decode cX2_remainder 95 = .ok (.getfield 12, 3) := by decide +kernel
theorem dX2_remainder_98 : decode cX2_remainder 98 = .ok (.dload 5, 2) := by decide +kernel
theorem dX2_remainder_100 : decode cX2_remainder 100 = .ok (.iload 9, 2) := by decide +kernel
theorem dX2_remainder_102 : decode cX2_remainder 102 = .ok (.ineg, 1) := by decide +kernel
theorem dX2_remainder_103 : decode cX2_remainder 103 = .ok (.invokevirtual 174, 3) := by decide +kernel
theorem dX2_remainder_106 : decode cX2_remainder 106 = .ok (.d2l, 1) := by decide +kernel
theorem dX2_remainder_107 : decode cX2_remainder 107 = .ok (.lload 11, 2) := by decide +kernel
theorem dX2_remainder_109 : decode cX2_remainder 109 = .ok (.lrem, 1) := by decide +kernel
theorem dX2_remainder_110 : decode cX2_remainder 110 = .ok (.lstore 13, 2) := by decide +kernel
theorem dX2_remainder_112 : decode cX2_remainder 112 = .ok (.iload 9, 2) := by decide +kernel
theorem dX2_remainder_114 : decode cX2_remainder 114 = .ok (.iload 10, 2) := by decide +kernel
theorem dX2_remainder_116 : decode cX2_remainder 116 = .ok (.isub, 1) := by decide +kernel
theorem dX2_remainder_117 : decode cX2_remainder 117 = .ok (.istore 15, 2) := by decide +kernel
theorem dX2_remainder_119 : decode cX2_remainder 119 = .ok (.iload 15, 2) := by decide +kernel
theorem dX2_remainder_121 : decode cX2_remainder 121 = .ok (.ifCond .le 38, 3) := by decide +kernel
theorem dX2_remainder_124 : decode cX2_remainder 124 = .ok (.lload 13, 2) := by decide +kernel
theorem dX2_remainder_126 : decode cX2_remainder 126 = .ok (.lconst 0, 1) := by decide +kernel
theorem dX2_remainder_127 : decode cX2_remainder 127 = .ok (.lcmp, 1) := by decide +kernel
theorem dX2_remainder_128 : decode cX2_remainder 128 = .ok (.ifCond .eq 31, 3) := by decide +kernel
theorem dX2_remainder_131 : decode cX2_remainder 131 = .ok (.lload 13, 2) := by decide +kernel
theorem dX2_remainder_133 : decode cX2_remainder 133 = .ok (.iload 15, 2) := by decide +kernel
theorem dX2_remainder_135 : decode cX2_remainder 135 = .ok (.bipush 10, 2) := by decide +kernel
theorem dX2_remainder_137 : decode cX2_remainder 137 = .ok (.if_icmp .ge 8, 3) := by decide +kernel
theorem dX2_remainder_140 : decode cX2_remainder 140 = .ok (.iload 15, 2) := by decide +kernel
theorem dX2_remainder_142 : decode cX2_remainder 142 = .ok (.goto 5, 3) := by decide +kernel
theorem dX2_remainder_145 : decode cX2_remainder 145 = .ok (.bipush 10, 2) := by decide +kernel
theorem dX2_remainder_147 : decode cX2_remainder 147 = .ok (.lshl, 1) := by decide +kernel
theorem dX2_remainder_148 : decode cX2_remainder 148 = .ok (.lload 11, 2) := by decide +kernel
theorem dX2_remainder_150 : decode cX2_remainder 150 = .ok (.lrem, 1) := by decide +kernel
theorem dX2_remainder_151 : decode cX2_remainder 151 = .ok (.lstore 13, 2) := by decide +kernel
theorem dX2_remainder_153 : decode cX2_remainder 153 = .ok (.iinc 15 (-10), 3) := by decide +kernel
theorem dX2_remainder_156 : decode cX2_remainder 156 = .ok (.goto (-37), 3) := by decide +kernel
theorem dX2_remainder_159 : decode cX2_remainder 159 = .ok (.aload_n 0, 1) := by decide +kernel
theorem dX2_remainder_160 : decode cX2_remainder 160 = .ok (.getfield 12, 3) := by decide +kernel
theorem dX2_remainder_163 : decode cX2_remainder 163 = .ok (.lload 13, 2) := by decide +kernel
theorem dX2_remainder_165 : decode cX2_remainder 165 = .ok (.l2d, 1) := by decide +kernel
theorem dX2_remainder_166 : decode cX2_remainder 166 = .ok (.iload 10, 2) := by decide +kernel
theorem dX2_remainder_168 : decode cX2_remainder 168 = .ok (.invokevirtual 174, 3) := by decide +kernel
theorem dX2_remainder_171 : decode cX2_remainder 171 = .ok (.dstore 15, 2) := by decide +kernel
theorem dX2_remainder_173 : decode cX2_remainder 173 = .ok (.dload_n 1, 1) := by decide +kernel
theorem dX2_remainder_174 : decode cX2_remainder 174 = .ok (.invokestatic 134, 3) := by decide +kernel
theorem dX2_remainder_177 : decode cX2_remainder 177 = .ok (.ifCond .eq 9, 3) := by decide +kernel
theorem dX2_remainder_180 : decode cX2_remainder 180 = .ok (.dload 15, 2) := by decide +kernel
theorem dX2_remainder_182 : decode cX2_remainder 182 = .ok (.dneg, 1) := by decide +kernel
theorem dX2_remainder_183 : decode cX2_remainder 183 = .ok (.goto 5, 3) := by decide +kernel
theorem dX2_remainder_186 : decode cX2_remainder 186 = .ok (.dload 15, 2) := by decide +kernel
theorem dX2_remainder_188 : decode cX2_remainder 188 = .ok (.dreturn, 1) := by decide +kernel
theorem dX2_comesBefore_0 : decode cX2_comesBefore 0 = .ok (.dload_n 0, 1) := by decide +kernel
theorem dX2_comesBefore_1 : decode cX2_comesBefore 1 = .ok (.dload_n 2, 1) := by decide +kernel
theorem dX2_comesBefore_2 : decode cX2_comesBefore 2 = .ok (.dcmp .g, 1) := by decide +kernel
theorem dX2_comesBefore_3 : decode cX2_comesBefore 3 = .ok (.ifCond .lt 23, 3) := by decide +kernel
theorem dX2_comesBefore_6 : decode cX2_comesBefore 6 = .ok (.dload_n 0, 1) := by decide +kernel
theorem dX2_comesBefore_7 : decode cX2_comesBefore 7 = .ok (.dload_n 2, 1) := by decide +kernel
theorem dX2_comesBefore_8 : decode cX2_comesBefore 8 = .ok (.dcmp .l, 1) := by decide +kernel
theorem dX2_comesBefore_9 : decode cX2_comesBefore 9 = .ok (.ifCond .ne 21, 3) := by decide +kernel
theorem dX2_comesBefore_12 : decode cX2_comesBefore 12 = .ok (.dload_n 0, 1) := by decide +kernel
theorem dX2_comesBefore_13 : decode cX2_comesBefore 13 = .ok (.invokestatic 134, 3) := by decide +kernel
theorem dX2_comesBefore_16 : decode cX2_comesBefore 16 = .ok (.ifCond .eq 14, 3) := by decide +kernel
theorem dX2_comesBefore_19 : decode cX2_comesBefore 19 = .ok (.dload_n 2, 1) := by decide +kernel
theorem dX2_comesBefore_20 : decode cX2_comesBefore 20 = .ok (.invokestatic 134, 3) := by decide +kernel
theorem dX2_comesBefore_23 : decode cX2_comesBefore 23 = .ok (.ifCond .ne 7, 3) := by decide +kernel
theorem dX2_comesBefore_26 : decode cX2_comesBefore 26 = .ok (.iconst 1, 1) := by decide +kernel
theorem dX2_comesBefore_27 : decode cX2_comesBefore 27 = .ok (.goto 4, 3) := by decide +kernel
theorem dX2_comesBefore_30 : decode cX2_comesBefore 30 = .ok (.iconst 0, 1) := by decide +kernel
theorem dX2_comesBefore_31 : decode cX2_comesBefore 31 = .ok (.ireturn, 1) := by decide +kernel
theorem dX2_middleAt_0 : decode cX2_middleAt 0 = .ok (.iload_n 1, 1) := by decide +kernel
theorem dX2_middleAt_1 : decode cX2_middleAt 1 = .ok (.ifCond .le 9, 3) := by decide +kernel
theorem dX2_middleAt_4 : decode cX2_middleAt 4 = .ok (.iload_n 1, 1) := by decide +kernel
theorem dX2_middleAt_5 : decode cX2_middleAt 5 = .ok (.bipush 15, 2) := by decide +kernel
theorem dX2_middleAt_7 : decode cX2_middleAt 7 = .ok (.if_icmp .lt 5, 3) := by decide +kernel
theorem dX2_middleAt_10 : decode cX2_middleAt 10 = .ok (.dconst 0, 1) := by decide +kernel
theorem dX2_middleAt_11 : decode cX2_middleAt 11 = .ok (.dreturn, 1) := by decide +kernel
theorem dX2_middleAt_12 : decode cX2_middleAt 12 = .ok (.aload_n 0, 1) := by decide +kernel
theorem dX2_middleAt_13 : decode cX2_middleAt 13 = .ok (.getfield 21, 3) := by decide +kernel
theorem dX2_middleAt_16 : decode cX2_middleAt 16 = .ok (.getfield 87, 3) := by decide +kernel
theorem dX2_middleAt_19 : decode cX2_middleAt 19 = .ok (.iload_n 1, 1) := by decide +kernel
theorem dX2_middleAt_20 : decode cX2_middleAt 20 = .ok (.daload, 1) := by decide +kernel
theorem dX2_middleAt_21 : decode cX2_middleAt 21 = .ok (.aload_n 0, 1) := by decide +kernel
theorem dX2_middleAt_22 : decode cX2_middleAt 22 = .ok (.getfield 21, 3) := by decide +kernel
theorem dX2_middleAt_25 : decode cX2_middleAt 25 = .ok (.getfield 87, 3) := by decide +kernel
theorem dX2_middleAt_28 : decode cX2_middleAt 28 = .ok (.iload_n 1, 1) := by decide +kernel
theorem dX2_middleAt_29 : decode cX2_middleAt 29 = .ok (.iconst 1, 1) := by decide +kernel
theorem dX2_middleAt_30 : decode cX2_middleAt 30 = .ok (.isub, 1) := by decide +kernel
theorem dX2_middleAt_31 : decode cX2_middleAt 31 = .ok (.daload, 1) := by decide +kernel
theorem dX2_middleAt_32 : decode cX2_middleAt 32 = .ok (.invokestatic 157, 3) := by decide +kernel
theorem dX2_middleAt_35 : decode cX2_middleAt 35 = .ok (.istore_n 2, 1) := by decide +kernel
theorem dX2_middleAt_36 : decode cX2_middleAt 36 = .ok (.iload_n 2, 1) := by decide +kernel
theorem dX2_middleAt_37 : decode cX2_middleAt 37 = .ok (.ifCond .eq 15, 3) := by decide +kernel
theorem dX2_middleAt_40 : decode cX2_middleAt 40 = .ok (.aload_n 0, 1) := by decide +kernel
theorem dX2_middleAt_41 : decode cX2_middleAt 41 = .ok (.getfield 21, 3) := by decide +kernel
theorem dX2_middleAt_44 : decode cX2_middleAt 44 = .ok (.getfield 87, 3) := by decide +kernel
theorem dX2_middleAt_47 : decode cX2_middleAt 47 = .ok (.iload_n 1, 1) := by decide +kernel
theorem dX2_middleAt_48 : decode cX2_middleAt 48 = .ok (.daload, 1) := by decide +kernel
theorem dX2_middleAt_49 : decode cX2_middleAt 49 = .ok (.goto 14, 3) := by decide +kernel
theorem dX2_middleAt_52 : decode cX2_middleAt 52 = .ok (.aload_n 0, 1) := by decide +kernel
theorem dX2_middleAt_53 : decode cX2_middleAt 53 = .ok (.getfield 21, 3) := by decide +kernel
theorem dX2_middleAt_56 : decode cX2_middleAt 56 = .ok (.getfield 87, 3) := by decide +kernel
theorem dX2_middleAt_59 : decode cX2_middleAt 59 = .ok (.iload_n 1, 1) := by decide +kernel
theorem dX2_middleAt_60 : decode cX2_middleAt 60 = .ok (.iconst 1, 1) := by decide +kernel
theorem dX2_middleAt_61 : decode cX2_middleAt 61 = .ok (.isub, 1) := by decide +kernel
theorem dX2_middleAt_62 : decode cX2_middleAt 62 = .ok (.daload, 1) := by decide +kernel
theorem dX2_middleAt_63 : decode cX2_middleAt 63 = .ok (.dstore_n 3, 1) := by decide +kernel
theorem dX2_middleAt_64 : decode cX2_middleAt 64 = .ok (.iload_n 2, 1) := by decide +kernel
theorem dX2_middleAt_65 : decode cX2_middleAt 65 = .ok (.ifCond .eq 17, 3) := by decide +kernel
theorem dX2_middleAt_68 : decode cX2_middleAt 68 = .ok (.aload_n 0, 1) := by decide +kernel
theorem dX2_middleAt_69 : decode cX2_middleAt 69 = .ok (.getfield 21, 3) := by decide +kernel
theorem dX2_middleAt_72 : decode cX2_middleAt 72 = .ok (.getfield 87, 3) := by decide +kernel
theorem dX2_middleAt_75 : decode cX2_middleAt 75 = .ok (.iload_n 1, 1) := by decide +kernel
theorem dX2_middleAt_76 : decode cX2_middleAt 76 = .ok (.iconst 1, 1) := by decide +kernel
theorem dX2_middleAt_77 : decode cX2_middleAt 77 = .ok (.isub, 1) := by decide +kernel
theorem dX2_middleAt_78 : decode cX2_middleAt 78 = .ok (.daload, 1) := by decide +kernel
theorem dX2_middleAt_79 : decode cX2_middleAt 79 = .ok (.goto 12, 3) := by decide +kernel
theorem dX2_middleAt_82 : decode cX2_middleAt 82 = .ok (.aload_n 0, 1) := by decide +kernel
theorem dX2_middleAt_83 : decode cX2_middleAt 83 = .ok (.getfield 21, 3) := by decide +kernel
theorem dX2_middleAt_86 : decode cX2_middleAt 86 = .ok (.getfield 87, 3) := by decide +kernel
theorem dX2_middleAt_89 : decode cX2_middleAt 89 = .ok (.iload_n 1, 1) := by decide +kernel
theorem dX2_middleAt_90 : decode cX2_middleAt 90 = .ok (.daload, 1) := by decide +kernel
theorem dX2_middleAt_91 : decode cX2_middleAt 91 = .ok (.dstore 5, 2) := by decide +kernel
theorem dX2_middleAt_93 : decode cX2_middleAt 93 = .ok (.aload_n 0, 1) := by decide +kernel
theorem dX2_middleAt_94 : decode cX2_middleAt 94 = .ok (.getfield 21, 3) := by decide +kernel
theorem dX2_middleAt_97 : decode cX2_middleAt 97 = .ok (.getfield 87, 3) := by decide +kernel
theorem dX2_middleAt_100 : decode cX2_middleAt 100 = .ok (.iload_n 1, 1) := by decide +kernel
theorem dX2_middleAt_101 : decode cX2_middleAt 101 = .ok (.iconst 1, 1) := by decide +kernel
theorem dX2_middleAt_102 : decode cX2_middleAt 102 = .ok (.iadd, 1) := by decide +kernel
theorem dX2_middleAt_103 : decode cX2_middleAt 103 = .ok (.daload, 1) := by decide +kernel
theorem dX2_middleAt_104 : decode cX2_middleAt 104 = .ok (.dstore 7, 2) := by decide +kernel
theorem dX2_middleAt_106 : decode cX2_middleAt 106 = .ok (.dload 7, 2) := by decide +kernel
theorem dX2_middleAt_108 : decode cX2_middleAt 108 = .ok (.dload_n 3, 1) := by decide +kernel
theorem dX2_middleAt_109 : decode cX2_middleAt 109 = .ok (.invokestatic 157, 3) := by decide +kernel
theorem dX2_middleAt_112 : decode cX2_middleAt 112 = .ok (.ifCond .eq 5, 3) := by decide +kernel
theorem dX2_middleAt_115 : decode cX2_middleAt 115 = .ok (.dload_n 3, 1) := by decide +kernel
theorem dX2_middleAt_116 : decode cX2_middleAt 116 = .ok (.dreturn, 1) := by decide +kernel
theorem dX2_middleAt_117 : decode cX2_middleAt 117 = .ok (.dload 5, 2) := by decide +kernel
theorem dX2_middleAt_119 : decode cX2_middleAt 119 = .ok (.dload 7, 2) := by decide +kernel
theorem dX2_middleAt_121 : decode cX2_middleAt 121 = .ok (.invokestatic 157, 3) := by decide +kernel
theorem dX2_middleAt_124 : decode cX2_middleAt 124 = .ok (.ifCond .eq 8, 3) := by decide +kernel
theorem dX2_middleAt_127 : decode cX2_middleAt 127 = .ok (.dload 5, 2) := by decide +kernel
theorem dX2_middleAt_129 : decode cX2_middleAt 129 = .ok (.goto 5, 3) := by decide +kernel
theorem dX2_middleAt_132 : decode cX2_middleAt 132 = .ok (.dload 7, 2) := by decide +kernel
theorem dX2_middleAt_134 : decode cX2_middleAt 134 = .ok (.dreturn, 1) := by decide +kernel
theorem dX2_farthestAt_0 : decode cX2_farthestAt 0 = .ok (.iload_n 2, 1) := by decide +kernel
theorem dX2_farthestAt_1 : decode cX2_farthestAt 1 = .ok (.ifCond .eq 13, 3) := by decide +kernel
theorem dX2_farthestAt_4 : decode cX2_farthestAt 4 = .ok (.aload_n 1, 1) := by decide +kernel
theorem dX2_farthestAt_5 : decode cX2_farthestAt 5 = .ok (.iload_n 2, 1) := by decide +kernel
theorem dX2_farthestAt_6 : decode cX2_farthestAt 6 = .ok (.iconst 1, 1) := by decide +kernel
theorem dX2_farthestAt_7 : decode cX2_farthestAt 7 = .ok (.isub, 1) := by decide +kernel
theorem dX2_farthestAt_8 : decode cX2_farthestAt 8 = .ok (.invokevirtual 84, 3) := by decide +kernel
theorem dX2_farthestAt_11 : decode cX2_farthestAt 11 = .ok (.ifCond .eq 13, 3) := by decide +kernel
theorem dX2_farthestAt_14 : decode cX2_farthestAt 14 = .ok (.aload_n 0, 1) := by decide +kernel
theorem dX2_farthestAt_15 : decode cX2_farthestAt 15 = .ok (.getfield 21, 3) := by decide +kernel
theorem dX2_farthestAt_18 : decode cX2_farthestAt 18 = .ok (.getfield 87, 3) := by decide +kernel
theorem dX2_farthestAt_21 : decode cX2_farthestAt 21 = .ok (.iload_n 2, 1) := by decide +kernel
theorem dX2_farthestAt_22 : decode cX2_farthestAt 22 = .ok (.daload, 1) := by decide +kernel
theorem dX2_farthestAt_23 : decode cX2_farthestAt 23 = .ok (.dreturn, 1) := by decide +kernel
theorem dX2_farthestAt_24 : decode cX2_farthestAt 24 = .ok (.aload_n 1, 1) := by decide +kernel
theorem dX2_farthestAt_25 : decode cX2_farthestAt 25 = .ok (.getfield 87, 3) := by decide +kernel
theorem dX2_farthestAt_28 : decode cX2_farthestAt 28 = .ok (.iload_n 2, 1) := by decide +kernel
theorem dX2_farthestAt_29 : decode cX2_farthestAt 29 = .ok (.iconst 1, 1) := by decide +kernel
theorem dX2_farthestAt_30 : decode cX2_farthestAt 30 = .ok (.isub, 1) := by decide +kernel
theorem dX2_farthestAt_31 : decode cX2_farthestAt 31 = .ok (.daload, 1) := by decide +kernel
theorem dX2_farthestAt_32 : decode cX2_farthestAt 32 = .ok (.dstore_n 3, 1) := by decide +kernel
theorem dX2_farthestAt_33 : decode cX2_farthestAt 33 = .ok (.aload_n 0, 1) := by decide +kernel
theorem dX2_farthestAt_34 : decode cX2_farthestAt 34 = .ok (.getfield 21, 3) := by decide +kernel
theorem dX2_farthestAt_37 : decode cX2_farthestAt 37 = .ok (.iload_n 2, 1) := by decide +kernel
theorem dX2_farthestAt_38 : decode cX2_farthestAt 38 = .ok (.invokevirtual 84, 3) := by decide +kernel
theorem dX2_farthestAt_41 : decode cX2_farthestAt 41 = .ok (.ifCond .eq 5, 3) := by decide +kernel
theorem dX2_farthestAt_44 : decode cX2_farthestAt 44 = .ok (.dload_n 3, 1) := by decide +kernel
theorem dX2_farthestAt_45 : decode cX2_farthestAt 45 = .ok (.dreturn, 1) := by decide +kernel
theorem dX2_farthestAt_46 : decode cX2_farthestAt 46 = .ok (.aload_n 0, 1) := by decide +kernel
theorem dX2_farthestAt_47 : decode cX2_farthestAt 47 = .ok (.getfield 21, 3) := by decide +kernel
theorem dX2_farthestAt_50 : decode cX2_farthestAt 50 = .ok (.getfield 87, 3) := by decide +kernel
theorem dX2_farthestAt_53 : decode cX2_farthestAt 53 = .ok (.iload_n 2, 1) := by decide +kernel
theorem dX2_farthestAt_54 : decode cX2_farthestAt 54 = .ok (.daload, 1) := by decide +kernel
theorem dX2_farthestAt_55 : decode cX2_farthestAt 55 = .ok (.dstore 5, 2) := by decide +kernel
theorem dX2_farthestAt_57 : decode cX2_farthestAt 57 = .ok (.aload_n 1, 1) := by decide +kernel
theorem dX2_farthestAt_58 : decode cX2_farthestAt 58 = .ok (.getfield 54, 3) := by decide +kernel
theorem dX2_farthestAt_61 : decode cX2_farthestAt 61 = .ok (.bipush 20, 2) := by decide +kernel
theorem dX2_farthestAt_63 : decode cX2_farthestAt 63 = .ok (.if_icmp .ne 12, 3) := by decide +kernel
theorem dX2_farthestAt_66 : decode cX2_farthestAt 66 = .ok (.dload_n 3, 1) := by decide +kernel
theorem dX2_farthestAt_67 : decode cX2_farthestAt 67 = .ok (.dload 5, 2) := by decide +kernel
theorem dX2_farthestAt_69 : decode cX2_farthestAt 69 = .ok (.invokestatic 157, 3) := by decide +kernel
theorem dX2_farthestAt_72 : decode cX2_farthestAt 72 = .ok (.goto 9, 3) := by decide +kernel
theorem dX2_farthestAt_75 : decode cX2_farthestAt 75 = .ok (.dload 5, 2) := by decide +kernel
theorem dX2_farthestAt_77 : decode cX2_farthestAt 77 = .ok (.dload_n 3, 1) := by decide +kernel
theorem dX2_farthestAt_78 : decode cX2_farthestAt 78 = .ok (.invokestatic 157, 3) := by decide +kernel
theorem dX2_farthestAt_81 : decode cX2_farthestAt 81 = .ok (.istore 7, 2) := by decide +kernel
theorem dX2_farthestAt_83 : decode cX2_farthestAt 83 = .ok (.iload 7, 2) := by decide +kernel
theorem dX2_farthestAt_85 : decode cX2_farthestAt 85 = .ok (.ifCond .eq 8, 3) := by decide +kernel
theorem dX2_farthestAt_88 : decode cX2_farthestAt 88 = .ok (.dload 5, 2) := by decide +kernel
theorem dX2_farthestAt_90 : decode cX2_farthestAt 90 = .ok (.goto 4, 3) := by decide +kernel
theorem dX2_farthestAt_93 : decode cX2_farthestAt 93 = .ok (.dload_n 3, 1) := by decide +kernel
theorem dX2_farthestAt_94 : decode cX2_farthestAt 94 = .ok (.dreturn, 1) := by decide +kernel
theorem dX2_sort_0 : decode cX2_sort 0 = .ok (.aload_n 0, 1) := by decide +kernel
theorem dX2_sort_1 : decode cX2_sort 1 = .ok (.iconst 0, 1) := by decide +kernel
theorem dX2_sort_2 : decode cX2_sort 2 = .ok (.putfield 32, 3) := by decide +kernel
theorem dX2_sort_5 : decode cX2_sort 5 = .ok (.iconst 0, 1) := by decide +kernel
theorem dX2_sort_6 : decode cX2_sort 6 = .ok (.istore_n 1, 1) := by decide +kernel
theorem dX2_sort_7 : decode cX2_sort 7 = .ok (.iload_n 1, 1) := by decide +kernel
theorem dX2_sort_8 : decode cX2_sort 8 = .ok (.bipush 16, 2) := by decide +kernel
theorem dX2_sort_10 : decode cX2_sort 10 = .ok (.if_icmp .ge 33, 3) := by decide +kernel
theorem dX2_sort_13 : decode cX2_sort 13 = .ok (.aload_n 0, 1) := by decide +kernel
theorem dX2_sort_14 : decode cX2_sort 14 = .ok (.getfield 21, 3) := by decide +kernel
theorem dX2_sort_17 : decode cX2_sort 17 = .ok (.iload_n 1, 1) := by decide +kernel
theorem dX2_sort_18 : decode cX2_sort 18 = .ok (.invokevirtual 84, 3) := by decide +kernel
theorem dX2_sort_21 : decode cX2_sort 21 = .ok (.ifCond .ne 16, 3) := by decide +kernel
theorem dX2_sort_24 : decode cX2_sort 24 = .ok (.aload_n 0, 1) := by decide +kernel
theorem dX2_sort_25 : decode cX2_sort 25 = .ok (.aload_n 0, 1) := by decide +kernel
theorem dX2_sort_26 : decode cX2_sort 26 = .ok (.getfield 21, 3) := by decide +kernel
theorem dX2_sort_29 : decode cX2_sort 29 = .ok (.getfield 87, 3) := by decide +kernel
theorem dX2_sort_32 : decode cX2_sort 32 = .ok (.iload_n 1, 1) := by decide +kernel
theorem dX2_sort_33 : decode cX2_sort 33 = .ok (.daload, 1) := by decide +kernel
theorem dX2_sort_34 : decode cX2_sort 34 = .ok (.invokevirtual 178, 3) := by decide +kernel
theorem dX2_sort_37 : decode cX2_sort 37 = .ok (.iinc 1 1, 3) := by decide +kernel
theorem dX2_sort_40 : decode cX2_sort 40 = .ok (.goto (-33), 3) := by decide +kernel
theorem dX2_sort_43 : decode cX2_sort 43 = .ok (.return_, 1) := by decide +kernel
theorem dX2_insert_0 : decode cX2_insert 0 = .ok (.aload_n 0, 1) := by decide +kernel
theorem dX2_insert_1 : decode cX2_insert 1 = .ok (.getfield 32, 3) := by decide +kernel
theorem dX2_insert_4 : decode cX2_insert 4 = .ok (.istore_n 3, 1) := by decide +kernel
theorem dX2_insert_5 : decode cX2_insert 5 = .ok (.iload_n 3, 1) := by decide +kernel
theorem dX2_insert_6 : decode cX2_insert 6 = .ok (.ifCond .le 38, 3) := by decide +kernel
theorem dX2_insert_9 : decode cX2_insert 9 = .ok (.dload_n 1, 1) := by decide +kernel
theorem dX2_insert_10 : decode cX2_insert 10 = .ok (.aload_n 0, 1) := by decide +kernel
theorem dX2_insert_11 : decode cX2_insert 11 = .ok (.getfield 28, 3) := by decide +kernel
theorem dX2_insert_14 : decode cX2_insert 14 = .ok (.iload_n 3, 1) := by decide +kernel
theorem dX2_insert_15 : decode cX2_insert 15 = .ok (.iconst 1, 1) := by decide +kernel
theorem dX2_insert_16 : decode cX2_insert 16 = .ok (.isub, 1) := by decide +kernel
theorem dX2_insert_17 : decode cX2_insert 17 = .ok (.daload, 1) := by decide +kernel
theorem dX2_insert_18 : decode cX2_insert 18 = .ok (.invokestatic 157, 3) := by decide +kernel
theorem dX2_insert_21 : decode cX2_insert 21 = .ok (.ifCond .eq 23, 3) := by decide +kernel
theorem dX2_insert_24 : decode cX2_insert 24 = .ok (.aload_n 0, 1) := by decide +kernel
theorem dX2_insert_25 : decode cX2_insert 25 = .ok (.getfield 28, 3) := by decide +kernel
theorem dX2_insert_28 : decode cX2_insert 28 = .ok (.iload_n 3, 1) := by decide +kernel
theorem dX2_insert_29 : decode cX2_insert 29 = .ok (.aload_n 0, 1) := by decide +kernel
theorem dX2_insert_30 : decode cX2_insert 30 = .ok (.getfield 28, 3) := by decide +kernel
theorem dX2_insert_33 : decode cX2_insert 33 = .ok (.iload_n 3, 1) := by decide +kernel
theorem dX2_insert_34 : decode cX2_insert 34 = .ok (.iconst 1, 1) := by decide +kernel
theorem dX2_insert_35 : decode cX2_insert 35 = .ok (.isub, 1) := by decide +kernel
theorem dX2_insert_36 : decode cX2_insert 36 = .ok (.daload, 1) := by decide +kernel
theorem dX2_insert_37 : decode cX2_insert 37 = .ok (.dastore, 1) := by decide +kernel
theorem dX2_insert_38 : decode cX2_insert 38 = .ok (.iinc 3 (-1), 3) := by decide +kernel
theorem dX2_insert_41 : decode cX2_insert 41 = .ok (.goto (-36), 3) := by decide +kernel
theorem dX2_insert_44 : decode cX2_insert 44 = .ok (.aload_n 0, 1) := by decide +kernel
theorem dX2_insert_45 : decode cX2_insert 45 = .ok (.getfield 28, 3) := by decide +kernel
theorem dX2_insert_48 : decode cX2_insert 48 = .ok (.iload_n 3, 1) := by decide +kernel
theorem dX2_insert_49 : decode cX2_insert 49 = .ok (.dload_n 1, 1) := by decide +kernel
theorem dX2_insert_50 : decode cX2_insert 50 = .ok (.dastore, 1) := by decide +kernel
theorem dX2_insert_51 : decode cX2_insert 51 = .ok (.aload_n 0, 1) := by decide +kernel
theorem dX2_insert_52 : decode cX2_insert 52 = .ok (.dup, 1) := by decide +kernel
theorem dX2_insert_53 : decode cX2_insert 53 = .ok (.getfield 32, 3) := by decide +kernel
theorem dX2_insert_56 : decode cX2_insert 56 = .ok (.iconst 1, 1) := by decide +kernel
theorem dX2_insert_57 : decode cX2_insert 57 = .ok (.iadd, 1) := by decide +kernel
theorem dX2_insert_58 : decode cX2_insert 58 = .ok (.putfield 32, 3) := by decide +kernel
theorem dX2_insert_61 : decode cX2_insert 61 = .ok (.return_, 1) := by decide +kernel
theorem dX2_lesserPlaces_0 : decode cX2_lesserPlaces 0 = .ok (.iconst 0, 1) := by decide +kernel
theorem dX2_lesserPlaces_1 : decode cX2_lesserPlaces 1 = .ok (.istore_n 3, 1) := by decide +kernel
theorem dX2_lesserPlaces_2 : decode cX2_lesserPlaces 2 = .ok (.iconst 0, 1) := by decide +kernel
theorem dX2_lesserPlaces_3 : decode cX2_lesserPlaces 3 = .ok (.istore 4, 2) := by decide +kernel
theorem dX2_lesserPlaces_5 : decode cX2_lesserPlaces 5 = .ok (.iload 4, 2) := by decide +kernel
theorem dX2_lesserPlaces_7 : decode cX2_lesserPlaces 7 = .ok (.bipush 16, 2) := by decide +kernel
theorem dX2_lesserPlaces_9 : decode cX2_lesserPlaces 9 = .ok (.if_icmp .ge 39, 3) := by decide +kernel
theorem dX2_lesserPlaces_12 : decode cX2_lesserPlaces 12 = .ok (.aload_n 0, 1) := by decide +kernel
theorem dX2_lesserPlaces_13 : decode cX2_lesserPlaces 13 = .ok (.getfield 21, 3) := by decide +kernel
theorem dX2_lesserPlaces_16 : decode cX2_lesserPlaces 16 = .ok (.iload 4, 2) := by decide +kernel
theorem dX2_lesserPlaces_18 : decode cX2_lesserPlaces 18 = .ok (.invokevirtual 84, 3) := by decide +kernel
theorem dX2_lesserPlaces_21 : decode cX2_lesserPlaces 21 = .ok (.ifCond .ne 21, 3) := by decide +kernel
theorem dX2_lesserPlaces_24 : decode cX2_lesserPlaces 24 = .ok (.aload_n 0, 1) := by decide +kernel
theorem dX2_lesserPlaces_25 : decode cX2_lesserPlaces 25 = .ok (.getfield 21, 3) := by decide +kernel
theorem dX2_lesserPlaces_28 : decode cX2_lesserPlaces 28 = .ok (.getfield 87, 3) := by decide +kernel
theorem dX2_lesserPlaces_31 : decode cX2_lesserPlaces 31 = .ok (.iload 4, 2) := by decide +kernel
theorem dX2_lesserPlaces_33 : decode cX2_lesserPlaces 33 = .ok (.daload, 1) := by decide +kernel
theorem dX2_lesserPlaces_34 : decode cX2_lesserPlaces 34 = .ok (.dload_n 1, 1) := by decide +kernel
theorem dX2_lesserPlaces_35 : decode cX2_lesserPlaces 35 = .ok (.dcmp .g, 1) := by decide +kernel
theorem dX2_lesserPlaces_36 : decode cX2_lesserPlaces 36 = .ok (.ifCond .ge 6, 3) := by decide +kernel
theorem dX2_lesserPlaces_39 : decode cX2_lesserPlaces 39 = .ok (.iinc 3 1, 3) := by decide +kernel
theorem dX2_lesserPlaces_42 : decode cX2_lesserPlaces 42 = .ok (.iinc 4 1, 3) := by decide +kernel
theorem dX2_lesserPlaces_45 : decode cX2_lesserPlaces 45 = .ok (.goto (-40), 3) := by decide +kernel
theorem dX2_lesserPlaces_48 : decode cX2_lesserPlaces 48 = .ok (.iload_n 3, 1) := by decide +kernel
theorem dX2_lesserPlaces_49 : decode cX2_lesserPlaces 49 = .ok (.ireturn, 1) := by decide +kernel
theorem dX3_init_0 : decode cX3_init 0 = .ok (.aload_n 0, 1) := by decide +kernel
theorem dX3_init_1 : decode cX3_init 1 = .ok (.invokespecial 3, 3) := by decide +kernel
theorem dX3_init_4 : decode cX3_init 4 = .ok (.aload_n 0, 1) := by decide +kernel
theorem dX3_init_5 : decode cX3_init 5 = .ok (.bipush 16, 2) := by decide +kernel
theorem dX3_init_7 : decode cX3_init 7 = .ok (.newarray .double, 2) := by decide +kernel
theorem dX3_init_9 : decode cX3_init 9 = .ok (.putfield 9, 3) := by decide +kernel
theorem dX3_init_12 : decode cX3_init 12 = .ok (.aload_n 0, 1) := by decide +kernel
theorem dX3_init_13 : decode cX3_init 13 = .ok (.ldc 15, 2) := by decide +kernel
theorem dX3_init_15 : decode cX3_init 15 = .ok (.putfield 16, 3) := by decide +kernel
theorem dX3_init_18 : decode cX3_init 18 = .ok (.aload_n 0, 1) := by decide +kernel
theorem dX3_init_19 : decode cX3_init 19 = .ok (.iconst 0, 1) := by decide +kernel
theorem dX3_init_20 : decode cX3_init 20 = .ok (.putfield 20, 3) := by decide +kernel
theorem dX3_init_23 : decode cX3_init 23 = .ok (.aload_n 0, 1) := by decide +kernel
theorem dX3_init_24 : decode cX3_init 24 = .ok (.iconst (-1), 1) := by decide +kernel
theorem dX3_init_25 : decode cX3_init 25 = .ok (.putfield 24, 3) := by decide +kernel
theorem dX3_init_28 : decode cX3_init 28 = .ok (.aload_n 0, 1) := by decide +kernel
theorem dX3_init_29 : decode cX3_init 29 = .ok (.iconst 0, 1) := by decide +kernel
theorem dX3_init_30 : decode cX3_init 30 = .ok (.putfield 27, 3) := by decide +kernel
theorem dX3_init_33 : decode cX3_init 33 = .ok (.aload_n 0, 1) := by decide +kernel
theorem dX3_init_34 : decode cX3_init 34 = .ok (.iconst 0, 1) := by decide +kernel
theorem dX3_init_35 : decode cX3_init 35 = .ok (.putfield 30, 3) := by decide +kernel
theorem dX3_init_38 : decode cX3_init 38 = .ok (.aload_n 0, 1) := by decide +kernel
theorem dX3_init_39 : decode cX3_init 39 = .ok (.iconst 0, 1) := by decide +kernel
theorem dX3_init_40 : decode cX3_init 40 = .ok (.putfield 33, 3) := by decide +kernel
theorem dX3_init_43 : decode cX3_init 43 = .ok (.return_, 1) := by decide +kernel
theorem dX3_copy_0 : decode cX3_copy 0 = .ok (.new 10, 3) := by decide +kernel
theorem dX3_copy_3 : decode cX3_copy 3 = .ok (.dup, 1) := by decide +kernel
theorem dX3_copy_4 : decode cX3_copy 4 = .ok (.invokespecial 36, 3) := by decide +kernel
theorem dX3_copy_7 : decode cX3_copy 7 = .ok (.astore_n 1, 1) := by decide +kernel
theorem dX3_copy_8 : decode cX3_copy 8 = .ok (.aload_n 0, 1) := by decide +kernel
theorem dX3_copy_9 : decode cX3_copy 9 = .ok (.getfield 9, 3) := by decide +kernel
theorem dX3_copy_12 : decode cX3_copy 12 = .ok (.iconst 0, 1) := by decide +kernel
theorem dX3_copy_13 : decode cX3_copy 13 = .ok (.aload_n 1, 1) := by decide +kernel
theorem dX3_copy_14 : decode cX3_copy 14 = .ok (.getfield 9, 3) := by decide +kernel
theorem dX3_copy_17 : decode cX3_copy 17 = .ok (.iconst 0, 1) := by decide +kernel
theorem dX3_copy_18 : decode cX3_copy 18 = .ok (.bipush 16, 2) := by decide +kernel
theorem dX3_copy_20 : decode cX3_copy 20 = .ok (.invokestatic 37, 3) := by decide +kernel
theorem dX3_copy_23 : decode cX3_copy 23 = .ok (.aload_n 1, 1) := by decide +kernel
theorem dX3_copy_24 : decode cX3_copy 24 = .ok (.aload_n 0, 1) := by decide +kernel
theorem dX3_copy_25 : decode cX3_copy 25 = .ok (.getfield 16, 3) := by decide +kernel
theorem dX3_copy_28 : decode cX3_copy 28 = .ok (.putfield 16, 3) := by decide +kernel
theorem dX3_copy_31 : decode cX3_copy 31 = .ok (.aload_n 1, 1) := by decide +kernel
theorem dX3_copy_32 : decode cX3_copy 32 = .ok (.aload_n 0, 1) := by decide +kernel
theorem dX3_copy_33 : decode cX3_copy 33 = .ok (.getfield 20, 3) := by decide +kernel
theorem dX3_copy_36 : decode cX3_copy 36 = .ok (.putfield 20, 3) := by decide +kernel
theorem dX3_copy_39 : decode cX3_copy 39 = .ok (.aload_n 1, 1) := by decide +kernel
theorem dX3_copy_40 : decode cX3_copy 40 = .ok (.aload_n 0, 1) := by decide +kernel
theorem dX3_copy_41 : decode cX3_copy 41 = .ok (.getfield 24, 3) := by decide +kernel
theorem dX3_copy_44 : decode cX3_copy 44 = .ok (.putfield 24, 3) := by decide +kernel
theorem dX3_copy_47 : decode cX3_copy 47 = .ok (.aload_n 1, 1) := by decide +kernel
theorem dX3_copy_48 : decode cX3_copy 48 = .ok (.aload_n 0, 1) := by decide +kernel
theorem dX3_copy_49 : decode cX3_copy 49 = .ok (.getfield 27, 3) := by decide +kernel
theorem dX3_copy_52 : decode cX3_copy 52 = .ok (.putfield 27, 3) := by decide +kernel
theorem dX3_copy_55 : decode cX3_copy 55 = .ok (.aload_n 1, 1) := by decide +kernel
theorem dX3_copy_56 : decode cX3_copy 56 = .ok (.aload_n 0, 1) := by decide +kernel
theorem dX3_copy_57 : decode cX3_copy 57 = .ok (.getfield 30, 3) := by decide +kernel
theorem dX3_copy_60 : decode cX3_copy 60 = .ok (.putfield 30, 3) := by decide +kernel
theorem dX3_copy_63 : decode cX3_copy 63 = .ok (.aload_n 1, 1) := by decide +kernel
theorem dX3_copy_64 : decode cX3_copy 64 = .ok (.aload_n 0, 1) := by decide +kernel
theorem dX3_copy_65 : decode cX3_copy 65 = .ok (.getfield 33, 3) := by decide +kernel
theorem dX3_copy_68 : decode cX3_copy 68 = .ok (.putfield 33, 3) := by decide +kernel
theorem dX3_copy_71 : decode cX3_copy 71 = .ok (.aload_n 1, 1) := by decide +kernel
theorem dX3_copy_72 : decode cX3_copy 72 = .ok (.areturn, 1) := by decide +kernel
theorem dX3_hasFormula_0 : decode cX3_hasFormula 0 = .ok (.aload_n 0, 1) := by decide +kernel
theorem dX3_hasFormula_1 : decode cX3_hasFormula 1 = .ok (.getfield 24, 3) := by decide +kernel
theorem dX3_hasFormula_4 : decode cX3_hasFormula 4 = .ok (.iconst (-1), 1) := by decide +kernel
theorem dX3_hasFormula_5 : decode cX3_hasFormula 5 = .ok (.if_icmp .eq 7, 3) := by decide +kernel
theorem dX3_hasFormula_8 : decode cX3_hasFormula 8 = .ok (.iconst 1, 1) := by decide +kernel
theorem dX3_hasFormula_9 : decode cX3_hasFormula 9 = .ok (.goto 4, 3) := by decide +kernel
theorem dX3_hasFormula_12 : decode cX3_hasFormula 12 = .ok (.iconst 0, 1) := by decide +kernel
theorem dX3_hasFormula_13 : decode cX3_hasFormula 13 = .ok (.ireturn, 1) := by decide +kernel
theorem dX3_isTouched_0 : decode cX3_isTouched 0 = .ok (.aload_n 0, 1) := by decide +kernel
theorem dX3_isTouched_1 : decode cX3_isTouched 1 = .ok (.getfield 30, 3) := by decide +kernel
theorem dX3_isTouched_4 : decode cX3_isTouched 4 = .ok (.bipush 16, 2) := by decide +kernel
theorem dX3_isTouched_6 : decode cX3_isTouched 6 = .ok (.if_icmp .lt 8, 3) := by decide +kernel
theorem dX3_isTouched_9 : decode cX3_isTouched 9 = .ok (.bipush 12, 2) := by decide +kernel
theorem dX3_isTouched_11 : decode cX3_isTouched 11 = .ok (.goto 7, 3) := by decide +kernel
theorem dX3_isTouched_14 : decode cX3_isTouched 14 = .ok (.aload_n 0, 1) := by decide +kernel
theorem dX3_isTouched_15 : decode cX3_isTouched 15 = .ok (.getfield 30, 3) := by decide +kernel
theorem dX3_isTouched_18 : decode cX3_isTouched 18 = .ok (.istore_n 3, 1) := by decide +kernel
theorem dX3_isTouched_19 : decode cX3_isTouched 19 = .ok (.iload_n 1, 1) := by decide +kernel
theorem dX3_isTouched_20 : decode cX3_isTouched 20 = .ok (.iconst 1, 1) := by decide +kernel
theorem dX3_isTouched_21 : decode cX3_isTouched 21 = .ok (.iload_n 2, 1) := by decide +kernel
theorem dX3_isTouched_22 : decode cX3_isTouched 22 = .ok (.ishl, 1) := by decide +kernel
theorem dX3_isTouched_23 : decode cX3_isTouched 23 = .ok (.iconst 1, 1) := by decide +kernel
theorem dX3_isTouched_24 : decode cX3_isTouched 24 = .ok (.aload_n 0, 1) := by decide +kernel
theorem dX3_isTouched_25 : decode cX3_isTouched 25 = .ok (.getfield 27, 3) := by decide +kernel
theorem dX3_isTouched_28 : decode cX3_isTouched 28 = .ok (.ishl, 1) := by decide +kernel
theorem dX3_isTouched_29 : decode cX3_isTouched 29 = .ok (.ior, 1) := by decide +kernel
theorem dX3_isTouched_30 : decode cX3_isTouched 30 = .ok (.iconst 1, 1) := by decide +kernel
theorem dX3_isTouched_31 : decode cX3_isTouched 31 = .ok (.iload_n 3, 1) := by decide +kernel
theorem dX3_isTouched_32 : decode cX3_isTouched 32 = .ok (.ishl, 1) := by decide +kernel
theorem dX3_isTouched_33 : decode cX3_isTouched 33 = .ok (.ior, 1) := by decide +kernel
theorem dX3_isTouched_34 : decode cX3_isTouched 34 = .ok (.iand, 1) := by decide +kernel
theorem dX3_isTouched_35 : decode cX3_isTouched 35 = .ok (.ifCond .eq 7, 3) := by decide +kernel
theorem dX3_isTouched_38 : decode cX3_isTouched 38 = .ok (.iconst 1, 1) := by decide +kernel
theorem dX3_isTouched_39 : decode cX3_isTouched 39 = .ok (.goto 4, 3) := by decide +kernel
theorem dX3_isTouched_42 : decode cX3_isTouched 42 = .ok (.iconst 0, 1) := by decide +kernel
theorem dX3_isTouched_43 : decode cX3_isTouched 43 = .ok (.ireturn, 1) := by decide +kernel
theorem dX3_blankAt_0 : decode cX3_blankAt 0 = .ok (.aload_n 0, 1) := by decide +kernel
theorem dX3_blankAt_1 : decode cX3_blankAt 1 = .ok (.getfield 16, 3) := by decide +kernel
theorem dX3_blankAt_4 : decode cX3_blankAt 4 = .ok (.iload_n 1, 1) := by decide +kernel
theorem dX3_blankAt_5 : decode cX3_blankAt 5 = .ok (.ishr, 1) := by decide +kernel
theorem dX3_blankAt_6 : decode cX3_blankAt 6 = .ok (.iconst 1, 1) := by decide +kernel
theorem dX3_blankAt_7 : decode cX3_blankAt 7 = .ok (.iand, 1) := by decide +kernel
theorem dX3_blankAt_8 : decode cX3_blankAt 8 = .ok (.iconst 1, 1) := by decide +kernel
theorem dX3_blankAt_9 : decode cX3_blankAt 9 = .ok (.if_icmp .ne 7, 3) := by decide +kernel
theorem dX3_blankAt_12 : decode cX3_blankAt 12 = .ok (.iconst 1, 1) := by decide +kernel
theorem dX3_blankAt_13 : decode cX3_blankAt 13 = .ok (.goto 4, 3) := by decide +kernel
theorem dX3_blankAt_16 : decode cX3_blankAt 16 = .ok (.iconst 0, 1) := by decide +kernel
theorem dX3_blankAt_17 : decode cX3_blankAt 17 = .ok (.ireturn, 1) := by decide +kernel
theorem dX3_put_0 : decode cX3_put 0 = .ok (.aload_n 0, 1) := by decide +kernel
theorem dX3_put_1 : decode cX3_put 1 = .ok (.getfield 9, 3) := by decide +kernel
theorem dX3_put_4 : decode cX3_put 4 = .ok (.iload_n 1, 1) := by decide +kernel
theorem dX3_put_5 : decode cX3_put 5 = .ok (.aload_n 0, 1) := by decide +kernel
theorem dX3_put_6 : decode cX3_put 6 = .ok (.getfield 20, 3) := by decide +kernel
theorem dX3_put_9 : decode cX3_put 9 = .ok (.ifCond .eq 9, 3) := by decide +kernel
theorem dX3_put_12 : decode cX3_put 12 = .ok (.dload_n 2, 1) := by decide +kernel
theorem dX3_put_13 : decode cX3_put 13 = .ok (.d2f, 1) := by decide +kernel
theorem dX3_put_14 : decode cX3_put 14 = .ok (.f2d, 1) := by decide +kernel
theorem dX3_put_15 : decode cX3_put 15 = .ok (.goto 4, 3) := by decide +kernel
theorem dX3_put_18 : decode cX3_put 18 = .ok (.dload_n 2, 1) := by decide +kernel
theorem dX3_put_19 : decode cX3_put 19 = .ok (.dastore, 1) := by decide +kernel
theorem dX3_put_20 : decode cX3_put 20 = .ok (.aload_n 0, 1) := by decide +kernel
theorem dX3_put_21 : decode cX3_put 21 = .ok (.dup, 1) := by decide +kernel
theorem dX3_put_22 : decode cX3_put 22 = .ok (.getfield 16, 3) := by decide +kernel
theorem dX3_put_25 : decode cX3_put 25 = .ok (.iconst 1, 1) := by decide +kernel
theorem dX3_put_26 : decode cX3_put 26 = .ok (.iload_n 1, 1) := by decide +kernel
theorem dX3_put_27 : decode cX3_put 27 = .ok (.ishl, 1) := by decide +kernel
theorem dX3_put_28 : decode cX3_put 28 = .ok (.iconst (-1), 1) := by decide +kernel
theorem dX3_put_29 : decode cX3_put 29 = .ok (.ixor, 1) := by decide +kernel
theorem dX3_put_30 : decode cX3_put 30 = .ok (.iand, 1) := by decide +kernel
theorem dX3_put_31 : decode cX3_put 31 = .ok (.putfield 16, 3) := by decide +kernel
theorem dX3_put_34 : decode cX3_put 34 = .ok (.return_, 1) := by decide +kernel
theorem dX3_clear_0 : decode cX3_clear 0 = .ok (.aload_n 0, 1) := by decide +kernel
theorem dX3_clear_1 : decode cX3_clear 1 = .ok (.getfield 9, 3) := by decide +kernel
theorem dX3_clear_4 : decode cX3_clear 4 = .ok (.iload_n 1, 1) := by decide +kernel
theorem dX3_clear_5 : decode cX3_clear 5 = .ok (.dconst 0, 1) := by decide +kernel
theorem dX3_clear_6 : decode cX3_clear 6 = .ok (.dastore, 1) := by decide +kernel
theorem dX3_clear_7 : decode cX3_clear 7 = .ok (.aload_n 0, 1) := by decide +kernel
theorem dX3_clear_8 : decode cX3_clear 8 = .ok (.dup, 1) := by decide +kernel
theorem dX3_clear_9 : decode cX3_clear 9 = .ok (.getfield 16, 3) := by decide +kernel
theorem dX3_clear_12 : decode cX3_clear 12 = .ok (.iconst 1, 1) := by decide +kernel
theorem dX3_clear_13 : decode cX3_clear 13 = .ok (.iload_n 1, 1) := by decide +kernel
theorem dX3_clear_14 : decode cX3_clear 14 = .ok (.ishl, 1) := by decide +kernel
theorem dX3_clear_15 : decode cX3_clear 15 = .ok (.ior, 1) := by decide +kernel
theorem dX3_clear_16 : decode cX3_clear 16 = .ok (.putfield 16, 3) := by decide +kernel
theorem dX3_clear_19 : decode cX3_clear 19 = .ok (.return_, 1) := by decide +kernel
theorem dX3_bringTo_0 : decode cX3_bringTo 0 = .ok (.aload_n 0, 1) := by decide +kernel
theorem dX3_bringTo_1 : decode cX3_bringTo 1 = .ok (.iload_n 1, 1) := by decide +kernel
theorem dX3_bringTo_2 : decode cX3_bringTo 2 = .ok (.putfield 20, 3) := by decide +kernel
theorem dX3_bringTo_5 : decode cX3_bringTo 5 = .ok (.iconst 0, 1) := by decide +kernel
theorem dX3_bringTo_6 : decode cX3_bringTo 6 = .ok (.istore_n 2, 1) := by decide +kernel
theorem dX3_bringTo_7 : decode cX3_bringTo 7 = .ok (.iload_n 2, 1) := by decide +kernel
theorem dX3_bringTo_8 : decode cX3_bringTo 8 = .ok (.bipush 16, 2) := by decide +kernel
theorem dX3_bringTo_10 : decode cX3_bringTo 10 = .ok (.if_icmp .ge 28, 3) := by decide +kernel
theorem dX3_bringTo_13 : decode cX3_bringTo 13 = .ok (.aload_n 0, 1) := by decide +kernel
theorem dX3_bringTo_14 : decode cX3_bringTo 14 = .ok (.iload_n 2, 1) := by decide +kernel
theorem dX3_bringTo_15 : decode cX3_bringTo 15 = .ok (.invokevirtual 43, 3) := by decide +kernel
theorem dX3_bringTo_18 : decode cX3_bringTo 18 = .ok (.ifCond .ne 14, 3) := by decide +kernel
theorem dX3_bringTo_21 : decode cX3_bringTo 21 = .ok (.aload_n 0, 1) := by decide +kernel
theorem dX3_bringTo_22 : decode cX3_bringTo 22 = .ok (.iload_n 2, 1) := by decide +kernel
theorem dX3_bringTo_23 : decode cX3_bringTo 23 = .ok (.aload_n 0, 1) := by decide +kernel
theorem dX3_bringTo_24 : decode cX3_bringTo 24 = .ok (.getfield 9, 3) := by decide +kernel
theorem dX3_bringTo_27 : decode cX3_bringTo 27 = .ok (.iload_n 2, 1) := by decide +kernel
theorem dX3_bringTo_28 : decode cX3_bringTo 28 = .ok (.daload, 1) := by decide +kernel
theorem dX3_bringTo_29 : decode cX3_bringTo 29 = .ok (.invokevirtual 47, 3) := by decide +kernel
theorem dX3_bringTo_32 : decode cX3_bringTo 32 = .ok (.iinc 2 1, 3) := by decide +kernel
theorem dX3_bringTo_35 : decode cX3_bringTo 35 = .ok (.goto (-28), 3) := by decide +kernel
theorem dX3_bringTo_38 : decode cX3_bringTo 38 = .ok (.return_, 1) := by decide +kernel
theorem dX3_takeAll_0 : decode cX3_takeAll 0 = .ok (.iconst 0, 1) := by decide +kernel
theorem dX3_takeAll_1 : decode cX3_takeAll 1 = .ok (.istore_n 2, 1) := by decide +kernel
theorem dX3_takeAll_2 : decode cX3_takeAll 2 = .ok (.iload_n 2, 1) := by decide +kernel
theorem dX3_takeAll_3 : decode cX3_takeAll 3 = .ok (.bipush 16, 2) := by decide +kernel
theorem dX3_takeAll_5 : decode cX3_takeAll 5 = .ok (.if_icmp .ge 16, 3) := by decide +kernel
theorem dX3_takeAll_8 : decode cX3_takeAll 8 = .ok (.aload_n 0, 1) := by decide +kernel
theorem dX3_takeAll_9 : decode cX3_takeAll 9 = .ok (.iload_n 2, 1) := by decide +kernel
theorem dX3_takeAll_10 : decode cX3_takeAll 10 = .ok (.aload_n 1, 1) := by decide +kernel
theorem dX3_takeAll_11 : decode cX3_takeAll 11 = .ok (.iload_n 2, 1) := by decide +kernel
theorem dX3_takeAll_12 : decode cX3_takeAll 12 = .ok (.invokevirtual 51, 3) := by decide +kernel
theorem dX3_takeAll_15 : decode cX3_takeAll 15 = .ok (.iinc 2 1, 3) := by decide +kernel
theorem dX3_takeAll_18 : decode cX3_takeAll 18 = .ok (.goto (-16), 3) := by decide +kernel
theorem dX3_takeAll_21 : decode cX3_takeAll 21 = .ok (.return_, 1) := by decide +kernel
theorem dX3_takeOne_0 : decode cX3_takeOne 0 = .ok (.aload_n 2, 1) := by decide +kernel
theorem dX3_takeOne_1 : decode cX3_takeOne 1 = .ok (.iload_n 3, 1) := by decide +kernel
theorem dX3_takeOne_2 : decode cX3_takeOne 2 = .ok (.invokevirtual 43, 3) := by decide +kernel
theorem dX3_takeOne_5 : decode cX3_takeOne 5 = .ok (.ifCond .eq 11, 3) := by decide +kernel
theorem dX3_takeOne_8 : decode cX3_takeOne 8 = .ok (.aload_n 0, 1) := by decide +kernel
theorem dX3_takeOne_9 : decode cX3_takeOne 9 = .ok (.iload_n 1, 1) := by decide +kernel
theorem dX3_takeOne_10 : decode cX3_takeOne 10 = .ok (.invokevirtual 55, 3) := by decide +kernel
theorem dX3_takeOne_13 : decode cX3_takeOne 13 = .ok (.goto 14, 3) := by decide +kernel
theorem dX3_takeOne_16 : decode cX3_takeOne 16 = .ok (.aload_n 0, 1) := by decide +kernel
theorem dX3_takeOne_17 : decode cX3_takeOne 17 = .ok (.iload_n 1, 1) := by decide +kernel
theorem dX3_takeOne_18 : decode cX3_takeOne 18 = .ok (.aload_n 2, 1) := by decide +kernel
theorem dX3_takeOne_19 : decode cX3_takeOne 19 = .ok (.getfield 9, 3) := by decide +kernel
theorem dX3_takeOne_22 : decode cX3_takeOne 22 = .ok (.iload_n 3, 1) := by decide +kernel
theorem dX3_takeOne_23 : decode cX3_takeOne 23 = .ok (.daload, 1) := by decide +kernel
theorem dX3_takeOne_24 : decode cX3_takeOne 24 = .ok (.invokevirtual 47, 3) := by decide +kernel
theorem dX3_takeOne_27 : decode cX3_takeOne 27 = .ok (.return_, 1) := by decide +kernel
theorem dX4_init_0 : decode cX4_init 0 = .ok (.aload_n 0, 1) := by decide +kernel
theorem dX4_init_1 : decode cX4_init 1 = .ok (.invokespecial 1, 3) := by decide +kernel
theorem dX4_init_4 : decode cX4_init 4 = .ok (.aload_n 0, 1) := by decide +kernel
theorem dX4_init_5 : decode cX4_init 5 = .ok (.bipush 10, 2) := by decide +kernel
theorem dX4_init_7 : decode cX4_init 7 = .ok (.newarray .double, 2) := by decide +kernel
theorem dX4_init_9 : decode cX4_init 9 = .ok (.putfield 9, 3) := by decide +kernel
theorem dX4_init_12 : decode cX4_init 12 = .ok (.aload_n 0, 1) := by decide +kernel
theorem dX4_init_13 : decode cX4_init 13 = .ok (.bipush 10, 2) := by decide +kernel
theorem dX4_init_15 : decode cX4_init 15 = .ok (.newarray .double, 2) := by decide +kernel
theorem dX4_init_17 : decode cX4_init 17 = .ok (.putfield 13, 3) := by decide +kernel
theorem dX4_init_20 : decode cX4_init 20 = .ok (.aload_n 0, 1) := by decide +kernel
theorem dX4_init_21 : decode cX4_init 21 = .ok (.getfield 9, 3) := by decide +kernel
theorem dX4_init_24 : decode cX4_init 24 = .ok (.iconst 0, 1) := by decide +kernel
theorem dX4_init_25 : decode cX4_init 25 = .ok (.ldc2_w 16, 3) := by decide +kernel
theorem dX4_init_28 : decode cX4_init 28 = .ok (.dastore, 1) := by decide +kernel
theorem dX4_init_29 : decode cX4_init 29 = .ok (.aload_n 0, 1) := by decide +kernel
theorem dX4_init_30 : decode cX4_init 30 = .ok (.getfield 13, 3) := by decide +kernel
theorem dX4_init_33 : decode cX4_init 33 = .ok (.iconst 0, 1) := by decide +kernel
theorem dX4_init_34 : decode cX4_init 34 = .ok (.ldc2_w 18, 3) := by decide +kernel
theorem dX4_init_37 : decode cX4_init 37 = .ok (.dastore, 1) := by decide +kernel
theorem dX4_init_38 : decode cX4_init 38 = .ok (.iconst 1, 1) := by decide +kernel
theorem dX4_init_39 : decode cX4_init 39 = .ok (.istore_n 1, 1) := by decide +kernel
theorem dX4_init_40 : decode cX4_init 40 = .ok (.iload_n 1, 1) := by decide +kernel
theorem dX4_init_41 : decode cX4_init 41 = .ok (.bipush 10, 2) := by decide +kernel
theorem dX4_init_43 : decode cX4_init 43 = .ok (.if_icmp .ge 55, 3) := by decide +kernel
theorem dX4_init_46 : decode cX4_init 46 = .ok (.aload_n 0, 1) := by decide +kernel
theorem dX4_init_47 : decode cX4_init 47 = .ok (.getfield 9, 3) := by decide +kernel
theorem dX4_init_50 : decode cX4_init 50 = .ok (.iload_n 1, 1) := by decide +kernel
theorem dX4_init_51 : decode cX4_init 51 = .ok (.aload_n 0, 1) := by decide +kernel
theorem dX4_init_52 : decode cX4_init 52 = .ok (.getfield 9, 3) := by decide +kernel
theorem dX4_init_55 : decode cX4_init 55 = .ok (.iload_n 1, 1) := by decide +kernel
theorem dX4_init_56 : decode cX4_init 56 = .ok (.iconst 1, 1) := by decide +kernel
theorem dX4_init_57 : decode cX4_init 57 = .ok (.isub, 1) := by decide +kernel
theorem dX4_init_58 : decode cX4_init 58 = .ok (.daload, 1) := by decide +kernel
theorem dX4_init_59 : decode cX4_init 59 = .ok (.aload_n 0, 1) := by decide +kernel
theorem dX4_init_60 : decode cX4_init 60 = .ok (.getfield 9, 3) := by decide +kernel
theorem dX4_init_63 : decode cX4_init 63 = .ok (.iload_n 1, 1) := by decide +kernel
theorem dX4_init_64 : decode cX4_init 64 = .ok (.iconst 1, 1) := by decide +kernel
theorem dX4_init_65 : decode cX4_init 65 = .ok (.isub, 1) := by decide +kernel
theorem dX4_init_66 : decode cX4_init 66 = .ok (.daload, 1) := by decide +kernel
theorem dX4_init_67 : decode cX4_init 67 = .ok (.dmul, 1) := by decide +kernel
theorem dX4_init_68 : decode cX4_init 68 = .ok (.dastore, 1) := by decide +kernel
theorem dX4_init_69 : decode cX4_init 69 = .ok (.aload_n 0, 1) := by decide +kernel
theorem dX4_init_70 : decode cX4_init 70 = .ok (.getfield 13, 3) := by decide +kernel
theorem dX4_init_73 : decode cX4_init 73 = .ok (.iload_n 1, 1) := by decide +kernel
theorem dX4_init_74 : decode cX4_init 74 = .ok (.aload_n 0, 1) := by decide +kernel
theorem dX4_init_75 : decode cX4_init 75 = .ok (.getfield 13, 3) := by decide +kernel
theorem dX4_init_78 : decode cX4_init 78 = .ok (.iload_n 1, 1) := by decide +kernel
theorem dX4_init_79 : decode cX4_init 79 = .ok (.iconst 1, 1) := by decide +kernel
theorem dX4_init_80 : decode cX4_init 80 = .ok (.isub, 1) := by decide +kernel
theorem dX4_init_81 : decode cX4_init 81 = .ok (.daload, 1) := by decide +kernel
theorem dX4_init_82 : decode cX4_init 82 = .ok (.aload_n 0, 1) := by decide +kernel
theorem dX4_init_83 : decode cX4_init 83 = .ok (.getfield 13, 3) := by decide +kernel
theorem dX4_init_86 : decode cX4_init 86 = .ok (.iload_n 1, 1) := by decide +kernel
theorem dX4_init_87 : decode cX4_init 87 = .ok (.iconst 1, 1) := by decide +kernel
theorem dX4_init_88 : decode cX4_init 88 = .ok (.isub, 1) := by decide +kernel
theorem dX4_init_89 : decode cX4_init 89 = .ok (.daload, 1) := by decide +kernel
theorem dX4_init_90 : decode cX4_init 90 = .ok (.dmul, 1) := by decide +kernel
theorem dX4_init_91 : decode cX4_init 91 = .ok (.dastore, 1) := by decide +kernel
theorem dX4_init_92 : decode cX4_init 92 = .ok (.iinc 1 1, 3) := by decide +kernel
theorem dX4_init_95 : decode cX4_init 95 = .ok (.goto (-55), 3) := by decide +kernel
theorem dX4_init_98 : decode cX4_init 98 = .ok (.return_, 1) := by decide +kernel
theorem dX4_times_0 : decode cX4_times 0 = .ok (.iload_n 3, 1) := by decide +kernel
theorem dX4_times_1 : decode cX4_times 1 = .ok (.ifCond .ge 10, 3) := by decide +kernel
theorem dX4_times_4 : decode cX4_times 4 = .ok (.aload_n 0, 1) := by decide +kernel
theorem dX4_times_5 : decode cX4_times 5 = .ok (.getfield 13, 3) := by decide +kernel
theorem dX4_times_8 : decode cX4_times 8 = .ok (.goto 7, 3) := by decide +kernel
theorem dX4_times_11 : decode cX4_times 11 = .ok (.aload_n 0, 1) := by decide +kernel
theorem dX4_times_12 : decode cX4_times 12 = .ok (.getfield 9, 3) := by decide +kernel
theorem dX4_times_15 : decode cX4_times 15 = .ok (.astore 4, 2) := by decide +kernel
theorem dX4_times_17 : decode cX4_times 17 = .ok (.iload_n 3, 1) := by decide +kernel
theorem dX4_times_18 : decode cX4_times 18 = .ok (.ifCond .ge 8, 3) := by decide +kernel
theorem dX4_times_21 : decode cX4_times 21 = .ok (.iload_n 3, 1) := by decide +kernel
theorem dX4_times_22 : decode cX4_times 22 = .ok (.ineg, 1) := by decide +kernel
theorem dX4_times_23 : decode cX4_times 23 = .ok (.goto 4, 3) := by decide +kernel
theorem dX4_times_26 : decode cX4_times 26 = .ok (.iload_n 3, 1) := by decide +kernel
theorem dX4_times_27 : decode cX4_times 27 = .ok (.istore 5, 2) := by decide +kernel
theorem dX4_times_29 : decode cX4_times 29 = .ok (.dload_n 1, 1) := by decide +kernel
theorem dX4_times_30 : decode cX4_times 30 = .ok (.dstore 6, 2) := by decide +kernel
theorem dX4_times_32 : decode cX4_times 32 = .ok (.bipush 9, 2) := by decide +kernel
theorem dX4_times_34 : decode cX4_times 34 = .ok (.istore 8, 2) := by decide +kernel
theorem dX4_times_36 : decode cX4_times 36 = .ok (.iload 8, 2) := by decide +kernel
theorem dX4_times_38 : decode cX4_times 38 = .ok (.ifCond .lt 40, 3) := by decide +kernel
theorem dX4_times_41 : decode cX4_times 41 = .ok (.iload 5, 2) := by decide +kernel
theorem dX4_times_43 : decode cX4_times 43 = .ok (.iconst 1, 1) := by decide +kernel
theorem dX4_times_44 : decode cX4_times 44 = .ok (.iload 8, 2) := by decide +kernel
theorem dX4_times_46 : decode cX4_times 46 = .ok (.ishl, 1) := by decide +kernel
theorem dX4_times_47 : decode cX4_times 47 = .ok (.if_icmp .lt 25, 3) := by decide +kernel
theorem dX4_times_50 : decode cX4_times 50 = .ok (.dload 6, 2) := by decide +kernel
theorem dX4_times_52 : decode cX4_times 52 = .ok (.aload 4, 2) := by decide +kernel
theorem dX4_times_54 : decode cX4_times 54 = .ok (.iload 8, 2) := by decide +kernel
theorem dX4_times_56 : decode cX4_times 56 = .ok (.daload, 1) := by decide +kernel
theorem dX4_times_57 : decode cX4_times 57 = .ok (.dmul, 1) := by decide +kernel
theorem dX4_times_58 : decode cX4_times 58 = .ok (.dstore 6, 2) := by decide +kernel
theorem dX4_times_60 : decode cX4_times 60 = .ok (.iload 5, 2) := by decide +kernel
theorem dX4_times_62 : decode cX4_times 62 = .ok (.iconst 1, 1) := by decide +kernel
theorem dX4_times_63 : decode cX4_times 63 = .ok (.iload 8, 2) := by decide +kernel
theorem dX4_times_65 : decode cX4_times 65 = .ok (.ishl, 1) := by decide +kernel
theorem dX4_times_66 : decode cX4_times 66 = .ok (.isub, 1) := by decide +kernel
theorem dX4_times_67 : decode cX4_times 67 = .ok (.istore 5, 2) := by decide +kernel
theorem dX4_times_69 : decode cX4_times 69 = .ok (.goto (-28), 3) := by decide +kernel
theorem dX4_times_72 : decode cX4_times 72 = .ok (.iinc 8 (-1), 3) := by decide +kernel
theorem dX4_times_75 : decode cX4_times 75 = .ok (.goto (-39), 3) := by decide +kernel
theorem dX4_times_78 : decode cX4_times 78 = .ok (.dload 6, 2) := by decide +kernel
theorem dX4_times_80 : decode cX4_times 80 = .ok (.dreturn, 1) := by decide +kernel
theorem dX4_unit_0 : decode cX4_unit 0 = .ok (.iload_n 3, 1) := by decide +kernel
theorem dX4_unit_1 : decode cX4_unit 1 = .ok (.ifCond .eq 8, 3) := by decide +kernel
theorem dX4_unit_4 : decode cX4_unit 4 = .ok (.bipush 23, 2) := by decide +kernel
theorem dX4_unit_6 : decode cX4_unit 6 = .ok (.goto 5, 3) := by decide +kernel
theorem dX4_unit_9 : decode cX4_unit 9 = .ok (.bipush 52, 2) := by decide +kernel
theorem dX4_unit_11 : decode cX4_unit 11 = .ok (.istore 4, 2) := by decide +kernel
theorem dX4_unit_13 : decode cX4_unit 13 = .ok (.iload_n 3, 1) := by decide +kernel
theorem dX4_unit_14 : decode cX4_unit 14 = .ok (.ifCond .eq 9, 3) := by decide +kernel
theorem dX4_unit_17 : decode cX4_unit 17 = .ok (.sipush (-149), 3) := by decide +kernel
theorem dX4_unit_20 : decode cX4_unit 20 = .ok (.goto 6, 3) := by decide +kernel
theorem dX4_unit_23 : decode cX4_unit 23 = .ok (.sipush (-1074), 3) := by decide +kernel
theorem dX4_unit_26 : decode cX4_unit 26 = .ok (.istore 5, 2) := by decide +kernel
theorem dX4_unit_28 : decode cX4_unit 28 = .ok (.dload_n 1, 1) := by decide +kernel
theorem dX4_unit_29 : decode cX4_unit 29 = .ok (.dstore 6, 2) := by decide +kernel
theorem dX4_unit_31 : decode cX4_unit 31 = .ok (.iconst 0, 1) := by decide +kernel
theorem dX4_unit_32 : decode cX4_unit 32 = .ok (.istore 8, 2) := by decide +kernel
theorem dX4_unit_34 : decode cX4_unit 34 = .ok (.dload 6, 2) := by decide +kernel
theorem dX4_unit_36 : decode cX4_unit 36 = .ok (.aload_n 0, 1) := by decide +kernel
theorem dX4_unit_37 : decode cX4_unit 37 = .ok (.getfield 13, 3) := by decide +kernel
theorem dX4_unit_40 : decode cX4_unit 40 = .ok (.bipush 9, 2) := by decide +kernel
theorem dX4_unit_42 : decode cX4_unit 42 = .ok (.daload, 1) := by decide +kernel
theorem dX4_unit_43 : decode cX4_unit 43 = .ok (.dcmp .g, 1) := by decide +kernel
theorem dX4_unit_44 : decode cX4_unit 44 = .ok (.ifCond .ge 20, 3) := by decide +kernel
theorem dX4_unit_47 : decode cX4_unit 47 = .ok (.dload 6, 2) := by decide +kernel
theorem dX4_unit_49 : decode cX4_unit 49 = .ok (.aload_n 0, 1) := by decide +kernel
theorem dX4_unit_50 : decode cX4_unit 50 = .ok (.getfield 9, 3) := by decide +kernel
theorem dX4_unit_53 : decode cX4_unit 53 = .ok (.bipush 9, 2) := by decide +kernel
theorem dX4_unit_55 : decode cX4_unit 55 = .ok (.daload, 1) := by decide +kernel
theorem dX4_unit_56 : decode cX4_unit 56 = .ok (.dmul, 1) := by decide +kernel
theorem dX4_unit_57 : decode cX4_unit 57 = .ok (.dstore 6, 2) := by decide +kernel
theorem dX4_unit_59 : decode cX4_unit 59 = .ok (.sipush (-512), 3) := by decide +kernel
theorem dX4_unit_62 : decode cX4_unit 62 = .ok (.istore 8, 2) := by decide +kernel
theorem dX4_unit_64 : decode cX4_unit 64 = .ok (.bipush 9, 2) := by decide +kernel
theorem dX4_unit_66 : decode cX4_unit 66 = .ok (.istore 9, 2) := by decide +kernel
theorem dX4_unit_68 : decode cX4_unit 68 = .ok (.iload 9, 2) := by decide +kernel
theorem dX4_unit_70 : decode cX4_unit 70 = .ok (.ifCond .lt 84, 3) := by decide +kernel
theorem dX4_unit_73 : decode cX4_unit 73 = .ok (.dload 6, 2) := by decide +kernel
theorem dX4_unit_75 : decode cX4_unit 75 = .ok (.aload_n 0, 1) := by decide +kernel
theorem dX4_unit_76 : decode cX4_unit 76 = .ok (.getfield 9, 3) := by decide +kernel
theorem dX4_unit_79 : decode cX4_unit 79 = .ok (.iload 9, 2) := by decide +kernel
theorem dX4_unit_81 : decode cX4_unit 81 = .ok (.daload, 1) := by decide +kernel
theorem dX4_unit_82 : decode cX4_unit 82 = .ok (.dcmp .l, 1) := by decide +kernel
theorem dX4_unit_83 : decode cX4_unit 83 = .ok (.ifCond .lt 27, 3) := by decide +kernel
theorem dX4_unit_86 : decode cX4_unit 86 = .ok (.dload 6, 2) := by decide +kernel
theorem dX4_unit_88 : decode cX4_unit 88 = .ok (.aload_n 0, 1) := by decide +kernel
theorem dX4_unit_89 : decode cX4_unit 89 = .ok (.getfield 13, 3) := by decide +kernel
theorem dX4_unit_92 : decode cX4_unit 92 = .ok (.iload 9, 2) := by decide +kernel
theorem dX4_unit_94 : decode cX4_unit 94 = .ok (.daload, 1) := by decide +kernel
theorem dX4_unit_95 : decode cX4_unit 95 = .ok (.dmul, 1) := by decide +kernel
theorem dX4_unit_96 : decode cX4_unit 96 = .ok (.dstore 6, 2) := by decide +kernel
theorem dX4_unit_98 : decode cX4_unit 98 = .ok (.iload 8, 2) := by decide +kernel
theorem dX4_unit_100 : decode cX4_unit 100 = .ok (.iconst 1, 1) := by decide +kernel
theorem dX4_unit_101 : decode cX4_unit 101 = .ok (.iload 9, 2) := by decide +kernel
theorem dX4_unit_103 : decode cX4_unit 103 = .ok (.ishl, 1) := by decide +kernel
theorem dX4_unit_104 : decode cX4_unit 104 = .ok (.iadd, 1) := by decide +kernel
theorem dX4_unit_105 : decode cX4_unit 105 = .ok (.istore 8, 2) := by decide +kernel
theorem dX4_unit_107 : decode cX4_unit 107 = .ok (.goto 41, 3) := by decide +kernel
theorem dX4_unit_110 : decode cX4_unit 110 = .ok (.dload 6, 2) := by decide +kernel
theorem dX4_unit_112 : decode cX4_unit 112 = .ok (.aload_n 0, 1) := by decide +kernel
theorem dX4_unit_113 : decode cX4_unit 113 = .ok (.getfield 9, 3) := by decide +kernel
theorem dX4_unit_116 : decode cX4_unit 116 = .ok (.iload 9, 2) := by decide +kernel
theorem dX4_unit_118 : decode cX4_unit 118 = .ok (.daload, 1) := by decide +kernel
theorem dX4_unit_119 : decode cX4_unit 119 = .ok (.dmul, 1) := by decide +kernel
theorem dX4_unit_120 : decode cX4_unit 120 = .ok (.ldc2_w 16, 3) := by decide +kernel
theorem dX4_unit_123 : decode cX4_unit 123 = .ok (.dcmp .g, 1) := by decide +kernel
theorem dX4_unit_124 : decode cX4_unit 124 = .ok (.ifCond .ge 24, 3) := by decide +kernel
theorem dX4_unit_127 : decode cX4_unit 127 = .ok (.dload 6, 2) := by decide +kernel
theorem dX4_unit_129 : decode cX4_unit 129 = .ok (.aload_n 0, 1) := by decide +kernel
theorem dX4_unit_130 : decode cX4_unit 130 = .ok (.getfield 9, 3) := by decide +kernel
theorem dX4_unit_133 : decode cX4_unit 133 = .ok (.iload 9, 2) := by decide +kernel
theorem dX4_unit_135 : decode cX4_unit 135 = .ok (.daload, 1) := by decide +kernel
theorem dX4_unit_136 : decode cX4_unit 136 = .ok (.dmul, 1) := by decide +kernel
theorem dX4_unit_137 : decode cX4_unit 137 = .ok (.dstore 6, 2) := by decide +kernel
theorem dX4_unit_139 : decode cX4_unit 139 = .ok (.iload 8, 2) := by decide +kernel
theorem dX4_unit_141 : decode cX4_unit 141 = .ok (.iconst 1, 1) := by decide +kernel
theorem dX4_unit_142 : decode cX4_unit 142 = .ok (.iload 9, 2) := by decide +kernel
theorem dX4_unit_144 : decode cX4_unit 144 = .ok (.ishl, 1) := by decide +kernel
theorem dX4_unit_145 : decode cX4_unit 145 = .ok (.isub, 1) := by decide +kernel
theorem dX4_unit_146 : decode cX4_unit 146 = .ok (.istore 8, 2) := by decide +kernel
theorem dX4_unit_148 : decode cX4_unit 148 = .ok (.iinc 9 (-1), 3) := by decide +kernel
theorem dX4_unit_151 : decode cX4_unit 151 = .ok (.goto (-83), 3) := by decide +kernel
theorem dX4_unit_154 : decode cX4_unit 154 = .ok (.iload 8, 2) := by decide +kernel
theorem dX4_unit_156 : decode cX4_unit 156 = .ok (.iload 4, 2) := by decide +kernel
theorem dX4_unit_158 : decode cX4_unit 158 = .ok (.isub, 1) := by decide +kernel
theorem dX4_unit_159 : decode cX4_unit 159 = .ok (.iload 5, 2) := by decide +kernel
theorem dX4_unit_161 : decode cX4_unit 161 = .ok (.if_icmp .ge 8, 3) := by decide +kernel
theorem dX4_unit_164 : decode cX4_unit 164 = .ok (.iload 5, 2) := by decide +kernel
theorem dX4_unit_166 : decode cX4_unit 166 = .ok (.goto 8, 3) := by decide +kernel
theorem dX4_unit_169 : decode cX4_unit 169 = .ok (.iload 8, 2) := by decide +kernel
theorem dX4_unit_171 : decode cX4_unit 171 = .ok (.iload 4, 2) := by decide +kernel
theorem dX4_unit_173 : decode cX4_unit 173 = .ok (.isub, 1) := by decide +kernel
theorem dX4_unit_174 : decode cX4_unit 174 = .ok (.ireturn, 1) := by decide +kernel
theorem dX4_bitsOf_0 : decode cX4_bitsOf 0 = .ok (.iload_n 3, 1) := by decide +kernel
theorem dX4_bitsOf_1 : decode cX4_bitsOf 1 = .ok (.ifCond .eq 8, 3) := by decide +kernel
theorem dX4_bitsOf_4 : decode cX4_bitsOf 4 = .ok (.bipush 23, 2) := by decide +kernel
theorem dX4_bitsOf_6 : decode cX4_bitsOf 6 = .ok (.goto 5, 3) := by decide +kernel
theorem dX4_bitsOf_9 : decode cX4_bitsOf 9 = .ok (.bipush 52, 2) := by decide +kernel
theorem dX4_bitsOf_11 : decode cX4_bitsOf 11 = .ok (.istore 4, 2) := by decide +kernel
theorem dX4_bitsOf_13 : decode cX4_bitsOf 13 = .ok (.iload_n 3, 1) := by decide +kernel
theorem dX4_bitsOf_14 : decode cX4_bitsOf 14 = .ok (.ifCond .eq 9, 3) := by decide +kernel
theorem dX4_bitsOf_17 : decode cX4_bitsOf 17 = .ok (.sipush (-149), 3) := by decide +kernel
theorem dX4_bitsOf_20 : decode cX4_bitsOf 20 = .ok (.goto 6, 3) := by decide +kernel
theorem dX4_bitsOf_23 : decode cX4_bitsOf 23 = .ok (.sipush (-1074), 3) := by decide +kernel
theorem dX4_bitsOf_26 : decode cX4_bitsOf 26 = .ok (.istore 5, 2) := by decide +kernel
theorem dX4_bitsOf_28 : decode cX4_bitsOf 28 = .ok (.dload_n 1, 1) := by decide +kernel
theorem dX4_bitsOf_29 : decode cX4_bitsOf 29 = .ok (.invokestatic 20, 3) := by decide +kernel
theorem dX4_bitsOf_32 : decode cX4_bitsOf 32 = .ok (.istore 6, 2) := by decide +kernel
theorem dX4_bitsOf_34 : decode cX4_bitsOf 34 = .ok (.iload 6, 2) := by decide +kernel
theorem dX4_bitsOf_36 : decode cX4_bitsOf 36 = .ok (.ifCond .eq 8, 3) := by decide +kernel
theorem dX4_bitsOf_39 : decode cX4_bitsOf 39 = .ok (.dload_n 1, 1) := by decide +kernel
theorem dX4_bitsOf_40 : decode cX4_bitsOf 40 = .ok (.dneg, 1) := by decide +kernel
theorem dX4_bitsOf_41 : decode cX4_bitsOf 41 = .ok (.goto 4, 3) := by decide +kernel
theorem dX4_bitsOf_44 : decode cX4_bitsOf 44 = .ok (.dload_n 1, 1) := by decide +kernel
theorem dX4_bitsOf_45 : decode cX4_bitsOf 45 = .ok (.dstore 7, 2) := by decide +kernel
theorem dX4_bitsOf_47 : decode cX4_bitsOf 47 = .ok (.iload 6, 2) := by decide +kernel
theorem dX4_bitsOf_49 : decode cX4_bitsOf 49 = .ok (.ifCond .eq 21, 3) := by decide +kernel
theorem dX4_bitsOf_52 : decode cX4_bitsOf 52 = .ok (.ldc2_w 26, 3) := by decide +kernel
theorem dX4_bitsOf_55 : decode cX4_bitsOf 55 = .ok (.iload_n 3, 1) := by decide +kernel
theorem dX4_bitsOf_56 : decode cX4_bitsOf 56 = .ok (.ifCond .eq 8, 3) := by decide +kernel
theorem dX4_bitsOf_59 : decode cX4_bitsOf 59 = .ok (.bipush 31, 2) := by decide +kernel
theorem dX4_bitsOf_61 : decode cX4_bitsOf 61 = .ok (.goto 5, 3) := by decide +kernel
theorem dX4_bitsOf_64 : decode cX4_bitsOf 64 = .ok (.bipush 63, 2) := by decide +kernel
theorem dX4_bitsOf_66 : decode cX4_bitsOf 66 = .ok (.lshl, 1) := by decide +kernel
theorem dX4_bitsOf_67 : decode cX4_bitsOf 67 = .ok (.goto 4, 3) := by decide +kernel
theorem dX4_bitsOf_70 : decode cX4_bitsOf 70 = .ok (.lconst 0, 1) := by decide +kernel
theorem dX4_bitsOf_71 : decode cX4_bitsOf 71 = .ok (.lstore 9, 2) := by decide +kernel
theorem dX4_bitsOf_73 : decode cX4_bitsOf 73 = .ok (.dload 7, 2) := by decide +kernel
theorem dX4_bitsOf_75 : decode cX4_bitsOf 75 = .ok (.dconst 0, 1) := by decide +kernel
theorem dX4_bitsOf_76 : decode cX4_bitsOf 76 = .ok (.dcmp .l, 1) := by decide +kernel
theorem dX4_bitsOf_77 : decode cX4_bitsOf 77 = .ok (.ifCond .ne 6, 3) := by decide +kernel
theorem dX4_bitsOf_80 : decode cX4_bitsOf 80 = .ok (.lload 9, 2) := by decide +kernel
theorem dX4_bitsOf_82 : decode cX4_bitsOf 82 = .ok (.lreturn, 1) := by decide +kernel
theorem dX4_bitsOf_83 : decode cX4_bitsOf 83 = .ok (.dload 7, 2) := by decide +kernel
theorem dX4_bitsOf_85 : decode cX4_bitsOf 85 = .ok (.invokestatic 28, 3) := by decide +kernel
theorem dX4_bitsOf_88 : decode cX4_bitsOf 88 = .ok (.ifCond .eq 23, 3) := by decide +kernel
theorem dX4_bitsOf_91 : decode cX4_bitsOf 91 = .ok (.lload 9, 2) := by decide +kernel
theorem dX4_bitsOf_93 : decode cX4_bitsOf 93 = .ok (.iload_n 3, 1) := by decide +kernel
theorem dX4_bitsOf_94 : decode cX4_bitsOf 94 = .ok (.ifCond .eq 9, 3) := by decide +kernel
theorem dX4_bitsOf_97 : decode cX4_bitsOf 97 = .ok (.ldc2_w 31, 3) := by decide +kernel
theorem dX4_bitsOf_100 : decode cX4_bitsOf 100 = .ok (.goto 6, 3) := by decide +kernel
theorem dX4_bitsOf_103 : decode cX4_bitsOf 103 = .ok (.ldc2_w 33, 3) := by decide +kernel
theorem dX4_bitsOf_106 : decode cX4_bitsOf 106 = .ok (.iload 4, 2) := by decide +kernel
theorem dX4_bitsOf_108 : decode cX4_bitsOf 108 = .ok (.lshl, 1) := by decide +kernel
theorem dX4_bitsOf_109 : decode cX4_bitsOf 109 = .ok (.ladd, 1) := by decide +kernel
theorem dX4_bitsOf_110 : decode cX4_bitsOf 110 = .ok (.lreturn, 1) := by decide +kernel
theorem dX4_bitsOf_111 : decode cX4_bitsOf 111 = .ok (.aload_n 0, 1) := by decide +kernel
theorem dX4_bitsOf_112 : decode cX4_bitsOf 112 = .ok (.dload 7, 2) := by decide +kernel
theorem dX4_bitsOf_114 : decode cX4_bitsOf 114 = .ok (.iload_n 3, 1) := by decide +kernel
theorem dX4_bitsOf_115 : decode cX4_bitsOf 115 = .ok (.invokevirtual 35, 3) := by decide +kernel
theorem dX4_bitsOf_118 : decode cX4_bitsOf 118 = .ok (.istore 11, 2) := by decide +kernel
theorem dX4_bitsOf_120 : decode cX4_bitsOf 120 = .ok (.lload 9, 2) := by decide +kernel
theorem dX4_bitsOf_122 : decode cX4_bitsOf 122 = .ok (.iload 11, 2) := by decide +kernel
theorem dX4_bitsOf_124 : decode cX4_bitsOf 124 = .ok (.iload 5, 2) := by decide +kernel
theorem dX4_bitsOf_126 : decode cX4_bitsOf 126 = .ok (.isub, 1) := by decide +kernel
theorem dX4_bitsOf_127 : decode cX4_bitsOf 127 = .ok (.i2l, 1) := by decide +kernel
theorem dX4_bitsOf_128 : decode cX4_bitsOf 128 = .ok (.iload 4, 2) := by decide +kernel
theorem dX4_bitsOf_130 : decode cX4_bitsOf 130 = .ok (.lshl, 1) := by decide +kernel
theorem dX4_bitsOf_131 : decode cX4_bitsOf 131 = .ok (.ladd, 1) := by decide +kernel
theorem dX4_bitsOf_132 : decode cX4_bitsOf 132 = .ok (.aload_n 0, 1) := by decide +kernel
theorem dX4_bitsOf_133 : decode cX4_bitsOf 133 = .ok (.dload 7, 2) := by decide +kernel
theorem dX4_bitsOf_135 : decode cX4_bitsOf 135 = .ok (.iload 11, 2) := by decide +kernel
theorem dX4_bitsOf_137 : decode cX4_bitsOf 137 = .ok (.ineg, 1) := by decide +kernel
theorem dX4_bitsOf_138 : decode cX4_bitsOf 138 = .ok (.invokevirtual 39, 3) := by decide +kernel
theorem dX4_bitsOf_141 : decode cX4_bitsOf 141 = .ok (.d2l, 1) := by decide +kernel
theorem dX4_bitsOf_142 : decode cX4_bitsOf 142 = .ok (.ladd, 1) := by decide +kernel
theorem dX4_bitsOf_143 : decode cX4_bitsOf 143 = .ok (.lreturn, 1) := by decide +kernel
theorem dX5_init_0 : decode cX5_init 0 = .ok (.aload_n 0, 1) := by decide +kernel
theorem dX5_init_1 : decode cX5_init 1 = .ok (.invokespecial 1, 3) := by decide +kernel
theorem dX5_init_4 : decode cX5_init 4 = .ok (.aload_n 0, 1) := by decide +kernel
theorem dX5_init_5 : decode cX5_init 5 = .ok (.bipush 13, 2) := by decide +kernel
theorem dX5_init_7 : decode cX5_init 7 = .ok (.anewarray 9, 3) := by decide +kernel
theorem dX5_init_10 : decode cX5_init 10 = .ok (.putfield 11, 3) := by decide +kernel
theorem dX5_init_13 : decode cX5_init 13 = .ok (.iconst 0, 1) := by decide +kernel
theorem dX5_init_14 : decode cX5_init 14 = .ok (.istore_n 1, 1) := by decide +kernel
theorem dX5_init_15 : decode cX5_init 15 = .ok (.iload_n 1, 1) := by decide +kernel
theorem dX5_init_16 : decode cX5_init 16 = .ok (.bipush 12, 2) := by decide +kernel
theorem dX5_init_18 : decode cX5_init 18 = .ok (.if_icmp .gt 22, 3) := by decide +kernel
theorem dX5_init_21 : decode cX5_init 21 = .ok (.aload_n 0, 1) := by decide +kernel
theorem dX5_init_22 : decode cX5_init 22 = .ok (.getfield 11, 3) := by decide +kernel
theorem dX5_init_25 : decode cX5_init 25 = .ok (.iload_n 1, 1) := by decide +kernel
theorem dX5_init_26 : decode cX5_init 26 = .ok (.new 9, 3) := by decide +kernel
theorem dX5_init_29 : decode cX5_init 29 = .ok (.dup, 1) := by decide +kernel
theorem dX5_init_30 : decode cX5_init 30 = .ok (.invokespecial 15, 3) := by decide +kernel
theorem dX5_init_33 : decode cX5_init 33 = .ok (.aastore, 1) := by decide +kernel
theorem dX5_init_34 : decode cX5_init 34 = .ok (.iinc 1 1, 3) := by decide +kernel
theorem dX5_init_37 : decode cX5_init 37 = .ok (.goto (-22), 3) := by decide +kernel
theorem dX5_init_40 : decode cX5_init 40 = .ok (.aload_n 0, 1) := by decide +kernel
theorem dX5_init_41 : decode cX5_init 41 = .ok (.bipush 10, 2) := by decide +kernel
theorem dX5_init_43 : decode cX5_init 43 = .ok (.anewarray 16, 3) := by decide +kernel
theorem dX5_init_46 : decode cX5_init 46 = .ok (.putfield 18, 3) := by decide +kernel
theorem dX5_init_49 : decode cX5_init 49 = .ok (.aload_n 0, 1) := by decide +kernel
theorem dX5_init_50 : decode cX5_init 50 = .ok (.new 22, 3) := by decide +kernel
theorem dX5_init_53 : decode cX5_init 53 = .ok (.dup, 1) := by decide +kernel
theorem dX5_init_54 : decode cX5_init 54 = .ok (.invokespecial 24, 3) := by decide +kernel
theorem dX5_init_57 : decode cX5_init 57 = .ok (.putfield 25, 3) := by decide +kernel
theorem dX5_init_60 : decode cX5_init 60 = .ok (.aload_n 0, 1) := by decide +kernel
theorem dX5_init_61 : decode cX5_init 61 = .ok (.aconst_null, 1) := by decide +kernel
theorem dX5_init_62 : decode cX5_init 62 = .ok (.putfield 29, 3) := by decide +kernel
theorem dX5_init_65 : decode cX5_init 65 = .ok (.aload_n 0, 1) := by decide +kernel
theorem dX5_init_66 : decode cX5_init 66 = .ok (.iconst 0, 1) := by decide +kernel
theorem dX5_init_67 : decode cX5_init 67 = .ok (.putfield 33, 3) := by decide +kernel
theorem dX5_init_70 : decode cX5_init 70 = .ok (.aload_n 0, 1) := by decide +kernel
theorem dX5_init_71 : decode cX5_init 71 = .ok (.iconst 0, 1) := by decide +kernel
theorem dX5_init_72 : decode cX5_init 72 = .ok (.putfield 37, 3) := by decide +kernel
theorem dX5_init_75 : decode cX5_init 75 = .ok (.aload_n 0, 1) := by decide +kernel
theorem dX5_init_76 : decode cX5_init 76 = .ok (.iconst 0, 1) := by decide +kernel
theorem dX5_init_77 : decode cX5_init 77 = .ok (.putfield 40, 3) := by decide +kernel
theorem dX5_init_80 : decode cX5_init 80 = .ok (.aload_n 0, 1) := by decide +kernel
theorem dX5_init_81 : decode cX5_init 81 = .ok (.iconst 0, 1) := by decide +kernel
theorem dX5_init_82 : decode cX5_init 82 = .ok (.putfield 43, 3) := by decide +kernel
theorem dX5_init_85 : decode cX5_init 85 = .ok (.return_, 1) := by decide +kernel
theorem dX5_set_0 : decode cX5_set 0 = .ok (.aload_n 0, 1) := by decide +kernel
theorem dX5_set_1 : decode cX5_set 1 = .ok (.iload_n 1, 1) := by decide +kernel
theorem dX5_set_2 : decode cX5_set 2 = .ok (.iload_n 2, 1) := by decide +kernel
theorem dX5_set_3 : decode cX5_set 3 = .ok (.invokevirtual 46, 3) := by decide +kernel
theorem dX5_set_6 : decode cX5_set 6 = .ok (.ifCond .eq 11, 3) := by decide +kernel
theorem dX5_set_9 : decode cX5_set 9 = .ok (.iload 4, 2) := by decide +kernel
theorem dX5_set_11 : decode cX5_set 11 = .ok (.invokestatic 50, 3) := by decide +kernel
theorem dX5_set_14 : decode cX5_set 14 = .ok (.ifCond .ne 5, 3) := by decide +kernel
theorem dX5_set_17 : decode cX5_set 17 = .ok (.iconst 0, 1) := by decide +kernel
theorem dX5_set_18 : decode cX5_set 18 = .ok (.ireturn, 1) := by decide +kernel
theorem dX5_set_19 : decode cX5_set 19 = .ok (.aload_n 0, 1) := by decide +kernel
theorem dX5_set_20 : decode cX5_set 20 = .ok (.iload_n 1, 1) := by decide +kernel
theorem dX5_set_21 : decode cX5_set 21 = .ok (.invokevirtual 54, 3) := by decide +kernel
theorem dX5_set_24 : decode cX5_set 24 = .ok (.iload_n 2, 1) := by decide +kernel
theorem dX5_set_25 : decode cX5_set 25 = .ok (.aload_n 0, 1) := by decide +kernel
theorem dX5_set_26 : decode cX5_set 26 = .ok (.getfield 25, 3) := by decide +kernel
theorem dX5_set_29 : decode cX5_set 29 = .ok (.getfield 58, 3) := by decide +kernel
theorem dX5_set_32 : decode cX5_set 32 = .ok (.iload_n 3, 1) := by decide +kernel
theorem dX5_set_33 : decode cX5_set 33 = .ok (.i2d, 1) := by decide +kernel
theorem dX5_set_34 : decode cX5_set 34 = .ok (.iload 4, 2) := by decide +kernel
theorem dX5_set_36 : decode cX5_set 36 = .ok (.invokevirtual 62, 3) := by decide +kernel
theorem dX5_set_39 : decode cX5_set 39 = .ok (.invokevirtual 68, 3) := by decide +kernel
theorem dX5_set_42 : decode cX5_set 42 = .ok (.iconst 1, 1) := by decide +kernel
theorem dX5_set_43 : decode cX5_set 43 = .ok (.ireturn, 1) := by decide +kernel
theorem dX5_special_0 : decode cX5_special 0 = .ok (.aload_n 0, 1) := by decide +kernel
theorem dX5_special_1 : decode cX5_special 1 = .ok (.iload_n 1, 1) := by decide +kernel
theorem dX5_special_2 : decode cX5_special 2 = .ok (.iload_n 2, 1) := by decide +kernel
theorem dX5_special_3 : decode cX5_special 3 = .ok (.invokevirtual 46, 3) := by decide +kernel
theorem dX5_special_6 : decode cX5_special 6 = .ok (.ifCond .eq 10, 3) := by decide +kernel
theorem dX5_special_9 : decode cX5_special 9 = .ok (.iload_n 3, 1) := by decide +kernel
theorem dX5_special_10 : decode cX5_special 10 = .ok (.invokestatic 72, 3) := by decide +kernel
theorem dX5_special_13 : decode cX5_special 13 = .ok (.ifCond .ne 5, 3) := by decide +kernel
theorem dX5_special_16 : decode cX5_special 16 = .ok (.iconst 0, 1) := by decide +kernel
theorem dX5_special_17 : decode cX5_special 17 = .ok (.ireturn, 1) := by decide +kernel
theorem dX5_special_18 : decode cX5_special 18 = .ok (.aload_n 0, 1) := by decide +kernel
theorem dX5_special_19 : decode cX5_special 19 = .ok (.iload_n 1, 1) := by decide +kernel
theorem dX5_special_20 : decode cX5_special 20 = .ok (.invokevirtual 54, 3) := by decide +kernel
theorem dX5_special_23 : decode cX5_special 23 = .ok (.iload_n 2, 1) := by decide +kernel
theorem dX5_special_24 : decode cX5_special 24 = .ok (.iload_n 3, 1) := by decide +kernel
theorem dX5_special_25 : decode cX5_special 25 = .ok (.invokestatic 75, 3) := by decide +kernel
theorem dX5_special_28 : decode cX5_special 28 = .ok (.iconst 1, 1) := by decide +kernel
theorem dX5_special_29 : decode cX5_special 29 = .ok (.ireturn, 1) := by decide +kernel
theorem dX5_constant_0 : decode cX5_constant 0 = .ok (.iload_n 1, 1) := by decide +kernel
theorem dX5_constant_1 : decode cX5_constant 1 = .ok (.invokestatic 79, 3) := by decide +kernel
theorem dX5_constant_4 : decode cX5_constant 4 = .ok (.ifCond .eq 17, 3) := by decide +kernel
theorem dX5_constant_7 : decode cX5_constant 7 = .ok (.iload_n 3, 1) := by decide +kernel
theorem dX5_constant_8 : decode cX5_constant 8 = .ok (.invokestatic 50, 3) := by decide +kernel
theorem dX5_constant_11 : decode cX5_constant 11 = .ok (.ifCond .eq 10, 3) := by decide +kernel
theorem dX5_constant_14 : decode cX5_constant 14 = .ok (.aload_n 0, 1) := by decide +kernel
theorem dX5_constant_15 : decode cX5_constant 15 = .ok (.invokevirtual 82, 3) := by decide +kernel
theorem dX5_constant_18 : decode cX5_constant 18 = .ok (.ifCond .eq 5, 3) := by decide +kernel
theorem dX5_constant_21 : decode cX5_constant 21 = .ok (.iconst 0, 1) := by decide +kernel
theorem dX5_constant_22 : decode cX5_constant 22 = .ok (.ireturn, 1) := by decide +kernel
theorem dX5_constant_23 : decode cX5_constant 23 = .ok (.aload_n 0, 1) := by decide +kernel
theorem dX5_constant_24 : decode cX5_constant 24 = .ok (.bipush 12, 2) := by decide +kernel
theorem dX5_constant_26 : decode cX5_constant 26 = .ok (.invokevirtual 54, 3) := by decide +kernel
theorem dX5_constant_29 : decode cX5_constant 29 = .ok (.iload_n 1, 1) := by decide +kernel
theorem dX5_constant_30 : decode cX5_constant 30 = .ok (.aload_n 0, 1) := by decide +kernel
theorem dX5_constant_31 : decode cX5_constant 31 = .ok (.getfield 25, 3) := by decide +kernel
theorem dX5_constant_34 : decode cX5_constant 34 = .ok (.getfield 58, 3) := by decide +kernel
theorem dX5_constant_37 : decode cX5_constant 37 = .ok (.iload_n 2, 1) := by decide +kernel
theorem dX5_constant_38 : decode cX5_constant 38 = .ok (.i2d, 1) := by decide +kernel
theorem dX5_constant_39 : decode cX5_constant 39 = .ok (.iload_n 3, 1) := by decide +kernel
theorem dX5_constant_40 : decode cX5_constant 40 = .ok (.invokevirtual 62, 3) := by decide +kernel
theorem dX5_constant_43 : decode cX5_constant 43 = .ok (.invokevirtual 68, 3) := by decide +kernel
theorem dX5_constant_46 : decode cX5_constant 46 = .ok (.iconst 1, 1) := by decide +kernel
theorem dX5_constant_47 : decode cX5_constant 47 = .ok (.ireturn, 1) := by decide +kernel
theorem dX5_constantSpecial_0 : decode cX5_constantSpecial 0 = .ok (.iload_n 1, 1) := by decide +kernel
theorem dX5_constantSpecial_1 : decode cX5_constantSpecial 1 = .ok (.invokestatic 79, 3) := by decide +kernel
theorem dX5_constantSpecial_4 : decode cX5_constantSpecial 4 = .ok (.ifCond .eq 17, 3) := by decide +kernel
theorem dX5_constantSpecial_7 : decode cX5_constantSpecial 7 = .ok (.iload_n 2, 1) := by decide +kernel
theorem dX5_constantSpecial_8 : decode cX5_constantSpecial 8 = .ok (.invokestatic 72, 3) := by decide +kernel
theorem dX5_constantSpecial_11 : decode cX5_constantSpecial 11 = .ok (.ifCond .eq 10, 3) := by decide +kernel
theorem dX5_constantSpecial_14 : decode cX5_constantSpecial 14 = .ok (.aload_n 0, 1) := by decide +kernel
theorem dX5_constantSpecial_15 : decode cX5_constantSpecial 15 = .ok (.invokevirtual 82, 3) := by decide +kernel
theorem dX5_constantSpecial_18 : decode cX5_constantSpecial 18 = .ok (.ifCond .eq 5, 3) := by decide +kernel
theorem dX5_constantSpecial_21 : decode cX5_constantSpecial 21 = .ok (.iconst 0, 1) := by decide +kernel
theorem dX5_constantSpecial_22 : decode cX5_constantSpecial 22 = .ok (.ireturn, 1) := by decide +kernel
theorem dX5_constantSpecial_23 : decode cX5_constantSpecial 23 = .ok (.aload_n 0, 1) := by decide +kernel
theorem dX5_constantSpecial_24 : decode cX5_constantSpecial 24 = .ok (.bipush 12, 2) := by decide +kernel
theorem dX5_constantSpecial_26 : decode cX5_constantSpecial 26 = .ok (.invokevirtual 54, 3) := by decide +kernel
theorem dX5_constantSpecial_29 : decode cX5_constantSpecial 29 = .ok (.iload_n 1, 1) := by decide +kernel
theorem dX5_constantSpecial_30 : decode cX5_constantSpecial 30 = .ok (.iload_n 2, 1) := by decide +kernel
theorem dX5_constantSpecial_31 : decode cX5_constantSpecial 31 = .ok (.invokestatic 75, 3) := by decide +kernel
theorem dX5_constantSpecial_34 : decode cX5_constantSpecial 34 = .ok (.iconst 1, 1) := by decide +kernel
theorem dX5_constantSpecial_35 : decode cX5_constantSpecial 35 = .ok (.ireturn, 1) := by decide +kernel
theorem dX5_formula_0 : decode cX5_formula 0 = .ok (.iload_n 1, 1) := by decide +kernel
theorem dX5_formula_1 : decode cX5_formula 1 = .ok (.invokestatic 86, 3) := by decide +kernel
theorem dX5_formula_4 : decode cX5_formula 4 = .ok (.ifCond .eq 28, 3) := by decide +kernel
theorem dX5_formula_7 : decode cX5_formula 7 = .ok (.iload_n 2, 1) := by decide +kernel
theorem dX5_formula_8 : decode cX5_formula 8 = .ok (.ifCond .lt 24, 3) := by decide +kernel
theorem dX5_formula_11 : decode cX5_formula 11 = .ok (.iload_n 2, 1) := by decide +kernel
theorem dX5_formula_12 : decode cX5_formula 12 = .ok (.bipush 26, 2) := by decide +kernel
theorem dX5_formula_14 : decode cX5_formula 14 = .ok (.if_icmp .gt 18, 3) := by decide +kernel
theorem dX5_formula_17 : decode cX5_formula 17 = .ok (.iload 5, 2) := by decide +kernel
theorem dX5_formula_19 : decode cX5_formula 19 = .ok (.invokestatic 89, 3) := by decide +kernel
theorem dX5_formula_22 : decode cX5_formula 22 = .ok (.ifCond .eq 10, 3) := by decide +kernel
theorem dX5_formula_25 : decode cX5_formula 25 = .ok (.aload_n 0, 1) := by decide +kernel
theorem dX5_formula_26 : decode cX5_formula 26 = .ok (.invokevirtual 82, 3) := by decide +kernel
theorem dX5_formula_29 : decode cX5_formula 29 = .ok (.ifCond .eq 5, 3) := by decide +kernel
theorem dX5_formula_32 : decode cX5_formula 32 = .ok (.iconst 0, 1) := by decide +kernel
theorem dX5_formula_33 : decode cX5_formula 33 = .ok (.ireturn, 1) := by decide +kernel
theorem dX5_formula_34 : decode cX5_formula 34 = .ok (.iload_n 3, 1) := by decide +kernel
theorem dX5_formula_35 : decode cX5_formula 35 = .ok (.ifCond .lt 30, 3) := by decide +kernel
theorem dX5_formula_38 : decode cX5_formula 38 = .ok (.iload_n 3, 1) := by decide +kernel
theorem dX5_formula_39 : decode cX5_formula 39 = .ok (.iload_n 1, 1) := by decide +kernel
theorem dX5_formula_40 : decode cX5_formula 40 = .ok (.if_icmp .ge 25, 3) := by decide +kernel
theorem dX5_formula_43 : decode cX5_formula 43 = .ok (.iload 4, 2) := by decide +kernel
theorem dX5_formula_45 : decode cX5_formula 45 = .ok (.ifCond .lt 20, 3) := by decide +kernel
theorem dX5_formula_48 : decode cX5_formula 48 = .ok (.iload 4, 2) := by decide +kernel
theorem dX5_formula_50 : decode cX5_formula 50 = .ok (.iload_n 1, 1) := by decide +kernel
theorem dX5_formula_51 : decode cX5_formula 51 = .ok (.if_icmp .lt 16, 3) := by decide +kernel
theorem dX5_formula_54 : decode cX5_formula 54 = .ok (.iload 4, 2) := by decide +kernel
theorem dX5_formula_56 : decode cX5_formula 56 = .ok (.bipush 16, 2) := by decide +kernel
theorem dX5_formula_58 : decode cX5_formula 58 = .ok (.isub, 1) := by decide +kernel
theorem dX5_formula_59 : decode cX5_formula 59 = .ok (.invokestatic 79, 3) := by decide +kernel
theorem dX5_formula_62 : decode cX5_formula 62 = .ok (.ifCond .ne 5, 3) := by decide +kernel
theorem dX5_formula_65 : decode cX5_formula 65 = .ok (.iconst 0, 1) := by decide +kernel
theorem dX5_formula_66 : decode cX5_formula 66 = .ok (.ireturn, 1) := by decide +kernel
theorem dX5_formula_67 : decode cX5_formula 67 = .ok (.aload_n 0, 1) := by decide +kernel
theorem dX5_formula_68 : decode cX5_formula 68 = .ok (.iload_n 1, 1) := by decide +kernel
theorem dX5_formula_69 : decode cX5_formula 69 = .ok (.invokevirtual 54, 3) := by decide +kernel
theorem dX5_formula_72 : decode cX5_formula 72 = .ok (.astore 6, 2) := by decide +kernel
theorem dX5_formula_74 : decode cX5_formula 74 = .ok (.aload 6, 2) := by decide +kernel
theorem dX5_formula_76 : decode cX5_formula 76 = .ok (.iload_n 2, 1) := by decide +kernel
theorem dX5_formula_77 : decode cX5_formula 77 = .ok (.putfield 92, 3) := by decide +kernel
theorem dX5_formula_80 : decode cX5_formula 80 = .ok (.aload 6, 2) := by decide +kernel
theorem dX5_formula_82 : decode cX5_formula 82 = .ok (.iload_n 3, 1) := by decide +kernel
theorem dX5_formula_83 : decode cX5_formula 83 = .ok (.putfield 95, 3) := by decide +kernel
theorem dX5_formula_86 : decode cX5_formula 86 = .ok (.aload 6, 2) := by decide +kernel
theorem dX5_formula_88 : decode cX5_formula 88 = .ok (.iload 4, 2) := by decide +kernel
theorem dX5_formula_90 : decode cX5_formula 90 = .ok (.putfield 98, 3) := by decide +kernel
theorem dX5_formula_93 : decode cX5_formula 93 = .ok (.aload 6, 2) := by decide +kernel
theorem dX5_formula_95 : decode cX5_formula 95 = .ok (.iload 5, 2) := by decide +kernel
theorem dX5_formula_97 : decode cX5_formula 97 = .ok (.putfield 101, 3) := by decide +kernel
theorem dX5_formula_100 : decode cX5_formula 100 = .ok (.iconst 1, 1) := by decide +kernel
theorem dX5_formula_101 : decode cX5_formula 101 = .ok (.ireturn, 1) := by decide +kernel
theorem dX5_input_0 : decode cX5_input 0 = .ok (.iload_n 1, 1) := by decide +kernel
theorem dX5_input_1 : decode cX5_input 1 = .ok (.invokestatic 86, 3) := by decide +kernel
theorem dX5_input_4 : decode cX5_input 4 = .ok (.ifCond .eq 22, 3) := by decide +kernel
theorem dX5_input_7 : decode cX5_input 7 = .ok (.aload_n 0, 1) := by decide +kernel
theorem dX5_input_8 : decode cX5_input 8 = .ok (.getfield 11, 3) := by decide +kernel
theorem dX5_input_11 : decode cX5_input 11 = .ok (.iload_n 1, 1) := by decide +kernel
theorem dX5_input_12 : decode cX5_input 12 = .ok (.aaload, 1) := by decide +kernel
theorem dX5_input_13 : decode cX5_input 13 = .ok (.invokevirtual 104, 3) := by decide +kernel
theorem dX5_input_16 : decode cX5_input 16 = .ok (.ifCond .eq 10, 3) := by decide +kernel
theorem dX5_input_19 : decode cX5_input 19 = .ok (.aload_n 0, 1) := by decide +kernel
theorem dX5_input_20 : decode cX5_input 20 = .ok (.invokevirtual 82, 3) := by decide +kernel
theorem dX5_input_23 : decode cX5_input 23 = .ok (.ifCond .eq 5, 3) := by decide +kernel
theorem dX5_input_26 : decode cX5_input 26 = .ok (.iconst 0, 1) := by decide +kernel
theorem dX5_input_27 : decode cX5_input 27 = .ok (.ireturn, 1) := by decide +kernel
theorem dX5_input_28 : decode cX5_input 28 = .ok (.aload_n 0, 1) := by decide +kernel
theorem dX5_input_29 : decode cX5_input 29 = .ok (.invokevirtual 107, 3) := by decide +kernel
theorem dX5_input_32 : decode cX5_input 32 = .ok (.aload_n 0, 1) := by decide +kernel
theorem dX5_input_33 : decode cX5_input 33 = .ok (.iload_n 1, 1) := by decide +kernel
theorem dX5_input_34 : decode cX5_input 34 = .ok (.invokevirtual 54, 3) := by decide +kernel
theorem dX5_input_37 : decode cX5_input 37 = .ok (.iconst (-1), 1) := by decide +kernel
theorem dX5_input_38 : decode cX5_input 38 = .ok (.putfield 92, 3) := by decide +kernel
theorem dX5_input_41 : decode cX5_input 41 = .ok (.iconst 1, 1) := by decide +kernel
theorem dX5_input_42 : decode cX5_input 42 = .ok (.ireturn, 1) := by decide +kernel
theorem dX5_width_0 : decode cX5_width 0 = .ok (.iload_n 1, 1) := by decide +kernel
theorem dX5_width_1 : decode cX5_width 1 = .ok (.invokestatic 86, 3) := by decide +kernel
theorem dX5_width_4 : decode cX5_width 4 = .ok (.ifCond .eq 23, 3) := by decide +kernel
theorem dX5_width_7 : decode cX5_width 7 = .ok (.aload_n 0, 1) := by decide +kernel
theorem dX5_width_8 : decode cX5_width 8 = .ok (.getfield 11, 3) := by decide +kernel
theorem dX5_width_11 : decode cX5_width 11 = .ok (.iload_n 1, 1) := by decide +kernel
theorem dX5_width_12 : decode cX5_width 12 = .ok (.aaload, 1) := by decide +kernel
theorem dX5_width_13 : decode cX5_width 13 = .ok (.getfield 110, 3) := by decide +kernel
theorem dX5_width_16 : decode cX5_width 16 = .ok (.iload_n 2, 1) := by decide +kernel
theorem dX5_width_17 : decode cX5_width 17 = .ok (.if_icmp .eq 10, 3) := by decide +kernel
theorem dX5_width_20 : decode cX5_width 20 = .ok (.aload_n 0, 1) := by decide +kernel
theorem dX5_width_21 : decode cX5_width 21 = .ok (.invokevirtual 82, 3) := by decide +kernel
theorem dX5_width_24 : decode cX5_width 24 = .ok (.ifCond .eq 5, 3) := by decide +kernel
theorem dX5_width_27 : decode cX5_width 27 = .ok (.iconst 0, 1) := by decide +kernel
theorem dX5_width_28 : decode cX5_width 28 = .ok (.ireturn, 1) := by decide +kernel
theorem dX5_width_29 : decode cX5_width 29 = .ok (.aload_n 0, 1) := by decide +kernel
theorem dX5_width_30 : decode cX5_width 30 = .ok (.iload_n 1, 1) := by decide +kernel
theorem dX5_width_31 : decode cX5_width 31 = .ok (.invokevirtual 54, 3) := by decide +kernel
theorem dX5_width_34 : decode cX5_width 34 = .ok (.iload_n 2, 1) := by decide +kernel
theorem dX5_width_35 : decode cX5_width 35 = .ok (.invokevirtual 114, 3) := by decide +kernel
theorem dX5_width_38 : decode cX5_width 38 = .ok (.iconst 1, 1) := by decide +kernel
theorem dX5_width_39 : decode cX5_width 39 = .ok (.ireturn, 1) := by decide +kernel
theorem dX5_back_0 : decode cX5_back 0 = .ok (.aload_n 0, 1) := by decide +kernel
theorem dX5_back_1 : decode cX5_back 1 = .ok (.getfield 29, 3) := by decide +kernel
theorem dX5_back_4 : decode cX5_back 4 = .ok (.astore_n 1, 1) := by decide +kernel
theorem dX5_back_5 : decode cX5_back 5 = .ok (.aload_n 1, 1) := by decide +kernel
theorem dX5_back_6 : decode cX5_back 6 = .ok (.ifnonnull 5, 3) := by decide +kernel
theorem dX5_back_9 : decode cX5_back 9 = .ok (.iconst (-1), 1) := by decide +kernel
theorem dX5_back_10 : decode cX5_back 10 = .ok (.ireturn, 1) := by decide +kernel
theorem dX5_back_11 : decode cX5_back 11 = .ok (.aload_n 0, 1) := by decide +kernel
theorem dX5_back_12 : decode cX5_back 12 = .ok (.getfield 11, 3) := by decide +kernel
theorem dX5_back_15 : decode cX5_back 15 = .ok (.aload_n 1, 1) := by decide +kernel
theorem dX5_back_16 : decode cX5_back 16 = .ok (.getfield 118, 3) := by decide +kernel
theorem dX5_back_19 : decode cX5_back 19 = .ok (.aload_n 1, 1) := by decide +kernel
theorem dX5_back_20 : decode cX5_back 20 = .ok (.getfield 123, 3) := by decide +kernel
theorem dX5_back_23 : decode cX5_back 23 = .ok (.aastore, 1) := by decide +kernel
theorem dX5_back_24 : decode cX5_back 24 = .ok (.aload_n 0, 1) := by decide +kernel
theorem dX5_back_25 : decode cX5_back 25 = .ok (.dup, 1) := by decide +kernel
theorem dX5_back_26 : decode cX5_back 26 = .ok (.getfield 43, 3) := by decide +kernel
theorem dX5_back_29 : decode cX5_back 29 = .ok (.iconst 1, 1) := by decide +kernel
theorem dX5_back_30 : decode cX5_back 30 = .ok (.aload_n 1, 1) := by decide +kernel
theorem dX5_back_31 : decode cX5_back 31 = .ok (.getfield 118, 3) := by decide +kernel
theorem dX5_back_34 : decode cX5_back 34 = .ok (.ishl, 1) := by decide +kernel
theorem dX5_back_35 : decode cX5_back 35 = .ok (.ior, 1) := by decide +kernel
theorem dX5_back_36 : decode cX5_back 36 = .ok (.putfield 43, 3) := by decide +kernel
theorem dX5_back_39 : decode cX5_back 39 = .ok (.aload_n 0, 1) := by decide +kernel
theorem dX5_back_40 : decode cX5_back 40 = .ok (.aload_n 1, 1) := by decide +kernel
theorem dX5_back_41 : decode cX5_back 41 = .ok (.getfield 127, 3) := by decide +kernel
theorem dX5_back_44 : decode cX5_back 44 = .ok (.putfield 29, 3) := by decide +kernel
theorem dX5_back_47 : decode cX5_back 47 = .ok (.aload_n 0, 1) := by decide +kernel
theorem dX5_back_48 : decode cX5_back 48 = .ok (.dup, 1) := by decide +kernel
theorem dX5_back_49 : decode cX5_back 49 = .ok (.getfield 33, 3) := by decide +kernel
theorem dX5_back_52 : decode cX5_back 52 = .ok (.iconst 1, 1) := by decide +kernel
theorem dX5_back_53 : decode cX5_back 53 = .ok (.isub, 1) := by decide +kernel
theorem dX5_back_54 : decode cX5_back 54 = .ok (.putfield 33, 3) := by decide +kernel
theorem dX5_back_57 : decode cX5_back 57 = .ok (.aload_n 0, 1) := by decide +kernel
theorem dX5_back_58 : decode cX5_back 58 = .ok (.getfield 33, 3) := by decide +kernel
theorem dX5_back_61 : decode cX5_back 61 = .ok (.ireturn, 1) := by decide +kernel
theorem dX5_alarm_0 : decode cX5_alarm 0 = .ok (.iload_n 1, 1) := by decide +kernel
theorem dX5_alarm_1 : decode cX5_alarm 1 = .ok (.invokestatic 86, 3) := by decide +kernel
theorem dX5_alarm_4 : decode cX5_alarm 4 = .ok (.ifCond .eq 19, 3) := by decide +kernel
theorem dX5_alarm_7 : decode cX5_alarm 7 = .ok (.iload_n 2, 1) := by decide +kernel
theorem dX5_alarm_8 : decode cX5_alarm 8 = .ok (.invokestatic 89, 3) := by decide +kernel
theorem dX5_alarm_11 : decode cX5_alarm 11 = .ok (.ifCond .eq 12, 3) := by decide +kernel
theorem dX5_alarm_14 : decode cX5_alarm 14 = .ok (.aload_n 0, 1) := by decide +kernel
theorem dX5_alarm_15 : decode cX5_alarm 15 = .ok (.getfield 37, 3) := by decide +kernel
theorem dX5_alarm_18 : decode cX5_alarm 18 = .ok (.bipush 10, 2) := by decide +kernel
theorem dX5_alarm_20 : decode cX5_alarm 20 = .ok (.if_icmp .lt 5, 3) := by decide +kernel
theorem dX5_alarm_23 : decode cX5_alarm 23 = .ok (.iconst (-1), 1) := by decide +kernel
theorem dX5_alarm_24 : decode cX5_alarm 24 = .ok (.ireturn, 1) := by decide +kernel
theorem dX5_alarm_25 : decode cX5_alarm 25 = .ok (.iload_n 3, 1) := by decide +kernel
theorem dX5_alarm_26 : decode cX5_alarm 26 = .ok (.invokestatic 86, 3) := by decide +kernel
theorem dX5_alarm_29 : decode cX5_alarm 29 = .ok (.ifCond .ne 15, 3) := by decide +kernel
theorem dX5_alarm_32 : decode cX5_alarm 32 = .ok (.iload_n 3, 1) := by decide +kernel
theorem dX5_alarm_33 : decode cX5_alarm 33 = .ok (.bipush 16, 2) := by decide +kernel
theorem dX5_alarm_35 : decode cX5_alarm 35 = .ok (.isub, 1) := by decide +kernel
theorem dX5_alarm_36 : decode cX5_alarm 36 = .ok (.invokestatic 79, 3) := by decide +kernel
theorem dX5_alarm_39 : decode cX5_alarm 39 = .ok (.ifCond .ne 5, 3) := by decide +kernel
theorem dX5_alarm_42 : decode cX5_alarm 42 = .ok (.iconst (-1), 1) := by decide +kernel
theorem dX5_alarm_43 : decode cX5_alarm 43 = .ok (.ireturn, 1) := by decide +kernel
theorem dX5_alarm_44 : decode cX5_alarm 44 = .ok (.aload_n 0, 1) := by decide +kernel
theorem dX5_alarm_45 : decode cX5_alarm 45 = .ok (.getfield 18, 3) := by decide +kernel
theorem dX5_alarm_48 : decode cX5_alarm 48 = .ok (.aload_n 0, 1) := by decide +kernel
theorem dX5_alarm_49 : decode cX5_alarm 49 = .ok (.getfield 37, 3) := by decide +kernel
theorem dX5_alarm_52 : decode cX5_alarm 52 = .ok (.new 16, 3) := by decide +kernel
theorem dX5_alarm_55 : decode cX5_alarm 55 = .ok (.dup, 1) := by decide +kernel
theorem dX5_alarm_56 : decode cX5_alarm 56 = .ok (.iload_n 1, 1) := by decide +kernel
theorem dX5_alarm_57 : decode cX5_alarm 57 = .ok (.iload_n 2, 1) := by decide +kernel
theorem dX5_alarm_58 : decode cX5_alarm 58 = .ok (.iload_n 3, 1) := by decide +kernel
theorem dX5_alarm_59 : decode cX5_alarm 59 = .ok (.invokespecial 130, 3) := by decide +kernel
theorem dX5_alarm_62 : decode cX5_alarm 62 = .ok (.aastore, 1) := by decide +kernel
theorem dX5_alarm_63 : decode cX5_alarm 63 = .ok (.aload_n 0, 1) := by decide +kernel
theorem dX5_alarm_64 : decode cX5_alarm 64 = .ok (.dup, 1) := by decide +kernel
theorem dX5_alarm_65 : decode cX5_alarm 65 = .ok (.getfield 37, 3) := by decide +kernel
theorem dX5_alarm_68 : decode cX5_alarm 68 = .ok (.iconst 1, 1) := by decide +kernel
theorem dX5_alarm_69 : decode cX5_alarm 69 = .ok (.iadd, 1) := by decide +kernel
theorem dX5_alarm_70 : decode cX5_alarm 70 = .ok (.putfield 37, 3) := by decide +kernel
theorem dX5_alarm_73 : decode cX5_alarm 73 = .ok (.aload_n 0, 1) := by decide +kernel
theorem dX5_alarm_74 : decode cX5_alarm 74 = .ok (.getfield 37, 3) := by decide +kernel
theorem dX5_alarm_77 : decode cX5_alarm 77 = .ok (.iconst 1, 1) := by decide +kernel
theorem dX5_alarm_78 : decode cX5_alarm 78 = .ok (.isub, 1) := by decide +kernel
theorem dX5_alarm_79 : decode cX5_alarm 79 = .ok (.ireturn, 1) := by decide +kernel
theorem dX5_ring_0 : decode cX5_ring 0 = .ok (.aload_n 0, 1) := by decide +kernel
theorem dX5_ring_1 : decode cX5_ring 1 = .ok (.invokevirtual 107, 3) := by decide +kernel
theorem dX5_ring_4 : decode cX5_ring 4 = .ok (.aload_n 0, 1) := by decide +kernel
theorem dX5_ring_5 : decode cX5_ring 5 = .ok (.dup, 1) := by decide +kernel
theorem dX5_ring_6 : decode cX5_ring 6 = .ok (.getfield 40, 3) := by decide +kernel
theorem dX5_ring_9 : decode cX5_ring 9 = .ok (.iconst 1, 1) := by decide +kernel
theorem dX5_ring_10 : decode cX5_ring 10 = .ok (.iadd, 1) := by decide +kernel
theorem dX5_ring_11 : decode cX5_ring 11 = .ok (.putfield 40, 3) := by decide +kernel
theorem dX5_ring_14 : decode cX5_ring 14 = .ok (.iconst 0, 1) := by decide +kernel
theorem dX5_ring_15 : decode cX5_ring 15 = .ok (.istore_n 1, 1) := by decide +kernel
theorem dX5_ring_16 : decode cX5_ring 16 = .ok (.iconst 0, 1) := by decide +kernel
theorem dX5_ring_17 : decode cX5_ring 17 = .ok (.istore_n 2, 1) := by decide +kernel
theorem dX5_ring_18 : decode cX5_ring 18 = .ok (.iload_n 2, 1) := by decide +kernel
theorem dX5_ring_19 : decode cX5_ring 19 = .ok (.aload_n 0, 1) := by decide +kernel
theorem dX5_ring_20 : decode cX5_ring 20 = .ok (.getfield 37, 3) := by decide +kernel
theorem dX5_ring_23 : decode cX5_ring 23 = .ok (.if_icmp .ge 43, 3) := by decide +kernel
theorem dX5_ring_26 : decode cX5_ring 26 = .ok (.aload_n 0, 1) := by decide +kernel
theorem dX5_ring_27 : decode cX5_ring 27 = .ok (.getfield 18, 3) := by decide +kernel
theorem dX5_ring_30 : decode cX5_ring 30 = .ok (.iload_n 2, 1) := by decide +kernel
theorem dX5_ring_31 : decode cX5_ring 31 = .ok (.aaload, 1) := by decide +kernel
theorem dX5_ring_32 : decode cX5_ring 32 = .ok (.astore_n 3, 1) := by decide +kernel
theorem dX5_ring_33 : decode cX5_ring 33 = .ok (.aload_n 3, 1) := by decide +kernel
theorem dX5_ring_34 : decode cX5_ring 34 = .ok (.ifnull 26, 3) := by decide +kernel
theorem dX5_ring_37 : decode cX5_ring 37 = .ok (.iload_n 1, 1) := by decide +kernel
theorem dX5_ring_38 : decode cX5_ring 38 = .ok (.aload_n 3, 1) := by decide +kernel
theorem dX5_ring_39 : decode cX5_ring 39 = .ok (.aload_n 0, 1) := by decide +kernel
theorem dX5_ring_40 : decode cX5_ring 40 = .ok (.aload_n 3, 1) := by decide +kernel
theorem dX5_ring_41 : decode cX5_ring 41 = .ok (.getfield 133, 3) := by decide +kernel
theorem dX5_ring_44 : decode cX5_ring 44 = .ok (.aload_n 3, 1) := by decide +kernel
theorem dX5_ring_45 : decode cX5_ring 45 = .ok (.getfield 136, 3) := by decide +kernel
theorem dX5_ring_48 : decode cX5_ring 48 = .ok (.aload_n 3, 1) := by decide +kernel
theorem dX5_ring_49 : decode cX5_ring 49 = .ok (.getfield 137, 3) := by decide +kernel
theorem dX5_ring_52 : decode cX5_ring 52 = .ok (.invokevirtual 138, 3) := by decide +kernel
theorem dX5_ring_55 : decode cX5_ring 55 = .ok (.invokevirtual 142, 3) := by decide +kernel
theorem dX5_ring_58 : decode cX5_ring 58 = .ok (.iadd, 1) := by decide +kernel
theorem dX5_ring_59 : decode cX5_ring 59 = .ok (.istore_n 1, 1) := by decide +kernel
theorem dX5_ring_60 : decode cX5_ring 60 = .ok (.iinc 2 1, 3) := by decide +kernel
theorem dX5_ring_63 : decode cX5_ring 63 = .ok (.goto (-45), 3) := by decide +kernel
theorem dX5_ring_66 : decode cX5_ring 66 = .ok (.iload_n 1, 1) := by decide +kernel
theorem dX5_ring_67 : decode cX5_ring 67 = .ok (.ireturn, 1) := by decide +kernel
theorem dX5_reading_0 : decode cX5_reading 0 = .ok (.aload_n 0, 1) := by decide +kernel
theorem dX5_reading_1 : decode cX5_reading 1 = .ok (.invokevirtual 107, 3) := by decide +kernel
theorem dX5_reading_4 : decode cX5_reading 4 = .ok (.aload_n 0, 1) := by decide +kernel
theorem dX5_reading_5 : decode cX5_reading 5 = .ok (.iload_n 1, 1) := by decide +kernel
theorem dX5_reading_6 : decode cX5_reading 6 = .ok (.iload_n 2, 1) := by decide +kernel
theorem dX5_reading_7 : decode cX5_reading 7 = .ok (.invokevirtual 146, 3) := by decide +kernel
theorem dX5_reading_10 : decode cX5_reading 10 = .ok (.ifCond .eq 17, 3) := by decide +kernel
theorem dX5_reading_13 : decode cX5_reading 13 = .ok (.aload_n 0, 1) := by decide +kernel
theorem dX5_reading_14 : decode cX5_reading 14 = .ok (.getfield 11, 3) := by decide +kernel
theorem dX5_reading_17 : decode cX5_reading 17 = .ok (.iload_n 1, 1) := by decide +kernel
theorem dX5_reading_18 : decode cX5_reading 18 = .ok (.aaload, 1) := by decide +kernel
theorem dX5_reading_19 : decode cX5_reading 19 = .ok (.getfield 149, 3) := by decide +kernel
theorem dX5_reading_22 : decode cX5_reading 22 = .ok (.iload_n 2, 1) := by decide +kernel
theorem dX5_reading_23 : decode cX5_reading 23 = .ok (.daload, 1) := by decide +kernel
theorem dX5_reading_24 : decode cX5_reading 24 = .ok (.goto 4, 3) := by decide +kernel
theorem dX5_reading_27 : decode cX5_reading 27 = .ok (.dconst 0, 1) := by decide +kernel
theorem dX5_reading_28 : decode cX5_reading 28 = .ok (.dreturn, 1) := by decide +kernel
theorem dX5_isBlank_0 : decode cX5_isBlank 0 = .ok (.aload_n 0, 1) := by decide +kernel
theorem dX5_isBlank_1 : decode cX5_isBlank 1 = .ok (.invokevirtual 107, 3) := by decide +kernel
theorem dX5_isBlank_4 : decode cX5_isBlank 4 = .ok (.iload_n 1, 1) := by decide +kernel
theorem dX5_isBlank_5 : decode cX5_isBlank 5 = .ok (.invokestatic 86, 3) := by decide +kernel
theorem dX5_isBlank_8 : decode cX5_isBlank 8 = .ok (.ifCond .eq 27, 3) := by decide +kernel
theorem dX5_isBlank_11 : decode cX5_isBlank 11 = .ok (.iload_n 2, 1) := by decide +kernel
theorem dX5_isBlank_12 : decode cX5_isBlank 12 = .ok (.invokestatic 153, 3) := by decide +kernel
theorem dX5_isBlank_15 : decode cX5_isBlank 15 = .ok (.ifCond .eq 20, 3) := by decide +kernel
theorem dX5_isBlank_18 : decode cX5_isBlank 18 = .ok (.aload_n 0, 1) := by decide +kernel
theorem dX5_isBlank_19 : decode cX5_isBlank 19 = .ok (.getfield 11, 3) := by decide +kernel
theorem dX5_isBlank_22 : decode cX5_isBlank 22 = .ok (.iload_n 1, 1) := by decide +kernel
theorem dX5_isBlank_23 : decode cX5_isBlank 23 = .ok (.aaload, 1) := by decide +kernel
theorem dX5_isBlank_24 : decode cX5_isBlank 24 = .ok (.iload_n 2, 1) := by decide +kernel
theorem dX5_isBlank_25 : decode cX5_isBlank 25 = .ok (.invokevirtual 156, 3) := by decide +kernel
theorem dX5_isBlank_28 : decode cX5_isBlank 28 = .ok (.ifCond .eq 7, 3) := by decide +kernel
theorem dX5_isBlank_31 : decode cX5_isBlank 31 = .ok (.iconst 1, 1) := by decide +kernel
theorem dX5_isBlank_32 : decode cX5_isBlank 32 = .ok (.goto 4, 3) := by decide +kernel
theorem dX5_isBlank_35 : decode cX5_isBlank 35 = .ok (.iconst 0, 1) := by decide +kernel
theorem dX5_isBlank_36 : decode cX5_isBlank 36 = .ok (.ireturn, 1) := by decide +kernel
theorem dX5_isMinus_0 : decode cX5_isMinus 0 = .ok (.aload_n 0, 1) := by decide +kernel
theorem dX5_isMinus_1 : decode cX5_isMinus 1 = .ok (.invokevirtual 107, 3) := by decide +kernel
theorem dX5_isMinus_4 : decode cX5_isMinus 4 = .ok (.aload_n 0, 1) := by decide +kernel
theorem dX5_isMinus_5 : decode cX5_isMinus 5 = .ok (.iload_n 1, 1) := by decide +kernel
theorem dX5_isMinus_6 : decode cX5_isMinus 6 = .ok (.iload_n 2, 1) := by decide +kernel
theorem dX5_isMinus_7 : decode cX5_isMinus 7 = .ok (.invokevirtual 146, 3) := by decide +kernel
theorem dX5_isMinus_10 : decode cX5_isMinus 10 = .ok (.ifCond .eq 24, 3) := by decide +kernel
theorem dX5_isMinus_13 : decode cX5_isMinus 13 = .ok (.aload_n 0, 1) := by decide +kernel
theorem dX5_isMinus_14 : decode cX5_isMinus 14 = .ok (.getfield 11, 3) := by decide +kernel
theorem dX5_isMinus_17 : decode cX5_isMinus 17 = .ok (.iload_n 1, 1) := by decide +kernel
theorem dX5_isMinus_18 : decode cX5_isMinus 18 = .ok (.aaload, 1) := by decide +kernel
theorem dX5_isMinus_19 : decode cX5_isMinus 19 = .ok (.getfield 149, 3) := by decide +kernel
theorem dX5_isMinus_22 : decode cX5_isMinus 22 = .ok (.iload_n 2, 1) := by decide +kernel
theorem dX5_isMinus_23 : decode cX5_isMinus 23 = .ok (.daload, 1) := by decide +kernel
theorem dX5_isMinus_24 : decode cX5_isMinus 24 = .ok (.invokestatic 159, 3) := by decide +kernel
theorem dX5_isMinus_27 : decode cX5_isMinus 27 = .ok (.ifCond .eq 7, 3) := by decide +kernel
theorem dX5_isMinus_30 : decode cX5_isMinus 30 = .ok (.iconst 1, 1) := by decide +kernel
theorem dX5_isMinus_31 : decode cX5_isMinus 31 = .ok (.goto 4, 3) := by decide +kernel
theorem dX5_isMinus_34 : decode cX5_isMinus 34 = .ok (.iconst 0, 1) := by decide +kernel
theorem dX5_isMinus_35 : decode cX5_isMinus 35 = .ok (.ireturn, 1) := by decide +kernel
theorem dX5_bits_0 : decode cX5_bits 0 = .ok (.aload_n 0, 1) := by decide +kernel
theorem dX5_bits_1 : decode cX5_bits 1 = .ok (.invokevirtual 107, 3) := by decide +kernel
theorem dX5_bits_4 : decode cX5_bits 4 = .ok (.aload_n 0, 1) := by decide +kernel
theorem dX5_bits_5 : decode cX5_bits 5 = .ok (.iload_n 1, 1) := by decide +kernel
theorem dX5_bits_6 : decode cX5_bits 6 = .ok (.iload_n 2, 1) := by decide +kernel
theorem dX5_bits_7 : decode cX5_bits 7 = .ok (.invokevirtual 146, 3) := by decide +kernel
theorem dX5_bits_10 : decode cX5_bits 10 = .ok (.ifCond .ne 5, 3) := by decide +kernel
theorem dX5_bits_13 : decode cX5_bits 13 = .ok (.lconst 0, 1) := by decide +kernel
theorem dX5_bits_14 : decode cX5_bits 14 = .ok (.lreturn, 1) := by decide +kernel
theorem dX5_bits_15 : decode cX5_bits 15 = .ok (.aload_n 0, 1) := by decide +kernel
theorem dX5_bits_16 : decode cX5_bits 16 = .ok (.getfield 11, 3) := by decide +kernel
theorem dX5_bits_19 : decode cX5_bits 19 = .ok (.iload_n 1, 1) := by decide +kernel
theorem dX5_bits_20 : decode cX5_bits 20 = .ok (.aaload, 1) := by decide +kernel
theorem dX5_bits_21 : decode cX5_bits 21 = .ok (.astore_n 3, 1) := by decide +kernel
theorem dX5_bits_22 : decode cX5_bits 22 = .ok (.aload_n 0, 1) := by decide +kernel
theorem dX5_bits_23 : decode cX5_bits 23 = .ok (.getfield 25, 3) := by decide +kernel
theorem dX5_bits_26 : decode cX5_bits 26 = .ok (.getfield 58, 3) := by decide +kernel
theorem dX5_bits_29 : decode cX5_bits 29 = .ok (.aload_n 3, 1) := by decide +kernel
theorem dX5_bits_30 : decode cX5_bits 30 = .ok (.getfield 149, 3) := by decide +kernel
theorem dX5_bits_33 : decode cX5_bits 33 = .ok (.iload_n 2, 1) := by decide +kernel
theorem dX5_bits_34 : decode cX5_bits 34 = .ok (.daload, 1) := by decide +kernel
theorem dX5_bits_35 : decode cX5_bits 35 = .ok (.aload_n 3, 1) := by decide +kernel
theorem dX5_bits_36 : decode cX5_bits 36 = .ok (.getfield 110, 3) := by decide +kernel
theorem dX5_bits_39 : decode cX5_bits 39 = .ok (.invokevirtual 163, 3) := by decide +kernel
theorem dX5_bits_42 : decode cX5_bits 42 = .ok (.lreturn, 1) := by decide +kernel
theorem dX5_compared_0 : decode cX5_compared 0 = .ok (.iload_n 1, 1) := by decide +kernel
theorem dX5_compared_1 : decode cX5_compared 1 = .ok (.invokestatic 86, 3) := by decide +kernel
theorem dX5_compared_4 : decode cX5_compared 4 = .ok (.ifCond .eq 17, 3) := by decide +kernel
theorem dX5_compared_7 : decode cX5_compared 7 = .ok (.iload_n 2, 1) := by decide +kernel
theorem dX5_compared_8 : decode cX5_compared 8 = .ok (.invokestatic 89, 3) := by decide +kernel
theorem dX5_compared_11 : decode cX5_compared 11 = .ok (.ifCond .eq 10, 3) := by decide +kernel
theorem dX5_compared_14 : decode cX5_compared 14 = .ok (.iload_n 3, 1) := by decide +kernel
theorem dX5_compared_15 : decode cX5_compared 15 = .ok (.invokestatic 86, 3) := by decide +kernel
theorem dX5_compared_18 : decode cX5_compared 18 = .ok (.ifCond .ne 5, 3) := by decide +kernel
theorem dX5_compared_21 : decode cX5_compared 21 = .ok (.iconst (-1), 1) := by decide +kernel
theorem dX5_compared_22 : decode cX5_compared 22 = .ok (.ireturn, 1) := by decide +kernel
theorem dX5_compared_23 : decode cX5_compared 23 = .ok (.aload_n 0, 1) := by decide +kernel
theorem dX5_compared_24 : decode cX5_compared 24 = .ok (.invokevirtual 107, 3) := by decide +kernel
theorem dX5_compared_27 : decode cX5_compared 27 = .ok (.aload_n 0, 1) := by decide +kernel
theorem dX5_compared_28 : decode cX5_compared 28 = .ok (.iload_n 1, 1) := by decide +kernel
theorem dX5_compared_29 : decode cX5_compared 29 = .ok (.iload_n 2, 1) := by decide +kernel
theorem dX5_compared_30 : decode cX5_compared 30 = .ok (.iload_n 3, 1) := by decide +kernel
theorem dX5_compared_31 : decode cX5_compared 31 = .ok (.invokevirtual 138, 3) := by decide +kernel
theorem dX5_compared_34 : decode cX5_compared 34 = .ok (.invokestatic 167, 3) := by decide +kernel
theorem dX5_compared_37 : decode cX5_compared 37 = .ok (.ireturn, 1) := by decide +kernel
theorem dX5_alarmed_0 : decode cX5_alarmed 0 = .ok (.iload_n 1, 1) := by decide +kernel
theorem dX5_alarmed_1 : decode cX5_alarmed 1 = .ok (.ifCond .lt 11, 3) := by decide +kernel
theorem dX5_alarmed_4 : decode cX5_alarmed 4 = .ok (.iload_n 1, 1) := by decide +kernel
theorem dX5_alarmed_5 : decode cX5_alarmed 5 = .ok (.aload_n 0, 1) := by decide +kernel
theorem dX5_alarmed_6 : decode cX5_alarmed 6 = .ok (.getfield 37, 3) := by decide +kernel
theorem dX5_alarmed_9 : decode cX5_alarmed 9 = .ok (.if_icmp .lt 5, 3) := by decide +kernel
theorem dX5_alarmed_12 : decode cX5_alarmed 12 = .ok (.iconst (-1), 1) := by decide +kernel
theorem dX5_alarmed_13 : decode cX5_alarmed 13 = .ok (.ireturn, 1) := by decide +kernel
theorem dX5_alarmed_14 : decode cX5_alarmed 14 = .ok (.aload_n 0, 1) := by decide +kernel
theorem dX5_alarmed_15 : decode cX5_alarmed 15 = .ok (.getfield 18, 3) := by decide +kernel
theorem dX5_alarmed_18 : decode cX5_alarmed 18 = .ok (.iload_n 1, 1) := by decide +kernel
theorem dX5_alarmed_19 : decode cX5_alarmed 19 = .ok (.aaload, 1) := by decide +kernel
theorem dX5_alarmed_20 : decode cX5_alarmed 20 = .ok (.astore_n 3, 1) := by decide +kernel
theorem dX5_alarmed_21 : decode cX5_alarmed 21 = .ok (.aload_n 3, 1) := by decide +kernel
theorem dX5_alarmed_22 : decode cX5_alarmed 22 = .ok (.ifnonnull 7, 3) := by decide +kernel
theorem dX5_alarmed_25 : decode cX5_alarmed 25 = .ok (.iconst (-1), 1) := by decide +kernel
theorem dX5_alarmed_26 : decode cX5_alarmed 26 = .ok (.goto 8, 3) := by decide +kernel
theorem dX5_alarmed_29 : decode cX5_alarmed 29 = .ok (.aload_n 3, 1) := by decide +kernel
theorem dX5_alarmed_30 : decode cX5_alarmed 30 = .ok (.iload_n 2, 1) := by decide +kernel
theorem dX5_alarmed_31 : decode cX5_alarmed 31 = .ok (.invokevirtual 172, 3) := by decide +kernel
theorem dX5_alarmed_34 : decode cX5_alarmed 34 = .ok (.ireturn, 1) := by decide +kernel
theorem dX5_told_0 : decode cX5_told 0 = .ok (.iload_n 1, 1) := by decide +kernel
theorem dX5_told_1 : decode cX5_told 1 = .ok (.bipush 12, 2) := by decide +kernel
theorem dX5_told_3 : decode cX5_told 3 = .ok (.if_icmp .ne 9, 3) := by decide +kernel
theorem dX5_told_6 : decode cX5_told 6 = .ok (.aload_n 0, 1) := by decide +kernel
theorem dX5_told_7 : decode cX5_told 7 = .ok (.iload_n 2, 1) := by decide +kernel
theorem dX5_told_8 : decode cX5_told 8 = .ok (.invokevirtual 175, 3) := by decide +kernel
theorem dX5_told_11 : decode cX5_told 11 = .ok (.ireturn, 1) := by decide +kernel
theorem dX5_told_12 : decode cX5_told 12 = .ok (.aload_n 0, 1) := by decide +kernel
theorem dX5_told_13 : decode cX5_told 13 = .ok (.invokevirtual 107, 3) := by decide +kernel
theorem dX5_told_16 : decode cX5_told 16 = .ok (.iload_n 1, 1) := by decide +kernel
theorem dX5_told_17 : decode cX5_told 17 = .ok (.invokestatic 86, 3) := by decide +kernel
theorem dX5_told_20 : decode cX5_told 20 = .ok (.ifCond .eq 16, 3) := by decide +kernel
theorem dX5_told_23 : decode cX5_told 23 = .ok (.aload_n 0, 1) := by decide +kernel
theorem dX5_told_24 : decode cX5_told 24 = .ok (.getfield 11, 3) := by decide +kernel
theorem dX5_told_27 : decode cX5_told 27 = .ok (.iload_n 1, 1) := by decide +kernel
theorem dX5_told_28 : decode cX5_told 28 = .ok (.aaload, 1) := by decide +kernel
theorem dX5_told_29 : decode cX5_told 29 = .ok (.iload_n 2, 1) := by decide +kernel
theorem dX5_told_30 : decode cX5_told 30 = .ok (.invokestatic 178, 3) := by decide +kernel
theorem dX5_told_33 : decode cX5_told 33 = .ok (.goto 4, 3) := by decide +kernel
theorem dX5_told_36 : decode cX5_told 36 = .ok (.iconst (-1), 1) := by decide +kernel
theorem dX5_told_37 : decode cX5_told 37 = .ok (.ireturn, 1) := by decide +kernel
theorem dX5_toldOfBook_0 : decode cX5_toldOfBook 0 = .ok (.iload_n 1, 1) := by decide +kernel
theorem dX5_toldOfBook_1 : decode cX5_toldOfBook 1 = .ok (.tableswitch 42 0 2 #[27, 32, 37], 27) := by decide +kernel
theorem dX5_toldOfBook_28 : decode cX5_toldOfBook 28 = .ok (.aload_n 0, 1) := by decide +kernel
theorem dX5_toldOfBook_29 : decode cX5_toldOfBook 29 = .ok (.getfield 33, 3) := by decide +kernel
theorem dX5_toldOfBook_32 : decode cX5_toldOfBook 32 = .ok (.ireturn, 1) := by decide +kernel
theorem dX5_toldOfBook_33 : decode cX5_toldOfBook 33 = .ok (.aload_n 0, 1) := by decide +kernel
theorem dX5_toldOfBook_34 : decode cX5_toldOfBook 34 = .ok (.getfield 37, 3) := by decide +kernel
theorem dX5_toldOfBook_37 : decode cX5_toldOfBook 37 = .ok (.ireturn, 1) := by decide +kernel
theorem dX5_toldOfBook_38 : decode cX5_toldOfBook 38 = .ok (.aload_n 0, 1) := by decide +kernel
theorem dX5_toldOfBook_39 : decode cX5_toldOfBook 39 = .ok (.getfield 40, 3) := by decide +kernel
theorem dX5_toldOfBook_42 : decode cX5_toldOfBook 42 = .ok (.ireturn, 1) := by decide +kernel
theorem dX5_toldOfBook_43 : decode cX5_toldOfBook 43 = .ok (.iconst (-1), 1) := by decide +kernel
theorem dX5_toldOfBook_44 : decode cX5_toldOfBook 44 = .ok (.ireturn, 1) := by decide +kernel
theorem dX5_toldOfColumn_0 : decode cX5_toldOfColumn 0 = .ok (.iload_n 1, 1) := by decide +kernel
theorem dX5_toldOfColumn_1 : decode cX5_toldOfColumn 1 = .ok (.tableswitch 70 0 3 #[31, 44, 57, 65], 31) := by decide +kernel
theorem dX5_toldOfColumn_32 : decode cX5_toldOfColumn 32 = .ok (.aload_n 0, 1) := by decide +kernel
theorem dX5_toldOfColumn_33 : decode cX5_toldOfColumn 33 = .ok (.invokevirtual 104, 3) := by decide +kernel
theorem dX5_toldOfColumn_36 : decode cX5_toldOfColumn 36 = .ok (.ifCond .eq 7, 3) := by decide +kernel
theorem dX5_toldOfColumn_39 : decode cX5_toldOfColumn 39 = .ok (.iconst 1, 1) := by decide +kernel
theorem dX5_toldOfColumn_40 : decode cX5_toldOfColumn 40 = .ok (.goto 4, 3) := by decide +kernel
theorem dX5_toldOfColumn_43 : decode cX5_toldOfColumn 43 = .ok (.iconst 0, 1) := by decide +kernel
theorem dX5_toldOfColumn_44 : decode cX5_toldOfColumn 44 = .ok (.ireturn, 1) := by decide +kernel
theorem dX5_toldOfColumn_45 : decode cX5_toldOfColumn 45 = .ok (.aload_n 0, 1) := by decide +kernel
theorem dX5_toldOfColumn_46 : decode cX5_toldOfColumn 46 = .ok (.getfield 110, 3) := by decide +kernel
theorem dX5_toldOfColumn_49 : decode cX5_toldOfColumn 49 = .ok (.ifCond .eq 7, 3) := by decide +kernel
theorem dX5_toldOfColumn_52 : decode cX5_toldOfColumn 52 = .ok (.iconst 1, 1) := by decide +kernel
theorem dX5_toldOfColumn_53 : decode cX5_toldOfColumn 53 = .ok (.goto 4, 3) := by decide +kernel
theorem dX5_toldOfColumn_56 : decode cX5_toldOfColumn 56 = .ok (.iconst 0, 1) := by decide +kernel
theorem dX5_toldOfColumn_57 : decode cX5_toldOfColumn 57 = .ok (.ireturn, 1) := by decide +kernel
theorem dX5_toldOfColumn_58 : decode cX5_toldOfColumn 58 = .ok (.aload_n 0, 1) := by decide +kernel
theorem dX5_toldOfColumn_59 : decode cX5_toldOfColumn 59 = .ok (.getfield 182, 3) := by decide +kernel
theorem dX5_toldOfColumn_62 : decode cX5_toldOfColumn 62 = .ok (.invokestatic 167, 3) := by decide +kernel
theorem dX5_toldOfColumn_65 : decode cX5_toldOfColumn 65 = .ok (.ireturn, 1) := by decide +kernel
theorem dX5_toldOfColumn_66 : decode cX5_toldOfColumn 66 = .ok (.aload_n 0, 1) := by decide +kernel
theorem dX5_toldOfColumn_67 : decode cX5_toldOfColumn 67 = .ok (.getfield 92, 3) := by decide +kernel
theorem dX5_toldOfColumn_70 : decode cX5_toldOfColumn 70 = .ok (.ireturn, 1) := by decide +kernel
theorem dX5_toldOfColumn_71 : decode cX5_toldOfColumn 71 = .ok (.iconst (-1), 1) := by decide +kernel
theorem dX5_toldOfColumn_72 : decode cX5_toldOfColumn 72 = .ok (.ireturn, 1) := by decide +kernel
theorem dX5_isColumn_0 : decode cX5_isColumn 0 = .ok (.iload_n 0, 1) := by decide +kernel
theorem dX5_isColumn_1 : decode cX5_isColumn 1 = .ok (.ifCond .lt 13, 3) := by decide +kernel
theorem dX5_isColumn_4 : decode cX5_isColumn 4 = .ok (.iload_n 0, 1) := by decide +kernel
theorem dX5_isColumn_5 : decode cX5_isColumn 5 = .ok (.bipush 12, 2) := by decide +kernel
theorem dX5_isColumn_7 : decode cX5_isColumn 7 = .ok (.if_icmp .ge 7, 3) := by decide +kernel
theorem dX5_isColumn_10 : decode cX5_isColumn 10 = .ok (.iconst 1, 1) := by decide +kernel
theorem dX5_isColumn_11 : decode cX5_isColumn 11 = .ok (.goto 4, 3) := by decide +kernel
theorem dX5_isColumn_14 : decode cX5_isColumn 14 = .ok (.iconst 0, 1) := by decide +kernel
theorem dX5_isColumn_15 : decode cX5_isColumn 15 = .ok (.ireturn, 1) := by decide +kernel
theorem dX5_isPlace_0 : decode cX5_isPlace 0 = .ok (.iload_n 0, 1) := by decide +kernel
theorem dX5_isPlace_1 : decode cX5_isPlace 1 = .ok (.ifCond .lt 13, 3) := by decide +kernel
theorem dX5_isPlace_4 : decode cX5_isPlace 4 = .ok (.iload_n 0, 1) := by decide +kernel
theorem dX5_isPlace_5 : decode cX5_isPlace 5 = .ok (.bipush 16, 2) := by decide +kernel
theorem dX5_isPlace_7 : decode cX5_isPlace 7 = .ok (.if_icmp .ge 7, 3) := by decide +kernel
theorem dX5_isPlace_10 : decode cX5_isPlace 10 = .ok (.iconst 1, 1) := by decide +kernel
theorem dX5_isPlace_11 : decode cX5_isPlace 11 = .ok (.goto 4, 3) := by decide +kernel
theorem dX5_isPlace_14 : decode cX5_isPlace 14 = .ok (.iconst 0, 1) := by decide +kernel
theorem dX5_isPlace_15 : decode cX5_isPlace 15 = .ok (.ireturn, 1) := by decide +kernel
theorem dX5_isConstant_0 : decode cX5_isConstant 0 = .ok (.iload_n 0, 1) := by decide +kernel
theorem dX5_isConstant_1 : decode cX5_isConstant 1 = .ok (.ifCond .lt 13, 3) := by decide +kernel
theorem dX5_isConstant_4 : decode cX5_isConstant 4 = .ok (.iload_n 0, 1) := by decide +kernel
theorem dX5_isConstant_5 : decode cX5_isConstant 5 = .ok (.bipush 8, 2) := by decide +kernel
theorem dX5_isConstant_7 : decode cX5_isConstant 7 = .ok (.if_icmp .ge 7, 3) := by decide +kernel
theorem dX5_isConstant_10 : decode cX5_isConstant 10 = .ok (.iconst 1, 1) := by decide +kernel
theorem dX5_isConstant_11 : decode cX5_isConstant 11 = .ok (.goto 4, 3) := by decide +kernel
theorem dX5_isConstant_14 : decode cX5_isConstant 14 = .ok (.iconst 0, 1) := by decide +kernel
theorem dX5_isConstant_15 : decode cX5_isConstant 15 = .ok (.ireturn, 1) := by decide +kernel
theorem dX5_isComparison_0 : decode cX5_isComparison 0 = .ok (.iload_n 0, 1) := by decide +kernel
theorem dX5_isComparison_1 : decode cX5_isComparison 1 = .ok (.ifCond .lt 13, 3) := by decide +kernel
theorem dX5_isComparison_4 : decode cX5_isComparison 4 = .ok (.iload_n 0, 1) := by decide +kernel
theorem dX5_isComparison_5 : decode cX5_isComparison 5 = .ok (.bipush 12, 2) := by decide +kernel
theorem dX5_isComparison_7 : decode cX5_isComparison 7 = .ok (.if_icmp .ge 7, 3) := by decide +kernel
theorem dX5_isComparison_10 : decode cX5_isComparison 10 = .ok (.iconst 1, 1) := by decide +kernel
theorem dX5_isComparison_11 : decode cX5_isComparison 11 = .ok (.goto 4, 3) := by decide +kernel
theorem dX5_isComparison_14 : decode cX5_isComparison 14 = .ok (.iconst 0, 1) := by decide +kernel
theorem dX5_isComparison_15 : decode cX5_isComparison 15 = .ok (.ireturn, 1) := by decide +kernel
theorem dX5_isExponent_0 : decode cX5_isExponent 0 = .ok (.iload_n 0, 1) := by decide +kernel
theorem dX5_isExponent_1 : decode cX5_isExponent 1 = .ok (.sipush (-1000), 3) := by decide +kernel
theorem dX5_isExponent_4 : decode cX5_isExponent 4 = .ok (.if_icmp .lt 14, 3) := by decide +kernel
theorem dX5_isExponent_7 : decode cX5_isExponent 7 = .ok (.iload_n 0, 1) := by decide +kernel
theorem dX5_isExponent_8 : decode cX5_isExponent 8 = .ok (.sipush 900, 3) := by decide +kernel
theorem dX5_isExponent_11 : decode cX5_isExponent 11 = .ok (.if_icmp .gt 7, 3) := by decide +kernel
theorem dX5_isExponent_14 : decode cX5_isExponent 14 = .ok (.iconst 1, 1) := by decide +kernel
theorem dX5_isExponent_15 : decode cX5_isExponent 15 = .ok (.goto 4, 3) := by decide +kernel
theorem dX5_isExponent_18 : decode cX5_isExponent 18 = .ok (.iconst 0, 1) := by decide +kernel
theorem dX5_isExponent_19 : decode cX5_isExponent 19 = .ok (.ireturn, 1) := by decide +kernel
theorem dX5_isSpecial_0 : decode cX5_isSpecial 0 = .ok (.iload_n 0, 1) := by decide +kernel
theorem dX5_isSpecial_1 : decode cX5_isSpecial 1 = .ok (.ifCond .lt 12, 3) := by decide +kernel
theorem dX5_isSpecial_4 : decode cX5_isSpecial 4 = .ok (.iload_n 0, 1) := by decide +kernel
theorem dX5_isSpecial_5 : decode cX5_isSpecial 5 = .ok (.iconst 5, 1) := by decide +kernel
theorem dX5_isSpecial_6 : decode cX5_isSpecial 6 = .ok (.if_icmp .gt 7, 3) := by decide +kernel
theorem dX5_isSpecial_9 : decode cX5_isSpecial 9 = .ok (.iconst 1, 1) := by decide +kernel
theorem dX5_isSpecial_10 : decode cX5_isSpecial 10 = .ok (.goto 4, 3) := by decide +kernel
theorem dX5_isSpecial_13 : decode cX5_isSpecial 13 = .ok (.iconst 0, 1) := by decide +kernel
theorem dX5_isSpecial_14 : decode cX5_isSpecial 14 = .ok (.ireturn, 1) := by decide +kernel
theorem dX5_isFull_0 : decode cX5_isFull 0 = .ok (.aload_n 0, 1) := by decide +kernel
theorem dX5_isFull_1 : decode cX5_isFull 1 = .ok (.getfield 33, 3) := by decide +kernel
theorem dX5_isFull_4 : decode cX5_isFull 4 = .ok (.sipush 512, 3) := by decide +kernel
theorem dX5_isFull_7 : decode cX5_isFull 7 = .ok (.if_icmp .lt 7, 3) := by decide +kernel
theorem dX5_isFull_10 : decode cX5_isFull 10 = .ok (.iconst 1, 1) := by decide +kernel
theorem dX5_isFull_11 : decode cX5_isFull 11 = .ok (.goto 4, 3) := by decide +kernel
theorem dX5_isFull_14 : decode cX5_isFull 14 = .ok (.iconst 0, 1) := by decide +kernel
theorem dX5_isFull_15 : decode cX5_isFull 15 = .ok (.ireturn, 1) := by decide +kernel
theorem dX5_takesReading_0 : decode cX5_takesReading 0 = .ok (.iload_n 1, 1) := by decide +kernel
theorem dX5_takesReading_1 : decode cX5_takesReading 1 = .ok (.invokestatic 86, 3) := by decide +kernel
theorem dX5_takesReading_4 : decode cX5_takesReading 4 = .ok (.ifCond .eq 33, 3) := by decide +kernel
theorem dX5_takesReading_7 : decode cX5_takesReading 7 = .ok (.iload_n 2, 1) := by decide +kernel
theorem dX5_takesReading_8 : decode cX5_takesReading 8 = .ok (.invokestatic 153, 3) := by decide +kernel
theorem dX5_takesReading_11 : decode cX5_takesReading 11 = .ok (.ifCond .eq 26, 3) := by decide +kernel
theorem dX5_takesReading_14 : decode cX5_takesReading 14 = .ok (.aload_n 0, 1) := by decide +kernel
theorem dX5_takesReading_15 : decode cX5_takesReading 15 = .ok (.getfield 11, 3) := by decide +kernel
theorem dX5_takesReading_18 : decode cX5_takesReading 18 = .ok (.iload_n 1, 1) := by decide +kernel
theorem dX5_takesReading_19 : decode cX5_takesReading 19 = .ok (.aaload, 1) := by decide +kernel
theorem dX5_takesReading_20 : decode cX5_takesReading 20 = .ok (.invokevirtual 104, 3) := by decide +kernel
theorem dX5_takesReading_23 : decode cX5_takesReading 23 = .ok (.ifCond .ne 14, 3) := by decide +kernel
theorem dX5_takesReading_26 : decode cX5_takesReading 26 = .ok (.aload_n 0, 1) := by decide +kernel
theorem dX5_takesReading_27 : decode cX5_takesReading 27 = .ok (.invokevirtual 82, 3) := by decide +kernel
theorem dX5_takesReading_30 : decode cX5_takesReading 30 = .ok (.ifCond .ne 7, 3) := by decide +kernel
theorem dX5_takesReading_33 : decode cX5_takesReading 33 = .ok (.iconst 1, 1) := by decide +kernel
theorem dX5_takesReading_34 : decode cX5_takesReading 34 = .ok (.goto 4, 3) := by decide +kernel
theorem dX5_takesReading_37 : decode cX5_takesReading 37 = .ok (.iconst 0, 1) := by decide +kernel
theorem dX5_takesReading_38 : decode cX5_takesReading 38 = .ok (.ireturn, 1) := by decide +kernel
theorem dX5_isNumber_0 : decode cX5_isNumber 0 = .ok (.iload_n 1, 1) := by decide +kernel
theorem dX5_isNumber_1 : decode cX5_isNumber 1 = .ok (.invokestatic 86, 3) := by decide +kernel
theorem dX5_isNumber_4 : decode cX5_isNumber 4 = .ok (.ifCond .eq 27, 3) := by decide +kernel
theorem dX5_isNumber_7 : decode cX5_isNumber 7 = .ok (.iload_n 2, 1) := by decide +kernel
theorem dX5_isNumber_8 : decode cX5_isNumber 8 = .ok (.invokestatic 153, 3) := by decide +kernel
theorem dX5_isNumber_11 : decode cX5_isNumber 11 = .ok (.ifCond .eq 20, 3) := by decide +kernel
theorem dX5_isNumber_14 : decode cX5_isNumber 14 = .ok (.aload_n 0, 1) := by decide +kernel
theorem dX5_isNumber_15 : decode cX5_isNumber 15 = .ok (.getfield 11, 3) := by decide +kernel
theorem dX5_isNumber_18 : decode cX5_isNumber 18 = .ok (.iload_n 1, 1) := by decide +kernel
theorem dX5_isNumber_19 : decode cX5_isNumber 19 = .ok (.aaload, 1) := by decide +kernel
theorem dX5_isNumber_20 : decode cX5_isNumber 20 = .ok (.iload_n 2, 1) := by decide +kernel
theorem dX5_isNumber_21 : decode cX5_isNumber 21 = .ok (.invokevirtual 156, 3) := by decide +kernel
theorem dX5_isNumber_24 : decode cX5_isNumber 24 = .ok (.ifCond .ne 7, 3) := by decide +kernel
theorem dX5_isNumber_27 : decode cX5_isNumber 27 = .ok (.iconst 1, 1) := by decide +kernel
theorem dX5_isNumber_28 : decode cX5_isNumber 28 = .ok (.goto 4, 3) := by decide +kernel
theorem dX5_isNumber_31 : decode cX5_isNumber 31 = .ok (.iconst 0, 1) := by decide +kernel
theorem dX5_isNumber_32 : decode cX5_isNumber 32 = .ok (.ireturn, 1) := by decide +kernel
theorem dX5_changed_0 : decode cX5_changed 0 = .ok (.aload_n 0, 1) := by decide +kernel
theorem dX5_changed_1 : decode cX5_changed 1 = .ok (.getfield 11, 3) := by decide +kernel
theorem dX5_changed_4 : decode cX5_changed 4 = .ok (.iload_n 1, 1) := by decide +kernel
theorem dX5_changed_5 : decode cX5_changed 5 = .ok (.aaload, 1) := by decide +kernel
theorem dX5_changed_6 : decode cX5_changed 6 = .ok (.astore_n 2, 1) := by decide +kernel
theorem dX5_changed_7 : decode cX5_changed 7 = .ok (.aload_n 0, 1) := by decide +kernel
theorem dX5_changed_8 : decode cX5_changed 8 = .ok (.new 119, 3) := by decide +kernel
theorem dX5_changed_11 : decode cX5_changed 11 = .ok (.dup, 1) := by decide +kernel
theorem dX5_changed_12 : decode cX5_changed 12 = .ok (.iload_n 1, 1) := by decide +kernel
theorem dX5_changed_13 : decode cX5_changed 13 = .ok (.aload_n 2, 1) := by decide +kernel
theorem dX5_changed_14 : decode cX5_changed 14 = .ok (.aload_n 0, 1) := by decide +kernel
theorem dX5_changed_15 : decode cX5_changed 15 = .ok (.getfield 29, 3) := by decide +kernel
theorem dX5_changed_18 : decode cX5_changed 18 = .ok (.invokespecial 185, 3) := by decide +kernel
theorem dX5_changed_21 : decode cX5_changed 21 = .ok (.putfield 29, 3) := by decide +kernel
theorem dX5_changed_24 : decode cX5_changed 24 = .ok (.aload_n 0, 1) := by decide +kernel
theorem dX5_changed_25 : decode cX5_changed 25 = .ok (.dup, 1) := by decide +kernel
theorem dX5_changed_26 : decode cX5_changed 26 = .ok (.getfield 33, 3) := by decide +kernel
theorem dX5_changed_29 : decode cX5_changed 29 = .ok (.iconst 1, 1) := by decide +kernel
theorem dX5_changed_30 : decode cX5_changed 30 = .ok (.iadd, 1) := by decide +kernel
theorem dX5_changed_31 : decode cX5_changed 31 = .ok (.putfield 33, 3) := by decide +kernel
theorem dX5_changed_34 : decode cX5_changed 34 = .ok (.aload_n 2, 1) := by decide +kernel
theorem dX5_changed_35 : decode cX5_changed 35 = .ok (.invokevirtual 188, 3) := by decide +kernel
theorem dX5_changed_38 : decode cX5_changed 38 = .ok (.astore_n 3, 1) := by decide +kernel
theorem dX5_changed_39 : decode cX5_changed 39 = .ok (.aload_n 0, 1) := by decide +kernel
theorem dX5_changed_40 : decode cX5_changed 40 = .ok (.getfield 11, 3) := by decide +kernel
theorem dX5_changed_43 : decode cX5_changed 43 = .ok (.iload_n 1, 1) := by decide +kernel
theorem dX5_changed_44 : decode cX5_changed 44 = .ok (.aload_n 3, 1) := by decide +kernel
theorem dX5_changed_45 : decode cX5_changed 45 = .ok (.aastore, 1) := by decide +kernel
theorem dX5_changed_46 : decode cX5_changed 46 = .ok (.aload_n 0, 1) := by decide +kernel
theorem dX5_changed_47 : decode cX5_changed 47 = .ok (.dup, 1) := by decide +kernel
theorem dX5_changed_48 : decode cX5_changed 48 = .ok (.getfield 43, 3) := by decide +kernel
theorem dX5_changed_51 : decode cX5_changed 51 = .ok (.iconst 1, 1) := by decide +kernel
theorem dX5_changed_52 : decode cX5_changed 52 = .ok (.iload_n 1, 1) := by decide +kernel
theorem dX5_changed_53 : decode cX5_changed 53 = .ok (.ishl, 1) := by decide +kernel
theorem dX5_changed_54 : decode cX5_changed 54 = .ok (.ior, 1) := by decide +kernel
theorem dX5_changed_55 : decode cX5_changed 55 = .ok (.putfield 43, 3) := by decide +kernel
theorem dX5_changed_58 : decode cX5_changed 58 = .ok (.aload_n 3, 1) := by decide +kernel
theorem dX5_changed_59 : decode cX5_changed 59 = .ok (.areturn, 1) := by decide +kernel
theorem dX5_putSpecial_0 : decode cX5_putSpecial 0 = .ok (.ldc2_w 192, 3) := by decide +kernel
theorem dX5_putSpecial_3 : decode cX5_putSpecial 3 = .ok (.dstore_n 3, 1) := by decide +kernel
theorem dX5_putSpecial_4 : decode cX5_putSpecial 4 = .ok (.iload_n 2, 1) := by decide +kernel
theorem dX5_putSpecial_5 : decode cX5_putSpecial 5 = .ok (.tableswitch 113 1 5 #[35, 44, 54, 65, 89], 35) := by decide +kernel
theorem dX5_putSpecial_40 : decode cX5_putSpecial 40 = .ok (.aload_n 0, 1) := by decide +kernel
theorem dX5_putSpecial_41 : decode cX5_putSpecial 41 = .ok (.iload_n 1, 1) := by decide +kernel
theorem dX5_putSpecial_42 : decode cX5_putSpecial 42 = .ok (.dload_n 3, 1) := by decide +kernel
theorem dX5_putSpecial_43 : decode cX5_putSpecial 43 = .ok (.invokevirtual 68, 3) := by decide +kernel
theorem dX5_putSpecial_46 : decode cX5_putSpecial 46 = .ok (.goto 77, 3) := by decide +kernel
theorem dX5_putSpecial_49 : decode cX5_putSpecial 49 = .ok (.aload_n 0, 1) := by decide +kernel
theorem dX5_putSpecial_50 : decode cX5_putSpecial 50 = .ok (.iload_n 1, 1) := by decide +kernel
theorem dX5_putSpecial_51 : decode cX5_putSpecial 51 = .ok (.dload_n 3, 1) := by decide +kernel
theorem dX5_putSpecial_52 : decode cX5_putSpecial 52 = .ok (.dneg, 1) := by decide +kernel
theorem dX5_putSpecial_53 : decode cX5_putSpecial 53 = .ok (.invokevirtual 68, 3) := by decide +kernel
theorem dX5_putSpecial_56 : decode cX5_putSpecial 56 = .ok (.goto 67, 3) := by decide +kernel
theorem dX5_putSpecial_59 : decode cX5_putSpecial 59 = .ok (.aload_n 0, 1) := by decide +kernel
theorem dX5_putSpecial_60 : decode cX5_putSpecial 60 = .ok (.iload_n 1, 1) := by decide +kernel
theorem dX5_putSpecial_61 : decode cX5_putSpecial 61 = .ok (.ldc2_w 194, 3) := by decide +kernel
theorem dX5_putSpecial_64 : decode cX5_putSpecial 64 = .ok (.invokevirtual 68, 3) := by decide +kernel
theorem dX5_putSpecial_67 : decode cX5_putSpecial 67 = .ok (.goto 56, 3) := by decide +kernel
theorem dX5_putSpecial_70 : decode cX5_putSpecial 70 = .ok (.aload_n 0, 1) := by decide +kernel
theorem dX5_putSpecial_71 : decode cX5_putSpecial 71 = .ok (.iload_n 1, 1) := by decide +kernel
theorem dX5_putSpecial_72 : decode cX5_putSpecial 72 = .ok (.aload_n 0, 1) := by decide +kernel
theorem dX5_putSpecial_73 : decode cX5_putSpecial 73 = .ok (.getfield 110, 3) := by decide +kernel
theorem dX5_putSpecial_76 : decode cX5_putSpecial 76 = .ok (.ifCond .eq 9, 3) := by decide +kernel
theorem dX5_putSpecial_79 : decode cX5_putSpecial 79 = .ok (.ldc2_w 196, 3) := by decide +kernel
theorem dX5_putSpecial_82 : decode cX5_putSpecial 82 = .ok (.goto 6, 3) := by decide +kernel
theorem dX5_putSpecial_85 : decode cX5_putSpecial 85 = .ok (.ldc2_w 198, 3) := by decide +kernel
theorem dX5_putSpecial_88 : decode cX5_putSpecial 88 = .ok (.invokevirtual 68, 3) := by decide +kernel
theorem dX5_putSpecial_91 : decode cX5_putSpecial 91 = .ok (.goto 32, 3) := by decide +kernel
theorem dX5_putSpecial_94 : decode cX5_putSpecial 94 = .ok (.aload_n 0, 1) := by decide +kernel
theorem dX5_putSpecial_95 : decode cX5_putSpecial 95 = .ok (.iload_n 1, 1) := by decide +kernel
theorem dX5_putSpecial_96 : decode cX5_putSpecial 96 = .ok (.aload_n 0, 1) := by decide +kernel
theorem dX5_putSpecial_97 : decode cX5_putSpecial 97 = .ok (.getfield 110, 3) := by decide +kernel
theorem dX5_putSpecial_100 : decode cX5_putSpecial 100 = .ok (.ifCond .eq 9, 3) := by decide +kernel
theorem dX5_putSpecial_103 : decode cX5_putSpecial 103 = .ok (.ldc2_w 200, 3) := by decide +kernel
theorem dX5_putSpecial_106 : decode cX5_putSpecial 106 = .ok (.goto 6, 3) := by decide +kernel
theorem dX5_putSpecial_109 : decode cX5_putSpecial 109 = .ok (.ldc2_w 202, 3) := by decide +kernel
theorem dX5_putSpecial_112 : decode cX5_putSpecial 112 = .ok (.invokevirtual 68, 3) := by decide +kernel
theorem dX5_putSpecial_115 : decode cX5_putSpecial 115 = .ok (.goto 8, 3) := by decide +kernel
theorem dX5_putSpecial_118 : decode cX5_putSpecial 118 = .ok (.aload_n 0, 1) := by decide +kernel
theorem dX5_putSpecial_119 : decode cX5_putSpecial 119 = .ok (.iload_n 1, 1) := by decide +kernel
theorem dX5_putSpecial_120 : decode cX5_putSpecial 120 = .ok (.invokevirtual 204, 3) := by decide +kernel
theorem dX5_putSpecial_123 : decode cX5_putSpecial 123 = .ok (.return_, 1) := by decide +kernel
theorem dX5_settle_0 : decode cX5_settle 0 = .ok (.aload_n 0, 1) := by decide +kernel
theorem dX5_settle_1 : decode cX5_settle 1 = .ok (.getfield 43, 3) := by decide +kernel
theorem dX5_settle_4 : decode cX5_settle 4 = .ok (.ifCond .ne 4, 3) := by decide +kernel
theorem dX5_settle_7 : decode cX5_settle 7 = .ok (.return_, 1) := by decide +kernel
theorem dX5_settle_8 : decode cX5_settle 8 = .ok (.iconst 0, 1) := by decide +kernel
theorem dX5_settle_9 : decode cX5_settle 9 = .ok (.istore_n 1, 1) := by decide +kernel
theorem dX5_settle_10 : decode cX5_settle 10 = .ok (.iload_n 1, 1) := by decide +kernel
theorem dX5_settle_11 : decode cX5_settle 11 = .ok (.bipush 12, 2) := by decide +kernel
theorem dX5_settle_13 : decode cX5_settle 13 = .ok (.if_icmp .ge 59, 3) := by decide +kernel
theorem dX5_settle_16 : decode cX5_settle 16 = .ok (.aload_n 0, 1) := by decide +kernel
theorem dX5_settle_17 : decode cX5_settle 17 = .ok (.getfield 11, 3) := by decide +kernel
theorem dX5_settle_20 : decode cX5_settle 20 = .ok (.iload_n 1, 1) := by decide +kernel
theorem dX5_settle_21 : decode cX5_settle 21 = .ok (.aaload, 1) := by decide +kernel
theorem dX5_settle_22 : decode cX5_settle 22 = .ok (.astore_n 2, 1) := by decide +kernel
theorem dX5_settle_23 : decode cX5_settle 23 = .ok (.aload_n 2, 1) := by decide +kernel
theorem dX5_settle_24 : decode cX5_settle 24 = .ok (.invokevirtual 104, 3) := by decide +kernel
theorem dX5_settle_27 : decode cX5_settle 27 = .ok (.ifCond .eq 39, 3) := by decide +kernel
theorem dX5_settle_30 : decode cX5_settle 30 = .ok (.aload_n 2, 1) := by decide +kernel
theorem dX5_settle_31 : decode cX5_settle 31 = .ok (.aload_n 0, 1) := by decide +kernel
theorem dX5_settle_32 : decode cX5_settle 32 = .ok (.getfield 43, 3) := by decide +kernel
theorem dX5_settle_35 : decode cX5_settle 35 = .ok (.iload_n 1, 1) := by decide +kernel
theorem dX5_settle_36 : decode cX5_settle 36 = .ok (.invokevirtual 208, 3) := by decide +kernel
theorem dX5_settle_39 : decode cX5_settle 39 = .ok (.ifCond .eq 27, 3) := by decide +kernel
theorem dX5_settle_42 : decode cX5_settle 42 = .ok (.aload_n 0, 1) := by decide +kernel
theorem dX5_settle_43 : decode cX5_settle 43 = .ok (.getfield 25, 3) := by decide +kernel
theorem dX5_settle_46 : decode cX5_settle 46 = .ok (.aload_n 2, 1) := by decide +kernel
theorem dX5_settle_47 : decode cX5_settle 47 = .ok (.aload_n 0, 1) := by decide +kernel
theorem dX5_settle_48 : decode cX5_settle 48 = .ok (.getfield 11, 3) := by decide +kernel
theorem dX5_settle_51 : decode cX5_settle 51 = .ok (.invokevirtual 211, 3) := by decide +kernel
theorem dX5_settle_54 : decode cX5_settle 54 = .ok (.aload_n 0, 1) := by decide +kernel
theorem dX5_settle_55 : decode cX5_settle 55 = .ok (.dup, 1) := by decide +kernel
theorem dX5_settle_56 : decode cX5_settle 56 = .ok (.getfield 43, 3) := by decide +kernel
theorem dX5_settle_59 : decode cX5_settle 59 = .ok (.iconst 1, 1) := by decide +kernel
theorem dX5_settle_60 : decode cX5_settle 60 = .ok (.iload_n 1, 1) := by decide +kernel
theorem dX5_settle_61 : decode cX5_settle 61 = .ok (.ishl, 1) := by decide +kernel
theorem dX5_settle_62 : decode cX5_settle 62 = .ok (.ior, 1) := by decide +kernel
theorem dX5_settle_63 : decode cX5_settle 63 = .ok (.putfield 43, 3) := by decide +kernel
theorem dX5_settle_66 : decode cX5_settle 66 = .ok (.iinc 1 1, 3) := by decide +kernel
theorem dX5_settle_69 : decode cX5_settle 69 = .ok (.goto (-59), 3) := by decide +kernel
theorem dX5_settle_72 : decode cX5_settle 72 = .ok (.aload_n 0, 1) := by decide +kernel
theorem dX5_settle_73 : decode cX5_settle 73 = .ok (.iconst 0, 1) := by decide +kernel
theorem dX5_settle_74 : decode cX5_settle 74 = .ok (.putfield 43, 3) := by decide +kernel
theorem dX5_settle_77 : decode cX5_settle 77 = .ok (.return_, 1) := by decide +kernel
theorem dX5_placesWhere_0 : decode cX5_placesWhere 0 = .ok (.iload_n 3, 1) := by decide +kernel
theorem dX5_placesWhere_1 : decode cX5_placesWhere 1 = .ok (.bipush 16, 2) := by decide +kernel
theorem dX5_placesWhere_3 : decode cX5_placesWhere 3 = .ok (.if_icmp .lt 7, 3) := by decide +kernel
theorem dX5_placesWhere_6 : decode cX5_placesWhere 6 = .ok (.iconst 1, 1) := by decide +kernel
theorem dX5_placesWhere_7 : decode cX5_placesWhere 7 = .ok (.goto 4, 3) := by decide +kernel
theorem dX5_placesWhere_10 : decode cX5_placesWhere 10 = .ok (.iconst 0, 1) := by decide +kernel
theorem dX5_placesWhere_11 : decode cX5_placesWhere 11 = .ok (.istore 4, 2) := by decide +kernel
theorem dX5_placesWhere_13 : decode cX5_placesWhere 13 = .ok (.aload_n 0, 1) := by decide +kernel
theorem dX5_placesWhere_14 : decode cX5_placesWhere 14 = .ok (.getfield 11, 3) := by decide +kernel
theorem dX5_placesWhere_17 : decode cX5_placesWhere 17 = .ok (.iload_n 1, 1) := by decide +kernel
theorem dX5_placesWhere_18 : decode cX5_placesWhere 18 = .ok (.aaload, 1) := by decide +kernel
theorem dX5_placesWhere_19 : decode cX5_placesWhere 19 = .ok (.astore 5, 2) := by decide +kernel
theorem dX5_placesWhere_21 : decode cX5_placesWhere 21 = .ok (.iload 4, 2) := by decide +kernel
theorem dX5_placesWhere_23 : decode cX5_placesWhere 23 = .ok (.ifCond .eq 13, 3) := by decide +kernel
theorem dX5_placesWhere_26 : decode cX5_placesWhere 26 = .ok (.aload_n 0, 1) := by decide +kernel
theorem dX5_placesWhere_27 : decode cX5_placesWhere 27 = .ok (.getfield 11, 3) := by decide +kernel
theorem dX5_placesWhere_30 : decode cX5_placesWhere 30 = .ok (.bipush 12, 2) := by decide +kernel
theorem dX5_placesWhere_32 : decode cX5_placesWhere 32 = .ok (.aaload, 1) := by decide +kernel
theorem dX5_placesWhere_33 : decode cX5_placesWhere 33 = .ok (.goto 9, 3) := by decide +kernel
theorem dX5_placesWhere_36 : decode cX5_placesWhere 36 = .ok (.aload_n 0, 1) := by decide +kernel
theorem dX5_placesWhere_37 : decode cX5_placesWhere 37 = .ok (.getfield 11, 3) := by decide +kernel
theorem dX5_placesWhere_40 : decode cX5_placesWhere 40 = .ok (.iload_n 3, 1) := by decide +kernel
theorem dX5_placesWhere_41 : decode cX5_placesWhere 41 = .ok (.aaload, 1) := by decide +kernel
theorem dX5_placesWhere_42 : decode cX5_placesWhere 42 = .ok (.astore 6, 2) := by decide +kernel
theorem dX5_placesWhere_44 : decode cX5_placesWhere 44 = .ok (.iconst 0, 1) := by decide +kernel
theorem dX5_placesWhere_45 : decode cX5_placesWhere 45 = .ok (.istore 7, 2) := by decide +kernel
theorem dX5_placesWhere_47 : decode cX5_placesWhere 47 = .ok (.iconst 0, 1) := by decide +kernel
theorem dX5_placesWhere_48 : decode cX5_placesWhere 48 = .ok (.istore 8, 2) := by decide +kernel
theorem dX5_placesWhere_50 : decode cX5_placesWhere 50 = .ok (.iload 8, 2) := by decide +kernel
theorem dX5_placesWhere_52 : decode cX5_placesWhere 52 = .ok (.bipush 16, 2) := by decide +kernel
theorem dX5_placesWhere_54 : decode cX5_placesWhere 54 = .ok (.if_icmp .ge 45, 3) := by decide +kernel
theorem dX5_placesWhere_57 : decode cX5_placesWhere 57 = .ok (.iload_n 2, 1) := by decide +kernel
theorem dX5_placesWhere_58 : decode cX5_placesWhere 58 = .ok (.aload 5, 2) := by decide +kernel
theorem dX5_placesWhere_60 : decode cX5_placesWhere 60 = .ok (.iload 8, 2) := by decide +kernel
theorem dX5_placesWhere_62 : decode cX5_placesWhere 62 = .ok (.aload 6, 2) := by decide +kernel
theorem dX5_placesWhere_64 : decode cX5_placesWhere 64 = .ok (.iload 4, 2) := by decide +kernel
theorem dX5_placesWhere_66 : decode cX5_placesWhere 66 = .ok (.ifCond .eq 10, 3) := by decide +kernel
theorem dX5_placesWhere_69 : decode cX5_placesWhere 69 = .ok (.iload_n 3, 1) := by decide +kernel
theorem dX5_placesWhere_70 : decode cX5_placesWhere 70 = .ok (.bipush 16, 2) := by decide +kernel
theorem dX5_placesWhere_72 : decode cX5_placesWhere 72 = .ok (.isub, 1) := by decide +kernel
theorem dX5_placesWhere_73 : decode cX5_placesWhere 73 = .ok (.goto 5, 3) := by decide +kernel
theorem dX5_placesWhere_76 : decode cX5_placesWhere 76 = .ok (.iload 8, 2) := by decide +kernel
theorem dX5_placesWhere_78 : decode cX5_placesWhere 78 = .ok (.invokestatic 215, 3) := by decide +kernel
theorem dX5_placesWhere_81 : decode cX5_placesWhere 81 = .ok (.ifCond .eq 12, 3) := by decide +kernel
theorem dX5_placesWhere_84 : decode cX5_placesWhere 84 = .ok (.iload 7, 2) := by decide +kernel
theorem dX5_placesWhere_86 : decode cX5_placesWhere 86 = .ok (.iconst 1, 1) := by decide +kernel
theorem dX5_placesWhere_87 : decode cX5_placesWhere 87 = .ok (.iload 8, 2) := by decide +kernel
theorem dX5_placesWhere_89 : decode cX5_placesWhere 89 = .ok (.ishl, 1) := by decide +kernel
theorem dX5_placesWhere_90 : decode cX5_placesWhere 90 = .ok (.ior, 1) := by decide +kernel
theorem dX5_placesWhere_91 : decode cX5_placesWhere 91 = .ok (.istore 7, 2) := by decide +kernel
theorem dX5_placesWhere_93 : decode cX5_placesWhere 93 = .ok (.iinc 8 1, 3) := by decide +kernel
theorem dX5_placesWhere_96 : decode cX5_placesWhere 96 = .ok (.goto (-46), 3) := by decide +kernel
theorem dX5_placesWhere_99 : decode cX5_placesWhere 99 = .ok (.iload 7, 2) := by decide +kernel
theorem dX5_placesWhere_101 : decode cX5_placesWhere 101 = .ok (.ireturn, 1) := by decide +kernel
theorem dX5_isSo_0 : decode cX5_isSo 0 = .ok (.iload_n 0, 1) := by decide +kernel
theorem dX5_isSo_1 : decode cX5_isSo 1 = .ok (.bipush 6, 2) := by decide +kernel
theorem dX5_isSo_3 : decode cX5_isSo 3 = .ok (.if_icmp .lt 7, 3) := by decide +kernel
theorem dX5_isSo_6 : decode cX5_isSo 6 = .ok (.iconst 1, 1) := by decide +kernel
theorem dX5_isSo_7 : decode cX5_isSo 7 = .ok (.goto 4, 3) := by decide +kernel
theorem dX5_isSo_10 : decode cX5_isSo 10 = .ok (.iconst 0, 1) := by decide +kernel
theorem dX5_isSo_11 : decode cX5_isSo 11 = .ok (.istore 5, 2) := by decide +kernel
theorem dX5_isSo_13 : decode cX5_isSo 13 = .ok (.iload 5, 2) := by decide +kernel
theorem dX5_isSo_15 : decode cX5_isSo 15 = .ok (.ifCond .eq 10, 3) := by decide +kernel
theorem dX5_isSo_18 : decode cX5_isSo 18 = .ok (.iload_n 0, 1) := by decide +kernel
theorem dX5_isSo_19 : decode cX5_isSo 19 = .ok (.bipush 6, 2) := by decide +kernel
theorem dX5_isSo_21 : decode cX5_isSo 21 = .ok (.isub, 1) := by decide +kernel
theorem dX5_isSo_22 : decode cX5_isSo 22 = .ok (.goto 4, 3) := by decide +kernel
theorem dX5_isSo_25 : decode cX5_isSo 25 = .ok (.iload_n 0, 1) := by decide +kernel
theorem dX5_isSo_26 : decode cX5_isSo 26 = .ok (.istore 6, 2) := by decide +kernel
theorem dX5_isSo_28 : decode cX5_isSo 28 = .ok (.aload_n 1, 1) := by decide +kernel
theorem dX5_isSo_29 : decode cX5_isSo 29 = .ok (.iload_n 2, 1) := by decide +kernel
theorem dX5_isSo_30 : decode cX5_isSo 30 = .ok (.invokevirtual 156, 3) := by decide +kernel
theorem dX5_isSo_33 : decode cX5_isSo 33 = .ok (.ifCond .ne 12, 3) := by decide +kernel
theorem dX5_isSo_36 : decode cX5_isSo 36 = .ok (.aload_n 3, 1) := by decide +kernel
theorem dX5_isSo_37 : decode cX5_isSo 37 = .ok (.iload 4, 2) := by decide +kernel
theorem dX5_isSo_39 : decode cX5_isSo 39 = .ok (.invokevirtual 156, 3) := by decide +kernel
theorem dX5_isSo_42 : decode cX5_isSo 42 = .ok (.ifCond .eq 19, 3) := by decide +kernel
theorem dX5_isSo_45 : decode cX5_isSo 45 = .ok (.iload 6, 2) := by decide +kernel
theorem dX5_isSo_47 : decode cX5_isSo 47 = .ok (.iconst 5, 1) := by decide +kernel
theorem dX5_isSo_48 : decode cX5_isSo 48 = .ok (.if_icmp .ne 7, 3) := by decide +kernel
theorem dX5_isSo_51 : decode cX5_isSo 51 = .ok (.iconst 1, 1) := by decide +kernel
theorem dX5_isSo_52 : decode cX5_isSo 52 = .ok (.goto 4, 3) := by decide +kernel
theorem dX5_isSo_55 : decode cX5_isSo 55 = .ok (.iconst 0, 1) := by decide +kernel
theorem dX5_isSo_56 : decode cX5_isSo 56 = .ok (.istore 7, 2) := by decide +kernel
theorem dX5_isSo_58 : decode cX5_isSo 58 = .ok (.goto 23, 3) := by decide +kernel
theorem dX5_isSo_61 : decode cX5_isSo 61 = .ok (.iload 6, 2) := by decide +kernel
theorem dX5_isSo_63 : decode cX5_isSo 63 = .ok (.aload_n 1, 1) := by decide +kernel
theorem dX5_isSo_64 : decode cX5_isSo 64 = .ok (.getfield 149, 3) := by decide +kernel
theorem dX5_isSo_67 : decode cX5_isSo 67 = .ok (.iload_n 2, 1) := by decide +kernel
theorem dX5_isSo_68 : decode cX5_isSo 68 = .ok (.daload, 1) := by decide +kernel
theorem dX5_isSo_69 : decode cX5_isSo 69 = .ok (.aload_n 3, 1) := by decide +kernel
theorem dX5_isSo_70 : decode cX5_isSo 70 = .ok (.getfield 149, 3) := by decide +kernel
theorem dX5_isSo_73 : decode cX5_isSo 73 = .ok (.iload 4, 2) := by decide +kernel
theorem dX5_isSo_75 : decode cX5_isSo 75 = .ok (.daload, 1) := by decide +kernel
theorem dX5_isSo_76 : decode cX5_isSo 76 = .ok (.invokestatic 219, 3) := by decide +kernel
theorem dX5_isSo_79 : decode cX5_isSo 79 = .ok (.istore 7, 2) := by decide +kernel
theorem dX5_isSo_81 : decode cX5_isSo 81 = .ok (.iload 7, 2) := by decide +kernel
theorem dX5_isSo_83 : decode cX5_isSo 83 = .ok (.iload 5, 2) := by decide +kernel
theorem dX5_isSo_85 : decode cX5_isSo 85 = .ok (.if_icmp .eq 7, 3) := by decide +kernel
theorem dX5_isSo_88 : decode cX5_isSo 88 = .ok (.iconst 1, 1) := by decide +kernel
theorem dX5_isSo_89 : decode cX5_isSo 89 = .ok (.goto 4, 3) := by decide +kernel
theorem dX5_isSo_92 : decode cX5_isSo 92 = .ok (.iconst 0, 1) := by decide +kernel
theorem dX5_isSo_93 : decode cX5_isSo 93 = .ok (.ireturn, 1) := by decide +kernel
theorem dX5_isSoOfNumbers_0 : decode cX5_isSoOfNumbers 0 = .ok (.iload_n 0, 1) := by decide +kernel
theorem dX5_isSoOfNumbers_1 : decode cX5_isSoOfNumbers 1 = .ok (.tableswitch 95 0 4 #[35, 47, 59, 71, 83], 35) := by decide +kernel
theorem dX5_isSoOfNumbers_36 : decode cX5_isSoOfNumbers 36 = .ok (.dload_n 1, 1) := by decide +kernel
theorem dX5_isSoOfNumbers_37 : decode cX5_isSoOfNumbers 37 = .ok (.dload_n 3, 1) := by decide +kernel
theorem dX5_isSoOfNumbers_38 : decode cX5_isSoOfNumbers 38 = .ok (.dcmp .g, 1) := by decide +kernel
theorem dX5_isSoOfNumbers_39 : decode cX5_isSoOfNumbers 39 = .ok (.ifCond .ge 7, 3) := by decide +kernel
theorem dX5_isSoOfNumbers_42 : decode cX5_isSoOfNumbers 42 = .ok (.iconst 1, 1) := by decide +kernel
theorem dX5_isSoOfNumbers_43 : decode cX5_isSoOfNumbers 43 = .ok (.goto 4, 3) := by decide +kernel
theorem dX5_isSoOfNumbers_46 : decode cX5_isSoOfNumbers 46 = .ok (.iconst 0, 1) := by decide +kernel
theorem dX5_isSoOfNumbers_47 : decode cX5_isSoOfNumbers 47 = .ok (.ireturn, 1) := by decide +kernel
theorem dX5_isSoOfNumbers_48 : decode cX5_isSoOfNumbers 48 = .ok (.dload_n 1, 1) := by decide +kernel
theorem dX5_isSoOfNumbers_49 : decode cX5_isSoOfNumbers 49 = .ok (.dload_n 3, 1) := by decide +kernel
theorem dX5_isSoOfNumbers_50 : decode cX5_isSoOfNumbers 50 = .ok (.dcmp .g, 1) := by decide +kernel
theorem dX5_isSoOfNumbers_51 : decode cX5_isSoOfNumbers 51 = .ok (.ifCond .gt 7, 3) := by decide +kernel
theorem dX5_isSoOfNumbers_54 : decode cX5_isSoOfNumbers 54 = .ok (.iconst 1, 1) := by decide +kernel
theorem dX5_isSoOfNumbers_55 : decode cX5_isSoOfNumbers 55 = .ok (.goto 4, 3) := by decide +kernel
theorem dX5_isSoOfNumbers_58 : decode cX5_isSoOfNumbers 58 = .ok (.iconst 0, 1) := by decide +kernel
theorem dX5_isSoOfNumbers_59 : decode cX5_isSoOfNumbers 59 = .ok (.ireturn, 1) := by decide +kernel
theorem dX5_isSoOfNumbers_60 : decode cX5_isSoOfNumbers 60 = .ok (.dload_n 1, 1) := by decide +kernel
theorem dX5_isSoOfNumbers_61 : decode cX5_isSoOfNumbers 61 = .ok (.dload_n 3, 1) := by decide +kernel
theorem dX5_isSoOfNumbers_62 : decode cX5_isSoOfNumbers 62 = .ok (.dcmp .l, 1) := by decide +kernel
theorem dX5_isSoOfNumbers_63 : decode cX5_isSoOfNumbers 63 = .ok (.ifCond .le 7, 3) := by decide +kernel
theorem dX5_isSoOfNumbers_66 : decode cX5_isSoOfNumbers 66 = .ok (.iconst 1, 1) := by decide +kernel
theorem dX5_isSoOfNumbers_67 : decode cX5_isSoOfNumbers 67 = .ok (.goto 4, 3) := by decide +kernel
theorem dX5_isSoOfNumbers_70 : decode cX5_isSoOfNumbers 70 = .ok (.iconst 0, 1) := by decide +kernel
theorem dX5_isSoOfNumbers_71 : decode cX5_isSoOfNumbers 71 = .ok (.ireturn, 1) := by decide +kernel
theorem dX5_isSoOfNumbers_72 : decode cX5_isSoOfNumbers 72 = .ok (.dload_n 1, 1) := by decide +kernel
theorem dX5_isSoOfNumbers_73 : decode cX5_isSoOfNumbers 73 = .ok (.dload_n 3, 1) := by decide +kernel
theorem dX5_isSoOfNumbers_74 : decode cX5_isSoOfNumbers 74 = .ok (.dcmp .l, 1) := by decide +kernel
theorem dX5_isSoOfNumbers_75 : decode cX5_isSoOfNumbers 75 = .ok (.ifCond .lt 7, 3) := by decide +kernel
theorem dX5_isSoOfNumbers_78 : decode cX5_isSoOfNumbers 78 = .ok (.iconst 1, 1) := by decide +kernel
theorem dX5_isSoOfNumbers_79 : decode cX5_isSoOfNumbers 79 = .ok (.goto 4, 3) := by decide +kernel
theorem dX5_isSoOfNumbers_82 : decode cX5_isSoOfNumbers 82 = .ok (.iconst 0, 1) := by decide +kernel
theorem dX5_isSoOfNumbers_83 : decode cX5_isSoOfNumbers 83 = .ok (.ireturn, 1) := by decide +kernel
theorem dX5_isSoOfNumbers_84 : decode cX5_isSoOfNumbers 84 = .ok (.dload_n 1, 1) := by decide +kernel
theorem dX5_isSoOfNumbers_85 : decode cX5_isSoOfNumbers 85 = .ok (.dload_n 3, 1) := by decide +kernel
theorem dX5_isSoOfNumbers_86 : decode cX5_isSoOfNumbers 86 = .ok (.dcmp .l, 1) := by decide +kernel
theorem dX5_isSoOfNumbers_87 : decode cX5_isSoOfNumbers 87 = .ok (.ifCond .ne 7, 3) := by decide +kernel
theorem dX5_isSoOfNumbers_90 : decode cX5_isSoOfNumbers 90 = .ok (.iconst 1, 1) := by decide +kernel
theorem dX5_isSoOfNumbers_91 : decode cX5_isSoOfNumbers 91 = .ok (.goto 4, 3) := by decide +kernel
theorem dX5_isSoOfNumbers_94 : decode cX5_isSoOfNumbers 94 = .ok (.iconst 0, 1) := by decide +kernel
theorem dX5_isSoOfNumbers_95 : decode cX5_isSoOfNumbers 95 = .ok (.ireturn, 1) := by decide +kernel
theorem dX5_isSoOfNumbers_96 : decode cX5_isSoOfNumbers 96 = .ok (.dload_n 1, 1) := by decide +kernel
theorem dX5_isSoOfNumbers_97 : decode cX5_isSoOfNumbers 97 = .ok (.dload_n 3, 1) := by decide +kernel
theorem dX5_isSoOfNumbers_98 : decode cX5_isSoOfNumbers 98 = .ok (.dcmp .l, 1) := by decide +kernel
theorem dX5_isSoOfNumbers_99 : decode cX5_isSoOfNumbers 99 = .ok (.ifCond .eq 7, 3) := by decide +kernel
theorem dX5_isSoOfNumbers_102 : decode cX5_isSoOfNumbers 102 = .ok (.iconst 1, 1) := by decide +kernel
theorem dX5_isSoOfNumbers_103 : decode cX5_isSoOfNumbers 103 = .ok (.goto 4, 3) := by decide +kernel
theorem dX5_isSoOfNumbers_106 : decode cX5_isSoOfNumbers 106 = .ok (.iconst 0, 1) := by decide +kernel
theorem dX5_isSoOfNumbers_107 : decode cX5_isSoOfNumbers 107 = .ok (.ireturn, 1) := by decide +kernel
theorem dX5_hasMinus_0 : decode cX5_hasMinus 0 = .ok (.dload_n 0, 1) := by decide +kernel
theorem dX5_hasMinus_1 : decode cX5_hasMinus 1 = .ok (.dconst 0, 1) := by decide +kernel
theorem dX5_hasMinus_2 : decode cX5_hasMinus 2 = .ok (.dcmp .g, 1) := by decide +kernel
theorem dX5_hasMinus_3 : decode cX5_hasMinus 3 = .ok (.ifCond .lt 17, 3) := by decide +kernel
theorem dX5_hasMinus_6 : decode cX5_hasMinus 6 = .ok (.dload_n 0, 1) := by decide +kernel
theorem dX5_hasMinus_7 : decode cX5_hasMinus 7 = .ok (.dconst 0, 1) := by decide +kernel
theorem dX5_hasMinus_8 : decode cX5_hasMinus 8 = .ok (.dcmp .l, 1) := by decide +kernel
theorem dX5_hasMinus_9 : decode cX5_hasMinus 9 = .ok (.ifCond .ne 15, 3) := by decide +kernel
theorem dX5_hasMinus_12 : decode cX5_hasMinus 12 = .ok (.dconst 1, 1) := by decide +kernel
theorem dX5_hasMinus_13 : decode cX5_hasMinus 13 = .ok (.dload_n 0, 1) := by decide +kernel
theorem dX5_hasMinus_14 : decode cX5_hasMinus 14 = .ok (.ddiv, 1) := by decide +kernel
theorem dX5_hasMinus_15 : decode cX5_hasMinus 15 = .ok (.dconst 0, 1) := by decide +kernel
theorem dX5_hasMinus_16 : decode cX5_hasMinus 16 = .ok (.dcmp .g, 1) := by decide +kernel
theorem dX5_hasMinus_17 : decode cX5_hasMinus 17 = .ok (.ifCond .ge 7, 3) := by decide +kernel
theorem dX5_hasMinus_20 : decode cX5_hasMinus 20 = .ok (.iconst 1, 1) := by decide +kernel
theorem dX5_hasMinus_21 : decode cX5_hasMinus 21 = .ok (.goto 4, 3) := by decide +kernel
theorem dX5_hasMinus_24 : decode cX5_hasMinus 24 = .ok (.iconst 0, 1) := by decide +kernel
theorem dX5_hasMinus_25 : decode cX5_hasMinus 25 = .ok (.ireturn, 1) := by decide +kernel
theorem dX5_isInfinite_0 : decode cX5_isInfinite 0 = .ok (.dload_n 0, 1) := by decide +kernel
theorem dX5_isInfinite_1 : decode cX5_isInfinite 1 = .ok (.ldc2_w 198, 3) := by decide +kernel
theorem dX5_isInfinite_4 : decode cX5_isInfinite 4 = .ok (.dcmp .l, 1) := by decide +kernel
theorem dX5_isInfinite_5 : decode cX5_isInfinite 5 = .ok (.ifCond .gt 11, 3) := by decide +kernel
theorem dX5_isInfinite_8 : decode cX5_isInfinite 8 = .ok (.dload_n 0, 1) := by decide +kernel
theorem dX5_isInfinite_9 : decode cX5_isInfinite 9 = .ok (.ldc2_w 223, 3) := by decide +kernel
theorem dX5_isInfinite_12 : decode cX5_isInfinite 12 = .ok (.dcmp .g, 1) := by decide +kernel
theorem dX5_isInfinite_13 : decode cX5_isInfinite 13 = .ok (.ifCond .ge 7, 3) := by decide +kernel
theorem dX5_isInfinite_16 : decode cX5_isInfinite 16 = .ok (.iconst 1, 1) := by decide +kernel
theorem dX5_isInfinite_17 : decode cX5_isInfinite 17 = .ok (.goto 4, 3) := by decide +kernel
theorem dX5_isInfinite_20 : decode cX5_isInfinite 20 = .ok (.iconst 0, 1) := by decide +kernel
theorem dX5_isInfinite_21 : decode cX5_isInfinite 21 = .ok (.ireturn, 1) := by decide +kernel
theorem dJ6_bitCount_0f7a4_0 : decode cJ6_bitCount_0f7a4 0 = .ok (.iload_n 0, 1) := by decide +kernel
theorem dJ6_bitCount_0f7a4_1 : decode cJ6_bitCount_0f7a4 1 = .ok (.iload_n 0, 1) := by decide +kernel
theorem dJ6_bitCount_0f7a4_2 : decode cJ6_bitCount_0f7a4 2 = .ok (.iconst 1, 1) := by decide +kernel
theorem dJ6_bitCount_0f7a4_3 : decode cJ6_bitCount_0f7a4 3 = .ok (.iushr, 1) := by decide +kernel
theorem dJ6_bitCount_0f7a4_4 : decode cJ6_bitCount_0f7a4 4 = .ok (.ldc_w 265, 3) := by decide +kernel
theorem dJ6_bitCount_0f7a4_7 : decode cJ6_bitCount_0f7a4 7 = .ok (.iand, 1) := by decide +kernel
theorem dJ6_bitCount_0f7a4_8 : decode cJ6_bitCount_0f7a4 8 = .ok (.isub, 1) := by decide +kernel
theorem dJ6_bitCount_0f7a4_9 : decode cJ6_bitCount_0f7a4 9 = .ok (.istore_n 0, 1) := by decide +kernel
theorem dJ6_bitCount_0f7a4_10 : decode cJ6_bitCount_0f7a4 10 = .ok (.iload_n 0, 1) := by decide +kernel
theorem dJ6_bitCount_0f7a4_11 : decode cJ6_bitCount_0f7a4 11 = .ok (.ldc_w 266, 3) := by decide +kernel
theorem dJ6_bitCount_0f7a4_14 : decode cJ6_bitCount_0f7a4 14 = .ok (.iand, 1) := by decide +kernel
theorem dJ6_bitCount_0f7a4_15 : decode cJ6_bitCount_0f7a4 15 = .ok (.iload_n 0, 1) := by decide +kernel
theorem dJ6_bitCount_0f7a4_16 : decode cJ6_bitCount_0f7a4 16 = .ok (.iconst 2, 1) := by decide +kernel
theorem dJ6_bitCount_0f7a4_17 : decode cJ6_bitCount_0f7a4 17 = .ok (.iushr, 1) := by decide +kernel
theorem dJ6_bitCount_0f7a4_18 : decode cJ6_bitCount_0f7a4 18 = .ok (.ldc_w 266, 3) := by decide +kernel
theorem dJ6_bitCount_0f7a4_21 : decode cJ6_bitCount_0f7a4 21 = .ok (.iand, 1) := by decide +kernel
theorem dJ6_bitCount_0f7a4_22 : decode cJ6_bitCount_0f7a4 22 = .ok (.iadd, 1) := by decide +kernel
theorem dJ6_bitCount_0f7a4_23 : decode cJ6_bitCount_0f7a4 23 = .ok (.istore_n 0, 1) := by decide +kernel
theorem dJ6_bitCount_0f7a4_24 : decode cJ6_bitCount_0f7a4 24 = .ok (.iload_n 0, 1) := by decide +kernel
theorem dJ6_bitCount_0f7a4_25 : decode cJ6_bitCount_0f7a4 25 = .ok (.iload_n 0, 1) := by decide +kernel
theorem dJ6_bitCount_0f7a4_26 : decode cJ6_bitCount_0f7a4 26 = .ok (.iconst 4, 1) := by decide +kernel
theorem dJ6_bitCount_0f7a4_27 : decode cJ6_bitCount_0f7a4 27 = .ok (.iushr, 1) := by decide +kernel
theorem dJ6_bitCount_0f7a4_28 : decode cJ6_bitCount_0f7a4 28 = .ok (.iadd, 1) := by decide +kernel
theorem dJ6_bitCount_0f7a4_29 : decode cJ6_bitCount_0f7a4 29 = .ok (.ldc_w 267, 3) := by decide +kernel
theorem dJ6_bitCount_0f7a4_32 : decode cJ6_bitCount_0f7a4 32 = .ok (.iand, 1) := by decide +kernel
theorem dJ6_bitCount_0f7a4_33 : decode cJ6_bitCount_0f7a4 33 = .ok (.istore_n 0, 1) := by decide +kernel
theorem dJ6_bitCount_0f7a4_34 : decode cJ6_bitCount_0f7a4 34 = .ok (.iload_n 0, 1) := by decide +kernel
theorem dJ6_bitCount_0f7a4_35 : decode cJ6_bitCount_0f7a4 35 = .ok (.iload_n 0, 1) := by decide +kernel
theorem dJ6_bitCount_0f7a4_36 : decode cJ6_bitCount_0f7a4 36 = .ok (.bipush 8, 2) := by decide +kernel
theorem dJ6_bitCount_0f7a4_38 : decode cJ6_bitCount_0f7a4 38 = .ok (.iushr, 1) := by decide +kernel
theorem dJ6_bitCount_0f7a4_39 : decode cJ6_bitCount_0f7a4 39 = .ok (.iadd, 1) := by decide +kernel
theorem dJ6_bitCount_0f7a4_40 : decode cJ6_bitCount_0f7a4 40 = .ok (.istore_n 0, 1) := by decide +kernel
theorem dJ6_bitCount_0f7a4_41 : decode cJ6_bitCount_0f7a4 41 = .ok (.iload_n 0, 1) := by decide +kernel
theorem dJ6_bitCount_0f7a4_42 : decode cJ6_bitCount_0f7a4 42 = .ok (.iload_n 0, 1) := by decide +kernel
theorem dJ6_bitCount_0f7a4_43 : decode cJ6_bitCount_0f7a4 43 = .ok (.bipush 16, 2) := by decide +kernel
theorem dJ6_bitCount_0f7a4_45 : decode cJ6_bitCount_0f7a4 45 = .ok (.iushr, 1) := by decide +kernel
theorem dJ6_bitCount_0f7a4_46 : decode cJ6_bitCount_0f7a4 46 = .ok (.iadd, 1) := by decide +kernel
theorem dJ6_bitCount_0f7a4_47 : decode cJ6_bitCount_0f7a4 47 = .ok (.istore_n 0, 1) := by decide +kernel
theorem dJ6_bitCount_0f7a4_48 : decode cJ6_bitCount_0f7a4 48 = .ok (.iload_n 0, 1) := by decide +kernel
theorem dJ6_bitCount_0f7a4_49 : decode cJ6_bitCount_0f7a4 49 = .ok (.bipush 63, 2) := by decide +kernel
theorem dJ6_bitCount_0f7a4_51 : decode cJ6_bitCount_0f7a4 51 = .ok (.iand, 1) := by decide +kernel
theorem dJ6_bitCount_0f7a4_52 : decode cJ6_bitCount_0f7a4 52 = .ok (.ireturn, 1) := by decide +kernel
end
section
/-! ===== THE HEAP AS A MAP: address to entry, and its size. An array's entry bears the number of its kind (0 double, 1 int, 2 boolean, 3 Row, 4 Alarm) where the kit's bears its class ===== -/
abbrev hm : Type := (Nat → Option va_E) × Nat
abbrev hX : Type := Nat × va_G × (Nat → ClassId)
def hA (X : hX) : Nat → Prop := fun q => X.1 ≤ q
def htr (dA : Nat → ClassId) (e : va_E) : va_E := match e with
  | .inl (k, a) => .inl (dA k, a)
  | .inr o => .inr o
def hp (X : hX) (M : hm) (H : Heap) : Prop := M.2 = H.size ∧ ∀ (a : Nat) (e : va_E), M.1 a = some e → X.1 ≤ a ∧ va_at X.2.1 vwCl (a, htr X.2.2 e) H
def hty (X : hX) : List (ClassId × FieldType) := [(X.2.2 0, .double), (X.2.2 1, .int), (X.2.2 2, .boolean), (X.2.2 3, .object RX3), (X.2.2 4, .object RX0)]
def hnw : List Cond := [.methodLinkNest RX2 134 yX5_hasMinus RX5, .methodLinkNest RX2 107 yX5_isInfinite RX5, .methodLinkNest RX2 97 yX5_isSo RX5, .methodLinkNest RX4 20 yX5_hasMinus RX5, .methodLinkNest RX4 28 yX5_isInfinite RX5]
def hKn (U : State) : Prop := va_Nw (.methodLinkNest RX2 134 yX5_hasMinus RX5) U ∧ va_Nw (.methodLinkNest RX2 107 yX5_isInfinite RX5) U ∧ va_Nw (.methodLinkNest RX2 97 yX5_isSo RX5) U ∧ va_Nw (.methodLinkNest RX4 20 yX5_hasMinus RX5) U ∧ va_Nw (.methodLinkNest RX4 28 yX5_isInfinite RX5) U
def hK (X : hX) (U : State) : Prop := va_K X.2.1 vwCl (hty X) U ∧ hKn U ∧ va_AO RX3 U ∧ va_AO RX0 U
theorem hK.warm {X : hX} {s U : State} (h : hK X s) (hW : s.WarmedH U.vm) : hK X U :=
  ⟨va_K.moved hW.alike h.1, ⟨va_Nw.warmM hW h.2.1.1, va_Nw.warmM hW h.2.1.2.1, va_Nw.warmM hW h.2.1.2.2.1, va_Nw.warmM hW h.2.1.2.2.2.1, va_Nw.warmM hW h.2.1.2.2.2.2⟩, va_AO.moved hW.alike h.2.2.1, va_AO.moved hW.alike h.2.2.2⟩
def hu (M : hm) (a : Nat) (e : va_E) : hm := (fun j => if j = a then some e else M.1 j, M.2)
def hnew (M : hm) (e : va_E) : hm := (fun j => if j = M.2 then some e else M.1 j, M.2 + 1)
theorem hu_s {M : hm} {a : Nat} {e : va_E} : (hu M a e).1 a = some e := by simp [hu]
theorem hu_n {M : hm} {a b : Nat} {e : va_E} (h : b ≠ a) : (hu M a e).1 b = M.1 b := by simp [hu, h]
theorem hp.set {X : hX} {M : hm} {H H1 : Heap} {a : Nat} {e : va_E} (h : hp X M H) (ha : X.1 ≤ a) (hs : H1.size = H.size) (he : va_at X.2.1 vwCl (a, htr X.2.2 e) H1) (oq : ∀ q : Nat, q ≠ a → H1[q]? = H[q]?) : hp X (hu M a e) H1 := by
  refine ⟨by rw [hs]; exact h.1, fun b x hx => ?_⟩
  by_cases hb : b = a
  · subst hb
    rw [hu_s] at hx
    cases hx
    exact ⟨ha, he⟩
  · rw [hu_n hb] at hx
    exact ⟨(h.2 b x hx).1, ((h.2 b x hx).2).kept (oq b hb)⟩
theorem hp.push {X : hX} {M : hm} {H H1 : Heap} {e : va_E} (h : hp X M H) (ha : X.1 ≤ H.size) (hs : H1.size = H.size + 1) (he : va_at X.2.1 vwCl (H.size, htr X.2.2 e) H1) (oq : ∀ q : Nat, q < H.size → H1[q]? = H[q]?) : hp X (hnew M e) H1 := by
  refine ⟨by show M.2 + 1 = _; rw [hs, h.1], fun b x hx => ?_⟩
  by_cases hb : b = M.2
  · subst hb
    simp only [hnew, if_pos] at hx
    cases hx
    rw [h.1]
    exact ⟨ha, he⟩
  · simp only [hnew, if_neg hb] at hx
    have hl := ((h.2 b x hx).2).lt
    exact ⟨(h.2 b x hx).1, ((h.2 b x hx).2).kept (oq b hl)⟩
/-! what is read and written, as functions: none where the machine would throw -/
def fO (M : hm) (a ci : Nat) : Option (List Value) := match M.1 a with
  | some (.inr (c, fs)) => if c = ci then some fs else none
  | _ => none
def fA (M : hm) (a k : Nat) : Option vp_A := match M.1 a with
  | some (.inl (c, x)) => if c = k then some x else none
  | _ => none
theorem fO_eq {M : hm} {a ci : Nat} {fs : List Value} (h : fO M a ci = some fs) : M.1 a = some (.inr (ci, fs)) := by
  unfold fO at h
  split at h
  · split at h
    · cases h; subst_vars; assumption
    · cases h
  · cases h
theorem fA_eq {M : hm} {a k : Nat} {x : vp_A} (h : fA M a k = some x) : M.1 a = some (.inl (k, x)) := by
  unfold fA at h
  split at h
  · split at h
    · cases h; subst_vars; assumption
    · cases h
  · cases h
def vI (v : Option Value) : Option Int32 := match v with
  | some (.int x) => some x
  | _ => none
def vD (v : Option Value) : Option UInt64 := match v with
  | some (.double x) => some x
  | _ => none
def vR (v : Option Value) : Option (Option Nat) := match v with
  | some (.ref x) => some (some x)
  | some .null => some none
  | _ => none
theorem vI_eq {v : Option Value} {x : Int32} (h : vI v = some x) : v = some (.int x) := by
  unfold vI at h
  split at h
  · cases h; rfl
  · cases h
theorem vD_eq {v : Option Value} {x : UInt64} (h : vD v = some x) : v = some (.double x) := by
  unfold vD at h
  split at h
  · cases h; rfl
  · cases h
theorem vR_eq {v : Option Value} {x : Option Nat} (h : vR v = some x) : v = some (va_rf x) := by
  unfold vR at h
  split at h
  · cases h; rfl
  · cases h; rfl
  · cases h
def gI (M : hm) (a ci k : Nat) : Option Int32 := (fO M a ci).bind fun fs => vI fs[k]?
def gD (M : hm) (a ci k : Nat) : Option UInt64 := (fO M a ci).bind fun fs => vD fs[k]?
def gR (M : hm) (a ci k : Nat) : Option (Option Nat) := (fO M a ci).bind fun fs => vR fs[k]?
def pV (M : hm) (a ci k : Nat) (v : Value) : Option hm := (fO M a ci).bind fun fs => if k < fs.length then some (hu M a (.inr (ci, fs.set k v))) else none
def isO (M : hm) (a ci : Nat) : Option Unit := (fO M a ci).map fun _ => ()
def aix (i : Int32) (n : Nat) : Option Nat := if i < 0 ∨ n ≤ i.toNatClampNeg then none else some i.toNatClampNeg
theorem aix_eq {i : Int32} {n j : Nat} (h : aix i n = some j) : vp_in i n ∧ j = i.toNatClampNeg := by
  unfold aix at h
  split at h
  · cases h
  · cases h; exact ⟨by assumption, rfl⟩
def pD (x : vp_A) : Option (Nat × (Nat → UInt64)) := match x with
  | (n, .inr (.inr (.inr (.inl f)))) => some (n, f)
  | _ => none
def pI (x : vp_A) : Option (Nat × (Nat → Int32)) := match x with
  | (n, .inl f) => some (n, f)
  | _ => none
def pR (x : vp_A) : Option (Nat × (Nat → Option Nat)) := match x with
  | (n, .inr (.inr (.inr (.inr f)))) => some (n, f)
  | _ => none
theorem pD_eq {x : vp_A} {q : Nat × (Nat → UInt64)} (h : pD x = some q) : x = (q.1, .inr (.inr (.inr (.inl q.2)))) := by
  unfold pD at h
  split at h
  · cases h; rfl
  · cases h
theorem pI_eq {x : vp_A} {q : Nat × (Nat → Int32)} (h : pI x = some q) : x = (q.1, .inl q.2) := by
  unfold pI at h
  split at h
  · cases h; rfl
  · cases h
theorem pR_eq {x : vp_A} {q : Nat × (Nat → Option Nat)} (h : pR x = some q) : x = (q.1, .inr (.inr (.inr (.inr q.2)))) := by
  unfold pR at h
  split at h
  · cases h; rfl
  · cases h
def fD (M : hm) (a : Nat) : Option (Nat × (Nat → UInt64)) := (fA M a 0).bind pD
def fI (M : hm) (a k : Nat) : Option (Nat × (Nat → Int32)) := (fA M a k).bind pI
def fR (M : hm) (a k : Nat) : Option (Nat × (Nat → Option Nat)) := (fA M a k).bind pR
theorem fD_eq {M : hm} {a : Nat} {q : Nat × (Nat → UInt64)} (h : fD M a = some q) : M.1 a = some (.inl (0, q.1, .inr (.inr (.inr (.inl q.2))))) := by
  obtain ⟨x, h1, h2⟩ := Option.bind_eq_some_iff.mp h
  rw [fA_eq h1, pD_eq h2]
theorem fI_eq {M : hm} {a k : Nat} {q : Nat × (Nat → Int32)} (h : fI M a k = some q) : M.1 a = some (.inl (k, q.1, .inl q.2)) := by
  obtain ⟨x, h1, h2⟩ := Option.bind_eq_some_iff.mp h
  rw [fA_eq h1, pI_eq h2]
theorem fR_eq {M : hm} {a k : Nat} {q : Nat × (Nat → Option Nat)} (h : fR M a k = some q) : M.1 a = some (.inl (k, q.1, .inr (.inr (.inr (.inr q.2))))) := by
  obtain ⟨x, h1, h2⟩ := Option.bind_eq_some_iff.mp h
  rw [fA_eq h1, pR_eq h2]
def aD (M : hm) (a : Nat) (i : Int32) : Option UInt64 := (fD M a).bind fun q => (aix i q.1).bind fun j => some (q.2 j)
def aI (M : hm) (a k : Nat) (i : Int32) : Option Int32 := (fI M a k).bind fun q => (aix i q.1).bind fun j => some (q.2 j)
def aR (M : hm) (a k : Nat) (i : Int32) : Option (Option Nat) := (fR M a k).bind fun q => (aix i q.1).bind fun j => some (q.2 j)
def sD (M : hm) (a : Nat) (i : Int32) (v : UInt64) : Option hm := (fD M a).bind fun q => (aix i q.1).bind fun j => some (hu M a (.inl (0, q.1, .inr (.inr (.inr (.inl (vf_upd q.2 j v)))))))
def sI (M : hm) (a : Nat) (i : Int32) (v : Int32) : Option hm := (fI M a 1).bind fun q => (aix i q.1).bind fun j => some (hu M a (.inl (1, q.1, .inl (upd q.2 j v))))
def sZ (M : hm) (a : Nat) (i : Int32) (v : Int32) : Option hm := (fI M a 2).bind fun q => (aix i q.1).bind fun j => some (hu M a (.inl (2, q.1, .inl (upd q.2 j (vp_nar .boolean v)))))
def oR (M : hm) (v : Option Nat) (ci : Nat) : Option Unit := match v with
  | none => some ()
  | some b => isO M b ci
def sR (M : hm) (a k ci : Nat) (i : Int32) (v : Option Nat) : Option hm := (oR M v ci).bind fun _ => (fR M a k).bind fun q => (aix i q.1).bind fun j => some (hu M a (.inl (k, q.1, .inr (.inr (.inr (.inr (va_up q.2 j v)))))))
def n64 (r : UInt64) : Option UInt64 := if r &&& 0x7fffffffffffffff ≤ 0x7ff0000000000000 then some r else none
def n32 (r : UInt32) : Option UInt32 := if r &&& 0x7fffffff ≤ 0x7f800000 then some r else none
theorem n64_eq {r v : UInt64} (h : n64 r = some v) : vf_n64 r ∧ v = r := by
  unfold n64 at h
  split at h
  · cases h; exact ⟨by assumption, rfl⟩
  · cases h
theorem n32_eq {r v : UInt32} (h : n32 r = some v) : vf_n32 r ∧ v = r := by
  unfold n32 at h
  split at h
  · cases h; exact ⟨by assumption, rfl⟩
  · cases h
def zb (v : Int32) : Option Int32 := if v = 0 ∨ v = 1 then some v else none
theorem zb_eq {v r : Int32} (h : zb v = some r) : (v = 0 ∨ v = 1) ∧ r = v := by
  unfold zb at h
  split at h
  · cases h; exact ⟨by assumption, rfl⟩
  · cases h
theorem zb_nar {v : Int32} (h : v = 0 ∨ v = 1) : narrow .boolean (.int v) = .int v ∧ fits .boolean (.int v) = true := by
  rcases h with rfl | rfl <;> exact ⟨by decide, by decide⟩
def hcp (M : hm) (a : Nat) (sp : Int32) (b : Nat) (dp n : Int32) : Option hm := (fD M a).bind fun q => (fD M b).bind fun q2 => if ¬ sp < 0 ∧ ¬ dp < 0 ∧ ¬ n < 0 ∧ sp.toNatClampNeg + n.toNatClampNeg ≤ q.1 ∧ dp.toNatClampNeg + n.toNatClampNeg ≤ q2.1 then some (hu M b (.inl (0, q2.1, .inr (.inr (.inr (.inl (va_cpy q.2 q2.2 sp.toNatClampNeg dp.toNatClampNeg n.toNatClampNeg))))))) else none
def nO (M : hm) (ci : Nat) (fs : List Value) : Option (hm × Nat) := some (hnew M (.inr (ci, fs)), M.2)
def nA (M : hm) (k : Nat) (a : vp_A) : Option (hm × Nat) := some (hnew M (.inl (k, a)), M.2)
theorem if_t {α : Type} {c : Prop} [Decidable c] {a b R : α} (h : c) (hj : (if c then a else b) = R) : a = R := by rwa [if_pos h] at hj
theorem if_f {α : Type} {c : Prop} [Decidable c] {a b R : α} (h : ¬ c) (hj : (if c then a else b) = R) : b = R := by rwa [if_neg h] at hj
theorem if_n {α : Type} {c : Prop} [Decidable c] {b : Option α} {R : α} (hj : (if c then none else b) = some R) : ¬ c := by
  intro h
  rw [if_pos h] at hj
  cases hj
theorem no_zero {α : Type} {R : α} {P : Prop} (h : (none : Option α) = some R) : P := nomatch h
theorem cat_rf (r : Option Nat) : (va_rf r).category = 1 := by cases r <;> rfl
theorem nar_rf (C : String) (r : Option Nat) : narrow (.object C) (va_rf r) = va_rf r ∧ fits (.object C) (va_rf r) = true := by cases r <;> exact ⟨rfl, rfl⟩
theorem nar_ra (t : FieldType) (r : Option Nat) : narrow (.array t) (va_rf r) = va_rf r ∧ fits (.array t) (va_rf r) = true := by cases r <;> exact ⟨rfl, rfl⟩
theorem sw_step {a b : Int} (h : b ≥ a) (hn : b ≠ a) : b ≥ a + 1 := by omega
theorem sw_ne {x v : Int32} {k : Int} (h : ¬ x = v) (hv : v.toInt = k) : x.toInt ≠ k := fun e => h (Int32.toInt_inj.mp (e.trans hv.symm))
theorem sw_nt {x v : Int32} {k : Int} (h : ¬ x = v) (hv : v.toInt = k) : (x.toInt = k) = False := eq_false (sw_ne h hv)
/-! the words: all good ones of the tables -/
def wG : List Cond := lw_tbl.filter goodWord
theorem wG_of {w : Cond} (h : w ∈ lw_tbl) (hg : goodWord w = true) : w ∈ wG := List.mem_filter.mpr ⟨h, hg⟩
theorem wG_t {w : Cond} (h : w ∈ tables_1) (hg : goodWord w = true) : w ∈ wG := wG_of (List.mem_append_right _ h) hg
theorem wG_p {q : MethodName × Nat} (h : q ∈ lw_privs) (hg : goodWord (Cond.selects q.1.cls q.1 q.1) = true) : Cond.selects q.1.cls q.1 q.1 ∈ wG := wG_of (List.mem_append_left _ (List.mem_map.mpr ⟨q, h, rfl⟩)) hg
theorem wG_good : GoodIn wG wG := fun w h => ⟨h, good_of_word (List.mem_filter.mp h).2⟩
theorem wG_c {c1 : Cond} (h : c1 ∈ wG) : GoodIn wG (c1 :: wG) := fun w hw => by
  rcases List.mem_cons.mp hw with rfl | h1
  · exact wG_good _ h
  · exact wG_good _ h1
theorem wG_V {own C : String} {idx : Nat} {y : MethodName} {c1 : Cond} (h1 : c1 ∈ wG) (h2 : Cond.methodLink own idx y ∈ wG) (h3 : Cond.instanceMethod y ∈ wG) (h4 : Cond.selects C y y ∈ wG) (h5 : Cond.initialized C ∈ wG) : GoodIn wG (wsV own idx C y (c1 :: wG)) := fun w hw => by
  unfold wsV at hw
  rcases List.mem_append.mp hw with h | h
  · simp only [List.mem_cons, List.not_mem_nil, or_false] at h
    rcases h with rfl | rfl | rfl | rfl
    · exact wG_good _ h2
    · exact wG_good _ h3
    · exact wG_good _ h4
    · exact wG_good _ h5
  · exact wG_c h1 w h
theorem wG_S {own : String} {idx : Nat} {y : MethodName} {c1 : Cond} (h1 : c1 ∈ wG) (h2 : Cond.methodLink own idx y ∈ wG) (h3 : Cond.static y ∈ wG) (h5 : Cond.initialized y.cls ∈ wG) : GoodIn wG (va_wsS own idx y (c1 :: wG)) := fun w hw => by
  unfold va_wsS at hw
  rcases List.mem_append.mp hw with h | h
  · simp only [List.mem_cons, List.not_mem_nil, or_false] at h
    rcases h with rfl | rfl | rfl
    · exact wG_good _ h2
    · exact wG_good _ h3
    · exact wG_good _ h5
  · exact wG_c h1 w h
/-! ===== rows over the map ===== -/
/-- what stays in a method: the machine, its code, the words, its class, the tables, the base -/
def CX (X : hX) (p : Program) (c : Code) (cc : ByteArray) (nL : Nat) (s : State) (m : MethodId) (args : Array Value) (own : String) : Prop := p.tables.exec = Jvm.exec ∧ c.code = cc ∧ c.maxLocals = nL ∧ s.vm.findClass own = some m.cls ∧ (∀ w ∈ wG, w.before args s = true) ∧ hK X s ∧ X.1 ≤ s.heap.size
section HR
variable {p : Program} {l : Launch} {e : Env} {R : Room} {s : State} {m : MethodId} {args : Array Value} {below : List Frame} {meth : Method} {c : Code} {H : Heap} {locs : List Loc} {cells slots : Nat} {Q : State → Prop}
variable {cc : ByteArray} {pc nL : Nat} {ls : Array Slot} {rest : List Value} {X : hX} {a : Nat} {M : hm} {H0 : Heap} {own : String}
theorem hp_one (hP : hp X M H) {e : va_E} (he : M.1 a = some e) : va_P X.2.1 vwCl [(a, htr X.2.2 e)] H := by
  intro k q hk
  cases k with
  | zero => cases hk; exact (hP.2 a e he).2
  | succ k => cases hk
theorem r_getI (cx : CX X p c cc nL s m args own) (hP : hp X M H) {ci k : Nat} {v : Int32} (hg : gI M a ci k = some v) {C : String} {T : u_T} {N index : Nat} (hin : ∀ w ∈ u_ws C T N, w ∈ wG) (hc : vwCl[ci]? = some (C, T, N)) (hk : k < N) (hlink : Cond.fieldLink own index (T k).1 (T k).2.1 (T k).2.2.1 ∈ wG) (hdg : decode cc pc = .ok (.getfield index, 3))
    (kk : W p l e R s m args below meth c H locs cells slots Q (F0 m (pc + 3) ls (.int v :: rest))) : W p l e R s m args below meth c H locs cells slots Q (F0 m pc ls (.ref a :: rest)) := by
  obtain ⟨fs, h1, h2⟩ := Option.bind_eq_some_iff.mp hg
  exact va_get cx.1 cx.2.1 cx.2.2.2.2.1 hin cx.2.2.2.1 cx.2.2.2.2.2.1.1 (hp_one hP (fO_eq h1)) 0 rfl hc k hk (cx.2.2.2.2.1 _ hlink) (fun _ h => h) (vI_eq h2) hdg kk
theorem r_getD (cx : CX X p c cc nL s m args own) (hP : hp X M H) {ci k : Nat} {v : UInt64} (hg : gD M a ci k = some v) {C : String} {T : u_T} {N index : Nat} (hin : ∀ w ∈ u_ws C T N, w ∈ wG) (hc : vwCl[ci]? = some (C, T, N)) (hk : k < N) (hlink : Cond.fieldLink own index (T k).1 (T k).2.1 (T k).2.2.1 ∈ wG) (hdg : decode cc pc = .ok (.getfield index, 3))
    (kk : W p l e R s m args below meth c H locs cells slots Q (F0 m (pc + 3) ls (.double v :: rest))) : W p l e R s m args below meth c H locs cells slots Q (F0 m pc ls (.ref a :: rest)) := by
  obtain ⟨fs, h1, h2⟩ := Option.bind_eq_some_iff.mp hg
  exact va_get cx.1 cx.2.1 cx.2.2.2.2.1 hin cx.2.2.2.1 cx.2.2.2.2.2.1.1 (hp_one hP (fO_eq h1)) 0 rfl hc k hk (cx.2.2.2.2.1 _ hlink) (fun _ h => h) (vD_eq h2) hdg kk
theorem r_getR (cx : CX X p c cc nL s m args own) (hP : hp X M H) {ci k : Nat} {v : Option Nat} (hg : gR M a ci k = some v) {C : String} {T : u_T} {N index : Nat} (hin : ∀ w ∈ u_ws C T N, w ∈ wG) (hc : vwCl[ci]? = some (C, T, N)) (hk : k < N) (hlink : Cond.fieldLink own index (T k).1 (T k).2.1 (T k).2.2.1 ∈ wG) (hdg : decode cc pc = .ok (.getfield index, 3))
    (kk : W p l e R s m args below meth c H locs cells slots Q (F0 m (pc + 3) ls (va_rf v :: rest))) : W p l e R s m args below meth c H locs cells slots Q (F0 m pc ls (.ref a :: rest)) := by
  obtain ⟨fs, h1, h2⟩ := Option.bind_eq_some_iff.mp hg
  exact va_get cx.1 cx.2.1 cx.2.2.2.2.1 hin cx.2.2.2.1 cx.2.2.2.2.2.1.1 (hp_one hP (fO_eq h1)) 0 rfl hc k hk (cx.2.2.2.2.1 _ hlink) (fun _ h => h) (vR_eq h2) hdg kk
theorem r_aldD (cx : CX X p c cc nL s m args own) (hP : hp X M H) {i : Int32} {v : UInt64} (hg : aD M a i = some v) (hdg : decode cc pc = .ok (.daload, 1))
    (kk : W p l e R s m args below meth c H locs cells slots Q (F0 m (pc + 1) ls (.double v :: rest))) : W p l e R s m args below meth c H locs cells slots Q (F0 m pc ls (.int i :: .ref a :: rest)) := by
  obtain ⟨q, h1, h2⟩ := Option.bind_eq_some_iff.mp hg
  obtain ⟨j, h3, h4⟩ := Option.bind_eq_some_iff.mp h2
  obtain ⟨h5, rfl⟩ := aix_eq h3
  cases h4
  exact va_dald cx.1 cx.2.1 cx.2.2.2.2.2.1.1 (hp_one hP (fD_eq h1)) 0 0 rfl rfl h5 hdg kk
theorem r_aldI (cx : CX X p c cc nL s m args own) (hP : hp X M H) {i : Int32} {v : Int32} (hg : aI M a 1 i = some v) (hdg : decode cc pc = .ok (.iaload, 1))
    (kk : W p l e R s m args below meth c H locs cells slots Q (F0 m (pc + 1) ls (.int v :: rest))) : W p l e R s m args below meth c H locs cells slots Q (F0 m pc ls (.int i :: .ref a :: rest)) := by
  obtain ⟨q, h1, h2⟩ := Option.bind_eq_some_iff.mp hg
  obtain ⟨j, h3, h4⟩ := Option.bind_eq_some_iff.mp h2
  obtain ⟨h5, rfl⟩ := aix_eq h3
  cases h4
  exact va_iald cx.1 cx.2.1 cx.2.2.2.2.2.1.1 (hp_one hP (fI_eq h1)) 0 1 rfl rfl h5 hdg kk
theorem r_aldZ (cx : CX X p c cc nL s m args own) (hP : hp X M H) {i : Int32} {v : Int32} (hg : aI M a 2 i = some v) (hdg : decode cc pc = .ok (.baload, 1))
    (kk : W p l e R s m args below meth c H locs cells slots Q (F0 m (pc + 1) ls (.int v :: rest))) : W p l e R s m args below meth c H locs cells slots Q (F0 m pc ls (.int i :: .ref a :: rest)) := by
  obtain ⟨q, h1, h2⟩ := Option.bind_eq_some_iff.mp hg
  obtain ⟨j, h3, h4⟩ := Option.bind_eq_some_iff.mp h2
  obtain ⟨h5, rfl⟩ := aix_eq h3
  cases h4
  exact va_zald cx.1 cx.2.1 cx.2.2.2.2.2.1.1 (hp_one hP (fI_eq h1)) 0 2 rfl rfl h5 hdg kk
theorem r_aldR (cx : CX X p c cc nL s m args own) (hP : hp X M H) {C : String} {k : Nat} (hk : (hty X)[k]? = some (X.2.2 k, .object C)) {i : Int32} {v : Option Nat} (hg : aR M a k i = some v) (hdg : decode cc pc = .ok (.aaload, 1))
    (kk : W p l e R s m args below meth c H locs cells slots Q (F0 m (pc + 1) ls (va_rf v :: rest))) : W p l e R s m args below meth c H locs cells slots Q (F0 m pc ls (.int i :: .ref a :: rest)) := by
  obtain ⟨q, h1, h2⟩ := Option.bind_eq_some_iff.mp hg
  obtain ⟨j, h3, h4⟩ := Option.bind_eq_some_iff.mp h2
  obtain ⟨h5, rfl⟩ := aix_eq h3
  cases h4
  exact va_aldq cx.1 cx.2.1 cx.2.2.2.2.2.1.1 (hp_one hP (fR_eq h1)) 0 k rfl hk h5 hdg kk
theorem r_put (cx : CX X p c cc nL s m args own) (hP : hp X M H) (hS0 : va_S (hA X) H0 H locs) {ci k : Nat} {v : Value} {M' : hm} (hg : pV M a ci k v = some M') {C : String} {T : u_T} {N index : Nat} (hin : ∀ w ∈ u_ws C T N, w ∈ wG) (ty0 : Nat → FieldType) (hty : ∀ k, k < N → parseFieldDescriptor (T k).2.2.1 = some (ty0 k)) (hnm : ∀ a, a < N → ∀ b, b < N → a ≠ b → (T a).2.1 ≠ (T b).2.1) (hc : vwCl[ci]? = some (C, T, N)) (hk : k < N) (hlink : Cond.fieldLink own index (T k).1 (T k).2.1 (T k).2.2.1 ∈ wG) (hfin : (T k).2.2.2 = false) (hn : narrow (ty0 k) v = v) (hfit : fits (ty0 k) v = true) (hdg : decode cc pc = .ok (.putfield index, 3))
    (kk : ∀ (H1 : Heap) (locs1 : List Loc), hp X M' H1 → va_S (hA X) H0 H1 locs1 → W p l e R s m args below meth c H1 locs1 cells slots Q (F0 m (pc + 3) ls rest)) : W p l e R s m args below meth c H locs cells slots Q (F0 m pc ls (v :: .ref a :: rest)) := by
  obtain ⟨fs, g1, g2⟩ := Option.bind_eq_some_iff.mp hg
  have he := fO_eq g1
  split at g2
  case isFalse => cases g2
  case isTrue hl =>
  cases g2
  have hK := cx.2.2.2.2.2.1.1
  have hts := cx.2.2.2.2.1
  have hap := va_apart (own := own) hts hin ty0 hty hnm hK hc
  obtain ⟨hA1, r, h1, cell, q1, q2, q3, q4⟩ := hP.2 _ _ he
  have hr : r = (C, T, N) := Option.some.inj (h1.symm.trans hc)
  subst hr
  obtain ⟨hS, hfc, kC, hkC, hkind⟩ := hK.1 ci _ hc
  obtain ⟨cf, kf, fi, f, hi, hsl⟩ := hS k hk
  have hlay := hts _ (hin _ (u_in_lay hk))
  unfold u_lay at hlay
  rw [if_neg (by rw [hfin]; decide)] at hlay
  have hst := (u_facts hfc hkC (u_lays hts hin hk) hi).1
  have h6 := u_store hfc hkC hkind hlay hi (hty k hk) hn hfit
  refine W.putK cx.1 cx.2.1 (f := f) ⟨cx.2.2.2.1, hts _ hlink, ⟨_, _, _, hi⟩, hst⟩ (by rw [q2]; exact h6) q1 q3 (by rw [hsl]; exact k2_hasslot (q4 k hk)) rfl rfl hdg fun H' e1 e2 e3 => ?_
  rw [hsl] at e1 ⊢
  exact kk H' _ (hP.set hA1 e2 ⟨_, hc, t_OB.to (V := updV (vp_V fs) k v) ⟨_, e1, q2, q3, t_set q4 hap hk v⟩ (fun j _ => vp_updV_set hl v j)⟩ e3) (hS0.put e2 e3 hA1)
theorem r_putF (cx : CX X p c cc nL s m args own) (hP : hp X M H) (hS0 : va_S (hA X) H0 H locs) {ci k : Nat} {v : Value} {M' : hm} (hg : pV M a ci k v = some M') {C : String} {T : u_T} {N index : Nat} (hin : ∀ w ∈ u_ws C T N, w ∈ wG) (ty0 : Nat → FieldType) (hty : ∀ k, k < N → parseFieldDescriptor (T k).2.2.1 = some (ty0 k)) (hnm : ∀ a, a < N → ∀ b, b < N → a ≠ b → (T a).2.1 ≠ (T b).2.1) (hc : vwCl[ci]? = some (C, T, N)) (hk : k < N) (hlink : Cond.fieldLink own index (T k).1 (T k).2.1 (T k).2.2.1 ∈ wG) (hfin : (T k).2.2.2 = true) (hin2 : meth.name = "<init>") (hdecl : (T k).1 = own) (hn : narrow (ty0 k) v = v) (hfit : fits (ty0 k) v = true) (hdg : decode cc pc = .ok (.putfield index, 3))
    (kk : ∀ (H1 : Heap) (locs1 : List Loc), hp X M' H1 → va_S (hA X) H0 H1 locs1 → W p l e R s m args below meth c H1 locs1 cells slots Q (F0 m (pc + 3) ls rest)) : W p l e R s m args below meth c H locs cells slots Q (F0 m pc ls (v :: .ref a :: rest)) := by
  obtain ⟨fs, g1, g2⟩ := Option.bind_eq_some_iff.mp hg
  have he := fO_eq g1
  split at g2
  case isFalse => cases g2
  case isTrue hl =>
  cases g2
  have hK := cx.2.2.2.2.2.1.1
  have hts := cx.2.2.2.2.1
  have hap := va_apart (own := own) hts hin ty0 hty hnm hK hc
  obtain ⟨hA1, r, h1, cell, q1, q2, q3, q4⟩ := hP.2 _ _ he
  have hr : r = (C, T, N) := Option.some.inj (h1.symm.trans hc)
  subst hr
  obtain ⟨hS, hfc, kC, hkC, hkind⟩ := hK.1 ci _ hc
  obtain ⟨cf, kf, fi, f, hi, hsl⟩ := hS k hk
  have hlay := hts _ (hin _ (u_in_lay hk))
  unfold u_lay at hlay
  rw [if_pos hfin] at hlay
  have hst := (u_facts hfc hkC (u_lays hts hin hk) hi).1
  have hcf : m.cls = cf := by
    obtain ⟨_, _, c', _, _, _, -, -, hf', -, -, -, hown2, -⟩ := Cond.laysFinal_spec hlay
    have e1 : c' = cf := by have := hi.symm.trans hf'; simp at this; exact this.1.symm
    rw [hdecl] at hown2
    rw [← e1]; exact Option.some.inj (cx.2.2.2.1.symm.trans hown2)
  have h6 := u_fits hfc hkC hkind (Or.inr hlay) hi (hty k hk) hn hfit
  refine W.putFinK cx.1 cx.2.1 cx.2.2.2.1 (hts _ hlink) hi hst hcf hin2 (by rw [q2]; exact h6) q1 q3 (by rw [hsl]; exact k2_hasslot (q4 k hk)) rfl rfl hdg fun H' e1 e2 e3 => ?_
  rw [hsl] at e1 ⊢
  exact kk H' _ (hP.set hA1 e2 ⟨_, hc, t_OB.to (V := updV (vp_V fs) k v) ⟨_, e1, q2, q3, t_set q4 hap hk v⟩ (fun j _ => vp_updV_set hl v j)⟩ e3) (hS0.put e2 e3 hA1)
theorem r_astD (cx : CX X p c cc nL s m args own) (hP : hp X M H) (hS : va_S (hA X) H0 H locs) {i : Int32} {x : UInt64} {M' : hm} (hg : sD M a i x = some M') (hdg : decode cc pc = .ok (.dastore, 1))
    (kk : ∀ (H1 : Heap) (locs1 : List Loc), hp X M' H1 → va_S (hA X) H0 H1 locs1 → W p l e R s m args below meth c H1 locs1 cells slots Q (F0 m (pc + 1) ls rest)) : W p l e R s m args below meth c H locs cells slots Q (F0 m pc ls (.double x :: .int i :: .ref a :: rest)) := by
  obtain ⟨q, h1, h2⟩ := Option.bind_eq_some_iff.mp hg
  obtain ⟨j, h3, h4⟩ := Option.bind_eq_some_iff.mp h2
  obtain ⟨hin, rfl⟩ := aix_eq h3
  cases h4
  obtain ⟨n, f⟩ := q
  have he := fD_eq h1
  have hK := cx.2.2.2.2.2.1.1
  refine W.dast cx.1 cx.2.1 (hP.2 _ _ he).2 ((hK.2 0 _ rfl).1 n (fun j => .double (f j))) (fun q => by cases q) (by show ¬ (i < 0 ∨ (arrV _ _ _).slots.size ≤ _); rw [arrV_size]; exact hin) rfl rfl hdg fun H1 e1 z oq => ?_
  refine kk H1 _ (hP.set (hP.2 _ _ he).1 z ?_ oq) (hS.put z oq (hP.2 _ _ he).1)
  show H1[a]? = some (vp_cell _ _)
  rw [e1]
  rw [vp_cell_d, vp_cell_d, arrV_store]
  congr 2
  funext q
  by_cases hq : q = i.toNatClampNeg
  · subst hq
    simp [updV, vf_upd]
  · simp [updV, vf_upd, hq]
theorem r_astI (cx : CX X p c cc nL s m args own) (hP : hp X M H) (hS : va_S (hA X) H0 H locs) {i : Int32} {x : Int32} {M' : hm} (hg : sI M a i x = some M') (hdg : decode cc pc = .ok (.iastore, 1))
    (kk : ∀ (H1 : Heap) (locs1 : List Loc), hp X M' H1 → va_S (hA X) H0 H1 locs1 → W p l e R s m args below meth c H1 locs1 cells slots Q (F0 m (pc + 1) ls rest)) : W p l e R s m args below meth c H locs cells slots Q (F0 m pc ls (.int x :: .int i :: .ref a :: rest)) := by
  obtain ⟨q, h1, h2⟩ := Option.bind_eq_some_iff.mp hg
  obtain ⟨j, h3, h4⟩ := Option.bind_eq_some_iff.mp h2
  obtain ⟨hin, rfl⟩ := aix_eq h3
  cases h4
  obtain ⟨n, f⟩ := q
  have he := fI_eq h1
  have hK := cx.2.2.2.2.2.1.1
  refine W.iast cx.1 cx.2.1 (hP.2 _ _ he).2 ((hK.2 1 _ rfl).1 n (fun j => .int (f j))) (fun q => by cases q) (by show ¬ (i < 0 ∨ (arrV _ _ _).slots.size ≤ _); rw [arrV_size]; exact hin) rfl rfl hdg fun H1 e1 z oq => ?_
  refine kk H1 _ (hP.set (hP.2 _ _ he).1 z ?_ oq) (hS.put z oq (hP.2 _ _ he).1)
  show H1[a]? = some (vp_cell _ _)
  rw [e1]
  rw [vp_cell_i, vp_cell_i, arrV_store]
  congr 2
  funext q
  by_cases hq : q = i.toNatClampNeg
  · subst hq
    simp [updV, upd]
  · simp [updV, upd, hq]
theorem r_astZ (cx : CX X p c cc nL s m args own) (hP : hp X M H) (hS : va_S (hA X) H0 H locs) {i : Int32} {x : Int32} {M' : hm} (hg : sZ M a i x = some M') (hdg : decode cc pc = .ok (.bastore, 1))
    (kk : ∀ (H1 : Heap) (locs1 : List Loc), hp X M' H1 → va_S (hA X) H0 H1 locs1 → W p l e R s m args below meth c H1 locs1 cells slots Q (F0 m (pc + 1) ls rest)) : W p l e R s m args below meth c H locs cells slots Q (F0 m pc ls (.int x :: .int i :: .ref a :: rest)) := by
  obtain ⟨q, h1, h2⟩ := Option.bind_eq_some_iff.mp hg
  obtain ⟨j, h3, h4⟩ := Option.bind_eq_some_iff.mp h2
  obtain ⟨hin, rfl⟩ := aix_eq h3
  cases h4
  obtain ⟨n, f⟩ := q
  have he := fI_eq h1
  have hK := cx.2.2.2.2.2.1.1
  refine W.zast cx.1 cx.2.1 (hP.2 _ _ he).2 ((hK.2 2 _ rfl).1 n (fun j => .int (f j))) (fun q => by cases q) (by show ¬ (i < 0 ∨ (arrV _ _ _).slots.size ≤ _); rw [arrV_size]; exact hin) rfl rfl hdg fun H1 e1 z oq => ?_
  refine kk H1 _ (hP.set (hP.2 _ _ he).1 z ?_ oq) (hS.put z oq (hP.2 _ _ he).1)
  show H1[a]? = some (vp_cell _ _)
  rw [e1]
  rw [vp_cell_i, vp_cell_i, arrV_store]
  congr 2
  funext q
  by_cases hq : q = i.toNatClampNeg
  · subst hq
    simp [updV, upd, vp_nar]
    try rfl
  · simp [updV, upd, hq]
theorem r_astR (cx : CX X p c cc nL s m args own) (hP : hp X M H) (hS : va_S (hA X) H0 H locs) {k ci : Nat} {r : vw_C} (hk : (hty X)[k]? = some (X.2.2 k, .object r.1)) (hc : vwCl[ci]? = some r) {i : Int32} {v : Option Nat} {M' : hm} (hg : sR M a k ci i v = some M') (hdg : decode cc pc = .ok (.aastore, 1))
    (kk : ∀ (H1 : Heap) (locs1 : List Loc), hp X M' H1 → va_S (hA X) H0 H1 locs1 → W p l e R s m args below meth c H1 locs1 cells slots Q (F0 m (pc + 1) ls rest)) : W p l e R s m args below meth c H locs cells slots Q (F0 m pc ls (va_rf v :: .int i :: .ref a :: rest)) := by
  obtain ⟨_, h0, hg⟩ := Option.bind_eq_some_iff.mp hg
  obtain ⟨q, h1, h2⟩ := Option.bind_eq_some_iff.mp hg
  obtain ⟨j, h3, h4⟩ := Option.bind_eq_some_iff.mp h2
  obtain ⟨hin, rfl⟩ := aix_eq h3
  cases h4
  obtain ⟨n, f⟩ := q
  have he := fR_eq h1
  have hK := cx.2.2.2.2.2.1.1
  have hlt : i.toNatClampNeg < n := Nat.not_le.mp fun q => hin (Or.inr q)
  have hi0 : ¬ i < 0 := fun q => hin (Or.inl q)
  have hend : ∀ (H1 : Heap) (locs1 : List Loc), H1[a]? = some ((vp_cell (X.2.2 k) (n, .inr (.inr (.inr (.inr f))))).setSlot i.toNatClampNeg (va_rf v)) → H1.size = H.size → (∀ q, q ≠ a → H1[q]? = H[q]?) → hp X (hu M a (.inl (k, n, .inr (.inr (.inr (.inr (va_up f i.toNatClampNeg v))))))) H1 := by
    intro H1 locs1 e1 z oq
    refine hP.set (hP.2 _ _ he).1 z ?_ oq
    show H1[a]? = some (vp_cell _ _)
    rw [e1]
    rw [vp_cell_q, vp_cell_q, arrV_store]
    congr 2
    funext q
    by_cases hq : q = i.toNatClampNeg
    · subst hq
      simp [updV, va_up]
    · simp [updV, va_up, hq]
  cases v with
  | none =>
    refine va_WaastN (C := r.1) cx.1 cx.2.1 (hP.2 _ _ he).2 ((hK.2 k _ hk).1 n (fun j => va_rf (f j))) (fun h => by cases h) (by show ¬ (i < 0 ∨ (arrV _ _ _).slots.size ≤ _); rw [arrV_size]; exact hin) rfl rfl hdg fun H1 e1 z oq => ?_
    exact kk H1 _ (hend H1 [] e1 z oq) (hS.put z oq (hP.2 _ _ he).1)
  | some b =>
    obtain ⟨vs, hv0, -⟩ := Option.map_eq_some_iff.mp h0
    have hv := fO_eq hv0
    obtain ⟨-, r', hr', cellV, g1, g2, g3, -⟩ := hP.2 _ _ hv
    have hcls := (hK.1 ci r hc).2
    obtain ⟨kA, comp, k1, k2, k3, -⟩ := (hK.2 k _ hk).2
    have hcomp : comp = X.2.1.1 ci := Option.some.inj (k3.symm.trans hcls.1)
    subst hcomp
    obtain ⟨kC, hkC, -⟩ := hcls.2
    refine W.aast cx.1 cx.2.1 (hP.2 _ _ he).2 (fun q h => by cases h) (fun h => by cases h) k1 k2 rfl hkC ⟨hi0, by show _ < (arrV _ _ _).slots.size; rw [arrV_size]; exact hlt⟩ g1 (fun q h => by rw [g3] at h; cases h) (by rw [g2]; exact hkC) (by rw [g2]; exact va_assign hcls) rfl rfl hdg fun H1 e1 z oq => ?_
    exact kk H1 _ (hend H1 [] e1 z oq) (hS.put z oq (hP.2 _ _ he).1)
theorem r_new {N ci index : Nat} {fs : List Value} (cx : CX X p c cc nL s m args own) (hP : hp X M H) (hS : va_S (hA X) s.heap H locs) {q : hm × Nat} (hg : nO M ci fs = some q) {C : String} {T : u_T} (hin : ∀ w ∈ u_ws C T N, w ∈ wG) (ty : Nat → FieldType) (hty : ∀ k, k < N → parseFieldDescriptor (T k).2.2.1 = some (ty k)) (hcl : Cond.classLink own index C ∈ wG) (hinst : Cond.instantiable C N ∈ wG) (hini : Cond.initialized C ∈ wG) (hc : vwCl[ci]? = some (C, T, N)) (hfs : ∀ j, j < N → defaultValue (ty j) = vp_V fs j) (hcells : cells + 1 ≤ R.cells) (hslots : slots + N ≤ R.slots) (hdg : decode cc pc = .ok (.new index, 3))
    (kk : ∀ H1 : Heap, hp X q.1 H1 → va_S (hA X) s.heap H1 locs → W p l e R s m args below meth c H1 locs (cells + 1) (slots + N) Q (F0 m (pc + 3) ls (.ref q.2 :: rest))) : W p l e R s m args below meth c H locs cells slots Q (F0 m pc ls rest) := by
  cases hg
  have hK := cx.2.2.2.2.2.1.1
  have hts := cx.2.2.2.2.1
  have hKn := hK.1 ci _ hc
  refine W.newcK cx.1 cx.2.1 cx.2.2.2.1 (hts _ hcl) (hts _ hinst) (hts _ hini) rfl hdg hcells hslots hKn.2.1 rfl fun H1 kC hkC e1 z1 o1 => ?_
  have hb : X.1 ≤ H.size := Nat.le_trans cx.2.2.2.2.2.2 hS.1
  have h := kk H1 (hP.push hb z1 (e := .inr (ci, fs)) ⟨_, hc, (u_born ty hts hin hKn hkC e1 hty).to hfs⟩ o1) ⟨Nat.le_trans hS.1 (by omega), fun x h1 h2 => (o1 x (Nat.lt_of_lt_of_le h1 hS.1)).trans (hS.2.1 x h1 h2), hS.2.2⟩
  have e0 : (hnew M (.inr (ci, fs)), M.2).2 = H.size := hP.1
  rw [e0] at h
  exact h
/-- a reference or null, loaded and stored -/
theorem h_aload_n (hexec : p.tables.exec = Jvm.exec) (hb : c.code = cc) {k : Fin 4} {i : Nat} {x : Option Nat} (hdg : decode cc pc = .ok (.aload_n k, 1)) (hi : (k : Nat) = i) (hl : ls[i]? = some (.val (va_rf x))) (kk : W p l e R s m args below meth c H locs cells slots Q (F0 m (pc + 1) ls (va_rf x :: rest))) : W p l e R s m args below meth c H locs cells slots Q (F0 m pc ls (rest)) := by
  cases x with
  | none => exact lv_aload_nN hexec hb hdg hi hl kk
  | some b => exact lv_aload_n hexec hb hdg hi hl kk
theorem h_aload (hexec : p.tables.exec = Jvm.exec) (hb : c.code = cc) {i : Nat} {x : Option Nat} (hdg : decode cc pc = .ok (.aload i, 2)) (hl : ls[i]? = some (.val (va_rf x))) (kk : W p l e R s m args below meth c H locs cells slots Q (F0 m (pc + 2) ls (va_rf x :: rest))) : W p l e R s m args below meth c H locs cells slots Q (F0 m pc ls (rest)) := by
  cases x with
  | none => exact lv_aloadN hexec hb hdg hl kk
  | some b => exact lv_aload hexec hb hdg hl kk
theorem h_astore_n (hexec : p.tables.exec = Jvm.exec) (hb : c.code = cc) {k : Fin 4} {i nL : Nat} {x : Option Nat} {lv lv' : List (Nat × Value)} (hdg : decode cc pc = .ok (.astore_n k, 1)) (hi : (k : Nat) = i) (h : lv_has ls nL lv) (hn : i < nL) (hl : (i, va_rf x) :: lv.filter (fun q => !(q.1 == i) && !(q.1 + 1 == i && q.2.category == 2)) = lv') (kk : ∀ ls' : Array Slot, lv_has ls' nL lv' → W p l e R s m args below meth c H locs cells slots Q (F0 m (pc + 1) ls' rest)) : W p l e R s m args below meth c H locs cells slots Q (F0 m pc ls (va_rf x :: rest)) := by
  cases x with
  | none => exact lv_astore_nN hexec hb hdg hi h hn hl kk
  | some b => exact lv_astore_n hexec hb hdg hi h hn hl kk
theorem h_astore (hexec : p.tables.exec = Jvm.exec) (hb : c.code = cc) {i nL : Nat} {x : Option Nat} {lv lv' : List (Nat × Value)} (hdg : decode cc pc = .ok (.astore i, 2)) (h : lv_has ls nL lv) (hn : i < nL) (hl : (i, va_rf x) :: lv.filter (fun q => !(q.1 == i) && !(q.1 + 1 == i && q.2.category == 2)) = lv') (kk : ∀ ls' : Array Slot, lv_has ls' nL lv' → W p l e R s m args below meth c H locs cells slots Q (F0 m (pc + 2) ls' rest)) : W p l e R s m args below meth c H locs cells slots Q (F0 m pc ls (va_rf x :: rest)) := by
  cases x with
  | none => exact lv_astoreN hexec hb hdg h hn hl kk
  | some b => exact lv_astore hexec hb hdg h hn hl kk
end HR
/-! ===== new arrays, a copy; contracts, calls, entries, ends ===== -/
section HC
variable {p : Program} {l : Launch} {e : Env} {R : Room} {s : State} {m : MethodId} {args : Array Value} {below : List Frame} {meth : Method} {c : Code} {H : Heap} {locs : List Loc} {cells slots : Nat} {Q : State → Prop}
variable {cc : ByteArray} {pc nL : Nat} {ls : Array Slot} {rest : List Value} {X : hX} {a : Nat} {M : hm} {own : String}
theorem r_newA {k N : Nat} {a0 : vp_A} (cx : CX X p c cc nL s m args own) (hP : hp X M H) (hS : va_S (hA X) s.heap H locs) {q : hm × Nat} (hg : nA M k a0 = some q) {atype : ArrayType} {ty : FieldType} (hty : newarray.typeOf atype = ty) (harr : Cond.arrayClass ty ∈ wG) (hk : (hty X)[k]? = some (X.2.2 k, ty)) (hra : ∀ cA : ClassId, va_RA s cA ty → s.vm.findClass ("[" ++ ty.toString) = some cA) {n : Int32} (ha : ∀ cA : ClassId, vp_cell cA a0 = arrV cA N (fun _ => defaultValue ty)) (hn : ¬ n < 0) (hN : n.toNatClampNeg = N) (hbytes : N * componentBytes ty ≤ 536870912) (hcells : cells + 1 ≤ R.cells) (hslots : slots + N ≤ R.slots) (hdg : decode cc pc = .ok (.newarray atype, 2))
    (kk : ∀ H1 : Heap, hp X q.1 H1 → va_S (hA X) s.heap H1 locs → W p l e R s m args below meth c H1 locs (cells + 1) (slots + N) Q (F0 m (pc + 2) ls (.ref q.2 :: rest))) : W p l e R s m args below meth c H locs cells slots Q (F0 m pc ls (.int n :: rest)) := by
  cases hg
  subst hty
  have hK := cx.2.2.2.2.2.1.1
  refine va_newaK cx.1 cx.2.1 (cx.2.2.2.2.1 _ harr) rfl hdg rfl hn hN hbytes hcells hslots rfl fun H1 cA e1 z1 o1 hAr hNm => ?_
  have hcA : cA = X.2.2 k := Option.some.inj (hNm.symm.trans (hra _ (hK.2 k _ hk).2))
  subst hcA
  have hb : X.1 ≤ H.size := Nat.le_trans cx.2.2.2.2.2.2 hS.1
  have h := kk H1 (hP.push hb z1 (e := .inl (k, a0)) (by show H1[H.size]? = some (vp_cell _ _); rw [ha]; exact e1) o1) ⟨Nat.le_trans hS.1 (by omega), fun x h1 h2 => (o1 x (Nat.lt_of_lt_of_le h1 hS.1)).trans (hS.2.1 x h1 h2), hS.2.2⟩
  have e0 : (hnew M (.inl (k, a0)), M.2).2 = H.size := hP.1
  rw [e0] at h
  exact h
theorem r_newQ {k N : Nat} (cx : CX X p c cc nL s m args own) (hP : hp X M H) (hS : va_S (hA X) s.heap H locs) {q : hm × Nat} (hg : nA M k (N, .inr (.inr (.inr (.inr (fun _ => none))))) = some q) {C : String} {index : Nat} (hcl : Cond.classLink own index C ∈ wG) (hover : va_AO C s) (hk : (hty X)[k]? = some (X.2.2 k, .object C)) {n : Int32} (hn : ¬ n < 0) (hN : n.toNatClampNeg = N) (hbytes : N * 4 ≤ 536870912) (hcells : cells + 1 ≤ R.cells) (hslots : slots + N ≤ R.slots) (hdg : decode cc pc = .ok (.anewarray index, 3))
    (kk : ∀ H1 : Heap, hp X q.1 H1 → va_S (hA X) s.heap H1 locs → W p l e R s m args below meth c H1 locs (cells + 1) (slots + N) Q (F0 m (pc + 3) ls (.ref q.2 :: rest))) : W p l e R s m args below meth c H locs cells slots Q (F0 m pc ls (.int n :: rest)) := by
  cases hg
  subst hN
  have hK := cx.2.2.2.2.2.1.1
  refine W.anew cx.1 cx.2.1 cx.2.2.2.1 (cx.2.2.2.2.1 _ hcl) (va_AO.use hover) rfl hdg rfl hn hbytes hcells hslots fun cA kA comp f1 f2 f3 f4 => ?_
  generalize hH1 : H.push ({ cls := cA, slots := Array.replicate n.toNatClampNeg .null, vm := .none } : Cell) = H1
  have z1 : H1.size = H.size + 1 := by rw [← hH1, Array.size_push]
  have e1 : H1[H.size]? = some (arrV cA n.toNatClampNeg (fun _ => .null)) := by rw [← hH1, Array.getElem?_push_size, ← arrV_new]
  have o1 : ∀ q : Nat, q < H.size → H1[q]? = H[q]? := fun q hq => by rw [← hH1, Array.getElem?_push, if_neg (Nat.ne_of_lt hq)]
  obtain ⟨_, _, _, _, _, hNm⟩ := (hK.2 k _ hk).2
  have hcA : cA = X.2.2 k := Option.some.inj (f1.symm.trans hNm)
  subst hcA
  have hb : X.1 ≤ H.size := Nat.le_trans cx.2.2.2.2.2.2 hS.1
  have h := kk H1 (hP.push hb z1 (e := .inl (k, n.toNatClampNeg, .inr (.inr (.inr (.inr (fun _ => none)))))) (by show H1[H.size]? = some (vp_cell _ _); rw [vp_cell_q]; exact e1) o1) ⟨Nat.le_trans hS.1 (by omega), fun x h1 h2 => (o1 x (Nat.lt_of_lt_of_le h1 hS.1)).trans (hS.2.1 x h1 h2), hS.2.2⟩
  have e0 : (hnew M (.inl (k, n.toNatClampNeg, .inr (.inr (.inr (.inr (fun _ => none)))))), M.2).2 = H.size := hP.1
  rw [e0] at h
  exact h
theorem r_copy (cx : CX X p c cc nL s m args own) (hsz : ls.size = nL) (hP : hp X M H) (hS : va_S (hA X) s.heap H locs) {index a0 : Nat} (hlink : Cond.methodLink own index arraycopyName ∈ wG) (hnat : Cond.native arraycopyName ∈ wG) (hstat : Cond.static arraycopyName ∈ wG) (hini : Cond.initialized "java/lang/System" ∈ wG) {sp dp n : Int32} {M' : hm} (hg : hcp M a0 sp a dp n = some M') (hframes : 1 ≤ R.frames) (hlocals : (rest.map fun v => v.category).sum + 18 ≤ R.locals) (hdg : decode cc pc = .ok (.invokestatic index, 3))
    (kk : ∀ (H1 : Heap) (locs1 : List Loc), hp X M' H1 → va_S (hA X) s.heap H1 locs1 → W p l e R s m args below meth c H1 locs1 cells slots Q (F0 m (pc + 3) ls rest)) : W p l e R s m args below meth c H locs cells slots Q (F0 m pc ls (.int n :: .int dp :: .ref a :: .int sp :: .ref a0 :: rest)) := by
  obtain ⟨⟨n0, f⟩, g1, g2⟩ := Option.bind_eq_some_iff.mp hg
  obtain ⟨⟨n1, g⟩, g3, g4⟩ := Option.bind_eq_some_iff.mp g2
  split at g4
  case isFalse => cases g4
  case isTrue hh =>
  cases g4
  obtain ⟨h1, h2, h3, h4, h5⟩ := hh
  have hK := cx.2.2.2.2.2.1.1
  have hts := cx.2.2.2.2.1
  have nn : ∀ z : Int32, ¬ z < 0 → z.toInt = (z.toNatClampNeg : Int) := by
    intro z hz
    have hz0 : (0 : Int) ≤ z.toInt := by
      have := Int32.not_lt.mp hz
      simpa using Int32.le_iff_toInt_le.mp this
    show z.toInt = ((z.toInt.toNat : Nat) : Int)
    omega
  intro T hT Y
  have hc0 : H[a0]? = some (vp_cell (X.2.2 0) (n0, .inr (.inr (.inr (.inl f))))) := (hP.2 _ _ (fD_eq g1)).2
  have hc1 : H[a]? = some (vp_cell (X.2.2 0) (n1, .inr (.inr (.inr (.inl g))))) := (hP.2 _ _ (fD_eq g3)).2
  have hA1 : X.1 ≤ a := (hP.2 _ _ (fD_eq g3)).1
  obtain ⟨-, k0, hk0, cm0, hkk0⟩ := (hK.2 0 _ rfl).1 n0 (fun j => .double (f j))
  obtain ⟨-, k1, hk1, cm1, hkk1⟩ := (hK.2 0 _ rfl).1 n1 (fun j => .double (g j))
  obtain ⟨vm', Y', step⟩ := Y.arraycopy cx.1 cx.2.2.2.1 (hts _ hlink) (hts _ hnat) (hts _ hstat) (hts _ hini) (src := a0) (dst := a) (cs := vp_cell (X.2.2 0) (n0, .inr (.inr (.inr (.inl f))))) (cd := vp_cell (X.2.2 0) (n1, .inr (.inr (.inr (.inl g))))) (srcPos := sp) (destPos := dp) (n := n) (by rw [hT]; exact hc0) (by rw [hT]; exact hc1)
    (fun _ h => by cases h) (fun _ h => by cases h) (fun h => by cases h) (fun h => by cases h) hk0 hk1 hkk0 hkk1 (by simp [refKind]) h1 h2 h3
    (by rw [nn sp h1, nn n h3]; show ¬ _ > ((arrV _ n0 (fun j => .double (f j))).slots.size : Int); rw [arrV_size]; omega)
    (by rw [nn dp h2, nn n h3]; show ¬ _ > ((arrV _ n1 (fun j => .double (g j))).slots.size : Int); rw [arrV_size]; omega)
    (fun vm₁ _ i hi => by
      have e : (vp_cell (X.2.2 0) (n0, .inr (.inr (.inr (.inl f))))).slots.getD (sp.toNatClampNeg + i) .null = .double (f (sp.toNatClampNeg + i)) := by
        show (arrV _ n0 (fun j => .double (f j))).slots.getD _ _ = _
        rw [Array.getD_eq_getD_getElem?, arrV_read _ _ (by omega)]
        rfl
      refine ⟨?_, ?_⟩
      · rw [e]
        rfl
      · rw [e]
        exact trivial)
    (g := F0 m pc ls (.int n :: .int dp :: .ref a :: .int sp :: .ref a0 :: rest)) rfl (by rw [cx.2.2.1, ← hsz]) (rest := rest) rfl (by rw [cx.2.1]; exact hdg) hframes (by show 2 * 0 + _ + _ ≤ _; have hw : nativeFrameWords "java/lang/System" "arraycopy" 5 = 7 := by decide
                                                                                                                                                                                 omega)
  have e1 : copied (vp_cell (X.2.2 0) (n0, .inr (.inr (.inr (.inl f))))) (vp_cell (X.2.2 0) (n1, .inr (.inr (.inr (.inl g))))) sp dp n = vp_cell (X.2.2 0) (n1, .inr (.inr (.inr (.inl (va_cpy f g sp.toNatClampNeg dp.toNatClampNeg n.toNatClampNeg))))) := va_copied (fun z => .double z) _ _ f g h4
  rw [e1] at Y' step
  have hl : a < H.size := (Array.getElem?_eq_some_iff.mp hc1).1
  generalize hcell : vp_cell (X.2.2 0) (n1, .inr (.inr (.inr (.inl (va_cpy f g sp.toNatClampNeg dp.toNatClampNeg n.toNatClampNeg))))) = cell1 at Y' step
  have hheap : ((T.setVm vm').setCell a cell1).heap = H.setIfInBounds a cell1 := by rw [← hT]; rfl
  have oq : ∀ q : Nat, q ≠ a → (H.setIfInBounds a cell1)[q]? = H[q]? := fun q hq => by simp [Array.getElem?_setIfInBounds, Ne.symm hq]
  obtain ⟨t, a1, b1⟩ := kk _ _ (hP.set hA1 (by simp) (show (H.setIfInBounds a cell1)[a]? = some _ by rw [← hcell]; simp [Array.getElem?_setIfInBounds, hl]; rfl) oq) ⟨by simp; exact hS.1, fun q g1 g2 => by
      rw [oq q (fun e => g2 (by rw [e]; exact hA1))]
      exact hS.2.1 q g1 g2, fun q hq => by
      rcases List.mem_append.mp hq with h | h
      · exact hS.2.2 q h
      · obtain ⟨z, -, hz⟩ := List.mem_map.mp h
        rw [← hz]
        exact hA1⟩ _ hheap Y'
  exact ⟨t, step t a1, b1⟩
end HC
/-- a contract's start and ends: the map before, and the map and the answer behind, are just these -/
def hPre (X : hX) (M : hm) (U : State) : Prop := X.1 ≤ U.heap.size ∧ hp X M U.heap ∧ hK X U
theorem hK.same {X : hX} {s U : State} (h : hK X s) (e : s.vm = U.vm) : hK X U :=
  ⟨va_K.moved (e ▸ Vm.Alike.refl s.vm) h.1, ⟨va_Nw.same rfl e h.2.1.1, va_Nw.same rfl e h.2.1.2.1, va_Nw.same rfl e h.2.1.2.2.1, va_Nw.same rfl e h.2.1.2.2.2.1, va_Nw.same rfl e h.2.1.2.2.2.2⟩, va_AO.moved (e ▸ Vm.Alike.refl s.vm) h.2.2.1, va_AO.moved (e ▸ Vm.Alike.refl s.vm) h.2.2.2⟩
def qV (X : hX) (R : hm) : Array Value → State → Outcome → State → Prop := va_Qv (fun u : hm => u = R) (fun u t => hp X u t.heap) (hA X)
def qI (X : hX) (R : hm × Int32) : Array Value → State → Outcome → State → Prop := va_Qi (fun r (u : hm) => (u, r) = R) (fun u t => hp X u t.heap) (hA X)
def qL (X : hX) (R : hm × Int64) : Array Value → State → Outcome → State → Prop := va_Ql (fun r (u : hm) => (u, r) = R) (fun u t => hp X u t.heap) (hA X)
def qD (X : hX) (R : hm × UInt64) : Array Value → State → Outcome → State → Prop := va_Qd (fun r (u : hm) => (u, r) = R) (fun u t => hp X u t.heap) (hA X)
def qR (X : hX) (R : hm × Option Nat) : Array Value → State → Outcome → State → Prop := va_Qq (fun r (u : hm) => (u, r) = R) (fun u t => hp X u t.heap) (hA X)
def Ct (l : Launch) (X : hX) (y : MethodName) (cc : ByteArray) (maxL : Nat) (ret : Option FieldType) (rm : Room) (av : List Value) (M : hm) (Qc : Array Value → State → Outcome → State → Prop) : Prop :=
  Met l y (.code y cc maxL ret :: wG) rm (va_Pc av (fun U => hPre X M U)) Qc rm.cells rm.slots (hA X)
theorem hblind {X : hX} {M : hm} {av : List Value} : FrameBlind (va_Pc av (fun U => hPre X M U)) := fun a U g mk q => ⟨q.1, q.2.1, q.2.2.1, hK.same q.2.2.2 rfl⟩
section HD
variable {p : Program} {l : Launch} {e : Env} {R : Room} {s : State} {m : MethodId} {args : Array Value} {below : List Frame} {meth : Method} {c : Code} {H : Heap} {locs : List Loc} {cells slots : Nat} {Q : State → Prop}
variable {cc bytes : ByteArray} {pc nL maxL n index ci b : Nat} {ls : Array Slot} {rest st0 As : List Value} {X : hX} {M : hm} {own C : String} {y : MethodName} {ret : Option FieldType} {rm : Room} {Qc : Array Value → State → Outcome → State → Prop}
theorem hpreU (cx : CX X p c cc nL s m args own) (hP : hp X M H) (hS : va_S (hA X) s.heap H locs) {av : List Value} : ∀ U : State, U.heap = H → s.WarmedH U.vm → va_Pc av (fun U => hPre X M U) av.toArray U := fun U hU hW => ⟨rfl, by rw [hU]; exact Nat.le_trans cx.2.2.2.2.2.2 hS.1, by rw [hU]; exact hP, cx.2.2.2.2.2.1.warm hW⟩
theorem k_V (cx : CX X p c cc nL s m args own) (hsz : ls.size = nL) (hP : hp X M H) (hS : va_S (hA X) s.heap H locs) (hM : Ct l X y bytes maxL ret rm (.ref b :: As) M Qc) (ho : isO M b ci = some ()) {T : u_T} {N : Nat} (hc : vwCl[ci]? = some (C, T, N)) (h1 : Cond.code y bytes maxL ret ∈ wG) (h2 : Cond.methodLink own index y ∈ wG) (h3 : Cond.instanceMethod y ∈ wG) (h4 : Cond.selects C y y ∈ wG) (h5 : Cond.initialized C ∈ wG)
    (hd : y.cls = C ∧ y.cls ≠ "java/lang/invoke/MethodHandle" ∧ y.cls ≠ "java/lang/invoke/VarHandle" ∧ (parseMethodDescriptor y.desc).map (fun d => d.parameters.length) = some n) (hR : rm.frames + 1 ≤ R.frames ∧ 8 + (maxL + 11) + rm.locals ≤ R.locals) (hn : As.length = n) (hst : st0 = As.reverse ++ .ref b :: rest) (hw : (rest.map fun v => v.category).sum ≤ 8) (hdg : decode cc pc = .ok (.invokevirtual index, 3)) (hf : cells + rm.cells ≤ R.cells ∧ slots + rm.slots ≤ R.slots) :
    va_Run p l e R s m args below meth c H locs cells slots rm.cells rm.slots (F0 m pc ls st0) rest (Qc (Value.ref b :: As).toArray) (hA X) := by
  obtain ⟨fs, hv0, -⟩ := Option.map_eq_some_iff.mp ho
  subst hst
  exact va_runV ⟨cx.1, cx.2.1, cx.2.2.1, cx.2.2.2.1, cx.2.2.2.2.1⟩ hM (cwV n cx.2.2.2.2.1 (wG_V h1 h2 h3 h4 h5) rfl rfl rfl hd hR) ⟨hblind, va_recv cx.2.2.2.2.2.1.1 (hp_one hP (fO_eq hv0)) hc (q0 := 0) rfl, hpreU cx hP hS⟩ rfl hn hsz rfl (lv_room hw) hdg hf
theorem k_S (cx : CX X p c cc nL s m args own) (hsz : ls.size = nL) (hP : hp X M H) (hS : va_S (hA X) s.heap H locs) (hM : Ct l X y bytes maxL ret rm As M Qc) (h1 : Cond.code y bytes maxL ret ∈ wG) (h2 : Cond.methodLink own index y ∈ wG) (h3 : Cond.static y ∈ wG) (h5 : Cond.initialized y.cls ∈ wG)
    (hd : y.cls ≠ "java/lang/invoke/MethodHandle" ∧ y.cls ≠ "java/lang/invoke/VarHandle" ∧ (parseMethodDescriptor y.desc).map (fun d => d.parameters.length) = some n) (hR : rm.frames + 1 ≤ R.frames ∧ 8 + (maxL + 11) + rm.locals ≤ R.locals) (hn : As.length = n) (hst : st0 = As.reverse ++ rest) (hw : (rest.map fun v => v.category).sum ≤ 8) (hdg : decode cc pc = .ok (.invokestatic index, 3)) (hf : cells + rm.cells ≤ R.cells ∧ slots + rm.slots ≤ R.slots) :
    va_Run p l e R s m args below meth c H locs cells slots rm.cells rm.slots (F0 m pc ls st0) rest (Qc As.toArray) (hA X) := by
  subst hst
  exact va_runS ⟨cx.1, cx.2.1, cx.2.2.1, cx.2.2.2.1, cx.2.2.2.2.1⟩ hM (va_cwS n cx.2.2.2.2.1 (wG_S h1 h2 h3 h5) rfl rfl rfl hd hR) ⟨hblind, hpreU cx hP hS⟩ rfl hn hsz rfl (lv_room hw) hdg hf
theorem k_N (cx : CX X p c cc nL s m args own) (hsz : ls.size = nL) (hP : hp X M H) (hS : va_S (hA X) s.heap H locs) (hM : Ct l X y bytes maxL ret rm As M Qc) (h1 : Cond.code y bytes maxL ret ∈ wG) {host : String} (h2 : va_Nw (.methodLinkNest own index y host) s) (h3 : Cond.static y ∈ wG) (h5 : Cond.initialized y.cls ∈ wG)
    (hd : y.cls ≠ "java/lang/invoke/MethodHandle" ∧ y.cls ≠ "java/lang/invoke/VarHandle" ∧ (parseMethodDescriptor y.desc).map (fun d => d.parameters.length) = some n) (hR : rm.frames + 1 ≤ R.frames ∧ 8 + (maxL + 11) + rm.locals ≤ R.locals) (hn : As.length = n) (hst : st0 = As.reverse ++ rest) (hw : (rest.map fun v => v.category).sum ≤ 8) (hdg : decode cc pc = .ok (.invokestatic index, 3)) (hf : cells + rm.cells ≤ R.cells ∧ slots + rm.slots ≤ R.slots) :
    va_Run p l e R s m args below meth c H locs cells slots rm.cells rm.slots (F0 m pc ls st0) rest (Qc As.toArray) (hA X) := by
  subst hst
  exact va_runSN ⟨cx.1, cx.2.1, cx.2.2.1, cx.2.2.2.1, cx.2.2.2.2.1⟩ hM ⟨va_cnB n cx.2.2.2.2.1 (wG_c h1) rfl rfl rfl h2 (cx.2.2.2.2.1 _ h5) hd hR, cx.2.2.2.2.1 _ h3, trivial⟩ ⟨hblind, hpreU cx hP hS⟩ rfl hn hsz rfl (lv_room hw) hdg hf
theorem k_I (cx : CX X p c cc nL s m args own) (hsz : ls.size = nL) (hP : hp X M H) (hS : va_S (hA X) s.heap H locs) (hM : Ct l X y bytes maxL none rm (.ref b :: As) M Qc) (h1 : Cond.code y bytes maxL none ∈ wG) (h2 : Cond.methodLink own index y ∈ wG) (h3 : Cond.instanceMethod y ∈ wG) (h5 : Cond.initialized y.cls ∈ wG) (hy1 : y.name = "<init>")
    (hd : y.cls ≠ "java/lang/invoke/MethodHandle" ∧ y.cls ≠ "java/lang/invoke/VarHandle" ∧ (parseMethodDescriptor y.desc).map (fun d => d.parameters.length) = some n) (hR : rm.frames + 1 ≤ R.frames ∧ 8 + (maxL + 11) + rm.locals ≤ R.locals) (hn : As.length = n) (hst : st0 = As.reverse ++ .ref b :: rest) (hw : (rest.map fun v => v.category).sum ≤ 8) (hdg : decode cc pc = .ok (.invokespecial index, 3)) (hf : cells + rm.cells ≤ R.cells ∧ slots + rm.slots ≤ R.slots) :
    va_Run p l e R s m args below meth c H locs cells slots rm.cells rm.slots (F0 m pc ls st0) rest (Qc (Value.ref b :: As).toArray) (hA X) := by
  subst hst
  have hts := cx.2.2.2.2.1
  exact va_runI ⟨cx.1, cx.2.1, cx.2.2.1, cx.2.2.2.1, hts⟩ hM (cwI n hts (wG_c h1) rfl rfl rfl (hts _ h5) (hts _ h2) (hts _ h3) hy1 hd hR) ⟨hblind, hpreU cx hP hS⟩ rfl hn hsz rfl (lv_room hw) hdg hf
variable {av : Array Value} {mc ms : Nat}
theorem f_V {Rr : hm} (hr : va_Run p l e R s m args below meth c H locs cells slots mc ms (F0 m pc ls st0) rest (qV X Rr av) (hA X)) (hS : va_S (hA X) s.heap H locs) (kk : ∀ (H1 : Heap) (locs1 : List Loc), hp X Rr H1 → va_S (hA X) s.heap H1 locs1 → W p l e R s m args below meth c H1 locs1 (cells + mc) (slots + ms) Q (F0 m (pc + 3) ls rest)) : W p l e R s m args below meth c H locs cells slots Q (F0 m pc ls st0) :=
  va_callv hr hS (fun q _ h => h) (fun q h => h) (fun u t H1 locs1 ht hvm hw hB _ _ hS1 => by
    cases hw
    rw [ht] at hB
    exact kk H1 locs1 hB hS1)
theorem f_I {Mr : hm} {rr : Int32} (hr : va_Run p l e R s m args below meth c H locs cells slots mc ms (F0 m pc ls st0) rest (qI X (Mr, rr) av) (hA X)) (hS : va_S (hA X) s.heap H locs) (kk : ∀ (H1 : Heap) (locs1 : List Loc), hp X Mr H1 → va_S (hA X) s.heap H1 locs1 → W p l e R s m args below meth c H1 locs1 (cells + mc) (slots + ms) Q (F0 m (pc + 3) ls (.int rr :: rest))) : W p l e R s m args below meth c H locs cells slots Q (F0 m pc ls st0) :=
  va_calli hr hS (fun q _ h => h) (fun q h => h) (fun r u t H1 locs1 ht hvm hw hB _ _ hS1 => by
    cases hw
    rw [ht] at hB
    exact kk H1 locs1 hB hS1)
theorem f_L {Mr : hm} {rr : Int64} (hr : va_Run p l e R s m args below meth c H locs cells slots mc ms (F0 m pc ls st0) rest (qL X (Mr, rr) av) (hA X)) (hS : va_S (hA X) s.heap H locs) (kk : ∀ (H1 : Heap) (locs1 : List Loc), hp X Mr H1 → va_S (hA X) s.heap H1 locs1 → W p l e R s m args below meth c H1 locs1 (cells + mc) (slots + ms) Q (F0 m (pc + 3) ls (.long rr :: rest))) : W p l e R s m args below meth c H locs cells slots Q (F0 m pc ls st0) :=
  va_calll hr hS (fun q _ h => h) (fun q h => h) (fun r u t H1 locs1 ht hvm hw hB _ _ hS1 => by
    cases hw
    rw [ht] at hB
    exact kk H1 locs1 hB hS1)
theorem f_D {Mr : hm} {rr : UInt64} (hr : va_Run p l e R s m args below meth c H locs cells slots mc ms (F0 m pc ls st0) rest (qD X (Mr, rr) av) (hA X)) (hS : va_S (hA X) s.heap H locs) (kk : ∀ (H1 : Heap) (locs1 : List Loc), hp X Mr H1 → va_S (hA X) s.heap H1 locs1 → W p l e R s m args below meth c H1 locs1 (cells + mc) (slots + ms) Q (F0 m (pc + 3) ls (.double rr :: rest))) : W p l e R s m args below meth c H locs cells slots Q (F0 m pc ls st0) :=
  va_calld hr hS (fun q _ h => h) (fun q h => h) (fun r u t H1 locs1 ht hvm hw hB _ _ hS1 => by
    cases hw
    rw [ht] at hB
    exact kk H1 locs1 hB hS1)
theorem f_R {Mr : hm} {rr : Option Nat} (hr : va_Run p l e R s m args below meth c H locs cells slots mc ms (F0 m pc ls st0) rest (qR X (Mr, rr) av) (hA X)) (hS : va_S (hA X) s.heap H locs) (kk : ∀ (H1 : Heap) (locs1 : List Loc), hp X Mr H1 → va_S (hA X) s.heap H1 locs1 → W p l e R s m args below meth c H1 locs1 (cells + mc) (slots + ms) Q (F0 m (pc + 3) ls (va_rf rr :: rest))) : W p l e R s m args below meth c H locs cells slots Q (F0 m pc ls st0) :=
  va_callq hr hS (fun q _ h => h) (fun q h => h) (fun r u t H1 locs1 ht hvm hw hB _ _ hS1 => by
    cases hw
    rw [ht] at hB
    exact kk H1 locs1 hB hS1)
/-- a method's end -/
theorem t_V {Rr : hm} (cx : CX X p c cc nL s m args own) (hr : meth.sig.returnType = none) (hlocks : meth.locks = false) (hP : hp X M H) (hS : va_S (hA X) s.heap H locs) (hR : M = Rr) (h1 : cells ≤ mc) (h2 : slots ≤ ms) (hdg : decode cc pc = .ok (.return_, 1)) : W p l e R s m args below meth c H locs cells slots (MQ below (qV X Rr) args s mc ms (hA X)) (F0 m pc ls []) :=
  W.widen h1 h2 (W.vret cx.1 cx.2.1 hr (fun t ht hW => ⟨⟨M, rfl, hR, by rw [ht]; exact hP⟩, hS.F ht⟩) hS.2.2 hdg hlocks)
theorem t_I {Rr : hm × Int32} {v : Int32} (cx : CX X p c cc nL s m args own) (hr : meth.sig.returnType = some .int) (hlocks : meth.locks = false) (hP : hp X M H) (hS : va_S (hA X) s.heap H locs) (hR : (M, v) = Rr) (h1 : cells ≤ mc) (h2 : slots ≤ ms) (hdg : decode cc pc = .ok (.ireturn, 1)) : W p l e R s m args below meth c H locs cells slots (MQ below (qI X Rr) args s mc ms (hA X)) (F0 m pc ls [.int v]) :=
  W.widen h1 h2 (W.iret cx.1 cx.2.1 hr (fun t ht hW => ⟨⟨v, M, rfl, hR, by rw [ht]; exact hP⟩, hS.F ht⟩) hS.2.2 hdg hlocks)
theorem t_Z {Rr : hm × Int32} {v : Int32} (cx : CX X p c cc nL s m args own) (hr : meth.sig.returnType = some .boolean) (hlocks : meth.locks = false) (hP : hp X M H) (hS : va_S (hA X) s.heap H locs) (hv : v = 0 ∨ v = 1) (hR : (M, v) = Rr) (h1 : cells ≤ mc) (h2 : slots ≤ ms) (hdg : decode cc pc = .ok (.ireturn, 1)) : W p l e R s m args below meth c H locs cells slots (MQ below (qI X Rr) args s mc ms (hA X)) (F0 m pc ls [.int v]) :=
  W.widen h1 h2 (W.zret cx.1 cx.2.1 hr (zb_nar hv).1 (fun t ht hW => ⟨⟨v, M, rfl, hR, by rw [ht]; exact hP⟩, hS.F ht⟩) hS.2.2 hdg hlocks)
theorem t_L {Rr : hm × Int64} {v : Int64} (cx : CX X p c cc nL s m args own) (hr : meth.sig.returnType = some .long) (hlocks : meth.locks = false) (hP : hp X M H) (hS : va_S (hA X) s.heap H locs) (hR : (M, v) = Rr) (h1 : cells ≤ mc) (h2 : slots ≤ ms) (hdg : decode cc pc = .ok (.lreturn, 1)) : W p l e R s m args below meth c H locs cells slots (MQ below (qL X Rr) args s mc ms (hA X)) (F0 m pc ls [.long v]) :=
  W.widen h1 h2 (W.lret cx.1 cx.2.1 hr (fun t ht hW => ⟨⟨v, M, rfl, hR, by rw [ht]; exact hP⟩, hS.F ht⟩) hS.2.2 hdg hlocks)
theorem t_D {Rr : hm × UInt64} {v : UInt64} (cx : CX X p c cc nL s m args own) (hr : meth.sig.returnType = some .double) (hlocks : meth.locks = false) (hP : hp X M H) (hS : va_S (hA X) s.heap H locs) (hR : (M, v) = Rr) (h1 : cells ≤ mc) (h2 : slots ≤ ms) (hdg : decode cc pc = .ok (.dreturn, 1)) : W p l e R s m args below meth c H locs cells slots (MQ below (qD X Rr) args s mc ms (hA X)) (F0 m pc ls [.double v]) :=
  W.widen h1 h2 (W.dret cx.1 cx.2.1 hr (fun t ht hW => ⟨⟨v, M, rfl, hR, by rw [ht]; exact hP⟩, hS.F ht⟩) hS.2.2 hdg hlocks)
theorem t_R {Rr : hm × Option Nat} {v : Option Nat} {ty : String} (cx : CX X p c cc nL s m args own) (hr : meth.sig.returnType = some (.object ty)) (hlocks : meth.locks = false) (hP : hp X M H) (hS : va_S (hA X) s.heap H locs) (hR : (M, v) = Rr) (h1 : cells ≤ mc) (h2 : slots ≤ ms) (hdg : decode cc pc = .ok (.areturn, 1)) : W p l e R s m args below meth c H locs cells slots (MQ below (qR X Rr) args s mc ms (hA X)) (F0 m pc ls [va_rf v]) :=
  W.widen h1 h2 (W.aret cx.1 cx.2.1 hr (Or.inl ⟨ty, rfl⟩) (by cases v with | none => exact Or.inl rfl | some b => exact Or.inr ⟨b, rfl⟩) (fun t ht hW => ⟨⟨v, M, rfl, hR, by rw [ht]; exact hP⟩, hS.F ht⟩) hS.2.2 hdg hlocks)
end HD
/-- a method's entry -/
theorem h_enter {l : Launch} {X : hX} {y : MethodName} {cc : ByteArray} {maxL : Nat} {ret : Option FieldType} {rm : Room} {av : List Value} {M : hm} {Qc : Array Value → State → Outcome → State → Prop} {own : String} (hy : plainName y.cls = true) (ho : y.cls = own) (hlen : (lg_sl av).length ≤ maxL)
    (body : ∀ (p : Program) (e : Env) (s : State) (m : MethodId) (below : List Frame) (meth : Method) (c : Code) (ls : Array Slot), CX X p c cc maxL s m av.toArray own → meth.sig.returnType = ret → meth.locks = false → meth.name = y.name → hp X M s.heap → va_S (hA X) s.heap s.heap [] → lv_has ls maxL (lv_args 0 av) → W p l e rm s m av.toArray below meth c s.heap [] 0 0 (MQ below Qc av.toArray s rm.cells rm.slots (hA X)) (F0 m 0 ls [])) : Ct l X y cc maxL ret rm av M Qc := by
  refine Met.ofW (cc := cc) (maxL := maxL) (ret := ret) hy rfl ?_
  intro p e s m args below meth c s₁ B hml hv
  obtain ⟨rfl, hb, hP, hK⟩ := hv
  have hts := atoms_spec (ws := Cond.code y cc maxL ret :: wG) B.pre
  have hown : s.vm.findClass y.cls = some m.cls := findClass_of_methodNamed B.named
  rw [ho] at hown
  have hl := lv_entry av (n := maxL) hlen
  rw [lg_entry_eq]
  exact body p e s m below meth c _ ⟨B.exec, B.bytes, hml, hown, fun w hw => hts w (List.mem_cons_of_mem _ hw), hK, hb⟩ B.returns B.notSynchronized (name_of_methodNamed B.named B.method).1 hP va_S.rf hl
end
section
theorem mK_J6_265 : Cond.constant RJ6 265 (1431655765) ∈ wG := wG_t (List.mem_of_getElem? (i := 431) rfl) rfl
theorem mK_J6_266 : Cond.constant RJ6 266 (858993459) ∈ wG := wG_t (List.mem_of_getElem? (i := 432) rfl) rfl
theorem mK_J6_267 : Cond.constant RJ6 267 (252645135) ∈ wG := wG_t (List.mem_of_getElem? (i := 433) rfl) rfl
theorem mF_X0_24 : Cond.fieldLink RX0 24 (TX0 4).1 (TX0 4).2.1 (TX0 4).2.2.1 ∈ wG := wG_t (List.mem_of_getElem? (i := 400) rfl) rfl
theorem mF_X0_27 : Cond.fieldLink RX0 27 (TX0 5).1 (TX0 5).2.1 (TX0 5).2.2.1 ∈ wG := wG_t (List.mem_of_getElem? (i := 401) rfl) rfl
theorem mF_X0_21 : Cond.fieldLink RX0 21 (TX0 3).1 (TX0 3).2.1 (TX0 3).2.2.1 ∈ wG := wG_t (List.mem_of_getElem? (i := 399) rfl) rfl
theorem mC_J6_bitCount_0f7a4 : Cond.code yJ6_bitCount_0f7a4 cJ6_bitCount_0f7a4 1 (some .int) ∈ wG := wG_t (List.mem_of_getElem? (i := 430) rfl) rfl
theorem mM_X0_31 : Cond.methodLink RX0 31 yJ6_bitCount_0f7a4 ∈ wG := wG_t (List.mem_of_getElem? (i := 428) rfl) rfl
theorem mT_J6_bitCount_0f7a4 : Cond.static yJ6_bitCount_0f7a4 ∈ wG := wG_t (List.mem_of_getElem? (i := 429) rfl) rfl
theorem mZ_J6 : Cond.initialized RJ6 ∈ wG := wG_t (List.mem_of_getElem? (i := 9) rfl) rfl
theorem mC_X0_firstRang : Cond.code yX0_firstRang cX0_firstRang 2 (some .int) ∈ wG := wG_t (List.mem_of_getElem? (i := 482) rfl) rfl
theorem mM_X0_37 : Cond.methodLink RX0 37 yX0_firstRang ∈ wG := wG_t (List.mem_of_getElem? (i := 479) rfl) rfl
theorem mI_X0_firstRang : Cond.instanceMethod yX0_firstRang ∈ wG := wG_t (List.mem_of_getElem? (i := 481) rfl) rfl
theorem mS_X0_firstRang : Cond.selects RX0 yX0_firstRang yX0_firstRang ∈ wG := wG_p (List.mem_of_getElem? (i := 22) rfl) rfl
theorem mZ_X0 : Cond.initialized RX0 ∈ wG := wG_t (List.mem_of_getElem? (i := 8) rfl) rfl
theorem mM_X0_3 : Cond.methodLink RX0 3 objectInit ∈ wG := wG_t (List.mem_of_getElem? (i := 392) rfl) rfl
theorem mI_obj : Cond.instanceMethod objectInit ∈ wG := wG_t (List.mem_of_getElem? (i := 16) rfl) rfl
theorem mC_obj : Cond.code objectInit ⟨#[0xb1]⟩ 1 none ∈ wG := wG_t (List.mem_of_getElem? (i := 17) rfl) rfl
theorem mF_X0_9 : Cond.fieldLink RX0 9 (TX0 0).1 (TX0 0).2.1 (TX0 0).2.2.1 ∈ wG := wG_t (List.mem_of_getElem? (i := 393) rfl) rfl
theorem mF_X0_15 : Cond.fieldLink RX0 15 (TX0 1).1 (TX0 1).2.1 (TX0 1).2.2.1 ∈ wG := wG_t (List.mem_of_getElem? (i := 395) rfl) rfl
theorem mF_X0_18 : Cond.fieldLink RX0 18 (TX0 2).1 (TX0 2).2.1 (TX0 2).2.2.1 ∈ wG := wG_t (List.mem_of_getElem? (i := 397) rfl) rfl
theorem mM_X1_1 : Cond.methodLink RX1 1 objectInit ∈ wG := wG_t (List.mem_of_getElem? (i := 163) rfl) rfl
theorem mF_X1_7 : Cond.fieldLink RX1 7 (TX1 0).1 (TX1 0).2.1 (TX1 0).2.2.1 ∈ wG := wG_t (List.mem_of_getElem? (i := 164) rfl) rfl
theorem mF_X1_13 : Cond.fieldLink RX1 13 (TX1 1).1 (TX1 1).2.1 (TX1 1).2.2.1 ∈ wG := wG_t (List.mem_of_getElem? (i := 166) rfl) rfl
theorem mF_X1_17 : Cond.fieldLink RX1 17 (TX1 2).1 (TX1 2).2.1 (TX1 2).2.2.1 ∈ wG := wG_t (List.mem_of_getElem? (i := 168) rfl) rfl
theorem mC_X5_hasMinus : Cond.code yX5_hasMinus cX5_hasMinus 2 (some .boolean) ∈ wG := wG_t (List.mem_of_getElem? (i := 281) rfl) rfl
theorem mT_X5_hasMinus : Cond.static yX5_hasMinus ∈ wG := wG_t (List.mem_of_getElem? (i := 280) rfl) rfl
theorem mZ_X5 : Cond.initialized RX5 ∈ wG := wG_t (List.mem_of_getElem? (i := 1) rfl) rfl
theorem mF_X3_16 : Cond.fieldLink RX3 16 (TX3 1).1 (TX3 1).2.1 (TX3 1).2.2.1 ∈ wG := wG_t (List.mem_of_getElem? (i := 29) rfl) rfl
theorem mF_X2_21 : Cond.fieldLink RX2 21 (TX2 1).1 (TX2 1).2.1 (TX2 1).2.2.1 ∈ wG := wG_t (List.mem_of_getElem? (i := 89) rfl) rfl
theorem mF_X2_87 : Cond.fieldLink RX2 87 (TX3 0).1 (TX3 0).2.1 (TX3 0).2.2.1 ∈ wG := wG_t (List.mem_of_getElem? (i := 27) rfl) rfl
theorem mF_X2_54 : Cond.fieldLink RX2 54 (TX3 3).1 (TX3 3).2.1 (TX3 3).2.2.1 ∈ wG := wG_t (List.mem_of_getElem? (i := 35) rfl) rfl
theorem mC_X3_blankAt : Cond.code yX3_blankAt cX3_blankAt 2 (some .boolean) ∈ wG := wG_t (List.mem_of_getElem? (i := 259) rfl) rfl
theorem mM_X2_84 : Cond.methodLink RX2 84 yX3_blankAt ∈ wG := wG_t (List.mem_of_getElem? (i := 271) rfl) rfl
theorem mI_X3_blankAt : Cond.instanceMethod yX3_blankAt ∈ wG := wG_t (List.mem_of_getElem? (i := 257) rfl) rfl
theorem mS_X3_blankAt : Cond.selects RX3 yX3_blankAt yX3_blankAt ∈ wG := wG_t (List.mem_of_getElem? (i := 258) rfl) rfl
theorem mZ_X3 : Cond.initialized RX3 ∈ wG := wG_t (List.mem_of_getElem? (i := 2) rfl) rfl
theorem mC_X2_comesBefore : Cond.code yX2_comesBefore cX2_comesBefore 4 (some .boolean) ∈ wG := wG_t (List.mem_of_getElem? (i := 278) rfl) rfl
theorem mM_X2_157 : Cond.methodLink RX2 157 yX2_comesBefore ∈ wG := wG_t (List.mem_of_getElem? (i := 276) rfl) rfl
theorem mT_X2_comesBefore : Cond.static yX2_comesBefore ∈ wG := wG_t (List.mem_of_getElem? (i := 277) rfl) rfl
theorem mZ_X2 : Cond.initialized RX2 ∈ wG := wG_t (List.mem_of_getElem? (i := 3) rfl) rfl
theorem mK_X2_161 : Cond.constantDouble RX2 161 (4841369599423283200) ∈ wG := wG_t (List.mem_of_getElem? (i := 326) rfl) rfl
theorem mK_X2_163 : Cond.constantDouble RX2 163 (14064741636278059008) ∈ wG := wG_t (List.mem_of_getElem? (i := 327) rfl) rfl
theorem mC_X2_isSurelyWhole : Cond.code yX2_isSurelyWhole cX2_isSurelyWhole 2 (some .boolean) ∈ wG := wG_t (List.mem_of_getElem? (i := 325) rfl) rfl
theorem mM_X2_165 : Cond.methodLink RX2 165 yX2_isSurelyWhole ∈ wG := wG_t (List.mem_of_getElem? (i := 323) rfl) rfl
theorem mT_X2_isSurelyWhole : Cond.static yX2_isSurelyWhole ∈ wG := wG_t (List.mem_of_getElem? (i := 324) rfl) rfl
theorem mK_X5_198 : Cond.constantDouble RX5 198 (9218868437227405311) ∈ wG := wG_t (List.mem_of_getElem? (i := 207) rfl) rfl
theorem mK_X5_223 : Cond.constantDouble RX5 223 (18442240474082181119) ∈ wG := wG_t (List.mem_of_getElem? (i := 295) rfl) rfl
theorem mC_X5_isInfinite : Cond.code yX5_isInfinite cX5_isInfinite 2 (some .boolean) ∈ wG := wG_t (List.mem_of_getElem? (i := 294) rfl) rfl
theorem mT_X5_isInfinite : Cond.static yX5_isInfinite ∈ wG := wG_t (List.mem_of_getElem? (i := 293) rfl) rfl
theorem mC_X2_isUndefined : Cond.code yX2_isUndefined cX2_isUndefined 6 (some .boolean) ∈ wG := wG_t (List.mem_of_getElem? (i := 291) rfl) rfl
theorem mM_X2_90 : Cond.methodLink RX2 90 yX2_isUndefined ∈ wG := wG_t (List.mem_of_getElem? (i := 289) rfl) rfl
theorem mT_X2_isUndefined : Cond.static yX2_isUndefined ∈ wG := wG_t (List.mem_of_getElem? (i := 290) rfl) rfl
theorem mM_X4_1 : Cond.methodLink RX4 1 objectInit ∈ wG := wG_t (List.mem_of_getElem? (i := 75) rfl) rfl
theorem mF_X4_9 : Cond.fieldLink RX4 9 (TX4 0).1 (TX4 0).2.1 (TX4 0).2.2.1 ∈ wG := wG_t (List.mem_of_getElem? (i := 78) rfl) rfl
theorem mF_X4_13 : Cond.fieldLink RX4 13 (TX4 1).1 (TX4 1).2.1 (TX4 1).2.2.1 ∈ wG := wG_t (List.mem_of_getElem? (i := 79) rfl) rfl
theorem mK_X4_16 : Cond.constantDouble RX4 16 (4611686018427387904) ∈ wG := wG_t (List.mem_of_getElem? (i := 76) rfl) rfl
theorem mK_X4_18 : Cond.constantDouble RX4 18 (4602678819172646912) ∈ wG := wG_t (List.mem_of_getElem? (i := 77) rfl) rfl
theorem mA_double : Cond.arrayClass .double ∈ wG := wG_t (List.mem_of_getElem? (i := 61) rfl) rfl
theorem mM_X3_3 : Cond.methodLink RX3 3 objectInit ∈ wG := wG_t (List.mem_of_getElem? (i := 24) rfl) rfl
theorem mF_X3_9 : Cond.fieldLink RX3 9 (TX3 0).1 (TX3 0).2.1 (TX3 0).2.2.1 ∈ wG := wG_t (List.mem_of_getElem? (i := 26) rfl) rfl
theorem mK_X3_15 : Cond.constant RX3 15 (65535) ∈ wG := wG_t (List.mem_of_getElem? (i := 25) rfl) rfl
theorem mF_X3_20 : Cond.fieldLink RX3 20 (TX3 2).1 (TX3 2).2.1 (TX3 2).2.2.1 ∈ wG := wG_t (List.mem_of_getElem? (i := 31) rfl) rfl
theorem mF_X3_24 : Cond.fieldLink RX3 24 (TX3 3).1 (TX3 3).2.1 (TX3 3).2.2.1 ∈ wG := wG_t (List.mem_of_getElem? (i := 34) rfl) rfl
theorem mF_X3_27 : Cond.fieldLink RX3 27 (TX3 4).1 (TX3 4).2.1 (TX3 4).2.2.1 ∈ wG := wG_t (List.mem_of_getElem? (i := 37) rfl) rfl
theorem mF_X3_30 : Cond.fieldLink RX3 30 (TX3 5).1 (TX3 5).2.1 (TX3 5).2.2.1 ∈ wG := wG_t (List.mem_of_getElem? (i := 40) rfl) rfl
theorem mF_X3_33 : Cond.fieldLink RX3 33 (TX3 6).1 (TX3 6).2.1 (TX3 6).2.2.1 ∈ wG := wG_t (List.mem_of_getElem? (i := 43) rfl) rfl
theorem mM_X2_3 : Cond.methodLink RX2 3 objectInit ∈ wG := wG_t (List.mem_of_getElem? (i := 69) rfl) rfl
theorem mL_X2_9 : Cond.classLink RX2 9 RX4 ∈ wG := wG_t (List.mem_of_getElem? (i := 70) rfl) rfl
theorem mF_X2_12 : Cond.fieldLink RX2 12 (TX2 0).1 (TX2 0).2.1 (TX2 0).2.2.1 ∈ wG := wG_t (List.mem_of_getElem? (i := 87) rfl) rfl
theorem mL_X2_18 : Cond.classLink RX2 18 RX3 ∈ wG := wG_t (List.mem_of_getElem? (i := 85) rfl) rfl
theorem mF_X2_25 : Cond.fieldLink RX2 25 (TX2 2).1 (TX2 2).2.1 (TX2 2).2.2.1 ∈ wG := wG_t (List.mem_of_getElem? (i := 90) rfl) rfl
theorem mF_X2_28 : Cond.fieldLink RX2 28 (TX2 3).1 (TX2 3).2.1 (TX2 3).2.2.1 ∈ wG := wG_t (List.mem_of_getElem? (i := 91) rfl) rfl
theorem mF_X2_32 : Cond.fieldLink RX2 32 (TX2 4).1 (TX2 4).2.1 (TX2 4).2.2.1 ∈ wG := wG_t (List.mem_of_getElem? (i := 92) rfl) rfl
theorem mN_X4 : Cond.instantiable RX4 2 ∈ wG := wG_t (List.mem_of_getElem? (i := 71) rfl) rfl
theorem mZ_X4 : Cond.initialized RX4 ∈ wG := wG_t (List.mem_of_getElem? (i := 4) rfl) rfl
theorem mC_X4_init : Cond.code yX4_init cX4_init 2 none ∈ wG := wG_t (List.mem_of_getElem? (i := 74) rfl) rfl
theorem mM_X2_11 : Cond.methodLink RX2 11 yX4_init ∈ wG := wG_t (List.mem_of_getElem? (i := 72) rfl) rfl
theorem mI_X4_init : Cond.instanceMethod yX4_init ∈ wG := wG_t (List.mem_of_getElem? (i := 73) rfl) rfl
theorem mN_X3 : Cond.instantiable RX3 7 ∈ wG := wG_t (List.mem_of_getElem? (i := 20) rfl) rfl
theorem mC_X3_init : Cond.code yX3_init cX3_init 1 none ∈ wG := wG_t (List.mem_of_getElem? (i := 23) rfl) rfl
theorem mM_X2_20 : Cond.methodLink RX2 20 yX3_init ∈ wG := wG_t (List.mem_of_getElem? (i := 86) rfl) rfl
theorem mI_X3_init : Cond.instanceMethod yX3_init ∈ wG := wG_t (List.mem_of_getElem? (i := 22) rfl) rfl
theorem mF_X5_149 : Cond.fieldLink RX5 149 (TX3 0).1 (TX3 0).2.1 (TX3 0).2.2.1 ∈ wG := wG_t (List.mem_of_getElem? (i := 28) rfl) rfl
theorem mM_X5_156 : Cond.methodLink RX5 156 yX3_blankAt ∈ wG := wG_t (List.mem_of_getElem? (i := 299) rfl) rfl
theorem mC_X5_isSoOfNumbers : Cond.code yX5_isSoOfNumbers cX5_isSoOfNumbers 5 (some .boolean) ∈ wG := wG_t (List.mem_of_getElem? (i := 302) rfl) rfl
theorem mM_X5_219 : Cond.methodLink RX5 219 yX5_isSoOfNumbers ∈ wG := wG_t (List.mem_of_getElem? (i := 300) rfl) rfl
theorem mT_X5_isSoOfNumbers : Cond.static yX5_isSoOfNumbers ∈ wG := wG_t (List.mem_of_getElem? (i := 301) rfl) rfl
theorem mF_X2_94 : Cond.fieldLink RX2 94 (TX3 6).1 (TX3 6).2.1 (TX3 6).2.2.1 ∈ wG := wG_t (List.mem_of_getElem? (i := 44) rfl) rfl
theorem mC_X2_isOfTwo : Cond.code yX2_isOfTwo cX2_isOfTwo 1 (some .boolean) ∈ wG := wG_t (List.mem_of_getElem? (i := 288) rfl) rfl
theorem mM_X2_80 : Cond.methodLink RX2 80 yX2_isOfTwo ∈ wG := wG_t (List.mem_of_getElem? (i := 286) rfl) rfl
theorem mT_X2_isOfTwo : Cond.static yX2_isOfTwo ∈ wG := wG_t (List.mem_of_getElem? (i := 287) rfl) rfl
theorem mC_X5_isSo : Cond.code yX5_isSo cX5_isSo 8 (some .boolean) ∈ wG := wG_t (List.mem_of_getElem? (i := 298) rfl) rfl
theorem mT_X5_isSo : Cond.static yX5_isSo ∈ wG := wG_t (List.mem_of_getElem? (i := 297) rfl) rfl
theorem mC_X2_hasBothNeighbours : Cond.code yX2_hasBothNeighbours cX2_hasBothNeighbours 2 (some .boolean) ∈ wG := wG_t (List.mem_of_getElem? (i := 306) rfl) rfl
theorem mM_X2_101 : Cond.methodLink RX2 101 yX2_hasBothNeighbours ∈ wG := wG_t (List.mem_of_getElem? (i := 303) rfl) rfl
theorem mI_X2_hasBothNeighbours : Cond.instanceMethod yX2_hasBothNeighbours ∈ wG := wG_t (List.mem_of_getElem? (i := 305) rfl) rfl
theorem mS_X2_hasBothNeighbours : Cond.selects RX2 yX2_hasBothNeighbours yX2_hasBothNeighbours ∈ wG := wG_p (List.mem_of_getElem? (i := 8) rfl) rfl
theorem mC_X2_hasDifference : Cond.code yX2_hasDifference cX2_hasDifference 2 (some .boolean) ∈ wG := wG_t (List.mem_of_getElem? (i := 310) rfl) rfl
theorem mM_X2_104 : Cond.methodLink RX2 104 yX2_hasDifference ∈ wG := wG_t (List.mem_of_getElem? (i := 307) rfl) rfl
theorem mI_X2_hasDifference : Cond.instanceMethod yX2_hasDifference ∈ wG := wG_t (List.mem_of_getElem? (i := 309) rfl) rfl
theorem mS_X2_hasDifference : Cond.selects RX2 yX2_hasDifference yX2_hasDifference ∈ wG := wG_p (List.mem_of_getElem? (i := 9) rfl) rfl
theorem mK_X2_168 : Cond.constantDouble RX2 168 (4602678819172646912) ∈ wG := wG_t (List.mem_of_getElem? (i := 331) rfl) rfl
theorem mF_X2_36 : Cond.fieldLink RX2 36 (TX3 2).1 (TX3 2).2.1 (TX3 2).2.2.1 ∈ wG := wG_t (List.mem_of_getElem? (i := 32) rfl) rfl
theorem mK_X2_146 : Cond.constantDouble RX2 146 (4611686018427387904) ∈ wG := wG_t (List.mem_of_getElem? (i := 333) rfl) rfl
theorem mK_X2_144 : Cond.constantDouble RX2 144 (13830554455654793216) ∈ wG := wG_t (List.mem_of_getElem? (i := 332) rfl) rfl
theorem mC_X2_floor : Cond.code yX2_floor cX2_floor 4 (some .double) ∈ wG := wG_t (List.mem_of_getElem? (i := 322) rfl) rfl
theorem mM_X2_137 : Cond.methodLink RX2 137 yX2_floor ∈ wG := wG_t (List.mem_of_getElem? (i := 320) rfl) rfl
theorem mT_X2_floor : Cond.static yX2_floor ∈ wG := wG_t (List.mem_of_getElem? (i := 321) rfl) rfl
theorem mC_X2_nearest : Cond.code yX2_nearest cX2_nearest 8 (some .double) ∈ wG := wG_t (List.mem_of_getElem? (i := 330) rfl) rfl
theorem mM_X2_141 : Cond.methodLink RX2 141 yX2_nearest ∈ wG := wG_t (List.mem_of_getElem? (i := 328) rfl) rfl
theorem mT_X2_nearest : Cond.static yX2_nearest ∈ wG := wG_t (List.mem_of_getElem? (i := 329) rfl) rfl
theorem mC_X2_quotient : Cond.code yX2_quotient cX2_quotient 5 (some .double) ∈ wG := wG_t (List.mem_of_getElem? (i := 337) rfl) rfl
theorem mM_X2_148 : Cond.methodLink RX2 148 yX2_quotient ∈ wG := wG_t (List.mem_of_getElem? (i := 334) rfl) rfl
theorem mI_X2_quotient : Cond.instanceMethod yX2_quotient ∈ wG := wG_t (List.mem_of_getElem? (i := 336) rfl) rfl
theorem mS_X2_quotient : Cond.selects RX2 yX2_quotient yX2_quotient ∈ wG := wG_p (List.mem_of_getElem? (i := 12) rfl) rfl
theorem mC_X2_product : Cond.code yX2_product cX2_product 5 (some .double) ∈ wG := wG_t (List.mem_of_getElem? (i := 341) rfl) rfl
theorem mM_X2_151 : Cond.methodLink RX2 151 yX2_product ∈ wG := wG_t (List.mem_of_getElem? (i := 338) rfl) rfl
theorem mI_X2_product : Cond.instanceMethod yX2_product ∈ wG := wG_t (List.mem_of_getElem? (i := 340) rfl) rfl
theorem mS_X2_product : Cond.selects RX2 yX2_product yX2_product ∈ wG := wG_p (List.mem_of_getElem? (i := 13) rfl) rfl
theorem mC_X4_times : Cond.code yX4_times cX4_times 9 (some .double) ∈ wG := wG_t (List.mem_of_getElem? (i := 189) rfl) rfl
theorem mM_X2_174 : Cond.methodLink RX2 174 yX4_times ∈ wG := wG_t (List.mem_of_getElem? (i := 358) rfl) rfl
theorem mI_X4_times : Cond.instanceMethod yX4_times ∈ wG := wG_t (List.mem_of_getElem? (i := 187) rfl) rfl
theorem mS_X4_times : Cond.selects RX4 yX4_times yX4_times ∈ wG := wG_t (List.mem_of_getElem? (i := 188) rfl) rfl
theorem mC_X4_unit : Cond.code yX4_unit cX4_unit 10 (some .int) ∈ wG := wG_t (List.mem_of_getElem? (i := 357) rfl) rfl
theorem mM_X2_170 : Cond.methodLink RX2 170 yX4_unit ∈ wG := wG_t (List.mem_of_getElem? (i := 354) rfl) rfl
theorem mI_X4_unit : Cond.instanceMethod yX4_unit ∈ wG := wG_t (List.mem_of_getElem? (i := 355) rfl) rfl
theorem mS_X4_unit : Cond.selects RX4 yX4_unit yX4_unit ∈ wG := wG_t (List.mem_of_getElem? (i := 356) rfl) rfl
theorem mC_X2_sum : Cond.code yX2_sum cX2_sum 5 (some .double) ∈ wG := wG_t (List.mem_of_getElem? (i := 349) rfl) rfl
theorem mM_X2_130 : Cond.methodLink RX2 130 yX2_sum ∈ wG := wG_t (List.mem_of_getElem? (i := 346) rfl) rfl
theorem mI_X2_sum : Cond.instanceMethod yX2_sum ∈ wG := wG_t (List.mem_of_getElem? (i := 348) rfl) rfl
theorem mS_X2_sum : Cond.selects RX2 yX2_sum yX2_sum ∈ wG := wG_p (List.mem_of_getElem? (i := 15) rfl) rfl
theorem mC_X2_remainder : Cond.code yX2_remainder cX2_remainder 17 (some .double) ∈ wG := wG_t (List.mem_of_getElem? (i := 353) rfl) rfl
theorem mM_X2_154 : Cond.methodLink RX2 154 yX2_remainder ∈ wG := wG_t (List.mem_of_getElem? (i := 350) rfl) rfl
theorem mI_X2_remainder : Cond.instanceMethod yX2_remainder ∈ wG := wG_t (List.mem_of_getElem? (i := 352) rfl) rfl
theorem mS_X2_remainder : Cond.selects RX2 yX2_remainder yX2_remainder ∈ wG := wG_p (List.mem_of_getElem? (i := 16) rfl) rfl
theorem mC_X2_middleAt : Cond.code yX2_middleAt cX2_middleAt 9 (some .double) ∈ wG := wG_t (List.mem_of_getElem? (i := 362) rfl) rfl
theorem mM_X2_119 : Cond.methodLink RX2 119 yX2_middleAt ∈ wG := wG_t (List.mem_of_getElem? (i := 359) rfl) rfl
theorem mI_X2_middleAt : Cond.instanceMethod yX2_middleAt ∈ wG := wG_t (List.mem_of_getElem? (i := 361) rfl) rfl
theorem mS_X2_middleAt : Cond.selects RX2 yX2_middleAt yX2_middleAt ∈ wG := wG_p (List.mem_of_getElem? (i := 17) rfl) rfl
theorem mC_X2_farthestAt : Cond.code yX2_farthestAt cX2_farthestAt 8 (some .double) ∈ wG := wG_t (List.mem_of_getElem? (i := 366) rfl) rfl
theorem mM_X2_123 : Cond.methodLink RX2 123 yX2_farthestAt ∈ wG := wG_t (List.mem_of_getElem? (i := 363) rfl) rfl
theorem mI_X2_farthestAt : Cond.instanceMethod yX2_farthestAt ∈ wG := wG_t (List.mem_of_getElem? (i := 365) rfl) rfl
theorem mS_X2_farthestAt : Cond.selects RX2 yX2_farthestAt yX2_farthestAt ∈ wG := wG_p (List.mem_of_getElem? (i := 18) rfl) rfl
theorem mC_X2_lesserPlaces : Cond.code yX2_lesserPlaces cX2_lesserPlaces 5 (some .int) ∈ wG := wG_t (List.mem_of_getElem? (i := 370) rfl) rfl
theorem mM_X2_126 : Cond.methodLink RX2 126 yX2_lesserPlaces ∈ wG := wG_t (List.mem_of_getElem? (i := 367) rfl) rfl
theorem mI_X2_lesserPlaces : Cond.instanceMethod yX2_lesserPlaces ∈ wG := wG_t (List.mem_of_getElem? (i := 369) rfl) rfl
theorem mS_X2_lesserPlaces : Cond.selects RX2 yX2_lesserPlaces yX2_lesserPlaces ∈ wG := wG_p (List.mem_of_getElem? (i := 19) rfl) rfl
theorem mC_X2_ofTwo : Cond.code yX2_ofTwo cX2_ofTwo 6 (some .double) ∈ wG := wG_t (List.mem_of_getElem? (i := 345) rfl) rfl
theorem mM_X2_115 : Cond.methodLink RX2 115 yX2_ofTwo ∈ wG := wG_t (List.mem_of_getElem? (i := 342) rfl) rfl
theorem mI_X2_ofTwo : Cond.instanceMethod yX2_ofTwo ∈ wG := wG_t (List.mem_of_getElem? (i := 344) rfl) rfl
theorem mS_X2_ofTwo : Cond.selects RX2 yX2_ofTwo yX2_ofTwo ∈ wG := wG_p (List.mem_of_getElem? (i := 14) rfl) rfl
theorem mC_X2_ofOne : Cond.code yX2_ofOne cX2_ofOne 4 (some .double) ∈ wG := wG_t (List.mem_of_getElem? (i := 319) rfl) rfl
theorem mM_X2_111 : Cond.methodLink RX2 111 yX2_ofOne ∈ wG := wG_t (List.mem_of_getElem? (i := 316) rfl) rfl
theorem mI_X2_ofOne : Cond.instanceMethod yX2_ofOne ∈ wG := wG_t (List.mem_of_getElem? (i := 318) rfl) rfl
theorem mS_X2_ofOne : Cond.selects RX2 yX2_ofOne yX2_ofOne ∈ wG := wG_p (List.mem_of_getElem? (i := 11) rfl) rfl
theorem mM_X3_43 : Cond.methodLink RX3 43 yX3_blankAt ∈ wG := wG_t (List.mem_of_getElem? (i := 256) rfl) rfl
theorem mC_X3_put : Cond.code yX3_put cX3_put 4 none ∈ wG := wG_t (List.mem_of_getElem? (i := 193) rfl) rfl
theorem mM_X3_47 : Cond.methodLink RX3 47 yX3_put ∈ wG := wG_t (List.mem_of_getElem? (i := 261) rfl) rfl
theorem mI_X3_put : Cond.instanceMethod yX3_put ∈ wG := wG_t (List.mem_of_getElem? (i := 191) rfl) rfl
theorem mS_X3_put : Cond.selects RX3 yX3_put yX3_put ∈ wG := wG_t (List.mem_of_getElem? (i := 192) rfl) rfl
theorem mC_X3_clear : Cond.code yX3_clear cX3_clear 2 none ∈ wG := wG_t (List.mem_of_getElem? (i := 213) rfl) rfl
theorem mM_X3_55 : Cond.methodLink RX3 55 yX3_clear ∈ wG := wG_t (List.mem_of_getElem? (i := 260) rfl) rfl
theorem mI_X3_clear : Cond.instanceMethod yX3_clear ∈ wG := wG_t (List.mem_of_getElem? (i := 211) rfl) rfl
theorem mS_X3_clear : Cond.selects RX3 yX3_clear yX3_clear ∈ wG := wG_t (List.mem_of_getElem? (i := 212) rfl) rfl
theorem mC_X3_takeOne : Cond.code yX3_takeOne cX3_takeOne 4 none ∈ wG := wG_t (List.mem_of_getElem? (i := 255) rfl) rfl
theorem mM_X3_51 : Cond.methodLink RX3 51 yX3_takeOne ∈ wG := wG_t (List.mem_of_getElem? (i := 252) rfl) rfl
theorem mI_X3_takeOne : Cond.instanceMethod yX3_takeOne ∈ wG := wG_t (List.mem_of_getElem? (i := 253) rfl) rfl
theorem mS_X3_takeOne : Cond.selects RX3 yX3_takeOne yX3_takeOne ∈ wG := wG_t (List.mem_of_getElem? (i := 254) rfl) rfl
theorem mM_X2_76 : Cond.methodLink RX2 76 yX3_takeOne ∈ wG := wG_t (List.mem_of_getElem? (i := 266) rfl) rfl
theorem mC_X3_takeAll : Cond.code yX3_takeAll cX3_takeAll 3 none ∈ wG := wG_t (List.mem_of_getElem? (i := 251) rfl) rfl
theorem mM_X2_43 : Cond.methodLink RX2 43 yX3_takeAll ∈ wG := wG_t (List.mem_of_getElem? (i := 248) rfl) rfl
theorem mI_X3_takeAll : Cond.instanceMethod yX3_takeAll ∈ wG := wG_t (List.mem_of_getElem? (i := 249) rfl) rfl
theorem mS_X3_takeAll : Cond.selects RX3 yX3_takeAll yX3_takeAll ∈ wG := wG_t (List.mem_of_getElem? (i := 250) rfl) rfl
theorem mC_X2_insert : Cond.code yX2_insert cX2_insert 4 none ∈ wG := wG_t (List.mem_of_getElem? (i := 275) rfl) rfl
theorem mM_X2_178 : Cond.methodLink RX2 178 yX2_insert ∈ wG := wG_t (List.mem_of_getElem? (i := 272) rfl) rfl
theorem mI_X2_insert : Cond.instanceMethod yX2_insert ∈ wG := wG_t (List.mem_of_getElem? (i := 274) rfl) rfl
theorem mS_X2_insert : Cond.selects RX2 yX2_insert yX2_insert ∈ wG := wG_p (List.mem_of_getElem? (i := 6) rfl) rfl
theorem mF_X2_40 : Cond.fieldLink RX2 40 (TX3 4).1 (TX3 4).2.1 (TX3 4).2.2.1 ∈ wG := wG_t (List.mem_of_getElem? (i := 38) rfl) rfl
theorem mF_X2_47 : Cond.fieldLink RX2 47 (TX3 5).1 (TX3 5).2.1 (TX3 5).2.2.1 ∈ wG := wG_t (List.mem_of_getElem? (i := 41) rfl) rfl
theorem mC_X2_leavesBlank : Cond.code yX2_leavesBlank cX2_leavesBlank 3 (some .boolean) ∈ wG := wG_t (List.mem_of_getElem? (i := 285) rfl) rfl
theorem mM_X2_60 : Cond.methodLink RX2 60 yX2_leavesBlank ∈ wG := wG_t (List.mem_of_getElem? (i := 282) rfl) rfl
theorem mI_X2_leavesBlank : Cond.instanceMethod yX2_leavesBlank ∈ wG := wG_t (List.mem_of_getElem? (i := 284) rfl) rfl
theorem mS_X2_leavesBlank : Cond.selects RX2 yX2_leavesBlank yX2_leavesBlank ∈ wG := wG_p (List.mem_of_getElem? (i := 7) rfl) rfl
theorem mC_X2_numberAt : Cond.code yX2_numberAt cX2_numberAt 3 (some .double) ∈ wG := wG_t (List.mem_of_getElem? (i := 315) rfl) rfl
theorem mM_X2_68 : Cond.methodLink RX2 68 yX2_numberAt ∈ wG := wG_t (List.mem_of_getElem? (i := 312) rfl) rfl
theorem mI_X2_numberAt : Cond.instanceMethod yX2_numberAt ∈ wG := wG_t (List.mem_of_getElem? (i := 314) rfl) rfl
theorem mS_X2_numberAt : Cond.selects RX2 yX2_numberAt yX2_numberAt ∈ wG := wG_p (List.mem_of_getElem? (i := 10) rfl) rfl
theorem mM_X2_72 : Cond.methodLink RX2 72 yX3_put ∈ wG := wG_t (List.mem_of_getElem? (i := 371) rfl) rfl
theorem mM_X2_64 : Cond.methodLink RX2 64 yX3_clear ∈ wG := wG_t (List.mem_of_getElem? (i := 311) rfl) rfl
theorem mC_X2_takeSecond : Cond.code yX2_takeSecond cX2_takeSecond 4 none ∈ wG := wG_t (List.mem_of_getElem? (i := 265) rfl) rfl
theorem mM_X2_50 : Cond.methodLink RX2 50 yX2_takeSecond ∈ wG := wG_t (List.mem_of_getElem? (i := 262) rfl) rfl
theorem mI_X2_takeSecond : Cond.instanceMethod yX2_takeSecond ∈ wG := wG_t (List.mem_of_getElem? (i := 264) rfl) rfl
theorem mS_X2_takeSecond : Cond.selects RX2 yX2_takeSecond yX2_takeSecond ∈ wG := wG_p (List.mem_of_getElem? (i := 4) rfl) rfl
theorem mC_X2_sort : Cond.code yX2_sort cX2_sort 2 none ∈ wG := wG_t (List.mem_of_getElem? (i := 270) rfl) rfl
theorem mM_X2_57 : Cond.methodLink RX2 57 yX2_sort ∈ wG := wG_t (List.mem_of_getElem? (i := 267) rfl) rfl
theorem mI_X2_sort : Cond.instanceMethod yX2_sort ∈ wG := wG_t (List.mem_of_getElem? (i := 269) rfl) rfl
theorem mS_X2_sort : Cond.selects RX2 yX2_sort yX2_sort ∈ wG := wG_p (List.mem_of_getElem? (i := 5) rfl) rfl
theorem mL_X3_10 : Cond.classLink RX3 10 RX3 ∈ wG := wG_t (List.mem_of_getElem? (i := 181) rfl) rfl
theorem mM_X3_36 : Cond.methodLink RX3 36 yX3_init ∈ wG := wG_t (List.mem_of_getElem? (i := 182) rfl) rfl
theorem mM_X3_37 : Cond.methodLink RX3 37 arraycopyName ∈ wG := wG_t (List.mem_of_getElem? (i := 183) rfl) rfl
theorem mV_copy : Cond.native arraycopyName ∈ wG := wG_t (List.mem_of_getElem? (i := 185) rfl) rfl
theorem mT_copy : Cond.static arraycopyName ∈ wG := wG_t (List.mem_of_getElem? (i := 184) rfl) rfl
theorem mZ_System : Cond.initialized "java/lang/System" ∈ wG := wG_t (List.mem_of_getElem? (i := 7) rfl) rfl
theorem mK_X4_26 : Cond.constantLong RX4 26 (-1) ∈ wG := wG_t (List.mem_of_getElem? (i := 460) rfl) rfl
theorem mK_X4_31 : Cond.constantLong RX4 31 (255) ∈ wG := wG_t (List.mem_of_getElem? (i := 462) rfl) rfl
theorem mK_X4_33 : Cond.constantLong RX4 33 (2047) ∈ wG := wG_t (List.mem_of_getElem? (i := 463) rfl) rfl
theorem mM_X4_35 : Cond.methodLink RX4 35 yX4_unit ∈ wG := wG_t (List.mem_of_getElem? (i := 464) rfl) rfl
theorem mM_X4_39 : Cond.methodLink RX4 39 yX4_times ∈ wG := wG_t (List.mem_of_getElem? (i := 465) rfl) rfl
theorem mF_X5_37 : Cond.fieldLink RX5 37 (TX5 5).1 (TX5 5).2.1 (TX5 5).2.2.1 ∈ wG := wG_t (List.mem_of_getElem? (i := 109) rfl) rfl
theorem mF_X5_18 : Cond.fieldLink RX5 18 (TX5 1).1 (TX5 1).2.1 (TX5 1).2.2.1 ∈ wG := wG_t (List.mem_of_getElem? (i := 105) rfl) rfl
theorem mL_X5_16 : Cond.classLink RX5 16 RX0 ∈ wG := wG_t (List.mem_of_getElem? (i := 62) rfl) rfl
theorem mN_X0 : Cond.instantiable RX0 6 ∈ wG := wG_t (List.mem_of_getElem? (i := 388) rfl) rfl
theorem mC_X0_init : Cond.code yX0_init cX0_init 4 none ∈ wG := wG_t (List.mem_of_getElem? (i := 391) rfl) rfl
theorem mM_X5_130 : Cond.methodLink RX5 130 yX0_init ∈ wG := wG_t (List.mem_of_getElem? (i := 389) rfl) rfl
theorem mI_X0_init : Cond.instanceMethod yX0_init ∈ wG := wG_t (List.mem_of_getElem? (i := 390) rfl) rfl
theorem mC_X5_isColumn : Cond.code yX5_isColumn cX5_isColumn 1 (some .boolean) ∈ wG := wG_t (List.mem_of_getElem? (i := 139) rfl) rfl
theorem mM_X5_86 : Cond.methodLink RX5 86 yX5_isColumn ∈ wG := wG_t (List.mem_of_getElem? (i := 137) rfl) rfl
theorem mT_X5_isColumn : Cond.static yX5_isColumn ∈ wG := wG_t (List.mem_of_getElem? (i := 138) rfl) rfl
theorem mC_X5_isComparison : Cond.code yX5_isComparison cX5_isComparison 1 (some .boolean) ∈ wG := wG_t (List.mem_of_getElem? (i := 231) rfl) rfl
theorem mM_X5_89 : Cond.methodLink RX5 89 yX5_isComparison ∈ wG := wG_t (List.mem_of_getElem? (i := 229) rfl) rfl
theorem mT_X5_isComparison : Cond.static yX5_isComparison ∈ wG := wG_t (List.mem_of_getElem? (i := 230) rfl) rfl
theorem mC_X5_isConstant : Cond.code yX5_isConstant cX5_isConstant 1 (some .boolean) ∈ wG := wG_t (List.mem_of_getElem? (i := 220) rfl) rfl
theorem mM_X5_79 : Cond.methodLink RX5 79 yX5_isConstant ∈ wG := wG_t (List.mem_of_getElem? (i := 218) rfl) rfl
theorem mT_X5_isConstant : Cond.static yX5_isConstant ∈ wG := wG_t (List.mem_of_getElem? (i := 219) rfl) rfl
theorem mC_X0_answer : Cond.code yX0_answer cX0_answer 2 (some .int) ∈ wG := wG_t (List.mem_of_getElem? (i := 478) rfl) rfl
theorem mM_X5_172 : Cond.methodLink RX5 172 yX0_answer ∈ wG := wG_t (List.mem_of_getElem? (i := 475) rfl) rfl
theorem mI_X0_answer : Cond.instanceMethod yX0_answer ∈ wG := wG_t (List.mem_of_getElem? (i := 476) rfl) rfl
theorem mS_X0_answer : Cond.selects RX0 yX0_answer yX0_answer ∈ wG := wG_t (List.mem_of_getElem? (i := 477) rfl) rfl
theorem mF_X5_29 : Cond.fieldLink RX5 29 (TX5 3).1 (TX5 3).2.1 (TX5 3).2.2.1 ∈ wG := wG_t (List.mem_of_getElem? (i := 107) rfl) rfl
theorem mF_X5_11 : Cond.fieldLink RX5 11 (TX5 0).1 (TX5 0).2.1 (TX5 0).2.2.1 ∈ wG := wG_t (List.mem_of_getElem? (i := 104) rfl) rfl
theorem mF_X5_118 : Cond.fieldLink RX5 118 (TX1 0).1 (TX1 0).2.1 (TX1 0).2.2.1 ∈ wG := wG_t (List.mem_of_getElem? (i := 165) rfl) rfl
theorem mF_X5_123 : Cond.fieldLink RX5 123 (TX1 1).1 (TX1 1).2.1 (TX1 1).2.2.1 ∈ wG := wG_t (List.mem_of_getElem? (i := 167) rfl) rfl
theorem mF_X5_43 : Cond.fieldLink RX5 43 (TX5 7).1 (TX5 7).2.1 (TX5 7).2.2.1 ∈ wG := wG_t (List.mem_of_getElem? (i := 111) rfl) rfl
theorem mF_X5_127 : Cond.fieldLink RX5 127 (TX1 2).1 (TX1 2).2.1 (TX1 2).2.2.1 ∈ wG := wG_t (List.mem_of_getElem? (i := 169) rfl) rfl
theorem mF_X5_33 : Cond.fieldLink RX5 33 (TX5 4).1 (TX5 4).2.1 (TX5 4).2.2.1 ∈ wG := wG_t (List.mem_of_getElem? (i := 108) rfl) rfl
theorem mF_X5_25 : Cond.fieldLink RX5 25 (TX5 2).1 (TX5 2).2.1 (TX5 2).2.2.1 ∈ wG := wG_t (List.mem_of_getElem? (i := 106) rfl) rfl
theorem mC_X3_hasFormula : Cond.code yX3_hasFormula cX3_hasFormula 1 (some .boolean) ∈ wG := wG_t (List.mem_of_getElem? (i := 146) rfl) rfl
theorem mM_X5_104 : Cond.methodLink RX5 104 yX3_hasFormula ∈ wG := wG_t (List.mem_of_getElem? (i := 143) rfl) rfl
theorem mI_X3_hasFormula : Cond.instanceMethod yX3_hasFormula ∈ wG := wG_t (List.mem_of_getElem? (i := 144) rfl) rfl
theorem mS_X3_hasFormula : Cond.selects RX3 yX3_hasFormula yX3_hasFormula ∈ wG := wG_t (List.mem_of_getElem? (i := 145) rfl) rfl
theorem mC_X3_isTouched : Cond.code yX3_isTouched cX3_isTouched 4 (some .boolean) ∈ wG := wG_t (List.mem_of_getElem? (i := 243) rfl) rfl
theorem mM_X5_208 : Cond.methodLink RX5 208 yX3_isTouched ∈ wG := wG_t (List.mem_of_getElem? (i := 240) rfl) rfl
theorem mI_X3_isTouched : Cond.instanceMethod yX3_isTouched ∈ wG := wG_t (List.mem_of_getElem? (i := 241) rfl) rfl
theorem mS_X3_isTouched : Cond.selects RX3 yX3_isTouched yX3_isTouched ∈ wG := wG_t (List.mem_of_getElem? (i := 242) rfl) rfl
theorem mC_X2_reckon : Cond.code yX2_reckon cX2_reckon 4 none ∈ wG := wG_t (List.mem_of_getElem? (i := 247) rfl) rfl
theorem mM_X5_211 : Cond.methodLink RX5 211 yX2_reckon ∈ wG := wG_t (List.mem_of_getElem? (i := 244) rfl) rfl
theorem mI_X2_reckon : Cond.instanceMethod yX2_reckon ∈ wG := wG_t (List.mem_of_getElem? (i := 245) rfl) rfl
theorem mS_X2_reckon : Cond.selects RX2 yX2_reckon yX2_reckon ∈ wG := wG_t (List.mem_of_getElem? (i := 246) rfl) rfl
theorem mC_X5_isPlace : Cond.code yX5_isPlace cX5_isPlace 1 (some .boolean) ∈ wG := wG_t (List.mem_of_getElem? (i := 142) rfl) rfl
theorem mM_X5_153 : Cond.methodLink RX5 153 yX5_isPlace ∈ wG := wG_t (List.mem_of_getElem? (i := 140) rfl) rfl
theorem mT_X5_isPlace : Cond.static yX5_isPlace ∈ wG := wG_t (List.mem_of_getElem? (i := 141) rfl) rfl
theorem mF_X5_58 : Cond.fieldLink RX5 58 (TX2 0).1 (TX2 0).2.1 (TX2 0).2.2.1 ∈ wG := wG_t (List.mem_of_getElem? (i := 88) rfl) rfl
theorem mF_X5_110 : Cond.fieldLink RX5 110 (TX3 2).1 (TX3 2).2.1 (TX3 2).2.2.1 ∈ wG := wG_t (List.mem_of_getElem? (i := 33) rfl) rfl
theorem mC_X5_settle : Cond.code yX5_settle cX5_settle 3 none ∈ wG := wG_t (List.mem_of_getElem? (i := 239) rfl) rfl
theorem mM_X5_107 : Cond.methodLink RX5 107 yX5_settle ∈ wG := wG_t (List.mem_of_getElem? (i := 236) rfl) rfl
theorem mI_X5_settle : Cond.instanceMethod yX5_settle ∈ wG := wG_t (List.mem_of_getElem? (i := 238) rfl) rfl
theorem mS_X5_settle : Cond.selects RX5 yX5_settle yX5_settle ∈ wG := wG_p (List.mem_of_getElem? (i := 3) rfl) rfl
theorem mC_X5_isNumber : Cond.code yX5_isNumber cX5_isNumber 3 (some .boolean) ∈ wG := wG_t (List.mem_of_getElem? (i := 441) rfl) rfl
theorem mM_X5_146 : Cond.methodLink RX5 146 yX5_isNumber ∈ wG := wG_t (List.mem_of_getElem? (i := 438) rfl) rfl
theorem mI_X5_isNumber : Cond.instanceMethod yX5_isNumber ∈ wG := wG_t (List.mem_of_getElem? (i := 440) rfl) rfl
theorem mS_X5_isNumber : Cond.selects RX5 yX5_isNumber yX5_isNumber ∈ wG := wG_p (List.mem_of_getElem? (i := 21) rfl) rfl
theorem mC_X4_bitsOf : Cond.code yX4_bitsOf cX4_bitsOf 12 (some .long) ∈ wG := wG_t (List.mem_of_getElem? (i := 458) rfl) rfl
theorem mM_X5_163 : Cond.methodLink RX5 163 yX4_bitsOf ∈ wG := wG_t (List.mem_of_getElem? (i := 455) rfl) rfl
theorem mI_X4_bitsOf : Cond.instanceMethod yX4_bitsOf ∈ wG := wG_t (List.mem_of_getElem? (i := 456) rfl) rfl
theorem mS_X4_bitsOf : Cond.selects RX4 yX4_bitsOf yX4_bitsOf ∈ wG := wG_t (List.mem_of_getElem? (i := 457) rfl) rfl
theorem mL_X5_119 : Cond.classLink RX5 119 RX1 ∈ wG := wG_t (List.mem_of_getElem? (i := 158) rfl) rfl
theorem mN_X1 : Cond.instantiable RX1 3 ∈ wG := wG_t (List.mem_of_getElem? (i := 159) rfl) rfl
theorem mZ_X1 : Cond.initialized RX1 ∈ wG := wG_t (List.mem_of_getElem? (i := 6) rfl) rfl
theorem mC_X1_init : Cond.code yX1_init cX1_init 4 none ∈ wG := wG_t (List.mem_of_getElem? (i := 162) rfl) rfl
theorem mM_X5_185 : Cond.methodLink RX5 185 yX1_init ∈ wG := wG_t (List.mem_of_getElem? (i := 160) rfl) rfl
theorem mI_X1_init : Cond.instanceMethod yX1_init ∈ wG := wG_t (List.mem_of_getElem? (i := 161) rfl) rfl
theorem mC_X3_copy : Cond.code yX3_copy cX3_copy 2 (some (.object "TideBook$Row")) ∈ wG := wG_t (List.mem_of_getElem? (i := 180) rfl) rfl
theorem mM_X5_188 : Cond.methodLink RX5 188 yX3_copy ∈ wG := wG_t (List.mem_of_getElem? (i := 177) rfl) rfl
theorem mI_X3_copy : Cond.instanceMethod yX3_copy ∈ wG := wG_t (List.mem_of_getElem? (i := 178) rfl) rfl
theorem mS_X3_copy : Cond.selects RX3 yX3_copy yX3_copy ∈ wG := wG_t (List.mem_of_getElem? (i := 179) rfl) rfl
theorem mM_X5_215 : Cond.methodLink RX5 215 yX5_isSo ∈ wG := wG_t (List.mem_of_getElem? (i := 423) rfl) rfl
theorem mC_X5_placesWhere : Cond.code yX5_placesWhere cX5_placesWhere 9 (some .int) ∈ wG := wG_t (List.mem_of_getElem? (i := 422) rfl) rfl
theorem mM_X5_138 : Cond.methodLink RX5 138 yX5_placesWhere ∈ wG := wG_t (List.mem_of_getElem? (i := 419) rfl) rfl
theorem mI_X5_placesWhere : Cond.instanceMethod yX5_placesWhere ∈ wG := wG_t (List.mem_of_getElem? (i := 421) rfl) rfl
theorem mS_X5_placesWhere : Cond.selects RX5 yX5_placesWhere yX5_placesWhere ∈ wG := wG_p (List.mem_of_getElem? (i := 20) rfl) rfl
theorem mM_X5_167 : Cond.methodLink RX5 167 yJ6_bitCount_0f7a4 ∈ wG := wG_t (List.mem_of_getElem? (i := 470) rfl) rfl
theorem mC_X5_isExponent : Cond.code yX5_isExponent cX5_isExponent 1 (some .boolean) ∈ wG := wG_t (List.mem_of_getElem? (i := 153) rfl) rfl
theorem mM_X5_50 : Cond.methodLink RX5 50 yX5_isExponent ∈ wG := wG_t (List.mem_of_getElem? (i := 151) rfl) rfl
theorem mT_X5_isExponent : Cond.static yX5_isExponent ∈ wG := wG_t (List.mem_of_getElem? (i := 152) rfl) rfl
theorem mC_X5_isFull : Cond.code yX5_isFull cX5_isFull 1 (some .boolean) ∈ wG := wG_t (List.mem_of_getElem? (i := 150) rfl) rfl
theorem mM_X5_82 : Cond.methodLink RX5 82 yX5_isFull ∈ wG := wG_t (List.mem_of_getElem? (i := 147) rfl) rfl
theorem mI_X5_isFull : Cond.instanceMethod yX5_isFull ∈ wG := wG_t (List.mem_of_getElem? (i := 149) rfl) rfl
theorem mS_X5_isFull : Cond.selects RX5 yX5_isFull yX5_isFull ∈ wG := wG_p (List.mem_of_getElem? (i := 1) rfl) rfl
theorem mC_X5_changed : Cond.code yX5_changed cX5_changed 4 (some (.object "TideBook$Row")) ∈ wG := wG_t (List.mem_of_getElem? (i := 157) rfl) rfl
theorem mM_X5_54 : Cond.methodLink RX5 54 yX5_changed ∈ wG := wG_t (List.mem_of_getElem? (i := 154) rfl) rfl
theorem mI_X5_changed : Cond.instanceMethod yX5_changed ∈ wG := wG_t (List.mem_of_getElem? (i := 156) rfl) rfl
theorem mS_X5_changed : Cond.selects RX5 yX5_changed yX5_changed ∈ wG := wG_p (List.mem_of_getElem? (i := 2) rfl) rfl
theorem mM_X5_62 : Cond.methodLink RX5 62 yX4_times ∈ wG := wG_t (List.mem_of_getElem? (i := 186) rfl) rfl
theorem mM_X5_68 : Cond.methodLink RX5 68 yX3_put ∈ wG := wG_t (List.mem_of_getElem? (i := 190) rfl) rfl
theorem mK_X5_192 : Cond.constantDouble RX5 192 (9218868437227405312) ∈ wG := wG_t (List.mem_of_getElem? (i := 204) rfl) rfl
theorem mK_X5_200 : Cond.constantDouble RX5 200 (3936146074321813504) ∈ wG := wG_t (List.mem_of_getElem? (i := 208) rfl) rfl
theorem mK_X5_202 : Cond.constantDouble RX5 202 (1) ∈ wG := wG_t (List.mem_of_getElem? (i := 209) rfl) rfl
theorem mK_X5_196 : Cond.constantDouble RX5 196 (5183643170566569984) ∈ wG := wG_t (List.mem_of_getElem? (i := 206) rfl) rfl
theorem mK_X5_194 : Cond.constantDouble RX5 194 (9223372036854775808) ∈ wG := wG_t (List.mem_of_getElem? (i := 205) rfl) rfl
theorem mM_X5_204 : Cond.methodLink RX5 204 yX3_clear ∈ wG := wG_t (List.mem_of_getElem? (i := 210) rfl) rfl
theorem mC_X5_isSpecial : Cond.code yX5_isSpecial cX5_isSpecial 1 (some .boolean) ∈ wG := wG_t (List.mem_of_getElem? (i := 200) rfl) rfl
theorem mM_X5_72 : Cond.methodLink RX5 72 yX5_isSpecial ∈ wG := wG_t (List.mem_of_getElem? (i := 198) rfl) rfl
theorem mT_X5_isSpecial : Cond.static yX5_isSpecial ∈ wG := wG_t (List.mem_of_getElem? (i := 199) rfl) rfl
theorem mC_X5_putSpecial : Cond.code yX5_putSpecial cX5_putSpecial 5 none ∈ wG := wG_t (List.mem_of_getElem? (i := 203) rfl) rfl
theorem mM_X5_75 : Cond.methodLink RX5 75 yX5_putSpecial ∈ wG := wG_t (List.mem_of_getElem? (i := 201) rfl) rfl
theorem mT_X5_putSpecial : Cond.static yX5_putSpecial ∈ wG := wG_t (List.mem_of_getElem? (i := 202) rfl) rfl
theorem mF_X5_92 : Cond.fieldLink RX5 92 (TX3 3).1 (TX3 3).2.1 (TX3 3).2.2.1 ∈ wG := wG_t (List.mem_of_getElem? (i := 36) rfl) rfl
theorem mF_X5_95 : Cond.fieldLink RX5 95 (TX3 4).1 (TX3 4).2.1 (TX3 4).2.2.1 ∈ wG := wG_t (List.mem_of_getElem? (i := 39) rfl) rfl
theorem mF_X5_98 : Cond.fieldLink RX5 98 (TX3 5).1 (TX3 5).2.1 (TX3 5).2.2.1 ∈ wG := wG_t (List.mem_of_getElem? (i := 42) rfl) rfl
theorem mF_X5_101 : Cond.fieldLink RX5 101 (TX3 6).1 (TX3 6).2.1 (TX3 6).2.2.1 ∈ wG := wG_t (List.mem_of_getElem? (i := 45) rfl) rfl
theorem mM_X5_1 : Cond.methodLink RX5 1 objectInit ∈ wG := wG_t (List.mem_of_getElem? (i := 15) rfl) rfl
theorem mL_X5_9 : Cond.classLink RX5 9 RX3 ∈ wG := wG_t (List.mem_of_getElem? (i := 18) rfl) rfl
theorem mL_X5_22 : Cond.classLink RX5 22 RX2 ∈ wG := wG_t (List.mem_of_getElem? (i := 64) rfl) rfl
theorem mF_X5_40 : Cond.fieldLink RX5 40 (TX5 6).1 (TX5 6).2.1 (TX5 6).2.2.1 ∈ wG := wG_t (List.mem_of_getElem? (i := 110) rfl) rfl
theorem mM_X5_15 : Cond.methodLink RX5 15 yX3_init ∈ wG := wG_t (List.mem_of_getElem? (i := 21) rfl) rfl
theorem mN_X2 : Cond.instantiable RX2 5 ∈ wG := wG_t (List.mem_of_getElem? (i := 65) rfl) rfl
theorem mC_X2_init : Cond.code yX2_init cX2_init 1 none ∈ wG := wG_t (List.mem_of_getElem? (i := 68) rfl) rfl
theorem mM_X5_24 : Cond.methodLink RX5 24 yX2_init ∈ wG := wG_t (List.mem_of_getElem? (i := 66) rfl) rfl
theorem mI_X2_init : Cond.instanceMethod yX2_init ∈ wG := wG_t (List.mem_of_getElem? (i := 67) rfl) rfl
theorem mM_X5_159 : Cond.methodLink RX5 159 yX5_hasMinus ∈ wG := wG_t (List.mem_of_getElem? (i := 450) rfl) rfl
theorem mF_X5_133 : Cond.fieldLink RX5 133 (TX0 0).1 (TX0 0).2.1 (TX0 0).2.2.1 ∈ wG := wG_t (List.mem_of_getElem? (i := 394) rfl) rfl
theorem mF_X5_136 : Cond.fieldLink RX5 136 (TX0 1).1 (TX0 1).2.1 (TX0 1).2.2.1 ∈ wG := wG_t (List.mem_of_getElem? (i := 396) rfl) rfl
theorem mF_X5_137 : Cond.fieldLink RX5 137 (TX0 2).1 (TX0 2).2.1 (TX0 2).2.2.1 ∈ wG := wG_t (List.mem_of_getElem? (i := 398) rfl) rfl
theorem mC_X0_look : Cond.code yX0_look cX0_look 2 (some .int) ∈ wG := wG_t (List.mem_of_getElem? (i := 427) rfl) rfl
theorem mM_X5_142 : Cond.methodLink RX5 142 yX0_look ∈ wG := wG_t (List.mem_of_getElem? (i := 424) rfl) rfl
theorem mI_X0_look : Cond.instanceMethod yX0_look ∈ wG := wG_t (List.mem_of_getElem? (i := 425) rfl) rfl
theorem mS_X0_look : Cond.selects RX0 yX0_look yX0_look ∈ wG := wG_t (List.mem_of_getElem? (i := 426) rfl) rfl
theorem mC_X5_takesReading : Cond.code yX5_takesReading cX5_takesReading 3 (some .boolean) ∈ wG := wG_t (List.mem_of_getElem? (i := 136) rfl) rfl
theorem mM_X5_46 : Cond.methodLink RX5 46 yX5_takesReading ∈ wG := wG_t (List.mem_of_getElem? (i := 133) rfl) rfl
theorem mI_X5_takesReading : Cond.instanceMethod yX5_takesReading ∈ wG := wG_t (List.mem_of_getElem? (i := 135) rfl) rfl
theorem mS_X5_takesReading : Cond.selects RX5 yX5_takesReading yX5_takesReading ∈ wG := wG_p (List.mem_of_getElem? (i := 0) rfl) rfl
theorem mF_X5_182 : Cond.fieldLink RX5 182 (TX3 1).1 (TX3 1).2.1 (TX3 1).2.2.1 ∈ wG := wG_t (List.mem_of_getElem? (i := 30) rfl) rfl
theorem mC_X5_toldOfColumn : Cond.code yX5_toldOfColumn cX5_toldOfColumn 2 (some .int) ∈ wG := wG_t (List.mem_of_getElem? (i := 493) rfl) rfl
theorem mM_X5_178 : Cond.methodLink RX5 178 yX5_toldOfColumn ∈ wG := wG_t (List.mem_of_getElem? (i := 491) rfl) rfl
theorem mT_X5_toldOfColumn : Cond.static yX5_toldOfColumn ∈ wG := wG_t (List.mem_of_getElem? (i := 492) rfl) rfl
theorem mC_X5_toldOfBook : Cond.code yX5_toldOfBook cX5_toldOfBook 2 (some .int) ∈ wG := wG_t (List.mem_of_getElem? (i := 490) rfl) rfl
theorem mM_X5_175 : Cond.methodLink RX5 175 yX5_toldOfBook ∈ wG := wG_t (List.mem_of_getElem? (i := 487) rfl) rfl
theorem mI_X5_toldOfBook : Cond.instanceMethod yX5_toldOfBook ∈ wG := wG_t (List.mem_of_getElem? (i := 489) rfl) rfl
theorem mS_X5_toldOfBook : Cond.selects RX5 yX5_toldOfBook yX5_toldOfBook ∈ wG := wG_p (List.mem_of_getElem? (i := 23) rfl) rfl
theorem mC_X3_bringTo : Cond.code yX3_bringTo cX3_bringTo 3 none ∈ wG := wG_t (List.mem_of_getElem? (i := 379) rfl) rfl
theorem mM_X5_114 : Cond.methodLink RX5 114 yX3_bringTo ∈ wG := wG_t (List.mem_of_getElem? (i := 376) rfl) rfl
theorem mI_X3_bringTo : Cond.instanceMethod yX3_bringTo ∈ wG := wG_t (List.mem_of_getElem? (i := 377) rfl) rfl
theorem mS_X3_bringTo : Cond.selects RX3 yX3_bringTo yX3_bringTo ∈ wG := wG_t (List.mem_of_getElem? (i := 378) rfl) rfl
theorem mF_X6_229 : Cond.fieldLink RX6 229 (TX6 15).1 (TX6 15).2.1 (TX6 15).2.2.1 ∈ wG := wG_t (List.mem_of_getElem? (i := 516) rfl) rfl
theorem mF_X6_45 : Cond.fieldLink RX6 45 (TX6 11).1 (TX6 11).2.1 (TX6 11).2.2.1 ∈ wG := wG_t (List.mem_of_getElem? (i := 512) rfl) rfl
theorem mC_X6_isIn : Cond.code yX6_isIn cX6_isIn 3 (some .boolean) ∈ wG := wG_t (List.mem_of_getElem? (i := 575) rfl) rfl
theorem mM_X6_191 : Cond.methodLink RX6 191 yX6_isIn ∈ wG := wG_t (List.mem_of_getElem? (i := 573) rfl) rfl
theorem mT_X6_isIn : Cond.static yX6_isIn ∈ wG := wG_t (List.mem_of_getElem? (i := 574) rfl) rfl
theorem mZ_X6 : Cond.initialized RX6 ∈ wG := wG_t (List.mem_of_getElem? (i := 5) rfl) rfl
theorem mF_X6_54 : Cond.fieldLink RX6 54 (TX6 14).1 (TX6 14).2.1 (TX6 14).2.2.1 ∈ wG := wG_t (List.mem_of_getElem? (i := 515) rfl) rfl
theorem mF_X6_48 : Cond.fieldLink RX6 48 (TX6 12).1 (TX6 12).2.1 (TX6 12).2.2.1 ∈ wG := wG_t (List.mem_of_getElem? (i := 513) rfl) rfl
theorem mF_X6_51 : Cond.fieldLink RX6 51 (TX6 13).1 (TX6 13).2.1 (TX6 13).2.2.1 ∈ wG := wG_t (List.mem_of_getElem? (i := 514) rfl) rfl
theorem mC_X6_manyBits : Cond.code yX6_manyBits cX6_manyBits 3 (some .int) ∈ wG := wG_t (List.mem_of_getElem? (i := 751) rfl) rfl
theorem mM_X6_235 : Cond.methodLink RX6 235 yX6_manyBits ∈ wG := wG_t (List.mem_of_getElem? (i := 749) rfl) rfl
theorem mT_X6_manyBits : Cond.static yX6_manyBits ∈ wG := wG_t (List.mem_of_getElem? (i := 750) rfl) rfl
theorem mF_X6_187 : Cond.fieldLink RX6 187 (TX6 10).1 (TX6 10).2.1 (TX6 10).2.2.1 ∈ wG := wG_t (List.mem_of_getElem? (i := 511) rfl) rfl
theorem mF_X6_9 : Cond.fieldLink RX6 9 (TX6 0).1 (TX6 0).2.1 (TX6 0).2.2.1 ∈ wG := wG_t (List.mem_of_getElem? (i := 501) rfl) rfl
theorem mF_X6_33 : Cond.fieldLink RX6 33 (TX6 6).1 (TX6 6).2.1 (TX6 6).2.2.1 ∈ wG := wG_t (List.mem_of_getElem? (i := 507) rfl) rfl
theorem mF_X6_15 : Cond.fieldLink RX6 15 (TX6 1).1 (TX6 1).2.1 (TX6 1).2.2.1 ∈ wG := wG_t (List.mem_of_getElem? (i := 502) rfl) rfl
theorem mF_X6_36 : Cond.fieldLink RX6 36 (TX6 7).1 (TX6 7).2.1 (TX6 7).2.2.1 ∈ wG := wG_t (List.mem_of_getElem? (i := 508) rfl) rfl
theorem mF_X6_19 : Cond.fieldLink RX6 19 (TX6 2).1 (TX6 2).2.1 (TX6 2).2.2.1 ∈ wG := wG_t (List.mem_of_getElem? (i := 503) rfl) rfl
theorem mF_X6_39 : Cond.fieldLink RX6 39 (TX6 8).1 (TX6 8).2.1 (TX6 8).2.2.1 ∈ wG := wG_t (List.mem_of_getElem? (i := 509) rfl) rfl
theorem mF_X6_22 : Cond.fieldLink RX6 22 (TX6 3).1 (TX6 3).2.1 (TX6 3).2.2.1 ∈ wG := wG_t (List.mem_of_getElem? (i := 504) rfl) rfl
theorem mF_X6_42 : Cond.fieldLink RX6 42 (TX6 9).1 (TX6 9).2.1 (TX6 9).2.2.1 ∈ wG := wG_t (List.mem_of_getElem? (i := 510) rfl) rfl
theorem mF_X6_29 : Cond.fieldLink RX6 29 (TX6 5).1 (TX6 5).2.1 (TX6 5).2.2.1 ∈ wG := wG_t (List.mem_of_getElem? (i := 506) rfl) rfl
theorem mC_X6_at : Cond.code yX6_at cX6_at 2 (some .int) ∈ wG := wG_t (List.mem_of_getElem? (i := 640) rfl) rfl
theorem mM_X6_128 : Cond.methodLink RX6 128 yX6_at ∈ wG := wG_t (List.mem_of_getElem? (i := 638) rfl) rfl
theorem mT_X6_at : Cond.static yX6_at ∈ wG := wG_t (List.mem_of_getElem? (i := 639) rfl) rfl
theorem mF_X6_86 : Cond.fieldLink RX6 86 (TX6 17).1 (TX6 17).2.1 (TX6 17).2.2.1 ∈ wG := wG_t (List.mem_of_getElem? (i := 518) rfl) rfl
theorem mF_X6_90 : Cond.fieldLink RX6 90 (TX6 18).1 (TX6 18).2.1 (TX6 18).2.2.1 ∈ wG := wG_t (List.mem_of_getElem? (i := 519) rfl) rfl
theorem mF_X6_26 : Cond.fieldLink RX6 26 (TX6 4).1 (TX6 4).2.1 (TX6 4).2.2.1 ∈ wG := wG_t (List.mem_of_getElem? (i := 505) rfl) rfl
theorem mC_X6_brought : Cond.code yX6_brought cX6_brought 3 (some .double) ∈ wG := wG_t (List.mem_of_getElem? (i := 586) rfl) rfl
theorem mM_X6_132 : Cond.methodLink RX6 132 yX6_brought ∈ wG := wG_t (List.mem_of_getElem? (i := 584) rfl) rfl
theorem mT_X6_brought : Cond.static yX6_brought ∈ wG := wG_t (List.mem_of_getElem? (i := 585) rfl) rfl
theorem mC_X6_isZero : Cond.code yX6_isZero cX6_isZero 2 (some .boolean) ∈ wG := wG_t (List.mem_of_getElem? (i := 666) rfl) rfl
theorem mM_X6_61 : Cond.methodLink RX6 61 yX6_isZero ∈ wG := wG_t (List.mem_of_getElem? (i := 664) rfl) rfl
theorem mT_X6_isZero : Cond.static yX6_isZero ∈ wG := wG_t (List.mem_of_getElem? (i := 665) rfl) rfl
theorem mK_X6_65 : Cond.constantDouble RX6 65 (9223372036854775808) ∈ wG := wG_t (List.mem_of_getElem? (i := 605) rfl) rfl
theorem mK_X6_70 : Cond.constantDouble RX6 70 (4841369599423283200) ∈ wG := wG_t (List.mem_of_getElem? (i := 670) rfl) rfl
theorem mK_X6_72 : Cond.constantDouble RX6 72 (14064741636278059008) ∈ wG := wG_t (List.mem_of_getElem? (i := 671) rfl) rfl
theorem mK_X6_74 : Cond.constantDouble RX6 74 (4602678819172646912) ∈ wG := wG_t (List.mem_of_getElem? (i := 672) rfl) rfl
theorem mK_X6_76 : Cond.constantDouble RX6 76 (13826050856027422720) ∈ wG := wG_t (List.mem_of_getElem? (i := 673) rfl) rfl
theorem mK_X6_78 : Cond.constantLong RX6 78 (-1) ∈ wG := wG_t (List.mem_of_getElem? (i := 674) rfl) rfl
theorem mC_X6_hasMinus : Cond.code yX6_hasMinus cX6_hasMinus 2 (some .boolean) ∈ wG := wG_t (List.mem_of_getElem? (i := 663) rfl) rfl
theorem mM_X6_67 : Cond.methodLink RX6 67 yX6_hasMinus ∈ wG := wG_t (List.mem_of_getElem? (i := 661) rfl) rfl
theorem mT_X6_hasMinus : Cond.static yX6_hasMinus ∈ wG := wG_t (List.mem_of_getElem? (i := 662) rfl) rfl
theorem mC_X6_zero : Cond.code yX6_zero cX6_zero 1 (some .double) ∈ wG := wG_t (List.mem_of_getElem? (i := 677) rfl) rfl
theorem mM_X6_80 : Cond.methodLink RX6 80 yX6_zero ∈ wG := wG_t (List.mem_of_getElem? (i := 675) rfl) rfl
theorem mT_X6_zero : Cond.static yX6_zero ∈ wG := wG_t (List.mem_of_getElem? (i := 676) rfl) rfl
theorem mK_X6_84 : Cond.constantDouble RX6 84 (4611686018427387904) ∈ wG := wG_t (List.mem_of_getElem? (i := 583) rfl) rfl
theorem mK_X6_102 : Cond.constantDouble RX6 102 (13830554455654793216) ∈ wG := wG_t (List.mem_of_getElem? (i := 678) rfl) rfl
theorem mC_X6_gives : Cond.code yX6_gives cX6_gives 3 none ∈ wG := wG_t (List.mem_of_getElem? (i := 660) rfl) rfl
theorem mM_X6_94 : Cond.methodLink RX6 94 yX6_gives ∈ wG := wG_t (List.mem_of_getElem? (i := 657) rfl) rfl
theorem mI_X6_gives : Cond.instanceMethod yX6_gives ∈ wG := wG_t (List.mem_of_getElem? (i := 659) rfl) rfl
theorem mS_X6_gives : Cond.selects RX6 yX6_gives yX6_gives ∈ wG := wG_p (List.mem_of_getElem? (i := 36) rfl) rfl
theorem mC_X6_whole : Cond.code yX6_whole cX6_whole 8 (some .double) ∈ wG := wG_t (List.mem_of_getElem? (i := 669) rfl) rfl
theorem mM_X6_98 : Cond.methodLink RX6 98 yX6_whole ∈ wG := wG_t (List.mem_of_getElem? (i := 667) rfl) rfl
theorem mT_X6_whole : Cond.static yX6_whole ∈ wG := wG_t (List.mem_of_getElem? (i := 668) rfl) rfl
theorem mC_X6_quotient : Cond.code yX6_quotient cX6_quotient 5 (some .double) ∈ wG := wG_t (List.mem_of_getElem? (i := 681) rfl) rfl
theorem mM_X6_104 : Cond.methodLink RX6 104 yX6_quotient ∈ wG := wG_t (List.mem_of_getElem? (i := 679) rfl) rfl
theorem mT_X6_quotient : Cond.static yX6_quotient ∈ wG := wG_t (List.mem_of_getElem? (i := 680) rfl) rfl
theorem mC_X6_product : Cond.code yX6_product cX6_product 5 (some .double) ∈ wG := wG_t (List.mem_of_getElem? (i := 684) rfl) rfl
theorem mM_X6_108 : Cond.methodLink RX6 108 yX6_product ∈ wG := wG_t (List.mem_of_getElem? (i := 682) rfl) rfl
theorem mT_X6_product : Cond.static yX6_product ∈ wG := wG_t (List.mem_of_getElem? (i := 683) rfl) rfl
theorem mK_X6_57 : Cond.constantDouble RX6 57 (9218868437227405312) ∈ wG := wG_t (List.mem_of_getElem? (i := 603) rfl) rfl
theorem mK_X6_59 : Cond.constantDouble RX6 59 (18442240474082181120) ∈ wG := wG_t (List.mem_of_getElem? (i := 604) rfl) rfl
theorem mC_X6_sum : Cond.code yX6_sum cX6_sum 5 (some .double) ∈ wG := wG_t (List.mem_of_getElem? (i := 698) rfl) rfl
theorem mM_X6_117 : Cond.methodLink RX6 117 yX6_sum ∈ wG := wG_t (List.mem_of_getElem? (i := 696) rfl) rfl
theorem mT_X6_sum : Cond.static yX6_sum ∈ wG := wG_t (List.mem_of_getElem? (i := 697) rfl) rfl
theorem mC_X6_isInfinite : Cond.code yX6_isInfinite cX6_isInfinite 2 (some .boolean) ∈ wG := wG_t (List.mem_of_getElem? (i := 695) rfl) rfl
theorem mM_X6_111 : Cond.methodLink RX6 111 yX6_isInfinite ∈ wG := wG_t (List.mem_of_getElem? (i := 693) rfl) rfl
theorem mT_X6_isInfinite : Cond.static yX6_isInfinite ∈ wG := wG_t (List.mem_of_getElem? (i := 694) rfl) rfl
theorem mC_X6_givesNothing : Cond.code yX6_givesNothing cX6_givesNothing 1 none ∈ wG := wG_t (List.mem_of_getElem? (i := 648) rfl) rfl
theorem mM_X6_114 : Cond.methodLink RX6 114 yX6_givesNothing ∈ wG := wG_t (List.mem_of_getElem? (i := 645) rfl) rfl
theorem mI_X6_givesNothing : Cond.instanceMethod yX6_givesNothing ∈ wG := wG_t (List.mem_of_getElem? (i := 647) rfl) rfl
theorem mS_X6_givesNothing : Cond.selects RX6 yX6_givesNothing yX6_givesNothing ∈ wG := wG_p (List.mem_of_getElem? (i := 33) rfl) rfl
theorem mC_X6_difference : Cond.code yX6_difference cX6_difference 6 none ∈ wG := wG_t (List.mem_of_getElem? (i := 702) rfl) rfl
theorem mM_X6_120 : Cond.methodLink RX6 120 yX6_difference ∈ wG := wG_t (List.mem_of_getElem? (i := 699) rfl) rfl
theorem mI_X6_difference : Cond.instanceMethod yX6_difference ∈ wG := wG_t (List.mem_of_getElem? (i := 701) rfl) rfl
theorem mS_X6_difference : Cond.selects RX6 yX6_difference yX6_difference ∈ wG := wG_p (List.mem_of_getElem? (i := 39) rfl) rfl
theorem mC_X6_isLower : Cond.code yX6_isLower cX6_isLower 4 (some .boolean) ∈ wG := wG_t (List.mem_of_getElem? (i := 705) rfl) rfl
theorem mM_X6_124 : Cond.methodLink RX6 124 yX6_isLower ∈ wG := wG_t (List.mem_of_getElem? (i := 703) rfl) rfl
theorem mT_X6_isLower : Cond.static yX6_isLower ∈ wG := wG_t (List.mem_of_getElem? (i := 704) rfl) rfl
theorem mC_X6_x : Cond.code yX6_x cX6_x 3 (some .double) ∈ wG := wG_t (List.mem_of_getElem? (i := 652) rfl) rfl
theorem mM_X6_136 : Cond.methodLink RX6 136 yX6_x ∈ wG := wG_t (List.mem_of_getElem? (i := 649) rfl) rfl
theorem mI_X6_x : Cond.instanceMethod yX6_x ∈ wG := wG_t (List.mem_of_getElem? (i := 651) rfl) rfl
theorem mS_X6_x : Cond.selects RX6 yX6_x yX6_x ∈ wG := wG_p (List.mem_of_getElem? (i := 34) rfl) rfl
theorem mC_X6_noX : Cond.code yX6_noX cX6_noX 3 (some .boolean) ∈ wG := wG_t (List.mem_of_getElem? (i := 637) rfl) rfl
theorem mM_X6_140 : Cond.methodLink RX6 140 yX6_noX ∈ wG := wG_t (List.mem_of_getElem? (i := 634) rfl) rfl
theorem mI_X6_noX : Cond.instanceMethod yX6_noX ∈ wG := wG_t (List.mem_of_getElem? (i := 636) rfl) rfl
theorem mS_X6_noX : Cond.selects RX6 yX6_noX yX6_noX ∈ wG := wG_p (List.mem_of_getElem? (i := 31) rfl) rfl
theorem mC_X6_y : Cond.code yX6_y cX6_y 3 (some .double) ∈ wG := wG_t (List.mem_of_getElem? (i := 688) rfl) rfl
theorem mM_X6_144 : Cond.methodLink RX6 144 yX6_y ∈ wG := wG_t (List.mem_of_getElem? (i := 685) rfl) rfl
theorem mI_X6_y : Cond.instanceMethod yX6_y ∈ wG := wG_t (List.mem_of_getElem? (i := 687) rfl) rfl
theorem mS_X6_y : Cond.selects RX6 yX6_y yX6_y ∈ wG := wG_p (List.mem_of_getElem? (i := 37) rfl) rfl
theorem mC_X6_noY : Cond.code yX6_noY cX6_noY 3 (some .boolean) ∈ wG := wG_t (List.mem_of_getElem? (i := 644) rfl) rfl
theorem mM_X6_147 : Cond.methodLink RX6 147 yX6_noY ∈ wG := wG_t (List.mem_of_getElem? (i := 641) rfl) rfl
theorem mI_X6_noY : Cond.instanceMethod yX6_noY ∈ wG := wG_t (List.mem_of_getElem? (i := 643) rfl) rfl
theorem mS_X6_noY : Cond.selects RX6 yX6_noY yX6_noY ∈ wG := wG_p (List.mem_of_getElem? (i := 32) rfl) rfl
theorem mC_X6_isSo : Cond.code yX6_isSo cX6_isSo 9 (some .boolean) ∈ wG := wG_t (List.mem_of_getElem? (i := 712) rfl) rfl
theorem mM_X6_150 : Cond.methodLink RX6 150 yX6_isSo ∈ wG := wG_t (List.mem_of_getElem? (i := 710) rfl) rfl
theorem mT_X6_isSo : Cond.static yX6_isSo ∈ wG := wG_t (List.mem_of_getElem? (i := 711) rfl) rfl
theorem mC_X6_rank : Cond.code yX6_rank cX6_rank 11 (some .int) ∈ wG := wG_t (List.mem_of_getElem? (i := 724) rfl) rfl
theorem mM_X6_154 : Cond.methodLink RX6 154 yX6_rank ∈ wG := wG_t (List.mem_of_getElem? (i := 721) rfl) rfl
theorem mI_X6_rank : Cond.instanceMethod yX6_rank ∈ wG := wG_t (List.mem_of_getElem? (i := 723) rfl) rfl
theorem mS_X6_rank : Cond.selects RX6 yX6_rank yX6_rank ∈ wG := wG_p (List.mem_of_getElem? (i := 43) rfl) rfl
theorem mC_X6_compares : Cond.code yX6_compares cX6_compares 3 (some .boolean) ∈ wG := wG_t (List.mem_of_getElem? (i := 709) rfl) rfl
theorem mM_X6_158 : Cond.methodLink RX6 158 yX6_compares ∈ wG := wG_t (List.mem_of_getElem? (i := 706) rfl) rfl
theorem mI_X6_compares : Cond.instanceMethod yX6_compares ∈ wG := wG_t (List.mem_of_getElem? (i := 708) rfl) rfl
theorem mS_X6_compares : Cond.selects RX6 yX6_compares yX6_compares ∈ wG := wG_p (List.mem_of_getElem? (i := 40) rfl) rfl
theorem mC_X6_both : Cond.code yX6_both cX6_both 8 none ∈ wG := wG_t (List.mem_of_getElem? (i := 692) rfl) rfl
theorem mM_X6_165 : Cond.methodLink RX6 165 yX6_both ∈ wG := wG_t (List.mem_of_getElem? (i := 689) rfl) rfl
theorem mI_X6_both : Cond.instanceMethod yX6_both ∈ wG := wG_t (List.mem_of_getElem? (i := 691) rfl) rfl
theorem mS_X6_both : Cond.selects RX6 yX6_both yX6_both ∈ wG := wG_p (List.mem_of_getElem? (i := 38) rfl) rfl
theorem mC_X6_single : Cond.code yX6_single cX6_single 5 none ∈ wG := wG_t (List.mem_of_getElem? (i := 656) rfl) rfl
theorem mM_X6_161 : Cond.methodLink RX6 161 yX6_single ∈ wG := wG_t (List.mem_of_getElem? (i := 653) rfl) rfl
theorem mI_X6_single : Cond.instanceMethod yX6_single ∈ wG := wG_t (List.mem_of_getElem? (i := 655) rfl) rfl
theorem mS_X6_single : Cond.selects RX6 yX6_single yX6_single ∈ wG := wG_p (List.mem_of_getElem? (i := 35) rfl) rfl
theorem mC_X6_manyX : Cond.code yX6_manyX cX6_manyX 6 (some .int) ∈ wG := wG_t (List.mem_of_getElem? (i := 716) rfl) rfl
theorem mM_X6_169 : Cond.methodLink RX6 169 yX6_manyX ∈ wG := wG_t (List.mem_of_getElem? (i := 713) rfl) rfl
theorem mI_X6_manyX : Cond.instanceMethod yX6_manyX ∈ wG := wG_t (List.mem_of_getElem? (i := 715) rfl) rfl
theorem mS_X6_manyX : Cond.selects RX6 yX6_manyX yX6_manyX ∈ wG := wG_p (List.mem_of_getElem? (i := 41) rfl) rfl
theorem mC_X6_ranked : Cond.code yX6_ranked cX6_ranked 6 none ∈ wG := wG_t (List.mem_of_getElem? (i := 720) rfl) rfl
theorem mM_X6_173 : Cond.methodLink RX6 173 yX6_ranked ∈ wG := wG_t (List.mem_of_getElem? (i := 717) rfl) rfl
theorem mI_X6_ranked : Cond.instanceMethod yX6_ranked ∈ wG := wG_t (List.mem_of_getElem? (i := 719) rfl) rfl
theorem mS_X6_ranked : Cond.selects RX6 yX6_ranked yX6_ranked ∈ wG := wG_p (List.mem_of_getElem? (i := 42) rfl) rfl
theorem mC_X6_lessThan : Cond.code yX6_lessThan cX6_lessThan 5 (some .int) ∈ wG := wG_t (List.mem_of_getElem? (i := 728) rfl) rfl
theorem mM_X6_177 : Cond.methodLink RX6 177 yX6_lessThan ∈ wG := wG_t (List.mem_of_getElem? (i := 725) rfl) rfl
theorem mI_X6_lessThan : Cond.instanceMethod yX6_lessThan ∈ wG := wG_t (List.mem_of_getElem? (i := 727) rfl) rfl
theorem mS_X6_lessThan : Cond.selects RX6 yX6_lessThan yX6_lessThan ∈ wG := wG_p (List.mem_of_getElem? (i := 44) rfl) rfl
theorem mC_X6_manySo : Cond.code yX6_manySo cX6_manySo 5 (some .int) ∈ wG := wG_t (List.mem_of_getElem? (i := 732) rfl) rfl
theorem mM_X6_180 : Cond.methodLink RX6 180 yX6_manySo ∈ wG := wG_t (List.mem_of_getElem? (i := 729) rfl) rfl
theorem mI_X6_manySo : Cond.instanceMethod yX6_manySo ∈ wG := wG_t (List.mem_of_getElem? (i := 731) rfl) rfl
theorem mS_X6_manySo : Cond.selects RX6 yX6_manySo yX6_manySo ∈ wG := wG_p (List.mem_of_getElem? (i := 45) rfl) rfl
theorem mC_X6_reckon : Cond.code yX6_reckon cX6_reckon 6 none ∈ wG := wG_t (List.mem_of_getElem? (i := 633) rfl) rfl
theorem mM_X6_183 : Cond.methodLink RX6 183 yX6_reckon ∈ wG := wG_t (List.mem_of_getElem? (i := 630) rfl) rfl
theorem mI_X6_reckon : Cond.instanceMethod yX6_reckon ∈ wG := wG_t (List.mem_of_getElem? (i := 632) rfl) rfl
theorem mS_X6_reckon : Cond.selects RX6 yX6_reckon yX6_reckon ∈ wG := wG_p (List.mem_of_getElem? (i := 30) rfl) rfl
theorem mC_X6_reckonAll : Cond.code yX6_reckonAll cX6_reckonAll 4 none ∈ wG := wG_t (List.mem_of_getElem? (i := 629) rfl) rfl
theorem mM_X6_226 : Cond.methodLink RX6 226 yX6_reckonAll ∈ wG := wG_t (List.mem_of_getElem? (i := 626) rfl) rfl
theorem mI_X6_reckonAll : Cond.instanceMethod yX6_reckonAll ∈ wG := wG_t (List.mem_of_getElem? (i := 628) rfl) rfl
theorem mS_X6_reckonAll : Cond.selects RX6 yX6_reckonAll yX6_reckonAll ∈ wG := wG_p (List.mem_of_getElem? (i := 29) rfl) rfl
theorem mK_X6_245 : Cond.constantLong RX6 245 (2) ∈ wG := wG_t (List.mem_of_getElem? (i := 779) rfl) rfl
theorem mK_X6_251 : Cond.constant RX6 251 (-2147483648) ∈ wG := wG_t (List.mem_of_getElem? (i := 780) rfl) rfl
theorem mK_X6_252 : Cond.constantLong RX6 252 (-9223372036854775808) ∈ wG := wG_t (List.mem_of_getElem? (i := 781) rfl) rfl
theorem mC_X6_digits : Cond.code yX6_digits cX6_digits 10 (some .long) ∈ wG := wG_t (List.mem_of_getElem? (i := 778) rfl) rfl
theorem mM_X6_247 : Cond.methodLink RX6 247 yX6_digits ∈ wG := wG_t (List.mem_of_getElem? (i := 776) rfl) rfl
theorem mT_X6_digits : Cond.static yX6_digits ∈ wG := wG_t (List.mem_of_getElem? (i := 777) rfl) rfl
theorem mC_X6_isThere : Cond.code yX6_isThere cX6_isThere 3 (some .boolean) ∈ wG := wG_t (List.mem_of_getElem? (i := 763) rfl) rfl
theorem mM_X6_242 : Cond.methodLink RX6 242 yX6_isThere ∈ wG := wG_t (List.mem_of_getElem? (i := 760) rfl) rfl
theorem mI_X6_isThere : Cond.instanceMethod yX6_isThere ∈ wG := wG_t (List.mem_of_getElem? (i := 762) rfl) rfl
theorem mS_X6_isThere : Cond.selects RX6 yX6_isThere yX6_isThere ∈ wG := wG_p (List.mem_of_getElem? (i := 47) rfl) rfl
theorem mC_X6_picture : Cond.code yX6_picture cX6_picture 2 none ∈ wG := wG_t (List.mem_of_getElem? (i := 579) rfl) rfl
theorem mM_X6_212 : Cond.methodLink RX6 212 yX6_picture ∈ wG := wG_t (List.mem_of_getElem? (i := 576) rfl) rfl
theorem mI_X6_picture : Cond.instanceMethod yX6_picture ∈ wG := wG_t (List.mem_of_getElem? (i := 578) rfl) rfl
theorem mS_X6_picture : Cond.selects RX6 yX6_picture yX6_picture ∈ wG := wG_p (List.mem_of_getElem? (i := 25) rfl) rfl
theorem mC_X6_power : Cond.code yX6_power cX6_power 5 (some .double) ∈ wG := wG_t (List.mem_of_getElem? (i := 582) rfl) rfl
theorem mM_X6_215 : Cond.methodLink RX6 215 yX6_power ∈ wG := wG_t (List.mem_of_getElem? (i := 580) rfl) rfl
theorem mT_X6_power : Cond.static yX6_power ∈ wG := wG_t (List.mem_of_getElem? (i := 581) rfl) rfl
theorem mC_X6_put : Cond.code yX6_put cX6_put 4 none ∈ wG := wG_t (List.mem_of_getElem? (i := 590) rfl) rfl
theorem mM_X6_195 : Cond.methodLink RX6 195 yX6_put ∈ wG := wG_t (List.mem_of_getElem? (i := 587) rfl) rfl
theorem mI_X6_put : Cond.instanceMethod yX6_put ∈ wG := wG_t (List.mem_of_getElem? (i := 589) rfl) rfl
theorem mS_X6_put : Cond.selects RX6 yX6_put yX6_put ∈ wG := wG_p (List.mem_of_getElem? (i := 26) rfl) rfl
theorem mC_X6_changed : Cond.code yX6_changed cX6_changed 1 (some .int) ∈ wG := wG_t (List.mem_of_getElem? (i := 594) rfl) rfl
theorem mM_X6_218 : Cond.methodLink RX6 218 yX6_changed ∈ wG := wG_t (List.mem_of_getElem? (i := 591) rfl) rfl
theorem mI_X6_changed : Cond.instanceMethod yX6_changed ∈ wG := wG_t (List.mem_of_getElem? (i := 593) rfl) rfl
theorem mS_X6_changed : Cond.selects RX6 yX6_changed yX6_changed ∈ wG := wG_p (List.mem_of_getElem? (i := 27) rfl) rfl
theorem mK_X6_205 : Cond.constantDouble RX6 205 (3936146074321813504) ∈ wG := wG_t (List.mem_of_getElem? (i := 608) rfl) rfl
theorem mK_X6_207 : Cond.constantDouble RX6 207 (1) ∈ wG := wG_t (List.mem_of_getElem? (i := 609) rfl) rfl
theorem mK_X6_201 : Cond.constantDouble RX6 201 (5183643170566569984) ∈ wG := wG_t (List.mem_of_getElem? (i := 606) rfl) rfl
theorem mK_X6_203 : Cond.constantDouble RX6 203 (9218868437227405311) ∈ wG := wG_t (List.mem_of_getElem? (i := 607) rfl) rfl
theorem mC_X6_putSpecial : Cond.code yX6_putSpecial cX6_putSpecial 4 none ∈ wG := wG_t (List.mem_of_getElem? (i := 602) rfl) rfl
theorem mM_X6_222 : Cond.methodLink RX6 222 yX6_putSpecial ∈ wG := wG_t (List.mem_of_getElem? (i := 599) rfl) rfl
theorem mI_X6_putSpecial : Cond.instanceMethod yX6_putSpecial ∈ wG := wG_t (List.mem_of_getElem? (i := 601) rfl) rfl
theorem mS_X6_putSpecial : Cond.selects RX6 yX6_putSpecial yX6_putSpecial ∈ wG := wG_p (List.mem_of_getElem? (i := 28) rfl) rfl
theorem mM_X6_3 : Cond.methodLink RX6 3 objectInit ∈ wG := wG_t (List.mem_of_getElem? (i := 499) rfl) rfl
theorem mK_X6_32 : Cond.constant RX6 32 (102400) ∈ wG := wG_t (List.mem_of_getElem? (i := 500) rfl) rfl
theorem mA_boolean : Cond.arrayClass .boolean ∈ wG := wG_t (List.mem_of_getElem? (i := 559) rfl) rfl
theorem mA_int : Cond.arrayClass .int ∈ wG := wG_t (List.mem_of_getElem? (i := 560) rfl) rfl
theorem mF_X6_239 : Cond.fieldLink RX6 239 (TX6 16).1 (TX6 16).2.1 (TX6 16).2.2.1 ∈ wG := wG_t (List.mem_of_getElem? (i := 517) rfl) rfl
theorem mC_X6_holds : Cond.code yX6_holds cX6_holds 5 (some .boolean) ∈ wG := wG_t (List.mem_of_getElem? (i := 748) rfl) rfl
theorem mM_X6_232 : Cond.methodLink RX6 232 yX6_holds ∈ wG := wG_t (List.mem_of_getElem? (i := 745) rfl) rfl
theorem mI_X6_holds : Cond.instanceMethod yX6_holds ∈ wG := wG_t (List.mem_of_getElem? (i := 747) rfl) rfl
theorem mS_X6_holds : Cond.selects RX6 yX6_holds yX6_holds ∈ wG := wG_p (List.mem_of_getElem? (i := 46) rfl) rfl
theorem mC_X6_canSet : Cond.code yX6_canSet cX6_canSet 3 (some .boolean) ∈ wG := wG_t (List.mem_of_getElem? (i := 572) rfl) rfl
theorem mM_X6_209 : Cond.methodLink RX6 209 yX6_canSet ∈ wG := wG_t (List.mem_of_getElem? (i := 569) rfl) rfl
theorem mI_X6_canSet : Cond.instanceMethod yX6_canSet ∈ wG := wG_t (List.mem_of_getElem? (i := 571) rfl) rfl
theorem mS_X6_canSet : Cond.selects RX6 yX6_canSet yX6_canSet ∈ wG := wG_p (List.mem_of_getElem? (i := 24) rfl) rfl
theorem mC_X6_isBlank : Cond.code yX6_isBlank cX6_isBlank 3 (some .boolean) ∈ wG := wG_t (List.mem_of_getElem? (i := 767) rfl) rfl
theorem mM_X6_254 : Cond.methodLink RX6 254 yX6_isBlank ∈ wG := wG_t (List.mem_of_getElem? (i := 790) rfl) rfl
theorem mI_X6_isBlank : Cond.instanceMethod yX6_isBlank ∈ wG := wG_t (List.mem_of_getElem? (i := 765) rfl) rfl
theorem mS_X6_isBlank : Cond.selects RX6 yX6_isBlank yX6_isBlank ∈ wG := wG_t (List.mem_of_getElem? (i := 766) rfl) rfl
theorem iX0 : ∀ w ∈ u_ws RX0 TX0 6, w ∈ wG := by
  intro w hw
  obtain ⟨k, hk, rfl⟩ := List.mem_map.mp hw
  have hk := List.mem_range.mp hk
  match k, hk with
  | 0, _ => exact wG_t (List.mem_of_getElem? (i := 402) rfl) rfl
  | 1, _ => exact wG_t (List.mem_of_getElem? (i := 404) rfl) rfl
  | 2, _ => exact wG_t (List.mem_of_getElem? (i := 406) rfl) rfl
  | 3, _ => exact wG_t (List.mem_of_getElem? (i := 408) rfl) rfl
  | 4, _ => exact wG_t (List.mem_of_getElem? (i := 410) rfl) rfl
  | 5, _ => exact wG_t (List.mem_of_getElem? (i := 412) rfl) rfl
theorem iX1 : ∀ w ∈ u_ws RX1 TX1 3, w ∈ wG := by
  intro w hw
  obtain ⟨k, hk, rfl⟩ := List.mem_map.mp hw
  have hk := List.mem_range.mp hk
  match k, hk with
  | 0, _ => exact wG_t (List.mem_of_getElem? (i := 170) rfl) rfl
  | 1, _ => exact wG_t (List.mem_of_getElem? (i := 172) rfl) rfl
  | 2, _ => exact wG_t (List.mem_of_getElem? (i := 174) rfl) rfl
theorem iX2 : ∀ w ∈ u_ws RX2 TX2 5, w ∈ wG := by
  intro w hw
  obtain ⟨k, hk, rfl⟩ := List.mem_map.mp hw
  have hk := List.mem_range.mp hk
  match k, hk with
  | 0, _ => exact wG_t (List.mem_of_getElem? (i := 93) rfl) rfl
  | 1, _ => exact wG_t (List.mem_of_getElem? (i := 95) rfl) rfl
  | 2, _ => exact wG_t (List.mem_of_getElem? (i := 97) rfl) rfl
  | 3, _ => exact wG_t (List.mem_of_getElem? (i := 99) rfl) rfl
  | 4, _ => exact wG_t (List.mem_of_getElem? (i := 101) rfl) rfl
theorem iX3 : ∀ w ∈ u_ws RX3 TX3 7, w ∈ wG := by
  intro w hw
  obtain ⟨k, hk, rfl⟩ := List.mem_map.mp hw
  have hk := List.mem_range.mp hk
  match k, hk with
  | 0, _ => exact wG_t (List.mem_of_getElem? (i := 46) rfl) rfl
  | 1, _ => exact wG_t (List.mem_of_getElem? (i := 48) rfl) rfl
  | 2, _ => exact wG_t (List.mem_of_getElem? (i := 50) rfl) rfl
  | 3, _ => exact wG_t (List.mem_of_getElem? (i := 52) rfl) rfl
  | 4, _ => exact wG_t (List.mem_of_getElem? (i := 54) rfl) rfl
  | 5, _ => exact wG_t (List.mem_of_getElem? (i := 56) rfl) rfl
  | 6, _ => exact wG_t (List.mem_of_getElem? (i := 58) rfl) rfl
theorem iX4 : ∀ w ∈ u_ws RX4 TX4 2, w ∈ wG := by
  intro w hw
  obtain ⟨k, hk, rfl⟩ := List.mem_map.mp hw
  have hk := List.mem_range.mp hk
  match k, hk with
  | 0, _ => exact wG_t (List.mem_of_getElem? (i := 80) rfl) rfl
  | 1, _ => exact wG_t (List.mem_of_getElem? (i := 82) rfl) rfl
theorem iX5 : ∀ w ∈ u_ws RX5 TX5 8, w ∈ wG := by
  intro w hw
  obtain ⟨k, hk, rfl⟩ := List.mem_map.mp hw
  have hk := List.mem_range.mp hk
  match k, hk with
  | 0, _ => exact wG_t (List.mem_of_getElem? (i := 112) rfl) rfl
  | 1, _ => exact wG_t (List.mem_of_getElem? (i := 114) rfl) rfl
  | 2, _ => exact wG_t (List.mem_of_getElem? (i := 116) rfl) rfl
  | 3, _ => exact wG_t (List.mem_of_getElem? (i := 118) rfl) rfl
  | 4, _ => exact wG_t (List.mem_of_getElem? (i := 120) rfl) rfl
  | 5, _ => exact wG_t (List.mem_of_getElem? (i := 122) rfl) rfl
  | 6, _ => exact wG_t (List.mem_of_getElem? (i := 124) rfl) rfl
  | 7, _ => exact wG_t (List.mem_of_getElem? (i := 126) rfl) rfl
theorem iX6 : ∀ w ∈ u_ws RX6 TX6 19, w ∈ wG := by
  intro w hw
  obtain ⟨k, hk, rfl⟩ := List.mem_map.mp hw
  have hk := List.mem_range.mp hk
  match k, hk with
  | 0, _ => exact wG_t (List.mem_of_getElem? (i := 520) rfl) rfl
  | 1, _ => exact wG_t (List.mem_of_getElem? (i := 522) rfl) rfl
  | 2, _ => exact wG_t (List.mem_of_getElem? (i := 524) rfl) rfl
  | 3, _ => exact wG_t (List.mem_of_getElem? (i := 526) rfl) rfl
  | 4, _ => exact wG_t (List.mem_of_getElem? (i := 528) rfl) rfl
  | 5, _ => exact wG_t (List.mem_of_getElem? (i := 530) rfl) rfl
  | 6, _ => exact wG_t (List.mem_of_getElem? (i := 532) rfl) rfl
  | 7, _ => exact wG_t (List.mem_of_getElem? (i := 534) rfl) rfl
  | 8, _ => exact wG_t (List.mem_of_getElem? (i := 536) rfl) rfl
  | 9, _ => exact wG_t (List.mem_of_getElem? (i := 538) rfl) rfl
  | 10, _ => exact wG_t (List.mem_of_getElem? (i := 540) rfl) rfl
  | 11, _ => exact wG_t (List.mem_of_getElem? (i := 542) rfl) rfl
  | 12, _ => exact wG_t (List.mem_of_getElem? (i := 544) rfl) rfl
  | 13, _ => exact wG_t (List.mem_of_getElem? (i := 546) rfl) rfl
  | 14, _ => exact wG_t (List.mem_of_getElem? (i := 548) rfl) rfl
  | 15, _ => exact wG_t (List.mem_of_getElem? (i := 550) rfl) rfl
  | 16, _ => exact wG_t (List.mem_of_getElem? (i := 552) rfl) rfl
  | 17, _ => exact wG_t (List.mem_of_getElem? (i := 554) rfl) rfl
  | 18, _ => exact wG_t (List.mem_of_getElem? (i := 556) rfl) rfl
end
section
def j_J6_bitCount_0f7a4 (g : Nat) (a0 : Int32) : Option (Int32) := some ((((((((a0 - (((a0.toUInt32 >>> ((1 : Int32).toUInt32 &&& Int32.toUInt32 31)).toInt32) &&& (1431655765 : Int32))) &&& (858993459 : Int32)) + ((((a0 - (((a0.toUInt32 >>> ((1 : Int32).toUInt32 &&& Int32.toUInt32 31)).toInt32) &&& (1431655765 : Int32))).toUInt32 >>> ((2 : Int32).toUInt32 &&& Int32.toUInt32 31)).toInt32) &&& (858993459 : Int32))) + (((((a0 - (((a0.toUInt32 >>> ((1 : Int32).toUInt32 &&& Int32.toUInt32 31)).toInt32) &&& (1431655765 : Int32))) &&& (858993459 : Int32)) + ((((a0 - (((a0.toUInt32 >>> ((1 : Int32).toUInt32 &&& Int32.toUInt32 31)).toInt32) &&& (1431655765 : Int32))).toUInt32 >>> ((2 : Int32).toUInt32 &&& Int32.toUInt32 31)).toInt32) &&& (858993459 : Int32))).toUInt32 >>> ((4 : Int32).toUInt32 &&& Int32.toUInt32 31)).toInt32)) &&& (252645135 : Int32)) + (((((((a0 - (((a0.toUInt32 >>> ((1 : Int32).toUInt32 &&& Int32.toUInt32 31)).toInt32) &&& (1431655765 : Int32))) &&& (858993459 : Int32)) + ((((a0 - (((a0.toUInt32 >>> ((1 : Int32).toUInt32 &&& Int32.toUInt32 31)).toInt32) &&& (1431655765 : Int32))).toUInt32 >>> ((2 : Int32).toUInt32 &&& Int32.toUInt32 31)).toInt32) &&& (858993459 : Int32))) + (((((a0 - (((a0.toUInt32 >>> ((1 : Int32).toUInt32 &&& Int32.toUInt32 31)).toInt32) &&& (1431655765 : Int32))) &&& (858993459 : Int32)) + ((((a0 - (((a0.toUInt32 >>> ((1 : Int32).toUInt32 &&& Int32.toUInt32 31)).toInt32) &&& (1431655765 : Int32))).toUInt32 >>> ((2 : Int32).toUInt32 &&& Int32.toUInt32 31)).toInt32) &&& (858993459 : Int32))).toUInt32 >>> ((4 : Int32).toUInt32 &&& Int32.toUInt32 31)).toInt32)) &&& (252645135 : Int32)).toUInt32 >>> ((8 : Int32).toUInt32 &&& Int32.toUInt32 31)).toInt32)) + ((((((((a0 - (((a0.toUInt32 >>> ((1 : Int32).toUInt32 &&& Int32.toUInt32 31)).toInt32) &&& (1431655765 : Int32))) &&& (858993459 : Int32)) + ((((a0 - (((a0.toUInt32 >>> ((1 : Int32).toUInt32 &&& Int32.toUInt32 31)).toInt32) &&& (1431655765 : Int32))).toUInt32 >>> ((2 : Int32).toUInt32 &&& Int32.toUInt32 31)).toInt32) &&& (858993459 : Int32))) + (((((a0 - (((a0.toUInt32 >>> ((1 : Int32).toUInt32 &&& Int32.toUInt32 31)).toInt32) &&& (1431655765 : Int32))) &&& (858993459 : Int32)) + ((((a0 - (((a0.toUInt32 >>> ((1 : Int32).toUInt32 &&& Int32.toUInt32 31)).toInt32) &&& (1431655765 : Int32))).toUInt32 >>> ((2 : Int32).toUInt32 &&& Int32.toUInt32 31)).toInt32) &&& (858993459 : Int32))).toUInt32 >>> ((4 : Int32).toUInt32 &&& Int32.toUInt32 31)).toInt32)) &&& (252645135 : Int32)) + (((((((a0 - (((a0.toUInt32 >>> ((1 : Int32).toUInt32 &&& Int32.toUInt32 31)).toInt32) &&& (1431655765 : Int32))) &&& (858993459 : Int32)) + ((((a0 - (((a0.toUInt32 >>> ((1 : Int32).toUInt32 &&& Int32.toUInt32 31)).toInt32) &&& (1431655765 : Int32))).toUInt32 >>> ((2 : Int32).toUInt32 &&& Int32.toUInt32 31)).toInt32) &&& (858993459 : Int32))) + (((((a0 - (((a0.toUInt32 >>> ((1 : Int32).toUInt32 &&& Int32.toUInt32 31)).toInt32) &&& (1431655765 : Int32))) &&& (858993459 : Int32)) + ((((a0 - (((a0.toUInt32 >>> ((1 : Int32).toUInt32 &&& Int32.toUInt32 31)).toInt32) &&& (1431655765 : Int32))).toUInt32 >>> ((2 : Int32).toUInt32 &&& Int32.toUInt32 31)).toInt32) &&& (858993459 : Int32))).toUInt32 >>> ((4 : Int32).toUInt32 &&& Int32.toUInt32 31)).toInt32)) &&& (252645135 : Int32)).toUInt32 >>> ((8 : Int32).toUInt32 &&& Int32.toUInt32 31)).toInt32)).toUInt32 >>> ((16 : Int32).toUInt32 &&& Int32.toUInt32 31)).toInt32)) &&& (63 : Int32))
def j_X0_firstRang_28 (g : Nat) (M : hm) : Option (Int32) := some (-1 : Int32)
def j_X0_firstRang_20 (g : Nat) (M : hm) (p1 : Int32) : Option (Int32) := some p1
def j_X0_firstRang_2 (g : Nat) (M : hm) : Nat → Nat → Int32 → Option (Int32)
  | 0, _, _ => none
  | n + 1, p0, p1 => if (16 : Int32) ≤ p1 then (j_X0_firstRang_28 g M) else ((gI M p0 0 4).bind fun v2 => if ((v2 >>> (p1 &&& 31)) &&& (1 : Int32)) = (1 : Int32) then (j_X0_firstRang_20 g M p1) else (j_X0_firstRang_2 g M n p0 (p1 + (1 : Int32))))
theorem j_X0_firstRang_2_s (g : Nat) (M : hm) (n : Nat) (p0 : Nat) (p1 : Int32) : j_X0_firstRang_2 g M (n + 1) p0 p1 = (if (16 : Int32) ≤ p1 then (j_X0_firstRang_28 g M) else ((gI M p0 0 4).bind fun v2 => if ((v2 >>> (p1 &&& 31)) &&& (1 : Int32)) = (1 : Int32) then (j_X0_firstRang_20 g M p1) else (j_X0_firstRang_2 g M n p0 (p1 + (1 : Int32))))) := rfl
def j_X0_firstRang (g : Nat) (M : hm) (a0 : Nat) : Option (Int32) := j_X0_firstRang_2 g g M a0 (0 : Int32)
def j_X0_answer (g : Nat) (M : hm) (a0 : Nat) (a1 : Int32) : Option (Int32) := (gI M a0 0 5).bind fun v1 => if v1 = 0 then (some (-1 : Int32)) else (if a1 = (0 : Int32) then ((gI M a0 0 3).bind fun v6 => (j_J6_bitCount_0f7a4 g v6).bind fun v7 => some v7) else if a1 = (1 : Int32) then ((gI M a0 0 4).bind fun v8 => (j_J6_bitCount_0f7a4 g v8).bind fun v9 => some v9) else if a1 = (2 : Int32) then ((isO M a0 0).bind fun _ => (j_X0_firstRang g M a0).bind fun v11 => some v11) else (some (-1 : Int32)))
def j_X0_init (g : Nat) (M : hm) (a0 : Nat) (a1 : Int32) (a2 : Int32) (a3 : Int32) : Option (hm) := (pV M a0 0 0 (.int a1)).bind fun M1 => (pV M1 a0 0 1 (.int a2)).bind fun M2 => (pV M2 a0 0 2 (.int a3)).bind fun M3 => (pV M3 a0 0 3 (.int (0 : Int32))).bind fun M4 => (pV M4 a0 0 4 (.int (0 : Int32))).bind fun M5 => (pV M5 a0 0 5 (.int (0 : Int32))).bind fun M6 => some M6
def j_X0_look (g : Nat) (M : hm) (a0 : Nat) (a1 : Int32) : Option (hm × Int32) := (gI M a0 0 3).bind fun v1 => (pV M a0 0 4 (.int (a1 &&& (v1 ^^^ (-1 : Int32))))).bind fun M2 => (pV M2 a0 0 3 (.int a1)).bind fun M3 => (pV M3 a0 0 5 (.int (1 : Int32))).bind fun M4 => (gI M4 a0 0 4).bind fun v5 => (j_J6_bitCount_0f7a4 g v5).bind fun v6 => some (M4, v6)
def j_X1_init (g : Nat) (M : hm) (a0 : Nat) (a1 : Int32) (a2 : Option Nat) (a3 : Option Nat) : Option (hm) := (pV M a0 1 0 (.int a1)).bind fun M1 => (pV M1 a0 1 1 (va_rf a2)).bind fun M2 => (pV M2 a0 1 2 (va_rf a3)).bind fun M3 => some M3
def j_X5_hasMinus_25 (g : Nat) (s0 : Int32) : Option (Int32) := (zb s0).bind fun _ => some s0
def j_X5_hasMinus_24 (g : Nat) : Option (Int32) := j_X5_hasMinus_25 g (0 : Int32)
def j_X5_hasMinus_20 (g : Nat) : Option (Int32) := j_X5_hasMinus_25 g (1 : Int32)
def j_X5_hasMinus (g : Nat) (a0 : UInt64) : Option (Int32) := if (Op.cmpValue (FP.dcmp a0 FP.dconst0) CmpOp.g) < 0 then (j_X5_hasMinus_20 g) else (if (Op.cmpValue (FP.dcmp a0 FP.dconst0) CmpOp.l) = 0 then ((n64 (FP.ddiv FP.dconst1 a0)).bind fun v4 => if 0 ≤ (Op.cmpValue (FP.dcmp v4 FP.dconst0) CmpOp.g) then (j_X5_hasMinus_24 g) else (j_X5_hasMinus_20 g)) else (j_X5_hasMinus_24 g))
def j_X2_comesBefore_31 (g : Nat) (s0 : Int32) : Option (Int32) := (zb s0).bind fun _ => some s0
def j_X2_comesBefore_30 (g : Nat) : Option (Int32) := j_X2_comesBefore_31 g (0 : Int32)
def j_X2_comesBefore_26 (g : Nat) : Option (Int32) := j_X2_comesBefore_31 g (1 : Int32)
def j_X2_comesBefore (g : Nat) (a0 : UInt64) (a2 : UInt64) : Option (Int32) := if (Op.cmpValue (FP.dcmp a0 a2) CmpOp.g) < 0 then (j_X2_comesBefore_26 g) else (if (Op.cmpValue (FP.dcmp a0 a2) CmpOp.l) = 0 then ((j_X5_hasMinus g a0).bind fun v4 => if v4 = 0 then (j_X2_comesBefore_30 g) else ((j_X5_hasMinus g a2).bind fun v6 => if v6 = 0 then (j_X2_comesBefore_26 g) else (j_X2_comesBefore_30 g))) else (j_X2_comesBefore_30 g))
def j_X3_blankAt_17 (g : Nat) (M : hm) (s0 : Int32) : Option (Int32) := (zb s0).bind fun _ => some s0
def j_X3_blankAt (g : Nat) (M : hm) (a0 : Nat) (a1 : Int32) : Option (Int32) := (gI M a0 3 1).bind fun v2 => if ((v2 >>> (a1 &&& 31)) &&& (1 : Int32)) = (1 : Int32) then (j_X3_blankAt_17 g M (1 : Int32)) else (j_X3_blankAt_17 g M (0 : Int32))
def j_X2_farthestAt_94 (g : Nat) (M : hm) (s0 : UInt64) : Option (UInt64) := some s0
def j_X2_farthestAt_81 (g : Nat) (M : hm) (p3 : UInt64) (p5 : UInt64) (s0 : Int32) : Option (UInt64) := if s0 = 0 then (j_X2_farthestAt_94 g M p3) else (j_X2_farthestAt_94 g M p5)
def j_X2_farthestAt_14 (g : Nat) (M : hm) (p0 : Nat) (p2 : Int32) : Option (UInt64) := (gR M p0 2 1).bind fun v2 => v2.bind fun b3 => (gR M b3 3 0).bind fun v4 => v4.bind fun b5 => (aD M b5 p2).bind fun v6 => some v6
def j_X2_farthestAt (g : Nat) (M : hm) (a0 : Nat) (a1 : Option Nat) (a2 : Int32) : Option (UInt64) := if a2 = 0 then (j_X2_farthestAt_14 g M a0 a2) else (a1.bind fun b8 => (isO M b8 3).bind fun _ => (j_X3_blankAt g M b8 (a2 - (1 : Int32))).bind fun v10 => if v10 = 0 then ((gR M b8 3 0).bind fun v12 => v12.bind fun b13 => (aD M b13 (a2 - (1 : Int32))).bind fun v14 => (gR M a0 2 1).bind fun v15 => v15.bind fun b16 => (isO M b16 3).bind fun _ => (j_X3_blankAt g M b16 a2).bind fun v18 => if v18 = 0 then ((gR M a0 2 1).bind fun v20 => v20.bind fun b21 => (gR M b21 3 0).bind fun v22 => v22.bind fun b23 => (aD M b23 a2).bind fun v24 => (gI M b8 3 3).bind fun v25 => if v25 = (20 : Int32) then ((j_X2_comesBefore g v14 v24).bind fun v28 => j_X2_farthestAt_81 g M v14 v24 v28) else ((j_X2_comesBefore g v24 v14).bind fun v27 => j_X2_farthestAt_81 g M v14 v24 v27)) else (some v14)) else (j_X2_farthestAt_14 g M a0 a2))
def j_X2_isSurelyWhole_27 (g : Nat) (s0 : Int32) : Option (Int32) := (zb s0).bind fun _ => some s0
def j_X2_isSurelyWhole_22 (g : Nat) : Option (Int32) := j_X2_isSurelyWhole_27 g (1 : Int32)
def j_X2_isSurelyWhole (g : Nat) (a0 : UInt64) : Option (Int32) := if 0 ≤ (Op.cmpValue (FP.dcmp a0 (4841369599423283200 : UInt64)) CmpOp.l) then (j_X2_isSurelyWhole_22 g) else (if (Op.cmpValue (FP.dcmp a0 (14064741636278059008 : UInt64)) CmpOp.g) ≤ 0 then (j_X2_isSurelyWhole_22 g) else (if (Op.cmpValue (FP.dcmp a0 FP.dconst0) CmpOp.l) = 0 then (j_X2_isSurelyWhole_22 g) else (j_X2_isSurelyWhole_27 g (0 : Int32))))
def j_X2_floor_26 (g : Nat) (s0 : UInt64) : Option (UInt64) := some s0
def j_X2_floor (g : Nat) (a0 : UInt64) : Option (UInt64) := (j_X2_isSurelyWhole g a0).bind fun v1 => if v1 = 0 then (if (Op.cmpValue (FP.dcmp (FP.l2d (FP.d2l a0)) a0) CmpOp.l) ≤ 0 then (j_X2_floor_26 g (FP.l2d (FP.d2l a0))) else ((n64 (FP.dsub (FP.l2d (FP.d2l a0)) FP.dconst1)).bind fun v4 => j_X2_floor_26 g v4)) else (some a0)
def j_X2_hasBothNeighbours_52 (g : Nat) (M : hm) (s0 : Int32) : Option (Int32) := (zb s0).bind fun _ => some s0
def j_X2_hasBothNeighbours_51 (g : Nat) (M : hm) : Option (Int32) := j_X2_hasBothNeighbours_52 g M (0 : Int32)
def j_X2_hasBothNeighbours (g : Nat) (M : hm) (a0 : Nat) (a1 : Int32) : Option (Int32) := if a1 ≤ 0 then (j_X2_hasBothNeighbours_51 g M) else (if (15 : Int32) ≤ a1 then (j_X2_hasBothNeighbours_51 g M) else ((gR M a0 2 1).bind fun v4 => v4.bind fun b5 => (isO M b5 3).bind fun _ => (j_X3_blankAt g M b5 (a1 - (1 : Int32))).bind fun v7 => if v7 = 0 then ((gR M a0 2 1).bind fun v9 => v9.bind fun b10 => (isO M b10 3).bind fun _ => (j_X3_blankAt g M b10 a1).bind fun v12 => if v12 = 0 then ((gR M a0 2 1).bind fun v14 => v14.bind fun b15 => (isO M b15 3).bind fun _ => (j_X3_blankAt g M b15 (a1 + (1 : Int32))).bind fun v17 => if v17 = 0 then (j_X2_hasBothNeighbours_52 g M (1 : Int32)) else (j_X2_hasBothNeighbours_51 g M)) else (j_X2_hasBothNeighbours_51 g M)) else (j_X2_hasBothNeighbours_51 g M)))
def j_X5_isInfinite_21 (g : Nat) (s0 : Int32) : Option (Int32) := (zb s0).bind fun _ => some s0
def j_X5_isInfinite_16 (g : Nat) : Option (Int32) := j_X5_isInfinite_21 g (1 : Int32)
def j_X5_isInfinite (g : Nat) (a0 : UInt64) : Option (Int32) := if 0 < (Op.cmpValue (FP.dcmp a0 (9218868437227405311 : UInt64)) CmpOp.l) then (j_X5_isInfinite_16 g) else (if 0 ≤ (Op.cmpValue (FP.dcmp a0 (18442240474082181119 : UInt64)) CmpOp.g) then (j_X5_isInfinite_21 g (0 : Int32)) else (j_X5_isInfinite_16 g))
def j_X2_isUndefined_234 (g : Nat) (s0 : Int32) : Option (Int32) := (zb s0).bind fun _ => some s0
def j_X2_isUndefined_229 (g : Nat) : Option (Int32) := j_X2_isUndefined_234 g (1 : Int32)
def j_X2_isUndefined_215 (g : Nat) (s0 : Int32) : Option (Int32) := (zb s0).bind fun _ => some s0
def j_X2_isUndefined_210 (g : Nat) : Option (Int32) := j_X2_isUndefined_215 g (1 : Int32)
def j_X2_isUndefined_196 (g : Nat) (s0 : Int32) : Option (Int32) := (zb s0).bind fun _ => some s0
def j_X2_isUndefined_195 (g : Nat) : Option (Int32) := j_X2_isUndefined_196 g (0 : Int32)
def j_X2_isUndefined_191 (g : Nat) : Option (Int32) := j_X2_isUndefined_196 g (1 : Int32)
def j_X2_isUndefined_173 (g : Nat) (s0 : Int32) : Option (Int32) := (zb s0).bind fun _ => some s0
def j_X2_isUndefined_172 (g : Nat) : Option (Int32) := j_X2_isUndefined_173 g (0 : Int32)
def j_X2_isUndefined_168 (g : Nat) : Option (Int32) := j_X2_isUndefined_173 g (1 : Int32)
def j_X2_isUndefined_155 (g : Nat) (p1 : UInt64) (p3 : UInt64) : Option (Int32) := (j_X5_isInfinite g p1).bind fun v5 => if v5 = 0 then (j_X2_isUndefined_172 g) else (if (Op.cmpValue (FP.dcmp p3 FP.dconst0) CmpOp.l) = 0 then (j_X2_isUndefined_168 g) else (j_X2_isUndefined_172 g))
def j_X2_isUndefined_141 (g : Nat) (s0 : Int32) : Option (Int32) := (zb s0).bind fun _ => some s0
def j_X2_isUndefined_140 (g : Nat) : Option (Int32) := j_X2_isUndefined_141 g (0 : Int32)
def j_X2_isUndefined_124 (g : Nat) (s0 : Int32) : Option (Int32) := (zb s0).bind fun _ => some s0
def j_X2_isUndefined_123 (g : Nat) : Option (Int32) := j_X2_isUndefined_124 g (0 : Int32)
def j_X2_isUndefined_19 (g : Nat) (p0 : Int32) (p1 : UInt64) (p3 : UInt64) (s0 : Int32) : Option (Int32) := if p0 = (9 : Int32) then (if s0 = 0 then (j_X2_isUndefined_123 g) else (if (Op.cmpValue (FP.dcmp p1 p3) CmpOp.l) = 0 then (j_X2_isUndefined_123 g) else (j_X2_isUndefined_124 g (1 : Int32)))) else if p0 = (10 : Int32) then (if s0 = 0 then (j_X2_isUndefined_140 g) else (if (Op.cmpValue (FP.dcmp p1 p3) CmpOp.l) = 0 then (j_X2_isUndefined_141 g (1 : Int32)) else (j_X2_isUndefined_140 g))) else if p0 = (11 : Int32) then (if (Op.cmpValue (FP.dcmp p1 FP.dconst0) CmpOp.l) = 0 then ((j_X5_isInfinite g p3).bind fun v33 => if v33 = 0 then (j_X2_isUndefined_155 g p1 p3) else (j_X2_isUndefined_168 g)) else (j_X2_isUndefined_155 g p1 p3)) else if p0 = (12 : Int32) then (if s0 = 0 then (if (Op.cmpValue (FP.dcmp p1 FP.dconst0) CmpOp.l) = 0 then (if (Op.cmpValue (FP.dcmp p3 FP.dconst0) CmpOp.l) = 0 then (j_X2_isUndefined_191 g) else (j_X2_isUndefined_195 g)) else (j_X2_isUndefined_195 g)) else (j_X2_isUndefined_191 g)) else if p0 = (13 : Int32) then (if (Op.cmpValue (FP.dcmp p3 FP.dconst0) CmpOp.l) = 0 then (j_X2_isUndefined_210 g) else ((j_X5_isInfinite g p1).bind fun v39 => if v39 = 0 then (j_X2_isUndefined_215 g (0 : Int32)) else (j_X2_isUndefined_210 g))) else if p0 = (14 : Int32) then (some (0 : Int32)) else if p0 = (15 : Int32) then (some (0 : Int32)) else if p0 = (16 : Int32) then (some (0 : Int32)) else if p0 = (17 : Int32) then (some (0 : Int32)) else if p0 = (18 : Int32) then (some (0 : Int32)) else if p0 = (19 : Int32) then (some (0 : Int32)) else if p0 = (20 : Int32) then (some (0 : Int32)) else if p0 = (21 : Int32) then (some (0 : Int32)) else if p0 = (22 : Int32) then (some (0 : Int32)) else if p0 = (23 : Int32) then (some (0 : Int32)) else if p0 = (24 : Int32) then (some (0 : Int32)) else if p0 = (25 : Int32) then (some (0 : Int32)) else if p0 = (26 : Int32) then (if (Op.cmpValue (FP.dcmp p3 FP.dconst0) CmpOp.l) = 0 then (j_X2_isUndefined_229 g) else ((j_X5_isInfinite g p3).bind fun v42 => if v42 = 0 then (j_X2_isUndefined_234 g (0 : Int32)) else (j_X2_isUndefined_229 g))) else (some (0 : Int32))
def j_X2_isUndefined_18 (g : Nat) (p0 : Int32) (p1 : UInt64) (p3 : UInt64) : Option (Int32) := j_X2_isUndefined_19 g p0 p1 p3 (0 : Int32)
def j_X2_isUndefined (g : Nat) (a0 : Int32) (a1 : UInt64) (a3 : UInt64) : Option (Int32) := (j_X5_isInfinite g a1).bind fun v44 => if v44 = 0 then (j_X2_isUndefined_18 g a0 a1 a3) else ((j_X5_isInfinite g a3).bind fun v46 => if v46 = 0 then (j_X2_isUndefined_18 g a0 a1 a3) else (j_X2_isUndefined_19 g a0 a1 a3 (1 : Int32)))
def j_X2_hasDifference_61 (g : Nat) (M : hm) (s0 : Int32) : Option (Int32) := (zb s0).bind fun _ => some s0
def j_X2_hasDifference_60 (g : Nat) (M : hm) : Option (Int32) := j_X2_hasDifference_61 g M (0 : Int32)
def j_X2_hasDifference (g : Nat) (M : hm) (a0 : Nat) (a1 : Int32) : Option (Int32) := if a1 ≤ 0 then (j_X2_hasDifference_60 g M) else ((gR M a0 2 1).bind fun v3 => v3.bind fun b4 => (isO M b4 3).bind fun _ => (j_X3_blankAt g M b4 (a1 - (1 : Int32))).bind fun v6 => if v6 = 0 then ((gR M a0 2 1).bind fun v8 => v8.bind fun b9 => (isO M b9 3).bind fun _ => (j_X3_blankAt g M b9 a1).bind fun v11 => if v11 = 0 then ((gR M a0 2 1).bind fun v13 => v13.bind fun b14 => (gR M b14 3 0).bind fun v15 => v15.bind fun b16 => (aD M b16 a1).bind fun v17 => (gR M a0 2 1).bind fun v18 => v18.bind fun b19 => (gR M b19 3 0).bind fun v20 => v20.bind fun b21 => (aD M b21 (a1 - (1 : Int32))).bind fun v22 => (j_X2_isUndefined g (10 : Int32) v17 v22).bind fun v23 => if v23 = 0 then (j_X2_hasDifference_61 g M (1 : Int32)) else (j_X2_hasDifference_60 g M)) else (j_X2_hasDifference_60 g M)) else (j_X2_hasDifference_60 g M))
def j_X4_init_98 (g : Nat) (M : hm) : Option (hm) := some M
def j_X4_init_40 (g : Nat) : Nat → hm → Nat → Int32 → Option (hm)
  | 0, _, _, _ => none
  | n + 1, M, p0, p1 => if (10 : Int32) ≤ p1 then (j_X4_init_98 g M) else ((gR M p0 4 0).bind fun v2 => (gR M p0 4 0).bind fun v3 => v3.bind fun b4 => (aD M b4 (p1 - (1 : Int32))).bind fun v5 => (gR M p0 4 0).bind fun v6 => v6.bind fun b7 => (aD M b7 (p1 - (1 : Int32))).bind fun v8 => (n64 (FP.dmul v5 v8)).bind fun v9 => v2.bind fun b10 => (sD M b10 p1 v9).bind fun M11 => (gR M11 p0 4 1).bind fun v12 => (gR M11 p0 4 1).bind fun v13 => v13.bind fun b14 => (aD M11 b14 (p1 - (1 : Int32))).bind fun v15 => (gR M11 p0 4 1).bind fun v16 => v16.bind fun b17 => (aD M11 b17 (p1 - (1 : Int32))).bind fun v18 => (n64 (FP.dmul v15 v18)).bind fun v19 => v12.bind fun b20 => (sD M11 b20 p1 v19).bind fun M21 => j_X4_init_40 g n M21 p0 (p1 + (1 : Int32)))
theorem j_X4_init_40_s (g : Nat) (n : Nat) (M : hm) (p0 : Nat) (p1 : Int32) : j_X4_init_40 g (n + 1) M p0 p1 = (if (10 : Int32) ≤ p1 then (j_X4_init_98 g M) else ((gR M p0 4 0).bind fun v2 => (gR M p0 4 0).bind fun v3 => v3.bind fun b4 => (aD M b4 (p1 - (1 : Int32))).bind fun v5 => (gR M p0 4 0).bind fun v6 => v6.bind fun b7 => (aD M b7 (p1 - (1 : Int32))).bind fun v8 => (n64 (FP.dmul v5 v8)).bind fun v9 => v2.bind fun b10 => (sD M b10 p1 v9).bind fun M11 => (gR M11 p0 4 1).bind fun v12 => (gR M11 p0 4 1).bind fun v13 => v13.bind fun b14 => (aD M11 b14 (p1 - (1 : Int32))).bind fun v15 => (gR M11 p0 4 1).bind fun v16 => v16.bind fun b17 => (aD M11 b17 (p1 - (1 : Int32))).bind fun v18 => (n64 (FP.dmul v15 v18)).bind fun v19 => v12.bind fun b20 => (sD M11 b20 p1 v19).bind fun M21 => j_X4_init_40 g n M21 p0 (p1 + (1 : Int32)))) := rfl
def j_X4_init (g : Nat) (M : hm) (a0 : Nat) : Option (hm) := (nA M 0 (10, .inr (.inr (.inr (.inl (fun _ => 0)))))).bind fun q22 => (pV q22.1 a0 4 0 (.ref q22.2)).bind fun M23 => (nA M23 0 (10, .inr (.inr (.inr (.inl (fun _ => 0)))))).bind fun q24 => (pV q24.1 a0 4 1 (.ref q24.2)).bind fun M25 => (gR M25 a0 4 0).bind fun v26 => v26.bind fun b27 => (sD M25 b27 (0 : Int32) (4611686018427387904 : UInt64)).bind fun M28 => (gR M28 a0 4 1).bind fun v29 => v29.bind fun b30 => (sD M28 b30 (0 : Int32) (4602678819172646912 : UInt64)).bind fun M31 => j_X4_init_40 g g M31 a0 (1 : Int32)
def j_X3_init (g : Nat) (M : hm) (a0 : Nat) : Option (hm) := (nA M 0 (16, .inr (.inr (.inr (.inl (fun _ => 0)))))).bind fun q1 => (pV q1.1 a0 3 0 (.ref q1.2)).bind fun M2 => (pV M2 a0 3 1 (.int (65535 : Int32))).bind fun M3 => (pV M3 a0 3 2 (.int (0 : Int32))).bind fun M4 => (pV M4 a0 3 3 (.int (-1 : Int32))).bind fun M5 => (pV M5 a0 3 4 (.int (0 : Int32))).bind fun M6 => (pV M6 a0 3 5 (.int (0 : Int32))).bind fun M7 => (pV M7 a0 3 6 (.int (0 : Int32))).bind fun M8 => some M8
def j_X2_init (g : Nat) (M : hm) (a0 : Nat) : Option (hm) := (nO M 4 [.null, .null]).bind fun q1 => (j_X4_init g q1.1 q1.2).bind fun M2 => (pV M2 a0 2 0 (.ref q1.2)).bind fun M3 => (nO M3 3 [.null, .int 0, .int 0, .int 0, .int 0, .int 0, .int 0]).bind fun q4 => (j_X3_init g q4.1 q4.2).bind fun M5 => (pV M5 a0 2 1 (.ref q4.2)).bind fun M6 => (nO M6 3 [.null, .int 0, .int 0, .int 0, .int 0, .int 0, .int 0]).bind fun q7 => (j_X3_init g q7.1 q7.2).bind fun M8 => (pV M8 a0 2 2 (.ref q7.2)).bind fun M9 => (nA M9 0 (16, .inr (.inr (.inr (.inl (fun _ => 0)))))).bind fun q10 => (pV q10.1 a0 2 3 (.ref q10.2)).bind fun M11 => (pV M11 a0 2 4 (.int (0 : Int32))).bind fun M12 => some M12
def j_X2_insert_44 (g : Nat) (M : hm) (p0 : Nat) (p1 : UInt64) (p3 : Int32) : Option (hm) := (gR M p0 2 3).bind fun v1 => v1.bind fun b2 => (sD M b2 p3 p1).bind fun M3 => (gI M3 p0 2 4).bind fun v4 => (pV M3 p0 2 4 (.int (v4 + (1 : Int32)))).bind fun M5 => some M5
def j_X2_insert_5 (g : Nat) : Nat → hm → Nat → UInt64 → Int32 → Option (hm)
  | 0, _, _, _, _ => none
  | n + 1, M, p0, p1, p3 => if p3 ≤ 0 then (j_X2_insert_44 g M p0 p1 p3) else ((gR M p0 2 3).bind fun v7 => v7.bind fun b8 => (aD M b8 (p3 - (1 : Int32))).bind fun v9 => (j_X2_comesBefore g p1 v9).bind fun v10 => if v10 = 0 then (j_X2_insert_44 g M p0 p1 p3) else ((gR M p0 2 3).bind fun v12 => (gR M p0 2 3).bind fun v13 => v13.bind fun b14 => (aD M b14 (p3 - (1 : Int32))).bind fun v15 => v12.bind fun b16 => (sD M b16 p3 v15).bind fun M17 => j_X2_insert_5 g n M17 p0 p1 (p3 + (-1 : Int32))))
theorem j_X2_insert_5_s (g : Nat) (n : Nat) (M : hm) (p0 : Nat) (p1 : UInt64) (p3 : Int32) : j_X2_insert_5 g (n + 1) M p0 p1 p3 = (if p3 ≤ 0 then (j_X2_insert_44 g M p0 p1 p3) else ((gR M p0 2 3).bind fun v7 => v7.bind fun b8 => (aD M b8 (p3 - (1 : Int32))).bind fun v9 => (j_X2_comesBefore g p1 v9).bind fun v10 => if v10 = 0 then (j_X2_insert_44 g M p0 p1 p3) else ((gR M p0 2 3).bind fun v12 => (gR M p0 2 3).bind fun v13 => v13.bind fun b14 => (aD M b14 (p3 - (1 : Int32))).bind fun v15 => v12.bind fun b16 => (sD M b16 p3 v15).bind fun M17 => j_X2_insert_5 g n M17 p0 p1 (p3 + (-1 : Int32))))) := rfl
def j_X2_insert (g : Nat) (M : hm) (a0 : Nat) (a1 : UInt64) : Option (hm) := (gI M a0 2 4).bind fun v18 => j_X2_insert_5 g g M a0 a1 v18
def j_X2_isOfTwo_23 (g : Nat) (s0 : Int32) : Option (Int32) := (zb s0).bind fun _ => some s0
def j_X2_isOfTwo_18 (g : Nat) : Option (Int32) := j_X2_isOfTwo_23 g (1 : Int32)
def j_X2_isOfTwo_12 (g : Nat) (p0 : Int32) : Option (Int32) := if p0 = (26 : Int32) then (j_X2_isOfTwo_18 g) else (j_X2_isOfTwo_23 g (0 : Int32))
def j_X2_isOfTwo (g : Nat) (a0 : Int32) : Option (Int32) := if a0 < (9 : Int32) then (j_X2_isOfTwo_12 g a0) else (if a0 ≤ (16 : Int32) then (j_X2_isOfTwo_18 g) else (j_X2_isOfTwo_12 g a0))
def j_X5_isSoOfNumbers_107 (g : Nat) (s0 : Int32) : Option (Int32) := (zb s0).bind fun _ => some s0
def j_X5_isSoOfNumbers_95 (g : Nat) (s0 : Int32) : Option (Int32) := (zb s0).bind fun _ => some s0
def j_X5_isSoOfNumbers_83 (g : Nat) (s0 : Int32) : Option (Int32) := (zb s0).bind fun _ => some s0
def j_X5_isSoOfNumbers_71 (g : Nat) (s0 : Int32) : Option (Int32) := (zb s0).bind fun _ => some s0
def j_X5_isSoOfNumbers_59 (g : Nat) (s0 : Int32) : Option (Int32) := (zb s0).bind fun _ => some s0
def j_X5_isSoOfNumbers_47 (g : Nat) (s0 : Int32) : Option (Int32) := (zb s0).bind fun _ => some s0
def j_X5_isSoOfNumbers (g : Nat) (a0 : Int32) (a1 : UInt64) (a3 : UInt64) : Option (Int32) := if a0 = (0 : Int32) then (if 0 ≤ (Op.cmpValue (FP.dcmp a1 a3) CmpOp.g) then (j_X5_isSoOfNumbers_47 g (0 : Int32)) else (j_X5_isSoOfNumbers_47 g (1 : Int32))) else if a0 = (1 : Int32) then (if 0 < (Op.cmpValue (FP.dcmp a1 a3) CmpOp.g) then (j_X5_isSoOfNumbers_59 g (0 : Int32)) else (j_X5_isSoOfNumbers_59 g (1 : Int32))) else if a0 = (2 : Int32) then (if (Op.cmpValue (FP.dcmp a1 a3) CmpOp.l) ≤ 0 then (j_X5_isSoOfNumbers_71 g (0 : Int32)) else (j_X5_isSoOfNumbers_71 g (1 : Int32))) else if a0 = (3 : Int32) then (if (Op.cmpValue (FP.dcmp a1 a3) CmpOp.l) < 0 then (j_X5_isSoOfNumbers_83 g (0 : Int32)) else (j_X5_isSoOfNumbers_83 g (1 : Int32))) else if a0 = (4 : Int32) then (if (Op.cmpValue (FP.dcmp a1 a3) CmpOp.l) = 0 then (j_X5_isSoOfNumbers_95 g (1 : Int32)) else (j_X5_isSoOfNumbers_95 g (0 : Int32))) else (if (Op.cmpValue (FP.dcmp a1 a3) CmpOp.l) = 0 then (j_X5_isSoOfNumbers_107 g (0 : Int32)) else (j_X5_isSoOfNumbers_107 g (1 : Int32)))
def j_X5_isSo_93 (g : Nat) (M : hm) (s0 : Int32) : Option (Int32) := (zb s0).bind fun _ => some s0
def j_X5_isSo_81 (g : Nat) (M : hm) (p5 : Int32) (p7 : Int32) : Option (Int32) := if p7 = p5 then (j_X5_isSo_93 g M (0 : Int32)) else (j_X5_isSo_93 g M (1 : Int32))
def j_X5_isSo_56 (g : Nat) (M : hm) (p5 : Int32) (s0 : Int32) : Option (Int32) := j_X5_isSo_81 g M p5 s0
def j_X5_isSo_45 (g : Nat) (M : hm) (p5 : Int32) (p6 : Int32) : Option (Int32) := if p6 = (5 : Int32) then (j_X5_isSo_56 g M p5 (1 : Int32)) else (j_X5_isSo_56 g M p5 (0 : Int32))
def j_X5_isSo_26 (g : Nat) (M : hm) (p1 : Option Nat) (p2 : Int32) (p3 : Option Nat) (p4 : Int32) (p5 : Int32) (s0 : Int32) : Option (Int32) := p1.bind fun b4 => (isO M b4 3).bind fun _ => (j_X3_blankAt g M b4 p2).bind fun v6 => if v6 = 0 then (p3.bind fun b8 => (isO M b8 3).bind fun _ => (j_X3_blankAt g M b8 p4).bind fun v10 => if v10 = 0 then ((gR M b4 3 0).bind fun v12 => v12.bind fun b13 => (aD M b13 p2).bind fun v14 => (gR M b8 3 0).bind fun v15 => v15.bind fun b16 => (aD M b16 p4).bind fun v17 => (j_X5_isSoOfNumbers g s0 v14 v17).bind fun v18 => j_X5_isSo_81 g M p5 v18) else (j_X5_isSo_45 g M p5 s0)) else (j_X5_isSo_45 g M p5 s0)
def j_X5_isSo_11 (g : Nat) (M : hm) (p0 : Int32) (p1 : Option Nat) (p2 : Int32) (p3 : Option Nat) (p4 : Int32) (s0 : Int32) : Option (Int32) := if s0 = 0 then (j_X5_isSo_26 g M p1 p2 p3 p4 s0 p0) else (j_X5_isSo_26 g M p1 p2 p3 p4 s0 (p0 - (6 : Int32)))
def j_X5_isSo (g : Nat) (M : hm) (a0 : Int32) (a1 : Option Nat) (a2 : Int32) (a3 : Option Nat) (a4 : Int32) : Option (Int32) := if a0 < (6 : Int32) then (j_X5_isSo_11 g M a0 a1 a2 a3 a4 (0 : Int32)) else (j_X5_isSo_11 g M a0 a1 a2 a3 a4 (1 : Int32))
def j_X2_leavesBlank_257 (g : Nat) (M : hm) (s0 : Int32) : Option (Int32) := (zb s0).bind fun _ => some s0
def j_X2_leavesBlank_243 (g : Nat) (M : hm) (s0 : Int32) : Option (Int32) := (zb s0).bind fun _ => some s0
def j_X2_leavesBlank_229 (g : Nat) (M : hm) (s0 : Int32) : Option (Int32) := (zb s0).bind fun _ => some s0
def j_X2_leavesBlank_228 (g : Nat) (M : hm) : Option (Int32) := j_X2_leavesBlank_229 g M (0 : Int32)
def j_X2_leavesBlank_224 (g : Nat) (M : hm) : Option (Int32) := j_X2_leavesBlank_229 g M (1 : Int32)
def j_X2_leavesBlank_198 (g : Nat) (M : hm) (s0 : Int32) : Option (Int32) := (zb s0).bind fun _ => some s0
def j_X2_leavesBlank_184 (g : Nat) (M : hm) (s0 : Int32) : Option (Int32) := (zb s0).bind fun _ => some s0
def j_X2_leavesBlank_183 (g : Nat) (M : hm) : Option (Int32) := j_X2_leavesBlank_184 g M (0 : Int32)
def j_X2_leavesBlank_156 (g : Nat) (M : hm) (s0 : Int32) : Option (Int32) := (zb s0).bind fun _ => some s0
def j_X2_leavesBlank_151 (g : Nat) (M : hm) : Option (Int32) := j_X2_leavesBlank_156 g M (1 : Int32)
def j_X2_leavesBlank_65 (g : Nat) (M : hm) (s0 : Int32) : Option (Int32) := (zb s0).bind fun _ => some s0
def j_X2_leavesBlank_60 (g : Nat) (M : hm) : Option (Int32) := j_X2_leavesBlank_65 g M (1 : Int32)
def j_X2_leavesBlank (g : Nat) (M : hm) (a0 : Nat) (a1 : Option Nat) (a2 : Int32) : Option (Int32) := a1.bind fun b8 => (gI M b8 3 3).bind fun v9 => (j_X2_isOfTwo g v9).bind fun v10 => if v10 = 0 then ((gI M b8 3 3).bind fun v12 => if v12 = (17 : Int32) then ((gR M a0 2 1).bind fun v22 => v22.bind fun b23 => (isO M b23 3).bind fun _ => (j_X3_blankAt g M b23 a2).bind fun v25 => if v25 = 0 then ((gI M b8 3 6).bind fun v27 => (gR M a0 2 1).bind fun v28 => (gR M a0 2 2).bind fun v29 => (j_X5_isSo g M v27 v28 a2 v29 a2).bind fun v30 => if v30 = 0 then (j_X2_leavesBlank_151 g M) else (j_X2_leavesBlank_156 g M (0 : Int32))) else (j_X2_leavesBlank_151 g M)) else if v12 = (18 : Int32) then ((gR M a0 2 1).bind fun v32 => v32.bind fun b33 => (isO M b33 3).bind fun _ => (j_X3_blankAt g M b33 a2).bind fun v35 => if v35 = 0 then (j_X2_leavesBlank_183 g M) else ((gR M a0 2 2).bind fun v37 => v37.bind fun b38 => (isO M b38 3).bind fun _ => (j_X3_blankAt g M b38 a2).bind fun v40 => if v40 = 0 then (j_X2_leavesBlank_183 g M) else (j_X2_leavesBlank_184 g M (1 : Int32)))) else if v12 = (19 : Int32) then ((isO M a0 2).bind fun _ => (j_X2_hasBothNeighbours g M a0 a2).bind fun v43 => if v43 = 0 then (j_X2_leavesBlank_198 g M (1 : Int32)) else (j_X2_leavesBlank_198 g M (0 : Int32))) else if v12 = (20 : Int32) then ((gR M a0 2 1).bind fun v45 => v45.bind fun b46 => (isO M b46 3).bind fun _ => (j_X3_blankAt g M b46 a2).bind fun v48 => if v48 = 0 then (j_X2_leavesBlank_228 g M) else (if a2 = 0 then (j_X2_leavesBlank_224 g M) else ((isO M b8 3).bind fun _ => (j_X3_blankAt g M b8 (a2 - (1 : Int32))).bind fun v52 => if v52 = 0 then (j_X2_leavesBlank_228 g M) else (j_X2_leavesBlank_224 g M)))) else if v12 = (21 : Int32) then ((gR M a0 2 1).bind fun v54 => v54.bind fun b55 => (isO M b55 3).bind fun _ => (j_X3_blankAt g M b55 a2).bind fun v57 => if v57 = 0 then (j_X2_leavesBlank_228 g M) else (if a2 = 0 then (j_X2_leavesBlank_224 g M) else ((isO M b8 3).bind fun _ => (j_X3_blankAt g M b8 (a2 - (1 : Int32))).bind fun v61 => if v61 = 0 then (j_X2_leavesBlank_228 g M) else (j_X2_leavesBlank_224 g M)))) else if v12 = (22 : Int32) then ((gI M a0 2 4).bind fun v63 => if a2 < v63 then (j_X2_leavesBlank_243 g M (0 : Int32)) else (j_X2_leavesBlank_243 g M (1 : Int32))) else if v12 = (23 : Int32) then ((gR M a0 2 1).bind fun v65 => v65.bind fun b66 => (isO M b66 3).bind fun _ => (j_X3_blankAt g M b66 a2).bind fun v68 => (zb v68).bind fun _ => some v68) else if v12 = (24 : Int32) then ((isO M a0 2).bind fun _ => (j_X2_hasDifference g M a0 a2).bind fun v71 => if v71 = 0 then (j_X2_leavesBlank_257 g M (1 : Int32)) else (j_X2_leavesBlank_257 g M (0 : Int32))) else if v12 = (25 : Int32) then (some (0 : Int32)) else ((gR M a0 2 1).bind fun v73 => v73.bind fun b74 => (isO M b74 3).bind fun _ => (j_X3_blankAt g M b74 a2).bind fun v76 => (zb v76).bind fun _ => some v76)) else ((gR M a0 2 1).bind fun v78 => v78.bind fun b79 => (isO M b79 3).bind fun _ => (j_X3_blankAt g M b79 a2).bind fun v81 => if v81 = 0 then ((gR M a0 2 2).bind fun v83 => v83.bind fun b84 => (isO M b84 3).bind fun _ => (j_X3_blankAt g M b84 a2).bind fun v86 => if v86 = 0 then ((gI M b8 3 3).bind fun v88 => (gR M a0 2 1).bind fun v89 => v89.bind fun b90 => (gR M b90 3 0).bind fun v91 => v91.bind fun b92 => (aD M b92 a2).bind fun v93 => (gR M a0 2 2).bind fun v94 => v94.bind fun b95 => (gR M b95 3 0).bind fun v96 => v96.bind fun b97 => (aD M b97 a2).bind fun v98 => (j_X2_isUndefined g v88 v93 v98).bind fun v99 => if v99 = 0 then (j_X2_leavesBlank_65 g M (0 : Int32)) else (j_X2_leavesBlank_60 g M)) else (j_X2_leavesBlank_60 g M)) else (j_X2_leavesBlank_60 g M))
def j_X2_lesserPlaces_48 (g : Nat) (M : hm) (p3 : Int32) : Option (Int32) := some p3
def j_X2_lesserPlaces_42 (g : Nat) (K5 : Nat → UInt64 → Int32 → Int32 → Option (Int32)) (M : hm) (p0 : Nat) (p1 : UInt64) (p3 : Int32) (p4 : Int32) : Option (Int32) := K5 p0 p1 p3 (p4 + (1 : Int32))
def j_X2_lesserPlaces_5 (g : Nat) (M : hm) : Nat → Nat → UInt64 → Int32 → Int32 → Option (Int32)
  | 0, _, _, _, _ => none
  | n + 1, p0, p1, p3, p4 => if (16 : Int32) ≤ p4 then (j_X2_lesserPlaces_48 g M p3) else ((gR M p0 2 1).bind fun v2 => v2.bind fun b3 => (isO M b3 3).bind fun _ => (j_X3_blankAt g M b3 p4).bind fun v5 => if v5 = 0 then ((gR M p0 2 1).bind fun v7 => v7.bind fun b8 => (gR M b8 3 0).bind fun v9 => v9.bind fun b10 => (aD M b10 p4).bind fun v11 => if 0 ≤ (Op.cmpValue (FP.dcmp v11 p1) CmpOp.g) then (j_X2_lesserPlaces_42 g (fun p0 p1 p3 p4 => j_X2_lesserPlaces_5 g M n p0 p1 p3 p4) M p0 p1 p3 p4) else (j_X2_lesserPlaces_42 g (fun p0 p1 p3 p4 => j_X2_lesserPlaces_5 g M n p0 p1 p3 p4) M p0 p1 (p3 + (1 : Int32)) p4)) else (j_X2_lesserPlaces_42 g (fun p0 p1 p3 p4 => j_X2_lesserPlaces_5 g M n p0 p1 p3 p4) M p0 p1 p3 p4))
theorem j_X2_lesserPlaces_5_s (g : Nat) (M : hm) (n : Nat) (p0 : Nat) (p1 : UInt64) (p3 : Int32) (p4 : Int32) : j_X2_lesserPlaces_5 g M (n + 1) p0 p1 p3 p4 = (if (16 : Int32) ≤ p4 then (j_X2_lesserPlaces_48 g M p3) else ((gR M p0 2 1).bind fun v2 => v2.bind fun b3 => (isO M b3 3).bind fun _ => (j_X3_blankAt g M b3 p4).bind fun v5 => if v5 = 0 then ((gR M p0 2 1).bind fun v7 => v7.bind fun b8 => (gR M b8 3 0).bind fun v9 => v9.bind fun b10 => (aD M b10 p4).bind fun v11 => if 0 ≤ (Op.cmpValue (FP.dcmp v11 p1) CmpOp.g) then (j_X2_lesserPlaces_42 g (fun p0 p1 p3 p4 => j_X2_lesserPlaces_5 g M n p0 p1 p3 p4) M p0 p1 p3 p4) else (j_X2_lesserPlaces_42 g (fun p0 p1 p3 p4 => j_X2_lesserPlaces_5 g M n p0 p1 p3 p4) M p0 p1 (p3 + (1 : Int32)) p4)) else (j_X2_lesserPlaces_42 g (fun p0 p1 p3 p4 => j_X2_lesserPlaces_5 g M n p0 p1 p3 p4) M p0 p1 p3 p4))) := rfl
def j_X2_lesserPlaces (g : Nat) (M : hm) (a0 : Nat) (a1 : UInt64) : Option (Int32) := j_X2_lesserPlaces_5 g g M a0 a1 (0 : Int32) (0 : Int32)
def j_X2_middleAt_134 (g : Nat) (M : hm) (s0 : UInt64) : Option (UInt64) := some s0
def j_X2_middleAt_91 (g : Nat) (M : hm) (p0 : Nat) (p1 : Int32) (p3 : UInt64) (s0 : UInt64) : Option (UInt64) := (gR M p0 2 1).bind fun v1 => v1.bind fun b2 => (gR M b2 3 0).bind fun v3 => v3.bind fun b4 => (aD M b4 (p1 + (1 : Int32))).bind fun v5 => (j_X2_comesBefore g v5 p3).bind fun v6 => if v6 = 0 then ((j_X2_comesBefore g s0 v5).bind fun v8 => if v8 = 0 then (j_X2_middleAt_134 g M v5) else (j_X2_middleAt_134 g M s0)) else (some p3)
def j_X2_middleAt_63 (g : Nat) (M : hm) (p0 : Nat) (p1 : Int32) (p2 : Int32) (s0 : UInt64) : Option (UInt64) := if p2 = 0 then ((gR M p0 2 1).bind fun v11 => v11.bind fun b12 => (gR M b12 3 0).bind fun v13 => v13.bind fun b14 => (aD M b14 p1).bind fun v15 => j_X2_middleAt_91 g M p0 p1 s0 v15) else ((gR M p0 2 1).bind fun v16 => v16.bind fun b17 => (gR M b17 3 0).bind fun v18 => v18.bind fun b19 => (aD M b19 (p1 - (1 : Int32))).bind fun v20 => j_X2_middleAt_91 g M p0 p1 s0 v20)
def j_X2_middleAt_10 (g : Nat) (M : hm) : Option (UInt64) := some FP.dconst0
def j_X2_middleAt (g : Nat) (M : hm) (a0 : Nat) (a1 : Int32) : Option (UInt64) := if a1 ≤ 0 then (j_X2_middleAt_10 g M) else (if a1 < (15 : Int32) then ((gR M a0 2 1).bind fun v23 => v23.bind fun b24 => (gR M b24 3 0).bind fun v25 => v25.bind fun b26 => (aD M b26 a1).bind fun v27 => (gR M a0 2 1).bind fun v28 => v28.bind fun b29 => (gR M b29 3 0).bind fun v30 => v30.bind fun b31 => (aD M b31 (a1 - (1 : Int32))).bind fun v32 => (j_X2_comesBefore g v27 v32).bind fun v33 => if v33 = 0 then ((gR M a0 2 1).bind fun v35 => v35.bind fun b36 => (gR M b36 3 0).bind fun v37 => v37.bind fun b38 => (aD M b38 (a1 - (1 : Int32))).bind fun v39 => j_X2_middleAt_63 g M a0 a1 v33 v39) else ((gR M a0 2 1).bind fun v40 => v40.bind fun b41 => (gR M b41 3 0).bind fun v42 => v42.bind fun b43 => (aD M b43 a1).bind fun v44 => j_X2_middleAt_63 g M a0 a1 v33 v44)) else (j_X2_middleAt_10 g M))
def j_X2_nearest_82 (g : Nat) (s0 : UInt64) : Option (UInt64) := some s0
def j_X2_nearest_66 (g : Nat) (p0 : UInt64) (p4 : Int64) : Option (UInt64) := if 0 ≤ (Op.cmpValue (FP.dcmp p0 FP.dconst0) CmpOp.g) then (j_X2_nearest_82 g (FP.l2d p4)) else (j_X2_nearest_82 g (FP.dneg (FP.l2d p4)))
def j_X2_nearest_60 (g : Nat) (p0 : UInt64) (p4 : Int64) : Option (UInt64) := j_X2_nearest_66 g p0 (p4 + (1 : Int64))
def j_X2_nearest_21 (g : Nat) (p0 : UInt64) (s0 : UInt64) : Option (UInt64) := (n64 (FP.dsub s0 (FP.l2d (FP.d2l s0)))).bind fun v2 => if 0 < (Op.cmpValue (FP.dcmp v2 (4602678819172646912 : UInt64)) CmpOp.l) then (j_X2_nearest_60 g p0 (FP.d2l s0)) else (if (Op.cmpValue (FP.dcmp v2 (4602678819172646912 : UInt64)) CmpOp.l) = 0 then (if (lg_cmp ((FP.d2l s0) &&& (1 : Int64)) (1 : Int64)) = 0 then (j_X2_nearest_60 g p0 (FP.d2l s0)) else (j_X2_nearest_66 g p0 (FP.d2l s0))) else (j_X2_nearest_66 g p0 (FP.d2l s0)))
def j_X2_nearest (g : Nat) (a0 : UInt64) : Option (UInt64) := (j_X2_isSurelyWhole g a0).bind fun v6 => if v6 = 0 then (if 0 ≤ (Op.cmpValue (FP.dcmp a0 FP.dconst0) CmpOp.g) then (j_X2_nearest_21 g a0 a0) else (j_X2_nearest_21 g a0 (FP.dneg a0))) else (some a0)
def j_X2_quotient_22 (g : Nat) (M : hm) (s0 : UInt64) : Option (UInt64) := some s0
def j_X2_quotient (g : Nat) (M : hm) (a0 : Nat) (a1 : UInt64) (a3 : UInt64) : Option (UInt64) := (gR M a0 2 1).bind fun v1 => v1.bind fun b2 => (gI M b2 3 2).bind fun v3 => if v3 = 0 then ((n64 (FP.ddiv a1 a3)).bind fun v5 => j_X2_quotient_22 g M v5) else ((n32 (FP.d2f a1)).bind fun v6 => (n32 (FP.d2f a3)).bind fun v7 => (n32 (FP.fdiv v6 v7)).bind fun v8 => (n64 (FP.f2d v8)).bind fun v9 => j_X2_quotient_22 g M v9)
def j_X2_product_22 (g : Nat) (M : hm) (s0 : UInt64) : Option (UInt64) := some s0
def j_X2_product (g : Nat) (M : hm) (a0 : Nat) (a1 : UInt64) (a3 : UInt64) : Option (UInt64) := (gR M a0 2 1).bind fun v1 => v1.bind fun b2 => (gI M b2 3 2).bind fun v3 => if v3 = 0 then ((n64 (FP.dmul a1 a3)).bind fun v5 => j_X2_product_22 g M v5) else ((n32 (FP.d2f a1)).bind fun v6 => (n32 (FP.d2f a3)).bind fun v7 => (n32 (FP.fmul v6 v7)).bind fun v8 => (n64 (FP.f2d v8)).bind fun v9 => j_X2_product_22 g M v9)
def j_X2_ofOne_102 (g : Nat) (M : hm) (s0 : UInt64) : Option (UInt64) := some s0
def j_X2_ofOne_61 (g : Nat) (M : hm) (s0 : UInt64) : Option (UInt64) := some s0
def j_X2_ofOne (g : Nat) (M : hm) (a0 : Nat) (a1 : Int32) (a2 : UInt64) : Option (UInt64) := if a1 = (1 : Int32) then ((j_X5_hasMinus g a2).bind fun v9 => if v9 = 0 then (j_X2_ofOne_61 g M a2) else (j_X2_ofOne_61 g M (FP.dneg a2))) else if a1 = (2 : Int32) then ((j_X2_floor g a2).bind fun v11 => some v11) else if a1 = (3 : Int32) then ((j_X2_floor g (FP.dneg a2)).bind fun v12 => some (FP.dneg v12)) else if a1 = (4 : Int32) then ((j_X2_nearest g a2).bind fun v13 => some v13) else if a1 = (5 : Int32) then (if (Op.cmpValue (FP.dcmp a2 FP.dconst0) CmpOp.l) ≤ 0 then (if 0 ≤ (Op.cmpValue (FP.dcmp a2 FP.dconst0) CmpOp.g) then (j_X2_ofOne_102 g M a2) else (j_X2_ofOne_102 g M (13830554455654793216 : UInt64))) else (j_X2_ofOne_102 g M FP.dconst1)) else if a1 = (6 : Int32) then ((isO M a0 2).bind fun _ => (j_X2_quotient g M a0 a2 (4611686018427387904 : UInt64)).bind fun v17 => some v17) else if a1 = (7 : Int32) then ((isO M a0 2).bind fun _ => (j_X2_product g M a0 a2 (4611686018427387904 : UInt64)).bind fun v19 => some v19) else if a1 = (8 : Int32) then (some (FP.dneg a2)) else (some a2)
def j_X2_sum_22 (g : Nat) (M : hm) (s0 : UInt64) : Option (UInt64) := some s0
def j_X2_sum (g : Nat) (M : hm) (a0 : Nat) (a1 : UInt64) (a3 : UInt64) : Option (UInt64) := (gR M a0 2 1).bind fun v1 => v1.bind fun b2 => (gI M b2 3 2).bind fun v3 => if v3 = 0 then ((n64 (FP.dadd a1 a3)).bind fun v5 => j_X2_sum_22 g M v5) else ((n32 (FP.d2f a1)).bind fun v6 => (n32 (FP.d2f a3)).bind fun v7 => (n32 (FP.fadd v6 v7)).bind fun v8 => (n64 (FP.f2d v8)).bind fun v9 => j_X2_sum_22 g M v9)
def j_X4_unit_174 (g : Nat) (M : hm) (s0 : Int32) : Option (Int32) := some s0
def j_X4_unit_154 (g : Nat) (M : hm) (p4 : Int32) (p5 : Int32) (p8 : Int32) : Option (Int32) := if p5 ≤ (p8 - p4) then (j_X4_unit_174 g M (p8 - p4)) else (j_X4_unit_174 g M p5)
def j_X4_unit_148 (g : Nat) (K68 : Nat → Int32 → Int32 → UInt64 → Int32 → Int32 → Option (Int32)) (M : hm) (p0 : Nat) (p4 : Int32) (p5 : Int32) (p6 : UInt64) (p8 : Int32) (p9 : Int32) : Option (Int32) := K68 p0 p4 p5 p6 p8 (p9 + (-1 : Int32))
def j_X4_unit_68 (g : Nat) (M : hm) : Nat → Nat → Int32 → Int32 → UInt64 → Int32 → Int32 → Option (Int32)
  | 0, _, _, _, _, _, _ => none
  | n + 1, p0, p4, p5, p6, p8, p9 => if p9 < 0 then (j_X4_unit_154 g M p4 p5 p8) else ((gR M p0 4 0).bind fun v3 => v3.bind fun b4 => (aD M b4 p9).bind fun v5 => if (Op.cmpValue (FP.dcmp p6 v5) CmpOp.l) < 0 then ((gR M p0 4 0).bind fun v7 => v7.bind fun b8 => (aD M b8 p9).bind fun v9 => (n64 (FP.dmul p6 v9)).bind fun v10 => if 0 ≤ (Op.cmpValue (FP.dcmp v10 (4611686018427387904 : UInt64)) CmpOp.g) then (j_X4_unit_148 g (fun p0 p4 p5 p6 p8 p9 => j_X4_unit_68 g M n p0 p4 p5 p6 p8 p9) M p0 p4 p5 p6 p8 p9) else ((gR M p0 4 0).bind fun v12 => v12.bind fun b13 => (aD M b13 p9).bind fun v14 => (n64 (FP.dmul p6 v14)).bind fun v15 => j_X4_unit_148 g (fun p0 p4 p5 p6 p8 p9 => j_X4_unit_68 g M n p0 p4 p5 p6 p8 p9) M p0 p4 p5 v15 (p8 - ((1 : Int32) <<< (p9 &&& 31))) p9)) else ((gR M p0 4 1).bind fun v16 => v16.bind fun b17 => (aD M b17 p9).bind fun v18 => (n64 (FP.dmul p6 v18)).bind fun v19 => j_X4_unit_148 g (fun p0 p4 p5 p6 p8 p9 => j_X4_unit_68 g M n p0 p4 p5 p6 p8 p9) M p0 p4 p5 v19 (p8 + ((1 : Int32) <<< (p9 &&& 31))) p9))
theorem j_X4_unit_68_s (g : Nat) (M : hm) (n : Nat) (p0 : Nat) (p4 : Int32) (p5 : Int32) (p6 : UInt64) (p8 : Int32) (p9 : Int32) : j_X4_unit_68 g M (n + 1) p0 p4 p5 p6 p8 p9 = (if p9 < 0 then (j_X4_unit_154 g M p4 p5 p8) else ((gR M p0 4 0).bind fun v3 => v3.bind fun b4 => (aD M b4 p9).bind fun v5 => if (Op.cmpValue (FP.dcmp p6 v5) CmpOp.l) < 0 then ((gR M p0 4 0).bind fun v7 => v7.bind fun b8 => (aD M b8 p9).bind fun v9 => (n64 (FP.dmul p6 v9)).bind fun v10 => if 0 ≤ (Op.cmpValue (FP.dcmp v10 (4611686018427387904 : UInt64)) CmpOp.g) then (j_X4_unit_148 g (fun p0 p4 p5 p6 p8 p9 => j_X4_unit_68 g M n p0 p4 p5 p6 p8 p9) M p0 p4 p5 p6 p8 p9) else ((gR M p0 4 0).bind fun v12 => v12.bind fun b13 => (aD M b13 p9).bind fun v14 => (n64 (FP.dmul p6 v14)).bind fun v15 => j_X4_unit_148 g (fun p0 p4 p5 p6 p8 p9 => j_X4_unit_68 g M n p0 p4 p5 p6 p8 p9) M p0 p4 p5 v15 (p8 - ((1 : Int32) <<< (p9 &&& 31))) p9)) else ((gR M p0 4 1).bind fun v16 => v16.bind fun b17 => (aD M b17 p9).bind fun v18 => (n64 (FP.dmul p6 v18)).bind fun v19 => j_X4_unit_148 g (fun p0 p4 p5 p6 p8 p9 => j_X4_unit_68 g M n p0 p4 p5 p6 p8 p9) M p0 p4 p5 v19 (p8 + ((1 : Int32) <<< (p9 &&& 31))) p9))) := rfl
def j_X4_unit_64 (g : Nat) (M : hm) (p0 : Nat) (p4 : Int32) (p5 : Int32) (p6 : UInt64) (p8 : Int32) : Option (Int32) := j_X4_unit_68 g g M p0 p4 p5 p6 p8 (9 : Int32)
def j_X4_unit_26 (g : Nat) (M : hm) (p0 : Nat) (p1 : UInt64) (p4 : Int32) (s0 : Int32) : Option (Int32) := (gR M p0 4 1).bind fun v20 => v20.bind fun b21 => (aD M b21 (9 : Int32)).bind fun v22 => if 0 ≤ (Op.cmpValue (FP.dcmp p1 v22) CmpOp.g) then (j_X4_unit_64 g M p0 p4 s0 p1 (0 : Int32)) else ((gR M p0 4 0).bind fun v24 => v24.bind fun b25 => (aD M b25 (9 : Int32)).bind fun v26 => (n64 (FP.dmul p1 v26)).bind fun v27 => j_X4_unit_64 g M p0 p4 s0 v27 (-512 : Int32))
def j_X4_unit_11 (g : Nat) (M : hm) (p0 : Nat) (p1 : UInt64) (p3 : Int32) (s0 : Int32) : Option (Int32) := if p3 = 0 then (j_X4_unit_26 g M p0 p1 s0 (-1074 : Int32)) else (j_X4_unit_26 g M p0 p1 s0 (-149 : Int32))
def j_X4_unit (g : Nat) (M : hm) (a0 : Nat) (a1 : UInt64) (a3 : Int32) : Option (Int32) := if a3 = 0 then (j_X4_unit_11 g M a0 a1 a3 (52 : Int32)) else (j_X4_unit_11 g M a0 a1 a3 (23 : Int32))
def j_X4_times_78 (g : Nat) (M : hm) (p6 : UInt64) : Option (UInt64) := some p6
def j_X4_times_72 (g : Nat) (K36 : Option Nat → Int32 → UInt64 → Int32 → Option (UInt64)) (M : hm) (p4 : Option Nat) (p5 : Int32) (p6 : UInt64) (p8 : Int32) : Option (UInt64) := K36 p4 p5 p6 (p8 + (-1 : Int32))
def j_X4_times_41 (g : Nat) (K36 : Option Nat → Int32 → UInt64 → Int32 → Option (UInt64)) (M : hm) : Nat → Option Nat → Int32 → UInt64 → Int32 → Option (UInt64)
  | 0, _, _, _, _ => none
  | n + 1, p4, p5, p6, p8 => if p5 < ((1 : Int32) <<< (p8 &&& 31)) then (j_X4_times_72 g K36 M p4 p5 p6 p8) else (p4.bind fun b2 => (aD M b2 p8).bind fun v3 => (n64 (FP.dmul p6 v3)).bind fun v4 => j_X4_times_41 g K36 M n (some b2) (p5 - ((1 : Int32) <<< (p8 &&& 31))) v4 p8)
theorem j_X4_times_41_s (g : Nat) (K36 : Option Nat → Int32 → UInt64 → Int32 → Option (UInt64)) (M : hm) (n : Nat) (p4 : Option Nat) (p5 : Int32) (p6 : UInt64) (p8 : Int32) : j_X4_times_41 g K36 M (n + 1) p4 p5 p6 p8 = (if p5 < ((1 : Int32) <<< (p8 &&& 31)) then (j_X4_times_72 g K36 M p4 p5 p6 p8) else (p4.bind fun b2 => (aD M b2 p8).bind fun v3 => (n64 (FP.dmul p6 v3)).bind fun v4 => j_X4_times_41 g K36 M n (some b2) (p5 - ((1 : Int32) <<< (p8 &&& 31))) v4 p8)) := rfl
def j_X4_times_36 (g : Nat) (M : hm) : Nat → Option Nat → Int32 → UInt64 → Int32 → Option (UInt64)
  | 0, _, _, _, _ => none
  | n + 1, p4, p5, p6, p8 => if p8 < 0 then (j_X4_times_78 g M p6) else (j_X4_times_41 g (fun p4 p5 p6 p8 => j_X4_times_36 g M n p4 p5 p6 p8) g M p4 p5 p6 p8)
theorem j_X4_times_36_s (g : Nat) (M : hm) (n : Nat) (p4 : Option Nat) (p5 : Int32) (p6 : UInt64) (p8 : Int32) : j_X4_times_36 g M (n + 1) p4 p5 p6 p8 = (if p8 < 0 then (j_X4_times_78 g M p6) else (j_X4_times_41 g (fun p4 p5 p6 p8 => j_X4_times_36 g M n p4 p5 p6 p8) g M p4 p5 p6 p8)) := rfl
def j_X4_times_27 (g : Nat) (M : hm) (p1 : UInt64) (p4 : Option Nat) (s0 : Int32) : Option (UInt64) := j_X4_times_36 g g M p4 s0 p1 (9 : Int32)
def j_X4_times_15 (g : Nat) (M : hm) (p1 : UInt64) (p3 : Int32) (s0 : Option Nat) : Option (UInt64) := if 0 ≤ p3 then (j_X4_times_27 g M p1 s0 p3) else (j_X4_times_27 g M p1 s0 (-p3))
def j_X4_times (g : Nat) (M : hm) (a0 : Nat) (a1 : UInt64) (a3 : Int32) : Option (UInt64) := if 0 ≤ a3 then ((gR M a0 4 0).bind fun v8 => j_X4_times_15 g M a1 a3 v8) else ((gR M a0 4 1).bind fun v9 => j_X4_times_15 g M a1 a3 v9)
def j_X2_remainder_188 (g : Nat) (M : hm) (s0 : UInt64) : Option (UInt64) := some s0
def j_X2_remainder_159 (g : Nat) (M : hm) (p0 : Nat) (p1 : UInt64) (p10 : Int32) (p13 : Int64) : Option (UInt64) := (gR M p0 2 0).bind fun v1 => v1.bind fun b2 => (isO M b2 4).bind fun _ => (j_X4_times g M b2 (FP.l2d p13) p10).bind fun v4 => (j_X5_hasMinus g p1).bind fun v5 => if v5 = 0 then (j_X2_remainder_188 g M v4) else (j_X2_remainder_188 g M (FP.dneg v4))
def j_X2_remainder_147 (g : Nat) (K119 : Nat → UInt64 → Int32 → Int64 → Int64 → Int32 → Option (UInt64)) (M : hm) (p0 : Nat) (p1 : UInt64) (p10 : Int32) (p11 : Int64) (p15 : Int32) (s0 : Int32) (s1 : Int64) : Option (UInt64) := if p11 = 0 then none else K119 p0 p1 p10 p11 ((s1 <<< (s0.toInt64 &&& 63)) - (s1 <<< (s0.toInt64 &&& 63)) / p11 * p11) (p15 + (-10 : Int32))
def j_X2_remainder_119 (g : Nat) (M : hm) : Nat → Nat → UInt64 → Int32 → Int64 → Int64 → Int32 → Option (UInt64)
  | 0, _, _, _, _, _, _ => none
  | n + 1, p0, p1, p10, p11, p13, p15 => if p15 ≤ 0 then (j_X2_remainder_159 g M p0 p1 p10 p13) else (if (lg_cmp p13 (0 : Int64)) = 0 then (j_X2_remainder_159 g M p0 p1 p10 p13) else (if (10 : Int32) ≤ p15 then (j_X2_remainder_147 g (fun p0 p1 p10 p11 p13 p15 => j_X2_remainder_119 g M n p0 p1 p10 p11 p13 p15) M p0 p1 p10 p11 p15 (10 : Int32) p13) else (j_X2_remainder_147 g (fun p0 p1 p10 p11 p13 p15 => j_X2_remainder_119 g M n p0 p1 p10 p11 p13 p15) M p0 p1 p10 p11 p15 p15 p13)))
theorem j_X2_remainder_119_s (g : Nat) (M : hm) (n : Nat) (p0 : Nat) (p1 : UInt64) (p10 : Int32) (p11 : Int64) (p13 : Int64) (p15 : Int32) : j_X2_remainder_119 g M (n + 1) p0 p1 p10 p11 p13 p15 = (if p15 ≤ 0 then (j_X2_remainder_159 g M p0 p1 p10 p13) else (if (lg_cmp p13 (0 : Int64)) = 0 then (j_X2_remainder_159 g M p0 p1 p10 p13) else (if (10 : Int32) ≤ p15 then (j_X2_remainder_147 g (fun p0 p1 p10 p11 p13 p15 => j_X2_remainder_119 g M n p0 p1 p10 p11 p13 p15) M p0 p1 p10 p11 p15 (10 : Int32) p13) else (j_X2_remainder_147 g (fun p0 p1 p10 p11 p13 p15 => j_X2_remainder_119 g M n p0 p1 p10 p11 p13 p15) M p0 p1 p10 p11 p15 p15 p13)))) := rfl
def j_X2_remainder_44 (g : Nat) (M : hm) (p1 : UInt64) : Option (UInt64) := some p1
def j_X2_remainder_27 (g : Nat) (M : hm) (p0 : Nat) (p1 : UInt64) (p5 : UInt64) (s0 : UInt64) : Option (UInt64) := if (Op.cmpValue (FP.dcmp p5 s0) CmpOp.g) < 0 then (j_X2_remainder_44 g M p1) else (if (Op.cmpValue (FP.dcmp p5 FP.dconst0) CmpOp.l) = 0 then (j_X2_remainder_44 g M p1) else ((gR M p0 2 0).bind fun v13 => v13.bind fun b14 => (isO M b14 4).bind fun _ => (j_X4_unit g M b14 p5 (0 : Int32)).bind fun v16 => (gR M p0 2 0).bind fun v17 => v17.bind fun b18 => (isO M b18 4).bind fun _ => (j_X4_unit g M b18 s0 (0 : Int32)).bind fun v20 => (gR M p0 2 0).bind fun v21 => v21.bind fun b22 => (isO M b22 4).bind fun _ => (j_X4_times g M b22 s0 (-v20)).bind fun v24 => if 0 < (lg_cmp (FP.d2l v24) (0 : Int64)) then ((gR M p0 2 0).bind fun v26 => v26.bind fun b27 => (isO M b27 4).bind fun _ => (j_X4_times g M b27 p5 (-v16)).bind fun v29 => if (FP.d2l v24) = 0 then none else j_X2_remainder_119 g g M p0 p1 v20 (FP.d2l v24) ((FP.d2l v29) - (FP.d2l v29) / (FP.d2l v24) * (FP.d2l v24)) (v16 - v20)) else (some p1)))
def j_X2_remainder_13 (g : Nat) (M : hm) (p0 : Nat) (p1 : UInt64) (p3 : UInt64) (s0 : UInt64) : Option (UInt64) := if 0 ≤ (Op.cmpValue (FP.dcmp p3 FP.dconst0) CmpOp.g) then (j_X2_remainder_27 g M p0 p1 s0 p3) else (j_X2_remainder_27 g M p0 p1 s0 (FP.dneg p3))
def j_X2_remainder (g : Nat) (M : hm) (a0 : Nat) (a1 : UInt64) (a3 : UInt64) : Option (UInt64) := (j_X5_hasMinus g a1).bind fun v32 => if v32 = 0 then (j_X2_remainder_13 g M a0 a1 a3 a1) else (j_X2_remainder_13 g M a0 a1 a3 (FP.dneg a1))
def j_X2_ofTwo_139 (g : Nat) (M : hm) (s0 : UInt64) : Option (UInt64) := some s0
def j_X2_ofTwo_120 (g : Nat) (M : hm) (s0 : UInt64) : Option (UInt64) := some s0
def j_X2_ofTwo_104 (g : Nat) (M : hm) (s0 : UInt64) : Option (UInt64) := some s0
def j_X2_ofTwo (g : Nat) (M : hm) (a0 : Nat) (a1 : Int32) (a2 : UInt64) (a4 : UInt64) : Option (UInt64) := if a1 = (9 : Int32) then ((isO M a0 2).bind fun _ => (j_X2_sum g M a0 a2 a4).bind fun v10 => some v10) else if a1 = (10 : Int32) then ((isO M a0 2).bind fun _ => (j_X2_sum g M a0 a2 (FP.dneg a4)).bind fun v12 => some v12) else if a1 = (11 : Int32) then ((isO M a0 2).bind fun _ => (j_X2_product g M a0 a2 a4).bind fun v14 => some v14) else if a1 = (12 : Int32) then ((isO M a0 2).bind fun _ => (j_X2_quotient g M a0 a2 a4).bind fun v16 => some v16) else if a1 = (13 : Int32) then ((isO M a0 2).bind fun _ => (j_X2_remainder g M a0 a2 a4).bind fun v18 => some v18) else if a1 = (14 : Int32) then ((j_X2_comesBefore g a4 a2).bind fun v19 => if v19 = 0 then (j_X2_ofTwo_104 g M a2) else (j_X2_ofTwo_104 g M a4)) else if a1 = (15 : Int32) then ((j_X2_comesBefore g a4 a2).bind fun v21 => if v21 = 0 then (j_X2_ofTwo_120 g M a4) else (j_X2_ofTwo_120 g M a2)) else if a1 = (16 : Int32) then ((j_X5_hasMinus g a2).bind fun v23 => (j_X5_hasMinus g a4).bind fun v24 => if v23 = v24 then (j_X2_ofTwo_139 g M a2) else (j_X2_ofTwo_139 g M (FP.dneg a2))) else ((isO M a0 2).bind fun _ => (j_X2_quotient g M a0 a2 a4).bind fun v27 => (j_X2_nearest g v27).bind fun v28 => (isO M a0 2).bind fun _ => (j_X2_product g M a0 v28 a4).bind fun v30 => some v30)
def j_X2_numberAt_271 (g : Nat) (M : hm) (s0 : UInt64) (s1 : UInt64) : Option (UInt64) := (n64 (FP.dadd s1 s0)).bind fun v1 => some v1
def j_X2_numberAt_246 (g : Nat) (M : hm) (p0 : Nat) (p1 : Option Nat) (p2 : Int32) (s0 : UInt64) : Option (UInt64) := p1.bind fun b2 => (gI M b2 3 6).bind fun v3 => (gR M p0 2 1).bind fun v4 => (gR M p0 2 2).bind fun v5 => (j_X5_isSo g M v3 v4 p2 v5 p2).bind fun v6 => if v6 = 0 then (j_X2_numberAt_271 g M FP.dconst0 s0) else (j_X2_numberAt_271 g M FP.dconst1 s0)
def j_X2_numberAt_229 (g : Nat) (M : hm) (s0 : UInt64) : Option (UInt64) := some s0
def j_X2_numberAt_180 (g : Nat) (M : hm) (s0 : UInt64) : Option (UInt64) := some s0
def j_X2_numberAt_148 (g : Nat) (M : hm) (s0 : UInt64) : Option (UInt64) := some s0
def j_X2_numberAt (g : Nat) (M : hm) (a0 : Nat) (a1 : Option Nat) (a2 : Int32) : Option (UInt64) := a1.bind fun b8 => (gI M b8 3 3).bind fun v9 => if (8 : Int32) < v9 then ((gI M b8 3 3).bind fun v11 => (j_X2_isOfTwo g v11).bind fun v12 => if v12 = 0 then ((gI M b8 3 3).bind fun v14 => if v14 = (18 : Int32) then ((gR M a0 2 1).bind fun v23 => v23.bind fun b24 => (isO M b24 3).bind fun _ => (j_X3_blankAt g M b24 a2).bind fun v26 => if v26 = 0 then ((gR M a0 2 1).bind fun v28 => v28.bind fun b29 => (gR M b29 3 0).bind fun v30 => v30.bind fun b31 => (aD M b31 a2).bind fun v32 => j_X2_numberAt_148 g M v32) else ((gR M a0 2 2).bind fun v33 => v33.bind fun b34 => (gR M b34 3 0).bind fun v35 => v35.bind fun b36 => (aD M b36 a2).bind fun v37 => j_X2_numberAt_148 g M v37)) else if v14 = (19 : Int32) then ((isO M a0 2).bind fun _ => (j_X2_middleAt g M a0 a2).bind fun v39 => some v39) else if v14 = (20 : Int32) then ((isO M a0 2).bind fun _ => (j_X2_farthestAt g M a0 (some b8) a2).bind fun v41 => some v41) else if v14 = (21 : Int32) then ((isO M a0 2).bind fun _ => (j_X2_farthestAt g M a0 (some b8) a2).bind fun v43 => some v43) else if v14 = (22 : Int32) then ((gI M a0 2 4).bind fun v44 => if v44 ≤ a2 then (j_X2_numberAt_180 g M FP.dconst0) else ((gR M a0 2 3).bind fun v46 => v46.bind fun b47 => (aD M b47 a2).bind fun v48 => j_X2_numberAt_180 g M v48)) else if v14 = (23 : Int32) then ((gR M a0 2 1).bind fun v49 => v49.bind fun b50 => (gR M b50 3 0).bind fun v51 => v51.bind fun b52 => (aD M b52 a2).bind fun v53 => (isO M a0 2).bind fun _ => (j_X2_lesserPlaces g M a0 v53).bind fun v55 => some (FP.i2d v55)) else if v14 = (24 : Int32) then (if a2 = 0 then (j_X2_numberAt_229 g M FP.dconst0) else ((gR M a0 2 1).bind fun v57 => v57.bind fun b58 => (gR M b58 3 0).bind fun v59 => v59.bind fun b60 => (aD M b60 a2).bind fun v61 => (gR M a0 2 1).bind fun v62 => v62.bind fun b63 => (gR M b63 3 0).bind fun v64 => v64.bind fun b65 => (aD M b65 (a2 - (1 : Int32))).bind fun v66 => (isO M a0 2).bind fun _ => (j_X2_sum g M a0 v61 (FP.dneg v66)).bind fun v68 => j_X2_numberAt_229 g M v68)) else if v14 = (25 : Int32) then (if a2 = 0 then (j_X2_numberAt_246 g M a0 (some b8) a2 FP.dconst0) else ((gR M b8 3 0).bind fun v70 => v70.bind fun b71 => (aD M b71 (a2 - (1 : Int32))).bind fun v72 => j_X2_numberAt_246 g M a0 (some b8) a2 v72)) else ((gR M a0 2 1).bind fun v73 => v73.bind fun b74 => (gR M b74 3 0).bind fun v75 => v75.bind fun b76 => (aD M b76 a2).bind fun v77 => some v77)) else ((gI M b8 3 3).bind fun v78 => (gR M a0 2 1).bind fun v79 => v79.bind fun b80 => (gR M b80 3 0).bind fun v81 => v81.bind fun b82 => (aD M b82 a2).bind fun v83 => (gR M a0 2 2).bind fun v84 => v84.bind fun b85 => (gR M b85 3 0).bind fun v86 => v86.bind fun b87 => (aD M b87 a2).bind fun v88 => (isO M a0 2).bind fun _ => (j_X2_ofTwo g M a0 v78 v83 v88).bind fun v90 => some v90)) else ((gI M b8 3 3).bind fun v91 => (gR M a0 2 1).bind fun v92 => v92.bind fun b93 => (gR M b93 3 0).bind fun v94 => v94.bind fun b95 => (aD M b95 a2).bind fun v96 => (isO M a0 2).bind fun _ => (j_X2_ofOne g M a0 v91 v96).bind fun v98 => some v98)
def j_X3_clear (g : Nat) (M : hm) (a0 : Nat) (a1 : Int32) : Option (hm) := (gR M a0 3 0).bind fun v1 => v1.bind fun b2 => (sD M b2 a1 FP.dconst0).bind fun M3 => (gI M3 a0 3 1).bind fun v4 => (pV M3 a0 3 1 (.int (v4 ||| ((1 : Int32) <<< (a1 &&& 31))))).bind fun M5 => some M5
def j_X3_put_19 (g : Nat) (M : hm) (p0 : Nat) (p1 : Int32) (s0 : UInt64) (s1 : Int32) (s2 : Option Nat) : Option (hm) := s2.bind fun b1 => (sD M b1 s1 s0).bind fun M2 => (gI M2 p0 3 1).bind fun v3 => (pV M2 p0 3 1 (.int (v3 &&& (((1 : Int32) <<< (p1 &&& 31)) ^^^ (-1 : Int32))))).bind fun M4 => some M4
def j_X3_put (g : Nat) (M : hm) (a0 : Nat) (a1 : Int32) (a2 : UInt64) : Option (hm) := (gR M a0 3 0).bind fun v5 => (gI M a0 3 2).bind fun v6 => if v6 = 0 then (j_X3_put_19 g M a0 a1 a2 a1 v5) else ((n32 (FP.d2f a2)).bind fun v8 => (n64 (FP.f2d v8)).bind fun v9 => j_X3_put_19 g M a0 a1 v9 a1 v5)
def j_X3_takeOne_27 (g : Nat) (M : hm) : Option (hm) := some M
def j_X3_takeOne (g : Nat) (M : hm) (a0 : Nat) (a1 : Int32) (a2 : Option Nat) (a3 : Int32) : Option (hm) := a2.bind fun b1 => (isO M b1 3).bind fun _ => (j_X3_blankAt g M b1 a3).bind fun v3 => if v3 = 0 then ((gR M b1 3 0).bind fun v5 => v5.bind fun b6 => (aD M b6 a3).bind fun v7 => (isO M a0 3).bind fun _ => (j_X3_put g M a0 a1 v7).bind fun M9 => j_X3_takeOne_27 g M9) else ((isO M a0 3).bind fun _ => (j_X3_clear g M a0 a1).bind fun M11 => j_X3_takeOne_27 g M11)
def j_X3_takeAll_21 (g : Nat) (M : hm) : Option (hm) := some M
def j_X3_takeAll_2 (g : Nat) : Nat → hm → Nat → Option Nat → Int32 → Option (hm)
  | 0, _, _, _, _ => none
  | n + 1, M, p0, p1, p2 => if (16 : Int32) ≤ p2 then (j_X3_takeAll_21 g M) else ((isO M p0 3).bind fun _ => (j_X3_takeOne g M p0 p2 p1 p2).bind fun M3 => j_X3_takeAll_2 g n M3 p0 p1 (p2 + (1 : Int32)))
theorem j_X3_takeAll_2_s (g : Nat) (n : Nat) (M : hm) (p0 : Nat) (p1 : Option Nat) (p2 : Int32) : j_X3_takeAll_2 g (n + 1) M p0 p1 p2 = (if (16 : Int32) ≤ p2 then (j_X3_takeAll_21 g M) else ((isO M p0 3).bind fun _ => (j_X3_takeOne g M p0 p2 p1 p2).bind fun M3 => j_X3_takeAll_2 g n M3 p0 p1 (p2 + (1 : Int32)))) := rfl
def j_X3_takeAll (g : Nat) (M : hm) (a0 : Nat) (a1 : Option Nat) : Option (hm) := j_X3_takeAll_2 g g M a0 a1 (0 : Int32)
def j_X2_takeSecond_47 (g : Nat) (M : hm) : Option (hm) := some M
def j_X2_takeSecond_19 (g : Nat) : Nat → hm → Nat → Int32 → Option Nat → Int32 → Option (hm)
  | 0, _, _, _, _, _ => none
  | n + 1, M, p0, p1, p2, p3 => if (16 : Int32) ≤ p3 then (j_X2_takeSecond_47 g M) else ((gR M p0 2 2).bind fun v2 => p2.bind fun b3 => (aR M b3 3 (12 : Int32)).bind fun v4 => v2.bind fun b5 => (isO M b5 3).bind fun _ => (j_X3_takeOne g M b5 p3 v4 (p1 - (16 : Int32))).bind fun M7 => j_X2_takeSecond_19 g n M7 p0 p1 (some b3) (p3 + (1 : Int32)))
theorem j_X2_takeSecond_19_s (g : Nat) (n : Nat) (M : hm) (p0 : Nat) (p1 : Int32) (p2 : Option Nat) (p3 : Int32) : j_X2_takeSecond_19 g (n + 1) M p0 p1 p2 p3 = (if (16 : Int32) ≤ p3 then (j_X2_takeSecond_47 g M) else ((gR M p0 2 2).bind fun v2 => p2.bind fun b3 => (aR M b3 3 (12 : Int32)).bind fun v4 => v2.bind fun b5 => (isO M b5 3).bind fun _ => (j_X3_takeOne g M b5 p3 v4 (p1 - (16 : Int32))).bind fun M7 => j_X2_takeSecond_19 g n M7 p0 p1 (some b3) (p3 + (1 : Int32)))) := rfl
def j_X2_takeSecond (g : Nat) (M : hm) (a0 : Nat) (a1 : Int32) (a2 : Option Nat) : Option (hm) := if (16 : Int32) ≤ a1 then (j_X2_takeSecond_19 g g M a0 a1 a2 (0 : Int32)) else ((gR M a0 2 2).bind fun v9 => a2.bind fun b10 => (aR M b10 3 a1).bind fun v11 => v9.bind fun b12 => (isO M b12 3).bind fun _ => (j_X3_takeAll g M b12 v11).bind fun M14 => some M14)
def j_X2_sort_43 (g : Nat) (M : hm) : Option (hm) := some M
def j_X2_sort_37 (g : Nat) (K7 : hm → Nat → Int32 → Option (hm)) (M : hm) (p0 : Nat) (p1 : Int32) : Option (hm) := K7 M p0 (p1 + (1 : Int32))
def j_X2_sort_7 (g : Nat) : Nat → hm → Nat → Int32 → Option (hm)
  | 0, _, _, _ => none
  | n + 1, M, p0, p1 => if (16 : Int32) ≤ p1 then (j_X2_sort_43 g M) else ((gR M p0 2 1).bind fun v2 => v2.bind fun b3 => (isO M b3 3).bind fun _ => (j_X3_blankAt g M b3 p1).bind fun v5 => if v5 = 0 then ((gR M p0 2 1).bind fun v7 => v7.bind fun b8 => (gR M b8 3 0).bind fun v9 => v9.bind fun b10 => (aD M b10 p1).bind fun v11 => (isO M p0 2).bind fun _ => (j_X2_insert g M p0 v11).bind fun M13 => j_X2_sort_37 g (fun M p0 p1 => j_X2_sort_7 g n M p0 p1) M13 p0 p1) else (j_X2_sort_37 g (fun M p0 p1 => j_X2_sort_7 g n M p0 p1) M p0 p1))
theorem j_X2_sort_7_s (g : Nat) (n : Nat) (M : hm) (p0 : Nat) (p1 : Int32) : j_X2_sort_7 g (n + 1) M p0 p1 = (if (16 : Int32) ≤ p1 then (j_X2_sort_43 g M) else ((gR M p0 2 1).bind fun v2 => v2.bind fun b3 => (isO M b3 3).bind fun _ => (j_X3_blankAt g M b3 p1).bind fun v5 => if v5 = 0 then ((gR M p0 2 1).bind fun v7 => v7.bind fun b8 => (gR M b8 3 0).bind fun v9 => v9.bind fun b10 => (aD M b10 p1).bind fun v11 => (isO M p0 2).bind fun _ => (j_X2_insert g M p0 v11).bind fun M13 => j_X2_sort_37 g (fun M p0 p1 => j_X2_sort_7 g n M p0 p1) M13 p0 p1) else (j_X2_sort_37 g (fun M p0 p1 => j_X2_sort_7 g n M p0 p1) M p0 p1))) := rfl
def j_X2_sort (g : Nat) (M : hm) (a0 : Nat) : Option (hm) := (pV M a0 2 4 (.int (0 : Int32))).bind fun M14 => j_X2_sort_7 g g M14 a0 (0 : Int32)
def j_X2_reckon_99 (g : Nat) (M : hm) : Option (hm) := some M
def j_X2_reckon_93 (g : Nat) (K59 : hm → Nat → Option Nat → Int32 → Option (hm)) (M : hm) (p0 : Nat) (p1 : Option Nat) (p3 : Int32) : Option (hm) := K59 M p0 p1 (p3 + (1 : Int32))
def j_X2_reckon_59 (g : Nat) : Nat → hm → Nat → Option Nat → Int32 → Option (hm)
  | 0, _, _, _, _ => none
  | n + 1, M, p0, p1, p3 => if (16 : Int32) ≤ p3 then (j_X2_reckon_99 g M) else ((isO M p0 2).bind fun _ => (j_X2_leavesBlank g M p0 p1 p3).bind fun v3 => if v3 = 0 then ((isO M p0 2).bind fun _ => (j_X2_numberAt g M p0 p1 p3).bind fun v6 => p1.bind fun b7 => (isO M b7 3).bind fun _ => (j_X3_put g M b7 p3 v6).bind fun M9 => j_X2_reckon_93 g (fun M p0 p1 p3 => j_X2_reckon_59 g n M p0 p1 p3) M9 p0 (some b7) p3) else (p1.bind fun b10 => (isO M b10 3).bind fun _ => (j_X3_clear g M b10 p3).bind fun M12 => j_X2_reckon_93 g (fun M p0 p1 p3 => j_X2_reckon_59 g n M p0 p1 p3) M12 p0 (some b10) p3))
theorem j_X2_reckon_59_s (g : Nat) (n : Nat) (M : hm) (p0 : Nat) (p1 : Option Nat) (p3 : Int32) : j_X2_reckon_59 g (n + 1) M p0 p1 p3 = (if (16 : Int32) ≤ p3 then (j_X2_reckon_99 g M) else ((isO M p0 2).bind fun _ => (j_X2_leavesBlank g M p0 p1 p3).bind fun v3 => if v3 = 0 then ((isO M p0 2).bind fun _ => (j_X2_numberAt g M p0 p1 p3).bind fun v6 => p1.bind fun b7 => (isO M b7 3).bind fun _ => (j_X3_put g M b7 p3 v6).bind fun M9 => j_X2_reckon_93 g (fun M p0 p1 p3 => j_X2_reckon_59 g n M p0 p1 p3) M9 p0 (some b7) p3) else (p1.bind fun b10 => (isO M b10 3).bind fun _ => (j_X3_clear g M b10 p3).bind fun M12 => j_X2_reckon_93 g (fun M p0 p1 p3 => j_X2_reckon_59 g n M p0 p1 p3) M12 p0 (some b10) p3))) := rfl
def j_X2_reckon_57 (g : Nat) (M : hm) (p0 : Nat) (p1 : Option Nat) : Option (hm) := j_X2_reckon_59 g g M p0 p1 (0 : Int32)
def j_X2_reckon (g : Nat) (M : hm) (a0 : Nat) (a1 : Option Nat) (a2 : Option Nat) : Option (hm) := (gR M a0 2 1).bind fun v13 => a1.bind fun b14 => (gI M b14 3 2).bind fun v15 => v13.bind fun b16 => (zb v15).bind fun z17 => (pV M b16 3 2 (.int v15)).bind fun M18 => (gR M18 a0 2 2).bind fun v19 => (gI M18 b14 3 2).bind fun v20 => v19.bind fun b21 => (zb v20).bind fun z22 => (pV M18 b21 3 2 (.int v20)).bind fun M23 => (gR M23 a0 2 1).bind fun v24 => (gI M23 b14 3 4).bind fun v25 => a2.bind fun b26 => (aR M23 b26 3 v25).bind fun v27 => v24.bind fun b28 => (isO M23 b28 3).bind fun _ => (j_X3_takeAll g M23 b28 v27).bind fun M30 => (gI M30 b14 3 5).bind fun v31 => (isO M30 a0 2).bind fun _ => (j_X2_takeSecond g M30 a0 v31 (some b26)).bind fun M33 => (gI M33 b14 3 3).bind fun v34 => if v34 = (22 : Int32) then ((isO M33 a0 2).bind fun _ => (j_X2_sort g M33 a0).bind fun M37 => j_X2_reckon_57 g M37 a0 (some b14)) else (j_X2_reckon_57 g M33 a0 (some b14))
def j_X3_bringTo_38 (g : Nat) (M : hm) : Option (hm) := some M
def j_X3_bringTo_32 (g : Nat) (K7 : hm → Nat → Int32 → Option (hm)) (M : hm) (p0 : Nat) (p2 : Int32) : Option (hm) := K7 M p0 (p2 + (1 : Int32))
def j_X3_bringTo_7 (g : Nat) : Nat → hm → Nat → Int32 → Option (hm)
  | 0, _, _, _ => none
  | n + 1, M, p0, p2 => if (16 : Int32) ≤ p2 then (j_X3_bringTo_38 g M) else ((isO M p0 3).bind fun _ => (j_X3_blankAt g M p0 p2).bind fun v3 => if v3 = 0 then ((gR M p0 3 0).bind fun v5 => v5.bind fun b6 => (aD M b6 p2).bind fun v7 => (isO M p0 3).bind fun _ => (j_X3_put g M p0 p2 v7).bind fun M9 => j_X3_bringTo_32 g (fun M p0 p2 => j_X3_bringTo_7 g n M p0 p2) M9 p0 p2) else (j_X3_bringTo_32 g (fun M p0 p2 => j_X3_bringTo_7 g n M p0 p2) M p0 p2))
theorem j_X3_bringTo_7_s (g : Nat) (n : Nat) (M : hm) (p0 : Nat) (p2 : Int32) : j_X3_bringTo_7 g (n + 1) M p0 p2 = (if (16 : Int32) ≤ p2 then (j_X3_bringTo_38 g M) else ((isO M p0 3).bind fun _ => (j_X3_blankAt g M p0 p2).bind fun v3 => if v3 = 0 then ((gR M p0 3 0).bind fun v5 => v5.bind fun b6 => (aD M b6 p2).bind fun v7 => (isO M p0 3).bind fun _ => (j_X3_put g M p0 p2 v7).bind fun M9 => j_X3_bringTo_32 g (fun M p0 p2 => j_X3_bringTo_7 g n M p0 p2) M9 p0 p2) else (j_X3_bringTo_32 g (fun M p0 p2 => j_X3_bringTo_7 g n M p0 p2) M p0 p2))) := rfl
def j_X3_bringTo (g : Nat) (M : hm) (a0 : Nat) (a1 : Int32) : Option (hm) := (zb a1).bind fun z10 => (pV M a0 3 2 (.int a1)).bind fun M11 => j_X3_bringTo_7 g g M11 a0 (0 : Int32)
def j_X3_copy (g : Nat) (M : hm) (a0 : Nat) : Option (hm × (Option Nat)) := (nO M 3 [.null, .int 0, .int 0, .int 0, .int 0, .int 0, .int 0]).bind fun q1 => (j_X3_init g q1.1 q1.2).bind fun M2 => (gR M2 a0 3 0).bind fun v3 => (gR M2 q1.2 3 0).bind fun v4 => v3.bind fun b5 => v4.bind fun b6 => (hcp M2 b5 (0 : Int32) b6 (0 : Int32) (16 : Int32)).bind fun M7 => (gI M7 a0 3 1).bind fun v8 => (pV M7 q1.2 3 1 (.int v8)).bind fun M9 => (gI M9 a0 3 2).bind fun v10 => (zb v10).bind fun z11 => (pV M9 q1.2 3 2 (.int v10)).bind fun M12 => (gI M12 a0 3 3).bind fun v13 => (pV M12 q1.2 3 3 (.int v13)).bind fun M14 => (gI M14 a0 3 4).bind fun v15 => (pV M14 q1.2 3 4 (.int v15)).bind fun M16 => (gI M16 a0 3 5).bind fun v17 => (pV M16 q1.2 3 5 (.int v17)).bind fun M18 => (gI M18 a0 3 6).bind fun v19 => (pV M18 q1.2 3 6 (.int v19)).bind fun M20 => some (M20, (some q1.2))
def j_X3_hasFormula_13 (g : Nat) (M : hm) (s0 : Int32) : Option (Int32) := (zb s0).bind fun _ => some s0
def j_X3_hasFormula (g : Nat) (M : hm) (a0 : Nat) : Option (Int32) := (gI M a0 3 3).bind fun v2 => if v2 = (-1 : Int32) then (j_X3_hasFormula_13 g M (0 : Int32)) else (j_X3_hasFormula_13 g M (1 : Int32))
def j_X3_isTouched_43 (g : Nat) (M : hm) (s0 : Int32) : Option (Int32) := (zb s0).bind fun _ => some s0
def j_X3_isTouched_18 (g : Nat) (M : hm) (p0 : Nat) (p1 : Int32) (p2 : Int32) (s0 : Int32) : Option (Int32) := (gI M p0 3 4).bind fun v2 => if (p1 &&& ((((1 : Int32) <<< (p2 &&& 31)) ||| ((1 : Int32) <<< (v2 &&& 31))) ||| ((1 : Int32) <<< (s0 &&& 31)))) = 0 then (j_X3_isTouched_43 g M (0 : Int32)) else (j_X3_isTouched_43 g M (1 : Int32))
def j_X3_isTouched (g : Nat) (M : hm) (a0 : Nat) (a1 : Int32) (a2 : Int32) : Option (Int32) := (gI M a0 3 5).bind fun v4 => if v4 < (16 : Int32) then ((gI M a0 3 5).bind fun v6 => j_X3_isTouched_18 g M a0 a1 a2 v6) else (j_X3_isTouched_18 g M a0 a1 a2 (12 : Int32))
def j_X4_bitsOf_106 (g : Nat) (M : hm) (p4 : Int32) (s0 : Int64) (s1 : Int64) : Option (Int64) := some (s1 + (s0 <<< (p4.toInt64 &&& 63)))
def j_X4_bitsOf_71 (g : Nat) (M : hm) (p0 : Nat) (p3 : Int32) (p4 : Int32) (p5 : Int32) (p7 : UInt64) (s0 : Int64) : Option (Int64) := if (Op.cmpValue (FP.dcmp p7 FP.dconst0) CmpOp.l) = 0 then (some s0) else ((j_X5_isInfinite g p7).bind fun v2 => if v2 = 0 then ((isO M p0 4).bind fun _ => (j_X4_unit g M p0 p7 p3).bind fun v5 => (isO M p0 4).bind fun _ => (j_X4_times g M p0 p7 (-v5)).bind fun v7 => some ((s0 + (((v5 - p5).toInt64) <<< (p4.toInt64 &&& 63))) + (FP.d2l v7))) else (if p3 = 0 then (j_X4_bitsOf_106 g M p4 (2047 : Int64) s0) else (j_X4_bitsOf_106 g M p4 (255 : Int64) s0)))
def j_X4_bitsOf_66 (g : Nat) (M : hm) (p0 : Nat) (p3 : Int32) (p4 : Int32) (p5 : Int32) (p7 : UInt64) (s0 : Int32) (s1 : Int64) : Option (Int64) := j_X4_bitsOf_71 g M p0 p3 p4 p5 p7 (s1 <<< (s0.toInt64 &&& 63))
def j_X4_bitsOf_45 (g : Nat) (M : hm) (p0 : Nat) (p3 : Int32) (p4 : Int32) (p5 : Int32) (p6 : Int32) (s0 : UInt64) : Option (Int64) := if p6 = 0 then (j_X4_bitsOf_71 g M p0 p3 p4 p5 s0 (0 : Int64)) else (if p3 = 0 then (j_X4_bitsOf_66 g M p0 p3 p4 p5 s0 (63 : Int32) (-1 : Int64)) else (j_X4_bitsOf_66 g M p0 p3 p4 p5 s0 (31 : Int32) (-1 : Int64)))
def j_X4_bitsOf_26 (g : Nat) (M : hm) (p0 : Nat) (p1 : UInt64) (p3 : Int32) (p4 : Int32) (s0 : Int32) : Option (Int64) := (j_X5_hasMinus g p1).bind fun v11 => if v11 = 0 then (j_X4_bitsOf_45 g M p0 p3 p4 s0 v11 p1) else (j_X4_bitsOf_45 g M p0 p3 p4 s0 v11 (FP.dneg p1))
def j_X4_bitsOf_11 (g : Nat) (M : hm) (p0 : Nat) (p1 : UInt64) (p3 : Int32) (s0 : Int32) : Option (Int64) := if p3 = 0 then (j_X4_bitsOf_26 g M p0 p1 p3 s0 (-1074 : Int32)) else (j_X4_bitsOf_26 g M p0 p1 p3 s0 (-149 : Int32))
def j_X4_bitsOf (g : Nat) (M : hm) (a0 : Nat) (a1 : UInt64) (a3 : Int32) : Option (Int64) := if a3 = 0 then (j_X4_bitsOf_11 g M a0 a1 a3 (52 : Int32)) else (j_X4_bitsOf_11 g M a0 a1 a3 (23 : Int32))
def j_X5_isColumn_15 (g : Nat) (s0 : Int32) : Option (Int32) := (zb s0).bind fun _ => some s0
def j_X5_isColumn_14 (g : Nat) : Option (Int32) := j_X5_isColumn_15 g (0 : Int32)
def j_X5_isColumn (g : Nat) (a0 : Int32) : Option (Int32) := if a0 < 0 then (j_X5_isColumn_14 g) else (if (12 : Int32) ≤ a0 then (j_X5_isColumn_14 g) else (j_X5_isColumn_15 g (1 : Int32)))
def j_X5_isComparison_15 (g : Nat) (s0 : Int32) : Option (Int32) := (zb s0).bind fun _ => some s0
def j_X5_isComparison_14 (g : Nat) : Option (Int32) := j_X5_isComparison_15 g (0 : Int32)
def j_X5_isComparison (g : Nat) (a0 : Int32) : Option (Int32) := if a0 < 0 then (j_X5_isComparison_14 g) else (if (12 : Int32) ≤ a0 then (j_X5_isComparison_14 g) else (j_X5_isComparison_15 g (1 : Int32)))
def j_X5_isConstant_15 (g : Nat) (s0 : Int32) : Option (Int32) := (zb s0).bind fun _ => some s0
def j_X5_isConstant_14 (g : Nat) : Option (Int32) := j_X5_isConstant_15 g (0 : Int32)
def j_X5_isConstant (g : Nat) (a0 : Int32) : Option (Int32) := if a0 < 0 then (j_X5_isConstant_14 g) else (if (8 : Int32) ≤ a0 then (j_X5_isConstant_14 g) else (j_X5_isConstant_15 g (1 : Int32)))
def j_X5_alarm_44 (g : Nat) (M : hm) (p0 : Nat) (p1 : Int32) (p2 : Int32) (p3 : Int32) : Option (hm × Int32) := (gR M p0 5 1).bind fun v1 => (gI M p0 5 5).bind fun v2 => (nO M 0 [.int 0, .int 0, .int 0, .int 0, .int 0, .int 0]).bind fun q3 => (j_X0_init g q3.1 q3.2 p1 p2 p3).bind fun M4 => v1.bind fun b5 => (sR M4 b5 4 0 v2 (some q3.2)).bind fun M6 => (gI M6 p0 5 5).bind fun v7 => (pV M6 p0 5 5 (.int (v7 + (1 : Int32)))).bind fun M8 => (gI M8 p0 5 5).bind fun v9 => some (M8, (v9 - (1 : Int32)))
def j_X5_alarm_23 (g : Nat) (M : hm) : Option (hm × Int32) := some (M, (-1 : Int32))
def j_X5_alarm (g : Nat) (M : hm) (a0 : Nat) (a1 : Int32) (a2 : Int32) (a3 : Int32) : Option (hm × Int32) := (j_X5_isColumn g a1).bind fun v10 => if v10 = 0 then (j_X5_alarm_23 g M) else ((j_X5_isComparison g a2).bind fun v12 => if v12 = 0 then (j_X5_alarm_23 g M) else ((gI M a0 5 5).bind fun v14 => if v14 < (10 : Int32) then ((j_X5_isColumn g a3).bind fun v16 => if v16 = 0 then ((j_X5_isConstant g (a3 - (16 : Int32))).bind fun v18 => if v18 = 0 then (some (M, (-1 : Int32))) else (j_X5_alarm_44 g M a0 a1 a2 a3)) else (j_X5_alarm_44 g M a0 a1 a2 a3)) else (j_X5_alarm_23 g M)))
def j_X5_alarmed_34 (g : Nat) (M : hm) (s0 : Int32) : Option (Int32) := some s0
def j_X5_alarmed_12 (g : Nat) (M : hm) : Option (Int32) := some (-1 : Int32)
def j_X5_alarmed (g : Nat) (M : hm) (a0 : Nat) (a1 : Int32) (a2 : Int32) : Option (Int32) := if a1 < 0 then (j_X5_alarmed_12 g M) else ((gI M a0 5 5).bind fun v2 => if a1 < v2 then ((gR M a0 5 1).bind fun v4 => v4.bind fun b5 => (aR M b5 4 a1).bind fun v6 => match v6 with | none => (j_X5_alarmed_34 g M (-1 : Int32)) | some b7 => ((isO M b7 0).bind fun _ => (j_X0_answer g M b7 a2).bind fun v9 => j_X5_alarmed_34 g M v9)) else (j_X5_alarmed_12 g M))
def j_X5_back (g : Nat) (M : hm) (a0 : Nat) : Option (hm × Int32) := (gR M a0 5 3).bind fun v1 => match v1 with | none => (some (M, (-1 : Int32))) | some b2 => ((gR M a0 5 0).bind fun v3 => (gI M b2 1 0).bind fun v4 => (gR M b2 1 1).bind fun v5 => v3.bind fun b6 => (sR M b6 3 3 v4 v5).bind fun M7 => (gI M7 a0 5 7).bind fun v8 => (gI M7 b2 1 0).bind fun v9 => (pV M7 a0 5 7 (.int (v8 ||| ((1 : Int32) <<< (v9 &&& 31))))).bind fun M10 => (gR M10 b2 1 2).bind fun v11 => (pV M10 a0 5 3 (va_rf v11)).bind fun M12 => (gI M12 a0 5 4).bind fun v13 => (pV M12 a0 5 4 (.int (v13 - (1 : Int32)))).bind fun M14 => (gI M14 a0 5 4).bind fun v15 => some (M14, v15))
def j_X5_settle_72 (g : Nat) (M : hm) (p0 : Nat) : Option (hm) := (pV M p0 5 7 (.int (0 : Int32))).bind fun M1 => some M1
def j_X5_settle_66 (g : Nat) (K10 : hm → Nat → Int32 → Option (hm)) (M : hm) (p0 : Nat) (p1 : Int32) : Option (hm) := K10 M p0 (p1 + (1 : Int32))
def j_X5_settle_10 (g : Nat) : Nat → hm → Nat → Int32 → Option (hm)
  | 0, _, _, _ => none
  | n + 1, M, p0, p1 => if (12 : Int32) ≤ p1 then (j_X5_settle_72 g M p0) else ((gR M p0 5 0).bind fun v3 => v3.bind fun b4 => (aR M b4 3 p1).bind fun v5 => v5.bind fun b6 => (isO M b6 3).bind fun _ => (j_X3_hasFormula g M b6).bind fun v8 => if v8 = 0 then (j_X5_settle_66 g (fun M p0 p1 => j_X5_settle_10 g n M p0 p1) M p0 p1) else ((gI M p0 5 7).bind fun v10 => (isO M b6 3).bind fun _ => (j_X3_isTouched g M b6 v10 p1).bind fun v12 => if v12 = 0 then (j_X5_settle_66 g (fun M p0 p1 => j_X5_settle_10 g n M p0 p1) M p0 p1) else ((gR M p0 5 2).bind fun v14 => (gR M p0 5 0).bind fun v15 => v14.bind fun b16 => (isO M b16 2).bind fun _ => (j_X2_reckon g M b16 (some b6) v15).bind fun M18 => (gI M18 p0 5 7).bind fun v19 => (pV M18 p0 5 7 (.int (v19 ||| ((1 : Int32) <<< (p1 &&& 31))))).bind fun M20 => j_X5_settle_66 g (fun M p0 p1 => j_X5_settle_10 g n M p0 p1) M20 p0 p1)))
theorem j_X5_settle_10_s (g : Nat) (n : Nat) (M : hm) (p0 : Nat) (p1 : Int32) : j_X5_settle_10 g (n + 1) M p0 p1 = (if (12 : Int32) ≤ p1 then (j_X5_settle_72 g M p0) else ((gR M p0 5 0).bind fun v3 => v3.bind fun b4 => (aR M b4 3 p1).bind fun v5 => v5.bind fun b6 => (isO M b6 3).bind fun _ => (j_X3_hasFormula g M b6).bind fun v8 => if v8 = 0 then (j_X5_settle_66 g (fun M p0 p1 => j_X5_settle_10 g n M p0 p1) M p0 p1) else ((gI M p0 5 7).bind fun v10 => (isO M b6 3).bind fun _ => (j_X3_isTouched g M b6 v10 p1).bind fun v12 => if v12 = 0 then (j_X5_settle_66 g (fun M p0 p1 => j_X5_settle_10 g n M p0 p1) M p0 p1) else ((gR M p0 5 2).bind fun v14 => (gR M p0 5 0).bind fun v15 => v14.bind fun b16 => (isO M b16 2).bind fun _ => (j_X2_reckon g M b16 (some b6) v15).bind fun M18 => (gI M18 p0 5 7).bind fun v19 => (pV M18 p0 5 7 (.int (v19 ||| ((1 : Int32) <<< (p1 &&& 31))))).bind fun M20 => j_X5_settle_66 g (fun M p0 p1 => j_X5_settle_10 g n M p0 p1) M20 p0 p1)))) := rfl
def j_X5_settle (g : Nat) (M : hm) (a0 : Nat) : Option (hm) := (gI M a0 5 7).bind fun v21 => if v21 = 0 then (some M) else (j_X5_settle_10 g g M a0 (0 : Int32))
def j_X5_isPlace_15 (g : Nat) (s0 : Int32) : Option (Int32) := (zb s0).bind fun _ => some s0
def j_X5_isPlace_14 (g : Nat) : Option (Int32) := j_X5_isPlace_15 g (0 : Int32)
def j_X5_isPlace (g : Nat) (a0 : Int32) : Option (Int32) := if a0 < 0 then (j_X5_isPlace_14 g) else (if (16 : Int32) ≤ a0 then (j_X5_isPlace_14 g) else (j_X5_isPlace_15 g (1 : Int32)))
def j_X5_isNumber_32 (g : Nat) (M : hm) (s0 : Int32) : Option (Int32) := (zb s0).bind fun _ => some s0
def j_X5_isNumber_31 (g : Nat) (M : hm) : Option (Int32) := j_X5_isNumber_32 g M (0 : Int32)
def j_X5_isNumber (g : Nat) (M : hm) (a0 : Nat) (a1 : Int32) (a2 : Int32) : Option (Int32) := (j_X5_isColumn g a1).bind fun v2 => if v2 = 0 then (j_X5_isNumber_31 g M) else ((j_X5_isPlace g a2).bind fun v4 => if v4 = 0 then (j_X5_isNumber_31 g M) else ((gR M a0 5 0).bind fun v6 => v6.bind fun b7 => (aR M b7 3 a1).bind fun v8 => v8.bind fun b9 => (isO M b9 3).bind fun _ => (j_X3_blankAt g M b9 a2).bind fun v11 => if v11 = 0 then (j_X5_isNumber_32 g M (1 : Int32)) else (j_X5_isNumber_31 g M)))
def j_X5_bits (g : Nat) (M : hm) (a0 : Nat) (a1 : Int32) (a2 : Int32) : Option (hm × Int64) := (isO M a0 5).bind fun _ => (j_X5_settle g M a0).bind fun M2 => (isO M2 a0 5).bind fun _ => (j_X5_isNumber g M2 a0 a1 a2).bind fun v4 => if v4 = 0 then (some (M2, (0 : Int64))) else ((gR M2 a0 5 0).bind fun v6 => v6.bind fun b7 => (aR M2 b7 3 a1).bind fun v8 => (gR M2 a0 5 2).bind fun v9 => v9.bind fun b10 => (gR M2 b10 2 0).bind fun v11 => v8.bind fun b12 => (gR M2 b12 3 0).bind fun v13 => v13.bind fun b14 => (aD M2 b14 a2).bind fun v15 => (gI M2 b12 3 2).bind fun v16 => v11.bind fun b17 => (isO M2 b17 4).bind fun _ => (j_X4_bitsOf g M2 b17 v15 v16).bind fun v19 => some (M2, v19))
def j_X5_changed (g : Nat) (M : hm) (a0 : Nat) (a1 : Int32) : Option (hm × (Option Nat)) := (gR M a0 5 0).bind fun v1 => v1.bind fun b2 => (aR M b2 3 a1).bind fun v3 => (nO M 1 [.int 0, .null, .null]).bind fun q4 => (gR q4.1 a0 5 3).bind fun v5 => (j_X1_init g q4.1 q4.2 a1 v3 v5).bind fun M6 => (pV M6 a0 5 3 (.ref q4.2)).bind fun M7 => (gI M7 a0 5 4).bind fun v8 => (pV M7 a0 5 4 (.int (v8 + (1 : Int32)))).bind fun M9 => v3.bind fun b10 => (isO M9 b10 3).bind fun _ => (j_X3_copy g M9 b10).bind fun q12 => (gR q12.1 a0 5 0).bind fun v13 => v13.bind fun b14 => (sR q12.1 b14 3 3 a1 q12.2).bind fun M15 => (gI M15 a0 5 7).bind fun v16 => (pV M15 a0 5 7 (.int (v16 ||| ((1 : Int32) <<< (a1 &&& 31))))).bind fun M17 => some (M17, q12.2)
def j_X5_placesWhere_99 (g : Nat) (M : hm) (p7 : Int32) : Option (Int32) := some p7
def j_X5_placesWhere_93 (g : Nat) (K50 : Int32 → Int32 → Int32 → Option Nat → Option Nat → Int32 → Int32 → Option (Int32)) (M : hm) (p2 : Int32) (p3 : Int32) (p4 : Int32) (p5 : Option Nat) (p6 : Option Nat) (p7 : Int32) (p8 : Int32) : Option (Int32) := K50 p2 p3 p4 p5 p6 p7 (p8 + (1 : Int32))
def j_X5_placesWhere_78 (g : Nat) (K50 : Int32 → Int32 → Int32 → Option Nat → Option Nat → Int32 → Int32 → Option (Int32)) (M : hm) (p2 : Int32) (p3 : Int32) (p4 : Int32) (p5 : Option Nat) (p6 : Option Nat) (p7 : Int32) (p8 : Int32) (s0 : Int32) (s1 : Option Nat) (s2 : Int32) (s3 : Option Nat) (s4 : Int32) : Option (Int32) := (j_X5_isSo g M s4 s3 s2 s1 s0).bind fun v1 => if v1 = 0 then (j_X5_placesWhere_93 g K50 M p2 p3 p4 p5 p6 p7 p8) else (j_X5_placesWhere_93 g K50 M p2 p3 p4 p5 p6 (p7 ||| ((1 : Int32) <<< (p8 &&& 31))) p8)
def j_X5_placesWhere_50 (g : Nat) (M : hm) : Nat → Int32 → Int32 → Int32 → Option Nat → Option Nat → Int32 → Int32 → Option (Int32)
  | 0, _, _, _, _, _, _, _ => none
  | n + 1, p2, p3, p4, p5, p6, p7, p8 => if (16 : Int32) ≤ p8 then (j_X5_placesWhere_99 g M p7) else (if p4 = 0 then (j_X5_placesWhere_78 g (fun p2 p3 p4 p5 p6 p7 p8 => j_X5_placesWhere_50 g M n p2 p3 p4 p5 p6 p7 p8) M p2 p3 p4 p5 p6 p7 p8 p8 p6 p8 p5 p2) else (j_X5_placesWhere_78 g (fun p2 p3 p4 p5 p6 p7 p8 => j_X5_placesWhere_50 g M n p2 p3 p4 p5 p6 p7 p8) M p2 p3 p4 p5 p6 p7 p8 (p3 - (16 : Int32)) p6 p8 p5 p2))
theorem j_X5_placesWhere_50_s (g : Nat) (M : hm) (n : Nat) (p2 : Int32) (p3 : Int32) (p4 : Int32) (p5 : Option Nat) (p6 : Option Nat) (p7 : Int32) (p8 : Int32) : j_X5_placesWhere_50 g M (n + 1) p2 p3 p4 p5 p6 p7 p8 = (if (16 : Int32) ≤ p8 then (j_X5_placesWhere_99 g M p7) else (if p4 = 0 then (j_X5_placesWhere_78 g (fun p2 p3 p4 p5 p6 p7 p8 => j_X5_placesWhere_50 g M n p2 p3 p4 p5 p6 p7 p8) M p2 p3 p4 p5 p6 p7 p8 p8 p6 p8 p5 p2) else (j_X5_placesWhere_78 g (fun p2 p3 p4 p5 p6 p7 p8 => j_X5_placesWhere_50 g M n p2 p3 p4 p5 p6 p7 p8) M p2 p3 p4 p5 p6 p7 p8 (p3 - (16 : Int32)) p6 p8 p5 p2))) := rfl
def j_X5_placesWhere_42 (g : Nat) (M : hm) (p2 : Int32) (p3 : Int32) (p4 : Int32) (p5 : Option Nat) (s0 : Option Nat) : Option (Int32) := j_X5_placesWhere_50 g g M p2 p3 p4 p5 s0 (0 : Int32) (0 : Int32)
def j_X5_placesWhere_11 (g : Nat) (M : hm) (p0 : Nat) (p1 : Int32) (p2 : Int32) (p3 : Int32) (s0 : Int32) : Option (Int32) := (gR M p0 5 0).bind fun v5 => v5.bind fun b6 => (aR M b6 3 p1).bind fun v7 => if s0 = 0 then ((gR M p0 5 0).bind fun v9 => v9.bind fun b10 => (aR M b10 3 p3).bind fun v11 => j_X5_placesWhere_42 g M p2 p3 s0 v7 v11) else ((gR M p0 5 0).bind fun v12 => v12.bind fun b13 => (aR M b13 3 (12 : Int32)).bind fun v14 => j_X5_placesWhere_42 g M p2 p3 s0 v7 v14)
def j_X5_placesWhere (g : Nat) (M : hm) (a0 : Nat) (a1 : Int32) (a2 : Int32) (a3 : Int32) : Option (Int32) := if a3 < (16 : Int32) then (j_X5_placesWhere_11 g M a0 a1 a2 a3 (0 : Int32)) else (j_X5_placesWhere_11 g M a0 a1 a2 a3 (1 : Int32))
def j_X5_compared_21 (g : Nat) (M : hm) : Option (hm × Int32) := some (M, (-1 : Int32))
def j_X5_compared (g : Nat) (M : hm) (a0 : Nat) (a1 : Int32) (a2 : Int32) (a3 : Int32) : Option (hm × Int32) := (j_X5_isColumn g a1).bind fun v1 => if v1 = 0 then (j_X5_compared_21 g M) else ((j_X5_isComparison g a2).bind fun v3 => if v3 = 0 then (j_X5_compared_21 g M) else ((j_X5_isColumn g a3).bind fun v5 => if v5 = 0 then (j_X5_compared_21 g M) else ((isO M a0 5).bind fun _ => (j_X5_settle g M a0).bind fun M8 => (isO M8 a0 5).bind fun _ => (j_X5_placesWhere g M8 a0 a1 a2 a3).bind fun v10 => (j_J6_bitCount_0f7a4 g v10).bind fun v11 => some (M8, v11))))
def j_X5_isExponent_19 (g : Nat) (s0 : Int32) : Option (Int32) := (zb s0).bind fun _ => some s0
def j_X5_isExponent_18 (g : Nat) : Option (Int32) := j_X5_isExponent_19 g (0 : Int32)
def j_X5_isExponent (g : Nat) (a0 : Int32) : Option (Int32) := if a0 < (-1000 : Int32) then (j_X5_isExponent_18 g) else (if (900 : Int32) < a0 then (j_X5_isExponent_18 g) else (j_X5_isExponent_19 g (1 : Int32)))
def j_X5_isFull_15 (g : Nat) (M : hm) (s0 : Int32) : Option (Int32) := (zb s0).bind fun _ => some s0
def j_X5_isFull (g : Nat) (M : hm) (a0 : Nat) : Option (Int32) := (gI M a0 5 4).bind fun v2 => if v2 < (512 : Int32) then (j_X5_isFull_15 g M (0 : Int32)) else (j_X5_isFull_15 g M (1 : Int32))
def j_X5_constant_21 (g : Nat) (M : hm) : Option (hm × Int32) := some (M, (0 : Int32))
def j_X5_constant (g : Nat) (M : hm) (a0 : Nat) (a1 : Int32) (a2 : Int32) (a3 : Int32) : Option (hm × Int32) := (j_X5_isConstant g a1).bind fun v1 => if v1 = 0 then (j_X5_constant_21 g M) else ((j_X5_isExponent g a3).bind fun v3 => if v3 = 0 then (j_X5_constant_21 g M) else ((isO M a0 5).bind fun _ => (j_X5_isFull g M a0).bind fun v6 => if v6 = 0 then ((isO M a0 5).bind fun _ => (j_X5_changed g M a0 (12 : Int32)).bind fun q9 => (gR q9.1 a0 5 2).bind fun v10 => v10.bind fun b11 => (gR q9.1 b11 2 0).bind fun v12 => v12.bind fun b13 => (isO q9.1 b13 4).bind fun _ => (j_X4_times g q9.1 b13 (FP.i2d a2) a3).bind fun v15 => q9.2.bind fun b16 => (isO q9.1 b16 3).bind fun _ => (j_X3_put g q9.1 b16 a1 v15).bind fun M18 => some (M18, (1 : Int32))) else (j_X5_constant_21 g M)))
def j_X5_isSpecial_14 (g : Nat) (s0 : Int32) : Option (Int32) := (zb s0).bind fun _ => some s0
def j_X5_isSpecial_13 (g : Nat) : Option (Int32) := j_X5_isSpecial_14 g (0 : Int32)
def j_X5_isSpecial (g : Nat) (a0 : Int32) : Option (Int32) := if a0 < 0 then (j_X5_isSpecial_13 g) else (if (5 : Int32) < a0 then (j_X5_isSpecial_13 g) else (j_X5_isSpecial_14 g (1 : Int32)))
def j_X5_putSpecial_123 (g : Nat) (M : hm) : Option (hm) := some M
def j_X5_putSpecial_112 (g : Nat) (M : hm) (s0 : UInt64) (s1 : Int32) (s2 : Option Nat) : Option (hm) := s2.bind fun b1 => (isO M b1 3).bind fun _ => (j_X3_put g M b1 s1 s0).bind fun M3 => j_X5_putSpecial_123 g M3
def j_X5_putSpecial_88 (g : Nat) (M : hm) (s0 : UInt64) (s1 : Int32) (s2 : Option Nat) : Option (hm) := s2.bind fun b4 => (isO M b4 3).bind fun _ => (j_X3_put g M b4 s1 s0).bind fun M6 => j_X5_putSpecial_123 g M6
def j_X5_putSpecial (g : Nat) (M : hm) (a0 : Option Nat) (a1 : Int32) (a2 : Int32) : Option (hm) := if a2 = (1 : Int32) then (a0.bind fun b12 => (isO M b12 3).bind fun _ => (j_X3_put g M b12 a1 (9218868437227405312 : UInt64)).bind fun M14 => j_X5_putSpecial_123 g M14) else if a2 = (2 : Int32) then (a0.bind fun b15 => (isO M b15 3).bind fun _ => (j_X3_put g M b15 a1 (FP.dneg (9218868437227405312 : UInt64))).bind fun M17 => j_X5_putSpecial_123 g M17) else if a2 = (3 : Int32) then (a0.bind fun b18 => (isO M b18 3).bind fun _ => (j_X3_put g M b18 a1 (9223372036854775808 : UInt64)).bind fun M20 => j_X5_putSpecial_123 g M20) else if a2 = (4 : Int32) then (a0.bind fun b21 => (gI M b21 3 2).bind fun v22 => if v22 = 0 then (j_X5_putSpecial_88 g M (9218868437227405311 : UInt64) a1 (some b21)) else (j_X5_putSpecial_88 g M (5183643170566569984 : UInt64) a1 (some b21))) else if a2 = (5 : Int32) then (a0.bind fun b24 => (gI M b24 3 2).bind fun v25 => if v25 = 0 then (j_X5_putSpecial_112 g M (1 : UInt64) a1 (some b24)) else (j_X5_putSpecial_112 g M (3936146074321813504 : UInt64) a1 (some b24))) else (a0.bind fun b27 => (isO M b27 3).bind fun _ => (j_X3_clear g M b27 a1).bind fun M29 => j_X5_putSpecial_123 g M29)
def j_X5_constantSpecial_21 (g : Nat) (M : hm) : Option (hm × Int32) := some (M, (0 : Int32))
def j_X5_constantSpecial (g : Nat) (M : hm) (a0 : Nat) (a1 : Int32) (a2 : Int32) : Option (hm × Int32) := (j_X5_isConstant g a1).bind fun v1 => if v1 = 0 then (j_X5_constantSpecial_21 g M) else ((j_X5_isSpecial g a2).bind fun v3 => if v3 = 0 then (j_X5_constantSpecial_21 g M) else ((isO M a0 5).bind fun _ => (j_X5_isFull g M a0).bind fun v6 => if v6 = 0 then ((isO M a0 5).bind fun _ => (j_X5_changed g M a0 (12 : Int32)).bind fun q9 => (j_X5_putSpecial g q9.1 q9.2 a1 a2).bind fun M10 => some (M10, (1 : Int32))) else (j_X5_constantSpecial_21 g M)))
def j_X5_formula_67 (g : Nat) (M : hm) (p0 : Nat) (p1 : Int32) (p2 : Int32) (p3 : Int32) (p4 : Int32) (p5 : Int32) : Option (hm × Int32) := (isO M p0 5).bind fun _ => (j_X5_changed g M p0 p1).bind fun q2 => q2.2.bind fun b3 => (pV q2.1 b3 3 3 (.int p2)).bind fun M4 => (pV M4 b3 3 4 (.int p3)).bind fun M5 => (pV M5 b3 3 5 (.int p4)).bind fun M6 => (pV M6 b3 3 6 (.int p5)).bind fun M7 => some (M7, (1 : Int32))
def j_X5_formula_65 (g : Nat) (M : hm) : Option (hm × Int32) := some (M, (0 : Int32))
def j_X5_formula_32 (g : Nat) (M : hm) : Option (hm × Int32) := some (M, (0 : Int32))
def j_X5_formula (g : Nat) (M : hm) (a0 : Nat) (a1 : Int32) (a2 : Int32) (a3 : Int32) (a4 : Int32) (a5 : Int32) : Option (hm × Int32) := (j_X5_isColumn g a1).bind fun v8 => if v8 = 0 then (j_X5_formula_32 g M) else (if a2 < 0 then (j_X5_formula_32 g M) else (if (26 : Int32) < a2 then (j_X5_formula_32 g M) else ((j_X5_isComparison g a5).bind fun v12 => if v12 = 0 then (j_X5_formula_32 g M) else ((isO M a0 5).bind fun _ => (j_X5_isFull g M a0).bind fun v15 => if v15 = 0 then (if a3 < 0 then (j_X5_formula_65 g M) else (if a1 ≤ a3 then (j_X5_formula_65 g M) else (if a4 < 0 then (j_X5_formula_65 g M) else (if a4 < a1 then (j_X5_formula_67 g M a0 a1 a2 a3 a4 a5) else ((j_X5_isConstant g (a4 - (16 : Int32))).bind fun v21 => if v21 = 0 then (j_X5_formula_65 g M) else (j_X5_formula_67 g M a0 a1 a2 a3 a4 a5)))))) else (j_X5_formula_32 g M)))))
def j_X5_init (g : Nat) (M : hm) (a0 : Nat) : Option (hm) := (nA M 3 (13, .inr (.inr (.inr (.inr (fun _ => none)))))).bind fun q1 => (pV q1.1 a0 5 0 (.ref q1.2)).bind fun M2 => (gR M2 a0 5 0).bind fun v3 => (nO M2 3 [.null, .int 0, .int 0, .int 0, .int 0, .int 0, .int 0]).bind fun q4 => (j_X3_init g q4.1 q4.2).bind fun M5 => v3.bind fun b6 => (sR M5 b6 3 3 (0 : Int32) (some q4.2)).bind fun M7 => (gR M7 a0 5 0).bind fun v8 => (nO M7 3 [.null, .int 0, .int 0, .int 0, .int 0, .int 0, .int 0]).bind fun q9 => (j_X3_init g q9.1 q9.2).bind fun M10 => v8.bind fun b11 => (sR M10 b11 3 3 (1 : Int32) (some q9.2)).bind fun M12 => (gR M12 a0 5 0).bind fun v13 => (nO M12 3 [.null, .int 0, .int 0, .int 0, .int 0, .int 0, .int 0]).bind fun q14 => (j_X3_init g q14.1 q14.2).bind fun M15 => v13.bind fun b16 => (sR M15 b16 3 3 (2 : Int32) (some q14.2)).bind fun M17 => (gR M17 a0 5 0).bind fun v18 => (nO M17 3 [.null, .int 0, .int 0, .int 0, .int 0, .int 0, .int 0]).bind fun q19 => (j_X3_init g q19.1 q19.2).bind fun M20 => v18.bind fun b21 => (sR M20 b21 3 3 (3 : Int32) (some q19.2)).bind fun M22 => (gR M22 a0 5 0).bind fun v23 => (nO M22 3 [.null, .int 0, .int 0, .int 0, .int 0, .int 0, .int 0]).bind fun q24 => (j_X3_init g q24.1 q24.2).bind fun M25 => v23.bind fun b26 => (sR M25 b26 3 3 (4 : Int32) (some q24.2)).bind fun M27 => (gR M27 a0 5 0).bind fun v28 => (nO M27 3 [.null, .int 0, .int 0, .int 0, .int 0, .int 0, .int 0]).bind fun q29 => (j_X3_init g q29.1 q29.2).bind fun M30 => v28.bind fun b31 => (sR M30 b31 3 3 (5 : Int32) (some q29.2)).bind fun M32 => (gR M32 a0 5 0).bind fun v33 => (nO M32 3 [.null, .int 0, .int 0, .int 0, .int 0, .int 0, .int 0]).bind fun q34 => (j_X3_init g q34.1 q34.2).bind fun M35 => v33.bind fun b36 => (sR M35 b36 3 3 (6 : Int32) (some q34.2)).bind fun M37 => (gR M37 a0 5 0).bind fun v38 => (nO M37 3 [.null, .int 0, .int 0, .int 0, .int 0, .int 0, .int 0]).bind fun q39 => (j_X3_init g q39.1 q39.2).bind fun M40 => v38.bind fun b41 => (sR M40 b41 3 3 (7 : Int32) (some q39.2)).bind fun M42 => (gR M42 a0 5 0).bind fun v43 => (nO M42 3 [.null, .int 0, .int 0, .int 0, .int 0, .int 0, .int 0]).bind fun q44 => (j_X3_init g q44.1 q44.2).bind fun M45 => v43.bind fun b46 => (sR M45 b46 3 3 (8 : Int32) (some q44.2)).bind fun M47 => (gR M47 a0 5 0).bind fun v48 => (nO M47 3 [.null, .int 0, .int 0, .int 0, .int 0, .int 0, .int 0]).bind fun q49 => (j_X3_init g q49.1 q49.2).bind fun M50 => v48.bind fun b51 => (sR M50 b51 3 3 (9 : Int32) (some q49.2)).bind fun M52 => (gR M52 a0 5 0).bind fun v53 => (nO M52 3 [.null, .int 0, .int 0, .int 0, .int 0, .int 0, .int 0]).bind fun q54 => (j_X3_init g q54.1 q54.2).bind fun M55 => v53.bind fun b56 => (sR M55 b56 3 3 (10 : Int32) (some q54.2)).bind fun M57 => (gR M57 a0 5 0).bind fun v58 => (nO M57 3 [.null, .int 0, .int 0, .int 0, .int 0, .int 0, .int 0]).bind fun q59 => (j_X3_init g q59.1 q59.2).bind fun M60 => v58.bind fun b61 => (sR M60 b61 3 3 (11 : Int32) (some q59.2)).bind fun M62 => (gR M62 a0 5 0).bind fun v63 => (nO M62 3 [.null, .int 0, .int 0, .int 0, .int 0, .int 0, .int 0]).bind fun q64 => (j_X3_init g q64.1 q64.2).bind fun M65 => v63.bind fun b66 => (sR M65 b66 3 3 (12 : Int32) (some q64.2)).bind fun M67 => (nA M67 4 (10, .inr (.inr (.inr (.inr (fun _ => none)))))).bind fun q68 => (pV q68.1 a0 5 1 (.ref q68.2)).bind fun M69 => (nO M69 2 [.null, .null, .null, .null, .int 0]).bind fun q70 => (j_X2_init g q70.1 q70.2).bind fun M71 => (pV M71 a0 5 2 (.ref q70.2)).bind fun M72 => (pV M72 a0 5 3 (va_rf none)).bind fun M73 => (pV M73 a0 5 4 (.int (0 : Int32))).bind fun M74 => (pV M74 a0 5 5 (.int (0 : Int32))).bind fun M75 => (pV M75 a0 5 6 (.int (0 : Int32))).bind fun M76 => (pV M76 a0 5 7 (.int (0 : Int32))).bind fun M77 => some M77
def j_X5_input_26 (g : Nat) (M : hm) : Option (hm × Int32) := some (M, (0 : Int32))
def j_X5_input (g : Nat) (M : hm) (a0 : Nat) (a1 : Int32) : Option (hm × Int32) := (j_X5_isColumn g a1).bind fun v1 => if v1 = 0 then (j_X5_input_26 g M) else ((gR M a0 5 0).bind fun v3 => v3.bind fun b4 => (aR M b4 3 a1).bind fun v5 => v5.bind fun b6 => (isO M b6 3).bind fun _ => (j_X3_hasFormula g M b6).bind fun v8 => if v8 = 0 then (j_X5_input_26 g M) else ((isO M a0 5).bind fun _ => (j_X5_isFull g M a0).bind fun v11 => if v11 = 0 then ((isO M a0 5).bind fun _ => (j_X5_settle g M a0).bind fun M14 => (isO M14 a0 5).bind fun _ => (j_X5_changed g M14 a0 a1).bind fun q16 => q16.2.bind fun b17 => (pV q16.1 b17 3 3 (.int (-1 : Int32))).bind fun M18 => some (M18, (1 : Int32))) else (j_X5_input_26 g M)))
def j_X5_isBlank_36 (g : Nat) (M : hm) (s0 : Int32) : Option (hm × Int32) := (zb s0).bind fun _ => some (M, s0)
def j_X5_isBlank_35 (g : Nat) (M : hm) : Option (hm × Int32) := j_X5_isBlank_36 g M (0 : Int32)
def j_X5_isBlank (g : Nat) (M : hm) (a0 : Nat) (a1 : Int32) (a2 : Int32) : Option (hm × Int32) := (isO M a0 5).bind fun _ => (j_X5_settle g M a0).bind fun M3 => (j_X5_isColumn g a1).bind fun v4 => if v4 = 0 then (j_X5_isBlank_35 g M3) else ((j_X5_isPlace g a2).bind fun v6 => if v6 = 0 then (j_X5_isBlank_35 g M3) else ((gR M3 a0 5 0).bind fun v8 => v8.bind fun b9 => (aR M3 b9 3 a1).bind fun v10 => v10.bind fun b11 => (isO M3 b11 3).bind fun _ => (j_X3_blankAt g M3 b11 a2).bind fun v13 => if v13 = 0 then (j_X5_isBlank_35 g M3) else (j_X5_isBlank_36 g M3 (1 : Int32))))
def j_X5_isMinus_35 (g : Nat) (M : hm) (s0 : Int32) : Option (hm × Int32) := (zb s0).bind fun _ => some (M, s0)
def j_X5_isMinus_34 (g : Nat) (M : hm) : Option (hm × Int32) := j_X5_isMinus_35 g M (0 : Int32)
def j_X5_isMinus (g : Nat) (M : hm) (a0 : Nat) (a1 : Int32) (a2 : Int32) : Option (hm × Int32) := (isO M a0 5).bind fun _ => (j_X5_settle g M a0).bind fun M3 => (isO M3 a0 5).bind fun _ => (j_X5_isNumber g M3 a0 a1 a2).bind fun v5 => if v5 = 0 then (j_X5_isMinus_34 g M3) else ((gR M3 a0 5 0).bind fun v7 => v7.bind fun b8 => (aR M3 b8 3 a1).bind fun v9 => v9.bind fun b10 => (gR M3 b10 3 0).bind fun v11 => v11.bind fun b12 => (aD M3 b12 a2).bind fun v13 => (j_X5_hasMinus g v13).bind fun v14 => if v14 = 0 then (j_X5_isMinus_34 g M3) else (j_X5_isMinus_35 g M3 (1 : Int32)))
def j_X5_reading_28 (g : Nat) (M : hm) (s0 : UInt64) : Option (hm × UInt64) := some (M, s0)
def j_X5_reading (g : Nat) (M : hm) (a0 : Nat) (a1 : Int32) (a2 : Int32) : Option (hm × UInt64) := (isO M a0 5).bind fun _ => (j_X5_settle g M a0).bind fun M2 => (isO M2 a0 5).bind fun _ => (j_X5_isNumber g M2 a0 a1 a2).bind fun v4 => if v4 = 0 then (j_X5_reading_28 g M2 FP.dconst0) else ((gR M2 a0 5 0).bind fun v6 => v6.bind fun b7 => (aR M2 b7 3 a1).bind fun v8 => v8.bind fun b9 => (gR M2 b9 3 0).bind fun v10 => v10.bind fun b11 => (aD M2 b11 a2).bind fun v12 => j_X5_reading_28 g M2 v12)
def j_X5_ring_66 (g : Nat) (M : hm) (p1 : Int32) : Option (hm × Int32) := some (M, p1)
def j_X5_ring_60 (g : Nat) (K18 : hm → Nat → Int32 → Int32 → Option (hm × Int32)) (M : hm) (p0 : Nat) (p1 : Int32) (p2 : Int32) : Option (hm × Int32) := K18 M p0 p1 (p2 + (1 : Int32))
def j_X5_ring_18 (g : Nat) : Nat → hm → Nat → Int32 → Int32 → Option (hm × Int32)
  | 0, _, _, _, _ => none
  | n + 1, M, p0, p1, p2 => (gI M p0 5 5).bind fun v1 => if v1 ≤ p2 then (j_X5_ring_66 g M p1) else ((gR M p0 5 1).bind fun v3 => v3.bind fun b4 => (aR M b4 4 p2).bind fun v5 => match v5 with | none => (j_X5_ring_60 g (fun M p0 p1 p2 => j_X5_ring_18 g n M p0 p1 p2) M p0 p1 p2) | some b6 => ((gI M b6 0 0).bind fun v7 => (gI M b6 0 1).bind fun v8 => (gI M b6 0 2).bind fun v9 => (isO M p0 5).bind fun _ => (j_X5_placesWhere g M p0 v7 v8 v9).bind fun v11 => (isO M b6 0).bind fun _ => (j_X0_look g M b6 v11).bind fun q13 => j_X5_ring_60 g (fun M p0 p1 p2 => j_X5_ring_18 g n M p0 p1 p2) q13.1 p0 (p1 + q13.2) p2))
theorem j_X5_ring_18_s (g : Nat) (n : Nat) (M : hm) (p0 : Nat) (p1 : Int32) (p2 : Int32) : j_X5_ring_18 g (n + 1) M p0 p1 p2 = ((gI M p0 5 5).bind fun v1 => if v1 ≤ p2 then (j_X5_ring_66 g M p1) else ((gR M p0 5 1).bind fun v3 => v3.bind fun b4 => (aR M b4 4 p2).bind fun v5 => match v5 with | none => (j_X5_ring_60 g (fun M p0 p1 p2 => j_X5_ring_18 g n M p0 p1 p2) M p0 p1 p2) | some b6 => ((gI M b6 0 0).bind fun v7 => (gI M b6 0 1).bind fun v8 => (gI M b6 0 2).bind fun v9 => (isO M p0 5).bind fun _ => (j_X5_placesWhere g M p0 v7 v8 v9).bind fun v11 => (isO M b6 0).bind fun _ => (j_X0_look g M b6 v11).bind fun q13 => j_X5_ring_60 g (fun M p0 p1 p2 => j_X5_ring_18 g n M p0 p1 p2) q13.1 p0 (p1 + q13.2) p2))) := rfl
def j_X5_ring (g : Nat) (M : hm) (a0 : Nat) : Option (hm × Int32) := (isO M a0 5).bind fun _ => (j_X5_settle g M a0).bind fun M15 => (gI M15 a0 5 6).bind fun v16 => (pV M15 a0 5 6 (.int (v16 + (1 : Int32)))).bind fun M17 => j_X5_ring_18 g g M17 a0 (0 : Int32) (0 : Int32)
def j_X5_takesReading_38 (g : Nat) (M : hm) (s0 : Int32) : Option (Int32) := (zb s0).bind fun _ => some s0
def j_X5_takesReading_37 (g : Nat) (M : hm) : Option (Int32) := j_X5_takesReading_38 g M (0 : Int32)
def j_X5_takesReading (g : Nat) (M : hm) (a0 : Nat) (a1 : Int32) (a2 : Int32) : Option (Int32) := (j_X5_isColumn g a1).bind fun v2 => if v2 = 0 then (j_X5_takesReading_37 g M) else ((j_X5_isPlace g a2).bind fun v4 => if v4 = 0 then (j_X5_takesReading_37 g M) else ((gR M a0 5 0).bind fun v6 => v6.bind fun b7 => (aR M b7 3 a1).bind fun v8 => v8.bind fun b9 => (isO M b9 3).bind fun _ => (j_X3_hasFormula g M b9).bind fun v11 => if v11 = 0 then ((isO M a0 5).bind fun _ => (j_X5_isFull g M a0).bind fun v14 => if v14 = 0 then (j_X5_takesReading_38 g M (1 : Int32)) else (j_X5_takesReading_37 g M)) else (j_X5_takesReading_37 g M)))
def j_X5_set_17 (g : Nat) (M : hm) : Option (hm × Int32) := some (M, (0 : Int32))
def j_X5_set (g : Nat) (M : hm) (a0 : Nat) (a1 : Int32) (a2 : Int32) (a3 : Int32) (a4 : Int32) : Option (hm × Int32) := (isO M a0 5).bind fun _ => (j_X5_takesReading g M a0 a1 a2).bind fun v2 => if v2 = 0 then (j_X5_set_17 g M) else ((j_X5_isExponent g a4).bind fun v4 => if v4 = 0 then (j_X5_set_17 g M) else ((isO M a0 5).bind fun _ => (j_X5_changed g M a0 a1).bind fun q7 => (gR q7.1 a0 5 2).bind fun v8 => v8.bind fun b9 => (gR q7.1 b9 2 0).bind fun v10 => v10.bind fun b11 => (isO q7.1 b11 4).bind fun _ => (j_X4_times g q7.1 b11 (FP.i2d a3) a4).bind fun v13 => q7.2.bind fun b14 => (isO q7.1 b14 3).bind fun _ => (j_X3_put g q7.1 b14 a2 v13).bind fun M16 => some (M16, (1 : Int32))))
def j_X5_special_16 (g : Nat) (M : hm) : Option (hm × Int32) := some (M, (0 : Int32))
def j_X5_special (g : Nat) (M : hm) (a0 : Nat) (a1 : Int32) (a2 : Int32) (a3 : Int32) : Option (hm × Int32) := (isO M a0 5).bind fun _ => (j_X5_takesReading g M a0 a1 a2).bind fun v2 => if v2 = 0 then (j_X5_special_16 g M) else ((j_X5_isSpecial g a3).bind fun v4 => if v4 = 0 then (j_X5_special_16 g M) else ((isO M a0 5).bind fun _ => (j_X5_changed g M a0 a1).bind fun q7 => (j_X5_putSpecial g q7.1 q7.2 a2 a3).bind fun M8 => some (M8, (1 : Int32))))
def j_X5_toldOfBook (g : Nat) (M : hm) (a0 : Nat) (a1 : Int32) : Option (Int32) := if a1 = (0 : Int32) then ((gI M a0 5 4).bind fun v4 => some v4) else if a1 = (1 : Int32) then ((gI M a0 5 5).bind fun v5 => some v5) else if a1 = (2 : Int32) then ((gI M a0 5 6).bind fun v6 => some v6) else (some (-1 : Int32))
def j_X5_toldOfColumn_57 (g : Nat) (M : hm) (s0 : Int32) : Option (Int32) := some s0
def j_X5_toldOfColumn_44 (g : Nat) (M : hm) (s0 : Int32) : Option (Int32) := some s0
def j_X5_toldOfColumn (g : Nat) (M : hm) (a0 : Option Nat) (a1 : Int32) : Option (Int32) := if a1 = (0 : Int32) then (a0.bind fun b5 => (isO M b5 3).bind fun _ => (j_X3_hasFormula g M b5).bind fun v7 => if v7 = 0 then (j_X5_toldOfColumn_44 g M (0 : Int32)) else (j_X5_toldOfColumn_44 g M (1 : Int32))) else if a1 = (1 : Int32) then (a0.bind fun b9 => (gI M b9 3 2).bind fun v10 => if v10 = 0 then (j_X5_toldOfColumn_57 g M (0 : Int32)) else (j_X5_toldOfColumn_57 g M (1 : Int32))) else if a1 = (2 : Int32) then (a0.bind fun b12 => (gI M b12 3 1).bind fun v13 => (j_J6_bitCount_0f7a4 g v13).bind fun v14 => some v14) else if a1 = (3 : Int32) then (a0.bind fun b15 => (gI M b15 3 3).bind fun v16 => some v16) else (some (-1 : Int32))
def j_X5_told_37 (g : Nat) (M : hm) (s0 : Int32) : Option (hm × Int32) := some (M, s0)
def j_X5_told (g : Nat) (M : hm) (a0 : Nat) (a1 : Int32) (a2 : Int32) : Option (hm × Int32) := if a1 = (12 : Int32) then ((isO M a0 5).bind fun _ => (j_X5_toldOfBook g M a0 a2).bind fun v11 => some (M, v11)) else ((isO M a0 5).bind fun _ => (j_X5_settle g M a0).bind fun M3 => (j_X5_isColumn g a1).bind fun v4 => if v4 = 0 then (j_X5_told_37 g M3 (-1 : Int32)) else ((gR M3 a0 5 0).bind fun v6 => v6.bind fun b7 => (aR M3 b7 3 a1).bind fun v8 => (j_X5_toldOfColumn g M3 v8 a2).bind fun v9 => j_X5_told_37 g M3 v9))
def j_X5_width_27 (g : Nat) (M : hm) : Option (hm × Int32) := some (M, (0 : Int32))
def j_X5_width (g : Nat) (M : hm) (a0 : Nat) (a1 : Int32) (a2 : Int32) : Option (hm × Int32) := (j_X5_isColumn g a1).bind fun v1 => if v1 = 0 then (j_X5_width_27 g M) else ((gR M a0 5 0).bind fun v3 => v3.bind fun b4 => (aR M b4 3 a1).bind fun v5 => v5.bind fun b6 => (gI M b6 3 2).bind fun v7 => if v7 = a2 then (j_X5_width_27 g M) else ((isO M a0 5).bind fun _ => (j_X5_isFull g M a0).bind fun v10 => if v10 = 0 then ((isO M a0 5).bind fun _ => (j_X5_changed g M a0 a1).bind fun q13 => q13.2.bind fun b14 => (isO q13.1 b14 3).bind fun _ => (j_X3_bringTo g q13.1 b14 a2).bind fun M16 => some (M16, (1 : Int32))) else (j_X5_width_27 g M)))
def j_X6_isIn_15 (g : Nat) (s0 : Int32) : Option (Int32) := (zb s0).bind fun _ => some s0
def j_X6_isIn_14 (g : Nat) : Option (Int32) := j_X6_isIn_15 g (0 : Int32)
def j_X6_isIn (g : Nat) (a0 : Int32) (a1 : Int32) (a2 : Int32) : Option (Int32) := if a0 < a1 then (j_X6_isIn_14 g) else (if a2 < a0 then (j_X6_isIn_14 g) else (j_X6_isIn_15 g (1 : Int32)))
def j_X6_alarm_50 (g : Nat) (M : hm) : Option (hm × Int32) := some (M, (-1 : Int32))
def j_X6_alarm_41 (g : Nat) (M : hm) (p0 : Nat) (p1 : Int32) (p2 : Int32) (p3 : Int32) : Option (hm × Int32) := (gI M p0 6 15).bind fun v1 => if v1 = (10 : Int32) then (j_X6_alarm_50 g M) else ((gR M p0 6 11).bind fun v3 => (gI M p0 6 15).bind fun v4 => v3.bind fun b5 => (sI M b5 ((3 : Int32) * v4) p1).bind fun M6 => (gR M6 p0 6 11).bind fun v7 => (gI M6 p0 6 15).bind fun v8 => v7.bind fun b9 => (sI M6 b9 (((3 : Int32) * v8) + (1 : Int32)) p2).bind fun M10 => (gR M10 p0 6 11).bind fun v11 => (gI M10 p0 6 15).bind fun v12 => v11.bind fun b13 => (sI M10 b13 (((3 : Int32) * v12) + (2 : Int32)) p3).bind fun M14 => (gI M14 p0 6 15).bind fun v15 => (pV M14 p0 6 15 (.int (v15 + (1 : Int32)))).bind fun M16 => (gI M16 p0 6 15).bind fun v17 => some (M16, (v17 - (1 : Int32))))
def j_X6_alarm (g : Nat) (M : hm) (a0 : Nat) (a1 : Int32) (a2 : Int32) (a3 : Int32) : Option (hm × Int32) := (j_X6_isIn g a1 (0 : Int32) (11 : Int32)).bind fun v18 => if v18 = 0 then (j_X6_alarm_50 g M) else ((j_X6_isIn g a2 (0 : Int32) (11 : Int32)).bind fun v20 => if v20 = 0 then (j_X6_alarm_50 g M) else ((j_X6_isIn g a3 (0 : Int32) (11 : Int32)).bind fun v22 => if v22 = 0 then ((j_X6_isIn g a3 (16 : Int32) (23 : Int32)).bind fun v24 => if v24 = 0 then (j_X6_alarm_50 g M) else (j_X6_alarm_41 g M a0 a1 a2 a3)) else (j_X6_alarm_41 g M a0 a1 a2 a3)))
def j_X6_manyBits_24 (g : Nat) (p1 : Int32) : Option (Int32) := some p1
def j_X6_manyBits_4 (g : Nat) : Nat → Int32 → Int32 → Int32 → Option (Int32)
  | 0, _, _, _ => none
  | n + 1, p0, p1, p2 => if (16 : Int32) ≤ p2 then (j_X6_manyBits_24 g p1) else (j_X6_manyBits_4 g n p0 (p1 + ((p0 >>> (p2 &&& 31)) &&& (1 : Int32))) (p2 + (1 : Int32)))
theorem j_X6_manyBits_4_s (g : Nat) (n : Nat) (p0 : Int32) (p1 : Int32) (p2 : Int32) : j_X6_manyBits_4 g (n + 1) p0 p1 p2 = (if (16 : Int32) ≤ p2 then (j_X6_manyBits_24 g p1) else (j_X6_manyBits_4 g n p0 (p1 + ((p0 >>> (p2 &&& 31)) &&& (1 : Int32))) (p2 + (1 : Int32)))) := rfl
def j_X6_manyBits (g : Nat) (a0 : Int32) : Option (Int32) := j_X6_manyBits_4 g g a0 (0 : Int32) (0 : Int32)
def j_X6_alarmed_100 (g : Nat) (M : hm) (s0 : Int32) : Option (Int32) := some s0
def j_X6_alarmed_89 (g : Nat) (M : hm) (p3 : Int32) : Option (Int32) := if (16 : Int32) ≤ p3 then (j_X6_alarmed_100 g M (-1 : Int32)) else (j_X6_alarmed_100 g M p3)
def j_X6_alarmed_64 (g : Nat) (M : hm) : Nat → Nat → Int32 → Int32 → Option (Int32)
  | 0, _, _, _ => none
  | n + 1, p0, p1, p3 => if (16 : Int32) ≤ p3 then (j_X6_alarmed_89 g M p3) else ((gR M p0 6 13).bind fun v3 => v3.bind fun b4 => (aI M b4 1 p1).bind fun v5 => if ((v5 >>> (p3 &&& 31)) &&& (1 : Int32)) = 0 then (j_X6_alarmed_64 g M n p0 p1 (p3 + (1 : Int32))) else (j_X6_alarmed_89 g M p3))
theorem j_X6_alarmed_64_s (g : Nat) (M : hm) (n : Nat) (p0 : Nat) (p1 : Int32) (p3 : Int32) : j_X6_alarmed_64 g M (n + 1) p0 p1 p3 = (if (16 : Int32) ≤ p3 then (j_X6_alarmed_89 g M p3) else ((gR M p0 6 13).bind fun v3 => v3.bind fun b4 => (aI M b4 1 p1).bind fun v5 => if ((v5 >>> (p3 &&& 31)) &&& (1 : Int32)) = 0 then (j_X6_alarmed_64 g M n p0 p1 (p3 + (1 : Int32))) else (j_X6_alarmed_89 g M p3))) := rfl
def j_X6_alarmed_58 (g : Nat) (M : hm) (s0 : Int32) : Option (Int32) := (j_X6_manyBits g s0).bind fun v7 => some v7
def j_X6_alarmed_32 (g : Nat) (M : hm) : Option (Int32) := some (-1 : Int32)
def j_X6_alarmed (g : Nat) (M : hm) (a0 : Nat) (a1 : Int32) (a2 : Int32) : Option (Int32) := (gI M a0 6 15).bind fun v8 => (j_X6_isIn g a1 (0 : Int32) (v8 - (1 : Int32))).bind fun v9 => if v9 = 0 then (j_X6_alarmed_32 g M) else ((gR M a0 6 14).bind fun v11 => v11.bind fun b12 => (aI M b12 2 a1).bind fun v13 => if v13 = 0 then (j_X6_alarmed_32 g M) else ((j_X6_isIn g a2 (0 : Int32) (2 : Int32)).bind fun v15 => if v15 = 0 then (j_X6_alarmed_32 g M) else (if (2 : Int32) ≤ a2 then (j_X6_alarmed_64 g g M a0 a1 (0 : Int32)) else (if a2 = 0 then ((gR M a0 6 12).bind fun v22 => v22.bind fun b23 => (aI M b23 1 a1).bind fun v24 => j_X6_alarmed_58 g M v24) else ((gR M a0 6 13).bind fun v19 => v19.bind fun b20 => (aI M b20 1 a1).bind fun v21 => j_X6_alarmed_58 g M v21)))))
def j_X6_at_23 (g : Nat) (s0 : Int32) : Option (Int32) := some s0
def j_X6_at (g : Nat) (a0 : Int32) (a1 : Int32) : Option (Int32) := if a0 < (16 : Int32) then (j_X6_at_23 g (((16 : Int32) * a0) + a1)) else (j_X6_at_23 g (((192 : Int32) + a0) - (16 : Int32)))
def j_X6_back_144 (g : Nat) (M : hm) (p0 : Nat) : Option (hm × Int32) := (gI M p0 6 10).bind fun v1 => some (M, v1)
def j_X6_back_112 (g : Nat) : Nat → hm → Nat → Int32 → Option (hm × Int32)
  | 0, _, _, _ => none
  | n + 1, M, p0, p1 => if (48 : Int32) ≤ p1 then (j_X6_back_144 g M p0) else ((gR M p0 6 3).bind fun v3 => (gR M p0 6 9).bind fun v4 => (gI M p0 6 10).bind fun v5 => v4.bind fun b6 => (aI M b6 1 (((48 : Int32) * v5) + p1)).bind fun v7 => v3.bind fun b8 => (sI M b8 p1 v7).bind fun M9 => j_X6_back_112 g n M9 p0 (p1 + (1 : Int32)))
theorem j_X6_back_112_s (g : Nat) (n : Nat) (M : hm) (p0 : Nat) (p1 : Int32) : j_X6_back_112 g (n + 1) M p0 p1 = (if (48 : Int32) ≤ p1 then (j_X6_back_144 g M p0) else ((gR M p0 6 3).bind fun v3 => (gR M p0 6 9).bind fun v4 => (gI M p0 6 10).bind fun v5 => v4.bind fun b6 => (aI M b6 1 (((48 : Int32) * v5) + p1)).bind fun v7 => v3.bind fun b8 => (sI M b8 p1 v7).bind fun M9 => j_X6_back_112 g n M9 p0 (p1 + (1 : Int32)))) := rfl
def j_X6_back_110 (g : Nat) (M : hm) (p0 : Nat) : Option (hm × Int32) := j_X6_back_112 g g M p0 (0 : Int32)
def j_X6_back_78 (g : Nat) : Nat → hm → Nat → Int32 → Option (hm × Int32)
  | 0, _, _, _ => none
  | n + 1, M, p0, p1 => if (12 : Int32) ≤ p1 then (j_X6_back_110 g M p0) else ((gR M p0 6 2).bind fun v11 => (gR M p0 6 8).bind fun v12 => (gI M p0 6 10).bind fun v13 => v12.bind fun b14 => (aI M b14 2 (((12 : Int32) * v13) + p1)).bind fun v15 => v11.bind fun b16 => (sZ M b16 p1 v15).bind fun M17 => j_X6_back_78 g n M17 p0 (p1 + (1 : Int32)))
theorem j_X6_back_78_s (g : Nat) (n : Nat) (M : hm) (p0 : Nat) (p1 : Int32) : j_X6_back_78 g (n + 1) M p0 p1 = (if (12 : Int32) ≤ p1 then (j_X6_back_110 g M p0) else ((gR M p0 6 2).bind fun v11 => (gR M p0 6 8).bind fun v12 => (gI M p0 6 10).bind fun v13 => v12.bind fun b14 => (aI M b14 2 (((12 : Int32) * v13) + p1)).bind fun v15 => v11.bind fun b16 => (sZ M b16 p1 v15).bind fun M17 => j_X6_back_78 g n M17 p0 (p1 + (1 : Int32)))) := rfl
def j_X6_back_76 (g : Nat) (M : hm) (p0 : Nat) : Option (hm × Int32) := j_X6_back_78 g g M p0 (0 : Int32)
def j_X6_back_21 (g : Nat) : Nat → hm → Nat → Int32 → Option (hm × Int32)
  | 0, _, _, _ => none
  | n + 1, M, p0, p1 => if (200 : Int32) ≤ p1 then (j_X6_back_76 g M p0) else ((gR M p0 6 0).bind fun v19 => (gR M p0 6 6).bind fun v20 => (gI M p0 6 10).bind fun v21 => v20.bind fun b22 => (aD M b22 (((200 : Int32) * v21) + p1)).bind fun v23 => v19.bind fun b24 => (sD M b24 p1 v23).bind fun M25 => (gR M25 p0 6 1).bind fun v26 => (gR M25 p0 6 7).bind fun v27 => (gI M25 p0 6 10).bind fun v28 => v27.bind fun b29 => (aI M25 b29 2 (((200 : Int32) * v28) + p1)).bind fun v30 => v26.bind fun b31 => (sZ M25 b31 p1 v30).bind fun M32 => j_X6_back_21 g n M32 p0 (p1 + (1 : Int32)))
theorem j_X6_back_21_s (g : Nat) (n : Nat) (M : hm) (p0 : Nat) (p1 : Int32) : j_X6_back_21 g (n + 1) M p0 p1 = (if (200 : Int32) ≤ p1 then (j_X6_back_76 g M p0) else ((gR M p0 6 0).bind fun v19 => (gR M p0 6 6).bind fun v20 => (gI M p0 6 10).bind fun v21 => v20.bind fun b22 => (aD M b22 (((200 : Int32) * v21) + p1)).bind fun v23 => v19.bind fun b24 => (sD M b24 p1 v23).bind fun M25 => (gR M25 p0 6 1).bind fun v26 => (gR M25 p0 6 7).bind fun v27 => (gI M25 p0 6 10).bind fun v28 => v27.bind fun b29 => (aI M25 b29 2 (((200 : Int32) * v28) + p1)).bind fun v30 => v26.bind fun b31 => (sZ M25 b31 p1 v30).bind fun M32 => j_X6_back_21 g n M32 p0 (p1 + (1 : Int32)))) := rfl
def j_X6_back (g : Nat) (M : hm) (a0 : Nat) : Option (hm × Int32) := (gI M a0 6 10).bind fun v33 => if v33 = 0 then (some (M, (-1 : Int32))) else ((gI M a0 6 10).bind fun v35 => (pV M a0 6 10 (.int (v35 - (1 : Int32)))).bind fun M36 => j_X6_back_21 g g M36 a0 (0 : Int32))
def j_X6_noX (g : Nat) (M : hm) (a0 : Nat) (a1 : Int32) (a2 : Int32) : Option (Int32) := (gR M a0 6 5).bind fun v1 => (gR M a0 6 3).bind fun v2 => v2.bind fun b3 => (aI M b3 1 (((4 : Int32) * a1) + (1 : Int32))).bind fun v4 => (j_X6_at g v4 a2).bind fun v5 => v1.bind fun b6 => (aI M b6 2 v5).bind fun v7 => (zb v7).bind fun _ => some v7
def j_X6_noY (g : Nat) (M : hm) (a0 : Nat) (a1 : Int32) (a2 : Int32) : Option (Int32) := (gR M a0 6 5).bind fun v1 => (gR M a0 6 3).bind fun v2 => v2.bind fun b3 => (aI M b3 1 (((4 : Int32) * a1) + (2 : Int32))).bind fun v4 => (j_X6_at g v4 a2).bind fun v5 => v1.bind fun b6 => (aI M b6 2 v5).bind fun v7 => (zb v7).bind fun _ => some v7
def j_X6_givesNothing (g : Nat) (M : hm) (a0 : Nat) : Option (hm) := (pV M a0 6 17 (.double FP.dconst0)).bind fun M1 => (pV M1 a0 6 18 (.int (1 : Int32))).bind fun M2 => some M2
def j_X6_brought_11 (g : Nat) (s0 : UInt64) : Option (UInt64) := some s0
def j_X6_brought (g : Nat) (a0 : UInt64) (a2 : Int32) : Option (UInt64) := if a2 = 0 then (j_X6_brought_11 g a0) else ((n32 (FP.d2f a0)).bind fun v2 => (n64 (FP.f2d v2)).bind fun v3 => j_X6_brought_11 g v3)
def j_X6_x (g : Nat) (M : hm) (a0 : Nat) (a1 : Int32) (a2 : Int32) : Option (UInt64) := (gR M a0 6 4).bind fun v1 => (gR M a0 6 3).bind fun v2 => v2.bind fun b3 => (aI M b3 1 (((4 : Int32) * a1) + (1 : Int32))).bind fun v4 => (j_X6_at g v4 a2).bind fun v5 => v1.bind fun b6 => (aD M b6 v5).bind fun v7 => (gR M a0 6 2).bind fun v8 => v8.bind fun b9 => (aI M b9 2 a1).bind fun v10 => (j_X6_brought g v7 v10).bind fun v11 => some v11
def j_X6_gives (g : Nat) (M : hm) (a0 : Nat) (a1 : UInt64) : Option (hm) := (pV M a0 6 17 (.double a1)).bind fun M1 => (pV M1 a0 6 18 (.int (0 : Int32))).bind fun M2 => some M2
def j_X6_isZero_11 (g : Nat) (s0 : Int32) : Option (Int32) := (zb s0).bind fun _ => some s0
def j_X6_isZero (g : Nat) (a0 : UInt64) : Option (Int32) := if (Op.cmpValue (FP.dcmp a0 FP.dconst0) CmpOp.l) = 0 then (j_X6_isZero_11 g (1 : Int32)) else (j_X6_isZero_11 g (0 : Int32))
def j_X6_hasMinus_34 (g : Nat) (s0 : Int32) : Option (Int32) := (zb s0).bind fun _ => some s0
def j_X6_hasMinus (g : Nat) (a0 : UInt64) : Option (Int32) := (j_X6_isZero g a0).bind fun v2 => if v2 = 0 then (if 0 ≤ (Op.cmpValue (FP.dcmp a0 FP.dconst0) CmpOp.g) then (j_X6_hasMinus_34 g (0 : Int32)) else (j_X6_hasMinus_34 g (1 : Int32))) else ((n64 (FP.ddiv FP.dconst1 a0)).bind fun v5 => if 0 ≤ (Op.cmpValue (FP.dcmp v5 FP.dconst0) CmpOp.g) then (j_X6_hasMinus_34 g (0 : Int32)) else (j_X6_hasMinus_34 g (1 : Int32)))
def j_X6_zero_11 (g : Nat) (s0 : UInt64) : Option (UInt64) := some s0
def j_X6_zero (g : Nat) (a0 : Int32) : Option (UInt64) := if a0 = 0 then (j_X6_zero_11 g FP.dconst0) else (j_X6_zero_11 g (9223372036854775808 : UInt64))
def j_X6_whole_165 (g : Nat) (s0 : UInt64) : Option (UInt64) := some s0
def j_X6_whole_147 (g : Nat) (p0 : UInt64) (p3 : Int64) : Option (UInt64) := if (lg_cmp p3 (0 : Int64)) = 0 then ((j_X6_hasMinus g p0).bind fun v2 => (j_X6_zero g v2).bind fun v3 => j_X6_whole_165 g v3) else (j_X6_whole_165 g (FP.l2d p3))
def j_X6_whole_145 (g : Nat) (p0 : UInt64) (s0 : Int64) (s1 : Int64) : Option (UInt64) := j_X6_whole_147 g p0 (s1 + s0)
def j_X6_whole_144 (g : Nat) (p0 : UInt64) (s0 : Int64) : Option (UInt64) := j_X6_whole_145 g p0 (0 : Int64) s0
def j_X6_whole_138 (g : Nat) (p0 : UInt64) (s0 : Int64) : Option (UInt64) := j_X6_whole_145 g p0 (-1 : Int64) s0
def j_X6_whole_115 (g : Nat) (p0 : UInt64) (p5 : UInt64) (p7 : Int32) (s0 : Int64) : Option (UInt64) := if (Op.cmpValue (FP.dcmp p5 (13826050856027422720 : UInt64)) CmpOp.g) < 0 then (j_X6_whole_138 g p0 s0) else (if (Op.cmpValue (FP.dcmp p5 (13826050856027422720 : UInt64)) CmpOp.l) = 0 then (if p7 = 0 then (j_X6_whole_144 g p0 s0) else (j_X6_whole_138 g p0 s0)) else (j_X6_whole_144 g p0 s0))
def j_X6_whole_111 (g : Nat) (p0 : UInt64) (s0 : Int64) : Option (UInt64) := j_X6_whole_145 g p0 (1 : Int64) s0
def j_X6_whole_85 (g : Nat) (p0 : UInt64) (p3 : Int64) (p5 : UInt64) (s0 : Int32) : Option (UInt64) := if 0 < (Op.cmpValue (FP.dcmp p5 (4602678819172646912 : UInt64)) CmpOp.l) then (j_X6_whole_111 g p0 p3) else (if (Op.cmpValue (FP.dcmp p5 (4602678819172646912 : UInt64)) CmpOp.l) = 0 then (if s0 = 0 then (j_X6_whole_115 g p0 p5 s0 p3) else (j_X6_whole_111 g p0 p3)) else (j_X6_whole_115 g p0 p5 s0 p3))
def j_X6_whole_67 (g : Nat) (p0 : UInt64) (s0 : Int64) (s1 : Int64) : Option (UInt64) := j_X6_whole_147 g p0 (s1 + s0)
def j_X6_whole_44 (g : Nat) (p0 : UInt64) (s0 : Int64) (s1 : Int64) : Option (UInt64) := j_X6_whole_147 g p0 (s1 - s0)
def j_X6_whole_16 (g : Nat) (p0 : UInt64) : Option (UInt64) := some p0
def j_X6_whole (g : Nat) (a0 : UInt64) (a2 : Int32) : Option (UInt64) := if 0 ≤ (Op.cmpValue (FP.dcmp a0 (4841369599423283200 : UInt64)) CmpOp.l) then (j_X6_whole_16 g a0) else (if 0 < (Op.cmpValue (FP.dcmp a0 (14064741636278059008 : UInt64)) CmpOp.g) then ((n64 (FP.dsub a0 (FP.l2d (FP.d2l a0)))).bind fun v12 => if a2 = 0 then (if 0 ≤ (Op.cmpValue (FP.dcmp v12 FP.dconst0) CmpOp.g) then (j_X6_whole_44 g a0 (0 : Int64) (FP.d2l a0)) else (j_X6_whole_44 g a0 (1 : Int64) (FP.d2l a0))) else (if a2 = (1 : Int32) then (if (Op.cmpValue (FP.dcmp v12 FP.dconst0) CmpOp.l) ≤ 0 then (j_X6_whole_67 g a0 (0 : Int64) (FP.d2l a0)) else (j_X6_whole_67 g a0 (1 : Int64) (FP.d2l a0))) else (if (lg_cmp ((FP.d2l a0) &&& (1 : Int64)) (1 : Int64)) = 0 then (j_X6_whole_85 g a0 (FP.d2l a0) v12 (1 : Int32)) else (j_X6_whole_85 g a0 (FP.d2l a0) v12 (0 : Int32))))) else (j_X6_whole_16 g a0))
def j_X6_quotient_17 (g : Nat) (s0 : UInt64) : Option (UInt64) := some s0
def j_X6_quotient (g : Nat) (a0 : UInt64) (a2 : UInt64) (a4 : Int32) : Option (UInt64) := if a4 = 0 then ((n64 (FP.ddiv a0 a2)).bind fun v2 => j_X6_quotient_17 g v2) else ((n32 (FP.d2f a0)).bind fun v3 => (n32 (FP.d2f a2)).bind fun v4 => (n32 (FP.fdiv v3 v4)).bind fun v5 => (n64 (FP.f2d v5)).bind fun v6 => j_X6_quotient_17 g v6)
def j_X6_product_17 (g : Nat) (s0 : UInt64) : Option (UInt64) := some s0
def j_X6_product (g : Nat) (a0 : UInt64) (a2 : UInt64) (a4 : Int32) : Option (UInt64) := if a4 = 0 then ((n64 (FP.dmul a0 a2)).bind fun v2 => j_X6_product_17 g v2) else ((n32 (FP.d2f a0)).bind fun v3 => (n32 (FP.d2f a2)).bind fun v4 => (n32 (FP.fmul v3 v4)).bind fun v5 => (n64 (FP.f2d v5)).bind fun v6 => j_X6_product_17 g v6)
def j_X6_single_180 (g : Nat) (M : hm) : Option (hm) := some M
def j_X6_single_136 (g : Nat) (M : hm) (s0 : UInt64) (s1 : Nat) : Option (hm) := (isO M s1 6).bind fun _ => (j_X6_gives g M s1 s0).bind fun M2 => j_X6_single_180 g M2
def j_X6_single_70 (g : Nat) (M : hm) (s0 : UInt64) (s1 : Nat) : Option (hm) := (isO M s1 6).bind fun _ => (j_X6_gives g M s1 s0).bind fun M4 => j_X6_single_180 g M4
def j_X6_single (g : Nat) (M : hm) (a0 : Nat) (a1 : Int32) (a2 : UInt64) (a4 : Int32) : Option (hm) := if a1 = (0 : Int32) then ((isO M a0 6).bind fun _ => (j_X6_gives g M a0 a2).bind fun M14 => j_X6_single_180 g M14) else if a1 = (1 : Int32) then ((j_X6_hasMinus g a2).bind fun v15 => if v15 = 0 then (j_X6_single_70 g M a2 a0) else (j_X6_single_70 g M (FP.dneg a2) a0)) else if a1 = (2 : Int32) then ((j_X6_whole g a2 (0 : Int32)).bind fun v17 => (isO M a0 6).bind fun _ => (j_X6_gives g M a0 v17).bind fun M19 => j_X6_single_180 g M19) else if a1 = (3 : Int32) then ((j_X6_whole g a2 (1 : Int32)).bind fun v20 => (isO M a0 6).bind fun _ => (j_X6_gives g M a0 v20).bind fun M22 => j_X6_single_180 g M22) else if a1 = (4 : Int32) then ((j_X6_whole g a2 (2 : Int32)).bind fun v23 => (isO M a0 6).bind fun _ => (j_X6_gives g M a0 v23).bind fun M25 => j_X6_single_180 g M25) else if a1 = (5 : Int32) then (if (Op.cmpValue (FP.dcmp a2 FP.dconst0) CmpOp.l) ≤ 0 then (if 0 ≤ (Op.cmpValue (FP.dcmp a2 FP.dconst0) CmpOp.g) then (j_X6_single_136 g M a2 a0) else (j_X6_single_136 g M (13830554455654793216 : UInt64) a0)) else (j_X6_single_136 g M FP.dconst1 a0)) else if a1 = (6 : Int32) then ((j_X6_quotient g a2 (4611686018427387904 : UInt64) a4).bind fun v28 => (isO M a0 6).bind fun _ => (j_X6_gives g M a0 v28).bind fun M30 => j_X6_single_180 g M30) else if a1 = (7 : Int32) then ((j_X6_product g (4611686018427387904 : UInt64) a2 a4).bind fun v31 => (isO M a0 6).bind fun _ => (j_X6_gives g M a0 v31).bind fun M33 => j_X6_single_180 g M33) else ((isO M a0 6).bind fun _ => (j_X6_gives g M a0 (FP.dneg a2)).bind fun M35 => j_X6_single_180 g M35)
def j_X6_y (g : Nat) (M : hm) (a0 : Nat) (a1 : Int32) (a2 : Int32) : Option (UInt64) := (gR M a0 6 4).bind fun v1 => (gR M a0 6 3).bind fun v2 => v2.bind fun b3 => (aI M b3 1 (((4 : Int32) * a1) + (2 : Int32))).bind fun v4 => (j_X6_at g v4 a2).bind fun v5 => v1.bind fun b6 => (aD M b6 v5).bind fun v7 => (gR M a0 6 2).bind fun v8 => v8.bind fun b9 => (aI M b9 2 a1).bind fun v10 => (j_X6_brought g v7 v10).bind fun v11 => some v11
def j_X6_isInfinite_21 (g : Nat) (s0 : Int32) : Option (Int32) := (zb s0).bind fun _ => some s0
def j_X6_isInfinite_16 (g : Nat) : Option (Int32) := j_X6_isInfinite_21 g (1 : Int32)
def j_X6_isInfinite (g : Nat) (a0 : UInt64) : Option (Int32) := if (Op.cmpValue (FP.dcmp a0 (9218868437227405312 : UInt64)) CmpOp.l) = 0 then (j_X6_isInfinite_16 g) else (if (Op.cmpValue (FP.dcmp a0 (18442240474082181120 : UInt64)) CmpOp.l) = 0 then (j_X6_isInfinite_16 g) else (j_X6_isInfinite_21 g (0 : Int32)))
def j_X6_sum_17 (g : Nat) (s0 : UInt64) : Option (UInt64) := some s0
def j_X6_sum (g : Nat) (a0 : UInt64) (a2 : UInt64) (a4 : Int32) : Option (UInt64) := if a4 = 0 then ((n64 (FP.dadd a0 a2)).bind fun v2 => j_X6_sum_17 g v2) else ((n32 (FP.d2f a0)).bind fun v3 => (n32 (FP.d2f a2)).bind fun v4 => (n32 (FP.fadd v3 v4)).bind fun v5 => (n64 (FP.f2d v5)).bind fun v6 => j_X6_sum_17 g v6)
def j_X6_difference_32 (g : Nat) (M : hm) : Option (hm) := some M
def j_X6_difference_20 (g : Nat) (M : hm) (p0 : Nat) (p1 : UInt64) (p3 : UInt64) (p5 : Int32) : Option (hm) := (j_X6_sum g p1 (FP.dneg p3) p5).bind fun v1 => (isO M p0 6).bind fun _ => (j_X6_gives g M p0 v1).bind fun M3 => j_X6_difference_32 g M3
def j_X6_difference (g : Nat) (M : hm) (a0 : Nat) (a1 : UInt64) (a3 : UInt64) (a5 : Int32) : Option (hm) := (j_X6_isInfinite g a1).bind fun v4 => if v4 = 0 then (j_X6_difference_20 g M a0 a1 a3 a5) else (if (Op.cmpValue (FP.dcmp a1 a3) CmpOp.l) = 0 then ((isO M a0 6).bind fun _ => (j_X6_givesNothing g M a0).bind fun M8 => j_X6_difference_32 g M8) else (j_X6_difference_20 g M a0 a1 a3 a5))
def j_X6_isLower_39 (g : Nat) (s0 : Int32) : Option (Int32) := (zb s0).bind fun _ => some s0
def j_X6_isLower_38 (g : Nat) : Option (Int32) := j_X6_isLower_39 g (0 : Int32)
def j_X6_isLower_34 (g : Nat) : Option (Int32) := j_X6_isLower_39 g (1 : Int32)
def j_X6_isLower (g : Nat) (a0 : UInt64) (a2 : UInt64) : Option (Int32) := if (Op.cmpValue (FP.dcmp a0 a2) CmpOp.g) < 0 then (j_X6_isLower_34 g) else ((j_X6_isZero g a0).bind fun v3 => if v3 = 0 then (j_X6_isLower_38 g) else ((j_X6_isZero g a2).bind fun v5 => if v5 = 0 then (j_X6_isLower_38 g) else ((j_X6_hasMinus g a0).bind fun v7 => if v7 = 0 then (j_X6_isLower_38 g) else ((j_X6_hasMinus g a2).bind fun v9 => if v9 = 0 then (j_X6_isLower_34 g) else (j_X6_isLower_38 g)))))
def j_X6_both_448 (g : Nat) (M : hm) : Option (hm) := some M
def j_X6_both_419 (g : Nat) (M : hm) (s0 : UInt64) (s1 : Nat) : Option (hm) := (isO M s1 6).bind fun _ => (j_X6_gives g M s1 s0).bind fun M2 => j_X6_both_448 g M2
def j_X6_both_394 (g : Nat) (M : hm) (s0 : UInt64) (s1 : Nat) : Option (hm) := (isO M s1 6).bind fun _ => (j_X6_gives g M s1 s0).bind fun M4 => j_X6_both_448 g M4
def j_X6_both_372 (g : Nat) (M : hm) (s0 : UInt64) (s1 : Nat) : Option (hm) := (isO M s1 6).bind fun _ => (j_X6_gives g M s1 s0).bind fun M6 => j_X6_both_448 g M6
def j_X6_both_350 (g : Nat) (M : hm) (s0 : UInt64) (s1 : Nat) : Option (hm) := (isO M s1 6).bind fun _ => (j_X6_gives g M s1 s0).bind fun M8 => j_X6_both_448 g M8
def j_X6_both_218 (g : Nat) (M : hm) (p0 : Nat) (p1 : Int32) (p2 : UInt64) (p4 : UInt64) (p6 : Int32) (p7 : Int32) : Option (hm) := if p7 = 0 then (if p1 = (9 : Int32) then ((j_X6_sum g p2 p4 p6).bind fun v18 => (isO M p0 6).bind fun _ => (j_X6_gives g M p0 v18).bind fun M20 => j_X6_both_448 g M20) else if p1 = (10 : Int32) then ((isO M p0 6).bind fun _ => (j_X6_difference g M p0 p2 p4 p6).bind fun M22 => j_X6_both_448 g M22) else if p1 = (11 : Int32) then ((j_X6_product g p2 p4 p6).bind fun v23 => (isO M p0 6).bind fun _ => (j_X6_gives g M p0 v23).bind fun M25 => j_X6_both_448 g M25) else if p1 = (12 : Int32) then ((j_X6_quotient g p2 p4 p6).bind fun v26 => (isO M p0 6).bind fun _ => (j_X6_gives g M p0 v26).bind fun M28 => j_X6_both_448 g M28) else if p1 = (13 : Int32) then ((j_X6_isInfinite g p4).bind fun v29 => if v29 = 0 then ((n64 (FP.drem p2 p4)).bind fun v31 => j_X6_both_350 g M v31 p0) else (j_X6_both_350 g M p2 p0)) else if p1 = (14 : Int32) then ((j_X6_isLower g p4 p2).bind fun v32 => if v32 = 0 then (j_X6_both_372 g M p2 p0) else (j_X6_both_372 g M p4 p0)) else if p1 = (15 : Int32) then ((j_X6_isLower g p2 p4).bind fun v34 => if v34 = 0 then (j_X6_both_394 g M p2 p0) else (j_X6_both_394 g M p4 p0)) else if p1 = (16 : Int32) then ((j_X6_hasMinus g p2).bind fun v36 => (j_X6_hasMinus g p4).bind fun v37 => if v36 = v37 then (j_X6_both_419 g M p2 p0) else (j_X6_both_419 g M (FP.dneg p2) p0)) else ((j_X6_quotient g p2 p4 p6).bind fun v39 => (j_X6_whole g v39 (2 : Int32)).bind fun v40 => (j_X6_product g v40 p4 p6).bind fun v41 => (isO M p0 6).bind fun _ => (j_X6_gives g M p0 v41).bind fun M43 => j_X6_both_448 g M43)) else ((isO M p0 6).bind fun _ => (j_X6_givesNothing g M p0).bind fun M45 => some M45)
def j_X6_both_210 (g : Nat) (M : hm) (p0 : Nat) (p1 : Int32) (p2 : UInt64) (p4 : UInt64) (p6 : Int32) (s0 : Int32) : Option (hm) := j_X6_both_218 g M p0 p1 p2 p4 p6 s0
def j_X6_both_205 (g : Nat) (M : hm) (p0 : Nat) (p1 : Int32) (p2 : UInt64) (p4 : UInt64) (p6 : Int32) : Option (hm) := j_X6_both_210 g M p0 p1 p2 p4 p6 (1 : Int32)
def j_X6_both_184 (g : Nat) (M : hm) (p0 : Nat) (p1 : Int32) (p2 : UInt64) (p4 : UInt64) (p6 : Int32) (s0 : Int32) : Option (hm) := j_X6_both_218 g M p0 p1 p2 p4 p6 s0
def j_X6_both_179 (g : Nat) (M : hm) (p0 : Nat) (p1 : Int32) (p2 : UInt64) (p4 : UInt64) (p6 : Int32) : Option (hm) := j_X6_both_184 g M p0 p1 p2 p4 p6 (1 : Int32)
def j_X6_both_159 (g : Nat) (M : hm) (p0 : Nat) (p1 : Int32) (p2 : UInt64) (p4 : UInt64) (p6 : Int32) (s0 : Int32) : Option (hm) := j_X6_both_218 g M p0 p1 p2 p4 p6 s0
def j_X6_both_158 (g : Nat) (M : hm) (p0 : Nat) (p1 : Int32) (p2 : UInt64) (p4 : UInt64) (p6 : Int32) : Option (hm) := j_X6_both_159 g M p0 p1 p2 p4 p6 (0 : Int32)
def j_X6_both_154 (g : Nat) (M : hm) (p0 : Nat) (p1 : Int32) (p2 : UInt64) (p4 : UInt64) (p6 : Int32) : Option (hm) := j_X6_both_159 g M p0 p1 p2 p4 p6 (1 : Int32)
def j_X6_both_139 (g : Nat) (M : hm) (p0 : Nat) (p1 : Int32) (p2 : UInt64) (p4 : UInt64) (p6 : Int32) : Option (hm) := (j_X6_isInfinite g p2).bind fun v46 => if v46 = 0 then (j_X6_both_158 g M p0 p1 p2 p4 p6) else ((j_X6_isInfinite g p4).bind fun v48 => if v48 = 0 then (j_X6_both_158 g M p0 p1 p2 p4 p6) else (j_X6_both_154 g M p0 p1 p2 p4 p6))
def j_X6_both_119 (g : Nat) (M : hm) (p0 : Nat) (p1 : Int32) (p2 : UInt64) (p4 : UInt64) (p6 : Int32) (s0 : Int32) : Option (hm) := j_X6_both_218 g M p0 p1 p2 p4 p6 s0
def j_X6_both_118 (g : Nat) (M : hm) (p0 : Nat) (p1 : Int32) (p2 : UInt64) (p4 : UInt64) (p6 : Int32) : Option (hm) := j_X6_both_119 g M p0 p1 p2 p4 p6 (0 : Int32)
def j_X6_both_114 (g : Nat) (M : hm) (p0 : Nat) (p1 : Int32) (p2 : UInt64) (p4 : UInt64) (p6 : Int32) : Option (hm) := j_X6_both_119 g M p0 p1 p2 p4 p6 (1 : Int32)
def j_X6_both_99 (g : Nat) (M : hm) (p0 : Nat) (p1 : Int32) (p2 : UInt64) (p4 : UInt64) (p6 : Int32) : Option (hm) := (j_X6_isInfinite g p2).bind fun v50 => if v50 = 0 then (j_X6_both_118 g M p0 p1 p2 p4 p6) else ((j_X6_isZero g p4).bind fun v52 => if v52 = 0 then (j_X6_both_118 g M p0 p1 p2 p4 p6) else (j_X6_both_114 g M p0 p1 p2 p4 p6))
def j_X6_both_79 (g : Nat) (M : hm) (p0 : Nat) (p1 : Int32) (p2 : UInt64) (p4 : UInt64) (p6 : Int32) (s0 : Int32) : Option (hm) := j_X6_both_218 g M p0 p1 p2 p4 p6 s0
def j_X6_both_78 (g : Nat) (M : hm) (p0 : Nat) (p1 : Int32) (p2 : UInt64) (p4 : UInt64) (p6 : Int32) : Option (hm) := j_X6_both_79 g M p0 p1 p2 p4 p6 (0 : Int32)
def j_X6_both (g : Nat) (M : hm) (a0 : Nat) (a1 : Int32) (a2 : UInt64) (a4 : UInt64) (a6 : Int32) : Option (hm) := if a1 = (9 : Int32) then ((j_X6_isInfinite g a2).bind fun v59 => if v59 = 0 then (j_X6_both_78 g M a0 a1 a2 a4 a6) else ((j_X6_isInfinite g a4).bind fun v61 => if v61 = 0 then (j_X6_both_78 g M a0 a1 a2 a4 a6) else (if (Op.cmpValue (FP.dcmp a2 a4) CmpOp.l) = 0 then (j_X6_both_78 g M a0 a1 a2 a4 a6) else (j_X6_both_79 g M a0 a1 a2 a4 a6 (1 : Int32))))) else if a1 = (11 : Int32) then ((j_X6_isZero g a2).bind fun v64 => if v64 = 0 then (j_X6_both_99 g M a0 a1 a2 a4 a6) else ((j_X6_isInfinite g a4).bind fun v66 => if v66 = 0 then (j_X6_both_99 g M a0 a1 a2 a4 a6) else (j_X6_both_114 g M a0 a1 a2 a4 a6))) else if a1 = (12 : Int32) then ((j_X6_isZero g a2).bind fun v68 => if v68 = 0 then (j_X6_both_139 g M a0 a1 a2 a4 a6) else ((j_X6_isZero g a4).bind fun v70 => if v70 = 0 then (j_X6_both_139 g M a0 a1 a2 a4 a6) else (j_X6_both_154 g M a0 a1 a2 a4 a6))) else if a1 = (13 : Int32) then ((j_X6_isZero g a4).bind fun v72 => if v72 = 0 then ((j_X6_isInfinite g a2).bind fun v74 => if v74 = 0 then (j_X6_both_184 g M a0 a1 a2 a4 a6 (0 : Int32)) else (j_X6_both_179 g M a0 a1 a2 a4 a6)) else (j_X6_both_179 g M a0 a1 a2 a4 a6)) else if a1 = (26 : Int32) then ((j_X6_isZero g a4).bind fun v76 => if v76 = 0 then ((j_X6_isInfinite g a4).bind fun v78 => if v78 = 0 then (j_X6_both_210 g M a0 a1 a2 a4 a6 (0 : Int32)) else (j_X6_both_205 g M a0 a1 a2 a4 a6)) else (j_X6_both_205 g M a0 a1 a2 a4 a6)) else (j_X6_both_218 g M a0 a1 a2 a4 a6 (0 : Int32))
def j_X6_isSo_170 (g : Nat) (s0 : Int32) : Option (Int32) := (zb s0).bind fun _ => some s0
def j_X6_isSo_149 (g : Nat) (p0 : Int32) (p8 : Int32) : Option (Int32) := if (6 : Int32) ≤ p0 then (if p8 = 0 then (j_X6_isSo_170 g (1 : Int32)) else (j_X6_isSo_170 g (0 : Int32))) else (j_X6_isSo_170 g p8)
def j_X6_isSo_147 (g : Nat) (p0 : Int32) (s0 : Int32) : Option (Int32) := j_X6_isSo_149 g p0 s0
def j_X6_isSo_26 (g : Nat) (p0 : Int32) (s0 : Int32) : Option (Int32) := j_X6_isSo_149 g p0 s0
def j_X6_isSo_15 (g : Nat) (p0 : Int32) (p7 : Int32) : Option (Int32) := if p7 = (5 : Int32) then (j_X6_isSo_26 g p0 (1 : Int32)) else (j_X6_isSo_26 g p0 (0 : Int32))
def j_X6_isSo (g : Nat) (a0 : Int32) (a1 : UInt64) (a3 : Int32) (a4 : UInt64) (a6 : Int32) : Option (Int32) := if a3 = 0 then (if a6 = 0 then (if (a0 - a0 / (6 : Int32) * (6 : Int32)) = 0 then (if 0 ≤ (Op.cmpValue (FP.dcmp a1 a4) CmpOp.g) then (j_X6_isSo_147 g a0 (0 : Int32)) else (j_X6_isSo_147 g a0 (1 : Int32))) else (if (a0 - a0 / (6 : Int32) * (6 : Int32)) = (1 : Int32) then (if 0 < (Op.cmpValue (FP.dcmp a1 a4) CmpOp.g) then (j_X6_isSo_147 g a0 (0 : Int32)) else (j_X6_isSo_147 g a0 (1 : Int32))) else (if (a0 - a0 / (6 : Int32) * (6 : Int32)) = (2 : Int32) then (if (Op.cmpValue (FP.dcmp a1 a4) CmpOp.l) ≤ 0 then (j_X6_isSo_147 g a0 (0 : Int32)) else (j_X6_isSo_147 g a0 (1 : Int32))) else (if (a0 - a0 / (6 : Int32) * (6 : Int32)) = (3 : Int32) then (if (Op.cmpValue (FP.dcmp a1 a4) CmpOp.l) < 0 then (j_X6_isSo_147 g a0 (0 : Int32)) else (j_X6_isSo_147 g a0 (1 : Int32))) else (if (a0 - a0 / (6 : Int32) * (6 : Int32)) = (4 : Int32) then (if (Op.cmpValue (FP.dcmp a1 a4) CmpOp.l) = 0 then (j_X6_isSo_147 g a0 (1 : Int32)) else (j_X6_isSo_147 g a0 (0 : Int32))) else (if (Op.cmpValue (FP.dcmp a1 a4) CmpOp.l) = 0 then (j_X6_isSo_147 g a0 (0 : Int32)) else (j_X6_isSo_147 g a0 (1 : Int32)))))))) else (j_X6_isSo_15 g a0 (a0 - a0 / (6 : Int32) * (6 : Int32)))) else (j_X6_isSo_15 g a0 (a0 - a0 / (6 : Int32) * (6 : Int32)))
def j_X6_compares (g : Nat) (M : hm) (a0 : Nat) (a1 : Int32) (a2 : Int32) : Option (Int32) := (gR M a0 6 3).bind fun v1 => v1.bind fun b2 => (aI M b2 1 (((4 : Int32) * a1) + (3 : Int32))).bind fun v3 => (isO M a0 6).bind fun _ => (j_X6_x g M a0 a1 a2).bind fun v5 => (isO M a0 6).bind fun _ => (j_X6_noX g M a0 a1 a2).bind fun v7 => (isO M a0 6).bind fun _ => (j_X6_y g M a0 a1 a2).bind fun v9 => (isO M a0 6).bind fun _ => (j_X6_noY g M a0 a1 a2).bind fun v11 => (j_X6_isSo g v3 v5 v7 v9 v11).bind fun v12 => (zb v12).bind fun _ => some v12
def j_X6_manyX_38 (g : Nat) (M : hm) (p4 : Int32) : Option (Int32) := some p4
def j_X6_manyX_29 (g : Nat) (K6 : Nat → Int32 → Int32 → Int32 → Int32 → Option (Int32)) (M : hm) (p0 : Nat) (p1 : Int32) (p3 : Int32) (p5 : Int32) (s0 : Int32) (s1 : Int32) : Option (Int32) := K6 p0 p1 p3 (s1 + s0) (p5 + (1 : Int32))
def j_X6_manyX_6 (g : Nat) (M : hm) : Nat → Nat → Int32 → Int32 → Int32 → Int32 → Option (Int32)
  | 0, _, _, _, _, _ => none
  | n + 1, p0, p1, p3, p4, p5 => if p3 < p5 then (j_X6_manyX_38 g M p4) else ((isO M p0 6).bind fun _ => (j_X6_noX g M p0 p1 p5).bind fun v3 => if v3 = 0 then (j_X6_manyX_29 g (fun p0 p1 p3 p4 p5 => j_X6_manyX_6 g M n p0 p1 p3 p4 p5) M p0 p1 p3 p5 (1 : Int32) p4) else (j_X6_manyX_29 g (fun p0 p1 p3 p4 p5 => j_X6_manyX_6 g M n p0 p1 p3 p4 p5) M p0 p1 p3 p5 (0 : Int32) p4))
theorem j_X6_manyX_6_s (g : Nat) (M : hm) (n : Nat) (p0 : Nat) (p1 : Int32) (p3 : Int32) (p4 : Int32) (p5 : Int32) : j_X6_manyX_6 g M (n + 1) p0 p1 p3 p4 p5 = (if p3 < p5 then (j_X6_manyX_38 g M p4) else ((isO M p0 6).bind fun _ => (j_X6_noX g M p0 p1 p5).bind fun v3 => if v3 = 0 then (j_X6_manyX_29 g (fun p0 p1 p3 p4 p5 => j_X6_manyX_6 g M n p0 p1 p3 p4 p5) M p0 p1 p3 p5 (1 : Int32) p4) else (j_X6_manyX_29 g (fun p0 p1 p3 p4 p5 => j_X6_manyX_6 g M n p0 p1 p3 p4 p5) M p0 p1 p3 p5 (0 : Int32) p4))) := rfl
def j_X6_manyX (g : Nat) (M : hm) (a0 : Nat) (a1 : Int32) (a2 : Int32) (a3 : Int32) : Option (Int32) := j_X6_manyX_6 g g M a0 a1 a3 (0 : Int32) a2
def j_X6_rank_83 (g : Nat) (M : hm) (p5 : Int32) : Option (Int32) := some p5
def j_X6_rank_77 (g : Nat) (K15 : Nat → Int32 → Int32 → Int32 → Int32 → UInt64 → Int32 → Option (Int32)) (M : hm) (p0 : Nat) (p1 : Int32) (p3 : Int32) (p4 : Int32) (p5 : Int32) (p6 : UInt64) (p8 : Int32) : Option (Int32) := K15 p0 p1 p3 p4 p5 p6 (p8 + (1 : Int32))
def j_X6_rank_74 (g : Nat) (K15 : Nat → Int32 → Int32 → Int32 → Int32 → UInt64 → Int32 → Option (Int32)) (M : hm) (p0 : Nat) (p1 : Int32) (p3 : Int32) (p4 : Int32) (p6 : UInt64) (p8 : Int32) (s0 : Int32) (s1 : Int32) : Option (Int32) := j_X6_rank_77 g K15 M p0 p1 p3 p4 (s1 + s0) p6 p8
def j_X6_rank_73 (g : Nat) (K15 : Nat → Int32 → Int32 → Int32 → Int32 → UInt64 → Int32 → Option (Int32)) (M : hm) (p0 : Nat) (p1 : Int32) (p3 : Int32) (p4 : Int32) (p6 : UInt64) (p8 : Int32) (s0 : Int32) : Option (Int32) := j_X6_rank_74 g K15 M p0 p1 p3 p4 p6 p8 (0 : Int32) s0
def j_X6_rank_69 (g : Nat) (K15 : Nat → Int32 → Int32 → Int32 → Int32 → UInt64 → Int32 → Option (Int32)) (M : hm) (p0 : Nat) (p1 : Int32) (p3 : Int32) (p4 : Int32) (p6 : UInt64) (p8 : Int32) (s0 : Int32) : Option (Int32) := j_X6_rank_74 g K15 M p0 p1 p3 p4 p6 p8 (1 : Int32) s0
def j_X6_rank_15 (g : Nat) (M : hm) : Nat → Nat → Int32 → Int32 → Int32 → Int32 → UInt64 → Int32 → Option (Int32)
  | 0, _, _, _, _, _, _, _ => none
  | n + 1, p0, p1, p3, p4, p5, p6, p8 => if p3 < p8 then (j_X6_rank_83 g M p5) else ((isO M p0 6).bind fun _ => (j_X6_noX g M p0 p1 p8).bind fun v3 => if v3 = 0 then ((isO M p0 6).bind fun _ => (j_X6_x g M p0 p1 p8).bind fun v6 => (j_X6_isLower g v6 p6).bind fun v7 => if v7 = 0 then (if p4 ≤ p8 then (j_X6_rank_73 g (fun p0 p1 p3 p4 p5 p6 p8 => j_X6_rank_15 g M n p0 p1 p3 p4 p5 p6 p8) M p0 p1 p3 p4 p6 p8 p5) else ((j_X6_isLower g p6 v6).bind fun v10 => if v10 = 0 then (j_X6_rank_69 g (fun p0 p1 p3 p4 p5 p6 p8 => j_X6_rank_15 g M n p0 p1 p3 p4 p5 p6 p8) M p0 p1 p3 p4 p6 p8 p5) else (j_X6_rank_73 g (fun p0 p1 p3 p4 p5 p6 p8 => j_X6_rank_15 g M n p0 p1 p3 p4 p5 p6 p8) M p0 p1 p3 p4 p6 p8 p5))) else (j_X6_rank_69 g (fun p0 p1 p3 p4 p5 p6 p8 => j_X6_rank_15 g M n p0 p1 p3 p4 p5 p6 p8) M p0 p1 p3 p4 p6 p8 p5)) else (j_X6_rank_77 g (fun p0 p1 p3 p4 p5 p6 p8 => j_X6_rank_15 g M n p0 p1 p3 p4 p5 p6 p8) M p0 p1 p3 p4 p5 p6 p8))
theorem j_X6_rank_15_s (g : Nat) (M : hm) (n : Nat) (p0 : Nat) (p1 : Int32) (p3 : Int32) (p4 : Int32) (p5 : Int32) (p6 : UInt64) (p8 : Int32) : j_X6_rank_15 g M (n + 1) p0 p1 p3 p4 p5 p6 p8 = (if p3 < p8 then (j_X6_rank_83 g M p5) else ((isO M p0 6).bind fun _ => (j_X6_noX g M p0 p1 p8).bind fun v3 => if v3 = 0 then ((isO M p0 6).bind fun _ => (j_X6_x g M p0 p1 p8).bind fun v6 => (j_X6_isLower g v6 p6).bind fun v7 => if v7 = 0 then (if p4 ≤ p8 then (j_X6_rank_73 g (fun p0 p1 p3 p4 p5 p6 p8 => j_X6_rank_15 g M n p0 p1 p3 p4 p5 p6 p8) M p0 p1 p3 p4 p6 p8 p5) else ((j_X6_isLower g p6 v6).bind fun v10 => if v10 = 0 then (j_X6_rank_69 g (fun p0 p1 p3 p4 p5 p6 p8 => j_X6_rank_15 g M n p0 p1 p3 p4 p5 p6 p8) M p0 p1 p3 p4 p6 p8 p5) else (j_X6_rank_73 g (fun p0 p1 p3 p4 p5 p6 p8 => j_X6_rank_15 g M n p0 p1 p3 p4 p5 p6 p8) M p0 p1 p3 p4 p6 p8 p5))) else (j_X6_rank_69 g (fun p0 p1 p3 p4 p5 p6 p8 => j_X6_rank_15 g M n p0 p1 p3 p4 p5 p6 p8) M p0 p1 p3 p4 p6 p8 p5)) else (j_X6_rank_77 g (fun p0 p1 p3 p4 p5 p6 p8 => j_X6_rank_15 g M n p0 p1 p3 p4 p5 p6 p8) M p0 p1 p3 p4 p5 p6 p8))) := rfl
def j_X6_rank (g : Nat) (M : hm) (a0 : Nat) (a1 : Int32) (a2 : Int32) (a3 : Int32) (a4 : Int32) : Option (Int32) := (isO M a0 6).bind fun _ => (j_X6_x g M a0 a1 a4).bind fun v13 => j_X6_rank_15 g g M a0 a1 a3 a4 (0 : Int32) v13 a2
def j_X6_ranked_54 (g : Nat) (M : hm) : Option (hm) := some M
def j_X6_ranked_48 (g : Nat) (K7 : hm → Nat → Int32 → Int32 → Int32 → Int32 → Int32 → Option (hm)) (M : hm) (p0 : Nat) (p1 : Int32) (p2 : Int32) (p3 : Int32) (p4 : Int32) (p5 : Int32) : Option (hm) := K7 M p0 p1 p2 p3 p4 (p5 + (1 : Int32))
def j_X6_ranked_7 (g : Nat) : Nat → hm → Nat → Int32 → Int32 → Int32 → Int32 → Int32 → Option (hm)
  | 0, _, _, _, _, _, _, _ => none
  | n + 1, M, p0, p1, p2, p3, p4, p5 => if p3 < p5 then (j_X6_ranked_54 g M) else ((isO M p0 6).bind fun _ => (j_X6_noX g M p0 p1 p5).bind fun v3 => if v3 = 0 then ((isO M p0 6).bind fun _ => (j_X6_rank g M p0 p1 p2 p3 p5).bind fun v6 => if v6 = p4 then ((isO M p0 6).bind fun _ => (j_X6_x g M p0 p1 p5).bind fun v9 => (isO M p0 6).bind fun _ => (j_X6_gives g M p0 v9).bind fun M11 => j_X6_ranked_48 g (fun M p0 p1 p2 p3 p4 p5 => j_X6_ranked_7 g n M p0 p1 p2 p3 p4 p5) M11 p0 p1 p2 p3 p4 p5) else (j_X6_ranked_48 g (fun M p0 p1 p2 p3 p4 p5 => j_X6_ranked_7 g n M p0 p1 p2 p3 p4 p5) M p0 p1 p2 p3 p4 p5)) else (j_X6_ranked_48 g (fun M p0 p1 p2 p3 p4 p5 => j_X6_ranked_7 g n M p0 p1 p2 p3 p4 p5) M p0 p1 p2 p3 p4 p5))
theorem j_X6_ranked_7_s (g : Nat) (n : Nat) (M : hm) (p0 : Nat) (p1 : Int32) (p2 : Int32) (p3 : Int32) (p4 : Int32) (p5 : Int32) : j_X6_ranked_7 g (n + 1) M p0 p1 p2 p3 p4 p5 = (if p3 < p5 then (j_X6_ranked_54 g M) else ((isO M p0 6).bind fun _ => (j_X6_noX g M p0 p1 p5).bind fun v3 => if v3 = 0 then ((isO M p0 6).bind fun _ => (j_X6_rank g M p0 p1 p2 p3 p5).bind fun v6 => if v6 = p4 then ((isO M p0 6).bind fun _ => (j_X6_x g M p0 p1 p5).bind fun v9 => (isO M p0 6).bind fun _ => (j_X6_gives g M p0 v9).bind fun M11 => j_X6_ranked_48 g (fun M p0 p1 p2 p3 p4 p5 => j_X6_ranked_7 g n M p0 p1 p2 p3 p4 p5) M11 p0 p1 p2 p3 p4 p5) else (j_X6_ranked_48 g (fun M p0 p1 p2 p3 p4 p5 => j_X6_ranked_7 g n M p0 p1 p2 p3 p4 p5) M p0 p1 p2 p3 p4 p5)) else (j_X6_ranked_48 g (fun M p0 p1 p2 p3 p4 p5 => j_X6_ranked_7 g n M p0 p1 p2 p3 p4 p5) M p0 p1 p2 p3 p4 p5))) := rfl
def j_X6_ranked (g : Nat) (M : hm) (a0 : Nat) (a1 : Int32) (a2 : Int32) (a3 : Int32) (a4 : Int32) : Option (hm) := (isO M a0 6).bind fun _ => (j_X6_givesNothing g M a0).bind fun M13 => j_X6_ranked_7 g g M13 a0 a1 a2 a3 a4 a2
def j_X6_lessThan_53 (g : Nat) (M : hm) (p3 : Int32) : Option (Int32) := some p3
def j_X6_lessThan_45 (g : Nat) (K5 : Nat → Int32 → Int32 → Int32 → Int32 → Option (Int32)) (M : hm) (p0 : Nat) (p1 : Int32) (p2 : Int32) (p4 : Int32) (s0 : Int32) (s1 : Int32) : Option (Int32) := K5 p0 p1 p2 (s1 + s0) (p4 + (1 : Int32))
def j_X6_lessThan_44 (g : Nat) (K5 : Nat → Int32 → Int32 → Int32 → Int32 → Option (Int32)) (M : hm) (p0 : Nat) (p1 : Int32) (p2 : Int32) (p4 : Int32) (s0 : Int32) : Option (Int32) := j_X6_lessThan_45 g K5 M p0 p1 p2 p4 (0 : Int32) s0
def j_X6_lessThan_5 (g : Nat) (M : hm) : Nat → Nat → Int32 → Int32 → Int32 → Int32 → Option (Int32)
  | 0, _, _, _, _, _ => none
  | n + 1, p0, p1, p2, p3, p4 => if (16 : Int32) ≤ p4 then (j_X6_lessThan_53 g M p3) else ((isO M p0 6).bind fun _ => (j_X6_noX g M p0 p1 p4).bind fun v3 => if v3 = 0 then ((isO M p0 6).bind fun _ => (j_X6_x g M p0 p1 p4).bind fun v6 => (isO M p0 6).bind fun _ => (j_X6_x g M p0 p1 p2).bind fun v8 => if 0 ≤ (Op.cmpValue (FP.dcmp v6 v8) CmpOp.g) then (j_X6_lessThan_44 g (fun p0 p1 p2 p3 p4 => j_X6_lessThan_5 g M n p0 p1 p2 p3 p4) M p0 p1 p2 p4 p3) else (j_X6_lessThan_45 g (fun p0 p1 p2 p3 p4 => j_X6_lessThan_5 g M n p0 p1 p2 p3 p4) M p0 p1 p2 p4 (1 : Int32) p3)) else (j_X6_lessThan_44 g (fun p0 p1 p2 p3 p4 => j_X6_lessThan_5 g M n p0 p1 p2 p3 p4) M p0 p1 p2 p4 p3))
theorem j_X6_lessThan_5_s (g : Nat) (M : hm) (n : Nat) (p0 : Nat) (p1 : Int32) (p2 : Int32) (p3 : Int32) (p4 : Int32) : j_X6_lessThan_5 g M (n + 1) p0 p1 p2 p3 p4 = (if (16 : Int32) ≤ p4 then (j_X6_lessThan_53 g M p3) else ((isO M p0 6).bind fun _ => (j_X6_noX g M p0 p1 p4).bind fun v3 => if v3 = 0 then ((isO M p0 6).bind fun _ => (j_X6_x g M p0 p1 p4).bind fun v6 => (isO M p0 6).bind fun _ => (j_X6_x g M p0 p1 p2).bind fun v8 => if 0 ≤ (Op.cmpValue (FP.dcmp v6 v8) CmpOp.g) then (j_X6_lessThan_44 g (fun p0 p1 p2 p3 p4 => j_X6_lessThan_5 g M n p0 p1 p2 p3 p4) M p0 p1 p2 p4 p3) else (j_X6_lessThan_45 g (fun p0 p1 p2 p3 p4 => j_X6_lessThan_5 g M n p0 p1 p2 p3 p4) M p0 p1 p2 p4 (1 : Int32) p3)) else (j_X6_lessThan_44 g (fun p0 p1 p2 p3 p4 => j_X6_lessThan_5 g M n p0 p1 p2 p3 p4) M p0 p1 p2 p4 p3))) := rfl
def j_X6_lessThan (g : Nat) (M : hm) (a0 : Nat) (a1 : Int32) (a2 : Int32) : Option (Int32) := j_X6_lessThan_5 g g M a0 a1 a2 (0 : Int32) (0 : Int32)
def j_X6_manySo_35 (g : Nat) (M : hm) (p3 : Int32) : Option (Int32) := some p3
def j_X6_manySo_27 (g : Nat) (K5 : Nat → Int32 → Int32 → Int32 → Int32 → Option (Int32)) (M : hm) (p0 : Nat) (p1 : Int32) (p2 : Int32) (p4 : Int32) (s0 : Int32) (s1 : Int32) : Option (Int32) := K5 p0 p1 p2 (s1 + s0) (p4 + (1 : Int32))
def j_X6_manySo_5 (g : Nat) (M : hm) : Nat → Nat → Int32 → Int32 → Int32 → Int32 → Option (Int32)
  | 0, _, _, _, _, _ => none
  | n + 1, p0, p1, p2, p3, p4 => if p2 < p4 then (j_X6_manySo_35 g M p3) else ((isO M p0 6).bind fun _ => (j_X6_compares g M p0 p1 p4).bind fun v3 => if v3 = 0 then (j_X6_manySo_27 g (fun p0 p1 p2 p3 p4 => j_X6_manySo_5 g M n p0 p1 p2 p3 p4) M p0 p1 p2 p4 (0 : Int32) p3) else (j_X6_manySo_27 g (fun p0 p1 p2 p3 p4 => j_X6_manySo_5 g M n p0 p1 p2 p3 p4) M p0 p1 p2 p4 (1 : Int32) p3))
theorem j_X6_manySo_5_s (g : Nat) (M : hm) (n : Nat) (p0 : Nat) (p1 : Int32) (p2 : Int32) (p3 : Int32) (p4 : Int32) : j_X6_manySo_5 g M (n + 1) p0 p1 p2 p3 p4 = (if p2 < p4 then (j_X6_manySo_35 g M p3) else ((isO M p0 6).bind fun _ => (j_X6_compares g M p0 p1 p4).bind fun v3 => if v3 = 0 then (j_X6_manySo_27 g (fun p0 p1 p2 p3 p4 => j_X6_manySo_5 g M n p0 p1 p2 p3 p4) M p0 p1 p2 p4 (0 : Int32) p3) else (j_X6_manySo_27 g (fun p0 p1 p2 p3 p4 => j_X6_manySo_5 g M n p0 p1 p2 p3 p4) M p0 p1 p2 p4 (1 : Int32) p3))) := rfl
def j_X6_manySo (g : Nat) (M : hm) (a0 : Nat) (a1 : Int32) (a2 : Int32) : Option (Int32) := j_X6_manySo_5 g g M a0 a1 a2 (0 : Int32) (0 : Int32)
def j_X6_reckon_409 (g : Nat) (M : hm) : Option (hm) := some M
def j_X6_reckon_368 (g : Nat) (M : hm) (p0 : Nat) : Option (hm) := (isO M p0 6).bind fun _ => (j_X6_givesNothing g M p0).bind fun M2 => j_X6_reckon_409 g M2
def j_X6_reckon_258 (g : Nat) (M : hm) (p0 : Nat) : Option (hm) := (isO M p0 6).bind fun _ => (j_X6_givesNothing g M p0).bind fun M4 => j_X6_reckon_409 g M4
def j_X6_reckon_166 (g : Nat) (M : hm) (p0 : Nat) : Option (hm) := (isO M p0 6).bind fun _ => (j_X6_givesNothing g M p0).bind fun M6 => j_X6_reckon_409 g M6
def j_X6_reckon_105 (g : Nat) (M : hm) : Option (hm) := some M
def j_X6_reckon_64 (g : Nat) (M : hm) (p0 : Nat) (p1 : Int32) (p2 : Int32) (p3 : Int32) (p4 : Int32) : Option (hm) := if (8 : Int32) < p3 then ((isO M p0 6).bind fun _ => (j_X6_x g M p0 p1 p2).bind fun v9 => (isO M p0 6).bind fun _ => (j_X6_y g M p0 p1 p2).bind fun v11 => (isO M p0 6).bind fun _ => (j_X6_both g M p0 p3 v9 v11 p4).bind fun M13 => j_X6_reckon_105 g M13) else ((isO M p0 6).bind fun _ => (j_X6_x g M p0 p1 p2).bind fun v15 => (isO M p0 6).bind fun _ => (j_X6_single g M p0 p3 v15 p4).bind fun M17 => j_X6_reckon_105 g M17)
def j_X6_reckon_57 (g : Nat) (M : hm) (p0 : Nat) : Option (hm) := (isO M p0 6).bind fun _ => (j_X6_givesNothing g M p0).bind fun M19 => j_X6_reckon_105 g M19
def j_X6_reckon_37 (g : Nat) (M : hm) (p0 : Nat) (p1 : Int32) (p2 : Int32) (p3 : Int32) (p4 : Int32) (p5 : Int32) : Option (hm) := if p5 = 0 then (if p3 < (9 : Int32) then (j_X6_reckon_64 g M p0 p1 p2 p3 p4) else ((isO M p0 6).bind fun _ => (j_X6_noY g M p0 p1 p2).bind fun v23 => if v23 = 0 then (j_X6_reckon_64 g M p0 p1 p2 p3 p4) else (j_X6_reckon_57 g M p0))) else (j_X6_reckon_57 g M p0)
def j_X6_reckon (g : Nat) (M : hm) (a0 : Nat) (a1 : Int32) (a2 : Int32) : Option (hm) := (gR M a0 6 3).bind fun v25 => v25.bind fun b26 => (aI M b26 1 ((4 : Int32) * a1)).bind fun v27 => (gR M a0 6 2).bind fun v28 => v28.bind fun b29 => (aI M b29 2 a1).bind fun v30 => (isO M a0 6).bind fun _ => (j_X6_noX g M a0 a1 a2).bind fun v32 => if v27 ≤ (16 : Int32) then (j_X6_reckon_37 g M a0 a1 a2 v27 v30 v32) else (if v27 = (26 : Int32) then (j_X6_reckon_37 g M a0 a1 a2 v27 v30 v32) else (if v27 = (17 : Int32) then (if v32 = 0 then ((isO M a0 6).bind fun _ => (j_X6_compares g M a0 a1 a2).bind fun v45 => if v45 = 0 then (j_X6_reckon_166 g M a0) else ((isO M a0 6).bind fun _ => (j_X6_x g M a0 a1 a2).bind fun v48 => (isO M a0 6).bind fun _ => (j_X6_gives g M a0 v48).bind fun M50 => j_X6_reckon_409 g M50)) else (j_X6_reckon_166 g M a0)) else if v27 = (18 : Int32) then (if v32 = 0 then ((isO M a0 6).bind fun _ => (j_X6_x g M a0 a1 a2).bind fun v62 => (isO M a0 6).bind fun _ => (j_X6_gives g M a0 v62).bind fun M64 => j_X6_reckon_409 g M64) else ((isO M a0 6).bind fun _ => (j_X6_noY g M a0 a1 a2).bind fun v53 => if v53 = 0 then ((isO M a0 6).bind fun _ => (j_X6_y g M a0 a1 a2).bind fun v56 => (isO M a0 6).bind fun _ => (j_X6_gives g M a0 v56).bind fun M58 => j_X6_reckon_409 g M58) else ((isO M a0 6).bind fun _ => (j_X6_givesNothing g M a0).bind fun M60 => j_X6_reckon_409 g M60))) else if v27 = (19 : Int32) then (if a2 = 0 then (j_X6_reckon_258 g M a0) else (if a2 = (15 : Int32) then (j_X6_reckon_258 g M a0) else ((isO M a0 6).bind fun _ => (j_X6_manyX g M a0 a1 (a2 - (1 : Int32)) (a2 + (1 : Int32))).bind fun v68 => if (3 : Int32) ≤ v68 then ((isO M a0 6).bind fun _ => (j_X6_ranked g M a0 a1 (a2 - (1 : Int32)) (a2 + (1 : Int32)) (1 : Int32)).bind fun M71 => j_X6_reckon_409 g M71) else (j_X6_reckon_258 g M a0)))) else if v27 = (20 : Int32) then ((isO M a0 6).bind fun _ => (j_X6_manyX g M a0 a1 (0 : Int32) a2).bind fun v73 => (isO M a0 6).bind fun _ => (j_X6_ranked g M a0 a1 (0 : Int32) a2 (v73 - (1 : Int32))).bind fun M75 => j_X6_reckon_409 g M75) else if v27 = (21 : Int32) then ((isO M a0 6).bind fun _ => (j_X6_ranked g M a0 a1 (0 : Int32) a2 (0 : Int32)).bind fun M77 => j_X6_reckon_409 g M77) else if v27 = (22 : Int32) then ((isO M a0 6).bind fun _ => (j_X6_ranked g M a0 a1 (0 : Int32) (15 : Int32) a2).bind fun M79 => j_X6_reckon_409 g M79) else if v27 = (23 : Int32) then (if v32 = 0 then ((isO M a0 6).bind fun _ => (j_X6_lessThan g M a0 a1 a2).bind fun v82 => (isO M a0 6).bind fun _ => (j_X6_gives g M a0 (FP.i2d v82)).bind fun M84 => j_X6_reckon_409 g M84) else ((isO M a0 6).bind fun _ => (j_X6_givesNothing g M a0).bind fun M86 => j_X6_reckon_409 g M86)) else if v27 = (24 : Int32) then (if v32 = 0 then (if a2 = 0 then (j_X6_reckon_368 g M a0) else ((isO M a0 6).bind fun _ => (j_X6_noX g M a0 a1 (a2 - (1 : Int32))).bind fun v90 => if v90 = 0 then ((isO M a0 6).bind fun _ => (j_X6_x g M a0 a1 a2).bind fun v93 => (isO M a0 6).bind fun _ => (j_X6_x g M a0 a1 (a2 - (1 : Int32))).bind fun v95 => (isO M a0 6).bind fun _ => (j_X6_difference g M a0 v93 v95 v30).bind fun M97 => j_X6_reckon_409 g M97) else (j_X6_reckon_368 g M a0))) else (j_X6_reckon_368 g M a0)) else ((isO M a0 6).bind fun _ => (j_X6_manySo g M a0 a1 a2).bind fun v99 => (isO M a0 6).bind fun _ => (j_X6_gives g M a0 (FP.i2d v99)).bind fun M101 => j_X6_reckon_409 g M101)))
def j_X6_reckonAll_140 (g : Nat) (M : hm) : Option (hm) := some M
def j_X6_reckonAll_134 (g : Nat) (K43 : hm → Nat → Int32 → Option (hm)) (M : hm) (p0 : Nat) (p1 : Int32) : Option (hm) := K43 M p0 (p1 + (1 : Int32))
def j_X6_reckonAll_128 (g : Nat) (K43 : hm → Nat → Int32 → Option (hm)) (K51 : hm → Nat → Int32 → Int32 → Option (hm)) (M : hm) (p0 : Nat) (p1 : Int32) (p2 : Int32) : Option (hm) := K51 M p0 p1 (p2 + (1 : Int32))
def j_X6_reckonAll_51 (g : Nat) (K43 : hm → Nat → Int32 → Option (hm)) : Nat → hm → Nat → Int32 → Int32 → Option (hm)
  | 0, _, _, _, _ => none
  | n + 1, M, p0, p1, p2 => if (16 : Int32) ≤ p2 then (j_X6_reckonAll_134 g K43 M p0 p1) else ((gR M p0 6 3).bind fun v2 => v2.bind fun b3 => (aI M b3 1 ((4 : Int32) * p1)).bind fun v4 => if 0 ≤ v4 then ((isO M p0 6).bind fun _ => (j_X6_reckon g M p0 p1 p2).bind fun M7 => (gR M7 p0 6 4).bind fun v8 => (gD M7 p0 6 17).bind fun v9 => v8.bind fun b10 => (sD M7 b10 (((16 : Int32) * p1) + p2) v9).bind fun M11 => (gR M11 p0 6 5).bind fun v12 => (gI M11 p0 6 18).bind fun v13 => v12.bind fun b14 => (sZ M11 b14 (((16 : Int32) * p1) + p2) v13).bind fun M15 => j_X6_reckonAll_128 g K43 (fun M p0 p1 p2 => j_X6_reckonAll_51 g K43 n M p0 p1 p2) M15 p0 p1 p2) else ((gR M p0 6 4).bind fun v16 => (gR M p0 6 0).bind fun v17 => v17.bind fun b18 => (aD M b18 (((16 : Int32) * p1) + p2)).bind fun v19 => v16.bind fun b20 => (sD M b20 (((16 : Int32) * p1) + p2) v19).bind fun M21 => (gR M21 p0 6 5).bind fun v22 => (gR M21 p0 6 1).bind fun v23 => v23.bind fun b24 => (aI M21 b24 2 (((16 : Int32) * p1) + p2)).bind fun v25 => v22.bind fun b26 => (sZ M21 b26 (((16 : Int32) * p1) + p2) v25).bind fun M27 => j_X6_reckonAll_128 g K43 (fun M p0 p1 p2 => j_X6_reckonAll_51 g K43 n M p0 p1 p2) M27 p0 p1 p2))
theorem j_X6_reckonAll_51_s (g : Nat) (K43 : hm → Nat → Int32 → Option (hm)) (n : Nat) (M : hm) (p0 : Nat) (p1 : Int32) (p2 : Int32) : j_X6_reckonAll_51 g K43 (n + 1) M p0 p1 p2 = (if (16 : Int32) ≤ p2 then (j_X6_reckonAll_134 g K43 M p0 p1) else ((gR M p0 6 3).bind fun v2 => v2.bind fun b3 => (aI M b3 1 ((4 : Int32) * p1)).bind fun v4 => if 0 ≤ v4 then ((isO M p0 6).bind fun _ => (j_X6_reckon g M p0 p1 p2).bind fun M7 => (gR M7 p0 6 4).bind fun v8 => (gD M7 p0 6 17).bind fun v9 => v8.bind fun b10 => (sD M7 b10 (((16 : Int32) * p1) + p2) v9).bind fun M11 => (gR M11 p0 6 5).bind fun v12 => (gI M11 p0 6 18).bind fun v13 => v12.bind fun b14 => (sZ M11 b14 (((16 : Int32) * p1) + p2) v13).bind fun M15 => j_X6_reckonAll_128 g K43 (fun M p0 p1 p2 => j_X6_reckonAll_51 g K43 n M p0 p1 p2) M15 p0 p1 p2) else ((gR M p0 6 4).bind fun v16 => (gR M p0 6 0).bind fun v17 => v17.bind fun b18 => (aD M b18 (((16 : Int32) * p1) + p2)).bind fun v19 => v16.bind fun b20 => (sD M b20 (((16 : Int32) * p1) + p2) v19).bind fun M21 => (gR M21 p0 6 5).bind fun v22 => (gR M21 p0 6 1).bind fun v23 => v23.bind fun b24 => (aI M21 b24 2 (((16 : Int32) * p1) + p2)).bind fun v25 => v22.bind fun b26 => (sZ M21 b26 (((16 : Int32) * p1) + p2) v25).bind fun M27 => j_X6_reckonAll_128 g K43 (fun M p0 p1 p2 => j_X6_reckonAll_51 g K43 n M p0 p1 p2) M27 p0 p1 p2))) := rfl
def j_X6_reckonAll_43 (g : Nat) : Nat → hm → Nat → Int32 → Option (hm)
  | 0, _, _, _ => none
  | n + 1, M, p0, p1 => if (12 : Int32) ≤ p1 then (j_X6_reckonAll_140 g M) else (j_X6_reckonAll_51 g (fun M p0 p1 => j_X6_reckonAll_43 g n M p0 p1) g M p0 p1 (0 : Int32))
theorem j_X6_reckonAll_43_s (g : Nat) (n : Nat) (M : hm) (p0 : Nat) (p1 : Int32) : j_X6_reckonAll_43 g (n + 1) M p0 p1 = (if (12 : Int32) ≤ p1 then (j_X6_reckonAll_140 g M) else (j_X6_reckonAll_51 g (fun M p0 p1 => j_X6_reckonAll_43 g n M p0 p1) g M p0 p1 (0 : Int32))) := rfl
def j_X6_reckonAll_41 (g : Nat) (M : hm) (p0 : Nat) : Option (hm) := j_X6_reckonAll_43 g g M p0 (0 : Int32)
def j_X6_reckonAll_4 (g : Nat) : Nat → hm → Nat → Int32 → Option (hm)
  | 0, _, _, _ => none
  | n + 1, M, p0, p1 => if (200 : Int32) ≤ p1 then (j_X6_reckonAll_41 g M p0) else ((gR M p0 6 4).bind fun v30 => (gR M p0 6 0).bind fun v31 => v31.bind fun b32 => (aD M b32 p1).bind fun v33 => v30.bind fun b34 => (sD M b34 p1 v33).bind fun M35 => (gR M35 p0 6 5).bind fun v36 => (gR M35 p0 6 1).bind fun v37 => v37.bind fun b38 => (aI M35 b38 2 p1).bind fun v39 => v36.bind fun b40 => (sZ M35 b40 p1 v39).bind fun M41 => j_X6_reckonAll_4 g n M41 p0 (p1 + (1 : Int32)))
theorem j_X6_reckonAll_4_s (g : Nat) (n : Nat) (M : hm) (p0 : Nat) (p1 : Int32) : j_X6_reckonAll_4 g (n + 1) M p0 p1 = (if (200 : Int32) ≤ p1 then (j_X6_reckonAll_41 g M p0) else ((gR M p0 6 4).bind fun v30 => (gR M p0 6 0).bind fun v31 => v31.bind fun b32 => (aD M b32 p1).bind fun v33 => v30.bind fun b34 => (sD M b34 p1 v33).bind fun M35 => (gR M35 p0 6 5).bind fun v36 => (gR M35 p0 6 1).bind fun v37 => v37.bind fun b38 => (aI M35 b38 2 p1).bind fun v39 => v36.bind fun b40 => (sZ M35 b40 p1 v39).bind fun M41 => j_X6_reckonAll_4 g n M41 p0 (p1 + (1 : Int32)))) := rfl
def j_X6_reckonAll (g : Nat) (M : hm) (a0 : Nat) : Option (hm) := j_X6_reckonAll_4 g g M a0 (192 : Int32)
def j_X6_isThere_20 (g : Nat) (M : hm) : Option (hm × Int32) := some (M, (0 : Int32))
def j_X6_isThere (g : Nat) (M : hm) (a0 : Nat) (a1 : Int32) (a2 : Int32) : Option (hm × Int32) := (j_X6_isIn g a1 (0 : Int32) (11 : Int32)).bind fun v1 => if v1 = 0 then (j_X6_isThere_20 g M) else ((j_X6_isIn g a2 (0 : Int32) (15 : Int32)).bind fun v3 => if v3 = 0 then (j_X6_isThere_20 g M) else ((isO M a0 6).bind fun _ => (j_X6_reckonAll g M a0).bind fun M6 => some (M6, (1 : Int32))))
def j_X6_digits_84 (g : Nat) (p2 : Int32) (p4 : Int32) (p5 : UInt64) (p7 : Int32) : Option (Int64) := if 0 ≤ (Op.cmpValue (FP.dcmp p5 FP.dconst1) CmpOp.g) then ((n64 (FP.dsub p5 FP.dconst1)).bind fun v2 => (n64 (FP.dmul v2 (FP.l2d ((1 : Int64) <<< (p2.toInt64 &&& 63))))).bind fun v3 => some ((((p7 + p4).toInt64) <<< (p2.toInt64 &&& 63)) ||| (FP.d2l v3))) else ((n64 (FP.dmul p5 (FP.l2d ((1 : Int64) <<< (p2.toInt64 &&& 63))))).bind fun v4 => some (FP.d2l v4))
def j_X6_digits_57 (g : Nat) : Nat → Int32 → Int32 → Int32 → UInt64 → Int32 → Option (Int64)
  | 0, _, _, _, _, _ => none
  | n + 1, p2, p3, p4, p5, p7 => if 0 ≤ (Op.cmpValue (FP.dcmp p5 FP.dconst1) CmpOp.g) then (j_X6_digits_84 g p2 p4 p5 p7) else (if p7 ≤ p3 then (j_X6_digits_84 g p2 p4 p5 p7) else ((n64 (FP.dmul p5 (4611686018427387904 : UInt64))).bind fun v7 => j_X6_digits_57 g n p2 p3 p4 v7 (p7 + (-1 : Int32))))
theorem j_X6_digits_57_s (g : Nat) (n : Nat) (p2 : Int32) (p3 : Int32) (p4 : Int32) (p5 : UInt64) (p7 : Int32) : j_X6_digits_57 g (n + 1) p2 p3 p4 p5 p7 = (if 0 ≤ (Op.cmpValue (FP.dcmp p5 FP.dconst1) CmpOp.g) then (j_X6_digits_84 g p2 p4 p5 p7) else (if p7 ≤ p3 then (j_X6_digits_84 g p2 p4 p5 p7) else ((n64 (FP.dmul p5 (4611686018427387904 : UInt64))).bind fun v7 => j_X6_digits_57 g n p2 p3 p4 v7 (p7 + (-1 : Int32))))) := rfl
def j_X6_digits_34 (g : Nat) : Nat → Int32 → Int32 → Int32 → UInt64 → Int32 → Option (Int64)
  | 0, _, _, _, _, _ => none
  | n + 1, p2, p3, p4, p5, p7 => if (Op.cmpValue (FP.dcmp p5 (4611686018427387904 : UInt64)) CmpOp.l) < 0 then (j_X6_digits_57 g g p2 p3 p4 p5 p7) else ((n64 (FP.ddiv p5 (4611686018427387904 : UInt64))).bind fun v9 => j_X6_digits_34 g n p2 p3 p4 v9 (p7 + (1 : Int32)))
theorem j_X6_digits_34_s (g : Nat) (n : Nat) (p2 : Int32) (p3 : Int32) (p4 : Int32) (p5 : UInt64) (p7 : Int32) : j_X6_digits_34 g (n + 1) p2 p3 p4 p5 p7 = (if (Op.cmpValue (FP.dcmp p5 (4611686018427387904 : UInt64)) CmpOp.l) < 0 then (j_X6_digits_57 g g p2 p3 p4 p5 p7) else ((n64 (FP.ddiv p5 (4611686018427387904 : UInt64))).bind fun v9 => j_X6_digits_34 g n p2 p3 p4 v9 (p7 + (1 : Int32)))) := rfl
def j_X6_digits (g : Nat) (a0 : UInt64) (a2 : Int32) (a3 : Int32) (a4 : Int32) : Option (Int64) := (j_X6_isZero g a0).bind fun v10 => if v10 = 0 then ((j_X6_isInfinite g a0).bind fun v12 => if v12 = 0 then (j_X6_digits_34 g g a2 a3 a4 a0 (0 : Int32)) else (some ((((2 : Int64) * a4.toInt64) + (1 : Int64)) <<< (a2.toInt64 &&& 63)))) else (some (0 : Int64))
def j_X6_bits_128 (g : Nat) (M : hm) (s0 : Int64) : Option (hm × Int64) := some (M, s0)
def j_X6_bits_94 (g : Nat) (M : hm) (s0 : Int64) : Option (hm × Int64) := some (M, s0)
def j_X6_bits_50 (g : Nat) (M : hm) (p0 : Nat) (p1 : Int32) (p3 : UInt64) (s0 : UInt64) : Option (hm × Int64) := (gR M p0 6 2).bind fun v1 => v1.bind fun b2 => (aI M b2 2 p1).bind fun v3 => if v3 = 0 then ((j_X6_digits g s0 (52 : Int32) (-1022 : Int32) (1023 : Int32)).bind fun v5 => (j_X6_hasMinus g p3).bind fun v6 => if v6 = 0 then (j_X6_bits_128 g M v5) else (j_X6_bits_128 g M (v5 ||| (-9223372036854775808 : Int64)))) else ((j_X6_digits g s0 (23 : Int32) (-126 : Int32) (127 : Int32)).bind fun v8 => (j_X6_hasMinus g p3).bind fun v9 => if v9 = 0 then (j_X6_bits_94 g M v8.toInt32.toInt64) else (j_X6_bits_94 g M ((v8.toInt32 ||| (-2147483648 : Int32)).toInt64)))
def j_X6_bits_23 (g : Nat) (M : hm) : Option (hm × Int64) := some (M, (0 : Int64))
def j_X6_bits (g : Nat) (M : hm) (a0 : Nat) (a1 : Int32) (a2 : Int32) : Option (hm × Int64) := (isO M a0 6).bind fun _ => (j_X6_isThere g M a0 a1 a2).bind fun q12 => if q12.2 = 0 then (j_X6_bits_23 g q12.1) else ((gR q12.1 a0 6 5).bind fun v14 => v14.bind fun b15 => (aI q12.1 b15 2 (((16 : Int32) * a1) + a2)).bind fun v16 => if v16 = 0 then ((gR q12.1 a0 6 4).bind fun v18 => v18.bind fun b19 => (aD q12.1 b19 (((16 : Int32) * a1) + a2)).bind fun v20 => (j_X6_hasMinus g v20).bind fun v21 => if v21 = 0 then (j_X6_bits_50 g q12.1 a0 a1 v20 v20) else (j_X6_bits_50 g q12.1 a0 a1 v20 (FP.dneg v20))) else (j_X6_bits_23 g q12.1))
def j_X6_canSet_36 (g : Nat) (M : hm) (s0 : Int32) : Option (Int32) := (zb s0).bind fun _ => some s0
def j_X6_canSet_35 (g : Nat) (M : hm) : Option (Int32) := j_X6_canSet_36 g M (0 : Int32)
def j_X6_canSet (g : Nat) (M : hm) (a0 : Nat) (a1 : Int32) (a2 : Int32) : Option (Int32) := (j_X6_isIn g a1 (0 : Int32) (11 : Int32)).bind fun v2 => if v2 = 0 then (j_X6_canSet_35 g M) else ((j_X6_isIn g a2 (0 : Int32) (15 : Int32)).bind fun v4 => if v4 = 0 then (j_X6_canSet_35 g M) else ((gR M a0 6 3).bind fun v6 => v6.bind fun b7 => (aI M b7 1 ((4 : Int32) * a1)).bind fun v8 => if 0 ≤ v8 then (j_X6_canSet_35 g M) else (j_X6_canSet_36 g M (1 : Int32))))
def j_X6_changed (g : Nat) (M : hm) (a0 : Nat) : Option (hm × Int32) := (gI M a0 6 10).bind fun v1 => (pV M a0 6 10 (.int (v1 + (1 : Int32)))).bind fun M2 => some (M2, (1 : Int32))
def j_X6_compared_118 (g : Nat) (M : hm) (p4 : Int32) : Option (hm × Int32) := some (M, p4)
def j_X6_compared_109 (g : Nat) (K42 : hm → Nat → Int32 → Int32 → Int32 → Int32 → Int32 → Option (hm × Int32)) (M : hm) (p0 : Nat) (p1 : Int32) (p2 : Int32) (p3 : Int32) (p5 : Int32) (s0 : Int32) (s1 : Int32) : Option (hm × Int32) := K42 M p0 p1 p2 p3 (s1 + s0) (p5 + (1 : Int32))
def j_X6_compared_42 (g : Nat) : Nat → hm → Nat → Int32 → Int32 → Int32 → Int32 → Int32 → Option (hm × Int32)
  | 0, _, _, _, _, _, _, _ => none
  | n + 1, M, p0, p1, p2, p3, p4, p5 => if (16 : Int32) ≤ p5 then (j_X6_compared_118 g M p4) else ((gR M p0 6 4).bind fun v2 => v2.bind fun b3 => (aD M b3 (((16 : Int32) * p1) + p5)).bind fun v4 => (gR M p0 6 5).bind fun v5 => v5.bind fun b6 => (aI M b6 2 (((16 : Int32) * p1) + p5)).bind fun v7 => (gR M p0 6 4).bind fun v8 => v8.bind fun b9 => (aD M b9 (((16 : Int32) * p3) + p5)).bind fun v10 => (gR M p0 6 5).bind fun v11 => v11.bind fun b12 => (aI M b12 2 (((16 : Int32) * p3) + p5)).bind fun v13 => (j_X6_isSo g p2 v4 v7 v10 v13).bind fun v14 => if v14 = 0 then (j_X6_compared_109 g (fun M p0 p1 p2 p3 p4 p5 => j_X6_compared_42 g n M p0 p1 p2 p3 p4 p5) M p0 p1 p2 p3 p5 (0 : Int32) p4) else (j_X6_compared_109 g (fun M p0 p1 p2 p3 p4 p5 => j_X6_compared_42 g n M p0 p1 p2 p3 p4 p5) M p0 p1 p2 p3 p5 (1 : Int32) p4))
theorem j_X6_compared_42_s (g : Nat) (n : Nat) (M : hm) (p0 : Nat) (p1 : Int32) (p2 : Int32) (p3 : Int32) (p4 : Int32) (p5 : Int32) : j_X6_compared_42 g (n + 1) M p0 p1 p2 p3 p4 p5 = (if (16 : Int32) ≤ p5 then (j_X6_compared_118 g M p4) else ((gR M p0 6 4).bind fun v2 => v2.bind fun b3 => (aD M b3 (((16 : Int32) * p1) + p5)).bind fun v4 => (gR M p0 6 5).bind fun v5 => v5.bind fun b6 => (aI M b6 2 (((16 : Int32) * p1) + p5)).bind fun v7 => (gR M p0 6 4).bind fun v8 => v8.bind fun b9 => (aD M b9 (((16 : Int32) * p3) + p5)).bind fun v10 => (gR M p0 6 5).bind fun v11 => v11.bind fun b12 => (aI M b12 2 (((16 : Int32) * p3) + p5)).bind fun v13 => (j_X6_isSo g p2 v4 v7 v10 v13).bind fun v14 => if v14 = 0 then (j_X6_compared_109 g (fun M p0 p1 p2 p3 p4 p5 => j_X6_compared_42 g n M p0 p1 p2 p3 p4 p5) M p0 p1 p2 p3 p5 (0 : Int32) p4) else (j_X6_compared_109 g (fun M p0 p1 p2 p3 p4 p5 => j_X6_compared_42 g n M p0 p1 p2 p3 p4 p5) M p0 p1 p2 p3 p5 (1 : Int32) p4))) := rfl
def j_X6_compared_30 (g : Nat) (M : hm) : Option (hm × Int32) := some (M, (-1 : Int32))
def j_X6_compared (g : Nat) (M : hm) (a0 : Nat) (a1 : Int32) (a2 : Int32) (a3 : Int32) : Option (hm × Int32) := (j_X6_isIn g a1 (0 : Int32) (11 : Int32)).bind fun v16 => if v16 = 0 then (j_X6_compared_30 g M) else ((j_X6_isIn g a3 (0 : Int32) (11 : Int32)).bind fun v18 => if v18 = 0 then (j_X6_compared_30 g M) else ((j_X6_isIn g a2 (0 : Int32) (11 : Int32)).bind fun v20 => if v20 = 0 then (j_X6_compared_30 g M) else ((isO M a0 6).bind fun _ => (j_X6_reckonAll g M a0).bind fun M23 => j_X6_compared_42 g g M23 a0 a1 a2 a3 (0 : Int32) (0 : Int32))))
def j_X6_picture_125 (g : Nat) (M : hm) : Option (hm) := some M
def j_X6_picture_93 (g : Nat) : Nat → hm → Nat → Int32 → Option (hm)
  | 0, _, _, _ => none
  | n + 1, M, p0, p1 => if (48 : Int32) ≤ p1 then (j_X6_picture_125 g M) else ((gR M p0 6 9).bind fun v2 => (gI M p0 6 10).bind fun v3 => (gR M p0 6 3).bind fun v4 => v4.bind fun b5 => (aI M b5 1 p1).bind fun v6 => v2.bind fun b7 => (sI M b7 (((48 : Int32) * v3) + p1) v6).bind fun M8 => j_X6_picture_93 g n M8 p0 (p1 + (1 : Int32)))
theorem j_X6_picture_93_s (g : Nat) (n : Nat) (M : hm) (p0 : Nat) (p1 : Int32) : j_X6_picture_93 g (n + 1) M p0 p1 = (if (48 : Int32) ≤ p1 then (j_X6_picture_125 g M) else ((gR M p0 6 9).bind fun v2 => (gI M p0 6 10).bind fun v3 => (gR M p0 6 3).bind fun v4 => v4.bind fun b5 => (aI M b5 1 p1).bind fun v6 => v2.bind fun b7 => (sI M b7 (((48 : Int32) * v3) + p1) v6).bind fun M8 => j_X6_picture_93 g n M8 p0 (p1 + (1 : Int32)))) := rfl
def j_X6_picture_91 (g : Nat) (M : hm) (p0 : Nat) : Option (hm) := j_X6_picture_93 g g M p0 (0 : Int32)
def j_X6_picture_59 (g : Nat) : Nat → hm → Nat → Int32 → Option (hm)
  | 0, _, _, _ => none
  | n + 1, M, p0, p1 => if (12 : Int32) ≤ p1 then (j_X6_picture_91 g M p0) else ((gR M p0 6 8).bind fun v10 => (gI M p0 6 10).bind fun v11 => (gR M p0 6 2).bind fun v12 => v12.bind fun b13 => (aI M b13 2 p1).bind fun v14 => v10.bind fun b15 => (sZ M b15 (((12 : Int32) * v11) + p1) v14).bind fun M16 => j_X6_picture_59 g n M16 p0 (p1 + (1 : Int32)))
theorem j_X6_picture_59_s (g : Nat) (n : Nat) (M : hm) (p0 : Nat) (p1 : Int32) : j_X6_picture_59 g (n + 1) M p0 p1 = (if (12 : Int32) ≤ p1 then (j_X6_picture_91 g M p0) else ((gR M p0 6 8).bind fun v10 => (gI M p0 6 10).bind fun v11 => (gR M p0 6 2).bind fun v12 => v12.bind fun b13 => (aI M b13 2 p1).bind fun v14 => v10.bind fun b15 => (sZ M b15 (((12 : Int32) * v11) + p1) v14).bind fun M16 => j_X6_picture_59 g n M16 p0 (p1 + (1 : Int32)))) := rfl
def j_X6_picture_57 (g : Nat) (M : hm) (p0 : Nat) : Option (hm) := j_X6_picture_59 g g M p0 (0 : Int32)
def j_X6_picture_2 (g : Nat) : Nat → hm → Nat → Int32 → Option (hm)
  | 0, _, _, _ => none
  | n + 1, M, p0, p1 => if (200 : Int32) ≤ p1 then (j_X6_picture_57 g M p0) else ((gR M p0 6 6).bind fun v18 => (gI M p0 6 10).bind fun v19 => (gR M p0 6 0).bind fun v20 => v20.bind fun b21 => (aD M b21 p1).bind fun v22 => v18.bind fun b23 => (sD M b23 (((200 : Int32) * v19) + p1) v22).bind fun M24 => (gR M24 p0 6 7).bind fun v25 => (gI M24 p0 6 10).bind fun v26 => (gR M24 p0 6 1).bind fun v27 => v27.bind fun b28 => (aI M24 b28 2 p1).bind fun v29 => v25.bind fun b30 => (sZ M24 b30 (((200 : Int32) * v26) + p1) v29).bind fun M31 => j_X6_picture_2 g n M31 p0 (p1 + (1 : Int32)))
theorem j_X6_picture_2_s (g : Nat) (n : Nat) (M : hm) (p0 : Nat) (p1 : Int32) : j_X6_picture_2 g (n + 1) M p0 p1 = (if (200 : Int32) ≤ p1 then (j_X6_picture_57 g M p0) else ((gR M p0 6 6).bind fun v18 => (gI M p0 6 10).bind fun v19 => (gR M p0 6 0).bind fun v20 => v20.bind fun b21 => (aD M b21 p1).bind fun v22 => v18.bind fun b23 => (sD M b23 (((200 : Int32) * v19) + p1) v22).bind fun M24 => (gR M24 p0 6 7).bind fun v25 => (gI M24 p0 6 10).bind fun v26 => (gR M24 p0 6 1).bind fun v27 => v27.bind fun b28 => (aI M24 b28 2 p1).bind fun v29 => v25.bind fun b30 => (sZ M24 b30 (((200 : Int32) * v26) + p1) v29).bind fun M31 => j_X6_picture_2 g n M31 p0 (p1 + (1 : Int32)))) := rfl
def j_X6_picture (g : Nat) (M : hm) (a0 : Nat) : Option (hm) := j_X6_picture_2 g g M a0 (0 : Int32)
def j_X6_power_45 (g : Nat) (p2 : UInt64) : Option (UInt64) := some p2
def j_X6_power_27 (g : Nat) : Nat → Int32 → UInt64 → Int32 → Option (UInt64)
  | 0, _, _, _ => none
  | n + 1, p1, p2, p4 => if p4 ≤ p1 then (j_X6_power_45 g p2) else ((n64 (FP.ddiv p2 (4611686018427387904 : UInt64))).bind fun v2 => j_X6_power_27 g n p1 v2 (p4 + (-1 : Int32)))
theorem j_X6_power_27_s (g : Nat) (n : Nat) (p1 : Int32) (p2 : UInt64) (p4 : Int32) : j_X6_power_27 g (n + 1) p1 p2 p4 = (if p4 ≤ p1 then (j_X6_power_45 g p2) else ((n64 (FP.ddiv p2 (4611686018427387904 : UInt64))).bind fun v2 => j_X6_power_27 g n p1 v2 (p4 + (-1 : Int32)))) := rfl
def j_X6_power_24 (g : Nat) (p1 : Int32) (p2 : UInt64) : Option (UInt64) := j_X6_power_27 g g p1 p2 (0 : Int32)
def j_X6_power_6 (g : Nat) : Nat → Int32 → UInt64 → Int32 → Option (UInt64)
  | 0, _, _, _ => none
  | n + 1, p1, p2, p4 => if p1 ≤ p4 then (j_X6_power_24 g p1 p2) else ((n64 (FP.dmul p2 (4611686018427387904 : UInt64))).bind fun v4 => j_X6_power_6 g n p1 v4 (p4 + (1 : Int32)))
theorem j_X6_power_6_s (g : Nat) (n : Nat) (p1 : Int32) (p2 : UInt64) (p4 : Int32) : j_X6_power_6 g (n + 1) p1 p2 p4 = (if p1 ≤ p4 then (j_X6_power_24 g p1 p2) else ((n64 (FP.dmul p2 (4611686018427387904 : UInt64))).bind fun v4 => j_X6_power_6 g n p1 v4 (p4 + (1 : Int32)))) := rfl
def j_X6_power (g : Nat) (a0 : Int32) (a1 : Int32) : Option (UInt64) := j_X6_power_6 g g a1 (FP.i2d a0) (0 : Int32)
def j_X6_put (g : Nat) (M : hm) (a0 : Nat) (a1 : Int32) (a2 : UInt64) : Option (hm) := (gR M a0 6 0).bind fun v1 => v1.bind fun b2 => (sD M b2 a1 a2).bind fun M3 => (gR M3 a0 6 1).bind fun v4 => v4.bind fun b5 => (sZ M3 b5 a1 (0 : Int32)).bind fun M6 => some M6
def j_X6_constant_23 (g : Nat) (M : hm) : Option (hm × Int32) := some (M, (0 : Int32))
def j_X6_constant (g : Nat) (M : hm) (a0 : Nat) (a1 : Int32) (a2 : Int32) (a3 : Int32) : Option (hm × Int32) := (j_X6_isIn g a1 (0 : Int32) (7 : Int32)).bind fun v1 => if v1 = 0 then (j_X6_constant_23 g M) else ((j_X6_isIn g a3 (-1000 : Int32) (900 : Int32)).bind fun v3 => if v3 = 0 then (j_X6_constant_23 g M) else ((isO M a0 6).bind fun _ => (j_X6_picture g M a0).bind fun M6 => (j_X6_power g a2 a3).bind fun v7 => (isO M6 a0 6).bind fun _ => (j_X6_put g M6 a0 ((192 : Int32) + a1) v7).bind fun M9 => (isO M9 a0 6).bind fun _ => (j_X6_changed g M9 a0).bind fun q11 => some (q11.1, q11.2)))
def j_X6_putSpecial_125 (g : Nat) (M : hm) : Option (hm) := some M
def j_X6_putSpecial_122 (g : Nat) (M : hm) (s0 : UInt64) (s1 : Int32) (s2 : Nat) : Option (hm) := (isO M s2 6).bind fun _ => (j_X6_put g M s2 s1 s0).bind fun M2 => j_X6_putSpecial_125 g M2
def j_X6_putSpecial_101 (g : Nat) (M : hm) (s0 : UInt64) (s1 : Int32) (s2 : Nat) : Option (hm) := (isO M s2 6).bind fun _ => (j_X6_put g M s2 s1 s0).bind fun M4 => j_X6_putSpecial_125 g M4
def j_X6_putSpecial (g : Nat) (M : hm) (a0 : Nat) (a1 : Int32) (a2 : Int32) (a3 : Int32) : Option (hm) := if a2 = (0 : Int32) then ((gR M a0 6 0).bind fun v10 => v10.bind fun b11 => (sD M b11 a1 FP.dconst0).bind fun M12 => (gR M12 a0 6 1).bind fun v13 => v13.bind fun b14 => (sZ M12 b14 a1 (1 : Int32)).bind fun M15 => j_X6_putSpecial_125 g M15) else if a2 = (1 : Int32) then ((isO M a0 6).bind fun _ => (j_X6_put g M a0 a1 (9218868437227405312 : UInt64)).bind fun M17 => j_X6_putSpecial_125 g M17) else if a2 = (2 : Int32) then ((isO M a0 6).bind fun _ => (j_X6_put g M a0 a1 (18442240474082181120 : UInt64)).bind fun M19 => j_X6_putSpecial_125 g M19) else if a2 = (3 : Int32) then ((isO M a0 6).bind fun _ => (j_X6_put g M a0 a1 (9223372036854775808 : UInt64)).bind fun M21 => j_X6_putSpecial_125 g M21) else if a2 = (4 : Int32) then (if a3 = 0 then (j_X6_putSpecial_101 g M (9218868437227405311 : UInt64) a1 a0) else (j_X6_putSpecial_101 g M (5183643170566569984 : UInt64) a1 a0)) else (if a3 = 0 then (j_X6_putSpecial_122 g M (1 : UInt64) a1 a0) else (j_X6_putSpecial_122 g M (3936146074321813504 : UInt64) a1 a0))
def j_X6_constantSpecial_19 (g : Nat) (M : hm) : Option (hm × Int32) := some (M, (0 : Int32))
def j_X6_constantSpecial (g : Nat) (M : hm) (a0 : Nat) (a1 : Int32) (a2 : Int32) : Option (hm × Int32) := (j_X6_isIn g a1 (0 : Int32) (7 : Int32)).bind fun v1 => if v1 = 0 then (j_X6_constantSpecial_19 g M) else ((j_X6_isIn g a2 (0 : Int32) (5 : Int32)).bind fun v3 => if v3 = 0 then (j_X6_constantSpecial_19 g M) else ((isO M a0 6).bind fun _ => (j_X6_picture g M a0).bind fun M6 => (isO M6 a0 6).bind fun _ => (j_X6_putSpecial g M6 a0 ((192 : Int32) + a1) a2 (0 : Int32)).bind fun M8 => (isO M8 a0 6).bind fun _ => (j_X6_changed g M8 a0).bind fun q10 => some (q10.1, q10.2)))
def j_X6_formula_71 (g : Nat) (M : hm) (p0 : Nat) (p1 : Int32) (p2 : Int32) (p3 : Int32) (p4 : Int32) (p5 : Int32) (s0 : Int32) : Option (hm × Int32) := if s0 = 0 then (some (M, (0 : Int32))) else ((isO M p0 6).bind fun _ => (j_X6_picture g M p0).bind fun M3 => (gR M3 p0 6 3).bind fun v4 => v4.bind fun b5 => (sI M3 b5 ((4 : Int32) * p1) p2).bind fun M6 => (gR M6 p0 6 3).bind fun v7 => v7.bind fun b8 => (sI M6 b8 (((4 : Int32) * p1) + (1 : Int32)) p3).bind fun M9 => (gR M9 p0 6 3).bind fun v10 => v10.bind fun b11 => (sI M9 b11 (((4 : Int32) * p1) + (2 : Int32)) p4).bind fun M12 => (gR M12 p0 6 3).bind fun v13 => v13.bind fun b14 => (sI M12 b14 (((4 : Int32) * p1) + (3 : Int32)) p5).bind fun M15 => (isO M15 p0 6).bind fun _ => (j_X6_changed g M15 p0).bind fun q17 => some (q17.1, q17.2))
def j_X6_formula_70 (g : Nat) (M : hm) (p0 : Nat) (p1 : Int32) (p2 : Int32) (p3 : Int32) (p4 : Int32) (p5 : Int32) : Option (hm × Int32) := j_X6_formula_71 g M p0 p1 p2 p3 p4 p5 (0 : Int32)
def j_X6_formula_55 (g : Nat) (M : hm) (p0 : Nat) (p1 : Int32) (p2 : Int32) (p3 : Int32) (p4 : Int32) (p5 : Int32) : Option (hm × Int32) := (j_X6_isIn g p5 (0 : Int32) (11 : Int32)).bind fun v18 => if v18 = 0 then (j_X6_formula_70 g M p0 p1 p2 p3 p4 p5) else (j_X6_formula_71 g M p0 p1 p2 p3 p4 p5 (1 : Int32))
def j_X6_formula (g : Nat) (M : hm) (a0 : Nat) (a1 : Int32) (a2 : Int32) (a3 : Int32) (a4 : Int32) (a5 : Int32) : Option (hm × Int32) := (j_X6_isIn g a1 (0 : Int32) (11 : Int32)).bind fun v20 => if v20 = 0 then (j_X6_formula_70 g M a0 a1 a2 a3 a4 a5) else ((j_X6_isIn g a2 (0 : Int32) (26 : Int32)).bind fun v22 => if v22 = 0 then (j_X6_formula_70 g M a0 a1 a2 a3 a4 a5) else ((j_X6_isIn g a3 (0 : Int32) (a1 - (1 : Int32))).bind fun v24 => if v24 = 0 then (j_X6_formula_70 g M a0 a1 a2 a3 a4 a5) else ((j_X6_isIn g a4 (0 : Int32) (a1 - (1 : Int32))).bind fun v26 => if v26 = 0 then ((j_X6_isIn g a4 (16 : Int32) (23 : Int32)).bind fun v28 => if v28 = 0 then (j_X6_formula_70 g M a0 a1 a2 a3 a4 a5) else (j_X6_formula_55 g M a0 a1 a2 a3 a4 a5)) else (j_X6_formula_55 g M a0 a1 a2 a3 a4 a5))))
def j_X6_holds (g : Nat) (M : hm) (a0 : Nat) (a1 : Int32) (a2 : Int32) : Option (Int32) := (gR M a0 6 11).bind fun v1 => v1.bind fun b2 => (aI M b2 1 ((3 : Int32) * a1)).bind fun v3 => (j_X6_at g v3 a2).bind fun v4 => (gR M a0 6 11).bind fun v5 => v5.bind fun b6 => (aI M b6 1 (((3 : Int32) * a1) + (2 : Int32))).bind fun v7 => (j_X6_at g v7 a2).bind fun v8 => (gR M a0 6 11).bind fun v9 => v9.bind fun b10 => (aI M b10 1 (((3 : Int32) * a1) + (1 : Int32))).bind fun v11 => (gR M a0 6 4).bind fun v12 => v12.bind fun b13 => (aD M b13 v4).bind fun v14 => (gR M a0 6 5).bind fun v15 => v15.bind fun b16 => (aI M b16 2 v4).bind fun v17 => (gR M a0 6 4).bind fun v18 => v18.bind fun b19 => (aD M b19 v8).bind fun v20 => (gR M a0 6 5).bind fun v21 => v21.bind fun b22 => (aI M b22 2 v8).bind fun v23 => (j_X6_isSo g v11 v14 v17 v20 v23).bind fun v24 => (zb v24).bind fun _ => some v24
def j_X6_init_167 (g : Nat) (M : hm) : Option (hm) := some M
def j_X6_init_146 (g : Nat) : Nat → hm → Nat → Int32 → Option (hm)
  | 0, _, _, _ => none
  | n + 1, M, p0, p1 => if (12 : Int32) ≤ p1 then (j_X6_init_167 g M) else ((gR M p0 6 3).bind fun v2 => v2.bind fun b3 => (sI M b3 ((4 : Int32) * p1) (-1 : Int32)).bind fun M4 => j_X6_init_146 g n M4 p0 (p1 + (1 : Int32)))
theorem j_X6_init_146_s (g : Nat) (n : Nat) (M : hm) (p0 : Nat) (p1 : Int32) : j_X6_init_146 g (n + 1) M p0 p1 = (if (12 : Int32) ≤ p1 then (j_X6_init_167 g M) else ((gR M p0 6 3).bind fun v2 => v2.bind fun b3 => (sI M b3 ((4 : Int32) * p1) (-1 : Int32)).bind fun M4 => j_X6_init_146 g n M4 p0 (p1 + (1 : Int32)))) := rfl
def j_X6_init_144 (g : Nat) (M : hm) (p0 : Nat) : Option (hm) := j_X6_init_146 g g M p0 (0 : Int32)
def j_X6_init_124 (g : Nat) : Nat → hm → Nat → Int32 → Option (hm)
  | 0, _, _, _ => none
  | n + 1, M, p0, p1 => if (200 : Int32) ≤ p1 then (j_X6_init_144 g M p0) else ((gR M p0 6 1).bind fun v6 => v6.bind fun b7 => (sZ M b7 p1 (1 : Int32)).bind fun M8 => j_X6_init_124 g n M8 p0 (p1 + (1 : Int32)))
theorem j_X6_init_124_s (g : Nat) (n : Nat) (M : hm) (p0 : Nat) (p1 : Int32) : j_X6_init_124 g (n + 1) M p0 p1 = (if (200 : Int32) ≤ p1 then (j_X6_init_144 g M p0) else ((gR M p0 6 1).bind fun v6 => v6.bind fun b7 => (sZ M b7 p1 (1 : Int32)).bind fun M8 => j_X6_init_124 g n M8 p0 (p1 + (1 : Int32)))) := rfl
def j_X6_init (g : Nat) (M : hm) (a0 : Nat) : Option (hm) := (nA M 0 (200, .inr (.inr (.inr (.inl (fun _ => 0)))))).bind fun q9 => (pV q9.1 a0 6 0 (.ref q9.2)).bind fun M10 => (nA M10 2 (200, .inl (fun _ => 0))).bind fun q11 => (pV q11.1 a0 6 1 (.ref q11.2)).bind fun M12 => (nA M12 2 (12, .inl (fun _ => 0))).bind fun q13 => (pV q13.1 a0 6 2 (.ref q13.2)).bind fun M14 => (nA M14 1 (48, .inl (fun _ => 0))).bind fun q15 => (pV q15.1 a0 6 3 (.ref q15.2)).bind fun M16 => (nA M16 0 (200, .inr (.inr (.inr (.inl (fun _ => 0)))))).bind fun q17 => (pV q17.1 a0 6 4 (.ref q17.2)).bind fun M18 => (nA M18 2 (200, .inl (fun _ => 0))).bind fun q19 => (pV q19.1 a0 6 5 (.ref q19.2)).bind fun M20 => (nA M20 0 (102400, .inr (.inr (.inr (.inl (fun _ => 0)))))).bind fun q21 => (pV q21.1 a0 6 6 (.ref q21.2)).bind fun M22 => (nA M22 2 (102400, .inl (fun _ => 0))).bind fun q23 => (pV q23.1 a0 6 7 (.ref q23.2)).bind fun M24 => (nA M24 2 (6144, .inl (fun _ => 0))).bind fun q25 => (pV q25.1 a0 6 8 (.ref q25.2)).bind fun M26 => (nA M26 1 (24576, .inl (fun _ => 0))).bind fun q27 => (pV q27.1 a0 6 9 (.ref q27.2)).bind fun M28 => (nA M28 1 (30, .inl (fun _ => 0))).bind fun q29 => (pV q29.1 a0 6 11 (.ref q29.2)).bind fun M30 => (nA M30 1 (10, .inl (fun _ => 0))).bind fun q31 => (pV q31.1 a0 6 12 (.ref q31.2)).bind fun M32 => (nA M32 1 (10, .inl (fun _ => 0))).bind fun q33 => (pV q33.1 a0 6 13 (.ref q33.2)).bind fun M34 => (nA M34 2 (10, .inl (fun _ => 0))).bind fun q35 => (pV q35.1 a0 6 14 (.ref q35.2)).bind fun M36 => j_X6_init_124 g g M36 a0 (0 : Int32)
def j_X6_input_77 (g : Nat) (M : hm) (p0 : Nat) (p1 : Int32) : Option (hm × Int32) := (gR M p0 6 3).bind fun v1 => v1.bind fun b2 => (sI M b2 ((4 : Int32) * p1) (-1 : Int32)).bind fun M3 => (isO M3 p0 6).bind fun _ => (j_X6_changed g M3 p0).bind fun q5 => some (q5.1, q5.2)
def j_X6_input_36 (g : Nat) : Nat → hm → Nat → Int32 → Int32 → Option (hm × Int32)
  | 0, _, _, _, _ => none
  | n + 1, M, p0, p1, p2 => if (((16 : Int32) * p1) + (16 : Int32)) ≤ p2 then (j_X6_input_77 g M p0 p1) else ((gR M p0 6 0).bind fun v7 => (gR M p0 6 4).bind fun v8 => v8.bind fun b9 => (aD M b9 p2).bind fun v10 => v7.bind fun b11 => (sD M b11 p2 v10).bind fun M12 => (gR M12 p0 6 1).bind fun v13 => (gR M12 p0 6 5).bind fun v14 => v14.bind fun b15 => (aI M12 b15 2 p2).bind fun v16 => v13.bind fun b17 => (sZ M12 b17 p2 v16).bind fun M18 => j_X6_input_36 g n M18 p0 p1 (p2 + (1 : Int32)))
theorem j_X6_input_36_s (g : Nat) (n : Nat) (M : hm) (p0 : Nat) (p1 : Int32) (p2 : Int32) : j_X6_input_36 g (n + 1) M p0 p1 p2 = (if (((16 : Int32) * p1) + (16 : Int32)) ≤ p2 then (j_X6_input_77 g M p0 p1) else ((gR M p0 6 0).bind fun v7 => (gR M p0 6 4).bind fun v8 => v8.bind fun b9 => (aD M b9 p2).bind fun v10 => v7.bind fun b11 => (sD M b11 p2 v10).bind fun M12 => (gR M12 p0 6 1).bind fun v13 => (gR M12 p0 6 5).bind fun v14 => v14.bind fun b15 => (aI M12 b15 2 p2).bind fun v16 => v13.bind fun b17 => (sZ M12 b17 p2 v16).bind fun M18 => j_X6_input_36 g n M18 p0 p1 (p2 + (1 : Int32)))) := rfl
def j_X6_input_21 (g : Nat) (M : hm) : Option (hm × Int32) := some (M, (0 : Int32))
def j_X6_input (g : Nat) (M : hm) (a0 : Nat) (a1 : Int32) : Option (hm × Int32) := (j_X6_isIn g a1 (0 : Int32) (11 : Int32)).bind fun v19 => if v19 = 0 then (j_X6_input_21 g M) else ((gR M a0 6 3).bind fun v21 => v21.bind fun b22 => (aI M b22 1 ((4 : Int32) * a1)).bind fun v23 => if 0 ≤ v23 then ((isO M a0 6).bind fun _ => (j_X6_picture g M a0).bind fun M26 => (isO M26 a0 6).bind fun _ => (j_X6_reckonAll g M26 a0).bind fun M28 => j_X6_input_36 g g M28 a0 a1 ((16 : Int32) * a1)) else (j_X6_input_21 g M))
def j_X6_isBlank_28 (g : Nat) (M : hm) (s0 : Int32) : Option (hm × Int32) := (zb s0).bind fun _ => some (M, s0)
def j_X6_isBlank_27 (g : Nat) (M : hm) : Option (hm × Int32) := j_X6_isBlank_28 g M (0 : Int32)
def j_X6_isBlank (g : Nat) (M : hm) (a0 : Nat) (a1 : Int32) (a2 : Int32) : Option (hm × Int32) := (isO M a0 6).bind fun _ => (j_X6_isThere g M a0 a1 a2).bind fun q3 => if q3.2 = 0 then (j_X6_isBlank_27 g q3.1) else ((gR q3.1 a0 6 5).bind fun v5 => v5.bind fun b6 => (aI q3.1 b6 2 (((16 : Int32) * a1) + a2)).bind fun v7 => if v7 = 0 then (j_X6_isBlank_27 g q3.1) else (j_X6_isBlank_28 g q3.1 (1 : Int32)))
def j_X6_isMinus_45 (g : Nat) (M : hm) (s0 : Int32) : Option (hm × Int32) := (zb s0).bind fun _ => some (M, s0)
def j_X6_isMinus_44 (g : Nat) (M : hm) : Option (hm × Int32) := j_X6_isMinus_45 g M (0 : Int32)
def j_X6_isMinus (g : Nat) (M : hm) (a0 : Nat) (a1 : Int32) (a2 : Int32) : Option (hm × Int32) := (isO M a0 6).bind fun _ => (j_X6_isThere g M a0 a1 a2).bind fun q3 => if q3.2 = 0 then (j_X6_isMinus_44 g q3.1) else ((gR q3.1 a0 6 5).bind fun v5 => v5.bind fun b6 => (aI q3.1 b6 2 (((16 : Int32) * a1) + a2)).bind fun v7 => if v7 = 0 then ((gR q3.1 a0 6 4).bind fun v9 => v9.bind fun b10 => (aD q3.1 b10 (((16 : Int32) * a1) + a2)).bind fun v11 => (j_X6_hasMinus g v11).bind fun v12 => if v12 = 0 then (j_X6_isMinus_44 g q3.1) else (j_X6_isMinus_45 g q3.1 (1 : Int32))) else (j_X6_isMinus_44 g q3.1))
def j_X6_reading_38 (g : Nat) (M : hm) (s0 : UInt64) : Option (hm × UInt64) := some (M, s0)
def j_X6_reading_37 (g : Nat) (M : hm) : Option (hm × UInt64) := j_X6_reading_38 g M FP.dconst0
def j_X6_reading (g : Nat) (M : hm) (a0 : Nat) (a1 : Int32) (a2 : Int32) : Option (hm × UInt64) := (isO M a0 6).bind fun _ => (j_X6_isThere g M a0 a1 a2).bind fun q2 => if q2.2 = 0 then (j_X6_reading_37 g q2.1) else ((gR q2.1 a0 6 5).bind fun v4 => v4.bind fun b5 => (aI q2.1 b5 2 (((16 : Int32) * a1) + a2)).bind fun v6 => if v6 = 0 then ((gR q2.1 a0 6 4).bind fun v8 => v8.bind fun b9 => (aD q2.1 b9 (((16 : Int32) * a1) + a2)).bind fun v10 => j_X6_reading_38 g q2.1 v10) else (j_X6_reading_37 g q2.1))
def j_X6_ring_103 (g : Nat) (M : hm) (p0 : Nat) (p1 : Int32) : Option (hm × Int32) := (gI M p0 6 16).bind fun v1 => (pV M p0 6 16 (.int (v1 + (1 : Int32)))).bind fun M2 => some (M2, p1)
def j_X6_ring_55 (g : Nat) (K8 : hm → Nat → Int32 → Int32 → Option (hm × Int32)) (M : hm) (p0 : Nat) (p1 : Int32) (p2 : Int32) (p3 : Int32) : Option (hm × Int32) := (gR M p0 6 13).bind fun v3 => (gR M p0 6 12).bind fun v4 => v4.bind fun b5 => (aI M b5 1 p2).bind fun v6 => v3.bind fun b7 => (sI M b7 p2 (p3 &&& (v6 ^^^ (-1 : Int32)))).bind fun M8 => (gR M8 p0 6 12).bind fun v9 => v9.bind fun b10 => (sI M8 b10 p2 p3).bind fun M11 => (gR M11 p0 6 14).bind fun v12 => v12.bind fun b13 => (sZ M11 b13 p2 (1 : Int32)).bind fun M14 => (gR M14 p0 6 13).bind fun v15 => v15.bind fun b16 => (aI M14 b16 1 p2).bind fun v17 => (j_X6_manyBits g v17).bind fun v18 => K8 M14 p0 (p1 + v18) (p2 + (1 : Int32))
def j_X6_ring_47 (g : Nat) (K8 : hm → Nat → Int32 → Int32 → Option (hm × Int32)) (K21 : hm → Nat → Int32 → Int32 → Int32 → Int32 → Option (hm × Int32)) (M : hm) (p0 : Nat) (p1 : Int32) (p2 : Int32) (p4 : Int32) (s0 : Int32) (s1 : Int32) : Option (hm × Int32) := K21 M p0 p1 p2 (s1 ||| s0) (p4 + (1 : Int32))
def j_X6_ring_21 (g : Nat) (K8 : hm → Nat → Int32 → Int32 → Option (hm × Int32)) : Nat → hm → Nat → Int32 → Int32 → Int32 → Int32 → Option (hm × Int32)
  | 0, _, _, _, _, _, _ => none
  | n + 1, M, p0, p1, p2, p3, p4 => if (16 : Int32) ≤ p4 then (j_X6_ring_55 g K8 M p0 p1 p2 p3) else ((isO M p0 6).bind fun _ => (j_X6_holds g M p0 p2 p4).bind fun v21 => if v21 = 0 then (j_X6_ring_47 g K8 (fun M p0 p1 p2 p3 p4 => j_X6_ring_21 g K8 n M p0 p1 p2 p3 p4) M p0 p1 p2 p4 (0 : Int32) p3) else (j_X6_ring_47 g K8 (fun M p0 p1 p2 p3 p4 => j_X6_ring_21 g K8 n M p0 p1 p2 p3 p4) M p0 p1 p2 p4 ((1 : Int32) <<< (p4 &&& 31)) p3))
theorem j_X6_ring_21_s (g : Nat) (K8 : hm → Nat → Int32 → Int32 → Option (hm × Int32)) (n : Nat) (M : hm) (p0 : Nat) (p1 : Int32) (p2 : Int32) (p3 : Int32) (p4 : Int32) : j_X6_ring_21 g K8 (n + 1) M p0 p1 p2 p3 p4 = (if (16 : Int32) ≤ p4 then (j_X6_ring_55 g K8 M p0 p1 p2 p3) else ((isO M p0 6).bind fun _ => (j_X6_holds g M p0 p2 p4).bind fun v21 => if v21 = 0 then (j_X6_ring_47 g K8 (fun M p0 p1 p2 p3 p4 => j_X6_ring_21 g K8 n M p0 p1 p2 p3 p4) M p0 p1 p2 p4 (0 : Int32) p3) else (j_X6_ring_47 g K8 (fun M p0 p1 p2 p3 p4 => j_X6_ring_21 g K8 n M p0 p1 p2 p3 p4) M p0 p1 p2 p4 ((1 : Int32) <<< (p4 &&& 31)) p3))) := rfl
def j_X6_ring_8 (g : Nat) : Nat → hm → Nat → Int32 → Int32 → Option (hm × Int32)
  | 0, _, _, _, _ => none
  | n + 1, M, p0, p1, p2 => (gI M p0 6 15).bind fun v23 => if v23 ≤ p2 then (j_X6_ring_103 g M p0 p1) else (j_X6_ring_21 g (fun M p0 p1 p2 => j_X6_ring_8 g n M p0 p1 p2) g M p0 p1 p2 (0 : Int32) (0 : Int32))
theorem j_X6_ring_8_s (g : Nat) (n : Nat) (M : hm) (p0 : Nat) (p1 : Int32) (p2 : Int32) : j_X6_ring_8 g (n + 1) M p0 p1 p2 = ((gI M p0 6 15).bind fun v23 => if v23 ≤ p2 then (j_X6_ring_103 g M p0 p1) else (j_X6_ring_21 g (fun M p0 p1 p2 => j_X6_ring_8 g n M p0 p1 p2) g M p0 p1 p2 (0 : Int32) (0 : Int32))) := rfl
def j_X6_ring (g : Nat) (M : hm) (a0 : Nat) : Option (hm × Int32) := (isO M a0 6).bind fun _ => (j_X6_reckonAll g M a0).bind fun M26 => j_X6_ring_8 g g M26 a0 (0 : Int32) (0 : Int32)
def j_X6_set_23 (g : Nat) (M : hm) : Option (hm × Int32) := some (M, (0 : Int32))
def j_X6_set (g : Nat) (M : hm) (a0 : Nat) (a1 : Int32) (a2 : Int32) (a3 : Int32) (a4 : Int32) : Option (hm × Int32) := (isO M a0 6).bind fun _ => (j_X6_canSet g M a0 a1 a2).bind fun v2 => if v2 = 0 then (j_X6_set_23 g M) else ((j_X6_isIn g a4 (-1000 : Int32) (900 : Int32)).bind fun v4 => if v4 = 0 then (j_X6_set_23 g M) else ((isO M a0 6).bind fun _ => (j_X6_picture g M a0).bind fun M7 => (j_X6_power g a3 a4).bind fun v8 => (gR M7 a0 6 2).bind fun v9 => v9.bind fun b10 => (aI M7 b10 2 a1).bind fun v11 => (j_X6_brought g v8 v11).bind fun v12 => (isO M7 a0 6).bind fun _ => (j_X6_put g M7 a0 (((16 : Int32) * a1) + a2) v12).bind fun M14 => (isO M14 a0 6).bind fun _ => (j_X6_changed g M14 a0).bind fun q16 => some (q16.1, q16.2)))
def j_X6_special_18 (g : Nat) (M : hm) : Option (hm × Int32) := some (M, (0 : Int32))
def j_X6_special (g : Nat) (M : hm) (a0 : Nat) (a1 : Int32) (a2 : Int32) (a3 : Int32) : Option (hm × Int32) := (isO M a0 6).bind fun _ => (j_X6_canSet g M a0 a1 a2).bind fun v2 => if v2 = 0 then (j_X6_special_18 g M) else ((j_X6_isIn g a3 (0 : Int32) (5 : Int32)).bind fun v4 => if v4 = 0 then (j_X6_special_18 g M) else ((isO M a0 6).bind fun _ => (j_X6_picture g M a0).bind fun M7 => (gR M7 a0 6 2).bind fun v8 => v8.bind fun b9 => (aI M7 b9 2 a1).bind fun v10 => (isO M7 a0 6).bind fun _ => (j_X6_putSpecial g M7 a0 (((16 : Int32) * a1) + a2) a3 v10).bind fun M12 => (isO M12 a0 6).bind fun _ => (j_X6_changed g M12 a0).bind fun q14 => some (q14.1, q14.2)))
def j_X6_told_156 (g : Nat) (M : hm) (p3 : Int32) : Option (hm × Int32) := some (M, p3)
def j_X6_told_148 (g : Nat) (K125 : hm → Nat → Int32 → Int32 → Int32 → Option (hm × Int32)) (M : hm) (p0 : Nat) (p1 : Int32) (p4 : Int32) (s0 : Int32) (s1 : Int32) : Option (hm × Int32) := K125 M p0 p1 (s1 + s0) (p4 + (1 : Int32))
def j_X6_told_125 (g : Nat) : Nat → hm → Nat → Int32 → Int32 → Int32 → Option (hm × Int32)
  | 0, _, _, _, _, _ => none
  | n + 1, M, p0, p1, p3, p4 => if (16 : Int32) ≤ p4 then (j_X6_told_156 g M p3) else ((isO M p0 6).bind fun _ => (j_X6_isBlank g M p0 p1 p4).bind fun q3 => if q3.2 = 0 then (j_X6_told_148 g (fun M p0 p1 p3 p4 => j_X6_told_125 g n M p0 p1 p3 p4) q3.1 p0 p1 p4 (0 : Int32) p3) else (j_X6_told_148 g (fun M p0 p1 p3 p4 => j_X6_told_125 g n M p0 p1 p3 p4) q3.1 p0 p1 p4 (1 : Int32) p3))
theorem j_X6_told_125_s (g : Nat) (n : Nat) (M : hm) (p0 : Nat) (p1 : Int32) (p3 : Int32) (p4 : Int32) : j_X6_told_125 g (n + 1) M p0 p1 p3 p4 = (if (16 : Int32) ≤ p4 then (j_X6_told_156 g M p3) else ((isO M p0 6).bind fun _ => (j_X6_isBlank g M p0 p1 p4).bind fun q3 => if q3.2 = 0 then (j_X6_told_148 g (fun M p0 p1 p3 p4 => j_X6_told_125 g n M p0 p1 p3 p4) q3.1 p0 p1 p4 (0 : Int32) p3) else (j_X6_told_148 g (fun M p0 p1 p3 p4 => j_X6_told_125 g n M p0 p1 p3 p4) q3.1 p0 p1 p4 (1 : Int32) p3))) := rfl
def j_X6_told_119 (g : Nat) (M : hm) (s0 : Int32) : Option (hm × Int32) := some (M, s0)
def j_X6_told_104 (g : Nat) (M : hm) (s0 : Int32) : Option (hm × Int32) := some (M, s0)
def j_X6_told_42 (g : Nat) (M : hm) (s0 : Int32) : Option (hm × Int32) := some (M, s0)
def j_X6_told (g : Nat) (M : hm) (a0 : Nat) (a1 : Int32) (a2 : Int32) : Option (hm × Int32) := if a1 = (12 : Int32) then (if a2 = 0 then ((gI M a0 6 10).bind fun v28 => j_X6_told_42 g M v28) else (if a2 = (1 : Int32) then ((gI M a0 6 15).bind fun v27 => j_X6_told_42 g M v27) else (if a2 = (2 : Int32) then ((gI M a0 6 16).bind fun v26 => j_X6_told_42 g M v26) else (j_X6_told_42 g M (-1 : Int32))))) else ((j_X6_isIn g a1 (0 : Int32) (11 : Int32)).bind fun v6 => if v6 = 0 then (some (M, (-1 : Int32))) else (if a2 = (0 : Int32) then ((gR M a0 6 3).bind fun v12 => v12.bind fun b13 => (aI M b13 1 ((4 : Int32) * a1)).bind fun v14 => if 0 ≤ v14 then (j_X6_told_104 g M (1 : Int32)) else (j_X6_told_104 g M (0 : Int32))) else if a2 = (1 : Int32) then ((gR M a0 6 2).bind fun v16 => v16.bind fun b17 => (aI M b17 2 a1).bind fun v18 => if v18 = 0 then (j_X6_told_119 g M (0 : Int32)) else (j_X6_told_119 g M (1 : Int32))) else if a2 = (2 : Int32) then (j_X6_told_125 g g M a0 a1 (0 : Int32) (0 : Int32)) else if a2 = (3 : Int32) then ((gR M a0 6 3).bind fun v20 => v20.bind fun b21 => (aI M b21 1 ((4 : Int32) * a1)).bind fun v22 => some (M, v22)) else (some (M, (-1 : Int32)))))
def j_X6_width_71 (g : Nat) (M : hm) (p0 : Nat) : Option (hm × Int32) := (isO M p0 6).bind fun _ => (j_X6_changed g M p0).bind fun q2 => some (q2.1, q2.2)
def j_X6_width_38 (g : Nat) : Nat → hm → Nat → Int32 → Int32 → Int32 → Option (hm × Int32)
  | 0, _, _, _, _, _ => none
  | n + 1, M, p0, p1, p2, p3 => if (((16 : Int32) * p1) + (16 : Int32)) ≤ p3 then (j_X6_width_71 g M p0) else ((gR M p0 6 0).bind fun v4 => (gR M p0 6 0).bind fun v5 => v5.bind fun b6 => (aD M b6 p3).bind fun v7 => (j_X6_brought g v7 p2).bind fun v8 => v4.bind fun b9 => (sD M b9 p3 v8).bind fun M10 => j_X6_width_38 g n M10 p0 p1 p2 (p3 + (1 : Int32)))
theorem j_X6_width_38_s (g : Nat) (n : Nat) (M : hm) (p0 : Nat) (p1 : Int32) (p2 : Int32) (p3 : Int32) : j_X6_width_38 g (n + 1) M p0 p1 p2 p3 = (if (((16 : Int32) * p1) + (16 : Int32)) ≤ p3 then (j_X6_width_71 g M p0) else ((gR M p0 6 0).bind fun v4 => (gR M p0 6 0).bind fun v5 => v5.bind fun b6 => (aD M b6 p3).bind fun v7 => (j_X6_brought g v7 p2).bind fun v8 => v4.bind fun b9 => (sD M b9 p3 v8).bind fun M10 => j_X6_width_38 g n M10 p0 p1 p2 (p3 + (1 : Int32)))) := rfl
def j_X6_width_20 (g : Nat) (M : hm) : Option (hm × Int32) := some (M, (0 : Int32))
def j_X6_width (g : Nat) (M : hm) (a0 : Nat) (a1 : Int32) (a2 : Int32) : Option (hm × Int32) := (j_X6_isIn g a1 (0 : Int32) (11 : Int32)).bind fun v11 => if v11 = 0 then (j_X6_width_20 g M) else ((gR M a0 6 2).bind fun v13 => v13.bind fun b14 => (aI M b14 2 a1).bind fun v15 => if v15 = a2 then (j_X6_width_20 g M) else ((isO M a0 6).bind fun _ => (j_X6_picture g M a0).bind fun M18 => (gR M18 a0 6 2).bind fun v19 => v19.bind fun b20 => (sZ M18 b20 a1 a2).bind fun M21 => j_X6_width_38 g g M21 a0 a1 a2 ((16 : Int32) * a1)))
end
