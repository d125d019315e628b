theorem mK_J6_265 : Cond.constant RJ6 265 (1431655765) ∈ wG := wG_t (List.mem_of_getElem? (i := 431) rfl) rfl
theorem mK_J6_266 : Cond.constant RJ6 266 (858993459) ∈ wG := wG_t (List.mem_of_getElem? (i := 432) rfl) rfl
theorem mK_J6_267 : Cond.constant RJ6 267 (252645135) ∈ wG := wG_t (List.mem_of_getElem? (i := 433) rfl) rfl
theorem mF_X0_24 : Cond.fieldLink RX0 24 (TX0 4).1 (TX0 4).2.1 (TX0 4).2.2.1 ∈ wG := wG_t (List.mem_of_getElem? (i := 400) rfl) rfl
theorem mF_X0_27 : Cond.fieldLink RX0 27 (TX0 5).1 (TX0 5).2.1 (TX0 5).2.2.1 ∈ wG := wG_t (List.mem_of_getElem? (i := 401) rfl) rfl
theorem mF_X0_21 : Cond.fieldLink RX0 21 (TX0 3).1 (TX0 3).2.1 (TX0 3).2.2.1 ∈ wG := wG_t (List.mem_of_getElem? (i := 399) rfl) rfl
theorem mC_J6_bitCount_0f7a4 : Cond.code yJ6_bitCount_0f7a4 cJ6_bitCount_0f7a4 1 (some .int) ∈ wG := wG_t (List.mem_of_getElem? (i := 430) rfl) rfl
theorem mM_X0_31 : Cond.methodLink RX0 31 yJ6_bitCount_0f7a4 ∈ wG := wG_t (List.mem_of_getElem? (i := 428) rfl) rfl
theorem mT_J6_bitCount_0f7a4 : Cond.static yJ6_bitCount_0f7a4 ∈ wG := wG_t (List.mem_of_getElem? (i := 429) rfl) rfl
theorem mZ_J6 : Cond.initialized RJ6 ∈ wG := wG_t (List.mem_of_getElem? (i := 9) rfl) rfl
theorem mC_X0_firstRang : Cond.code yX0_firstRang cX0_firstRang 2 (some .int) ∈ wG := wG_t (List.mem_of_getElem? (i := 482) rfl) rfl
theorem mM_X0_37 : Cond.methodLink RX0 37 yX0_firstRang ∈ wG := wG_t (List.mem_of_getElem? (i := 479) rfl) rfl
theorem mI_X0_firstRang : Cond.instanceMethod yX0_firstRang ∈ wG := wG_t (List.mem_of_getElem? (i := 481) rfl) rfl
theorem mS_X0_firstRang : Cond.selects RX0 yX0_firstRang yX0_firstRang ∈ wG := wG_p (List.mem_of_getElem? (i := 22) rfl) rfl
theorem mZ_X0 : Cond.initialized RX0 ∈ wG := wG_t (List.mem_of_getElem? (i := 8) rfl) rfl
theorem mM_X0_3 : Cond.methodLink RX0 3 objectInit ∈ wG := wG_t (List.mem_of_getElem? (i := 392) rfl) rfl
theorem mI_obj : Cond.instanceMethod objectInit ∈ wG := wG_t (List.mem_of_getElem? (i := 16) rfl) rfl
theorem mC_obj : Cond.code objectInit ⟨#[0xb1]⟩ 1 none ∈ wG := wG_t (List.mem_of_getElem? (i := 17) rfl) rfl
theorem mF_X0_9 : Cond.fieldLink RX0 9 (TX0 0).1 (TX0 0).2.1 (TX0 0).2.2.1 ∈ wG := wG_t (List.mem_of_getElem? (i := 393) rfl) rfl
theorem mF_X0_15 : Cond.fieldLink RX0 15 (TX0 1).1 (TX0 1).2.1 (TX0 1).2.2.1 ∈ wG := wG_t (List.mem_of_getElem? (i := 395) rfl) rfl
theorem mF_X0_18 : Cond.fieldLink RX0 18 (TX0 2).1 (TX0 2).2.1 (TX0 2).2.2.1 ∈ wG := wG_t (List.mem_of_getElem? (i := 397) rfl) rfl
theorem mM_X1_1 : Cond.methodLink RX1 1 objectInit ∈ wG := wG_t (List.mem_of_getElem? (i := 163) rfl) rfl
theorem mF_X1_7 : Cond.fieldLink RX1 7 (TX1 0).1 (TX1 0).2.1 (TX1 0).2.2.1 ∈ wG := wG_t (List.mem_of_getElem? (i := 164) rfl) rfl
theorem mF_X1_13 : Cond.fieldLink RX1 13 (TX1 1).1 (TX1 1).2.1 (TX1 1).2.2.1 ∈ wG := wG_t (List.mem_of_getElem? (i := 166) rfl) rfl
theorem mF_X1_17 : Cond.fieldLink RX1 17 (TX1 2).1 (TX1 2).2.1 (TX1 2).2.2.1 ∈ wG := wG_t (List.mem_of_getElem? (i := 168) rfl) rfl
theorem mC_X5_hasMinus : Cond.code yX5_hasMinus cX5_hasMinus 2 (some .boolean) ∈ wG := wG_t (List.mem_of_getElem? (i := 281) rfl) rfl
theorem mT_X5_hasMinus : Cond.static yX5_hasMinus ∈ wG := wG_t (List.mem_of_getElem? (i := 280) rfl) rfl
theorem mZ_X5 : Cond.initialized RX5 ∈ wG := wG_t (List.mem_of_getElem? (i := 1) rfl) rfl
theorem mF_X3_16 : Cond.fieldLink RX3 16 (TX3 1).1 (TX3 1).2.1 (TX3 1).2.2.1 ∈ wG := wG_t (List.mem_of_getElem? (i := 29) rfl) rfl
theorem mF_X2_21 : Cond.fieldLink RX2 21 (TX2 1).1 (TX2 1).2.1 (TX2 1).2.2.1 ∈ wG := wG_t (List.mem_of_getElem? (i := 89) rfl) rfl
theorem mF_X2_87 : Cond.fieldLink RX2 87 (TX3 0).1 (TX3 0).2.1 (TX3 0).2.2.1 ∈ wG := wG_t (List.mem_of_getElem? (i := 27) rfl) rfl
theorem mF_X2_54 : Cond.fieldLink RX2 54 (TX3 3).1 (TX3 3).2.1 (TX3 3).2.2.1 ∈ wG := wG_t (List.mem_of_getElem? (i := 35) rfl) rfl
theorem mC_X3_blankAt : Cond.code yX3_blankAt cX3_blankAt 2 (some .boolean) ∈ wG := wG_t (List.mem_of_getElem? (i := 259) rfl) rfl
theorem mM_X2_84 : Cond.methodLink RX2 84 yX3_blankAt ∈ wG := wG_t (List.mem_of_getElem? (i := 271) rfl) rfl
theorem mI_X3_blankAt : Cond.instanceMethod yX3_blankAt ∈ wG := wG_t (List.mem_of_getElem? (i := 257) rfl) rfl
theorem mS_X3_blankAt : Cond.selects RX3 yX3_blankAt yX3_blankAt ∈ wG := wG_t (List.mem_of_getElem? (i := 258) rfl) rfl
theorem mZ_X3 : Cond.initialized RX3 ∈ wG := wG_t (List.mem_of_getElem? (i := 2) rfl) rfl
theorem mC_X2_comesBefore : Cond.code yX2_comesBefore cX2_comesBefore 4 (some .boolean) ∈ wG := wG_t (List.mem_of_getElem? (i := 278) rfl) rfl
theorem mM_X2_157 : Cond.methodLink RX2 157 yX2_comesBefore ∈ wG := wG_t (List.mem_of_getElem? (i := 276) rfl) rfl
theorem mT_X2_comesBefore : Cond.static yX2_comesBefore ∈ wG := wG_t (List.mem_of_getElem? (i := 277) rfl) rfl
theorem mZ_X2 : Cond.initialized RX2 ∈ wG := wG_t (List.mem_of_getElem? (i := 3) rfl) rfl
theorem mK_X2_161 : Cond.constantDouble RX2 161 (4841369599423283200) ∈ wG := wG_t (List.mem_of_getElem? (i := 326) rfl) rfl
theorem mK_X2_163 : Cond.constantDouble RX2 163 (14064741636278059008) ∈ wG := wG_t (List.mem_of_getElem? (i := 327) rfl) rfl
theorem mC_X2_isSurelyWhole : Cond.code yX2_isSurelyWhole cX2_isSurelyWhole 2 (some .boolean) ∈ wG := wG_t (List.mem_of_getElem? (i := 325) rfl) rfl
theorem mM_X2_165 : Cond.methodLink RX2 165 yX2_isSurelyWhole ∈ wG := wG_t (List.mem_of_getElem? (i := 323) rfl) rfl
theorem mT_X2_isSurelyWhole : Cond.static yX2_isSurelyWhole ∈ wG := wG_t (List.mem_of_getElem? (i := 324) rfl) rfl
theorem mK_X5_198 : Cond.constantDouble RX5 198 (9218868437227405311) ∈ wG := wG_t (List.mem_of_getElem? (i := 207) rfl) rfl
theorem mK_X5_223 : Cond.constantDouble RX5 223 (18442240474082181119) ∈ wG := wG_t (List.mem_of_getElem? (i := 295) rfl) rfl
theorem mC_X5_isInfinite : Cond.code yX5_isInfinite cX5_isInfinite 2 (some .boolean) ∈ wG := wG_t (List.mem_of_getElem? (i := 294) rfl) rfl
theorem mT_X5_isInfinite : Cond.static yX5_isInfinite ∈ wG := wG_t (List.mem_of_getElem? (i := 293) rfl) rfl
theorem mC_X2_isUndefined : Cond.code yX2_isUndefined cX2_isUndefined 6 (some .boolean) ∈ wG := wG_t (List.mem_of_getElem? (i := 291) rfl) rfl
theorem mM_X2_90 : Cond.methodLink RX2 90 yX2_isUndefined ∈ wG := wG_t (List.mem_of_getElem? (i := 289) rfl) rfl
theorem mT_X2_isUndefined : Cond.static yX2_isUndefined ∈ wG := wG_t (List.mem_of_getElem? (i := 290) rfl) rfl
theorem mM_X4_1 : Cond.methodLink RX4 1 objectInit ∈ wG := wG_t (List.mem_of_getElem? (i := 75) rfl) rfl
theorem mF_X4_9 : Cond.fieldLink RX4 9 (TX4 0).1 (TX4 0).2.1 (TX4 0).2.2.1 ∈ wG := wG_t (List.mem_of_getElem? (i := 78) rfl) rfl
theorem mF_X4_13 : Cond.fieldLink RX4 13 (TX4 1).1 (TX4 1).2.1 (TX4 1).2.2.1 ∈ wG := wG_t (List.mem_of_getElem? (i := 79) rfl) rfl
theorem mK_X4_16 : Cond.constantDouble RX4 16 (4611686018427387904) ∈ wG := wG_t (List.mem_of_getElem? (i := 76) rfl) rfl
theorem mK_X4_18 : Cond.constantDouble RX4 18 (4602678819172646912) ∈ wG := wG_t (List.mem_of_getElem? (i := 77) rfl) rfl
theorem mA_double : Cond.arrayClass .double ∈ wG := wG_t (List.mem_of_getElem? (i := 61) rfl) rfl
theorem mM_X3_3 : Cond.methodLink RX3 3 objectInit ∈ wG := wG_t (List.mem_of_getElem? (i := 24) rfl) rfl
theorem mF_X3_9 : Cond.fieldLink RX3 9 (TX3 0).1 (TX3 0).2.1 (TX3 0).2.2.1 ∈ wG := wG_t (List.mem_of_getElem? (i := 26) rfl) rfl
theorem mK_X3_15 : Cond.constant RX3 15 (65535) ∈ wG := wG_t (List.mem_of_getElem? (i := 25) rfl) rfl
theorem mF_X3_20 : Cond.fieldLink RX3 20 (TX3 2).1 (TX3 2).2.1 (TX3 2).2.2.1 ∈ wG := wG_t (List.mem_of_getElem? (i := 31) rfl) rfl
theorem mF_X3_24 : Cond.fieldLink RX3 24 (TX3 3).1 (TX3 3).2.1 (TX3 3).2.2.1 ∈ wG := wG_t (List.mem_of_getElem? (i := 34) rfl) rfl
theorem mF_X3_27 : Cond.fieldLink RX3 27 (TX3 4).1 (TX3 4).2.1 (TX3 4).2.2.1 ∈ wG := wG_t (List.mem_of_getElem? (i := 37) rfl) rfl
theorem mF_X3_30 : Cond.fieldLink RX3 30 (TX3 5).1 (TX3 5).2.1 (TX3 5).2.2.1 ∈ wG := wG_t (List.mem_of_getElem? (i := 40) rfl) rfl
theorem mF_X3_33 : Cond.fieldLink RX3 33 (TX3 6).1 (TX3 6).2.1 (TX3 6).2.2.1 ∈ wG := wG_t (List.mem_of_getElem? (i := 43) rfl) rfl
theorem mM_X2_3 : Cond.methodLink RX2 3 objectInit ∈ wG := wG_t (List.mem_of_getElem? (i := 69) rfl) rfl
theorem mL_X2_9 : Cond.classLink RX2 9 RX4 ∈ wG := wG_t (List.mem_of_getElem? (i := 70) rfl) rfl
theorem mF_X2_12 : Cond.fieldLink RX2 12 (TX2 0).1 (TX2 0).2.1 (TX2 0).2.2.1 ∈ wG := wG_t (List.mem_of_getElem? (i := 87) rfl) rfl
theorem mL_X2_18 : Cond.classLink RX2 18 RX3 ∈ wG := wG_t (List.mem_of_getElem? (i := 85) rfl) rfl
theorem mF_X2_25 : Cond.fieldLink RX2 25 (TX2 2).1 (TX2 2).2.1 (TX2 2).2.2.1 ∈ wG := wG_t (List.mem_of_getElem? (i := 90) rfl) rfl
theorem mF_X2_28 : Cond.fieldLink RX2 28 (TX2 3).1 (TX2 3).2.1 (TX2 3).2.2.1 ∈ wG := wG_t (List.mem_of_getElem? (i := 91) rfl) rfl
theorem mF_X2_32 : Cond.fieldLink RX2 32 (TX2 4).1 (TX2 4).2.1 (TX2 4).2.2.1 ∈ wG := wG_t (List.mem_of_getElem? (i := 92) rfl) rfl
theorem mN_X4 : Cond.instantiable RX4 2 ∈ wG := wG_t (List.mem_of_getElem? (i := 71) rfl) rfl
theorem mZ_X4 : Cond.initialized RX4 ∈ wG := wG_t (List.mem_of_getElem? (i := 4) rfl) rfl
theorem mC_X4_init : Cond.code yX4_init cX4_init 2 none ∈ wG := wG_t (List.mem_of_getElem? (i := 74) rfl) rfl
theorem mM_X2_11 : Cond.methodLink RX2 11 yX4_init ∈ wG := wG_t (List.mem_of_getElem? (i := 72) rfl) rfl
theorem mI_X4_init : Cond.instanceMethod yX4_init ∈ wG := wG_t (List.mem_of_getElem? (i := 73) rfl) rfl
theorem mN_X3 : Cond.instantiable RX3 7 ∈ wG := wG_t (List.mem_of_getElem? (i := 20) rfl) rfl
theorem mC_X3_init : Cond.code yX3_init cX3_init 1 none ∈ wG := wG_t (List.mem_of_getElem? (i := 23) rfl) rfl
theorem mM_X2_20 : Cond.methodLink RX2 20 yX3_init ∈ wG := wG_t (List.mem_of_getElem? (i := 86) rfl) rfl
theorem mI_X3_init : Cond.instanceMethod yX3_init ∈ wG := wG_t (List.mem_of_getElem? (i := 22) rfl) rfl
theorem mF_X5_149 : Cond.fieldLink RX5 149 (TX3 0).1 (TX3 0).2.1 (TX3 0).2.2.1 ∈ wG := wG_t (List.mem_of_getElem? (i := 28) rfl) rfl
theorem mM_X5_156 : Cond.methodLink RX5 156 yX3_blankAt ∈ wG := wG_t (List.mem_of_getElem? (i := 299) rfl) rfl
theorem mC_X5_isSoOfNumbers : Cond.code yX5_isSoOfNumbers cX5_isSoOfNumbers 5 (some .boolean) ∈ wG := wG_t (List.mem_of_getElem? (i := 302) rfl) rfl
theorem mM_X5_219 : Cond.methodLink RX5 219 yX5_isSoOfNumbers ∈ wG := wG_t (List.mem_of_getElem? (i := 300) rfl) rfl
theorem mT_X5_isSoOfNumbers : Cond.static yX5_isSoOfNumbers ∈ wG := wG_t (List.mem_of_getElem? (i := 301) rfl) rfl
theorem mF_X2_94 : Cond.fieldLink RX2 94 (TX3 6).1 (TX3 6).2.1 (TX3 6).2.2.1 ∈ wG := wG_t (List.mem_of_getElem? (i := 44) rfl) rfl
theorem mC_X2_isOfTwo : Cond.code yX2_isOfTwo cX2_isOfTwo 1 (some .boolean) ∈ wG := wG_t (List.mem_of_getElem? (i := 288) rfl) rfl
theorem mM_X2_80 : Cond.methodLink RX2 80 yX2_isOfTwo ∈ wG := wG_t (List.mem_of_getElem? (i := 286) rfl) rfl
theorem mT_X2_isOfTwo : Cond.static yX2_isOfTwo ∈ wG := wG_t (List.mem_of_getElem? (i := 287) rfl) rfl
theorem mC_X5_isSo : Cond.code yX5_isSo cX5_isSo 8 (some .boolean) ∈ wG := wG_t (List.mem_of_getElem? (i := 298) rfl) rfl
theorem mT_X5_isSo : Cond.static yX5_isSo ∈ wG := wG_t (List.mem_of_getElem? (i := 297) rfl) rfl
theorem mC_X2_hasBothNeighbours : Cond.code yX2_hasBothNeighbours cX2_hasBothNeighbours 2 (some .boolean) ∈ wG := wG_t (List.mem_of_getElem? (i := 306) rfl) rfl
theorem mM_X2_101 : Cond.methodLink RX2 101 yX2_hasBothNeighbours ∈ wG := wG_t (List.mem_of_getElem? (i := 303) rfl) rfl
theorem mI_X2_hasBothNeighbours : Cond.instanceMethod yX2_hasBothNeighbours ∈ wG := wG_t (List.mem_of_getElem? (i := 305) rfl) rfl
theorem mS_X2_hasBothNeighbours : Cond.selects RX2 yX2_hasBothNeighbours yX2_hasBothNeighbours ∈ wG := wG_p (List.mem_of_getElem? (i := 8) rfl) rfl
theorem mC_X2_hasDifference : Cond.code yX2_hasDifference cX2_hasDifference 2 (some .boolean) ∈ wG := wG_t (List.mem_of_getElem? (i := 310) rfl) rfl
theorem mM_X2_104 : Cond.methodLink RX2 104 yX2_hasDifference ∈ wG := wG_t (List.mem_of_getElem? (i := 307) rfl) rfl
theorem mI_X2_hasDifference : Cond.instanceMethod yX2_hasDifference ∈ wG := wG_t (List.mem_of_getElem? (i := 309) rfl) rfl
theorem mS_X2_hasDifference : Cond.selects RX2 yX2_hasDifference yX2_hasDifference ∈ wG := wG_p (List.mem_of_getElem? (i := 9) rfl) rfl
theorem mK_X2_168 : Cond.constantDouble RX2 168 (4602678819172646912) ∈ wG := wG_t (List.mem_of_getElem? (i := 331) rfl) rfl
theorem mF_X2_36 : Cond.fieldLink RX2 36 (TX3 2).1 (TX3 2).2.1 (TX3 2).2.2.1 ∈ wG := wG_t (List.mem_of_getElem? (i := 32) rfl) rfl
theorem mK_X2_146 : Cond.constantDouble RX2 146 (4611686018427387904) ∈ wG := wG_t (List.mem_of_getElem? (i := 333) rfl) rfl
theorem mK_X2_144 : Cond.constantDouble RX2 144 (13830554455654793216) ∈ wG := wG_t (List.mem_of_getElem? (i := 332) rfl) rfl
theorem mC_X2_floor : Cond.code yX2_floor cX2_floor 4 (some .double) ∈ wG := wG_t (List.mem_of_getElem? (i := 322) rfl) rfl
theorem mM_X2_137 : Cond.methodLink RX2 137 yX2_floor ∈ wG := wG_t (List.mem_of_getElem? (i := 320) rfl) rfl
theorem mT_X2_floor : Cond.static yX2_floor ∈ wG := wG_t (List.mem_of_getElem? (i := 321) rfl) rfl
theorem mC_X2_nearest : Cond.code yX2_nearest cX2_nearest 8 (some .double) ∈ wG := wG_t (List.mem_of_getElem? (i := 330) rfl) rfl
theorem mM_X2_141 : Cond.methodLink RX2 141 yX2_nearest ∈ wG := wG_t (List.mem_of_getElem? (i := 328) rfl) rfl
theorem mT_X2_nearest : Cond.static yX2_nearest ∈ wG := wG_t (List.mem_of_getElem? (i := 329) rfl) rfl
theorem mC_X2_quotient : Cond.code yX2_quotient cX2_quotient 5 (some .double) ∈ wG := wG_t (List.mem_of_getElem? (i := 337) rfl) rfl
theorem mM_X2_148 : Cond.methodLink RX2 148 yX2_quotient ∈ wG := wG_t (List.mem_of_getElem? (i := 334) rfl) rfl
theorem mI_X2_quotient : Cond.instanceMethod yX2_quotient ∈ wG := wG_t (List.mem_of_getElem? (i := 336) rfl) rfl
theorem mS_X2_quotient : Cond.selects RX2 yX2_quotient yX2_quotient ∈ wG := wG_p (List.mem_of_getElem? (i := 12) rfl) rfl
theorem mC_X2_product : Cond.code yX2_product cX2_product 5 (some .double) ∈ wG := wG_t (List.mem_of_getElem? (i := 341) rfl) rfl
theorem mM_X2_151 : Cond.methodLink RX2 151 yX2_product ∈ wG := wG_t (List.mem_of_getElem? (i := 338) rfl) rfl
theorem mI_X2_product : Cond.instanceMethod yX2_product ∈ wG := wG_t (List.mem_of_getElem? (i := 340) rfl) rfl
theorem mS_X2_product : Cond.selects RX2 yX2_product yX2_product ∈ wG := wG_p (List.mem_of_getElem? (i := 13) rfl) rfl
theorem mC_X4_times : Cond.code yX4_times cX4_times 9 (some .double) ∈ wG := wG_t (List.mem_of_getElem? (i := 189) rfl) rfl
theorem mM_X2_174 : Cond.methodLink RX2 174 yX4_times ∈ wG := wG_t (List.mem_of_getElem? (i := 358) rfl) rfl
theorem mI_X4_times : Cond.instanceMethod yX4_times ∈ wG := wG_t (List.mem_of_getElem? (i := 187) rfl) rfl
theorem mS_X4_times : Cond.selects RX4 yX4_times yX4_times ∈ wG := wG_t (List.mem_of_getElem? (i := 188) rfl) rfl
theorem mC_X4_unit : Cond.code yX4_unit cX4_unit 10 (some .int) ∈ wG := wG_t (List.mem_of_getElem? (i := 357) rfl) rfl
theorem mM_X2_170 : Cond.methodLink RX2 170 yX4_unit ∈ wG := wG_t (List.mem_of_getElem? (i := 354) rfl) rfl
theorem mI_X4_unit : Cond.instanceMethod yX4_unit ∈ wG := wG_t (List.mem_of_getElem? (i := 355) rfl) rfl
theorem mS_X4_unit : Cond.selects RX4 yX4_unit yX4_unit ∈ wG := wG_t (List.mem_of_getElem? (i := 356) rfl) rfl
theorem mC_X2_sum : Cond.code yX2_sum cX2_sum 5 (some .double) ∈ wG := wG_t (List.mem_of_getElem? (i := 349) rfl) rfl
theorem mM_X2_130 : Cond.methodLink RX2 130 yX2_sum ∈ wG := wG_t (List.mem_of_getElem? (i := 346) rfl) rfl
theorem mI_X2_sum : Cond.instanceMethod yX2_sum ∈ wG := wG_t (List.mem_of_getElem? (i := 348) rfl) rfl
theorem mS_X2_sum : Cond.selects RX2 yX2_sum yX2_sum ∈ wG := wG_p (List.mem_of_getElem? (i := 15) rfl) rfl
theorem mC_X2_remainder : Cond.code yX2_remainder cX2_remainder 17 (some .double) ∈ wG := wG_t (List.mem_of_getElem? (i := 353) rfl) rfl
theorem mM_X2_154 : Cond.methodLink RX2 154 yX2_remainder ∈ wG := wG_t (List.mem_of_getElem? (i := 350) rfl) rfl
theorem mI_X2_remainder : Cond.instanceMethod yX2_remainder ∈ wG := wG_t (List.mem_of_getElem? (i := 352) rfl) rfl
theorem mS_X2_remainder : Cond.selects RX2 yX2_remainder yX2_remainder ∈ wG := wG_p (List.mem_of_getElem? (i := 16) rfl) rfl
theorem mC_X2_middleAt : Cond.code yX2_middleAt cX2_middleAt 9 (some .double) ∈ wG := wG_t (List.mem_of_getElem? (i := 362) rfl) rfl
theorem mM_X2_119 : Cond.methodLink RX2 119 yX2_middleAt ∈ wG := wG_t (List.mem_of_getElem? (i := 359) rfl) rfl
theorem mI_X2_middleAt : Cond.instanceMethod yX2_middleAt ∈ wG := wG_t (List.mem_of_getElem? (i := 361) rfl) rfl
theorem mS_X2_middleAt : Cond.selects RX2 yX2_middleAt yX2_middleAt ∈ wG := wG_p (List.mem_of_getElem? (i := 17) rfl) rfl
theorem mC_X2_farthestAt : Cond.code yX2_farthestAt cX2_farthestAt 8 (some .double) ∈ wG := wG_t (List.mem_of_getElem? (i := 366) rfl) rfl
theorem mM_X2_123 : Cond.methodLink RX2 123 yX2_farthestAt ∈ wG := wG_t (List.mem_of_getElem? (i := 363) rfl) rfl
theorem mI_X2_farthestAt : Cond.instanceMethod yX2_farthestAt ∈ wG := wG_t (List.mem_of_getElem? (i := 365) rfl) rfl
theorem mS_X2_farthestAt : Cond.selects RX2 yX2_farthestAt yX2_farthestAt ∈ wG := wG_p (List.mem_of_getElem? (i := 18) rfl) rfl
theorem mC_X2_lesserPlaces : Cond.code yX2_lesserPlaces cX2_lesserPlaces 5 (some .int) ∈ wG := wG_t (List.mem_of_getElem? (i := 370) rfl) rfl
theorem mM_X2_126 : Cond.methodLink RX2 126 yX2_lesserPlaces ∈ wG := wG_t (List.mem_of_getElem? (i := 367) rfl) rfl
theorem mI_X2_lesserPlaces : Cond.instanceMethod yX2_lesserPlaces ∈ wG := wG_t (List.mem_of_getElem? (i := 369) rfl) rfl
theorem mS_X2_lesserPlaces : Cond.selects RX2 yX2_lesserPlaces yX2_lesserPlaces ∈ wG := wG_p (List.mem_of_getElem? (i := 19) rfl) rfl
theorem mC_X2_ofTwo : Cond.code yX2_ofTwo cX2_ofTwo 6 (some .double) ∈ wG := wG_t (List.mem_of_getElem? (i := 345) rfl) rfl
theorem mM_X2_115 : Cond.methodLink RX2 115 yX2_ofTwo ∈ wG := wG_t (List.mem_of_getElem? (i := 342) rfl) rfl
theorem mI_X2_ofTwo : Cond.instanceMethod yX2_ofTwo ∈ wG := wG_t (List.mem_of_getElem? (i := 344) rfl) rfl
theorem mS_X2_ofTwo : Cond.selects RX2 yX2_ofTwo yX2_ofTwo ∈ wG := wG_p (List.mem_of_getElem? (i := 14) rfl) rfl
theorem mC_X2_ofOne : Cond.code yX2_ofOne cX2_ofOne 4 (some .double) ∈ wG := wG_t (List.mem_of_getElem? (i := 319) rfl) rfl
theorem mM_X2_111 : Cond.methodLink RX2 111 yX2_ofOne ∈ wG := wG_t (List.mem_of_getElem? (i := 316) rfl) rfl
theorem mI_X2_ofOne : Cond.instanceMethod yX2_ofOne ∈ wG := wG_t (List.mem_of_getElem? (i := 318) rfl) rfl
theorem mS_X2_ofOne : Cond.selects RX2 yX2_ofOne yX2_ofOne ∈ wG := wG_p (List.mem_of_getElem? (i := 11) rfl) rfl
theorem mM_X3_43 : Cond.methodLink RX3 43 yX3_blankAt ∈ wG := wG_t (List.mem_of_getElem? (i := 256) rfl) rfl
theorem mC_X3_put : Cond.code yX3_put cX3_put 4 none ∈ wG := wG_t (List.mem_of_getElem? (i := 193) rfl) rfl
theorem mM_X3_47 : Cond.methodLink RX3 47 yX3_put ∈ wG := wG_t (List.mem_of_getElem? (i := 261) rfl) rfl
theorem mI_X3_put : Cond.instanceMethod yX3_put ∈ wG := wG_t (List.mem_of_getElem? (i := 191) rfl) rfl
theorem mS_X3_put : Cond.selects RX3 yX3_put yX3_put ∈ wG := wG_t (List.mem_of_getElem? (i := 192) rfl) rfl
theorem mC_X3_clear : Cond.code yX3_clear cX3_clear 2 none ∈ wG := wG_t (List.mem_of_getElem? (i := 213) rfl) rfl
theorem mM_X3_55 : Cond.methodLink RX3 55 yX3_clear ∈ wG := wG_t (List.mem_of_getElem? (i := 260) rfl) rfl
theorem mI_X3_clear : Cond.instanceMethod yX3_clear ∈ wG := wG_t (List.mem_of_getElem? (i := 211) rfl) rfl
theorem mS_X3_clear : Cond.selects RX3 yX3_clear yX3_clear ∈ wG := wG_t (List.mem_of_getElem? (i := 212) rfl) rfl
theorem mC_X3_takeOne : Cond.code yX3_takeOne cX3_takeOne 4 none ∈ wG := wG_t (List.mem_of_getElem? (i := 255) rfl) rfl
theorem mM_X3_51 : Cond.methodLink RX3 51 yX3_takeOne ∈ wG := wG_t (List.mem_of_getElem? (i := 252) rfl) rfl
theorem mI_X3_takeOne : Cond.instanceMethod yX3_takeOne ∈ wG := wG_t (List.mem_of_getElem? (i := 253) rfl) rfl
theorem mS_X3_takeOne : Cond.selects RX3 yX3_takeOne yX3_takeOne ∈ wG := wG_t (List.mem_of_getElem? (i := 254) rfl) rfl
theorem mM_X2_76 : Cond.methodLink RX2 76 yX3_takeOne ∈ wG := wG_t (List.mem_of_getElem? (i := 266) rfl) rfl
theorem mC_X3_takeAll : Cond.code yX3_takeAll cX3_takeAll 3 none ∈ wG := wG_t (List.mem_of_getElem? (i := 251) rfl) rfl
theorem mM_X2_43 : Cond.methodLink RX2 43 yX3_takeAll ∈ wG := wG_t (List.mem_of_getElem? (i := 248) rfl) rfl
theorem mI_X3_takeAll : Cond.instanceMethod yX3_takeAll ∈ wG := wG_t (List.mem_of_getElem? (i := 249) rfl) rfl
theorem mS_X3_takeAll : Cond.selects RX3 yX3_takeAll yX3_takeAll ∈ wG := wG_t (List.mem_of_getElem? (i := 250) rfl) rfl
theorem mC_X2_insert : Cond.code yX2_insert cX2_insert 4 none ∈ wG := wG_t (List.mem_of_getElem? (i := 275) rfl) rfl
theorem mM_X2_178 : Cond.methodLink RX2 178 yX2_insert ∈ wG := wG_t (List.mem_of_getElem? (i := 272) rfl) rfl
theorem mI_X2_insert : Cond.instanceMethod yX2_insert ∈ wG := wG_t (List.mem_of_getElem? (i := 274) rfl) rfl
theorem mS_X2_insert : Cond.selects RX2 yX2_insert yX2_insert ∈ wG := wG_p (List.mem_of_getElem? (i := 6) rfl) rfl
theorem mF_X2_40 : Cond.fieldLink RX2 40 (TX3 4).1 (TX3 4).2.1 (TX3 4).2.2.1 ∈ wG := wG_t (List.mem_of_getElem? (i := 38) rfl) rfl
theorem mF_X2_47 : Cond.fieldLink RX2 47 (TX3 5).1 (TX3 5).2.1 (TX3 5).2.2.1 ∈ wG := wG_t (List.mem_of_getElem? (i := 41) rfl) rfl
theorem mC_X2_leavesBlank : Cond.code yX2_leavesBlank cX2_leavesBlank 3 (some .boolean) ∈ wG := wG_t (List.mem_of_getElem? (i := 285) rfl) rfl
theorem mM_X2_60 : Cond.methodLink RX2 60 yX2_leavesBlank ∈ wG := wG_t (List.mem_of_getElem? (i := 282) rfl) rfl
theorem mI_X2_leavesBlank : Cond.instanceMethod yX2_leavesBlank ∈ wG := wG_t (List.mem_of_getElem? (i := 284) rfl) rfl
theorem mS_X2_leavesBlank : Cond.selects RX2 yX2_leavesBlank yX2_leavesBlank ∈ wG := wG_p (List.mem_of_getElem? (i := 7) rfl) rfl
theorem mC_X2_numberAt : Cond.code yX2_numberAt cX2_numberAt 3 (some .double) ∈ wG := wG_t (List.mem_of_getElem? (i := 315) rfl) rfl
theorem mM_X2_68 : Cond.methodLink RX2 68 yX2_numberAt ∈ wG := wG_t (List.mem_of_getElem? (i := 312) rfl) rfl
theorem mI_X2_numberAt : Cond.instanceMethod yX2_numberAt ∈ wG := wG_t (List.mem_of_getElem? (i := 314) rfl) rfl
theorem mS_X2_numberAt : Cond.selects RX2 yX2_numberAt yX2_numberAt ∈ wG := wG_p (List.mem_of_getElem? (i := 10) rfl) rfl
theorem mM_X2_72 : Cond.methodLink RX2 72 yX3_put ∈ wG := wG_t (List.mem_of_getElem? (i := 371) rfl) rfl
theorem mM_X2_64 : Cond.methodLink RX2 64 yX3_clear ∈ wG := wG_t (List.mem_of_getElem? (i := 311) rfl) rfl
theorem mC_X2_takeSecond : Cond.code yX2_takeSecond cX2_takeSecond 4 none ∈ wG := wG_t (List.mem_of_getElem? (i := 265) rfl) rfl
theorem mM_X2_50 : Cond.methodLink RX2 50 yX2_takeSecond ∈ wG := wG_t (List.mem_of_getElem? (i := 262) rfl) rfl
theorem mI_X2_takeSecond : Cond.instanceMethod yX2_takeSecond ∈ wG := wG_t (List.mem_of_getElem? (i := 264) rfl) rfl
theorem mS_X2_takeSecond : Cond.selects RX2 yX2_takeSecond yX2_takeSecond ∈ wG := wG_p (List.mem_of_getElem? (i := 4) rfl) rfl
theorem mC_X2_sort : Cond.code yX2_sort cX2_sort 2 none ∈ wG := wG_t (List.mem_of_getElem? (i := 270) rfl) rfl
theorem mM_X2_57 : Cond.methodLink RX2 57 yX2_sort ∈ wG := wG_t (List.mem_of_getElem? (i := 267) rfl) rfl
theorem mI_X2_sort : Cond.instanceMethod yX2_sort ∈ wG := wG_t (List.mem_of_getElem? (i := 269) rfl) rfl
theorem mS_X2_sort : Cond.selects RX2 yX2_sort yX2_sort ∈ wG := wG_p (List.mem_of_getElem? (i := 5) rfl) rfl
theorem mL_X3_10 : Cond.classLink RX3 10 RX3 ∈ wG := wG_t (List.mem_of_getElem? (i := 181) rfl) rfl
theorem mM_X3_36 : Cond.methodLink RX3 36 yX3_init ∈ wG := wG_t (List.mem_of_getElem? (i := 182) rfl) rfl
theorem mM_X3_37 : Cond.methodLink RX3 37 arraycopyName ∈ wG := wG_t (List.mem_of_getElem? (i := 183) rfl) rfl
theorem mV_copy : Cond.native arraycopyName ∈ wG := wG_t (List.mem_of_getElem? (i := 185) rfl) rfl
theorem mT_copy : Cond.static arraycopyName ∈ wG := wG_t (List.mem_of_getElem? (i := 184) rfl) rfl
theorem mZ_System : Cond.initialized "java/lang/System" ∈ wG := wG_t (List.mem_of_getElem? (i := 7) rfl) rfl
theorem mK_X4_26 : Cond.constantLong RX4 26 (-1) ∈ wG := wG_t (List.mem_of_getElem? (i := 460) rfl) rfl
theorem mK_X4_31 : Cond.constantLong RX4 31 (255) ∈ wG := wG_t (List.mem_of_getElem? (i := 462) rfl) rfl
theorem mK_X4_33 : Cond.constantLong RX4 33 (2047) ∈ wG := wG_t (List.mem_of_getElem? (i := 463) rfl) rfl
theorem mM_X4_35 : Cond.methodLink RX4 35 yX4_unit ∈ wG := wG_t (List.mem_of_getElem? (i := 464) rfl) rfl
theorem mM_X4_39 : Cond.methodLink RX4 39 yX4_times ∈ wG := wG_t (List.mem_of_getElem? (i := 465) rfl) rfl
theorem mF_X5_37 : Cond.fieldLink RX5 37 (TX5 5).1 (TX5 5).2.1 (TX5 5).2.2.1 ∈ wG := wG_t (List.mem_of_getElem? (i := 109) rfl) rfl
theorem mF_X5_18 : Cond.fieldLink RX5 18 (TX5 1).1 (TX5 1).2.1 (TX5 1).2.2.1 ∈ wG := wG_t (List.mem_of_getElem? (i := 105) rfl) rfl
theorem mL_X5_16 : Cond.classLink RX5 16 RX0 ∈ wG := wG_t (List.mem_of_getElem? (i := 62) rfl) rfl
theorem mN_X0 : Cond.instantiable RX0 6 ∈ wG := wG_t (List.mem_of_getElem? (i := 388) rfl) rfl
theorem mC_X0_init : Cond.code yX0_init cX0_init 4 none ∈ wG := wG_t (List.mem_of_getElem? (i := 391) rfl) rfl
theorem mM_X5_130 : Cond.methodLink RX5 130 yX0_init ∈ wG := wG_t (List.mem_of_getElem? (i := 389) rfl) rfl
theorem mI_X0_init : Cond.instanceMethod yX0_init ∈ wG := wG_t (List.mem_of_getElem? (i := 390) rfl) rfl
theorem mC_X5_isColumn : Cond.code yX5_isColumn cX5_isColumn 1 (some .boolean) ∈ wG := wG_t (List.mem_of_getElem? (i := 139) rfl) rfl
theorem mM_X5_86 : Cond.methodLink RX5 86 yX5_isColumn ∈ wG := wG_t (List.mem_of_getElem? (i := 137) rfl) rfl
theorem mT_X5_isColumn : Cond.static yX5_isColumn ∈ wG := wG_t (List.mem_of_getElem? (i := 138) rfl) rfl
theorem mC_X5_isComparison : Cond.code yX5_isComparison cX5_isComparison 1 (some .boolean) ∈ wG := wG_t (List.mem_of_getElem? (i := 231) rfl) rfl
theorem mM_X5_89 : Cond.methodLink RX5 89 yX5_isComparison ∈ wG := wG_t (List.mem_of_getElem? (i := 229) rfl) rfl
theorem mT_X5_isComparison : Cond.static yX5_isComparison ∈ wG := wG_t (List.mem_of_getElem? (i := 230) rfl) rfl
theorem mC_X5_isConstant : Cond.code yX5_isConstant cX5_isConstant 1 (some .boolean) ∈ wG := wG_t (List.mem_of_getElem? (i := 220) rfl) rfl
theorem mM_X5_79 : Cond.methodLink RX5 79 yX5_isConstant ∈ wG := wG_t (List.mem_of_getElem? (i := 218) rfl) rfl
theorem mT_X5_isConstant : Cond.static yX5_isConstant ∈ wG := wG_t (List.mem_of_getElem? (i := 219) rfl) rfl
theorem mC_X0_answer : Cond.code yX0_answer cX0_answer 2 (some .int) ∈ wG := wG_t (List.mem_of_getElem? (i := 478) rfl) rfl
theorem mM_X5_172 : Cond.methodLink RX5 172 yX0_answer ∈ wG := wG_t (List.mem_of_getElem? (i := 475) rfl) rfl
theorem mI_X0_answer : Cond.instanceMethod yX0_answer ∈ wG := wG_t (List.mem_of_getElem? (i := 476) rfl) rfl
theorem mS_X0_answer : Cond.selects RX0 yX0_answer yX0_answer ∈ wG := wG_t (List.mem_of_getElem? (i := 477) rfl) rfl
theorem mF_X5_29 : Cond.fieldLink RX5 29 (TX5 3).1 (TX5 3).2.1 (TX5 3).2.2.1 ∈ wG := wG_t (List.mem_of_getElem? (i := 107) rfl) rfl
theorem mF_X5_11 : Cond.fieldLink RX5 11 (TX5 0).1 (TX5 0).2.1 (TX5 0).2.2.1 ∈ wG := wG_t (List.mem_of_getElem? (i := 104) rfl) rfl
theorem mF_X5_118 : Cond.fieldLink RX5 118 (TX1 0).1 (TX1 0).2.1 (TX1 0).2.2.1 ∈ wG := wG_t (List.mem_of_getElem? (i := 165) rfl) rfl
theorem mF_X5_123 : Cond.fieldLink RX5 123 (TX1 1).1 (TX1 1).2.1 (TX1 1).2.2.1 ∈ wG := wG_t (List.mem_of_getElem? (i := 167) rfl) rfl
theorem mF_X5_43 : Cond.fieldLink RX5 43 (TX5 7).1 (TX5 7).2.1 (TX5 7).2.2.1 ∈ wG := wG_t (List.mem_of_getElem? (i := 111) rfl) rfl
theorem mF_X5_127 : Cond.fieldLink RX5 127 (TX1 2).1 (TX1 2).2.1 (TX1 2).2.2.1 ∈ wG := wG_t (List.mem_of_getElem? (i := 169) rfl) rfl
theorem mF_X5_33 : Cond.fieldLink RX5 33 (TX5 4).1 (TX5 4).2.1 (TX5 4).2.2.1 ∈ wG := wG_t (List.mem_of_getElem? (i := 108) rfl) rfl
theorem mF_X5_25 : Cond.fieldLink RX5 25 (TX5 2).1 (TX5 2).2.1 (TX5 2).2.2.1 ∈ wG := wG_t (List.mem_of_getElem? (i := 106) rfl) rfl
theorem mC_X3_hasFormula : Cond.code yX3_hasFormula cX3_hasFormula 1 (some .boolean) ∈ wG := wG_t (List.mem_of_getElem? (i := 146) rfl) rfl
theorem mM_X5_104 : Cond.methodLink RX5 104 yX3_hasFormula ∈ wG := wG_t (List.mem_of_getElem? (i := 143) rfl) rfl
theorem mI_X3_hasFormula : Cond.instanceMethod yX3_hasFormula ∈ wG := wG_t (List.mem_of_getElem? (i := 144) rfl) rfl
theorem mS_X3_hasFormula : Cond.selects RX3 yX3_hasFormula yX3_hasFormula ∈ wG := wG_t (List.mem_of_getElem? (i := 145) rfl) rfl
theorem mC_X3_isTouched : Cond.code yX3_isTouched cX3_isTouched 4 (some .boolean) ∈ wG := wG_t (List.mem_of_getElem? (i := 243) rfl) rfl
theorem mM_X5_208 : Cond.methodLink RX5 208 yX3_isTouched ∈ wG := wG_t (List.mem_of_getElem? (i := 240) rfl) rfl
theorem mI_X3_isTouched : Cond.instanceMethod yX3_isTouched ∈ wG := wG_t (List.mem_of_getElem? (i := 241) rfl) rfl
theorem mS_X3_isTouched : Cond.selects RX3 yX3_isTouched yX3_isTouched ∈ wG := wG_t (List.mem_of_getElem? (i := 242) rfl) rfl
theorem mC_X2_reckon : Cond.code yX2_reckon cX2_reckon 4 none ∈ wG := wG_t (List.mem_of_getElem? (i := 247) rfl) rfl
theorem mM_X5_211 : Cond.methodLink RX5 211 yX2_reckon ∈ wG := wG_t (List.mem_of_getElem? (i := 244) rfl) rfl
theorem mI_X2_reckon : Cond.instanceMethod yX2_reckon ∈ wG := wG_t (List.mem_of_getElem? (i := 245) rfl) rfl
theorem mS_X2_reckon : Cond.selects RX2 yX2_reckon yX2_reckon ∈ wG := wG_t (List.mem_of_getElem? (i := 246) rfl) rfl
theorem mC_X5_isPlace : Cond.code yX5_isPlace cX5_isPlace 1 (some .boolean) ∈ wG := wG_t (List.mem_of_getElem? (i := 142) rfl) rfl
theorem mM_X5_153 : Cond.methodLink RX5 153 yX5_isPlace ∈ wG := wG_t (List.mem_of_getElem? (i := 140) rfl) rfl
theorem mT_X5_isPlace : Cond.static yX5_isPlace ∈ wG := wG_t (List.mem_of_getElem? (i := 141) rfl) rfl
theorem mF_X5_58 : Cond.fieldLink RX5 58 (TX2 0).1 (TX2 0).2.1 (TX2 0).2.2.1 ∈ wG := wG_t (List.mem_of_getElem? (i := 88) rfl) rfl
theorem mF_X5_110 : Cond.fieldLink RX5 110 (TX3 2).1 (TX3 2).2.1 (TX3 2).2.2.1 ∈ wG := wG_t (List.mem_of_getElem? (i := 33) rfl) rfl
theorem mC_X5_settle : Cond.code yX5_settle cX5_settle 3 none ∈ wG := wG_t (List.mem_of_getElem? (i := 239) rfl) rfl
theorem mM_X5_107 : Cond.methodLink RX5 107 yX5_settle ∈ wG := wG_t (List.mem_of_getElem? (i := 236) rfl) rfl
theorem mI_X5_settle : Cond.instanceMethod yX5_settle ∈ wG := wG_t (List.mem_of_getElem? (i := 238) rfl) rfl
theorem mS_X5_settle : Cond.selects RX5 yX5_settle yX5_settle ∈ wG := wG_p (List.mem_of_getElem? (i := 3) rfl) rfl
theorem mC_X5_isNumber : Cond.code yX5_isNumber cX5_isNumber 3 (some .boolean) ∈ wG := wG_t (List.mem_of_getElem? (i := 441) rfl) rfl
theorem mM_X5_146 : Cond.methodLink RX5 146 yX5_isNumber ∈ wG := wG_t (List.mem_of_getElem? (i := 438) rfl) rfl
theorem mI_X5_isNumber : Cond.instanceMethod yX5_isNumber ∈ wG := wG_t (List.mem_of_getElem? (i := 440) rfl) rfl
theorem mS_X5_isNumber : Cond.selects RX5 yX5_isNumber yX5_isNumber ∈ wG := wG_p (List.mem_of_getElem? (i := 21) rfl) rfl
theorem mC_X4_bitsOf : Cond.code yX4_bitsOf cX4_bitsOf 12 (some .long) ∈ wG := wG_t (List.mem_of_getElem? (i := 458) rfl) rfl
theorem mM_X5_163 : Cond.methodLink RX5 163 yX4_bitsOf ∈ wG := wG_t (List.mem_of_getElem? (i := 455) rfl) rfl
theorem mI_X4_bitsOf : Cond.instanceMethod yX4_bitsOf ∈ wG := wG_t (List.mem_of_getElem? (i := 456) rfl) rfl
theorem mS_X4_bitsOf : Cond.selects RX4 yX4_bitsOf yX4_bitsOf ∈ wG := wG_t (List.mem_of_getElem? (i := 457) rfl) rfl
theorem mL_X5_119 : Cond.classLink RX5 119 RX1 ∈ wG := wG_t (List.mem_of_getElem? (i := 158) rfl) rfl
theorem mN_X1 : Cond.instantiable RX1 3 ∈ wG := wG_t (List.mem_of_getElem? (i := 159) rfl) rfl
theorem mZ_X1 : Cond.initialized RX1 ∈ wG := wG_t (List.mem_of_getElem? (i := 6) rfl) rfl
theorem mC_X1_init : Cond.code yX1_init cX1_init 4 none ∈ wG := wG_t (List.mem_of_getElem? (i := 162) rfl) rfl
theorem mM_X5_185 : Cond.methodLink RX5 185 yX1_init ∈ wG := wG_t (List.mem_of_getElem? (i := 160) rfl) rfl
theorem mI_X1_init : Cond.instanceMethod yX1_init ∈ wG := wG_t (List.mem_of_getElem? (i := 161) rfl) rfl
theorem mC_X3_copy : Cond.code yX3_copy cX3_copy 2 (some (.object "TideBook$Row")) ∈ wG := wG_t (List.mem_of_getElem? (i := 180) rfl) rfl
theorem mM_X5_188 : Cond.methodLink RX5 188 yX3_copy ∈ wG := wG_t (List.mem_of_getElem? (i := 177) rfl) rfl
theorem mI_X3_copy : Cond.instanceMethod yX3_copy ∈ wG := wG_t (List.mem_of_getElem? (i := 178) rfl) rfl
theorem mS_X3_copy : Cond.selects RX3 yX3_copy yX3_copy ∈ wG := wG_t (List.mem_of_getElem? (i := 179) rfl) rfl
theorem mM_X5_215 : Cond.methodLink RX5 215 yX5_isSo ∈ wG := wG_t (List.mem_of_getElem? (i := 423) rfl) rfl
theorem mC_X5_placesWhere : Cond.code yX5_placesWhere cX5_placesWhere 9 (some .int) ∈ wG := wG_t (List.mem_of_getElem? (i := 422) rfl) rfl
theorem mM_X5_138 : Cond.methodLink RX5 138 yX5_placesWhere ∈ wG := wG_t (List.mem_of_getElem? (i := 419) rfl) rfl
theorem mI_X5_placesWhere : Cond.instanceMethod yX5_placesWhere ∈ wG := wG_t (List.mem_of_getElem? (i := 421) rfl) rfl
theorem mS_X5_placesWhere : Cond.selects RX5 yX5_placesWhere yX5_placesWhere ∈ wG := wG_p (List.mem_of_getElem? (i := 20) rfl) rfl
theorem mM_X5_167 : Cond.methodLink RX5 167 yJ6_bitCount_0f7a4 ∈ wG := wG_t (List.mem_of_getElem? (i := 470) rfl) rfl
theorem mC_X5_isExponent : Cond.code yX5_isExponent cX5_isExponent 1 (some .boolean) ∈ wG := wG_t (List.mem_of_getElem? (i := 153) rfl) rfl
theorem mM_X5_50 : Cond.methodLink RX5 50 yX5_isExponent ∈ wG := wG_t (List.mem_of_getElem? (i := 151) rfl) rfl
theorem mT_X5_isExponent : Cond.static yX5_isExponent ∈ wG := wG_t (List.mem_of_getElem? (i := 152) rfl) rfl
theorem mC_X5_isFull : Cond.code yX5_isFull cX5_isFull 1 (some .boolean) ∈ wG := wG_t (List.mem_of_getElem? (i := 150) rfl) rfl
theorem mM_X5_82 : Cond.methodLink RX5 82 yX5_isFull ∈ wG := wG_t (List.mem_of_getElem? (i := 147) rfl) rfl
theorem mI_X5_isFull : Cond.instanceMethod yX5_isFull ∈ wG := wG_t (List.mem_of_getElem? (i := 149) rfl) rfl
theorem mS_X5_isFull : Cond.selects RX5 yX5_isFull yX5_isFull ∈ wG := wG_p (List.mem_of_getElem? (i := 1) rfl) rfl
theorem mC_X5_changed : Cond.code yX5_changed cX5_changed 4 (some (.object "TideBook$Row")) ∈ wG := wG_t (List.mem_of_getElem? (i := 157) rfl) rfl
theorem mM_X5_54 : Cond.methodLink RX5 54 yX5_changed ∈ wG := wG_t (List.mem_of_getElem? (i := 154) rfl) rfl
theorem mI_X5_changed : Cond.instanceMethod yX5_changed ∈ wG := wG_t (List.mem_of_getElem? (i := 156) rfl) rfl
theorem mS_X5_changed : Cond.selects RX5 yX5_changed yX5_changed ∈ wG := wG_p (List.mem_of_getElem? (i := 2) rfl) rfl
theorem mM_X5_62 : Cond.methodLink RX5 62 yX4_times ∈ wG := wG_t (List.mem_of_getElem? (i := 186) rfl) rfl
theorem mM_X5_68 : Cond.methodLink RX5 68 yX3_put ∈ wG := wG_t (List.mem_of_getElem? (i := 190) rfl) rfl
theorem mK_X5_192 : Cond.constantDouble RX5 192 (9218868437227405312) ∈ wG := wG_t (List.mem_of_getElem? (i := 204) rfl) rfl
theorem mK_X5_200 : Cond.constantDouble RX5 200 (3936146074321813504) ∈ wG := wG_t (List.mem_of_getElem? (i := 208) rfl) rfl
theorem mK_X5_202 : Cond.constantDouble RX5 202 (1) ∈ wG := wG_t (List.mem_of_getElem? (i := 209) rfl) rfl
theorem mK_X5_196 : Cond.constantDouble RX5 196 (5183643170566569984) ∈ wG := wG_t (List.mem_of_getElem? (i := 206) rfl) rfl
theorem mK_X5_194 : Cond.constantDouble RX5 194 (9223372036854775808) ∈ wG := wG_t (List.mem_of_getElem? (i := 205) rfl) rfl
theorem mM_X5_204 : Cond.methodLink RX5 204 yX3_clear ∈ wG := wG_t (List.mem_of_getElem? (i := 210) rfl) rfl
theorem mC_X5_isSpecial : Cond.code yX5_isSpecial cX5_isSpecial 1 (some .boolean) ∈ wG := wG_t (List.mem_of_getElem? (i := 200) rfl) rfl
theorem mM_X5_72 : Cond.methodLink RX5 72 yX5_isSpecial ∈ wG := wG_t (List.mem_of_getElem? (i := 198) rfl) rfl
theorem mT_X5_isSpecial : Cond.static yX5_isSpecial ∈ wG := wG_t (List.mem_of_getElem? (i := 199) rfl) rfl
theorem mC_X5_putSpecial : Cond.code yX5_putSpecial cX5_putSpecial 5 none ∈ wG := wG_t (List.mem_of_getElem? (i := 203) rfl) rfl
theorem mM_X5_75 : Cond.methodLink RX5 75 yX5_putSpecial ∈ wG := wG_t (List.mem_of_getElem? (i := 201) rfl) rfl
theorem mT_X5_putSpecial : Cond.static yX5_putSpecial ∈ wG := wG_t (List.mem_of_getElem? (i := 202) rfl) rfl
theorem mF_X5_92 : Cond.fieldLink RX5 92 (TX3 3).1 (TX3 3).2.1 (TX3 3).2.2.1 ∈ wG := wG_t (List.mem_of_getElem? (i := 36) rfl) rfl
theorem mF_X5_95 : Cond.fieldLink RX5 95 (TX3 4).1 (TX3 4).2.1 (TX3 4).2.2.1 ∈ wG := wG_t (List.mem_of_getElem? (i := 39) rfl) rfl
theorem mF_X5_98 : Cond.fieldLink RX5 98 (TX3 5).1 (TX3 5).2.1 (TX3 5).2.2.1 ∈ wG := wG_t (List.mem_of_getElem? (i := 42) rfl) rfl
theorem mF_X5_101 : Cond.fieldLink RX5 101 (TX3 6).1 (TX3 6).2.1 (TX3 6).2.2.1 ∈ wG := wG_t (List.mem_of_getElem? (i := 45) rfl) rfl
theorem mM_X5_1 : Cond.methodLink RX5 1 objectInit ∈ wG := wG_t (List.mem_of_getElem? (i := 15) rfl) rfl
theorem mL_X5_9 : Cond.classLink RX5 9 RX3 ∈ wG := wG_t (List.mem_of_getElem? (i := 18) rfl) rfl
theorem mL_X5_22 : Cond.classLink RX5 22 RX2 ∈ wG := wG_t (List.mem_of_getElem? (i := 64) rfl) rfl
theorem mF_X5_40 : Cond.fieldLink RX5 40 (TX5 6).1 (TX5 6).2.1 (TX5 6).2.2.1 ∈ wG := wG_t (List.mem_of_getElem? (i := 110) rfl) rfl
theorem mM_X5_15 : Cond.methodLink RX5 15 yX3_init ∈ wG := wG_t (List.mem_of_getElem? (i := 21) rfl) rfl
theorem mN_X2 : Cond.instantiable RX2 5 ∈ wG := wG_t (List.mem_of_getElem? (i := 65) rfl) rfl
theorem mC_X2_init : Cond.code yX2_init cX2_init 1 none ∈ wG := wG_t (List.mem_of_getElem? (i := 68) rfl) rfl
theorem mM_X5_24 : Cond.methodLink RX5 24 yX2_init ∈ wG := wG_t (List.mem_of_getElem? (i := 66) rfl) rfl
theorem mI_X2_init : Cond.instanceMethod yX2_init ∈ wG := wG_t (List.mem_of_getElem? (i := 67) rfl) rfl
theorem mM_X5_159 : Cond.methodLink RX5 159 yX5_hasMinus ∈ wG := wG_t (List.mem_of_getElem? (i := 450) rfl) rfl
theorem mF_X5_133 : Cond.fieldLink RX5 133 (TX0 0).1 (TX0 0).2.1 (TX0 0).2.2.1 ∈ wG := wG_t (List.mem_of_getElem? (i := 394) rfl) rfl
theorem mF_X5_136 : Cond.fieldLink RX5 136 (TX0 1).1 (TX0 1).2.1 (TX0 1).2.2.1 ∈ wG := wG_t (List.mem_of_getElem? (i := 396) rfl) rfl
theorem mF_X5_137 : Cond.fieldLink RX5 137 (TX0 2).1 (TX0 2).2.1 (TX0 2).2.2.1 ∈ wG := wG_t (List.mem_of_getElem? (i := 398) rfl) rfl
theorem mC_X0_look : Cond.code yX0_look cX0_look 2 (some .int) ∈ wG := wG_t (List.mem_of_getElem? (i := 427) rfl) rfl
theorem mM_X5_142 : Cond.methodLink RX5 142 yX0_look ∈ wG := wG_t (List.mem_of_getElem? (i := 424) rfl) rfl
theorem mI_X0_look : Cond.instanceMethod yX0_look ∈ wG := wG_t (List.mem_of_getElem? (i := 425) rfl) rfl
theorem mS_X0_look : Cond.selects RX0 yX0_look yX0_look ∈ wG := wG_t (List.mem_of_getElem? (i := 426) rfl) rfl
theorem mC_X5_takesReading : Cond.code yX5_takesReading cX5_takesReading 3 (some .boolean) ∈ wG := wG_t (List.mem_of_getElem? (i := 136) rfl) rfl
theorem mM_X5_46 : Cond.methodLink RX5 46 yX5_takesReading ∈ wG := wG_t (List.mem_of_getElem? (i := 133) rfl) rfl
theorem mI_X5_takesReading : Cond.instanceMethod yX5_takesReading ∈ wG := wG_t (List.mem_of_getElem? (i := 135) rfl) rfl
theorem mS_X5_takesReading : Cond.selects RX5 yX5_takesReading yX5_takesReading ∈ wG := wG_p (List.mem_of_getElem? (i := 0) rfl) rfl
theorem mF_X5_182 : Cond.fieldLink RX5 182 (TX3 1).1 (TX3 1).2.1 (TX3 1).2.2.1 ∈ wG := wG_t (List.mem_of_getElem? (i := 30) rfl) rfl
theorem mC_X5_toldOfColumn : Cond.code yX5_toldOfColumn cX5_toldOfColumn 2 (some .int) ∈ wG := wG_t (List.mem_of_getElem? (i := 493) rfl) rfl
theorem mM_X5_178 : Cond.methodLink RX5 178 yX5_toldOfColumn ∈ wG := wG_t (List.mem_of_getElem? (i := 491) rfl) rfl
theorem mT_X5_toldOfColumn : Cond.static yX5_toldOfColumn ∈ wG := wG_t (List.mem_of_getElem? (i := 492) rfl) rfl
theorem mC_X5_toldOfBook : Cond.code yX5_toldOfBook cX5_toldOfBook 2 (some .int) ∈ wG := wG_t (List.mem_of_getElem? (i := 490) rfl) rfl
theorem mM_X5_175 : Cond.methodLink RX5 175 yX5_toldOfBook ∈ wG := wG_t (List.mem_of_getElem? (i := 487) rfl) rfl
theorem mI_X5_toldOfBook : Cond.instanceMethod yX5_toldOfBook ∈ wG := wG_t (List.mem_of_getElem? (i := 489) rfl) rfl
theorem mS_X5_toldOfBook : Cond.selects RX5 yX5_toldOfBook yX5_toldOfBook ∈ wG := wG_p (List.mem_of_getElem? (i := 23) rfl) rfl
theorem mC_X3_bringTo : Cond.code yX3_bringTo cX3_bringTo 3 none ∈ wG := wG_t (List.mem_of_getElem? (i := 379) rfl) rfl
theorem mM_X5_114 : Cond.methodLink RX5 114 yX3_bringTo ∈ wG := wG_t (List.mem_of_getElem? (i := 376) rfl) rfl
theorem mI_X3_bringTo : Cond.instanceMethod yX3_bringTo ∈ wG := wG_t (List.mem_of_getElem? (i := 377) rfl) rfl
theorem mS_X3_bringTo : Cond.selects RX3 yX3_bringTo yX3_bringTo ∈ wG := wG_t (List.mem_of_getElem? (i := 378) rfl) rfl
theorem mF_X6_229 : Cond.fieldLink RX6 229 (TX6 15).1 (TX6 15).2.1 (TX6 15).2.2.1 ∈ wG := wG_t (List.mem_of_getElem? (i := 516) rfl) rfl
theorem mF_X6_45 : Cond.fieldLink RX6 45 (TX6 11).1 (TX6 11).2.1 (TX6 11).2.2.1 ∈ wG := wG_t (List.mem_of_getElem? (i := 512) rfl) rfl
theorem mC_X6_isIn : Cond.code yX6_isIn cX6_isIn 3 (some .boolean) ∈ wG := wG_t (List.mem_of_getElem? (i := 575) rfl) rfl
theorem mM_X6_191 : Cond.methodLink RX6 191 yX6_isIn ∈ wG := wG_t (List.mem_of_getElem? (i := 573) rfl) rfl
theorem mT_X6_isIn : Cond.static yX6_isIn ∈ wG := wG_t (List.mem_of_getElem? (i := 574) rfl) rfl
theorem mZ_X6 : Cond.initialized RX6 ∈ wG := wG_t (List.mem_of_getElem? (i := 5) rfl) rfl
theorem mF_X6_54 : Cond.fieldLink RX6 54 (TX6 14).1 (TX6 14).2.1 (TX6 14).2.2.1 ∈ wG := wG_t (List.mem_of_getElem? (i := 515) rfl) rfl
theorem mF_X6_48 : Cond.fieldLink RX6 48 (TX6 12).1 (TX6 12).2.1 (TX6 12).2.2.1 ∈ wG := wG_t (List.mem_of_getElem? (i := 513) rfl) rfl
theorem mF_X6_51 : Cond.fieldLink RX6 51 (TX6 13).1 (TX6 13).2.1 (TX6 13).2.2.1 ∈ wG := wG_t (List.mem_of_getElem? (i := 514) rfl) rfl
theorem mC_X6_manyBits : Cond.code yX6_manyBits cX6_manyBits 3 (some .int) ∈ wG := wG_t (List.mem_of_getElem? (i := 751) rfl) rfl
theorem mM_X6_235 : Cond.methodLink RX6 235 yX6_manyBits ∈ wG := wG_t (List.mem_of_getElem? (i := 749) rfl) rfl
theorem mT_X6_manyBits : Cond.static yX6_manyBits ∈ wG := wG_t (List.mem_of_getElem? (i := 750) rfl) rfl
theorem mF_X6_187 : Cond.fieldLink RX6 187 (TX6 10).1 (TX6 10).2.1 (TX6 10).2.2.1 ∈ wG := wG_t (List.mem_of_getElem? (i := 511) rfl) rfl
theorem mF_X6_9 : Cond.fieldLink RX6 9 (TX6 0).1 (TX6 0).2.1 (TX6 0).2.2.1 ∈ wG := wG_t (List.mem_of_getElem? (i := 501) rfl) rfl
theorem mF_X6_33 : Cond.fieldLink RX6 33 (TX6 6).1 (TX6 6).2.1 (TX6 6).2.2.1 ∈ wG := wG_t (List.mem_of_getElem? (i := 507) rfl) rfl
theorem mF_X6_15 : Cond.fieldLink RX6 15 (TX6 1).1 (TX6 1).2.1 (TX6 1).2.2.1 ∈ wG := wG_t (List.mem_of_getElem? (i := 502) rfl) rfl
theorem mF_X6_36 : Cond.fieldLink RX6 36 (TX6 7).1 (TX6 7).2.1 (TX6 7).2.2.1 ∈ wG := wG_t (List.mem_of_getElem? (i := 508) rfl) rfl
theorem mF_X6_19 : Cond.fieldLink RX6 19 (TX6 2).1 (TX6 2).2.1 (TX6 2).2.2.1 ∈ wG := wG_t (List.mem_of_getElem? (i := 503) rfl) rfl
theorem mF_X6_39 : Cond.fieldLink RX6 39 (TX6 8).1 (TX6 8).2.1 (TX6 8).2.2.1 ∈ wG := wG_t (List.mem_of_getElem? (i := 509) rfl) rfl
theorem mF_X6_22 : Cond.fieldLink RX6 22 (TX6 3).1 (TX6 3).2.1 (TX6 3).2.2.1 ∈ wG := wG_t (List.mem_of_getElem? (i := 504) rfl) rfl
theorem mF_X6_42 : Cond.fieldLink RX6 42 (TX6 9).1 (TX6 9).2.1 (TX6 9).2.2.1 ∈ wG := wG_t (List.mem_of_getElem? (i := 510) rfl) rfl
theorem mF_X6_29 : Cond.fieldLink RX6 29 (TX6 5).1 (TX6 5).2.1 (TX6 5).2.2.1 ∈ wG := wG_t (List.mem_of_getElem? (i := 506) rfl) rfl
theorem mC_X6_at : Cond.code yX6_at cX6_at 2 (some .int) ∈ wG := wG_t (List.mem_of_getElem? (i := 640) rfl) rfl
theorem mM_X6_128 : Cond.methodLink RX6 128 yX6_at ∈ wG := wG_t (List.mem_of_getElem? (i := 638) rfl) rfl
theorem mT_X6_at : Cond.static yX6_at ∈ wG := wG_t (List.mem_of_getElem? (i := 639) rfl) rfl
theorem mF_X6_86 : Cond.fieldLink RX6 86 (TX6 17).1 (TX6 17).2.1 (TX6 17).2.2.1 ∈ wG := wG_t (List.mem_of_getElem? (i := 518) rfl) rfl
theorem mF_X6_90 : Cond.fieldLink RX6 90 (TX6 18).1 (TX6 18).2.1 (TX6 18).2.2.1 ∈ wG := wG_t (List.mem_of_getElem? (i := 519) rfl) rfl
theorem mF_X6_26 : Cond.fieldLink RX6 26 (TX6 4).1 (TX6 4).2.1 (TX6 4).2.2.1 ∈ wG := wG_t (List.mem_of_getElem? (i := 505) rfl) rfl
theorem mC_X6_brought : Cond.code yX6_brought cX6_brought 3 (some .double) ∈ wG := wG_t (List.mem_of_getElem? (i := 586) rfl) rfl
theorem mM_X6_132 : Cond.methodLink RX6 132 yX6_brought ∈ wG := wG_t (List.mem_of_getElem? (i := 584) rfl) rfl
theorem mT_X6_brought : Cond.static yX6_brought ∈ wG := wG_t (List.mem_of_getElem? (i := 585) rfl) rfl
theorem mC_X6_isZero : Cond.code yX6_isZero cX6_isZero 2 (some .boolean) ∈ wG := wG_t (List.mem_of_getElem? (i := 666) rfl) rfl
theorem mM_X6_61 : Cond.methodLink RX6 61 yX6_isZero ∈ wG := wG_t (List.mem_of_getElem? (i := 664) rfl) rfl
theorem mT_X6_isZero : Cond.static yX6_isZero ∈ wG := wG_t (List.mem_of_getElem? (i := 665) rfl) rfl
theorem mK_X6_65 : Cond.constantDouble RX6 65 (9223372036854775808) ∈ wG := wG_t (List.mem_of_getElem? (i := 605) rfl) rfl
theorem mK_X6_70 : Cond.constantDouble RX6 70 (4841369599423283200) ∈ wG := wG_t (List.mem_of_getElem? (i := 670) rfl) rfl
theorem mK_X6_72 : Cond.constantDouble RX6 72 (14064741636278059008) ∈ wG := wG_t (List.mem_of_getElem? (i := 671) rfl) rfl
theorem mK_X6_74 : Cond.constantDouble RX6 74 (4602678819172646912) ∈ wG := wG_t (List.mem_of_getElem? (i := 672) rfl) rfl
theorem mK_X6_76 : Cond.constantDouble RX6 76 (13826050856027422720) ∈ wG := wG_t (List.mem_of_getElem? (i := 673) rfl) rfl
theorem mK_X6_78 : Cond.constantLong RX6 78 (-1) ∈ wG := wG_t (List.mem_of_getElem? (i := 674) rfl) rfl
theorem mC_X6_hasMinus : Cond.code yX6_hasMinus cX6_hasMinus 2 (some .boolean) ∈ wG := wG_t (List.mem_of_getElem? (i := 663) rfl) rfl
theorem mM_X6_67 : Cond.methodLink RX6 67 yX6_hasMinus ∈ wG := wG_t (List.mem_of_getElem? (i := 661) rfl) rfl
theorem mT_X6_hasMinus : Cond.static yX6_hasMinus ∈ wG := wG_t (List.mem_of_getElem? (i := 662) rfl) rfl
theorem mC_X6_zero : Cond.code yX6_zero cX6_zero 1 (some .double) ∈ wG := wG_t (List.mem_of_getElem? (i := 677) rfl) rfl
theorem mM_X6_80 : Cond.methodLink RX6 80 yX6_zero ∈ wG := wG_t (List.mem_of_getElem? (i := 675) rfl) rfl
theorem mT_X6_zero : Cond.static yX6_zero ∈ wG := wG_t (List.mem_of_getElem? (i := 676) rfl) rfl
theorem mK_X6_84 : Cond.constantDouble RX6 84 (4611686018427387904) ∈ wG := wG_t (List.mem_of_getElem? (i := 583) rfl) rfl
theorem mK_X6_102 : Cond.constantDouble RX6 102 (13830554455654793216) ∈ wG := wG_t (List.mem_of_getElem? (i := 678) rfl) rfl
theorem mC_X6_gives : Cond.code yX6_gives cX6_gives 3 none ∈ wG := wG_t (List.mem_of_getElem? (i := 660) rfl) rfl
theorem mM_X6_94 : Cond.methodLink RX6 94 yX6_gives ∈ wG := wG_t (List.mem_of_getElem? (i := 657) rfl) rfl
theorem mI_X6_gives : Cond.instanceMethod yX6_gives ∈ wG := wG_t (List.mem_of_getElem? (i := 659) rfl) rfl
theorem mS_X6_gives : Cond.selects RX6 yX6_gives yX6_gives ∈ wG := wG_p (List.mem_of_getElem? (i := 36) rfl) rfl
theorem mC_X6_whole : Cond.code yX6_whole cX6_whole 8 (some .double) ∈ wG := wG_t (List.mem_of_getElem? (i := 669) rfl) rfl
theorem mM_X6_98 : Cond.methodLink RX6 98 yX6_whole ∈ wG := wG_t (List.mem_of_getElem? (i := 667) rfl) rfl
theorem mT_X6_whole : Cond.static yX6_whole ∈ wG := wG_t (List.mem_of_getElem? (i := 668) rfl) rfl
theorem mC_X6_quotient : Cond.code yX6_quotient cX6_quotient 5 (some .double) ∈ wG := wG_t (List.mem_of_getElem? (i := 681) rfl) rfl
theorem mM_X6_104 : Cond.methodLink RX6 104 yX6_quotient ∈ wG := wG_t (List.mem_of_getElem? (i := 679) rfl) rfl
theorem mT_X6_quotient : Cond.static yX6_quotient ∈ wG := wG_t (List.mem_of_getElem? (i := 680) rfl) rfl
theorem mC_X6_product : Cond.code yX6_product cX6_product 5 (some .double) ∈ wG := wG_t (List.mem_of_getElem? (i := 684) rfl) rfl
theorem mM_X6_108 : Cond.methodLink RX6 108 yX6_product ∈ wG := wG_t (List.mem_of_getElem? (i := 682) rfl) rfl
theorem mT_X6_product : Cond.static yX6_product ∈ wG := wG_t (List.mem_of_getElem? (i := 683) rfl) rfl
theorem mK_X6_57 : Cond.constantDouble RX6 57 (9218868437227405312) ∈ wG := wG_t (List.mem_of_getElem? (i := 603) rfl) rfl
theorem mK_X6_59 : Cond.constantDouble RX6 59 (18442240474082181120) ∈ wG := wG_t (List.mem_of_getElem? (i := 604) rfl) rfl
theorem mC_X6_sum : Cond.code yX6_sum cX6_sum 5 (some .double) ∈ wG := wG_t (List.mem_of_getElem? (i := 698) rfl) rfl
theorem mM_X6_117 : Cond.methodLink RX6 117 yX6_sum ∈ wG := wG_t (List.mem_of_getElem? (i := 696) rfl) rfl
theorem mT_X6_sum : Cond.static yX6_sum ∈ wG := wG_t (List.mem_of_getElem? (i := 697) rfl) rfl
theorem mC_X6_isInfinite : Cond.code yX6_isInfinite cX6_isInfinite 2 (some .boolean) ∈ wG := wG_t (List.mem_of_getElem? (i := 695) rfl) rfl
theorem mM_X6_111 : Cond.methodLink RX6 111 yX6_isInfinite ∈ wG := wG_t (List.mem_of_getElem? (i := 693) rfl) rfl
theorem mT_X6_isInfinite : Cond.static yX6_isInfinite ∈ wG := wG_t (List.mem_of_getElem? (i := 694) rfl) rfl
theorem mC_X6_givesNothing : Cond.code yX6_givesNothing cX6_givesNothing 1 none ∈ wG := wG_t (List.mem_of_getElem? (i := 648) rfl) rfl
theorem mM_X6_114 : Cond.methodLink RX6 114 yX6_givesNothing ∈ wG := wG_t (List.mem_of_getElem? (i := 645) rfl) rfl
theorem mI_X6_givesNothing : Cond.instanceMethod yX6_givesNothing ∈ wG := wG_t (List.mem_of_getElem? (i := 647) rfl) rfl
theorem mS_X6_givesNothing : Cond.selects RX6 yX6_givesNothing yX6_givesNothing ∈ wG := wG_p (List.mem_of_getElem? (i := 33) rfl) rfl
theorem mC_X6_difference : Cond.code yX6_difference cX6_difference 6 none ∈ wG := wG_t (List.mem_of_getElem? (i := 702) rfl) rfl
theorem mM_X6_120 : Cond.methodLink RX6 120 yX6_difference ∈ wG := wG_t (List.mem_of_getElem? (i := 699) rfl) rfl
theorem mI_X6_difference : Cond.instanceMethod yX6_difference ∈ wG := wG_t (List.mem_of_getElem? (i := 701) rfl) rfl
theorem mS_X6_difference : Cond.selects RX6 yX6_difference yX6_difference ∈ wG := wG_p (List.mem_of_getElem? (i := 39) rfl) rfl
theorem mC_X6_isLower : Cond.code yX6_isLower cX6_isLower 4 (some .boolean) ∈ wG := wG_t (List.mem_of_getElem? (i := 705) rfl) rfl
theorem mM_X6_124 : Cond.methodLink RX6 124 yX6_isLower ∈ wG := wG_t (List.mem_of_getElem? (i := 703) rfl) rfl
theorem mT_X6_isLower : Cond.static yX6_isLower ∈ wG := wG_t (List.mem_of_getElem? (i := 704) rfl) rfl
theorem mC_X6_x : Cond.code yX6_x cX6_x 3 (some .double) ∈ wG := wG_t (List.mem_of_getElem? (i := 652) rfl) rfl
theorem mM_X6_136 : Cond.methodLink RX6 136 yX6_x ∈ wG := wG_t (List.mem_of_getElem? (i := 649) rfl) rfl
theorem mI_X6_x : Cond.instanceMethod yX6_x ∈ wG := wG_t (List.mem_of_getElem? (i := 651) rfl) rfl
theorem mS_X6_x : Cond.selects RX6 yX6_x yX6_x ∈ wG := wG_p (List.mem_of_getElem? (i := 34) rfl) rfl
theorem mC_X6_noX : Cond.code yX6_noX cX6_noX 3 (some .boolean) ∈ wG := wG_t (List.mem_of_getElem? (i := 637) rfl) rfl
theorem mM_X6_140 : Cond.methodLink RX6 140 yX6_noX ∈ wG := wG_t (List.mem_of_getElem? (i := 634) rfl) rfl
theorem mI_X6_noX : Cond.instanceMethod yX6_noX ∈ wG := wG_t (List.mem_of_getElem? (i := 636) rfl) rfl
theorem mS_X6_noX : Cond.selects RX6 yX6_noX yX6_noX ∈ wG := wG_p (List.mem_of_getElem? (i := 31) rfl) rfl
theorem mC_X6_y : Cond.code yX6_y cX6_y 3 (some .double) ∈ wG := wG_t (List.mem_of_getElem? (i := 688) rfl) rfl
theorem mM_X6_144 : Cond.methodLink RX6 144 yX6_y ∈ wG := wG_t (List.mem_of_getElem? (i := 685) rfl) rfl
theorem mI_X6_y : Cond.instanceMethod yX6_y ∈ wG := wG_t (List.mem_of_getElem? (i := 687) rfl) rfl
theorem mS_X6_y : Cond.selects RX6 yX6_y yX6_y ∈ wG := wG_p (List.mem_of_getElem? (i := 37) rfl) rfl
theorem mC_X6_noY : Cond.code yX6_noY cX6_noY 3 (some .boolean) ∈ wG := wG_t (List.mem_of_getElem? (i := 644) rfl) rfl
theorem mM_X6_147 : Cond.methodLink RX6 147 yX6_noY ∈ wG := wG_t (List.mem_of_getElem? (i := 641) rfl) rfl
theorem mI_X6_noY : Cond.instanceMethod yX6_noY ∈ wG := wG_t (List.mem_of_getElem? (i := 643) rfl) rfl
theorem mS_X6_noY : Cond.selects RX6 yX6_noY yX6_noY ∈ wG := wG_p (List.mem_of_getElem? (i := 32) rfl) rfl
theorem mC_X6_isSo : Cond.code yX6_isSo cX6_isSo 9 (some .boolean) ∈ wG := wG_t (List.mem_of_getElem? (i := 712) rfl) rfl
theorem mM_X6_150 : Cond.methodLink RX6 150 yX6_isSo ∈ wG := wG_t (List.mem_of_getElem? (i := 710) rfl) rfl
theorem mT_X6_isSo : Cond.static yX6_isSo ∈ wG := wG_t (List.mem_of_getElem? (i := 711) rfl) rfl
theorem mC_X6_rank : Cond.code yX6_rank cX6_rank 11 (some .int) ∈ wG := wG_t (List.mem_of_getElem? (i := 724) rfl) rfl
theorem mM_X6_154 : Cond.methodLink RX6 154 yX6_rank ∈ wG := wG_t (List.mem_of_getElem? (i := 721) rfl) rfl
theorem mI_X6_rank : Cond.instanceMethod yX6_rank ∈ wG := wG_t (List.mem_of_getElem? (i := 723) rfl) rfl
theorem mS_X6_rank : Cond.selects RX6 yX6_rank yX6_rank ∈ wG := wG_p (List.mem_of_getElem? (i := 43) rfl) rfl
theorem mC_X6_compares : Cond.code yX6_compares cX6_compares 3 (some .boolean) ∈ wG := wG_t (List.mem_of_getElem? (i := 709) rfl) rfl
theorem mM_X6_158 : Cond.methodLink RX6 158 yX6_compares ∈ wG := wG_t (List.mem_of_getElem? (i := 706) rfl) rfl
theorem mI_X6_compares : Cond.instanceMethod yX6_compares ∈ wG := wG_t (List.mem_of_getElem? (i := 708) rfl) rfl
theorem mS_X6_compares : Cond.selects RX6 yX6_compares yX6_compares ∈ wG := wG_p (List.mem_of_getElem? (i := 40) rfl) rfl
theorem mC_X6_both : Cond.code yX6_both cX6_both 8 none ∈ wG := wG_t (List.mem_of_getElem? (i := 692) rfl) rfl
theorem mM_X6_165 : Cond.methodLink RX6 165 yX6_both ∈ wG := wG_t (List.mem_of_getElem? (i := 689) rfl) rfl
theorem mI_X6_both : Cond.instanceMethod yX6_both ∈ wG := wG_t (List.mem_of_getElem? (i := 691) rfl) rfl
theorem mS_X6_both : Cond.selects RX6 yX6_both yX6_both ∈ wG := wG_p (List.mem_of_getElem? (i := 38) rfl) rfl
theorem mC_X6_single : Cond.code yX6_single cX6_single 5 none ∈ wG := wG_t (List.mem_of_getElem? (i := 656) rfl) rfl
theorem mM_X6_161 : Cond.methodLink RX6 161 yX6_single ∈ wG := wG_t (List.mem_of_getElem? (i := 653) rfl) rfl
theorem mI_X6_single : Cond.instanceMethod yX6_single ∈ wG := wG_t (List.mem_of_getElem? (i := 655) rfl) rfl
theorem mS_X6_single : Cond.selects RX6 yX6_single yX6_single ∈ wG := wG_p (List.mem_of_getElem? (i := 35) rfl) rfl
theorem mC_X6_manyX : Cond.code yX6_manyX cX6_manyX 6 (some .int) ∈ wG := wG_t (List.mem_of_getElem? (i := 716) rfl) rfl
theorem mM_X6_169 : Cond.methodLink RX6 169 yX6_manyX ∈ wG := wG_t (List.mem_of_getElem? (i := 713) rfl) rfl
theorem mI_X6_manyX : Cond.instanceMethod yX6_manyX ∈ wG := wG_t (List.mem_of_getElem? (i := 715) rfl) rfl
theorem mS_X6_manyX : Cond.selects RX6 yX6_manyX yX6_manyX ∈ wG := wG_p (List.mem_of_getElem? (i := 41) rfl) rfl
theorem mC_X6_ranked : Cond.code yX6_ranked cX6_ranked 6 none ∈ wG := wG_t (List.mem_of_getElem? (i := 720) rfl) rfl
theorem mM_X6_173 : Cond.methodLink RX6 173 yX6_ranked ∈ wG := wG_t (List.mem_of_getElem? (i := 717) rfl) rfl
theorem mI_X6_ranked : Cond.instanceMethod yX6_ranked ∈ wG := wG_t (List.mem_of_getElem? (i := 719) rfl) rfl
theorem mS_X6_ranked : Cond.selects RX6 yX6_ranked yX6_ranked ∈ wG := wG_p (List.mem_of_getElem? (i := 42) rfl) rfl
theorem mC_X6_lessThan : Cond.code yX6_lessThan cX6_lessThan 5 (some .int) ∈ wG := wG_t (List.mem_of_getElem? (i := 728) rfl) rfl
theorem mM_X6_177 : Cond.methodLink RX6 177 yX6_lessThan ∈ wG := wG_t (List.mem_of_getElem? (i := 725) rfl) rfl
theorem mI_X6_lessThan : Cond.instanceMethod yX6_lessThan ∈ wG := wG_t (List.mem_of_getElem? (i := 727) rfl) rfl
theorem mS_X6_lessThan : Cond.selects RX6 yX6_lessThan yX6_lessThan ∈ wG := wG_p (List.mem_of_getElem? (i := 44) rfl) rfl
theorem mC_X6_manySo : Cond.code yX6_manySo cX6_manySo 5 (some .int) ∈ wG := wG_t (List.mem_of_getElem? (i := 732) rfl) rfl
theorem mM_X6_180 : Cond.methodLink RX6 180 yX6_manySo ∈ wG := wG_t (List.mem_of_getElem? (i := 729) rfl) rfl
theorem mI_X6_manySo : Cond.instanceMethod yX6_manySo ∈ wG := wG_t (List.mem_of_getElem? (i := 731) rfl) rfl
theorem mS_X6_manySo : Cond.selects RX6 yX6_manySo yX6_manySo ∈ wG := wG_p (List.mem_of_getElem? (i := 45) rfl) rfl
theorem mC_X6_reckon : Cond.code yX6_reckon cX6_reckon 6 none ∈ wG := wG_t (List.mem_of_getElem? (i := 633) rfl) rfl
theorem mM_X6_183 : Cond.methodLink RX6 183 yX6_reckon ∈ wG := wG_t (List.mem_of_getElem? (i := 630) rfl) rfl
theorem mI_X6_reckon : Cond.instanceMethod yX6_reckon ∈ wG := wG_t (List.mem_of_getElem? (i := 632) rfl) rfl
theorem mS_X6_reckon : Cond.selects RX6 yX6_reckon yX6_reckon ∈ wG := wG_p (List.mem_of_getElem? (i := 30) rfl) rfl
theorem mC_X6_reckonAll : Cond.code yX6_reckonAll cX6_reckonAll 4 none ∈ wG := wG_t (List.mem_of_getElem? (i := 629) rfl) rfl
theorem mM_X6_226 : Cond.methodLink RX6 226 yX6_reckonAll ∈ wG := wG_t (List.mem_of_getElem? (i := 626) rfl) rfl
theorem mI_X6_reckonAll : Cond.instanceMethod yX6_reckonAll ∈ wG := wG_t (List.mem_of_getElem? (i := 628) rfl) rfl
theorem mS_X6_reckonAll : Cond.selects RX6 yX6_reckonAll yX6_reckonAll ∈ wG := wG_p (List.mem_of_getElem? (i := 29) rfl) rfl
theorem mK_X6_245 : Cond.constantLong RX6 245 (2) ∈ wG := wG_t (List.mem_of_getElem? (i := 779) rfl) rfl
theorem mK_X6_251 : Cond.constant RX6 251 (-2147483648) ∈ wG := wG_t (List.mem_of_getElem? (i := 780) rfl) rfl
theorem mK_X6_252 : Cond.constantLong RX6 252 (-9223372036854775808) ∈ wG := wG_t (List.mem_of_getElem? (i := 781) rfl) rfl
theorem mC_X6_digits : Cond.code yX6_digits cX6_digits 10 (some .long) ∈ wG := wG_t (List.mem_of_getElem? (i := 778) rfl) rfl
theorem mM_X6_247 : Cond.methodLink RX6 247 yX6_digits ∈ wG := wG_t (List.mem_of_getElem? (i := 776) rfl) rfl
theorem mT_X6_digits : Cond.static yX6_digits ∈ wG := wG_t (List.mem_of_getElem? (i := 777) rfl) rfl
theorem mC_X6_isThere : Cond.code yX6_isThere cX6_isThere 3 (some .boolean) ∈ wG := wG_t (List.mem_of_getElem? (i := 763) rfl) rfl
theorem mM_X6_242 : Cond.methodLink RX6 242 yX6_isThere ∈ wG := wG_t (List.mem_of_getElem? (i := 760) rfl) rfl
theorem mI_X6_isThere : Cond.instanceMethod yX6_isThere ∈ wG := wG_t (List.mem_of_getElem? (i := 762) rfl) rfl
theorem mS_X6_isThere : Cond.selects RX6 yX6_isThere yX6_isThere ∈ wG := wG_p (List.mem_of_getElem? (i := 47) rfl) rfl
theorem mC_X6_picture : Cond.code yX6_picture cX6_picture 2 none ∈ wG := wG_t (List.mem_of_getElem? (i := 579) rfl) rfl
theorem mM_X6_212 : Cond.methodLink RX6 212 yX6_picture ∈ wG := wG_t (List.mem_of_getElem? (i := 576) rfl) rfl
theorem mI_X6_picture : Cond.instanceMethod yX6_picture ∈ wG := wG_t (List.mem_of_getElem? (i := 578) rfl) rfl
theorem mS_X6_picture : Cond.selects RX6 yX6_picture yX6_picture ∈ wG := wG_p (List.mem_of_getElem? (i := 25) rfl) rfl
theorem mC_X6_power : Cond.code yX6_power cX6_power 5 (some .double) ∈ wG := wG_t (List.mem_of_getElem? (i := 582) rfl) rfl
theorem mM_X6_215 : Cond.methodLink RX6 215 yX6_power ∈ wG := wG_t (List.mem_of_getElem? (i := 580) rfl) rfl
theorem mT_X6_power : Cond.static yX6_power ∈ wG := wG_t (List.mem_of_getElem? (i := 581) rfl) rfl
theorem mC_X6_put : Cond.code yX6_put cX6_put 4 none ∈ wG := wG_t (List.mem_of_getElem? (i := 590) rfl) rfl
theorem mM_X6_195 : Cond.methodLink RX6 195 yX6_put ∈ wG := wG_t (List.mem_of_getElem? (i := 587) rfl) rfl
theorem mI_X6_put : Cond.instanceMethod yX6_put ∈ wG := wG_t (List.mem_of_getElem? (i := 589) rfl) rfl
theorem mS_X6_put : Cond.selects RX6 yX6_put yX6_put ∈ wG := wG_p (List.mem_of_getElem? (i := 26) rfl) rfl
theorem mC_X6_changed : Cond.code yX6_changed cX6_changed 1 (some .int) ∈ wG := wG_t (List.mem_of_getElem? (i := 594) rfl) rfl
theorem mM_X6_218 : Cond.methodLink RX6 218 yX6_changed ∈ wG := wG_t (List.mem_of_getElem? (i := 591) rfl) rfl
theorem mI_X6_changed : Cond.instanceMethod yX6_changed ∈ wG := wG_t (List.mem_of_getElem? (i := 593) rfl) rfl
theorem mS_X6_changed : Cond.selects RX6 yX6_changed yX6_changed ∈ wG := wG_p (List.mem_of_getElem? (i := 27) rfl) rfl
theorem mK_X6_205 : Cond.constantDouble RX6 205 (3936146074321813504) ∈ wG := wG_t (List.mem_of_getElem? (i := 608) rfl) rfl
theorem mK_X6_207 : Cond.constantDouble RX6 207 (1) ∈ wG := wG_t (List.mem_of_getElem? (i := 609) rfl) rfl
theorem mK_X6_201 : Cond.constantDouble RX6 201 (5183643170566569984) ∈ wG := wG_t (List.mem_of_getElem? (i := 606) rfl) rfl
theorem mK_X6_203 : Cond.constantDouble RX6 203 (9218868437227405311) ∈ wG := wG_t (List.mem_of_getElem? (i := 607) rfl) rfl
theorem mC_X6_putSpecial : Cond.code yX6_putSpecial cX6_putSpecial 4 none ∈ wG := wG_t (List.mem_of_getElem? (i := 602) rfl) rfl
theorem mM_X6_222 : Cond.methodLink RX6 222 yX6_putSpecial ∈ wG := wG_t (List.mem_of_getElem? (i := 599) rfl) rfl
theorem mI_X6_putSpecial : Cond.instanceMethod yX6_putSpecial ∈ wG := wG_t (List.mem_of_getElem? (i := 601) rfl) rfl
theorem mS_X6_putSpecial : Cond.selects RX6 yX6_putSpecial yX6_putSpecial ∈ wG := wG_p (List.mem_of_getElem? (i := 28) rfl) rfl
theorem mM_X6_3 : Cond.methodLink RX6 3 objectInit ∈ wG := wG_t (List.mem_of_getElem? (i := 499) rfl) rfl
theorem mK_X6_32 : Cond.constant RX6 32 (102400) ∈ wG := wG_t (List.mem_of_getElem? (i := 500) rfl) rfl
theorem mA_boolean : Cond.arrayClass .boolean ∈ wG := wG_t (List.mem_of_getElem? (i := 559) rfl) rfl
theorem mA_int : Cond.arrayClass .int ∈ wG := wG_t (List.mem_of_getElem? (i := 560) rfl) rfl
theorem mF_X6_239 : Cond.fieldLink RX6 239 (TX6 16).1 (TX6 16).2.1 (TX6 16).2.2.1 ∈ wG := wG_t (List.mem_of_getElem? (i := 517) rfl) rfl
theorem mC_X6_holds : Cond.code yX6_holds cX6_holds 5 (some .boolean) ∈ wG := wG_t (List.mem_of_getElem? (i := 748) rfl) rfl
theorem mM_X6_232 : Cond.methodLink RX6 232 yX6_holds ∈ wG := wG_t (List.mem_of_getElem? (i := 745) rfl) rfl
theorem mI_X6_holds : Cond.instanceMethod yX6_holds ∈ wG := wG_t (List.mem_of_getElem? (i := 747) rfl) rfl
theorem mS_X6_holds : Cond.selects RX6 yX6_holds yX6_holds ∈ wG := wG_p (List.mem_of_getElem? (i := 46) rfl) rfl
theorem mC_X6_canSet : Cond.code yX6_canSet cX6_canSet 3 (some .boolean) ∈ wG := wG_t (List.mem_of_getElem? (i := 572) rfl) rfl
theorem mM_X6_209 : Cond.methodLink RX6 209 yX6_canSet ∈ wG := wG_t (List.mem_of_getElem? (i := 569) rfl) rfl
theorem mI_X6_canSet : Cond.instanceMethod yX6_canSet ∈ wG := wG_t (List.mem_of_getElem? (i := 571) rfl) rfl
theorem mS_X6_canSet : Cond.selects RX6 yX6_canSet yX6_canSet ∈ wG := wG_p (List.mem_of_getElem? (i := 24) rfl) rfl
theorem mC_X6_isBlank : Cond.code yX6_isBlank cX6_isBlank 3 (some .boolean) ∈ wG := wG_t (List.mem_of_getElem? (i := 767) rfl) rfl
theorem mM_X6_254 : Cond.methodLink RX6 254 yX6_isBlank ∈ wG := wG_t (List.mem_of_getElem? (i := 790) rfl) rfl
theorem mI_X6_isBlank : Cond.instanceMethod yX6_isBlank ∈ wG := wG_t (List.mem_of_getElem? (i := 765) rfl) rfl
theorem mS_X6_isBlank : Cond.selects RX6 yX6_isBlank yX6_isBlank ∈ wG := wG_t (List.mem_of_getElem? (i := 766) rfl) rfl
theorem iX0 : ∀ w ∈ u_ws RX0 TX0 6, w ∈ wG := by
  intro w hw
  obtain ⟨k, hk, rfl⟩ := List.mem_map.mp hw
  have hk := List.mem_range.mp hk
  match k, hk with
  | 0, _ => exact wG_t (List.mem_of_getElem? (i := 402) rfl) rfl
  | 1, _ => exact wG_t (List.mem_of_getElem? (i := 404) rfl) rfl
  | 2, _ => exact wG_t (List.mem_of_getElem? (i := 406) rfl) rfl
  | 3, _ => exact wG_t (List.mem_of_getElem? (i := 408) rfl) rfl
  | 4, _ => exact wG_t (List.mem_of_getElem? (i := 410) rfl) rfl
  | 5, _ => exact wG_t (List.mem_of_getElem? (i := 412) rfl) rfl
theorem iX1 : ∀ w ∈ u_ws RX1 TX1 3, w ∈ wG := by
  intro w hw
  obtain ⟨k, hk, rfl⟩ := List.mem_map.mp hw
  have hk := List.mem_range.mp hk
  match k, hk with
  | 0, _ => exact wG_t (List.mem_of_getElem? (i := 170) rfl) rfl
  | 1, _ => exact wG_t (List.mem_of_getElem? (i := 172) rfl) rfl
  | 2, _ => exact wG_t (List.mem_of_getElem? (i := 174) rfl) rfl
theorem iX2 : ∀ w ∈ u_ws RX2 TX2 5, w ∈ wG := by
  intro w hw
  obtain ⟨k, hk, rfl⟩ := List.mem_map.mp hw
  have hk := List.mem_range.mp hk
  match k, hk with
  | 0, _ => exact wG_t (List.mem_of_getElem? (i := 93) rfl) rfl
  | 1, _ => exact wG_t (List.mem_of_getElem? (i := 95) rfl) rfl
  | 2, _ => exact wG_t (List.mem_of_getElem? (i := 97) rfl) rfl
  | 3, _ => exact wG_t (List.mem_of_getElem? (i := 99) rfl) rfl
  | 4, _ => exact wG_t (List.mem_of_getElem? (i := 101) rfl) rfl
theorem iX3 : ∀ w ∈ u_ws RX3 TX3 7, w ∈ wG := by
  intro w hw
  obtain ⟨k, hk, rfl⟩ := List.mem_map.mp hw
  have hk := List.mem_range.mp hk
  match k, hk with
  | 0, _ => exact wG_t (List.mem_of_getElem? (i := 46) rfl) rfl
  | 1, _ => exact wG_t (List.mem_of_getElem? (i := 48) rfl) rfl
  | 2, _ => exact wG_t (List.mem_of_getElem? (i := 50) rfl) rfl
  | 3, _ => exact wG_t (List.mem_of_getElem? (i := 52) rfl) rfl
  | 4, _ => exact wG_t (List.mem_of_getElem? (i := 54) rfl) rfl
  | 5, _ => exact wG_t (List.mem_of_getElem? (i := 56) rfl) rfl
  | 6, _ => exact wG_t (List.mem_of_getElem? (i := 58) rfl) rfl
theorem iX4 : ∀ w ∈ u_ws RX4 TX4 2, w ∈ wG := by
  intro w hw
  obtain ⟨k, hk, rfl⟩ := List.mem_map.mp hw
  have hk := List.mem_range.mp hk
  match k, hk with
  | 0, _ => exact wG_t (List.mem_of_getElem? (i := 80) rfl) rfl
  | 1, _ => exact wG_t (List.mem_of_getElem? (i := 82) rfl) rfl
theorem iX5 : ∀ w ∈ u_ws RX5 TX5 8, w ∈ wG := by
  intro w hw
  obtain ⟨k, hk, rfl⟩ := List.mem_map.mp hw
  have hk := List.mem_range.mp hk
  match k, hk with
  | 0, _ => exact wG_t (List.mem_of_getElem? (i := 112) rfl) rfl
  | 1, _ => exact wG_t (List.mem_of_getElem? (i := 114) rfl) rfl
  | 2, _ => exact wG_t (List.mem_of_getElem? (i := 116) rfl) rfl
  | 3, _ => exact wG_t (List.mem_of_getElem? (i := 118) rfl) rfl
  | 4, _ => exact wG_t (List.mem_of_getElem? (i := 120) rfl) rfl
  | 5, _ => exact wG_t (List.mem_of_getElem? (i := 122) rfl) rfl
  | 6, _ => exact wG_t (List.mem_of_getElem? (i := 124) rfl) rfl
  | 7, _ => exact wG_t (List.mem_of_getElem? (i := 126) rfl) rfl
theorem iX6 : ∀ w ∈ u_ws RX6 TX6 19, w ∈ wG := by
  intro w hw
  obtain ⟨k, hk, rfl⟩ := List.mem_map.mp hw
  have hk := List.mem_range.mp hk
  match k, hk with
  | 0, _ => exact wG_t (List.mem_of_getElem? (i := 520) rfl) rfl
  | 1, _ => exact wG_t (List.mem_of_getElem? (i := 522) rfl) rfl
  | 2, _ => exact wG_t (List.mem_of_getElem? (i := 524) rfl) rfl
  | 3, _ => exact wG_t (List.mem_of_getElem? (i := 526) rfl) rfl
  | 4, _ => exact wG_t (List.mem_of_getElem? (i := 528) rfl) rfl
  | 5, _ => exact wG_t (List.mem_of_getElem? (i := 530) rfl) rfl
  | 6, _ => exact wG_t (List.mem_of_getElem? (i := 532) rfl) rfl
  | 7, _ => exact wG_t (List.mem_of_getElem? (i := 534) rfl) rfl
  | 8, _ => exact wG_t (List.mem_of_getElem? (i := 536) rfl) rfl
  | 9, _ => exact wG_t (List.mem_of_getElem? (i := 538) rfl) rfl
  | 10, _ => exact wG_t (List.mem_of_getElem? (i := 540) rfl) rfl
  | 11, _ => exact wG_t (List.mem_of_getElem? (i := 542) rfl) rfl
  | 12, _ => exact wG_t (List.mem_of_getElem? (i := 544) rfl) rfl
  | 13, _ => exact wG_t (List.mem_of_getElem? (i := 546) rfl) rfl
  | 14, _ => exact wG_t (List.mem_of_getElem? (i := 548) rfl) rfl
  | 15, _ => exact wG_t (List.mem_of_getElem? (i := 550) rfl) rfl
  | 16, _ => exact wG_t (List.mem_of_getElem? (i := 552) rfl) rfl
  | 17, _ => exact wG_t (List.mem_of_getElem? (i := 554) rfl) rfl
  | 18, _ => exact wG_t (List.mem_of_getElem? (i := 556) rfl) rfl
