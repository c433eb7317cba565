theorem u_1 : Cond.selects RX11 yX11_closureOf yX11_closureOf ∈ UU := uu_mem 1 (by decide +kernel) (by decide +kernel)
theorem u_3 : Cond.selects RX2 yX2_goRounds yX2_goRounds ∈ UU := uu_mem 3 (by decide +kernel) (by decide +kernel)
theorem u_146 : Cond.initialized RJ13 ∈ UU := uu_mem 146 (by decide +kernel) (by decide +kernel)
theorem u_148 : Cond.initialized RX2 ∈ UU := uu_mem 148 (by decide +kernel) (by decide +kernel)
theorem u_149 : Cond.initialized RJ7 ∈ UU := uu_mem 149 (by decide +kernel) (by decide +kernel)
theorem u_177 : Cond.fieldLink RX2 38 "PlaneProof$Book" "axioms" "I" ∈ UU := uu_mem 177 (by decide +kernel) (by decide +kernel)
theorem u_224 : Cond.fieldLink RX7 15 "PlaneProof$Scribe" "size" "I" ∈ UU := uu_mem 224 (by decide +kernel) (by decide +kernel)
theorem u_225 : Cond.fieldLink RX11 283 "PlaneProof$Scribe" "size" "I" ∈ UU := uu_mem 225 (by decide +kernel) (by decide +kernel)
theorem u_298 : Cond.methodLink RX11 183 yX0_modelsWithout ∈ UU := uu_mem 298 (by decide +kernel) (by decide +kernel)
theorem u_299 : Cond.instanceMethod yX0_modelsWithout ∈ UU := uu_mem 299 (by decide +kernel) (by decide +kernel)
theorem u_300 : Cond.selects RX0 yX0_modelsWithout yX0_modelsWithout ∈ UU := uu_mem 300 (by decide +kernel) (by decide +kernel)
theorem u_303 : Cond.methodLink RX11 177 yJ13_bitCount_95d88 ∈ UU := uu_mem 303 (by decide +kernel) (by decide +kernel)
theorem u_304 : Cond.static yJ13_bitCount_95d88 ∈ UU := uu_mem 304 (by decide +kernel) (by decide +kernel)
theorem u_328 : Cond.code yX11_leastWidth cX11_leastWidth 2 (some .int) ∈ UU := uu_mem 328 (by decide +kernel) (by decide +kernel)
theorem u_329 : Cond.methodLink RX11 242 yX11_closureOf ∈ UU := uu_mem 329 (by decide +kernel) (by decide +kernel)
theorem u_331 : Cond.instanceMethod yX11_closureOf ∈ UU := uu_mem 331 (by decide +kernel) (by decide +kernel)
theorem u_332 : Cond.code yX11_closureOf cX11_closureOf 2 (some (.object "PlaneProof$Closure")) ∈ UU := uu_mem 332 (by decide +kernel) (by decide +kernel)
theorem u_333 : Cond.instantiable RX2 7 ∈ UU := uu_mem 333 (by decide +kernel) (by decide +kernel)
theorem u_334 : Cond.methodLink RX11 342 yX2_init ∈ UU := uu_mem 334 (by decide +kernel) (by decide +kernel)
theorem u_335 : Cond.instanceMethod yX2_init ∈ UU := uu_mem 335 (by decide +kernel) (by decide +kernel)
theorem u_341 : Cond.fieldLink RX2 29 "PlaneProof$Closure" "size" "I" ∈ UU := uu_mem 341 (by decide +kernel) (by decide +kernel)
theorem u_342 : Cond.fieldLink RX11 246 "PlaneProof$Closure" "size" "I" ∈ UU := uu_mem 342 (by decide +kernel) (by decide +kernel)
theorem u_343 : Cond.fieldLink RX2 32 "PlaneProof$Closure" "rounds" "I" ∈ UU := uu_mem 343 (by decide +kernel) (by decide +kernel)
theorem u_344 : Cond.fieldLink RX11 247 "PlaneProof$Closure" "rounds" "I" ∈ UU := uu_mem 344 (by decide +kernel) (by decide +kernel)
theorem u_345 : Cond.fieldLink RX2 35 "PlaneProof$Closure" "emptyRound" "I" ∈ UU := uu_mem 345 (by decide +kernel) (by decide +kernel)
theorem u_346 : Cond.fieldLink RX11 250 "PlaneProof$Closure" "emptyRound" "I" ∈ UU := uu_mem 346 (by decide +kernel) (by decide +kernel)
theorem u_347 : Cond.fieldLink RX2 64 "PlaneProof$Closure" "isBuilt" "Z" ∈ UU := uu_mem 347 (by decide +kernel) (by decide +kernel)
theorem u_348 : Cond.fieldLink RX11 322 "PlaneProof$Closure" "isBuilt" "Z" ∈ UU := uu_mem 348 (by decide +kernel) (by decide +kernel)
theorem u_365 : Cond.methodLink RX11 344 yX2_build ∈ UU := uu_mem 365 (by decide +kernel) (by decide +kernel)
theorem u_366 : Cond.instanceMethod yX2_build ∈ UU := uu_mem 366 (by decide +kernel) (by decide +kernel)
theorem u_367 : Cond.selects RX2 yX2_build yX2_build ∈ UU := uu_mem 367 (by decide +kernel) (by decide +kernel)
theorem u_368 : Cond.code yX2_build cX2_build 4 none ∈ UU := uu_mem 368 (by decide +kernel) (by decide +kernel)
theorem u_369 : Cond.methodLink RX2 23 yJ7_fill_d0a16 ∈ UU := uu_mem 369 (by decide +kernel) (by decide +kernel)
theorem u_370 : Cond.static yJ7_fill_d0a16 ∈ UU := uu_mem 370 (by decide +kernel) (by decide +kernel)
theorem u_378 : Cond.instanceMethod yX2_isThere ∈ UU := uu_mem 378 (by decide +kernel) (by decide +kernel)
theorem u_379 : Cond.selects RX2 yX2_isThere yX2_isThere ∈ UU := uu_mem 379 (by decide +kernel) (by decide +kernel)
theorem u_380 : Cond.code yX2_isThere cX2_isThere 3 (some .boolean) ∈ UU := uu_mem 380 (by decide +kernel) (by decide +kernel)
theorem u_381 : Cond.methodLink RX2 61 yX2_goRounds ∈ UU := uu_mem 381 (by decide +kernel) (by decide +kernel)
theorem u_383 : Cond.instanceMethod yX2_goRounds ∈ UU := uu_mem 383 (by decide +kernel) (by decide +kernel)
theorem u_384 : Cond.code yX2_goRounds cX2_goRounds 7 none ∈ UU := uu_mem 384 (by decide +kernel) (by decide +kernel)
theorem u_401 : Cond.code yX11_pebbles cX11_pebbles 2 (some .int) ∈ UU := uu_mem 401 (by decide +kernel) (by decide +kernel)
theorem u_402 : Cond.methodLink RX11 276 yX4_fewestMoves ∈ UU := uu_mem 402 (by decide +kernel) (by decide +kernel)
theorem u_403 : Cond.instanceMethod yX4_fewestMoves ∈ UU := uu_mem 403 (by decide +kernel) (by decide +kernel)
theorem u_404 : Cond.selects RX4 yX4_fewestMoves yX4_fewestMoves ∈ UU := uu_mem 404 (by decide +kernel) (by decide +kernel)
theorem u_405 : Cond.code yX4_fewestMoves cX4_fewestMoves 7 (some .int) ∈ UU := uu_mem 405 (by decide +kernel) (by decide +kernel)
theorem u_427 : Cond.code yX11_octet cX11_octet 2 (some .int) ∈ UU := uu_mem 427 (by decide +kernel) (by decide +kernel)
theorem u_428 : Cond.methodLink RX11 294 yX7_byteAt ∈ UU := uu_mem 428 (by decide +kernel) (by decide +kernel)
theorem u_429 : Cond.instanceMethod yX7_byteAt ∈ UU := uu_mem 429 (by decide +kernel) (by decide +kernel)
theorem u_430 : Cond.selects RX7 yX7_byteAt yX7_byteAt ∈ UU := uu_mem 430 (by decide +kernel) (by decide +kernel)
theorem u_431 : Cond.code yX7_byteAt cX7_byteAt 2 (some .int) ∈ UU := uu_mem 431 (by decide +kernel) (by decide +kernel)
theorem u_435 : Cond.code yX11_core cX11_core 2 (some .int) ∈ UU := uu_mem 435 (by decide +kernel) (by decide +kernel)
theorem u_436 : Cond.methodLink RX11 304 yX0_leastCore ∈ UU := uu_mem 436 (by decide +kernel) (by decide +kernel)
theorem u_437 : Cond.instanceMethod yX0_leastCore ∈ UU := uu_mem 437 (by decide +kernel) (by decide +kernel)
theorem u_438 : Cond.selects RX0 yX0_leastCore yX0_leastCore ∈ UU := uu_mem 438 (by decide +kernel) (by decide +kernel)
theorem u_452 : Cond.code yX11_pure cX11_pure 5 (some .int) ∈ UU := uu_mem 452 (by decide +kernel) (by decide +kernel)
theorem u_457 : Cond.code yX11_count cX11_count 2 (some .int) ∈ UU := uu_mem 457 (by decide +kernel) (by decide +kernel)
theorem u_458 : Cond.methodLink RX11 313 yX0_planeCount ∈ UU := uu_mem 458 (by decide +kernel) (by decide +kernel)
theorem u_459 : Cond.instanceMethod yX0_planeCount ∈ UU := uu_mem 459 (by decide +kernel) (by decide +kernel)
theorem u_460 : Cond.selects RX0 yX0_planeCount yX0_planeCount ∈ UU := uu_mem 460 (by decide +kernel) (by decide +kernel)
theorem u_462 : Cond.methodLink RX11 316 yX0_madeBy ∈ UU := uu_mem 462 (by decide +kernel) (by decide +kernel)
theorem u_463 : Cond.instanceMethod yX0_madeBy ∈ UU := uu_mem 463 (by decide +kernel) (by decide +kernel)
theorem u_464 : Cond.selects RX0 yX0_madeBy yX0_madeBy ∈ UU := uu_mem 464 (by decide +kernel) (by decide +kernel)
theorem u_466 : Cond.methodLink RX11 319 yX0_unusedSteps ∈ UU := uu_mem 466 (by decide +kernel) (by decide +kernel)
theorem u_467 : Cond.instanceMethod yX0_unusedSteps ∈ UU := uu_mem 467 (by decide +kernel) (by decide +kernel)
theorem u_468 : Cond.selects RX0 yX0_unusedSteps yX0_unusedSteps ∈ UU := uu_mem 468 (by decide +kernel) (by decide +kernel)
theorem u_1286 : Cond.code yX11_within cX11_within 4 (some .int) ∈ UU := uu_mem 1286 (by decide +kernel) (by decide +kernel)
theorem u_1287 : Cond.methodLink RX11 239 yX11_checkWidth ∈ UU := uu_mem 1287 (by decide +kernel) (by decide +kernel)
theorem u_1288 : Cond.static yX11_checkWidth ∈ UU := uu_mem 1288 (by decide +kernel) (by decide +kernel)
theorem u_1297 : Cond.code yX11_has cX11_has 4 (some .boolean) ∈ UU := uu_mem 1297 (by decide +kernel) (by decide +kernel)
theorem u_1298 : Cond.methodLink RX11 253 yX2_isThere ∈ UU := uu_mem 1298 (by decide +kernel) (by decide +kernel)
theorem u_1314 : Cond.code yX11_pebbled cX11_pebbled 2 (some .int) ∈ UU := uu_mem 1314 (by decide +kernel) (by decide +kernel)
theorem u_1498 : Cond.code yX11_stands cX11_stands 7 (some .int) ∈ UU := uu_mem 1498 (by decide +kernel) (by decide +kernel)
theorem df_X2 : ∀ j, j < 7 → defaultValue (tyX2 j) = vp_V [.int 0, .null, .null, .int 0, .int 0, .int 0, .int 0] j := by decide +kernel
theorem m_J13_bitCount_95d88 : mS yJ13_bitCount_95d88 cJ13_bitCount_95d88 2 (some .int) 1 := ⟨u_305, u_304, u_146, ⟨by decide, by decide, by decide +kernel⟩⟩
theorem m_J7_fill_d0a16 : mS yJ7_fill_d0a16 cJ7_fill_d0a16 5 none 2 := ⟨u_371, u_370, u_149, ⟨by decide, by decide, by decide +kernel⟩⟩
theorem m_X0_leastCore : mV yX0_leastCore cX0_leastCore 1 (some .int) 0 := ⟨u_439, u_437, u_438, u_124, ⟨by decide, by decide, by decide +kernel⟩⟩
theorem m_X0_madeBy : mV yX0_madeBy cX0_madeBy 4 (some .int) 1 := ⟨u_465, u_463, u_464, u_124, ⟨by decide, by decide, by decide +kernel⟩⟩
theorem m_X0_modelsWithout : mV yX0_modelsWithout cX0_modelsWithout 5 (some .long) 1 := ⟨u_301, u_299, u_300, u_124, ⟨by decide, by decide, by decide +kernel⟩⟩
theorem m_X0_planeCount : mV yX0_planeCount cX0_planeCount 3 (some .int) 0 := ⟨u_461, u_459, u_460, u_124, ⟨by decide, by decide, by decide +kernel⟩⟩
theorem m_X0_unusedSteps : mV yX0_unusedSteps cX0_unusedSteps 3 (some .int) 0 := ⟨u_469, u_467, u_468, u_124, ⟨by decide, by decide, by decide +kernel⟩⟩
theorem m_X11_checkWidth : mS yX11_checkWidth cX11_checkWidth 1 none 1 := ⟨u_1289, u_1288, u_123, ⟨by decide, by decide, by decide +kernel⟩⟩
theorem m_X11_closureOf : mV yX11_closureOf cX11_closureOf 2 (some (.object "PlaneProof$Closure")) 1 := ⟨u_332, u_331, u_1, u_123, ⟨by decide, by decide, by decide +kernel⟩⟩
theorem m_X2_build : mV yX2_build cX2_build 4 none 1 := ⟨u_368, u_366, u_367, u_148, ⟨by decide, by decide, by decide +kernel⟩⟩
theorem m_X2_goRounds : mV yX2_goRounds cX2_goRounds 7 none 0 := ⟨u_384, u_383, u_3, u_148, ⟨by decide, by decide, by decide +kernel⟩⟩
theorem m_X2_init : mI yX2_init cX2_init 2 1 := ⟨u_336, u_335, u_148, rfl, ⟨by decide, by decide, by decide +kernel⟩⟩
theorem m_X2_isThere : mV yX2_isThere cX2_isThere 3 (some .boolean) 2 := ⟨u_380, u_378, u_379, u_148, ⟨by decide, by decide, by decide +kernel⟩⟩
theorem m_X4_fewestMoves : mV yX4_fewestMoves cX4_fewestMoves 7 (some .int) 1 := ⟨u_405, u_403, u_404, u_125, ⟨by decide, by decide, by decide +kernel⟩⟩
theorem m_X7_byteAt : mV yX7_byteAt cX7_byteAt 2 (some .int) 1 := ⟨u_431, u_429, u_430, u_126, ⟨by decide, by decide, by decide +kernel⟩⟩
theorem dX11_closureOf_0 : decode cX11_closureOf 0 = .ok (.aload_n 0, 1) := by decide +kernel
theorem dX11_closureOf_1 : decode cX11_closureOf 1 = .ok (.getfield 40, 3) := by decide +kernel
theorem dX11_closureOf_4 : decode cX11_closureOf 4 = .ok (.iload_n 1, 1) := by decide +kernel
theorem dX11_closureOf_5 : decode cX11_closureOf 5 = .ok (.aaload, 1) := by decide +kernel
theorem dX11_closureOf_6 : decode cX11_closureOf 6 = .ok (.ifnonnull 17, 3) := by decide +kernel
theorem dX11_closureOf_9 : decode cX11_closureOf 9 = .ok (.aload_n 0, 1) := by decide +kernel
theorem dX11_closureOf_10 : decode cX11_closureOf 10 = .ok (.getfield 40, 3) := by decide +kernel
theorem dX11_closureOf_13 : decode cX11_closureOf 13 = .ok (.iload_n 1, 1) := by decide +kernel
theorem dX11_closureOf_14 : decode cX11_closureOf 14 = .ok (.new 38, 3) := by decide +kernel
theorem dX11_closureOf_17 : decode cX11_closureOf 17 = .ok (.dup, 1) := by decide +kernel
theorem dX11_closureOf_18 : decode cX11_closureOf 18 = .ok (.iload_n 1, 1) := by decide +kernel
theorem dX11_closureOf_19 : decode cX11_closureOf 19 = .ok (.invokespecial 342, 3) := by decide +kernel
theorem dX11_closureOf_22 : decode cX11_closureOf 22 = .ok (.aastore, 1) := by decide +kernel
theorem dX11_closureOf_23 : decode cX11_closureOf 23 = .ok (.aload_n 0, 1) := by decide +kernel
theorem dX11_closureOf_24 : decode cX11_closureOf 24 = .ok (.getfield 40, 3) := by decide +kernel
theorem dX11_closureOf_27 : decode cX11_closureOf 27 = .ok (.iload_n 1, 1) := by decide +kernel
theorem dX11_closureOf_28 : decode cX11_closureOf 28 = .ok (.aaload, 1) := by decide +kernel
theorem dX11_closureOf_29 : decode cX11_closureOf 29 = .ok (.getfield 322, 3) := by decide +kernel
theorem dX11_closureOf_32 : decode cX11_closureOf 32 = .ok (.ifCond .ne 16, 3) := by decide +kernel
theorem dX11_closureOf_35 : decode cX11_closureOf 35 = .ok (.aload_n 0, 1) := by decide +kernel
theorem dX11_closureOf_36 : decode cX11_closureOf 36 = .ok (.getfield 40, 3) := by decide +kernel
theorem dX11_closureOf_39 : decode cX11_closureOf 39 = .ok (.iload_n 1, 1) := by decide +kernel
theorem dX11_closureOf_40 : decode cX11_closureOf 40 = .ok (.aaload, 1) := by decide +kernel
theorem dX11_closureOf_41 : decode cX11_closureOf 41 = .ok (.aload_n 0, 1) := by decide +kernel
theorem dX11_closureOf_42 : decode cX11_closureOf 42 = .ok (.getfield 27, 3) := by decide +kernel
theorem dX11_closureOf_45 : decode cX11_closureOf 45 = .ok (.invokevirtual 344, 3) := by decide +kernel
theorem dX11_closureOf_48 : decode cX11_closureOf 48 = .ok (.aload_n 0, 1) := by decide +kernel
theorem dX11_closureOf_49 : decode cX11_closureOf 49 = .ok (.getfield 40, 3) := by decide +kernel
theorem dX11_closureOf_52 : decode cX11_closureOf 52 = .ok (.iload_n 1, 1) := by decide +kernel
theorem dX11_closureOf_53 : decode cX11_closureOf 53 = .ok (.aaload, 1) := by decide +kernel
theorem dX11_closureOf_54 : decode cX11_closureOf 54 = .ok (.areturn, 1) := by decide +kernel
theorem dX11_core_0 : decode cX11_core 0 = .ok (.aload_n 0, 1) := by decide +kernel
theorem dX11_core_1 : decode cX11_core 1 = .ok (.getfield 44, 3) := by decide +kernel
theorem dX11_core_4 : decode cX11_core 4 = .ok (.bipush (-2), 2) := by decide +kernel
theorem dX11_core_6 : decode cX11_core 6 = .ok (.if_icmp .ne 14, 3) := by decide +kernel
theorem dX11_core_9 : decode cX11_core 9 = .ok (.aload_n 0, 1) := by decide +kernel
theorem dX11_core_10 : decode cX11_core 10 = .ok (.aload_n 0, 1) := by decide +kernel
theorem dX11_core_11 : decode cX11_core 11 = .ok (.getfield 27, 3) := by decide +kernel
theorem dX11_core_14 : decode cX11_core 14 = .ok (.invokevirtual 304, 3) := by decide +kernel
theorem dX11_core_17 : decode cX11_core 17 = .ok (.putfield 44, 3) := by decide +kernel
theorem dX11_core_20 : decode cX11_core 20 = .ok (.aload_n 0, 1) := by decide +kernel
theorem dX11_core_21 : decode cX11_core 21 = .ok (.getfield 44, 3) := by decide +kernel
theorem dX11_core_24 : decode cX11_core 24 = .ok (.iconst (-1), 1) := by decide +kernel
theorem dX11_core_25 : decode cX11_core 25 = .ok (.if_icmp .ne 5, 3) := by decide +kernel
theorem dX11_core_28 : decode cX11_core 28 = .ok (.iconst (-1), 1) := by decide +kernel
theorem dX11_core_29 : decode cX11_core 29 = .ok (.ireturn, 1) := by decide +kernel
theorem dX11_count_0 : decode cX11_count 0 = .ok (.iload_n 1, 1) := by decide +kernel
theorem dX11_count_1 : decode cX11_count 1 = .ok (.tableswitch 166 0 10 #[59, 67, 75, 91, 99, 108, 118, 128, 138, 146, 158], 59) := by decide +kernel
theorem dX11_count_60 : decode cX11_count 60 = .ok (.aload_n 0, 1) := by decide +kernel
theorem dX11_count_61 : decode cX11_count 61 = .ok (.getfield 27, 3) := by decide +kernel
theorem dX11_count_64 : decode cX11_count 64 = .ok (.getfield 102, 3) := by decide +kernel
theorem dX11_count_67 : decode cX11_count 67 = .ok (.ireturn, 1) := by decide +kernel
theorem dX11_count_68 : decode cX11_count 68 = .ok (.aload_n 0, 1) := by decide +kernel
theorem dX11_count_69 : decode cX11_count 69 = .ok (.getfield 27, 3) := by decide +kernel
theorem dX11_count_72 : decode cX11_count 72 = .ok (.getfield 116, 3) := by decide +kernel
theorem dX11_count_75 : decode cX11_count 75 = .ok (.ireturn, 1) := by decide +kernel
theorem dX11_count_76 : decode cX11_count 76 = .ok (.aload_n 0, 1) := by decide +kernel
theorem dX11_count_77 : decode cX11_count 77 = .ok (.getfield 27, 3) := by decide +kernel
theorem dX11_count_80 : decode cX11_count 80 = .ok (.getfield 116, 3) := by decide +kernel
theorem dX11_count_83 : decode cX11_count 83 = .ok (.aload_n 0, 1) := by decide +kernel
theorem dX11_count_84 : decode cX11_count 84 = .ok (.getfield 27, 3) := by decide +kernel
theorem dX11_count_87 : decode cX11_count 87 = .ok (.invokevirtual 313, 3) := by decide +kernel
theorem dX11_count_90 : decode cX11_count 90 = .ok (.isub, 1) := by decide +kernel
theorem dX11_count_91 : decode cX11_count 91 = .ok (.ireturn, 1) := by decide +kernel
theorem dX11_count_92 : decode cX11_count 92 = .ok (.aload_n 0, 1) := by decide +kernel
theorem dX11_count_93 : decode cX11_count 93 = .ok (.getfield 27, 3) := by decide +kernel
theorem dX11_count_96 : decode cX11_count 96 = .ok (.invokevirtual 313, 3) := by decide +kernel
theorem dX11_count_99 : decode cX11_count 99 = .ok (.ireturn, 1) := by decide +kernel
theorem dX11_count_100 : decode cX11_count 100 = .ok (.aload_n 0, 1) := by decide +kernel
theorem dX11_count_101 : decode cX11_count 101 = .ok (.getfield 27, 3) := by decide +kernel
theorem dX11_count_104 : decode cX11_count 104 = .ok (.iconst 1, 1) := by decide +kernel
theorem dX11_count_105 : decode cX11_count 105 = .ok (.invokevirtual 316, 3) := by decide +kernel
theorem dX11_count_108 : decode cX11_count 108 = .ok (.ireturn, 1) := by decide +kernel
theorem dX11_count_109 : decode cX11_count 109 = .ok (.aload_n 0, 1) := by decide +kernel
theorem dX11_count_110 : decode cX11_count 110 = .ok (.getfield 27, 3) := by decide +kernel
theorem dX11_count_113 : decode cX11_count 113 = .ok (.bipush 6, 2) := by decide +kernel
theorem dX11_count_115 : decode cX11_count 115 = .ok (.invokevirtual 316, 3) := by decide +kernel
theorem dX11_count_118 : decode cX11_count 118 = .ok (.ireturn, 1) := by decide +kernel
theorem dX11_count_119 : decode cX11_count 119 = .ok (.aload_n 0, 1) := by decide +kernel
theorem dX11_count_120 : decode cX11_count 120 = .ok (.getfield 27, 3) := by decide +kernel
theorem dX11_count_123 : decode cX11_count 123 = .ok (.bipush 8, 2) := by decide +kernel
theorem dX11_count_125 : decode cX11_count 125 = .ok (.invokevirtual 316, 3) := by decide +kernel
theorem dX11_count_128 : decode cX11_count 128 = .ok (.ireturn, 1) := by decide +kernel
theorem dX11_count_129 : decode cX11_count 129 = .ok (.aload_n 0, 1) := by decide +kernel
theorem dX11_count_130 : decode cX11_count 130 = .ok (.getfield 27, 3) := by decide +kernel
theorem dX11_count_133 : decode cX11_count 133 = .ok (.bipush 9, 2) := by decide +kernel
theorem dX11_count_135 : decode cX11_count 135 = .ok (.invokevirtual 316, 3) := by decide +kernel
theorem dX11_count_138 : decode cX11_count 138 = .ok (.ireturn, 1) := by decide +kernel
theorem dX11_count_139 : decode cX11_count 139 = .ok (.aload_n 0, 1) := by decide +kernel
theorem dX11_count_140 : decode cX11_count 140 = .ok (.getfield 50, 3) := by decide +kernel
theorem dX11_count_143 : decode cX11_count 143 = .ok (.getfield 283, 3) := by decide +kernel
theorem dX11_count_146 : decode cX11_count 146 = .ok (.ireturn, 1) := by decide +kernel
theorem dX11_count_147 : decode cX11_count 147 = .ok (.aload_n 0, 1) := by decide +kernel
theorem dX11_count_148 : decode cX11_count 148 = .ok (.getfield 27, 3) := by decide +kernel
theorem dX11_count_151 : decode cX11_count 151 = .ok (.iconst (-1), 1) := by decide +kernel
theorem dX11_count_152 : decode cX11_count 152 = .ok (.invokevirtual 183, 3) := by decide +kernel
theorem dX11_count_155 : decode cX11_count 155 = .ok (.invokestatic 177, 3) := by decide +kernel
theorem dX11_count_158 : decode cX11_count 158 = .ok (.ireturn, 1) := by decide +kernel
theorem dX11_count_159 : decode cX11_count 159 = .ok (.aload_n 0, 1) := by decide +kernel
theorem dX11_count_160 : decode cX11_count 160 = .ok (.getfield 27, 3) := by decide +kernel
theorem dX11_count_163 : decode cX11_count 163 = .ok (.invokevirtual 319, 3) := by decide +kernel
theorem dX11_count_166 : decode cX11_count 166 = .ok (.ireturn, 1) := by decide +kernel
theorem dX11_count_167 : decode cX11_count 167 = .ok (.iconst (-1), 1) := by decide +kernel
theorem dX11_count_168 : decode cX11_count 168 = .ok (.ireturn, 1) := by decide +kernel
theorem dX11_has_0 : decode cX11_has 0 = .ok (.iload_n 1, 1) := by decide +kernel
theorem dX11_has_1 : decode cX11_has 1 = .ok (.invokestatic 239, 3) := by decide +kernel
theorem dX11_has_4 : decode cX11_has 4 = .ok (.iload_n 2, 1) := by decide +kernel
theorem dX11_has_5 : decode cX11_has 5 = .ok (.iload_n 3, 1) := by decide +kernel
theorem dX11_has_6 : decode cX11_has 6 = .ok (.invokestatic 218, 3) := by decide +kernel
theorem dX11_has_9 : decode cX11_has 9 = .ok (.aload_n 0, 1) := by decide +kernel
theorem dX11_has_10 : decode cX11_has 10 = .ok (.iload_n 1, 1) := by decide +kernel
theorem dX11_has_11 : decode cX11_has 11 = .ok (.invokevirtual 242, 3) := by decide +kernel
theorem dX11_has_14 : decode cX11_has 14 = .ok (.iload_n 2, 1) := by decide +kernel
theorem dX11_has_15 : decode cX11_has 15 = .ok (.iload_n 3, 1) := by decide +kernel
theorem dX11_has_16 : decode cX11_has 16 = .ok (.invokevirtual 253, 3) := by decide +kernel
theorem dX11_has_19 : decode cX11_has 19 = .ok (.ireturn, 1) := by decide +kernel
theorem dX11_leastWidth_0 : decode cX11_leastWidth 0 = .ok (.iconst 0, 1) := by decide +kernel
theorem dX11_leastWidth_1 : decode cX11_leastWidth 1 = .ok (.istore_n 1, 1) := by decide +kernel
theorem dX11_leastWidth_2 : decode cX11_leastWidth 2 = .ok (.iload_n 1, 1) := by decide +kernel
theorem dX11_leastWidth_3 : decode cX11_leastWidth 3 = .ok (.bipush 6, 2) := by decide +kernel
theorem dX11_leastWidth_5 : decode cX11_leastWidth 5 = .ok (.if_icmp .gt 23, 3) := by decide +kernel
theorem dX11_leastWidth_8 : decode cX11_leastWidth 8 = .ok (.aload_n 0, 1) := by decide +kernel
theorem dX11_leastWidth_9 : decode cX11_leastWidth 9 = .ok (.iload_n 1, 1) := by decide +kernel
theorem dX11_leastWidth_10 : decode cX11_leastWidth 10 = .ok (.invokevirtual 242, 3) := by decide +kernel
theorem dX11_leastWidth_13 : decode cX11_leastWidth 13 = .ok (.getfield 250, 3) := by decide +kernel
theorem dX11_leastWidth_16 : decode cX11_leastWidth 16 = .ok (.iconst (-1), 1) := by decide +kernel
theorem dX11_leastWidth_17 : decode cX11_leastWidth 17 = .ok (.if_icmp .eq 5, 3) := by decide +kernel
theorem dX11_leastWidth_22 : decode cX11_leastWidth 22 = .ok (.iinc 1 1, 3) := by decide +kernel
theorem dX11_leastWidth_25 : decode cX11_leastWidth 25 = .ok (.goto (-23), 3) := by decide +kernel
theorem dX11_leastWidth_28 : decode cX11_leastWidth 28 = .ok (.iconst (-1), 1) := by decide +kernel
theorem dX11_leastWidth_29 : decode cX11_leastWidth 29 = .ok (.ireturn, 1) := by decide +kernel
theorem dX11_octet_0 : decode cX11_octet 0 = .ok (.aload_n 0, 1) := by decide +kernel
theorem dX11_octet_1 : decode cX11_octet 1 = .ok (.getfield 50, 3) := by decide +kernel
theorem dX11_octet_4 : decode cX11_octet 4 = .ok (.iload_n 1, 1) := by decide +kernel
theorem dX11_octet_5 : decode cX11_octet 5 = .ok (.invokevirtual 294, 3) := by decide +kernel
theorem dX11_octet_8 : decode cX11_octet 8 = .ok (.ireturn, 1) := by decide +kernel
theorem dX11_pebbled_0 : decode cX11_pebbled 0 = .ok (.iload_n 1, 1) := by decide +kernel
theorem dX11_pebbled_1 : decode cX11_pebbled 1 = .ok (.ifCond .lt 9, 3) := by decide +kernel
theorem dX11_pebbled_4 : decode cX11_pebbled 4 = .ok (.iload_n 1, 1) := by decide +kernel
theorem dX11_pebbled_5 : decode cX11_pebbled 5 = .ok (.bipush 6, 2) := by decide +kernel
theorem dX11_pebbled_7 : decode cX11_pebbled 7 = .ok (.if_icmp .le 14, 3) := by decide +kernel
theorem dX11_pebbled_10 : decode cX11_pebbled 10 = .ok (.new 84, 3) := by decide +kernel
theorem dX11_pebbled_13 : decode cX11_pebbled 13 = .ok (.dup, 1) := by decide +kernel
theorem dX11_pebbled_14 : decode cX11_pebbled 14 = .ok (.ldc_w 274, 3) := by decide +kernel
theorem dX11_pebbled_17 : decode cX11_pebbled 17 = .ok (.invokespecial 88, 3) := by decide +kernel
theorem dX11_pebbled_20 : decode cX11_pebbled 20 = .ok (.athrow, 1) := by decide +kernel
theorem dX11_pebbled_21 : decode cX11_pebbled 21 = .ok (.aload_n 0, 1) := by decide +kernel
theorem dX11_pebbled_22 : decode cX11_pebbled 22 = .ok (.getfield 34, 3) := by decide +kernel
theorem dX11_pebbled_25 : decode cX11_pebbled 25 = .ok (.iload_n 1, 1) := by decide +kernel
theorem dX11_pebbled_26 : decode cX11_pebbled 26 = .ok (.invokevirtual 276, 3) := by decide +kernel
theorem dX11_pebbled_29 : decode cX11_pebbled 29 = .ok (.ireturn, 1) := by decide +kernel
theorem dX11_pebbles_0 : decode cX11_pebbles 0 = .ok (.iconst 0, 1) := by decide +kernel
theorem dX11_pebbles_1 : decode cX11_pebbles 1 = .ok (.istore_n 1, 1) := by decide +kernel
theorem dX11_pebbles_2 : decode cX11_pebbles 2 = .ok (.iload_n 1, 1) := by decide +kernel
theorem dX11_pebbles_3 : decode cX11_pebbles 3 = .ok (.bipush 6, 2) := by decide +kernel
theorem dX11_pebbles_5 : decode cX11_pebbles 5 = .ok (.if_icmp .gt 23, 3) := by decide +kernel
theorem dX11_pebbles_8 : decode cX11_pebbles 8 = .ok (.aload_n 0, 1) := by decide +kernel
theorem dX11_pebbles_9 : decode cX11_pebbles 9 = .ok (.getfield 34, 3) := by decide +kernel
theorem dX11_pebbles_12 : decode cX11_pebbles 12 = .ok (.iload_n 1, 1) := by decide +kernel
theorem dX11_pebbles_13 : decode cX11_pebbles 13 = .ok (.invokevirtual 276, 3) := by decide +kernel
theorem dX11_pebbles_16 : decode cX11_pebbles 16 = .ok (.iconst (-1), 1) := by decide +kernel
theorem dX11_pebbles_17 : decode cX11_pebbles 17 = .ok (.if_icmp .eq 5, 3) := by decide +kernel
theorem dX11_pebbles_22 : decode cX11_pebbles 22 = .ok (.iinc 1 1, 3) := by decide +kernel
theorem dX11_pebbles_25 : decode cX11_pebbles 25 = .ok (.goto (-23), 3) := by decide +kernel
theorem dX11_pebbles_28 : decode cX11_pebbles 28 = .ok (.iconst (-1), 1) := by decide +kernel
theorem dX11_pebbles_29 : decode cX11_pebbles 29 = .ok (.ireturn, 1) := by decide +kernel
theorem dX11_pure_0 : decode cX11_pure 0 = .ok (.iconst 0, 1) := by decide +kernel
theorem dX11_pure_1 : decode cX11_pure 1 = .ok (.istore_n 2, 1) := by decide +kernel
theorem dX11_pure_2 : decode cX11_pure 2 = .ok (.iconst 0, 1) := by decide +kernel
theorem dX11_pure_3 : decode cX11_pure 3 = .ok (.istore_n 3, 1) := by decide +kernel
theorem dX11_pure_4 : decode cX11_pure 4 = .ok (.iconst 0, 1) := by decide +kernel
theorem dX11_pure_5 : decode cX11_pure 5 = .ok (.istore 4, 2) := by decide +kernel
theorem dX11_pure_7 : decode cX11_pure 7 = .ok (.iload 4, 2) := by decide +kernel
theorem dX11_pure_9 : decode cX11_pure 9 = .ok (.aload_n 0, 1) := by decide +kernel
theorem dX11_pure_10 : decode cX11_pure 10 = .ok (.getfield 27, 3) := by decide +kernel
theorem dX11_pure_13 : decode cX11_pure 13 = .ok (.getfield 102, 3) := by decide +kernel
theorem dX11_pure_16 : decode cX11_pure 16 = .ok (.if_icmp .ge 51, 3) := by decide +kernel
theorem dX11_pure_67 : decode cX11_pure 67 = .ok (.iload_n 2, 1) := by decide +kernel
theorem dX11_pure_68 : decode cX11_pure 68 = .ok (.iload_n 3, 1) := by decide +kernel
theorem dX11_pure_69 : decode cX11_pure 69 = .ok (.iconst (-1), 1) := by decide +kernel
theorem dX11_pure_70 : decode cX11_pure 70 = .ok (.ixor, 1) := by decide +kernel
theorem dX11_pure_71 : decode cX11_pure 71 = .ok (.iand, 1) := by decide +kernel
theorem dX11_pure_72 : decode cX11_pure 72 = .ok (.ireturn, 1) := by decide +kernel
theorem dX11_stands_0 : decode cX11_stands 0 = .ok (.iload_n 1, 1) := by decide +kernel
theorem dX11_stands_1 : decode cX11_stands 1 = .ok (.ifCond .lt 9, 3) := by decide +kernel
theorem dX11_stands_4 : decode cX11_stands 4 = .ok (.iload_n 1, 1) := by decide +kernel
theorem dX11_stands_5 : decode cX11_stands 5 = .ok (.bipush 6, 2) := by decide +kernel
theorem dX11_stands_7 : decode cX11_stands 7 = .ok (.if_icmp .lt 13, 3) := by decide +kernel
theorem dX11_stands_10 : decode cX11_stands 10 = .ok (.new 152, 3) := by decide +kernel
theorem dX11_stands_13 : decode cX11_stands 13 = .ok (.dup, 1) := by decide +kernel
theorem dX11_stands_14 : decode cX11_stands 14 = .ok (.ldc 154, 2) := by decide +kernel
theorem dX11_stands_16 : decode cX11_stands 16 = .ok (.invokespecial 156, 3) := by decide +kernel
theorem dX11_stands_19 : decode cX11_stands 19 = .ok (.athrow, 1) := by decide +kernel
theorem dX11_stands_20 : decode cX11_stands 20 = .ok (.iload_n 2, 1) := by decide +kernel
theorem dX11_stands_21 : decode cX11_stands 21 = .ok (.ifCond .eq 13, 3) := by decide +kernel
theorem dX11_stands_24 : decode cX11_stands 24 = .ok (.aload_n 0, 1) := by decide +kernel
theorem dX11_stands_25 : decode cX11_stands 25 = .ok (.getfield 27, 3) := by decide +kernel
theorem dX11_stands_28 : decode cX11_stands 28 = .ok (.getfield 102, 3) := by decide +kernel
theorem dX11_stands_31 : decode cX11_stands 31 = .ok (.goto 4, 3) := by decide +kernel
theorem dX11_stands_34 : decode cX11_stands 34 = .ok (.iconst 0, 1) := by decide +kernel
theorem dX11_stands_35 : decode cX11_stands 35 = .ok (.istore_n 3, 1) := by decide +kernel
theorem dX11_stands_36 : decode cX11_stands 36 = .ok (.iload_n 2, 1) := by decide +kernel
theorem dX11_stands_37 : decode cX11_stands 37 = .ok (.ifCond .eq 13, 3) := by decide +kernel
theorem dX11_stands_40 : decode cX11_stands 40 = .ok (.aload_n 0, 1) := by decide +kernel
theorem dX11_stands_41 : decode cX11_stands 41 = .ok (.getfield 27, 3) := by decide +kernel
theorem dX11_stands_44 : decode cX11_stands 44 = .ok (.getfield 116, 3) := by decide +kernel
theorem dX11_stands_47 : decode cX11_stands 47 = .ok (.goto 10, 3) := by decide +kernel
theorem dX11_stands_50 : decode cX11_stands 50 = .ok (.aload_n 0, 1) := by decide +kernel
theorem dX11_stands_51 : decode cX11_stands 51 = .ok (.getfield 27, 3) := by decide +kernel
theorem dX11_stands_54 : decode cX11_stands 54 = .ok (.getfield 102, 3) := by decide +kernel
theorem dX11_stands_57 : decode cX11_stands 57 = .ok (.istore 4, 2) := by decide +kernel
theorem dX11_stands_59 : decode cX11_stands 59 = .ok (.iconst 0, 1) := by decide +kernel
theorem dX11_stands_60 : decode cX11_stands 60 = .ok (.istore 5, 2) := by decide +kernel
theorem dX11_stands_62 : decode cX11_stands 62 = .ok (.iload_n 3, 1) := by decide +kernel
theorem dX11_stands_63 : decode cX11_stands 63 = .ok (.istore 6, 2) := by decide +kernel
theorem dX11_stands_65 : decode cX11_stands 65 = .ok (.iload 6, 2) := by decide +kernel
theorem dX11_stands_67 : decode cX11_stands 67 = .ok (.iload 4, 2) := by decide +kernel
theorem dX11_stands_69 : decode cX11_stands 69 = .ok (.if_icmp .ge 30, 3) := by decide +kernel
theorem dX11_stands_99 : decode cX11_stands 99 = .ok (.iload 5, 2) := by decide +kernel
theorem dX11_stands_101 : decode cX11_stands 101 = .ok (.ireturn, 1) := by decide +kernel
theorem dX11_within_0 : decode cX11_within 0 = .ok (.iload_n 1, 1) := by decide +kernel
theorem dX11_within_1 : decode cX11_within 1 = .ok (.invokestatic 239, 3) := by decide +kernel
theorem dX11_within_4 : decode cX11_within 4 = .ok (.iload_n 2, 1) := by decide +kernel
theorem dX11_within_5 : decode cX11_within 5 = .ok (.ifCond .lt 8, 3) := by decide +kernel
theorem dX11_within_8 : decode cX11_within 8 = .ok (.iload_n 2, 1) := by decide +kernel
theorem dX11_within_9 : decode cX11_within 9 = .ok (.iconst 2, 1) := by decide +kernel
theorem dX11_within_10 : decode cX11_within 10 = .ok (.if_icmp .le 13, 3) := by decide +kernel
theorem dX11_within_13 : decode cX11_within 13 = .ok (.new 141, 3) := by decide +kernel
theorem dX11_within_16 : decode cX11_within 16 = .ok (.dup, 1) := by decide +kernel
theorem dX11_within_17 : decode cX11_within 17 = .ok (.ldc 143, 2) := by decide +kernel
theorem dX11_within_19 : decode cX11_within 19 = .ok (.invokespecial 145, 3) := by decide +kernel
theorem dX11_within_22 : decode cX11_within 22 = .ok (.athrow, 1) := by decide +kernel
theorem dX11_within_23 : decode cX11_within 23 = .ok (.aload_n 0, 1) := by decide +kernel
theorem dX11_within_24 : decode cX11_within 24 = .ok (.iload_n 1, 1) := by decide +kernel
theorem dX11_within_25 : decode cX11_within 25 = .ok (.invokevirtual 242, 3) := by decide +kernel
theorem dX11_within_28 : decode cX11_within 28 = .ok (.astore_n 3, 1) := by decide +kernel
theorem dX11_within_29 : decode cX11_within 29 = .ok (.iload_n 2, 1) := by decide +kernel
theorem dX11_within_30 : decode cX11_within 30 = .ok (.lookupswitch 36 #[(0, 26), (1, 31)], 26) := by decide +kernel
theorem dX11_within_56 : decode cX11_within 56 = .ok (.aload_n 3, 1) := by decide +kernel
theorem dX11_within_57 : decode cX11_within 57 = .ok (.getfield 246, 3) := by decide +kernel
theorem dX11_within_60 : decode cX11_within 60 = .ok (.ireturn, 1) := by decide +kernel
theorem dX11_within_61 : decode cX11_within 61 = .ok (.aload_n 3, 1) := by decide +kernel
theorem dX11_within_62 : decode cX11_within 62 = .ok (.getfield 247, 3) := by decide +kernel
theorem dX11_within_65 : decode cX11_within 65 = .ok (.ireturn, 1) := by decide +kernel
theorem dX11_within_66 : decode cX11_within 66 = .ok (.aload_n 3, 1) := by decide +kernel
theorem dX11_within_67 : decode cX11_within 67 = .ok (.getfield 250, 3) := by decide +kernel
theorem dX11_within_70 : decode cX11_within 70 = .ok (.ireturn, 1) := by decide +kernel
theorem dX2_build_0 : decode cX2_build 0 = .ok (.aload_n 0, 1) := by decide +kernel
theorem dX2_build_1 : decode cX2_build 1 = .ok (.getfield 15, 3) := by decide +kernel
theorem dX2_build_4 : decode cX2_build 4 = .ok (.lconst 0, 1) := by decide +kernel
theorem dX2_build_5 : decode cX2_build 5 = .ok (.invokestatic 23, 3) := by decide +kernel
theorem dX2_build_8 : decode cX2_build 8 = .ok (.aload_n 0, 1) := by decide +kernel
theorem dX2_build_9 : decode cX2_build 9 = .ok (.iconst 0, 1) := by decide +kernel
theorem dX2_build_10 : decode cX2_build 10 = .ok (.putfield 29, 3) := by decide +kernel
theorem dX2_build_13 : decode cX2_build 13 = .ok (.aload_n 0, 1) := by decide +kernel
theorem dX2_build_14 : decode cX2_build 14 = .ok (.iconst 0, 1) := by decide +kernel
theorem dX2_build_15 : decode cX2_build 15 = .ok (.putfield 32, 3) := by decide +kernel
theorem dX2_build_18 : decode cX2_build 18 = .ok (.aload_n 0, 1) := by decide +kernel
theorem dX2_build_19 : decode cX2_build 19 = .ok (.iconst (-1), 1) := by decide +kernel
theorem dX2_build_20 : decode cX2_build 20 = .ok (.putfield 35, 3) := by decide +kernel
theorem dX2_build_23 : decode cX2_build 23 = .ok (.iconst 0, 1) := by decide +kernel
theorem dX2_build_24 : decode cX2_build 24 = .ok (.istore_n 2, 1) := by decide +kernel
theorem dX2_build_25 : decode cX2_build 25 = .ok (.iload_n 2, 1) := by decide +kernel
theorem dX2_build_26 : decode cX2_build 26 = .ok (.aload_n 1, 1) := by decide +kernel
theorem dX2_build_27 : decode cX2_build 27 = .ok (.getfield 38, 3) := by decide +kernel
theorem dX2_build_30 : decode cX2_build 30 = .ok (.if_icmp .ge 37, 3) := by decide +kernel
theorem dX2_build_67 : decode cX2_build 67 = .ok (.aload_n 0, 1) := by decide +kernel
theorem dX2_build_68 : decode cX2_build 68 = .ok (.invokevirtual 61, 3) := by decide +kernel
theorem dX2_build_71 : decode cX2_build 71 = .ok (.aload_n 0, 1) := by decide +kernel
theorem dX2_build_72 : decode cX2_build 72 = .ok (.iconst 1, 1) := by decide +kernel
theorem dX2_build_73 : decode cX2_build 73 = .ok (.putfield 64, 3) := by decide +kernel
theorem dX2_build_76 : decode cX2_build 76 = .ok (.return_, 1) := by decide +kernel
theorem dX2_goRounds_0 : decode cX2_goRounds 0 = .ok (.iconst 0, 1) := by decide +kernel
theorem dX2_goRounds_1 : decode cX2_goRounds 1 = .ok (.istore_n 1, 1) := by decide +kernel
theorem dX2_goRounds_2 : decode cX2_goRounds 2 = .ok (.iconst 1, 1) := by decide +kernel
theorem dX2_goRounds_3 : decode cX2_goRounds 3 = .ok (.istore_n 2, 1) := by decide +kernel
theorem dX2_goRounds_4 : decode cX2_goRounds 4 = .ok (.iload_n 2, 1) := by decide +kernel
theorem dX2_goRounds_5 : decode cX2_goRounds 5 = .ok (.sipush 729, 3) := by decide +kernel
theorem dX2_goRounds_8 : decode cX2_goRounds 8 = .ok (.if_icmp .gt 138, 3) := by decide +kernel
theorem dX2_goRounds_11 : decode cX2_goRounds 11 = .ok (.aload_n 0, 1) := by decide +kernel
theorem dX2_goRounds_12 : decode cX2_goRounds 12 = .ok (.getfield 29, 3) := by decide +kernel
theorem dX2_goRounds_15 : decode cX2_goRounds 15 = .ok (.istore_n 3, 1) := by decide +kernel
theorem dX2_goRounds_16 : decode cX2_goRounds 16 = .ok (.iload_n 1, 1) := by decide +kernel
theorem dX2_goRounds_17 : decode cX2_goRounds 17 = .ok (.istore 4, 2) := by decide +kernel
theorem dX2_goRounds_19 : decode cX2_goRounds 19 = .ok (.iload 4, 2) := by decide +kernel
theorem dX2_goRounds_21 : decode cX2_goRounds 21 = .ok (.iload_n 3, 1) := by decide +kernel
theorem dX2_goRounds_22 : decode cX2_goRounds 22 = .ok (.if_icmp .ge 80, 3) := by decide +kernel
theorem dX2_goRounds_102 : decode cX2_goRounds 102 = .ok (.aload_n 0, 1) := by decide +kernel
theorem dX2_goRounds_103 : decode cX2_goRounds 103 = .ok (.getfield 29, 3) := by decide +kernel
theorem dX2_goRounds_106 : decode cX2_goRounds 106 = .ok (.iload_n 3, 1) := by decide +kernel
theorem dX2_goRounds_107 : decode cX2_goRounds 107 = .ok (.if_icmp .ne 4, 3) := by decide +kernel
theorem dX2_goRounds_110 : decode cX2_goRounds 110 = .ok (.return_, 1) := by decide +kernel
theorem dX2_isThere_0 : decode cX2_isThere 0 = .ok (.aload_n 0, 1) := by decide +kernel
theorem dX2_isThere_1 : decode cX2_isThere 1 = .ok (.getfield 15, 3) := by decide +kernel
theorem dX2_isThere_4 : decode cX2_isThere 4 = .ok (.iload_n 1, 1) := by decide +kernel
theorem dX2_isThere_5 : decode cX2_isThere 5 = .ok (.bipush 63, 2) := by decide +kernel
theorem dX2_isThere_7 : decode cX2_isThere 7 = .ok (.iand, 1) := by decide +kernel
theorem dX2_isThere_8 : decode cX2_isThere 8 = .ok (.laload, 1) := by decide +kernel
theorem dX2_isThere_9 : decode cX2_isThere 9 = .ok (.iload_n 2, 1) := by decide +kernel
theorem dX2_isThere_10 : decode cX2_isThere 10 = .ok (.lushr, 1) := by decide +kernel
theorem dX2_isThere_11 : decode cX2_isThere 11 = .ok (.lconst 1, 1) := by decide +kernel
theorem dX2_isThere_12 : decode cX2_isThere 12 = .ok (.land, 1) := by decide +kernel
theorem dX2_isThere_13 : decode cX2_isThere 13 = .ok (.lconst 0, 1) := by decide +kernel
theorem dX2_isThere_14 : decode cX2_isThere 14 = .ok (.lcmp, 1) := by decide +kernel
theorem dX2_isThere_15 : decode cX2_isThere 15 = .ok (.ifCond .eq 7, 3) := by decide +kernel
theorem dX2_isThere_22 : decode cX2_isThere 22 = .ok (.iconst 0, 1) := by decide +kernel
theorem dX2_isThere_23 : decode cX2_isThere 23 = .ok (.ireturn, 1) := by decide +kernel
theorem dX4_fewestMoves_0 : decode cX4_fewestMoves 0 = .ok (.aload_n 0, 1) := by decide +kernel
theorem dX4_fewestMoves_1 : decode cX4_fewestMoves 1 = .ok (.getfield 9, 3) := by decide +kernel
theorem dX4_fewestMoves_4 : decode cX4_fewestMoves 4 = .ok (.iconst (-1), 1) := by decide +kernel
theorem dX4_fewestMoves_5 : decode cX4_fewestMoves 5 = .ok (.if_icmp .ne 5, 3) := by decide +kernel
theorem dX4_fewestMoves_8 : decode cX4_fewestMoves 8 = .ok (.iconst (-1), 1) := by decide +kernel
theorem dX4_fewestMoves_9 : decode cX4_fewestMoves 9 = .ok (.ireturn, 1) := by decide +kernel
theorem dX7_byteAt_0 : decode cX7_byteAt 0 = .ok (.iload_n 1, 1) := by decide +kernel
theorem dX7_byteAt_1 : decode cX7_byteAt 1 = .ok (.ifCond .lt 29, 3) := by decide +kernel
theorem dX7_byteAt_4 : decode cX7_byteAt 4 = .ok (.iload_n 1, 1) := by decide +kernel
theorem dX7_byteAt_5 : decode cX7_byteAt 5 = .ok (.aload_n 0, 1) := by decide +kernel
theorem dX7_byteAt_6 : decode cX7_byteAt 6 = .ok (.getfield 15, 3) := by decide +kernel
theorem dX7_byteAt_9 : decode cX7_byteAt 9 = .ok (.if_icmp .ge 21, 3) := by decide +kernel
theorem dX7_byteAt_30 : decode cX7_byteAt 30 = .ok (.iconst (-1), 1) := by decide +kernel
theorem dX7_byteAt_31 : decode cX7_byteAt 31 = .ok (.ireturn, 1) := by decide +kernel
