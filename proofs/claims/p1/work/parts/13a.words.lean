theorem u_143 : Cond.initialized "java/lang/IllegalArgumentException" ∈ UU := uu_mem 143 (by decide +kernel) (by decide +kernel)
theorem u_145 : Cond.initialized "java/util/NoSuchElementException" ∈ UU := uu_mem 145 (by decide +kernel) (by decide +kernel)
theorem u_147 : Cond.initialized RX10 ∈ UU := uu_mem 147 (by decide +kernel) (by decide +kernel)
theorem u_176 : Cond.fieldLink RX10 18 "PlaneProof$Book" "axioms" "I" ∈ UU := uu_mem 176 (by decide +kernel) (by decide +kernel)
theorem u_301 : Cond.code yX0_modelsWithout cX0_modelsWithout 5 (some .long) ∈ UU := uu_mem 301 (by decide +kernel) (by decide +kernel)
theorem u_302 : Cond.constantLong RX0 22 (-1) ∈ UU := uu_mem 302 (by decide +kernel) (by decide +kernel)
theorem u_305 : Cond.code yJ13_bitCount_95d88 cJ13_bitCount_95d88 2 (some .int) ∈ UU := uu_mem 305 (by decide +kernel) (by decide +kernel)
theorem u_306 : Cond.constantLong RJ13 314 (6148914691236517205) ∈ UU := uu_mem 306 (by decide +kernel) (by decide +kernel)
theorem u_307 : Cond.constantLong RJ13 316 (3689348814741910323) ∈ UU := uu_mem 307 (by decide +kernel) (by decide +kernel)
theorem u_308 : Cond.constantLong RJ13 318 (1085102592571150095) ∈ UU := uu_mem 308 (by decide +kernel) (by decide +kernel)
theorem u_336 : Cond.code yX2_init cX2_init 2 none ∈ UU := uu_mem 336 (by decide +kernel) (by decide +kernel)
theorem u_337 : Cond.methodLink RX2 3 Lib.objectInit ∈ UU := uu_mem 337 (by decide +kernel) (by decide +kernel)
theorem u_338 : Cond.fieldLink RX2 9 "PlaneProof$Closure" "width" "I" ∈ UU := uu_mem 338 (by decide +kernel) (by decide +kernel)
theorem u_339 : Cond.fieldLink RX2 15 "PlaneProof$Closure" "there" "[J" ∈ UU := uu_mem 339 (by decide +kernel) (by decide +kernel)
theorem u_340 : Cond.fieldLink RX2 19 "PlaneProof$Closure" "found" "[I" ∈ UU := uu_mem 340 (by decide +kernel) (by decide +kernel)
theorem u_364 : Cond.arrayClass .long ∈ UU := uu_mem 364 (by decide +kernel) (by decide +kernel)
theorem u_371 : Cond.code yJ7_fill_d0a16 cJ7_fill_d0a16 5 none ∈ UU := uu_mem 371 (by decide +kernel) (by decide +kernel)
theorem u_439 : Cond.code yX0_leastCore cX0_leastCore 1 (some .int) ∈ UU := uu_mem 439 (by decide +kernel) (by decide +kernel)
theorem u_440 : Cond.methodLink RX0 30 yX0_lesserCore ∈ UU := uu_mem 440 (by decide +kernel) (by decide +kernel)
theorem u_441 : Cond.static yX0_lesserCore ∈ UU := uu_mem 441 (by decide +kernel) (by decide +kernel)
theorem u_442 : Cond.code yX0_lesserCore cX0_lesserCore 9 (some .int) ∈ UU := uu_mem 442 (by decide +kernel) (by decide +kernel)
theorem u_461 : Cond.code yX0_planeCount cX0_planeCount 3 (some .int) ∈ UU := uu_mem 461 (by decide +kernel) (by decide +kernel)
theorem u_465 : Cond.code yX0_madeBy cX0_madeBy 4 (some .int) ∈ UU := uu_mem 465 (by decide +kernel) (by decide +kernel)
theorem u_469 : Cond.code yX0_unusedSteps cX0_unusedSteps 3 (some .int) ∈ UU := uu_mem 469 (by decide +kernel) (by decide +kernel)
theorem u_977 : Cond.classLink RX11 84 "java/lang/IllegalArgumentException" ∈ UU := uu_mem 977 (by decide +kernel) (by decide +kernel)
theorem u_1099 : Cond.classLink RX11 141 "java/util/NoSuchElementException" ∈ UU := uu_mem 1099 (by decide +kernel) (by decide +kernel)
theorem u_1239 : Cond.code yX11_units cX11_units 5 (some .int) ∈ UU := uu_mem 1239 (by decide +kernel) (by decide +kernel)
theorem u_1240 : Cond.methodLink RX11 218 yX11_checkSets ∈ UU := uu_mem 1240 (by decide +kernel) (by decide +kernel)
theorem u_1241 : Cond.static yX11_checkSets ∈ UU := uu_mem 1241 (by decide +kernel) (by decide +kernel)
theorem u_1242 : Cond.code yX11_checkSets cX11_checkSets 2 none ∈ UU := uu_mem 1242 (by decide +kernel) (by decide +kernel)
theorem u_1244 : Cond.classLink RX11 222 RX10 ∈ UU := uu_mem 1244 (by decide +kernel) (by decide +kernel)
theorem u_1245 : Cond.instantiable RX10 3 ∈ UU := uu_mem 1245 (by decide +kernel) (by decide +kernel)
theorem u_1246 : Cond.methodLink RX11 224 yX10_init ∈ UU := uu_mem 1246 (by decide +kernel) (by decide +kernel)
theorem u_1247 : Cond.instanceMethod yX10_init ∈ UU := uu_mem 1247 (by decide +kernel) (by decide +kernel)
theorem u_1248 : Cond.code yX10_init cX10_init 3 none ∈ UU := uu_mem 1248 (by decide +kernel) (by decide +kernel)
theorem u_1249 : Cond.methodLink RX10 3 Lib.objectInit ∈ UU := uu_mem 1249 (by decide +kernel) (by decide +kernel)
theorem u_1250 : Cond.fieldLink RX10 9 "PlaneProof$Units" "ones" "I" ∈ UU := uu_mem 1250 (by decide +kernel) (by decide +kernel)
theorem u_1251 : Cond.fieldLink RX11 230 "PlaneProof$Units" "ones" "I" ∈ UU := uu_mem 1251 (by decide +kernel) (by decide +kernel)
theorem u_1252 : Cond.fieldLink RX10 15 "PlaneProof$Units" "noughts" "I" ∈ UU := uu_mem 1252 (by decide +kernel) (by decide +kernel)
theorem u_1253 : Cond.fieldLink RX11 233 "PlaneProof$Units" "noughts" "I" ∈ UU := uu_mem 1253 (by decide +kernel) (by decide +kernel)
theorem u_1254 : Cond.fieldLink RX10 23 "PlaneProof$Units" "clash" "Z" ∈ UU := uu_mem 1254 (by decide +kernel) (by decide +kernel)
theorem u_1255 : Cond.fieldLink RX11 236 "PlaneProof$Units" "clash" "Z" ∈ UU := uu_mem 1255 (by decide +kernel) (by decide +kernel)
theorem u_1263 : Cond.methodLink RX11 226 yX10_spread ∈ UU := uu_mem 1263 (by decide +kernel) (by decide +kernel)
theorem u_1264 : Cond.instanceMethod yX10_spread ∈ UU := uu_mem 1264 (by decide +kernel) (by decide +kernel)
theorem u_1265 : Cond.selects RX10 yX10_spread yX10_spread ∈ UU := uu_mem 1265 (by decide +kernel) (by decide +kernel)
theorem u_1266 : Cond.code yX10_spread cX10_spread 5 none ∈ UU := uu_mem 1266 (by decide +kernel) (by decide +kernel)
theorem u_1289 : Cond.code yX11_checkWidth cX11_checkWidth 1 none ∈ UU := uu_mem 1289 (by decide +kernel) (by decide +kernel)
theorem df_X10 : ∀ j, j < 3 → defaultValue (tyX10 j) = vp_V [.int 0, .int 0, .int 0] j := by decide +kernel
theorem m_X0_lesserCore : mS yX0_lesserCore cX0_lesserCore 9 (some .int) 5 := ⟨u_442, u_441, u_124, ⟨by decide, by decide, by decide +kernel⟩⟩
theorem m_X10_init : mI yX10_init cX10_init 3 2 := ⟨u_1248, u_1247, u_147, rfl, ⟨by decide, by decide, by decide +kernel⟩⟩
theorem m_X10_spread : mV yX10_spread cX10_spread 5 none 1 := ⟨u_1266, u_1264, u_1265, u_147, ⟨by decide, by decide, by decide +kernel⟩⟩
theorem m_X11_checkSets : mS yX11_checkSets cX11_checkSets 2 none 2 := ⟨u_1242, u_1241, u_123, ⟨by decide, by decide, by decide +kernel⟩⟩
theorem dJ13_bitCount_95d88_0 : decode cJ13_bitCount_95d88 0 = .ok (.lload_n 0, 1) := by decide +kernel
theorem dJ13_bitCount_95d88_1 : decode cJ13_bitCount_95d88 1 = .ok (.lload_n 0, 1) := by decide +kernel
theorem dJ13_bitCount_95d88_2 : decode cJ13_bitCount_95d88 2 = .ok (.iconst 1, 1) := by decide +kernel
theorem dJ13_bitCount_95d88_3 : decode cJ13_bitCount_95d88 3 = .ok (.lushr, 1) := by decide +kernel
theorem dJ13_bitCount_95d88_4 : decode cJ13_bitCount_95d88 4 = .ok (.ldc2_w 314, 3) := by decide +kernel
theorem dJ13_bitCount_95d88_7 : decode cJ13_bitCount_95d88 7 = .ok (.land, 1) := by decide +kernel
theorem dJ13_bitCount_95d88_8 : decode cJ13_bitCount_95d88 8 = .ok (.lsub, 1) := by decide +kernel
theorem dJ13_bitCount_95d88_9 : decode cJ13_bitCount_95d88 9 = .ok (.lstore_n 0, 1) := by decide +kernel
theorem dJ13_bitCount_95d88_10 : decode cJ13_bitCount_95d88 10 = .ok (.lload_n 0, 1) := by decide +kernel
theorem dJ13_bitCount_95d88_11 : decode cJ13_bitCount_95d88 11 = .ok (.ldc2_w 316, 3) := by decide +kernel
theorem dJ13_bitCount_95d88_14 : decode cJ13_bitCount_95d88 14 = .ok (.land, 1) := by decide +kernel
theorem dJ13_bitCount_95d88_15 : decode cJ13_bitCount_95d88 15 = .ok (.lload_n 0, 1) := by decide +kernel
theorem dJ13_bitCount_95d88_16 : decode cJ13_bitCount_95d88 16 = .ok (.iconst 2, 1) := by decide +kernel
theorem dJ13_bitCount_95d88_17 : decode cJ13_bitCount_95d88 17 = .ok (.lushr, 1) := by decide +kernel
theorem dJ13_bitCount_95d88_18 : decode cJ13_bitCount_95d88 18 = .ok (.ldc2_w 316, 3) := by decide +kernel
theorem dJ13_bitCount_95d88_21 : decode cJ13_bitCount_95d88 21 = .ok (.land, 1) := by decide +kernel
theorem dJ13_bitCount_95d88_22 : decode cJ13_bitCount_95d88 22 = .ok (.ladd, 1) := by decide +kernel
theorem dJ13_bitCount_95d88_23 : decode cJ13_bitCount_95d88 23 = .ok (.lstore_n 0, 1) := by decide +kernel
theorem dJ13_bitCount_95d88_24 : decode cJ13_bitCount_95d88 24 = .ok (.lload_n 0, 1) := by decide +kernel
theorem dJ13_bitCount_95d88_25 : decode cJ13_bitCount_95d88 25 = .ok (.lload_n 0, 1) := by decide +kernel
theorem dJ13_bitCount_95d88_26 : decode cJ13_bitCount_95d88 26 = .ok (.iconst 4, 1) := by decide +kernel
theorem dJ13_bitCount_95d88_27 : decode cJ13_bitCount_95d88 27 = .ok (.lushr, 1) := by decide +kernel
theorem dJ13_bitCount_95d88_28 : decode cJ13_bitCount_95d88 28 = .ok (.ladd, 1) := by decide +kernel
theorem dJ13_bitCount_95d88_29 : decode cJ13_bitCount_95d88 29 = .ok (.ldc2_w 318, 3) := by decide +kernel
theorem dJ13_bitCount_95d88_32 : decode cJ13_bitCount_95d88 32 = .ok (.land, 1) := by decide +kernel
theorem dJ13_bitCount_95d88_33 : decode cJ13_bitCount_95d88 33 = .ok (.lstore_n 0, 1) := by decide +kernel
theorem dJ13_bitCount_95d88_34 : decode cJ13_bitCount_95d88 34 = .ok (.lload_n 0, 1) := by decide +kernel
theorem dJ13_bitCount_95d88_35 : decode cJ13_bitCount_95d88 35 = .ok (.lload_n 0, 1) := by decide +kernel
theorem dJ13_bitCount_95d88_36 : decode cJ13_bitCount_95d88 36 = .ok (.bipush 8, 2) := by decide +kernel
theorem dJ13_bitCount_95d88_38 : decode cJ13_bitCount_95d88 38 = .ok (.lushr, 1) := by decide +kernel
theorem dJ13_bitCount_95d88_39 : decode cJ13_bitCount_95d88 39 = .ok (.ladd, 1) := by decide +kernel
theorem dJ13_bitCount_95d88_40 : decode cJ13_bitCount_95d88 40 = .ok (.lstore_n 0, 1) := by decide +kernel
theorem dJ13_bitCount_95d88_41 : decode cJ13_bitCount_95d88 41 = .ok (.lload_n 0, 1) := by decide +kernel
theorem dJ13_bitCount_95d88_42 : decode cJ13_bitCount_95d88 42 = .ok (.lload_n 0, 1) := by decide +kernel
theorem dJ13_bitCount_95d88_43 : decode cJ13_bitCount_95d88 43 = .ok (.bipush 16, 2) := by decide +kernel
theorem dJ13_bitCount_95d88_45 : decode cJ13_bitCount_95d88 45 = .ok (.lushr, 1) := by decide +kernel
theorem dJ13_bitCount_95d88_46 : decode cJ13_bitCount_95d88 46 = .ok (.ladd, 1) := by decide +kernel
theorem dJ13_bitCount_95d88_47 : decode cJ13_bitCount_95d88 47 = .ok (.lstore_n 0, 1) := by decide +kernel
theorem dJ13_bitCount_95d88_48 : decode cJ13_bitCount_95d88 48 = .ok (.lload_n 0, 1) := by decide +kernel
theorem dJ13_bitCount_95d88_49 : decode cJ13_bitCount_95d88 49 = .ok (.lload_n 0, 1) := by decide +kernel
theorem dJ13_bitCount_95d88_50 : decode cJ13_bitCount_95d88 50 = .ok (.bipush 32, 2) := by decide +kernel
theorem dJ13_bitCount_95d88_52 : decode cJ13_bitCount_95d88 52 = .ok (.lushr, 1) := by decide +kernel
theorem dJ13_bitCount_95d88_53 : decode cJ13_bitCount_95d88 53 = .ok (.ladd, 1) := by decide +kernel
theorem dJ13_bitCount_95d88_54 : decode cJ13_bitCount_95d88 54 = .ok (.lstore_n 0, 1) := by decide +kernel
theorem dJ13_bitCount_95d88_55 : decode cJ13_bitCount_95d88 55 = .ok (.lload_n 0, 1) := by decide +kernel
theorem dJ13_bitCount_95d88_56 : decode cJ13_bitCount_95d88 56 = .ok (.l2i, 1) := by decide +kernel
theorem dJ13_bitCount_95d88_57 : decode cJ13_bitCount_95d88 57 = .ok (.bipush 127, 2) := by decide +kernel
theorem dJ13_bitCount_95d88_59 : decode cJ13_bitCount_95d88 59 = .ok (.iand, 1) := by decide +kernel
theorem dJ13_bitCount_95d88_60 : decode cJ13_bitCount_95d88 60 = .ok (.ireturn, 1) := by decide +kernel
theorem dJ7_fill_d0a16_0 : decode cJ7_fill_d0a16 0 = .ok (.iconst 0, 1) := by decide +kernel
theorem dJ7_fill_d0a16_1 : decode cJ7_fill_d0a16 1 = .ok (.istore_n 3, 1) := by decide +kernel
theorem dJ7_fill_d0a16_2 : decode cJ7_fill_d0a16 2 = .ok (.aload_n 0, 1) := by decide +kernel
theorem dJ7_fill_d0a16_3 : decode cJ7_fill_d0a16 3 = .ok (.arraylength, 1) := by decide +kernel
theorem dJ7_fill_d0a16_4 : decode cJ7_fill_d0a16 4 = .ok (.istore 4, 2) := by decide +kernel
theorem dJ7_fill_d0a16_6 : decode cJ7_fill_d0a16 6 = .ok (.iload_n 3, 1) := by decide +kernel
theorem dJ7_fill_d0a16_7 : decode cJ7_fill_d0a16 7 = .ok (.iload 4, 2) := by decide +kernel
theorem dJ7_fill_d0a16_9 : decode cJ7_fill_d0a16 9 = .ok (.if_icmp .ge 13, 3) := by decide +kernel
theorem dJ7_fill_d0a16_12 : decode cJ7_fill_d0a16 12 = .ok (.aload_n 0, 1) := by decide +kernel
theorem dJ7_fill_d0a16_13 : decode cJ7_fill_d0a16 13 = .ok (.iload_n 3, 1) := by decide +kernel
theorem dJ7_fill_d0a16_14 : decode cJ7_fill_d0a16 14 = .ok (.lload_n 1, 1) := by decide +kernel
theorem dJ7_fill_d0a16_15 : decode cJ7_fill_d0a16 15 = .ok (.lastore, 1) := by decide +kernel
theorem dJ7_fill_d0a16_16 : decode cJ7_fill_d0a16 16 = .ok (.iinc 3 1, 3) := by decide +kernel
theorem dJ7_fill_d0a16_19 : decode cJ7_fill_d0a16 19 = .ok (.goto (-13), 3) := by decide +kernel
theorem dJ7_fill_d0a16_22 : decode cJ7_fill_d0a16 22 = .ok (.return_, 1) := by decide +kernel
theorem dX0_leastCore_0 : decode cX0_leastCore 0 = .ok (.aload_n 0, 1) := by decide +kernel
theorem dX0_leastCore_1 : decode cX0_leastCore 1 = .ok (.aload_n 0, 1) := by decide +kernel
theorem dX0_leastCore_2 : decode cX0_leastCore 2 = .ok (.getfield 15, 3) := by decide +kernel
theorem dX0_leastCore_5 : decode cX0_leastCore 5 = .ok (.iconst 0, 1) := by decide +kernel
theorem dX0_leastCore_6 : decode cX0_leastCore 6 = .ok (.ldc2_w 22, 3) := by decide +kernel
theorem dX0_leastCore_9 : decode cX0_leastCore 9 = .ok (.iconst (-1), 1) := by decide +kernel
theorem dX0_leastCore_10 : decode cX0_leastCore 10 = .ok (.invokestatic 30, 3) := by decide +kernel
theorem dX0_leastCore_13 : decode cX0_leastCore 13 = .ok (.ireturn, 1) := by decide +kernel
theorem dX0_lesserCore_0 : decode cX0_lesserCore 0 = .ok (.iload 5, 2) := by decide +kernel
theorem dX0_lesserCore_2 : decode cX0_lesserCore 2 = .ok (.iconst (-1), 1) := by decide +kernel
theorem dX0_lesserCore_3 : decode cX0_lesserCore 3 = .ok (.if_icmp .eq 18, 3) := by decide +kernel
theorem dX0_lesserCore_21 : decode cX0_lesserCore 21 = .ok (.lload_n 3, 1) := by decide +kernel
theorem dX0_lesserCore_22 : decode cX0_lesserCore 22 = .ok (.lconst 0, 1) := by decide +kernel
theorem dX0_lesserCore_23 : decode cX0_lesserCore 23 = .ok (.lcmp, 1) := by decide +kernel
theorem dX0_lesserCore_24 : decode cX0_lesserCore 24 = .ok (.ifCond .ne 5, 3) := by decide +kernel
theorem dX0_lesserCore_29 : decode cX0_lesserCore 29 = .ok (.iload_n 1, 1) := by decide +kernel
theorem dX0_lesserCore_30 : decode cX0_lesserCore 30 = .ok (.ifCond .le 15, 3) := by decide +kernel
theorem dX0_lesserCore_45 : decode cX0_lesserCore 45 = .ok (.iload 5, 2) := by decide +kernel
theorem dX0_lesserCore_47 : decode cX0_lesserCore 47 = .ok (.ireturn, 1) := by decide +kernel
theorem dX0_madeBy_0 : decode cX0_madeBy 0 = .ok (.iconst 0, 1) := by decide +kernel
theorem dX0_madeBy_1 : decode cX0_madeBy 1 = .ok (.istore_n 2, 1) := by decide +kernel
theorem dX0_madeBy_2 : decode cX0_madeBy 2 = .ok (.iconst 0, 1) := by decide +kernel
theorem dX0_madeBy_3 : decode cX0_madeBy 3 = .ok (.istore_n 3, 1) := by decide +kernel
theorem dX0_madeBy_4 : decode cX0_madeBy 4 = .ok (.iload_n 3, 1) := by decide +kernel
theorem dX0_madeBy_5 : decode cX0_madeBy 5 = .ok (.aload_n 0, 1) := by decide +kernel
theorem dX0_madeBy_6 : decode cX0_madeBy 6 = .ok (.getfield 19, 3) := by decide +kernel
theorem dX0_madeBy_9 : decode cX0_madeBy 9 = .ok (.if_icmp .ge 25, 3) := by decide +kernel
theorem dX0_madeBy_34 : decode cX0_madeBy 34 = .ok (.iload_n 2, 1) := by decide +kernel
theorem dX0_madeBy_35 : decode cX0_madeBy 35 = .ok (.ireturn, 1) := by decide +kernel
theorem dX0_modelsWithout_0 : decode cX0_modelsWithout 0 = .ok (.ldc2_w 22, 3) := by decide +kernel
theorem dX0_modelsWithout_3 : decode cX0_modelsWithout 3 = .ok (.lstore_n 2, 1) := by decide +kernel
theorem dX0_modelsWithout_4 : decode cX0_modelsWithout 4 = .ok (.iconst 0, 1) := by decide +kernel
theorem dX0_modelsWithout_5 : decode cX0_modelsWithout 5 = .ok (.istore 4, 2) := by decide +kernel
theorem dX0_modelsWithout_7 : decode cX0_modelsWithout 7 = .ok (.iload 4, 2) := by decide +kernel
theorem dX0_modelsWithout_9 : decode cX0_modelsWithout 9 = .ok (.aload_n 0, 1) := by decide +kernel
theorem dX0_modelsWithout_10 : decode cX0_modelsWithout 10 = .ok (.getfield 15, 3) := by decide +kernel
theorem dX0_modelsWithout_13 : decode cX0_modelsWithout 13 = .ok (.if_icmp .ge 28, 3) := by decide +kernel
theorem dX0_modelsWithout_41 : decode cX0_modelsWithout 41 = .ok (.lload_n 2, 1) := by decide +kernel
theorem dX0_modelsWithout_42 : decode cX0_modelsWithout 42 = .ok (.lreturn, 1) := by decide +kernel
theorem dX0_planeCount_0 : decode cX0_planeCount 0 = .ok (.iconst 0, 1) := by decide +kernel
theorem dX0_planeCount_1 : decode cX0_planeCount 1 = .ok (.istore_n 1, 1) := by decide +kernel
theorem dX0_planeCount_2 : decode cX0_planeCount 2 = .ok (.iconst 0, 1) := by decide +kernel
theorem dX0_planeCount_3 : decode cX0_planeCount 3 = .ok (.istore_n 2, 1) := by decide +kernel
theorem dX0_planeCount_4 : decode cX0_planeCount 4 = .ok (.iload_n 2, 1) := by decide +kernel
theorem dX0_planeCount_5 : decode cX0_planeCount 5 = .ok (.aload_n 0, 1) := by decide +kernel
theorem dX0_planeCount_6 : decode cX0_planeCount 6 = .ok (.getfield 19, 3) := by decide +kernel
theorem dX0_planeCount_9 : decode cX0_planeCount 9 = .ok (.if_icmp .ge 24, 3) := by decide +kernel
theorem dX0_planeCount_33 : decode cX0_planeCount 33 = .ok (.iload_n 1, 1) := by decide +kernel
theorem dX0_planeCount_34 : decode cX0_planeCount 34 = .ok (.ireturn, 1) := by decide +kernel
theorem dX0_unusedSteps_0 : decode cX0_unusedSteps 0 = .ok (.iconst 0, 1) := by decide +kernel
theorem dX0_unusedSteps_1 : decode cX0_unusedSteps 1 = .ok (.istore_n 1, 1) := by decide +kernel
theorem dX0_unusedSteps_2 : decode cX0_unusedSteps 2 = .ok (.aload_n 0, 1) := by decide +kernel
theorem dX0_unusedSteps_3 : decode cX0_unusedSteps 3 = .ok (.getfield 15, 3) := by decide +kernel
theorem dX0_unusedSteps_6 : decode cX0_unusedSteps 6 = .ok (.istore_n 2, 1) := by decide +kernel
theorem dX0_unusedSteps_7 : decode cX0_unusedSteps 7 = .ok (.iload_n 2, 1) := by decide +kernel
theorem dX0_unusedSteps_8 : decode cX0_unusedSteps 8 = .ok (.aload_n 0, 1) := by decide +kernel
theorem dX0_unusedSteps_9 : decode cX0_unusedSteps 9 = .ok (.getfield 19, 3) := by decide +kernel
theorem dX0_unusedSteps_12 : decode cX0_unusedSteps 12 = .ok (.if_icmp .ge 20, 3) := by decide +kernel
theorem dX0_unusedSteps_32 : decode cX0_unusedSteps 32 = .ok (.iload_n 1, 1) := by decide +kernel
theorem dX0_unusedSteps_33 : decode cX0_unusedSteps 33 = .ok (.ireturn, 1) := by decide +kernel
theorem dX10_init_0 : decode cX10_init 0 = .ok (.aload_n 0, 1) := by decide +kernel
theorem dX10_init_1 : decode cX10_init 1 = .ok (.invokespecial 3, 3) := by decide +kernel
theorem dX10_init_4 : decode cX10_init 4 = .ok (.aload_n 0, 1) := by decide +kernel
theorem dX10_init_5 : decode cX10_init 5 = .ok (.iload_n 1, 1) := by decide +kernel
theorem dX10_init_6 : decode cX10_init 6 = .ok (.putfield 9, 3) := by decide +kernel
theorem dX10_init_9 : decode cX10_init 9 = .ok (.aload_n 0, 1) := by decide +kernel
theorem dX10_init_10 : decode cX10_init 10 = .ok (.iload_n 2, 1) := by decide +kernel
theorem dX10_init_11 : decode cX10_init 11 = .ok (.putfield 15, 3) := by decide +kernel
theorem dX10_init_14 : decode cX10_init 14 = .ok (.return_, 1) := by decide +kernel
theorem dX10_spread_0 : decode cX10_spread 0 = .ok (.iconst 0, 1) := by decide +kernel
theorem dX10_spread_1 : decode cX10_spread 1 = .ok (.istore_n 2, 1) := by decide +kernel
theorem dX10_spread_2 : decode cX10_spread 2 = .ok (.iload_n 2, 1) := by decide +kernel
theorem dX10_spread_3 : decode cX10_spread 3 = .ok (.bipush 6, 2) := by decide +kernel
theorem dX10_spread_5 : decode cX10_spread 5 = .ok (.if_icmp .gt 76, 3) := by decide +kernel
theorem dX10_spread_8 : decode cX10_spread 8 = .ok (.aload_n 0, 1) := by decide +kernel
theorem dX10_spread_9 : decode cX10_spread 9 = .ok (.getfield 9, 3) := by decide +kernel
theorem dX10_spread_12 : decode cX10_spread 12 = .ok (.aload_n 0, 1) := by decide +kernel
theorem dX10_spread_13 : decode cX10_spread 13 = .ok (.getfield 15, 3) := by decide +kernel
theorem dX10_spread_16 : decode cX10_spread 16 = .ok (.ior, 1) := by decide +kernel
theorem dX10_spread_17 : decode cX10_spread 17 = .ok (.istore_n 3, 1) := by decide +kernel
theorem dX10_spread_18 : decode cX10_spread 18 = .ok (.iconst 0, 1) := by decide +kernel
theorem dX10_spread_19 : decode cX10_spread 19 = .ok (.istore 4, 2) := by decide +kernel
theorem dX10_spread_21 : decode cX10_spread 21 = .ok (.iload 4, 2) := by decide +kernel
theorem dX10_spread_23 : decode cX10_spread 23 = .ok (.aload_n 1, 1) := by decide +kernel
theorem dX10_spread_24 : decode cX10_spread 24 = .ok (.getfield 18, 3) := by decide +kernel
theorem dX10_spread_27 : decode cX10_spread 27 = .ok (.if_icmp .ge 27, 3) := by decide +kernel
theorem dX10_spread_54 : decode cX10_spread 54 = .ok (.aload_n 0, 1) := by decide +kernel
theorem dX10_spread_55 : decode cX10_spread 55 = .ok (.getfield 23, 3) := by decide +kernel
theorem dX10_spread_58 : decode cX10_spread 58 = .ok (.ifCond .ne 16, 3) := by decide +kernel
theorem dX10_spread_61 : decode cX10_spread 61 = .ok (.aload_n 0, 1) := by decide +kernel
theorem dX10_spread_62 : decode cX10_spread 62 = .ok (.getfield 9, 3) := by decide +kernel
theorem dX10_spread_65 : decode cX10_spread 65 = .ok (.aload_n 0, 1) := by decide +kernel
theorem dX10_spread_66 : decode cX10_spread 66 = .ok (.getfield 15, 3) := by decide +kernel
theorem dX10_spread_69 : decode cX10_spread 69 = .ok (.ior, 1) := by decide +kernel
theorem dX10_spread_70 : decode cX10_spread 70 = .ok (.iload_n 3, 1) := by decide +kernel
theorem dX10_spread_71 : decode cX10_spread 71 = .ok (.if_icmp .ne 4, 3) := by decide +kernel
theorem dX10_spread_74 : decode cX10_spread 74 = .ok (.return_, 1) := by decide +kernel
theorem dX11_checkSets_0 : decode cX11_checkSets 0 = .ok (.iload_n 0, 1) := by decide +kernel
theorem dX11_checkSets_1 : decode cX11_checkSets 1 = .ok (.iload_n 1, 1) := by decide +kernel
theorem dX11_checkSets_2 : decode cX11_checkSets 2 = .ok (.ior, 1) := by decide +kernel
theorem dX11_checkSets_3 : decode cX11_checkSets 3 = .ok (.bipush (-64), 2) := by decide +kernel
theorem dX11_checkSets_5 : decode cX11_checkSets 5 = .ok (.iand, 1) := by decide +kernel
theorem dX11_checkSets_6 : decode cX11_checkSets 6 = .ok (.ifCond .ne 9, 3) := by decide +kernel
theorem dX11_checkSets_9 : decode cX11_checkSets 9 = .ok (.iload_n 0, 1) := by decide +kernel
theorem dX11_checkSets_10 : decode cX11_checkSets 10 = .ok (.iload_n 1, 1) := by decide +kernel
theorem dX11_checkSets_11 : decode cX11_checkSets 11 = .ok (.iand, 1) := by decide +kernel
theorem dX11_checkSets_12 : decode cX11_checkSets 12 = .ok (.ifCond .eq 14, 3) := by decide +kernel
theorem dX11_checkSets_15 : decode cX11_checkSets 15 = .ok (.new 84, 3) := by decide +kernel
theorem dX11_checkSets_18 : decode cX11_checkSets 18 = .ok (.dup, 1) := by decide +kernel
theorem dX11_checkSets_19 : decode cX11_checkSets 19 = .ok (.ldc_w 329, 3) := by decide +kernel
theorem dX11_checkSets_22 : decode cX11_checkSets 22 = .ok (.invokespecial 88, 3) := by decide +kernel
theorem dX11_checkSets_25 : decode cX11_checkSets 25 = .ok (.athrow, 1) := by decide +kernel
theorem dX11_checkSets_26 : decode cX11_checkSets 26 = .ok (.return_, 1) := by decide +kernel
theorem dX11_checkWidth_0 : decode cX11_checkWidth 0 = .ok (.iload_n 0, 1) := by decide +kernel
theorem dX11_checkWidth_1 : decode cX11_checkWidth 1 = .ok (.ifCond .lt 9, 3) := by decide +kernel
theorem dX11_checkWidth_4 : decode cX11_checkWidth 4 = .ok (.iload_n 0, 1) := by decide +kernel
theorem dX11_checkWidth_5 : decode cX11_checkWidth 5 = .ok (.bipush 6, 2) := by decide +kernel
theorem dX11_checkWidth_7 : decode cX11_checkWidth 7 = .ok (.if_icmp .le 14, 3) := by decide +kernel
theorem dX11_checkWidth_10 : decode cX11_checkWidth 10 = .ok (.new 84, 3) := by decide +kernel
theorem dX11_checkWidth_13 : decode cX11_checkWidth 13 = .ok (.dup, 1) := by decide +kernel
theorem dX11_checkWidth_14 : decode cX11_checkWidth 14 = .ok (.ldc_w 331, 3) := by decide +kernel
theorem dX11_checkWidth_17 : decode cX11_checkWidth 17 = .ok (.invokespecial 88, 3) := by decide +kernel
theorem dX11_checkWidth_20 : decode cX11_checkWidth 20 = .ok (.athrow, 1) := by decide +kernel
theorem dX11_checkWidth_21 : decode cX11_checkWidth 21 = .ok (.return_, 1) := by decide +kernel
theorem dX11_units_0 : decode cX11_units 0 = .ok (.iload_n 1, 1) := by decide +kernel
theorem dX11_units_1 : decode cX11_units 1 = .ok (.iload_n 2, 1) := by decide +kernel
theorem dX11_units_2 : decode cX11_units 2 = .ok (.invokestatic 218, 3) := by decide +kernel
theorem dX11_units_5 : decode cX11_units 5 = .ok (.iload_n 3, 1) := by decide +kernel
theorem dX11_units_6 : decode cX11_units 6 = .ok (.ifCond .lt 8, 3) := by decide +kernel
theorem dX11_units_9 : decode cX11_units 9 = .ok (.iload_n 3, 1) := by decide +kernel
theorem dX11_units_10 : decode cX11_units 10 = .ok (.iconst 2, 1) := by decide +kernel
theorem dX11_units_11 : decode cX11_units 11 = .ok (.if_icmp .le 13, 3) := by decide +kernel
theorem dX11_units_14 : decode cX11_units 14 = .ok (.new 141, 3) := by decide +kernel
theorem dX11_units_17 : decode cX11_units 17 = .ok (.dup, 1) := by decide +kernel
theorem dX11_units_18 : decode cX11_units 18 = .ok (.ldc 143, 2) := by decide +kernel
theorem dX11_units_20 : decode cX11_units 20 = .ok (.invokespecial 145, 3) := by decide +kernel
theorem dX11_units_23 : decode cX11_units 23 = .ok (.athrow, 1) := by decide +kernel
theorem dX11_units_24 : decode cX11_units 24 = .ok (.new 222, 3) := by decide +kernel
theorem dX11_units_27 : decode cX11_units 27 = .ok (.dup, 1) := by decide +kernel
theorem dX11_units_28 : decode cX11_units 28 = .ok (.iload_n 1, 1) := by decide +kernel
theorem dX11_units_29 : decode cX11_units 29 = .ok (.iload_n 2, 1) := by decide +kernel
theorem dX11_units_30 : decode cX11_units 30 = .ok (.invokespecial 224, 3) := by decide +kernel
theorem dX11_units_33 : decode cX11_units 33 = .ok (.astore 4, 2) := by decide +kernel
theorem dX11_units_35 : decode cX11_units 35 = .ok (.aload 4, 2) := by decide +kernel
theorem dX11_units_37 : decode cX11_units 37 = .ok (.aload_n 0, 1) := by decide +kernel
theorem dX11_units_38 : decode cX11_units 38 = .ok (.getfield 27, 3) := by decide +kernel
theorem dX11_units_41 : decode cX11_units 41 = .ok (.invokevirtual 226, 3) := by decide +kernel
theorem dX11_units_44 : decode cX11_units 44 = .ok (.iload_n 3, 1) := by decide +kernel
theorem dX11_units_45 : decode cX11_units 45 = .ok (.lookupswitch 39 #[(0, 27), (1, 33)], 27) := by decide +kernel
theorem dX11_units_72 : decode cX11_units 72 = .ok (.aload 4, 2) := by decide +kernel
theorem dX11_units_74 : decode cX11_units 74 = .ok (.getfield 230, 3) := by decide +kernel
theorem dX11_units_77 : decode cX11_units 77 = .ok (.ireturn, 1) := by decide +kernel
theorem dX11_units_78 : decode cX11_units 78 = .ok (.aload 4, 2) := by decide +kernel
theorem dX11_units_80 : decode cX11_units 80 = .ok (.getfield 233, 3) := by decide +kernel
theorem dX11_units_83 : decode cX11_units 83 = .ok (.ireturn, 1) := by decide +kernel
theorem dX11_units_84 : decode cX11_units 84 = .ok (.aload 4, 2) := by decide +kernel
theorem dX11_units_86 : decode cX11_units 86 = .ok (.getfield 236, 3) := by decide +kernel
theorem dX11_units_89 : decode cX11_units 89 = .ok (.ifCond .eq 7, 3) := by decide +kernel
theorem dX11_units_96 : decode cX11_units 96 = .ok (.iconst 0, 1) := by decide +kernel
theorem dX11_units_97 : decode cX11_units 97 = .ok (.ireturn, 1) := by decide +kernel
theorem dX2_init_0 : decode cX2_init 0 = .ok (.aload_n 0, 1) := by decide +kernel
theorem dX2_init_1 : decode cX2_init 1 = .ok (.invokespecial 3, 3) := by decide +kernel
theorem dX2_init_4 : decode cX2_init 4 = .ok (.aload_n 0, 1) := by decide +kernel
theorem dX2_init_5 : decode cX2_init 5 = .ok (.iload_n 1, 1) := by decide +kernel
theorem dX2_init_6 : decode cX2_init 6 = .ok (.putfield 9, 3) := by decide +kernel
theorem dX2_init_9 : decode cX2_init 9 = .ok (.aload_n 0, 1) := by decide +kernel
theorem dX2_init_10 : decode cX2_init 10 = .ok (.bipush 64, 2) := by decide +kernel
theorem dX2_init_12 : decode cX2_init 12 = .ok (.newarray .long, 2) := by decide +kernel
theorem dX2_init_14 : decode cX2_init 14 = .ok (.putfield 15, 3) := by decide +kernel
theorem dX2_init_17 : decode cX2_init 17 = .ok (.aload_n 0, 1) := by decide +kernel
theorem dX2_init_18 : decode cX2_init 18 = .ok (.sipush 729, 3) := by decide +kernel
theorem dX2_init_21 : decode cX2_init 21 = .ok (.newarray .int, 2) := by decide +kernel
theorem dX2_init_23 : decode cX2_init 23 = .ok (.putfield 19, 3) := by decide +kernel
theorem dX2_init_26 : decode cX2_init 26 = .ok (.return_, 1) := by decide +kernel
