theorem u_9 : Cond.selects RX8 yX8_kindAt yX8_kindAt ∈ UU := uu_mem 9 (by decide +kernel) (by decide +kernel)
theorem u_33 : Cond.selects RX11 yX11_forgetAnswers yX11_forgetAnswers ∈ UU := uu_mem 33 (by decide +kernel) (by decide +kernel)
theorem u_129 : Cond.initialized RX9 ∈ UU := uu_mem 129 (by decide +kernel) (by decide +kernel)
theorem u_130 : Cond.initialized RX1 ∈ UU := uu_mem 130 (by decide +kernel) (by decide +kernel)
theorem u_131 : Cond.initialized RX8 ∈ UU := uu_mem 131 (by decide +kernel) (by decide +kernel)
theorem u_137 : Cond.initialized RX6 ∈ UU := uu_mem 137 (by decide +kernel) (by decide +kernel)
theorem u_173 : Cond.fieldLink RX6 9 "PlaneProof$Book" "axioms" "I" ∈ UU := uu_mem 173 (by decide +kernel) (by decide +kernel)
theorem u_196 : Cond.fieldLink RX4 19 "PlaneProof$Graph" "nodes" "I" ∈ UU := uu_mem 196 (by decide +kernel) (by decide +kernel)
theorem u_197 : Cond.fieldLink RX11 257 "PlaneProof$Graph" "nodes" "I" ∈ UU := uu_mem 197 (by decide +kernel) (by decide +kernel)
theorem u_199 : Cond.fieldLink RX11 260 "PlaneProof$Graph" "sources" "I" ∈ UU := uu_mem 199 (by decide +kernel) (by decide +kernel)
theorem u_202 : Cond.fieldLink RX11 263 "PlaneProof$Graph" "sink" "I" ∈ UU := uu_mem 202 (by decide +kernel) (by decide +kernel)
theorem u_297 : Cond.code yX11_model cX11_model 6 (some .int) ∈ UU := uu_mem 297 (by decide +kernel) (by decide +kernel)
theorem u_416 : Cond.instanceMethod yX4_isNode ∈ UU := uu_mem 416 (by decide +kernel) (by decide +kernel)
theorem u_417 : Cond.selects RX4 yX4_isNode yX4_isNode ∈ UU := uu_mem 417 (by decide +kernel) (by decide +kernel)
theorem u_418 : Cond.code yX4_isNode cX4_isNode 2 (some .boolean) ∈ UU := uu_mem 418 (by decide +kernel) (by decide +kernel)
theorem u_485 : Cond.code yX11_claim cX11_claim 3 (some .int) ∈ UU := uu_mem 485 (by decide +kernel) (by decide +kernel)
theorem u_486 : Cond.classLink RX11 67 RX1 ∈ UU := uu_mem 486 (by decide +kernel) (by decide +kernel)
theorem u_487 : Cond.instantiable RX1 5 ∈ UU := uu_mem 487 (by decide +kernel) (by decide +kernel)
theorem u_488 : Cond.classLink RX11 69 RX8 ∈ UU := uu_mem 488 (by decide +kernel) (by decide +kernel)
theorem u_489 : Cond.instantiable RX8 6 ∈ UU := uu_mem 489 (by decide +kernel) (by decide +kernel)
theorem u_490 : Cond.methodLink RX11 71 yX8_init ∈ UU := uu_mem 490 (by decide +kernel) (by decide +kernel)
theorem u_491 : Cond.instanceMethod yX8_init ∈ UU := uu_mem 491 (by decide +kernel) (by decide +kernel)
theorem u_492 : Cond.code yX8_init cX8_init 3 none ∈ UU := uu_mem 492 (by decide +kernel) (by decide +kernel)
theorem u_493 : Cond.methodLink RX8 3 Lib.objectInit ∈ UU := uu_mem 493 (by decide +kernel) (by decide +kernel)
theorem u_494 : Cond.fieldLink RX8 9 "PlaneProof$Signs" "text" "[B" ∈ UU := uu_mem 494 (by decide +kernel) (by decide +kernel)
theorem u_495 : Cond.fieldLink RX8 15 "PlaneProof$Signs" "size" "I" ∈ UU := uu_mem 495 (by decide +kernel) (by decide +kernel)
theorem u_496 : Cond.fieldLink RX8 19 "PlaneProof$Signs" "start" "I" ∈ UU := uu_mem 496 (by decide +kernel) (by decide +kernel)
theorem u_498 : Cond.fieldLink RX8 22 "PlaneProof$Signs" "stop" "I" ∈ UU := uu_mem 498 (by decide +kernel) (by decide +kernel)
theorem u_499 : Cond.fieldLink RX8 25 "PlaneProof$Signs" "kind" "I" ∈ UU := uu_mem 499 (by decide +kernel) (by decide +kernel)
theorem u_500 : Cond.fieldLink RX8 28 "PlaneProof$Signs" "value" "I" ∈ UU := uu_mem 500 (by decide +kernel) (by decide +kernel)
theorem u_516 : Cond.methodLink RX11 74 yX1_init ∈ UU := uu_mem 516 (by decide +kernel) (by decide +kernel)
theorem u_517 : Cond.instanceMethod yX1_init ∈ UU := uu_mem 517 (by decide +kernel) (by decide +kernel)
theorem u_518 : Cond.code yX1_init cX1_init 2 none ∈ UU := uu_mem 518 (by decide +kernel) (by decide +kernel)
theorem u_519 : Cond.methodLink RX1 3 yX9_init ∈ UU := uu_mem 519 (by decide +kernel) (by decide +kernel)
theorem u_520 : Cond.instanceMethod yX9_init ∈ UU := uu_mem 520 (by decide +kernel) (by decide +kernel)
theorem u_521 : Cond.code yX9_init cX9_init 2 none ∈ UU := uu_mem 521 (by decide +kernel) (by decide +kernel)
theorem u_522 : Cond.methodLink RX9 3 Lib.objectInit ∈ UU := uu_mem 522 (by decide +kernel) (by decide +kernel)
theorem u_523 : Cond.classLink RX9 15 RX5 ∈ UU := uu_mem 523 (by decide +kernel) (by decide +kernel)
theorem u_524 : Cond.classLink RX1 9 RX4 ∈ UU := uu_mem 524 (by decide +kernel) (by decide +kernel)
theorem u_525 : Cond.methodLink RX1 11 yX4_init ∈ UU := uu_mem 525 (by decide +kernel) (by decide +kernel)
theorem u_526 : Cond.fieldLink RX1 14 "PlaneProof$ClaimReader" "graph" "LPlaneProof$Graph;" ∈ UU := uu_mem 526 (by decide +kernel) (by decide +kernel)
theorem u_527 : Cond.fieldLink RX11 98 "PlaneProof$ClaimReader" "graph" "LPlaneProof$Graph;" ∈ UU := uu_mem 527 (by decide +kernel) (by decide +kernel)
theorem u_528 : Cond.fieldLink RX9 9 "PlaneProof$TextReader" "signs" "LPlaneProof$Signs;" ∈ UU := uu_mem 528 (by decide +kernel) (by decide +kernel)
theorem u_533 : Cond.fieldLink RX9 17 "PlaneProof$TextReader" "lines" "[LPlaneProof$Line;" ∈ UU := uu_mem 533 (by decide +kernel) (by decide +kernel)
theorem u_535 : Cond.sameField "PlaneProof$ProofReader" "PlaneProof$TextReader" "lines" "[LPlaneProof$Line;" ∈ UU := uu_mem 535 (by decide +kernel) (by decide +kernel)
theorem u_536 : Cond.fieldLink RX11 91 "PlaneProof$ClaimReader" "lines" "[LPlaneProof$Line;" ∈ UU := uu_mem 536 (by decide +kernel) (by decide +kernel)
theorem u_537 : Cond.sameField "PlaneProof$ClaimReader" "PlaneProof$TextReader" "lines" "[LPlaneProof$Line;" ∈ UU := uu_mem 537 (by decide +kernel) (by decide +kernel)
theorem u_538 : Cond.fieldLink RX11 114 "PlaneProof$ProofReader" "lines" "[LPlaneProof$Line;" ∈ UU := uu_mem 538 (by decide +kernel) (by decide +kernel)
theorem u_539 : Cond.fieldLink RX9 21 "PlaneProof$TextReader" "size" "I" ∈ UU := uu_mem 539 (by decide +kernel) (by decide +kernel)
theorem u_540 : Cond.fieldLink RX6 22 "PlaneProof$ProofReader" "size" "I" ∈ UU := uu_mem 540 (by decide +kernel) (by decide +kernel)
theorem u_541 : Cond.sameField "PlaneProof$ProofReader" "PlaneProof$TextReader" "size" "I" ∈ UU := uu_mem 541 (by decide +kernel) (by decide +kernel)
theorem u_542 : Cond.fieldLink RX11 95 "PlaneProof$ClaimReader" "size" "I" ∈ UU := uu_mem 542 (by decide +kernel) (by decide +kernel)
theorem u_543 : Cond.sameField "PlaneProof$ClaimReader" "PlaneProof$TextReader" "size" "I" ∈ UU := uu_mem 543 (by decide +kernel) (by decide +kernel)
theorem u_544 : Cond.fieldLink RX11 115 "PlaneProof$ProofReader" "size" "I" ∈ UU := uu_mem 544 (by decide +kernel) (by decide +kernel)
theorem u_545 : Cond.fieldLink RX9 25 "PlaneProof$TextReader" "faultAt" "I" ∈ UU := uu_mem 545 (by decide +kernel) (by decide +kernel)
theorem u_546 : Cond.fieldLink RX11 81 "PlaneProof$ClaimReader" "faultAt" "I" ∈ UU := uu_mem 546 (by decide +kernel) (by decide +kernel)
theorem u_547 : Cond.sameField "PlaneProof$ClaimReader" "PlaneProof$TextReader" "faultAt" "I" ∈ UU := uu_mem 547 (by decide +kernel) (by decide +kernel)
theorem u_548 : Cond.fieldLink RX11 111 "PlaneProof$ProofReader" "faultAt" "I" ∈ UU := uu_mem 548 (by decide +kernel) (by decide +kernel)
theorem u_549 : Cond.sameField "PlaneProof$ProofReader" "PlaneProof$TextReader" "faultAt" "I" ∈ UU := uu_mem 549 (by decide +kernel) (by decide +kernel)
theorem u_561 : Cond.methodLink RX11 77 ⟨RX1, "readText", "(I)Z"⟩ ∈ UU := uu_mem 561 (by decide +kernel) (by decide +kernel)
theorem u_562 : Cond.sameMethod "PlaneProof$ClaimReader" "PlaneProof$TextReader" "readText" "(I)Z" ∈ UU := uu_mem 562 (by decide +kernel) (by decide +kernel)
theorem u_564 : Cond.selects RX1 ⟨RX1, "readText", "(I)Z"⟩ yX9_readText ∈ UU := uu_mem 564 (by decide +kernel) (by decide +kernel)
theorem u_565 : Cond.instanceMethod yX9_readText ∈ UU := uu_mem 565 (by decide +kernel) (by decide +kernel)
theorem u_566 : Cond.code yX9_readText cX9_readText 5 (some .boolean) ∈ UU := uu_mem 566 (by decide +kernel) (by decide +kernel)
theorem u_567 : Cond.methodLink RX9 28 yX8_advance ∈ UU := uu_mem 567 (by decide +kernel) (by decide +kernel)
theorem u_568 : Cond.instanceMethod yX8_advance ∈ UU := uu_mem 568 (by decide +kernel) (by decide +kernel)
theorem u_569 : Cond.selects RX8 yX8_advance yX8_advance ∈ UU := uu_mem 569 (by decide +kernel) (by decide +kernel)
theorem u_570 : Cond.code yX8_advance cX8_advance 1 none ∈ UU := uu_mem 570 (by decide +kernel) (by decide +kernel)
theorem u_571 : Cond.methodLink RX8 31 yX8_kindAt ∈ UU := uu_mem 571 (by decide +kernel) (by decide +kernel)
theorem u_573 : Cond.instanceMethod yX8_kindAt ∈ UU := uu_mem 573 (by decide +kernel) (by decide +kernel)
theorem u_574 : Cond.code yX8_kindAt cX8_kindAt 3 (some .int) ∈ UU := uu_mem 574 (by decide +kernel) (by decide +kernel)
theorem u_579 : Cond.methodLink RX9 33 yX8_isEnd ∈ UU := uu_mem 579 (by decide +kernel) (by decide +kernel)
theorem u_580 : Cond.instanceMethod yX8_isEnd ∈ UU := uu_mem 580 (by decide +kernel) (by decide +kernel)
theorem u_581 : Cond.selects RX8 yX8_isEnd yX8_isEnd ∈ UU := uu_mem 581 (by decide +kernel) (by decide +kernel)
theorem u_582 : Cond.code yX8_isEnd cX8_isEnd 1 (some .boolean) ∈ UU := uu_mem 582 (by decide +kernel) (by decide +kernel)
theorem u_846 : Cond.instantiable RX6 4 ∈ UU := uu_mem 846 (by decide +kernel) (by decide +kernel)
theorem u_1045 : Cond.methodLink RX11 99 yX11_forgetAnswers ∈ UU := uu_mem 1045 (by decide +kernel) (by decide +kernel)
theorem u_1047 : Cond.instanceMethod yX11_forgetAnswers ∈ UU := uu_mem 1047 (by decide +kernel) (by decide +kernel)
theorem u_1048 : Cond.code yX11_forgetAnswers cX11_forgetAnswers 2 none ∈ UU := uu_mem 1048 (by decide +kernel) (by decide +kernel)
theorem u_1055 : Cond.code yX11_proof cX11_proof 3 (some .int) ∈ UU := uu_mem 1055 (by decide +kernel) (by decide +kernel)
theorem u_1056 : Cond.classLink RX11 105 RX6 ∈ UU := uu_mem 1056 (by decide +kernel) (by decide +kernel)
theorem u_1057 : Cond.methodLink RX11 107 yX6_init ∈ UU := uu_mem 1057 (by decide +kernel) (by decide +kernel)
theorem u_1058 : Cond.instanceMethod yX6_init ∈ UU := uu_mem 1058 (by decide +kernel) (by decide +kernel)
theorem u_1059 : Cond.code yX6_init cX6_init 4 none ∈ UU := uu_mem 1059 (by decide +kernel) (by decide +kernel)
theorem u_1060 : Cond.methodLink RX6 3 yX9_init ∈ UU := uu_mem 1060 (by decide +kernel) (by decide +kernel)
theorem u_1066 : Cond.methodLink RX11 110 ⟨RX6, "readText", "(I)Z"⟩ ∈ UU := uu_mem 1066 (by decide +kernel) (by decide +kernel)
theorem u_1067 : Cond.sameMethod "PlaneProof$ProofReader" "PlaneProof$TextReader" "readText" "(I)Z" ∈ UU := uu_mem 1067 (by decide +kernel) (by decide +kernel)
theorem u_1068 : Cond.selects RX6 ⟨RX6, "readText", "(I)Z"⟩ yX9_readText ∈ UU := uu_mem 1068 (by decide +kernel) (by decide +kernel)
theorem u_1305 : Cond.code yX11_node cX11_node 3 (some .int) ∈ UU := uu_mem 1305 (by decide +kernel) (by decide +kernel)
theorem u_1306 : Cond.methodLink RX11 266 yX4_isNode ∈ UU := uu_mem 1306 (by decide +kernel) (by decide +kernel)
theorem df_X1 : ∀ j, j < 5 → defaultValue (tyX1 j) = vp_V [.null, .null, .int 0, .int 0, .null] j := by decide +kernel
theorem df_X6 : ∀ j, j < 4 → defaultValue (tyX6 j) = vp_V [.null, .null, .int 0, .int 0] j := by decide +kernel
theorem df_X8 : ∀ j, j < 6 → defaultValue (tyX8 j) = vp_V [.null, .int 0, .int 0, .int 0, .int 0, .int 0] j := by decide +kernel
theorem m_X11_forgetAnswers : mV yX11_forgetAnswers cX11_forgetAnswers 2 none 0 := ⟨u_1048, u_1047, u_33, u_123, ⟨by decide, by decide, by decide +kernel⟩⟩
theorem m_X1_init : mI yX1_init cX1_init 2 1 := ⟨u_518, u_517, u_130, rfl, ⟨by decide, by decide, by decide +kernel⟩⟩
theorem m_X4_isNode : mV yX4_isNode cX4_isNode 2 (some .boolean) 1 := ⟨u_418, u_416, u_417, u_125, ⟨by decide, by decide, by decide +kernel⟩⟩
theorem m_X6_init : mI yX6_init cX6_init 4 2 := ⟨u_1059, u_1058, u_137, rfl, ⟨by decide, by decide, by decide +kernel⟩⟩
theorem m_X8_advance : mV yX8_advance cX8_advance 1 none 0 := ⟨u_570, u_568, u_569, u_131, ⟨by decide, by decide, by decide +kernel⟩⟩
theorem m_X8_init : mI yX8_init cX8_init 3 2 := ⟨u_492, u_491, u_131, rfl, ⟨by decide, by decide, by decide +kernel⟩⟩
theorem m_X8_isEnd : mV yX8_isEnd cX8_isEnd 1 (some .boolean) 0 := ⟨u_582, u_580, u_581, u_131, ⟨by decide, by decide, by decide +kernel⟩⟩
theorem m_X8_kindAt : mV yX8_kindAt cX8_kindAt 3 (some .int) 1 := ⟨u_574, u_573, u_9, u_131, ⟨by decide, by decide, by decide +kernel⟩⟩
theorem m_X9_init : mI yX9_init cX9_init 2 1 := ⟨u_521, u_520, u_129, rfl, ⟨by decide, by decide, by decide +kernel⟩⟩
theorem mu_X9_readText_RX1 : mU RX1 ⟨RX1, "readText", "(I)Z"⟩ yX9_readText cX9_readText 5 (some .boolean) 1 := ⟨u_566, u_562, u_564, u_565, u_129, rfl, ⟨by decide, by decide, by decide +kernel⟩⟩
theorem mu_X9_readText_RX6 : mU RX6 ⟨RX6, "readText", "(I)Z"⟩ yX9_readText cX9_readText 5 (some .boolean) 1 := ⟨u_566, u_1067, u_1068, u_565, u_129, rfl, ⟨by decide, by decide, by decide +kernel⟩⟩
theorem dX11_claim_0 : decode cX11_claim 0 = .ok (.new 67, 3) := by decide +kernel
theorem dX11_claim_3 : decode cX11_claim 3 = .ok (.dup, 1) := by decide +kernel
theorem dX11_claim_4 : decode cX11_claim 4 = .ok (.new 69, 3) := by decide +kernel
theorem dX11_claim_7 : decode cX11_claim 7 = .ok (.dup, 1) := by decide +kernel
theorem dX11_claim_8 : decode cX11_claim 8 = .ok (.aload_n 0, 1) := by decide +kernel
theorem dX11_claim_9 : decode cX11_claim 9 = .ok (.getfield 9, 3) := by decide +kernel
theorem dX11_claim_12 : decode cX11_claim 12 = .ok (.aload_n 0, 1) := by decide +kernel
theorem dX11_claim_13 : decode cX11_claim 13 = .ok (.getfield 13, 3) := by decide +kernel
theorem dX11_claim_16 : decode cX11_claim 16 = .ok (.invokespecial 71, 3) := by decide +kernel
theorem dX11_claim_19 : decode cX11_claim 19 = .ok (.invokespecial 74, 3) := by decide +kernel
theorem dX11_claim_22 : decode cX11_claim 22 = .ok (.astore_n 1, 1) := by decide +kernel
theorem dX11_claim_23 : decode cX11_claim 23 = .ok (.aload_n 0, 1) := by decide +kernel
theorem dX11_claim_24 : decode cX11_claim 24 = .ok (.iconst 0, 1) := by decide +kernel
theorem dX11_claim_25 : decode cX11_claim 25 = .ok (.putfield 13, 3) := by decide +kernel
theorem dX11_claim_28 : decode cX11_claim 28 = .ok (.aload_n 1, 1) := by decide +kernel
theorem dX11_claim_29 : decode cX11_claim 29 = .ok (.bipush 16, 2) := by decide +kernel
theorem dX11_claim_31 : decode cX11_claim 31 = .ok (.invokevirtual 77, 3) := by decide +kernel
theorem dX11_claim_34 : decode cX11_claim 34 = .ok (.istore_n 2, 1) := by decide +kernel
theorem dX11_claim_35 : decode cX11_claim 35 = .ok (.aload_n 0, 1) := by decide +kernel
theorem dX11_claim_36 : decode cX11_claim 36 = .ok (.aload_n 1, 1) := by decide +kernel
theorem dX11_claim_37 : decode cX11_claim 37 = .ok (.getfield 81, 3) := by decide +kernel
theorem dX11_claim_40 : decode cX11_claim 40 = .ok (.putfield 17, 3) := by decide +kernel
theorem dX11_claim_43 : decode cX11_claim 43 = .ok (.iload_n 2, 1) := by decide +kernel
theorem dX11_claim_44 : decode cX11_claim 44 = .ok (.ifCond .ne 13, 3) := by decide +kernel
theorem dX11_claim_57 : decode cX11_claim 57 = .ok (.aload_n 0, 1) := by decide +kernel
theorem dX11_claim_58 : decode cX11_claim 58 = .ok (.new 20, 3) := by decide +kernel
theorem dX11_claim_61 : decode cX11_claim 61 = .ok (.dup, 1) := by decide +kernel
theorem dX11_claim_62 : decode cX11_claim 62 = .ok (.aload_n 1, 1) := by decide +kernel
theorem dX11_claim_63 : decode cX11_claim 63 = .ok (.getfield 91, 3) := by decide +kernel
theorem dX11_claim_66 : decode cX11_claim 66 = .ok (.aload_n 1, 1) := by decide +kernel
theorem dX11_claim_67 : decode cX11_claim 67 = .ok (.getfield 95, 3) := by decide +kernel
theorem dX11_claim_70 : decode cX11_claim 70 = .ok (.aload_n 1, 1) := by decide +kernel
theorem dX11_claim_71 : decode cX11_claim 71 = .ok (.getfield 95, 3) := by decide +kernel
theorem dX11_claim_74 : decode cX11_claim 74 = .ok (.invokespecial 24, 3) := by decide +kernel
theorem dX11_claim_77 : decode cX11_claim 77 = .ok (.putfield 27, 3) := by decide +kernel
theorem dX11_claim_80 : decode cX11_claim 80 = .ok (.aload_n 0, 1) := by decide +kernel
theorem dX11_claim_81 : decode cX11_claim 81 = .ok (.aload_n 1, 1) := by decide +kernel
theorem dX11_claim_82 : decode cX11_claim 82 = .ok (.getfield 98, 3) := by decide +kernel
theorem dX11_claim_85 : decode cX11_claim 85 = .ok (.putfield 34, 3) := by decide +kernel
theorem dX11_claim_88 : decode cX11_claim 88 = .ok (.aload_n 0, 1) := by decide +kernel
theorem dX11_claim_89 : decode cX11_claim 89 = .ok (.invokevirtual 99, 3) := by decide +kernel
theorem dX11_claim_92 : decode cX11_claim 92 = .ok (.aload_n 0, 1) := by decide +kernel
theorem dX11_claim_93 : decode cX11_claim 93 = .ok (.getfield 27, 3) := by decide +kernel
theorem dX11_claim_96 : decode cX11_claim 96 = .ok (.getfield 102, 3) := by decide +kernel
theorem dX11_claim_99 : decode cX11_claim 99 = .ok (.ireturn, 1) := by decide +kernel
theorem dX11_forgetAnswers_0 : decode cX11_forgetAnswers 0 = .ok (.aload_n 0, 1) := by decide +kernel
theorem dX11_forgetAnswers_1 : decode cX11_forgetAnswers 1 = .ok (.bipush (-2), 2) := by decide +kernel
theorem dX11_forgetAnswers_3 : decode cX11_forgetAnswers 3 = .ok (.putfield 44, 3) := by decide +kernel
theorem dX11_forgetAnswers_6 : decode cX11_forgetAnswers 6 = .ok (.iconst 0, 1) := by decide +kernel
theorem dX11_forgetAnswers_7 : decode cX11_forgetAnswers 7 = .ok (.istore_n 1, 1) := by decide +kernel
theorem dX11_forgetAnswers_8 : decode cX11_forgetAnswers 8 = .ok (.iload_n 1, 1) := by decide +kernel
theorem dX11_forgetAnswers_9 : decode cX11_forgetAnswers 9 = .ok (.bipush 6, 2) := by decide +kernel
theorem dX11_forgetAnswers_11 : decode cX11_forgetAnswers 11 = .ok (.if_icmp .gt 28, 3) := by decide +kernel
theorem dX11_forgetAnswers_14 : decode cX11_forgetAnswers 14 = .ok (.aload_n 0, 1) := by decide +kernel
theorem dX11_forgetAnswers_15 : decode cX11_forgetAnswers 15 = .ok (.getfield 40, 3) := by decide +kernel
theorem dX11_forgetAnswers_18 : decode cX11_forgetAnswers 18 = .ok (.iload_n 1, 1) := by decide +kernel
theorem dX11_forgetAnswers_19 : decode cX11_forgetAnswers 19 = .ok (.aaload, 1) := by decide +kernel
theorem dX11_forgetAnswers_20 : decode cX11_forgetAnswers 20 = .ok (.ifnull 13, 3) := by decide +kernel
theorem dX11_forgetAnswers_33 : decode cX11_forgetAnswers 33 = .ok (.iinc 1 1, 3) := by decide +kernel
theorem dX11_forgetAnswers_36 : decode cX11_forgetAnswers 36 = .ok (.goto (-28), 3) := by decide +kernel
theorem dX11_forgetAnswers_39 : decode cX11_forgetAnswers 39 = .ok (.return_, 1) := by decide +kernel
theorem dX11_model_0 : decode cX11_model 0 = .ok (.aload_n 0, 1) := by decide +kernel
theorem dX11_model_1 : decode cX11_model 1 = .ok (.getfield 27, 3) := by decide +kernel
theorem dX11_model_4 : decode cX11_model 4 = .ok (.iconst (-1), 1) := by decide +kernel
theorem dX11_model_5 : decode cX11_model 5 = .ok (.invokevirtual 183, 3) := by decide +kernel
theorem dX11_model_8 : decode cX11_model 8 = .ok (.lstore_n 2, 1) := by decide +kernel
theorem dX11_model_9 : decode cX11_model 9 = .ok (.iload_n 1, 1) := by decide +kernel
theorem dX11_model_10 : decode cX11_model 10 = .ok (.iconst (-1), 1) := by decide +kernel
theorem dX11_model_11 : decode cX11_model 11 = .ok (.if_icmp .ne 8, 3) := by decide +kernel
theorem dX11_model_14 : decode cX11_model 14 = .ok (.lload_n 2, 1) := by decide +kernel
theorem dX11_model_15 : decode cX11_model 15 = .ok (.invokestatic 177, 3) := by decide +kernel
theorem dX11_model_18 : decode cX11_model 18 = .ok (.ireturn, 1) := by decide +kernel
theorem dX11_model_19 : decode cX11_model 19 = .ok (.iconst 0, 1) := by decide +kernel
theorem dX11_model_20 : decode cX11_model 20 = .ok (.istore 4, 2) := by decide +kernel
theorem dX11_model_22 : decode cX11_model 22 = .ok (.iconst 0, 1) := by decide +kernel
theorem dX11_model_23 : decode cX11_model 23 = .ok (.istore 5, 2) := by decide +kernel
theorem dX11_model_25 : decode cX11_model 25 = .ok (.iload 5, 2) := by decide +kernel
theorem dX11_model_27 : decode cX11_model 27 = .ok (.bipush 64, 2) := by decide +kernel
theorem dX11_model_29 : decode cX11_model 29 = .ok (.if_icmp .ge 32, 3) := by decide +kernel
theorem dX11_model_32 : decode cX11_model 32 = .ok (.lload_n 2, 1) := by decide +kernel
theorem dX11_model_33 : decode cX11_model 33 = .ok (.iload 5, 2) := by decide +kernel
theorem dX11_model_35 : decode cX11_model 35 = .ok (.lushr, 1) := by decide +kernel
theorem dX11_model_36 : decode cX11_model 36 = .ok (.lconst 1, 1) := by decide +kernel
theorem dX11_model_37 : decode cX11_model 37 = .ok (.land, 1) := by decide +kernel
theorem dX11_model_38 : decode cX11_model 38 = .ok (.lconst 0, 1) := by decide +kernel
theorem dX11_model_39 : decode cX11_model 39 = .ok (.lcmp, 1) := by decide +kernel
theorem dX11_model_40 : decode cX11_model 40 = .ok (.ifCond .eq 15, 3) := by decide +kernel
theorem dX11_model_43 : decode cX11_model 43 = .ok (.iload 4, 2) := by decide +kernel
theorem dX11_model_45 : decode cX11_model 45 = .ok (.iload_n 1, 1) := by decide +kernel
theorem dX11_model_46 : decode cX11_model 46 = .ok (.if_icmp .ne 6, 3) := by decide +kernel
theorem dX11_model_49 : decode cX11_model 49 = .ok (.iload 5, 2) := by decide +kernel
theorem dX11_model_51 : decode cX11_model 51 = .ok (.ireturn, 1) := by decide +kernel
theorem dX11_model_52 : decode cX11_model 52 = .ok (.iinc 4 1, 3) := by decide +kernel
theorem dX11_model_55 : decode cX11_model 55 = .ok (.iinc 5 1, 3) := by decide +kernel
theorem dX11_model_58 : decode cX11_model 58 = .ok (.goto (-33), 3) := by decide +kernel
theorem dX11_model_61 : decode cX11_model 61 = .ok (.iconst (-1), 1) := by decide +kernel
theorem dX11_model_62 : decode cX11_model 62 = .ok (.ireturn, 1) := by decide +kernel
theorem dX11_node_0 : decode cX11_node 0 = .ok (.iload_n 1, 1) := by decide +kernel
theorem dX11_node_1 : decode cX11_node 1 = .ok (.tableswitch 51 0 2 #[27, 35, 43], 27) := by decide +kernel
theorem dX11_node_28 : decode cX11_node 28 = .ok (.aload_n 0, 1) := by decide +kernel
theorem dX11_node_29 : decode cX11_node 29 = .ok (.getfield 34, 3) := by decide +kernel
theorem dX11_node_32 : decode cX11_node 32 = .ok (.getfield 257, 3) := by decide +kernel
theorem dX11_node_35 : decode cX11_node 35 = .ok (.ireturn, 1) := by decide +kernel
theorem dX11_node_36 : decode cX11_node 36 = .ok (.aload_n 0, 1) := by decide +kernel
theorem dX11_node_37 : decode cX11_node 37 = .ok (.getfield 34, 3) := by decide +kernel
theorem dX11_node_40 : decode cX11_node 40 = .ok (.getfield 260, 3) := by decide +kernel
theorem dX11_node_43 : decode cX11_node 43 = .ok (.ireturn, 1) := by decide +kernel
theorem dX11_node_44 : decode cX11_node 44 = .ok (.aload_n 0, 1) := by decide +kernel
theorem dX11_node_45 : decode cX11_node 45 = .ok (.getfield 34, 3) := by decide +kernel
theorem dX11_node_48 : decode cX11_node 48 = .ok (.getfield 263, 3) := by decide +kernel
theorem dX11_node_51 : decode cX11_node 51 = .ok (.ireturn, 1) := by decide +kernel
theorem dX11_node_52 : decode cX11_node 52 = .ok (.iload_n 1, 1) := by decide +kernel
theorem dX11_node_53 : decode cX11_node 53 = .ok (.bipush 10, 2) := by decide +kernel
theorem dX11_node_55 : decode cX11_node 55 = .ok (.isub, 1) := by decide +kernel
theorem dX11_node_56 : decode cX11_node 56 = .ok (.istore_n 2, 1) := by decide +kernel
theorem dX11_node_57 : decode cX11_node 57 = .ok (.iload_n 2, 1) := by decide +kernel
theorem dX11_node_58 : decode cX11_node 58 = .ok (.ifCond .lt 20, 3) := by decide +kernel
theorem dX11_node_61 : decode cX11_node 61 = .ok (.iload_n 2, 1) := by decide +kernel
theorem dX11_node_62 : decode cX11_node 62 = .ok (.bipush 6, 2) := by decide +kernel
theorem dX11_node_64 : decode cX11_node 64 = .ok (.if_icmp .ge 14, 3) := by decide +kernel
theorem dX11_node_67 : decode cX11_node 67 = .ok (.aload_n 0, 1) := by decide +kernel
theorem dX11_node_68 : decode cX11_node 68 = .ok (.getfield 34, 3) := by decide +kernel
theorem dX11_node_71 : decode cX11_node 71 = .ok (.iload_n 2, 1) := by decide +kernel
theorem dX11_node_72 : decode cX11_node 72 = .ok (.invokevirtual 266, 3) := by decide +kernel
theorem dX11_node_75 : decode cX11_node 75 = .ok (.ifCond .ne 14, 3) := by decide +kernel
theorem dX11_node_78 : decode cX11_node 78 = .ok (.new 141, 3) := by decide +kernel
theorem dX11_node_81 : decode cX11_node 81 = .ok (.dup, 1) := by decide +kernel
theorem dX11_node_82 : decode cX11_node 82 = .ok (.ldc_w 269, 3) := by decide +kernel
theorem dX11_node_85 : decode cX11_node 85 = .ok (.invokespecial 145, 3) := by decide +kernel
theorem dX11_node_88 : decode cX11_node 88 = .ok (.athrow, 1) := by decide +kernel
theorem dX11_proof_0 : decode cX11_proof 0 = .ok (.new 105, 3) := by decide +kernel
theorem dX11_proof_3 : decode cX11_proof 3 = .ok (.dup, 1) := by decide +kernel
theorem dX11_proof_4 : decode cX11_proof 4 = .ok (.new 69, 3) := by decide +kernel
theorem dX11_proof_7 : decode cX11_proof 7 = .ok (.dup, 1) := by decide +kernel
theorem dX11_proof_8 : decode cX11_proof 8 = .ok (.aload_n 0, 1) := by decide +kernel
theorem dX11_proof_9 : decode cX11_proof 9 = .ok (.getfield 9, 3) := by decide +kernel
theorem dX11_proof_12 : decode cX11_proof 12 = .ok (.aload_n 0, 1) := by decide +kernel
theorem dX11_proof_13 : decode cX11_proof 13 = .ok (.getfield 13, 3) := by decide +kernel
theorem dX11_proof_16 : decode cX11_proof 16 = .ok (.invokespecial 71, 3) := by decide +kernel
theorem dX11_proof_19 : decode cX11_proof 19 = .ok (.aload_n 0, 1) := by decide +kernel
theorem dX11_proof_20 : decode cX11_proof 20 = .ok (.getfield 27, 3) := by decide +kernel
theorem dX11_proof_23 : decode cX11_proof 23 = .ok (.invokespecial 107, 3) := by decide +kernel
theorem dX11_proof_26 : decode cX11_proof 26 = .ok (.astore_n 1, 1) := by decide +kernel
theorem dX11_proof_27 : decode cX11_proof 27 = .ok (.aload_n 0, 1) := by decide +kernel
theorem dX11_proof_28 : decode cX11_proof 28 = .ok (.iconst 0, 1) := by decide +kernel
theorem dX11_proof_29 : decode cX11_proof 29 = .ok (.putfield 13, 3) := by decide +kernel
theorem dX11_proof_32 : decode cX11_proof 32 = .ok (.aload_n 1, 1) := by decide +kernel
theorem dX11_proof_33 : decode cX11_proof 33 = .ok (.bipush 40, 2) := by decide +kernel
theorem dX11_proof_35 : decode cX11_proof 35 = .ok (.invokevirtual 110, 3) := by decide +kernel
theorem dX11_proof_38 : decode cX11_proof 38 = .ok (.istore_n 2, 1) := by decide +kernel
theorem dX11_proof_39 : decode cX11_proof 39 = .ok (.aload_n 0, 1) := by decide +kernel
theorem dX11_proof_40 : decode cX11_proof 40 = .ok (.aload_n 1, 1) := by decide +kernel
theorem dX11_proof_41 : decode cX11_proof 41 = .ok (.getfield 111, 3) := by decide +kernel
theorem dX11_proof_44 : decode cX11_proof 44 = .ok (.putfield 17, 3) := by decide +kernel
theorem dX11_proof_47 : decode cX11_proof 47 = .ok (.iload_n 2, 1) := by decide +kernel
theorem dX11_proof_48 : decode cX11_proof 48 = .ok (.ifCond .ne 13, 3) := by decide +kernel
theorem dX11_proof_61 : decode cX11_proof 61 = .ok (.aload_n 0, 1) := by decide +kernel
theorem dX11_proof_62 : decode cX11_proof 62 = .ok (.new 20, 3) := by decide +kernel
theorem dX11_proof_65 : decode cX11_proof 65 = .ok (.dup, 1) := by decide +kernel
theorem dX11_proof_66 : decode cX11_proof 66 = .ok (.aload_n 1, 1) := by decide +kernel
theorem dX11_proof_67 : decode cX11_proof 67 = .ok (.getfield 114, 3) := by decide +kernel
theorem dX11_proof_70 : decode cX11_proof 70 = .ok (.aload_n 0, 1) := by decide +kernel
theorem dX11_proof_71 : decode cX11_proof 71 = .ok (.getfield 27, 3) := by decide +kernel
theorem dX11_proof_74 : decode cX11_proof 74 = .ok (.getfield 102, 3) := by decide +kernel
theorem dX11_proof_77 : decode cX11_proof 77 = .ok (.aload_n 1, 1) := by decide +kernel
theorem dX11_proof_78 : decode cX11_proof 78 = .ok (.getfield 115, 3) := by decide +kernel
theorem dX11_proof_81 : decode cX11_proof 81 = .ok (.invokespecial 24, 3) := by decide +kernel
theorem dX11_proof_84 : decode cX11_proof 84 = .ok (.putfield 27, 3) := by decide +kernel
theorem dX11_proof_87 : decode cX11_proof 87 = .ok (.aload_n 0, 1) := by decide +kernel
theorem dX11_proof_88 : decode cX11_proof 88 = .ok (.getfield 27, 3) := by decide +kernel
theorem dX11_proof_91 : decode cX11_proof 91 = .ok (.getfield 116, 3) := by decide +kernel
theorem dX11_proof_94 : decode cX11_proof 94 = .ok (.aload_n 0, 1) := by decide +kernel
theorem dX11_proof_95 : decode cX11_proof 95 = .ok (.getfield 27, 3) := by decide +kernel
theorem dX11_proof_98 : decode cX11_proof 98 = .ok (.getfield 102, 3) := by decide +kernel
theorem dX11_proof_101 : decode cX11_proof 101 = .ok (.isub, 1) := by decide +kernel
theorem dX11_proof_102 : decode cX11_proof 102 = .ok (.ireturn, 1) := by decide +kernel
theorem dX1_init_0 : decode cX1_init 0 = .ok (.aload_n 0, 1) := by decide +kernel
theorem dX1_init_1 : decode cX1_init 1 = .ok (.aload_n 1, 1) := by decide +kernel
theorem dX1_init_2 : decode cX1_init 2 = .ok (.invokespecial 3, 3) := by decide +kernel
theorem dX1_init_5 : decode cX1_init 5 = .ok (.aload_n 0, 1) := by decide +kernel
theorem dX1_init_6 : decode cX1_init 6 = .ok (.new 9, 3) := by decide +kernel
theorem dX1_init_9 : decode cX1_init 9 = .ok (.dup, 1) := by decide +kernel
theorem dX1_init_10 : decode cX1_init 10 = .ok (.invokespecial 11, 3) := by decide +kernel
theorem dX1_init_13 : decode cX1_init 13 = .ok (.putfield 14, 3) := by decide +kernel
theorem dX1_init_16 : decode cX1_init 16 = .ok (.return_, 1) := by decide +kernel
theorem dX4_isNode_0 : decode cX4_isNode 0 = .ok (.aload_n 0, 1) := by decide +kernel
theorem dX4_isNode_1 : decode cX4_isNode 1 = .ok (.getfield 19, 3) := by decide +kernel
theorem dX4_isNode_4 : decode cX4_isNode 4 = .ok (.iload_n 1, 1) := by decide +kernel
theorem dX4_isNode_5 : decode cX4_isNode 5 = .ok (.iushr, 1) := by decide +kernel
theorem dX4_isNode_6 : decode cX4_isNode 6 = .ok (.iconst 1, 1) := by decide +kernel
theorem dX4_isNode_7 : decode cX4_isNode 7 = .ok (.iand, 1) := by decide +kernel
theorem dX4_isNode_8 : decode cX4_isNode 8 = .ok (.ifCond .eq 7, 3) := by decide +kernel
theorem dX4_isNode_15 : decode cX4_isNode 15 = .ok (.iconst 0, 1) := by decide +kernel
theorem dX4_isNode_16 : decode cX4_isNode 16 = .ok (.ireturn, 1) := by decide +kernel
theorem dX6_init_0 : decode cX6_init 0 = .ok (.aload_n 0, 1) := by decide +kernel
theorem dX6_init_1 : decode cX6_init 1 = .ok (.aload_n 1, 1) := by decide +kernel
theorem dX6_init_2 : decode cX6_init 2 = .ok (.invokespecial 3, 3) := by decide +kernel
theorem dX6_init_5 : decode cX6_init 5 = .ok (.iconst 0, 1) := by decide +kernel
theorem dX6_init_6 : decode cX6_init 6 = .ok (.istore_n 3, 1) := by decide +kernel
theorem dX6_init_7 : decode cX6_init 7 = .ok (.iload_n 3, 1) := by decide +kernel
theorem dX6_init_8 : decode cX6_init 8 = .ok (.aload_n 2, 1) := by decide +kernel
theorem dX6_init_9 : decode cX6_init 9 = .ok (.getfield 9, 3) := by decide +kernel
theorem dX6_init_12 : decode cX6_init 12 = .ok (.if_icmp .ge 21, 3) := by decide +kernel
theorem dX6_init_33 : decode cX6_init 33 = .ok (.aload_n 0, 1) := by decide +kernel
theorem dX6_init_34 : decode cX6_init 34 = .ok (.aload_n 2, 1) := by decide +kernel
theorem dX6_init_35 : decode cX6_init 35 = .ok (.getfield 9, 3) := by decide +kernel
theorem dX6_init_38 : decode cX6_init 38 = .ok (.putfield 22, 3) := by decide +kernel
theorem dX6_init_41 : decode cX6_init 41 = .ok (.return_, 1) := by decide +kernel
theorem dX8_advance_0 : decode cX8_advance 0 = .ok (.aload_n 0, 1) := by decide +kernel
theorem dX8_advance_1 : decode cX8_advance 1 = .ok (.aload_n 0, 1) := by decide +kernel
theorem dX8_advance_2 : decode cX8_advance 2 = .ok (.getfield 22, 3) := by decide +kernel
theorem dX8_advance_5 : decode cX8_advance 5 = .ok (.putfield 19, 3) := by decide +kernel
theorem dX8_advance_8 : decode cX8_advance 8 = .ok (.aload_n 0, 1) := by decide +kernel
theorem dX8_advance_9 : decode cX8_advance 9 = .ok (.getfield 19, 3) := by decide +kernel
theorem dX8_advance_12 : decode cX8_advance 12 = .ok (.aload_n 0, 1) := by decide +kernel
theorem dX8_advance_13 : decode cX8_advance 13 = .ok (.getfield 15, 3) := by decide +kernel
theorem dX8_advance_16 : decode cX8_advance 16 = .ok (.if_icmp .ge 28, 3) := by decide +kernel
theorem dX8_advance_44 : decode cX8_advance 44 = .ok (.aload_n 0, 1) := by decide +kernel
theorem dX8_advance_45 : decode cX8_advance 45 = .ok (.aload_n 0, 1) := by decide +kernel
theorem dX8_advance_46 : decode cX8_advance 46 = .ok (.aload_n 0, 1) := by decide +kernel
theorem dX8_advance_47 : decode cX8_advance 47 = .ok (.getfield 19, 3) := by decide +kernel
theorem dX8_advance_50 : decode cX8_advance 50 = .ok (.invokevirtual 31, 3) := by decide +kernel
theorem dX8_advance_53 : decode cX8_advance 53 = .ok (.putfield 25, 3) := by decide +kernel
theorem dX8_advance_56 : decode cX8_advance 56 = .ok (.aload_n 0, 1) := by decide +kernel
theorem dX8_advance_57 : decode cX8_advance 57 = .ok (.aload_n 0, 1) := by decide +kernel
theorem dX8_advance_58 : decode cX8_advance 58 = .ok (.getfield 25, 3) := by decide +kernel
theorem dX8_advance_61 : decode cX8_advance 61 = .ok (.iconst 4, 1) := by decide +kernel
theorem dX8_advance_62 : decode cX8_advance 62 = .ok (.if_icmp .ne 12, 3) := by decide +kernel
theorem dX8_advance_74 : decode cX8_advance 74 = .ok (.aload_n 0, 1) := by decide +kernel
theorem dX8_advance_75 : decode cX8_advance 75 = .ok (.getfield 19, 3) := by decide +kernel
theorem dX8_advance_78 : decode cX8_advance 78 = .ok (.putfield 22, 3) := by decide +kernel
theorem dX8_advance_81 : decode cX8_advance 81 = .ok (.aload_n 0, 1) := by decide +kernel
theorem dX8_advance_82 : decode cX8_advance 82 = .ok (.getfield 22, 3) := by decide +kernel
theorem dX8_advance_85 : decode cX8_advance 85 = .ok (.aload_n 0, 1) := by decide +kernel
theorem dX8_advance_86 : decode cX8_advance 86 = .ok (.getfield 15, 3) := by decide +kernel
theorem dX8_advance_89 : decode cX8_advance 89 = .ok (.if_icmp .ge 39, 3) := by decide +kernel
theorem dX8_advance_128 : decode cX8_advance 128 = .ok (.aload_n 0, 1) := by decide +kernel
theorem dX8_advance_129 : decode cX8_advance 129 = .ok (.aload_n 0, 1) := by decide +kernel
theorem dX8_advance_130 : decode cX8_advance 130 = .ok (.getfield 25, 3) := by decide +kernel
theorem dX8_advance_133 : decode cX8_advance 133 = .ok (.iconst 3, 1) := by decide +kernel
theorem dX8_advance_134 : decode cX8_advance 134 = .ok (.if_icmp .ne 10, 3) := by decide +kernel
theorem dX8_advance_144 : decode cX8_advance 144 = .ok (.iconst (-1), 1) := by decide +kernel
theorem dX8_advance_145 : decode cX8_advance 145 = .ok (.putfield 28, 3) := by decide +kernel
theorem dX8_advance_148 : decode cX8_advance 148 = .ok (.return_, 1) := by decide +kernel
theorem dX8_init_0 : decode cX8_init 0 = .ok (.aload_n 0, 1) := by decide +kernel
theorem dX8_init_1 : decode cX8_init 1 = .ok (.invokespecial 3, 3) := by decide +kernel
theorem dX8_init_4 : decode cX8_init 4 = .ok (.aload_n 0, 1) := by decide +kernel
theorem dX8_init_5 : decode cX8_init 5 = .ok (.aload_n 1, 1) := by decide +kernel
theorem dX8_init_6 : decode cX8_init 6 = .ok (.putfield 9, 3) := by decide +kernel
theorem dX8_init_9 : decode cX8_init 9 = .ok (.aload_n 0, 1) := by decide +kernel
theorem dX8_init_10 : decode cX8_init 10 = .ok (.iload_n 2, 1) := by decide +kernel
theorem dX8_init_11 : decode cX8_init 11 = .ok (.putfield 15, 3) := by decide +kernel
theorem dX8_init_14 : decode cX8_init 14 = .ok (.aload_n 0, 1) := by decide +kernel
theorem dX8_init_15 : decode cX8_init 15 = .ok (.iconst 0, 1) := by decide +kernel
theorem dX8_init_16 : decode cX8_init 16 = .ok (.putfield 19, 3) := by decide +kernel
theorem dX8_init_19 : decode cX8_init 19 = .ok (.aload_n 0, 1) := by decide +kernel
theorem dX8_init_20 : decode cX8_init 20 = .ok (.iconst 0, 1) := by decide +kernel
theorem dX8_init_21 : decode cX8_init 21 = .ok (.putfield 22, 3) := by decide +kernel
theorem dX8_init_24 : decode cX8_init 24 = .ok (.aload_n 0, 1) := by decide +kernel
theorem dX8_init_25 : decode cX8_init 25 = .ok (.iconst 0, 1) := by decide +kernel
theorem dX8_init_26 : decode cX8_init 26 = .ok (.putfield 25, 3) := by decide +kernel
theorem dX8_init_29 : decode cX8_init 29 = .ok (.aload_n 0, 1) := by decide +kernel
theorem dX8_init_30 : decode cX8_init 30 = .ok (.iconst (-1), 1) := by decide +kernel
theorem dX8_init_31 : decode cX8_init 31 = .ok (.putfield 28, 3) := by decide +kernel
theorem dX8_init_34 : decode cX8_init 34 = .ok (.return_, 1) := by decide +kernel
theorem dX8_isEnd_0 : decode cX8_isEnd 0 = .ok (.aload_n 0, 1) := by decide +kernel
theorem dX8_isEnd_1 : decode cX8_isEnd 1 = .ok (.getfield 25, 3) := by decide +kernel
theorem dX8_isEnd_4 : decode cX8_isEnd 4 = .ok (.ifCond .ne 7, 3) := by decide +kernel
theorem dX8_isEnd_7 : decode cX8_isEnd 7 = .ok (.iconst 1, 1) := by decide +kernel
theorem dX8_isEnd_8 : decode cX8_isEnd 8 = .ok (.goto 4, 3) := by decide +kernel
theorem dX8_isEnd_12 : decode cX8_isEnd 12 = .ok (.ireturn, 1) := by decide +kernel
theorem dX8_kindAt_0 : decode cX8_kindAt 0 = .ok (.iload_n 1, 1) := by decide +kernel
theorem dX8_kindAt_1 : decode cX8_kindAt 1 = .ok (.ifCond .lt 20, 3) := by decide +kernel
theorem dX8_kindAt_4 : decode cX8_kindAt 4 = .ok (.iload_n 1, 1) := by decide +kernel
theorem dX8_kindAt_5 : decode cX8_kindAt 5 = .ok (.aload_n 0, 1) := by decide +kernel
theorem dX8_kindAt_6 : decode cX8_kindAt 6 = .ok (.getfield 15, 3) := by decide +kernel
theorem dX8_kindAt_9 : decode cX8_kindAt 9 = .ok (.if_icmp .ge 12, 3) := by decide +kernel
theorem dX8_kindAt_21 : decode cX8_kindAt 21 = .ok (.iconst 0, 1) := by decide +kernel
theorem dX8_kindAt_22 : decode cX8_kindAt 22 = .ok (.ireturn, 1) := by decide +kernel
theorem dX9_init_0 : decode cX9_init 0 = .ok (.aload_n 0, 1) := by decide +kernel
theorem dX9_init_1 : decode cX9_init 1 = .ok (.invokespecial 3, 3) := by decide +kernel
theorem dX9_init_4 : decode cX9_init 4 = .ok (.aload_n 0, 1) := by decide +kernel
theorem dX9_init_5 : decode cX9_init 5 = .ok (.aload_n 1, 1) := by decide +kernel
theorem dX9_init_6 : decode cX9_init 6 = .ok (.putfield 9, 3) := by decide +kernel
theorem dX9_init_9 : decode cX9_init 9 = .ok (.aload_n 0, 1) := by decide +kernel
theorem dX9_init_10 : decode cX9_init 10 = .ok (.bipush 56, 2) := by decide +kernel
theorem dX9_init_12 : decode cX9_init 12 = .ok (.anewarray 15, 3) := by decide +kernel
theorem dX9_init_15 : decode cX9_init 15 = .ok (.putfield 17, 3) := by decide +kernel
theorem dX9_init_18 : decode cX9_init 18 = .ok (.aload_n 0, 1) := by decide +kernel
theorem dX9_init_19 : decode cX9_init 19 = .ok (.iconst 0, 1) := by decide +kernel
theorem dX9_init_20 : decode cX9_init 20 = .ok (.putfield 21, 3) := by decide +kernel
theorem dX9_init_23 : decode cX9_init 23 = .ok (.aload_n 0, 1) := by decide +kernel
theorem dX9_init_24 : decode cX9_init 24 = .ok (.iconst (-1), 1) := by decide +kernel
theorem dX9_init_25 : decode cX9_init 25 = .ok (.putfield 25, 3) := by decide +kernel
theorem dX9_init_28 : decode cX9_init 28 = .ok (.return_, 1) := by decide +kernel
theorem dX9_readText_0 : decode cX9_readText 0 = .ok (.aload_n 0, 1) := by decide +kernel
theorem dX9_readText_1 : decode cX9_readText 1 = .ok (.getfield 9, 3) := by decide +kernel
theorem dX9_readText_4 : decode cX9_readText 4 = .ok (.invokevirtual 28, 3) := by decide +kernel
theorem dX9_readText_7 : decode cX9_readText 7 = .ok (.iconst 0, 1) := by decide +kernel
theorem dX9_readText_8 : decode cX9_readText 8 = .ok (.istore_n 2, 1) := by decide +kernel
theorem dX9_readText_9 : decode cX9_readText 9 = .ok (.iload_n 2, 1) := by decide +kernel
theorem dX9_readText_10 : decode cX9_readText 10 = .ok (.iload_n 1, 1) := by decide +kernel
theorem dX9_readText_11 : decode cX9_readText 11 = .ok (.if_icmp .ge 86, 3) := by decide +kernel
theorem dX9_readText_14 : decode cX9_readText 14 = .ok (.aload_n 0, 1) := by decide +kernel
theorem dX9_readText_15 : decode cX9_readText 15 = .ok (.getfield 9, 3) := by decide +kernel
theorem dX9_readText_18 : decode cX9_readText 18 = .ok (.invokevirtual 33, 3) := by decide +kernel
theorem dX9_readText_21 : decode cX9_readText 21 = .ok (.ifCond .ne 76, 3) := by decide +kernel
theorem dX9_readText_97 : decode cX9_readText 97 = .ok (.aload_n 0, 1) := by decide +kernel
theorem dX9_readText_98 : decode cX9_readText 98 = .ok (.getfield 9, 3) := by decide +kernel
theorem dX9_readText_101 : decode cX9_readText 101 = .ok (.invokevirtual 33, 3) := by decide +kernel
theorem dX9_readText_104 : decode cX9_readText 104 = .ok (.ifCond .ne 10, 3) := by decide +kernel
theorem dX9_readText_114 : decode cX9_readText 114 = .ok (.iconst 1, 1) := by decide +kernel
theorem dX9_readText_115 : decode cX9_readText 115 = .ok (.goto 4, 3) := by decide +kernel
theorem dX9_readText_119 : decode cX9_readText 119 = .ok (.ireturn, 1) := by decide +kernel
