section
-- ===== PART A: goes FIRST, ahead of the names: the tables' words, and 'selects' of the private methods out of them =====
/-- a private method of a class that the tables say can be made, by its rows of tables_1 -/
def lw_okq (q : MethodName × Nat) : Prop := (q.1.cls ≠ "java/lang/invoke/MethodHandle" ∧ q.1.cls ≠ "java/lang/invoke/VarHandle") ∧ Cond.instantiable q.1.cls q.2 ∈ tables_1 ∧ Cond.privateMethod q.1 ∈ tables_1 ∧ Cond.instanceMethod q.1 ∈ tables_1
theorem lw_p0 : lw_okq (⟨"PlaneProof", "putOnTape", "(I)V"⟩, 9) := ⟨⟨by decide +kernel, by decide +kernel⟩, List.mem_of_getElem? (i := 30) (by decide +kernel), List.mem_of_getElem? (i := 161) (by decide +kernel), List.mem_of_getElem? (i := 162) (by decide +kernel)⟩
theorem lw_p1 : lw_okq (⟨"PlaneProof", "closureOf", "(I)LPlaneProof$Closure;"⟩, 9) := ⟨⟨by decide +kernel, by decide +kernel⟩, List.mem_of_getElem? (i := 30) (by decide +kernel), List.mem_of_getElem? (i := 208) (by decide +kernel), List.mem_of_getElem? (i := 209) (by decide +kernel)⟩
theorem lw_p2 : lw_okq (⟨"PlaneProof$Closure", "put", "(II)V"⟩, 7) := ⟨⟨by decide +kernel, by decide +kernel⟩, List.mem_of_getElem? (i := 211) (by decide +kernel), List.mem_of_getElem? (i := 252) (by decide +kernel), List.mem_of_getElem? (i := 253) (by decide +kernel)⟩
theorem lw_p3 : lw_okq (⟨"PlaneProof$Closure", "goRounds", "()V"⟩, 7) := ⟨⟨by decide +kernel, by decide +kernel⟩, List.mem_of_getElem? (i := 211) (by decide +kernel), List.mem_of_getElem? (i := 260) (by decide +kernel), List.mem_of_getElem? (i := 261) (by decide +kernel)⟩
theorem lw_p4 : lw_okq (⟨"PlaneProof$Closure", "putWithout", "(II)V"⟩, 7) := ⟨⟨by decide +kernel, by decide +kernel⟩, List.mem_of_getElem? (i := 211) (by decide +kernel), List.mem_of_getElem? (i := 267) (by decide +kernel), List.mem_of_getElem? (i := 268) (by decide +kernel)⟩
theorem lw_p5 : lw_okq (⟨"PlaneProof$Graph", "oneMoveFrom", "(JI)J"⟩, 4) := ⟨⟨by decide +kernel, by decide +kernel⟩, List.mem_of_getElem? (i := 69) (by decide +kernel), List.mem_of_getElem? (i := 285) (by decide +kernel), List.mem_of_getElem? (i := 286) (by decide +kernel)⟩
theorem lw_p6 : lw_okq (⟨"PlaneProof$Graph", "movesFrom", "(II)J"⟩, 4) := ⟨⟨by decide +kernel, by decide +kernel⟩, List.mem_of_getElem? (i := 69) (by decide +kernel), List.mem_of_getElem? (i := 289) (by decide +kernel), List.mem_of_getElem? (i := 290) (by decide +kernel)⟩
theorem lw_p7 : lw_okq (⟨"PlaneProof$Graph", "someHasSink", "(J)Z"⟩, 4) := ⟨⟨by decide +kernel, by decide +kernel⟩, List.mem_of_getElem? (i := 69) (by decide +kernel), List.mem_of_getElem? (i := 299) (by decide +kernel), List.mem_of_getElem? (i := 300) (by decide +kernel)⟩
theorem lw_p8 : lw_okq (⟨"PlaneProof$Book", "modelsOfFirst", "(I)J"⟩, 3) := ⟨⟨by decide +kernel, by decide +kernel⟩, List.mem_of_getElem? (i := 38) (by decide +kernel), List.mem_of_getElem? (i := 323) (by decide +kernel), List.mem_of_getElem? (i := 324) (by decide +kernel)⟩
theorem lw_p9 : lw_okq (⟨"PlaneProof$Signs", "kindAt", "(I)I"⟩, 6) := ⟨⟨by decide +kernel, by decide +kernel⟩, List.mem_of_getElem? (i := 367) (by decide +kernel), List.mem_of_getElem? (i := 450) (by decide +kernel), List.mem_of_getElem? (i := 451) (by decide +kernel)⟩
theorem lw_p10 : lw_okq (⟨"PlaneProof$Signs", "numberHere", "()I"⟩, 6) := ⟨⟨by decide +kernel, by decide +kernel⟩, List.mem_of_getElem? (i := 367) (by decide +kernel), List.mem_of_getElem? (i := 454) (by decide +kernel), List.mem_of_getElem? (i := 455) (by decide +kernel)⟩
theorem lw_p11 : lw_okq (⟨"PlaneProof$Signs", "byteAt", "(I)I"⟩, 6) := ⟨⟨by decide +kernel, by decide +kernel⟩, List.mem_of_getElem? (i := 367) (by decide +kernel), List.mem_of_getElem? (i := 521) (by decide +kernel), List.mem_of_getElem? (i := 522) (by decide +kernel)⟩
theorem lw_p12 : lw_okq (⟨"PlaneProof$ClaimReader", "readOr", "()LPlaneProof$Line;"⟩, 5) := ⟨⟨by decide +kernel, by decide +kernel⟩, List.mem_of_getElem? (i := 365) (by decide +kernel), List.mem_of_getElem? (i := 525) (by decide +kernel), List.mem_of_getElem? (i := 526) (by decide +kernel)⟩
theorem lw_p13 : lw_okq (⟨"PlaneProof$ClaimReader", "readSum", "()LPlaneProof$Line;"⟩, 5) := ⟨⟨by decide +kernel, by decide +kernel⟩, List.mem_of_getElem? (i := 365) (by decide +kernel), List.mem_of_getElem? (i := 645) (by decide +kernel), List.mem_of_getElem? (i := 646) (by decide +kernel)⟩
theorem lw_p14 : lw_okq (⟨"PlaneProof$ClaimReader", "readBound", "(LPlaneProof$Line;)Z"⟩, 5) := ⟨⟨by decide +kernel, by decide +kernel⟩, List.mem_of_getElem? (i := 365) (by decide +kernel), List.mem_of_getElem? (i := 650) (by decide +kernel), List.mem_of_getElem? (i := 651) (by decide +kernel)⟩
theorem lw_p15 : lw_okq (⟨"PlaneProof$ClaimReader", "readMinus", "()Z"⟩, 5) := ⟨⟨by decide +kernel, by decide +kernel⟩, List.mem_of_getElem? (i := 365) (by decide +kernel), List.mem_of_getElem? (i := 654) (by decide +kernel), List.mem_of_getElem? (i := 655) (by decide +kernel)⟩
def lw_privs_1 : List (MethodName × Nat) := [(⟨"PlaneProof", "putOnTape", "(I)V"⟩, 9), (⟨"PlaneProof", "closureOf", "(I)LPlaneProof$Closure;"⟩, 9), (⟨"PlaneProof$Closure", "put", "(II)V"⟩, 7), (⟨"PlaneProof$Closure", "goRounds", "()V"⟩, 7), (⟨"PlaneProof$Closure", "putWithout", "(II)V"⟩, 7), (⟨"PlaneProof$Graph", "oneMoveFrom", "(JI)J"⟩, 4), (⟨"PlaneProof$Graph", "movesFrom", "(II)J"⟩, 4), (⟨"PlaneProof$Graph", "someHasSink", "(J)Z"⟩, 4), (⟨"PlaneProof$Book", "modelsOfFirst", "(I)J"⟩, 3), (⟨"PlaneProof$Signs", "kindAt", "(I)I"⟩, 6), (⟨"PlaneProof$Signs", "numberHere", "()I"⟩, 6), (⟨"PlaneProof$Signs", "byteAt", "(I)I"⟩, 6), (⟨"PlaneProof$ClaimReader", "readOr", "()LPlaneProof$Line;"⟩, 5), (⟨"PlaneProof$ClaimReader", "readSum", "()LPlaneProof$Line;"⟩, 5), (⟨"PlaneProof$ClaimReader", "readBound", "(LPlaneProof$Line;)Z"⟩, 5), (⟨"PlaneProof$ClaimReader", "readMinus", "()Z"⟩, 5)]
theorem lw_r1 : ∀ q ∈ lw_privs_1, lw_okq q := List.forall_mem_cons.mpr ⟨lw_p0, List.forall_mem_cons.mpr ⟨lw_p1, List.forall_mem_cons.mpr ⟨lw_p2, List.forall_mem_cons.mpr ⟨lw_p3, List.forall_mem_cons.mpr ⟨lw_p4, List.forall_mem_cons.mpr ⟨lw_p5, List.forall_mem_cons.mpr ⟨lw_p6, List.forall_mem_cons.mpr ⟨lw_p7, List.forall_mem_cons.mpr ⟨lw_p8, List.forall_mem_cons.mpr ⟨lw_p9, List.forall_mem_cons.mpr ⟨lw_p10, List.forall_mem_cons.mpr ⟨lw_p11, List.forall_mem_cons.mpr ⟨lw_p12, List.forall_mem_cons.mpr ⟨lw_p13, List.forall_mem_cons.mpr ⟨lw_p14, List.forall_mem_cons.mpr ⟨lw_p15, fun _ h => absurd h List.not_mem_nil⟩⟩⟩⟩⟩⟩⟩⟩⟩⟩⟩⟩⟩⟩⟩⟩
theorem lw_p16 : lw_okq (⟨"PlaneProof$ClaimReader", "readTerm", "(LPlaneProof$Line;)Z"⟩, 5) := ⟨⟨by decide +kernel, by decide +kernel⟩, List.mem_of_getElem? (i := 365) (by decide +kernel), List.mem_of_getElem? (i := 667) (by decide +kernel), List.mem_of_getElem? (i := 668) (by decide +kernel)⟩
theorem lw_p17 : lw_okq (⟨"PlaneProof$ClaimReader", "readSource", "()LPlaneProof$Line;"⟩, 5) := ⟨⟨by decide +kernel, by decide +kernel⟩, List.mem_of_getElem? (i := 365) (by decide +kernel), List.mem_of_getElem? (i := 683) (by decide +kernel), List.mem_of_getElem? (i := 684) (by decide +kernel)⟩
theorem lw_p18 : lw_okq (⟨"PlaneProof$ClaimReader", "readStep", "()LPlaneProof$Line;"⟩, 5) := ⟨⟨by decide +kernel, by decide +kernel⟩, List.mem_of_getElem? (i := 365) (by decide +kernel), List.mem_of_getElem? (i := 697) (by decide +kernel), List.mem_of_getElem? (i := 698) (by decide +kernel)⟩
theorem lw_p19 : lw_okq (⟨"PlaneProof$ClaimReader", "readBehindFrom", "(LPlaneProof$Line;)Z"⟩, 5) := ⟨⟨by decide +kernel, by decide +kernel⟩, List.mem_of_getElem? (i := 365) (by decide +kernel), List.mem_of_getElem? (i := 702) (by decide +kernel), List.mem_of_getElem? (i := 703) (by decide +kernel)⟩
theorem lw_p20 : lw_okq (⟨"PlaneProof$ClaimReader", "readSink", "()LPlaneProof$Line;"⟩, 5) := ⟨⟨by decide +kernel, by decide +kernel⟩, List.mem_of_getElem? (i := 365) (by decide +kernel), List.mem_of_getElem? (i := 713) (by decide +kernel), List.mem_of_getElem? (i := 714) (by decide +kernel)⟩
theorem lw_p21 : lw_okq (⟨"PlaneProof$ProofReader", "readRes", "()LPlaneProof$Line;"⟩, 4) := ⟨⟨by decide +kernel, by decide +kernel⟩, List.mem_of_getElem? (i := 724) (by decide +kernel), List.mem_of_getElem? (i := 722) (by decide +kernel), List.mem_of_getElem? (i := 723) (by decide +kernel)⟩
theorem lw_p22 : lw_okq (⟨"PlaneProof$ProofReader", "readFrom", "(IZZ)LPlaneProof$Line;"⟩, 4) := ⟨⟨by decide +kernel, by decide +kernel⟩, List.mem_of_getElem? (i := 724) (by decide +kernel), List.mem_of_getElem? (i := 727) (by decide +kernel), List.mem_of_getElem? (i := 728) (by decide +kernel)⟩
theorem lw_p23 : lw_okq (⟨"PlaneProof$ProofReader", "numberAhead", "(Z)I"⟩, 4) := ⟨⟨by decide +kernel, by decide +kernel⟩, List.mem_of_getElem? (i := 724) (by decide +kernel), List.mem_of_getElem? (i := 732) (by decide +kernel), List.mem_of_getElem? (i := 733) (by decide +kernel)⟩
theorem lw_p24 : lw_okq (⟨"PlaneProof$ProofReader", "readWeak", "()LPlaneProof$Line;"⟩, 4) := ⟨⟨by decide +kernel, by decide +kernel⟩, List.mem_of_getElem? (i := 724) (by decide +kernel), List.mem_of_getElem? (i := 757) (by decide +kernel), List.mem_of_getElem? (i := 758) (by decide +kernel)⟩
theorem lw_p25 : lw_okq (⟨"PlaneProof$ProofReader", "readLimit", "(III)LPlaneProof$Line;"⟩, 4) := ⟨⟨by decide +kernel, by decide +kernel⟩, List.mem_of_getElem? (i := 724) (by decide +kernel), List.mem_of_getElem? (i := 769) (by decide +kernel), List.mem_of_getElem? (i := 770) (by decide +kernel)⟩
theorem lw_p26 : lw_okq (⟨"PlaneProof$ProofReader", "readPlane", "()LPlaneProof$Line;"⟩, 4) := ⟨⟨by decide +kernel, by decide +kernel⟩, List.mem_of_getElem? (i := 724) (by decide +kernel), List.mem_of_getElem? (i := 775) (by decide +kernel), List.mem_of_getElem? (i := 776) (by decide +kernel)⟩
theorem lw_p27 : lw_okq (⟨"PlaneProof$ProofReader", "readAdd", "()LPlaneProof$Line;"⟩, 4) := ⟨⟨by decide +kernel, by decide +kernel⟩, List.mem_of_getElem? (i := 724) (by decide +kernel), List.mem_of_getElem? (i := 780) (by decide +kernel), List.mem_of_getElem? (i := 781) (by decide +kernel)⟩
theorem lw_p28 : lw_okq (⟨"PlaneProof$ProofReader", "readMul", "()LPlaneProof$Line;"⟩, 4) := ⟨⟨by decide +kernel, by decide +kernel⟩, List.mem_of_getElem? (i := 724) (by decide +kernel), List.mem_of_getElem? (i := 796) (by decide +kernel), List.mem_of_getElem? (i := 797) (by decide +kernel)⟩
theorem lw_p29 : lw_okq (⟨"PlaneProof$ProofReader", "readDiv", "()LPlaneProof$Line;"⟩, 4) := ⟨⟨by decide +kernel, by decide +kernel⟩, List.mem_of_getElem? (i := 724) (by decide +kernel), List.mem_of_getElem? (i := 801) (by decide +kernel), List.mem_of_getElem? (i := 802) (by decide +kernel)⟩
theorem lw_p30 : lw_okq (⟨"PlaneProof$ProofReader", "readClause", "()LPlaneProof$Line;"⟩, 4) := ⟨⟨by decide +kernel, by decide +kernel⟩, List.mem_of_getElem? (i := 724) (by decide +kernel), List.mem_of_getElem? (i := 812) (by decide +kernel), List.mem_of_getElem? (i := 813) (by decide +kernel)⟩
theorem lw_p31 : lw_okq (⟨"PlaneProof$Line", "takeIn", "(LPlaneProof$Line;)V"⟩, 13) := ⟨⟨by decide +kernel, by decide +kernel⟩, List.mem_of_getElem? (i := 530) (by decide +kernel), List.mem_of_getElem? (i := 849) (by decide +kernel), List.mem_of_getElem? (i := 850) (by decide +kernel)⟩
def lw_privs_2 : List (MethodName × Nat) := [(⟨"PlaneProof$ClaimReader", "readTerm", "(LPlaneProof$Line;)Z"⟩, 5), (⟨"PlaneProof$ClaimReader", "readSource", "()LPlaneProof$Line;"⟩, 5), (⟨"PlaneProof$ClaimReader", "readStep", "()LPlaneProof$Line;"⟩, 5), (⟨"PlaneProof$ClaimReader", "readBehindFrom", "(LPlaneProof$Line;)Z"⟩, 5), (⟨"PlaneProof$ClaimReader", "readSink", "()LPlaneProof$Line;"⟩, 5), (⟨"PlaneProof$ProofReader", "readRes", "()LPlaneProof$Line;"⟩, 4), (⟨"PlaneProof$ProofReader", "readFrom", "(IZZ)LPlaneProof$Line;"⟩, 4), (⟨"PlaneProof$ProofReader", "numberAhead", "(Z)I"⟩, 4), (⟨"PlaneProof$ProofReader", "readWeak", "()LPlaneProof$Line;"⟩, 4), (⟨"PlaneProof$ProofReader", "readLimit", "(III)LPlaneProof$Line;"⟩, 4), (⟨"PlaneProof$ProofReader", "readPlane", "()LPlaneProof$Line;"⟩, 4), (⟨"PlaneProof$ProofReader", "readAdd", "()LPlaneProof$Line;"⟩, 4), (⟨"PlaneProof$ProofReader", "readMul", "()LPlaneProof$Line;"⟩, 4), (⟨"PlaneProof$ProofReader", "readDiv", "()LPlaneProof$Line;"⟩, 4), (⟨"PlaneProof$ProofReader", "readClause", "()LPlaneProof$Line;"⟩, 4), (⟨"PlaneProof$Line", "takeIn", "(LPlaneProof$Line;)V"⟩, 13)]
theorem lw_r2 : ∀ q ∈ lw_privs_2, lw_okq q := List.forall_mem_cons.mpr ⟨lw_p16, List.forall_mem_cons.mpr ⟨lw_p17, List.forall_mem_cons.mpr ⟨lw_p18, List.forall_mem_cons.mpr ⟨lw_p19, List.forall_mem_cons.mpr ⟨lw_p20, List.forall_mem_cons.mpr ⟨lw_p21, List.forall_mem_cons.mpr ⟨lw_p22, List.forall_mem_cons.mpr ⟨lw_p23, List.forall_mem_cons.mpr ⟨lw_p24, List.forall_mem_cons.mpr ⟨lw_p25, List.forall_mem_cons.mpr ⟨lw_p26, List.forall_mem_cons.mpr ⟨lw_p27, List.forall_mem_cons.mpr ⟨lw_p28, List.forall_mem_cons.mpr ⟨lw_p29, List.forall_mem_cons.mpr ⟨lw_p30, List.forall_mem_cons.mpr ⟨lw_p31, fun _ h => absurd h List.not_mem_nil⟩⟩⟩⟩⟩⟩⟩⟩⟩⟩⟩⟩⟩⟩⟩⟩
theorem lw_p32 : lw_okq (⟨"java/lang/Throwable", "fillInStackTrace", "(I)Ljava/lang/Throwable;"⟩, 6) := ⟨⟨by decide +kernel, by decide +kernel⟩, List.mem_of_getElem? (i := 895) (by decide +kernel), List.mem_of_getElem? (i := 893) (by decide +kernel), List.mem_of_getElem? (i := 894) (by decide +kernel)⟩
theorem lw_p33 : lw_okq (⟨"PlaneProof", "forgetAnswers", "()V"⟩, 9) := ⟨⟨by decide +kernel, by decide +kernel⟩, List.mem_of_getElem? (i := 30) (by decide +kernel), List.mem_of_getElem? (i := 924) (by decide +kernel), List.mem_of_getElem? (i := 925) (by decide +kernel)⟩
theorem lw_p34 : lw_okq (⟨"PlaneProof", "existing", "(I)LPlaneProof$Line;"⟩, 9) := ⟨⟨by decide +kernel, by decide +kernel⟩, List.mem_of_getElem? (i := 30) (by decide +kernel), List.mem_of_getElem? (i := 958) (by decide +kernel), List.mem_of_getElem? (i := 959) (by decide +kernel)⟩
theorem lw_p35 : lw_okq (⟨"PlaneProof$Book", "needsSameRes", "(I)Z"⟩, 3) := ⟨⟨by decide +kernel, by decide +kernel⟩, List.mem_of_getElem? (i := 38) (by decide +kernel), List.mem_of_getElem? (i := 1067) (by decide +kernel), List.mem_of_getElem? (i := 1068) (by decide +kernel)⟩
theorem lw_p36 : lw_okq (⟨"PlaneProof$Units", "follow", "(LPlaneProof$Line;)V"⟩, 3) := ⟨⟨by decide +kernel, by decide +kernel⟩, List.mem_of_getElem? (i := 1123) (by decide +kernel), List.mem_of_getElem? (i := 1146) (by decide +kernel), List.mem_of_getElem? (i := 1147) (by decide +kernel)⟩
theorem lw_p37 : lw_okq (⟨"PlaneProof$Units", "bestSum", "(LPlaneProof$Line;)I"⟩, 3) := ⟨⟨by decide +kernel, by decide +kernel⟩, List.mem_of_getElem? (i := 1123) (by decide +kernel), List.mem_of_getElem? (i := 1150) (by decide +kernel), List.mem_of_getElem? (i := 1151) (by decide +kernel)⟩
theorem lw_p38 : lw_okq (⟨"PlaneProof$Units", "fix", "(IZ)V"⟩, 3) := ⟨⟨by decide +kernel, by decide +kernel⟩, List.mem_of_getElem? (i := 1123) (by decide +kernel), List.mem_of_getElem? (i := 1155) (by decide +kernel), List.mem_of_getElem? (i := 1156) (by decide +kernel)⟩
theorem lw_p39 : lw_okq (⟨"PlaneProof$Composer", "writeStep", "(LPlaneProof$Book;JLPlaneProof$Line;)V"⟩, 3) := ⟨⟨by decide +kernel, by decide +kernel⟩, List.mem_of_getElem? (i := 113) (by decide +kernel), List.mem_of_getElem? (i := 1212) (by decide +kernel), List.mem_of_getElem? (i := 1213) (by decide +kernel)⟩
theorem lw_p40 : lw_okq (⟨"PlaneProof$Scribe", "putGap", "()V"⟩, 3) := ⟨⟨by decide +kernel, by decide +kernel⟩, List.mem_of_getElem? (i := 96) (by decide +kernel), List.mem_of_getElem? (i := 1232) (by decide +kernel), List.mem_of_getElem? (i := 1233) (by decide +kernel)⟩
theorem lw_p41 : lw_okq (⟨"PlaneProof$Scribe", "putByte", "(I)V"⟩, 3) := ⟨⟨by decide +kernel, by decide +kernel⟩, List.mem_of_getElem? (i := 96) (by decide +kernel), List.mem_of_getElem? (i := 1236) (by decide +kernel), List.mem_of_getElem? (i := 1237) (by decide +kernel)⟩
theorem lw_p42 : lw_okq (⟨"PlaneProof", "checkIsByResolution", "(LPlaneProof$Line;)V"⟩, 9) := ⟨⟨by decide +kernel, by decide +kernel⟩, List.mem_of_getElem? (i := 30) (by decide +kernel), List.mem_of_getElem? (i := 1272) (by decide +kernel), List.mem_of_getElem? (i := 1273) (by decide +kernel)⟩
theorem lw_p43 : lw_okq (⟨"PlaneProof$Book", "planeLinesOf", "(LPlaneProof$Line;)I"⟩, 3) := ⟨⟨by decide +kernel, by decide +kernel⟩, List.mem_of_getElem? (i := 38) (by decide +kernel), List.mem_of_getElem? (i := 1304) (by decide +kernel), List.mem_of_getElem? (i := 1305) (by decide +kernel)⟩
theorem lw_p44 : lw_okq (⟨"PlaneProof$Composer", "writeWeak", "(LPlaneProof$Line;)I"⟩, 3) := ⟨⟨by decide +kernel, by decide +kernel⟩, List.mem_of_getElem? (i := 113) (by decide +kernel), List.mem_of_getElem? (i := 1317) (by decide +kernel), List.mem_of_getElem? (i := 1318) (by decide +kernel)⟩
theorem lw_p45 : lw_okq (⟨"PlaneProof$Composer", "addLimit", "(IIZ)I"⟩, 3) := ⟨⟨by decide +kernel, by decide +kernel⟩, List.mem_of_getElem? (i := 113) (by decide +kernel), List.mem_of_getElem? (i := 1321) (by decide +kernel), List.mem_of_getElem? (i := 1322) (by decide +kernel)⟩
theorem lw_p46 : lw_okq (⟨"PlaneProof$Composer", "closeNumbered", "()I"⟩, 3) := ⟨⟨by decide +kernel, by decide +kernel⟩, List.mem_of_getElem? (i := 113) (by decide +kernel), List.mem_of_getElem? (i := 1325) (by decide +kernel), List.mem_of_getElem? (i := 1326) (by decide +kernel)⟩
theorem lw_p47 : lw_okq (⟨"PlaneProof$Composer", "writeOf", "(III)I"⟩, 3) := ⟨⟨by decide +kernel, by decide +kernel⟩, List.mem_of_getElem? (i := 113) (by decide +kernel), List.mem_of_getElem? (i := 1329) (by decide +kernel), List.mem_of_getElem? (i := 1330) (by decide +kernel)⟩
def lw_privs_3 : List (MethodName × Nat) := [(⟨"java/lang/Throwable", "fillInStackTrace", "(I)Ljava/lang/Throwable;"⟩, 6), (⟨"PlaneProof", "forgetAnswers", "()V"⟩, 9), (⟨"PlaneProof", "existing", "(I)LPlaneProof$Line;"⟩, 9), (⟨"PlaneProof$Book", "needsSameRes", "(I)Z"⟩, 3), (⟨"PlaneProof$Units", "follow", "(LPlaneProof$Line;)V"⟩, 3), (⟨"PlaneProof$Units", "bestSum", "(LPlaneProof$Line;)I"⟩, 3), (⟨"PlaneProof$Units", "fix", "(IZ)V"⟩, 3), (⟨"PlaneProof$Composer", "writeStep", "(LPlaneProof$Book;JLPlaneProof$Line;)V"⟩, 3), (⟨"PlaneProof$Scribe", "putGap", "()V"⟩, 3), (⟨"PlaneProof$Scribe", "putByte", "(I)V"⟩, 3), (⟨"PlaneProof", "checkIsByResolution", "(LPlaneProof$Line;)V"⟩, 9), (⟨"PlaneProof$Book", "planeLinesOf", "(LPlaneProof$Line;)I"⟩, 3), (⟨"PlaneProof$Composer", "writeWeak", "(LPlaneProof$Line;)I"⟩, 3), (⟨"PlaneProof$Composer", "addLimit", "(IIZ)I"⟩, 3), (⟨"PlaneProof$Composer", "closeNumbered", "()I"⟩, 3), (⟨"PlaneProof$Composer", "writeOf", "(III)I"⟩, 3)]
theorem lw_r3 : ∀ q ∈ lw_privs_3, lw_okq q := List.forall_mem_cons.mpr ⟨lw_p32, List.forall_mem_cons.mpr ⟨lw_p33, List.forall_mem_cons.mpr ⟨lw_p34, List.forall_mem_cons.mpr ⟨lw_p35, List.forall_mem_cons.mpr ⟨lw_p36, List.forall_mem_cons.mpr ⟨lw_p37, List.forall_mem_cons.mpr ⟨lw_p38, List.forall_mem_cons.mpr ⟨lw_p39, List.forall_mem_cons.mpr ⟨lw_p40, List.forall_mem_cons.mpr ⟨lw_p41, List.forall_mem_cons.mpr ⟨lw_p42, List.forall_mem_cons.mpr ⟨lw_p43, List.forall_mem_cons.mpr ⟨lw_p44, List.forall_mem_cons.mpr ⟨lw_p45, List.forall_mem_cons.mpr ⟨lw_p46, List.forall_mem_cons.mpr ⟨lw_p47, fun _ h => absurd h List.not_mem_nil⟩⟩⟩⟩⟩⟩⟩⟩⟩⟩⟩⟩⟩⟩⟩⟩
theorem lw_p48 : lw_okq (⟨"PlaneProof$Composer", "writeRes", "(LPlaneProof$Book;LPlaneProof$Line;)I"⟩, 3) := ⟨⟨by decide +kernel, by decide +kernel⟩, List.mem_of_getElem? (i := 113) (by decide +kernel), List.mem_of_getElem? (i := 1333) (by decide +kernel), List.mem_of_getElem? (i := 1334) (by decide +kernel)⟩
theorem lw_p49 : lw_okq (⟨"PlaneProofModel", "begins", "()V"⟩, 38) := ⟨⟨by decide +kernel, by decide +kernel⟩, List.mem_of_getElem? (i := 1378) (by decide +kernel), List.mem_of_getElem? (i := 1520) (by decide +kernel), List.mem_of_getElem? (i := 1521) (by decide +kernel)⟩
theorem lw_p50 : lw_okq (⟨"PlaneProofModel", "blanks", "()V"⟩, 38) := ⟨⟨by decide +kernel, by decide +kernel⟩, List.mem_of_getElem? (i := 1378) (by decide +kernel), List.mem_of_getElem? (i := 1524) (by decide +kernel), List.mem_of_getElem? (i := 1525) (by decide +kernel)⟩
theorem lw_p51 : lw_okq (⟨"PlaneProofModel", "isAt", "(II)Z"⟩, 38) := ⟨⟨by decide +kernel, by decide +kernel⟩, List.mem_of_getElem? (i := 1378) (by decide +kernel), List.mem_of_getElem? (i := 1528) (by decide +kernel), List.mem_of_getElem? (i := 1529) (by decide +kernel)⟩
theorem lw_p52 : lw_okq (⟨"PlaneProofModel", "hasFailed", "()Z"⟩, 38) := ⟨⟨by decide +kernel, by decide +kernel⟩, List.mem_of_getElem? (i := 1378) (by decide +kernel), List.mem_of_getElem? (i := 1532) (by decide +kernel), List.mem_of_getElem? (i := 1533) (by decide +kernel)⟩
theorem lw_p53 : lw_okq (⟨"PlaneProofModel", "claimLine", "()V"⟩, 38) := ⟨⟨by decide +kernel, by decide +kernel⟩, List.mem_of_getElem? (i := 1378) (by decide +kernel), List.mem_of_getElem? (i := 1536) (by decide +kernel), List.mem_of_getElem? (i := 1537) (by decide +kernel)⟩
theorem lw_p54 : lw_okq (⟨"PlaneProofModel", "fails", "()V"⟩, 38) := ⟨⟨by decide +kernel, by decide +kernel⟩, List.mem_of_getElem? (i := 1378) (by decide +kernel), List.mem_of_getElem? (i := 1540) (by decide +kernel), List.mem_of_getElem? (i := 1541) (by decide +kernel)⟩
theorem lw_p55 : lw_okq (⟨"PlaneProofModel", "failsAt", "(I)V"⟩, 38) := ⟨⟨by decide +kernel, by decide +kernel⟩, List.mem_of_getElem? (i := 1378) (by decide +kernel), List.mem_of_getElem? (i := 1544) (by decide +kernel), List.mem_of_getElem? (i := 1545) (by decide +kernel)⟩
theorem lw_p56 : lw_okq (⟨"PlaneProofModel", "beginsLine", "(IZ)V"⟩, 38) := ⟨⟨by decide +kernel, by decide +kernel⟩, List.mem_of_getElem? (i := 1378) (by decide +kernel), List.mem_of_getElem? (i := 1548) (by decide +kernel), List.mem_of_getElem? (i := 1549) (by decide +kernel)⟩
theorem lw_p57 : lw_okq (⟨"PlaneProofModel", "sets", "(II)V"⟩, 38) := ⟨⟨by decide +kernel, by decide +kernel⟩, List.mem_of_getElem? (i := 1378) (by decide +kernel), List.mem_of_getElem? (i := 1552) (by decide +kernel), List.mem_of_getElem? (i := 1553) (by decide +kernel)⟩
theorem lw_p58 : lw_okq (⟨"PlaneProofModel", "takesWord", "(Ljava/lang/String;)Z"⟩, 38) := ⟨⟨by decide +kernel, by decide +kernel⟩, List.mem_of_getElem? (i := 1378) (by decide +kernel), List.mem_of_getElem? (i := 1557) (by decide +kernel), List.mem_of_getElem? (i := 1558) (by decide +kernel)⟩
theorem lw_p59 : lw_okq (⟨"PlaneProofModel", "wordMany", "()I"⟩, 38) := ⟨⟨by decide +kernel, by decide +kernel⟩, List.mem_of_getElem? (i := 1378) (by decide +kernel), List.mem_of_getElem? (i := 1561) (by decide +kernel), List.mem_of_getElem? (i := 1562) (by decide +kernel)⟩
theorem lw_p60 : lw_okq (⟨"PlaneProofModel", "literals", "(Z)V"⟩, 38) := ⟨⟨by decide +kernel, by decide +kernel⟩, List.mem_of_getElem? (i := 1378) (by decide +kernel), List.mem_of_getElem? (i := 1567) (by decide +kernel), List.mem_of_getElem? (i := 1568) (by decide +kernel)⟩
theorem lw_p61 : lw_okq (⟨"PlaneProofModel", "isLiteral", "()Z"⟩, 38) := ⟨⟨by decide +kernel, by decide +kernel⟩, List.mem_of_getElem? (i := 1378) (by decide +kernel), List.mem_of_getElem? (i := 1571) (by decide +kernel), List.mem_of_getElem? (i := 1572) (by decide +kernel)⟩
theorem lw_p62 : lw_okq (⟨"PlaneProofModel", "takes", "(I)Z"⟩, 38) := ⟨⟨by decide +kernel, by decide +kernel⟩, List.mem_of_getElem? (i := 1378) (by decide +kernel), List.mem_of_getElem? (i := 1575) (by decide +kernel), List.mem_of_getElem? (i := 1576) (by decide +kernel)⟩
theorem lw_p63 : lw_okq (⟨"PlaneProofModel", "drawn", "(II)I"⟩, 38) := ⟨⟨by decide +kernel, by decide +kernel⟩, List.mem_of_getElem? (i := 1378) (by decide +kernel), List.mem_of_getElem? (i := 1579) (by decide +kernel), List.mem_of_getElem? (i := 1580) (by decide +kernel)⟩
def lw_privs_4 : List (MethodName × Nat) := [(⟨"PlaneProof$Composer", "writeRes", "(LPlaneProof$Book;LPlaneProof$Line;)I"⟩, 3), (⟨"PlaneProofModel", "begins", "()V"⟩, 38), (⟨"PlaneProofModel", "blanks", "()V"⟩, 38), (⟨"PlaneProofModel", "isAt", "(II)Z"⟩, 38), (⟨"PlaneProofModel", "hasFailed", "()Z"⟩, 38), (⟨"PlaneProofModel", "claimLine", "()V"⟩, 38), (⟨"PlaneProofModel", "fails", "()V"⟩, 38), (⟨"PlaneProofModel", "failsAt", "(I)V"⟩, 38), (⟨"PlaneProofModel", "beginsLine", "(IZ)V"⟩, 38), (⟨"PlaneProofModel", "sets", "(II)V"⟩, 38), (⟨"PlaneProofModel", "takesWord", "(Ljava/lang/String;)Z"⟩, 38), (⟨"PlaneProofModel", "wordMany", "()I"⟩, 38), (⟨"PlaneProofModel", "literals", "(Z)V"⟩, 38), (⟨"PlaneProofModel", "isLiteral", "()Z"⟩, 38), (⟨"PlaneProofModel", "takes", "(I)Z"⟩, 38), (⟨"PlaneProofModel", "drawn", "(II)I"⟩, 38)]
theorem lw_r4 : ∀ q ∈ lw_privs_4, lw_okq q := List.forall_mem_cons.mpr ⟨lw_p48, List.forall_mem_cons.mpr ⟨lw_p49, List.forall_mem_cons.mpr ⟨lw_p50, List.forall_mem_cons.mpr ⟨lw_p51, List.forall_mem_cons.mpr ⟨lw_p52, List.forall_mem_cons.mpr ⟨lw_p53, List.forall_mem_cons.mpr ⟨lw_p54, List.forall_mem_cons.mpr ⟨lw_p55, List.forall_mem_cons.mpr ⟨lw_p56, List.forall_mem_cons.mpr ⟨lw_p57, List.forall_mem_cons.mpr ⟨lw_p58, List.forall_mem_cons.mpr ⟨lw_p59, List.forall_mem_cons.mpr ⟨lw_p60, List.forall_mem_cons.mpr ⟨lw_p61, List.forall_mem_cons.mpr ⟨lw_p62, List.forall_mem_cons.mpr ⟨lw_p63, fun _ h => absurd h List.not_mem_nil⟩⟩⟩⟩⟩⟩⟩⟩⟩⟩⟩⟩⟩⟩⟩⟩
theorem lw_p64 : lw_okq (⟨"PlaneProofModel", "variable", "(II)I"⟩, 38) := ⟨⟨by decide +kernel, by decide +kernel⟩, List.mem_of_getElem? (i := 1378) (by decide +kernel), List.mem_of_getElem? (i := 1583) (by decide +kernel), List.mem_of_getElem? (i := 1584) (by decide +kernel)⟩
theorem lw_p65 : lw_okq (⟨"PlaneProofModel", "isVariable", "()Z"⟩, 38) := ⟨⟨by decide +kernel, by decide +kernel⟩, List.mem_of_getElem? (i := 1378) (by decide +kernel), List.mem_of_getElem? (i := 1587) (by decide +kernel), List.mem_of_getElem? (i := 1588) (by decide +kernel)⟩
theorem lw_p66 : lw_okq (⟨"PlaneProofModel", "adds", "(IZ)V"⟩, 38) := ⟨⟨by decide +kernel, by decide +kernel⟩, List.mem_of_getElem? (i := 1378) (by decide +kernel), List.mem_of_getElem? (i := 1594) (by decide +kernel), List.mem_of_getElem? (i := 1595) (by decide +kernel)⟩
theorem lw_p67 : lw_okq (⟨"PlaneProofModel", "sumLine", "()V"⟩, 38) := ⟨⟨by decide +kernel, by decide +kernel⟩, List.mem_of_getElem? (i := 1378) (by decide +kernel), List.mem_of_getElem? (i := 1599) (by decide +kernel), List.mem_of_getElem? (i := 1600) (by decide +kernel)⟩
theorem lw_p68 : lw_okq (⟨"PlaneProofModel", "isNumber", "()Z"⟩, 38) := ⟨⟨by decide +kernel, by decide +kernel⟩, List.mem_of_getElem? (i := 1378) (by decide +kernel), List.mem_of_getElem? (i := 1603) (by decide +kernel), List.mem_of_getElem? (i := 1604) (by decide +kernel)⟩
theorem lw_p69 : lw_okq (⟨"PlaneProofModel", "number", "(II)I"⟩, 38) := ⟨⟨by decide +kernel, by decide +kernel⟩, List.mem_of_getElem? (i := 1378) (by decide +kernel), List.mem_of_getElem? (i := 1607) (by decide +kernel), List.mem_of_getElem? (i := 1608) (by decide +kernel)⟩
theorem lw_p70 : lw_okq (⟨"PlaneProofModel", "stepLine", "()V"⟩, 38) := ⟨⟨by decide +kernel, by decide +kernel⟩, List.mem_of_getElem? (i := 1378) (by decide +kernel), List.mem_of_getElem? (i := 1617) (by decide +kernel), List.mem_of_getElem? (i := 1618) (by decide +kernel)⟩
theorem lw_p71 : lw_okq (⟨"PlaneProofModel", "asksWord", "(Ljava/lang/String;)V"⟩, 38) := ⟨⟨by decide +kernel, by decide +kernel⟩, List.mem_of_getElem? (i := 1378) (by decide +kernel), List.mem_of_getElem? (i := 1622) (by decide +kernel), List.mem_of_getElem? (i := 1623) (by decide +kernel)⟩
theorem lw_p72 : lw_okq (⟨"PlaneProofModel", "asksSign", "(I)V"⟩, 38) := ⟨⟨by decide +kernel, by decide +kernel⟩, List.mem_of_getElem? (i := 1378) (by decide +kernel), List.mem_of_getElem? (i := 1627) (by decide +kernel), List.mem_of_getElem? (i := 1628) (by decide +kernel)⟩
theorem lw_p73 : lw_okq (⟨"PlaneProofModel", "throwsIf", "(ZI)Z"⟩, 38) := ⟨⟨by decide +kernel, by decide +kernel⟩, List.mem_of_getElem? (i := 1378) (by decide +kernel), List.mem_of_getElem? (i := 1631) (by decide +kernel), List.mem_of_getElem? (i := 1632) (by decide +kernel)⟩
theorem lw_p74 : lw_okq (⟨"PlaneProofModel", "taken", "()V"⟩, 38) := ⟨⟨by decide +kernel, by decide +kernel⟩, List.mem_of_getElem? (i := 1378) (by decide +kernel), List.mem_of_getElem? (i := 1635) (by decide +kernel), List.mem_of_getElem? (i := 1636) (by decide +kernel)⟩
theorem lw_p75 : lw_okq (⟨"PlaneProofModel", "proofLine", "()V"⟩, 38) := ⟨⟨by decide +kernel, by decide +kernel⟩, List.mem_of_getElem? (i := 1378) (by decide +kernel), List.mem_of_getElem? (i := 1643) (by decide +kernel), List.mem_of_getElem? (i := 1644) (by decide +kernel)⟩
theorem lw_p76 : lw_okq (⟨"PlaneProofModel", "resolves", "()V"⟩, 38) := ⟨⟨by decide +kernel, by decide +kernel⟩, List.mem_of_getElem? (i := 1378) (by decide +kernel), List.mem_of_getElem? (i := 1648) (by decide +kernel), List.mem_of_getElem? (i := 1649) (by decide +kernel)⟩
theorem lw_p77 : lw_okq (⟨"PlaneProofModel", "lineTold", "(Z)I"⟩, 38) := ⟨⟨by decide +kernel, by decide +kernel⟩, List.mem_of_getElem? (i := 1378) (by decide +kernel), List.mem_of_getElem? (i := 1652) (by decide +kernel), List.mem_of_getElem? (i := 1653) (by decide +kernel)⟩
theorem lw_p78 : lw_okq (⟨"PlaneProofModel", "weakens", "()V"⟩, 38) := ⟨⟨by decide +kernel, by decide +kernel⟩, List.mem_of_getElem? (i := 1378) (by decide +kernel), List.mem_of_getElem? (i := 1657) (by decide +kernel), List.mem_of_getElem? (i := 1658) (by decide +kernel)⟩
theorem lw_p79 : lw_okq (⟨"PlaneProofModel", "bounds", "(Z)V"⟩, 38) := ⟨⟨by decide +kernel, by decide +kernel⟩, List.mem_of_getElem? (i := 1378) (by decide +kernel), List.mem_of_getElem? (i := 1662) (by decide +kernel), List.mem_of_getElem? (i := 1663) (by decide +kernel)⟩
def lw_privs_5 : List (MethodName × Nat) := [(⟨"PlaneProofModel", "variable", "(II)I"⟩, 38), (⟨"PlaneProofModel", "isVariable", "()Z"⟩, 38), (⟨"PlaneProofModel", "adds", "(IZ)V"⟩, 38), (⟨"PlaneProofModel", "sumLine", "()V"⟩, 38), (⟨"PlaneProofModel", "isNumber", "()Z"⟩, 38), (⟨"PlaneProofModel", "number", "(II)I"⟩, 38), (⟨"PlaneProofModel", "stepLine", "()V"⟩, 38), (⟨"PlaneProofModel", "asksWord", "(Ljava/lang/String;)V"⟩, 38), (⟨"PlaneProofModel", "asksSign", "(I)V"⟩, 38), (⟨"PlaneProofModel", "throwsIf", "(ZI)Z"⟩, 38), (⟨"PlaneProofModel", "taken", "()V"⟩, 38), (⟨"PlaneProofModel", "proofLine", "()V"⟩, 38), (⟨"PlaneProofModel", "resolves", "()V"⟩, 38), (⟨"PlaneProofModel", "lineTold", "(Z)I"⟩, 38), (⟨"PlaneProofModel", "weakens", "()V"⟩, 38), (⟨"PlaneProofModel", "bounds", "(Z)V"⟩, 38)]
theorem lw_r5 : ∀ q ∈ lw_privs_5, lw_okq q := List.forall_mem_cons.mpr ⟨lw_p64, List.forall_mem_cons.mpr ⟨lw_p65, List.forall_mem_cons.mpr ⟨lw_p66, List.forall_mem_cons.mpr ⟨lw_p67, List.forall_mem_cons.mpr ⟨lw_p68, List.forall_mem_cons.mpr ⟨lw_p69, List.forall_mem_cons.mpr ⟨lw_p70, List.forall_mem_cons.mpr ⟨lw_p71, List.forall_mem_cons.mpr ⟨lw_p72, List.forall_mem_cons.mpr ⟨lw_p73, List.forall_mem_cons.mpr ⟨lw_p74, List.forall_mem_cons.mpr ⟨lw_p75, List.forall_mem_cons.mpr ⟨lw_p76, List.forall_mem_cons.mpr ⟨lw_p77, List.forall_mem_cons.mpr ⟨lw_p78, List.forall_mem_cons.mpr ⟨lw_p79, fun _ h => absurd h List.not_mem_nil⟩⟩⟩⟩⟩⟩⟩⟩⟩⟩⟩⟩⟩⟩⟩⟩
theorem lw_p80 : lw_okq (⟨"PlaneProofModel", "planes", "()V"⟩, 38) := ⟨⟨by decide +kernel, by decide +kernel⟩, List.mem_of_getElem? (i := 1378) (by decide +kernel), List.mem_of_getElem? (i := 1668) (by decide +kernel), List.mem_of_getElem? (i := 1669) (by decide +kernel)⟩
theorem lw_p81 : lw_okq (⟨"PlaneProofModel", "adding", "()V"⟩, 38) := ⟨⟨by decide +kernel, by decide +kernel⟩, List.mem_of_getElem? (i := 1378) (by decide +kernel), List.mem_of_getElem? (i := 1673) (by decide +kernel), List.mem_of_getElem? (i := 1674) (by decide +kernel)⟩
theorem lw_p82 : lw_okq (⟨"PlaneProofModel", "bounded", "()V"⟩, 38) := ⟨⟨by decide +kernel, by decide +kernel⟩, List.mem_of_getElem? (i := 1378) (by decide +kernel), List.mem_of_getElem? (i := 1677) (by decide +kernel), List.mem_of_getElem? (i := 1678) (by decide +kernel)⟩
theorem lw_p83 : lw_okq (⟨"PlaneProofModel", "timesOrParts", "(Z)V"⟩, 38) := ⟨⟨by decide +kernel, by decide +kernel⟩, List.mem_of_getElem? (i := 1378) (by decide +kernel), List.mem_of_getElem? (i := 1682) (by decide +kernel), List.mem_of_getElem? (i := 1683) (by decide +kernel)⟩
theorem lw_p84 : lw_okq (⟨"PlaneProofModel", "clauses", "(I)V"⟩, 38) := ⟨⟨by decide +kernel, by decide +kernel⟩, List.mem_of_getElem? (i := 1378) (by decide +kernel), List.mem_of_getElem? (i := 1689) (by decide +kernel), List.mem_of_getElem? (i := 1690) (by decide +kernel)⟩
theorem lw_p85 : lw_okq (⟨"PlaneProofModel", "noLine", "(I)Z"⟩, 38) := ⟨⟨by decide +kernel, by decide +kernel⟩, List.mem_of_getElem? (i := 1378) (by decide +kernel), List.mem_of_getElem? (i := 1713) (by decide +kernel), List.mem_of_getElem? (i := 1714) (by decide +kernel)⟩
theorem lw_p86 : lw_okq (⟨"PlaneProofModel", "of", "(II)I"⟩, 38) := ⟨⟨by decide +kernel, by decide +kernel⟩, List.mem_of_getElem? (i := 1378) (by decide +kernel), List.mem_of_getElem? (i := 1717) (by decide +kernel), List.mem_of_getElem? (i := 1718) (by decide +kernel)⟩
theorem lw_p87 : lw_okq (⟨"PlaneProofModel", "isNought", "(I)Z"⟩, 38) := ⟨⟨by decide +kernel, by decide +kernel⟩, List.mem_of_getElem? (i := 1378) (by decide +kernel), List.mem_of_getElem? (i := 1721) (by decide +kernel), List.mem_of_getElem? (i := 1722) (by decide +kernel)⟩
theorem lw_p88 : lw_okq (⟨"PlaneProofModel", "isPlane", "(I)Z"⟩, 38) := ⟨⟨by decide +kernel, by decide +kernel⟩, List.mem_of_getElem? (i := 1378) (by decide +kernel), List.mem_of_getElem? (i := 1725) (by decide +kernel), List.mem_of_getElem? (i := 1726) (by decide +kernel)⟩
theorem lw_p89 : lw_okq (⟨"PlaneProofModel", "cutOf", "(I)I"⟩, 38) := ⟨⟨by decide +kernel, by decide +kernel⟩, List.mem_of_getElem? (i := 1378) (by decide +kernel), List.mem_of_getElem? (i := 1729) (by decide +kernel), List.mem_of_getElem? (i := 1730) (by decide +kernel)⟩
theorem lw_p90 : lw_okq (⟨"PlaneProofModel", "noValues", "(I)Z"⟩, 38) := ⟨⟨by decide +kernel, by decide +kernel⟩, List.mem_of_getElem? (i := 1378) (by decide +kernel), List.mem_of_getElem? (i := 1750) (by decide +kernel), List.mem_of_getElem? (i := 1751) (by decide +kernel)⟩
theorem lw_p91 : lw_okq (⟨"PlaneProofModel", "mask", "(I)J"⟩, 38) := ⟨⟨by decide +kernel, by decide +kernel⟩, List.mem_of_getElem? (i := 1378) (by decide +kernel), List.mem_of_getElem? (i := 1762) (by decide +kernel), List.mem_of_getElem? (i := 1763) (by decide +kernel)⟩
theorem lw_p92 : lw_okq (⟨"PlaneProofModel", "models", "(I)J"⟩, 38) := ⟨⟨by decide +kernel, by decide +kernel⟩, List.mem_of_getElem? (i := 1378) (by decide +kernel), List.mem_of_getElem? (i := 1773) (by decide +kernel), List.mem_of_getElem? (i := 1774) (by decide +kernel)⟩
theorem lw_p93 : lw_okq (⟨"PlaneProofModel", "laysNeeds", "(I)V"⟩, 38) := ⟨⟨by decide +kernel, by decide +kernel⟩, List.mem_of_getElem? (i := 1378) (by decide +kernel), List.mem_of_getElem? (i := 1797) (by decide +kernel), List.mem_of_getElem? (i := 1798) (by decide +kernel)⟩
theorem lw_p94 : lw_okq (⟨"PlaneProofModel", "comesFrom", "(II)Z"⟩, 38) := ⟨⟨by decide +kernel, by decide +kernel⟩, List.mem_of_getElem? (i := 1378) (by decide +kernel), List.mem_of_getElem? (i := 1809) (by decide +kernel), List.mem_of_getElem? (i := 1810) (by decide +kernel)⟩
theorem lw_p95 : lw_okq (⟨"PlaneProofModel", "widthOf", "(I)I"⟩, 38) := ⟨⟨by decide +kernel, by decide +kernel⟩, List.mem_of_getElem? (i := 1378) (by decide +kernel), List.mem_of_getElem? (i := 1817) (by decide +kernel), List.mem_of_getElem? (i := 1818) (by decide +kernel)⟩
def lw_privs_6 : List (MethodName × Nat) := [(⟨"PlaneProofModel", "planes", "()V"⟩, 38), (⟨"PlaneProofModel", "adding", "()V"⟩, 38), (⟨"PlaneProofModel", "bounded", "()V"⟩, 38), (⟨"PlaneProofModel", "timesOrParts", "(Z)V"⟩, 38), (⟨"PlaneProofModel", "clauses", "(I)V"⟩, 38), (⟨"PlaneProofModel", "noLine", "(I)Z"⟩, 38), (⟨"PlaneProofModel", "of", "(II)I"⟩, 38), (⟨"PlaneProofModel", "isNought", "(I)Z"⟩, 38), (⟨"PlaneProofModel", "isPlane", "(I)Z"⟩, 38), (⟨"PlaneProofModel", "cutOf", "(I)I"⟩, 38), (⟨"PlaneProofModel", "noValues", "(I)Z"⟩, 38), (⟨"PlaneProofModel", "mask", "(I)J"⟩, 38), (⟨"PlaneProofModel", "models", "(I)J"⟩, 38), (⟨"PlaneProofModel", "laysNeeds", "(I)V"⟩, 38), (⟨"PlaneProofModel", "comesFrom", "(II)Z"⟩, 38), (⟨"PlaneProofModel", "widthOf", "(I)I"⟩, 38)]
theorem lw_r6 : ∀ q ∈ lw_privs_6, lw_okq q := List.forall_mem_cons.mpr ⟨lw_p80, List.forall_mem_cons.mpr ⟨lw_p81, List.forall_mem_cons.mpr ⟨lw_p82, List.forall_mem_cons.mpr ⟨lw_p83, List.forall_mem_cons.mpr ⟨lw_p84, List.forall_mem_cons.mpr ⟨lw_p85, List.forall_mem_cons.mpr ⟨lw_p86, List.forall_mem_cons.mpr ⟨lw_p87, List.forall_mem_cons.mpr ⟨lw_p88, List.forall_mem_cons.mpr ⟨lw_p89, List.forall_mem_cons.mpr ⟨lw_p90, List.forall_mem_cons.mpr ⟨lw_p91, List.forall_mem_cons.mpr ⟨lw_p92, List.forall_mem_cons.mpr ⟨lw_p93, List.forall_mem_cons.mpr ⟨lw_p94, List.forall_mem_cons.mpr ⟨lw_p95, fun _ h => absurd h List.not_mem_nil⟩⟩⟩⟩⟩⟩⟩⟩⟩⟩⟩⟩⟩⟩⟩⟩
theorem lw_p96 : lw_okq (⟨"PlaneProofModel", "depthOf", "(I)I"⟩, 38) := ⟨⟨by decide +kernel, by decide +kernel⟩, List.mem_of_getElem? (i := 1378) (by decide +kernel), List.mem_of_getElem? (i := 1822) (by decide +kernel), List.mem_of_getElem? (i := 1823) (by decide +kernel)⟩
theorem lw_p97 : lw_okq (⟨"PlaneProofModel", "keepsOf", "(I)I"⟩, 38) := ⟨⟨by decide +kernel, by decide +kernel⟩, List.mem_of_getElem? (i := 1378) (by decide +kernel), List.mem_of_getElem? (i := 1826) (by decide +kernel), List.mem_of_getElem? (i := 1827) (by decide +kernel)⟩
theorem lw_p98 : lw_okq (⟨"PlaneProofModel", "isRegular", "(I)Z"⟩, 38) := ⟨⟨by decide +kernel, by decide +kernel⟩, List.mem_of_getElem? (i := 1378) (by decide +kernel), List.mem_of_getElem? (i := 1830) (by decide +kernel), List.mem_of_getElem? (i := 1831) (by decide +kernel)⟩
theorem lw_p99 : lw_okq (⟨"PlaneProofModel", "forces", "(I)I"⟩, 38) := ⟨⟨by decide +kernel, by decide +kernel⟩, List.mem_of_getElem? (i := 1378) (by decide +kernel), List.mem_of_getElem? (i := 1842) (by decide +kernel), List.mem_of_getElem? (i := 1843) (by decide +kernel)⟩
theorem lw_p100 : lw_okq (⟨"PlaneProofModel", "laysWithin", "(I)V"⟩, 38) := ⟨⟨by decide +kernel, by decide +kernel⟩, List.mem_of_getElem? (i := 1378) (by decide +kernel), List.mem_of_getElem? (i := 1850) (by decide +kernel), List.mem_of_getElem? (i := 1851) (by decide +kernel)⟩
theorem lw_p101 : lw_okq (⟨"PlaneProofModel", "comes", "(II)V"⟩, 38) := ⟨⟨by decide +kernel, by decide +kernel⟩, List.mem_of_getElem? (i := 1378) (by decide +kernel), List.mem_of_getElem? (i := 1854) (by decide +kernel), List.mem_of_getElem? (i := 1855) (by decide +kernel)⟩
theorem lw_p102 : lw_okq (⟨"PlaneProofModel", "meets", "(IIII)V"⟩, 38) := ⟨⟨by decide +kernel, by decide +kernel⟩, List.mem_of_getElem? (i := 1378) (by decide +kernel), List.mem_of_getElem? (i := 1858) (by decide +kernel), List.mem_of_getElem? (i := 1859) (by decide +kernel)⟩
theorem lw_p103 : lw_okq (⟨"PlaneProofModel", "pebbledBy", "(I)I"⟩, 38) := ⟨⟨by decide +kernel, by decide +kernel⟩, List.mem_of_getElem? (i := 1378) (by decide +kernel), List.mem_of_getElem? (i := 1878) (by decide +kernel), List.mem_of_getElem? (i := 1879) (by decide +kernel)⟩
theorem lw_p104 : lw_okq (⟨"PlaneProofModel", "saysLine", "(I)V"⟩, 38) := ⟨⟨by decide +kernel, by decide +kernel⟩, List.mem_of_getElem? (i := 1378) (by decide +kernel), List.mem_of_getElem? (i := 1890) (by decide +kernel), List.mem_of_getElem? (i := 1891) (by decide +kernel)⟩
theorem lw_p105 : lw_okq (⟨"PlaneProofModel", "saysHow", "(I)V"⟩, 38) := ⟨⟨by decide +kernel, by decide +kernel⟩, List.mem_of_getElem? (i := 1378) (by decide +kernel), List.mem_of_getElem? (i := 1894) (by decide +kernel), List.mem_of_getElem? (i := 1895) (by decide +kernel)⟩
theorem lw_p106 : lw_okq (⟨"PlaneProofModel", "saysWord", "(Ljava/lang/String;)V"⟩, 38) := ⟨⟨by decide +kernel, by decide +kernel⟩, List.mem_of_getElem? (i := 1378) (by decide +kernel), List.mem_of_getElem? (i := 1898) (by decide +kernel), List.mem_of_getElem? (i := 1899) (by decide +kernel)⟩
theorem lw_p107 : lw_okq (⟨"PlaneProofModel", "says", "(I)V"⟩, 38) := ⟨⟨by decide +kernel, by decide +kernel⟩, List.mem_of_getElem? (i := 1378) (by decide +kernel), List.mem_of_getElem? (i := 1902) (by decide +kernel), List.mem_of_getElem? (i := 1903) (by decide +kernel)⟩
theorem lw_p108 : lw_okq (⟨"PlaneProofModel", "saysNumber", "(I)V"⟩, 38) := ⟨⟨by decide +kernel, by decide +kernel⟩, List.mem_of_getElem? (i := 1378) (by decide +kernel), List.mem_of_getElem? (i := 1906) (by decide +kernel), List.mem_of_getElem? (i := 1907) (by decide +kernel)⟩
theorem lw_p109 : lw_okq (⟨"PlaneProofModel", "saysDigits", "(I)V"⟩, 38) := ⟨⟨by decide +kernel, by decide +kernel⟩, List.mem_of_getElem? (i := 1378) (by decide +kernel), List.mem_of_getElem? (i := 1910) (by decide +kernel), List.mem_of_getElem? (i := 1911) (by decide +kernel)⟩
theorem lw_p110 : lw_okq (⟨"PlaneProofModel", "saysVariable", "(I)V"⟩, 38) := ⟨⟨by decide +kernel, by decide +kernel⟩, List.mem_of_getElem? (i := 1378) (by decide +kernel), List.mem_of_getElem? (i := 1914) (by decide +kernel), List.mem_of_getElem? (i := 1915) (by decide +kernel)⟩
theorem lw_p111 : lw_okq (⟨"PlaneProofModel", "ends", "()V"⟩, 38) := ⟨⟨by decide +kernel, by decide +kernel⟩, List.mem_of_getElem? (i := 1378) (by decide +kernel), List.mem_of_getElem? (i := 1919) (by decide +kernel), List.mem_of_getElem? (i := 1920) (by decide +kernel)⟩
def lw_privs_7 : List (MethodName × Nat) := [(⟨"PlaneProofModel", "depthOf", "(I)I"⟩, 38), (⟨"PlaneProofModel", "keepsOf", "(I)I"⟩, 38), (⟨"PlaneProofModel", "isRegular", "(I)Z"⟩, 38), (⟨"PlaneProofModel", "forces", "(I)I"⟩, 38), (⟨"PlaneProofModel", "laysWithin", "(I)V"⟩, 38), (⟨"PlaneProofModel", "comes", "(II)V"⟩, 38), (⟨"PlaneProofModel", "meets", "(IIII)V"⟩, 38), (⟨"PlaneProofModel", "pebbledBy", "(I)I"⟩, 38), (⟨"PlaneProofModel", "saysLine", "(I)V"⟩, 38), (⟨"PlaneProofModel", "saysHow", "(I)V"⟩, 38), (⟨"PlaneProofModel", "saysWord", "(Ljava/lang/String;)V"⟩, 38), (⟨"PlaneProofModel", "says", "(I)V"⟩, 38), (⟨"PlaneProofModel", "saysNumber", "(I)V"⟩, 38), (⟨"PlaneProofModel", "saysDigits", "(I)V"⟩, 38), (⟨"PlaneProofModel", "saysVariable", "(I)V"⟩, 38), (⟨"PlaneProofModel", "ends", "()V"⟩, 38)]
theorem lw_r7 : ∀ q ∈ lw_privs_7, lw_okq q := List.forall_mem_cons.mpr ⟨lw_p96, List.forall_mem_cons.mpr ⟨lw_p97, List.forall_mem_cons.mpr ⟨lw_p98, List.forall_mem_cons.mpr ⟨lw_p99, List.forall_mem_cons.mpr ⟨lw_p100, List.forall_mem_cons.mpr ⟨lw_p101, List.forall_mem_cons.mpr ⟨lw_p102, List.forall_mem_cons.mpr ⟨lw_p103, List.forall_mem_cons.mpr ⟨lw_p104, List.forall_mem_cons.mpr ⟨lw_p105, List.forall_mem_cons.mpr ⟨lw_p106, List.forall_mem_cons.mpr ⟨lw_p107, List.forall_mem_cons.mpr ⟨lw_p108, List.forall_mem_cons.mpr ⟨lw_p109, List.forall_mem_cons.mpr ⟨lw_p110, List.forall_mem_cons.mpr ⟨lw_p111, fun _ h => absurd h List.not_mem_nil⟩⟩⟩⟩⟩⟩⟩⟩⟩⟩⟩⟩⟩⟩⟩⟩
theorem lw_p112 : lw_okq (⟨"PlaneProofModel", "cannotPut", "(I)Z"⟩, 38) := ⟨⟨by decide +kernel, by decide +kernel⟩, List.mem_of_getElem? (i := 1378) (by decide +kernel), List.mem_of_getElem? (i := 1927) (by decide +kernel), List.mem_of_getElem? (i := 1928) (by decide +kernel)⟩
theorem lw_p113 : lw_okq (⟨"PlaneProofModel", "puts", "(I)V"⟩, 38) := ⟨⟨by decide +kernel, by decide +kernel⟩, List.mem_of_getElem? (i := 1378) (by decide +kernel), List.mem_of_getElem? (i := 1931) (by decide +kernel), List.mem_of_getElem? (i := 1932) (by decide +kernel)⟩
theorem lw_p114 : lw_okq (⟨"PlaneProofModel", "putsPlane", "(I)V"⟩, 38) := ⟨⟨by decide +kernel, by decide +kernel⟩, List.mem_of_getElem? (i := 1378) (by decide +kernel), List.mem_of_getElem? (i := 1935) (by decide +kernel), List.mem_of_getElem? (i := 1936) (by decide +kernel)⟩
theorem lw_p115 : lw_okq (⟨"PlaneProofModel", "putsWeak", "(I)V"⟩, 38) := ⟨⟨by decide +kernel, by decide +kernel⟩, List.mem_of_getElem? (i := 1378) (by decide +kernel), List.mem_of_getElem? (i := 1939) (by decide +kernel), List.mem_of_getElem? (i := 1940) (by decide +kernel)⟩
theorem lw_p116 : lw_okq (⟨"PlaneProofModel", "putsLiteral", "(IIZ)V"⟩, 38) := ⟨⟨by decide +kernel, by decide +kernel⟩, List.mem_of_getElem? (i := 1378) (by decide +kernel), List.mem_of_getElem? (i := 1943) (by decide +kernel), List.mem_of_getElem? (i := 1944) (by decide +kernel)⟩
theorem lw_p117 : lw_okq (⟨"PlaneProofModel", "latest", "()I"⟩, 38) := ⟨⟨by decide +kernel, by decide +kernel⟩, List.mem_of_getElem? (i := 1378) (by decide +kernel), List.mem_of_getElem? (i := 1947) (by decide +kernel), List.mem_of_getElem? (i := 1948) (by decide +kernel)⟩
theorem lw_p118 : lw_okq (⟨"PlaneProofModel", "putsAdd", "(II)V"⟩, 38) := ⟨⟨by decide +kernel, by decide +kernel⟩, List.mem_of_getElem? (i := 1378) (by decide +kernel), List.mem_of_getElem? (i := 1951) (by decide +kernel), List.mem_of_getElem? (i := 1952) (by decide +kernel)⟩
theorem lw_p119 : lw_okq (⟨"PlaneProofModel", "putsRes", "(I)V"⟩, 38) := ⟨⟨by decide +kernel, by decide +kernel⟩, List.mem_of_getElem? (i := 1378) (by decide +kernel), List.mem_of_getElem? (i := 1955) (by decide +kernel), List.mem_of_getElem? (i := 1956) (by decide +kernel)⟩
theorem lw_p120 : lw_okq (⟨"PlaneProofModel", "countOf", "(II)I"⟩, 38) := ⟨⟨by decide +kernel, by decide +kernel⟩, List.mem_of_getElem? (i := 1378) (by decide +kernel), List.mem_of_getElem? (i := 1983) (by decide +kernel), List.mem_of_getElem? (i := 1984) (by decide +kernel)⟩
theorem lw_p121 : lw_okq (⟨"PlaneProofModel", "idle", "()I"⟩, 38) := ⟨⟨by decide +kernel, by decide +kernel⟩, List.mem_of_getElem? (i := 1378) (by decide +kernel), List.mem_of_getElem? (i := 1987) (by decide +kernel), List.mem_of_getElem? (i := 1988) (by decide +kernel)⟩
def lw_privs_8 : List (MethodName × Nat) := [(⟨"PlaneProofModel", "cannotPut", "(I)Z"⟩, 38), (⟨"PlaneProofModel", "puts", "(I)V"⟩, 38), (⟨"PlaneProofModel", "putsPlane", "(I)V"⟩, 38), (⟨"PlaneProofModel", "putsWeak", "(I)V"⟩, 38), (⟨"PlaneProofModel", "putsLiteral", "(IIZ)V"⟩, 38), (⟨"PlaneProofModel", "latest", "()I"⟩, 38), (⟨"PlaneProofModel", "putsAdd", "(II)V"⟩, 38), (⟨"PlaneProofModel", "putsRes", "(I)V"⟩, 38), (⟨"PlaneProofModel", "countOf", "(II)I"⟩, 38), (⟨"PlaneProofModel", "idle", "()I"⟩, 38)]
theorem lw_r8 : ∀ q ∈ lw_privs_8, lw_okq q := List.forall_mem_cons.mpr ⟨lw_p112, List.forall_mem_cons.mpr ⟨lw_p113, List.forall_mem_cons.mpr ⟨lw_p114, List.forall_mem_cons.mpr ⟨lw_p115, List.forall_mem_cons.mpr ⟨lw_p116, List.forall_mem_cons.mpr ⟨lw_p117, List.forall_mem_cons.mpr ⟨lw_p118, List.forall_mem_cons.mpr ⟨lw_p119, List.forall_mem_cons.mpr ⟨lw_p120, List.forall_mem_cons.mpr ⟨lw_p121, fun _ h => absurd h List.not_mem_nil⟩⟩⟩⟩⟩⟩⟩⟩⟩⟩
def lw_privs : List (MethodName × Nat) := lw_privs_1 ++ (lw_privs_2 ++ (lw_privs_3 ++ (lw_privs_4 ++ (lw_privs_5 ++ (lw_privs_6 ++ (lw_privs_7 ++ (lw_privs_8)))))))
def lw_tbl : List Cond := k2_sels lw_privs ++ tables_1
theorem lw_privs_ok : ∀ q ∈ lw_privs, lw_okq q := by
  show ∀ q ∈ lw_privs_1 ++ (lw_privs_2 ++ (lw_privs_3 ++ (lw_privs_4 ++ (lw_privs_5 ++ (lw_privs_6 ++ (lw_privs_7 ++ (lw_privs_8))))))), lw_okq q
  exact List.forall_mem_append.mpr ⟨lw_r1, List.forall_mem_append.mpr ⟨lw_r2, List.forall_mem_append.mpr ⟨lw_r3, List.forall_mem_append.mpr ⟨lw_r4, List.forall_mem_append.mpr ⟨lw_r5, List.forall_mem_append.mpr ⟨lw_r6, List.forall_mem_append.mpr ⟨lw_r7, lw_r8⟩⟩⟩⟩⟩⟩⟩
end
section
/-! ===== BEGIN words of one list among another's, by their places ===== -/
theorem goodIn_r {big : List Cond} (ws : List Cond) (ps : List Nat) (hp : ws = ps.filterMap (fun i => big[i]?)) (h : ws.all goodWord = true) : GoodIn big ws := by
  intro w hw
  have h1 := List.all_eq_true.mp h w hw
  rw [hp] at hw
  obtain ⟨i, -, hi⟩ := List.mem_filterMap.mp hw
  have hm : w ∈ big := by first | exact List.mem_of_getElem? hi | exact List.getElem?_mem hi
  exact ⟨hm, good_of_word h1⟩
theorem goodIn_app {big a b : List Cond} (ha : GoodIn big a) (hb : GoodIn big b) : GoodIn big (a ++ b) := fun w h => (List.mem_append.mp h).elim (ha w) (hb w)
theorem goodIn_ca {big a b : List Cond} {c : Cond} (ha : GoodIn big (c :: a)) (hb : GoodIn big b) : GoodIn big (c :: (a ++ b)) := fun w h => (List.mem_cons.mp h).elim (fun e => ha w (List.mem_cons.mpr (Or.inl e))) (fun h => (List.mem_append.mp h).elim (fun h => ha w (List.mem_cons.mpr (Or.inr h))) (hb w))
theorem goodIn_sub {big ws : List Cond} (hm : ∀ w ∈ ws, w ∈ big) (h : ws.all goodWord = true) : GoodIn big ws := fun w hw => ⟨hm w hw, good_of_word (List.all_eq_true.mp h w hw)⟩
/-! ===== END ===== -/

/-! ===== BEGIN exceptions that leave a method, and their catching by the caller (launches without stack traces) ===== -/
section VXA
/-! The laws vx_back, vx_callV, vx_callS, vx_callSW, vx_throw0, vx_throwS follow proofs of the library, with one case more: JvmDerived/Free/Laws.lean (Back.of_free), Shelf42/LK1.lean (callV, callS), Shelf/KitTraced.lean (throwNew0V, throwNewS). -/
/-- where a method has thrown q: the class by its name, the cell, what was written, the world -/
def vx_T (XC : String → State → State → Prop) (st : State) (q : Addr) (t : State) (mc ms : Nat) (free : Addr → Prop) : Prop :=
  ∃ (E : String) (ce : Cell) (L : List Loc), XC E st t ∧ t.heap[q]? = some ce ∧ ce.vm = .none ∧ st.vm.findClass E = some ce.cls ∧ st.WarmedH t.vm ∧ st.sameButNew ({ t with vm := st.vm } : State) L mc ms ∧ ∀ z ∈ L, free z.base
def vx_Q (Qc : Array Value → State → Outcome → State → Prop) (XC : String → State → State → Prop) (mc ms : Nat) (free : Addr → Prop) : Array Value → State → Outcome → State → Prop := fun a st o t =>
  (Qc a st o t ∧ ∃ L, FrameEnd st o t L mc ms ∧ ∀ q ∈ L, free q.base) ∨ ∃ q, o = .threw q ∧ vx_T XC st q t mc ms free
/-- a callee that returns or throws -/
def vx_Met (l : Launch) (y : MethodName) (ws : List Cond) (rm : Room) (Pc : Array Value → State → Prop) (Qc : Array Value → State → Outcome → State → Prop) (XC : String → State → State → Prop) (mc ms : Nat) (free : Addr → Prop) : Prop :=
  MetFree l y (headSpec ws rm) Pc (fun _ _ _ _ _ => True) (vx_Q Qc XC mc ms free)
def vx_Post (XC : String → State → State → Prop) (mc ms : Nat) (free : Addr → Prop) : Pt → Array Value → Addr → Pt → Prop := fun A a q B =>
  ∃ (g : JFrame) (mk : MethodId) (t : State) (L : List Loc) (E : String) (ce : Cell), B.U.heap = t.heap ∧ B.U.vm = t.vm ∧ XC E (A.U.calling g mk a) t ∧ t.heap[q]? = some ce ∧ ce.vm = .none ∧ A.U.vm.findClass E = some ce.cls ∧ B.locs = A.locs ++ L ∧ (∀ z ∈ L, free z.base) ∧ B.cells = A.cells + mc ∧ B.slots = A.slots + ms
def vx_Back (l : Launch) (R : Room) (p : Program) (e : Env) (below : List Frame) (s : State) (sargs : Array Value) (y : MethodName) (len W9 : Nat)
    (Pre : Pt → Array Value → Prop) (Post : Pt → Array Value → Option Value → Pt → Prop) (PostX : Pt → Array Value → Addr → Pt → Prop) : Prop :=
  ∀ (m : MethodId) (meth : Method) (c : Code) (A : Pt) (g : JFrame) (ig : Instr) (mk : MethodId) (a : Array Value),
    Stand p l e R s m sargs below meth c A.U A.locs A.cells A.slots → g.method = m → g.locals.size = c.maxLocals → decode c.code g.pc = .ok (ig, len) →
    2 * g.monitorRoom + (g.stack.map fun v => v.category).sum ≤ W9 → A.U.methodNamed? y = some mk → Pre A a →
    (∃ (v : Option Value) (B : Pt), Stand p l e R s m sargs below meth c B.U B.locs B.cells B.slots ∧ Post A a v B ∧
      Steps p.tables e below (doInvoke e (A.U.setTop g) [] mk a).1 (B.U.setTop { g with pc := g.pc + len, stack := v.toList ++ g.stack })) ∨
    (∃ (q : Addr) (B : Pt), Stand p l e R s m sargs below meth c B.U B.locs B.cells B.slots ∧ PostX A a q B ∧
      Steps p.tables e below (doInvoke e (A.U.setTop g) [] mk a).1 ((B.U.setTop g).pushFrame (.throwing q)))
section Payer
variable {l : Launch} {R : Room} {p : Program} {e : Env} {below : List Frame} {s : State} {sargs : Array Value} {y : MethodName} {len W9 : Nat}
theorem vx_back {ws : List Cond} {rm : Room} {Pc : Array Value → State → Prop} {Qc : Array Value → State → Outcome → State → Prop} {XC : String → State → State → Prop} {mc ms : Nat} {free : Addr → Prop} {bytes : ByteArray} {maxL : Nat} {ret : Option FieldType}
    (hM : vx_Met l y ws rm Pc Qc XC mc ms free) (hblind : FrameBlind Pc) (hrc : rm.cells = mc) (hrs : rm.slots = ms)
    (hframes : rm.frames + 1 ≤ R.frames) (hlocals : W9 + (maxL + 11) + rm.locals ≤ R.locals)
    (hws : ∀ w ∈ ws, ∀ a' U, s.WarmedH U.vm → w.before a' U = true) (hcode : Cond.code y bytes maxL ret ∈ ws) (hinit : ∀ a' U, s.WarmedH U.vm → (Cond.initialized y.cls).before a' U = true) :
    vx_Back l R p e below s sargs y len W9 (PreOf R mc ms Pc) (PostOf Qc mc ms free) (vx_Post XC mc ms free) := by
  intro m meth c A g ig mk a X hg hsize hdg hW hn hp
  have h1 : (headSpec ws rm).pre.before a A.U = true := atoms_intro fun w hw => hws w hw _ _ X.warmed
  have h2 : (Cond.code y bytes maxL ret).before a A.U = true := hws _ hcode _ _ X.warmed
  have h3 : (Cond.initialized y.cls).before a A.U = true := hinit _ _ X.warmed
  have h4 : A.cells + (headSpec ws rm).room.cells ≤ R.cells := by rw [show (headSpec ws rm).room.cells = mc from hrc]; exact hp.1
  have h5 : A.slots + (headSpec ws rm).room.slots ≤ R.slots := by rw [show (headSpec ws rm).room.slots = ms from hrs]; exact hp.2.1
  have hPc : Pc a (A.U.calling g mk a) := hblind _ _ _ _ hp.2.2
  obtain ⟨U, Ls, c0, s0⟩ := A
  dsimp only [Pt.U, Pt.locs, Pt.cells, Pt.slots] at h1 h2 h3 h4 h5 X hn hPc ⊢
  obtain ⟨methY, cY, hmY, hcY, -, hlY, -, -, -, -⟩ := Cond.code_spec hn h2
  obtain ⟨kY, hkY, -⟩ := className_of_methodNamed hn
  have hinitY : kY.init = .initialized := Cond.initialized_spec (findClass_of_methodNamed hn) hkY h3
  have h : At U g.method c below := by rw [hg]; exact X.here
  have hlocals9 : W9 + (maxL + 11) + (headSpec ws rm).room.locals ≤ R.locals := hlocals
  have happ : (headSpec ws rm).appliesLoose y e.platform (U.calling g mk a) = true :=
    Spec.appliesLoose_calling (g := g) h hdg hn hkY hinitY
      (X.room_calling (g := g) (R' := (headSpec ws rm).room) hsize hmY hcY hframes (by rw [hlY]; omega) h4 h5) h1
  obtain ⟨mid, hmid⟩ := h.above
  have hfr : (U.setTop g).frames = (.java g :: mid) ++ below := by rw [State.frames_setTop' g h.top, hmid]; rfl
  obtain ⟨o, s₂, hsteps, -, hend, hq⟩ := Steps.callFree hM p X.admits X.cas X.clock (acts := []) hfr happ hPc trivial
  have hq' : vx_Q Qc XC mc ms free a (U.calling g mk a) o s₂ := hq
  rw [State.frames_setTop' g h.top] at hend
  obtain ⟨g₀, hg0⟩ := Option.isSome_iff_exists.mp h.top
  obtain ⟨r, hr⟩ := State.topJava?_eq_some.mp hg0
  have hr' : (({ U with heap := s₂.heap, slotsUsed := s₂.slotsUsed } : State).setVm s₂.vm).frames = .java g₀ :: r := hr
  rcases hq' with ⟨hqc, L, hfe, hL⟩ | ⟨q, rfl, E, ce, L, hx, hce, hcv, hcl, hW₂, hsm, hL⟩
  · obtain ⟨⟨v, rfl⟩, hW₂, e2, q2, q3, q4, q5, q6⟩ := id hfe
    have e3 : s₂ = ({ (U.calling g mk a).setFrames s₂.frames with heap := s₂.heap, slotsUsed := s₂.slotsUsed } : State).setVm s₂.vm := by
      have : s₂ = ({ s₂ with vm := (U.calling g mk a).vm } : State).setVm s₂.vm := rfl
      rw [e2] at this
      exact this
    obtain ⟨c₂, i₂, len₂, hc₂, hd₂, hf₂⟩ := hend
    have hW' : U.WarmedH s₂.vm := hW₂
    have hcc : c₂ = c := by
      have h1 : s₂.code? g.method = U.code? g.method := by
        rw [State.code?_eq, State.code?_eq, hW'.alike.method?]
      exact Option.some.inj (hc₂.symm.trans (h1.trans h.code))
    subst hcc
    have hlen : len₂ = len := by rw [hdg] at hd₂; cases hd₂; rfl
    subst hlen
    have hs₂ : s₂ = (({ U with heap := s₂.heap, slotsUsed := s₂.slotsUsed } : State).setVm s₂.vm).setTop { g with pc := g.pc + len₂, stack := v.toList ++ g.stack } := by
      refine e3.trans ?_
      rw [hf₂, State.calling_eq h.top, State.setFrames_setFrames, State.setTop_of_frames _ hr', hr]
      rfl
    have hsame : U.sameButNew ({ U with heap := s₂.heap, slotsUsed := s₂.slotsUsed } : State) L mc ms := by
      refine ⟨?_, q2, q3, q4, q5, q6⟩
      obtain ⟨t, ht, -⟩ := State.frames_cons hr
      show ({ U with heap := s₂.heap, slotsUsed := s₂.slotsUsed } : State) = { U.setFrames U.frames with heap := s₂.heap, slotsUsed := s₂.slotsUsed }
      rw [State.setFrames_self ht]
    subst hg
    refine Or.inl ⟨v, ⟨(({ U with heap := s₂.heap, slotsUsed := s₂.slotsUsed } : State).setVm s₂.vm), Ls ++ L, c0 + mc, s0 + ms⟩,
      ⟨X.admits, X.cas, X.clock, X.frames, X.room, X.hears, X.method, X.code, (X.here.setHeapUsed s₂.heap s₂.slotsUsed).setVm hW'.alike, X.tail, State.WarmedH.trans X.warmed hW', X.limits, X.bytes, X.same.trans (hsame.setVm s.vm)⟩,
      ⟨g, mk, s₂, L, rfl, rfl, hqc, rfl, hL, rfl, rfl⟩, ?_⟩
    show Steps p.tables e below _ ((({ U with heap := s₂.heap, slotsUsed := s₂.slotsUsed } : State).setVm s₂.vm).setTop { g with pc := g.pc + len₂, stack := v.toList ++ g.stack })
    rw [← hs₂]
    exact hsteps
  · obtain ⟨e2, q2, q3, q4, q5, q6⟩ := id hsm
    have e3 : s₂ = ({ (U.calling g mk a).setFrames s₂.frames with heap := s₂.heap, slotsUsed := s₂.slotsUsed } : State).setVm s₂.vm := by
      have : s₂ = ({ s₂ with vm := (U.calling g mk a).vm } : State).setVm s₂.vm := rfl
      rw [e2] at this
      exact this
    have hf₂ : s₂.frames = .throwing q :: .java g :: U.frames.tail := hend
    have hW' : U.WarmedH s₂.vm := hW₂
    have hs₂ : s₂ = ((({ U with heap := s₂.heap, slotsUsed := s₂.slotsUsed } : State).setVm s₂.vm).setTop g).pushFrame (.throwing q) := by
      refine e3.trans ?_
      rw [hf₂, State.calling_eq h.top, State.setFrames_setFrames, State.pushFrame, State.frames_setTop _ hr', State.setTop_of_frames _ hr', State.setFrames_setFrames, hr]
      rfl
    have hsame : U.sameButNew ({ U with heap := s₂.heap, slotsUsed := s₂.slotsUsed } : State) L mc ms := by
      refine ⟨?_, q2, q3, q4, q5, q6⟩
      obtain ⟨t, ht, -⟩ := State.frames_cons hr
      show ({ U with heap := s₂.heap, slotsUsed := s₂.slotsUsed } : State) = { U.setFrames U.frames with heap := s₂.heap, slotsUsed := s₂.slotsUsed }
      rw [State.setFrames_self ht]
    subst hg
    refine Or.inr ⟨q, ⟨(({ U with heap := s₂.heap, slotsUsed := s₂.slotsUsed } : State).setVm s₂.vm), Ls ++ L, c0 + mc, s0 + ms⟩,
      ⟨X.admits, X.cas, X.clock, X.frames, X.room, X.hears, X.method, X.code, (X.here.setHeapUsed s₂.heap s₂.slotsUsed).setVm hW'.alike, X.tail, State.WarmedH.trans X.warmed hW', X.limits, X.bytes, X.same.trans (hsame.setVm s.vm)⟩,
      ⟨g, mk, s₂, L, E, ce, rfl, rfl, hx, hce, hcv, hcl, rfl, hL, rfl, rfl⟩, ?_⟩
    show Steps p.tables e below _ (((({ U with heap := s₂.heap, slotsUsed := s₂.slotsUsed } : State).setVm s₂.vm).setTop g).pushFrame (.throwing q))
    rw [← hs₂]
    exact hsteps
end Payer
section Calls
variable {p : Program} {l : Launch} {e : Env} {R : Room} {s : State} {m : MethodId} {args : Array Value} {below : List Frame} {meth : Method} {c : Code} {T : State} {locs : List Loc} {cells slots : Nat}
theorem vx_callV (X : Stand p l e R s m args below meth c T locs cells slots) (hexec : p.tables.exec = Jvm.exec) {own C : String} {index : Nat} {y : MethodName} {bytes : ByteArray} {maxL : Nat} {ret : Option FieldType}
    (hown : s.vm.findClass own = some m.cls) (hlink : (Cond.methodLink own index y).before args s = true) (hinst : (Cond.instanceMethod y).before args s = true) (hsel : (Cond.selects C y y).before args s = true)
    (hcode : (Cond.code y bytes maxL ret).before args s = true) (hy : y.cls ≠ "java/lang/invoke/MethodHandle" ∧ y.cls ≠ "java/lang/invoke/VarHandle")
    {W9 : Nat} {Pre : Pt → Array Value → Prop} {Post : Pt → Array Value → Option Value → Pt → Prop} {PostX : Pt → Array Value → Addr → Pt → Prop} (hK : vx_Back l R p e below s args y 3 W9 Pre Post PostX)
    {b : Addr} {cellB : Cell} (hcell : T.heap[b]? = some cellB) (hobj : cellB.vm.isStatics = false) (hcls : s.vm.findClass C = some cellB.cls)
    {g : JFrame} (hg : g.method = m) (hsize : g.locals.size = c.maxLocals) {argsL rest : List Value} (hlen : ∀ sig, parseMethodDescriptor y.desc = some sig → argsL.length = sig.parameters.length)
    (hstack : g.stack = argsL.reverse ++ .ref b :: rest) (hW : 2 * g.monitorRoom + (rest.map fun v => v.category).sum ≤ W9) (hdg : decode c.code g.pc = .ok (.invokevirtual index, 3))
    (hpre : ∀ vm₁, s.WarmedH vm₁ → Pre ⟨T.setVm vm₁, locs, cells, slots⟩ (Value.ref b :: argsL).toArray) :
    (∃ (v : Option Value) (vm₁ : Vm) (B : Pt), s.WarmedH vm₁ ∧ Stand p l e R s m args below meth c B.U B.locs B.cells B.slots ∧ Post ⟨T.setVm vm₁, locs, cells, slots⟩ (Value.ref b :: argsL).toArray v B ∧
      ∀ target, Steps p.tables e below (B.U.setTop { g with pc := g.pc + 3, stack := v.toList ++ rest }) target → Steps p.tables e below (T.setTop g) target) ∨
    (∃ (q : Addr) (vm₁ : Vm) (B : Pt), s.WarmedH vm₁ ∧ Stand p l e R s m args below meth c B.U B.locs B.cells B.slots ∧ PostX ⟨T.setVm vm₁, locs, cells, slots⟩ (Value.ref b :: argsL).toArray q B ∧
      Steps p.tables e below (T.setTop g) ((B.U.setTop { g with stack := rest }).pushFrame (.throwing q))) := by
  obtain ⟨mk, methM, hnamed, hmethM, hstM, habM⟩ := Cond.instanceMethod_spec hinst
  obtain ⟨methM', cM, hmethM', -, -, -, -, -, -, hsigM⟩ := Cond.code_spec hnamed hcode
  cases hmethM.symm.trans hmethM'
  obtain ⟨c2, r2, m2, q1, q2, q3, q4, kP, hkP, hkPi⟩ := Cond.selects_spec hsel
  cases hcls.symm.trans q1
  cases (State.methodFound?_of_named hnamed hy).symm.trans q2
  cases hnamed.symm.trans q3
  have hselP : selectMethod e.platform s.vm cellB.cls mk = .method mk := by rw [Launch.admits_selectMethod X.admits]; exact q4
  obtain ⟨vm₁, X₁, hstep₁⟩ := X.invokevirtual hexec hown hlink hnamed hmethM hstM hkP hkPi hy (a := b) (cell := cellB) hcell
    (fun z h => by rw [h] at hobj; cases hobj) hselP hmethM habM hkP hkPi (g := g) hg (argsL := argsL) (rest := rest) (hlen _ hsigM) hstack hdg
  rcases hK m meth c ⟨T.setVm vm₁, locs, cells, slots⟩ { g with stack := rest } (.invokevirtual index) mk (Value.ref b :: argsL).toArray X₁ hg hsize hdg hW (X₁.named hnamed) (hpre vm₁ X₁.warmed) with ⟨v, B, X', hpost, hsteps⟩ | ⟨q, B, X', hpost, hsteps⟩
  · exact Or.inl ⟨v, vm₁, B, X₁.warmed, X', hpost, fun target h => hstep₁ _ fun acts => by rw [doInvoke_state]; exact hsteps.trans h⟩
  · exact Or.inr ⟨q, vm₁, B, X₁.warmed, X', hpost, hstep₁ _ fun acts => by rw [doInvoke_state]; exact hsteps⟩
theorem vx_callS (X : Stand p l e R s m args below meth c T locs cells slots) (hexec : p.tables.exec = Jvm.exec) {own : String} {index : Nat} {y : MethodName} {bytes : ByteArray} {maxL : Nat} {ret : Option FieldType}
    (hown : s.vm.findClass own = some m.cls) (hlink : (Cond.methodLink own index y).before args s = true) (hstat : (Cond.static y).before args s = true) (hinit : (Cond.initialized y.cls).before args s = true)
    (hcode : (Cond.code y bytes maxL ret).before args s = true) (hy : y.cls ≠ "java/lang/invoke/MethodHandle" ∧ y.cls ≠ "java/lang/invoke/VarHandle")
    {W9 : Nat} {Pre : Pt → Array Value → Prop} {Post : Pt → Array Value → Option Value → Pt → Prop} {PostX : Pt → Array Value → Addr → Pt → Prop} (hK : vx_Back l R p e below s args y 3 W9 Pre Post PostX)
    {g : JFrame} (hg : g.method = m) (hsize : g.locals.size = c.maxLocals) {argsL rest : List Value} (hlen : ∀ sig, parseMethodDescriptor y.desc = some sig → argsL.length = sig.parameters.length)
    (hstack : g.stack = argsL.reverse ++ rest) (hW : 2 * g.monitorRoom + (rest.map fun v => v.category).sum ≤ W9) (hdg : decode c.code g.pc = .ok (.invokestatic index, 3))
    (hpre : ∀ vm₁, s.WarmedH vm₁ → Pre ⟨T.setVm vm₁, locs, cells, slots⟩ argsL.toArray) :
    (∃ (v : Option Value) (vm₁ : Vm) (B : Pt), s.WarmedH vm₁ ∧ Stand p l e R s m args below meth c B.U B.locs B.cells B.slots ∧ Post ⟨T.setVm vm₁, locs, cells, slots⟩ argsL.toArray v B ∧
      ∀ target, Steps p.tables e below (B.U.setTop { g with pc := g.pc + 3, stack := v.toList ++ rest }) target → Steps p.tables e below (T.setTop g) target) ∨
    (∃ (q : Addr) (vm₁ : Vm) (B : Pt), s.WarmedH vm₁ ∧ Stand p l e R s m args below meth c B.U B.locs B.cells B.slots ∧ PostX ⟨T.setVm vm₁, locs, cells, slots⟩ argsL.toArray q B ∧
      Steps p.tables e below (T.setTop g) ((B.U.setTop { g with stack := rest }).pushFrame (.throwing q))) := by
  obtain ⟨mk, hnamed⟩ := Cond.code_named hcode
  obtain ⟨methM, cM, hmethM, -, -, -, -, -, -, hsigM⟩ := Cond.code_spec hnamed hcode
  have hstatic : methM.isStatic = true := Cond.static_spec hnamed hmethM hstat
  obtain ⟨kP, hkP, -⟩ := className_of_methodNamed hnamed
  have hinitP : kP.init = .initialized := Cond.initialized_spec (findClass_of_methodNamed hnamed) hkP hinit
  obtain ⟨vm₁, X₁, hstep₁⟩ := X.invokestatic hexec hown hlink hnamed hmethM hstatic hkP hinitP hy (g := g) hg (argsL := argsL) (rest := rest) (hlen _ hsigM) hstack hdg
  rcases hK m meth c ⟨T.setVm vm₁, locs, cells, slots⟩ { g with stack := rest } (.invokestatic index) mk argsL.toArray X₁ hg hsize hdg hW (X₁.named hnamed) (hpre vm₁ X₁.warmed) with ⟨v, B, X', hpost, hsteps⟩ | ⟨q, B, X', hpost, hsteps⟩
  · exact Or.inl ⟨v, vm₁, B, X₁.warmed, X', hpost, fun target h => hstep₁ _ fun acts => by rw [doInvoke_state]; exact hsteps.trans h⟩
  · exact Or.inr ⟨q, vm₁, B, X₁.warmed, X', hpost, hstep₁ _ fun acts => by rw [doInvoke_state]; exact hsteps⟩
end Calls
theorem vx_cls {s : State} {T : State} {vm₁ : Vm} {E : String} {k : ClassId} (hW : s.WarmedH vm₁) (h : (T.setVm vm₁).vm.findClass E = some k) : s.vm.findClass E = some k := by
  have h1 : vm₁.findClass E = some k := h
  rw [hW.alike.findClass] at h1
  exact h1
/-- the method's frame g, with q thrown over it -/
def vx_W (p : Program) (l : Launch) (e : Env) (R : Room) (s : State) (m : MethodId) (args : Array Value) (below : List Frame) (meth : Method) (c : Code) (H : Heap) (locs : List Loc) (cells slots : Nat) (Q : State → Prop) (g : JFrame) (q : Addr) : Prop :=
  ∀ T : State, T.heap = H → Stand p l e R s m args below meth c T locs cells slots → ∃ t, Steps p.tables e below ((T.setTop g).pushFrame (.throwing q)) t ∧ Q t
def vx_Run (p : Program) (l : Launch) (e : Env) (R : Room) (s : State) (m : MethodId) (args : Array Value) (below : List Frame) (meth : Method) (c : Code) (H : Heap) (locs : List Loc) (cells slots mc ms : Nat) (g : JFrame) (rest : List Value) (Qa : State → Outcome → State → Prop) (XC : String → State → State → Prop) (free : Addr → Prop) : Prop :=
  ∀ T : State, T.heap = H → Stand p l e R s m args below meth c T locs cells slots →
    (∃ (v : Option Value) (st₀ t T' : State) (L : List Loc), st₀.heap = H ∧ Stand p l e R s m args below meth c T' (locs ++ L) (cells + mc) (slots + ms) ∧ (∀ q ∈ L, free q.base) ∧ T'.heap = t.heap ∧ T'.vm = t.vm ∧ Qa st₀ (.returned v) t ∧
      Goes p e below T g T' { g with pc := g.pc + 3, stack := v.toList ++ rest }) ∨
    (∃ (q : Addr) (st₀ t T' : State) (L : List Loc) (E : String) (ce : Cell), st₀.heap = H ∧ Stand p l e R s m args below meth c T' (locs ++ L) (cells + mc) (slots + ms) ∧ (∀ z ∈ L, free z.base) ∧ T'.heap = t.heap ∧ T'.vm = t.vm ∧ XC E st₀ t ∧ t.heap[q]? = some ce ∧ ce.vm = .none ∧ s.vm.findClass E = some ce.cls ∧
      Steps p.tables e below (T.setTop g) ((T'.setTop { g with stack := rest }).pushFrame (.throwing q)))
def vx_X {S : Type} (px : S → Prop) (B : String → S → State → Prop) (A : Nat → Prop) : String → State → State → Prop := fun E st t => ∃ u : S, px u ∧ B E u t ∧ va_F A st t
section Runs
variable {p : Program} {l : Launch} {e : Env} {R : Room} {s : State} {m : MethodId} {args : Array Value} {below : List Frame} {meth : Method} {c : Code} {H : Heap} {locs : List Loc} {cells slots : Nat}
variable {y : MethodName} {bytes cc : ByteArray} {maxL nL mc ms n index : Nat} {ret : Option FieldType} {ws : List Cond} {rm : Room} {Pc : Array Value → State → Prop} {Qc : Array Value → State → Outcome → State → Prop} {XC : String → State → State → Prop} {free : Addr → Prop} {Ts : List Cond} {own C : String} {b : Addr} {As rest : List Value} {g : JFrame}
theorem vx_callBack (cb : CallB R s args own index y bytes maxL ret ws rm mc ms n) (hM : vx_Met l y ws rm Pc Qc XC mc ms free) (hbl : FrameBlind Pc) : vx_Back l R p e below s args y 3 8 (PreOf R mc ms Pc) (PostOf Qc mc ms free) (vx_Post XC mc ms free) := by
  obtain ⟨hrc, hrs, hfr, hlo, hws, hcw, -, hini, -⟩ := cb
  exact vx_back (bytes := bytes) (maxL := maxL) (ret := ret) hM hbl hrc hrs hfr hlo hws hcw (fun a' U hW => word_at hW (Or.inl (by first | rfl | simp [Cond.onTables, Cond.keeps, Cond.steady])) hini)
theorem vx_runV (S : CallFix p m c cc nL s args Ts own) (hM : vx_Met l y ws rm Pc Qc XC mc ms free) (cw : CallW R s args own C index y bytes maxL ret ws rm mc ms n) (hp : PreV s H C b Pc As)
    (hg : g.method = m) (hn : As.length = n) (hsize : g.locals.size = nL) (hstack : g.stack = As.reverse ++ .ref b :: rest) (hW : 2 * g.monitorRoom + (rest.map fun v => v.category).sum ≤ 8) (hdg : decode cc g.pc = .ok (.invokevirtual index, 3)) (hf : cells + mc ≤ R.cells ∧ slots + ms ≤ R.slots) :
    vx_Run p l e R s m args below meth c H locs cells slots mc ms g rest (Qc (Value.ref b :: As).toArray) XC free := by
  have hK : vx_Back l R p e below s args y 3 8 (PreOf R mc ms Pc) (PostOf Qc mc ms free) (vx_Post XC mc ms free) := vx_callBack cw.1 hM hp.1
  obtain ⟨⟨-, -, -, -, -, -, hcode, -, hy, hlen, hl⟩, hin, hse⟩ := cw
  obtain ⟨hx, hb, hml, ho, -⟩ := S
  obtain ⟨-, ⟨cellB, hcB, hoB, hclB⟩, hPc⟩ := hp
  intro T hT X
  rcases vx_callV X hx (C := C) (bytes := bytes) (maxL := maxL) (ret := ret) ho hl hin hse hcode hy hK (by rw [hT]; exact hcB) hoB hclB hg (hsize.trans hml.symm) (argsL := As) (rest := rest) (fun sig h => hn.trans (hlen sig h)) hstack hW (by rw [hb]; exact hdg)
    (fun vm₁ hW₁ => ⟨hf.1, hf.2, hPc (T.setVm vm₁) hT hW₁⟩) with ⟨v, vm₁, ⟨U', l2, c2, s2⟩, hW₁, X', ⟨g', mk, t, L, e1, e2, hq, h1, hL, h2, h3⟩, st⟩ | ⟨q, vm₁, ⟨U', l2, c2, s2⟩, hW₁, X', ⟨g', mk, t, L, E, ce, e1, e2, hq, hce, hcv, hcl, h1, hL, h2, h3⟩, st⟩
  · dsimp only [Pt.U, Pt.locs, Pt.cells, Pt.slots] at X' e1 e2 h1 h2 h3 st
    subst h1; subst h2; subst h3
    exact Or.inl ⟨v, (T.setVm vm₁).calling g' mk (Value.ref b :: As).toArray, t, U', L, hT, X', hL, e1, e2, hq, st⟩
  · dsimp only [Pt.U, Pt.locs, Pt.cells, Pt.slots] at X' e1 e2 h1 h2 h3 st hcl
    subst h1; subst h2; subst h3
    exact Or.inr ⟨q, (T.setVm vm₁).calling g' mk (Value.ref b :: As).toArray, t, U', L, E, ce, hT, X', hL, e1, e2, hq, hce, hcv, vx_cls hW₁ hcl, st⟩
theorem vx_runS (S : CallFix p m c cc nL s args Ts own) (hM : vx_Met l y ws rm Pc Qc XC mc ms free) (cw : CallB R s args own index y bytes maxL ret ws rm mc ms n ∧ (Cond.static y).before args s = true) (hp : PreS s H Pc As)
    (hg : g.method = m) (hn : As.length = n) (hsize : g.locals.size = nL) (hstack : g.stack = As.reverse ++ rest) (hW : 2 * g.monitorRoom + (rest.map fun v => v.category).sum ≤ 8) (hdg : decode cc g.pc = .ok (.invokestatic index, 3)) (hf : cells + mc ≤ R.cells ∧ slots + ms ≤ R.slots) :
    vx_Run p l e R s m args below meth c H locs cells slots mc ms g rest (Qc As.toArray) XC free := by
  have hK : vx_Back l R p e below s args y 3 8 (PreOf R mc ms Pc) (PostOf Qc mc ms free) (vx_Post XC mc ms free) := vx_callBack cw.1 hM hp.1
  obtain ⟨⟨-, -, -, -, -, -, hcode, hini, hy, hlen, hl⟩, hstt⟩ := cw
  obtain ⟨hx, hb, hml, ho, -⟩ := S
  intro T hT X
  rcases vx_callS X hx (bytes := bytes) (maxL := maxL) (ret := ret) ho hl hstt hini hcode hy hK hg (hsize.trans hml.symm) (argsL := As) (rest := rest) (fun sig h => hn.trans (hlen sig h)) hstack hW (by rw [hb]; exact hdg)
    (fun vm₁ hW₁ => ⟨hf.1, hf.2, hp.2 (T.setVm vm₁) hT hW₁⟩) with ⟨v, vm₁, ⟨U', l2, c2, s2⟩, hW₁, X', ⟨g', mk, t, L, e1, e2, hq, h1, hL, h2, h3⟩, st⟩ | ⟨q, vm₁, ⟨U', l2, c2, s2⟩, hW₁, X', ⟨g', mk, t, L, E, ce, e1, e2, hq, hce, hcv, hcl, h1, hL, h2, h3⟩, st⟩
  · dsimp only [Pt.U, Pt.locs, Pt.cells, Pt.slots] at X' e1 e2 h1 h2 h3 st
    subst h1; subst h2; subst h3
    exact Or.inl ⟨v, (T.setVm vm₁).calling g' mk As.toArray, t, U', L, hT, X', hL, e1, e2, hq, st⟩
  · dsimp only [Pt.U, Pt.locs, Pt.cells, Pt.slots] at X' e1 e2 h1 h2 h3 st hcl
    subst h1; subst h2; subst h3
    exact Or.inr ⟨q, (T.setVm vm₁).calling g' mk As.toArray, t, U', L, E, ce, hT, X', hL, e1, e2, hq, hce, hcv, vx_cls hW₁ hcl, st⟩
end Runs
section Rows
variable {p : Program} {l : Launch} {e : Env} {R : Room} {s : State} {m : MethodId} {args : Array Value} {below : List Frame} {meth : Method} {c : Code} {H : Heap} {locs : List Loc} {cells slots : Nat} {Q : State → Prop}
variable {mc ms : Nat} {free : Addr → Prop} {A0 A1 : Nat → Prop} {H0 : Heap} {a : Array Value} {pc : Nat} {ls : Array Slot} {st0 rest : List Value}
theorem vx_keep {st₀ t T' : State} {L : List Loc} (h0 : st₀.heap = H) (e1 : T'.heap = t.heap) (hS : va_S A0 H0 H locs) (hA : ∀ q, q < H.size → A1 q → A0 q) (hf : ∀ q, free q → A0 q) (hL : ∀ q ∈ L, free q.base) (hF : va_F A1 st₀ t) :
    H.size ≤ T'.heap.size ∧ (∀ q : Nat, q < H.size → ¬ A1 q → T'.heap[q]? = H[q]?) ∧ va_S A0 H0 T'.heap (locs ++ L) := by
  obtain ⟨hz, hk⟩ := hF
  rw [h0] at hz hk
  exact ⟨by rw [e1]; exact hz, fun q h1 h2 => by rw [e1]; exact hk q h1 h2,
    ⟨Nat.le_trans hS.1 (by rw [e1]; exact hz), fun q h1 h2 => by rw [e1, hk q (Nat.lt_of_lt_of_le h1 hS.1) (fun z => h2 (hA q (Nat.lt_of_lt_of_le h1 hS.1) z))]; exact hS.2.1 q h1 h2, fun q hq => by
      rcases List.mem_append.mp hq with h | h
      · exact hS.2.2 q h
      · exact hf _ (hL q h)⟩⟩
theorem vx_calli {S SX : Type} {post : Int32 → S → Prop} {px : SX → Prop} {B : S → State → Prop} {BX : String → SX → State → Prop} {AX : Nat → Prop} (hr : vx_Run p l e R s m args below meth c H locs cells slots mc ms (F0 m pc ls st0) rest (va_Qi post B A1 a) (vx_X px BX AX) free) (hS : va_S A0 H0 H locs) (hA : ∀ q, q < H.size → A1 q → A0 q) (hf : ∀ q, free q → A0 q) (hAX : ∀ q, q < H.size → AX q → A0 q)
    (kx : ∀ (E : String) (ce : Cell) (q9 : Addr) (u : SX) (t : State) (H1 : Heap) (locs1 : List Loc), t.heap = H1 → s.vm.Alike t.vm → px u → BX E u t → H.size ≤ H1.size → (∀ q : Nat, q < H.size → ¬ AX q → H1[q]? = H[q]?) → va_S A0 H0 H1 locs1 → H1[q9]? = some ce → ce.vm = .none → s.vm.findClass E = some ce.cls → vx_W p l e R s m args below meth c H1 locs1 (cells + mc) (slots + ms) Q (F0 m pc ls rest) q9)
    (kk : ∀ (r : Int32) (u : S) (t : State) (H1 : Heap) (locs1 : List Loc), t.heap = H1 → s.vm.Alike t.vm → post r u → B u t → H.size ≤ H1.size → (∀ q : Nat, q < H.size → ¬ A1 q → H1[q]? = H[q]?) → va_S A0 H0 H1 locs1 → W p l e R s m args below meth c H1 locs1 (cells + mc) (slots + ms) Q (F0 m (pc + 3) ls (.int r :: rest))) : W p l e R s m args below meth c H locs cells slots Q (F0 m pc ls st0) := by
  intro T hT X
  rcases hr T hT X with ⟨v, st₀, t, T', L, h0, X', hL, e1, e2, ⟨⟨r, u, hv, hp, hb⟩, hF⟩, st⟩ | ⟨q, st₀, t, T', L, E, ce, h0, X', hL, e1, e2, ⟨u, hp, hb, hF⟩, hce, hcv, hcl, st⟩
  · cases hv
    obtain ⟨k1, k2, k3⟩ := vx_keep h0 e1 hS hA hf hL hF
    obtain ⟨t2, a1, b1⟩ := kk r u t T'.heap (locs ++ L) e1.symm (by rw [← e2]; exact X'.warmed.alike) hp hb k1 k2 k3 T' rfl X'
    exact ⟨t2, st t2 a1, b1⟩
  · obtain ⟨k1, k2, k3⟩ := vx_keep h0 e1 hS hAX hf hL hF
    obtain ⟨t2, a1, b1⟩ := kx E ce q u t T'.heap (locs ++ L) e1.symm (by rw [← e2]; exact X'.warmed.alike) hp hb k1 k2 k3 (by rw [e1]; exact hce) hcv hcl T' rfl X'
    exact ⟨t2, st.trans a1, b1⟩
theorem vx_calll {S SX : Type} {post : Int64 → S → Prop} {px : SX → Prop} {B : S → State → Prop} {BX : String → SX → State → Prop} {AX : Nat → Prop} (hr : vx_Run p l e R s m args below meth c H locs cells slots mc ms (F0 m pc ls st0) rest (va_Ql post B A1 a) (vx_X px BX AX) free) (hS : va_S A0 H0 H locs) (hA : ∀ q, q < H.size → A1 q → A0 q) (hf : ∀ q, free q → A0 q) (hAX : ∀ q, q < H.size → AX q → A0 q)
    (kx : ∀ (E : String) (ce : Cell) (q9 : Addr) (u : SX) (t : State) (H1 : Heap) (locs1 : List Loc), t.heap = H1 → s.vm.Alike t.vm → px u → BX E u t → H.size ≤ H1.size → (∀ q : Nat, q < H.size → ¬ AX q → H1[q]? = H[q]?) → va_S A0 H0 H1 locs1 → H1[q9]? = some ce → ce.vm = .none → s.vm.findClass E = some ce.cls → vx_W p l e R s m args below meth c H1 locs1 (cells + mc) (slots + ms) Q (F0 m pc ls rest) q9)
    (kk : ∀ (r : Int64) (u : S) (t : State) (H1 : Heap) (locs1 : List Loc), t.heap = H1 → s.vm.Alike t.vm → post r u → B u t → H.size ≤ H1.size → (∀ q : Nat, q < H.size → ¬ A1 q → H1[q]? = H[q]?) → va_S A0 H0 H1 locs1 → W p l e R s m args below meth c H1 locs1 (cells + mc) (slots + ms) Q (F0 m (pc + 3) ls (.long r :: rest))) : W p l e R s m args below meth c H locs cells slots Q (F0 m pc ls st0) := by
  intro T hT X
  rcases hr T hT X with ⟨v, st₀, t, T', L, h0, X', hL, e1, e2, ⟨⟨r, u, hv, hp, hb⟩, hF⟩, st⟩ | ⟨q, st₀, t, T', L, E, ce, h0, X', hL, e1, e2, ⟨u, hp, hb, hF⟩, hce, hcv, hcl, st⟩
  · cases hv
    obtain ⟨k1, k2, k3⟩ := vx_keep h0 e1 hS hA hf hL hF
    obtain ⟨t2, a1, b1⟩ := kk r u t T'.heap (locs ++ L) e1.symm (by rw [← e2]; exact X'.warmed.alike) hp hb k1 k2 k3 T' rfl X'
    exact ⟨t2, st t2 a1, b1⟩
  · obtain ⟨k1, k2, k3⟩ := vx_keep h0 e1 hS hAX hf hL hF
    obtain ⟨t2, a1, b1⟩ := kx E ce q u t T'.heap (locs ++ L) e1.symm (by rw [← e2]; exact X'.warmed.alike) hp hb k1 k2 k3 (by rw [e1]; exact hce) hcv hcl T' rfl X'
    exact ⟨t2, st.trans a1, b1⟩
theorem vx_callf {S SX : Type} {post : UInt32 → S → Prop} {px : SX → Prop} {B : S → State → Prop} {BX : String → SX → State → Prop} {AX : Nat → Prop} (hr : vx_Run p l e R s m args below meth c H locs cells slots mc ms (F0 m pc ls st0) rest (va_Qf post B A1 a) (vx_X px BX AX) free) (hS : va_S A0 H0 H locs) (hA : ∀ q, q < H.size → A1 q → A0 q) (hf : ∀ q, free q → A0 q) (hAX : ∀ q, q < H.size → AX q → A0 q)
    (kx : ∀ (E : String) (ce : Cell) (q9 : Addr) (u : SX) (t : State) (H1 : Heap) (locs1 : List Loc), t.heap = H1 → s.vm.Alike t.vm → px u → BX E u t → H.size ≤ H1.size → (∀ q : Nat, q < H.size → ¬ AX q → H1[q]? = H[q]?) → va_S A0 H0 H1 locs1 → H1[q9]? = some ce → ce.vm = .none → s.vm.findClass E = some ce.cls → vx_W p l e R s m args below meth c H1 locs1 (cells + mc) (slots + ms) Q (F0 m pc ls rest) q9)
    (kk : ∀ (r : UInt32) (u : S) (t : State) (H1 : Heap) (locs1 : List Loc), t.heap = H1 → s.vm.Alike t.vm → post r u → B u t → H.size ≤ H1.size → (∀ q : Nat, q < H.size → ¬ A1 q → H1[q]? = H[q]?) → va_S A0 H0 H1 locs1 → W p l e R s m args below meth c H1 locs1 (cells + mc) (slots + ms) Q (F0 m (pc + 3) ls (.float r :: rest))) : W p l e R s m args below meth c H locs cells slots Q (F0 m pc ls st0) := by
  intro T hT X
  rcases hr T hT X with ⟨v, st₀, t, T', L, h0, X', hL, e1, e2, ⟨⟨r, u, hv, hp, hb⟩, hF⟩, st⟩ | ⟨q, st₀, t, T', L, E, ce, h0, X', hL, e1, e2, ⟨u, hp, hb, hF⟩, hce, hcv, hcl, st⟩
  · cases hv
    obtain ⟨k1, k2, k3⟩ := vx_keep h0 e1 hS hA hf hL hF
    obtain ⟨t2, a1, b1⟩ := kk r u t T'.heap (locs ++ L) e1.symm (by rw [← e2]; exact X'.warmed.alike) hp hb k1 k2 k3 T' rfl X'
    exact ⟨t2, st t2 a1, b1⟩
  · obtain ⟨k1, k2, k3⟩ := vx_keep h0 e1 hS hAX hf hL hF
    obtain ⟨t2, a1, b1⟩ := kx E ce q u t T'.heap (locs ++ L) e1.symm (by rw [← e2]; exact X'.warmed.alike) hp hb k1 k2 k3 (by rw [e1]; exact hce) hcv hcl T' rfl X'
    exact ⟨t2, st.trans a1, b1⟩
theorem vx_calld {S SX : Type} {post : UInt64 → S → Prop} {px : SX → Prop} {B : S → State → Prop} {BX : String → SX → State → Prop} {AX : Nat → Prop} (hr : vx_Run p l e R s m args below meth c H locs cells slots mc ms (F0 m pc ls st0) rest (va_Qd post B A1 a) (vx_X px BX AX) free) (hS : va_S A0 H0 H locs) (hA : ∀ q, q < H.size → A1 q → A0 q) (hf : ∀ q, free q → A0 q) (hAX : ∀ q, q < H.size → AX q → A0 q)
    (kx : ∀ (E : String) (ce : Cell) (q9 : Addr) (u : SX) (t : State) (H1 : Heap) (locs1 : List Loc), t.heap = H1 → s.vm.Alike t.vm → px u → BX E u t → H.size ≤ H1.size → (∀ q : Nat, q < H.size → ¬ AX q → H1[q]? = H[q]?) → va_S A0 H0 H1 locs1 → H1[q9]? = some ce → ce.vm = .none → s.vm.findClass E = some ce.cls → vx_W p l e R s m args below meth c H1 locs1 (cells + mc) (slots + ms) Q (F0 m pc ls rest) q9)
    (kk : ∀ (r : UInt64) (u : S) (t : State) (H1 : Heap) (locs1 : List Loc), t.heap = H1 → s.vm.Alike t.vm → post r u → B u t → H.size ≤ H1.size → (∀ q : Nat, q < H.size → ¬ A1 q → H1[q]? = H[q]?) → va_S A0 H0 H1 locs1 → W p l e R s m args below meth c H1 locs1 (cells + mc) (slots + ms) Q (F0 m (pc + 3) ls (.double r :: rest))) : W p l e R s m args below meth c H locs cells slots Q (F0 m pc ls st0) := by
  intro T hT X
  rcases hr T hT X with ⟨v, st₀, t, T', L, h0, X', hL, e1, e2, ⟨⟨r, u, hv, hp, hb⟩, hF⟩, st⟩ | ⟨q, st₀, t, T', L, E, ce, h0, X', hL, e1, e2, ⟨u, hp, hb, hF⟩, hce, hcv, hcl, st⟩
  · cases hv
    obtain ⟨k1, k2, k3⟩ := vx_keep h0 e1 hS hA hf hL hF
    obtain ⟨t2, a1, b1⟩ := kk r u t T'.heap (locs ++ L) e1.symm (by rw [← e2]; exact X'.warmed.alike) hp hb k1 k2 k3 T' rfl X'
    exact ⟨t2, st t2 a1, b1⟩
  · obtain ⟨k1, k2, k3⟩ := vx_keep h0 e1 hS hAX hf hL hF
    obtain ⟨t2, a1, b1⟩ := kx E ce q u t T'.heap (locs ++ L) e1.symm (by rw [← e2]; exact X'.warmed.alike) hp hb k1 k2 k3 (by rw [e1]; exact hce) hcv hcl T' rfl X'
    exact ⟨t2, st.trans a1, b1⟩
theorem vx_callv {S SX : Type} {post : S → Prop} {px : SX → Prop} {B : S → State → Prop} {BX : String → SX → State → Prop} {AX : Nat → Prop} (hr : vx_Run p l e R s m args below meth c H locs cells slots mc ms (F0 m pc ls st0) rest (va_Qv post B A1 a) (vx_X px BX AX) free) (hS : va_S A0 H0 H locs) (hA : ∀ q, q < H.size → A1 q → A0 q) (hf : ∀ q, free q → A0 q) (hAX : ∀ q, q < H.size → AX q → A0 q)
    (kx : ∀ (E : String) (ce : Cell) (q9 : Addr) (u : SX) (t : State) (H1 : Heap) (locs1 : List Loc), t.heap = H1 → s.vm.Alike t.vm → px u → BX E u t → H.size ≤ H1.size → (∀ q : Nat, q < H.size → ¬ AX q → H1[q]? = H[q]?) → va_S A0 H0 H1 locs1 → H1[q9]? = some ce → ce.vm = .none → s.vm.findClass E = some ce.cls → vx_W p l e R s m args below meth c H1 locs1 (cells + mc) (slots + ms) Q (F0 m pc ls rest) q9)
    (kk : ∀ (u : S) (t : State) (H1 : Heap) (locs1 : List Loc), t.heap = H1 → s.vm.Alike t.vm → post u → B u t → H.size ≤ H1.size → (∀ q : Nat, q < H.size → ¬ A1 q → H1[q]? = H[q]?) → va_S A0 H0 H1 locs1 → W p l e R s m args below meth c H1 locs1 (cells + mc) (slots + ms) Q (F0 m (pc + 3) ls (rest))) : W p l e R s m args below meth c H locs cells slots Q (F0 m pc ls st0) := by
  intro T hT X
  rcases hr T hT X with ⟨v, st₀, t, T', L, h0, X', hL, e1, e2, ⟨⟨u, hv, hp, hb⟩, hF⟩, st⟩ | ⟨q, st₀, t, T', L, E, ce, h0, X', hL, e1, e2, ⟨u, hp, hb, hF⟩, hce, hcv, hcl, st⟩
  · cases hv
    obtain ⟨k1, k2, k3⟩ := vx_keep h0 e1 hS hA hf hL hF
    obtain ⟨t2, a1, b1⟩ := kk u t T'.heap (locs ++ L) e1.symm (by rw [← e2]; exact X'.warmed.alike) hp hb k1 k2 k3 T' rfl X'
    exact ⟨t2, st t2 a1, b1⟩
  · obtain ⟨k1, k2, k3⟩ := vx_keep h0 e1 hS hAX hf hL hF
    obtain ⟨t2, a1, b1⟩ := kx E ce q u t T'.heap (locs ++ L) e1.symm (by rw [← e2]; exact X'.warmed.alike) hp hb k1 k2 k3 (by rw [e1]; exact hce) hcv hcl T' rfl X'
    exact ⟨t2, st.trans a1, b1⟩
/-- caught by the row x of this method's table; the rows ahead don't take it -/
theorem vx_catch {own name : String} {E : String} {ce : Cell} {q : Addr} (hown : s.vm.findClass own = some m.cls) (pre : List ExceptionTableEntry) (x : ExceptionTableEntry) (suf : List ExceptionTableEntry) (hsplit : c.exceptionTable.toList = pre ++ x :: suf)
    (hpass : ∀ z ∈ pre, covers z pc = false ∨ (z.catchType ≠ 0 ∧ ∃ nm : String, (Cond.classLink own z.catchType nm).before args s = true ∧ va_Nc E nm s)) (hx : covers x pc = true) (h0 : x.catchType ≠ 0)
    (hlink : (Cond.classLink own x.catchType name).before args s = true) (hcast : (Cond.castable E name).before args s = true) (hcell : H[q]? = some ce) (hv : ce.vm = .none) (hcl : s.vm.findClass E = some ce.cls)
    (kk : W p l e R s m args below meth c H locs cells slots Q (F0 m x.handlerPc ls [.ref q])) : vx_W p l e R s m args below meth c H locs cells slots Q (F0 m pc ls rest) q := by
  intro T hT X
  have hpl : e.platform.magicAccessors = ({} : Platform).magicAccessors := by rw [X.admits.platform]
  obtain ⟨c3, c4, hc3, hc4, hasg⟩ := Cond.castable_spec hcast
  cases Option.some.inj (hc3.symm.trans hcl)
  obtain ⟨c5, hc5, hcl5⟩ := Cond.classLink_spec hown hlink e.platform hpl
  cases Option.some.inj (hc4.symm.trans hc5)
  obtain ⟨vm', X', st⟩ := X.thenCaughtThrough q (g := F0 m pc ls rest) rfl (Steps.refl _) (by rw [hT]; exact hcell) (by rw [hv]; rfl) (by obtain ⟨k9, h9, -⟩ := Vm.findClass_spec hcl; exact ⟨k9, h9⟩) pre x suf hsplit
    (fun z hz => by
      rcases hpass z hz with h | ⟨hz0, nm, hl1, hn1⟩
      · exact Or.inl h
      · obtain ⟨c6, hc6, hcl6⟩ := Cond.classLink_spec hown hl1 e.platform hpl
        obtain ⟨a8, b8, h1, h2, h3⟩ := hn1
        cases Option.some.inj (h1.symm.trans hcl)
        cases Option.some.inj (h2.symm.trans hc6)
        exact Or.inr ⟨hz0, _, hcl6, h3⟩) hx (Or.inr ⟨h0, c4, hcl5, hasg⟩)
  obtain ⟨t, a1, b1⟩ := kk (T.setVm vm') hT X'
  exact ⟨t, st.trans a1, b1⟩
end Rows
section Ends
variable {p : Program} {l : Launch} {e : Env} {R : Room} {s : State} {m : MethodId} {args : Array Value} {below : List Frame} {meth : Method} {c : Code} {H : Heap} {locs : List Loc} {cells slots : Nat} {Q : State → Prop}
variable {mc ms : Nat} {free : Addr → Prop} {A0 A1 : Nat → Prop} {H0 : Heap} {a : Array Value} {ls : Array Slot} {st0 rest : List Value}
variable {Qc : Array Value → State → Outcome → State → Prop} {XC : String → State → State → Prop}
/-- what a body that may throw owes at its end -/
def vx_MQ (below : List Frame) (Qc : Array Value → State → Outcome → State → Prop) (XC : String → State → State → Prop) (a : Array Value) (s : State) (mc ms : Nat) (free : Addr → Prop) : State → Prop := fun t =>
  ∃ o, t.status = .running ∧ Ended t below o ∧ vx_Q Qc XC mc ms free a s o t
theorem vx_ret {g : JFrame} {mc ms : Nat} (k : W p l e R s m args below meth c H locs cells slots (MQ below Qc args s mc ms free) g) : W p l e R s m args below meth c H locs cells slots (vx_MQ below Qc XC args s mc ms free) g := by
  intro T hT X
  obtain ⟨t, a1, o, b1, b2, b3, b4⟩ := k T hT X
  exact ⟨t, a1, o, b1, b2, Or.inl ⟨b3, b4⟩⟩
/-- not caught here: it goes on to the caller -/
theorem vx_widen {g : JFrame} {q : Addr} {k n : Nat} (h1 : cells ≤ k) (h2 : slots ≤ n) (kk : vx_W p l e R s m args below meth c H locs k n Q g q) : vx_W p l e R s m args below meth c H locs cells slots Q g q := fun T hT X => kk T hT (stand_widen X h1 h2)
theorem vx_out {pc : Nat} {E : String} {ce : Cell} {q : Addr} {mc ms : Nat} (hout : ∀ x ∈ c.exceptionTable.toList, covers x pc = false) (hlocks : meth.locks = false) (hcell : H[q]? = some ce) (hv : ce.vm = .none) (hcl : s.vm.findClass E = some ce.cls)
    (hx : ∀ t : State, t.heap = H → s.vm.Alike t.vm → XC E s t) (hf : ∀ z ∈ locs, free z.base) (hc : cells ≤ mc) (hs : slots ≤ ms) :
    vx_W p l e R s m args below meth c H locs cells slots (vx_MQ below Qc XC args s mc ms free) (F0 m pc ls rest) q := by
  intro T hT X
  obtain ⟨st1, hrun, hend, hW, hsm⟩ := X.leaveThrown q (g := F0 m pc ls rest) rfl rfl rfl hout hlocks
  have hcell9 : (T.setFrames (.throwing q :: below)).heap[q]? = some ce := by
    show T.heap[q]? = some ce
    rw [hT]; exact hcell
  exact ⟨_, st1, .threw q, hrun, hend, Or.inr ⟨q, rfl, E, ce, locs, hx _ hT hW.alike, hcell9, hv, hcl, hW, hsm.mono hc hs, hf⟩⟩
theorem vx_frame {U : State} {k n : Nat} (h : s.sameButNew ({ U with vm := s.vm } : State) locs k n) : s.heap.size ≤ U.heap.size ∧ ∀ q : Nat, q < s.heap.size → (∀ z ∈ locs, z.base ≠ q) → U.heap[q]? = s.heap[q]? := by
  obtain ⟨-, h2, -, -, -, h6⟩ := h
  refine ⟨h2, fun q hq hz => ?_⟩
  obtain ⟨c9, e1, e2, e3, e4⟩ := h6 q _ (Array.getElem?_eq_getElem hq)
  have hs : c9.slots = (s.heap[q]).slots := Array.ext_getElem? fun i => e4 i fun hm => hz _ hm rfl
  have h9 : c9 = s.heap[q] := by
    rw [hs] at e2
    exact e2
  have e5 : U.heap[q]? = some c9 := e1
  rw [e5, h9, Array.getElem?_eq_getElem hq]
/-- the words of a throw but the four that speak of the heap -/
def vx_no (w : Cond) : Bool := decide (w ≠ .isRef (.static Bundle.tN "UNASSIGNED_STACK" Bundle.steD)) && decide (w ≠ .isRef (.static Bundle.tN "SUPPRESSED_SENTINEL" Bundle.listD)) && decide (w ≠ .laysStatic Bundle.tN "UNASSIGNED_STACK" Bundle.steD) && decide (w ≠ .laysStatic Bundle.tN "SUPPRESSED_SENTINEL" Bundle.listD)
def vx_at0 (own : String) (ic : Nat) (X : String) (names : List String) : List Cond := (Bundle.ownAtoms0 own ic X names).filter vx_no
def vx_atS (own : String) (ic : Nat) (X : String) (names : List String) : List Cond := (Bundle.ownAtoms own ic X names).filter vx_no
/-- a word that the tables alone decide, or a good one -/
def vx_ot (w : Cond) : Bool := w.onTables || goodWord w
theorem vx_ot_at {args a' : Array Value} {s U : State} {w : Cond} (hW : s.WarmedH U.vm) (hvm : s.vm = U.vm) (hg : vx_ot w = true) (h : w.before args s = true) : w.before a' U = true := by
  simp only [vx_ot, Bool.or_eq_true] at hg
  rcases hg with hg | hg
  · exact va_tabs hg hvm h
  · exact word_at hW (good_of_word hg) h
/-- a list's words: the good ones out of the method's own list, the others by premises of their own -/
theorem vx_hat {args : Array Value} {s : State} {L B : List Cond} (h1 : ∀ w ∈ L.filter goodWord, w.before args s = true) (h2 : ∀ w ∈ L.filter (fun w => !goodWord w), w ∈ B) (h3 : ∀ w ∈ B, w.before args s = true) : ∀ w ∈ L, w.before args s = true := by
  intro w hw
  by_cases g : goodWord w = true
  · exact h1 w (List.mem_filter.mpr ⟨hw, g⟩)
  · refine h3 w (h2 w (List.mem_filter.mpr ⟨hw, ?_⟩))
    show (!goodWord w) = true
    cases hgw : goodWord w
    · rfl
    · exact absurd hgw g
theorem vx_c {args : Array Value} {s : State} {w : Cond} {B : List Cond} (h : w.before args s = true) (t : ∀ w ∈ B, w.before args s = true) : ∀ w' ∈ w :: B, w'.before args s = true := fun w' h' => (List.mem_cons.mp h').elim (fun e => by rw [e]; exact h) (t w')
theorem vx_n {args : Array Value} {s : State} : ∀ w ∈ ([] : List Cond), w.before args s = true := fun _ h => nomatch h
theorem vx_own {args : Array Value} {s : State} {L : List Cond} (h1 : ∀ w ∈ L.filter vx_no, w.before args s = true)
    (hU : (Cond.isRef (.static Bundle.tN "UNASSIGNED_STACK" Bundle.steD)).before args s = true) (hN : (Cond.isRef (.static Bundle.tN "SUPPRESSED_SENTINEL" Bundle.listD)).before args s = true)
    (lU : (Cond.laysStatic Bundle.tN "UNASSIGNED_STACK" Bundle.steD).before args s = true) (lN : (Cond.laysStatic Bundle.tN "SUPPRESSED_SENTINEL" Bundle.listD).before args s = true) : ∀ w ∈ L, w.before args s = true := by
  intro w hw
  by_cases e1 : w = .isRef (.static Bundle.tN "UNASSIGNED_STACK" Bundle.steD)
  · rw [e1]; exact hU
  · by_cases e2 : w = .isRef (.static Bundle.tN "SUPPRESSED_SENTINEL" Bundle.listD)
    · rw [e2]; exact hN
    · by_cases e3 : w = .laysStatic Bundle.tN "UNASSIGNED_STACK" Bundle.steD
      · rw [e3]; exact lU
      · by_cases e4 : w = .laysStatic Bundle.tN "SUPPRESSED_SENTINEL" Bundle.listD
        · rw [e4]; exact lN
        · exact h1 w (List.mem_filter.mpr ⟨hw, by unfold vx_no; rw [decide_eq_true e1, decide_eq_true e2, decide_eq_true e3, decide_eq_true e4]; rfl⟩)
/-- where a static field lies, its class's statics cell in H -/
def vx_L (C n d : String) (A : Nat → Prop) (U : State) (H : Heap) : Prop := ∃ (c : ClassId) (k : Class) (i : Nat) (f : Field) (a : Nat) (cell : Cell), U.vm.findClass C = some c ∧ U.fieldFound? C n d = some (c, k, i, f) ∧ f.isStatic = true ∧ k.statics = some a ∧ H[a]? = some cell ∧ cell.vm.isStatics = true ∧ cell.cls = c ∧ f.slot < cell.slots.size ∧ k.staticTypes[f.slot]? = some f.type ∧ ¬ A a
theorem vx_L.moved {C n d : String} {A : Nat → Prop} {u U : State} {H : Heap} (hvm : u.vm.Alike U.vm) (h : vx_L C n d A u H) : vx_L C n d A U H := by
  obtain ⟨c, k, i, f, a, cell, h1, h2, h3, h4, h5, h6, h7, h8, h9, h10⟩ := h
  obtain ⟨k', hi', he⟩ := State.fieldFound?_setVm hvm h2
  exact ⟨c, k', i, f, a, cell, by rw [hvm.findClass]; exact h1, hi', h3, by rw [he]; exact h4, h5, h6, h7, h8, by rw [he]; exact h9, h10⟩
theorem vx_L.kept {C n d : String} {A : Nat → Prop} {U : State} {H H1 : Heap} (h : vx_L C n d A U H) (hq : ∀ a : Nat, a < H.size → ¬ A a → H1[a]? = H[a]?) : vx_L C n d A U H1 := by
  obtain ⟨c, k, i, f, a, cell, h1, h2, h3, h4, h5, h6, h7, h8, h9, h10⟩ := h
  exact ⟨c, k, i, f, a, cell, h1, h2, h3, h4, by rw [hq a (Array.getElem?_eq_some_iff.mp h5).1 h10]; exact h5, h6, h7, h8, h9, h10⟩
theorem vx_L.narrow {C n d : String} {A B : Nat → Prop} {U : State} {H : Heap} (h : vx_L C n d A U H) (hAB : ∀ q, B q → A q) : vx_L C n d B U H := by
  obtain ⟨c, k, i, f, a, cell, h1, h2, h3, h4, h5, h6, h7, h8, h9, h10⟩ := h
  exact ⟨c, k, i, f, a, cell, h1, h2, h3, h4, h5, h6, h7, h8, h9, fun z => h10 (hAB _ z)⟩
theorem vx_L.word {C n d : String} {A : Nat → Prop} {s : State} {args : Array Value} (h : vx_L C n d A s s.heap) : (Cond.laysStatic C n d).before args s = true := by
  obtain ⟨c, k, i, f, a, cell, h1, h2, h3, h4, h5, h6, h7, h8, h9, -⟩ := h
  show (Cond.laysStatic C n d).holds args s none s [] = true
  exact Cond.laysStatic_of h1 h2 h3 h4 h5 h6 h7 h8 h9
/-- .. and what it holds: null or some reference -/
def vx_Zq (C n d : String) (A : Nat → Prop) (U : State) (H : Heap) : Prop := va_Zq C n d A U H ∧ vx_L C n d A U H
theorem vx_Zq.moved {C n d : String} {A : Nat → Prop} {u U : State} {H : Heap} (hvm : u.vm.Alike U.vm) (h : vx_Zq C n d A u H) : vx_Zq C n d A U H := ⟨va_Zq.moved hvm h.1, vx_L.moved hvm h.2⟩
theorem vx_Zq.kept {C n d : String} {A : Nat → Prop} {U : State} {H H1 : Heap} (h : vx_Zq C n d A U H) (hq : ∀ a : Nat, a < H.size → ¬ A a → H1[a]? = H[a]?) : vx_Zq C n d A U H1 := ⟨va_Zq.kept h.1 hq, vx_L.kept h.2 hq⟩
theorem vx_Zq.narrow {C n d : String} {A B : Nat → Prop} {U : State} {H : Heap} (h : vx_Zq C n d A U H) (hAB : ∀ q, B q → A q) : vx_Zq C n d B U H := ⟨va_Zq.narrow h.1 hAB, vx_L.narrow h.2 hAB⟩
theorem vx_Zqof {args : Array Value} {s : State} {C n d : String} {A : Nat → Prop} (hl : (Cond.laysStatic C n d).before args s = true) (hini : (Cond.initialized C).before args s = true) (h : (Cond.isRef (.static C n d)).before args s = true) (hA : ∀ a : Nat, a < s.heap.size → ¬ A a) : vx_Zq C n d A s s.heap := by
  refine ⟨va_Zqof hl hini h hA, ?_⟩
  obtain ⟨c, k, i, f, a, cell, h1, h2, h3, h4, h5, h6, h7, h8, h9⟩ := Cond.laysStatic_spec hl
  exact ⟨c, k, i, f, a, cell, h1, h2, h3, h4, h5, h6, h7, h8, h9, hA a (Array.getElem?_eq_some_iff.mp h5).1⟩
theorem vx_isRef {C n d : String} {v : Value} {A : Nat → Prop} {s : State} {args : Array Value} (h : va_Z C n d v A s s.heap) (hv : v.isRef = true) : (Cond.isRef (.static C n d)).before args s = true := by
  obtain ⟨cf, kf, fi, f, a, cell, h1, h2, h3, h4, h5, h6, h7, -⟩ := h
  have he : (Term.static C n d).eval args s none [] s = some v := by
    simp [Term.eval, State.fieldNamed?, h1, h2, h4, h5, h6, h7]
  simp only [Cond.before, Cond.holds, Cond.value, he]
  cases v <;> simp_all [Value.isRef]
theorem vx_isRefq {C n d : String} {A : Nat → Prop} {s : State} {args : Array Value} (h : va_Zq C n d A s s.heap) : (Cond.isRef (.static C n d)).before args s = true := by
  rcases h with h | ⟨t, h⟩
  · exact vx_isRef h rfl
  · exact vx_isRef h rfl
/-- the same frame, seen from here: as if the method were called anew in this heap -/
theorem vx_rebase {T : State} (X : Stand p l e R s m args below meth c T locs cells slots) {R' : Room} (hf : R'.frames ≤ R.frames) (hl : R'.locals ≤ R.locals) (hc : cells + R'.cells ≤ R.cells) (hs : slots + R'.slots ≤ R.slots) :
    Stand p l e R' ((T.setVm s.vm).setFrames (.invoking m args :: below)) m args below meth c T [] 0 0 := by
  have htop : (T.setVm s.vm).topJava?.isSome := X.here.top
  have hF : ((T.setVm s.vm).setFrames (.invoking m args :: below)).frames = .invoking m args :: below := State.frames_setFrames _ (State.cur_lt_of_top htop)
  obtain ⟨g₀, hg0⟩ := Option.isSome_iff_exists.mp htop
  obtain ⟨r, hr⟩ := State.topJava?_eq_some.mp hg0
  have hl9 : e.platform.stackLimits (T.setVm s.vm).me = e.platform.stackLimits s.me := X.limits
  have hb9 : (T.setVm s.vm).me.stackBytes = s.me.stackBytes := X.bytes
  refine ⟨X.admits, X.cas, X.clock, hF, ?_, X.hears, X.method, X.code, X.here, X.tail, X.warmed, ?_, ?_, ?_⟩
  · have h := X.room
    have hU : ((T.setVm s.vm).setFrames (.invoking m args :: below)).localsInUse = s.localsInUse := by
      rw [State.localsInUse_invoking hF (meth := meth) (c := c) X.method X.code, State.localsInUse_invoking X.frames X.method X.code]
    simp only [State.hasRoom, Bool.and_eq_true, decide_eq_true_eq] at h ⊢
    obtain ⟨⟨⟨⟨h1, h2, h3, h4, h5, h6⟩, h7⟩, h8⟩, h9⟩ := h
    rw [X.frames, List.length_cons] at h2 h3
    have q1 := X.heapSize
    have q2 := X.used
    simp only [hF, hU, List.length_cons, State.stackLimits_setFrames, State.stackBytes_setFrames, hl9, hb9]
    refine ⟨⟨⟨⟨by omega, by omega, by omega, by omega, by omega, h6⟩, ?_⟩, ?_⟩, X.book⟩
    · show T.heap.size + R'.cells ≤ e.platform.maxCells
      omega
    · show T.slotsUsed + R'.slots ≤ e.platform.maxSlots
      omega
  · rw [State.stackLimits_setFrames]; rfl
  · rw [State.stackBytes_setFrames]; rfl
  · refine ⟨?_, Nat.le_refl _, Nat.le_refl _, ?_, ?_, fun a c9 h9 => ⟨c9, h9, rfl, rfl, fun _ _ => rfl⟩⟩
    · obtain ⟨t, ht, -⟩ := State.frames_cons hr
      show T.setVm s.vm = { ((T.setVm s.vm).setFrames (.invoking m args :: below)).setFrames (T.setVm s.vm).frames with heap := T.heap, slotsUsed := T.slotsUsed }
      rw [State.setFrames_setFrames, State.setFrames_self ht]
      rfl
    · show T.slotsUsed = T.slotsUsed + ((T.heap.toList.drop T.heap.size).map (·.slots.size)).sum
      rw [List.drop_eq_nil_of_le (Nat.le_of_eq Array.length_toList)]
      rfl
    · show ((T.heap.toList.drop T.heap.size).map (·.slots.size)).sum ≤ 0
      rw [List.drop_eq_nil_of_le (Nat.le_of_eq Array.length_toList)]
      exact Nat.le_refl _
/-- 'throw new E()': new; dup; invokespecial; athrow -/
theorem vx_throw0 {cc : ByteArray} {pc : Nat} (hexec : p.tables.exec = Jvm.exec) (hb : c.code = cc) (hl : l.stackTraces = false) {own cls : String} {names : List String} {ik ic mc ms : Nat} {A : Nat → Prop}
    (hown : s.vm.findClass own = some m.cls) (hcls : Bundle.fit cls = true) (hnames : ∀ n ∈ names, Bundle.fit n = true)
    (hk : (Cond.classLink own ik cls).before args s = true) (hini : (Cond.initialized cls).before args s = true) (hat : ∀ w ∈ vx_at0 own ic cls names, w.before args s = true)
    (hgood : ∀ w ∈ Cond.classLink own ik cls :: Cond.initialized cls :: vx_at0 own ic cls names, vx_ot w = true)
    (hU : vx_Zq Bundle.tN "UNASSIGNED_STACK" Bundle.steD A s s.heap) (hN : vx_Zq Bundle.tN "SUPPRESSED_SENTINEL" Bundle.listD A s s.heap) (hS : va_S A s.heap H locs) (hsize : ls.size = c.maxLocals)
    (d0 : decode cc pc = .ok (.new ik, 3)) (d3 : decode cc (pc + 3) = .ok (.dup, 1)) (d4 : decode cc (pc + 4) = .ok (.invokespecial ic, 3)) (d7 : decode cc (pc + 7) = .ok (.athrow, 1))
    (hout : ∀ x ∈ c.exceptionTable.toList, covers x (pc + 7) = false)
    (hRframes : names.length + 3 < R.frames) (hRlocals : (rest.map fun v => v.category).sum + (13 * (names.length + 1) + 42) ≤ R.locals) (hRcells : cells + 1 ≤ R.cells) (hRslots : slots + 6 ≤ R.slots) (hlocks : meth.locks = false)
    (hx : ∀ t : State, s.vm.Alike t.vm → H.size ≤ t.heap.size → (∀ q : Nat, q < H.size → t.heap[q]? = H[q]?) → XC cls s t)
    (hf : ∀ z ∈ locs, free z.base) (hc : cells + 1 ≤ mc) (hs : slots + 6 ≤ ms) :
    W p l e R s m args below meth c H locs cells slots (vx_MQ below Qc XC args s mc ms free) (F0 m pc ls rest) := by
  intro T hT X
  have htr : e.platform.stackTraces = false := (show e.platform.stackTraces = l.stackTraces by rw [X.admits.platform]).trans hl
  have Y := vx_rebase X (R' := { frames := R.frames, locals := R.locals, cells := 1, slots := 6 }) (Nat.le_refl _) (Nat.le_refl _) hRcells hRslots
  obtain ⟨s', hA⟩ : ∃ z, z = (T.setVm s.vm).setFrames (.invoking m args :: below) := ⟨_, rfl⟩
  rw [← hA] at Y
  have hvm : s'.vm = s.vm := by rw [hA]; rfl
  have hhp : s'.heap = H := by rw [hA]; exact hT
  have hW0 : s.WarmedH s'.vm := by rw [hvm]; exact State.WarmedH.refl s
  have hat' : ∀ w ∈ vx_at0 own ic cls names, w.before args s' = true := fun w hw => vx_ot_at hW0 hvm.symm (hgood w (List.mem_cons_of_mem _ (List.mem_cons_of_mem _ hw))) (hat w hw)
  have hk' : (Cond.classLink own ik cls).before args s' = true := vx_ot_at hW0 hvm.symm (hgood _ List.mem_cons_self) hk
  have hini' : (Cond.initialized cls).before args s' = true := vx_ot_at hW0 hvm.symm (hgood _ (List.mem_cons_of_mem _ List.mem_cons_self)) hini
  have hU' : vx_Zq Bundle.tN "UNASSIGNED_STACK" Bundle.steD A s' s'.heap := by rw [hhp]; exact vx_Zq.moved hW0.alike (hU.kept hS.2.1)
  have hN' : vx_Zq Bundle.tN "SUPPRESSED_SENTINEL" Bundle.listD A s' s'.heap := by rw [hhp]; exact vx_Zq.moved hW0.alike (hN.kept hS.2.1)
  have h : ∀ w ∈ Bundle.ownAtoms0 own ic cls names, w.before args s' = true := vx_own hat' (vx_isRefq hU'.1) (vx_isRefq hN'.1) hU'.2.word hN'.2.word
  have hown' : s'.vm.findClass own = some m.cls := by rw [hvm]; exact hown
  have hins : (Cond.instantiable cls 6).before args s' = true := h _ (by simp [Bundle.ownAtoms0])
  obtain ⟨vm₁, cX, kX, hfX, hkX, -, -, X₁, st1⟩ := Y.newCold hexec (own := own) (C := cls) (index := ik) (n := 6) hown' hk' hins hini'
    (g := F0 m pc ls rest) rfl (by rw [hb]; exact d0) (Nat.le_refl _) (Nat.le_refl _)
  generalize hT1 : (T.setVm vm₁).pushCell { cls := cX, slots := kX.instanceTypes.map defaultValue, vm := .none } = T1 at X₁ st1
  have hcat : (Value.ref T.heap.size).category = 1 := rfl
  have hcellA : T1.heap[T.heap.size]? = some (freshCell cX kX) := by rw [← hT1]; exact State.heap_pushCell_size _ _
  have d3' : decode c.code (pc + 3) = .ok (.dup, 1) := by rw [hb]; exact d3
  obtain ⟨U, hsteps, hrun, hend, hW, hsame, ce, hce, hO⟩ := X₁.ctorThrow0 hexec htr (own := own) (cls := cls) (names := names) (ic := ic) hown' hcls hnames h (fun x hx => nomatch hx) hfX hkX hcellA (by rw [hhp, hT]; exact Nat.le_refl _)
    (g := { method := m, pc := pc + 4, locals := ls, stack := .ref T.heap.size :: .ref T.heap.size :: rest, locked := none }) rfl hsize rfl rfl (rest := rest) rfl
    (by rw [hb]; exact d4) (by rw [hb]; exact d7) hout hRframes (by simp only [List.map_cons, List.sum_cons, hcat]; omega) hlocks
  obtain ⟨f1, f2⟩ := vx_frame hsame
  rw [hhp] at f1 f2
  have hWs : s.WarmedH U.vm := State.WarmedH.trans hW0 hW
  have hcl : s.vm.findClass cls = some ce.cls := by
    have h9 := hO.cls
    rw [hvm] at h9
    exact h9
  have hall : s.sameButNew ({ U with vm := s.vm } : State) locs mc ms := by
    subst hA
    obtain ⟨e1, e2⟩ := hsame
    rw [State.setFrames_setFrames] at e1
    have h2 : (T.setVm s.vm).sameButNew ({ U with vm := s.vm } : State) [] (0 + 1) (0 + 6) := ⟨e1, e2⟩
    have h3 := X.same.trans h2
    rw [List.append_nil] at h3
    exact h3.mono hc hs
  refine ⟨U, ?_, .threw T.heap.size, hrun, hend, Or.inr ⟨T.heap.size, rfl, cls, ce, locs, hx U hWs.alike f1 (fun q hq => f2 q hq (fun z hz => nomatch hz)), hce, hO.vm, hcl, hWs, hall, hf⟩⟩
  refine st1 _ ?_
  show Steps p.tables e below (T1.setTop { method := m, pc := pc + 3, locals := ls, stack := .ref T.heap.size :: rest, locked := none }) _
  jvm_step X₁.here [X₁.here.top, hexec, d3', Value.category]
  exact hsteps
/-- 'throw new E("text")': new; dup; ldc; invokespecial; athrow -/
theorem vx_throwS {cc : ByteArray} {pc : Nat} (hexec : p.tables.exec = Jvm.exec) (hb : c.code = cc) (hl : l.stackTraces = false) {own cls text : String} {names : List String} {ik is ic mc ms sa : Nat} {A : Nat → Prop}
    (hown : s.vm.findClass own = some m.cls) (hcls : Bundle.fit cls = true) (hnames : ∀ n ∈ names, Bundle.fit n = true)
    (hk : (Cond.classLink own ik cls).before args s = true) (hini : (Cond.initialized cls).before args s = true) (hstr : vk_R own is text sa s) (hat : ∀ w ∈ vx_atS own ic cls names, w.before args s = true)
    (hgood : ∀ w ∈ Cond.classLink own ik cls :: Cond.initialized cls :: vx_atS own ic cls names, vx_ot w = true)
    (hU : vx_Zq Bundle.tN "UNASSIGNED_STACK" Bundle.steD A s s.heap) (hN : vx_Zq Bundle.tN "SUPPRESSED_SENTINEL" Bundle.listD A s s.heap) (hS : va_S A s.heap H locs) (hsize : ls.size = c.maxLocals)
    (d0 : decode cc pc = .ok (.new ik, 3)) (d3 : decode cc (pc + 3) = .ok (.dup, 1)) (d4 : decode cc (pc + 4) = .ok (.ldc is, 2)) (d6 : decode cc (pc + 6) = .ok (.invokespecial ic, 3)) (d9 : decode cc (pc + 9) = .ok (.athrow, 1))
    (hout : ∀ x ∈ c.exceptionTable.toList, covers x (pc + 9) = false)
    (hRframes : names.length + 3 < R.frames) (hRlocals : (rest.map fun v => v.category).sum + (13 * (names.length + 1) + 43) ≤ R.locals) (hRcells : cells + 1 ≤ R.cells) (hRslots : slots + 6 ≤ R.slots) (hlocks : meth.locks = false)
    (hx : ∀ t : State, s.vm.Alike t.vm → H.size ≤ t.heap.size → (∀ q : Nat, q < H.size → t.heap[q]? = H[q]?) → XC cls s t)
    (hf : ∀ z ∈ locs, free z.base) (hc : cells + 1 ≤ mc) (hs : slots + 6 ≤ ms) :
    W p l e R s m args below meth c H locs cells slots (vx_MQ below Qc XC args s mc ms free) (F0 m pc ls rest) := by
  intro T hT X
  have htr : e.platform.stackTraces = false := (show e.platform.stackTraces = l.stackTraces by rw [X.admits.platform]).trans hl
  have Y := vx_rebase X (R' := { frames := R.frames, locals := R.locals, cells := 1, slots := 6 }) (Nat.le_refl _) (Nat.le_refl _) hRcells hRslots
  obtain ⟨s', hA⟩ : ∃ z, z = (T.setVm s.vm).setFrames (.invoking m args :: below) := ⟨_, rfl⟩
  rw [← hA] at Y
  have hvm : s'.vm = s.vm := by rw [hA]; rfl
  have hhp : s'.heap = H := by rw [hA]; exact hT
  have hW0 : s.WarmedH s'.vm := by rw [hvm]; exact State.WarmedH.refl s
  have hat' : ∀ w ∈ vx_atS own ic cls names, w.before args s' = true := fun w hw => vx_ot_at hW0 hvm.symm (hgood w (List.mem_cons_of_mem _ (List.mem_cons_of_mem _ hw))) (hat w hw)
  have hk' : (Cond.classLink own ik cls).before args s' = true := vx_ot_at hW0 hvm.symm (hgood _ List.mem_cons_self) hk
  have hini' : (Cond.initialized cls).before args s' = true := vx_ot_at hW0 hvm.symm (hgood _ (List.mem_cons_of_mem _ List.mem_cons_self)) hini
  have hU' : vx_Zq Bundle.tN "UNASSIGNED_STACK" Bundle.steD A s' s'.heap := by rw [hhp]; exact vx_Zq.moved hW0.alike (hU.kept hS.2.1)
  have hN' : vx_Zq Bundle.tN "SUPPRESSED_SENTINEL" Bundle.listD A s' s'.heap := by rw [hhp]; exact vx_Zq.moved hW0.alike (hN.kept hS.2.1)
  have h : ∀ w ∈ Bundle.ownAtoms own ic cls names, w.before args s' = true := vx_own hat' (vx_isRefq hU'.1) (vx_isRefq hN'.1) hU'.2.word hN'.2.word
  have hown' : s'.vm.findClass own = some m.cls := by rw [hvm]; exact hown
  have hins : (Cond.instantiable cls 6).before args s' = true := h _ (by simp [Bundle.ownAtoms])
  obtain ⟨vm₁, cX, kX, hfX, hkX, -, -, X₁, st1⟩ := Y.newCold hexec (own := own) (C := cls) (index := ik) (n := 6) hown' hk' hins hini'
    (g := F0 m pc ls rest) rfl (by rw [hb]; exact d0) (Nat.le_refl _) (Nat.le_refl _)
  generalize hT1 : (T.setVm vm₁).pushCell { cls := cX, slots := kX.instanceTypes.map defaultValue, vm := .none } = T1 at X₁ st1
  have hcat : (Value.ref T.heap.size).category = 1 := rfl
  have hcellA : T1.heap[T.heap.size]? = some (freshCell cX kX) := by rw [← hT1]; exact State.heap_pushCell_size _ _
  have d3' : decode c.code (pc + 3) = .ok (.dup, 1) := by rw [hb]; exact d3
  have d4' : decode c.code (pc + 4) = .ok (.ldc is, 2) := by rw [hb]; exact d4
  have hstr' : vk_R own is text sa s' := vk_R.warm hW0 hstr
  obtain ⟨U, hsteps, hrun, hend, hW, hsame, ce, hce, hO⟩ := X₁.ctorThrowS hexec htr (own := own) (cls := cls) (names := names) (ic := ic) hown' hcls hnames h (fun x hx => nomatch hx) hfX hkX hcellA (by rw [hhp, hT]; exact Nat.le_refl _) (msg := .ref sa) rfl
    (g := { method := m, pc := pc + 6, locals := ls, stack := .ref sa :: .ref T.heap.size :: .ref T.heap.size :: rest, locked := none }) rfl hsize rfl rfl (rest := rest) rfl
    (by rw [hb]; exact d6) (by rw [hb]; exact d9) hout hRframes (by simp only [List.map_cons, List.sum_cons, hcat]; omega) hlocks
  obtain ⟨f1, f2⟩ := vx_frame hsame
  rw [hhp] at f1 f2
  have hWs : s.WarmedH U.vm := State.WarmedH.trans hW0 hW
  have hcl : s.vm.findClass cls = some ce.cls := by
    have h9 := hO.cls
    rw [hvm] at h9
    exact h9
  have hall : s.sameButNew ({ U with vm := s.vm } : State) locs mc ms := by
    subst hA
    obtain ⟨e1, e2⟩ := hsame
    rw [State.setFrames_setFrames] at e1
    have h2 : (T.setVm s.vm).sameButNew ({ U with vm := s.vm } : State) [] (0 + 1) (0 + 6) := ⟨e1, e2⟩
    have h3 := X.same.trans h2
    rw [List.append_nil] at h3
    exact h3.mono hc hs
  refine ⟨U, ?_, .threw T.heap.size, hrun, hend, Or.inr ⟨T.heap.size, rfl, cls, ce, locs, hx U hWs.alike f1 (fun q hq => f2 q hq (fun z hz => nomatch hz)), hce, hO.vm, hcl, hWs, hall, hf⟩⟩
  refine st1 _ ?_
  show Steps p.tables e below (T1.setTop { method := m, pc := pc + 3, locals := ls, stack := .ref T.heap.size :: rest, locked := none }) _
  jvm_step X₁.here [X₁.here.top, hexec, d3', Value.category]
  exact X₁.ldcString hexec (own := own) (text := text) (index := is) (a := sa) hown' hstr'.1 hstr'.2
    (g := { method := m, pc := pc + 4, locals := ls, stack := .ref T.heap.size :: .ref T.heap.size :: rest, locked := none }) rfl d4' _ hsteps
/-- 'throw new E("text")', the text by a wide index -/
theorem vx_throwSW {cc : ByteArray} {pc : Nat} (hexec : p.tables.exec = Jvm.exec) (hb : c.code = cc) (hl : l.stackTraces = false) {own cls text : String} {names : List String} {ik is ic mc ms sa : Nat} {A : Nat → Prop}
    (hown : s.vm.findClass own = some m.cls) (hcls : Bundle.fit cls = true) (hnames : ∀ n ∈ names, Bundle.fit n = true)
    (hk : (Cond.classLink own ik cls).before args s = true) (hini : (Cond.initialized cls).before args s = true) (hstr : vk_R own is text sa s) (hat : ∀ w ∈ vx_atS own ic cls names, w.before args s = true)
    (hgood : ∀ w ∈ Cond.classLink own ik cls :: Cond.initialized cls :: vx_atS own ic cls names, vx_ot w = true)
    (hU : vx_Zq Bundle.tN "UNASSIGNED_STACK" Bundle.steD A s s.heap) (hN : vx_Zq Bundle.tN "SUPPRESSED_SENTINEL" Bundle.listD A s s.heap) (hS : va_S A s.heap H locs) (hsize : ls.size = c.maxLocals)
    (d0 : decode cc pc = .ok (.new ik, 3)) (d3 : decode cc (pc + 3) = .ok (.dup, 1)) (d4 : decode cc (pc + 4) = .ok (.ldc_w is, 3)) (d7 : decode cc (pc + 7) = .ok (.invokespecial ic, 3)) (d10 : decode cc (pc + 10) = .ok (.athrow, 1))
    (hout : ∀ x ∈ c.exceptionTable.toList, covers x (pc + 10) = false)
    (hRframes : names.length + 3 < R.frames) (hRlocals : (rest.map fun v => v.category).sum + (13 * (names.length + 1) + 43) ≤ R.locals) (hRcells : cells + 1 ≤ R.cells) (hRslots : slots + 6 ≤ R.slots) (hlocks : meth.locks = false)
    (hx : ∀ t : State, s.vm.Alike t.vm → H.size ≤ t.heap.size → (∀ q : Nat, q < H.size → t.heap[q]? = H[q]?) → XC cls s t)
    (hf : ∀ z ∈ locs, free z.base) (hc : cells + 1 ≤ mc) (hs : slots + 6 ≤ ms) :
    W p l e R s m args below meth c H locs cells slots (vx_MQ below Qc XC args s mc ms free) (F0 m pc ls rest) := by
  intro T hT X
  have htr : e.platform.stackTraces = false := (show e.platform.stackTraces = l.stackTraces by rw [X.admits.platform]).trans hl
  have Y := vx_rebase X (R' := { frames := R.frames, locals := R.locals, cells := 1, slots := 6 }) (Nat.le_refl _) (Nat.le_refl _) hRcells hRslots
  obtain ⟨s', hA⟩ : ∃ z, z = (T.setVm s.vm).setFrames (.invoking m args :: below) := ⟨_, rfl⟩
  rw [← hA] at Y
  have hvm : s'.vm = s.vm := by rw [hA]; rfl
  have hhp : s'.heap = H := by rw [hA]; exact hT
  have hW0 : s.WarmedH s'.vm := by rw [hvm]; exact State.WarmedH.refl s
  have hat' : ∀ w ∈ vx_atS own ic cls names, w.before args s' = true := fun w hw => vx_ot_at hW0 hvm.symm (hgood w (List.mem_cons_of_mem _ (List.mem_cons_of_mem _ hw))) (hat w hw)
  have hk' : (Cond.classLink own ik cls).before args s' = true := vx_ot_at hW0 hvm.symm (hgood _ List.mem_cons_self) hk
  have hini' : (Cond.initialized cls).before args s' = true := vx_ot_at hW0 hvm.symm (hgood _ (List.mem_cons_of_mem _ List.mem_cons_self)) hini
  have hU' : vx_Zq Bundle.tN "UNASSIGNED_STACK" Bundle.steD A s' s'.heap := by rw [hhp]; exact vx_Zq.moved hW0.alike (hU.kept hS.2.1)
  have hN' : vx_Zq Bundle.tN "SUPPRESSED_SENTINEL" Bundle.listD A s' s'.heap := by rw [hhp]; exact vx_Zq.moved hW0.alike (hN.kept hS.2.1)
  have h : ∀ w ∈ Bundle.ownAtoms own ic cls names, w.before args s' = true := vx_own hat' (vx_isRefq hU'.1) (vx_isRefq hN'.1) hU'.2.word hN'.2.word
  have hown' : s'.vm.findClass own = some m.cls := by rw [hvm]; exact hown
  have hins : (Cond.instantiable cls 6).before args s' = true := h _ (by simp [Bundle.ownAtoms])
  obtain ⟨vm₁, cX, kX, hfX, hkX, -, -, X₁, st1⟩ := Y.newCold hexec (own := own) (C := cls) (index := ik) (n := 6) hown' hk' hins hini'
    (g := F0 m pc ls rest) rfl (by rw [hb]; exact d0) (Nat.le_refl _) (Nat.le_refl _)
  generalize hT1 : (T.setVm vm₁).pushCell { cls := cX, slots := kX.instanceTypes.map defaultValue, vm := .none } = T1 at X₁ st1
  have hcat : (Value.ref T.heap.size).category = 1 := rfl
  have hcellA : T1.heap[T.heap.size]? = some (freshCell cX kX) := by rw [← hT1]; exact State.heap_pushCell_size _ _
  have d3' : decode c.code (pc + 3) = .ok (.dup, 1) := by rw [hb]; exact d3
  have d4' : decode c.code (pc + 4) = .ok (.ldc_w is, 3) := by rw [hb]; exact d4
  have hstr' : vk_R own is text sa s' := vk_R.warm hW0 hstr
  obtain ⟨U, hsteps, hrun, hend, hW, hsame, ce, hce, hO⟩ := X₁.ctorThrowS hexec htr (own := own) (cls := cls) (names := names) (ic := ic) hown' hcls hnames h (fun x hx => nomatch hx) hfX hkX hcellA (by rw [hhp, hT]; exact Nat.le_refl _) (msg := .ref sa) rfl
    (g := { method := m, pc := pc + 7, locals := ls, stack := .ref sa :: .ref T.heap.size :: .ref T.heap.size :: rest, locked := none }) rfl hsize rfl rfl (rest := rest) rfl
    (by rw [hb]; exact d7) (by rw [hb]; exact d10) hout hRframes (by simp only [List.map_cons, List.sum_cons, hcat]; omega) hlocks
  obtain ⟨f1, f2⟩ := vx_frame hsame
  rw [hhp] at f1 f2
  have hWs : s.WarmedH U.vm := State.WarmedH.trans hW0 hW
  have hcl : s.vm.findClass cls = some ce.cls := by
    have h9 := hO.cls
    rw [hvm] at h9
    exact h9
  have hall : s.sameButNew ({ U with vm := s.vm } : State) locs mc ms := by
    subst hA
    obtain ⟨e1, e2⟩ := hsame
    rw [State.setFrames_setFrames] at e1
    have h2 : (T.setVm s.vm).sameButNew ({ U with vm := s.vm } : State) [] (0 + 1) (0 + 6) := ⟨e1, e2⟩
    have h3 := X.same.trans h2
    rw [List.append_nil] at h3
    exact h3.mono hc hs
  refine ⟨U, ?_, .threw T.heap.size, hrun, hend, Or.inr ⟨T.heap.size, rfl, cls, ce, locs, hx U hWs.alike f1 (fun q hq => f2 q hq (fun z hz => nomatch hz)), hce, hO.vm, hcl, hWs, hall, hf⟩⟩
  refine st1 _ ?_
  show Steps p.tables e below (T1.setTop { method := m, pc := pc + 3, locals := ls, stack := .ref T.heap.size :: rest, locked := none }) _
  jvm_step X₁.here [X₁.here.top, hexec, d3', Value.category]
  exact X₁.ldcStringW hexec (own := own) (text := text) (index := is) (a := sa) hown' hstr'.1 hstr'.2
    (g := { method := m, pc := pc + 4, locals := ls, stack := .ref T.heap.size :: .ref T.heap.size :: rest, locked := none }) rfl d4' _ hsteps
end Ends
section Bodies
variable {l : Launch}
theorem vx_ofW {y : MethodName} {ws ws' : List Cond} {rm : Room} {Pc : Array Value → State → Prop} {Qc : Array Value → State → Outcome → State → Prop} {XC : String → State → State → Prop} {mc ms : Nat} {free : Addr → Prop} {cc : ByteArray} {maxL : Nat} {ret : Option FieldType}
    (hy : plainName y.cls = true) (hw : ws = Cond.code y cc maxL ret :: ws')
    (body : ∀ p e s m args below meth c s₁, BodyLoose p l y (headSpec ws rm) cc maxL ret e s m args below meth c s₁ → c.maxLocals = maxL → (∀ x ∈ c.exceptionTable.toList, False) → Pc args s →
      W p l e (headSpec ws rm).room s m args below meth c s.heap [] 0 0 (vx_MQ below Qc XC args s mc ms free) (entryFrame m args maxL)) : vx_Met l y ws rm Pc Qc XC mc ms free := by
  refine MetFree.of_bodyS (code := cc) (maxLocals := maxL) (ret := ret) hy ?_ ?_
  · intro args s m h hn
    obtain ⟨meth, c, h1, h2, h3, h4, h5, h6, -, -⟩ := Cond.code_spec hn (atoms_spec (ws := ws) h _ (by rw [hw]; exact List.mem_cons_self))
    exact ⟨meth, c, h1, h2, h3, h4, h5, h6⟩
  · intro p e s m args below meth c s₁ B hml hP _
    have hh0 : s₁.heap = s.heap := by rw [B.state]; rfl
    have ht : ∀ x ∈ c.exceptionTable.toList, False := by
      obtain ⟨meth9, c9, h1, h2, -, -, -, -, h7, -⟩ := Cond.code_spec B.named (atoms_spec (ws := ws) B.pre _ (by rw [hw]; exact List.mem_cons_self))
      cases Option.some.inj (h1.symm.trans B.method)
      cases Option.some.inj (h2.symm.trans (Stand.of_body B).code)
      intro x hx
      rw [Array.isEmpty_iff.mp h7] at hx
      cases hx
    obtain ⟨t, a1, o, b1, b2, b3⟩ := body p e s m args below meth c s₁ B hml ht hP s₁ hh0 (Stand.of_body B)
    exact ⟨t, o, a1, b1, b2, b3⟩
/-- the table of a body with handlers -/
theorem vx_table {p : Program} {x y : MethodName} {S : Spec} {cc bytes : ByteArray} {maxL maxL' : Nat} {ret ret' : Option FieldType} {e : Env} {s s₁ : State} {m : MethodId} {args : Array Value} {below : List Frame} {meth : Method} {c : Code} {hh : List (Nat × Nat × Nat × Nat)}
    (B : BodyLoose p l y S cc maxL ret e s m args below meth c s₁) (h : (Cond.codeWith y bytes maxL' ret' hh).before args s = true) : c.exceptionTable.toList = tableOf hh := by
  obtain ⟨m9, meth9, c9, hn9, h1, h2, -, -, h6, -⟩ := Cond.codeWith_spec h
  cases Option.some.inj (hn9.symm.trans B.named)
  cases Option.some.inj (h1.symm.trans B.method)
  cases Option.some.inj (h2.symm.trans (Stand.of_body B).code)
  rw [← h6, table_eq]
end Bodies
end VXA
/-! ===== END ===== -/
/-! ===== BEGIN a static call of a method with an exception table ===== -/
section VXS
variable {p : Program} {l : Launch} {e : Env} {R : Room} {s : State} {m : MethodId} {args : Array Value} {below : List Frame} {meth : Method} {c : Code} {T : State} {H : Heap} {locs : List Loc} {cells slots : Nat}
abbrev vx_CSW (R : Room) (s : State) (args : Array Value) (own : String) (index : Nat) (y : MethodName) (bytes : ByteArray) (maxL : Nat) (ret : Option FieldType) (hh : List (Nat × Nat × Nat × Nat)) (ws : List Cond) (rm : Room) (mc ms n : Nat) : Prop :=
  (rm.cells = mc ∧ rm.slots = ms ∧ rm.frames + 1 ≤ R.frames ∧ 8 + (maxL + 11) + rm.locals ≤ R.locals ∧ (∀ w ∈ ws, ∀ (a' : Array Value) (U : State), s.WarmedH U.vm → w.before a' U = true) ∧ Cond.codeWith y bytes maxL ret hh ∈ ws) ∧
  (Cond.codeWith y bytes maxL ret hh).before args s = true ∧ (Cond.initialized y.cls).before args s = true ∧ (y.cls ≠ "java/lang/invoke/MethodHandle" ∧ y.cls ≠ "java/lang/invoke/VarHandle") ∧
  (∀ sig, parseMethodDescriptor y.desc = some sig → n = sig.parameters.length) ∧ (Cond.methodLink own index y).before args s = true ∧ (Cond.static y).before args s = true
theorem vx_cwSW {own : String} {index maxL mc ms : Nat} {y : MethodName} {bytes : ByteArray} {ret : Option FieldType} {hh : List (Nat × Nat × Nat × Nat)} {Ts ws ws' : List Cond} {rm : Room} (n : Nat) (ht : ∀ w ∈ Ts, w.before args s = true) (hT : GoodIn Ts (va_wsS own index y ws)) (hw : ws = Cond.codeWith y bytes maxL ret hh :: ws') (hrc : rm.cells = mc) (hrs : rm.slots = ms)
    (hd : y.cls ≠ "java/lang/invoke/MethodHandle" ∧ y.cls ≠ "java/lang/invoke/VarHandle" ∧ (parseMethodDescriptor y.desc).map (fun d => d.parameters.length) = some n) (hR : rm.frames + 1 ≤ R.frames ∧ 8 + (maxL + 11) + rm.locals ≤ R.locals) :
    vx_CSW R s args own index y bytes maxL ret hh ws rm mc ms n := by
  have ok : ∀ w ∈ va_wsS own index y ws, w.before args s = true := fun w h => ht w (hT w h).1
  have hG : GoodIn Ts ws := fun w h => hT w (by unfold va_wsS; exact List.mem_append_right _ h)
  have hc : Cond.codeWith y bytes maxL ret hh ∈ ws := by rw [hw]; exact List.mem_cons_self
  refine ⟨⟨hrc, hrs, hR.1, hR.2, pay_in ht hG, hc⟩, ht _ (hG _ hc).1, ok _ (by simp [va_wsS]), ⟨hd.1, hd.2.1⟩, fun sig h => ?_, ok _ (by simp [va_wsS]), ok _ (by simp [va_wsS])⟩
  have h2 := hd.2.2
  rw [h] at h2
  exact (Option.some.inj h2).symm
theorem vx_callSW (X : Stand p l e R s m args below meth c T locs cells slots) (hexec : p.tables.exec = Jvm.exec) {own : String} {index : Nat} {y : MethodName} {bytes : ByteArray} {maxL : Nat} {ret : Option FieldType} {hh : List (Nat × Nat × Nat × Nat)}
    (hown : s.vm.findClass own = some m.cls) (hlink : (Cond.methodLink own index y).before args s = true) (hstat : (Cond.static y).before args s = true) (hinit : (Cond.initialized y.cls).before args s = true)
    (hcode : (Cond.codeWith y bytes maxL ret hh).before args s = true) (hy : y.cls ≠ "java/lang/invoke/MethodHandle" ∧ y.cls ≠ "java/lang/invoke/VarHandle")
    {W9 : Nat} {Pre : Pt → Array Value → Prop} {Post : Pt → Array Value → Option Value → Pt → Prop} (hK : Back l R p e below s args y 3 W9 Pre Post)
    {g : JFrame} (hg : g.method = m) (hsize : g.locals.size = c.maxLocals) {argsL rest : List Value} (hlen : ∀ sig, parseMethodDescriptor y.desc = some sig → argsL.length = sig.parameters.length)
    (hstack : g.stack = argsL.reverse ++ rest) (hW : 2 * g.monitorRoom + (rest.map fun v => v.category).sum ≤ W9) (hdg : decode c.code g.pc = .ok (.invokestatic index, 3))
    (hpre : ∀ vm₁, s.WarmedH vm₁ → Pre ⟨T.setVm vm₁, locs, cells, slots⟩ argsL.toArray) :
    ∃ (v : Option Value) (vm₁ : Vm) (B : Pt), s.WarmedH vm₁ ∧ Stand p l e R s m args below meth c B.U B.locs B.cells B.slots ∧ Post ⟨T.setVm vm₁, locs, cells, slots⟩ argsL.toArray v B ∧
      ∀ target, Steps p.tables e below (B.U.setTop { g with pc := g.pc + 3, stack := v.toList ++ rest }) target → Steps p.tables e below (T.setTop g) target := by
  obtain ⟨mk, methM, cM, hnamed, hmethM, -, -, -, -, -, -, hsigM⟩ := Cond.codeWith_spec hcode
  have hstatic : methM.isStatic = true := Cond.static_spec hnamed hmethM hstat
  obtain ⟨kP, hkP, -⟩ := className_of_methodNamed hnamed
  have hinitP : kP.init = .initialized := Cond.initialized_spec (findClass_of_methodNamed hnamed) hkP hinit
  obtain ⟨vm₁, X₁, hstep₁⟩ := X.invokestatic hexec hown hlink hnamed hmethM hstatic hkP hinitP hy (g := g) hg (argsL := argsL) (rest := rest) (hlen _ hsigM) hstack hdg
  obtain ⟨v, B, X', hpost, hsteps⟩ := hK m meth c ⟨T.setVm vm₁, locs, cells, slots⟩ { g with stack := rest } (.invokestatic index) mk argsL.toArray X₁ hg hsize hdg hW (X₁.named hnamed) (hpre vm₁ X₁.warmed)
  exact ⟨v, vm₁, B, X₁.warmed, X', hpost, fun target h => hstep₁ _ fun acts => by rw [doInvoke_state]; exact hsteps.trans h⟩
theorem vx_runSW {y : MethodName} {bytes cc : ByteArray} {maxL nL mc ms n index : Nat} {ret : Option FieldType} {hh : List (Nat × Nat × Nat × Nat)} {ws : List Cond} {rm : Room} {Pc : Array Value → State → Prop} {Qc : Array Value → State → Outcome → State → Prop} {free : Addr → Prop} {Ts : List Cond} {own : String} {As rest : List Value} {g : JFrame}
    (S : CallFix p m c cc nL s args Ts own) (hM : Met l y ws rm Pc Qc mc ms free) (cw : vx_CSW R s args own index y bytes maxL ret hh ws rm mc ms n) (hp : PreS s H Pc As)
    (hg : g.method = m) (hn : As.length = n) (hsize : g.locals.size = nL) (hstack : g.stack = As.reverse ++ rest) (hW : 2 * g.monitorRoom + (rest.map fun v => v.category).sum ≤ 8) (hdg : decode cc g.pc = .ok (.invokestatic index, 3)) (hf : cells + mc ≤ R.cells ∧ slots + ms ≤ R.slots) :
    va_Run p l e R s m args below meth c H locs cells slots mc ms g rest (Qc As.toArray) (free) := by
  obtain ⟨⟨hrc, hrs, hfr, hlo, hws, hcw⟩, hcode, hini, hy, hlen, hl, hstt⟩ := cw
  have hK : Back l R p e below s args y 3 8 (PreOf R mc ms Pc) (PostOf Qc mc ms free) := va_backW (hh := hh) (bytes := bytes) (maxL := maxL) (ret := ret) hM hp.1 hrc hrs hfr hlo hws hcw (fun a' U hW => word_at hW (Or.inl (by first | rfl | simp [Cond.onTables, Cond.keeps, Cond.steady])) hini)
  obtain ⟨hx, hb, hml, ho, -⟩ := S
  intro T hT X
  obtain ⟨v, vm₁, ⟨U', l2, c2, s2⟩, hW₁, X', ⟨g', mk, t, L, e1, e2, hq, h1, hL, h2, h3⟩, st⟩ := vx_callSW X hx (hh := hh) (bytes := bytes) (maxL := maxL) (ret := ret) ho hl hstt hini hcode hy hK hg (hsize.trans hml.symm) (argsL := As) (rest := rest) (fun sig h => hn.trans (hlen sig h)) hstack hW (by rw [hb]; exact hdg)
    (fun vm₁ hW₁ => ⟨hf.1, hf.2, hp.2 (T.setVm vm₁) hT hW₁⟩)
  dsimp only [Pt.U, Pt.locs, Pt.cells, Pt.slots] at X' e1 e2 h1 h2 h3 st
  subst h1; subst h2; subst h3
  exact ⟨v, (T.setVm vm₁).calling g' mk As.toArray, t, U', L, hT, X', hL, e1, e2, hq, st⟩
/-- not caught here, past rows that name other classes: it goes on to the caller -/
theorem vx_outP {p : Program} {l : Launch} {e : Env} {R : Room} {s : State} {m : MethodId} {args : Array Value} {below : List Frame} {meth : Method} {c : Code} {H : Heap} {locs : List Loc} {cells slots : Nat} {free : Addr → Prop} {ls : Array Slot} {rest : List Value} {Qc : Array Value → State → Outcome → State → Prop} {XC : String → State → State → Prop}
    {pc : Nat} {own E : String} {ce : Cell} {q : Addr} {mc ms : Nat} (hown : s.vm.findClass own = some m.cls) (hlocks : meth.locks = false)
    (hpass : ∀ z ∈ c.exceptionTable.toList, covers z pc = false ∨ (z.catchType ≠ 0 ∧ ∃ nm : String, (Cond.classLink own z.catchType nm).before args s = true ∧ va_Nc E nm s)) (hcell : H[q]? = some ce) (hv : ce.vm = .none) (hcl : s.vm.findClass E = some ce.cls)
    (hx : ∀ t : State, t.heap = H → s.vm.Alike t.vm → XC E s t) (hf : ∀ z ∈ locs, free z.base) (hc : cells ≤ mc) (hs : slots ≤ ms) :
    vx_W p l e R s m args below meth c H locs cells slots (vx_MQ below Qc XC args s mc ms free) (F0 m pc ls rest) q := by
  intro T hT X
  have hpl : e.platform.magicAccessors = ({} : Platform).magicAccessors := by rw [X.admits.platform]
  obtain ⟨vm', hW', X', st⟩ := X.outThrough hlocks q (g := F0 m pc ls rest) rfl rfl rfl (cell := ce) (by rw [hT]; exact hcell) (by rw [hv]; rfl)
    (by obtain ⟨k9, h9, -⟩ := Vm.findClass_spec hcl; exact ⟨k9, h9⟩) (fun z hz => by
      rcases hpass z hz with h | ⟨hz0, nm, hl1, hn1⟩
      · exact Or.inl h
      · obtain ⟨c6, hc6, hcl6⟩ := Cond.classLink_spec hown hl1 e.platform hpl
        obtain ⟨a8, b8, h1, h2, h3⟩ := hn1
        cases Option.some.inj (h1.symm.trans hcl)
        cases Option.some.inj (h2.symm.trans hc6)
        exact Or.inr ⟨hz0, _, hcl6, h3⟩)
  obtain ⟨g₀, hfr⟩ := X'.frames_eq
  have hcell9 : ((T.setVm vm').setFrames (.throwing q :: below)).heap[q]? = some ce := by
    show T.heap[q]? = some ce
    rw [hT]; exact hcell
  have hend : Ended ((T.setVm vm').setFrames (.throwing q :: below)) below (.threw q) := State.frames_setFrames _ (State.cur_lt_of_frames hfr)
  refine ⟨(T.setVm vm').setFrames (.throwing q :: below), ?_, .threw q, X'.here.running, hend, Or.inr ⟨q, rfl, E, ce, locs, hx _ hT (X'.ends _).1.alike, hcell9, hv, hcl, (X'.ends _).1, (X'.ends _).2.mono hc hs, hf⟩⟩
  rw [X.pushThrowing_eq]
  exact st
/-- a thing of a world lies in the heap -/
theorem vx_lt {D : va_G} {cl : List vw_C} {ws : va_W} {H1 : Heap} (h : va_P D cl ws H1) {k : Nat} {q : Nat × va_E} (hk : ws[k]? = some q) : q.1 < H1.size := (h k q hk).lt
end VXS
/-! ===== END ===== -/
/-! ===== BEGIN methods with a table of their own: called by a name, returning or throwing ===== -/
section VXH
/-! vx_backW, vx_callVX, vx_callSX, vx_callVW, vx_runVW, vx_runVX, vx_runSX, vx_ofWH follow the same proofs as their sisters above (Free/Laws.lean, Shelf42/LK1.lean); vx_outP calls Shelf42/NT130.lean (outThrough). -/
section
variable {l : Launch} {R : Room} {p : Program} {e : Env} {below : List Frame} {s : State} {sargs : Array Value} {y : MethodName} {len W9 : Nat}
theorem vx_backW {ws : List Cond} {rm : Room} {Pc : Array Value → State → Prop} {Qc : Array Value → State → Outcome → State → Prop} {XC : String → State → State → Prop} {mc ms : Nat} {free : Addr → Prop} {bytes : ByteArray} {maxL : Nat} {ret : Option FieldType} {hh : List (Nat × Nat × Nat × Nat)}
    (hM : vx_Met l y ws rm Pc Qc XC mc ms free) (hblind : FrameBlind Pc) (hrc : rm.cells = mc) (hrs : rm.slots = ms)
    (hframes : rm.frames + 1 ≤ R.frames) (hlocals : W9 + (maxL + 11) + rm.locals ≤ R.locals)
    (hws : ∀ w ∈ ws, ∀ a' U, s.WarmedH U.vm → w.before a' U = true) (hcode : Cond.codeWith y bytes maxL ret hh ∈ ws) (hinit : ∀ a' U, s.WarmedH U.vm → (Cond.initialized y.cls).before a' U = true) :
    vx_Back l R p e below s sargs y len W9 (PreOf R mc ms Pc) (PostOf Qc mc ms free) (vx_Post XC mc ms free) := by
  intro m meth c A g ig mk a X hg hsize hdg hW hn hp
  have h1 : (headSpec ws rm).pre.before a A.U = true := atoms_intro fun w hw => hws w hw _ _ X.warmed
  have h2 : (Cond.codeWith y bytes maxL ret hh).before a A.U = true := hws _ hcode _ _ X.warmed
  have h3 : (Cond.initialized y.cls).before a A.U = true := hinit _ _ X.warmed
  have h4 : A.cells + (headSpec ws rm).room.cells ≤ R.cells := by rw [show (headSpec ws rm).room.cells = mc from hrc]; exact hp.1
  have h5 : A.slots + (headSpec ws rm).room.slots ≤ R.slots := by rw [show (headSpec ws rm).room.slots = ms from hrs]; exact hp.2.1
  have hPc : Pc a (A.U.calling g mk a) := hblind _ _ _ _ hp.2.2
  obtain ⟨U, Ls, c0, s0⟩ := A
  dsimp only [Pt.U, Pt.locs, Pt.cells, Pt.slots] at h1 h2 h3 h4 h5 X hn hPc ⊢
  obtain ⟨m9, methY, cY, hn9, hmY, hcY, -, hlY, -⟩ := Cond.codeWith_spec h2
  cases Option.some.inj (hn9.symm.trans hn)
  obtain ⟨kY, hkY, -⟩ := className_of_methodNamed hn
  have hinitY : kY.init = .initialized := Cond.initialized_spec (findClass_of_methodNamed hn) hkY h3
  have h : At U g.method c below := by rw [hg]; exact X.here
  have hlocals9 : W9 + (maxL + 11) + (headSpec ws rm).room.locals ≤ R.locals := hlocals
  have happ : (headSpec ws rm).appliesLoose y e.platform (U.calling g mk a) = true :=
    Spec.appliesLoose_calling (g := g) h hdg hn hkY hinitY
      (X.room_calling (g := g) (R' := (headSpec ws rm).room) hsize hmY hcY hframes (by rw [hlY]; omega) h4 h5) h1
  obtain ⟨mid, hmid⟩ := h.above
  have hfr : (U.setTop g).frames = (.java g :: mid) ++ below := by rw [State.frames_setTop' g h.top, hmid]; rfl
  obtain ⟨o, s₂, hsteps, -, hend, hq⟩ := Steps.callFree hM p X.admits X.cas X.clock (acts := []) hfr happ hPc trivial
  have hq' : vx_Q Qc XC mc ms free a (U.calling g mk a) o s₂ := hq
  rw [State.frames_setTop' g h.top] at hend
  obtain ⟨g₀, hg0⟩ := Option.isSome_iff_exists.mp h.top
  obtain ⟨r, hr⟩ := State.topJava?_eq_some.mp hg0
  have hr' : (({ U with heap := s₂.heap, slotsUsed := s₂.slotsUsed } : State).setVm s₂.vm).frames = .java g₀ :: r := hr
  rcases hq' with ⟨hqc, L, hfe, hL⟩ | ⟨q, rfl, E, ce, L, hx, hce, hcv, hcl, hW₂, hsm, hL⟩
  · obtain ⟨⟨v, rfl⟩, hW₂, e2, q2, q3, q4, q5, q6⟩ := id hfe
    have e3 : s₂ = ({ (U.calling g mk a).setFrames s₂.frames with heap := s₂.heap, slotsUsed := s₂.slotsUsed } : State).setVm s₂.vm := by
      have : s₂ = ({ s₂ with vm := (U.calling g mk a).vm } : State).setVm s₂.vm := rfl
      rw [e2] at this
      exact this
    obtain ⟨c₂, i₂, len₂, hc₂, hd₂, hf₂⟩ := hend
    have hW' : U.WarmedH s₂.vm := hW₂
    have hcc : c₂ = c := by
      have h1 : s₂.code? g.method = U.code? g.method := by
        rw [State.code?_eq, State.code?_eq, hW'.alike.method?]
      exact Option.some.inj (hc₂.symm.trans (h1.trans h.code))
    subst hcc
    have hlen : len₂ = len := by rw [hdg] at hd₂; cases hd₂; rfl
    subst hlen
    have hs₂ : s₂ = (({ U with heap := s₂.heap, slotsUsed := s₂.slotsUsed } : State).setVm s₂.vm).setTop { g with pc := g.pc + len₂, stack := v.toList ++ g.stack } := by
      refine e3.trans ?_
      rw [hf₂, State.calling_eq h.top, State.setFrames_setFrames, State.setTop_of_frames _ hr', hr]
      rfl
    have hsame : U.sameButNew ({ U with heap := s₂.heap, slotsUsed := s₂.slotsUsed } : State) L mc ms := by
      refine ⟨?_, q2, q3, q4, q5, q6⟩
      obtain ⟨t, ht, -⟩ := State.frames_cons hr
      show ({ U with heap := s₂.heap, slotsUsed := s₂.slotsUsed } : State) = { U.setFrames U.frames with heap := s₂.heap, slotsUsed := s₂.slotsUsed }
      rw [State.setFrames_self ht]
    subst hg
    refine Or.inl ⟨v, ⟨(({ U with heap := s₂.heap, slotsUsed := s₂.slotsUsed } : State).setVm s₂.vm), Ls ++ L, c0 + mc, s0 + ms⟩,
      ⟨X.admits, X.cas, X.clock, X.frames, X.room, X.hears, X.method, X.code, (X.here.setHeapUsed s₂.heap s₂.slotsUsed).setVm hW'.alike, X.tail, State.WarmedH.trans X.warmed hW', X.limits, X.bytes, X.same.trans (hsame.setVm s.vm)⟩,
      ⟨g, mk, s₂, L, rfl, rfl, hqc, rfl, hL, rfl, rfl⟩, ?_⟩
    show Steps p.tables e below _ ((({ U with heap := s₂.heap, slotsUsed := s₂.slotsUsed } : State).setVm s₂.vm).setTop { g with pc := g.pc + len₂, stack := v.toList ++ g.stack })
    rw [← hs₂]
    exact hsteps
  · obtain ⟨e2, q2, q3, q4, q5, q6⟩ := id hsm
    have e3 : s₂ = ({ (U.calling g mk a).setFrames s₂.frames with heap := s₂.heap, slotsUsed := s₂.slotsUsed } : State).setVm s₂.vm := by
      have : s₂ = ({ s₂ with vm := (U.calling g mk a).vm } : State).setVm s₂.vm := rfl
      rw [e2] at this
      exact this
    have hf₂ : s₂.frames = .throwing q :: .java g :: U.frames.tail := hend
    have hW' : U.WarmedH s₂.vm := hW₂
    have hs₂ : s₂ = ((({ U with heap := s₂.heap, slotsUsed := s₂.slotsUsed } : State).setVm s₂.vm).setTop g).pushFrame (.throwing q) := by
      refine e3.trans ?_
      rw [hf₂, State.calling_eq h.top, State.setFrames_setFrames, State.pushFrame, State.frames_setTop _ hr', State.setTop_of_frames _ hr', State.setFrames_setFrames, hr]
      rfl
    have hsame : U.sameButNew ({ U with heap := s₂.heap, slotsUsed := s₂.slotsUsed } : State) L mc ms := by
      refine ⟨?_, q2, q3, q4, q5, q6⟩
      obtain ⟨t, ht, -⟩ := State.frames_cons hr
      show ({ U with heap := s₂.heap, slotsUsed := s₂.slotsUsed } : State) = { U.setFrames U.frames with heap := s₂.heap, slotsUsed := s₂.slotsUsed }
      rw [State.setFrames_self ht]
    subst hg
    refine Or.inr ⟨q, ⟨(({ U with heap := s₂.heap, slotsUsed := s₂.slotsUsed } : State).setVm s₂.vm), Ls ++ L, c0 + mc, s0 + ms⟩,
      ⟨X.admits, X.cas, X.clock, X.frames, X.room, X.hears, X.method, X.code, (X.here.setHeapUsed s₂.heap s₂.slotsUsed).setVm hW'.alike, X.tail, State.WarmedH.trans X.warmed hW', X.limits, X.bytes, X.same.trans (hsame.setVm s.vm)⟩,
      ⟨g, mk, s₂, L, E, ce, rfl, rfl, hx, hce, hcv, hcl, rfl, hL, rfl, rfl⟩, ?_⟩
    show Steps p.tables e below _ (((({ U with heap := s₂.heap, slotsUsed := s₂.slotsUsed } : State).setVm s₂.vm).setTop g).pushFrame (.throwing q))
    rw [← hs₂]
    exact hsteps
end
variable {p : Program} {l : Launch} {e : Env} {R : Room} {s : State} {m : MethodId} {args : Array Value} {below : List Frame} {meth : Method} {c : Code} {T : State} {H : Heap} {locs : List Loc} {cells slots : Nat}
theorem vx_callVX (X : Stand p l e R s m args below meth c T locs cells slots) (hexec : p.tables.exec = Jvm.exec) {own C : String} {index : Nat} {y : MethodName} {bytes : ByteArray} {maxL : Nat} {ret : Option FieldType} {hh : List (Nat × Nat × Nat × Nat)}
    (hown : s.vm.findClass own = some m.cls) (hlink : (Cond.methodLink own index y).before args s = true) (hinst : (Cond.instanceMethod y).before args s = true) (hsel : (Cond.selects C y y).before args s = true)
    (hcode : (Cond.codeWith y bytes maxL ret hh).before args s = true) (hy : y.cls ≠ "java/lang/invoke/MethodHandle" ∧ y.cls ≠ "java/lang/invoke/VarHandle")
    {W9 : Nat} {Pre : Pt → Array Value → Prop} {Post : Pt → Array Value → Option Value → Pt → Prop} {PostX : Pt → Array Value → Addr → Pt → Prop} (hK : vx_Back l R p e below s args y 3 W9 Pre Post PostX)
    {b : Addr} {cellB : Cell} (hcell : T.heap[b]? = some cellB) (hobj : cellB.vm.isStatics = false) (hcls : s.vm.findClass C = some cellB.cls)
    {g : JFrame} (hg : g.method = m) (hsize : g.locals.size = c.maxLocals) {argsL rest : List Value} (hlen : ∀ sig, parseMethodDescriptor y.desc = some sig → argsL.length = sig.parameters.length)
    (hstack : g.stack = argsL.reverse ++ .ref b :: rest) (hW : 2 * g.monitorRoom + (rest.map fun v => v.category).sum ≤ W9) (hdg : decode c.code g.pc = .ok (.invokevirtual index, 3))
    (hpre : ∀ vm₁, s.WarmedH vm₁ → Pre ⟨T.setVm vm₁, locs, cells, slots⟩ (Value.ref b :: argsL).toArray) :
    (∃ (v : Option Value) (vm₁ : Vm) (B : Pt), s.WarmedH vm₁ ∧ Stand p l e R s m args below meth c B.U B.locs B.cells B.slots ∧ Post ⟨T.setVm vm₁, locs, cells, slots⟩ (Value.ref b :: argsL).toArray v B ∧
      ∀ target, Steps p.tables e below (B.U.setTop { g with pc := g.pc + 3, stack := v.toList ++ rest }) target → Steps p.tables e below (T.setTop g) target) ∨
    (∃ (q : Addr) (vm₁ : Vm) (B : Pt), s.WarmedH vm₁ ∧ Stand p l e R s m args below meth c B.U B.locs B.cells B.slots ∧ PostX ⟨T.setVm vm₁, locs, cells, slots⟩ (Value.ref b :: argsL).toArray q B ∧
      Steps p.tables e below (T.setTop g) ((B.U.setTop { g with stack := rest }).pushFrame (.throwing q))) := by
  obtain ⟨mk, methM, hnamed, hmethM, hstM, habM⟩ := Cond.instanceMethod_spec hinst
  obtain ⟨m8, methM', cM, hn8, hmethM', -, -, -, -, -, -, hsigM⟩ := Cond.codeWith_spec hcode
  cases Option.some.inj (hn8.symm.trans hnamed)
  cases hmethM.symm.trans hmethM'
  obtain ⟨c2, r2, m2, q1, q2, q3, q4, kP, hkP, hkPi⟩ := Cond.selects_spec hsel
  cases hcls.symm.trans q1
  cases (State.methodFound?_of_named hnamed hy).symm.trans q2
  cases hnamed.symm.trans q3
  have hselP : selectMethod e.platform s.vm cellB.cls mk = .method mk := by rw [Launch.admits_selectMethod X.admits]; exact q4
  obtain ⟨vm₁, X₁, hstep₁⟩ := X.invokevirtual hexec hown hlink hnamed hmethM hstM hkP hkPi hy (a := b) (cell := cellB) hcell
    (fun z h => by rw [h] at hobj; cases hobj) hselP hmethM habM hkP hkPi (g := g) hg (argsL := argsL) (rest := rest) (hlen _ hsigM) hstack hdg
  rcases hK m meth c ⟨T.setVm vm₁, locs, cells, slots⟩ { g with stack := rest } (.invokevirtual index) mk (Value.ref b :: argsL).toArray X₁ hg hsize hdg hW (X₁.named hnamed) (hpre vm₁ X₁.warmed) with ⟨v, B, X', hpost, hsteps⟩ | ⟨q, B, X', hpost, hsteps⟩
  · exact Or.inl ⟨v, vm₁, B, X₁.warmed, X', hpost, fun target h => hstep₁ _ fun acts => by rw [doInvoke_state]; exact hsteps.trans h⟩
  · exact Or.inr ⟨q, vm₁, B, X₁.warmed, X', hpost, hstep₁ _ fun acts => by rw [doInvoke_state]; exact hsteps⟩
theorem vx_callSX (X : Stand p l e R s m args below meth c T locs cells slots) (hexec : p.tables.exec = Jvm.exec) {own : String} {index : Nat} {y : MethodName} {bytes : ByteArray} {maxL : Nat} {ret : Option FieldType} {hh : List (Nat × Nat × Nat × Nat)}
    (hown : s.vm.findClass own = some m.cls) (hlink : (Cond.methodLink own index y).before args s = true) (hstat : (Cond.static y).before args s = true) (hinit : (Cond.initialized y.cls).before args s = true)
    (hcode : (Cond.codeWith y bytes maxL ret hh).before args s = true) (hy : y.cls ≠ "java/lang/invoke/MethodHandle" ∧ y.cls ≠ "java/lang/invoke/VarHandle")
    {W9 : Nat} {Pre : Pt → Array Value → Prop} {Post : Pt → Array Value → Option Value → Pt → Prop} {PostX : Pt → Array Value → Addr → Pt → Prop} (hK : vx_Back l R p e below s args y 3 W9 Pre Post PostX)
    {g : JFrame} (hg : g.method = m) (hsize : g.locals.size = c.maxLocals) {argsL rest : List Value} (hlen : ∀ sig, parseMethodDescriptor y.desc = some sig → argsL.length = sig.parameters.length)
    (hstack : g.stack = argsL.reverse ++ rest) (hW : 2 * g.monitorRoom + (rest.map fun v => v.category).sum ≤ W9) (hdg : decode c.code g.pc = .ok (.invokestatic index, 3))
    (hpre : ∀ vm₁, s.WarmedH vm₁ → Pre ⟨T.setVm vm₁, locs, cells, slots⟩ argsL.toArray) :
    (∃ (v : Option Value) (vm₁ : Vm) (B : Pt), s.WarmedH vm₁ ∧ Stand p l e R s m args below meth c B.U B.locs B.cells B.slots ∧ Post ⟨T.setVm vm₁, locs, cells, slots⟩ argsL.toArray v B ∧
      ∀ target, Steps p.tables e below (B.U.setTop { g with pc := g.pc + 3, stack := v.toList ++ rest }) target → Steps p.tables e below (T.setTop g) target) ∨
    (∃ (q : Addr) (vm₁ : Vm) (B : Pt), s.WarmedH vm₁ ∧ Stand p l e R s m args below meth c B.U B.locs B.cells B.slots ∧ PostX ⟨T.setVm vm₁, locs, cells, slots⟩ argsL.toArray q B ∧
      Steps p.tables e below (T.setTop g) ((B.U.setTop { g with stack := rest }).pushFrame (.throwing q))) := by
  obtain ⟨mk, methM, cM, hnamed, hmethM, -, -, -, -, -, -, hsigM⟩ := Cond.codeWith_spec hcode
  have hstatic : methM.isStatic = true := Cond.static_spec hnamed hmethM hstat
  obtain ⟨kP, hkP, -⟩ := className_of_methodNamed hnamed
  have hinitP : kP.init = .initialized := Cond.initialized_spec (findClass_of_methodNamed hnamed) hkP hinit
  obtain ⟨vm₁, X₁, hstep₁⟩ := X.invokestatic hexec hown hlink hnamed hmethM hstatic hkP hinitP hy (g := g) hg (argsL := argsL) (rest := rest) (hlen _ hsigM) hstack hdg
  rcases hK m meth c ⟨T.setVm vm₁, locs, cells, slots⟩ { g with stack := rest } (.invokestatic index) mk argsL.toArray X₁ hg hsize hdg hW (X₁.named hnamed) (hpre vm₁ X₁.warmed) with ⟨v, B, X', hpost, hsteps⟩ | ⟨q, B, X', hpost, hsteps⟩
  · exact Or.inl ⟨v, vm₁, B, X₁.warmed, X', hpost, fun target h => hstep₁ _ fun acts => by rw [doInvoke_state]; exact hsteps.trans h⟩
  · exact Or.inr ⟨q, vm₁, B, X₁.warmed, X', hpost, hstep₁ _ fun acts => by rw [doInvoke_state]; exact hsteps⟩
theorem vx_callVW (X : Stand p l e R s m args below meth c T locs cells slots) (hexec : p.tables.exec = Jvm.exec) {own C : String} {index : Nat} {y : MethodName} {bytes : ByteArray} {maxL : Nat} {ret : Option FieldType} {hh : List (Nat × Nat × Nat × Nat)}
    (hown : s.vm.findClass own = some m.cls) (hlink : (Cond.methodLink own index y).before args s = true) (hinst : (Cond.instanceMethod y).before args s = true) (hsel : (Cond.selects C y y).before args s = true)
    (hcode : (Cond.codeWith y bytes maxL ret hh).before args s = true) (hy : y.cls ≠ "java/lang/invoke/MethodHandle" ∧ y.cls ≠ "java/lang/invoke/VarHandle")
    {W9 : Nat} {Pre : Pt → Array Value → Prop} {Post : Pt → Array Value → Option Value → Pt → Prop} (hK : Back l R p e below s args y 3 W9 Pre Post)
    {b : Addr} {cellB : Cell} (hcell : T.heap[b]? = some cellB) (hobj : cellB.vm.isStatics = false) (hcls : s.vm.findClass C = some cellB.cls)
    {g : JFrame} (hg : g.method = m) (hsize : g.locals.size = c.maxLocals) {argsL rest : List Value} (hlen : ∀ sig, parseMethodDescriptor y.desc = some sig → argsL.length = sig.parameters.length)
    (hstack : g.stack = argsL.reverse ++ .ref b :: rest) (hW : 2 * g.monitorRoom + (rest.map fun v => v.category).sum ≤ W9) (hdg : decode c.code g.pc = .ok (.invokevirtual index, 3))
    (hpre : ∀ vm₁, s.WarmedH vm₁ → Pre ⟨T.setVm vm₁, locs, cells, slots⟩ (Value.ref b :: argsL).toArray) :
    ∃ (v : Option Value) (vm₁ : Vm) (B : Pt), s.WarmedH vm₁ ∧ Stand p l e R s m args below meth c B.U B.locs B.cells B.slots ∧ Post ⟨T.setVm vm₁, locs, cells, slots⟩ (Value.ref b :: argsL).toArray v B ∧
      ∀ target, Steps p.tables e below (B.U.setTop { g with pc := g.pc + 3, stack := v.toList ++ rest }) target → Steps p.tables e below (T.setTop g) target := by
  obtain ⟨mk, methM, hnamed, hmethM, hstM, habM⟩ := Cond.instanceMethod_spec hinst
  obtain ⟨m8, methM', cM, hn8, hmethM', -, -, -, -, -, -, hsigM⟩ := Cond.codeWith_spec hcode
  cases Option.some.inj (hn8.symm.trans hnamed)
  cases hmethM.symm.trans hmethM'
  obtain ⟨c2, r2, m2, q1, q2, q3, q4, kP, hkP, hkPi⟩ := Cond.selects_spec hsel
  cases hcls.symm.trans q1
  cases (State.methodFound?_of_named hnamed hy).symm.trans q2
  cases hnamed.symm.trans q3
  have hselP : selectMethod e.platform s.vm cellB.cls mk = .method mk := by rw [Launch.admits_selectMethod X.admits]; exact q4
  obtain ⟨vm₁, X₁, hstep₁⟩ := X.invokevirtual hexec hown hlink hnamed hmethM hstM hkP hkPi hy (a := b) (cell := cellB) hcell
    (fun z h => by rw [h] at hobj; cases hobj) hselP hmethM habM hkP hkPi (g := g) hg (argsL := argsL) (rest := rest) (hlen _ hsigM) hstack hdg
  obtain ⟨v, B, X', hpost, hsteps⟩ := hK m meth c ⟨T.setVm vm₁, locs, cells, slots⟩ { g with stack := rest } (.invokevirtual index) mk (Value.ref b :: argsL).toArray X₁ hg hsize hdg hW (X₁.named hnamed) (hpre vm₁ X₁.warmed)
  exact ⟨v, vm₁, B, X₁.warmed, X', hpost, fun target h => hstep₁ _ fun acts => by rw [doInvoke_state]; exact hsteps.trans h⟩
abbrev vx_CVW (R : Room) (s : State) (args : Array Value) (own C : String) (index : Nat) (y : MethodName) (bytes : ByteArray) (maxL : Nat) (ret : Option FieldType) (hh : List (Nat × Nat × Nat × Nat)) (ws : List Cond) (rm : Room) (mc ms n : Nat) : Prop :=
  (rm.cells = mc ∧ rm.slots = ms ∧ rm.frames + 1 ≤ R.frames ∧ 8 + (maxL + 11) + rm.locals ≤ R.locals ∧ (∀ w ∈ ws, ∀ (a' : Array Value) (U : State), s.WarmedH U.vm → w.before a' U = true) ∧ Cond.codeWith y bytes maxL ret hh ∈ ws) ∧
  (Cond.codeWith y bytes maxL ret hh).before args s = true ∧ (Cond.initialized y.cls).before args s = true ∧ (y.cls ≠ "java/lang/invoke/MethodHandle" ∧ y.cls ≠ "java/lang/invoke/VarHandle") ∧
  (∀ sig, parseMethodDescriptor y.desc = some sig → n = sig.parameters.length) ∧ (Cond.methodLink own index y).before args s = true ∧ (Cond.instanceMethod y).before args s = true ∧ (Cond.selects C y y).before args s = true
theorem vx_cwVW {own C : String} {index maxL mc ms : Nat} {y : MethodName} {bytes : ByteArray} {ret : Option FieldType} {hh : List (Nat × Nat × Nat × Nat)} {Ts ws ws' : List Cond} {rm : Room} (n : Nat) (ht : ∀ w ∈ Ts, w.before args s = true) (hT : GoodIn Ts (wsV own index C y ws)) (hw : ws = Cond.codeWith y bytes maxL ret hh :: ws') (hrc : rm.cells = mc) (hrs : rm.slots = ms)
    (hd : y.cls = C ∧ y.cls ≠ "java/lang/invoke/MethodHandle" ∧ y.cls ≠ "java/lang/invoke/VarHandle" ∧ (parseMethodDescriptor y.desc).map (fun d => d.parameters.length) = some n) (hR : rm.frames + 1 ≤ R.frames ∧ 8 + (maxL + 11) + rm.locals ≤ R.locals) :
    vx_CVW R s args own C index y bytes maxL ret hh ws rm mc ms n := by
  obtain ⟨hC, hd⟩ := hd
  subst hC
  have ok : ∀ w ∈ wsV own index y.cls y ws, w.before args s = true := fun w h => ht w (hT w h).1
  have hG : GoodIn Ts ws := fun w h => hT w (by unfold wsV; exact List.mem_append_right _ h)
  have hc : Cond.codeWith y bytes maxL ret hh ∈ ws := by rw [hw]; exact List.mem_cons_self
  refine ⟨⟨hrc, hrs, hR.1, hR.2, pay_in ht hG, hc⟩, ht _ (hG _ hc).1, ok _ (by simp [wsV]), ⟨hd.1, hd.2.1⟩, fun sig h => ?_, ok _ (by simp [wsV]), ok _ (by simp [wsV]), ok _ (by simp [wsV])⟩
  have h2 := hd.2.2
  rw [h] at h2
  exact (Option.some.inj h2).symm
theorem vx_runVW {y : MethodName} {bytes cc : ByteArray} {maxL nL mc ms n index : Nat} {ret : Option FieldType} {hh : List (Nat × Nat × Nat × Nat)} {ws : List Cond} {rm : Room} {Pc : Array Value → State → Prop} {Qc : Array Value → State → Outcome → State → Prop} {free : Addr → Prop} {Ts : List Cond} {own C : String} {b : Addr} {As rest : List Value} {g : JFrame}
    (S : CallFix p m c cc nL s args Ts own) (hM : Met l y ws rm Pc Qc mc ms free) (cw : vx_CVW R s args own C index y bytes maxL ret hh ws rm mc ms n) (hp : PreV s H C b Pc As)
    (hg : g.method = m) (hn : As.length = n) (hsize : g.locals.size = nL) (hstack : g.stack = As.reverse ++ .ref b :: rest) (hW : 2 * g.monitorRoom + (rest.map fun v => v.category).sum ≤ 8) (hdg : decode cc g.pc = .ok (.invokevirtual index, 3)) (hf : cells + mc ≤ R.cells ∧ slots + ms ≤ R.slots) :
    va_Run p l e R s m args below meth c H locs cells slots mc ms g rest (Qc (Value.ref b :: As).toArray) free := by
  obtain ⟨⟨hrc, hrs, hfr, hlo, hws, hcw⟩, hcode, hini, hy, hlen, hl, hin, hse⟩ := cw
  have hK : Back l R p e below s args y 3 8 (PreOf R mc ms Pc) (PostOf Qc mc ms free) := va_backW (hh := hh) (bytes := bytes) (maxL := maxL) (ret := ret) hM hp.1 hrc hrs hfr hlo hws hcw (fun a' U hW => word_at hW (Or.inl (by first | rfl | simp [Cond.onTables, Cond.keeps, Cond.steady])) hini)
  obtain ⟨hx, hb, hml, ho, -⟩ := S
  obtain ⟨-, ⟨cellB, hcB, hoB, hclB⟩, hPc⟩ := hp
  intro T hT X
  obtain ⟨v, vm₁, ⟨U', l2, c2, s2⟩, hW₁, X', ⟨g', mk, t, L, e1, e2, hq, h1, hL, h2, h3⟩, st⟩ := vx_callVW X hx (C := C) (hh := hh) (bytes := bytes) (maxL := maxL) (ret := ret) ho hl hin hse hcode hy hK (by rw [hT]; exact hcB) hoB hclB hg (hsize.trans hml.symm) (argsL := As) (rest := rest) (fun sig h => hn.trans (hlen sig h)) hstack hW (by rw [hb]; exact hdg)
    (fun vm₁ hW₁ => ⟨hf.1, hf.2, hPc (T.setVm vm₁) hT hW₁⟩)
  dsimp only [Pt.U, Pt.locs, Pt.cells, Pt.slots] at X' e1 e2 h1 h2 h3 st
  subst h1; subst h2; subst h3
  exact ⟨v, (T.setVm vm₁).calling g' mk (Value.ref b :: As).toArray, t, U', L, hT, X', hL, e1, e2, hq, st⟩
section
variable {y : MethodName} {bytes cc : ByteArray} {maxL nL mc ms n index : Nat} {ret : Option FieldType} {ws : List Cond} {rm : Room} {Pc : Array Value → State → Prop} {Qc : Array Value → State → Outcome → State → Prop} {XC : String → State → State → Prop} {free : Addr → Prop} {Ts : List Cond} {own C : String} {b : Addr} {As rest : List Value} {g : JFrame}
theorem vx_runVX {hh : List (Nat × Nat × Nat × Nat)} (S : CallFix p m c cc nL s args Ts own) (hM : vx_Met l y ws rm Pc Qc XC mc ms free) (cw : vx_CVW R s args own C index y bytes maxL ret hh ws rm mc ms n) (hp : PreV s H C b Pc As)
    (hg : g.method = m) (hn : As.length = n) (hsize : g.locals.size = nL) (hstack : g.stack = As.reverse ++ .ref b :: rest) (hW : 2 * g.monitorRoom + (rest.map fun v => v.category).sum ≤ 8) (hdg : decode cc g.pc = .ok (.invokevirtual index, 3)) (hf : cells + mc ≤ R.cells ∧ slots + ms ≤ R.slots) :
    vx_Run p l e R s m args below meth c H locs cells slots mc ms g rest (Qc (Value.ref b :: As).toArray) XC free := by
  obtain ⟨⟨hrc, hrs, hfr, hlo, hws, hcw⟩, hcode, hini, hy, hlen, hl, hin, hse⟩ := cw
  have hK : vx_Back l R p e below s args y 3 8 (PreOf R mc ms Pc) (PostOf Qc mc ms free) (vx_Post XC mc ms free) := vx_backW (hh := hh) (bytes := bytes) (maxL := maxL) (ret := ret) hM hp.1 hrc hrs hfr hlo hws hcw (fun a' U hW => word_at hW (Or.inl (by first | rfl | simp [Cond.onTables, Cond.keeps, Cond.steady])) hini)
  obtain ⟨hx, hb, hml, ho, -⟩ := S
  obtain ⟨-, ⟨cellB, hcB, hoB, hclB⟩, hPc⟩ := hp
  intro T hT X
  rcases vx_callVX X hx (C := C) (hh := hh) (bytes := bytes) (maxL := maxL) (ret := ret) ho hl hin hse hcode hy hK (by rw [hT]; exact hcB) hoB hclB hg (hsize.trans hml.symm) (argsL := As) (rest := rest) (fun sig h => hn.trans (hlen sig h)) hstack hW (by rw [hb]; exact hdg)
    (fun vm₁ hW₁ => ⟨hf.1, hf.2, hPc (T.setVm vm₁) hT hW₁⟩) with ⟨v, vm₁, ⟨U', l2, c2, s2⟩, hW₁, X', ⟨g', mk, t, L, e1, e2, hq, h1, hL, h2, h3⟩, st⟩ | ⟨q, vm₁, ⟨U', l2, c2, s2⟩, hW₁, X', ⟨g', mk, t, L, E, ce, e1, e2, hq, hce, hcv, hcl, h1, hL, h2, h3⟩, st⟩
  · dsimp only [Pt.U, Pt.locs, Pt.cells, Pt.slots] at X' e1 e2 h1 h2 h3 st
    subst h1; subst h2; subst h3
    exact Or.inl ⟨v, (T.setVm vm₁).calling g' mk (Value.ref b :: As).toArray, t, U', L, hT, X', hL, e1, e2, hq, st⟩
  · dsimp only [Pt.U, Pt.locs, Pt.cells, Pt.slots] at X' e1 e2 h1 h2 h3 st hcl
    subst h1; subst h2; subst h3
    exact Or.inr ⟨q, (T.setVm vm₁).calling g' mk (Value.ref b :: As).toArray, t, U', L, E, ce, hT, X', hL, e1, e2, hq, hce, hcv, vx_cls hW₁ hcl, st⟩
theorem vx_runSX {hh : List (Nat × Nat × Nat × Nat)} (S : CallFix p m c cc nL s args Ts own) (hM : vx_Met l y ws rm Pc Qc XC mc ms free) (cw : vx_CSW R s args own index y bytes maxL ret hh ws rm mc ms n) (hp : PreS s H Pc As)
    (hg : g.method = m) (hn : As.length = n) (hsize : g.locals.size = nL) (hstack : g.stack = As.reverse ++ rest) (hW : 2 * g.monitorRoom + (rest.map fun v => v.category).sum ≤ 8) (hdg : decode cc g.pc = .ok (.invokestatic index, 3)) (hf : cells + mc ≤ R.cells ∧ slots + ms ≤ R.slots) :
    vx_Run p l e R s m args below meth c H locs cells slots mc ms g rest (Qc As.toArray) XC free := by
  obtain ⟨⟨hrc, hrs, hfr, hlo, hws, hcw⟩, hcode, hini, hy, hlen, hl, hstt⟩ := cw
  have hK : vx_Back l R p e below s args y 3 8 (PreOf R mc ms Pc) (PostOf Qc mc ms free) (vx_Post XC mc ms free) := vx_backW (hh := hh) (bytes := bytes) (maxL := maxL) (ret := ret) hM hp.1 hrc hrs hfr hlo hws hcw (fun a' U hW => word_at hW (Or.inl (by first | rfl | simp [Cond.onTables, Cond.keeps, Cond.steady])) hini)
  obtain ⟨hx, hb, hml, ho, -⟩ := S
  intro T hT X
  rcases vx_callSX X hx (hh := hh) (bytes := bytes) (maxL := maxL) (ret := ret) ho hl hstt hini hcode hy hK hg (hsize.trans hml.symm) (argsL := As) (rest := rest) (fun sig h => hn.trans (hlen sig h)) hstack hW (by rw [hb]; exact hdg)
    (fun vm₁ hW₁ => ⟨hf.1, hf.2, hp.2 (T.setVm vm₁) hT hW₁⟩) with ⟨v, vm₁, ⟨U', l2, c2, s2⟩, hW₁, X', ⟨g', mk, t, L, e1, e2, hq, h1, hL, h2, h3⟩, st⟩ | ⟨q, vm₁, ⟨U', l2, c2, s2⟩, hW₁, X', ⟨g', mk, t, L, E, ce, e1, e2, hq, hce, hcv, hcl, h1, hL, h2, h3⟩, st⟩
  · dsimp only [Pt.U, Pt.locs, Pt.cells, Pt.slots] at X' e1 e2 h1 h2 h3 st
    subst h1; subst h2; subst h3
    exact Or.inl ⟨v, (T.setVm vm₁).calling g' mk As.toArray, t, U', L, hT, X', hL, e1, e2, hq, st⟩
  · dsimp only [Pt.U, Pt.locs, Pt.cells, Pt.slots] at X' e1 e2 h1 h2 h3 st hcl
    subst h1; subst h2; subst h3
    exact Or.inr ⟨q, (T.setVm vm₁).calling g' mk As.toArray, t, U', L, E, ce, hT, X', hL, e1, e2, hq, hce, hcv, vx_cls hW₁ hcl, st⟩
end
end VXH
theorem vx_ofWH {l : Launch} {y : MethodName} {ws ws' : List Cond} {rm : Room} {Pc : Array Value → State → Prop} {Qc : Array Value → State → Outcome → State → Prop} {XC : String → State → State → Prop} {mc ms : Nat} {free : Addr → Prop} {cc : ByteArray} {maxL : Nat} {ret : Option FieldType} {hh : List (Nat × Nat × Nat × Nat)}
    (hy : plainName y.cls = true) (hw : ws = Cond.codeWith y cc maxL ret hh :: ws')
    (body : ∀ p e s m args below meth c s₁, BodyLoose p l y (headSpec ws rm) cc maxL ret e s m args below meth c s₁ → c.maxLocals = maxL → Pc args s →
      W p l e (headSpec ws rm).room s m args below meth c s.heap [] 0 0 (vx_MQ below Qc XC args s mc ms free) (entryFrame m args maxL)) : vx_Met l y ws rm Pc Qc XC mc ms free := by
  refine MetFree.of_bodyS (code := cc) (maxLocals := maxL) (ret := ret) hy ?_ ?_
  · intro args s m h hn
    obtain ⟨m9, meth, c, hn9, h1, h2, h3, h4, -, h5, h6, -⟩ := Cond.codeWith_spec (atoms_spec (ws := ws) h _ (by rw [hw]; exact List.mem_cons_self))
    cases hn.symm.trans hn9
    exact ⟨meth, c, h1, h2, h3, h4, h5, h6⟩
  · intro p e s m args below meth c s₁ B hml hP _
    have hh0 : s₁.heap = s.heap := by rw [B.state]; rfl
    obtain ⟨t, a1, o, b1, b2, b3⟩ := body p e s m args below meth c s₁ B hml hP s₁ hh0 (Stand.of_body B)
    exact ⟨t, o, a1, b1, b2, b3⟩
/-! ===== END ===== -/
end
section
def RX0 : String := "PlaneProof$Book"
def TX0 : u_T := fun k => match k with
  | 0 => ("PlaneProof$Book", "lines", "[LPlaneProof$Line;", true)
  | 1 => ("PlaneProof$Book", "axioms", "I", true)
  | _ => ("PlaneProof$Book", "size", "I", true)
def tyX0 : Nat → FieldType := fun k => match k with
  | 0 => .array (.object "PlaneProof$Line")
  | 1 => .int
  | _ => .int
abbrev wsX00 : List Cond := u_ws RX0 TX0 3
theorem nmX0 : ∀ a, a < 3 → ∀ b, b < 3 → a ≠ b → (TX0 a).2.1 ≠ (TX0 b).2.1 := by decide +kernel
theorem tyX0_ok : ∀ k, k < 3 → parseFieldDescriptor (TX0 k).2.2.1 = some (tyX0 k) := by decide +kernel
abbrev cX0_init : ByteArray := prog_2_method_1_code
def yX0_init : MethodName := ⟨RX0, "<init>", "([LPlaneProof$Line;II)V"⟩
abbrev cX0_axiomBits : ByteArray := prog_2_method_2_code
def yX0_axiomBits : MethodName := ⟨RX0, "axiomBits", "()J"⟩
abbrev cX0_modelsWithout : ByteArray := prog_2_method_3_code
def yX0_modelsWithout : MethodName := ⟨RX0, "modelsWithout", "(I)J"⟩
abbrev cX0_leastCore : ByteArray := prog_2_method_4_code
def yX0_leastCore : MethodName := ⟨RX0, "leastCore", "()I"⟩
abbrev cX0_lesserCore : ByteArray := prog_2_method_5_code
def yX0_lesserCore : MethodName := ⟨RX0, "lesserCore", "(LPlaneProof$Book;IIJI)I"⟩
abbrev cX0_modelsOfFirst : ByteArray := prog_2_method_6_code
def yX0_modelsOfFirst : MethodName := ⟨RX0, "modelsOfFirst", "(I)J"⟩
abbrev cX0_usersOf : ByteArray := prog_2_method_7_code
def yX0_usersOf : MethodName := ⟨RX0, "usersOf", "(I)I"⟩
abbrev cX0_unusedSteps : ByteArray := prog_2_method_8_code
def yX0_unusedSteps : MethodName := ⟨RX0, "unusedSteps", "()I"⟩
abbrev cX0_planeCount : ByteArray := prog_2_method_9_code
def yX0_planeCount : MethodName := ⟨RX0, "planeCount", "()I"⟩
abbrev cX0_madeBy : ByteArray := prog_2_method_10_code
def yX0_madeBy : MethodName := ⟨RX0, "madeBy", "(I)I"⟩
abbrev cX0_mostKept : ByteArray := prog_2_method_11_code
def yX0_mostKept : MethodName := ⟨RX0, "mostKept", "(LPlaneProof$Line;)I"⟩
abbrev cX0_bitOf : ByteArray := prog_2_method_12_code
def yX0_bitOf : MethodName := ⟨RX0, "bitOf", "(I)J"⟩
abbrev cX0_isRegular : ByteArray := prog_2_method_13_code
def yX0_isRegular : MethodName := ⟨RX0, "isRegular", "(LPlaneProof$Line;)Z"⟩
abbrev cX0_needsSameRes : ByteArray := prog_2_method_14_code
def yX0_needsSameRes : MethodName := ⟨RX0, "needsSameRes", "(I)Z"⟩
abbrev cX0_isByResolution : ByteArray := prog_2_method_15_code
def yX0_isByResolution : MethodName := ⟨RX0, "isByResolution", "(J)Z"⟩
abbrev cX0_planeLinesFor : ByteArray := prog_2_method_16_code
def yX0_planeLinesFor : MethodName := ⟨RX0, "planeLinesFor", "(J)I"⟩
abbrev cX0_planeLinesOf : ByteArray := prog_2_method_17_code
def yX0_planeLinesOf : MethodName := ⟨RX0, "planeLinesOf", "(LPlaneProof$Line;)I"⟩
abbrev cX0_litsInBoth : ByteArray := prog_2_method_18_code
def yX0_litsInBoth : MethodName := ⟨RX0, "litsInBoth", "(LPlaneProof$Line;)I"⟩
abbrev cX0_litsInOne : ByteArray := prog_2_method_19_code
def yX0_litsInOne : MethodName := ⟨RX0, "litsInOne", "(LPlaneProof$Line;)I"⟩
def RX1 : String := "PlaneProof$ClaimReader"
def TX1 : u_T := fun k => match k with
  | 0 => ("PlaneProof$TextReader", "signs", "LPlaneProof$Signs;", true)
  | 1 => ("PlaneProof$TextReader", "lines", "[LPlaneProof$Line;", true)
  | 2 => ("PlaneProof$TextReader", "size", "I", false)
  | 3 => ("PlaneProof$TextReader", "faultAt", "I", false)
  | _ => ("PlaneProof$ClaimReader", "graph", "LPlaneProof$Graph;", true)
def tyX1 : Nat → FieldType := fun k => match k with
  | 0 => .object "PlaneProof$Signs"
  | 1 => .array (.object "PlaneProof$Line")
  | 2 => .int
  | 3 => .int
  | _ => .object "PlaneProof$Graph"
abbrev wsX10 : List Cond := u_ws RX1 TX1 5
theorem nmX1 : ∀ a, a < 5 → ∀ b, b < 5 → a ≠ b → (TX1 a).2.1 ≠ (TX1 b).2.1 := by decide +kernel
theorem tyX1_ok : ∀ k, k < 5 → parseFieldDescriptor (TX1 k).2.2.1 = some (tyX1 k) := by decide +kernel
abbrev cX1_init : ByteArray := prog_3_method_1_code
def yX1_init : MethodName := ⟨RX1, "<init>", "(LPlaneProof$Signs;)V"⟩
abbrev cX1_isSound : ByteArray := prog_3_method_2_code
def yX1_isSound : MethodName := ⟨RX1, "isSound", "(LPlaneProof$Line;)Z"⟩
abbrev cX1_readUpToStop : ByteArray := prog_3_method_3_code
def yX1_readUpToStop : MethodName := ⟨RX1, "readUpToStop", "()LPlaneProof$Line;"⟩
abbrev cX1_readOr : ByteArray := prog_3_method_4_code
def yX1_readOr : MethodName := ⟨RX1, "readOr", "()LPlaneProof$Line;"⟩
abbrev cX1_readSum : ByteArray := prog_3_method_5_code
def yX1_readSum : MethodName := ⟨RX1, "readSum", "()LPlaneProof$Line;"⟩
abbrev cX1_readTerm : ByteArray := prog_3_method_6_code
def yX1_readTerm : MethodName := ⟨RX1, "readTerm", "(LPlaneProof$Line;)Z"⟩
abbrev cX1_readBound : ByteArray := prog_3_method_7_code
def yX1_readBound : MethodName := ⟨RX1, "readBound", "(LPlaneProof$Line;)Z"⟩
abbrev cX1_readMinus : ByteArray := prog_3_method_8_code
def yX1_readMinus : MethodName := ⟨RX1, "readMinus", "()Z"⟩
abbrev cX1_readSource : ByteArray := prog_3_method_9_code
def yX1_readSource : MethodName := ⟨RX1, "readSource", "()LPlaneProof$Line;"⟩
abbrev cX1_readStep : ByteArray := prog_3_method_10_code
def yX1_readStep : MethodName := ⟨RX1, "readStep", "()LPlaneProof$Line;"⟩
abbrev cX1_readBehindFrom : ByteArray := prog_3_method_11_code
def yX1_readBehindFrom : MethodName := ⟨RX1, "readBehindFrom", "(LPlaneProof$Line;)Z"⟩
abbrev cX1_readSink : ByteArray := prog_3_method_12_code
def yX1_readSink : MethodName := ⟨RX1, "readSink", "()LPlaneProof$Line;"⟩
abbrev cX1_clauseOf : ByteArray := prog_3_method_13_code
def yX1_clauseOf : MethodName := ⟨RX1, "clauseOf", "(IZ)LPlaneProof$Line;"⟩
def RX2 : String := "PlaneProof$Closure"
def TX2 : u_T := fun k => match k with
  | 0 => ("PlaneProof$Closure", "width", "I", true)
  | 1 => ("PlaneProof$Closure", "there", "[J", true)
  | 2 => ("PlaneProof$Closure", "found", "[I", true)
  | 3 => ("PlaneProof$Closure", "size", "I", false)
  | 4 => ("PlaneProof$Closure", "rounds", "I", false)
  | 5 => ("PlaneProof$Closure", "emptyRound", "I", false)
  | _ => ("PlaneProof$Closure", "isBuilt", "Z", false)
def tyX2 : Nat → FieldType := fun k => match k with
  | 0 => .int
  | 1 => .array .long
  | 2 => .array .int
  | 3 => .int
  | 4 => .int
  | 5 => .int
  | _ => .boolean
abbrev wsX20 : List Cond := u_ws RX2 TX2 7
theorem nmX2 : ∀ a, a < 7 → ∀ b, b < 7 → a ≠ b → (TX2 a).2.1 ≠ (TX2 b).2.1 := by decide +kernel
theorem tyX2_ok : ∀ k, k < 7 → parseFieldDescriptor (TX2 k).2.2.1 = some (tyX2 k) := by decide +kernel
abbrev cX2_init : ByteArray := prog_4_method_1_code
def yX2_init : MethodName := ⟨RX2, "<init>", "(I)V"⟩
abbrev cX2_isThere : ByteArray := prog_4_method_2_code
def yX2_isThere : MethodName := ⟨RX2, "isThere", "(II)Z"⟩
abbrev cX2_build : ByteArray := prog_4_method_3_code
def yX2_build : MethodName := ⟨RX2, "build", "(LPlaneProof$Book;)V"⟩
abbrev cX2_goRounds : ByteArray := prog_4_method_4_code
def yX2_goRounds : MethodName := ⟨RX2, "goRounds", "()V"⟩
abbrev cX2_clashOf : ByteArray := prog_4_method_5_code
def yX2_clashOf : MethodName := ⟨RX2, "clashOf", "(II)I"⟩
abbrev cX2_putWithout : ByteArray := prog_4_method_6_code
def yX2_putWithout : MethodName := ⟨RX2, "putWithout", "(II)V"⟩
abbrev cX2_put : ByteArray := prog_4_method_7_code
def yX2_put : MethodName := ⟨RX2, "put", "(II)V"⟩
def RX3 : String := "PlaneProof$Composer"
def TX3 : u_T := fun k => match k with
  | 0 => ("PlaneProof$Composer", "scribe", "LPlaneProof$Scribe;", true)
  | 1 => ("PlaneProof$Composer", "placed", "[I", true)
  | _ => ("PlaneProof$Composer", "nextNumber", "I", false)
def tyX3 : Nat → FieldType := fun k => match k with
  | 0 => .object "PlaneProof$Scribe"
  | 1 => .array .int
  | _ => .int
abbrev wsX30 : List Cond := u_ws RX3 TX3 3
theorem nmX3 : ∀ a, a < 3 → ∀ b, b < 3 → a ≠ b → (TX3 a).2.1 ≠ (TX3 b).2.1 := by decide +kernel
theorem tyX3_ok : ∀ k, k < 3 → parseFieldDescriptor (TX3 k).2.2.1 = some (tyX3 k) := by decide +kernel
abbrev cX3_init : ByteArray := prog_5_method_1_code
def yX3_init : MethodName := ⟨RX3, "<init>", "(LPlaneProof$Scribe;)V"⟩
abbrev cX3_writeNeeded : ByteArray := prog_5_method_2_code
def yX3_writeNeeded : MethodName := ⟨RX3, "writeNeeded", "(LPlaneProof$Book;J)V"⟩
abbrev cX3_writeStep : ByteArray := prog_5_method_3_code
def yX3_writeStep : MethodName := ⟨RX3, "writeStep", "(LPlaneProof$Book;JLPlaneProof$Line;)V"⟩
abbrev cX3_numberAnew : ByteArray := prog_5_method_4_code
def yX3_numberAnew : MethodName := ⟨RX3, "numberAnew", "(LPlaneProof$Book;JI)I"⟩
abbrev cX3_wordFor : ByteArray := prog_5_method_5_code
def yX3_wordFor : MethodName := ⟨RX3, "wordFor", "(I)Ljava/lang/String;"⟩
abbrev cX3_writeAsPlanes : ByteArray := prog_5_method_6_code
def yX3_writeAsPlanes : MethodName := ⟨RX3, "writeAsPlanes", "(LPlaneProof$Book;J)V"⟩
abbrev cX3_writeWeak : ByteArray := prog_5_method_7_code
def yX3_writeWeak : MethodName := ⟨RX3, "writeWeak", "(LPlaneProof$Line;)I"⟩
abbrev cX3_writeRes : ByteArray := prog_5_method_8_code
def yX3_writeRes : MethodName := ⟨RX3, "writeRes", "(LPlaneProof$Book;LPlaneProof$Line;)I"⟩
abbrev cX3_addLimit : ByteArray := prog_5_method_9_code
def yX3_addLimit : MethodName := ⟨RX3, "addLimit", "(IIZ)I"⟩
abbrev cX3_writeOf : ByteArray := prog_5_method_10_code
def yX3_writeOf : MethodName := ⟨RX3, "writeOf", "(III)I"⟩
abbrev cX3_closeNumbered : ByteArray := prog_5_method_11_code
def yX3_closeNumbered : MethodName := ⟨RX3, "closeNumbered", "()I"⟩
def RX4 : String := "PlaneProof$Graph"
def TX4 : u_T := fun k => match k with
  | 0 => ("PlaneProof$Graph", "nodes", "I", false)
  | 1 => ("PlaneProof$Graph", "sources", "I", false)
  | 2 => ("PlaneProof$Graph", "sink", "I", false)
  | _ => ("PlaneProof$Graph", "behind", "[I", true)
def tyX4 : Nat → FieldType := fun k => match k with
  | 0 => .int
  | 1 => .int
  | 2 => .int
  | _ => .array .int
abbrev wsX40 : List Cond := u_ws RX4 TX4 4
theorem nmX4 : ∀ a, a < 4 → ∀ b, b < 4 → a ≠ b → (TX4 a).2.1 ≠ (TX4 b).2.1 := by decide +kernel
theorem tyX4_ok : ∀ k, k < 4 → parseFieldDescriptor (TX4 k).2.2.1 = some (tyX4 k) := by decide +kernel
abbrev cX4_init : ByteArray := prog_6_method_1_code
def yX4_init : MethodName := ⟨RX4, "<init>", "()V"⟩
abbrev cX4_isNode : ByteArray := prog_6_method_2_code
def yX4_isNode : MethodName := ⟨RX4, "isNode", "(I)Z"⟩
abbrev cX4_tellSource : ByteArray := prog_6_method_3_code
def yX4_tellSource : MethodName := ⟨RX4, "tellSource", "(I)V"⟩
abbrev cX4_tellStep : ByteArray := prog_6_method_4_code
def yX4_tellStep : MethodName := ⟨RX4, "tellStep", "(II)V"⟩
abbrev cX4_fewestMoves : ByteArray := prog_6_method_5_code
def yX4_fewestMoves : MethodName := ⟨RX4, "fewestMoves", "(I)I"⟩
abbrev cX4_oneMoveFrom : ByteArray := prog_6_method_6_code
def yX4_oneMoveFrom : MethodName := ⟨RX4, "oneMoveFrom", "(JI)J"⟩
abbrev cX4_movesFrom : ByteArray := prog_6_method_7_code
def yX4_movesFrom : MethodName := ⟨RX4, "movesFrom", "(II)J"⟩
abbrev cX4_someHasSink : ByteArray := prog_6_method_8_code
def yX4_someHasSink : MethodName := ⟨RX4, "someHasSink", "(J)Z"⟩
def RX5 : String := "PlaneProof$Line"
def TX5 : u_T := fun k => match k with
  | 0 => ("PlaneProof$Line", "how", "I", true)
  | 1 => ("PlaneProof$Line", "isPlane", "Z", true)
  | 2 => ("PlaneProof$Line", "coefficients", "[I", true)
  | 3 => ("PlaneProof$Line", "bound", "I", false)
  | 4 => ("PlaneProof$Line", "table", "J", false)
  | 5 => ("PlaneProof$Line", "first", "I", false)
  | 6 => ("PlaneProof$Line", "second", "I", false)
  | 7 => ("PlaneProof$Line", "number", "I", false)
  | 8 => ("PlaneProof$Line", "told", "I", false)
  | 9 => ("PlaneProof$Line", "needed", "J", false)
  | 10 => ("PlaneProof$Line", "depth", "I", false)
  | 11 => ("PlaneProof$Line", "treeSize", "J", false)
  | _ => ("PlaneProof$Line", "width", "I", false)
def tyX5 : Nat → FieldType := fun k => match k with
  | 0 => .int
  | 1 => .boolean
  | 2 => .array .int
  | 3 => .int
  | 4 => .long
  | 5 => .int
  | 6 => .int
  | 7 => .int
  | 8 => .int
  | 9 => .long
  | 10 => .int
  | 11 => .long
  | _ => .int
abbrev wsX50 : List Cond := u_ws RX5 TX5 13
theorem nmX5 : ∀ a, a < 13 → ∀ b, b < 13 → a ≠ b → (TX5 a).2.1 ≠ (TX5 b).2.1 := by decide +kernel
theorem tyX5_ok : ∀ k, k < 13 → parseFieldDescriptor (TX5 k).2.2.1 = some (tyX5 k) := by decide +kernel
abbrev cX5_init : ByteArray := prog_7_method_1_code
def yX5_init : MethodName := ⟨RX5, "<init>", "(IZ)V"⟩
abbrev cX5_putLit : ByteArray := prog_7_method_2_code
def yX5_putLit : MethodName := ⟨RX5, "putLit", "(IZ)V"⟩
abbrev cX5_copySaying : ByteArray := prog_7_method_3_code
def yX5_copySaying : MethodName := ⟨RX5, "copySaying", "(LPlaneProof$Line;)V"⟩
abbrev cX5_addTimes : ByteArray := prog_7_method_4_code
def yX5_addTimes : MethodName := ⟨RX5, "addTimes", "(LPlaneProof$Line;I)V"⟩
abbrev cX5_isWithinLimits : ByteArray := prog_7_method_5_code
def yX5_isWithinLimits : MethodName := ⟨RX5, "isWithinLimits", "()Z"⟩
abbrev cX5_makeTable : ByteArray := prog_7_method_6_code
def yX5_makeTable : MethodName := ⟨RX5, "makeTable", "()V"⟩
abbrev cX5_sumBy : ByteArray := prog_7_method_7_code
def yX5_sumBy : MethodName := ⟨RX5, "sumBy", "(I)I"⟩
abbrev cX5_implies : ByteArray := prog_7_method_8_code
def yX5_implies : MethodName := ⟨RX5, "implies", "(LPlaneProof$Line;)Z"⟩
abbrev cX5_saysAs : ByteArray := prog_7_method_9_code
def yX5_saysAs : MethodName := ⟨RX5, "saysAs", "(LPlaneProof$Line;)Z"⟩
abbrev cX5_variablesOneWay : ByteArray := prog_7_method_10_code
def yX5_variablesOneWay : MethodName := ⟨RX5, "variablesOneWay", "(Z)I"⟩
abbrev cX5_variables : ByteArray := prog_7_method_11_code
def yX5_variables : MethodName := ⟨RX5, "variables", "()I"⟩
abbrev cX5_isNought : ByteArray := prog_7_method_12_code
def yX5_isNought : MethodName := ⟨RX5, "isNought", "()Z"⟩
abbrev cX5_greatestDivisor : ByteArray := prog_7_method_13_code
def yX5_greatestDivisor : MethodName := ⟨RX5, "greatestDivisor", "()I"⟩
abbrev cX5_commonDivisor : ByteArray := prog_7_method_14_code
def yX5_commonDivisor : MethodName := ⟨RX5, "commonDivisor", "(II)I"⟩
abbrev cX5_comesFrom : ByteArray := prog_7_method_15_code
def yX5_comesFrom : MethodName := ⟨RX5, "comesFrom", "(I)Z"⟩
abbrev cX5_settle : ByteArray := prog_7_method_16_code
def yX5_settle : MethodName := ⟨RX5, "settle", "(ILPlaneProof$Line;LPlaneProof$Line;)V"⟩
abbrev cX5_takeIn : ByteArray := prog_7_method_17_code
def yX5_takeIn : MethodName := ⟨RX5, "takeIn", "(LPlaneProof$Line;)V"⟩
def RX6 : String := "PlaneProof$ProofReader"
def TX6 : u_T := fun k => match k with
  | 0 => ("PlaneProof$TextReader", "signs", "LPlaneProof$Signs;", true)
  | 1 => ("PlaneProof$TextReader", "lines", "[LPlaneProof$Line;", true)
  | 2 => ("PlaneProof$TextReader", "size", "I", false)
  | _ => ("PlaneProof$TextReader", "faultAt", "I", false)
def tyX6 : Nat → FieldType := fun k => match k with
  | 0 => .object "PlaneProof$Signs"
  | 1 => .array (.object "PlaneProof$Line")
  | 2 => .int
  | _ => .int
abbrev wsX60 : List Cond := u_ws RX6 TX6 4
theorem nmX6 : ∀ a, a < 4 → ∀ b, b < 4 → a ≠ b → (TX6 a).2.1 ≠ (TX6 b).2.1 := by decide +kernel
theorem tyX6_ok : ∀ k, k < 4 → parseFieldDescriptor (TX6 k).2.2.1 = some (tyX6 k) := by decide +kernel
abbrev cX6_init : ByteArray := prog_8_method_1_code
def yX6_init : MethodName := ⟨RX6, "<init>", "(LPlaneProof$Signs;LPlaneProof$Book;)V"⟩
abbrev cX6_isSound : ByteArray := prog_8_method_2_code
def yX6_isSound : MethodName := ⟨RX6, "isSound", "(LPlaneProof$Line;)Z"⟩
abbrev cX6_readUpToStop : ByteArray := prog_8_method_3_code
def yX6_readUpToStop : MethodName := ⟨RX6, "readUpToStop", "()LPlaneProof$Line;"⟩
abbrev cX6_numberAhead : ByteArray := prog_8_method_4_code
def yX6_numberAhead : MethodName := ⟨RX6, "numberAhead", "(Z)I"⟩
abbrev cX6_readFrom : ByteArray := prog_8_method_5_code
def yX6_readFrom : MethodName := ⟨RX6, "readFrom", "(IZZ)LPlaneProof$Line;"⟩
abbrev cX6_readRes : ByteArray := prog_8_method_6_code
def yX6_readRes : MethodName := ⟨RX6, "readRes", "()LPlaneProof$Line;"⟩
abbrev cX6_resolve : ByteArray := prog_8_method_7_code
def yX6_resolve : MethodName := ⟨RX6, "resolve", "(LPlaneProof$Line;LPlaneProof$Line;LPlaneProof$Line;)Z"⟩
abbrev cX6_readWeak : ByteArray := prog_8_method_8_code
def yX6_readWeak : MethodName := ⟨RX6, "readWeak", "()LPlaneProof$Line;"⟩
abbrev cX6_readLimit : ByteArray := prog_8_method_9_code
def yX6_readLimit : MethodName := ⟨RX6, "readLimit", "(III)LPlaneProof$Line;"⟩
abbrev cX6_readPlane : ByteArray := prog_8_method_10_code
def yX6_readPlane : MethodName := ⟨RX6, "readPlane", "()LPlaneProof$Line;"⟩
abbrev cX6_readAdd : ByteArray := prog_8_method_11_code
def yX6_readAdd : MethodName := ⟨RX6, "readAdd", "()LPlaneProof$Line;"⟩
abbrev cX6_readMul : ByteArray := prog_8_method_12_code
def yX6_readMul : MethodName := ⟨RX6, "readMul", "()LPlaneProof$Line;"⟩
abbrev cX6_readDiv : ByteArray := prog_8_method_13_code
def yX6_readDiv : MethodName := ⟨RX6, "readDiv", "()LPlaneProof$Line;"⟩
abbrev cX6_divide : ByteArray := prog_8_method_14_code
def yX6_divide : MethodName := ⟨RX6, "divide", "(LPlaneProof$Line;ILPlaneProof$Line;)Z"⟩
abbrev cX6_readClause : ByteArray := prog_8_method_15_code
def yX6_readClause : MethodName := ⟨RX6, "readClause", "()LPlaneProof$Line;"⟩
def RX7 : String := "PlaneProof$Scribe"
def TX7 : u_T := fun k => match k with
  | 0 => ("PlaneProof$Scribe", "text", "[B", false)
  | 1 => ("PlaneProof$Scribe", "size", "I", false)
  | _ => ("PlaneProof$Scribe", "inLine", "Z", false)
def tyX7 : Nat → FieldType := fun k => match k with
  | 0 => .array .byte
  | 1 => .int
  | _ => .boolean
abbrev wsX70 : List Cond := u_ws RX7 TX7 3
theorem nmX7 : ∀ a, a < 3 → ∀ b, b < 3 → a ≠ b → (TX7 a).2.1 ≠ (TX7 b).2.1 := by decide +kernel
theorem tyX7_ok : ∀ k, k < 3 → parseFieldDescriptor (TX7 k).2.2.1 = some (tyX7 k) := by decide +kernel
abbrev cX7_init : ByteArray := prog_9_method_1_code
def yX7_init : MethodName := ⟨RX7, "<init>", "()V"⟩
abbrev cX7_begin : ByteArray := prog_9_method_2_code
def yX7_begin : MethodName := ⟨RX7, "begin", "(I)V"⟩
abbrev cX7_putWord : ByteArray := prog_9_method_3_code
def yX7_putWord : MethodName := ⟨RX7, "putWord", "(Ljava/lang/String;)V"⟩
abbrev cX7_putNumber : ByteArray := prog_9_method_4_code
def yX7_putNumber : MethodName := ⟨RX7, "putNumber", "(I)V"⟩
abbrev cX7_putVariable : ByteArray := prog_9_method_5_code
def yX7_putVariable : MethodName := ⟨RX7, "putVariable", "(I)V"⟩
abbrev cX7_putLit : ByteArray := prog_9_method_6_code
def yX7_putLit : MethodName := ⟨RX7, "putLit", "(IZ)V"⟩
abbrev cX7_closeLine : ByteArray := prog_9_method_7_code
def yX7_closeLine : MethodName := ⟨RX7, "closeLine", "()V"⟩
abbrev cX7_putGap : ByteArray := prog_9_method_8_code
def yX7_putGap : MethodName := ⟨RX7, "putGap", "()V"⟩
abbrev cX7_putByte : ByteArray := prog_9_method_9_code
def yX7_putByte : MethodName := ⟨RX7, "putByte", "(I)V"⟩
abbrev cX7_byteAt : ByteArray := prog_9_method_10_code
def yX7_byteAt : MethodName := ⟨RX7, "byteAt", "(I)I"⟩
def RX8 : String := "PlaneProof$Signs"
def TX8 : u_T := fun k => match k with
  | 0 => ("PlaneProof$Signs", "text", "[B", true)
  | 1 => ("PlaneProof$Signs", "size", "I", true)
  | 2 => ("PlaneProof$Signs", "start", "I", false)
  | 3 => ("PlaneProof$Signs", "stop", "I", false)
  | 4 => ("PlaneProof$Signs", "kind", "I", false)
  | _ => ("PlaneProof$Signs", "value", "I", false)
def tyX8 : Nat → FieldType := fun k => match k with
  | 0 => .array .byte
  | 1 => .int
  | 2 => .int
  | 3 => .int
  | 4 => .int
  | _ => .int
abbrev wsX80 : List Cond := u_ws RX8 TX8 6
theorem nmX8 : ∀ a, a < 6 → ∀ b, b < 6 → a ≠ b → (TX8 a).2.1 ≠ (TX8 b).2.1 := by decide +kernel
theorem tyX8_ok : ∀ k, k < 6 → parseFieldDescriptor (TX8 k).2.2.1 = some (tyX8 k) := by decide +kernel
abbrev cX8_init : ByteArray := prog_10_method_1_code
def yX8_init : MethodName := ⟨RX8, "<init>", "([BI)V"⟩
abbrev cX8_advance : ByteArray := prog_10_method_2_code
def yX8_advance : MethodName := ⟨RX8, "advance", "()V"⟩
abbrev cX8_numberHere : ByteArray := prog_10_method_3_code
def yX8_numberHere : MethodName := ⟨RX8, "numberHere", "()I"⟩
abbrev cX8_byteAt : ByteArray := prog_10_method_4_code
def yX8_byteAt : MethodName := ⟨RX8, "byteAt", "(I)I"⟩
abbrev cX8_kindAt : ByteArray := prog_10_method_5_code
def yX8_kindAt : MethodName := ⟨RX8, "kindAt", "(I)I"⟩
abbrev cX8_isEnd : ByteArray := prog_10_method_6_code
def yX8_isEnd : MethodName := ⟨RX8, "isEnd", "()Z"⟩
abbrev cX8_isSign : ByteArray := prog_10_method_7_code
def yX8_isSign : MethodName := ⟨RX8, "isSign", "(C)Z"⟩
abbrev cX8_isAnyWord : ByteArray := prog_10_method_8_code
def yX8_isAnyWord : MethodName := ⟨RX8, "isAnyWord", "()Z"⟩
abbrev cX8_isAnyNumber : ByteArray := prog_10_method_9_code
def yX8_isAnyNumber : MethodName := ⟨RX8, "isAnyNumber", "()Z"⟩
abbrev cX8_isNumber : ByteArray := prog_10_method_10_code
def yX8_isNumber : MethodName := ⟨RX8, "isNumber", "(II)Z"⟩
abbrev cX8_isWord : ByteArray := prog_10_method_11_code
def yX8_isWord : MethodName := ⟨RX8, "isWord", "(Ljava/lang/String;)Z"⟩
abbrev cX8_variable : ByteArray := prog_10_method_12_code
def yX8_variable : MethodName := ⟨RX8, "variable", "()I"⟩
def RX9 : String := "PlaneProof$TextReader"
def TX9 : u_T := fun k => match k with
  | _ => ("", "", "", false)
def tyX9 : Nat → FieldType := fun k => match k with
  | _ => .int
abbrev wsX90 : List Cond := u_ws RX9 TX9 0
theorem nmX9 : ∀ a, a < 0 → ∀ b, b < 0 → a ≠ b → (TX9 a).2.1 ≠ (TX9 b).2.1 := by decide +kernel
theorem tyX9_ok : ∀ k, k < 0 → parseFieldDescriptor (TX9 k).2.2.1 = some (tyX9 k) := by decide +kernel
abbrev cX9_init : ByteArray := prog_11_method_1_code
def yX9_init : MethodName := ⟨RX9, "<init>", "(LPlaneProof$Signs;)V"⟩
abbrev cX9_readText : ByteArray := prog_11_method_4_code
def yX9_readText : MethodName := ⟨RX9, "readText", "(I)Z"⟩
abbrev cX9_append : ByteArray := prog_11_method_5_code
def yX9_append : MethodName := ⟨RX9, "append", "(LPlaneProof$Line;)V"⟩
abbrev cX9_lineOrNull : ByteArray := prog_11_method_6_code
def yX9_lineOrNull : MethodName := ⟨RX9, "lineOrNull", "(I)LPlaneProof$Line;"⟩
abbrev cX9_wrongHere : ByteArray := prog_11_method_7_code
def yX9_wrongHere : MethodName := ⟨RX9, "wrongHere", "()Z"⟩
abbrev cX9_noLine : ByteArray := prog_11_method_8_code
def yX9_noLine : MethodName := ⟨RX9, "noLine", "()LPlaneProof$Line;"⟩
abbrev cX9_readLits : ByteArray := prog_11_method_9_code
def yX9_readLits : MethodName := ⟨RX9, "readLits", "(LPlaneProof$Line;I)Z"⟩
def RX10 : String := "PlaneProof$Units"
def TX10 : u_T := fun k => match k with
  | 0 => ("PlaneProof$Units", "ones", "I", false)
  | 1 => ("PlaneProof$Units", "noughts", "I", false)
  | _ => ("PlaneProof$Units", "clash", "Z", false)
def tyX10 : Nat → FieldType := fun k => match k with
  | 0 => .int
  | 1 => .int
  | _ => .boolean
abbrev wsX100 : List Cond := u_ws RX10 TX10 3
theorem nmX10 : ∀ a, a < 3 → ∀ b, b < 3 → a ≠ b → (TX10 a).2.1 ≠ (TX10 b).2.1 := by decide +kernel
theorem tyX10_ok : ∀ k, k < 3 → parseFieldDescriptor (TX10 k).2.2.1 = some (tyX10 k) := by decide +kernel
abbrev cX10_init : ByteArray := prog_12_method_1_code
def yX10_init : MethodName := ⟨RX10, "<init>", "(II)V"⟩
abbrev cX10_spread : ByteArray := prog_12_method_2_code
def yX10_spread : MethodName := ⟨RX10, "spread", "(LPlaneProof$Book;)V"⟩
abbrev cX10_follow : ByteArray := prog_12_method_3_code
def yX10_follow : MethodName := ⟨RX10, "follow", "(LPlaneProof$Line;)V"⟩
abbrev cX10_fix : ByteArray := prog_12_method_4_code
def yX10_fix : MethodName := ⟨RX10, "fix", "(IZ)V"⟩
abbrev cX10_bestSum : ByteArray := prog_12_method_5_code
def yX10_bestSum : MethodName := ⟨RX10, "bestSum", "(LPlaneProof$Line;)I"⟩
def RX11 : String := "PlaneProof"
def TX11 : u_T := fun k => match k with
  | 0 => ("PlaneProof", "tape", "[B", true)
  | 1 => ("PlaneProof", "tapeSize", "I", false)
  | 2 => ("PlaneProof", "latestFault", "I", false)
  | 3 => ("PlaneProof", "book", "LPlaneProof$Book;", false)
  | 4 => ("PlaneProof", "graph", "LPlaneProof$Graph;", false)
  | 5 => ("PlaneProof", "closures", "[LPlaneProof$Closure;", true)
  | 6 => ("PlaneProof", "coreBits", "I", false)
  | 7 => ("PlaneProof", "scribe", "LPlaneProof$Scribe;", true)
  | _ => ("PlaneProof", "composer", "LPlaneProof$Composer;", true)
def tyX11 : Nat → FieldType := fun k => match k with
  | 0 => .array .byte
  | 1 => .int
  | 2 => .int
  | 3 => .object "PlaneProof$Book"
  | 4 => .object "PlaneProof$Graph"
  | 5 => .array (.object "PlaneProof$Closure")
  | 6 => .int
  | 7 => .object "PlaneProof$Scribe"
  | _ => .object "PlaneProof$Composer"
abbrev wsX110 : List Cond := u_ws RX11 TX11 9
theorem nmX11 : ∀ a, a < 9 → ∀ b, b < 9 → a ≠ b → (TX11 a).2.1 ≠ (TX11 b).2.1 := by decide +kernel
theorem tyX11_ok : ∀ k, k < 9 → parseFieldDescriptor (TX11 k).2.2.1 = some (tyX11 k) := by decide +kernel
abbrev cX11_init : ByteArray := prog_1_method_1_code
def yX11_init : MethodName := ⟨RX11, "<init>", "()V"⟩
abbrev cX11_feed : ByteArray := prog_1_method_2_code
def yX11_feed : MethodName := ⟨RX11, "feed", "(IIIII)I"⟩
abbrev cX11_end : ByteArray := prog_1_method_3_code
def yX11_end : MethodName := ⟨RX11, "end", "(I)Z"⟩
abbrev cX11_claim : ByteArray := prog_1_method_4_code
def yX11_claim : MethodName := ⟨RX11, "claim", "()I"⟩
abbrev cX11_proof : ByteArray := prog_1_method_5_code
def yX11_proof : MethodName := ⟨RX11, "proof", "()I"⟩
abbrev cX11_fault : ByteArray := prog_1_method_6_code
def yX11_fault : MethodName := ⟨RX11, "fault", "()I"⟩
abbrev cX11_line : ByteArray := prog_1_method_7_code
def yX11_line : MethodName := ⟨RX11, "line", "(II)I"⟩
abbrev cX11_lits : ByteArray := prog_1_method_8_code
def yX11_lits : MethodName := ⟨RX11, "lits", "(IZ)I"⟩
abbrev cX11_plane : ByteArray := prog_1_method_9_code
def yX11_plane : MethodName := ⟨RX11, "plane", "(II)I"⟩
abbrev cX11_cut : ByteArray := prog_1_method_10_code
def yX11_cut : MethodName := ⟨RX11, "cut", "(I)I"⟩
abbrev cX11_holds : ByteArray := prog_1_method_11_code
def yX11_holds : MethodName := ⟨RX11, "holds", "(II)Z"⟩
abbrev cX11_often : ByteArray := prog_1_method_12_code
def yX11_often : MethodName := ⟨RX11, "often", "(I)I"⟩
abbrev cX11_model : ByteArray := prog_1_method_13_code
def yX11_model : MethodName := ⟨RX11, "model", "(I)I"⟩
abbrev cX11_refutes : ByteArray := prog_1_method_14_code
def yX11_refutes : MethodName := ⟨RX11, "refutes", "()I"⟩
abbrev cX11_measure : ByteArray := prog_1_method_15_code
def yX11_measure : MethodName := ⟨RX11, "measure", "(II)I"⟩
abbrev cX11_tree : ByteArray := prog_1_method_16_code
def yX11_tree : MethodName := ⟨RX11, "tree", "(I)J"⟩
abbrev cX11_needs : ByteArray := prog_1_method_17_code
def yX11_needs : MethodName := ⟨RX11, "needs", "(II)Z"⟩
abbrev cX11_uses : ByteArray := prog_1_method_18_code
def yX11_uses : MethodName := ⟨RX11, "uses", "(I)I"⟩
abbrev cX11_same : ByteArray := prog_1_method_19_code
def yX11_same : MethodName := ⟨RX11, "same", "(I)I"⟩
abbrev cX11_gives : ByteArray := prog_1_method_20_code
def yX11_gives : MethodName := ⟨RX11, "gives", "(II)Z"⟩
abbrev cX11_units : ByteArray := prog_1_method_21_code
def yX11_units : MethodName := ⟨RX11, "units", "(III)I"⟩
abbrev cX11_within : ByteArray := prog_1_method_22_code
def yX11_within : MethodName := ⟨RX11, "within", "(II)I"⟩
abbrev cX11_leastWidth : ByteArray := prog_1_method_23_code
def yX11_leastWidth : MethodName := ⟨RX11, "leastWidth", "()I"⟩
abbrev cX11_has : ByteArray := prog_1_method_24_code
def yX11_has : MethodName := ⟨RX11, "has", "(III)Z"⟩
abbrev cX11_node : ByteArray := prog_1_method_25_code
def yX11_node : MethodName := ⟨RX11, "node", "(I)I"⟩
abbrev cX11_pebbled : ByteArray := prog_1_method_26_code
def yX11_pebbled : MethodName := ⟨RX11, "pebbled", "(I)I"⟩
abbrev cX11_pebbles : ByteArray := prog_1_method_27_code
def yX11_pebbles : MethodName := ⟨RX11, "pebbles", "()I"⟩
abbrev cX11_trim : ByteArray := prog_1_method_28_code
def yX11_trim : MethodName := ⟨RX11, "trim", "(I)I"⟩
abbrev cX11_translate : ByteArray := prog_1_method_29_code
def yX11_translate : MethodName := ⟨RX11, "translate", "(I)I"⟩
abbrev cX11_translated : ByteArray := prog_1_method_30_code
def yX11_translated : MethodName := ⟨RX11, "translated", "(I)I"⟩
abbrev cX11_octet : ByteArray := prog_1_method_31_code
def yX11_octet : MethodName := ⟨RX11, "octet", "(I)I"⟩
abbrev cX11_slack : ByteArray := prog_1_method_32_code
def yX11_slack : MethodName := ⟨RX11, "slack", "(II)I"⟩
abbrev cX11_rests : ByteArray := prog_1_method_33_code
def yX11_rests : MethodName := ⟨RX11, "rests", "(I)I"⟩
abbrev cX11_core : ByteArray := prog_1_method_34_code
def yX11_core : MethodName := ⟨RX11, "core", "(Z)I"⟩
abbrev cX11_without : ByteArray := prog_1_method_35_code
def yX11_without : MethodName := ⟨RX11, "without", "(I)I"⟩
abbrev cX11_pure : ByteArray := prog_1_method_36_code
def yX11_pure : MethodName := ⟨RX11, "pure", "(Z)I"⟩
abbrev cX11_stands : ByteArray := prog_1_method_37_code
def yX11_stands : MethodName := ⟨RX11, "stands", "(IZ)I"⟩
abbrev cX11_count : ByteArray := prog_1_method_38_code
def yX11_count : MethodName := ⟨RX11, "count", "(I)I"⟩
abbrev cX11_putOnTape : ByteArray := prog_1_method_39_code
def yX11_putOnTape : MethodName := ⟨RX11, "putOnTape", "(I)V"⟩
abbrev cX11_forgetAnswers : ByteArray := prog_1_method_40_code
def yX11_forgetAnswers : MethodName := ⟨RX11, "forgetAnswers", "()V"⟩
abbrev cX11_existing : ByteArray := prog_1_method_41_code
def yX11_existing : MethodName := ⟨RX11, "existing", "(I)LPlaneProof$Line;"⟩
abbrev cX11_checkValues : ByteArray := prog_1_method_42_code
def yX11_checkValues : MethodName := ⟨RX11, "checkValues", "(I)V"⟩
abbrev cX11_checkSets : ByteArray := prog_1_method_43_code
def yX11_checkSets : MethodName := ⟨RX11, "checkSets", "(II)V"⟩
abbrev cX11_checkWidth : ByteArray := prog_1_method_44_code
def yX11_checkWidth : MethodName := ⟨RX11, "checkWidth", "(I)V"⟩
abbrev cX11_checkIsByResolution : ByteArray := prog_1_method_45_code
def yX11_checkIsByResolution : MethodName := ⟨RX11, "checkIsByResolution", "(LPlaneProof$Line;)V"⟩
abbrev cX11_closureOf : ByteArray := prog_1_method_46_code
def yX11_closureOf : MethodName := ⟨RX11, "closureOf", "(I)LPlaneProof$Closure;"⟩
def RX12 : String := "PlaneProofModel"
def TX12 : u_T := fun k => match k with
  | 0 => ("PlaneProofModel", "thrown", "I", false)
  | 1 => ("PlaneProofModel", "tape", "[B", true)
  | 2 => ("PlaneProofModel", "taped", "I", false)
  | 3 => ("PlaneProofModel", "five", "[I", true)
  | 4 => ("PlaneProofModel", "point", "I", false)
  | 5 => ("PlaneProofModel", "begin", "I", false)
  | 6 => ("PlaneProofModel", "size", "I", false)
  | 7 => ("PlaneProofModel", "faultAt", "I", false)
  | 8 => ("PlaneProofModel", "fault", "I", false)
  | 9 => ("PlaneProofModel", "row", "[I", true)
  | 10 => ("PlaneProofModel", "draft", "[I", true)
  | 11 => ("PlaneProofModel", "axioms", "I", false)
  | 12 => ("PlaneProofModel", "lines", "I", false)
  | 13 => ("PlaneProofModel", "made", "I", false)
  | 14 => ("PlaneProofModel", "behind", "[I", true)
  | 15 => ("PlaneProofModel", "draftBehind", "[I", true)
  | 16 => ("PlaneProofModel", "nodes", "I", false)
  | 17 => ("PlaneProofModel", "sink", "I", false)
  | 18 => ("PlaneProofModel", "draftNodes", "I", false)
  | 19 => ("PlaneProofModel", "draftSink", "I", false)
  | 20 => ("PlaneProofModel", "needed", "[Z", true)
  | 21 => ("PlaneProofModel", "deep", "[I", true)
  | 22 => ("PlaneProofModel", "lastUse", "[I", true)
  | 23 => ("PlaneProofModel", "trees", "[J", true)
  | 24 => ("PlaneProofModel", "unitOnes", "I", false)
  | 25 => ("PlaneProofModel", "unitNoughts", "I", false)
  | 26 => ("PlaneProofModel", "came", "[I", true)
  | 27 => ("PlaneProofModel", "list", "[I", true)
  | 28 => ("PlaneProofModel", "listed", "I", false)
  | 29 => ("PlaneProofModel", "rounds", "I", false)
  | 30 => ("PlaneProofModel", "moves", "[I", true)
  | 31 => ("PlaneProofModel", "queue", "[I", true)
  | 32 => ("PlaneProofModel", "text", "[B", true)
  | 33 => ("PlaneProofModel", "written", "I", false)
  | 34 => ("PlaneProofModel", "writtenLines", "I", false)
  | 35 => ("PlaneProofModel", "anew", "[I", true)
  | 36 => ("PlaneProofModel", "aside", "[B", true)
  | _ => ("PlaneProofModel", "masks", "[J", true)
def tyX12 : Nat → FieldType := fun k => match k with
  | 0 => .int
  | 1 => .array .byte
  | 2 => .int
  | 3 => .array .int
  | 4 => .int
  | 5 => .int
  | 6 => .int
  | 7 => .int
  | 8 => .int
  | 9 => .array .int
  | 10 => .array .int
  | 11 => .int
  | 12 => .int
  | 13 => .int
  | 14 => .array .int
  | 15 => .array .int
  | 16 => .int
  | 17 => .int
  | 18 => .int
  | 19 => .int
  | 20 => .array .boolean
  | 21 => .array .int
  | 22 => .array .int
  | 23 => .array .long
  | 24 => .int
  | 25 => .int
  | 26 => .array .int
  | 27 => .array .int
  | 28 => .int
  | 29 => .int
  | 30 => .array .int
  | 31 => .array .int
  | 32 => .array .byte
  | 33 => .int
  | 34 => .int
  | 35 => .array .int
  | 36 => .array .byte
  | _ => .array .long
abbrev wsX120 : List Cond := u_ws RX12 TX12 38
theorem nmX12 : ∀ a, a < 38 → ∀ b, b < 38 → a ≠ b → (TX12 a).2.1 ≠ (TX12 b).2.1 := by decide +kernel
theorem tyX12_ok : ∀ k, k < 38 → parseFieldDescriptor (TX12 k).2.2.1 = some (tyX12 k) := by decide +kernel
abbrev cX12_init : ByteArray := prog_14_method_1_code
def yX12_init : MethodName := ⟨RX12, "<init>", "()V"⟩
abbrev cX12_thrown : ByteArray := prog_14_method_2_code
def yX12_thrown : MethodName := ⟨RX12, "thrown", "()I"⟩
abbrev cX12_throwsIf : ByteArray := prog_14_method_3_code
def yX12_throwsIf : MethodName := ⟨RX12, "throwsIf", "(ZI)Z"⟩
abbrev cX12_in : ByteArray := prog_14_method_4_code
def yX12_in : MethodName := ⟨RX12, "in", "(III)Z"⟩
abbrev cX12_isIn : ByteArray := prog_14_method_5_code
def yX12_isIn : MethodName := ⟨RX12, "isIn", "(II)Z"⟩
abbrev cX12_bits : ByteArray := prog_14_method_6_code
def yX12_bits : MethodName := ⟨RX12, "bits", "(I)I"⟩
abbrev cX12_feed : ByteArray := prog_14_method_7_code
def yX12_feed : MethodName := ⟨RX12, "feed", "(IIIII)I"⟩
abbrev cX12_end : ByteArray := prog_14_method_8_code
def yX12_end : MethodName := ⟨RX12, "end", "(I)Z"⟩
abbrev cX12_begins : ByteArray := prog_14_method_9_code
def yX12_begins : MethodName := ⟨RX12, "begins", "()V"⟩
abbrev cX12_hasFailed : ByteArray := prog_14_method_10_code
def yX12_hasFailed : MethodName := ⟨RX12, "hasFailed", "()Z"⟩
abbrev cX12_isAt : ByteArray := prog_14_method_11_code
def yX12_isAt : MethodName := ⟨RX12, "isAt", "(II)Z"⟩
abbrev cX12_blanks : ByteArray := prog_14_method_12_code
def yX12_blanks : MethodName := ⟨RX12, "blanks", "()V"⟩
abbrev cX12_failsAt : ByteArray := prog_14_method_13_code
def yX12_failsAt : MethodName := ⟨RX12, "failsAt", "(I)V"⟩
abbrev cX12_fails : ByteArray := prog_14_method_14_code
def yX12_fails : MethodName := ⟨RX12, "fails", "()V"⟩
abbrev cX12_takes : ByteArray := prog_14_method_15_code
def yX12_takes : MethodName := ⟨RX12, "takes", "(I)Z"⟩
abbrev cX12_asksSign : ByteArray := prog_14_method_16_code
def yX12_asksSign : MethodName := ⟨RX12, "asksSign", "(I)V"⟩
abbrev cX12_wordMany : ByteArray := prog_14_method_17_code
def yX12_wordMany : MethodName := ⟨RX12, "wordMany", "()I"⟩
abbrev cX12_takesWord : ByteArray := prog_14_method_18_code
def yX12_takesWord : MethodName := ⟨RX12, "takesWord", "(Ljava/lang/String;)Z"⟩
abbrev cX12_asksWord : ByteArray := prog_14_method_19_code
def yX12_asksWord : MethodName := ⟨RX12, "asksWord", "(Ljava/lang/String;)V"⟩
abbrev cX12_isNumber : ByteArray := prog_14_method_20_code
def yX12_isNumber : MethodName := ⟨RX12, "isNumber", "()Z"⟩
abbrev cX12_isVariable : ByteArray := prog_14_method_21_code
def yX12_isVariable : MethodName := ⟨RX12, "isVariable", "()Z"⟩
abbrev cX12_number : ByteArray := prog_14_method_22_code
def yX12_number : MethodName := ⟨RX12, "number", "(II)I"⟩
abbrev cX12_variable : ByteArray := prog_14_method_23_code
def yX12_variable : MethodName := ⟨RX12, "variable", "(II)I"⟩
abbrev cX12_fault : ByteArray := prog_14_method_24_code
def yX12_fault : MethodName := ⟨RX12, "fault", "()I"⟩
abbrev cX12_of : ByteArray := prog_14_method_25_code
def yX12_of : MethodName := ⟨RX12, "of", "(II)I"⟩
abbrev cX12_drawn : ByteArray := prog_14_method_26_code
def yX12_drawn : MethodName := ⟨RX12, "drawn", "(II)I"⟩
abbrev cX12_sets : ByteArray := prog_14_method_27_code
def yX12_sets : MethodName := ⟨RX12, "sets", "(II)V"⟩
abbrev cX12_beginsLine : ByteArray := prog_14_method_28_code
def yX12_beginsLine : MethodName := ⟨RX12, "beginsLine", "(IZ)V"⟩
abbrev cX12_adds : ByteArray := prog_14_method_29_code
def yX12_adds : MethodName := ⟨RX12, "adds", "(IZ)V"⟩
abbrev cX12_literals : ByteArray := prog_14_method_30_code
def yX12_literals : MethodName := ⟨RX12, "literals", "(Z)V"⟩
abbrev cX12_isLiteral : ByteArray := prog_14_method_31_code
def yX12_isLiteral : MethodName := ⟨RX12, "isLiteral", "()Z"⟩
abbrev cX12_sumLine : ByteArray := prog_14_method_32_code
def yX12_sumLine : MethodName := ⟨RX12, "sumLine", "()V"⟩
abbrev cX12_stepLine : ByteArray := prog_14_method_33_code
def yX12_stepLine : MethodName := ⟨RX12, "stepLine", "()V"⟩
abbrev cX12_claimLine : ByteArray := prog_14_method_34_code
def yX12_claimLine : MethodName := ⟨RX12, "claimLine", "()V"⟩
abbrev cX12_claim : ByteArray := prog_14_method_35_code
def yX12_claim : MethodName := ⟨RX12, "claim", "()I"⟩
abbrev cX12_taken : ByteArray := prog_14_method_36_code
def yX12_taken : MethodName := ⟨RX12, "taken", "()V"⟩
abbrev cX12_lineTold : ByteArray := prog_14_method_37_code
def yX12_lineTold : MethodName := ⟨RX12, "lineTold", "(Z)I"⟩
abbrev cX12_resolves : ByteArray := prog_14_method_38_code
def yX12_resolves : MethodName := ⟨RX12, "resolves", "()V"⟩
abbrev cX12_weakens : ByteArray := prog_14_method_39_code
def yX12_weakens : MethodName := ⟨RX12, "weakens", "()V"⟩
abbrev cX12_bounded : ByteArray := prog_14_method_40_code
def yX12_bounded : MethodName := ⟨RX12, "bounded", "()V"⟩
abbrev cX12_adding : ByteArray := prog_14_method_41_code
def yX12_adding : MethodName := ⟨RX12, "adding", "()V"⟩
abbrev cX12_timesOrParts : ByteArray := prog_14_method_42_code
def yX12_timesOrParts : MethodName := ⟨RX12, "timesOrParts", "(Z)V"⟩
abbrev cX12_planes : ByteArray := prog_14_method_43_code
def yX12_planes : MethodName := ⟨RX12, "planes", "()V"⟩
abbrev cX12_clauses : ByteArray := prog_14_method_44_code
def yX12_clauses : MethodName := ⟨RX12, "clauses", "(I)V"⟩
abbrev cX12_bounds : ByteArray := prog_14_method_45_code
def yX12_bounds : MethodName := ⟨RX12, "bounds", "(Z)V"⟩
abbrev cX12_proofLine : ByteArray := prog_14_method_46_code
def yX12_proofLine : MethodName := ⟨RX12, "proofLine", "()V"⟩
abbrev cX12_proof : ByteArray := prog_14_method_47_code
def yX12_proof : MethodName := ⟨RX12, "proof", "()I"⟩
abbrev cX12_coefficient : ByteArray := prog_14_method_48_code
def yX12_coefficient : MethodName := ⟨RX12, "coefficient", "([III)I"⟩
abbrev cX12_least : ByteArray := prog_14_method_49_code
def yX12_least : MethodName := ⟨RX12, "least", "([II)I"⟩
abbrev cX12_slackBy : ByteArray := prog_14_method_50_code
def yX12_slackBy : MethodName := ⟨RX12, "slackBy", "([III)I"⟩
abbrev cX12_maskOf : ByteArray := prog_14_method_51_code
def yX12_maskOf : MethodName := ⟨RX12, "maskOf", "([II)J"⟩
abbrev cX12_mask : ByteArray := prog_14_method_52_code
def yX12_mask : MethodName := ⟨RX12, "mask", "(I)J"⟩
abbrev cX12_many : ByteArray := prog_14_method_53_code
def yX12_many : MethodName := ⟨RX12, "many", "(J)I"⟩
abbrev cX12_noLine : ByteArray := prog_14_method_54_code
def yX12_noLine : MethodName := ⟨RX12, "noLine", "(I)Z"⟩
abbrev cX12_isPlane : ByteArray := prog_14_method_55_code
def yX12_isPlane : MethodName := ⟨RX12, "isPlane", "(I)Z"⟩
abbrev cX12_isNought : ByteArray := prog_14_method_56_code
def yX12_isNought : MethodName := ⟨RX12, "isNought", "(I)Z"⟩
abbrev cX12_line : ByteArray := prog_14_method_57_code
def yX12_line : MethodName := ⟨RX12, "line", "(II)I"⟩
abbrev cX12_lits : ByteArray := prog_14_method_58_code
def yX12_lits : MethodName := ⟨RX12, "lits", "(IZ)I"⟩
abbrev cX12_plane : ByteArray := prog_14_method_59_code
def yX12_plane : MethodName := ⟨RX12, "plane", "(II)I"⟩
abbrev cX12_cutOf : ByteArray := prog_14_method_60_code
def yX12_cutOf : MethodName := ⟨RX12, "cutOf", "(I)I"⟩
abbrev cX12_cut : ByteArray := prog_14_method_61_code
def yX12_cut : MethodName := ⟨RX12, "cut", "(I)I"⟩
abbrev cX12_noValues : ByteArray := prog_14_method_62_code
def yX12_noValues : MethodName := ⟨RX12, "noValues", "(I)Z"⟩
abbrev cX12_holds : ByteArray := prog_14_method_63_code
def yX12_holds : MethodName := ⟨RX12, "holds", "(II)Z"⟩
abbrev cX12_slack : ByteArray := prog_14_method_64_code
def yX12_slack : MethodName := ⟨RX12, "slack", "(II)I"⟩
abbrev cX12_often : ByteArray := prog_14_method_65_code
def yX12_often : MethodName := ⟨RX12, "often", "(I)I"⟩
abbrev cX12_models : ByteArray := prog_14_method_66_code
def yX12_models : MethodName := ⟨RX12, "models", "(I)J"⟩
abbrev cX12_model : ByteArray := prog_14_method_67_code
def yX12_model : MethodName := ⟨RX12, "model", "(I)I"⟩
abbrev cX12_without : ByteArray := prog_14_method_68_code
def yX12_without : MethodName := ⟨RX12, "without", "(I)I"⟩
abbrev cX12_refutes : ByteArray := prog_14_method_69_code
def yX12_refutes : MethodName := ⟨RX12, "refutes", "()I"⟩
abbrev cX12_same : ByteArray := prog_14_method_70_code
def yX12_same : MethodName := ⟨RX12, "same", "(I)I"⟩
abbrev cX12_gives : ByteArray := prog_14_method_71_code
def yX12_gives : MethodName := ⟨RX12, "gives", "(II)Z"⟩
abbrev cX12_laysNeeds : ByteArray := prog_14_method_72_code
def yX12_laysNeeds : MethodName := ⟨RX12, "laysNeeds", "(I)V"⟩
abbrev cX12_needs : ByteArray := prog_14_method_73_code
def yX12_needs : MethodName := ⟨RX12, "needs", "(II)Z"⟩
abbrev cX12_rests : ByteArray := prog_14_method_74_code
def yX12_rests : MethodName := ⟨RX12, "rests", "(I)I"⟩
abbrev cX12_comesFrom : ByteArray := prog_14_method_75_code
def yX12_comesFrom : MethodName := ⟨RX12, "comesFrom", "(II)Z"⟩
abbrev cX12_uses : ByteArray := prog_14_method_76_code
def yX12_uses : MethodName := ⟨RX12, "uses", "(I)I"⟩
abbrev cX12_depthOf : ByteArray := prog_14_method_77_code
def yX12_depthOf : MethodName := ⟨RX12, "depthOf", "(I)I"⟩
abbrev cX12_keepsOf : ByteArray := prog_14_method_78_code
def yX12_keepsOf : MethodName := ⟨RX12, "keepsOf", "(I)I"⟩
abbrev cX12_isRegular : ByteArray := prog_14_method_79_code
def yX12_isRegular : MethodName := ⟨RX12, "isRegular", "(I)Z"⟩
abbrev cX12_widthOf : ByteArray := prog_14_method_80_code
def yX12_widthOf : MethodName := ⟨RX12, "widthOf", "(I)I"⟩
abbrev cX12_measure : ByteArray := prog_14_method_81_code
def yX12_measure : MethodName := ⟨RX12, "measure", "(II)I"⟩
abbrev cX12_tree : ByteArray := prog_14_method_82_code
def yX12_tree : MethodName := ⟨RX12, "tree", "(I)J"⟩
abbrev cX12_forces : ByteArray := prog_14_method_83_code
def yX12_forces : MethodName := ⟨RX12, "forces", "(I)I"⟩
abbrev cX12_units : ByteArray := prog_14_method_84_code
def yX12_units : MethodName := ⟨RX12, "units", "(III)I"⟩
abbrev cX12_comes : ByteArray := prog_14_method_85_code
def yX12_comes : MethodName := ⟨RX12, "comes", "(II)V"⟩
abbrev cX12_laysWithin : ByteArray := prog_14_method_86_code
def yX12_laysWithin : MethodName := ⟨RX12, "laysWithin", "(I)V"⟩
abbrev cX12_meets : ByteArray := prog_14_method_87_code
def yX12_meets : MethodName := ⟨RX12, "meets", "(IIII)V"⟩
abbrev cX12_within : ByteArray := prog_14_method_88_code
def yX12_within : MethodName := ⟨RX12, "within", "(II)I"⟩
abbrev cX12_leastWidth : ByteArray := prog_14_method_89_code
def yX12_leastWidth : MethodName := ⟨RX12, "leastWidth", "()I"⟩
abbrev cX12_has : ByteArray := prog_14_method_90_code
def yX12_has : MethodName := ⟨RX12, "has", "(III)Z"⟩
abbrev cX12_node : ByteArray := prog_14_method_91_code
def yX12_node : MethodName := ⟨RX12, "node", "(I)I"⟩
abbrev cX12_pebbledBy : ByteArray := prog_14_method_92_code
def yX12_pebbledBy : MethodName := ⟨RX12, "pebbledBy", "(I)I"⟩
abbrev cX12_pebbled : ByteArray := prog_14_method_93_code
def yX12_pebbled : MethodName := ⟨RX12, "pebbled", "(I)I"⟩
abbrev cX12_pebbles : ByteArray := prog_14_method_94_code
def yX12_pebbles : MethodName := ⟨RX12, "pebbles", "()I"⟩
abbrev cX12_says : ByteArray := prog_14_method_95_code
def yX12_says : MethodName := ⟨RX12, "says", "(I)V"⟩
abbrev cX12_saysWord : ByteArray := prog_14_method_96_code
def yX12_saysWord : MethodName := ⟨RX12, "saysWord", "(Ljava/lang/String;)V"⟩
abbrev cX12_saysNumber : ByteArray := prog_14_method_97_code
def yX12_saysNumber : MethodName := ⟨RX12, "saysNumber", "(I)V"⟩
abbrev cX12_saysDigits : ByteArray := prog_14_method_98_code
def yX12_saysDigits : MethodName := ⟨RX12, "saysDigits", "(I)V"⟩
abbrev cX12_saysVariable : ByteArray := prog_14_method_99_code
def yX12_saysVariable : MethodName := ⟨RX12, "saysVariable", "(I)V"⟩
abbrev cX12_ends : ByteArray := prog_14_method_100_code
def yX12_ends : MethodName := ⟨RX12, "ends", "()V"⟩
abbrev cX12_saysHow : ByteArray := prog_14_method_101_code
def yX12_saysHow : MethodName := ⟨RX12, "saysHow", "(I)V"⟩
abbrev cX12_saysLine : ByteArray := prog_14_method_102_code
def yX12_saysLine : MethodName := ⟨RX12, "saysLine", "(I)V"⟩
abbrev cX12_trim : ByteArray := prog_14_method_103_code
def yX12_trim : MethodName := ⟨RX12, "trim", "(I)I"⟩
abbrev cX12_cannotPut : ByteArray := prog_14_method_104_code
def yX12_cannotPut : MethodName := ⟨RX12, "cannotPut", "(I)Z"⟩
abbrev cX12_latest : ByteArray := prog_14_method_105_code
def yX12_latest : MethodName := ⟨RX12, "latest", "()I"⟩
abbrev cX12_putsPlane : ByteArray := prog_14_method_106_code
def yX12_putsPlane : MethodName := ⟨RX12, "putsPlane", "(I)V"⟩
abbrev cX12_putsLiteral : ByteArray := prog_14_method_107_code
def yX12_putsLiteral : MethodName := ⟨RX12, "putsLiteral", "(IIZ)V"⟩
abbrev cX12_putsAdd : ByteArray := prog_14_method_108_code
def yX12_putsAdd : MethodName := ⟨RX12, "putsAdd", "(II)V"⟩
abbrev cX12_putsWeak : ByteArray := prog_14_method_109_code
def yX12_putsWeak : MethodName := ⟨RX12, "putsWeak", "(I)V"⟩
abbrev cX12_putsRes : ByteArray := prog_14_method_110_code
def yX12_putsRes : MethodName := ⟨RX12, "putsRes", "(I)V"⟩
abbrev cX12_puts : ByteArray := prog_14_method_111_code
def yX12_puts : MethodName := ⟨RX12, "puts", "(I)V"⟩
abbrev cX12_translate : ByteArray := prog_14_method_112_code
def yX12_translate : MethodName := ⟨RX12, "translate", "(I)I"⟩
abbrev cX12_translated : ByteArray := prog_14_method_113_code
def yX12_translated : MethodName := ⟨RX12, "translated", "(I)I"⟩
abbrev cX12_octet : ByteArray := prog_14_method_114_code
def yX12_octet : MethodName := ⟨RX12, "octet", "(I)I"⟩
abbrev cX12_core : ByteArray := prog_14_method_115_code
def yX12_core : MethodName := ⟨RX12, "core", "(Z)I"⟩
abbrev cX12_pure : ByteArray := prog_14_method_116_code
def yX12_pure : MethodName := ⟨RX12, "pure", "(Z)I"⟩
abbrev cX12_stands : ByteArray := prog_14_method_117_code
def yX12_stands : MethodName := ⟨RX12, "stands", "(IZ)I"⟩
abbrev cX12_countOf : ByteArray := prog_14_method_118_code
def yX12_countOf : MethodName := ⟨RX12, "countOf", "(II)I"⟩
abbrev cX12_idle : ByteArray := prog_14_method_119_code
def yX12_idle : MethodName := ⟨RX12, "idle", "()I"⟩
abbrev cX12_count : ByteArray := prog_14_method_120_code
def yX12_count : MethodName := ⟨RX12, "count", "(I)I"⟩
def RJ6 : String := "java/lang/Integer"
def TJ6 : u_T := fun k => match k with
  | _ => ("", "", "", false)
def tyJ6 : Nat → FieldType := fun k => match k with
  | _ => .int
abbrev wsJ60 : List Cond := u_ws RJ6 TJ6 0
theorem nmJ6 : ∀ a, a < 0 → ∀ b, b < 0 → a ≠ b → (TJ6 a).2.1 ≠ (TJ6 b).2.1 := by decide +kernel
theorem tyJ6_ok : ∀ k, k < 0 → parseFieldDescriptor (TJ6 k).2.2.1 = some (tyJ6 k) := by decide +kernel
abbrev cJ6_bitCount_0f7a4 : ByteArray := prog_22_method_49_code
def yJ6_bitCount_0f7a4 : MethodName := ⟨RJ6, "bitCount", "(I)I"⟩
def RJ13 : String := "java/lang/Long"
def TJ13 : u_T := fun k => match k with
  | _ => ("", "", "", false)
def tyJ13 : Nat → FieldType := fun k => match k with
  | _ => .int
abbrev wsJ130 : List Cond := u_ws RJ13 TJ13 0
theorem nmJ13 : ∀ a, a < 0 → ∀ b, b < 0 → a ≠ b → (TJ13 a).2.1 ≠ (TJ13 b).2.1 := by decide +kernel
theorem tyJ13_ok : ∀ k, k < 0 → parseFieldDescriptor (TJ13 k).2.2.1 = some (tyJ13 k) := by decide +kernel
abbrev cJ13_bitCount_95d88 : ByteArray := prog_23_method_50_code
def yJ13_bitCount_95d88 : MethodName := ⟨RJ13, "bitCount", "(J)I"⟩
def RJ9 : String := "java/lang/Math"
def TJ9 : u_T := fun k => match k with
  | _ => ("", "", "", false)
def tyJ9 : Nat → FieldType := fun k => match k with
  | _ => .int
abbrev wsJ90 : List Cond := u_ws RJ9 TJ9 0
theorem nmJ9 : ∀ a, a < 0 → ∀ b, b < 0 → a ≠ b → (TJ9 a).2.1 ≠ (TJ9 b).2.1 := by decide +kernel
theorem tyJ9_ok : ∀ k, k < 0 → parseFieldDescriptor (TJ9 k).2.2.1 = some (tyJ9 k) := by decide +kernel
abbrev cJ9_floorDiv_7cf53 : ByteArray := prog_24_method_47_code
def yJ9_floorDiv_7cf53 : MethodName := ⟨RJ9, "floorDiv", "(II)I"⟩
abbrev cJ9_abs_0f7a4 : ByteArray := prog_24_method_59_code
def yJ9_abs_0f7a4 : MethodName := ⟨RJ9, "abs", "(I)I"⟩
abbrev cJ9_max_7cf53 : ByteArray := prog_24_method_65_code
def yJ9_max_7cf53 : MethodName := ⟨RJ9, "max", "(II)I"⟩
def RJ0 : String := "java/lang/String"
def TJ0 : u_T := fun k => match k with
  | _ => ("", "", "", false)
def tyJ0 : Nat → FieldType := fun k => match k with
  | _ => .int
abbrev wsJ00 : List Cond := u_ws RJ0 TJ0 0
theorem nmJ0 : ∀ a, a < 0 → ∀ b, b < 0 → a ≠ b → (TJ0 a).2.1 ≠ (TJ0 b).2.1 := by decide +kernel
theorem tyJ0_ok : ∀ k, k < 0 → parseFieldDescriptor (TJ0 k).2.2.1 = some (tyJ0 k) := by decide +kernel
abbrev cJ0_length_8abf5 : ByteArray := prog_26_method_54_code
def yJ0_length_8abf5 : MethodName := ⟨RJ0, "length", "()I"⟩
abbrev cJ0_charAt_5068e : ByteArray := prog_26_method_56_code
def yJ0_charAt_5068e : MethodName := ⟨RJ0, "charAt", "(I)C"⟩
abbrev cJ0_coder_7d493 : ByteArray := prog_26_method_152_code
def yJ0_coder_7d493 : MethodName := ⟨RJ0, "coder", "()B"⟩
abbrev cJ0_isLatin1_aae02 : ByteArray := prog_26_method_154_code
def yJ0_isLatin1_aae02 : MethodName := ⟨RJ0, "isLatin1", "()Z"⟩
abbrev cJ0_checkIndex_df160 : ByteArray := prog_26_method_155_code
def yJ0_checkIndex_df160 : MethodName := ⟨RJ0, "checkIndex", "(II)V"⟩
def RJ1 : String := "java/lang/StringLatin1"
def TJ1 : u_T := fun k => match k with
  | _ => ("", "", "", false)
def tyJ1 : Nat → FieldType := fun k => match k with
  | _ => .int
abbrev wsJ10 : List Cond := u_ws RJ1 TJ1 0
theorem nmJ1 : ∀ a, a < 0 → ∀ b, b < 0 → a ≠ b → (TJ1 a).2.1 ≠ (TJ1 b).2.1 := by decide +kernel
theorem tyJ1_ok : ∀ k, k < 0 → parseFieldDescriptor (TJ1 k).2.2.1 = some (tyJ1 k) := by decide +kernel
abbrev cJ1_charAt_3b067 : ByteArray := prog_27_method_2_code
def yJ1_charAt_3b067 : MethodName := ⟨RJ1, "charAt", "([BI)C"⟩
def RJ2 : String := "java/lang/StringUTF16"
def TJ2 : u_T := fun k => match k with
  | _ => ("", "", "", false)
def tyJ2 : Nat → FieldType := fun k => match k with
  | _ => .int
abbrev wsJ20 : List Cond := u_ws RJ2 TJ2 0
theorem nmJ2 : ∀ a, a < 0 → ∀ b, b < 0 → a ≠ b → (TJ2 a).2.1 ≠ (TJ2 b).2.1 := by decide +kernel
theorem tyJ2_ok : ∀ k, k < 0 → parseFieldDescriptor (TJ2 k).2.2.1 = some (tyJ2 k) := by decide +kernel
abbrev cJ2_getChar_3b067 : ByteArray := prog_28_method_5_code
def yJ2_getChar_3b067 : MethodName := ⟨RJ2, "getChar", "([BI)C"⟩
abbrev cJ2_length_9d52b : ByteArray := prog_28_method_6_code
def yJ2_length_9d52b : MethodName := ⟨RJ2, "length", "([B)I"⟩
abbrev cJ2_charAt_3b067 : ByteArray := prog_28_method_83_code
def yJ2_charAt_3b067 : MethodName := ⟨RJ2, "charAt", "([BI)C"⟩
abbrev cJ2_checkIndex_2214a : ByteArray := prog_28_method_91_code
def yJ2_checkIndex_2214a : MethodName := ⟨RJ2, "checkIndex", "(I[B)V"⟩
def RJ7 : String := "java/util/Arrays"
def TJ7 : u_T := fun k => match k with
  | _ => ("", "", "", false)
def tyJ7 : Nat → FieldType := fun k => match k with
  | _ => .int
abbrev wsJ70 : List Cond := u_ws RJ7 TJ7 0
theorem nmJ7 : ∀ a, a < 0 → ∀ b, b < 0 → a ≠ b → (TJ7 a).2.1 ≠ (TJ7 b).2.1 := by decide +kernel
theorem tyJ7_ok : ∀ k, k < 0 → parseFieldDescriptor (TJ7 k).2.2.1 = some (tyJ7 k) := by decide +kernel
abbrev cJ7_fill_d0a16 : ByteArray := prog_32_method_101_code
def yJ7_fill_d0a16 : MethodName := ⟨RJ7, "fill", "([JJ)V"⟩
def RJ3 : String := "jdk/internal/util/Preconditions"
def TJ3 : u_T := fun k => match k with
  | _ => ("", "", "", false)
def tyJ3 : Nat → FieldType := fun k => match k with
  | _ => .int
abbrev wsJ30 : List Cond := u_ws RJ3 TJ3 0
theorem nmJ3 : ∀ a, a < 0 → ∀ b, b < 0 → a ≠ b → (TJ3 a).2.1 ≠ (TJ3 b).2.1 := by decide +kernel
theorem tyJ3_ok : ∀ k, k < 0 → parseFieldDescriptor (TJ3 k).2.2.1 = some (tyJ3 k) := by decide +kernel
abbrev cJ3_checkIndex_8e157 : ByteArray := prog_34_method_11_code
def yJ3_checkIndex_8e157 : MethodName := ⟨RJ3, "checkIndex", "(IILjava/util/function/BiFunction;)I"⟩
def RL : String := "PlaneProofLaw"
abbrev cL_claim : ByteArray := method_3_code
def yL_claim : MethodName := ⟨RL, "claim", "(LPlaneProof;[J)I"⟩
abbrev cL_proof : ByteArray := method_4_code
def yL_proof : MethodName := ⟨RL, "proof", "(LPlaneProof;[J)I"⟩
abbrev cL_line : ByteArray := method_5_code
def yL_line : MethodName := ⟨RL, "line", "(LPlaneProof;II[J)I"⟩
abbrev cL_lits : ByteArray := method_6_code
def yL_lits : MethodName := ⟨RL, "lits", "(LPlaneProof;IZ[J)I"⟩
abbrev cL_plane : ByteArray := method_7_code
def yL_plane : MethodName := ⟨RL, "plane", "(LPlaneProof;II[J)I"⟩
abbrev cL_cut : ByteArray := method_8_code
def yL_cut : MethodName := ⟨RL, "cut", "(LPlaneProof;I[J)I"⟩
abbrev cL_holds : ByteArray := method_9_code
def yL_holds : MethodName := ⟨RL, "holds", "(LPlaneProof;II[J)I"⟩
abbrev cL_often : ByteArray := method_10_code
def yL_often : MethodName := ⟨RL, "often", "(LPlaneProof;I[J)I"⟩
abbrev cL_measure : ByteArray := method_11_code
def yL_measure : MethodName := ⟨RL, "measure", "(LPlaneProof;II[J)I"⟩
abbrev cL_tree : ByteArray := method_12_code
def yL_tree : MethodName := ⟨RL, "tree", "(LPlaneProof;I[J)I"⟩
abbrev cL_needs : ByteArray := method_13_code
def yL_needs : MethodName := ⟨RL, "needs", "(LPlaneProof;II[J)I"⟩
abbrev cL_uses : ByteArray := method_14_code
def yL_uses : MethodName := ⟨RL, "uses", "(LPlaneProof;I[J)I"⟩
abbrev cL_same : ByteArray := method_15_code
def yL_same : MethodName := ⟨RL, "same", "(LPlaneProof;I[J)I"⟩
abbrev cL_gives : ByteArray := method_16_code
def yL_gives : MethodName := ⟨RL, "gives", "(LPlaneProof;II[J)I"⟩
abbrev cL_units : ByteArray := method_17_code
def yL_units : MethodName := ⟨RL, "units", "(LPlaneProof;III[J)I"⟩
abbrev cL_within : ByteArray := method_18_code
def yL_within : MethodName := ⟨RL, "within", "(LPlaneProof;II[J)I"⟩
abbrev cL_has : ByteArray := method_19_code
def yL_has : MethodName := ⟨RL, "has", "(LPlaneProof;III[J)I"⟩
abbrev cL_node : ByteArray := method_20_code
def yL_node : MethodName := ⟨RL, "node", "(LPlaneProof;I[J)I"⟩
abbrev cL_pebbled : ByteArray := method_21_code
def yL_pebbled : MethodName := ⟨RL, "pebbled", "(LPlaneProof;I[J)I"⟩
abbrev cL_trim : ByteArray := method_22_code
def yL_trim : MethodName := ⟨RL, "trim", "(LPlaneProof;I[J)I"⟩
abbrev cL_translate : ByteArray := method_23_code
def yL_translate : MethodName := ⟨RL, "translate", "(LPlaneProof;I[J)I"⟩
abbrev cL_translated : ByteArray := method_24_code
def yL_translated : MethodName := ⟨RL, "translated", "(LPlaneProof;I[J)I"⟩
abbrev cL_slack : ByteArray := method_25_code
def yL_slack : MethodName := ⟨RL, "slack", "(LPlaneProof;II[J)I"⟩
abbrev cL_rests : ByteArray := method_26_code
def yL_rests : MethodName := ⟨RL, "rests", "(LPlaneProof;I[J)I"⟩
abbrev cL_without : ByteArray := method_27_code
def yL_without : MethodName := ⟨RL, "without", "(LPlaneProof;I[J)I"⟩
abbrev cL_stands : ByteArray := method_28_code
def yL_stands : MethodName := ⟨RL, "stands", "(LPlaneProof;IZ[J)I"⟩
abbrev cL_law : ByteArray := code
def yL_law : MethodName := ⟨RL, "law", "([I)Z"⟩
abbrev vwCl : List vw_C := [(RX0, TX0, 3), (RX1, TX1, 5), (RX2, TX2, 7), (RX3, TX3, 3), (RX4, TX4, 4), (RX5, TX5, 13), (RX6, TX6, 4), (RX7, TX7, 3), (RX8, TX8, 6), (RX10, TX10, 3), (RX11, TX11, 9), (RX12, TX12, 38)]
end
section
/-! Own rows: one list of words for every method, contracts of one shape, a row a call -/
def UU : List Cond := lw_tbl.filter goodWord
theorem uu_mem {w : Cond} (i : Nat) (h : lw_tbl[i]? = some w) (hg : goodWord w = true) : w ∈ UU := List.mem_filter.mpr ⟨List.mem_of_getElem? h, hg⟩
theorem uu_good {w : Cond} (h : w ∈ UU) : goodWord w = true := (List.mem_filter.mp h).2
theorem uu_gi {w : Cond} (h : w ∈ UU) : GoodIn UU (w :: UU) := fun v hv => (List.mem_cons.mp hv).elim (fun e => by rw [e]; exact ⟨h, good_of_word (uu_good h)⟩) (fun hv => ⟨hv, good_of_word (uu_good hv)⟩)
theorem uu_sub {ws : List Cond} (h1 : ∀ w ∈ ws, w ∈ lw_tbl) (h2 : ∀ w ∈ ws, goodWord w = true) : ∀ w ∈ ws, w ∈ UU := fun w h => List.mem_filter.mpr ⟨h1 w h, h2 w h⟩
abbrev tysP (cy : Nat → ClassId) : List (ClassId × FieldType) := [(cy 0, .byte), (cy 1, .int), (cy 2, .long), (cy 3, .boolean), (cy 4, .object "PlaneProof$Line"), (cy 5, .object "PlaneProof$Closure")]
def kK (G : va_G) (cy : Nat → ClassId) (U : State) : Prop := va_K G vwCl (tysP cy) U ∧ va_AO "PlaneProof$Line" U ∧ va_AO "PlaneProof$Closure" U
theorem kK.moved {G : va_G} {cy : Nat → ClassId} {u U : State} (hvm : u.vm.Alike U.vm) (h : kK G cy u) : kK G cy U := ⟨va_K.moved hvm h.1, va_AO.moved hvm h.2.1, va_AO.moved hvm h.2.2⟩
def kt_Pc (G : va_G) (cy : Nat → ClassId) (av : List Value) (wc : va_W) (sz : Nat) : Array Value → State → Prop := va_Pc av (fun U => U.heap.size = sz ∧ va_P G vwCl wc U.heap ∧ kK G cy U ∧ va_D (fun _ => True) wc)
def kt_Q (G : va_G) (post : Option Value → va_W → Prop) (A : Nat → Prop) : Array Value → State → Outcome → State → Prop := fun _ st o t => (∃ (v : Option Value) (w1 : va_W), o = .returned v ∧ post v w1 ∧ va_P G vwCl w1 t.heap ∧ va_D A w1) ∧ va_F A st t
/-- a contract of a method that doesn't throw -/
def Kt (l : Launch) (G : va_G) (cy : Nat → ClassId) (y : MethodName) (cc : ByteArray) (maxL : Nat) (ret : Option FieldType) (rm : Room) (av : List Value) (wc : va_W) (post : Option Value → va_W → Prop) : Prop :=
  ∀ sz : Nat, Met l y (Cond.code y cc maxL ret :: UU) rm (kt_Pc G cy av wc sz) (kt_Q G post (va_A wc sz)) rm.cells rm.slots (va_A wc sz)
theorem kt_ofW {l : Launch} {G : va_G} {cy : Nat → ClassId} {y : MethodName} {cc : ByteArray} {maxL : Nat} {ret : Option FieldType} {rm : Room} {av : List Value} {wc : va_W} {post : Option Value → va_W → Prop} (hy : plainName y.cls = true) (hlen : (lg_sl av).length ≤ maxL)
    (body : ∀ (p : Program) (e : Env) (s : State) (m : MethodId) (below : List Frame) (meth : Method) (c : Code) (A : Nat → Prop) (ls : Array Slot), p.tables.exec = Jvm.exec → c.code = cc → meth.sig.returnType = ret → (∀ w ∈ UU, w.before av.toArray s = true) → s.vm.findClass y.cls = some m.cls → meth.locks = false → c.maxLocals = maxL → meth.name = y.name → va_P G vwCl wc s.heap → kK G cy s → va_D A wc → (∀ q, s.heap.size ≤ q → A q) → va_S A s.heap s.heap [] → lv_has ls maxL (lv_args 0 av) →
      W p l e rm s m av.toArray below meth c s.heap [] 0 0 (MQ below (kt_Q G post A) av.toArray s rm.cells rm.slots A) (F0 m 0 ls [])) : Kt l G cy y cc maxL ret rm av wc post := by
  intro sz
  refine Met.ofW (cc := cc) (maxL := maxL) (ret := ret) hy rfl ?_
  intro p e s m args below meth c s₁ B hml hv
  obtain ⟨rfl, hsz, hP, hK, hD0⟩ := hv
  subst hsz
  have hts := atoms_spec (ws := Cond.code y cc maxL ret :: UU) B.pre
  rw [lg_entry_eq]
  exact body p e s m below meth c (va_A wc s.heap.size) _ B.exec B.bytes B.returns (fun w h => hts w (List.mem_cons_of_mem _ h)) (findClass_of_methodNamed B.named) B.notSynchronized hml (name_of_methodNamed B.named B.method).1 hP hK hD0.self (fun q h => Or.inr h) va_S.rf (lv_entry av hlen)
def lx_ok (isC isR : List Nat) : Bool := va_nd isC && va_nd isR && isR.all (fun i => !isC.contains i)
theorem lx_okc {isC isR : List Nat} (h : lx_ok isC isR = true) : va_nd isC = true := by simp only [lx_ok, Bool.and_eq_true] at h; exact h.1.1
theorem lx_okr {isC isR : List Nat} (h : lx_ok isC isR = true) : va_nd isR = true := by simp only [lx_ok, Bool.and_eq_true] at h; exact h.1.2
theorem lx_okd {isC isR : List Nat} (h : lx_ok isC isR = true) : ∀ i ∈ isR, i ∉ isC := by
  simp only [lx_ok, Bool.and_eq_true] at h
  intro i hi hc
  have := List.all_eq_true.mp h.2 i hi
  simp [hc] at this
theorem lx_fm {isW : List Nat} {w w1 : va_W} (h : isW.map (fun i => w[i]?) = w1.map some) : isW.filterMap (fun i => w[i]?) = w1 := by
  have h2 : (isW.map (fun i => w[i]?)).filterMap id = (w1.map some).filterMap id := by rw [h]
  simpa [List.filterMap_map] using h2
def lx_room (rm R : Room) (maxL cells slots : Nat) : Bool := Nat.ble (rm.frames + 1) R.frames && Nat.ble (8 + (maxL + 11) + rm.locals) R.locals && (Nat.ble (cells + rm.cells) R.cells && Nat.ble (slots + rm.slots) R.slots)
theorem lx_rooma {rm R : Room} {maxL cells slots : Nat} (h : lx_room rm R maxL cells slots = true) : rm.frames + 1 ≤ R.frames ∧ 8 + (maxL + 11) + rm.locals ≤ R.locals := by
  simp only [lx_room, Bool.and_eq_true] at h; exact ⟨Nat.le_of_ble_eq_true h.1.1, Nat.le_of_ble_eq_true h.1.2⟩
theorem lx_roomb {rm R : Room} {maxL cells slots : Nat} (h : lx_room rm R maxL cells slots = true) : cells + rm.cells ≤ R.cells ∧ slots + rm.slots ≤ R.slots := by
  simp only [lx_room, Bool.and_eq_true] at h; exact ⟨Nat.le_of_ble_eq_true h.2.1, Nat.le_of_ble_eq_true h.2.2⟩
def mD (y : MethodName) (n : Nat) : Prop := y.cls ≠ "java/lang/invoke/MethodHandle" ∧ y.cls ≠ "java/lang/invoke/VarHandle" ∧ (parseMethodDescriptor y.desc).map (fun d => d.parameters.length) = some n
def mV (y : MethodName) (bytes : ByteArray) (maxL : Nat) (ret : Option FieldType) (n : Nat) : Prop := Cond.code y bytes maxL ret ∈ UU ∧ Cond.instanceMethod y ∈ UU ∧ Cond.selects y.cls y y ∈ UU ∧ Cond.initialized y.cls ∈ UU ∧ mD y n
def mS (y : MethodName) (bytes : ByteArray) (maxL : Nat) (ret : Option FieldType) (n : Nat) : Prop := Cond.code y bytes maxL ret ∈ UU ∧ Cond.static y ∈ UU ∧ Cond.initialized y.cls ∈ UU ∧ mD y n
def mI (y : MethodName) (bytes : ByteArray) (maxL : Nat) (n : Nat) : Prop := Cond.code y bytes maxL none ∈ UU ∧ Cond.instanceMethod y ∈ UU ∧ Cond.initialized y.cls ∈ UU ∧ y.name = "<init>" ∧ mD y n
section KC
variable {p : Program} {l : Launch} {e : Env} {R : Room} {s : State} {m : MethodId} {args : Array Value} {below : List Frame} {meth : Method} {c : Code} {H H0 : Heap} {locs : List Loc} {cells slots : Nat} {Q : State → Prop} {A : Nat → Prop} {G : va_G} {cy : Nat → ClassId} {cc : ByteArray} {pc : Nat} {ls : Array Slot} {st0 rest : List Value} {w wc wr : va_W} {post : Option Value → va_W → Prop}
theorem kt_go {mc ms : Nat} {a : Array Value} (hrun : va_Run p l e R s m args below meth c H locs cells slots mc ms (F0 m pc ls st0) rest (kt_Q G post (va_A wc H.size) a) (va_A wc H.size)) (hP : va_P G vwCl w H) (hD : va_D A w) (hS : va_S A H0 H locs) (hA : ∀ q, H0.size ≤ q → A q) (isC isR : List Nat) (hC : isC.map (fun i => w[i]?) = wc.map some) (hR : isR.map (fun i => w[i]?) = wr.map some) (hok : lx_ok isC isR = true)
    (kk : ∀ (v : Option Value) (w1 : va_W) (H1 : Heap) (locs1 : List Loc), post v w1 → va_P G vwCl (wr ++ w1) H1 → va_D A (wr ++ w1) → va_S A H0 H1 locs1 → W p l e R s m args below meth c H1 locs1 (cells + mc) (slots + ms) Q (F0 m (pc + 3) ls (v.toList ++ rest))) : W p l e R s m args below meth c H locs cells slots Q (F0 m pc ls st0) := by
  intro T hT X
  obtain ⟨v, st₀, t, T', L, h0, X', hL, e1, e2, ⟨⟨v', w1, hv, hp, hP1, hD1⟩, hz, hk⟩, st⟩ := hrun T hT X
  cases hv
  rw [h0] at hz hk
  have hF := va_free (wc := wc) hD hS hA isC hC
  rw [← e1] at hP1 hz hk
  obtain ⟨hP2, hD2⟩ := va_join (wr := wr) (w1 := w1) hP hD isC isR hC hR (lx_okr hok) (lx_okd hok) hk hF hP1 hD1
  obtain ⟨t2, a1, b1⟩ := kk v w1 T'.heap (locs ++ L) hp hP2 hD2
    ⟨Nat.le_trans hS.1 hz, fun q h1 h2 => by rw [hk q (Nat.lt_of_lt_of_le h1 hS.1) (fun z => h2 (hF q z))]; exact hS.2.1 q h1 h2, fun q hq => by
      rcases List.mem_append.mp hq with h | h
      · exact hS.2.2 q h
      · exact hF _ (hL q h)⟩ T' rfl X'
  exact ⟨t2, st t2 a1, b1⟩
theorem kt_pre {av : List Value} (hK : kK G cy s) (hP : va_P G vwCl w H) (hD : va_D A w) (isC : List Nat) (hC : isC.map (fun i => w[i]?) = wc.map some) (hn : va_nd isC = true) : PreS s H (kt_Pc G cy av wc H.size) av :=
  ⟨fun a U g mk q => by obtain ⟨q0, q1, qP, qK, qD⟩ := q; exact ⟨q0, q1, qP, kK.moved (u := U) (U := U.calling g mk a) (Vm.Alike.refl U.vm) qK, qD⟩,
   fun U hU hW => ⟨rfl, by rw [hU], by rw [hU]; exact hP.sub isC (lx_fm hC), kK.moved hW.alike hK, (hD.sub isC hn hC).weaken (fun _ _ _ _ => trivial)⟩⟩
theorem kt_callV {own : String} {y : MethodName} {bytes : ByteArray} {maxL nL n index : Nat} {ret : Option FieldType} {rm : Room} {As : List Value} {b : Nat} (hM : Kt l G cy y bytes maxL ret rm (.ref b :: As) wc post) (hm : mV y bytes maxL ret n) (hl : Cond.methodLink own index y ∈ UU)
    (hx : p.tables.exec = Jvm.exec) (hb : c.code = cc) (hml : c.maxLocals = nL) (hown : s.vm.findClass own = some m.cls) (hU : ∀ w ∈ UU, w.before args s = true) (hls : ls.size = nL) (hK : kK G cy s) (hP : va_P G vwCl w H) (hD : va_D A w) (hS : va_S A H0 H locs) (hA : ∀ q, H0.size ≤ q → A q)
    (hdg : decode cc pc = .ok (.invokevirtual index, 3)) (isC isR : List Nat) (hC : isC.map (fun i => w[i]?) = wc.map some) (hR : isR.map (fun i => w[i]?) = wr.map some) (hok : lx_ok isC isR = true) (hroom : lx_room rm R maxL cells slots = true)
    (hn : As.length = n) (hst : st0 = As.reverse ++ .ref b :: rest) (hrest : (rest.map fun v => v.category).sum ≤ 8)
    {ci : Nat} {q : vw_C} {fs : List Value} (hcl : vwCl[ci]? = some q) (hq0 : wc[0]? = some (b, .inr (ci, fs))) (hqC : q.1 = y.cls)
    (kk : ∀ (v : Option Value) (w1 : va_W) (H1 : Heap) (locs1 : List Loc), post v w1 → va_P G vwCl (wr ++ w1) H1 → va_D A (wr ++ w1) → va_S A H0 H1 locs1 → W p l e R s m args below meth c H1 locs1 (cells + rm.cells) (slots + rm.slots) Q (F0 m (pc + 3) ls (v.toList ++ rest))) : W p l e R s m args below meth c H locs cells slots Q (F0 m pc ls st0) := by
  obtain ⟨u0, u2, u3, u4, hd⟩ := hm
  have hpre := kt_pre (av := .ref b :: As) (wc := wc) hK hP hD isC hC (lx_okc hok)
  have hrec : ∃ cell : Cell, H[b]? = some cell ∧ cell.vm.isStatics = false ∧ s.vm.findClass y.cls = some cell.cls := by
    rw [← hqC]; exact va_recv hK.1 (hP.sub isC (lx_fm hC)) hcl hq0
  exact kt_go (va_runV (C := y.cls) (As := As) (rest := rest) ⟨hx, hb, hml, hown, hU⟩ (hM H.size) ⟨callB_of n hU (uu_gi u0) rfl rfl rfl (hU _ u4) (hU _ hl) hd (lx_rooma hroom), hU _ u2, hU _ u3⟩ ⟨hpre.1, hrec, hpre.2⟩ rfl hn hls hst (lv_room hrest) hdg (lx_roomb hroom)) hP hD hS hA isC isR hC hR hok kk
theorem kt_callS {own : String} {y : MethodName} {bytes : ByteArray} {maxL nL n index : Nat} {ret : Option FieldType} {rm : Room} {As : List Value} (hM : Kt l G cy y bytes maxL ret rm As wc post) (hm : mS y bytes maxL ret n) (hl : Cond.methodLink own index y ∈ UU)
    (hx : p.tables.exec = Jvm.exec) (hb : c.code = cc) (hml : c.maxLocals = nL) (hown : s.vm.findClass own = some m.cls) (hU : ∀ w ∈ UU, w.before args s = true) (hls : ls.size = nL) (hK : kK G cy s) (hP : va_P G vwCl w H) (hD : va_D A w) (hS : va_S A H0 H locs) (hA : ∀ q, H0.size ≤ q → A q)
    (hdg : decode cc pc = .ok (.invokestatic index, 3)) (isC isR : List Nat) (hC : isC.map (fun i => w[i]?) = wc.map some) (hR : isR.map (fun i => w[i]?) = wr.map some) (hok : lx_ok isC isR = true) (hroom : lx_room rm R maxL cells slots = true)
    (hn : As.length = n) (hst : st0 = As.reverse ++ rest) (hrest : (rest.map fun v => v.category).sum ≤ 8)
    (kk : ∀ (v : Option Value) (w1 : va_W) (H1 : Heap) (locs1 : List Loc), post v w1 → va_P G vwCl (wr ++ w1) H1 → va_D A (wr ++ w1) → va_S A H0 H1 locs1 → W p l e R s m args below meth c H1 locs1 (cells + rm.cells) (slots + rm.slots) Q (F0 m (pc + 3) ls (v.toList ++ rest))) : W p l e R s m args below meth c H locs cells slots Q (F0 m pc ls st0) := by
  obtain ⟨u0, u2, u4, hd⟩ := hm
  have hpre := kt_pre (av := As) (wc := wc) hK hP hD isC hC (lx_okc hok)
  exact kt_go (va_runS (As := As) (rest := rest) ⟨hx, hb, hml, hown, hU⟩ (hM H.size) ⟨callB_of n hU (uu_gi u0) rfl rfl rfl (hU _ u4) (hU _ hl) hd (lx_rooma hroom), hU _ u2⟩ hpre rfl hn hls hst (lv_room hrest) hdg (lx_roomb hroom)) hP hD hS hA isC isR hC hR hok kk
theorem kt_callI {own : String} {y : MethodName} {bytes : ByteArray} {maxL nL n index : Nat} {rm : Room} {As : List Value} {b : Nat} (hM : Kt l G cy y bytes maxL none rm (.ref b :: As) wc post) (hm : mI y bytes maxL n) (hl : Cond.methodLink own index y ∈ UU)
    (hx : p.tables.exec = Jvm.exec) (hb : c.code = cc) (hml : c.maxLocals = nL) (hown : s.vm.findClass own = some m.cls) (hU : ∀ w ∈ UU, w.before args s = true) (hls : ls.size = nL) (hK : kK G cy s) (hP : va_P G vwCl w H) (hD : va_D A w) (hS : va_S A H0 H locs) (hA : ∀ q, H0.size ≤ q → A q)
    (hdg : decode cc pc = .ok (.invokespecial index, 3)) (isC isR : List Nat) (hC : isC.map (fun i => w[i]?) = wc.map some) (hR : isR.map (fun i => w[i]?) = wr.map some) (hok : lx_ok isC isR = true) (hroom : lx_room rm R maxL cells slots = true)
    (hn : As.length = n) (hst : st0 = As.reverse ++ .ref b :: rest) (hrest : (rest.map fun v => v.category).sum ≤ 8)
    (kk : ∀ (v : Option Value) (w1 : va_W) (H1 : Heap) (locs1 : List Loc), post v w1 → va_P G vwCl (wr ++ w1) H1 → va_D A (wr ++ w1) → va_S A H0 H1 locs1 → W p l e R s m args below meth c H1 locs1 (cells + rm.cells) (slots + rm.slots) Q (F0 m (pc + 3) ls (v.toList ++ rest))) : W p l e R s m args below meth c H locs cells slots Q (F0 m pc ls st0) := by
  obtain ⟨u0, u2, u4, hy1, hd⟩ := hm
  have hpre := kt_pre (av := .ref b :: As) (wc := wc) hK hP hD isC hC (lx_okc hok)
  exact kt_go (va_runI (As := As) (rest := rest) ⟨hx, hb, hml, hown, hU⟩ (hM H.size) ⟨callB_of n hU (uu_gi u0) rfl rfl rfl (hU _ u4) (hU _ hl) hd (lx_rooma hroom), hy1, hU _ u2⟩ hpre rfl hn hls hst (lv_room hrest) hdg (lx_roomb hroom)) hP hD hS hA isC isR hC hR hok kk
theorem kt_iret {mc ms : Nat} (hx : p.tables.exec = Jvm.exec) (hb : c.code = cc) (hr : meth.sig.returnType = some .int) (hlocks : meth.locks = false) (hP : va_P G vwCl w H) (hD : va_D A w) (hS : va_S A s.heap H locs) {v : Int32} (hd : decode cc pc = .ok (.ireturn, 1)) (isW : List Nat) {w1 : va_W} (hsub : isW.map (fun i => w[i]?) = w1.map some) (hnd : va_nd isW = true) (h1 : Nat.ble cells mc = true) (h2 : Nat.ble slots ms = true) (hpost : post (some (.int v)) w1) : W p l e R s m args below meth c H locs cells slots (MQ below (kt_Q G post A) args s mc ms A) (F0 m pc ls [.int v]) :=
  W.widen (Nat.le_of_ble_eq_true h1) (Nat.le_of_ble_eq_true h2) (W.iret hx hb hr (fun t ht hW => ⟨⟨some (.int v), w1, rfl, hpost, by rw [ht]; exact hP.sub isW (lx_fm hsub), hD.sub isW hnd hsub⟩, hS.F ht⟩) hS.2.2 hd hlocks)
theorem kt_zret {mc ms : Nat} (hx : p.tables.exec = Jvm.exec) (hb : c.code = cc) (hr : meth.sig.returnType = some .boolean) (hlocks : meth.locks = false) (hP : va_P G vwCl w H) (hD : va_D A w) (hS : va_S A s.heap H locs) {v : Int32} (hn : narrow .boolean (.int v) = .int v) (hd : decode cc pc = .ok (.ireturn, 1)) (isW : List Nat) {w1 : va_W} (hsub : isW.map (fun i => w[i]?) = w1.map some) (hnd : va_nd isW = true) (h1 : Nat.ble cells mc = true) (h2 : Nat.ble slots ms = true) (hpost : post (some (.int v)) w1) : W p l e R s m args below meth c H locs cells slots (MQ below (kt_Q G post A) args s mc ms A) (F0 m pc ls [.int v]) :=
  W.widen (Nat.le_of_ble_eq_true h1) (Nat.le_of_ble_eq_true h2) (W.zret hx hb hr hn (fun t ht hW => ⟨⟨some (.int v), w1, rfl, hpost, by rw [ht]; exact hP.sub isW (lx_fm hsub), hD.sub isW hnd hsub⟩, hS.F ht⟩) hS.2.2 hd hlocks)
theorem kt_lret {mc ms : Nat} (hx : p.tables.exec = Jvm.exec) (hb : c.code = cc) (hr : meth.sig.returnType = some .long) (hlocks : meth.locks = false) (hP : va_P G vwCl w H) (hD : va_D A w) (hS : va_S A s.heap H locs) {v : Int64} (hd : decode cc pc = .ok (.lreturn, 1)) (isW : List Nat) {w1 : va_W} (hsub : isW.map (fun i => w[i]?) = w1.map some) (hnd : va_nd isW = true) (h1 : Nat.ble cells mc = true) (h2 : Nat.ble slots ms = true) (hpost : post (some (.long v)) w1) : W p l e R s m args below meth c H locs cells slots (MQ below (kt_Q G post A) args s mc ms A) (F0 m pc ls [.long v]) :=
  W.widen (Nat.le_of_ble_eq_true h1) (Nat.le_of_ble_eq_true h2) (W.lret hx hb hr (fun t ht hW => ⟨⟨some (.long v), w1, rfl, hpost, by rw [ht]; exact hP.sub isW (lx_fm hsub), hD.sub isW hnd hsub⟩, hS.F ht⟩) hS.2.2 hd hlocks)
theorem kt_vret {mc ms : Nat} (hx : p.tables.exec = Jvm.exec) (hb : c.code = cc) (hr : meth.sig.returnType = none) (hlocks : meth.locks = false) (hP : va_P G vwCl w H) (hD : va_D A w) (hS : va_S A s.heap H locs) (hd : decode cc pc = .ok (.return_, 1)) (isW : List Nat) {w1 : va_W} (hsub : isW.map (fun i => w[i]?) = w1.map some) (hnd : va_nd isW = true) (h1 : Nat.ble cells mc = true) (h2 : Nat.ble slots ms = true) (hpost : post none w1) : W p l e R s m args below meth c H locs cells slots (MQ below (kt_Q G post A) args s mc ms A) (F0 m pc ls []) :=
  W.widen (Nat.le_of_ble_eq_true h1) (Nat.le_of_ble_eq_true h2) (W.vret hx hb hr (fun t ht hW => ⟨⟨none, w1, rfl, hpost, by rw [ht]; exact hP.sub isW (lx_fm hsub), hD.sub isW hnd hsub⟩, hS.F ht⟩) hS.2.2 hd hlocks)
theorem kt_aret {mc ms : Nat} {C : String} (hx : p.tables.exec = Jvm.exec) (hb : c.code = cc) (hr : meth.sig.returnType = some (.object C)) (hlocks : meth.locks = false) (hP : va_P G vwCl w H) (hD : va_D A w) (hS : va_S A s.heap H locs) {v : Nat} (hd : decode cc pc = .ok (.areturn, 1)) (isW : List Nat) {w1 : va_W} (hsub : isW.map (fun i => w[i]?) = w1.map some) (hnd : va_nd isW = true) (h1 : Nat.ble cells mc = true) (h2 : Nat.ble slots ms = true) (hpost : post (some (.ref v)) w1) : W p l e R s m args below meth c H locs cells slots (MQ below (kt_Q G post A) args s mc ms A) (F0 m pc ls [.ref v]) :=
  W.widen (Nat.le_of_ble_eq_true h1) (Nat.le_of_ble_eq_true h2) (W.aret hx hb hr (Or.inl ⟨_, rfl⟩) (Or.inr ⟨_, rfl⟩) (fun t ht hW => ⟨⟨some (.ref v), w1, rfl, hpost, by rw [ht]; exact hP.sub isW (lx_fm hsub), hD.sub isW hnd hsub⟩, hS.F ht⟩) hS.2.2 hd hlocks)
theorem lx_top {x y : Int32} (h : x = y) (k : W p l e R s m args below meth c H locs cells slots Q (F0 m pc ls (.int y :: rest))) : W p l e R s m args below meth c H locs cells slots Q (F0 m pc ls (.int x :: rest)) := h ▸ k
theorem lx_topl {x y : Int64} (h : x = y) (k : W p l e R s m args below meth c H locs cells slots Q (F0 m pc ls (.long y :: rest))) : W p l e R s m args below meth c H locs cells slots Q (F0 m pc ls (.long x :: rest)) := h ▸ k
/-- 'x != 0' as a number -/
theorem lx_ne0 (hx : p.tables.exec = Jvm.exec) (hb : c.code = cc) {x : Int32} {o1 o2 : Int} (d0 : decode cc pc = .ok (.ifCond .eq o1, 3)) (d3 : decode cc (pc + 3) = .ok (.iconst 1, 1)) (d4 : decode cc (pc + 4) = .ok (.goto o2, 3)) (d7 : decode cc (pc + 7) = .ok (.iconst 0, 1)) (h1 : (pc : Int) + o1 = ((pc + 7 : Nat) : Int)) (h2 : ((pc + 4 : Nat) : Int) + o2 = ((pc + 8 : Nat) : Int))
    (k : ∀ v : Int32, v = (if x = 0 then 0 else 1) → W p l e R s m args below meth c H locs cells slots Q (F0 m (pc + 8) ls (.int v :: rest))) : W p l e R s m args below meth c H locs cells slots Q (F0 m pc ls (.int x :: rest)) := by
  refine lv_if_eq hx hb d0 h1 (fun h => ?_) (fun h => ?_)
  · exact lv_iconst (v := 0) hx hb d7 (by decide) (k 0 (by rw [if_pos h]))
  · exact lv_iconst (v := 1) hx hb d3 (by decide) (lv_goto hx hb d4 h2 (k 1 (by rw [if_neg h])))
theorem lx_newa (hx : p.tables.exec = Jvm.exec) (hb : c.code = cc) {atype : ArrayType} {ty : FieldType} (hU : ∀ w ∈ UU, w.before args s = true) (hu : Cond.arrayClass (newarray.typeOf atype) ∈ UU) (hty : newarray.typeOf atype = ty) (hK : kK G cy s) (hP : va_P G vwCl w H) (hD : va_D A w) (hS : va_S A H0 H locs) (hA : ∀ q, H0.size ≤ q → A q) (t0 : Nat) {c0 : ClassId} (ht : (tysP cy)[t0]? = some (c0, ty)) (hra : ∀ (cA : ClassId), va_RA s cA ty → s.vm.findClass ("[" ++ ty.toString) = some cA)
    {n : Int32} {N' : Nat} {a0 : vp_A} (ha : ∀ cA : ClassId, vp_cell cA a0 = arrV cA N' (fun _ => defaultValue ty)) (hn : ¬ n < 0) (hN : n.toNatClampNeg = N') (hbytes : N' * componentBytes ty ≤ 536870912) (hcells : cells + 1 ≤ R.cells) (hslots : slots + N' ≤ R.slots) (hdg : decode cc pc = .ok (.newarray atype, 2))
    (kk : ∀ (q : Nat) (H1 : Heap), va_P G vwCl (w ++ [(q, .inl (c0, a0))]) H1 → va_D A (w ++ [(q, .inl (c0, a0))]) → va_S A H0 H1 locs →
      W p l e R s m args below meth c H1 locs (cells + 1) (slots + N') Q (F0 m (pc + 2) ls (.ref q :: rest))) : W p l e R s m args below meth c H locs cells slots Q (F0 m pc ls (.int n :: rest)) := by
  refine va_newa hx hb (hU _ hu) hty hK.1 hP hD hS hA ha hn hN hbytes hcells hslots hdg (fun q cA H1 hK1 hP1 hD1 hS1 => ?_)
  have e1 := hra cA (hK1.2 (tysP cy).length (cA, ty) (by simp)).2
  have e2 := hra c0 (hK.1.2 t0 (c0, ty) ht).2
  cases Option.some.inj (e1.symm.trans e2)
  exact kk q H1 hP1 hD1 hS1
theorem lx_newq (hx : p.tables.exec = Jvm.exec) (hb : c.code = cc) {own C : String} {index : Nat} (hown : s.vm.findClass own = some m.cls) (hU : ∀ w ∈ UU, w.before args s = true) (hu : Cond.classLink own index C ∈ UU) (hover : va_AO C s) (hK : kK G cy s) (hP : va_P G vwCl w H) (hD : va_D A w) (hS : va_S A H0 H locs) (hA : ∀ q, H0.size ≤ q → A q) (t0 : Nat) {c0 : ClassId} (ht : (tysP cy)[t0]? = some (c0, .object C))
    {n : Int32} {N' : Nat} (hn : ¬ n < 0) (hN : n.toNatClampNeg = N') (hbytes : N' * 4 ≤ 536870912) (hcells : cells + 1 ≤ R.cells) (hslots : slots + N' ≤ R.slots) (hdg : decode cc pc = .ok (.anewarray index, 3))
    (kk : ∀ (q : Nat) (H1 : Heap), va_P G vwCl (w ++ [(q, .inl (c0, N', .inr (.inr (.inr (.inr (fun _ => none))))))]) H1 → va_D A (w ++ [(q, .inl (c0, N', .inr (.inr (.inr (.inr (fun _ => none))))))]) → va_S A H0 H1 locs →
      W p l e R s m args below meth c H1 locs (cells + 1) (slots + N') Q (F0 m (pc + 3) ls (.ref q :: rest))) : W p l e R s m args below meth c H locs cells slots Q (F0 m pc ls (.int n :: rest)) := by
  refine va_newq hx hb hown (hU _ hu) hover hK.1 hP hD hS hA hn hN hbytes hcells hslots hdg (fun q cA H1 hK1 hP1 hD1 hS1 => ?_)
  obtain ⟨_, _, _, _, _, e1⟩ := (hK1.2 (tysP cy).length (cA, .object C) (by simp)).2
  obtain ⟨_, _, _, _, _, e2⟩ := (hK.1.2 t0 (c0, .object C) ht).2
  cases Option.some.inj (e1.symm.trans e2)
  exact kk q H1 hP1 hD1 hS1
end KC
theorem lx_in {i : Int32} {n : Nat} (h : (decide (i < 0) || Nat.ble n i.toNatClampNeg) = false) : vp_in i n := by
  intro h2
  rw [Bool.or_eq_false_iff] at h
  rcases h2 with h2 | h2
  · exact absurd h2 (of_decide_eq_false h.1)
  · have := Nat.ble_eq_true_of_le h2
    rw [h.2] at this
    cases this
end
section
/-! Own rows for methods that may throw -/
def xstrs : List (Nat × String) := [(325, "no such line"), (143, "another what"), (154, "no such variable"), (329, "no sets, or one in common"), (331, "no width"), (269, "another what, or no node"), (274, "no number of pebbles"), (311, "no such axiom")]
abbrev eIO : String := "java/lang/IndexOutOfBoundsException"
abbrev eIA : String := "java/lang/IllegalArgumentException"
abbrev eNS : String := "java/util/NoSuchElementException"
abbrev eNames : List String := ["java/lang/RuntimeException", "java/lang/Exception"]
abbrev eRT : String := "java/lang/RuntimeException"
abbrev eEX : String := "java/lang/Exception"
def xws : List Cond := [.declares (Bundle.initS eRT), .declares (Bundle.initS eEX), .declares (Bundle.initS Bundle.tN), .castable eIO eIO, .castable eIA eIA, .castable eNS eNS]
theorem xws_ok : ∀ w ∈ xws, w.onTables = true ∧ w.faceAtom = true := by decide +kernel
theorem lx_nw {w : Cond} (h : w ∈ xws) {s U : State} (hW : s.WarmedH U.vm) (hZ : va_Nw w s) : va_Nw w U := va_tabs (xws_ok w h).1 (rfl : (s.setVm U.vm).vm = U.vm) (Cond.faceAtom_setVm (args := #[]) hW.alike w (xws_ok w h).2 hZ)
def xU (sa : Nat → Nat) (A : Nat → Prop) (U : State) (H : Heap) : Prop := vx_Zq Bundle.tN "UNASSIGNED_STACK" Bundle.steD A U H ∧ vx_Zq Bundle.tN "SUPPRESSED_SENTINEL" Bundle.listD A U H ∧ va_Nc eNS eIA U ∧ (∀ w ∈ xws, va_Nw w U) ∧ ∀ q ∈ xstrs, vk_R RX11 q.1 q.2 (sa q.1) U
theorem xU.same {sa : Nat → Nat} {A : Nat → Prop} {u U : State} {H : Heap} (hv : U.vm = u.vm) (h : xU sa A u H) : xU sa A U H := by
  have hA : u.vm.Alike U.vm := by rw [hv]; exact Vm.Alike.refl _
  exact ⟨h.1.moved hA, h.2.1.moved hA, h.2.2.1.moved hA, fun w hw => va_Nw.same (xws_ok w hw).1 hv.symm (h.2.2.2.1 w hw), fun q hq => vk_R.same hv (h.2.2.2.2 q hq)⟩
theorem xU.to {sa : Nat → Nat} {A A1 : Nat → Prop} {s U : State} {H : Heap} {locs : List Loc} (hW : s.WarmedH U.vm) (hS : va_S A s.heap H locs) (hA : ∀ q, A1 q → A q) (h : xU sa A s s.heap) : xU sa A1 U H :=
  ⟨((h.1.kept hS.2.1).narrow hA).moved hW.alike, ((h.2.1.kept hS.2.1).narrow hA).moved hW.alike, h.2.2.1.moved hW.alike, fun w hw => lx_nw hw hW (h.2.2.2.1 w hw), fun q hq => vk_R.warm hW (h.2.2.2.2 q hq)⟩
def kx_Pc (G : va_G) (cy : Nat → ClassId) (sa : Nat → Nat) (av : List Value) (wc : va_W) (sz : Nat) : Array Value → State → Prop := va_Pc av (fun U => U.heap.size = sz ∧ va_P G vwCl wc U.heap ∧ kK G cy U ∧ va_D (fun _ => True) wc ∧ xU sa (va_A wc sz) U U.heap)
def kx_X (px : String → Prop) (A : Nat → Prop) : String → State → State → Prop := fun E st t => px E ∧ va_F A st t
/-- a contract of a method that may throw -/
def Kx (l : Launch) (G : va_G) (cy : Nat → ClassId) (sa : Nat → Nat) (y : MethodName) (cc : ByteArray) (maxL : Nat) (ret : Option FieldType) (rm : Room) (av : List Value) (wc : va_W) (post : Option Value → va_W → Prop) (px : String → Prop) : Prop :=
  ∀ sz : Nat, vx_Met l y (Cond.code y cc maxL ret :: UU) rm (kx_Pc G cy sa av wc sz) (kt_Q G post (va_A wc sz)) (kx_X px (va_A wc sz)) rm.cells rm.slots (va_A wc sz)
theorem kx_ofW {l : Launch} {G : va_G} {cy : Nat → ClassId} {sa : Nat → Nat} {y : MethodName} {cc : ByteArray} {maxL : Nat} {ret : Option FieldType} {rm : Room} {av : List Value} {wc : va_W} {post : Option Value → va_W → Prop} {px : String → Prop} (hy : plainName y.cls = true) (hlen : (lg_sl av).length ≤ maxL)
    (body : ∀ (p : Program) (e : Env) (s : State) (m : MethodId) (below : List Frame) (meth : Method) (c : Code) (A : Nat → Prop) (ls : Array Slot), p.tables.exec = Jvm.exec → c.code = cc → meth.sig.returnType = ret → (∀ w ∈ UU, w.before av.toArray s = true) → s.vm.findClass y.cls = some m.cls → meth.locks = false → c.maxLocals = maxL → meth.name = y.name → va_P G vwCl wc s.heap → kK G cy s → va_D A wc → (∀ q, s.heap.size ≤ q → A q) → va_S A s.heap s.heap [] → lv_has ls maxL (lv_args 0 av) → xU sa A s s.heap → (∀ x ∈ c.exceptionTable.toList, False) →
      W p l e rm s m av.toArray below meth c s.heap [] 0 0 (vx_MQ below (kt_Q G post A) (kx_X px A) av.toArray s rm.cells rm.slots A) (F0 m 0 ls [])) : Kx l G cy sa y cc maxL ret rm av wc post px := by
  intro sz
  refine vx_ofW (cc := cc) (maxL := maxL) (ret := ret) hy rfl ?_
  intro p e s m args below meth c s₁ B hml hnt hv
  obtain ⟨rfl, hsz, hP, hK, hD0, hZ⟩ := hv
  subst hsz
  have hts := atoms_spec (ws := Cond.code y cc maxL ret :: UU) B.pre
  rw [lg_entry_eq]
  exact body p e s m below meth c (va_A wc s.heap.size) _ B.exec B.bytes B.returns (fun w h => hts w (List.mem_cons_of_mem _ h)) (findClass_of_methodNamed B.named) B.notSynchronized hml (name_of_methodNamed B.named B.method).1 hP hK hD0.self (fun q h => Or.inr h) va_S.rf (lv_entry av hlen) hZ hnt
/-- a contract of a method with a table of its own that lets nothing out -/
def Kw (l : Launch) (G : va_G) (cy : Nat → ClassId) (sa : Nat → Nat) (y : MethodName) (cc : ByteArray) (maxL : Nat) (ret : Option FieldType) (hh : List (Nat × Nat × Nat × Nat)) (rm : Room) (av : List Value) (wc : va_W) (post : Option Value → va_W → Prop) : Prop :=
  ∀ sz : Nat, vx_Met l y (Cond.codeWith y cc maxL ret hh :: UU) rm (kx_Pc G cy sa av wc sz) (kt_Q G post (va_A wc sz)) (fun _ _ _ => False) rm.cells rm.slots (va_A wc sz)
theorem kw_ofW {l : Launch} {G : va_G} {cy : Nat → ClassId} {sa : Nat → Nat} {y : MethodName} {cc : ByteArray} {maxL : Nat} {ret : Option FieldType} {hh : List (Nat × Nat × Nat × Nat)} {rm : Room} {av : List Value} {wc : va_W} {post : Option Value → va_W → Prop} (hy : plainName y.cls = true) (hlen : (lg_sl av).length ≤ maxL)
    (body : ∀ (p : Program) (e : Env) (s : State) (m : MethodId) (below : List Frame) (meth : Method) (c : Code) (A : Nat → Prop) (ls : Array Slot), p.tables.exec = Jvm.exec → c.code = cc → meth.sig.returnType = ret → (∀ w ∈ UU, w.before av.toArray s = true) → s.vm.findClass y.cls = some m.cls → meth.locks = false → c.maxLocals = maxL → meth.name = y.name → va_P G vwCl wc s.heap → kK G cy s → va_D A wc → (∀ q, s.heap.size ≤ q → A q) → va_S A s.heap s.heap [] → lv_has ls maxL (lv_args 0 av) → xU sa A s s.heap → c.exceptionTable.toList = tableOf hh →
      W p l e rm s m av.toArray below meth c s.heap [] 0 0 (vx_MQ below (kt_Q G post A) (fun _ _ _ => False) av.toArray s rm.cells rm.slots A) (F0 m 0 ls [])) : Kw l G cy sa y cc maxL ret hh rm av wc post := by
  intro sz
  refine vx_ofWH (cc := cc) (maxL := maxL) (ret := ret) (hh := hh) hy rfl ?_
  intro p e s m args below meth c s₁ B hml hv
  obtain ⟨rfl, hsz, hP, hK, hD0, hZ⟩ := hv
  subst hsz
  have hts := atoms_spec (ws := Cond.codeWith y cc maxL ret hh :: UU) B.pre
  have htab := vx_table (x := y) B (hts _ List.mem_cons_self)
  rw [lg_entry_eq]
  exact body p e s m below meth c (va_A wc s.heap.size) _ B.exec B.bytes B.returns (fun w h => hts w (List.mem_cons_of_mem _ h)) (findClass_of_methodNamed B.named) B.notSynchronized hml (name_of_methodNamed B.named B.method).1 hP hK hD0.self (fun q h => Or.inr h) va_S.rf (lv_entry av hlen) hZ htab
def mW (y : MethodName) (bytes : ByteArray) (maxL : Nat) (ret : Option FieldType) (hh : List (Nat × Nat × Nat × Nat)) (n : Nat) : Prop := Cond.codeWith y bytes maxL ret hh ∈ UU ∧ Cond.static y ∈ UU ∧ Cond.initialized y.cls ∈ UU ∧ mD y n
section KX
variable {p : Program} {l : Launch} {e : Env} {R : Room} {s : State} {m : MethodId} {args : Array Value} {below : List Frame} {meth : Method} {c : Code} {H H0 : Heap} {locs : List Loc} {cells slots : Nat} {Q : State → Prop} {A : Nat → Prop} {G : va_G} {cy : Nat → ClassId} {sa : Nat → Nat} {cc : ByteArray} {pc : Nat} {ls : Array Slot} {st0 rest : List Value} {w wc wr : va_W} {post postc : Option Value → va_W → Prop} {px pxc : String → Prop}
theorem kx_go {mc ms : Nat} {a : Array Value} {XC : String → State → State → Prop} (hXC : ∀ E st t, XC E st t → px E ∧ va_F (va_A wc H.size) st t) (hrun : vx_Run p l e R s m args below meth c H locs cells slots mc ms (F0 m pc ls st0) rest (kt_Q G post (va_A wc H.size) a) XC (va_A wc H.size)) (hP : va_P G vwCl w H) (hD : va_D A w) (hS : va_S A H0 H locs) (hA : ∀ q, H0.size ≤ q → A q) (isC isR : List Nat) (hC : isC.map (fun i => w[i]?) = wc.map some) (hR : isR.map (fun i => w[i]?) = wr.map some) (hok : lx_ok isC isR = true)
    (kx : ∀ (E : String) (ce : Cell) (q9 : Addr) (H1 : Heap) (locs1 : List Loc), px E → va_P G vwCl wr H1 → va_D A wr → va_S A H0 H1 locs1 → H1[q9]? = some ce → ce.vm = .none → s.vm.findClass E = some ce.cls → vx_W p l e R s m args below meth c H1 locs1 (cells + mc) (slots + ms) Q (F0 m pc ls rest) q9)
    (kk : ∀ (v : Option Value) (w1 : va_W) (H1 : Heap) (locs1 : List Loc), post v w1 → va_P G vwCl (wr ++ w1) H1 → va_D A (wr ++ w1) → va_S A H0 H1 locs1 → W p l e R s m args below meth c H1 locs1 (cells + mc) (slots + ms) Q (F0 m (pc + 3) ls (v.toList ++ rest))) : W p l e R s m args below meth c H locs cells slots Q (F0 m pc ls st0) := by
  intro T hT X
  have hF := va_free (wc := wc) hD hS hA isC hC
  rcases hrun T hT X with ⟨v, st₀, t, T', L, h0, X', hL, e1, e2, ⟨⟨v', w1, hv, hp, hP1, hD1⟩, hz, hk⟩, st⟩ | ⟨q, st₀, t, T', L, E, ce, h0, X', hL, e1, e2, hxc, hce, hcv, hcl, st⟩
  · cases hv
    rw [h0] at hz hk
    rw [← e1] at hP1 hz hk
    obtain ⟨hP2, hD2⟩ := va_join (wr := wr) (w1 := w1) hP hD isC isR hC hR (lx_okr hok) (lx_okd hok) hk hF hP1 hD1
    obtain ⟨t2, a1, b1⟩ := kk v w1 T'.heap (locs ++ L) hp hP2 hD2
      ⟨Nat.le_trans hS.1 hz, fun q h1 h2 => by rw [hk q (Nat.lt_of_lt_of_le h1 hS.1) (fun z => h2 (hF q z))]; exact hS.2.1 q h1 h2, fun q hq => by
        rcases List.mem_append.mp hq with h | h
        · exact hS.2.2 q h
        · exact hF _ (hL q h)⟩ T' rfl X'
    exact ⟨t2, st t2 a1, b1⟩
  · obtain ⟨hp, hz, hk⟩ := hXC E st₀ t hxc
    rw [h0] at hz hk
    rw [← e1] at hz hk
    obtain ⟨hP2, hD2⟩ := va_join (wr := wr) (w1 := []) hP hD isC isR hC hR (lx_okr hok) (lx_okd hok) hk hF (fun k q h => by simp at h) ⟨fun i j p q h => by simp at h, fun k q h => by simp at h⟩
    rw [List.append_nil] at hP2 hD2
    obtain ⟨t2, a1, b1⟩ := kx E ce q T'.heap (locs ++ L) hp hP2 hD2
      ⟨Nat.le_trans hS.1 hz, fun q h1 h2 => by rw [hk q (Nat.lt_of_lt_of_le h1 hS.1) (fun z => h2 (hF q z))]; exact hS.2.1 q h1 h2, fun q hq => by
        rcases List.mem_append.mp hq with h | h
        · exact hS.2.2 q h
        · exact hF _ (hL q h)⟩ (by rw [e1]; exact hce) hcv hcl T' rfl X'
    exact ⟨t2, st.trans a1, b1⟩
theorem kx_pre {av : List Value} (hK : kK G cy s) (hP : va_P G vwCl w H) (hD : va_D A w) (hS : va_S A s.heap H locs) (hA : ∀ q, s.heap.size ≤ q → A q) (hZ : xU sa A s s.heap) (isC : List Nat) (hC : isC.map (fun i => w[i]?) = wc.map some) (hn : va_nd isC = true) : PreS s H (kx_Pc G cy sa av wc H.size) av :=
  ⟨fun a U g mk q => by obtain ⟨q0, q1, qP, qK, qD, qZ⟩ := q; exact ⟨q0, q1, qP, kK.moved (u := U) (U := U.calling g mk a) (Vm.Alike.refl U.vm) qK, qD, xU.same (u := U) (U := U.calling g mk a) rfl qZ⟩,
   fun U hU hW => ⟨rfl, by rw [hU], by rw [hU]; exact hP.sub isC (lx_fm hC), kK.moved hW.alike hK, (hD.sub isC hn hC).weaken (fun _ _ _ _ => trivial), by rw [hU]; exact hZ.to hW hS (va_free (wc := wc) hD hS hA isC hC)⟩⟩
/-- a call, the throw left to the caller's row -/
theorem kx_callVH {own : String} {y : MethodName} {bytes : ByteArray} {maxL nL n index : Nat} {ret : Option FieldType} {rm : Room} {As : List Value} {b : Nat} (hM : Kx l G cy sa y bytes maxL ret rm (.ref b :: As) wc post px) (hm : mV y bytes maxL ret n) (hl : Cond.methodLink own index y ∈ UU)
    (hx : p.tables.exec = Jvm.exec) (hb : c.code = cc) (hml : c.maxLocals = nL) (hown : s.vm.findClass own = some m.cls) (hU : ∀ w ∈ UU, w.before args s = true) (hls : ls.size = nL) (hK : kK G cy s) (hP : va_P G vwCl w H) (hD : va_D A w) (hS : va_S A s.heap H locs) (hA : ∀ q, s.heap.size ≤ q → A q)
    (hdg : decode cc pc = .ok (.invokevirtual index, 3)) (isC isR : List Nat) (hC : isC.map (fun i => w[i]?) = wc.map some) (hR : isR.map (fun i => w[i]?) = wr.map some) (hok : lx_ok isC isR = true) (hroom : lx_room rm R maxL cells slots = true)
    (hn : As.length = n) (hst : st0 = As.reverse ++ .ref b :: rest) (hrest : (rest.map fun v => v.category).sum ≤ 8)
    {ci : Nat} {q : vw_C} {fs : List Value} (hcl : vwCl[ci]? = some q) (hq0 : wc[0]? = some (b, .inr (ci, fs))) (hqC : q.1 = y.cls) (hZ : xU sa A s s.heap)
    (kx : ∀ (E : String) (ce : Cell) (q9 : Addr) (H1 : Heap) (locs1 : List Loc), px E → va_P G vwCl wr H1 → va_D A wr → va_S A s.heap H1 locs1 → H1[q9]? = some ce → ce.vm = .none → s.vm.findClass E = some ce.cls → vx_W p l e R s m args below meth c H1 locs1 (cells + rm.cells) (slots + rm.slots) Q (F0 m pc ls rest) q9)
    (kk : ∀ (v : Option Value) (w1 : va_W) (H1 : Heap) (locs1 : List Loc), post v w1 → va_P G vwCl (wr ++ w1) H1 → va_D A (wr ++ w1) → va_S A s.heap H1 locs1 → W p l e R s m args below meth c H1 locs1 (cells + rm.cells) (slots + rm.slots) Q (F0 m (pc + 3) ls (v.toList ++ rest))) : W p l e R s m args below meth c H locs cells slots Q (F0 m pc ls st0) := by
  obtain ⟨u0, u2, u3, u4, hd⟩ := hm
  have hpre := kx_pre (av := .ref b :: As) (wc := wc) hK hP hD hS hA hZ isC hC (lx_okc hok)
  have hrec : ∃ cell : Cell, H[b]? = some cell ∧ cell.vm.isStatics = false ∧ s.vm.findClass y.cls = some cell.cls := by
    rw [← hqC]; exact va_recv hK.1 (hP.sub isC (lx_fm hC)) hcl hq0
  exact kx_go (fun _ _ _ h => h) (vx_runV (C := y.cls) (As := As) (rest := rest) ⟨hx, hb, hml, hown, hU⟩ (hM H.size) ⟨callB_of n hU (uu_gi u0) rfl rfl rfl (hU _ u4) (hU _ hl) hd (lx_rooma hroom), hU _ u2, hU _ u3⟩ ⟨hpre.1, hrec, hpre.2⟩ rfl hn hls hst (lv_room hrest) hdg (lx_roomb hroom)) hP hD hS hA isC isR hC hR hok kx kk
theorem kx_callSH {own : String} {y : MethodName} {bytes : ByteArray} {maxL nL n index : Nat} {ret : Option FieldType} {rm : Room} {As : List Value} (hM : Kx l G cy sa y bytes maxL ret rm As wc post px) (hm : mS y bytes maxL ret n) (hl : Cond.methodLink own index y ∈ UU)
    (hx : p.tables.exec = Jvm.exec) (hb : c.code = cc) (hml : c.maxLocals = nL) (hown : s.vm.findClass own = some m.cls) (hU : ∀ w ∈ UU, w.before args s = true) (hls : ls.size = nL) (hK : kK G cy s) (hP : va_P G vwCl w H) (hD : va_D A w) (hS : va_S A s.heap H locs) (hA : ∀ q, s.heap.size ≤ q → A q)
    (hdg : decode cc pc = .ok (.invokestatic index, 3)) (isC isR : List Nat) (hC : isC.map (fun i => w[i]?) = wc.map some) (hR : isR.map (fun i => w[i]?) = wr.map some) (hok : lx_ok isC isR = true) (hroom : lx_room rm R maxL cells slots = true)
    (hn : As.length = n) (hst : st0 = As.reverse ++ rest) (hrest : (rest.map fun v => v.category).sum ≤ 8) (hZ : xU sa A s s.heap)
    (kx : ∀ (E : String) (ce : Cell) (q9 : Addr) (H1 : Heap) (locs1 : List Loc), px E → va_P G vwCl wr H1 → va_D A wr → va_S A s.heap H1 locs1 → H1[q9]? = some ce → ce.vm = .none → s.vm.findClass E = some ce.cls → vx_W p l e R s m args below meth c H1 locs1 (cells + rm.cells) (slots + rm.slots) Q (F0 m pc ls rest) q9)
    (kk : ∀ (v : Option Value) (w1 : va_W) (H1 : Heap) (locs1 : List Loc), post v w1 → va_P G vwCl (wr ++ w1) H1 → va_D A (wr ++ w1) → va_S A s.heap H1 locs1 → W p l e R s m args below meth c H1 locs1 (cells + rm.cells) (slots + rm.slots) Q (F0 m (pc + 3) ls (v.toList ++ rest))) : W p l e R s m args below meth c H locs cells slots Q (F0 m pc ls st0) := by
  obtain ⟨u0, u2, u4, hd⟩ := hm
  have hpre := kx_pre (av := As) (wc := wc) hK hP hD hS hA hZ isC hC (lx_okc hok)
  exact kx_go (fun _ _ _ h => h) (vx_runS (As := As) (rest := rest) ⟨hx, hb, hml, hown, hU⟩ (hM H.size) ⟨callB_of n hU (uu_gi u0) rfl rfl rfl (hU _ u4) (hU _ hl) hd (lx_rooma hroom), hU _ u2⟩ hpre rfl hn hls hst (lv_room hrest) hdg (lx_roomb hroom)) hP hD hS hA isC isR hC hR hok kx kk
/-- .. the throw goes on to the caller's caller -/
theorem kx_callV {own : String} {y : MethodName} {bytes : ByteArray} {maxL nL n index : Nat} {ret : Option FieldType} {rm : Room} {As : List Value} {b : Nat} (hM : Kx l G cy sa y bytes maxL ret rm (.ref b :: As) wc post px) (hm : mV y bytes maxL ret n) (hl : Cond.methodLink own index y ∈ UU)
    (hx : p.tables.exec = Jvm.exec) (hb : c.code = cc) (hml : c.maxLocals = nL) (hown : s.vm.findClass own = some m.cls) (hU : ∀ w ∈ UU, w.before args s = true) (hls : ls.size = nL) (hK : kK G cy s) (hP : va_P G vwCl w H) (hD : va_D A w) (hS : va_S A s.heap H locs) (hA : ∀ q, s.heap.size ≤ q → A q)
    (hdg : decode cc pc = .ok (.invokevirtual index, 3)) (isC isR : List Nat) (hC : isC.map (fun i => w[i]?) = wc.map some) (hR : isR.map (fun i => w[i]?) = wr.map some) (hok : lx_ok isC isR = true) (hroom : lx_room rm R maxL cells slots = true)
    (hn : As.length = n) (hst : st0 = As.reverse ++ .ref b :: rest) (hrest : (rest.map fun v => v.category).sum ≤ 8)
    {ci : Nat} {q : vw_C} {fs : List Value} (hcl : vwCl[ci]? = some q) (hq0 : wc[0]? = some (b, .inr (ci, fs))) (hqC : q.1 = y.cls) (hZ : xU sa A s s.heap) (hnt : ∀ x ∈ c.exceptionTable.toList, False) (hlocks : meth.locks = false) (hpx : ∀ E, px E → pxc E)
    (kk : ∀ (v : Option Value) (w1 : va_W) (H1 : Heap) (locs1 : List Loc), post v w1 → va_P G vwCl (wr ++ w1) H1 → va_D A (wr ++ w1) → va_S A s.heap H1 locs1 → W p l e R s m args below meth c H1 locs1 (cells + rm.cells) (slots + rm.slots) (vx_MQ below (kt_Q G postc A) (kx_X pxc A) args s R.cells R.slots A) (F0 m (pc + 3) ls (v.toList ++ rest))) : W p l e R s m args below meth c H locs cells slots (vx_MQ below (kt_Q G postc A) (kx_X pxc A) args s R.cells R.slots A) (F0 m pc ls st0) :=
  kx_callVH hM hm hl hx hb hml hown hU hls hK hP hD hS hA hdg isC isR hC hR hok hroom hn hst hrest hcl hq0 hqC hZ (fun E ce q9 H1 locs1 hE _ _ hS1 hce hcv hcl => vx_out (fun x h => (hnt x h).elim) hlocks hce hcv hcl (fun t ht _ => ⟨hpx E hE, hS1.F ht⟩) hS1.2.2 (lx_roomb hroom).1 (lx_roomb hroom).2) kk
theorem kx_callS {own : String} {y : MethodName} {bytes : ByteArray} {maxL nL n index : Nat} {ret : Option FieldType} {rm : Room} {As : List Value} (hM : Kx l G cy sa y bytes maxL ret rm As wc post px) (hm : mS y bytes maxL ret n) (hl : Cond.methodLink own index y ∈ UU)
    (hx : p.tables.exec = Jvm.exec) (hb : c.code = cc) (hml : c.maxLocals = nL) (hown : s.vm.findClass own = some m.cls) (hU : ∀ w ∈ UU, w.before args s = true) (hls : ls.size = nL) (hK : kK G cy s) (hP : va_P G vwCl w H) (hD : va_D A w) (hS : va_S A s.heap H locs) (hA : ∀ q, s.heap.size ≤ q → A q)
    (hdg : decode cc pc = .ok (.invokestatic index, 3)) (isC isR : List Nat) (hC : isC.map (fun i => w[i]?) = wc.map some) (hR : isR.map (fun i => w[i]?) = wr.map some) (hok : lx_ok isC isR = true) (hroom : lx_room rm R maxL cells slots = true)
    (hn : As.length = n) (hst : st0 = As.reverse ++ rest) (hrest : (rest.map fun v => v.category).sum ≤ 8) (hZ : xU sa A s s.heap) (hnt : ∀ x ∈ c.exceptionTable.toList, False) (hlocks : meth.locks = false) (hpx : ∀ E, px E → pxc E)
    (kk : ∀ (v : Option Value) (w1 : va_W) (H1 : Heap) (locs1 : List Loc), post v w1 → va_P G vwCl (wr ++ w1) H1 → va_D A (wr ++ w1) → va_S A s.heap H1 locs1 → W p l e R s m args below meth c H1 locs1 (cells + rm.cells) (slots + rm.slots) (vx_MQ below (kt_Q G postc A) (kx_X pxc A) args s R.cells R.slots A) (F0 m (pc + 3) ls (v.toList ++ rest))) : W p l e R s m args below meth c H locs cells slots (vx_MQ below (kt_Q G postc A) (kx_X pxc A) args s R.cells R.slots A) (F0 m pc ls st0) :=
  kx_callSH hM hm hl hx hb hml hown hU hls hK hP hD hS hA hdg isC isR hC hR hok hroom hn hst hrest hZ (fun E ce q9 H1 locs1 hE _ _ hS1 hce hcv hcl => vx_out (fun x h => (hnt x h).elim) hlocks hce hcv hcl (fun t ht _ => ⟨hpx E hE, hS1.F ht⟩) hS1.2.2 (lx_roomb hroom).1 (lx_roomb hroom).2) kk
/-- a call of a method with a table of its own -/
theorem kw_callS {own : String} {y : MethodName} {bytes : ByteArray} {maxL nL n index : Nat} {ret : Option FieldType} {hh : List (Nat × Nat × Nat × Nat)} {rm : Room} {As : List Value} (hM : Kw l G cy sa y bytes maxL ret hh rm As wc post) (hm : mW y bytes maxL ret hh n) (hl : Cond.methodLink own index y ∈ UU)
    (hx : p.tables.exec = Jvm.exec) (hb : c.code = cc) (hml : c.maxLocals = nL) (hown : s.vm.findClass own = some m.cls) (hU : ∀ w ∈ UU, w.before args s = true) (hls : ls.size = nL) (hK : kK G cy s) (hP : va_P G vwCl w H) (hD : va_D A w) (hS : va_S A s.heap H locs) (hA : ∀ q, s.heap.size ≤ q → A q)
    (hdg : decode cc pc = .ok (.invokestatic index, 3)) (isC isR : List Nat) (hC : isC.map (fun i => w[i]?) = wc.map some) (hR : isR.map (fun i => w[i]?) = wr.map some) (hok : lx_ok isC isR = true) (hroom : lx_room rm R maxL cells slots = true)
    (hn : As.length = n) (hst : st0 = As.reverse ++ rest) (hrest : (rest.map fun v => v.category).sum ≤ 8) (hZ : xU sa A s s.heap)
    (kk : ∀ (v : Option Value) (w1 : va_W) (H1 : Heap) (locs1 : List Loc), post v w1 → va_P G vwCl (wr ++ w1) H1 → va_D A (wr ++ w1) → va_S A s.heap H1 locs1 → W p l e R s m args below meth c H1 locs1 (cells + rm.cells) (slots + rm.slots) Q (F0 m (pc + 3) ls (v.toList ++ rest))) : W p l e R s m args below meth c H locs cells slots Q (F0 m pc ls st0) := by
  obtain ⟨u0, u2, u4, hd⟩ := hm
  have hpre := kx_pre (av := As) (wc := wc) hK hP hD hS hA hZ isC hC (lx_okc hok)
  have hG : GoodIn UU (va_wsS own index y (Cond.codeWith y bytes maxL ret hh :: UU)) := by
    intro v hv
    rcases List.mem_append.mp hv with h | h
    · have h2 : v ∈ UU := by
        rcases List.mem_cons.mp h with h | h
        · rw [h]; exact hl
        rcases List.mem_cons.mp h with h | h
        · rw [h]; exact u2
        rcases List.mem_cons.mp h with h | h
        · rw [h]; exact u4
        · cases h
      exact ⟨h2, good_of_word (uu_good h2)⟩
    · exact uu_gi u0 v h
  exact kx_go (px := fun _ => False) (fun _ _ _ h => h.elim) (vx_runSX (As := As) (rest := rest) ⟨hx, hb, hml, hown, hU⟩ (hM H.size) (vx_cwSW n hU hG rfl rfl rfl hd (lx_rooma hroom)) hpre rfl hn hls hst (lv_room hrest) hdg (lx_roomb hroom)) hP hD hS hA isC isR hC hR hok (fun _ _ _ _ _ h => h.elim) kk
theorem kx_thx {cls : String} (hS : va_S A s.heap H locs) (hpx : px cls) : ∀ t : State, s.vm.Alike t.vm → H.size ≤ t.heap.size → (∀ q : Nat, q < H.size → t.heap[q]? = H[q]?) → kx_X px A cls s t := fun t _ hz hk => ⟨hpx, Nat.le_trans hS.1 hz, fun q h1 h2 => by rw [hk q (Nat.lt_of_lt_of_le h1 hS.1)]; exact hS.2.1 q h1 h2⟩
theorem kx_throw {cls text : String} {ik is ic : Nat} (hx : p.tables.exec = Jvm.exec) (hb : c.code = cc) (hlst : l.stackTraces = false) (hown : s.vm.findClass RX11 = some m.cls) (hcls : Bundle.fit cls = true) (hU : ∀ w ∈ UU, w.before args s = true) (uk : Cond.classLink RX11 ik cls ∈ UU) (ui : Cond.initialized cls ∈ UU) (hs : (is, text) ∈ xstrs) (hat : ∀ w ∈ vx_atS RX11 ic cls eNames, w ∈ UU ∨ w ∈ xws) (hZ : xU sa A s s.heap) (hS : va_S A s.heap H locs) (hls : ls.size = c.maxLocals)
    (d0 : decode cc pc = .ok (.new ik, 3)) (d3 : decode cc (pc + 3) = .ok (.dup, 1)) (d4 : decode cc (pc + 4) = .ok (.ldc is, 2)) (d6 : decode cc (pc + 6) = .ok (.invokespecial ic, 3)) (d9 : decode cc (pc + 9) = .ok (.athrow, 1)) (hnt : ∀ x ∈ c.exceptionTable.toList, False) (h1 : Nat.ble 6 R.frames = true) (h2 : Nat.ble ((rest.map fun v => v.category).sum + 82) R.locals = true) (h3 : Nat.ble (cells + 1) R.cells = true) (h4 : Nat.ble (slots + 6) R.slots = true) (hlocks : meth.locks = false) (hpx : px cls) :
    W p l e R s m args below meth c H locs cells slots (vx_MQ below (kt_Q G post A) (kx_X px A) args s R.cells R.slots A) (F0 m pc ls rest) :=
  vx_throwS (names := eNames) hx hb hlst hown hcls (by decide) (hU _ uk) (hU _ ui) (hZ.2.2.2.2 _ hs) (fun w h => (hat w h).elim (fun h => hU w h) (fun h => va_Nw.use (xws_ok w h).1 (hZ.2.2.2.1 w h))) (fun w h => by
      have h2 : w ∈ UU ∨ w ∈ xws := (List.mem_cons.mp h).elim (fun h => by rw [h]; exact Or.inl uk) (fun h => (List.mem_cons.mp h).elim (fun h => by rw [h]; exact Or.inl ui) (fun h => hat w h))
      rcases h2 with h2 | h2
      · simp [vx_ot, uu_good h2]
      · simp [vx_ot, (xws_ok w h2).1]) hZ.1 hZ.2.1 hS hls d0 d3 d4 d6 d9 (fun x h => (hnt x h).elim) (Nat.le_of_ble_eq_true h1) (Nat.le_of_ble_eq_true h2) (Nat.le_of_ble_eq_true h3) (Nat.le_of_ble_eq_true h4) hlocks (kx_thx hS hpx) hS.2.2 (Nat.le_of_ble_eq_true h3) (Nat.le_of_ble_eq_true h4)
theorem kx_throwW {cls text : String} {ik is ic : Nat} (hx : p.tables.exec = Jvm.exec) (hb : c.code = cc) (hlst : l.stackTraces = false) (hown : s.vm.findClass RX11 = some m.cls) (hcls : Bundle.fit cls = true) (hU : ∀ w ∈ UU, w.before args s = true) (uk : Cond.classLink RX11 ik cls ∈ UU) (ui : Cond.initialized cls ∈ UU) (hs : (is, text) ∈ xstrs) (hat : ∀ w ∈ vx_atS RX11 ic cls eNames, w ∈ UU ∨ w ∈ xws) (hZ : xU sa A s s.heap) (hS : va_S A s.heap H locs) (hls : ls.size = c.maxLocals)
    (d0 : decode cc pc = .ok (.new ik, 3)) (d3 : decode cc (pc + 3) = .ok (.dup, 1)) (d4 : decode cc (pc + 4) = .ok (.ldc_w is, 3)) (d7 : decode cc (pc + 7) = .ok (.invokespecial ic, 3)) (d10 : decode cc (pc + 10) = .ok (.athrow, 1)) (hnt : ∀ x ∈ c.exceptionTable.toList, False) (h1 : Nat.ble 6 R.frames = true) (h2 : Nat.ble ((rest.map fun v => v.category).sum + 82) R.locals = true) (h3 : Nat.ble (cells + 1) R.cells = true) (h4 : Nat.ble (slots + 6) R.slots = true) (hlocks : meth.locks = false) (hpx : px cls) :
    W p l e R s m args below meth c H locs cells slots (vx_MQ below (kt_Q G post A) (kx_X px A) args s R.cells R.slots A) (F0 m pc ls rest) :=
  vx_throwSW (names := eNames) hx hb hlst hown hcls (by decide) (hU _ uk) (hU _ ui) (hZ.2.2.2.2 _ hs) (fun w h => (hat w h).elim (fun h => hU w h) (fun h => va_Nw.use (xws_ok w h).1 (hZ.2.2.2.1 w h))) (fun w h => by
      have h2 : w ∈ UU ∨ w ∈ xws := (List.mem_cons.mp h).elim (fun h => by rw [h]; exact Or.inl uk) (fun h => (List.mem_cons.mp h).elim (fun h => by rw [h]; exact Or.inl ui) (fun h => hat w h))
      rcases h2 with h2 | h2
      · simp [vx_ot, uu_good h2]
      · simp [vx_ot, (xws_ok w h2).1]) hZ.1 hZ.2.1 hS hls d0 d3 d4 d7 d10 (fun x h => (hnt x h).elim) (Nat.le_of_ble_eq_true h1) (Nat.le_of_ble_eq_true h2) (Nat.le_of_ble_eq_true h3) (Nat.le_of_ble_eq_true h4) hlocks (kx_thx hS hpx) hS.2.2 (Nat.le_of_ble_eq_true h3) (Nat.le_of_ble_eq_true h4)
end KX
theorem uu_or {ws : List Cond} (h1 : ∀ w ∈ ws, w ∈ lw_tbl) (h2 : ∀ w ∈ ws, goodWord w = true ∨ w ∈ xws) : ∀ w ∈ ws, w ∈ UU ∨ w ∈ xws := fun w h => (h2 w h).elim (fun g => Or.inl (List.mem_filter.mpr ⟨h1 w h, g⟩)) Or.inr
theorem at_156 : ∀ w ∈ vx_atS RX11 156 eIO eNames, w ∈ UU ∨ w ∈ xws := uu_or (by decide +kernel) (by decide +kernel)
theorem at_88 : ∀ w ∈ vx_atS RX11 88 eIA eNames, w ∈ UU ∨ w ∈ xws := uu_or (by decide +kernel) (by decide +kernel)
/-! NoSuchElementException: its constructor's link stands at another place (13) than the kit's row for a throw wants (7): the same chain, its first link by its own place. Follows the library's Stand.ctorThrowS (BundleOwnThrow), and the kit's vx_throwS. -/
abbrev bNS : ByteArray := prog_33_method_4_code
def xaNS (own : String) (ic : Nat) : List Cond := Bundle.throwableAtoms ++ Bundle.throwableSAtoms ++ (Bundle.passSAtoms eNS eRT 13 bNS ++ Bundle.chainSAtoms eRT [eEX]) ++
  [.methodLink own ic (Bundle.initS eNS), .instantiable eNS 6, .castable eNS eNS, .selects eNS Bundle.tFill0 Bundle.tFill0, .selects eNS Bundle.tFill Bundle.tFill,
   .lays eNS Bundle.tN "cause" "Ljava/lang/Throwable;", .lays eNS Bundle.tN "stackTrace" Bundle.steD, .lays eNS Bundle.tN "suppressedExceptions" Bundle.listD, .lays eNS Bundle.tN "detailMessage" "Ljava/lang/String;",
   .isRef (.static Bundle.tN "UNASSIGNED_STACK" Bundle.steD), .isRef (.static Bundle.tN "SUPPRESSED_SENTINEL" Bundle.listD),
   .fieldLink Bundle.tN 198 Bundle.tN "backtrace" "Ljava/lang/Object;", .lays Bundle.tN Bundle.tN "backtrace" "Ljava/lang/Object;", .lays eNS Bundle.tN "backtrace" "Ljava/lang/Object;"]
def xaNSf (own : String) (ic : Nat) : List Cond := (xaNS own ic).filter vx_no
theorem at_145 : ∀ w ∈ xaNSf RX11 145, w ∈ UU ∨ w ∈ xws := uu_or (by decide +kernel) (by decide +kernel)
section NSE
variable {p : Program} {l : Launch} {e : Env} {R : Room} {s : State} {m : MethodId} {args : Array Value} {below : List Frame} {meth : Method} {c : Code} {H : Heap} {locs : List Loc} {cells slots : Nat}
set_option maxHeartbeats 1000000 in
theorem lx_ctorNS {V : State} (X : Stand p l e R s m args below meth c V locs cells slots) (hexec : p.tables.exec = Jvm.exec) (htr : e.platform.stackTraces = false) {own : String} {ic : Nat} (hown : s.vm.findClass own = some m.cls)
    (h : ∀ w ∈ xaNS own ic, w.before args s = true) (hlocs : ∀ x ∈ locs, ∀ cell, s.heap[x.base]? = some cell → cell.vm.isStatics = false)
    {a : Addr} {cX : ClassId} {kX : Class} (hfoundX : s.vm.findClass eNS = some cX) (hkX : s.vm.classes[cX]? = some kX) (hcell : V.heap[a]? = some (freshCell cX kX)) (hnew : s.heap.size ≤ a) {msg : Value} (hmsg : msg.isRef = true)
    {g : JFrame} (hg : g.method = m) (hsize : g.locals.size = c.maxLocals) (hlocked : g.locked = none) (hentered : g.entered = []) {rest : List Value} (hstack : g.stack = msg :: .ref a :: .ref a :: rest)
    (hd6 : decode c.code g.pc = .ok (.invokespecial ic, 3)) (hd9 : decode c.code (g.pc + 3) = .ok (.athrow, 1)) (hout : ∀ x ∈ c.exceptionTable.toList, covers x (g.pc + 3) = false)
    (hRframes : 5 < R.frames) (hRlocals : 2 * g.monitorRoom + ((Value.ref a :: rest).map fun v => v.category).sum + 81 ≤ R.locals) (hlocks : meth.locks = false) :
    ∃ U : State, Steps p.tables e below (V.setTop g) U ∧ U.status = .running ∧ Ended U below (.threw a) ∧ s.WarmedH U.vm ∧ s.sameButNew ({ U with vm := s.vm } : State) locs cells slots ∧
      ∃ ce, U.heap[a]? = some ce ∧ ce.vm = .none ∧ s.vm.findClass eNS = some ce.cls := by
  have howns : e.platform.frameOwnsMonitors = true := by rw [X.admits.platform]
  have hfin : e.platform.finalization = false := by rw [X.admits.platform]
  have hpl : e.platform.magicAccessors = ({} : Platform).magicAccessors := by rw [X.admits.platform]
  have a' : ∀ x, x ∈ xaNS own ic → x.holds args s none s [] = true := fun x hx => h x hx
  obtain ⟨T, Z0, L, -, Y⟩ := ThrowableC.of_atoms (args := args) howns hfin hpl (fun x hx => h x (by simp [xaNS, hx]))
  obtain ⟨Z, M, LZ, LM, hnZ⟩ := Init0T.ofS_atoms (args := args) hpl L Y (fun x hx => h x (by simp [xaNS, hx]))
  obtain ⟨P1, L1, hP1m, hs1⟩ := PassC.ofS_atoms (args := args) (s := s) hpl (X := eNS) (Y := eRT) (index := 13) (bytes := bNS) (by decide) (by decide) (by decide +kernel) (by decide +kernel) (by decide +kernel) (by decide +kernel) (fun x hx => h x (by simp only [xaNS, List.mem_append]; exact Or.inl (Or.inr (Or.inl hx))))
  obtain ⟨P2, Ps, hlen, L2, hL, hP2m, hlink2, hlink⟩ := Bundle.chainS (args := args) hpl hnZ [eEX] eRT (by decide) (by decide) (fun x hx => h x (by simp only [xaNS, List.mem_append]; exact Or.inl (Or.inr (Or.inr hx))))
  have hfound : s.vm.findClass eNS = some P1.m.cls := findClass_of_methodNamed hP1m
  cases Option.some.inj (hfoundX.symm.trans hfound)
  obtain ⟨c1, kX', hc1, hk, hord, -, -, hn6⟩ := Cond.instantiable_spec (a' (.instantiable eNS 6) (by simp [xaNS]))
  cases Option.some.inj (hc1.symm.trans hfound)
  cases Option.some.inj (hkX.symm.trans hk)
  have hsel0 : selectMethod e.platform s.vm P1.m.cls T.fill0 = .method T.fill0 := by
    obtain ⟨c2, r2, m2, q1, q2, q3, q4, -⟩ := Cond.selects_spec (a' (.selects eNS Bundle.tFill0 Bundle.tFill0) (by simp [xaNS]))
    cases Option.some.inj (q1.symm.trans hfound)
    cases Option.some.inj (q2.symm.trans (State.methodFound?_of_named Y.fill0 (by decide)))
    cases Option.some.inj (q3.symm.trans Y.fill0)
    rw [Launch.admits_selectMethod X.admits]; exact q4
  have hselF : selectMethod e.platform s.vm P1.m.cls T.fill = .method T.fill := by
    obtain ⟨c2, r2, m2, q1, q2, q3, q4, -⟩ := Cond.selects_spec (a' (.selects eNS Bundle.tFill Bundle.tFill) (by simp [xaNS]))
    cases Option.some.inj (q1.symm.trans hfound)
    cases Option.some.inj (q2.symm.trans (State.methodFound?_of_named Y.fill (by decide)))
    cases Option.some.inj (q3.symm.trans Y.fill)
    rw [Launch.admits_selectMethod X.admits]; exact q4
  obtain ⟨cellS0, hcS0, hiss⟩ := Y.statics
  obtain ⟨u0, hu0⟩ := Cond.staticRefV Y.unassigned L.unassignedStatic L.statics hcS0 hiss (a' (.isRef (.static Bundle.tN "UNASSIGNED_STACK" Bundle.steD)) (by simp [xaNS]))
  obtain ⟨sen, hsen⟩ := Cond.staticRefV Y.sentinel L.sentinelStatic L.statics hcS0 hiss (a' (.isRef (.static Bundle.tN "SUPPRESSED_SENTINEL" Bundle.listD)) (by simp [xaNS]))
  obtain ⟨ci198, i198, fB, hk198, hg198, ha198, hsB, -, hnB, htB, hffB⟩ := Cond.ownField (t := .object "java/lang/Object") Y.found L.cls (by decide +kernel) (a' (.fieldLink Bundle.tN 198 Bundle.tN "backtrace" "Ljava/lang/Object;") (by simp [xaNS])) (a' (.lays Bundle.tN Bundle.tN "backtrace" "Ljava/lang/Object;") (by simp [xaNS])) e.platform hpl
  obtain ⟨cellS, hcS', heS, -, hkeep⟩ := X.same.2.2.2.2.2 T.aS cellS0 hcS0
  have hcellS : V.heap[T.aS]? = some cellS := hcS'
  have hout' : ∀ i, (⟨T.aS, i⟩ : Loc) ∉ locs := fun i hmem => by
    have := hlocs _ hmem cellS0 hcS0
    rw [hiss] at this; cases this
  have hknownS : cellS.vm ≠ .unknown := by
    rw [heS]; intro hu
    rw [show cellS0.vm = .unknown from hu] at hiss
    cases hiss
  have hneS : T.aS ≠ a := Nat.ne_of_lt (Nat.lt_of_lt_of_le (Array.getElem?_eq_some_iff.mp hcS0).1 hnew)
  obtain ⟨iM, hffM⟩ := Y.msg
  obtain ⟨tyC, dC, hdC, hdnC⟩ := Cond.laysAt hfound hk Y.cause (a' (.lays eNS Bundle.tN "cause" "Ljava/lang/Throwable;") (by simp [xaNS]))
  obtain ⟨tyS, dS, hdS, hdnS⟩ := Cond.laysAt hfound hk Y.stack (a' (.lays eNS Bundle.tN "stackTrace" Bundle.steD) (by simp [xaNS]))
  obtain ⟨tyP, dP, hdP, hdnP⟩ := Cond.laysAt hfound hk Y.supp (a' (.lays eNS Bundle.tN "suppressedExceptions" Bundle.listD) (by simp [xaNS]))
  obtain ⟨tyM, dM, hdM, hdnM⟩ := Cond.laysAt hfound hk hffM (a' (.lays eNS Bundle.tN "detailMessage" "Ljava/lang/String;") (by simp [xaNS]))
  obtain ⟨tyB, dB, hdB, hdnB⟩ := Cond.laysAt hfound hk hffB (a' (.lays eNS Bundle.tN "backtrace" "Ljava/lang/Object;") (by simp [xaNS]))
  have bC := Cond.laysApart hdB hdC hdnB hdnC (by rw [hnB, Y.causeName]; decide)
  have bS := Cond.laysApart hdB hdS hdnB hdnS (by rw [hnB, Y.stackName]; decide)
  have bP := Cond.laysApart hdB hdP hdnB hdnP (by rw [hnB, Y.suppName]; decide)
  have hskip : SkipFacts T e.platform s (fun u => u) u0 ((preparedCellV T.toThrowableT (freshCell P1.m.cls kX) a u0 sen).withEntry V.cur) :=
    ⟨{ ci198 := ci198, i198 := i198, fBack := fB }, ⟨hk198, hg198, ha198, hsB⟩, by
      have := fresh_default (c := P1.m.cls) tyB
      rw [htB] at this
      simpa [preparedCellV, Cell.setSlot, Cell.withEntry, Array.getElem?_setIfInBounds, bC, bS, bP, bC.symm, bS.symm, bP.symm, defaultValue] using this, fun _ _ => rfl⟩
  obtain ⟨tm, methC, cdC, kC, vm₁, hnC, -, -, -, -, -, -, -, hW₁, st1⟩ := Steps.initColdS (tb := p.tables) (e := e) (below := below) (s := s) (U := V) X.here hexec X.warmed hpl hown (t := Bundle.initS eNS) rfl rfl (by decide)
    (a' (.methodLink own ic (Bundle.initS eNS)) (by simp [xaNS])) (h (.instanceMethod (Bundle.initS eNS)) (by simp [xaNS, Bundle.passSAtoms])) (bytes := bNS) (maxL := 2) (h (.code (Bundle.initS eNS) bNS 2 none) (by simp [xaNS, Bundle.passSAtoms]))
    (f := g) hg (a := a) (msg := msg) (rest := .ref a :: rest) hstack hd6
  cases Option.some.inj (hnC.symm.trans hP1m)
  have X₁ := X.noted hW₁
  have hlen3 : (P1 :: P2 :: Ps).length = 3 := by simp only [List.length_cons, hlen]; rfl
  obtain ⟨vm₂, X₂, st2⟩ := X₁.ctorMessageOffV hexec (g := { g with stack := .ref a :: rest }) hg hsize T L Z LZ M LM (P1 :: P2 :: Ps)
    (fun P hP => by
      rcases List.mem_cons.mp hP with rfl | hP
      · exact L1
      rcases List.mem_cons.mp hP with rfl | hP
      · exact L2
      · exact hL P hP) ⟨Option.some.inj (hs1.symm.trans hP2m), hlink2, hlink⟩ (u0 := u0) (sen := sen) (self := a) hmsg (cell := freshCell P1.m.cls kX) (cellS := cellS)
    hcell (fun _ => by simp) (by simp) rfl rfl hsel0 hselF hcellS hneS hknownS (by rw [hkeep _ (hout' _)]; exact hu0) (by rw [hkeep _ (hout' _)]; exact hsen)
    (Takes.of_laid hk hord tyC (by rw [Y.causeType]; rfl)) (Takes.of_laid hk hord tyS (by rw [Y.stackType]; exact fits_refV_array _ u0)) (Takes.of_laid hk hord tyP (by rw [Y.suppType]; exact fits_refV_object _ sen))
    (Takes.of_laid hk hord tyM (by rw [Y.msgType]; exact fits_refV_object _ ⟨msg, hmsg⟩)) Y.objLocals hskip htr [] hd6
    (by rw [hlen3]; omega) (by rw [hlen3]; exact hRlocals)
  obtain ⟨hwalk, hrun, hended, hWU, hsame⟩ := X₂.athrowLeaves hexec (g := { g with stack := .ref a :: rest, pc := g.pc + 3 }) hg hlocked hentered hout (a := a) (rest := rest) rfl hd9
  have hlt : a < ((V.setVm vm₁).setVm vm₂).heap.size := (Array.getElem?_eq_some_iff.mp hcell).1
  have hU := heapAt_setCell_self (s := (V.setVm vm₁).setVm vm₂) (plainBareV T.toThrowableT (freshCell P1.m.cls kX) a u0 sen msg) hlt
  refine ⟨_, st1 _ (fun acts => ?_), hrun, hended, hWU, hsame.weaken (fun y hy hlt' => ?_) (Nat.le_refl _) (Nat.le_refl _), _, hU, rfl, hfound⟩
  · rw [doInvoke_state]
    exact st2 _ hwalk
  · rcases List.mem_append.mp hy with h1 | h1
    · exact h1
    · exfalso
      have hb : y.base = a := by
        simp only [List.mem_cons, List.not_mem_nil, or_false] at h1
        rcases h1 with rfl | rfl | rfl | rfl | rfl <;> rfl
      rw [hb] at hlt'
      exact Nat.not_lt.mpr hnew hlt'
end NSE
end
section
section NSW
variable {p : Program} {l : Launch} {e : Env} {R : Room} {s : State} {m : MethodId} {args : Array Value} {below : List Frame} {meth : Method} {c : Code} {H : Heap} {locs : List Loc} {cells slots : Nat} {A : Nat → Prop} {G : va_G} {sa : Nat → Nat} {cc : ByteArray} {pc : Nat} {ls : Array Slot} {rest : List Value} {post : Option Value → va_W → Prop} {px : String → Prop}
theorem kx_throwN {ik is ic : Nat} {text : String} (hx : p.tables.exec = Jvm.exec) (hb : c.code = cc) (hlst : l.stackTraces = false) (hown : s.vm.findClass RX11 = some m.cls) (hU : ∀ w ∈ UU, w.before args s = true) (uk : Cond.classLink RX11 ik eNS ∈ UU) (ui : Cond.initialized eNS ∈ UU) (hs : (is, text) ∈ xstrs) (hat : ∀ w ∈ xaNSf RX11 ic, w ∈ UU ∨ w ∈ xws) (hZ : xU sa A s s.heap) (hS : va_S A s.heap H locs) (hls : ls.size = c.maxLocals)
    (d0 : decode cc pc = .ok (.new ik, 3)) (d3 : decode cc (pc + 3) = .ok (.dup, 1)) (d4 : decode cc (pc + 4) = .ok (.ldc is, 2)) (d6 : decode cc (pc + 6) = .ok (.invokespecial ic, 3)) (d9 : decode cc (pc + 9) = .ok (.athrow, 1)) (hnt : ∀ x ∈ c.exceptionTable.toList, False) (h1 : Nat.ble 6 R.frames = true) (h2 : Nat.ble ((rest.map fun v => v.category).sum + 82) R.locals = true) (h3 : Nat.ble (cells + 1) R.cells = true) (h4 : Nat.ble (slots + 6) R.slots = true) (hlocks : meth.locks = false) (hpx : px eNS) :
    W p l e R s m args below meth c H locs cells slots (vx_MQ below (kt_Q G post A) (kx_X px A) args s R.cells R.slots A) (F0 m pc ls rest) := by
  intro T hT X
  have htr : e.platform.stackTraces = false := (show e.platform.stackTraces = l.stackTraces by rw [X.admits.platform]).trans hlst
  have Y := vx_rebase X (R' := { frames := R.frames, locals := R.locals, cells := 1, slots := 6 }) (Nat.le_refl _) (Nat.le_refl _) (Nat.le_of_ble_eq_true h3) (Nat.le_of_ble_eq_true h4)
  obtain ⟨s', hA⟩ : ∃ z, z = (T.setVm s.vm).setFrames (.invoking m args :: below) := ⟨_, rfl⟩
  rw [← hA] at Y
  have hvm : s'.vm = s.vm := by rw [hA]; rfl
  have hhp : s'.heap = H := by rw [hA]; exact hT
  have hW0 : s.WarmedH s'.vm := by rw [hvm]; exact State.WarmedH.refl s
  have hot : ∀ w, w ∈ UU ∨ w ∈ xws → w.before args s' = true := fun w h => vx_ot_at hW0 hvm.symm (h.elim (fun h => by simp [vx_ot, uu_good h]) (fun h => by simp [vx_ot, (xws_ok w h).1])) (h.elim (fun h => hU w h) (fun h => va_Nw.use (xws_ok w h).1 (hZ.2.2.2.1 w h)))
  have hU' : vx_Zq Bundle.tN "UNASSIGNED_STACK" Bundle.steD A s' s'.heap := by rw [hhp]; exact vx_Zq.moved hW0.alike (hZ.1.kept hS.2.1)
  have hN' : vx_Zq Bundle.tN "SUPPRESSED_SENTINEL" Bundle.listD A s' s'.heap := by rw [hhp]; exact vx_Zq.moved hW0.alike (hZ.2.1.kept hS.2.1)
  have h : ∀ w ∈ xaNS RX11 ic, w.before args s' = true := vx_own (fun w hw => hot w (hat w hw)) (vx_isRefq hU'.1) (vx_isRefq hN'.1) hU'.2.word hN'.2.word
  have hown' : s'.vm.findClass RX11 = some m.cls := by rw [hvm]; exact hown
  have hins : (Cond.instantiable eNS 6).before args s' = true := h _ (by simp [xaNS])
  obtain ⟨vm₁, cX, kX, hfX, hkX, -, -, X₁, st1⟩ := Y.newCold hx (own := RX11) (C := eNS) (index := ik) (n := 6) hown' (hot _ (Or.inl uk)) hins (hot _ (Or.inl ui))
    (g := F0 m pc ls rest) rfl (by rw [hb]; exact d0) (Nat.le_refl _) (Nat.le_refl _)
  generalize hT1 : (T.setVm vm₁).pushCell { cls := cX, slots := kX.instanceTypes.map defaultValue, vm := .none } = T1 at X₁ st1
  have hcat : (Value.ref T.heap.size).category = 1 := rfl
  have hcellA : T1.heap[T.heap.size]? = some (freshCell cX kX) := by rw [← hT1]; exact State.heap_pushCell_size _ _
  have d3' : decode c.code (pc + 3) = .ok (.dup, 1) := by rw [hb]; exact d3
  have d4' : decode c.code (pc + 4) = .ok (.ldc is, 2) := by rw [hb]; exact d4
  have hstr' : vk_R RX11 is text (sa is) s' := vk_R.warm hW0 (hZ.2.2.2.2 _ hs)
  have h2' := Nat.le_of_ble_eq_true h2
  obtain ⟨U, hsteps, hrun, hend, hW, hsame, ce, hce, hcv, hcl0⟩ := lx_ctorNS X₁ hx htr (own := RX11) (ic := ic) hown' h (fun x hx => nomatch hx) hfX hkX hcellA (by rw [hhp, hT]; exact Nat.le_refl _) (msg := .ref (sa is)) rfl
    (g := { method := m, pc := pc + 6, locals := ls, stack := .ref (sa is) :: .ref T.heap.size :: .ref T.heap.size :: rest, locked := none }) rfl hls rfl rfl (rest := rest) rfl
    (by rw [hb]; exact d6) (by rw [hb]; exact d9) (fun x h => (hnt x h).elim) (Nat.le_of_ble_eq_true h1) (by simp only [List.map_cons, List.sum_cons, hcat]; have : 2 * ({ method := m, pc := pc + 6, locals := ls, stack := .ref (sa is) :: .ref T.heap.size :: .ref T.heap.size :: rest, locked := none } : JFrame).monitorRoom = 0 := rfl; omega) hlocks
  obtain ⟨f1, f2⟩ := vx_frame hsame
  rw [hhp] at f1 f2
  have hWs : s.WarmedH U.vm := State.WarmedH.trans hW0 hW
  have hcl : s.vm.findClass eNS = some ce.cls := by rw [hvm] at hcl0; exact hcl0
  have hall : s.sameButNew ({ U with vm := s.vm } : State) locs R.cells R.slots := by
    subst hA
    obtain ⟨e1, e2⟩ := hsame
    rw [State.setFrames_setFrames] at e1
    have h2 : (T.setVm s.vm).sameButNew ({ U with vm := s.vm } : State) [] (0 + 1) (0 + 6) := ⟨e1, e2⟩
    have h3' := X.same.trans h2
    rw [List.append_nil] at h3'
    exact h3'.mono (Nat.le_of_ble_eq_true h3) (Nat.le_of_ble_eq_true h4)
  refine ⟨U, ?_, .threw T.heap.size, hrun, hend, Or.inr ⟨T.heap.size, rfl, eNS, ce, locs, kx_thx hS hpx U hWs.alike f1 (fun q hq => f2 q hq (fun z hz => nomatch hz)), hce, hcv, hcl, hWs, hall, hS.2.2⟩⟩
  refine st1 _ ?_
  show Steps p.tables e below (T1.setTop { method := m, pc := pc + 3, locals := ls, stack := .ref T.heap.size :: rest, locked := none }) _
  jvm_step X₁.here [X₁.here.top, hx, d3', Value.category]
  exact X₁.ldcString hx (own := RX11) (text := text) (index := is) (a := sa is) hown' hstr'.1 hstr'.2
    (g := { method := m, pc := pc + 4, locals := ls, stack := .ref T.heap.size :: .ref T.heap.size :: rest, locked := none }) rfl d4' _ hsteps
theorem kx_throwNW {ik is ic : Nat} {text : String} (hx : p.tables.exec = Jvm.exec) (hb : c.code = cc) (hlst : l.stackTraces = false) (hown : s.vm.findClass RX11 = some m.cls) (hU : ∀ w ∈ UU, w.before args s = true) (uk : Cond.classLink RX11 ik eNS ∈ UU) (ui : Cond.initialized eNS ∈ UU) (hs : (is, text) ∈ xstrs) (hat : ∀ w ∈ xaNSf RX11 ic, w ∈ UU ∨ w ∈ xws) (hZ : xU sa A s s.heap) (hS : va_S A s.heap H locs) (hls : ls.size = c.maxLocals)
    (d0 : decode cc pc = .ok (.new ik, 3)) (d3 : decode cc (pc + 3) = .ok (.dup, 1)) (d4 : decode cc (pc + 4) = .ok (.ldc_w is, 3)) (d6 : decode cc (pc + 7) = .ok (.invokespecial ic, 3)) (d9 : decode cc (pc + 10) = .ok (.athrow, 1)) (hnt : ∀ x ∈ c.exceptionTable.toList, False) (h1 : Nat.ble 6 R.frames = true) (h2 : Nat.ble ((rest.map fun v => v.category).sum + 82) R.locals = true) (h3 : Nat.ble (cells + 1) R.cells = true) (h4 : Nat.ble (slots + 6) R.slots = true) (hlocks : meth.locks = false) (hpx : px eNS) :
    W p l e R s m args below meth c H locs cells slots (vx_MQ below (kt_Q G post A) (kx_X px A) args s R.cells R.slots A) (F0 m pc ls rest) := by
  intro T hT X
  have htr : e.platform.stackTraces = false := (show e.platform.stackTraces = l.stackTraces by rw [X.admits.platform]).trans hlst
  have Y := vx_rebase X (R' := { frames := R.frames, locals := R.locals, cells := 1, slots := 6 }) (Nat.le_refl _) (Nat.le_refl _) (Nat.le_of_ble_eq_true h3) (Nat.le_of_ble_eq_true h4)
  obtain ⟨s', hA⟩ : ∃ z, z = (T.setVm s.vm).setFrames (.invoking m args :: below) := ⟨_, rfl⟩
  rw [← hA] at Y
  have hvm : s'.vm = s.vm := by rw [hA]; rfl
  have hhp : s'.heap = H := by rw [hA]; exact hT
  have hW0 : s.WarmedH s'.vm := by rw [hvm]; exact State.WarmedH.refl s
  have hot : ∀ w, w ∈ UU ∨ w ∈ xws → w.before args s' = true := fun w h => vx_ot_at hW0 hvm.symm (h.elim (fun h => by simp [vx_ot, uu_good h]) (fun h => by simp [vx_ot, (xws_ok w h).1])) (h.elim (fun h => hU w h) (fun h => va_Nw.use (xws_ok w h).1 (hZ.2.2.2.1 w h)))
  have hU' : vx_Zq Bundle.tN "UNASSIGNED_STACK" Bundle.steD A s' s'.heap := by rw [hhp]; exact vx_Zq.moved hW0.alike (hZ.1.kept hS.2.1)
  have hN' : vx_Zq Bundle.tN "SUPPRESSED_SENTINEL" Bundle.listD A s' s'.heap := by rw [hhp]; exact vx_Zq.moved hW0.alike (hZ.2.1.kept hS.2.1)
  have h : ∀ w ∈ xaNS RX11 ic, w.before args s' = true := vx_own (fun w hw => hot w (hat w hw)) (vx_isRefq hU'.1) (vx_isRefq hN'.1) hU'.2.word hN'.2.word
  have hown' : s'.vm.findClass RX11 = some m.cls := by rw [hvm]; exact hown
  have hins : (Cond.instantiable eNS 6).before args s' = true := h _ (by simp [xaNS])
  obtain ⟨vm₁, cX, kX, hfX, hkX, -, -, X₁, st1⟩ := Y.newCold hx (own := RX11) (C := eNS) (index := ik) (n := 6) hown' (hot _ (Or.inl uk)) hins (hot _ (Or.inl ui))
    (g := F0 m pc ls rest) rfl (by rw [hb]; exact d0) (Nat.le_refl _) (Nat.le_refl _)
  generalize hT1 : (T.setVm vm₁).pushCell { cls := cX, slots := kX.instanceTypes.map defaultValue, vm := .none } = T1 at X₁ st1
  have hcat : (Value.ref T.heap.size).category = 1 := rfl
  have hcellA : T1.heap[T.heap.size]? = some (freshCell cX kX) := by rw [← hT1]; exact State.heap_pushCell_size _ _
  have d3' : decode c.code (pc + 3) = .ok (.dup, 1) := by rw [hb]; exact d3
  have d4' : decode c.code (pc + 4) = .ok (.ldc_w is, 3) := by rw [hb]; exact d4
  have hstr' : vk_R RX11 is text (sa is) s' := vk_R.warm hW0 (hZ.2.2.2.2 _ hs)
  have h2' := Nat.le_of_ble_eq_true h2
  obtain ⟨U, hsteps, hrun, hend, hW, hsame, ce, hce, hcv, hcl0⟩ := lx_ctorNS X₁ hx htr (own := RX11) (ic := ic) hown' h (fun x hx => nomatch hx) hfX hkX hcellA (by rw [hhp, hT]; exact Nat.le_refl _) (msg := .ref (sa is)) rfl
    (g := { method := m, pc := pc + 7, locals := ls, stack := .ref (sa is) :: .ref T.heap.size :: .ref T.heap.size :: rest, locked := none }) rfl hls rfl rfl (rest := rest) rfl
    (by rw [hb]; exact d6) (by rw [hb]; exact d9) (fun x h => (hnt x h).elim) (Nat.le_of_ble_eq_true h1) (by simp only [List.map_cons, List.sum_cons, hcat]; have : 2 * ({ method := m, pc := pc + 7, locals := ls, stack := .ref (sa is) :: .ref T.heap.size :: .ref T.heap.size :: rest, locked := none } : JFrame).monitorRoom = 0 := rfl; omega) hlocks
  obtain ⟨f1, f2⟩ := vx_frame hsame
  rw [hhp] at f1 f2
  have hWs : s.WarmedH U.vm := State.WarmedH.trans hW0 hW
  have hcl : s.vm.findClass eNS = some ce.cls := by rw [hvm] at hcl0; exact hcl0
  have hall : s.sameButNew ({ U with vm := s.vm } : State) locs R.cells R.slots := by
    subst hA
    obtain ⟨e1, e2⟩ := hsame
    rw [State.setFrames_setFrames] at e1
    have h2 : (T.setVm s.vm).sameButNew ({ U with vm := s.vm } : State) [] (0 + 1) (0 + 6) := ⟨e1, e2⟩
    have h3' := X.same.trans h2
    rw [List.append_nil] at h3'
    exact h3'.mono (Nat.le_of_ble_eq_true h3) (Nat.le_of_ble_eq_true h4)
  refine ⟨U, ?_, .threw T.heap.size, hrun, hend, Or.inr ⟨T.heap.size, rfl, eNS, ce, locs, kx_thx hS hpx U hWs.alike f1 (fun q hq => f2 q hq (fun z hz => nomatch hz)), hce, hcv, hcl, hWs, hall, hS.2.2⟩⟩
  refine st1 _ ?_
  show Steps p.tables e below (T1.setTop { method := m, pc := pc + 3, locals := ls, stack := .ref T.heap.size :: rest, locked := none }) _
  jvm_step X₁.here [X₁.here.top, hx, d3', Value.category]
  exact X₁.ldcStringW hx (own := RX11) (text := text) (index := is) (a := sa is) hown' hstr'.1 hstr'.2
    (g := { method := m, pc := pc + 4, locals := ls, stack := .ref T.heap.size :: .ref T.heap.size :: rest, locked := none }) rfl d4' _ hsteps
end NSW
end
section
theorem u_124 : Cond.initialized RX0 ∈ UU := uu_mem 124 (by decide +kernel) (by decide +kernel)
theorem u_125 : Cond.initialized RX4 ∈ UU := uu_mem 125 (by decide +kernel) (by decide +kernel)
theorem u_126 : Cond.initialized RX7 ∈ UU := uu_mem 126 (by decide +kernel) (by decide +kernel)
theorem u_127 : Cond.initialized RX3 ∈ UU := uu_mem 127 (by decide +kernel) (by decide +kernel)
theorem u_155 : Cond.code yX11_init cX11_init 1 none ∈ UU := uu_mem 155 (by decide +kernel) (by decide +kernel)
theorem u_156 : Cond.methodLink RX11 1 Lib.objectInit ∈ UU := uu_mem 156 (by decide +kernel) (by decide +kernel)
theorem u_157 : Cond.instanceMethod Lib.objectInit ∈ UU := uu_mem 157 (by decide +kernel) (by decide +kernel)
theorem u_158 : Cond.code Lib.objectInit ⟨#[0xb1]⟩ 1 none ∈ UU := uu_mem 158 (by decide +kernel) (by decide +kernel)
theorem u_159 : Cond.classLink RX11 20 RX0 ∈ UU := uu_mem 159 (by decide +kernel) (by decide +kernel)
theorem u_160 : Cond.instantiable RX0 3 ∈ UU := uu_mem 160 (by decide +kernel) (by decide +kernel)
theorem u_161 : Cond.classLink RX11 22 RX5 ∈ UU := uu_mem 161 (by decide +kernel) (by decide +kernel)
theorem u_163 : Cond.methodLink RX11 24 yX0_init ∈ UU := uu_mem 163 (by decide +kernel) (by decide +kernel)
theorem u_164 : Cond.instanceMethod yX0_init ∈ UU := uu_mem 164 (by decide +kernel) (by decide +kernel)
theorem u_165 : Cond.code yX0_init cX0_init 4 none ∈ UU := uu_mem 165 (by decide +kernel) (by decide +kernel)
theorem u_166 : Cond.methodLink RX0 3 Lib.objectInit ∈ UU := uu_mem 166 (by decide +kernel) (by decide +kernel)
theorem u_167 : Cond.fieldLink RX0 9 "PlaneProof$Book" "lines" "[LPlaneProof$Line;" ∈ UU := uu_mem 167 (by decide +kernel) (by decide +kernel)
theorem u_174 : Cond.fieldLink RX0 15 "PlaneProof$Book" "axioms" "I" ∈ UU := uu_mem 174 (by decide +kernel) (by decide +kernel)
theorem u_179 : Cond.fieldLink RX0 19 "PlaneProof$Book" "size" "I" ∈ UU := uu_mem 179 (by decide +kernel) (by decide +kernel)
theorem u_189 : Cond.arrayClass .byte ∈ UU := uu_mem 189 (by decide +kernel) (by decide +kernel)
theorem u_190 : Cond.classLink RX11 31 RX4 ∈ UU := uu_mem 190 (by decide +kernel) (by decide +kernel)
theorem u_191 : Cond.instantiable RX4 4 ∈ UU := uu_mem 191 (by decide +kernel) (by decide +kernel)
theorem u_192 : Cond.methodLink RX11 33 yX4_init ∈ UU := uu_mem 192 (by decide +kernel) (by decide +kernel)
theorem u_193 : Cond.instanceMethod yX4_init ∈ UU := uu_mem 193 (by decide +kernel) (by decide +kernel)
theorem u_194 : Cond.code yX4_init cX4_init 1 none ∈ UU := uu_mem 194 (by decide +kernel) (by decide +kernel)
theorem u_195 : Cond.methodLink RX4 3 Lib.objectInit ∈ UU := uu_mem 195 (by decide +kernel) (by decide +kernel)
theorem u_200 : Cond.fieldLink RX4 9 "PlaneProof$Graph" "sink" "I" ∈ UU := uu_mem 200 (by decide +kernel) (by decide +kernel)
theorem u_203 : Cond.fieldLink RX4 15 "PlaneProof$Graph" "behind" "[I" ∈ UU := uu_mem 203 (by decide +kernel) (by decide +kernel)
theorem u_214 : Cond.arrayClass .int ∈ UU := uu_mem 214 (by decide +kernel) (by decide +kernel)
theorem u_215 : Cond.classLink RX11 38 RX2 ∈ UU := uu_mem 215 (by decide +kernel) (by decide +kernel)
theorem u_217 : Cond.classLink RX11 47 RX7 ∈ UU := uu_mem 217 (by decide +kernel) (by decide +kernel)
theorem u_218 : Cond.instantiable RX7 3 ∈ UU := uu_mem 218 (by decide +kernel) (by decide +kernel)
theorem u_219 : Cond.methodLink RX11 49 yX7_init ∈ UU := uu_mem 219 (by decide +kernel) (by decide +kernel)
theorem u_220 : Cond.instanceMethod yX7_init ∈ UU := uu_mem 220 (by decide +kernel) (by decide +kernel)
theorem u_221 : Cond.code yX7_init cX7_init 1 none ∈ UU := uu_mem 221 (by decide +kernel) (by decide +kernel)
theorem u_222 : Cond.methodLink RX7 3 Lib.objectInit ∈ UU := uu_mem 222 (by decide +kernel) (by decide +kernel)
theorem u_223 : Cond.fieldLink RX7 9 "PlaneProof$Scribe" "text" "[B" ∈ UU := uu_mem 223 (by decide +kernel) (by decide +kernel)
theorem u_234 : Cond.classLink RX11 54 RX3 ∈ UU := uu_mem 234 (by decide +kernel) (by decide +kernel)
theorem u_235 : Cond.instantiable RX3 3 ∈ UU := uu_mem 235 (by decide +kernel) (by decide +kernel)
theorem u_236 : Cond.methodLink RX11 56 yX3_init ∈ UU := uu_mem 236 (by decide +kernel) (by decide +kernel)
theorem u_237 : Cond.instanceMethod yX3_init ∈ UU := uu_mem 237 (by decide +kernel) (by decide +kernel)
theorem u_238 : Cond.code yX3_init cX3_init 2 none ∈ UU := uu_mem 238 (by decide +kernel) (by decide +kernel)
theorem u_239 : Cond.methodLink RX3 3 Lib.objectInit ∈ UU := uu_mem 239 (by decide +kernel) (by decide +kernel)
theorem u_240 : Cond.fieldLink RX3 9 "PlaneProof$Composer" "scribe" "LPlaneProof$Scribe;" ∈ UU := uu_mem 240 (by decide +kernel) (by decide +kernel)
theorem u_241 : Cond.fieldLink RX3 15 "PlaneProof$Composer" "placed" "[I" ∈ UU := uu_mem 241 (by decide +kernel) (by decide +kernel)
theorem u_250 : Cond.fieldLink RX11 9 "PlaneProof" "tape" "[B" ∈ UU := uu_mem 250 (by decide +kernel) (by decide +kernel)
theorem u_251 : Cond.fieldLink RX11 13 "PlaneProof" "tapeSize" "I" ∈ UU := uu_mem 251 (by decide +kernel) (by decide +kernel)
theorem u_252 : Cond.fieldLink RX11 17 "PlaneProof" "latestFault" "I" ∈ UU := uu_mem 252 (by decide +kernel) (by decide +kernel)
theorem u_253 : Cond.fieldLink RX11 27 "PlaneProof" "book" "LPlaneProof$Book;" ∈ UU := uu_mem 253 (by decide +kernel) (by decide +kernel)
theorem u_254 : Cond.fieldLink RX11 34 "PlaneProof" "graph" "LPlaneProof$Graph;" ∈ UU := uu_mem 254 (by decide +kernel) (by decide +kernel)
theorem u_255 : Cond.fieldLink RX11 40 "PlaneProof" "closures" "[LPlaneProof$Closure;" ∈ UU := uu_mem 255 (by decide +kernel) (by decide +kernel)
theorem u_256 : Cond.fieldLink RX11 44 "PlaneProof" "coreBits" "I" ∈ UU := uu_mem 256 (by decide +kernel) (by decide +kernel)
theorem u_257 : Cond.fieldLink RX11 50 "PlaneProof" "scribe" "LPlaneProof$Scribe;" ∈ UU := uu_mem 257 (by decide +kernel) (by decide +kernel)
theorem u_258 : Cond.fieldLink RX11 59 "PlaneProof" "composer" "LPlaneProof$Composer;" ∈ UU := uu_mem 258 (by decide +kernel) (by decide +kernel)
theorem in_X0 : ∀ w ∈ u_ws RX0 TX0 3, w ∈ UU := uu_sub (by decide +kernel) (by decide +kernel)
theorem in_X1 : ∀ w ∈ u_ws RX1 TX1 5, w ∈ UU := uu_sub (by decide +kernel) (by decide +kernel)
theorem in_X2 : ∀ w ∈ u_ws RX2 TX2 7, w ∈ UU := uu_sub (by decide +kernel) (by decide +kernel)
theorem in_X3 : ∀ w ∈ u_ws RX3 TX3 3, w ∈ UU := uu_sub (by decide +kernel) (by decide +kernel)
theorem in_X4 : ∀ w ∈ u_ws RX4 TX4 4, w ∈ UU := uu_sub (by decide +kernel) (by decide +kernel)
theorem in_X5 : ∀ w ∈ u_ws RX5 TX5 13, w ∈ UU := uu_sub (by decide +kernel) (by decide +kernel)
theorem in_X6 : ∀ w ∈ u_ws RX6 TX6 4, w ∈ UU := uu_sub (by decide +kernel) (by decide +kernel)
theorem in_X7 : ∀ w ∈ u_ws RX7 TX7 3, w ∈ UU := uu_sub (by decide +kernel) (by decide +kernel)
theorem in_X8 : ∀ w ∈ u_ws RX8 TX8 6, w ∈ UU := uu_sub (by decide +kernel) (by decide +kernel)
theorem in_X10 : ∀ w ∈ u_ws RX10 TX10 3, w ∈ UU := uu_sub (by decide +kernel) (by decide +kernel)
theorem in_X11 : ∀ w ∈ u_ws RX11 TX11 9, w ∈ UU := uu_sub (by decide +kernel) (by decide +kernel)
theorem in_X12 : ∀ w ∈ u_ws RX12 TX12 38, w ∈ UU := uu_sub (by decide +kernel) (by decide +kernel)
theorem df_X0 : ∀ j, j < 3 → defaultValue (tyX0 j) = vp_V [.null, .int 0, .int 0] j := by decide +kernel
theorem df_X3 : ∀ j, j < 3 → defaultValue (tyX3 j) = vp_V [.null, .null, .int 0] j := by decide +kernel
theorem df_X4 : ∀ j, j < 4 → defaultValue (tyX4 j) = vp_V [.int 0, .int 0, .int 0, .null] j := by decide +kernel
theorem df_X7 : ∀ j, j < 3 → defaultValue (tyX7 j) = vp_V [.null, .int 0, .int 0] j := by decide +kernel
theorem m_X0_init : mI yX0_init cX0_init 4 3 := ⟨u_165, u_164, u_124, rfl, ⟨by decide, by decide, by decide +kernel⟩⟩
theorem m_X3_init : mI yX3_init cX3_init 2 1 := ⟨u_238, u_237, u_127, rfl, ⟨by decide, by decide, by decide +kernel⟩⟩
theorem m_X4_init : mI yX4_init cX4_init 1 0 := ⟨u_194, u_193, u_125, rfl, ⟨by decide, by decide, by decide +kernel⟩⟩
theorem m_X7_init : mI yX7_init cX7_init 1 0 := ⟨u_221, u_220, u_126, rfl, ⟨by decide, by decide, by decide +kernel⟩⟩
theorem dX0_init_0 : decode cX0_init 0 = .ok (.aload_n 0, 1) := by decide +kernel
theorem dX0_init_1 : decode cX0_init 1 = .ok (.invokespecial 3, 3) := by decide +kernel
theorem dX0_init_4 : decode cX0_init 4 = .ok (.aload_n 0, 1) := by decide +kernel
theorem dX0_init_5 : decode cX0_init 5 = .ok (.aload_n 1, 1) := by decide +kernel
theorem dX0_init_6 : decode cX0_init 6 = .ok (.putfield 9, 3) := by decide +kernel
theorem dX0_init_9 : decode cX0_init 9 = .ok (.aload_n 0, 1) := by decide +kernel
theorem dX0_init_10 : decode cX0_init 10 = .ok (.iload_n 2, 1) := by decide +kernel
theorem dX0_init_11 : decode cX0_init 11 = .ok (.putfield 15, 3) := by decide +kernel
theorem dX0_init_14 : decode cX0_init 14 = .ok (.aload_n 0, 1) := by decide +kernel
theorem dX0_init_15 : decode cX0_init 15 = .ok (.iload_n 3, 1) := by decide +kernel
theorem dX0_init_16 : decode cX0_init 16 = .ok (.putfield 19, 3) := by decide +kernel
theorem dX0_init_19 : decode cX0_init 19 = .ok (.return_, 1) := by decide +kernel
theorem dX11_init_0 : decode cX11_init 0 = .ok (.aload_n 0, 1) := by decide +kernel
theorem dX11_init_1 : decode cX11_init 1 = .ok (.invokespecial 1, 3) := by decide +kernel
theorem dX11_init_4 : decode cX11_init 4 = .ok (.aload_n 0, 1) := by decide +kernel
theorem dX11_init_5 : decode cX11_init 5 = .ok (.sipush 400, 3) := by decide +kernel
theorem dX11_init_8 : decode cX11_init 8 = .ok (.newarray .byte, 2) := by decide +kernel
theorem dX11_init_10 : decode cX11_init 10 = .ok (.putfield 9, 3) := by decide +kernel
theorem dX11_init_13 : decode cX11_init 13 = .ok (.aload_n 0, 1) := by decide +kernel
theorem dX11_init_14 : decode cX11_init 14 = .ok (.iconst 0, 1) := by decide +kernel
theorem dX11_init_15 : decode cX11_init 15 = .ok (.putfield 13, 3) := by decide +kernel
theorem dX11_init_18 : decode cX11_init 18 = .ok (.aload_n 0, 1) := by decide +kernel
theorem dX11_init_19 : decode cX11_init 19 = .ok (.iconst (-1), 1) := by decide +kernel
theorem dX11_init_20 : decode cX11_init 20 = .ok (.putfield 17, 3) := by decide +kernel
theorem dX11_init_23 : decode cX11_init 23 = .ok (.aload_n 0, 1) := by decide +kernel
theorem dX11_init_24 : decode cX11_init 24 = .ok (.new 20, 3) := by decide +kernel
theorem dX11_init_27 : decode cX11_init 27 = .ok (.dup, 1) := by decide +kernel
theorem dX11_init_28 : decode cX11_init 28 = .ok (.bipush 56, 2) := by decide +kernel
theorem dX11_init_30 : decode cX11_init 30 = .ok (.anewarray 22, 3) := by decide +kernel
theorem dX11_init_33 : decode cX11_init 33 = .ok (.iconst 0, 1) := by decide +kernel
theorem dX11_init_34 : decode cX11_init 34 = .ok (.iconst 0, 1) := by decide +kernel
theorem dX11_init_35 : decode cX11_init 35 = .ok (.invokespecial 24, 3) := by decide +kernel
theorem dX11_init_38 : decode cX11_init 38 = .ok (.putfield 27, 3) := by decide +kernel
theorem dX11_init_41 : decode cX11_init 41 = .ok (.aload_n 0, 1) := by decide +kernel
theorem dX11_init_42 : decode cX11_init 42 = .ok (.new 31, 3) := by decide +kernel
theorem dX11_init_45 : decode cX11_init 45 = .ok (.dup, 1) := by decide +kernel
theorem dX11_init_46 : decode cX11_init 46 = .ok (.invokespecial 33, 3) := by decide +kernel
theorem dX11_init_49 : decode cX11_init 49 = .ok (.putfield 34, 3) := by decide +kernel
theorem dX11_init_52 : decode cX11_init 52 = .ok (.aload_n 0, 1) := by decide +kernel
theorem dX11_init_53 : decode cX11_init 53 = .ok (.bipush 7, 2) := by decide +kernel
theorem dX11_init_55 : decode cX11_init 55 = .ok (.anewarray 38, 3) := by decide +kernel
theorem dX11_init_58 : decode cX11_init 58 = .ok (.putfield 40, 3) := by decide +kernel
theorem dX11_init_61 : decode cX11_init 61 = .ok (.aload_n 0, 1) := by decide +kernel
theorem dX11_init_62 : decode cX11_init 62 = .ok (.bipush (-2), 2) := by decide +kernel
theorem dX11_init_64 : decode cX11_init 64 = .ok (.putfield 44, 3) := by decide +kernel
theorem dX11_init_67 : decode cX11_init 67 = .ok (.aload_n 0, 1) := by decide +kernel
theorem dX11_init_68 : decode cX11_init 68 = .ok (.new 47, 3) := by decide +kernel
theorem dX11_init_71 : decode cX11_init 71 = .ok (.dup, 1) := by decide +kernel
theorem dX11_init_72 : decode cX11_init 72 = .ok (.invokespecial 49, 3) := by decide +kernel
theorem dX11_init_75 : decode cX11_init 75 = .ok (.putfield 50, 3) := by decide +kernel
theorem dX11_init_78 : decode cX11_init 78 = .ok (.aload_n 0, 1) := by decide +kernel
theorem dX11_init_79 : decode cX11_init 79 = .ok (.new 54, 3) := by decide +kernel
theorem dX11_init_82 : decode cX11_init 82 = .ok (.dup, 1) := by decide +kernel
theorem dX11_init_83 : decode cX11_init 83 = .ok (.aload_n 0, 1) := by decide +kernel
theorem dX11_init_84 : decode cX11_init 84 = .ok (.getfield 50, 3) := by decide +kernel
theorem dX11_init_87 : decode cX11_init 87 = .ok (.invokespecial 56, 3) := by decide +kernel
theorem dX11_init_90 : decode cX11_init 90 = .ok (.putfield 59, 3) := by decide +kernel
theorem dX11_init_93 : decode cX11_init 93 = .ok (.return_, 1) := by decide +kernel
theorem dX3_init_0 : decode cX3_init 0 = .ok (.aload_n 0, 1) := by decide +kernel
theorem dX3_init_1 : decode cX3_init 1 = .ok (.invokespecial 3, 3) := by decide +kernel
theorem dX3_init_4 : decode cX3_init 4 = .ok (.aload_n 0, 1) := by decide +kernel
theorem dX3_init_5 : decode cX3_init 5 = .ok (.aload_n 1, 1) := by decide +kernel
theorem dX3_init_6 : decode cX3_init 6 = .ok (.putfield 9, 3) := by decide +kernel
theorem dX3_init_9 : decode cX3_init 9 = .ok (.aload_n 0, 1) := by decide +kernel
theorem dX3_init_10 : decode cX3_init 10 = .ok (.bipush 56, 2) := by decide +kernel
theorem dX3_init_12 : decode cX3_init 12 = .ok (.newarray .int, 2) := by decide +kernel
theorem dX3_init_14 : decode cX3_init 14 = .ok (.putfield 15, 3) := by decide +kernel
theorem dX3_init_17 : decode cX3_init 17 = .ok (.return_, 1) := by decide +kernel
theorem dX4_init_0 : decode cX4_init 0 = .ok (.aload_n 0, 1) := by decide +kernel
theorem dX4_init_1 : decode cX4_init 1 = .ok (.invokespecial 3, 3) := by decide +kernel
theorem dX4_init_4 : decode cX4_init 4 = .ok (.aload_n 0, 1) := by decide +kernel
theorem dX4_init_5 : decode cX4_init 5 = .ok (.iconst (-1), 1) := by decide +kernel
theorem dX4_init_6 : decode cX4_init 6 = .ok (.putfield 9, 3) := by decide +kernel
theorem dX4_init_9 : decode cX4_init 9 = .ok (.aload_n 0, 1) := by decide +kernel
theorem dX4_init_10 : decode cX4_init 10 = .ok (.bipush 6, 2) := by decide +kernel
theorem dX4_init_12 : decode cX4_init 12 = .ok (.newarray .int, 2) := by decide +kernel
theorem dX4_init_14 : decode cX4_init 14 = .ok (.putfield 15, 3) := by decide +kernel
theorem dX4_init_17 : decode cX4_init 17 = .ok (.return_, 1) := by decide +kernel
theorem dX7_init_0 : decode cX7_init 0 = .ok (.aload_n 0, 1) := by decide +kernel
theorem dX7_init_1 : decode cX7_init 1 = .ok (.invokespecial 3, 3) := by decide +kernel
theorem dX7_init_4 : decode cX7_init 4 = .ok (.aload_n 0, 1) := by decide +kernel
theorem dX7_init_5 : decode cX7_init 5 = .ok (.sipush 400, 3) := by decide +kernel
theorem dX7_init_8 : decode cX7_init 8 = .ok (.newarray .byte, 2) := by decide +kernel
theorem dX7_init_10 : decode cX7_init 10 = .ok (.putfield 9, 3) := by decide +kernel
theorem dX7_init_13 : decode cX7_init 13 = .ok (.return_, 1) := by decide +kernel
end
section
theorem lx_le {a b : Int32} (h : ¬ a < b) : b ≤ a := Int32.not_lt.mp h
theorem lx_nle {a b : Int32} (h : a < b) : ¬ b ≤ a := Int32.not_le.mpr h
theorem lx_nlt {a b : Int32} (h : a ≤ b) : ¬ b < a := Int32.not_lt.mpr h
theorem lx_lt {a b : Int32} (h : ¬ a ≤ b) : b < a := Int32.not_le.mp h
theorem lx_tout {x : Int32} {n : Nat} (h : ∀ k, k ≤ n → ¬ x = nI k) (hn : n < 2 ^ 31) : x.toInt < (0 : Int) ∨ (n : Int) < x.toInt := by
  rcases Int.lt_or_le x.toInt 0 with q | q
  · exact Or.inl q
  · rcases Int.lt_or_le (n : Int) x.toInt with r | r
    · exact Or.inr r
    · exfalso
      have e : x = nI x.toInt.toNat := by
        apply Int32.toInt_inj.mp
        rw [nI_toInt (by omega)]
        omega
      exact h x.toInt.toNat (by omega) e
/-- what the calls answer on a new object -/
def sp_end (n : Int32) : Int32 := if n < 0 then 0 else if 0 < n then 0 else 1
def okSets (a b : Int32) : Prop := ((a ||| b) &&& (-64)) = 0 ∧ (a &&& b) = 0
def sp_node (k : Int32) : Int32 := if k = 2 then (-1) else 0
def okNode (k : Int32) : Prop := k = 0 ∨ k = 1 ∨ k = 2
def okWidth (k : Int32) : Prop := ¬ k < 0 ∧ ¬ 6 < k
def okVar (k : Int32) : Prop := ¬ k < 0 ∧ k < 6
def okWhat (k : Int32) : Prop := ¬ k < 0 ∧ ¬ 2 < k
def sp_units (a b k : Int32) : Int32 := if k = 0 then a else if k = 1 then b else 0
def sp_within (k : Int32) : Int32 := if k = 0 then 0 else if k = 1 then 0 else (-1)
def sp_count (k : Int32) : Int32 := if k = 0 ∨ k = 1 ∨ k = 2 ∨ k = 3 ∨ k = 4 ∨ k = 5 ∨ k = 6 ∨ k = 7 ∨ k = 8 ∨ k = 10 then 0 else if k = 9 then 64 else (-1)
def sp_model (k : Int32) : Int32 := if k = (-1) then 64 else if k < 0 then (-1) else if k < 64 then k else (-1)
end
section
set_option maxHeartbeats 4000000 in
set_option maxRecDepth 100000 in
theorem c_X0_init (l : Launch) (G : va_G) (cy : Nat → ClassId) (h0 : Nat) (a1 : Nat) (p1 : Int32) (p2 : Int32) : Kt l G cy yX0_init cX0_init 4 none ({ frames := 10, cells := 0, slots := 0, locals := 200 } : Room) [.ref h0, .ref a1, .int p1, .int p2] [(h0, .inr (0, [.null, .int 0, .int 0]))] (fun (v : Option Value) (w1 : va_W) => v = none ∧ w1 = [(h0, .inr (0, [.ref a1, .int p1, .int p2]))]) := by
  refine kt_ofW (by decide) (Nat.le_of_ble_eq_true rfl) ?_
  intro p e s m below meth c A ls hx hb hr hU hown hlocks hml hin hP hK hD hA hS hl
  have hown : s.vm.findClass RX0 = some m.cls := hown
  have hl : lv_has ls 4 [(0, .ref h0), (1, .ref a1), (2, .int p1), (3, .int p2)] := hl
  refine lv_aload_n hx hb dX0_init_0 rfl (lv_at hl 0 rfl) ?_
  refine W.objInit hx hb hown (hU _ u_166) (hU _ u_157) (hU _ u_158) rfl (by rw [hml]; exact hl.1) rfl dX0_init_1 (Nat.le_of_ble_eq_true rfl) (Nat.le_of_ble_eq_true rfl) ?_
  refine W.eq (g2 := F0 m 4 ls []) rfl ?_
  refine lv_aload_n hx hb dX0_init_4 rfl (lv_at hl 0 rfl) ?_
  refine lv_aload_n hx hb dX0_init_5 rfl (lv_at hl 1 rfl) ?_
  refine va_putF (D := G) (ci := 0) (v := .ref a1) (ty := .array (.object "PlaneProof$Line")) (C := RX0) (T := TX0) (N := 3) hx hb hU in_X0 tyX0 tyX0_ok nmX0 hown hK.1 hP hD hS 0 rfl rfl 0 (by decide) (hU _ u_167) (fun _ h9 => h9) rfl hin rfl (by decide +kernel) rfl rfl (Nat.le_of_ble_eq_true rfl) dX0_init_6 (fun H locs hP hD hS => ?_)
  have hP : va_P G vwCl [(h0, .inr (0, [.ref a1, .int 0, .int 0]))] H := hP
  have hD : va_D A [(h0, .inr (0, [.ref a1, .int 0, .int 0]))] := hD
  refine lv_aload_n hx hb dX0_init_9 rfl (lv_at hl 0 rfl) ?_
  refine lv_iload_n hx hb dX0_init_10 rfl (lv_at hl 2 rfl) ?_
  refine va_putF (D := G) (ci := 0) (v := .int p1) (ty := .int) (C := RX0) (T := TX0) (N := 3) hx hb hU in_X0 tyX0 tyX0_ok nmX0 hown hK.1 hP hD hS 0 rfl rfl 1 (by decide) (hU _ u_174) (fun _ h9 => h9) rfl hin rfl (by decide +kernel) rfl rfl (Nat.le_of_ble_eq_true rfl) dX0_init_11 (fun H locs hP hD hS => ?_)
  have hP : va_P G vwCl [(h0, .inr (0, [.ref a1, .int p1, .int 0]))] H := hP
  have hD : va_D A [(h0, .inr (0, [.ref a1, .int p1, .int 0]))] := hD
  refine lv_aload_n hx hb dX0_init_14 rfl (lv_at hl 0 rfl) ?_
  refine lv_iload_n hx hb dX0_init_15 rfl (lv_at hl 3 rfl) ?_
  refine va_putF (D := G) (ci := 0) (v := .int p2) (ty := .int) (C := RX0) (T := TX0) (N := 3) hx hb hU in_X0 tyX0 tyX0_ok nmX0 hown hK.1 hP hD hS 0 rfl rfl 2 (by decide) (hU _ u_179) (fun _ h9 => h9) rfl hin rfl (by decide +kernel) rfl rfl (Nat.le_of_ble_eq_true rfl) dX0_init_16 (fun H locs hP hD hS => ?_)
  have hP : va_P G vwCl [(h0, .inr (0, [.ref a1, .int p1, .int p2]))] H := hP
  have hD : va_D A [(h0, .inr (0, [.ref a1, .int p1, .int p2]))] := hD
  exact kt_vret hx hb hr hlocks hP hD hS dX0_init_19 [0] rfl rfl rfl rfl ⟨rfl, rfl⟩
set_option maxHeartbeats 4000000 in
set_option maxRecDepth 100000 in
theorem c_X4_init (l : Launch) (G : va_G) (cy : Nat → ClassId) (h0 : Nat) : Kt l G cy yX4_init cX4_init 1 none ({ frames := 10, cells := 1, slots := 6, locals := 200 } : Room) [.ref h0] [(h0, .inr (4, [.int 0, .int 0, .int 0, .null]))] (fun (v : Option Value) (w1 : va_W) => ∃ (b : Nat), v = none ∧ w1 = [(h0, .inr (4, [.int 0, .int 0, .int (-1), .ref b])), (b, .inl (cy 1, 6, .inl (fun _ => 0)))]) := by
  refine kt_ofW (by decide) (Nat.le_of_ble_eq_true rfl) ?_
  intro p e s m below meth c A ls hx hb hr hU hown hlocks hml hin hP hK hD hA hS hl
  have hown : s.vm.findClass RX4 = some m.cls := hown
  have hl : lv_has ls 1 [(0, .ref h0)] := hl
  refine lv_aload_n hx hb dX4_init_0 rfl (lv_at hl 0 rfl) ?_
  refine W.objInit hx hb hown (hU _ u_195) (hU _ u_157) (hU _ u_158) rfl (by rw [hml]; exact hl.1) rfl dX4_init_1 (Nat.le_of_ble_eq_true rfl) (Nat.le_of_ble_eq_true rfl) ?_
  refine W.eq (g2 := F0 m 4 ls []) rfl ?_
  refine lv_aload_n hx hb dX4_init_4 rfl (lv_at hl 0 rfl) ?_
  refine lv_iconst (v := (-1)) hx hb dX4_init_5 (by decide) ?_
  refine va_put (D := G) (ci := 4) (v := .int (-1)) (ty := .int) (C := RX4) (T := TX4) (N := 4) hx hb hU in_X4 tyX4 tyX4_ok nmX4 hown hK.1 hP hD hS 0 rfl rfl 2 (by decide) (hU _ u_200) (fun _ h9 => h9) rfl (by decide +kernel) rfl rfl (Nat.le_of_ble_eq_true rfl) dX4_init_6 (fun H locs hP hD hS => ?_)
  have hP : va_P G vwCl [(h0, .inr (4, [.int 0, .int 0, .int (-1), .null]))] H := hP
  have hD : va_D A [(h0, .inr (4, [.int 0, .int 0, .int (-1), .null]))] := hD
  refine lv_aload_n hx hb dX4_init_9 rfl (lv_at hl 0 rfl) ?_
  refine lv_bipush (v := 6) hx hb dX4_init_10 (by decide) ?_
  refine lx_newa (atype := .int) (ty := .int) (N' := 6) (a0 := (6, .inl (fun _ => 0))) hx hb hU u_214 rfl hK hP hD hS hA 1 rfl (fun _ h9 => h9) (fun _ => rfl) (by decide) (by decide +kernel) (Nat.le_of_ble_eq_true rfl) (Nat.le_of_ble_eq_true rfl) (Nat.le_of_ble_eq_true rfl) dX4_init_12 (fun q_1 H hP hD hS => ?_)
  have hP : va_P G vwCl [(h0, .inr (4, [.int 0, .int 0, .int (-1), .null])), (q_1, .inl (cy 1, 6, .inl (fun _ => 0)))] H := hP
  have hD : va_D A [(h0, .inr (4, [.int 0, .int 0, .int (-1), .null])), (q_1, .inl (cy 1, 6, .inl (fun _ => 0)))] := hD
  refine W.widen (k := 1) (n := 6) (Nat.le_of_ble_eq_true rfl) (Nat.le_of_ble_eq_true rfl) ?_
  refine va_putF (D := G) (ci := 4) (v := .ref q_1) (ty := .array (.int)) (C := RX4) (T := TX4) (N := 4) hx hb hU in_X4 tyX4 tyX4_ok nmX4 hown hK.1 hP hD hS 0 rfl rfl 3 (by decide) (hU _ u_203) (fun _ h9 => h9) rfl hin rfl (by decide +kernel) rfl rfl (Nat.le_of_ble_eq_true rfl) dX4_init_14 (fun H locs hP hD hS => ?_)
  have hP : va_P G vwCl [(h0, .inr (4, [.int 0, .int 0, .int (-1), .ref q_1])), (q_1, .inl (cy 1, 6, .inl (fun _ => 0)))] H := hP
  have hD : va_D A [(h0, .inr (4, [.int 0, .int 0, .int (-1), .ref q_1])), (q_1, .inl (cy 1, 6, .inl (fun _ => 0)))] := hD
  exact kt_vret hx hb hr hlocks hP hD hS dX4_init_17 [0, 1] rfl rfl rfl rfl ⟨q_1, rfl, rfl⟩
set_option maxHeartbeats 4000000 in
set_option maxRecDepth 100000 in
theorem c_X7_init (l : Launch) (G : va_G) (cy : Nat → ClassId) (h0 : Nat) : Kt l G cy yX7_init cX7_init 1 none ({ frames := 10, cells := 1, slots := 400, locals := 200 } : Room) [.ref h0] [(h0, .inr (7, [.null, .int 0, .int 0]))] (fun (v : Option Value) (w1 : va_W) => ∃ (b : Nat), v = none ∧ w1 = [(h0, .inr (7, [.ref b, .int 0, .int 0])), (b, .inl (cy 0, 400, .inl (fun _ => 0)))]) := by
  refine kt_ofW (by decide) (Nat.le_of_ble_eq_true rfl) ?_
  intro p e s m below meth c A ls hx hb hr hU hown hlocks hml hin hP hK hD hA hS hl
  have hown : s.vm.findClass RX7 = some m.cls := hown
  have hl : lv_has ls 1 [(0, .ref h0)] := hl
  refine lv_aload_n hx hb dX7_init_0 rfl (lv_at hl 0 rfl) ?_
  refine W.objInit hx hb hown (hU _ u_222) (hU _ u_157) (hU _ u_158) rfl (by rw [hml]; exact hl.1) rfl dX7_init_1 (Nat.le_of_ble_eq_true rfl) (Nat.le_of_ble_eq_true rfl) ?_
  refine W.eq (g2 := F0 m 4 ls []) rfl ?_
  refine lv_aload_n hx hb dX7_init_4 rfl (lv_at hl 0 rfl) ?_
  refine lv_sipush (v := 400) hx hb dX7_init_5 (by decide) ?_
  refine lx_newa (atype := .byte) (ty := .byte) (N' := 400) (a0 := (400, .inl (fun _ => 0))) hx hb hU u_189 rfl hK hP hD hS hA 0 rfl (fun _ h9 => h9) (fun _ => rfl) (by decide) (by decide +kernel) (Nat.le_of_ble_eq_true rfl) (Nat.le_of_ble_eq_true rfl) (Nat.le_of_ble_eq_true rfl) dX7_init_8 (fun q_1 H hP hD hS => ?_)
  have hP : va_P G vwCl [(h0, .inr (7, [.null, .int 0, .int 0])), (q_1, .inl (cy 0, 400, .inl (fun _ => 0)))] H := hP
  have hD : va_D A [(h0, .inr (7, [.null, .int 0, .int 0])), (q_1, .inl (cy 0, 400, .inl (fun _ => 0)))] := hD
  refine W.widen (k := 1) (n := 400) (Nat.le_of_ble_eq_true rfl) (Nat.le_of_ble_eq_true rfl) ?_
  refine va_put (D := G) (ci := 7) (v := .ref q_1) (ty := .array (.byte)) (C := RX7) (T := TX7) (N := 3) hx hb hU in_X7 tyX7 tyX7_ok nmX7 hown hK.1 hP hD hS 0 rfl rfl 0 (by decide) (hU _ u_223) (fun _ h9 => h9) rfl (by decide +kernel) rfl rfl (Nat.le_of_ble_eq_true rfl) dX7_init_10 (fun H locs hP hD hS => ?_)
  have hP : va_P G vwCl [(h0, .inr (7, [.ref q_1, .int 0, .int 0])), (q_1, .inl (cy 0, 400, .inl (fun _ => 0)))] H := hP
  have hD : va_D A [(h0, .inr (7, [.ref q_1, .int 0, .int 0])), (q_1, .inl (cy 0, 400, .inl (fun _ => 0)))] := hD
  exact kt_vret hx hb hr hlocks hP hD hS dX7_init_13 [0, 1] rfl rfl rfl rfl ⟨q_1, rfl, rfl⟩
set_option maxHeartbeats 4000000 in
set_option maxRecDepth 100000 in
theorem c_X3_init (l : Launch) (G : va_G) (cy : Nat → ClassId) (h0 : Nat) (a1 : Nat) : Kt l G cy yX3_init cX3_init 2 none ({ frames := 10, cells := 1, slots := 56, locals := 200 } : Room) [.ref h0, .ref a1] [(h0, .inr (3, [.null, .null, .int 0]))] (fun (v : Option Value) (w1 : va_W) => ∃ (b : Nat), v = none ∧ w1 = [(h0, .inr (3, [.ref a1, .ref b, .int 0])), (b, .inl (cy 1, 56, .inl (fun _ => 0)))]) := by
  refine kt_ofW (by decide) (Nat.le_of_ble_eq_true rfl) ?_
  intro p e s m below meth c A ls hx hb hr hU hown hlocks hml hin hP hK hD hA hS hl
  have hown : s.vm.findClass RX3 = some m.cls := hown
  have hl : lv_has ls 2 [(0, .ref h0), (1, .ref a1)] := hl
  refine lv_aload_n hx hb dX3_init_0 rfl (lv_at hl 0 rfl) ?_
  refine W.objInit hx hb hown (hU _ u_239) (hU _ u_157) (hU _ u_158) rfl (by rw [hml]; exact hl.1) rfl dX3_init_1 (Nat.le_of_ble_eq_true rfl) (Nat.le_of_ble_eq_true rfl) ?_
  refine W.eq (g2 := F0 m 4 ls []) rfl ?_
  refine lv_aload_n hx hb dX3_init_4 rfl (lv_at hl 0 rfl) ?_
  refine lv_aload_n hx hb dX3_init_5 rfl (lv_at hl 1 rfl) ?_
  refine va_putF (D := G) (ci := 3) (v := .ref a1) (ty := .object "PlaneProof$Scribe") (C := RX3) (T := TX3) (N := 3) hx hb hU in_X3 tyX3 tyX3_ok nmX3 hown hK.1 hP hD hS 0 rfl rfl 0 (by decide) (hU _ u_240) (fun _ h9 => h9) rfl hin rfl (by decide +kernel) rfl rfl (Nat.le_of_ble_eq_true rfl) dX3_init_6 (fun H locs hP hD hS => ?_)
  have hP : va_P G vwCl [(h0, .inr (3, [.ref a1, .null, .int 0]))] H := hP
  have hD : va_D A [(h0, .inr (3, [.ref a1, .null, .int 0]))] := hD
  refine lv_aload_n hx hb dX3_init_9 rfl (lv_at hl 0 rfl) ?_
  refine lv_bipush (v := 56) hx hb dX3_init_10 (by decide) ?_
  refine lx_newa (atype := .int) (ty := .int) (N' := 56) (a0 := (56, .inl (fun _ => 0))) hx hb hU u_214 rfl hK hP hD hS hA 1 rfl (fun _ h9 => h9) (fun _ => rfl) (by decide) (by decide +kernel) (Nat.le_of_ble_eq_true rfl) (Nat.le_of_ble_eq_true rfl) (Nat.le_of_ble_eq_true rfl) dX3_init_12 (fun q_1 H hP hD hS => ?_)
  have hP : va_P G vwCl [(h0, .inr (3, [.ref a1, .null, .int 0])), (q_1, .inl (cy 1, 56, .inl (fun _ => 0)))] H := hP
  have hD : va_D A [(h0, .inr (3, [.ref a1, .null, .int 0])), (q_1, .inl (cy 1, 56, .inl (fun _ => 0)))] := hD
  refine W.widen (k := 1) (n := 56) (Nat.le_of_ble_eq_true rfl) (Nat.le_of_ble_eq_true rfl) ?_
  refine va_putF (D := G) (ci := 3) (v := .ref q_1) (ty := .array (.int)) (C := RX3) (T := TX3) (N := 3) hx hb hU in_X3 tyX3 tyX3_ok nmX3 hown hK.1 hP hD hS 0 rfl rfl 1 (by decide) (hU _ u_241) (fun _ h9 => h9) rfl hin rfl (by decide +kernel) rfl rfl (Nat.le_of_ble_eq_true rfl) dX3_init_14 (fun H locs hP hD hS => ?_)
  have hP : va_P G vwCl [(h0, .inr (3, [.ref a1, .ref q_1, .int 0])), (q_1, .inl (cy 1, 56, .inl (fun _ => 0)))] H := hP
  have hD : va_D A [(h0, .inr (3, [.ref a1, .ref q_1, .int 0])), (q_1, .inl (cy 1, 56, .inl (fun _ => 0)))] := hD
  exact kt_vret hx hb hr hlocks hP hD hS dX3_init_17 [0, 1] rfl rfl rfl rfl ⟨q_1, rfl, rfl⟩
set_option maxHeartbeats 4000000 in
set_option maxRecDepth 100000 in
theorem c_X11_init (l : Launch) (G : va_G) (cy : Nat → ClassId) (h0 : Nat) : Kt l G cy yX11_init cX11_init 1 none ({ frames := 12, cells := 10, slots := 938, locals := 300 } : Room) [.ref h0] [(h0, .inr (10, [.null, .int 0, .int 0, .null, .null, .null, .int 0, .null, .null]))] (fun (v : Option Value) (w1 : va_W) => ∃ (r1 : Nat), ∃ (r2 : Nat), ∃ (r4 : Nat), ∃ (r6 : Nat), ∃ (r7 : Nat), ∃ (r9 : Nat), ∃ (r3 : Nat), ∃ (r5 : Nat), ∃ (r8 : Nat), ∃ (r10 : Nat), v = none ∧ w1 = [(h0, .inr (10, [.ref r1, .int 0, .int (-1), .ref r2, .ref r4, .ref r6, .int (-2), .ref r7, .ref r9])), (r1, .inl (cy 0, 400, .inl (fun _ => 0))), (r2, .inr (0, [.ref r3, .int 0, .int 0])), (r3, .inl (cy 4, 56, .inr (.inr (.inr (.inr (fun _ => none)))))), (r4, .inr (4, [.int 0, .int 0, .int (-1), .ref r5])), (r5, .inl (cy 1, 6, .inl (fun _ => 0))), (r6, .inl (cy 5, 7, .inr (.inr (.inr (.inr (fun _ => none)))))), (r7, .inr (7, [.ref r8, .int 0, .int 0])), (r8, .inl (cy 0, 400, .inl (fun _ => 0))), (r9, .inr (3, [.ref r7, .ref r10, .int 0])), (r10, .inl (cy 1, 56, .inl (fun _ => 0)))]) := by
  refine kt_ofW (by decide) (Nat.le_of_ble_eq_true rfl) ?_
  intro p e s m below meth c A ls hx hb hr hU hown hlocks hml hin hP hK hD hA hS hl
  have hown : s.vm.findClass RX11 = some m.cls := hown
  have hl : lv_has ls 1 [(0, .ref h0)] := hl
  refine lv_aload_n hx hb dX11_init_0 rfl (lv_at hl 0 rfl) ?_
  refine W.objInit hx hb hown (hU _ u_156) (hU _ u_157) (hU _ u_158) rfl (by rw [hml]; exact hl.1) rfl dX11_init_1 (Nat.le_of_ble_eq_true rfl) (Nat.le_of_ble_eq_true rfl) ?_
  refine W.eq (g2 := F0 m 4 ls []) rfl ?_
  refine lv_aload_n hx hb dX11_init_4 rfl (lv_at hl 0 rfl) ?_
  refine lv_sipush (v := 400) hx hb dX11_init_5 (by decide) ?_
  refine lx_newa (atype := .byte) (ty := .byte) (N' := 400) (a0 := (400, .inl (fun _ => 0))) hx hb hU u_189 rfl hK hP hD hS hA 0 rfl (fun _ h9 => h9) (fun _ => rfl) (by decide) (by decide +kernel) (Nat.le_of_ble_eq_true rfl) (Nat.le_of_ble_eq_true rfl) (Nat.le_of_ble_eq_true rfl) dX11_init_8 (fun q_1 H hP hD hS => ?_)
  have hP : va_P G vwCl [(h0, .inr (10, [.null, .int 0, .int 0, .null, .null, .null, .int 0, .null, .null])), (q_1, .inl (cy 0, 400, .inl (fun _ => 0)))] H := hP
  have hD : va_D A [(h0, .inr (10, [.null, .int 0, .int 0, .null, .null, .null, .int 0, .null, .null])), (q_1, .inl (cy 0, 400, .inl (fun _ => 0)))] := hD
  refine W.widen (k := 1) (n := 400) (Nat.le_of_ble_eq_true rfl) (Nat.le_of_ble_eq_true rfl) ?_
  refine va_putF (D := G) (ci := 10) (v := .ref q_1) (ty := .array (.byte)) (C := RX11) (T := TX11) (N := 9) hx hb hU in_X11 tyX11 tyX11_ok nmX11 hown hK.1 hP hD hS 0 rfl rfl 0 (by decide) (hU _ u_250) (fun _ h9 => h9) rfl hin rfl (by decide +kernel) rfl rfl (Nat.le_of_ble_eq_true rfl) dX11_init_10 (fun H locs hP hD hS => ?_)
  have hP : va_P G vwCl [(h0, .inr (10, [.ref q_1, .int 0, .int 0, .null, .null, .null, .int 0, .null, .null])), (q_1, .inl (cy 0, 400, .inl (fun _ => 0)))] H := hP
  have hD : va_D A [(h0, .inr (10, [.ref q_1, .int 0, .int 0, .null, .null, .null, .int 0, .null, .null])), (q_1, .inl (cy 0, 400, .inl (fun _ => 0)))] := hD
  refine lv_aload_n hx hb dX11_init_13 rfl (lv_at hl 0 rfl) ?_
  refine lv_iconst (v := 0) hx hb dX11_init_14 (by decide) ?_
  refine va_put (D := G) (ci := 10) (v := .int 0) (ty := .int) (C := RX11) (T := TX11) (N := 9) hx hb hU in_X11 tyX11 tyX11_ok nmX11 hown hK.1 hP hD hS 0 rfl rfl 1 (by decide) (hU _ u_251) (fun _ h9 => h9) rfl (by decide +kernel) rfl rfl (Nat.le_of_ble_eq_true rfl) dX11_init_15 (fun H locs hP hD hS => ?_)
  have hP : va_P G vwCl [(h0, .inr (10, [.ref q_1, .int 0, .int 0, .null, .null, .null, .int 0, .null, .null])), (q_1, .inl (cy 0, 400, .inl (fun _ => 0)))] H := hP
  have hD : va_D A [(h0, .inr (10, [.ref q_1, .int 0, .int 0, .null, .null, .null, .int 0, .null, .null])), (q_1, .inl (cy 0, 400, .inl (fun _ => 0)))] := hD
  refine lv_aload_n hx hb dX11_init_18 rfl (lv_at hl 0 rfl) ?_
  refine lv_iconst (v := (-1)) hx hb dX11_init_19 (by decide) ?_
  refine va_put (D := G) (ci := 10) (v := .int (-1)) (ty := .int) (C := RX11) (T := TX11) (N := 9) hx hb hU in_X11 tyX11 tyX11_ok nmX11 hown hK.1 hP hD hS 0 rfl rfl 2 (by decide) (hU _ u_252) (fun _ h9 => h9) rfl (by decide +kernel) rfl rfl (Nat.le_of_ble_eq_true rfl) dX11_init_20 (fun H locs hP hD hS => ?_)
  have hP : va_P G vwCl [(h0, .inr (10, [.ref q_1, .int 0, .int (-1), .null, .null, .null, .int 0, .null, .null])), (q_1, .inl (cy 0, 400, .inl (fun _ => 0)))] H := hP
  have hD : va_D A [(h0, .inr (10, [.ref q_1, .int 0, .int (-1), .null, .null, .null, .int 0, .null, .null])), (q_1, .inl (cy 0, 400, .inl (fun _ => 0)))] := hD
  refine lv_aload_n hx hb dX11_init_23 rfl (lv_at hl 0 rfl) ?_
  refine va_new (ci := 0) (fs := [.null, .int 0, .int 0]) (C := RX0) (T := TX0) (N := 3) hx hb hU in_X0 tyX0 tyX0_ok hown (hU _ u_159) (hU _ u_160) (hU _ u_124) hK.1 hP hD hS hA rfl df_X0 (Nat.le_of_ble_eq_true rfl) (Nat.le_of_ble_eq_true rfl) dX11_init_24 (fun q_2 H hP hD hS => ?_)
  have hP : va_P G vwCl [(h0, .inr (10, [.ref q_1, .int 0, .int (-1), .null, .null, .null, .int 0, .null, .null])), (q_1, .inl (cy 0, 400, .inl (fun _ => 0))), (q_2, .inr (0, [.null, .int 0, .int 0]))] H := hP
  have hD : va_D A [(h0, .inr (10, [.ref q_1, .int 0, .int (-1), .null, .null, .null, .int 0, .null, .null])), (q_1, .inl (cy 0, 400, .inl (fun _ => 0))), (q_2, .inr (0, [.null, .int 0, .int 0]))] := hD
  refine W.widen (k := 2) (n := 403) (Nat.le_of_ble_eq_true rfl) (Nat.le_of_ble_eq_true rfl) ?_
  refine lv_dup hx hb dX11_init_27 rfl ?_
  refine lv_bipush (v := 56) hx hb dX11_init_28 (by decide) ?_
  refine lx_newq (C := RX5) (N' := 56) hx hb hown hU u_161 hK.2.1 hK hP hD hS hA 4 rfl (by decide) (by decide +kernel) (Nat.le_of_ble_eq_true rfl) (Nat.le_of_ble_eq_true rfl) (Nat.le_of_ble_eq_true rfl) dX11_init_30 (fun q_3 H hP hD hS => ?_)
  have hP : va_P G vwCl [(h0, .inr (10, [.ref q_1, .int 0, .int (-1), .null, .null, .null, .int 0, .null, .null])), (q_1, .inl (cy 0, 400, .inl (fun _ => 0))), (q_2, .inr (0, [.null, .int 0, .int 0])), (q_3, .inl (cy 4, 56, .inr (.inr (.inr (.inr (fun _ => none))))))] H := hP
  have hD : va_D A [(h0, .inr (10, [.ref q_1, .int 0, .int (-1), .null, .null, .null, .int 0, .null, .null])), (q_1, .inl (cy 0, 400, .inl (fun _ => 0))), (q_2, .inr (0, [.null, .int 0, .int 0])), (q_3, .inl (cy 4, 56, .inr (.inr (.inr (.inr (fun _ => none))))))] := hD
  refine W.widen (k := 3) (n := 459) (Nat.le_of_ble_eq_true rfl) (Nat.le_of_ble_eq_true rfl) ?_
  refine lv_iconst (v := 0) hx hb dX11_init_33 (by decide) ?_
  refine lv_iconst (v := 0) hx hb dX11_init_34 (by decide) ?_
  refine kt_callI (wc := [(q_2, .inr (0, [.null, .int 0, .int 0]))]) (wr := [(h0, .inr (10, [.ref q_1, .int 0, .int (-1), .null, .null, .null, .int 0, .null, .null])), (q_1, .inl (cy 0, 400, .inl (fun _ => 0))), (q_3, .inl (cy 4, 56, .inr (.inr (.inr (.inr (fun _ => none))))))]) (As := [.ref q_3, .int 0, .int 0]) (rest := [.ref q_2, .ref h0]) (c_X0_init l G cy q_2 q_3 0 0) m_X0_init u_163 hx hb hml hown hU hl.1 hK hP hD hS hA dX11_init_35 [2] [0, 1, 3] rfl rfl rfl rfl rfl rfl (Nat.le_of_ble_eq_true rfl) (fun v9 w9 H locs hw hP hD hS => ?_)
  obtain ⟨rfl, rfl⟩ := hw
  have hP : va_P G vwCl [(h0, .inr (10, [.ref q_1, .int 0, .int (-1), .null, .null, .null, .int 0, .null, .null])), (q_1, .inl (cy 0, 400, .inl (fun _ => 0))), (q_3, .inl (cy 4, 56, .inr (.inr (.inr (.inr (fun _ => none)))))), (q_2, .inr (0, [.ref q_3, .int 0, .int 0]))] H := hP
  have hD : va_D A [(h0, .inr (10, [.ref q_1, .int 0, .int (-1), .null, .null, .null, .int 0, .null, .null])), (q_1, .inl (cy 0, 400, .inl (fun _ => 0))), (q_3, .inl (cy 4, 56, .inr (.inr (.inr (.inr (fun _ => none)))))), (q_2, .inr (0, [.ref q_3, .int 0, .int 0]))] := hD
  refine W.eq (g2 := F0 m 38 ls [.ref q_2, .ref h0]) rfl ?_
  refine W.widen (k := 3) (n := 459) (Nat.le_of_ble_eq_true rfl) (Nat.le_of_ble_eq_true rfl) ?_
  refine va_put (D := G) (ci := 10) (v := .ref q_2) (ty := .object "PlaneProof$Book") (C := RX11) (T := TX11) (N := 9) hx hb hU in_X11 tyX11 tyX11_ok nmX11 hown hK.1 hP hD hS 0 rfl rfl 3 (by decide) (hU _ u_253) (fun _ h9 => h9) rfl (by decide +kernel) rfl rfl (Nat.le_of_ble_eq_true rfl) dX11_init_38 (fun H locs hP hD hS => ?_)
  have hP : va_P G vwCl [(h0, .inr (10, [.ref q_1, .int 0, .int (-1), .ref q_2, .null, .null, .int 0, .null, .null])), (q_1, .inl (cy 0, 400, .inl (fun _ => 0))), (q_3, .inl (cy 4, 56, .inr (.inr (.inr (.inr (fun _ => none)))))), (q_2, .inr (0, [.ref q_3, .int 0, .int 0]))] H := hP
  have hD : va_D A [(h0, .inr (10, [.ref q_1, .int 0, .int (-1), .ref q_2, .null, .null, .int 0, .null, .null])), (q_1, .inl (cy 0, 400, .inl (fun _ => 0))), (q_3, .inl (cy 4, 56, .inr (.inr (.inr (.inr (fun _ => none)))))), (q_2, .inr (0, [.ref q_3, .int 0, .int 0]))] := hD
  refine lv_aload_n hx hb dX11_init_41 rfl (lv_at hl 0 rfl) ?_
  refine va_new (ci := 4) (fs := [.int 0, .int 0, .int 0, .null]) (C := RX4) (T := TX4) (N := 4) hx hb hU in_X4 tyX4 tyX4_ok hown (hU _ u_190) (hU _ u_191) (hU _ u_125) hK.1 hP hD hS hA rfl df_X4 (Nat.le_of_ble_eq_true rfl) (Nat.le_of_ble_eq_true rfl) dX11_init_42 (fun q_4 H hP hD hS => ?_)
  have hP : va_P G vwCl [(h0, .inr (10, [.ref q_1, .int 0, .int (-1), .ref q_2, .null, .null, .int 0, .null, .null])), (q_1, .inl (cy 0, 400, .inl (fun _ => 0))), (q_3, .inl (cy 4, 56, .inr (.inr (.inr (.inr (fun _ => none)))))), (q_2, .inr (0, [.ref q_3, .int 0, .int 0])), (q_4, .inr (4, [.int 0, .int 0, .int 0, .null]))] H := hP
  have hD : va_D A [(h0, .inr (10, [.ref q_1, .int 0, .int (-1), .ref q_2, .null, .null, .int 0, .null, .null])), (q_1, .inl (cy 0, 400, .inl (fun _ => 0))), (q_3, .inl (cy 4, 56, .inr (.inr (.inr (.inr (fun _ => none)))))), (q_2, .inr (0, [.ref q_3, .int 0, .int 0])), (q_4, .inr (4, [.int 0, .int 0, .int 0, .null]))] := hD
  refine W.widen (k := 4) (n := 463) (Nat.le_of_ble_eq_true rfl) (Nat.le_of_ble_eq_true rfl) ?_
  refine lv_dup hx hb dX11_init_45 rfl ?_
  refine kt_callI (wc := [(q_4, .inr (4, [.int 0, .int 0, .int 0, .null]))]) (wr := [(h0, .inr (10, [.ref q_1, .int 0, .int (-1), .ref q_2, .null, .null, .int 0, .null, .null])), (q_1, .inl (cy 0, 400, .inl (fun _ => 0))), (q_3, .inl (cy 4, 56, .inr (.inr (.inr (.inr (fun _ => none)))))), (q_2, .inr (0, [.ref q_3, .int 0, .int 0]))]) (As := []) (rest := [.ref q_4, .ref h0]) (c_X4_init l G cy q_4) m_X4_init u_192 hx hb hml hown hU hl.1 hK hP hD hS hA dX11_init_46 [4] [0, 1, 2, 3] rfl rfl rfl rfl rfl rfl (Nat.le_of_ble_eq_true rfl) (fun v9 w9 H locs hw hP hD hS => ?_)
  obtain ⟨x_5, rfl, rfl⟩ := hw
  have hP : va_P G vwCl [(h0, .inr (10, [.ref q_1, .int 0, .int (-1), .ref q_2, .null, .null, .int 0, .null, .null])), (q_1, .inl (cy 0, 400, .inl (fun _ => 0))), (q_3, .inl (cy 4, 56, .inr (.inr (.inr (.inr (fun _ => none)))))), (q_2, .inr (0, [.ref q_3, .int 0, .int 0])), (q_4, .inr (4, [.int 0, .int 0, .int (-1), .ref x_5])), (x_5, .inl (cy 1, 6, .inl (fun _ => 0)))] H := hP
  have hD : va_D A [(h0, .inr (10, [.ref q_1, .int 0, .int (-1), .ref q_2, .null, .null, .int 0, .null, .null])), (q_1, .inl (cy 0, 400, .inl (fun _ => 0))), (q_3, .inl (cy 4, 56, .inr (.inr (.inr (.inr (fun _ => none)))))), (q_2, .inr (0, [.ref q_3, .int 0, .int 0])), (q_4, .inr (4, [.int 0, .int 0, .int (-1), .ref x_5])), (x_5, .inl (cy 1, 6, .inl (fun _ => 0)))] := hD
  refine W.eq (g2 := F0 m 49 ls [.ref q_4, .ref h0]) rfl ?_
  refine W.widen (k := 5) (n := 469) (Nat.le_of_ble_eq_true rfl) (Nat.le_of_ble_eq_true rfl) ?_
  refine va_put (D := G) (ci := 10) (v := .ref q_4) (ty := .object "PlaneProof$Graph") (C := RX11) (T := TX11) (N := 9) hx hb hU in_X11 tyX11 tyX11_ok nmX11 hown hK.1 hP hD hS 0 rfl rfl 4 (by decide) (hU _ u_254) (fun _ h9 => h9) rfl (by decide +kernel) rfl rfl (Nat.le_of_ble_eq_true rfl) dX11_init_49 (fun H locs hP hD hS => ?_)
  have hP : va_P G vwCl [(h0, .inr (10, [.ref q_1, .int 0, .int (-1), .ref q_2, .ref q_4, .null, .int 0, .null, .null])), (q_1, .inl (cy 0, 400, .inl (fun _ => 0))), (q_3, .inl (cy 4, 56, .inr (.inr (.inr (.inr (fun _ => none)))))), (q_2, .inr (0, [.ref q_3, .int 0, .int 0])), (q_4, .inr (4, [.int 0, .int 0, .int (-1), .ref x_5])), (x_5, .inl (cy 1, 6, .inl (fun _ => 0)))] H := hP
  have hD : va_D A [(h0, .inr (10, [.ref q_1, .int 0, .int (-1), .ref q_2, .ref q_4, .null, .int 0, .null, .null])), (q_1, .inl (cy 0, 400, .inl (fun _ => 0))), (q_3, .inl (cy 4, 56, .inr (.inr (.inr (.inr (fun _ => none)))))), (q_2, .inr (0, [.ref q_3, .int 0, .int 0])), (q_4, .inr (4, [.int 0, .int 0, .int (-1), .ref x_5])), (x_5, .inl (cy 1, 6, .inl (fun _ => 0)))] := hD
  refine lv_aload_n hx hb dX11_init_52 rfl (lv_at hl 0 rfl) ?_
  refine lv_bipush (v := 7) hx hb dX11_init_53 (by decide) ?_
  refine lx_newq (C := RX2) (N' := 7) hx hb hown hU u_215 hK.2.2 hK hP hD hS hA 5 rfl (by decide) (by decide +kernel) (Nat.le_of_ble_eq_true rfl) (Nat.le_of_ble_eq_true rfl) (Nat.le_of_ble_eq_true rfl) dX11_init_55 (fun q_6 H hP hD hS => ?_)
  have hP : va_P G vwCl [(h0, .inr (10, [.ref q_1, .int 0, .int (-1), .ref q_2, .ref q_4, .null, .int 0, .null, .null])), (q_1, .inl (cy 0, 400, .inl (fun _ => 0))), (q_3, .inl (cy 4, 56, .inr (.inr (.inr (.inr (fun _ => none)))))), (q_2, .inr (0, [.ref q_3, .int 0, .int 0])), (q_4, .inr (4, [.int 0, .int 0, .int (-1), .ref x_5])), (x_5, .inl (cy 1, 6, .inl (fun _ => 0))), (q_6, .inl (cy 5, 7, .inr (.inr (.inr (.inr (fun _ => none))))))] H := hP
  have hD : va_D A [(h0, .inr (10, [.ref q_1, .int 0, .int (-1), .ref q_2, .ref q_4, .null, .int 0, .null, .null])), (q_1, .inl (cy 0, 400, .inl (fun _ => 0))), (q_3, .inl (cy 4, 56, .inr (.inr (.inr (.inr (fun _ => none)))))), (q_2, .inr (0, [.ref q_3, .int 0, .int 0])), (q_4, .inr (4, [.int 0, .int 0, .int (-1), .ref x_5])), (x_5, .inl (cy 1, 6, .inl (fun _ => 0))), (q_6, .inl (cy 5, 7, .inr (.inr (.inr (.inr (fun _ => none))))))] := hD
  refine W.widen (k := 6) (n := 476) (Nat.le_of_ble_eq_true rfl) (Nat.le_of_ble_eq_true rfl) ?_
  refine va_putF (D := G) (ci := 10) (v := .ref q_6) (ty := .array (.object "PlaneProof$Closure")) (C := RX11) (T := TX11) (N := 9) hx hb hU in_X11 tyX11 tyX11_ok nmX11 hown hK.1 hP hD hS 0 rfl rfl 5 (by decide) (hU _ u_255) (fun _ h9 => h9) rfl hin rfl (by decide +kernel) rfl rfl (Nat.le_of_ble_eq_true rfl) dX11_init_58 (fun H locs hP hD hS => ?_)
  have hP : va_P G vwCl [(h0, .inr (10, [.ref q_1, .int 0, .int (-1), .ref q_2, .ref q_4, .ref q_6, .int 0, .null, .null])), (q_1, .inl (cy 0, 400, .inl (fun _ => 0))), (q_3, .inl (cy 4, 56, .inr (.inr (.inr (.inr (fun _ => none)))))), (q_2, .inr (0, [.ref q_3, .int 0, .int 0])), (q_4, .inr (4, [.int 0, .int 0, .int (-1), .ref x_5])), (x_5, .inl (cy 1, 6, .inl (fun _ => 0))), (q_6, .inl (cy 5, 7, .inr (.inr (.inr (.inr (fun _ => none))))))] H := hP
  have hD : va_D A [(h0, .inr (10, [.ref q_1, .int 0, .int (-1), .ref q_2, .ref q_4, .ref q_6, .int 0, .null, .null])), (q_1, .inl (cy 0, 400, .inl (fun _ => 0))), (q_3, .inl (cy 4, 56, .inr (.inr (.inr (.inr (fun _ => none)))))), (q_2, .inr (0, [.ref q_3, .int 0, .int 0])), (q_4, .inr (4, [.int 0, .int 0, .int (-1), .ref x_5])), (x_5, .inl (cy 1, 6, .inl (fun _ => 0))), (q_6, .inl (cy 5, 7, .inr (.inr (.inr (.inr (fun _ => none))))))] := hD
  refine lv_aload_n hx hb dX11_init_61 rfl (lv_at hl 0 rfl) ?_
  refine lv_bipush (v := (-2)) hx hb dX11_init_62 (by decide) ?_
  refine va_put (D := G) (ci := 10) (v := .int (-2)) (ty := .int) (C := RX11) (T := TX11) (N := 9) hx hb hU in_X11 tyX11 tyX11_ok nmX11 hown hK.1 hP hD hS 0 rfl rfl 6 (by decide) (hU _ u_256) (fun _ h9 => h9) rfl (by decide +kernel) rfl rfl (Nat.le_of_ble_eq_true rfl) dX11_init_64 (fun H locs hP hD hS => ?_)
  have hP : va_P G vwCl [(h0, .inr (10, [.ref q_1, .int 0, .int (-1), .ref q_2, .ref q_4, .ref q_6, .int (-2), .null, .null])), (q_1, .inl (cy 0, 400, .inl (fun _ => 0))), (q_3, .inl (cy 4, 56, .inr (.inr (.inr (.inr (fun _ => none)))))), (q_2, .inr (0, [.ref q_3, .int 0, .int 0])), (q_4, .inr (4, [.int 0, .int 0, .int (-1), .ref x_5])), (x_5, .inl (cy 1, 6, .inl (fun _ => 0))), (q_6, .inl (cy 5, 7, .inr (.inr (.inr (.inr (fun _ => none))))))] H := hP
  have hD : va_D A [(h0, .inr (10, [.ref q_1, .int 0, .int (-1), .ref q_2, .ref q_4, .ref q_6, .int (-2), .null, .null])), (q_1, .inl (cy 0, 400, .inl (fun _ => 0))), (q_3, .inl (cy 4, 56, .inr (.inr (.inr (.inr (fun _ => none)))))), (q_2, .inr (0, [.ref q_3, .int 0, .int 0])), (q_4, .inr (4, [.int 0, .int 0, .int (-1), .ref x_5])), (x_5, .inl (cy 1, 6, .inl (fun _ => 0))), (q_6, .inl (cy 5, 7, .inr (.inr (.inr (.inr (fun _ => none))))))] := hD
  refine lv_aload_n hx hb dX11_init_67 rfl (lv_at hl 0 rfl) ?_
  refine va_new (ci := 7) (fs := [.null, .int 0, .int 0]) (C := RX7) (T := TX7) (N := 3) hx hb hU in_X7 tyX7 tyX7_ok hown (hU _ u_217) (hU _ u_218) (hU _ u_126) hK.1 hP hD hS hA rfl df_X7 (Nat.le_of_ble_eq_true rfl) (Nat.le_of_ble_eq_true rfl) dX11_init_68 (fun q_7 H hP hD hS => ?_)
  have hP : va_P G vwCl [(h0, .inr (10, [.ref q_1, .int 0, .int (-1), .ref q_2, .ref q_4, .ref q_6, .int (-2), .null, .null])), (q_1, .inl (cy 0, 400, .inl (fun _ => 0))), (q_3, .inl (cy 4, 56, .inr (.inr (.inr (.inr (fun _ => none)))))), (q_2, .inr (0, [.ref q_3, .int 0, .int 0])), (q_4, .inr (4, [.int 0, .int 0, .int (-1), .ref x_5])), (x_5, .inl (cy 1, 6, .inl (fun _ => 0))), (q_6, .inl (cy 5, 7, .inr (.inr (.inr (.inr (fun _ => none)))))), (q_7, .inr (7, [.null, .int 0, .int 0]))] H := hP
  have hD : va_D A [(h0, .inr (10, [.ref q_1, .int 0, .int (-1), .ref q_2, .ref q_4, .ref q_6, .int (-2), .null, .null])), (q_1, .inl (cy 0, 400, .inl (fun _ => 0))), (q_3, .inl (cy 4, 56, .inr (.inr (.inr (.inr (fun _ => none)))))), (q_2, .inr (0, [.ref q_3, .int 0, .int 0])), (q_4, .inr (4, [.int 0, .int 0, .int (-1), .ref x_5])), (x_5, .inl (cy 1, 6, .inl (fun _ => 0))), (q_6, .inl (cy 5, 7, .inr (.inr (.inr (.inr (fun _ => none)))))), (q_7, .inr (7, [.null, .int 0, .int 0]))] := hD
  refine W.widen (k := 7) (n := 479) (Nat.le_of_ble_eq_true rfl) (Nat.le_of_ble_eq_true rfl) ?_
  refine lv_dup hx hb dX11_init_71 rfl ?_
  refine kt_callI (wc := [(q_7, .inr (7, [.null, .int 0, .int 0]))]) (wr := [(h0, .inr (10, [.ref q_1, .int 0, .int (-1), .ref q_2, .ref q_4, .ref q_6, .int (-2), .null, .null])), (q_1, .inl (cy 0, 400, .inl (fun _ => 0))), (q_3, .inl (cy 4, 56, .inr (.inr (.inr (.inr (fun _ => none)))))), (q_2, .inr (0, [.ref q_3, .int 0, .int 0])), (q_4, .inr (4, [.int 0, .int 0, .int (-1), .ref x_5])), (x_5, .inl (cy 1, 6, .inl (fun _ => 0))), (q_6, .inl (cy 5, 7, .inr (.inr (.inr (.inr (fun _ => none))))))]) (As := []) (rest := [.ref q_7, .ref h0]) (c_X7_init l G cy q_7) m_X7_init u_219 hx hb hml hown hU hl.1 hK hP hD hS hA dX11_init_72 [7] [0, 1, 2, 3, 4, 5, 6] rfl rfl rfl rfl rfl rfl (Nat.le_of_ble_eq_true rfl) (fun v9 w9 H locs hw hP hD hS => ?_)
  obtain ⟨x_8, rfl, rfl⟩ := hw
  have hP : va_P G vwCl [(h0, .inr (10, [.ref q_1, .int 0, .int (-1), .ref q_2, .ref q_4, .ref q_6, .int (-2), .null, .null])), (q_1, .inl (cy 0, 400, .inl (fun _ => 0))), (q_3, .inl (cy 4, 56, .inr (.inr (.inr (.inr (fun _ => none)))))), (q_2, .inr (0, [.ref q_3, .int 0, .int 0])), (q_4, .inr (4, [.int 0, .int 0, .int (-1), .ref x_5])), (x_5, .inl (cy 1, 6, .inl (fun _ => 0))), (q_6, .inl (cy 5, 7, .inr (.inr (.inr (.inr (fun _ => none)))))), (q_7, .inr (7, [.ref x_8, .int 0, .int 0])), (x_8, .inl (cy 0, 400, .inl (fun _ => 0)))] H := hP
  have hD : va_D A [(h0, .inr (10, [.ref q_1, .int 0, .int (-1), .ref q_2, .ref q_4, .ref q_6, .int (-2), .null, .null])), (q_1, .inl (cy 0, 400, .inl (fun _ => 0))), (q_3, .inl (cy 4, 56, .inr (.inr (.inr (.inr (fun _ => none)))))), (q_2, .inr (0, [.ref q_3, .int 0, .int 0])), (q_4, .inr (4, [.int 0, .int 0, .int (-1), .ref x_5])), (x_5, .inl (cy 1, 6, .inl (fun _ => 0))), (q_6, .inl (cy 5, 7, .inr (.inr (.inr (.inr (fun _ => none)))))), (q_7, .inr (7, [.ref x_8, .int 0, .int 0])), (x_8, .inl (cy 0, 400, .inl (fun _ => 0)))] := hD
  refine W.eq (g2 := F0 m 75 ls [.ref q_7, .ref h0]) rfl ?_
  refine W.widen (k := 8) (n := 879) (Nat.le_of_ble_eq_true rfl) (Nat.le_of_ble_eq_true rfl) ?_
  refine va_putF (D := G) (ci := 10) (v := .ref q_7) (ty := .object "PlaneProof$Scribe") (C := RX11) (T := TX11) (N := 9) hx hb hU in_X11 tyX11 tyX11_ok nmX11 hown hK.1 hP hD hS 0 rfl rfl 7 (by decide) (hU _ u_257) (fun _ h9 => h9) rfl hin rfl (by decide +kernel) rfl rfl (Nat.le_of_ble_eq_true rfl) dX11_init_75 (fun H locs hP hD hS => ?_)
  have hP : va_P G vwCl [(h0, .inr (10, [.ref q_1, .int 0, .int (-1), .ref q_2, .ref q_4, .ref q_6, .int (-2), .ref q_7, .null])), (q_1, .inl (cy 0, 400, .inl (fun _ => 0))), (q_3, .inl (cy 4, 56, .inr (.inr (.inr (.inr (fun _ => none)))))), (q_2, .inr (0, [.ref q_3, .int 0, .int 0])), (q_4, .inr (4, [.int 0, .int 0, .int (-1), .ref x_5])), (x_5, .inl (cy 1, 6, .inl (fun _ => 0))), (q_6, .inl (cy 5, 7, .inr (.inr (.inr (.inr (fun _ => none)))))), (q_7, .inr (7, [.ref x_8, .int 0, .int 0])), (x_8, .inl (cy 0, 400, .inl (fun _ => 0)))] H := hP
  have hD : va_D A [(h0, .inr (10, [.ref q_1, .int 0, .int (-1), .ref q_2, .ref q_4, .ref q_6, .int (-2), .ref q_7, .null])), (q_1, .inl (cy 0, 400, .inl (fun _ => 0))), (q_3, .inl (cy 4, 56, .inr (.inr (.inr (.inr (fun _ => none)))))), (q_2, .inr (0, [.ref q_3, .int 0, .int 0])), (q_4, .inr (4, [.int 0, .int 0, .int (-1), .ref x_5])), (x_5, .inl (cy 1, 6, .inl (fun _ => 0))), (q_6, .inl (cy 5, 7, .inr (.inr (.inr (.inr (fun _ => none)))))), (q_7, .inr (7, [.ref x_8, .int 0, .int 0])), (x_8, .inl (cy 0, 400, .inl (fun _ => 0)))] := hD
  refine lv_aload_n hx hb dX11_init_78 rfl (lv_at hl 0 rfl) ?_
  refine va_new (ci := 3) (fs := [.null, .null, .int 0]) (C := RX3) (T := TX3) (N := 3) hx hb hU in_X3 tyX3 tyX3_ok hown (hU _ u_234) (hU _ u_235) (hU _ u_127) hK.1 hP hD hS hA rfl df_X3 (Nat.le_of_ble_eq_true rfl) (Nat.le_of_ble_eq_true rfl) dX11_init_79 (fun q_9 H hP hD hS => ?_)
  have hP : va_P G vwCl [(h0, .inr (10, [.ref q_1, .int 0, .int (-1), .ref q_2, .ref q_4, .ref q_6, .int (-2), .ref q_7, .null])), (q_1, .inl (cy 0, 400, .inl (fun _ => 0))), (q_3, .inl (cy 4, 56, .inr (.inr (.inr (.inr (fun _ => none)))))), (q_2, .inr (0, [.ref q_3, .int 0, .int 0])), (q_4, .inr (4, [.int 0, .int 0, .int (-1), .ref x_5])), (x_5, .inl (cy 1, 6, .inl (fun _ => 0))), (q_6, .inl (cy 5, 7, .inr (.inr (.inr (.inr (fun _ => none)))))), (q_7, .inr (7, [.ref x_8, .int 0, .int 0])), (x_8, .inl (cy 0, 400, .inl (fun _ => 0))), (q_9, .inr (3, [.null, .null, .int 0]))] H := hP
  have hD : va_D A [(h0, .inr (10, [.ref q_1, .int 0, .int (-1), .ref q_2, .ref q_4, .ref q_6, .int (-2), .ref q_7, .null])), (q_1, .inl (cy 0, 400, .inl (fun _ => 0))), (q_3, .inl (cy 4, 56, .inr (.inr (.inr (.inr (fun _ => none)))))), (q_2, .inr (0, [.ref q_3, .int 0, .int 0])), (q_4, .inr (4, [.int 0, .int 0, .int (-1), .ref x_5])), (x_5, .inl (cy 1, 6, .inl (fun _ => 0))), (q_6, .inl (cy 5, 7, .inr (.inr (.inr (.inr (fun _ => none)))))), (q_7, .inr (7, [.ref x_8, .int 0, .int 0])), (x_8, .inl (cy 0, 400, .inl (fun _ => 0))), (q_9, .inr (3, [.null, .null, .int 0]))] := hD
  refine W.widen (k := 9) (n := 882) (Nat.le_of_ble_eq_true rfl) (Nat.le_of_ble_eq_true rfl) ?_
  refine lv_dup hx hb dX11_init_82 rfl ?_
  refine lv_aload_n hx hb dX11_init_83 rfl (lv_at hl 0 rfl) ?_
  refine va_get (D := G) (ci := 10) (v := .ref q_7) (C := RX11) (T := TX11) (N := 9) hx hb hU in_X11 hown hK.1 hP 0 rfl rfl 7 (by decide) (hU _ u_257) (fun _ h9 => h9) rfl dX11_init_84 ?_
  refine kt_callI (wc := [(q_9, .inr (3, [.null, .null, .int 0]))]) (wr := [(h0, .inr (10, [.ref q_1, .int 0, .int (-1), .ref q_2, .ref q_4, .ref q_6, .int (-2), .ref q_7, .null])), (q_1, .inl (cy 0, 400, .inl (fun _ => 0))), (q_3, .inl (cy 4, 56, .inr (.inr (.inr (.inr (fun _ => none)))))), (q_2, .inr (0, [.ref q_3, .int 0, .int 0])), (q_4, .inr (4, [.int 0, .int 0, .int (-1), .ref x_5])), (x_5, .inl (cy 1, 6, .inl (fun _ => 0))), (q_6, .inl (cy 5, 7, .inr (.inr (.inr (.inr (fun _ => none)))))), (q_7, .inr (7, [.ref x_8, .int 0, .int 0])), (x_8, .inl (cy 0, 400, .inl (fun _ => 0)))]) (As := [.ref q_7]) (rest := [.ref q_9, .ref h0]) (c_X3_init l G cy q_9 q_7) m_X3_init u_236 hx hb hml hown hU hl.1 hK hP hD hS hA dX11_init_87 [9] [0, 1, 2, 3, 4, 5, 6, 7, 8] rfl rfl rfl rfl rfl rfl (Nat.le_of_ble_eq_true rfl) (fun v9 w9 H locs hw hP hD hS => ?_)
  obtain ⟨x_10, rfl, rfl⟩ := hw
  have hP : va_P G vwCl [(h0, .inr (10, [.ref q_1, .int 0, .int (-1), .ref q_2, .ref q_4, .ref q_6, .int (-2), .ref q_7, .null])), (q_1, .inl (cy 0, 400, .inl (fun _ => 0))), (q_3, .inl (cy 4, 56, .inr (.inr (.inr (.inr (fun _ => none)))))), (q_2, .inr (0, [.ref q_3, .int 0, .int 0])), (q_4, .inr (4, [.int 0, .int 0, .int (-1), .ref x_5])), (x_5, .inl (cy 1, 6, .inl (fun _ => 0))), (q_6, .inl (cy 5, 7, .inr (.inr (.inr (.inr (fun _ => none)))))), (q_7, .inr (7, [.ref x_8, .int 0, .int 0])), (x_8, .inl (cy 0, 400, .inl (fun _ => 0))), (q_9, .inr (3, [.ref q_7, .ref x_10, .int 0])), (x_10, .inl (cy 1, 56, .inl (fun _ => 0)))] H := hP
  have hD : va_D A [(h0, .inr (10, [.ref q_1, .int 0, .int (-1), .ref q_2, .ref q_4, .ref q_6, .int (-2), .ref q_7, .null])), (q_1, .inl (cy 0, 400, .inl (fun _ => 0))), (q_3, .inl (cy 4, 56, .inr (.inr (.inr (.inr (fun _ => none)))))), (q_2, .inr (0, [.ref q_3, .int 0, .int 0])), (q_4, .inr (4, [.int 0, .int 0, .int (-1), .ref x_5])), (x_5, .inl (cy 1, 6, .inl (fun _ => 0))), (q_6, .inl (cy 5, 7, .inr (.inr (.inr (.inr (fun _ => none)))))), (q_7, .inr (7, [.ref x_8, .int 0, .int 0])), (x_8, .inl (cy 0, 400, .inl (fun _ => 0))), (q_9, .inr (3, [.ref q_7, .ref x_10, .int 0])), (x_10, .inl (cy 1, 56, .inl (fun _ => 0)))] := hD
  refine W.eq (g2 := F0 m 90 ls [.ref q_9, .ref h0]) rfl ?_
  refine W.widen (k := 10) (n := 938) (Nat.le_of_ble_eq_true rfl) (Nat.le_of_ble_eq_true rfl) ?_
  refine va_putF (D := G) (ci := 10) (v := .ref q_9) (ty := .object "PlaneProof$Composer") (C := RX11) (T := TX11) (N := 9) hx hb hU in_X11 tyX11 tyX11_ok nmX11 hown hK.1 hP hD hS 0 rfl rfl 8 (by decide) (hU _ u_258) (fun _ h9 => h9) rfl hin rfl (by decide +kernel) rfl rfl (Nat.le_of_ble_eq_true rfl) dX11_init_90 (fun H locs hP hD hS => ?_)
  have hP : va_P G vwCl [(h0, .inr (10, [.ref q_1, .int 0, .int (-1), .ref q_2, .ref q_4, .ref q_6, .int (-2), .ref q_7, .ref q_9])), (q_1, .inl (cy 0, 400, .inl (fun _ => 0))), (q_3, .inl (cy 4, 56, .inr (.inr (.inr (.inr (fun _ => none)))))), (q_2, .inr (0, [.ref q_3, .int 0, .int 0])), (q_4, .inr (4, [.int 0, .int 0, .int (-1), .ref x_5])), (x_5, .inl (cy 1, 6, .inl (fun _ => 0))), (q_6, .inl (cy 5, 7, .inr (.inr (.inr (.inr (fun _ => none)))))), (q_7, .inr (7, [.ref x_8, .int 0, .int 0])), (x_8, .inl (cy 0, 400, .inl (fun _ => 0))), (q_9, .inr (3, [.ref q_7, .ref x_10, .int 0])), (x_10, .inl (cy 1, 56, .inl (fun _ => 0)))] H := hP
  have hD : va_D A [(h0, .inr (10, [.ref q_1, .int 0, .int (-1), .ref q_2, .ref q_4, .ref q_6, .int (-2), .ref q_7, .ref q_9])), (q_1, .inl (cy 0, 400, .inl (fun _ => 0))), (q_3, .inl (cy 4, 56, .inr (.inr (.inr (.inr (fun _ => none)))))), (q_2, .inr (0, [.ref q_3, .int 0, .int 0])), (q_4, .inr (4, [.int 0, .int 0, .int (-1), .ref x_5])), (x_5, .inl (cy 1, 6, .inl (fun _ => 0))), (q_6, .inl (cy 5, 7, .inr (.inr (.inr (.inr (fun _ => none)))))), (q_7, .inr (7, [.ref x_8, .int 0, .int 0])), (x_8, .inl (cy 0, 400, .inl (fun _ => 0))), (q_9, .inr (3, [.ref q_7, .ref x_10, .int 0])), (x_10, .inl (cy 1, 56, .inl (fun _ => 0)))] := hD
  exact kt_vret hx hb hr hlocks hP hD hS dX11_init_93 [0, 1, 3, 2, 4, 5, 6, 7, 8, 9, 10] rfl rfl rfl rfl ⟨q_1, q_2, q_4, q_6, q_7, q_9, q_3, x_5, x_8, x_10, rfl, rfl⟩
end
section
theorem u_0 : Cond.selects RX11 yX11_putOnTape yX11_putOnTape ∈ UU := uu_mem 0 (by decide +kernel) (by decide +kernel)
theorem u_34 : Cond.selects RX11 yX11_existing yX11_existing ∈ UU := uu_mem 34 (by decide +kernel) (by decide +kernel)
theorem u_123 : Cond.initialized RX11 ∈ UU := uu_mem 123 (by decide +kernel) (by decide +kernel)
theorem u_144 : Cond.initialized "java/lang/IndexOutOfBoundsException" ∈ UU := uu_mem 144 (by decide +kernel) (by decide +kernel)
theorem u_178 : Cond.fieldLink RX11 102 "PlaneProof$Book" "axioms" "I" ∈ UU := uu_mem 178 (by decide +kernel) (by decide +kernel)
theorem u_181 : Cond.fieldLink RX11 116 "PlaneProof$Book" "size" "I" ∈ UU := uu_mem 181 (by decide +kernel) (by decide +kernel)
theorem u_281 : Cond.code yX11_feed cX11_feed 6 (some .int) ∈ UU := uu_mem 281 (by decide +kernel) (by decide +kernel)
theorem u_282 : Cond.methodLink RX11 63 yX11_putOnTape ∈ UU := uu_mem 282 (by decide +kernel) (by decide +kernel)
theorem u_284 : Cond.instanceMethod yX11_putOnTape ∈ UU := uu_mem 284 (by decide +kernel) (by decide +kernel)
theorem u_285 : Cond.code yX11_putOnTape cX11_putOnTape 3 none ∈ UU := uu_mem 285 (by decide +kernel) (by decide +kernel)
theorem u_289 : Cond.code yX11_end cX11_end 2 (some .boolean) ∈ UU := uu_mem 289 (by decide +kernel) (by decide +kernel)
theorem u_293 : Cond.code yX11_fault cX11_fault 1 (some .int) ∈ UU := uu_mem 293 (by decide +kernel) (by decide +kernel)
theorem u_312 : Cond.code yX11_refutes cX11_refutes 2 (some .int) ∈ UU := uu_mem 312 (by decide +kernel) (by decide +kernel)
theorem u_1078 : Cond.code yX11_line cX11_line 4 (some .int) ∈ UU := uu_mem 1078 (by decide +kernel) (by decide +kernel)
theorem u_1079 : Cond.methodLink RX11 117 yX11_existing ∈ UU := uu_mem 1079 (by decide +kernel) (by decide +kernel)
theorem u_1081 : Cond.instanceMethod yX11_existing ∈ UU := uu_mem 1081 (by decide +kernel) (by decide +kernel)
theorem u_1082 : Cond.code yX11_existing cX11_existing 2 (some (.object "PlaneProof$Line")) ∈ UU := uu_mem 1082 (by decide +kernel) (by decide +kernel)
theorem u_1083 : Cond.classLink RX11 152 "java/lang/IndexOutOfBoundsException" ∈ UU := uu_mem 1083 (by decide +kernel) (by decide +kernel)
theorem u_1121 : Cond.code yX11_lits cX11_lits 4 (some .int) ∈ UU := uu_mem 1121 (by decide +kernel) (by decide +kernel)
theorem u_1129 : Cond.code yX11_plane cX11_plane 4 (some .int) ∈ UU := uu_mem 1129 (by decide +kernel) (by decide +kernel)
theorem u_1138 : Cond.code yX11_cut cX11_cut 3 (some .int) ∈ UU := uu_mem 1138 (by decide +kernel) (by decide +kernel)
theorem u_1152 : Cond.code yX11_holds cX11_holds 4 (some .boolean) ∈ UU := uu_mem 1152 (by decide +kernel) (by decide +kernel)
theorem u_1163 : Cond.code yX11_often cX11_often 2 (some .int) ∈ UU := uu_mem 1163 (by decide +kernel) (by decide +kernel)
theorem u_1170 : Cond.code yX11_measure cX11_measure 4 (some .int) ∈ UU := uu_mem 1170 (by decide +kernel) (by decide +kernel)
theorem u_1198 : Cond.code yX11_tree cX11_tree 2 (some .long) ∈ UU := uu_mem 1198 (by decide +kernel) (by decide +kernel)
theorem u_1205 : Cond.code yX11_needs cX11_needs 4 (some .boolean) ∈ UU := uu_mem 1205 (by decide +kernel) (by decide +kernel)
theorem u_1212 : Cond.code yX11_uses cX11_uses 2 (some .int) ∈ UU := uu_mem 1212 (by decide +kernel) (by decide +kernel)
theorem u_1220 : Cond.code yX11_same cX11_same 4 (some .int) ∈ UU := uu_mem 1220 (by decide +kernel) (by decide +kernel)
theorem u_1231 : Cond.code yX11_gives cX11_gives 4 (some .boolean) ∈ UU := uu_mem 1231 (by decide +kernel) (by decide +kernel)
theorem u_1322 : Cond.code yX11_trim cX11_trim 3 (some .int) ∈ UU := uu_mem 1322 (by decide +kernel) (by decide +kernel)
theorem u_1392 : Cond.code yX11_translate cX11_translate 3 (some .int) ∈ UU := uu_mem 1392 (by decide +kernel) (by decide +kernel)
theorem u_1466 : Cond.code yX11_translated cX11_translated 3 (some .int) ∈ UU := uu_mem 1466 (by decide +kernel) (by decide +kernel)
theorem u_1474 : Cond.code yX11_slack cX11_slack 4 (some .int) ∈ UU := uu_mem 1474 (by decide +kernel) (by decide +kernel)
theorem u_1482 : Cond.code yX11_rests cX11_rests 2 (some .int) ∈ UU := uu_mem 1482 (by decide +kernel) (by decide +kernel)
theorem u_1490 : Cond.code yX11_without cX11_without 2 (some .int) ∈ UU := uu_mem 1490 (by decide +kernel) (by decide +kernel)
theorem m_X11_existing : mV yX11_existing cX11_existing 2 (some (.object "PlaneProof$Line")) 1 := ⟨u_1082, u_1081, u_34, u_123, ⟨by decide, by decide, by decide +kernel⟩⟩
theorem m_X11_putOnTape : mV yX11_putOnTape cX11_putOnTape 3 none 1 := ⟨u_285, u_284, u_0, u_123, ⟨by decide, by decide, by decide +kernel⟩⟩
theorem dX11_cut_0 : decode cX11_cut 0 = .ok (.aload_n 0, 1) := by decide +kernel
theorem dX11_cut_1 : decode cX11_cut 1 = .ok (.iload_n 1, 1) := by decide +kernel
theorem dX11_cut_2 : decode cX11_cut 2 = .ok (.invokevirtual 117, 3) := by decide +kernel
theorem dX11_end_0 : decode cX11_end 0 = .ok (.iload_n 1, 1) := by decide +kernel
theorem dX11_end_1 : decode cX11_end 1 = .ok (.ifCond .lt 11, 3) := by decide +kernel
theorem dX11_end_4 : decode cX11_end 4 = .ok (.iload_n 1, 1) := by decide +kernel
theorem dX11_end_5 : decode cX11_end 5 = .ok (.aload_n 0, 1) := by decide +kernel
theorem dX11_end_6 : decode cX11_end 6 = .ok (.getfield 13, 3) := by decide +kernel
theorem dX11_end_9 : decode cX11_end 9 = .ok (.if_icmp .le 5, 3) := by decide +kernel
theorem dX11_end_12 : decode cX11_end 12 = .ok (.iconst 0, 1) := by decide +kernel
theorem dX11_end_13 : decode cX11_end 13 = .ok (.ireturn, 1) := by decide +kernel
theorem dX11_end_14 : decode cX11_end 14 = .ok (.aload_n 0, 1) := by decide +kernel
theorem dX11_end_15 : decode cX11_end 15 = .ok (.iload_n 1, 1) := by decide +kernel
theorem dX11_end_16 : decode cX11_end 16 = .ok (.putfield 13, 3) := by decide +kernel
theorem dX11_end_19 : decode cX11_end 19 = .ok (.iconst 1, 1) := by decide +kernel
theorem dX11_end_20 : decode cX11_end 20 = .ok (.ireturn, 1) := by decide +kernel
theorem dX11_existing_0 : decode cX11_existing 0 = .ok (.iload_n 1, 1) := by decide +kernel
theorem dX11_existing_1 : decode cX11_existing 1 = .ok (.ifCond .lt 14, 3) := by decide +kernel
theorem dX11_existing_4 : decode cX11_existing 4 = .ok (.iload_n 1, 1) := by decide +kernel
theorem dX11_existing_5 : decode cX11_existing 5 = .ok (.aload_n 0, 1) := by decide +kernel
theorem dX11_existing_6 : decode cX11_existing 6 = .ok (.getfield 27, 3) := by decide +kernel
theorem dX11_existing_9 : decode cX11_existing 9 = .ok (.getfield 116, 3) := by decide +kernel
theorem dX11_existing_12 : decode cX11_existing 12 = .ok (.if_icmp .lt 14, 3) := by decide +kernel
theorem dX11_existing_15 : decode cX11_existing 15 = .ok (.new 152, 3) := by decide +kernel
theorem dX11_existing_18 : decode cX11_existing 18 = .ok (.dup, 1) := by decide +kernel
theorem dX11_existing_19 : decode cX11_existing 19 = .ok (.ldc_w 325, 3) := by decide +kernel
theorem dX11_existing_22 : decode cX11_existing 22 = .ok (.invokespecial 156, 3) := by decide +kernel
theorem dX11_existing_25 : decode cX11_existing 25 = .ok (.athrow, 1) := by decide +kernel
theorem dX11_fault_0 : decode cX11_fault 0 = .ok (.aload_n 0, 1) := by decide +kernel
theorem dX11_fault_1 : decode cX11_fault 1 = .ok (.getfield 17, 3) := by decide +kernel
theorem dX11_fault_4 : decode cX11_fault 4 = .ok (.ireturn, 1) := by decide +kernel
theorem dX11_feed_0 : decode cX11_feed 0 = .ok (.aload_n 0, 1) := by decide +kernel
theorem dX11_feed_1 : decode cX11_feed 1 = .ok (.getfield 13, 3) := by decide +kernel
theorem dX11_feed_4 : decode cX11_feed 4 = .ok (.bipush 20, 2) := by decide +kernel
theorem dX11_feed_6 : decode cX11_feed 6 = .ok (.iadd, 1) := by decide +kernel
theorem dX11_feed_7 : decode cX11_feed 7 = .ok (.sipush 400, 3) := by decide +kernel
theorem dX11_feed_10 : decode cX11_feed 10 = .ok (.if_icmp .le 5, 3) := by decide +kernel
theorem dX11_feed_15 : decode cX11_feed 15 = .ok (.aload_n 0, 1) := by decide +kernel
theorem dX11_feed_16 : decode cX11_feed 16 = .ok (.iload_n 1, 1) := by decide +kernel
theorem dX11_feed_17 : decode cX11_feed 17 = .ok (.invokevirtual 63, 3) := by decide +kernel
theorem dX11_feed_20 : decode cX11_feed 20 = .ok (.aload_n 0, 1) := by decide +kernel
theorem dX11_feed_21 : decode cX11_feed 21 = .ok (.iload_n 2, 1) := by decide +kernel
theorem dX11_feed_22 : decode cX11_feed 22 = .ok (.invokevirtual 63, 3) := by decide +kernel
theorem dX11_feed_25 : decode cX11_feed 25 = .ok (.aload_n 0, 1) := by decide +kernel
theorem dX11_feed_26 : decode cX11_feed 26 = .ok (.iload_n 3, 1) := by decide +kernel
theorem dX11_feed_27 : decode cX11_feed 27 = .ok (.invokevirtual 63, 3) := by decide +kernel
theorem dX11_feed_30 : decode cX11_feed 30 = .ok (.aload_n 0, 1) := by decide +kernel
theorem dX11_feed_31 : decode cX11_feed 31 = .ok (.iload 4, 2) := by decide +kernel
theorem dX11_feed_33 : decode cX11_feed 33 = .ok (.invokevirtual 63, 3) := by decide +kernel
theorem dX11_feed_36 : decode cX11_feed 36 = .ok (.aload_n 0, 1) := by decide +kernel
theorem dX11_feed_37 : decode cX11_feed 37 = .ok (.iload 5, 2) := by decide +kernel
theorem dX11_feed_39 : decode cX11_feed 39 = .ok (.invokevirtual 63, 3) := by decide +kernel
theorem dX11_feed_42 : decode cX11_feed 42 = .ok (.aload_n 0, 1) := by decide +kernel
theorem dX11_feed_43 : decode cX11_feed 43 = .ok (.getfield 13, 3) := by decide +kernel
theorem dX11_feed_46 : decode cX11_feed 46 = .ok (.ireturn, 1) := by decide +kernel
theorem dX11_gives_0 : decode cX11_gives 0 = .ok (.aload_n 0, 1) := by decide +kernel
theorem dX11_gives_1 : decode cX11_gives 1 = .ok (.iload_n 1, 1) := by decide +kernel
theorem dX11_gives_2 : decode cX11_gives 2 = .ok (.invokevirtual 117, 3) := by decide +kernel
theorem dX11_holds_0 : decode cX11_holds 0 = .ok (.aload_n 0, 1) := by decide +kernel
theorem dX11_holds_1 : decode cX11_holds 1 = .ok (.iload_n 1, 1) := by decide +kernel
theorem dX11_holds_2 : decode cX11_holds 2 = .ok (.invokevirtual 117, 3) := by decide +kernel
theorem dX11_line_0 : decode cX11_line 0 = .ok (.aload_n 0, 1) := by decide +kernel
theorem dX11_line_1 : decode cX11_line 1 = .ok (.iload_n 1, 1) := by decide +kernel
theorem dX11_line_2 : decode cX11_line 2 = .ok (.invokevirtual 117, 3) := by decide +kernel
theorem dX11_lits_0 : decode cX11_lits 0 = .ok (.aload_n 0, 1) := by decide +kernel
theorem dX11_lits_1 : decode cX11_lits 1 = .ok (.iload_n 1, 1) := by decide +kernel
theorem dX11_lits_2 : decode cX11_lits 2 = .ok (.invokevirtual 117, 3) := by decide +kernel
theorem dX11_measure_0 : decode cX11_measure 0 = .ok (.aload_n 0, 1) := by decide +kernel
theorem dX11_measure_1 : decode cX11_measure 1 = .ok (.iload_n 1, 1) := by decide +kernel
theorem dX11_measure_2 : decode cX11_measure 2 = .ok (.invokevirtual 117, 3) := by decide +kernel
theorem dX11_needs_0 : decode cX11_needs 0 = .ok (.aload_n 0, 1) := by decide +kernel
theorem dX11_needs_1 : decode cX11_needs 1 = .ok (.iload_n 1, 1) := by decide +kernel
theorem dX11_needs_2 : decode cX11_needs 2 = .ok (.invokevirtual 117, 3) := by decide +kernel
theorem dX11_often_0 : decode cX11_often 0 = .ok (.aload_n 0, 1) := by decide +kernel
theorem dX11_often_1 : decode cX11_often 1 = .ok (.iload_n 1, 1) := by decide +kernel
theorem dX11_often_2 : decode cX11_often 2 = .ok (.invokevirtual 117, 3) := by decide +kernel
theorem dX11_plane_0 : decode cX11_plane 0 = .ok (.aload_n 0, 1) := by decide +kernel
theorem dX11_plane_1 : decode cX11_plane 1 = .ok (.iload_n 1, 1) := by decide +kernel
theorem dX11_plane_2 : decode cX11_plane 2 = .ok (.invokevirtual 117, 3) := by decide +kernel
theorem dX11_putOnTape_0 : decode cX11_putOnTape 0 = .ok (.bipush 24, 2) := by decide +kernel
theorem dX11_putOnTape_2 : decode cX11_putOnTape 2 = .ok (.istore_n 2, 1) := by decide +kernel
theorem dX11_putOnTape_3 : decode cX11_putOnTape 3 = .ok (.iload_n 2, 1) := by decide +kernel
theorem dX11_putOnTape_4 : decode cX11_putOnTape 4 = .ok (.ifCond .lt 42, 3) := by decide +kernel
theorem dX11_putOnTape_7 : decode cX11_putOnTape 7 = .ok (.aload_n 0, 1) := by decide +kernel
theorem dX11_putOnTape_8 : decode cX11_putOnTape 8 = .ok (.getfield 13, 3) := by decide +kernel
theorem dX11_putOnTape_11 : decode cX11_putOnTape 11 = .ok (.sipush 400, 3) := by decide +kernel
theorem dX11_putOnTape_14 : decode cX11_putOnTape 14 = .ok (.if_icmp .ge 26, 3) := by decide +kernel
theorem dX11_putOnTape_17 : decode cX11_putOnTape 17 = .ok (.aload_n 0, 1) := by decide +kernel
theorem dX11_putOnTape_18 : decode cX11_putOnTape 18 = .ok (.getfield 9, 3) := by decide +kernel
theorem dX11_putOnTape_21 : decode cX11_putOnTape 21 = .ok (.aload_n 0, 1) := by decide +kernel
theorem dX11_putOnTape_22 : decode cX11_putOnTape 22 = .ok (.getfield 13, 3) := by decide +kernel
theorem dX11_putOnTape_25 : decode cX11_putOnTape 25 = .ok (.iload_n 1, 1) := by decide +kernel
theorem dX11_putOnTape_26 : decode cX11_putOnTape 26 = .ok (.iload_n 2, 1) := by decide +kernel
theorem dX11_putOnTape_27 : decode cX11_putOnTape 27 = .ok (.iushr, 1) := by decide +kernel
theorem dX11_putOnTape_28 : decode cX11_putOnTape 28 = .ok (.i2b, 1) := by decide +kernel
theorem dX11_putOnTape_29 : decode cX11_putOnTape 29 = .ok (.bastore, 1) := by decide +kernel
theorem dX11_putOnTape_30 : decode cX11_putOnTape 30 = .ok (.aload_n 0, 1) := by decide +kernel
theorem dX11_putOnTape_31 : decode cX11_putOnTape 31 = .ok (.dup, 1) := by decide +kernel
theorem dX11_putOnTape_32 : decode cX11_putOnTape 32 = .ok (.getfield 13, 3) := by decide +kernel
theorem dX11_putOnTape_35 : decode cX11_putOnTape 35 = .ok (.iconst 1, 1) := by decide +kernel
theorem dX11_putOnTape_36 : decode cX11_putOnTape 36 = .ok (.iadd, 1) := by decide +kernel
theorem dX11_putOnTape_37 : decode cX11_putOnTape 37 = .ok (.putfield 13, 3) := by decide +kernel
theorem dX11_putOnTape_40 : decode cX11_putOnTape 40 = .ok (.iinc 2 (-8), 3) := by decide +kernel
theorem dX11_putOnTape_43 : decode cX11_putOnTape 43 = .ok (.goto (-40), 3) := by decide +kernel
theorem dX11_putOnTape_46 : decode cX11_putOnTape 46 = .ok (.return_, 1) := by decide +kernel
theorem dX11_refutes_0 : decode cX11_refutes 0 = .ok (.iconst 0, 1) := by decide +kernel
theorem dX11_refutes_1 : decode cX11_refutes 1 = .ok (.istore_n 1, 1) := by decide +kernel
theorem dX11_refutes_2 : decode cX11_refutes 2 = .ok (.iload_n 1, 1) := by decide +kernel
theorem dX11_refutes_3 : decode cX11_refutes 3 = .ok (.aload_n 0, 1) := by decide +kernel
theorem dX11_refutes_4 : decode cX11_refutes 4 = .ok (.getfield 27, 3) := by decide +kernel
theorem dX11_refutes_7 : decode cX11_refutes 7 = .ok (.getfield 116, 3) := by decide +kernel
theorem dX11_refutes_10 : decode cX11_refutes 10 = .ok (.if_icmp .ge 26, 3) := by decide +kernel
theorem dX11_refutes_36 : decode cX11_refutes 36 = .ok (.iconst (-1), 1) := by decide +kernel
theorem dX11_refutes_37 : decode cX11_refutes 37 = .ok (.ireturn, 1) := by decide +kernel
theorem dX11_rests_0 : decode cX11_rests 0 = .ok (.aload_n 0, 1) := by decide +kernel
theorem dX11_rests_1 : decode cX11_rests 1 = .ok (.iload_n 1, 1) := by decide +kernel
theorem dX11_rests_2 : decode cX11_rests 2 = .ok (.invokevirtual 117, 3) := by decide +kernel
theorem dX11_same_0 : decode cX11_same 0 = .ok (.aload_n 0, 1) := by decide +kernel
theorem dX11_same_1 : decode cX11_same 1 = .ok (.iload_n 1, 1) := by decide +kernel
theorem dX11_same_2 : decode cX11_same 2 = .ok (.invokevirtual 117, 3) := by decide +kernel
theorem dX11_slack_0 : decode cX11_slack 0 = .ok (.aload_n 0, 1) := by decide +kernel
theorem dX11_slack_1 : decode cX11_slack 1 = .ok (.iload_n 1, 1) := by decide +kernel
theorem dX11_slack_2 : decode cX11_slack 2 = .ok (.invokevirtual 117, 3) := by decide +kernel
theorem dX11_translate_0 : decode cX11_translate 0 = .ok (.aload_n 0, 1) := by decide +kernel
theorem dX11_translate_1 : decode cX11_translate 1 = .ok (.iload_n 1, 1) := by decide +kernel
theorem dX11_translate_2 : decode cX11_translate 2 = .ok (.invokevirtual 117, 3) := by decide +kernel
theorem dX11_translated_0 : decode cX11_translated 0 = .ok (.aload_n 0, 1) := by decide +kernel
theorem dX11_translated_1 : decode cX11_translated 1 = .ok (.iload_n 1, 1) := by decide +kernel
theorem dX11_translated_2 : decode cX11_translated 2 = .ok (.invokevirtual 117, 3) := by decide +kernel
theorem dX11_tree_0 : decode cX11_tree 0 = .ok (.aload_n 0, 1) := by decide +kernel
theorem dX11_tree_1 : decode cX11_tree 1 = .ok (.iload_n 1, 1) := by decide +kernel
theorem dX11_tree_2 : decode cX11_tree 2 = .ok (.invokevirtual 117, 3) := by decide +kernel
theorem dX11_trim_0 : decode cX11_trim 0 = .ok (.aload_n 0, 1) := by decide +kernel
theorem dX11_trim_1 : decode cX11_trim 1 = .ok (.iload_n 1, 1) := by decide +kernel
theorem dX11_trim_2 : decode cX11_trim 2 = .ok (.invokevirtual 117, 3) := by decide +kernel
theorem dX11_uses_0 : decode cX11_uses 0 = .ok (.aload_n 0, 1) := by decide +kernel
theorem dX11_uses_1 : decode cX11_uses 1 = .ok (.iload_n 1, 1) := by decide +kernel
theorem dX11_uses_2 : decode cX11_uses 2 = .ok (.invokevirtual 117, 3) := by decide +kernel
theorem dX11_without_0 : decode cX11_without 0 = .ok (.iload_n 1, 1) := by decide +kernel
theorem dX11_without_1 : decode cX11_without 1 = .ok (.ifCond .lt 14, 3) := by decide +kernel
theorem dX11_without_4 : decode cX11_without 4 = .ok (.iload_n 1, 1) := by decide +kernel
theorem dX11_without_5 : decode cX11_without 5 = .ok (.aload_n 0, 1) := by decide +kernel
theorem dX11_without_6 : decode cX11_without 6 = .ok (.getfield 27, 3) := by decide +kernel
theorem dX11_without_9 : decode cX11_without 9 = .ok (.getfield 102, 3) := by decide +kernel
theorem dX11_without_12 : decode cX11_without 12 = .ok (.if_icmp .lt 14, 3) := by decide +kernel
theorem dX11_without_15 : decode cX11_without 15 = .ok (.new 152, 3) := by decide +kernel
theorem dX11_without_18 : decode cX11_without 18 = .ok (.dup, 1) := by decide +kernel
theorem dX11_without_19 : decode cX11_without 19 = .ok (.ldc_w 311, 3) := by decide +kernel
theorem dX11_without_22 : decode cX11_without 22 = .ok (.invokespecial 156, 3) := by decide +kernel
theorem dX11_without_25 : decode cX11_without 25 = .ok (.athrow, 1) := by decide +kernel
end
section
set_option maxHeartbeats 4000000 in
set_option maxRecDepth 100000 in
theorem c_X11_putOnTape_0 (l : Launch) (G : va_G) (cy : Nat → ClassId) (h0 : Nat) (r1 : Nat) (r2 : Nat) (r4 : Nat) (r6 : Nat) (r7 : Nat) (r9 : Nat) (f0 : Nat → Int32) (p0 : Int32) : Kt l G cy yX11_putOnTape cX11_putOnTape 3 none ({ frames := 10, cells := 0, slots := 0, locals := 200 } : Room) [.ref h0, .int p0] [(h0, .inr (10, [.ref r1, .int 0, .int (-1), .ref r2, .ref r4, .ref r6, .int (-2), .ref r7, .ref r9])), (r1, .inl (cy 0, 400, .inl f0))] (fun (v : Option Value) (w1 : va_W) => ∃ (f1 : Nat → Int32), v = none ∧ w1 = [(h0, .inr (10, [.ref r1, .int 4, .int (-1), .ref r2, .ref r4, .ref r6, .int (-2), .ref r7, .ref r9])), (r1, .inl (cy 0, 400, .inl f1))]) := by
  refine kt_ofW (by decide) (Nat.le_of_ble_eq_true rfl) ?_
  intro p e s m below meth c A ls hx hb hr hU hown hlocks hml hin hP hK hD hA hS hl
  have hown : s.vm.findClass RX11 = some m.cls := hown
  have hl : lv_has ls 3 [(0, .ref h0), (1, .int p0)] := hl
  refine lv_bipush (v := 24) hx hb dX11_putOnTape_0 (by decide) ?_
  refine lv_istore_n (lv' := [(2, .int 24), (0, .ref h0), (1, .int p0)]) hx hb dX11_putOnTape_2 rfl hl (by decide) rfl (fun ls hl => ?_)
  refine lv_iload_n hx hb dX11_putOnTape_3 rfl (lv_at hl 0 rfl) ?_
  refine lv_if_lt (tgt := 46) hx hb dX11_putOnTape_4 (by decide) (fun c9 => absurd c9 (by decide)) (fun _ => ?_)
  refine lv_aload_n hx hb dX11_putOnTape_7 rfl (lv_at hl 1 rfl) ?_
  refine va_get (D := G) (ci := 10) (v := .int 0) (C := RX11) (T := TX11) (N := 9) hx hb hU in_X11 hown hK.1 hP 0 rfl rfl 1 (by decide) (hU _ u_251) (fun _ h9 => h9) rfl dX11_putOnTape_8 ?_
  refine lv_sipush (v := 400) hx hb dX11_putOnTape_11 (by decide) ?_
  refine lv_icmp_ge (tgt := 40) hx hb dX11_putOnTape_14 (by decide) (fun c9 => absurd c9 (by decide)) (fun _ => ?_)
  refine lv_aload_n hx hb dX11_putOnTape_17 rfl (lv_at hl 1 rfl) ?_
  refine va_get (D := G) (ci := 10) (v := .ref r1) (C := RX11) (T := TX11) (N := 9) hx hb hU in_X11 hown hK.1 hP 0 rfl rfl 0 (by decide) (hU _ u_250) (fun _ h9 => h9) rfl dX11_putOnTape_18 ?_
  refine lv_aload_n hx hb dX11_putOnTape_21 rfl (lv_at hl 1 rfl) ?_
  refine va_get (D := G) (ci := 10) (v := .int 0) (C := RX11) (T := TX11) (N := 9) hx hb hU in_X11 hown hK.1 hP 0 rfl rfl 1 (by decide) (hU _ u_251) (fun _ h9 => h9) rfl dX11_putOnTape_22 ?_
  refine lv_iload_n hx hb dX11_putOnTape_25 rfl (lv_at hl 2 rfl) ?_
  refine lv_iload_n hx hb dX11_putOnTape_26 rfl (lv_at hl 0 rfl) ?_
  refine lv_iushr hx hb dX11_putOnTape_27 rfl ?_
  refine lv_i2b hx hb dX11_putOnTape_28 rfl ?_
  refine va_bast hx hb hK.1 hP hD hS 1 0 rfl rfl (lx_in (by decide +kernel)) dX11_putOnTape_29 (fun H locs hP hD hS => ?_)
  have hP : va_P G vwCl [(h0, .inr (10, [.ref r1, .int 0, .int (-1), .ref r2, .ref r4, .ref r6, .int (-2), .ref r7, .ref r9])), (r1, .inl (cy 0, 400, .inl (upd f0 (0 : Int32).toNatClampNeg (vp_nar .byte (((((p0).toUInt32 >>> ((24).toUInt32 &&& Int32.toUInt32 31)).toInt32)).toInt8.toInt32)))))] H := hP
  have hD : va_D A [(h0, .inr (10, [.ref r1, .int 0, .int (-1), .ref r2, .ref r4, .ref r6, .int (-2), .ref r7, .ref r9])), (r1, .inl (cy 0, 400, .inl (upd f0 (0 : Int32).toNatClampNeg (vp_nar .byte (((((p0).toUInt32 >>> ((24).toUInt32 &&& Int32.toUInt32 31)).toInt32)).toInt8.toInt32)))))] := hD
  generalize ef_1 : (upd f0 (0 : Int32).toNatClampNeg (vp_nar .byte (((((p0).toUInt32 >>> ((24).toUInt32 &&& Int32.toUInt32 31)).toInt32)).toInt8.toInt32))) = f_1 at hP hD
  refine lv_aload_n hx hb dX11_putOnTape_30 rfl (lv_at hl 1 rfl) ?_
  refine lv_dup hx hb dX11_putOnTape_31 rfl ?_
  refine va_get (D := G) (ci := 10) (v := .int 0) (C := RX11) (T := TX11) (N := 9) hx hb hU in_X11 hown hK.1 hP 0 rfl rfl 1 (by decide) (hU _ u_251) (fun _ h9 => h9) rfl dX11_putOnTape_32 ?_
  refine lv_iconst (v := 1) hx hb dX11_putOnTape_35 (by decide) ?_
  refine lv_iadd hx hb dX11_putOnTape_36 (lx_top (y := 1) (by decide +kernel) ?_)
  refine va_put (D := G) (ci := 10) (v := .int 1) (ty := .int) (C := RX11) (T := TX11) (N := 9) hx hb hU in_X11 tyX11 tyX11_ok nmX11 hown hK.1 hP hD hS 0 rfl rfl 1 (by decide) (hU _ u_251) (fun _ h9 => h9) rfl (by decide +kernel) rfl rfl (Nat.le_of_ble_eq_true rfl) dX11_putOnTape_37 (fun H locs hP hD hS => ?_)
  have hP : va_P G vwCl [(h0, .inr (10, [.ref r1, .int 1, .int (-1), .ref r2, .ref r4, .ref r6, .int (-2), .ref r7, .ref r9])), (r1, .inl (cy 0, 400, .inl f_1))] H := hP
  have hD : va_D A [(h0, .inr (10, [.ref r1, .int 1, .int (-1), .ref r2, .ref r4, .ref r6, .int (-2), .ref r7, .ref r9])), (r1, .inl (cy 0, 400, .inl f_1))] := hD
  refine lv_iinc (v := 16) (lv' := [(2, .int 16), (0, .ref h0), (1, .int p0)]) hx hb dX11_putOnTape_40 hl (k := 0) rfl (by decide) (by decide) rfl (fun ls hl => ?_)
  refine lv_goto (tgt := 3) hx hb dX11_putOnTape_43 (by decide) ?_
  refine lv_iload_n hx hb dX11_putOnTape_3 rfl (lv_at hl 0 rfl) ?_
  refine lv_if_lt (tgt := 46) hx hb dX11_putOnTape_4 (by decide) (fun c9 => absurd c9 (by decide)) (fun _ => ?_)
  refine lv_aload_n hx hb dX11_putOnTape_7 rfl (lv_at hl 1 rfl) ?_
  refine va_get (D := G) (ci := 10) (v := .int 1) (C := RX11) (T := TX11) (N := 9) hx hb hU in_X11 hown hK.1 hP 0 rfl rfl 1 (by decide) (hU _ u_251) (fun _ h9 => h9) rfl dX11_putOnTape_8 ?_
  refine lv_sipush (v := 400) hx hb dX11_putOnTape_11 (by decide) ?_
  refine lv_icmp_ge (tgt := 40) hx hb dX11_putOnTape_14 (by decide) (fun c9 => absurd c9 (by decide)) (fun _ => ?_)
  refine lv_aload_n hx hb dX11_putOnTape_17 rfl (lv_at hl 1 rfl) ?_
  refine va_get (D := G) (ci := 10) (v := .ref r1) (C := RX11) (T := TX11) (N := 9) hx hb hU in_X11 hown hK.1 hP 0 rfl rfl 0 (by decide) (hU _ u_250) (fun _ h9 => h9) rfl dX11_putOnTape_18 ?_
  refine lv_aload_n hx hb dX11_putOnTape_21 rfl (lv_at hl 1 rfl) ?_
  refine va_get (D := G) (ci := 10) (v := .int 1) (C := RX11) (T := TX11) (N := 9) hx hb hU in_X11 hown hK.1 hP 0 rfl rfl 1 (by decide) (hU _ u_251) (fun _ h9 => h9) rfl dX11_putOnTape_22 ?_
  refine lv_iload_n hx hb dX11_putOnTape_25 rfl (lv_at hl 2 rfl) ?_
  refine lv_iload_n hx hb dX11_putOnTape_26 rfl (lv_at hl 0 rfl) ?_
  refine lv_iushr hx hb dX11_putOnTape_27 rfl ?_
  refine lv_i2b hx hb dX11_putOnTape_28 rfl ?_
  refine va_bast hx hb hK.1 hP hD hS 1 0 rfl rfl (lx_in (by decide +kernel)) dX11_putOnTape_29 (fun H locs hP hD hS => ?_)
  have hP : va_P G vwCl [(h0, .inr (10, [.ref r1, .int 1, .int (-1), .ref r2, .ref r4, .ref r6, .int (-2), .ref r7, .ref r9])), (r1, .inl (cy 0, 400, .inl (upd f_1 (1 : Int32).toNatClampNeg (vp_nar .byte (((((p0).toUInt32 >>> ((16).toUInt32 &&& Int32.toUInt32 31)).toInt32)).toInt8.toInt32)))))] H := hP
  have hD : va_D A [(h0, .inr (10, [.ref r1, .int 1, .int (-1), .ref r2, .ref r4, .ref r6, .int (-2), .ref r7, .ref r9])), (r1, .inl (cy 0, 400, .inl (upd f_1 (1 : Int32).toNatClampNeg (vp_nar .byte (((((p0).toUInt32 >>> ((16).toUInt32 &&& Int32.toUInt32 31)).toInt32)).toInt8.toInt32)))))] := hD
  generalize ef_2 : (upd f_1 (1 : Int32).toNatClampNeg (vp_nar .byte (((((p0).toUInt32 >>> ((16).toUInt32 &&& Int32.toUInt32 31)).toInt32)).toInt8.toInt32))) = f_2 at hP hD
  refine lv_aload_n hx hb dX11_putOnTape_30 rfl (lv_at hl 1 rfl) ?_
  refine lv_dup hx hb dX11_putOnTape_31 rfl ?_
  refine va_get (D := G) (ci := 10) (v := .int 1) (C := RX11) (T := TX11) (N := 9) hx hb hU in_X11 hown hK.1 hP 0 rfl rfl 1 (by decide) (hU _ u_251) (fun _ h9 => h9) rfl dX11_putOnTape_32 ?_
  refine lv_iconst (v := 1) hx hb dX11_putOnTape_35 (by decide) ?_
  refine lv_iadd hx hb dX11_putOnTape_36 (lx_top (y := 2) (by decide +kernel) ?_)
  refine va_put (D := G) (ci := 10) (v := .int 2) (ty := .int) (C := RX11) (T := TX11) (N := 9) hx hb hU in_X11 tyX11 tyX11_ok nmX11 hown hK.1 hP hD hS 0 rfl rfl 1 (by decide) (hU _ u_251) (fun _ h9 => h9) rfl (by decide +kernel) rfl rfl (Nat.le_of_ble_eq_true rfl) dX11_putOnTape_37 (fun H locs hP hD hS => ?_)
  have hP : va_P G vwCl [(h0, .inr (10, [.ref r1, .int 2, .int (-1), .ref r2, .ref r4, .ref r6, .int (-2), .ref r7, .ref r9])), (r1, .inl (cy 0, 400, .inl f_2))] H := hP
  have hD : va_D A [(h0, .inr (10, [.ref r1, .int 2, .int (-1), .ref r2, .ref r4, .ref r6, .int (-2), .ref r7, .ref r9])), (r1, .inl (cy 0, 400, .inl f_2))] := hD
  refine lv_iinc (v := 8) (lv' := [(2, .int 8), (0, .ref h0), (1, .int p0)]) hx hb dX11_putOnTape_40 hl (k := 0) rfl (by decide) (by decide) rfl (fun ls hl => ?_)
  refine lv_goto (tgt := 3) hx hb dX11_putOnTape_43 (by decide) ?_
  refine lv_iload_n hx hb dX11_putOnTape_3 rfl (lv_at hl 0 rfl) ?_
  refine lv_if_lt (tgt := 46) hx hb dX11_putOnTape_4 (by decide) (fun c9 => absurd c9 (by decide)) (fun _ => ?_)
  refine lv_aload_n hx hb dX11_putOnTape_7 rfl (lv_at hl 1 rfl) ?_
  refine va_get (D := G) (ci := 10) (v := .int 2) (C := RX11) (T := TX11) (N := 9) hx hb hU in_X11 hown hK.1 hP 0 rfl rfl 1 (by decide) (hU _ u_251) (fun _ h9 => h9) rfl dX11_putOnTape_8 ?_
  refine lv_sipush (v := 400) hx hb dX11_putOnTape_11 (by decide) ?_
  refine lv_icmp_ge (tgt := 40) hx hb dX11_putOnTape_14 (by decide) (fun c9 => absurd c9 (by decide)) (fun _ => ?_)
  refine lv_aload_n hx hb dX11_putOnTape_17 rfl (lv_at hl 1 rfl) ?_
  refine va_get (D := G) (ci := 10) (v := .ref r1) (C := RX11) (T := TX11) (N := 9) hx hb hU in_X11 hown hK.1 hP 0 rfl rfl 0 (by decide) (hU _ u_250) (fun _ h9 => h9) rfl dX11_putOnTape_18 ?_
  refine lv_aload_n hx hb dX11_putOnTape_21 rfl (lv_at hl 1 rfl) ?_
  refine va_get (D := G) (ci := 10) (v := .int 2) (C := RX11) (T := TX11) (N := 9) hx hb hU in_X11 hown hK.1 hP 0 rfl rfl 1 (by decide) (hU _ u_251) (fun _ h9 => h9) rfl dX11_putOnTape_22 ?_
  refine lv_iload_n hx hb dX11_putOnTape_25 rfl (lv_at hl 2 rfl) ?_
  refine lv_iload_n hx hb dX11_putOnTape_26 rfl (lv_at hl 0 rfl) ?_
  refine lv_iushr hx hb dX11_putOnTape_27 rfl ?_
  refine lv_i2b hx hb dX11_putOnTape_28 rfl ?_
  refine va_bast hx hb hK.1 hP hD hS 1 0 rfl rfl (lx_in (by decide +kernel)) dX11_putOnTape_29 (fun H locs hP hD hS => ?_)
  have hP : va_P G vwCl [(h0, .inr (10, [.ref r1, .int 2, .int (-1), .ref r2, .ref r4, .ref r6, .int (-2), .ref r7, .ref r9])), (r1, .inl (cy 0, 400, .inl (upd f_2 (2 : Int32).toNatClampNeg (vp_nar .byte (((((p0).toUInt32 >>> ((8).toUInt32 &&& Int32.toUInt32 31)).toInt32)).toInt8.toInt32)))))] H := hP
  have hD : va_D A [(h0, .inr (10, [.ref r1, .int 2, .int (-1), .ref r2, .ref r4, .ref r6, .int (-2), .ref r7, .ref r9])), (r1, .inl (cy 0, 400, .inl (upd f_2 (2 : Int32).toNatClampNeg (vp_nar .byte (((((p0).toUInt32 >>> ((8).toUInt32 &&& Int32.toUInt32 31)).toInt32)).toInt8.toInt32)))))] := hD
  generalize ef_3 : (upd f_2 (2 : Int32).toNatClampNeg (vp_nar .byte (((((p0).toUInt32 >>> ((8).toUInt32 &&& Int32.toUInt32 31)).toInt32)).toInt8.toInt32))) = f_3 at hP hD
  refine lv_aload_n hx hb dX11_putOnTape_30 rfl (lv_at hl 1 rfl) ?_
  refine lv_dup hx hb dX11_putOnTape_31 rfl ?_
  refine va_get (D := G) (ci := 10) (v := .int 2) (C := RX11) (T := TX11) (N := 9) hx hb hU in_X11 hown hK.1 hP 0 rfl rfl 1 (by decide) (hU _ u_251) (fun _ h9 => h9) rfl dX11_putOnTape_32 ?_
  refine lv_iconst (v := 1) hx hb dX11_putOnTape_35 (by decide) ?_
  refine lv_iadd hx hb dX11_putOnTape_36 (lx_top (y := 3) (by decide +kernel) ?_)
  refine va_put (D := G) (ci := 10) (v := .int 3) (ty := .int) (C := RX11) (T := TX11) (N := 9) hx hb hU in_X11 tyX11 tyX11_ok nmX11 hown hK.1 hP hD hS 0 rfl rfl 1 (by decide) (hU _ u_251) (fun _ h9 => h9) rfl (by decide +kernel) rfl rfl (Nat.le_of_ble_eq_true rfl) dX11_putOnTape_37 (fun H locs hP hD hS => ?_)
  have hP : va_P G vwCl [(h0, .inr (10, [.ref r1, .int 3, .int (-1), .ref r2, .ref r4, .ref r6, .int (-2), .ref r7, .ref r9])), (r1, .inl (cy 0, 400, .inl f_3))] H := hP
  have hD : va_D A [(h0, .inr (10, [.ref r1, .int 3, .int (-1), .ref r2, .ref r4, .ref r6, .int (-2), .ref r7, .ref r9])), (r1, .inl (cy 0, 400, .inl f_3))] := hD
  refine lv_iinc (v := 0) (lv' := [(2, .int 0), (0, .ref h0), (1, .int p0)]) hx hb dX11_putOnTape_40 hl (k := 0) rfl (by decide) (by decide) rfl (fun ls hl => ?_)
  refine lv_goto (tgt := 3) hx hb dX11_putOnTape_43 (by decide) ?_
  refine lv_iload_n hx hb dX11_putOnTape_3 rfl (lv_at hl 0 rfl) ?_
  refine lv_if_lt (tgt := 46) hx hb dX11_putOnTape_4 (by decide) (fun c9 => absurd c9 (by decide)) (fun _ => ?_)
  refine lv_aload_n hx hb dX11_putOnTape_7 rfl (lv_at hl 1 rfl) ?_
  refine va_get (D := G) (ci := 10) (v := .int 3) (C := RX11) (T := TX11) (N := 9) hx hb hU in_X11 hown hK.1 hP 0 rfl rfl 1 (by decide) (hU _ u_251) (fun _ h9 => h9) rfl dX11_putOnTape_8 ?_
  refine lv_sipush (v := 400) hx hb dX11_putOnTape_11 (by decide) ?_
  refine lv_icmp_ge (tgt := 40) hx hb dX11_putOnTape_14 (by decide) (fun c9 => absurd c9 (by decide)) (fun _ => ?_)
  refine lv_aload_n hx hb dX11_putOnTape_17 rfl (lv_at hl 1 rfl) ?_
  refine va_get (D := G) (ci := 10) (v := .ref r1) (C := RX11) (T := TX11) (N := 9) hx hb hU in_X11 hown hK.1 hP 0 rfl rfl 0 (by decide) (hU _ u_250) (fun _ h9 => h9) rfl dX11_putOnTape_18 ?_
  refine lv_aload_n hx hb dX11_putOnTape_21 rfl (lv_at hl 1 rfl) ?_
  refine va_get (D := G) (ci := 10) (v := .int 3) (C := RX11) (T := TX11) (N := 9) hx hb hU in_X11 hown hK.1 hP 0 rfl rfl 1 (by decide) (hU _ u_251) (fun _ h9 => h9) rfl dX11_putOnTape_22 ?_
  refine lv_iload_n hx hb dX11_putOnTape_25 rfl (lv_at hl 2 rfl) ?_
  refine lv_iload_n hx hb dX11_putOnTape_26 rfl (lv_at hl 0 rfl) ?_
  refine lv_iushr hx hb dX11_putOnTape_27 rfl ?_
  refine lv_i2b hx hb dX11_putOnTape_28 rfl ?_
  refine va_bast hx hb hK.1 hP hD hS 1 0 rfl rfl (lx_in (by decide +kernel)) dX11_putOnTape_29 (fun H locs hP hD hS => ?_)
  have hP : va_P G vwCl [(h0, .inr (10, [.ref r1, .int 3, .int (-1), .ref r2, .ref r4, .ref r6, .int (-2), .ref r7, .ref r9])), (r1, .inl (cy 0, 400, .inl (upd f_3 (3 : Int32).toNatClampNeg (vp_nar .byte (((((p0).toUInt32 >>> ((0).toUInt32 &&& Int32.toUInt32 31)).toInt32)).toInt8.toInt32)))))] H := hP
  have hD : va_D A [(h0, .inr (10, [.ref r1, .int 3, .int (-1), .ref r2, .ref r4, .ref r6, .int (-2), .ref r7, .ref r9])), (r1, .inl (cy 0, 400, .inl (upd f_3 (3 : Int32).toNatClampNeg (vp_nar .byte (((((p0).toUInt32 >>> ((0).toUInt32 &&& Int32.toUInt32 31)).toInt32)).toInt8.toInt32)))))] := hD
  generalize ef_4 : (upd f_3 (3 : Int32).toNatClampNeg (vp_nar .byte (((((p0).toUInt32 >>> ((0).toUInt32 &&& Int32.toUInt32 31)).toInt32)).toInt8.toInt32))) = f_4 at hP hD
  refine lv_aload_n hx hb dX11_putOnTape_30 rfl (lv_at hl 1 rfl) ?_
  refine lv_dup hx hb dX11_putOnTape_31 rfl ?_
  refine va_get (D := G) (ci := 10) (v := .int 3) (C := RX11) (T := TX11) (N := 9) hx hb hU in_X11 hown hK.1 hP 0 rfl rfl 1 (by decide) (hU _ u_251) (fun _ h9 => h9) rfl dX11_putOnTape_32 ?_
  refine lv_iconst (v := 1) hx hb dX11_putOnTape_35 (by decide) ?_
  refine lv_iadd hx hb dX11_putOnTape_36 (lx_top (y := 4) (by decide +kernel) ?_)
  refine va_put (D := G) (ci := 10) (v := .int 4) (ty := .int) (C := RX11) (T := TX11) (N := 9) hx hb hU in_X11 tyX11 tyX11_ok nmX11 hown hK.1 hP hD hS 0 rfl rfl 1 (by decide) (hU _ u_251) (fun _ h9 => h9) rfl (by decide +kernel) rfl rfl (Nat.le_of_ble_eq_true rfl) dX11_putOnTape_37 (fun H locs hP hD hS => ?_)
  have hP : va_P G vwCl [(h0, .inr (10, [.ref r1, .int 4, .int (-1), .ref r2, .ref r4, .ref r6, .int (-2), .ref r7, .ref r9])), (r1, .inl (cy 0, 400, .inl f_4))] H := hP
  have hD : va_D A [(h0, .inr (10, [.ref r1, .int 4, .int (-1), .ref r2, .ref r4, .ref r6, .int (-2), .ref r7, .ref r9])), (r1, .inl (cy 0, 400, .inl f_4))] := hD
  refine lv_iinc (v := (-8)) (lv' := [(2, .int (-8)), (0, .ref h0), (1, .int p0)]) hx hb dX11_putOnTape_40 hl (k := 0) rfl (by decide) (by decide) rfl (fun ls hl => ?_)
  refine lv_goto (tgt := 3) hx hb dX11_putOnTape_43 (by decide) ?_
  refine lv_iload_n hx hb dX11_putOnTape_3 rfl (lv_at hl 0 rfl) ?_
  refine lv_if_lt (tgt := 46) hx hb dX11_putOnTape_4 (by decide) (fun _ => ?_) (fun c9 => absurd (by decide) c9)
  exact kt_vret hx hb hr hlocks hP hD hS dX11_putOnTape_46 [0, 1] rfl rfl rfl rfl ⟨f_4, rfl, rfl⟩
set_option maxHeartbeats 4000000 in
set_option maxRecDepth 100000 in
theorem c_X11_putOnTape_4 (l : Launch) (G : va_G) (cy : Nat → ClassId) (h0 : Nat) (r1 : Nat) (r2 : Nat) (r4 : Nat) (r6 : Nat) (r7 : Nat) (r9 : Nat) (f0 : Nat → Int32) (p0 : Int32) : Kt l G cy yX11_putOnTape cX11_putOnTape 3 none ({ frames := 10, cells := 0, slots := 0, locals := 200 } : Room) [.ref h0, .int p0] [(h0, .inr (10, [.ref r1, .int 4, .int (-1), .ref r2, .ref r4, .ref r6, .int (-2), .ref r7, .ref r9])), (r1, .inl (cy 0, 400, .inl f0))] (fun (v : Option Value) (w1 : va_W) => ∃ (f1 : Nat → Int32), v = none ∧ w1 = [(h0, .inr (10, [.ref r1, .int 8, .int (-1), .ref r2, .ref r4, .ref r6, .int (-2), .ref r7, .ref r9])), (r1, .inl (cy 0, 400, .inl f1))]) := by
  refine kt_ofW (by decide) (Nat.le_of_ble_eq_true rfl) ?_
  intro p e s m below meth c A ls hx hb hr hU hown hlocks hml hin hP hK hD hA hS hl
  have hown : s.vm.findClass RX11 = some m.cls := hown
  have hl : lv_has ls 3 [(0, .ref h0), (1, .int p0)] := hl
  refine lv_bipush (v := 24) hx hb dX11_putOnTape_0 (by decide) ?_
  refine lv_istore_n (lv' := [(2, .int 24), (0, .ref h0), (1, .int p0)]) hx hb dX11_putOnTape_2 rfl hl (by decide) rfl (fun ls hl => ?_)
  refine lv_iload_n hx hb dX11_putOnTape_3 rfl (lv_at hl 0 rfl) ?_
  refine lv_if_lt (tgt := 46) hx hb dX11_putOnTape_4 (by decide) (fun c9 => absurd c9 (by decide)) (fun _ => ?_)
  refine lv_aload_n hx hb dX11_putOnTape_7 rfl (lv_at hl 1 rfl) ?_
  refine va_get (D := G) (ci := 10) (v := .int 4) (C := RX11) (T := TX11) (N := 9) hx hb hU in_X11 hown hK.1 hP 0 rfl rfl 1 (by decide) (hU _ u_251) (fun _ h9 => h9) rfl dX11_putOnTape_8 ?_
  refine lv_sipush (v := 400) hx hb dX11_putOnTape_11 (by decide) ?_
  refine lv_icmp_ge (tgt := 40) hx hb dX11_putOnTape_14 (by decide) (fun c9 => absurd c9 (by decide)) (fun _ => ?_)
  refine lv_aload_n hx hb dX11_putOnTape_17 rfl (lv_at hl 1 rfl) ?_
  refine va_get (D := G) (ci := 10) (v := .ref r1) (C := RX11) (T := TX11) (N := 9) hx hb hU in_X11 hown hK.1 hP 0 rfl rfl 0 (by decide) (hU _ u_250) (fun _ h9 => h9) rfl dX11_putOnTape_18 ?_
  refine lv_aload_n hx hb dX11_putOnTape_21 rfl (lv_at hl 1 rfl) ?_
  refine va_get (D := G) (ci := 10) (v := .int 4) (C := RX11) (T := TX11) (N := 9) hx hb hU in_X11 hown hK.1 hP 0 rfl rfl 1 (by decide) (hU _ u_251) (fun _ h9 => h9) rfl dX11_putOnTape_22 ?_
  refine lv_iload_n hx hb dX11_putOnTape_25 rfl (lv_at hl 2 rfl) ?_
  refine lv_iload_n hx hb dX11_putOnTape_26 rfl (lv_at hl 0 rfl) ?_
  refine lv_iushr hx hb dX11_putOnTape_27 rfl ?_
  refine lv_i2b hx hb dX11_putOnTape_28 rfl ?_
  refine va_bast hx hb hK.1 hP hD hS 1 0 rfl rfl (lx_in (by decide +kernel)) dX11_putOnTape_29 (fun H locs hP hD hS => ?_)
  have hP : va_P G vwCl [(h0, .inr (10, [.ref r1, .int 4, .int (-1), .ref r2, .ref r4, .ref r6, .int (-2), .ref r7, .ref r9])), (r1, .inl (cy 0, 400, .inl (upd f0 (4 : Int32).toNatClampNeg (vp_nar .byte (((((p0).toUInt32 >>> ((24).toUInt32 &&& Int32.toUInt32 31)).toInt32)).toInt8.toInt32)))))] H := hP
  have hD : va_D A [(h0, .inr (10, [.ref r1, .int 4, .int (-1), .ref r2, .ref r4, .ref r6, .int (-2), .ref r7, .ref r9])), (r1, .inl (cy 0, 400, .inl (upd f0 (4 : Int32).toNatClampNeg (vp_nar .byte (((((p0).toUInt32 >>> ((24).toUInt32 &&& Int32.toUInt32 31)).toInt32)).toInt8.toInt32)))))] := hD
  generalize ef_1 : (upd f0 (4 : Int32).toNatClampNeg (vp_nar .byte (((((p0).toUInt32 >>> ((24).toUInt32 &&& Int32.toUInt32 31)).toInt32)).toInt8.toInt32))) = f_1 at hP hD
  refine lv_aload_n hx hb dX11_putOnTape_30 rfl (lv_at hl 1 rfl) ?_
  refine lv_dup hx hb dX11_putOnTape_31 rfl ?_
  refine va_get (D := G) (ci := 10) (v := .int 4) (C := RX11) (T := TX11) (N := 9) hx hb hU in_X11 hown hK.1 hP 0 rfl rfl 1 (by decide) (hU _ u_251) (fun _ h9 => h9) rfl dX11_putOnTape_32 ?_
  refine lv_iconst (v := 1) hx hb dX11_putOnTape_35 (by decide) ?_
  refine lv_iadd hx hb dX11_putOnTape_36 (lx_top (y := 5) (by decide +kernel) ?_)
  refine va_put (D := G) (ci := 10) (v := .int 5) (ty := .int) (C := RX11) (T := TX11) (N := 9) hx hb hU in_X11 tyX11 tyX11_ok nmX11 hown hK.1 hP hD hS 0 rfl rfl 1 (by decide) (hU _ u_251) (fun _ h9 => h9) rfl (by decide +kernel) rfl rfl (Nat.le_of_ble_eq_true rfl) dX11_putOnTape_37 (fun H locs hP hD hS => ?_)
  have hP : va_P G vwCl [(h0, .inr (10, [.ref r1, .int 5, .int (-1), .ref r2, .ref r4, .ref r6, .int (-2), .ref r7, .ref r9])), (r1, .inl (cy 0, 400, .inl f_1))] H := hP
  have hD : va_D A [(h0, .inr (10, [.ref r1, .int 5, .int (-1), .ref r2, .ref r4, .ref r6, .int (-2), .ref r7, .ref r9])), (r1, .inl (cy 0, 400, .inl f_1))] := hD
  refine lv_iinc (v := 16) (lv' := [(2, .int 16), (0, .ref h0), (1, .int p0)]) hx hb dX11_putOnTape_40 hl (k := 0) rfl (by decide) (by decide) rfl (fun ls hl => ?_)
  refine lv_goto (tgt := 3) hx hb dX11_putOnTape_43 (by decide) ?_
  refine lv_iload_n hx hb dX11_putOnTape_3 rfl (lv_at hl 0 rfl) ?_
  refine lv_if_lt (tgt := 46) hx hb dX11_putOnTape_4 (by decide) (fun c9 => absurd c9 (by decide)) (fun _ => ?_)
  refine lv_aload_n hx hb dX11_putOnTape_7 rfl (lv_at hl 1 rfl) ?_
  refine va_get (D := G) (ci := 10) (v := .int 5) (C := RX11) (T := TX11) (N := 9) hx hb hU in_X11 hown hK.1 hP 0 rfl rfl 1 (by decide) (hU _ u_251) (fun _ h9 => h9) rfl dX11_putOnTape_8 ?_
  refine lv_sipush (v := 400) hx hb dX11_putOnTape_11 (by decide) ?_
  refine lv_icmp_ge (tgt := 40) hx hb dX11_putOnTape_14 (by decide) (fun c9 => absurd c9 (by decide)) (fun _ => ?_)
  refine lv_aload_n hx hb dX11_putOnTape_17 rfl (lv_at hl 1 rfl) ?_
  refine va_get (D := G) (ci := 10) (v := .ref r1) (C := RX11) (T := TX11) (N := 9) hx hb hU in_X11 hown hK.1 hP 0 rfl rfl 0 (by decide) (hU _ u_250) (fun _ h9 => h9) rfl dX11_putOnTape_18 ?_
  refine lv_aload_n hx hb dX11_putOnTape_21 rfl (lv_at hl 1 rfl) ?_
  refine va_get (D := G) (ci := 10) (v := .int 5) (C := RX11) (T := TX11) (N := 9) hx hb hU in_X11 hown hK.1 hP 0 rfl rfl 1 (by decide) (hU _ u_251) (fun _ h9 => h9) rfl dX11_putOnTape_22 ?_
  refine lv_iload_n hx hb dX11_putOnTape_25 rfl (lv_at hl 2 rfl) ?_
  refine lv_iload_n hx hb dX11_putOnTape_26 rfl (lv_at hl 0 rfl) ?_
  refine lv_iushr hx hb dX11_putOnTape_27 rfl ?_
  refine lv_i2b hx hb dX11_putOnTape_28 rfl ?_
  refine va_bast hx hb hK.1 hP hD hS 1 0 rfl rfl (lx_in (by decide +kernel)) dX11_putOnTape_29 (fun H locs hP hD hS => ?_)
  have hP : va_P G vwCl [(h0, .inr (10, [.ref r1, .int 5, .int (-1), .ref r2, .ref r4, .ref r6, .int (-2), .ref r7, .ref r9])), (r1, .inl (cy 0, 400, .inl (upd f_1 (5 : Int32).toNatClampNeg (vp_nar .byte (((((p0).toUInt32 >>> ((16).toUInt32 &&& Int32.toUInt32 31)).toInt32)).toInt8.toInt32)))))] H := hP
  have hD : va_D A [(h0, .inr (10, [.ref r1, .int 5, .int (-1), .ref r2, .ref r4, .ref r6, .int (-2), .ref r7, .ref r9])), (r1, .inl (cy 0, 400, .inl (upd f_1 (5 : Int32).toNatClampNeg (vp_nar .byte (((((p0).toUInt32 >>> ((16).toUInt32 &&& Int32.toUInt32 31)).toInt32)).toInt8.toInt32)))))] := hD
  generalize ef_2 : (upd f_1 (5 : Int32).toNatClampNeg (vp_nar .byte (((((p0).toUInt32 >>> ((16).toUInt32 &&& Int32.toUInt32 31)).toInt32)).toInt8.toInt32))) = f_2 at hP hD
  refine lv_aload_n hx hb dX11_putOnTape_30 rfl (lv_at hl 1 rfl) ?_
  refine lv_dup hx hb dX11_putOnTape_31 rfl ?_
  refine va_get (D := G) (ci := 10) (v := .int 5) (C := RX11) (T := TX11) (N := 9) hx hb hU in_X11 hown hK.1 hP 0 rfl rfl 1 (by decide) (hU _ u_251) (fun _ h9 => h9) rfl dX11_putOnTape_32 ?_
  refine lv_iconst (v := 1) hx hb dX11_putOnTape_35 (by decide) ?_
  refine lv_iadd hx hb dX11_putOnTape_36 (lx_top (y := 6) (by decide +kernel) ?_)
  refine va_put (D := G) (ci := 10) (v := .int 6) (ty := .int) (C := RX11) (T := TX11) (N := 9) hx hb hU in_X11 tyX11 tyX11_ok nmX11 hown hK.1 hP hD hS 0 rfl rfl 1 (by decide) (hU _ u_251) (fun _ h9 => h9) rfl (by decide +kernel) rfl rfl (Nat.le_of_ble_eq_true rfl) dX11_putOnTape_37 (fun H locs hP hD hS => ?_)
  have hP : va_P G vwCl [(h0, .inr (10, [.ref r1, .int 6, .int (-1), .ref r2, .ref r4, .ref r6, .int (-2), .ref r7, .ref r9])), (r1, .inl (cy 0, 400, .inl f_2))] H := hP
  have hD : va_D A [(h0, .inr (10, [.ref r1, .int 6, .int (-1), .ref r2, .ref r4, .ref r6, .int (-2), .ref r7, .ref r9])), (r1, .inl (cy 0, 400, .inl f_2))] := hD
  refine lv_iinc (v := 8) (lv' := [(2, .int 8), (0, .ref h0), (1, .int p0)]) hx hb dX11_putOnTape_40 hl (k := 0) rfl (by decide) (by decide) rfl (fun ls hl => ?_)
  refine lv_goto (tgt := 3) hx hb dX11_putOnTape_43 (by decide) ?_
  refine lv_iload_n hx hb dX11_putOnTape_3 rfl (lv_at hl 0 rfl) ?_
  refine lv_if_lt (tgt := 46) hx hb dX11_putOnTape_4 (by decide) (fun c9 => absurd c9 (by decide)) (fun _ => ?_)
  refine lv_aload_n hx hb dX11_putOnTape_7 rfl (lv_at hl 1 rfl) ?_
  refine va_get (D := G) (ci := 10) (v := .int 6) (C := RX11) (T := TX11) (N := 9) hx hb hU in_X11 hown hK.1 hP 0 rfl rfl 1 (by decide) (hU _ u_251) (fun _ h9 => h9) rfl dX11_putOnTape_8 ?_
  refine lv_sipush (v := 400) hx hb dX11_putOnTape_11 (by decide) ?_
  refine lv_icmp_ge (tgt := 40) hx hb dX11_putOnTape_14 (by decide) (fun c9 => absurd c9 (by decide)) (fun _ => ?_)
  refine lv_aload_n hx hb dX11_putOnTape_17 rfl (lv_at hl 1 rfl) ?_
  refine va_get (D := G) (ci := 10) (v := .ref r1) (C := RX11) (T := TX11) (N := 9) hx hb hU in_X11 hown hK.1 hP 0 rfl rfl 0 (by decide) (hU _ u_250) (fun _ h9 => h9) rfl dX11_putOnTape_18 ?_
  refine lv_aload_n hx hb dX11_putOnTape_21 rfl (lv_at hl 1 rfl) ?_
  refine va_get (D := G) (ci := 10) (v := .int 6) (C := RX11) (T := TX11) (N := 9) hx hb hU in_X11 hown hK.1 hP 0 rfl rfl 1 (by decide) (hU _ u_251) (fun _ h9 => h9) rfl dX11_putOnTape_22 ?_
  refine lv_iload_n hx hb dX11_putOnTape_25 rfl (lv_at hl 2 rfl) ?_
  refine lv_iload_n hx hb dX11_putOnTape_26 rfl (lv_at hl 0 rfl) ?_
  refine lv_iushr hx hb dX11_putOnTape_27 rfl ?_
  refine lv_i2b hx hb dX11_putOnTape_28 rfl ?_
  refine va_bast hx hb hK.1 hP hD hS 1 0 rfl rfl (lx_in (by decide +kernel)) dX11_putOnTape_29 (fun H locs hP hD hS => ?_)
  have hP : va_P G vwCl [(h0, .inr (10, [.ref r1, .int 6, .int (-1), .ref r2, .ref r4, .ref r6, .int (-2), .ref r7, .ref r9])), (r1, .inl (cy 0, 400, .inl (upd f_2 (6 : Int32).toNatClampNeg (vp_nar .byte (((((p0).toUInt32 >>> ((8).toUInt32 &&& Int32.toUInt32 31)).toInt32)).toInt8.toInt32)))))] H := hP
  have hD : va_D A [(h0, .inr (10, [.ref r1, .int 6, .int (-1), .ref r2, .ref r4, .ref r6, .int (-2), .ref r7, .ref r9])), (r1, .inl (cy 0, 400, .inl (upd f_2 (6 : Int32).toNatClampNeg (vp_nar .byte (((((p0).toUInt32 >>> ((8).toUInt32 &&& Int32.toUInt32 31)).toInt32)).toInt8.toInt32)))))] := hD
  generalize ef_3 : (upd f_2 (6 : Int32).toNatClampNeg (vp_nar .byte (((((p0).toUInt32 >>> ((8).toUInt32 &&& Int32.toUInt32 31)).toInt32)).toInt8.toInt32))) = f_3 at hP hD
  refine lv_aload_n hx hb dX11_putOnTape_30 rfl (lv_at hl 1 rfl) ?_
  refine lv_dup hx hb dX11_putOnTape_31 rfl ?_
  refine va_get (D := G) (ci := 10) (v := .int 6) (C := RX11) (T := TX11) (N := 9) hx hb hU in_X11 hown hK.1 hP 0 rfl rfl 1 (by decide) (hU _ u_251) (fun _ h9 => h9) rfl dX11_putOnTape_32 ?_
  refine lv_iconst (v := 1) hx hb dX11_putOnTape_35 (by decide) ?_
  refine lv_iadd hx hb dX11_putOnTape_36 (lx_top (y := 7) (by decide +kernel) ?_)
  refine va_put (D := G) (ci := 10) (v := .int 7) (ty := .int) (C := RX11) (T := TX11) (N := 9) hx hb hU in_X11 tyX11 tyX11_ok nmX11 hown hK.1 hP hD hS 0 rfl rfl 1 (by decide) (hU _ u_251) (fun _ h9 => h9) rfl (by decide +kernel) rfl rfl (Nat.le_of_ble_eq_true rfl) dX11_putOnTape_37 (fun H locs hP hD hS => ?_)
  have hP : va_P G vwCl [(h0, .inr (10, [.ref r1, .int 7, .int (-1), .ref r2, .ref r4, .ref r6, .int (-2), .ref r7, .ref r9])), (r1, .inl (cy 0, 400, .inl f_3))] H := hP
  have hD : va_D A [(h0, .inr (10, [.ref r1, .int 7, .int (-1), .ref r2, .ref r4, .ref r6, .int (-2), .ref r7, .ref r9])), (r1, .inl (cy 0, 400, .inl f_3))] := hD
  refine lv_iinc (v := 0) (lv' := [(2, .int 0), (0, .ref h0), (1, .int p0)]) hx hb dX11_putOnTape_40 hl (k := 0) rfl (by decide) (by decide) rfl (fun ls hl => ?_)
  refine lv_goto (tgt := 3) hx hb dX11_putOnTape_43 (by decide) ?_
  refine lv_iload_n hx hb dX11_putOnTape_3 rfl (lv_at hl 0 rfl) ?_
  refine lv_if_lt (tgt := 46) hx hb dX11_putOnTape_4 (by decide) (fun c9 => absurd c9 (by decide)) (fun _ => ?_)
  refine lv_aload_n hx hb dX11_putOnTape_7 rfl (lv_at hl 1 rfl) ?_
  refine va_get (D := G) (ci := 10) (v := .int 7) (C := RX11) (T := TX11) (N := 9) hx hb hU in_X11 hown hK.1 hP 0 rfl rfl 1 (by decide) (hU _ u_251) (fun _ h9 => h9) rfl dX11_putOnTape_8 ?_
  refine lv_sipush (v := 400) hx hb dX11_putOnTape_11 (by decide) ?_
  refine lv_icmp_ge (tgt := 40) hx hb dX11_putOnTape_14 (by decide) (fun c9 => absurd c9 (by decide)) (fun _ => ?_)
  refine lv_aload_n hx hb dX11_putOnTape_17 rfl (lv_at hl 1 rfl) ?_
  refine va_get (D := G) (ci := 10) (v := .ref r1) (C := RX11) (T := TX11) (N := 9) hx hb hU in_X11 hown hK.1 hP 0 rfl rfl 0 (by decide) (hU _ u_250) (fun _ h9 => h9) rfl dX11_putOnTape_18 ?_
  refine lv_aload_n hx hb dX11_putOnTape_21 rfl (lv_at hl 1 rfl) ?_
  refine va_get (D := G) (ci := 10) (v := .int 7) (C := RX11) (T := TX11) (N := 9) hx hb hU in_X11 hown hK.1 hP 0 rfl rfl 1 (by decide) (hU _ u_251) (fun _ h9 => h9) rfl dX11_putOnTape_22 ?_
  refine lv_iload_n hx hb dX11_putOnTape_25 rfl (lv_at hl 2 rfl) ?_
  refine lv_iload_n hx hb dX11_putOnTape_26 rfl (lv_at hl 0 rfl) ?_
  refine lv_iushr hx hb dX11_putOnTape_27 rfl ?_
  refine lv_i2b hx hb dX11_putOnTape_28 rfl ?_
  refine va_bast hx hb hK.1 hP hD hS 1 0 rfl rfl (lx_in (by decide +kernel)) dX11_putOnTape_29 (fun H locs hP hD hS => ?_)
  have hP : va_P G vwCl [(h0, .inr (10, [.ref r1, .int 7, .int (-1), .ref r2, .ref r4, .ref r6, .int (-2), .ref r7, .ref r9])), (r1, .inl (cy 0, 400, .inl (upd f_3 (7 : Int32).toNatClampNeg (vp_nar .byte (((((p0).toUInt32 >>> ((0).toUInt32 &&& Int32.toUInt32 31)).toInt32)).toInt8.toInt32)))))] H := hP
  have hD : va_D A [(h0, .inr (10, [.ref r1, .int 7, .int (-1), .ref r2, .ref r4, .ref r6, .int (-2), .ref r7, .ref r9])), (r1, .inl (cy 0, 400, .inl (upd f_3 (7 : Int32).toNatClampNeg (vp_nar .byte (((((p0).toUInt32 >>> ((0).toUInt32 &&& Int32.toUInt32 31)).toInt32)).toInt8.toInt32)))))] := hD
  generalize ef_4 : (upd f_3 (7 : Int32).toNatClampNeg (vp_nar .byte (((((p0).toUInt32 >>> ((0).toUInt32 &&& Int32.toUInt32 31)).toInt32)).toInt8.toInt32))) = f_4 at hP hD
  refine lv_aload_n hx hb dX11_putOnTape_30 rfl (lv_at hl 1 rfl) ?_
  refine lv_dup hx hb dX11_putOnTape_31 rfl ?_
  refine va_get (D := G) (ci := 10) (v := .int 7) (C := RX11) (T := TX11) (N := 9) hx hb hU in_X11 hown hK.1 hP 0 rfl rfl 1 (by decide) (hU _ u_251) (fun _ h9 => h9) rfl dX11_putOnTape_32 ?_
  refine lv_iconst (v := 1) hx hb dX11_putOnTape_35 (by decide) ?_
  refine lv_iadd hx hb dX11_putOnTape_36 (lx_top (y := 8) (by decide +kernel) ?_)
  refine va_put (D := G) (ci := 10) (v := .int 8) (ty := .int) (C := RX11) (T := TX11) (N := 9) hx hb hU in_X11 tyX11 tyX11_ok nmX11 hown hK.1 hP hD hS 0 rfl rfl 1 (by decide) (hU _ u_251) (fun _ h9 => h9) rfl (by decide +kernel) rfl rfl (Nat.le_of_ble_eq_true rfl) dX11_putOnTape_37 (fun H locs hP hD hS => ?_)
  have hP : va_P G vwCl [(h0, .inr (10, [.ref r1, .int 8, .int (-1), .ref r2, .ref r4, .ref r6, .int (-2), .ref r7, .ref r9])), (r1, .inl (cy 0, 400, .inl f_4))] H := hP
  have hD : va_D A [(h0, .inr (10, [.ref r1, .int 8, .int (-1), .ref r2, .ref r4, .ref r6, .int (-2), .ref r7, .ref r9])), (r1, .inl (cy 0, 400, .inl f_4))] := hD
  refine lv_iinc (v := (-8)) (lv' := [(2, .int (-8)), (0, .ref h0), (1, .int p0)]) hx hb dX11_putOnTape_40 hl (k := 0) rfl (by decide) (by decide) rfl (fun ls hl => ?_)
  refine lv_goto (tgt := 3) hx hb dX11_putOnTape_43 (by decide) ?_
  refine lv_iload_n hx hb dX11_putOnTape_3 rfl (lv_at hl 0 rfl) ?_
  refine lv_if_lt (tgt := 46) hx hb dX11_putOnTape_4 (by decide) (fun _ => ?_) (fun c9 => absurd (by decide) c9)
  exact kt_vret hx hb hr hlocks hP hD hS dX11_putOnTape_46 [0, 1] rfl rfl rfl rfl ⟨f_4, rfl, rfl⟩
set_option maxHeartbeats 4000000 in
set_option maxRecDepth 100000 in
theorem c_X11_putOnTape_8 (l : Launch) (G : va_G) (cy : Nat → ClassId) (h0 : Nat) (r1 : Nat) (r2 : Nat) (r4 : Nat) (r6 : Nat) (r7 : Nat) (r9 : Nat) (f0 : Nat → Int32) (p0 : Int32) : Kt l G cy yX11_putOnTape cX11_putOnTape 3 none ({ frames := 10, cells := 0, slots := 0, locals := 200 } : Room) [.ref h0, .int p0] [(h0, .inr (10, [.ref r1, .int 8, .int (-1), .ref r2, .ref r4, .ref r6, .int (-2), .ref r7, .ref r9])), (r1, .inl (cy 0, 400, .inl f0))] (fun (v : Option Value) (w1 : va_W) => ∃ (f1 : Nat → Int32), v = none ∧ w1 = [(h0, .inr (10, [.ref r1, .int 12, .int (-1), .ref r2, .ref r4, .ref r6, .int (-2), .ref r7, .ref r9])), (r1, .inl (cy 0, 400, .inl f1))]) := by
  refine kt_ofW (by decide) (Nat.le_of_ble_eq_true rfl) ?_
  intro p e s m below meth c A ls hx hb hr hU hown hlocks hml hin hP hK hD hA hS hl
  have hown : s.vm.findClass RX11 = some m.cls := hown
  have hl : lv_has ls 3 [(0, .ref h0), (1, .int p0)] := hl
  refine lv_bipush (v := 24) hx hb dX11_putOnTape_0 (by decide) ?_
  refine lv_istore_n (lv' := [(2, .int 24), (0, .ref h0), (1, .int p0)]) hx hb dX11_putOnTape_2 rfl hl (by decide) rfl (fun ls hl => ?_)
  refine lv_iload_n hx hb dX11_putOnTape_3 rfl (lv_at hl 0 rfl) ?_
  refine lv_if_lt (tgt := 46) hx hb dX11_putOnTape_4 (by decide) (fun c9 => absurd c9 (by decide)) (fun _ => ?_)
  refine lv_aload_n hx hb dX11_putOnTape_7 rfl (lv_at hl 1 rfl) ?_
  refine va_get (D := G) (ci := 10) (v := .int 8) (C := RX11) (T := TX11) (N := 9) hx hb hU in_X11 hown hK.1 hP 0 rfl rfl 1 (by decide) (hU _ u_251) (fun _ h9 => h9) rfl dX11_putOnTape_8 ?_
  refine lv_sipush (v := 400) hx hb dX11_putOnTape_11 (by decide) ?_
  refine lv_icmp_ge (tgt := 40) hx hb dX11_putOnTape_14 (by decide) (fun c9 => absurd c9 (by decide)) (fun _ => ?_)
  refine lv_aload_n hx hb dX11_putOnTape_17 rfl (lv_at hl 1 rfl) ?_
  refine va_get (D := G) (ci := 10) (v := .ref r1) (C := RX11) (T := TX11) (N := 9) hx hb hU in_X11 hown hK.1 hP 0 rfl rfl 0 (by decide) (hU _ u_250) (fun _ h9 => h9) rfl dX11_putOnTape_18 ?_
  refine lv_aload_n hx hb dX11_putOnTape_21 rfl (lv_at hl 1 rfl) ?_
  refine va_get (D := G) (ci := 10) (v := .int 8) (C := RX11) (T := TX11) (N := 9) hx hb hU in_X11 hown hK.1 hP 0 rfl rfl 1 (by decide) (hU _ u_251) (fun _ h9 => h9) rfl dX11_putOnTape_22 ?_
  refine lv_iload_n hx hb dX11_putOnTape_25 rfl (lv_at hl 2 rfl) ?_
  refine lv_iload_n hx hb dX11_putOnTape_26 rfl (lv_at hl 0 rfl) ?_
  refine lv_iushr hx hb dX11_putOnTape_27 rfl ?_
  refine lv_i2b hx hb dX11_putOnTape_28 rfl ?_
  refine va_bast hx hb hK.1 hP hD hS 1 0 rfl rfl (lx_in (by decide +kernel)) dX11_putOnTape_29 (fun H locs hP hD hS => ?_)
  have hP : va_P G vwCl [(h0, .inr (10, [.ref r1, .int 8, .int (-1), .ref r2, .ref r4, .ref r6, .int (-2), .ref r7, .ref r9])), (r1, .inl (cy 0, 400, .inl (upd f0 (8 : Int32).toNatClampNeg (vp_nar .byte (((((p0).toUInt32 >>> ((24).toUInt32 &&& Int32.toUInt32 31)).toInt32)).toInt8.toInt32)))))] H := hP
  have hD : va_D A [(h0, .inr (10, [.ref r1, .int 8, .int (-1), .ref r2, .ref r4, .ref r6, .int (-2), .ref r7, .ref r9])), (r1, .inl (cy 0, 400, .inl (upd f0 (8 : Int32).toNatClampNeg (vp_nar .byte (((((p0).toUInt32 >>> ((24).toUInt32 &&& Int32.toUInt32 31)).toInt32)).toInt8.toInt32)))))] := hD
  generalize ef_1 : (upd f0 (8 : Int32).toNatClampNeg (vp_nar .byte (((((p0).toUInt32 >>> ((24).toUInt32 &&& Int32.toUInt32 31)).toInt32)).toInt8.toInt32))) = f_1 at hP hD
  refine lv_aload_n hx hb dX11_putOnTape_30 rfl (lv_at hl 1 rfl) ?_
  refine lv_dup hx hb dX11_putOnTape_31 rfl ?_
  refine va_get (D := G) (ci := 10) (v := .int 8) (C := RX11) (T := TX11) (N := 9) hx hb hU in_X11 hown hK.1 hP 0 rfl rfl 1 (by decide) (hU _ u_251) (fun _ h9 => h9) rfl dX11_putOnTape_32 ?_
  refine lv_iconst (v := 1) hx hb dX11_putOnTape_35 (by decide) ?_
  refine lv_iadd hx hb dX11_putOnTape_36 (lx_top (y := 9) (by decide +kernel) ?_)
  refine va_put (D := G) (ci := 10) (v := .int 9) (ty := .int) (C := RX11) (T := TX11) (N := 9) hx hb hU in_X11 tyX11 tyX11_ok nmX11 hown hK.1 hP hD hS 0 rfl rfl 1 (by decide) (hU _ u_251) (fun _ h9 => h9) rfl (by decide +kernel) rfl rfl (Nat.le_of_ble_eq_true rfl) dX11_putOnTape_37 (fun H locs hP hD hS => ?_)
  have hP : va_P G vwCl [(h0, .inr (10, [.ref r1, .int 9, .int (-1), .ref r2, .ref r4, .ref r6, .int (-2), .ref r7, .ref r9])), (r1, .inl (cy 0, 400, .inl f_1))] H := hP
  have hD : va_D A [(h0, .inr (10, [.ref r1, .int 9, .int (-1), .ref r2, .ref r4, .ref r6, .int (-2), .ref r7, .ref r9])), (r1, .inl (cy 0, 400, .inl f_1))] := hD
  refine lv_iinc (v := 16) (lv' := [(2, .int 16), (0, .ref h0), (1, .int p0)]) hx hb dX11_putOnTape_40 hl (k := 0) rfl (by decide) (by decide) rfl (fun ls hl => ?_)
  refine lv_goto (tgt := 3) hx hb dX11_putOnTape_43 (by decide) ?_
  refine lv_iload_n hx hb dX11_putOnTape_3 rfl (lv_at hl 0 rfl) ?_
  refine lv_if_lt (tgt := 46) hx hb dX11_putOnTape_4 (by decide) (fun c9 => absurd c9 (by decide)) (fun _ => ?_)
  refine lv_aload_n hx hb dX11_putOnTape_7 rfl (lv_at hl 1 rfl) ?_
  refine va_get (D := G) (ci := 10) (v := .int 9) (C := RX11) (T := TX11) (N := 9) hx hb hU in_X11 hown hK.1 hP 0 rfl rfl 1 (by decide) (hU _ u_251) (fun _ h9 => h9) rfl dX11_putOnTape_8 ?_
  refine lv_sipush (v := 400) hx hb dX11_putOnTape_11 (by decide) ?_
  refine lv_icmp_ge (tgt := 40) hx hb dX11_putOnTape_14 (by decide) (fun c9 => absurd c9 (by decide)) (fun _ => ?_)
  refine lv_aload_n hx hb dX11_putOnTape_17 rfl (lv_at hl 1 rfl) ?_
  refine va_get (D := G) (ci := 10) (v := .ref r1) (C := RX11) (T := TX11) (N := 9) hx hb hU in_X11 hown hK.1 hP 0 rfl rfl 0 (by decide) (hU _ u_250) (fun _ h9 => h9) rfl dX11_putOnTape_18 ?_
  refine lv_aload_n hx hb dX11_putOnTape_21 rfl (lv_at hl 1 rfl) ?_
  refine va_get (D := G) (ci := 10) (v := .int 9) (C := RX11) (T := TX11) (N := 9) hx hb hU in_X11 hown hK.1 hP 0 rfl rfl 1 (by decide) (hU _ u_251) (fun _ h9 => h9) rfl dX11_putOnTape_22 ?_
  refine lv_iload_n hx hb dX11_putOnTape_25 rfl (lv_at hl 2 rfl) ?_
  refine lv_iload_n hx hb dX11_putOnTape_26 rfl (lv_at hl 0 rfl) ?_
  refine lv_iushr hx hb dX11_putOnTape_27 rfl ?_
  refine lv_i2b hx hb dX11_putOnTape_28 rfl ?_
  refine va_bast hx hb hK.1 hP hD hS 1 0 rfl rfl (lx_in (by decide +kernel)) dX11_putOnTape_29 (fun H locs hP hD hS => ?_)
  have hP : va_P G vwCl [(h0, .inr (10, [.ref r1, .int 9, .int (-1), .ref r2, .ref r4, .ref r6, .int (-2), .ref r7, .ref r9])), (r1, .inl (cy 0, 400, .inl (upd f_1 (9 : Int32).toNatClampNeg (vp_nar .byte (((((p0).toUInt32 >>> ((16).toUInt32 &&& Int32.toUInt32 31)).toInt32)).toInt8.toInt32)))))] H := hP
  have hD : va_D A [(h0, .inr (10, [.ref r1, .int 9, .int (-1), .ref r2, .ref r4, .ref r6, .int (-2), .ref r7, .ref r9])), (r1, .inl (cy 0, 400, .inl (upd f_1 (9 : Int32).toNatClampNeg (vp_nar .byte (((((p0).toUInt32 >>> ((16).toUInt32 &&& Int32.toUInt32 31)).toInt32)).toInt8.toInt32)))))] := hD
  generalize ef_2 : (upd f_1 (9 : Int32).toNatClampNeg (vp_nar .byte (((((p0).toUInt32 >>> ((16).toUInt32 &&& Int32.toUInt32 31)).toInt32)).toInt8.toInt32))) = f_2 at hP hD
  refine lv_aload_n hx hb dX11_putOnTape_30 rfl (lv_at hl 1 rfl) ?_
  refine lv_dup hx hb dX11_putOnTape_31 rfl ?_
  refine va_get (D := G) (ci := 10) (v := .int 9) (C := RX11) (T := TX11) (N := 9) hx hb hU in_X11 hown hK.1 hP 0 rfl rfl 1 (by decide) (hU _ u_251) (fun _ h9 => h9) rfl dX11_putOnTape_32 ?_
  refine lv_iconst (v := 1) hx hb dX11_putOnTape_35 (by decide) ?_
  refine lv_iadd hx hb dX11_putOnTape_36 (lx_top (y := 10) (by decide +kernel) ?_)
  refine va_put (D := G) (ci := 10) (v := .int 10) (ty := .int) (C := RX11) (T := TX11) (N := 9) hx hb hU in_X11 tyX11 tyX11_ok nmX11 hown hK.1 hP hD hS 0 rfl rfl 1 (by decide) (hU _ u_251) (fun _ h9 => h9) rfl (by decide +kernel) rfl rfl (Nat.le_of_ble_eq_true rfl) dX11_putOnTape_37 (fun H locs hP hD hS => ?_)
  have hP : va_P G vwCl [(h0, .inr (10, [.ref r1, .int 10, .int (-1), .ref r2, .ref r4, .ref r6, .int (-2), .ref r7, .ref r9])), (r1, .inl (cy 0, 400, .inl f_2))] H := hP
  have hD : va_D A [(h0, .inr (10, [.ref r1, .int 10, .int (-1), .ref r2, .ref r4, .ref r6, .int (-2), .ref r7, .ref r9])), (r1, .inl (cy 0, 400, .inl f_2))] := hD
  refine lv_iinc (v := 8) (lv' := [(2, .int 8), (0, .ref h0), (1, .int p0)]) hx hb dX11_putOnTape_40 hl (k := 0) rfl (by decide) (by decide) rfl (fun ls hl => ?_)
  refine lv_goto (tgt := 3) hx hb dX11_putOnTape_43 (by decide) ?_
  refine lv_iload_n hx hb dX11_putOnTape_3 rfl (lv_at hl 0 rfl) ?_
  refine lv_if_lt (tgt := 46) hx hb dX11_putOnTape_4 (by decide) (fun c9 => absurd c9 (by decide)) (fun _ => ?_)
  refine lv_aload_n hx hb dX11_putOnTape_7 rfl (lv_at hl 1 rfl) ?_
  refine va_get (D := G) (ci := 10) (v := .int 10) (C := RX11) (T := TX11) (N := 9) hx hb hU in_X11 hown hK.1 hP 0 rfl rfl 1 (by decide) (hU _ u_251) (fun _ h9 => h9) rfl dX11_putOnTape_8 ?_
  refine lv_sipush (v := 400) hx hb dX11_putOnTape_11 (by decide) ?_
  refine lv_icmp_ge (tgt := 40) hx hb dX11_putOnTape_14 (by decide) (fun c9 => absurd c9 (by decide)) (fun _ => ?_)
  refine lv_aload_n hx hb dX11_putOnTape_17 rfl (lv_at hl 1 rfl) ?_
  refine va_get (D := G) (ci := 10) (v := .ref r1) (C := RX11) (T := TX11) (N := 9) hx hb hU in_X11 hown hK.1 hP 0 rfl rfl 0 (by decide) (hU _ u_250) (fun _ h9 => h9) rfl dX11_putOnTape_18 ?_
  refine lv_aload_n hx hb dX11_putOnTape_21 rfl (lv_at hl 1 rfl) ?_
  refine va_get (D := G) (ci := 10) (v := .int 10) (C := RX11) (T := TX11) (N := 9) hx hb hU in_X11 hown hK.1 hP 0 rfl rfl 1 (by decide) (hU _ u_251) (fun _ h9 => h9) rfl dX11_putOnTape_22 ?_
  refine lv_iload_n hx hb dX11_putOnTape_25 rfl (lv_at hl 2 rfl) ?_
  refine lv_iload_n hx hb dX11_putOnTape_26 rfl (lv_at hl 0 rfl) ?_
  refine lv_iushr hx hb dX11_putOnTape_27 rfl ?_
  refine lv_i2b hx hb dX11_putOnTape_28 rfl ?_
  refine va_bast hx hb hK.1 hP hD hS 1 0 rfl rfl (lx_in (by decide +kernel)) dX11_putOnTape_29 (fun H locs hP hD hS => ?_)
  have hP : va_P G vwCl [(h0, .inr (10, [.ref r1, .int 10, .int (-1), .ref r2, .ref r4, .ref r6, .int (-2), .ref r7, .ref r9])), (r1, .inl (cy 0, 400, .inl (upd f_2 (10 : Int32).toNatClampNeg (vp_nar .byte (((((p0).toUInt32 >>> ((8).toUInt32 &&& Int32.toUInt32 31)).toInt32)).toInt8.toInt32)))))] H := hP
  have hD : va_D A [(h0, .inr (10, [.ref r1, .int 10, .int (-1), .ref r2, .ref r4, .ref r6, .int (-2), .ref r7, .ref r9])), (r1, .inl (cy 0, 400, .inl (upd f_2 (10 : Int32).toNatClampNeg (vp_nar .byte (((((p0).toUInt32 >>> ((8).toUInt32 &&& Int32.toUInt32 31)).toInt32)).toInt8.toInt32)))))] := hD
  generalize ef_3 : (upd f_2 (10 : Int32).toNatClampNeg (vp_nar .byte (((((p0).toUInt32 >>> ((8).toUInt32 &&& Int32.toUInt32 31)).toInt32)).toInt8.toInt32))) = f_3 at hP hD
  refine lv_aload_n hx hb dX11_putOnTape_30 rfl (lv_at hl 1 rfl) ?_
  refine lv_dup hx hb dX11_putOnTape_31 rfl ?_
  refine va_get (D := G) (ci := 10) (v := .int 10) (C := RX11) (T := TX11) (N := 9) hx hb hU in_X11 hown hK.1 hP 0 rfl rfl 1 (by decide) (hU _ u_251) (fun _ h9 => h9) rfl dX11_putOnTape_32 ?_
  refine lv_iconst (v := 1) hx hb dX11_putOnTape_35 (by decide) ?_
  refine lv_iadd hx hb dX11_putOnTape_36 (lx_top (y := 11) (by decide +kernel) ?_)
  refine va_put (D := G) (ci := 10) (v := .int 11) (ty := .int) (C := RX11) (T := TX11) (N := 9) hx hb hU in_X11 tyX11 tyX11_ok nmX11 hown hK.1 hP hD hS 0 rfl rfl 1 (by decide) (hU _ u_251) (fun _ h9 => h9) rfl (by decide +kernel) rfl rfl (Nat.le_of_ble_eq_true rfl) dX11_putOnTape_37 (fun H locs hP hD hS => ?_)
  have hP : va_P G vwCl [(h0, .inr (10, [.ref r1, .int 11, .int (-1), .ref r2, .ref r4, .ref r6, .int (-2), .ref r7, .ref r9])), (r1, .inl (cy 0, 400, .inl f_3))] H := hP
  have hD : va_D A [(h0, .inr (10, [.ref r1, .int 11, .int (-1), .ref r2, .ref r4, .ref r6, .int (-2), .ref r7, .ref r9])), (r1, .inl (cy 0, 400, .inl f_3))] := hD
  refine lv_iinc (v := 0) (lv' := [(2, .int 0), (0, .ref h0), (1, .int p0)]) hx hb dX11_putOnTape_40 hl (k := 0) rfl (by decide) (by decide) rfl (fun ls hl => ?_)
  refine lv_goto (tgt := 3) hx hb dX11_putOnTape_43 (by decide) ?_
  refine lv_iload_n hx hb dX11_putOnTape_3 rfl (lv_at hl 0 rfl) ?_
  refine lv_if_lt (tgt := 46) hx hb dX11_putOnTape_4 (by decide) (fun c9 => absurd c9 (by decide)) (fun _ => ?_)
  refine lv_aload_n hx hb dX11_putOnTape_7 rfl (lv_at hl 1 rfl) ?_
  refine va_get (D := G) (ci := 10) (v := .int 11) (C := RX11) (T := TX11) (N := 9) hx hb hU in_X11 hown hK.1 hP 0 rfl rfl 1 (by decide) (hU _ u_251) (fun _ h9 => h9) rfl dX11_putOnTape_8 ?_
  refine lv_sipush (v := 400) hx hb dX11_putOnTape_11 (by decide) ?_
  refine lv_icmp_ge (tgt := 40) hx hb dX11_putOnTape_14 (by decide) (fun c9 => absurd c9 (by decide)) (fun _ => ?_)
  refine lv_aload_n hx hb dX11_putOnTape_17 rfl (lv_at hl 1 rfl) ?_
  refine va_get (D := G) (ci := 10) (v := .ref r1) (C := RX11) (T := TX11) (N := 9) hx hb hU in_X11 hown hK.1 hP 0 rfl rfl 0 (by decide) (hU _ u_250) (fun _ h9 => h9) rfl dX11_putOnTape_18 ?_
  refine lv_aload_n hx hb dX11_putOnTape_21 rfl (lv_at hl 1 rfl) ?_
  refine va_get (D := G) (ci := 10) (v := .int 11) (C := RX11) (T := TX11) (N := 9) hx hb hU in_X11 hown hK.1 hP 0 rfl rfl 1 (by decide) (hU _ u_251) (fun _ h9 => h9) rfl dX11_putOnTape_22 ?_
  refine lv_iload_n hx hb dX11_putOnTape_25 rfl (lv_at hl 2 rfl) ?_
  refine lv_iload_n hx hb dX11_putOnTape_26 rfl (lv_at hl 0 rfl) ?_
  refine lv_iushr hx hb dX11_putOnTape_27 rfl ?_
  refine lv_i2b hx hb dX11_putOnTape_28 rfl ?_
  refine va_bast hx hb hK.1 hP hD hS 1 0 rfl rfl (lx_in (by decide +kernel)) dX11_putOnTape_29 (fun H locs hP hD hS => ?_)
  have hP : va_P G vwCl [(h0, .inr (10, [.ref r1, .int 11, .int (-1), .ref r2, .ref r4, .ref r6, .int (-2), .ref r7, .ref r9])), (r1, .inl (cy 0, 400, .inl (upd f_3 (11 : Int32).toNatClampNeg (vp_nar .byte (((((p0).toUInt32 >>> ((0).toUInt32 &&& Int32.toUInt32 31)).toInt32)).toInt8.toInt32)))))] H := hP
  have hD : va_D A [(h0, .inr (10, [.ref r1, .int 11, .int (-1), .ref r2, .ref r4, .ref r6, .int (-2), .ref r7, .ref r9])), (r1, .inl (cy 0, 400, .inl (upd f_3 (11 : Int32).toNatClampNeg (vp_nar .byte (((((p0).toUInt32 >>> ((0).toUInt32 &&& Int32.toUInt32 31)).toInt32)).toInt8.toInt32)))))] := hD
  generalize ef_4 : (upd f_3 (11 : Int32).toNatClampNeg (vp_nar .byte (((((p0).toUInt32 >>> ((0).toUInt32 &&& Int32.toUInt32 31)).toInt32)).toInt8.toInt32))) = f_4 at hP hD
  refine lv_aload_n hx hb dX11_putOnTape_30 rfl (lv_at hl 1 rfl) ?_
  refine lv_dup hx hb dX11_putOnTape_31 rfl ?_
  refine va_get (D := G) (ci := 10) (v := .int 11) (C := RX11) (T := TX11) (N := 9) hx hb hU in_X11 hown hK.1 hP 0 rfl rfl 1 (by decide) (hU _ u_251) (fun _ h9 => h9) rfl dX11_putOnTape_32 ?_
  refine lv_iconst (v := 1) hx hb dX11_putOnTape_35 (by decide) ?_
  refine lv_iadd hx hb dX11_putOnTape_36 (lx_top (y := 12) (by decide +kernel) ?_)
  refine va_put (D := G) (ci := 10) (v := .int 12) (ty := .int) (C := RX11) (T := TX11) (N := 9) hx hb hU in_X11 tyX11 tyX11_ok nmX11 hown hK.1 hP hD hS 0 rfl rfl 1 (by decide) (hU _ u_251) (fun _ h9 => h9) rfl (by decide +kernel) rfl rfl (Nat.le_of_ble_eq_true rfl) dX11_putOnTape_37 (fun H locs hP hD hS => ?_)
  have hP : va_P G vwCl [(h0, .inr (10, [.ref r1, .int 12, .int (-1), .ref r2, .ref r4, .ref r6, .int (-2), .ref r7, .ref r9])), (r1, .inl (cy 0, 400, .inl f_4))] H := hP
  have hD : va_D A [(h0, .inr (10, [.ref r1, .int 12, .int (-1), .ref r2, .ref r4, .ref r6, .int (-2), .ref r7, .ref r9])), (r1, .inl (cy 0, 400, .inl f_4))] := hD
  refine lv_iinc (v := (-8)) (lv' := [(2, .int (-8)), (0, .ref h0), (1, .int p0)]) hx hb dX11_putOnTape_40 hl (k := 0) rfl (by decide) (by decide) rfl (fun ls hl => ?_)
  refine lv_goto (tgt := 3) hx hb dX11_putOnTape_43 (by decide) ?_
  refine lv_iload_n hx hb dX11_putOnTape_3 rfl (lv_at hl 0 rfl) ?_
  refine lv_if_lt (tgt := 46) hx hb dX11_putOnTape_4 (by decide) (fun _ => ?_) (fun c9 => absurd (by decide) c9)
  exact kt_vret hx hb hr hlocks hP hD hS dX11_putOnTape_46 [0, 1] rfl rfl rfl rfl ⟨f_4, rfl, rfl⟩
set_option maxHeartbeats 4000000 in
set_option maxRecDepth 100000 in
theorem c_X11_putOnTape_12 (l : Launch) (G : va_G) (cy : Nat → ClassId) (h0 : Nat) (r1 : Nat) (r2 : Nat) (r4 : Nat) (r6 : Nat) (r7 : Nat) (r9 : Nat) (f0 : Nat → Int32) (p0 : Int32) : Kt l G cy yX11_putOnTape cX11_putOnTape 3 none ({ frames := 10, cells := 0, slots := 0, locals := 200 } : Room) [.ref h0, .int p0] [(h0, .inr (10, [.ref r1, .int 12, .int (-1), .ref r2, .ref r4, .ref r6, .int (-2), .ref r7, .ref r9])), (r1, .inl (cy 0, 400, .inl f0))] (fun (v : Option Value) (w1 : va_W) => ∃ (f1 : Nat → Int32), v = none ∧ w1 = [(h0, .inr (10, [.ref r1, .int 16, .int (-1), .ref r2, .ref r4, .ref r6, .int (-2), .ref r7, .ref r9])), (r1, .inl (cy 0, 400, .inl f1))]) := by
  refine kt_ofW (by decide) (Nat.le_of_ble_eq_true rfl) ?_
  intro p e s m below meth c A ls hx hb hr hU hown hlocks hml hin hP hK hD hA hS hl
  have hown : s.vm.findClass RX11 = some m.cls := hown
  have hl : lv_has ls 3 [(0, .ref h0), (1, .int p0)] := hl
  refine lv_bipush (v := 24) hx hb dX11_putOnTape_0 (by decide) ?_
  refine lv_istore_n (lv' := [(2, .int 24), (0, .ref h0), (1, .int p0)]) hx hb dX11_putOnTape_2 rfl hl (by decide) rfl (fun ls hl => ?_)
  refine lv_iload_n hx hb dX11_putOnTape_3 rfl (lv_at hl 0 rfl) ?_
  refine lv_if_lt (tgt := 46) hx hb dX11_putOnTape_4 (by decide) (fun c9 => absurd c9 (by decide)) (fun _ => ?_)
  refine lv_aload_n hx hb dX11_putOnTape_7 rfl (lv_at hl 1 rfl) ?_
  refine va_get (D := G) (ci := 10) (v := .int 12) (C := RX11) (T := TX11) (N := 9) hx hb hU in_X11 hown hK.1 hP 0 rfl rfl 1 (by decide) (hU _ u_251) (fun _ h9 => h9) rfl dX11_putOnTape_8 ?_
  refine lv_sipush (v := 400) hx hb dX11_putOnTape_11 (by decide) ?_
  refine lv_icmp_ge (tgt := 40) hx hb dX11_putOnTape_14 (by decide) (fun c9 => absurd c9 (by decide)) (fun _ => ?_)
  refine lv_aload_n hx hb dX11_putOnTape_17 rfl (lv_at hl 1 rfl) ?_
  refine va_get (D := G) (ci := 10) (v := .ref r1) (C := RX11) (T := TX11) (N := 9) hx hb hU in_X11 hown hK.1 hP 0 rfl rfl 0 (by decide) (hU _ u_250) (fun _ h9 => h9) rfl dX11_putOnTape_18 ?_
  refine lv_aload_n hx hb dX11_putOnTape_21 rfl (lv_at hl 1 rfl) ?_
  refine va_get (D := G) (ci := 10) (v := .int 12) (C := RX11) (T := TX11) (N := 9) hx hb hU in_X11 hown hK.1 hP 0 rfl rfl 1 (by decide) (hU _ u_251) (fun _ h9 => h9) rfl dX11_putOnTape_22 ?_
  refine lv_iload_n hx hb dX11_putOnTape_25 rfl (lv_at hl 2 rfl) ?_
  refine lv_iload_n hx hb dX11_putOnTape_26 rfl (lv_at hl 0 rfl) ?_
  refine lv_iushr hx hb dX11_putOnTape_27 rfl ?_
  refine lv_i2b hx hb dX11_putOnTape_28 rfl ?_
  refine va_bast hx hb hK.1 hP hD hS 1 0 rfl rfl (lx_in (by decide +kernel)) dX11_putOnTape_29 (fun H locs hP hD hS => ?_)
  have hP : va_P G vwCl [(h0, .inr (10, [.ref r1, .int 12, .int (-1), .ref r2, .ref r4, .ref r6, .int (-2), .ref r7, .ref r9])), (r1, .inl (cy 0, 400, .inl (upd f0 (12 : Int32).toNatClampNeg (vp_nar .byte (((((p0).toUInt32 >>> ((24).toUInt32 &&& Int32.toUInt32 31)).toInt32)).toInt8.toInt32)))))] H := hP
  have hD : va_D A [(h0, .inr (10, [.ref r1, .int 12, .int (-1), .ref r2, .ref r4, .ref r6, .int (-2), .ref r7, .ref r9])), (r1, .inl (cy 0, 400, .inl (upd f0 (12 : Int32).toNatClampNeg (vp_nar .byte (((((p0).toUInt32 >>> ((24).toUInt32 &&& Int32.toUInt32 31)).toInt32)).toInt8.toInt32)))))] := hD
  generalize ef_1 : (upd f0 (12 : Int32).toNatClampNeg (vp_nar .byte (((((p0).toUInt32 >>> ((24).toUInt32 &&& Int32.toUInt32 31)).toInt32)).toInt8.toInt32))) = f_1 at hP hD
  refine lv_aload_n hx hb dX11_putOnTape_30 rfl (lv_at hl 1 rfl) ?_
  refine lv_dup hx hb dX11_putOnTape_31 rfl ?_
  refine va_get (D := G) (ci := 10) (v := .int 12) (C := RX11) (T := TX11) (N := 9) hx hb hU in_X11 hown hK.1 hP 0 rfl rfl 1 (by decide) (hU _ u_251) (fun _ h9 => h9) rfl dX11_putOnTape_32 ?_
  refine lv_iconst (v := 1) hx hb dX11_putOnTape_35 (by decide) ?_
  refine lv_iadd hx hb dX11_putOnTape_36 (lx_top (y := 13) (by decide +kernel) ?_)
  refine va_put (D := G) (ci := 10) (v := .int 13) (ty := .int) (C := RX11) (T := TX11) (N := 9) hx hb hU in_X11 tyX11 tyX11_ok nmX11 hown hK.1 hP hD hS 0 rfl rfl 1 (by decide) (hU _ u_251) (fun _ h9 => h9) rfl (by decide +kernel) rfl rfl (Nat.le_of_ble_eq_true rfl) dX11_putOnTape_37 (fun H locs hP hD hS => ?_)
  have hP : va_P G vwCl [(h0, .inr (10, [.ref r1, .int 13, .int (-1), .ref r2, .ref r4, .ref r6, .int (-2), .ref r7, .ref r9])), (r1, .inl (cy 0, 400, .inl f_1))] H := hP
  have hD : va_D A [(h0, .inr (10, [.ref r1, .int 13, .int (-1), .ref r2, .ref r4, .ref r6, .int (-2), .ref r7, .ref r9])), (r1, .inl (cy 0, 400, .inl f_1))] := hD
  refine lv_iinc (v := 16) (lv' := [(2, .int 16), (0, .ref h0), (1, .int p0)]) hx hb dX11_putOnTape_40 hl (k := 0) rfl (by decide) (by decide) rfl (fun ls hl => ?_)
  refine lv_goto (tgt := 3) hx hb dX11_putOnTape_43 (by decide) ?_
  refine lv_iload_n hx hb dX11_putOnTape_3 rfl (lv_at hl 0 rfl) ?_
  refine lv_if_lt (tgt := 46) hx hb dX11_putOnTape_4 (by decide) (fun c9 => absurd c9 (by decide)) (fun _ => ?_)
  refine lv_aload_n hx hb dX11_putOnTape_7 rfl (lv_at hl 1 rfl) ?_
  refine va_get (D := G) (ci := 10) (v := .int 13) (C := RX11) (T := TX11) (N := 9) hx hb hU in_X11 hown hK.1 hP 0 rfl rfl 1 (by decide) (hU _ u_251) (fun _ h9 => h9) rfl dX11_putOnTape_8 ?_
  refine lv_sipush (v := 400) hx hb dX11_putOnTape_11 (by decide) ?_
  refine lv_icmp_ge (tgt := 40) hx hb dX11_putOnTape_14 (by decide) (fun c9 => absurd c9 (by decide)) (fun _ => ?_)
  refine lv_aload_n hx hb dX11_putOnTape_17 rfl (lv_at hl 1 rfl) ?_
  refine va_get (D := G) (ci := 10) (v := .ref r1) (C := RX11) (T := TX11) (N := 9) hx hb hU in_X11 hown hK.1 hP 0 rfl rfl 0 (by decide) (hU _ u_250) (fun _ h9 => h9) rfl dX11_putOnTape_18 ?_
  refine lv_aload_n hx hb dX11_putOnTape_21 rfl (lv_at hl 1 rfl) ?_
  refine va_get (D := G) (ci := 10) (v := .int 13) (C := RX11) (T := TX11) (N := 9) hx hb hU in_X11 hown hK.1 hP 0 rfl rfl 1 (by decide) (hU _ u_251) (fun _ h9 => h9) rfl dX11_putOnTape_22 ?_
  refine lv_iload_n hx hb dX11_putOnTape_25 rfl (lv_at hl 2 rfl) ?_
  refine lv_iload_n hx hb dX11_putOnTape_26 rfl (lv_at hl 0 rfl) ?_
  refine lv_iushr hx hb dX11_putOnTape_27 rfl ?_
  refine lv_i2b hx hb dX11_putOnTape_28 rfl ?_
  refine va_bast hx hb hK.1 hP hD hS 1 0 rfl rfl (lx_in (by decide +kernel)) dX11_putOnTape_29 (fun H locs hP hD hS => ?_)
  have hP : va_P G vwCl [(h0, .inr (10, [.ref r1, .int 13, .int (-1), .ref r2, .ref r4, .ref r6, .int (-2), .ref r7, .ref r9])), (r1, .inl (cy 0, 400, .inl (upd f_1 (13 : Int32).toNatClampNeg (vp_nar .byte (((((p0).toUInt32 >>> ((16).toUInt32 &&& Int32.toUInt32 31)).toInt32)).toInt8.toInt32)))))] H := hP
  have hD : va_D A [(h0, .inr (10, [.ref r1, .int 13, .int (-1), .ref r2, .ref r4, .ref r6, .int (-2), .ref r7, .ref r9])), (r1, .inl (cy 0, 400, .inl (upd f_1 (13 : Int32).toNatClampNeg (vp_nar .byte (((((p0).toUInt32 >>> ((16).toUInt32 &&& Int32.toUInt32 31)).toInt32)).toInt8.toInt32)))))] := hD
  generalize ef_2 : (upd f_1 (13 : Int32).toNatClampNeg (vp_nar .byte (((((p0).toUInt32 >>> ((16).toUInt32 &&& Int32.toUInt32 31)).toInt32)).toInt8.toInt32))) = f_2 at hP hD
  refine lv_aload_n hx hb dX11_putOnTape_30 rfl (lv_at hl 1 rfl) ?_
  refine lv_dup hx hb dX11_putOnTape_31 rfl ?_
  refine va_get (D := G) (ci := 10) (v := .int 13) (C := RX11) (T := TX11) (N := 9) hx hb hU in_X11 hown hK.1 hP 0 rfl rfl 1 (by decide) (hU _ u_251) (fun _ h9 => h9) rfl dX11_putOnTape_32 ?_
  refine lv_iconst (v := 1) hx hb dX11_putOnTape_35 (by decide) ?_
  refine lv_iadd hx hb dX11_putOnTape_36 (lx_top (y := 14) (by decide +kernel) ?_)
  refine va_put (D := G) (ci := 10) (v := .int 14) (ty := .int) (C := RX11) (T := TX11) (N := 9) hx hb hU in_X11 tyX11 tyX11_ok nmX11 hown hK.1 hP hD hS 0 rfl rfl 1 (by decide) (hU _ u_251) (fun _ h9 => h9) rfl (by decide +kernel) rfl rfl (Nat.le_of_ble_eq_true rfl) dX11_putOnTape_37 (fun H locs hP hD hS => ?_)
  have hP : va_P G vwCl [(h0, .inr (10, [.ref r1, .int 14, .int (-1), .ref r2, .ref r4, .ref r6, .int (-2), .ref r7, .ref r9])), (r1, .inl (cy 0, 400, .inl f_2))] H := hP
  have hD : va_D A [(h0, .inr (10, [.ref r1, .int 14, .int (-1), .ref r2, .ref r4, .ref r6, .int (-2), .ref r7, .ref r9])), (r1, .inl (cy 0, 400, .inl f_2))] := hD
  refine lv_iinc (v := 8) (lv' := [(2, .int 8), (0, .ref h0), (1, .int p0)]) hx hb dX11_putOnTape_40 hl (k := 0) rfl (by decide) (by decide) rfl (fun ls hl => ?_)
  refine lv_goto (tgt := 3) hx hb dX11_putOnTape_43 (by decide) ?_
  refine lv_iload_n hx hb dX11_putOnTape_3 rfl (lv_at hl 0 rfl) ?_
  refine lv_if_lt (tgt := 46) hx hb dX11_putOnTape_4 (by decide) (fun c9 => absurd c9 (by decide)) (fun _ => ?_)
  refine lv_aload_n hx hb dX11_putOnTape_7 rfl (lv_at hl 1 rfl) ?_
  refine va_get (D := G) (ci := 10) (v := .int 14) (C := RX11) (T := TX11) (N := 9) hx hb hU in_X11 hown hK.1 hP 0 rfl rfl 1 (by decide) (hU _ u_251) (fun _ h9 => h9) rfl dX11_putOnTape_8 ?_
  refine lv_sipush (v := 400) hx hb dX11_putOnTape_11 (by decide) ?_
  refine lv_icmp_ge (tgt := 40) hx hb dX11_putOnTape_14 (by decide) (fun c9 => absurd c9 (by decide)) (fun _ => ?_)
  refine lv_aload_n hx hb dX11_putOnTape_17 rfl (lv_at hl 1 rfl) ?_
  refine va_get (D := G) (ci := 10) (v := .ref r1) (C := RX11) (T := TX11) (N := 9) hx hb hU in_X11 hown hK.1 hP 0 rfl rfl 0 (by decide) (hU _ u_250) (fun _ h9 => h9) rfl dX11_putOnTape_18 ?_
  refine lv_aload_n hx hb dX11_putOnTape_21 rfl (lv_at hl 1 rfl) ?_
  refine va_get (D := G) (ci := 10) (v := .int 14) (C := RX11) (T := TX11) (N := 9) hx hb hU in_X11 hown hK.1 hP 0 rfl rfl 1 (by decide) (hU _ u_251) (fun _ h9 => h9) rfl dX11_putOnTape_22 ?_
  refine lv_iload_n hx hb dX11_putOnTape_25 rfl (lv_at hl 2 rfl) ?_
  refine lv_iload_n hx hb dX11_putOnTape_26 rfl (lv_at hl 0 rfl) ?_
  refine lv_iushr hx hb dX11_putOnTape_27 rfl ?_
  refine lv_i2b hx hb dX11_putOnTape_28 rfl ?_
  refine va_bast hx hb hK.1 hP hD hS 1 0 rfl rfl (lx_in (by decide +kernel)) dX11_putOnTape_29 (fun H locs hP hD hS => ?_)
  have hP : va_P G vwCl [(h0, .inr (10, [.ref r1, .int 14, .int (-1), .ref r2, .ref r4, .ref r6, .int (-2), .ref r7, .ref r9])), (r1, .inl (cy 0, 400, .inl (upd f_2 (14 : Int32).toNatClampNeg (vp_nar .byte (((((p0).toUInt32 >>> ((8).toUInt32 &&& Int32.toUInt32 31)).toInt32)).toInt8.toInt32)))))] H := hP
  have hD : va_D A [(h0, .inr (10, [.ref r1, .int 14, .int (-1), .ref r2, .ref r4, .ref r6, .int (-2), .ref r7, .ref r9])), (r1, .inl (cy 0, 400, .inl (upd f_2 (14 : Int32).toNatClampNeg (vp_nar .byte (((((p0).toUInt32 >>> ((8).toUInt32 &&& Int32.toUInt32 31)).toInt32)).toInt8.toInt32)))))] := hD
  generalize ef_3 : (upd f_2 (14 : Int32).toNatClampNeg (vp_nar .byte (((((p0).toUInt32 >>> ((8).toUInt32 &&& Int32.toUInt32 31)).toInt32)).toInt8.toInt32))) = f_3 at hP hD
  refine lv_aload_n hx hb dX11_putOnTape_30 rfl (lv_at hl 1 rfl) ?_
  refine lv_dup hx hb dX11_putOnTape_31 rfl ?_
  refine va_get (D := G) (ci := 10) (v := .int 14) (C := RX11) (T := TX11) (N := 9) hx hb hU in_X11 hown hK.1 hP 0 rfl rfl 1 (by decide) (hU _ u_251) (fun _ h9 => h9) rfl dX11_putOnTape_32 ?_
  refine lv_iconst (v := 1) hx hb dX11_putOnTape_35 (by decide) ?_
  refine lv_iadd hx hb dX11_putOnTape_36 (lx_top (y := 15) (by decide +kernel) ?_)
  refine va_put (D := G) (ci := 10) (v := .int 15) (ty := .int) (C := RX11) (T := TX11) (N := 9) hx hb hU in_X11 tyX11 tyX11_ok nmX11 hown hK.1 hP hD hS 0 rfl rfl 1 (by decide) (hU _ u_251) (fun _ h9 => h9) rfl (by decide +kernel) rfl rfl (Nat.le_of_ble_eq_true rfl) dX11_putOnTape_37 (fun H locs hP hD hS => ?_)
  have hP : va_P G vwCl [(h0, .inr (10, [.ref r1, .int 15, .int (-1), .ref r2, .ref r4, .ref r6, .int (-2), .ref r7, .ref r9])), (r1, .inl (cy 0, 400, .inl f_3))] H := hP
  have hD : va_D A [(h0, .inr (10, [.ref r1, .int 15, .int (-1), .ref r2, .ref r4, .ref r6, .int (-2), .ref r7, .ref r9])), (r1, .inl (cy 0, 400, .inl f_3))] := hD
  refine lv_iinc (v := 0) (lv' := [(2, .int 0), (0, .ref h0), (1, .int p0)]) hx hb dX11_putOnTape_40 hl (k := 0) rfl (by decide) (by decide) rfl (fun ls hl => ?_)
  refine lv_goto (tgt := 3) hx hb dX11_putOnTape_43 (by decide) ?_
  refine lv_iload_n hx hb dX11_putOnTape_3 rfl (lv_at hl 0 rfl) ?_
  refine lv_if_lt (tgt := 46) hx hb dX11_putOnTape_4 (by decide) (fun c9 => absurd c9 (by decide)) (fun _ => ?_)
  refine lv_aload_n hx hb dX11_putOnTape_7 rfl (lv_at hl 1 rfl) ?_
  refine va_get (D := G) (ci := 10) (v := .int 15) (C := RX11) (T := TX11) (N := 9) hx hb hU in_X11 hown hK.1 hP 0 rfl rfl 1 (by decide) (hU _ u_251) (fun _ h9 => h9) rfl dX11_putOnTape_8 ?_
  refine lv_sipush (v := 400) hx hb dX11_putOnTape_11 (by decide) ?_
  refine lv_icmp_ge (tgt := 40) hx hb dX11_putOnTape_14 (by decide) (fun c9 => absurd c9 (by decide)) (fun _ => ?_)
  refine lv_aload_n hx hb dX11_putOnTape_17 rfl (lv_at hl 1 rfl) ?_
  refine va_get (D := G) (ci := 10) (v := .ref r1) (C := RX11) (T := TX11) (N := 9) hx hb hU in_X11 hown hK.1 hP 0 rfl rfl 0 (by decide) (hU _ u_250) (fun _ h9 => h9) rfl dX11_putOnTape_18 ?_
  refine lv_aload_n hx hb dX11_putOnTape_21 rfl (lv_at hl 1 rfl) ?_
  refine va_get (D := G) (ci := 10) (v := .int 15) (C := RX11) (T := TX11) (N := 9) hx hb hU in_X11 hown hK.1 hP 0 rfl rfl 1 (by decide) (hU _ u_251) (fun _ h9 => h9) rfl dX11_putOnTape_22 ?_
  refine lv_iload_n hx hb dX11_putOnTape_25 rfl (lv_at hl 2 rfl) ?_
  refine lv_iload_n hx hb dX11_putOnTape_26 rfl (lv_at hl 0 rfl) ?_
  refine lv_iushr hx hb dX11_putOnTape_27 rfl ?_
  refine lv_i2b hx hb dX11_putOnTape_28 rfl ?_
  refine va_bast hx hb hK.1 hP hD hS 1 0 rfl rfl (lx_in (by decide +kernel)) dX11_putOnTape_29 (fun H locs hP hD hS => ?_)
  have hP : va_P G vwCl [(h0, .inr (10, [.ref r1, .int 15, .int (-1), .ref r2, .ref r4, .ref r6, .int (-2), .ref r7, .ref r9])), (r1, .inl (cy 0, 400, .inl (upd f_3 (15 : Int32).toNatClampNeg (vp_nar .byte (((((p0).toUInt32 >>> ((0).toUInt32 &&& Int32.toUInt32 31)).toInt32)).toInt8.toInt32)))))] H := hP
  have hD : va_D A [(h0, .inr (10, [.ref r1, .int 15, .int (-1), .ref r2, .ref r4, .ref r6, .int (-2), .ref r7, .ref r9])), (r1, .inl (cy 0, 400, .inl (upd f_3 (15 : Int32).toNatClampNeg (vp_nar .byte (((((p0).toUInt32 >>> ((0).toUInt32 &&& Int32.toUInt32 31)).toInt32)).toInt8.toInt32)))))] := hD
  generalize ef_4 : (upd f_3 (15 : Int32).toNatClampNeg (vp_nar .byte (((((p0).toUInt32 >>> ((0).toUInt32 &&& Int32.toUInt32 31)).toInt32)).toInt8.toInt32))) = f_4 at hP hD
  refine lv_aload_n hx hb dX11_putOnTape_30 rfl (lv_at hl 1 rfl) ?_
  refine lv_dup hx hb dX11_putOnTape_31 rfl ?_
  refine va_get (D := G) (ci := 10) (v := .int 15) (C := RX11) (T := TX11) (N := 9) hx hb hU in_X11 hown hK.1 hP 0 rfl rfl 1 (by decide) (hU _ u_251) (fun _ h9 => h9) rfl dX11_putOnTape_32 ?_
  refine lv_iconst (v := 1) hx hb dX11_putOnTape_35 (by decide) ?_
  refine lv_iadd hx hb dX11_putOnTape_36 (lx_top (y := 16) (by decide +kernel) ?_)
  refine va_put (D := G) (ci := 10) (v := .int 16) (ty := .int) (C := RX11) (T := TX11) (N := 9) hx hb hU in_X11 tyX11 tyX11_ok nmX11 hown hK.1 hP hD hS 0 rfl rfl 1 (by decide) (hU _ u_251) (fun _ h9 => h9) rfl (by decide +kernel) rfl rfl (Nat.le_of_ble_eq_true rfl) dX11_putOnTape_37 (fun H locs hP hD hS => ?_)
  have hP : va_P G vwCl [(h0, .inr (10, [.ref r1, .int 16, .int (-1), .ref r2, .ref r4, .ref r6, .int (-2), .ref r7, .ref r9])), (r1, .inl (cy 0, 400, .inl f_4))] H := hP
  have hD : va_D A [(h0, .inr (10, [.ref r1, .int 16, .int (-1), .ref r2, .ref r4, .ref r6, .int (-2), .ref r7, .ref r9])), (r1, .inl (cy 0, 400, .inl f_4))] := hD
  refine lv_iinc (v := (-8)) (lv' := [(2, .int (-8)), (0, .ref h0), (1, .int p0)]) hx hb dX11_putOnTape_40 hl (k := 0) rfl (by decide) (by decide) rfl (fun ls hl => ?_)
  refine lv_goto (tgt := 3) hx hb dX11_putOnTape_43 (by decide) ?_
  refine lv_iload_n hx hb dX11_putOnTape_3 rfl (lv_at hl 0 rfl) ?_
  refine lv_if_lt (tgt := 46) hx hb dX11_putOnTape_4 (by decide) (fun _ => ?_) (fun c9 => absurd (by decide) c9)
  exact kt_vret hx hb hr hlocks hP hD hS dX11_putOnTape_46 [0, 1] rfl rfl rfl rfl ⟨f_4, rfl, rfl⟩
set_option maxHeartbeats 4000000 in
set_option maxRecDepth 100000 in
theorem c_X11_putOnTape_16 (l : Launch) (G : va_G) (cy : Nat → ClassId) (h0 : Nat) (r1 : Nat) (r2 : Nat) (r4 : Nat) (r6 : Nat) (r7 : Nat) (r9 : Nat) (f0 : Nat → Int32) (p0 : Int32) : Kt l G cy yX11_putOnTape cX11_putOnTape 3 none ({ frames := 10, cells := 0, slots := 0, locals := 200 } : Room) [.ref h0, .int p0] [(h0, .inr (10, [.ref r1, .int 16, .int (-1), .ref r2, .ref r4, .ref r6, .int (-2), .ref r7, .ref r9])), (r1, .inl (cy 0, 400, .inl f0))] (fun (v : Option Value) (w1 : va_W) => ∃ (f1 : Nat → Int32), v = none ∧ w1 = [(h0, .inr (10, [.ref r1, .int 20, .int (-1), .ref r2, .ref r4, .ref r6, .int (-2), .ref r7, .ref r9])), (r1, .inl (cy 0, 400, .inl f1))]) := by
  refine kt_ofW (by decide) (Nat.le_of_ble_eq_true rfl) ?_
  intro p e s m below meth c A ls hx hb hr hU hown hlocks hml hin hP hK hD hA hS hl
  have hown : s.vm.findClass RX11 = some m.cls := hown
  have hl : lv_has ls 3 [(0, .ref h0), (1, .int p0)] := hl
  refine lv_bipush (v := 24) hx hb dX11_putOnTape_0 (by decide) ?_
  refine lv_istore_n (lv' := [(2, .int 24), (0, .ref h0), (1, .int p0)]) hx hb dX11_putOnTape_2 rfl hl (by decide) rfl (fun ls hl => ?_)
  refine lv_iload_n hx hb dX11_putOnTape_3 rfl (lv_at hl 0 rfl) ?_
  refine lv_if_lt (tgt := 46) hx hb dX11_putOnTape_4 (by decide) (fun c9 => absurd c9 (by decide)) (fun _ => ?_)
  refine lv_aload_n hx hb dX11_putOnTape_7 rfl (lv_at hl 1 rfl) ?_
  refine va_get (D := G) (ci := 10) (v := .int 16) (C := RX11) (T := TX11) (N := 9) hx hb hU in_X11 hown hK.1 hP 0 rfl rfl 1 (by decide) (hU _ u_251) (fun _ h9 => h9) rfl dX11_putOnTape_8 ?_
  refine lv_sipush (v := 400) hx hb dX11_putOnTape_11 (by decide) ?_
  refine lv_icmp_ge (tgt := 40) hx hb dX11_putOnTape_14 (by decide) (fun c9 => absurd c9 (by decide)) (fun _ => ?_)
  refine lv_aload_n hx hb dX11_putOnTape_17 rfl (lv_at hl 1 rfl) ?_
  refine va_get (D := G) (ci := 10) (v := .ref r1) (C := RX11) (T := TX11) (N := 9) hx hb hU in_X11 hown hK.1 hP 0 rfl rfl 0 (by decide) (hU _ u_250) (fun _ h9 => h9) rfl dX11_putOnTape_18 ?_
  refine lv_aload_n hx hb dX11_putOnTape_21 rfl (lv_at hl 1 rfl) ?_
  refine va_get (D := G) (ci := 10) (v := .int 16) (C := RX11) (T := TX11) (N := 9) hx hb hU in_X11 hown hK.1 hP 0 rfl rfl 1 (by decide) (hU _ u_251) (fun _ h9 => h9) rfl dX11_putOnTape_22 ?_
  refine lv_iload_n hx hb dX11_putOnTape_25 rfl (lv_at hl 2 rfl) ?_
  refine lv_iload_n hx hb dX11_putOnTape_26 rfl (lv_at hl 0 rfl) ?_
  refine lv_iushr hx hb dX11_putOnTape_27 rfl ?_
  refine lv_i2b hx hb dX11_putOnTape_28 rfl ?_
  refine va_bast hx hb hK.1 hP hD hS 1 0 rfl rfl (lx_in (by decide +kernel)) dX11_putOnTape_29 (fun H locs hP hD hS => ?_)
  have hP : va_P G vwCl [(h0, .inr (10, [.ref r1, .int 16, .int (-1), .ref r2, .ref r4, .ref r6, .int (-2), .ref r7, .ref r9])), (r1, .inl (cy 0, 400, .inl (upd f0 (16 : Int32).toNatClampNeg (vp_nar .byte (((((p0).toUInt32 >>> ((24).toUInt32 &&& Int32.toUInt32 31)).toInt32)).toInt8.toInt32)))))] H := hP
  have hD : va_D A [(h0, .inr (10, [.ref r1, .int 16, .int (-1), .ref r2, .ref r4, .ref r6, .int (-2), .ref r7, .ref r9])), (r1, .inl (cy 0, 400, .inl (upd f0 (16 : Int32).toNatClampNeg (vp_nar .byte (((((p0).toUInt32 >>> ((24).toUInt32 &&& Int32.toUInt32 31)).toInt32)).toInt8.toInt32)))))] := hD
  generalize ef_1 : (upd f0 (16 : Int32).toNatClampNeg (vp_nar .byte (((((p0).toUInt32 >>> ((24).toUInt32 &&& Int32.toUInt32 31)).toInt32)).toInt8.toInt32))) = f_1 at hP hD
  refine lv_aload_n hx hb dX11_putOnTape_30 rfl (lv_at hl 1 rfl) ?_
  refine lv_dup hx hb dX11_putOnTape_31 rfl ?_
  refine va_get (D := G) (ci := 10) (v := .int 16) (C := RX11) (T := TX11) (N := 9) hx hb hU in_X11 hown hK.1 hP 0 rfl rfl 1 (by decide) (hU _ u_251) (fun _ h9 => h9) rfl dX11_putOnTape_32 ?_
  refine lv_iconst (v := 1) hx hb dX11_putOnTape_35 (by decide) ?_
  refine lv_iadd hx hb dX11_putOnTape_36 (lx_top (y := 17) (by decide +kernel) ?_)
  refine va_put (D := G) (ci := 10) (v := .int 17) (ty := .int) (C := RX11) (T := TX11) (N := 9) hx hb hU in_X11 tyX11 tyX11_ok nmX11 hown hK.1 hP hD hS 0 rfl rfl 1 (by decide) (hU _ u_251) (fun _ h9 => h9) rfl (by decide +kernel) rfl rfl (Nat.le_of_ble_eq_true rfl) dX11_putOnTape_37 (fun H locs hP hD hS => ?_)
  have hP : va_P G vwCl [(h0, .inr (10, [.ref r1, .int 17, .int (-1), .ref r2, .ref r4, .ref r6, .int (-2), .ref r7, .ref r9])), (r1, .inl (cy 0, 400, .inl f_1))] H := hP
  have hD : va_D A [(h0, .inr (10, [.ref r1, .int 17, .int (-1), .ref r2, .ref r4, .ref r6, .int (-2), .ref r7, .ref r9])), (r1, .inl (cy 0, 400, .inl f_1))] := hD
  refine lv_iinc (v := 16) (lv' := [(2, .int 16), (0, .ref h0), (1, .int p0)]) hx hb dX11_putOnTape_40 hl (k := 0) rfl (by decide) (by decide) rfl (fun ls hl => ?_)
  refine lv_goto (tgt := 3) hx hb dX11_putOnTape_43 (by decide) ?_
  refine lv_iload_n hx hb dX11_putOnTape_3 rfl (lv_at hl 0 rfl) ?_
  refine lv_if_lt (tgt := 46) hx hb dX11_putOnTape_4 (by decide) (fun c9 => absurd c9 (by decide)) (fun _ => ?_)
  refine lv_aload_n hx hb dX11_putOnTape_7 rfl (lv_at hl 1 rfl) ?_
  refine va_get (D := G) (ci := 10) (v := .int 17) (C := RX11) (T := TX11) (N := 9) hx hb hU in_X11 hown hK.1 hP 0 rfl rfl 1 (by decide) (hU _ u_251) (fun _ h9 => h9) rfl dX11_putOnTape_8 ?_
  refine lv_sipush (v := 400) hx hb dX11_putOnTape_11 (by decide) ?_
  refine lv_icmp_ge (tgt := 40) hx hb dX11_putOnTape_14 (by decide) (fun c9 => absurd c9 (by decide)) (fun _ => ?_)
  refine lv_aload_n hx hb dX11_putOnTape_17 rfl (lv_at hl 1 rfl) ?_
  refine va_get (D := G) (ci := 10) (v := .ref r1) (C := RX11) (T := TX11) (N := 9) hx hb hU in_X11 hown hK.1 hP 0 rfl rfl 0 (by decide) (hU _ u_250) (fun _ h9 => h9) rfl dX11_putOnTape_18 ?_
  refine lv_aload_n hx hb dX11_putOnTape_21 rfl (lv_at hl 1 rfl) ?_
  refine va_get (D := G) (ci := 10) (v := .int 17) (C := RX11) (T := TX11) (N := 9) hx hb hU in_X11 hown hK.1 hP 0 rfl rfl 1 (by decide) (hU _ u_251) (fun _ h9 => h9) rfl dX11_putOnTape_22 ?_
  refine lv_iload_n hx hb dX11_putOnTape_25 rfl (lv_at hl 2 rfl) ?_
  refine lv_iload_n hx hb dX11_putOnTape_26 rfl (lv_at hl 0 rfl) ?_
  refine lv_iushr hx hb dX11_putOnTape_27 rfl ?_
  refine lv_i2b hx hb dX11_putOnTape_28 rfl ?_
  refine va_bast hx hb hK.1 hP hD hS 1 0 rfl rfl (lx_in (by decide +kernel)) dX11_putOnTape_29 (fun H locs hP hD hS => ?_)
  have hP : va_P G vwCl [(h0, .inr (10, [.ref r1, .int 17, .int (-1), .ref r2, .ref r4, .ref r6, .int (-2), .ref r7, .ref r9])), (r1, .inl (cy 0, 400, .inl (upd f_1 (17 : Int32).toNatClampNeg (vp_nar .byte (((((p0).toUInt32 >>> ((16).toUInt32 &&& Int32.toUInt32 31)).toInt32)).toInt8.toInt32)))))] H := hP
  have hD : va_D A [(h0, .inr (10, [.ref r1, .int 17, .int (-1), .ref r2, .ref r4, .ref r6, .int (-2), .ref r7, .ref r9])), (r1, .inl (cy 0, 400, .inl (upd f_1 (17 : Int32).toNatClampNeg (vp_nar .byte (((((p0).toUInt32 >>> ((16).toUInt32 &&& Int32.toUInt32 31)).toInt32)).toInt8.toInt32)))))] := hD
  generalize ef_2 : (upd f_1 (17 : Int32).toNatClampNeg (vp_nar .byte (((((p0).toUInt32 >>> ((16).toUInt32 &&& Int32.toUInt32 31)).toInt32)).toInt8.toInt32))) = f_2 at hP hD
  refine lv_aload_n hx hb dX11_putOnTape_30 rfl (lv_at hl 1 rfl) ?_
  refine lv_dup hx hb dX11_putOnTape_31 rfl ?_
  refine va_get (D := G) (ci := 10) (v := .int 17) (C := RX11) (T := TX11) (N := 9) hx hb hU in_X11 hown hK.1 hP 0 rfl rfl 1 (by decide) (hU _ u_251) (fun _ h9 => h9) rfl dX11_putOnTape_32 ?_
  refine lv_iconst (v := 1) hx hb dX11_putOnTape_35 (by decide) ?_
  refine lv_iadd hx hb dX11_putOnTape_36 (lx_top (y := 18) (by decide +kernel) ?_)
  refine va_put (D := G) (ci := 10) (v := .int 18) (ty := .int) (C := RX11) (T := TX11) (N := 9) hx hb hU in_X11 tyX11 tyX11_ok nmX11 hown hK.1 hP hD hS 0 rfl rfl 1 (by decide) (hU _ u_251) (fun _ h9 => h9) rfl (by decide +kernel) rfl rfl (Nat.le_of_ble_eq_true rfl) dX11_putOnTape_37 (fun H locs hP hD hS => ?_)
  have hP : va_P G vwCl [(h0, .inr (10, [.ref r1, .int 18, .int (-1), .ref r2, .ref r4, .ref r6, .int (-2), .ref r7, .ref r9])), (r1, .inl (cy 0, 400, .inl f_2))] H := hP
  have hD : va_D A [(h0, .inr (10, [.ref r1, .int 18, .int (-1), .ref r2, .ref r4, .ref r6, .int (-2), .ref r7, .ref r9])), (r1, .inl (cy 0, 400, .inl f_2))] := hD
  refine lv_iinc (v := 8) (lv' := [(2, .int 8), (0, .ref h0), (1, .int p0)]) hx hb dX11_putOnTape_40 hl (k := 0) rfl (by decide) (by decide) rfl (fun ls hl => ?_)
  refine lv_goto (tgt := 3) hx hb dX11_putOnTape_43 (by decide) ?_
  refine lv_iload_n hx hb dX11_putOnTape_3 rfl (lv_at hl 0 rfl) ?_
  refine lv_if_lt (tgt := 46) hx hb dX11_putOnTape_4 (by decide) (fun c9 => absurd c9 (by decide)) (fun _ => ?_)
  refine lv_aload_n hx hb dX11_putOnTape_7 rfl (lv_at hl 1 rfl) ?_
  refine va_get (D := G) (ci := 10) (v := .int 18) (C := RX11) (T := TX11) (N := 9) hx hb hU in_X11 hown hK.1 hP 0 rfl rfl 1 (by decide) (hU _ u_251) (fun _ h9 => h9) rfl dX11_putOnTape_8 ?_
  refine lv_sipush (v := 400) hx hb dX11_putOnTape_11 (by decide) ?_
  refine lv_icmp_ge (tgt := 40) hx hb dX11_putOnTape_14 (by decide) (fun c9 => absurd c9 (by decide)) (fun _ => ?_)
  refine lv_aload_n hx hb dX11_putOnTape_17 rfl (lv_at hl 1 rfl) ?_
  refine va_get (D := G) (ci := 10) (v := .ref r1) (C := RX11) (T := TX11) (N := 9) hx hb hU in_X11 hown hK.1 hP 0 rfl rfl 0 (by decide) (hU _ u_250) (fun _ h9 => h9) rfl dX11_putOnTape_18 ?_
  refine lv_aload_n hx hb dX11_putOnTape_21 rfl (lv_at hl 1 rfl) ?_
  refine va_get (D := G) (ci := 10) (v := .int 18) (C := RX11) (T := TX11) (N := 9) hx hb hU in_X11 hown hK.1 hP 0 rfl rfl 1 (by decide) (hU _ u_251) (fun _ h9 => h9) rfl dX11_putOnTape_22 ?_
  refine lv_iload_n hx hb dX11_putOnTape_25 rfl (lv_at hl 2 rfl) ?_
  refine lv_iload_n hx hb dX11_putOnTape_26 rfl (lv_at hl 0 rfl) ?_
  refine lv_iushr hx hb dX11_putOnTape_27 rfl ?_
  refine lv_i2b hx hb dX11_putOnTape_28 rfl ?_
  refine va_bast hx hb hK.1 hP hD hS 1 0 rfl rfl (lx_in (by decide +kernel)) dX11_putOnTape_29 (fun H locs hP hD hS => ?_)
  have hP : va_P G vwCl [(h0, .inr (10, [.ref r1, .int 18, .int (-1), .ref r2, .ref r4, .ref r6, .int (-2), .ref r7, .ref r9])), (r1, .inl (cy 0, 400, .inl (upd f_2 (18 : Int32).toNatClampNeg (vp_nar .byte (((((p0).toUInt32 >>> ((8).toUInt32 &&& Int32.toUInt32 31)).toInt32)).toInt8.toInt32)))))] H := hP
  have hD : va_D A [(h0, .inr (10, [.ref r1, .int 18, .int (-1), .ref r2, .ref r4, .ref r6, .int (-2), .ref r7, .ref r9])), (r1, .inl (cy 0, 400, .inl (upd f_2 (18 : Int32).toNatClampNeg (vp_nar .byte (((((p0).toUInt32 >>> ((8).toUInt32 &&& Int32.toUInt32 31)).toInt32)).toInt8.toInt32)))))] := hD
  generalize ef_3 : (upd f_2 (18 : Int32).toNatClampNeg (vp_nar .byte (((((p0).toUInt32 >>> ((8).toUInt32 &&& Int32.toUInt32 31)).toInt32)).toInt8.toInt32))) = f_3 at hP hD
  refine lv_aload_n hx hb dX11_putOnTape_30 rfl (lv_at hl 1 rfl) ?_
  refine lv_dup hx hb dX11_putOnTape_31 rfl ?_
  refine va_get (D := G) (ci := 10) (v := .int 18) (C := RX11) (T := TX11) (N := 9) hx hb hU in_X11 hown hK.1 hP 0 rfl rfl 1 (by decide) (hU _ u_251) (fun _ h9 => h9) rfl dX11_putOnTape_32 ?_
  refine lv_iconst (v := 1) hx hb dX11_putOnTape_35 (by decide) ?_
  refine lv_iadd hx hb dX11_putOnTape_36 (lx_top (y := 19) (by decide +kernel) ?_)
  refine va_put (D := G) (ci := 10) (v := .int 19) (ty := .int) (C := RX11) (T := TX11) (N := 9) hx hb hU in_X11 tyX11 tyX11_ok nmX11 hown hK.1 hP hD hS 0 rfl rfl 1 (by decide) (hU _ u_251) (fun _ h9 => h9) rfl (by decide +kernel) rfl rfl (Nat.le_of_ble_eq_true rfl) dX11_putOnTape_37 (fun H locs hP hD hS => ?_)
  have hP : va_P G vwCl [(h0, .inr (10, [.ref r1, .int 19, .int (-1), .ref r2, .ref r4, .ref r6, .int (-2), .ref r7, .ref r9])), (r1, .inl (cy 0, 400, .inl f_3))] H := hP
  have hD : va_D A [(h0, .inr (10, [.ref r1, .int 19, .int (-1), .ref r2, .ref r4, .ref r6, .int (-2), .ref r7, .ref r9])), (r1, .inl (cy 0, 400, .inl f_3))] := hD
  refine lv_iinc (v := 0) (lv' := [(2, .int 0), (0, .ref h0), (1, .int p0)]) hx hb dX11_putOnTape_40 hl (k := 0) rfl (by decide) (by decide) rfl (fun ls hl => ?_)
  refine lv_goto (tgt := 3) hx hb dX11_putOnTape_43 (by decide) ?_
  refine lv_iload_n hx hb dX11_putOnTape_3 rfl (lv_at hl 0 rfl) ?_
  refine lv_if_lt (tgt := 46) hx hb dX11_putOnTape_4 (by decide) (fun c9 => absurd c9 (by decide)) (fun _ => ?_)
  refine lv_aload_n hx hb dX11_putOnTape_7 rfl (lv_at hl 1 rfl) ?_
  refine va_get (D := G) (ci := 10) (v := .int 19) (C := RX11) (T := TX11) (N := 9) hx hb hU in_X11 hown hK.1 hP 0 rfl rfl 1 (by decide) (hU _ u_251) (fun _ h9 => h9) rfl dX11_putOnTape_8 ?_
  refine lv_sipush (v := 400) hx hb dX11_putOnTape_11 (by decide) ?_
  refine lv_icmp_ge (tgt := 40) hx hb dX11_putOnTape_14 (by decide) (fun c9 => absurd c9 (by decide)) (fun _ => ?_)
  refine lv_aload_n hx hb dX11_putOnTape_17 rfl (lv_at hl 1 rfl) ?_
  refine va_get (D := G) (ci := 10) (v := .ref r1) (C := RX11) (T := TX11) (N := 9) hx hb hU in_X11 hown hK.1 hP 0 rfl rfl 0 (by decide) (hU _ u_250) (fun _ h9 => h9) rfl dX11_putOnTape_18 ?_
  refine lv_aload_n hx hb dX11_putOnTape_21 rfl (lv_at hl 1 rfl) ?_
  refine va_get (D := G) (ci := 10) (v := .int 19) (C := RX11) (T := TX11) (N := 9) hx hb hU in_X11 hown hK.1 hP 0 rfl rfl 1 (by decide) (hU _ u_251) (fun _ h9 => h9) rfl dX11_putOnTape_22 ?_
  refine lv_iload_n hx hb dX11_putOnTape_25 rfl (lv_at hl 2 rfl) ?_
  refine lv_iload_n hx hb dX11_putOnTape_26 rfl (lv_at hl 0 rfl) ?_
  refine lv_iushr hx hb dX11_putOnTape_27 rfl ?_
  refine lv_i2b hx hb dX11_putOnTape_28 rfl ?_
  refine va_bast hx hb hK.1 hP hD hS 1 0 rfl rfl (lx_in (by decide +kernel)) dX11_putOnTape_29 (fun H locs hP hD hS => ?_)
  have hP : va_P G vwCl [(h0, .inr (10, [.ref r1, .int 19, .int (-1), .ref r2, .ref r4, .ref r6, .int (-2), .ref r7, .ref r9])), (r1, .inl (cy 0, 400, .inl (upd f_3 (19 : Int32).toNatClampNeg (vp_nar .byte (((((p0).toUInt32 >>> ((0).toUInt32 &&& Int32.toUInt32 31)).toInt32)).toInt8.toInt32)))))] H := hP
  have hD : va_D A [(h0, .inr (10, [.ref r1, .int 19, .int (-1), .ref r2, .ref r4, .ref r6, .int (-2), .ref r7, .ref r9])), (r1, .inl (cy 0, 400, .inl (upd f_3 (19 : Int32).toNatClampNeg (vp_nar .byte (((((p0).toUInt32 >>> ((0).toUInt32 &&& Int32.toUInt32 31)).toInt32)).toInt8.toInt32)))))] := hD
  generalize ef_4 : (upd f_3 (19 : Int32).toNatClampNeg (vp_nar .byte (((((p0).toUInt32 >>> ((0).toUInt32 &&& Int32.toUInt32 31)).toInt32)).toInt8.toInt32))) = f_4 at hP hD
  refine lv_aload_n hx hb dX11_putOnTape_30 rfl (lv_at hl 1 rfl) ?_
  refine lv_dup hx hb dX11_putOnTape_31 rfl ?_
  refine va_get (D := G) (ci := 10) (v := .int 19) (C := RX11) (T := TX11) (N := 9) hx hb hU in_X11 hown hK.1 hP 0 rfl rfl 1 (by decide) (hU _ u_251) (fun _ h9 => h9) rfl dX11_putOnTape_32 ?_
  refine lv_iconst (v := 1) hx hb dX11_putOnTape_35 (by decide) ?_
  refine lv_iadd hx hb dX11_putOnTape_36 (lx_top (y := 20) (by decide +kernel) ?_)
  refine va_put (D := G) (ci := 10) (v := .int 20) (ty := .int) (C := RX11) (T := TX11) (N := 9) hx hb hU in_X11 tyX11 tyX11_ok nmX11 hown hK.1 hP hD hS 0 rfl rfl 1 (by decide) (hU _ u_251) (fun _ h9 => h9) rfl (by decide +kernel) rfl rfl (Nat.le_of_ble_eq_true rfl) dX11_putOnTape_37 (fun H locs hP hD hS => ?_)
  have hP : va_P G vwCl [(h0, .inr (10, [.ref r1, .int 20, .int (-1), .ref r2, .ref r4, .ref r6, .int (-2), .ref r7, .ref r9])), (r1, .inl (cy 0, 400, .inl f_4))] H := hP
  have hD : va_D A [(h0, .inr (10, [.ref r1, .int 20, .int (-1), .ref r2, .ref r4, .ref r6, .int (-2), .ref r7, .ref r9])), (r1, .inl (cy 0, 400, .inl f_4))] := hD
  refine lv_iinc (v := (-8)) (lv' := [(2, .int (-8)), (0, .ref h0), (1, .int p0)]) hx hb dX11_putOnTape_40 hl (k := 0) rfl (by decide) (by decide) rfl (fun ls hl => ?_)
  refine lv_goto (tgt := 3) hx hb dX11_putOnTape_43 (by decide) ?_
  refine lv_iload_n hx hb dX11_putOnTape_3 rfl (lv_at hl 0 rfl) ?_
  refine lv_if_lt (tgt := 46) hx hb dX11_putOnTape_4 (by decide) (fun _ => ?_) (fun c9 => absurd (by decide) c9)
  exact kt_vret hx hb hr hlocks hP hD hS dX11_putOnTape_46 [0, 1] rfl rfl rfl rfl ⟨f_4, rfl, rfl⟩
set_option maxHeartbeats 4000000 in
set_option maxRecDepth 100000 in
theorem c_X11_feed (l : Launch) (G : va_G) (cy : Nat → ClassId) (h0 : Nat) (r1 : Nat) (r2 : Nat) (r4 : Nat) (r6 : Nat) (r7 : Nat) (r9 : Nat) (p0 : Int32) (p1 : Int32) (p2 : Int32) (p3 : Int32) (p4 : Int32) : Kt l G cy yX11_feed cX11_feed 6 (some .int) ({ frames := 12, cells := 0, slots := 0, locals := 300 } : Room) [.ref h0, .int p0, .int p1, .int p2, .int p3, .int p4] [(h0, .inr (10, [.ref r1, .int 0, .int (-1), .ref r2, .ref r4, .ref r6, .int (-2), .ref r7, .ref r9])), (r1, .inl (cy 0, 400, .inl (fun _ => 0)))] (fun (v : Option Value) (w1 : va_W) => v = some (.int 20) ∧ w1 = []) := by
  refine kt_ofW (by decide) (Nat.le_of_ble_eq_true rfl) ?_
  intro p e s m below meth c A ls hx hb hr hU hown hlocks hml hin hP hK hD hA hS hl
  have hown : s.vm.findClass RX11 = some m.cls := hown
  have hl : lv_has ls 6 [(0, .ref h0), (1, .int p0), (2, .int p1), (3, .int p2), (4, .int p3), (5, .int p4)] := hl
  refine lv_aload_n hx hb dX11_feed_0 rfl (lv_at hl 0 rfl) ?_
  refine va_get (D := G) (ci := 10) (v := .int 0) (C := RX11) (T := TX11) (N := 9) hx hb hU in_X11 hown hK.1 hP 0 rfl rfl 1 (by decide) (hU _ u_251) (fun _ h9 => h9) rfl dX11_feed_1 ?_
  refine lv_bipush (v := 20) hx hb dX11_feed_4 (by decide) ?_
  refine lv_iadd hx hb dX11_feed_6 (lx_top (y := 20) (by decide +kernel) ?_)
  refine lv_sipush (v := 400) hx hb dX11_feed_7 (by decide) ?_
  refine lv_icmp_le (tgt := 15) hx hb dX11_feed_10 (by decide) (fun _ => ?_) (fun c9 => absurd (by decide) c9)
  refine lv_aload_n hx hb dX11_feed_15 rfl (lv_at hl 0 rfl) ?_
  refine lv_iload_n hx hb dX11_feed_16 rfl (lv_at hl 1 rfl) ?_
  refine kt_callV (wc := [(h0, .inr (10, [.ref r1, .int 0, .int (-1), .ref r2, .ref r4, .ref r6, .int (-2), .ref r7, .ref r9])), (r1, .inl (cy 0, 400, .inl (fun _ => 0)))]) (wr := []) (As := [.int p0]) (rest := []) (c_X11_putOnTape_0 l G cy h0 r1 r2 r4 r6 r7 r9 (fun _ => 0) p0) m_X11_putOnTape u_282 hx hb hml hown hU hl.1 hK hP hD hS hA dX11_feed_17 [0, 1] [] rfl rfl rfl rfl rfl rfl (Nat.le_of_ble_eq_true rfl) (ci := 10) rfl rfl rfl (fun v9 w9 H locs hw hP hD hS => ?_)
  obtain ⟨x_1, rfl, rfl⟩ := hw
  have hP : va_P G vwCl [(h0, .inr (10, [.ref r1, .int 4, .int (-1), .ref r2, .ref r4, .ref r6, .int (-2), .ref r7, .ref r9])), (r1, .inl (cy 0, 400, .inl x_1))] H := hP
  have hD : va_D A [(h0, .inr (10, [.ref r1, .int 4, .int (-1), .ref r2, .ref r4, .ref r6, .int (-2), .ref r7, .ref r9])), (r1, .inl (cy 0, 400, .inl x_1))] := hD
  refine W.eq (g2 := F0 m 20 ls []) rfl ?_
  refine W.widen (k := 0) (n := 0) (Nat.le_of_ble_eq_true rfl) (Nat.le_of_ble_eq_true rfl) ?_
  refine lv_aload_n hx hb dX11_feed_20 rfl (lv_at hl 0 rfl) ?_
  refine lv_iload_n hx hb dX11_feed_21 rfl (lv_at hl 2 rfl) ?_
  refine kt_callV (wc := [(h0, .inr (10, [.ref r1, .int 4, .int (-1), .ref r2, .ref r4, .ref r6, .int (-2), .ref r7, .ref r9])), (r1, .inl (cy 0, 400, .inl x_1))]) (wr := []) (As := [.int p1]) (rest := []) (c_X11_putOnTape_4 l G cy h0 r1 r2 r4 r6 r7 r9 x_1 p1) m_X11_putOnTape u_282 hx hb hml hown hU hl.1 hK hP hD hS hA dX11_feed_22 [0, 1] [] rfl rfl rfl rfl rfl rfl (Nat.le_of_ble_eq_true rfl) (ci := 10) rfl rfl rfl (fun v9 w9 H locs hw hP hD hS => ?_)
  obtain ⟨x_2, rfl, rfl⟩ := hw
  have hP : va_P G vwCl [(h0, .inr (10, [.ref r1, .int 8, .int (-1), .ref r2, .ref r4, .ref r6, .int (-2), .ref r7, .ref r9])), (r1, .inl (cy 0, 400, .inl x_2))] H := hP
  have hD : va_D A [(h0, .inr (10, [.ref r1, .int 8, .int (-1), .ref r2, .ref r4, .ref r6, .int (-2), .ref r7, .ref r9])), (r1, .inl (cy 0, 400, .inl x_2))] := hD
  refine W.eq (g2 := F0 m 25 ls []) rfl ?_
  refine W.widen (k := 0) (n := 0) (Nat.le_of_ble_eq_true rfl) (Nat.le_of_ble_eq_true rfl) ?_
  refine lv_aload_n hx hb dX11_feed_25 rfl (lv_at hl 0 rfl) ?_
  refine lv_iload_n hx hb dX11_feed_26 rfl (lv_at hl 3 rfl) ?_
  refine kt_callV (wc := [(h0, .inr (10, [.ref r1, .int 8, .int (-1), .ref r2, .ref r4, .ref r6, .int (-2), .ref r7, .ref r9])), (r1, .inl (cy 0, 400, .inl x_2))]) (wr := []) (As := [.int p2]) (rest := []) (c_X11_putOnTape_8 l G cy h0 r1 r2 r4 r6 r7 r9 x_2 p2) m_X11_putOnTape u_282 hx hb hml hown hU hl.1 hK hP hD hS hA dX11_feed_27 [0, 1] [] rfl rfl rfl rfl rfl rfl (Nat.le_of_ble_eq_true rfl) (ci := 10) rfl rfl rfl (fun v9 w9 H locs hw hP hD hS => ?_)
  obtain ⟨x_3, rfl, rfl⟩ := hw
  have hP : va_P G vwCl [(h0, .inr (10, [.ref r1, .int 12, .int (-1), .ref r2, .ref r4, .ref r6, .int (-2), .ref r7, .ref r9])), (r1, .inl (cy 0, 400, .inl x_3))] H := hP
  have hD : va_D A [(h0, .inr (10, [.ref r1, .int 12, .int (-1), .ref r2, .ref r4, .ref r6, .int (-2), .ref r7, .ref r9])), (r1, .inl (cy 0, 400, .inl x_3))] := hD
  refine W.eq (g2 := F0 m 30 ls []) rfl ?_
  refine W.widen (k := 0) (n := 0) (Nat.le_of_ble_eq_true rfl) (Nat.le_of_ble_eq_true rfl) ?_
  refine lv_aload_n hx hb dX11_feed_30 rfl (lv_at hl 0 rfl) ?_
  refine lv_iload hx hb dX11_feed_31 (lv_at hl 4 rfl) ?_
  refine kt_callV (wc := [(h0, .inr (10, [.ref r1, .int 12, .int (-1), .ref r2, .ref r4, .ref r6, .int (-2), .ref r7, .ref r9])), (r1, .inl (cy 0, 400, .inl x_3))]) (wr := []) (As := [.int p3]) (rest := []) (c_X11_putOnTape_12 l G cy h0 r1 r2 r4 r6 r7 r9 x_3 p3) m_X11_putOnTape u_282 hx hb hml hown hU hl.1 hK hP hD hS hA dX11_feed_33 [0, 1] [] rfl rfl rfl rfl rfl rfl (Nat.le_of_ble_eq_true rfl) (ci := 10) rfl rfl rfl (fun v9 w9 H locs hw hP hD hS => ?_)
  obtain ⟨x_4, rfl, rfl⟩ := hw
  have hP : va_P G vwCl [(h0, .inr (10, [.ref r1, .int 16, .int (-1), .ref r2, .ref r4, .ref r6, .int (-2), .ref r7, .ref r9])), (r1, .inl (cy 0, 400, .inl x_4))] H := hP
  have hD : va_D A [(h0, .inr (10, [.ref r1, .int 16, .int (-1), .ref r2, .ref r4, .ref r6, .int (-2), .ref r7, .ref r9])), (r1, .inl (cy 0, 400, .inl x_4))] := hD
  refine W.eq (g2 := F0 m 36 ls []) rfl ?_
  refine W.widen (k := 0) (n := 0) (Nat.le_of_ble_eq_true rfl) (Nat.le_of_ble_eq_true rfl) ?_
  refine lv_aload_n hx hb dX11_feed_36 rfl (lv_at hl 0 rfl) ?_
  refine lv_iload hx hb dX11_feed_37 (lv_at hl 5 rfl) ?_
  refine kt_callV (wc := [(h0, .inr (10, [.ref r1, .int 16, .int (-1), .ref r2, .ref r4, .ref r6, .int (-2), .ref r7, .ref r9])), (r1, .inl (cy 0, 400, .inl x_4))]) (wr := []) (As := [.int p4]) (rest := []) (c_X11_putOnTape_16 l G cy h0 r1 r2 r4 r6 r7 r9 x_4 p4) m_X11_putOnTape u_282 hx hb hml hown hU hl.1 hK hP hD hS hA dX11_feed_39 [0, 1] [] rfl rfl rfl rfl rfl rfl (Nat.le_of_ble_eq_true rfl) (ci := 10) rfl rfl rfl (fun v9 w9 H locs hw hP hD hS => ?_)
  obtain ⟨x_5, rfl, rfl⟩ := hw
  have hP : va_P G vwCl [(h0, .inr (10, [.ref r1, .int 20, .int (-1), .ref r2, .ref r4, .ref r6, .int (-2), .ref r7, .ref r9])), (r1, .inl (cy 0, 400, .inl x_5))] H := hP
  have hD : va_D A [(h0, .inr (10, [.ref r1, .int 20, .int (-1), .ref r2, .ref r4, .ref r6, .int (-2), .ref r7, .ref r9])), (r1, .inl (cy 0, 400, .inl x_5))] := hD
  refine W.eq (g2 := F0 m 42 ls []) rfl ?_
  refine W.widen (k := 0) (n := 0) (Nat.le_of_ble_eq_true rfl) (Nat.le_of_ble_eq_true rfl) ?_
  refine lv_aload_n hx hb dX11_feed_42 rfl (lv_at hl 0 rfl) ?_
  refine va_get (D := G) (ci := 10) (v := .int 20) (C := RX11) (T := TX11) (N := 9) hx hb hU in_X11 hown hK.1 hP 0 rfl rfl 1 (by decide) (hU _ u_251) (fun _ h9 => h9) rfl dX11_feed_43 ?_
  exact kt_iret hx hb hr hlocks hP hD hS dX11_feed_46 [] rfl rfl rfl rfl ⟨rfl, rfl⟩
end
section
set_option maxHeartbeats 4000000 in
set_option maxRecDepth 100000 in
theorem c_X11_end (l : Launch) (G : va_G) (cy : Nat → ClassId) (h0 : Nat) (r1 : Nat) (r2 : Nat) (r4 : Nat) (r6 : Nat) (r7 : Nat) (r9 : Nat) (p0 : Int32) : Kt l G cy yX11_end cX11_end 2 (some .boolean) ({ frames := 10, cells := 0, slots := 0, locals := 200 } : Room) [.ref h0, .int p0] [(h0, .inr (10, [.ref r1, .int 0, .int (-1), .ref r2, .ref r4, .ref r6, .int (-2), .ref r7, .ref r9]))] (fun (v : Option Value) (w1 : va_W) => ∃ (r : Int32), v = some (.int r) ∧ w1 = [] ∧ (r = sp_end p0)) := by
  refine kt_ofW (by decide) (Nat.le_of_ble_eq_true rfl) ?_
  intro p e s m below meth c A ls hx hb hr hU hown hlocks hml hin hP hK hD hA hS hl
  have hown : s.vm.findClass RX11 = some m.cls := hown
  have hl : lv_has ls 2 [(0, .ref h0), (1, .int p0)] := hl
  refine lv_iload_n hx hb dX11_end_0 rfl (lv_at hl 1 rfl) ?_
  refine lv_if_lt (tgt := 12) hx hb dX11_end_1 (by decide) (fun c_1 => ?_) (fun c_1 => ?_)
  · refine lv_iconst (v := 0) hx hb dX11_end_12 (by decide) ?_
    exact kt_zret hx hb hr hlocks hP hD hS (by first | rfl | decide | exact rfl) dX11_end_13 [] rfl rfl rfl rfl ⟨0, rfl, rfl, (by simp [sp_end, c_1])⟩
  · refine lv_iload_n hx hb dX11_end_4 rfl (lv_at hl 1 rfl) ?_
    refine lv_aload_n hx hb dX11_end_5 rfl (lv_at hl 0 rfl) ?_
    refine va_get (D := G) (ci := 10) (v := .int 0) (C := RX11) (T := TX11) (N := 9) hx hb hU in_X11 hown hK.1 hP 0 rfl rfl 1 (by decide) (hU _ u_251) (fun _ h9 => h9) rfl dX11_end_6 ?_
    refine lv_icmp_le (tgt := 14) hx hb dX11_end_9 (by decide) (fun c_2 => ?_) (fun c_2 => ?_)
    · refine lv_aload_n hx hb dX11_end_14 rfl (lv_at hl 0 rfl) ?_
      refine lv_iload_n hx hb dX11_end_15 rfl (lv_at hl 1 rfl) ?_
      refine va_put (D := G) (ci := 10) (v := .int p0) (ty := .int) (C := RX11) (T := TX11) (N := 9) hx hb hU in_X11 tyX11 tyX11_ok nmX11 hown hK.1 hP hD hS 0 rfl rfl 1 (by decide) (hU _ u_251) (fun _ h9 => h9) rfl (by decide +kernel) rfl rfl (Nat.le_of_ble_eq_true rfl) dX11_end_16 (fun H locs hP hD hS => ?_)
      have hP : va_P G vwCl [(h0, .inr (10, [.ref r1, .int p0, .int (-1), .ref r2, .ref r4, .ref r6, .int (-2), .ref r7, .ref r9]))] H := hP
      have hD : va_D A [(h0, .inr (10, [.ref r1, .int p0, .int (-1), .ref r2, .ref r4, .ref r6, .int (-2), .ref r7, .ref r9]))] := hD
      refine lv_iconst (v := 1) hx hb dX11_end_19 (by decide) ?_
      exact kt_zret hx hb hr hlocks hP hD hS (by first | rfl | decide | exact rfl) dX11_end_20 [] rfl rfl rfl rfl ⟨1, rfl, rfl, (by simp [sp_end, c_1, c_2])⟩
    · refine lv_iconst (v := 0) hx hb dX11_end_12 (by decide) ?_
      exact kt_zret hx hb hr hlocks hP hD hS (by first | rfl | decide | exact rfl) dX11_end_13 [] rfl rfl rfl rfl ⟨0, rfl, rfl, (by simp [sp_end, c_1, c_2])⟩
set_option maxHeartbeats 4000000 in
set_option maxRecDepth 100000 in
theorem c_X11_fault (l : Launch) (G : va_G) (cy : Nat → ClassId) (h0 : Nat) (r1 : Nat) (r2 : Nat) (r4 : Nat) (r6 : Nat) (r7 : Nat) (r9 : Nat) : Kt l G cy yX11_fault cX11_fault 1 (some .int) ({ frames := 10, cells := 0, slots := 0, locals := 200 } : Room) [.ref h0] [(h0, .inr (10, [.ref r1, .int 0, .int (-1), .ref r2, .ref r4, .ref r6, .int (-2), .ref r7, .ref r9]))] (fun (v : Option Value) (w1 : va_W) => v = some (.int (-1)) ∧ w1 = []) := by
  refine kt_ofW (by decide) (Nat.le_of_ble_eq_true rfl) ?_
  intro p e s m below meth c A ls hx hb hr hU hown hlocks hml hin hP hK hD hA hS hl
  have hown : s.vm.findClass RX11 = some m.cls := hown
  have hl : lv_has ls 1 [(0, .ref h0)] := hl
  refine lv_aload_n hx hb dX11_fault_0 rfl (lv_at hl 0 rfl) ?_
  refine va_get (D := G) (ci := 10) (v := .int (-1)) (C := RX11) (T := TX11) (N := 9) hx hb hU in_X11 hown hK.1 hP 0 rfl rfl 2 (by decide) (hU _ u_252) (fun _ h9 => h9) rfl dX11_fault_1 ?_
  exact kt_iret hx hb hr hlocks hP hD hS dX11_fault_4 [] rfl rfl rfl rfl ⟨rfl, rfl⟩
set_option maxHeartbeats 4000000 in
set_option maxRecDepth 100000 in
theorem c_X11_existing (l : Launch) (G : va_G) (cy : Nat → ClassId) (sa : Nat → Nat) (hlst : l.stackTraces = false) (h0 : Nat) (r1 : Nat) (r2 : Nat) (r4 : Nat) (r6 : Nat) (r7 : Nat) (r9 : Nat) (r3 : Nat) (p0 : Int32) : Kx l G cy sa yX11_existing cX11_existing 2 (some (.object "PlaneProof$Line")) ({ frames := 10, cells := 1, slots := 6, locals := 200 } : Room) [.ref h0, .int p0] [(h0, .inr (10, [.ref r1, .int 0, .int (-1), .ref r2, .ref r4, .ref r6, .int (-2), .ref r7, .ref r9])), (r2, .inr (0, [.ref r3, .int 0, .int 0]))] (fun _ _ => False) (fun E => E = eIO) := by
  refine kx_ofW (by decide) (Nat.le_of_ble_eq_true rfl) ?_
  intro p e s m below meth c A ls hx hb hr hU hown hlocks hml hin hP hK hD hA hS hl hZ hnt
  have hown : s.vm.findClass RX11 = some m.cls := hown
  have hl : lv_has ls 2 [(0, .ref h0), (1, .int p0)] := hl
  refine lv_iload_n hx hb dX11_existing_0 rfl (lv_at hl 1 rfl) ?_
  refine lv_if_lt (tgt := 15) hx hb dX11_existing_1 (by decide) (fun c_1 => ?_) (fun c_1 => ?_)
  · exact kx_throwW (text := "no such line") hx hb hlst hown (by decide) hU u_1083 u_144 (by decide) at_156 hZ hS (by rw [hml]; exact hl.1) dX11_existing_15 dX11_existing_18 dX11_existing_19 dX11_existing_22 dX11_existing_25 hnt rfl rfl rfl rfl hlocks rfl
  · refine lv_iload_n hx hb dX11_existing_4 rfl (lv_at hl 1 rfl) ?_
    refine lv_aload_n hx hb dX11_existing_5 rfl (lv_at hl 0 rfl) ?_
    refine va_get (D := G) (ci := 10) (v := .ref r2) (C := RX11) (T := TX11) (N := 9) hx hb hU in_X11 hown hK.1 hP 0 rfl rfl 3 (by decide) (hU _ u_253) (fun _ h9 => h9) rfl dX11_existing_6 ?_
    refine va_get (D := G) (ci := 0) (v := .int 0) (C := RX0) (T := TX0) (N := 3) hx hb hU in_X0 hown hK.1 hP 1 rfl rfl 2 (by decide) (hU _ u_181) (fun _ h9 => h9) rfl dX11_existing_9 ?_
    refine lv_icmp_lt (tgt := 26) hx hb dX11_existing_12 (by decide) (fun c9 => absurd c9 c_1) (fun _ => ?_)
    exact kx_throwW (text := "no such line") hx hb hlst hown (by decide) hU u_1083 u_144 (by decide) at_156 hZ hS (by rw [hml]; exact hl.1) dX11_existing_15 dX11_existing_18 dX11_existing_19 dX11_existing_22 dX11_existing_25 hnt rfl rfl rfl rfl hlocks rfl
set_option maxHeartbeats 4000000 in
set_option maxRecDepth 100000 in
theorem c_X11_line (l : Launch) (G : va_G) (cy : Nat → ClassId) (sa : Nat → Nat) (hlst : l.stackTraces = false) (h0 : Nat) (r1 : Nat) (r2 : Nat) (r4 : Nat) (r6 : Nat) (r7 : Nat) (r9 : Nat) (r3 : Nat) (p0 : Int32) (p1 : Int32) : Kx l G cy sa yX11_line cX11_line 4 (some .int) ({ frames := 12, cells := 1, slots := 6, locals := 300 } : Room) [.ref h0, .int p0, .int p1] [(h0, .inr (10, [.ref r1, .int 0, .int (-1), .ref r2, .ref r4, .ref r6, .int (-2), .ref r7, .ref r9])), (r2, .inr (0, [.ref r3, .int 0, .int 0]))] (fun _ _ => False) (fun E => E = eIO) := by
  refine kx_ofW (by decide) (Nat.le_of_ble_eq_true rfl) ?_
  intro p e s m below meth c A ls hx hb hr hU hown hlocks hml hin hP hK hD hA hS hl hZ hnt
  have hown : s.vm.findClass RX11 = some m.cls := hown
  have hl : lv_has ls 4 [(0, .ref h0), (1, .int p0), (2, .int p1)] := hl
  refine lv_aload_n hx hb dX11_line_0 rfl (lv_at hl 0 rfl) ?_
  refine lv_iload_n hx hb dX11_line_1 rfl (lv_at hl 1 rfl) ?_
  refine kx_callV (wc := [(h0, .inr (10, [.ref r1, .int 0, .int (-1), .ref r2, .ref r4, .ref r6, .int (-2), .ref r7, .ref r9])), (r2, .inr (0, [.ref r3, .int 0, .int 0]))]) (wr := []) (As := [.int p0]) (rest := []) (c_X11_existing l G cy sa hlst h0 r1 r2 r4 r6 r7 r9 r3 p0) m_X11_existing u_1079 hx hb hml hown hU hl.1 hK hP hD hS hA dX11_line_2 [0, 1] [] rfl rfl rfl rfl rfl rfl (Nat.le_of_ble_eq_true rfl) (ci := 10) rfl rfl rfl hZ hnt hlocks (fun _ h9 => h9) (fun _ _ _ _ hw _ _ _ => hw.elim)
set_option maxHeartbeats 4000000 in
set_option maxRecDepth 100000 in
theorem c_X11_lits (l : Launch) (G : va_G) (cy : Nat → ClassId) (sa : Nat → Nat) (hlst : l.stackTraces = false) (h0 : Nat) (r1 : Nat) (r2 : Nat) (r4 : Nat) (r6 : Nat) (r7 : Nat) (r9 : Nat) (r3 : Nat) (p0 : Int32) (p1 : Int32) : Kx l G cy sa yX11_lits cX11_lits 4 (some .int) ({ frames := 12, cells := 1, slots := 6, locals := 300 } : Room) [.ref h0, .int p0, .int p1] [(h0, .inr (10, [.ref r1, .int 0, .int (-1), .ref r2, .ref r4, .ref r6, .int (-2), .ref r7, .ref r9])), (r2, .inr (0, [.ref r3, .int 0, .int 0]))] (fun _ _ => False) (fun E => E = eIO) := by
  refine kx_ofW (by decide) (Nat.le_of_ble_eq_true rfl) ?_
  intro p e s m below meth c A ls hx hb hr hU hown hlocks hml hin hP hK hD hA hS hl hZ hnt
  have hown : s.vm.findClass RX11 = some m.cls := hown
  have hl : lv_has ls 4 [(0, .ref h0), (1, .int p0), (2, .int p1)] := hl
  refine lv_aload_n hx hb dX11_lits_0 rfl (lv_at hl 0 rfl) ?_
  refine lv_iload_n hx hb dX11_lits_1 rfl (lv_at hl 1 rfl) ?_
  refine kx_callV (wc := [(h0, .inr (10, [.ref r1, .int 0, .int (-1), .ref r2, .ref r4, .ref r6, .int (-2), .ref r7, .ref r9])), (r2, .inr (0, [.ref r3, .int 0, .int 0]))]) (wr := []) (As := [.int p0]) (rest := []) (c_X11_existing l G cy sa hlst h0 r1 r2 r4 r6 r7 r9 r3 p0) m_X11_existing u_1079 hx hb hml hown hU hl.1 hK hP hD hS hA dX11_lits_2 [0, 1] [] rfl rfl rfl rfl rfl rfl (Nat.le_of_ble_eq_true rfl) (ci := 10) rfl rfl rfl hZ hnt hlocks (fun _ h9 => h9) (fun _ _ _ _ hw _ _ _ => hw.elim)
set_option maxHeartbeats 4000000 in
set_option maxRecDepth 100000 in
theorem c_X11_plane (l : Launch) (G : va_G) (cy : Nat → ClassId) (sa : Nat → Nat) (hlst : l.stackTraces = false) (h0 : Nat) (r1 : Nat) (r2 : Nat) (r4 : Nat) (r6 : Nat) (r7 : Nat) (r9 : Nat) (r3 : Nat) (p0 : Int32) (p1 : Int32) : Kx l G cy sa yX11_plane cX11_plane 4 (some .int) ({ frames := 12, cells := 1, slots := 6, locals := 300 } : Room) [.ref h0, .int p0, .int p1] [(h0, .inr (10, [.ref r1, .int 0, .int (-1), .ref r2, .ref r4, .ref r6, .int (-2), .ref r7, .ref r9])), (r2, .inr (0, [.ref r3, .int 0, .int 0]))] (fun _ _ => False) (fun E => E = eIO) := by
  refine kx_ofW (by decide) (Nat.le_of_ble_eq_true rfl) ?_
  intro p e s m below meth c A ls hx hb hr hU hown hlocks hml hin hP hK hD hA hS hl hZ hnt
  have hown : s.vm.findClass RX11 = some m.cls := hown
  have hl : lv_has ls 4 [(0, .ref h0), (1, .int p0), (2, .int p1)] := hl
  refine lv_aload_n hx hb dX11_plane_0 rfl (lv_at hl 0 rfl) ?_
  refine lv_iload_n hx hb dX11_plane_1 rfl (lv_at hl 1 rfl) ?_
  refine kx_callV (wc := [(h0, .inr (10, [.ref r1, .int 0, .int (-1), .ref r2, .ref r4, .ref r6, .int (-2), .ref r7, .ref r9])), (r2, .inr (0, [.ref r3, .int 0, .int 0]))]) (wr := []) (As := [.int p0]) (rest := []) (c_X11_existing l G cy sa hlst h0 r1 r2 r4 r6 r7 r9 r3 p0) m_X11_existing u_1079 hx hb hml hown hU hl.1 hK hP hD hS hA dX11_plane_2 [0, 1] [] rfl rfl rfl rfl rfl rfl (Nat.le_of_ble_eq_true rfl) (ci := 10) rfl rfl rfl hZ hnt hlocks (fun _ h9 => h9) (fun _ _ _ _ hw _ _ _ => hw.elim)
set_option maxHeartbeats 4000000 in
set_option maxRecDepth 100000 in
theorem c_X11_cut (l : Launch) (G : va_G) (cy : Nat → ClassId) (sa : Nat → Nat) (hlst : l.stackTraces = false) (h0 : Nat) (r1 : Nat) (r2 : Nat) (r4 : Nat) (r6 : Nat) (r7 : Nat) (r9 : Nat) (r3 : Nat) (p0 : Int32) : Kx l G cy sa yX11_cut cX11_cut 3 (some .int) ({ frames := 12, cells := 1, slots := 6, locals := 300 } : Room) [.ref h0, .int p0] [(h0, .inr (10, [.ref r1, .int 0, .int (-1), .ref r2, .ref r4, .ref r6, .int (-2), .ref r7, .ref r9])), (r2, .inr (0, [.ref r3, .int 0, .int 0]))] (fun _ _ => False) (fun E => E = eIO) := by
  refine kx_ofW (by decide) (Nat.le_of_ble_eq_true rfl) ?_
  intro p e s m below meth c A ls hx hb hr hU hown hlocks hml hin hP hK hD hA hS hl hZ hnt
  have hown : s.vm.findClass RX11 = some m.cls := hown
  have hl : lv_has ls 3 [(0, .ref h0), (1, .int p0)] := hl
  refine lv_aload_n hx hb dX11_cut_0 rfl (lv_at hl 0 rfl) ?_
  refine lv_iload_n hx hb dX11_cut_1 rfl (lv_at hl 1 rfl) ?_
  refine kx_callV (wc := [(h0, .inr (10, [.ref r1, .int 0, .int (-1), .ref r2, .ref r4, .ref r6, .int (-2), .ref r7, .ref r9])), (r2, .inr (0, [.ref r3, .int 0, .int 0]))]) (wr := []) (As := [.int p0]) (rest := []) (c_X11_existing l G cy sa hlst h0 r1 r2 r4 r6 r7 r9 r3 p0) m_X11_existing u_1079 hx hb hml hown hU hl.1 hK hP hD hS hA dX11_cut_2 [0, 1] [] rfl rfl rfl rfl rfl rfl (Nat.le_of_ble_eq_true rfl) (ci := 10) rfl rfl rfl hZ hnt hlocks (fun _ h9 => h9) (fun _ _ _ _ hw _ _ _ => hw.elim)
set_option maxHeartbeats 4000000 in
set_option maxRecDepth 100000 in
theorem c_X11_holds (l : Launch) (G : va_G) (cy : Nat → ClassId) (sa : Nat → Nat) (hlst : l.stackTraces = false) (h0 : Nat) (r1 : Nat) (r2 : Nat) (r4 : Nat) (r6 : Nat) (r7 : Nat) (r9 : Nat) (r3 : Nat) (p0 : Int32) (p1 : Int32) : Kx l G cy sa yX11_holds cX11_holds 4 (some .boolean) ({ frames := 12, cells := 1, slots := 6, locals := 300 } : Room) [.ref h0, .int p0, .int p1] [(h0, .inr (10, [.ref r1, .int 0, .int (-1), .ref r2, .ref r4, .ref r6, .int (-2), .ref r7, .ref r9])), (r2, .inr (0, [.ref r3, .int 0, .int 0]))] (fun _ _ => False) (fun E => E = eIO) := by
  refine kx_ofW (by decide) (Nat.le_of_ble_eq_true rfl) ?_
  intro p e s m below meth c A ls hx hb hr hU hown hlocks hml hin hP hK hD hA hS hl hZ hnt
  have hown : s.vm.findClass RX11 = some m.cls := hown
  have hl : lv_has ls 4 [(0, .ref h0), (1, .int p0), (2, .int p1)] := hl
  refine lv_aload_n hx hb dX11_holds_0 rfl (lv_at hl 0 rfl) ?_
  refine lv_iload_n hx hb dX11_holds_1 rfl (lv_at hl 1 rfl) ?_
  refine kx_callV (wc := [(h0, .inr (10, [.ref r1, .int 0, .int (-1), .ref r2, .ref r4, .ref r6, .int (-2), .ref r7, .ref r9])), (r2, .inr (0, [.ref r3, .int 0, .int 0]))]) (wr := []) (As := [.int p0]) (rest := []) (c_X11_existing l G cy sa hlst h0 r1 r2 r4 r6 r7 r9 r3 p0) m_X11_existing u_1079 hx hb hml hown hU hl.1 hK hP hD hS hA dX11_holds_2 [0, 1] [] rfl rfl rfl rfl rfl rfl (Nat.le_of_ble_eq_true rfl) (ci := 10) rfl rfl rfl hZ hnt hlocks (fun _ h9 => h9) (fun _ _ _ _ hw _ _ _ => hw.elim)
set_option maxHeartbeats 4000000 in
set_option maxRecDepth 100000 in
theorem c_X11_often (l : Launch) (G : va_G) (cy : Nat → ClassId) (sa : Nat → Nat) (hlst : l.stackTraces = false) (h0 : Nat) (r1 : Nat) (r2 : Nat) (r4 : Nat) (r6 : Nat) (r7 : Nat) (r9 : Nat) (r3 : Nat) (p0 : Int32) : Kx l G cy sa yX11_often cX11_often 2 (some .int) ({ frames := 12, cells := 1, slots := 6, locals := 300 } : Room) [.ref h0, .int p0] [(h0, .inr (10, [.ref r1, .int 0, .int (-1), .ref r2, .ref r4, .ref r6, .int (-2), .ref r7, .ref r9])), (r2, .inr (0, [.ref r3, .int 0, .int 0]))] (fun _ _ => False) (fun E => E = eIO) := by
  refine kx_ofW (by decide) (Nat.le_of_ble_eq_true rfl) ?_
  intro p e s m below meth c A ls hx hb hr hU hown hlocks hml hin hP hK hD hA hS hl hZ hnt
  have hown : s.vm.findClass RX11 = some m.cls := hown
  have hl : lv_has ls 2 [(0, .ref h0), (1, .int p0)] := hl
  refine lv_aload_n hx hb dX11_often_0 rfl (lv_at hl 0 rfl) ?_
  refine lv_iload_n hx hb dX11_often_1 rfl (lv_at hl 1 rfl) ?_
  refine kx_callV (wc := [(h0, .inr (10, [.ref r1, .int 0, .int (-1), .ref r2, .ref r4, .ref r6, .int (-2), .ref r7, .ref r9])), (r2, .inr (0, [.ref r3, .int 0, .int 0]))]) (wr := []) (As := [.int p0]) (rest := []) (c_X11_existing l G cy sa hlst h0 r1 r2 r4 r6 r7 r9 r3 p0) m_X11_existing u_1079 hx hb hml hown hU hl.1 hK hP hD hS hA dX11_often_2 [0, 1] [] rfl rfl rfl rfl rfl rfl (Nat.le_of_ble_eq_true rfl) (ci := 10) rfl rfl rfl hZ hnt hlocks (fun _ h9 => h9) (fun _ _ _ _ hw _ _ _ => hw.elim)
set_option maxHeartbeats 4000000 in
set_option maxRecDepth 100000 in
theorem c_X11_measure (l : Launch) (G : va_G) (cy : Nat → ClassId) (sa : Nat → Nat) (hlst : l.stackTraces = false) (h0 : Nat) (r1 : Nat) (r2 : Nat) (r4 : Nat) (r6 : Nat) (r7 : Nat) (r9 : Nat) (r3 : Nat) (p0 : Int32) (p1 : Int32) : Kx l G cy sa yX11_measure cX11_measure 4 (some .int) ({ frames := 12, cells := 1, slots := 6, locals := 300 } : Room) [.ref h0, .int p0, .int p1] [(h0, .inr (10, [.ref r1, .int 0, .int (-1), .ref r2, .ref r4, .ref r6, .int (-2), .ref r7, .ref r9])), (r2, .inr (0, [.ref r3, .int 0, .int 0]))] (fun _ _ => False) (fun E => E = eIO) := by
  refine kx_ofW (by decide) (Nat.le_of_ble_eq_true rfl) ?_
  intro p e s m below meth c A ls hx hb hr hU hown hlocks hml hin hP hK hD hA hS hl hZ hnt
  have hown : s.vm.findClass RX11 = some m.cls := hown
  have hl : lv_has ls 4 [(0, .ref h0), (1, .int p0), (2, .int p1)] := hl
  refine lv_aload_n hx hb dX11_measure_0 rfl (lv_at hl 0 rfl) ?_
  refine lv_iload_n hx hb dX11_measure_1 rfl (lv_at hl 1 rfl) ?_
  refine kx_callV (wc := [(h0, .inr (10, [.ref r1, .int 0, .int (-1), .ref r2, .ref r4, .ref r6, .int (-2), .ref r7, .ref r9])), (r2, .inr (0, [.ref r3, .int 0, .int 0]))]) (wr := []) (As := [.int p0]) (rest := []) (c_X11_existing l G cy sa hlst h0 r1 r2 r4 r6 r7 r9 r3 p0) m_X11_existing u_1079 hx hb hml hown hU hl.1 hK hP hD hS hA dX11_measure_2 [0, 1] [] rfl rfl rfl rfl rfl rfl (Nat.le_of_ble_eq_true rfl) (ci := 10) rfl rfl rfl hZ hnt hlocks (fun _ h9 => h9) (fun _ _ _ _ hw _ _ _ => hw.elim)
set_option maxHeartbeats 4000000 in
set_option maxRecDepth 100000 in
theorem c_X11_tree (l : Launch) (G : va_G) (cy : Nat → ClassId) (sa : Nat → Nat) (hlst : l.stackTraces = false) (h0 : Nat) (r1 : Nat) (r2 : Nat) (r4 : Nat) (r6 : Nat) (r7 : Nat) (r9 : Nat) (r3 : Nat) (p0 : Int32) : Kx l G cy sa yX11_tree cX11_tree 2 (some .long) ({ frames := 12, cells := 1, slots := 6, locals := 300 } : Room) [.ref h0, .int p0] [(h0, .inr (10, [.ref r1, .int 0, .int (-1), .ref r2, .ref r4, .ref r6, .int (-2), .ref r7, .ref r9])), (r2, .inr (0, [.ref r3, .int 0, .int 0]))] (fun _ _ => False) (fun E => E = eIO) := by
  refine kx_ofW (by decide) (Nat.le_of_ble_eq_true rfl) ?_
  intro p e s m below meth c A ls hx hb hr hU hown hlocks hml hin hP hK hD hA hS hl hZ hnt
  have hown : s.vm.findClass RX11 = some m.cls := hown
  have hl : lv_has ls 2 [(0, .ref h0), (1, .int p0)] := hl
  refine lv_aload_n hx hb dX11_tree_0 rfl (lv_at hl 0 rfl) ?_
  refine lv_iload_n hx hb dX11_tree_1 rfl (lv_at hl 1 rfl) ?_
  refine kx_callV (wc := [(h0, .inr (10, [.ref r1, .int 0, .int (-1), .ref r2, .ref r4, .ref r6, .int (-2), .ref r7, .ref r9])), (r2, .inr (0, [.ref r3, .int 0, .int 0]))]) (wr := []) (As := [.int p0]) (rest := []) (c_X11_existing l G cy sa hlst h0 r1 r2 r4 r6 r7 r9 r3 p0) m_X11_existing u_1079 hx hb hml hown hU hl.1 hK hP hD hS hA dX11_tree_2 [0, 1] [] rfl rfl rfl rfl rfl rfl (Nat.le_of_ble_eq_true rfl) (ci := 10) rfl rfl rfl hZ hnt hlocks (fun _ h9 => h9) (fun _ _ _ _ hw _ _ _ => hw.elim)
set_option maxHeartbeats 4000000 in
set_option maxRecDepth 100000 in
theorem c_X11_needs (l : Launch) (G : va_G) (cy : Nat → ClassId) (sa : Nat → Nat) (hlst : l.stackTraces = false) (h0 : Nat) (r1 : Nat) (r2 : Nat) (r4 : Nat) (r6 : Nat) (r7 : Nat) (r9 : Nat) (r3 : Nat) (p0 : Int32) (p1 : Int32) : Kx l G cy sa yX11_needs cX11_needs 4 (some .boolean) ({ frames := 12, cells := 1, slots := 6, locals := 300 } : Room) [.ref h0, .int p0, .int p1] [(h0, .inr (10, [.ref r1, .int 0, .int (-1), .ref r2, .ref r4, .ref r6, .int (-2), .ref r7, .ref r9])), (r2, .inr (0, [.ref r3, .int 0, .int 0]))] (fun _ _ => False) (fun E => E = eIO) := by
  refine kx_ofW (by decide) (Nat.le_of_ble_eq_true rfl) ?_
  intro p e s m below meth c A ls hx hb hr hU hown hlocks hml hin hP hK hD hA hS hl hZ hnt
  have hown : s.vm.findClass RX11 = some m.cls := hown
  have hl : lv_has ls 4 [(0, .ref h0), (1, .int p0), (2, .int p1)] := hl
  refine lv_aload_n hx hb dX11_needs_0 rfl (lv_at hl 0 rfl) ?_
  refine lv_iload_n hx hb dX11_needs_1 rfl (lv_at hl 1 rfl) ?_
  refine kx_callV (wc := [(h0, .inr (10, [.ref r1, .int 0, .int (-1), .ref r2, .ref r4, .ref r6, .int (-2), .ref r7, .ref r9])), (r2, .inr (0, [.ref r3, .int 0, .int 0]))]) (wr := []) (As := [.int p0]) (rest := []) (c_X11_existing l G cy sa hlst h0 r1 r2 r4 r6 r7 r9 r3 p0) m_X11_existing u_1079 hx hb hml hown hU hl.1 hK hP hD hS hA dX11_needs_2 [0, 1] [] rfl rfl rfl rfl rfl rfl (Nat.le_of_ble_eq_true rfl) (ci := 10) rfl rfl rfl hZ hnt hlocks (fun _ h9 => h9) (fun _ _ _ _ hw _ _ _ => hw.elim)
set_option maxHeartbeats 4000000 in
set_option maxRecDepth 100000 in
theorem c_X11_uses (l : Launch) (G : va_G) (cy : Nat → ClassId) (sa : Nat → Nat) (hlst : l.stackTraces = false) (h0 : Nat) (r1 : Nat) (r2 : Nat) (r4 : Nat) (r6 : Nat) (r7 : Nat) (r9 : Nat) (r3 : Nat) (p0 : Int32) : Kx l G cy sa yX11_uses cX11_uses 2 (some .int) ({ frames := 12, cells := 1, slots := 6, locals := 300 } : Room) [.ref h0, .int p0] [(h0, .inr (10, [.ref r1, .int 0, .int (-1), .ref r2, .ref r4, .ref r6, .int (-2), .ref r7, .ref r9])), (r2, .inr (0, [.ref r3, .int 0, .int 0]))] (fun _ _ => False) (fun E => E = eIO) := by
  refine kx_ofW (by decide) (Nat.le_of_ble_eq_true rfl) ?_
  intro p e s m below meth c A ls hx hb hr hU hown hlocks hml hin hP hK hD hA hS hl hZ hnt
  have hown : s.vm.findClass RX11 = some m.cls := hown
  have hl : lv_has ls 2 [(0, .ref h0), (1, .int p0)] := hl
  refine lv_aload_n hx hb dX11_uses_0 rfl (lv_at hl 0 rfl) ?_
  refine lv_iload_n hx hb dX11_uses_1 rfl (lv_at hl 1 rfl) ?_
  refine kx_callV (wc := [(h0, .inr (10, [.ref r1, .int 0, .int (-1), .ref r2, .ref r4, .ref r6, .int (-2), .ref r7, .ref r9])), (r2, .inr (0, [.ref r3, .int 0, .int 0]))]) (wr := []) (As := [.int p0]) (rest := []) (c_X11_existing l G cy sa hlst h0 r1 r2 r4 r6 r7 r9 r3 p0) m_X11_existing u_1079 hx hb hml hown hU hl.1 hK hP hD hS hA dX11_uses_2 [0, 1] [] rfl rfl rfl rfl rfl rfl (Nat.le_of_ble_eq_true rfl) (ci := 10) rfl rfl rfl hZ hnt hlocks (fun _ h9 => h9) (fun _ _ _ _ hw _ _ _ => hw.elim)
set_option maxHeartbeats 4000000 in
set_option maxRecDepth 100000 in
theorem c_X11_same (l : Launch) (G : va_G) (cy : Nat → ClassId) (sa : Nat → Nat) (hlst : l.stackTraces = false) (h0 : Nat) (r1 : Nat) (r2 : Nat) (r4 : Nat) (r6 : Nat) (r7 : Nat) (r9 : Nat) (r3 : Nat) (p0 : Int32) : Kx l G cy sa yX11_same cX11_same 4 (some .int) ({ frames := 12, cells := 1, slots := 6, locals := 300 } : Room) [.ref h0, .int p0] [(h0, .inr (10, [.ref r1, .int 0, .int (-1), .ref r2, .ref r4, .ref r6, .int (-2), .ref r7, .ref r9])), (r2, .inr (0, [.ref r3, .int 0, .int 0]))] (fun _ _ => False) (fun E => E = eIO) := by
  refine kx_ofW (by decide) (Nat.le_of_ble_eq_true rfl) ?_
  intro p e s m below meth c A ls hx hb hr hU hown hlocks hml hin hP hK hD hA hS hl hZ hnt
  have hown : s.vm.findClass RX11 = some m.cls := hown
  have hl : lv_has ls 4 [(0, .ref h0), (1, .int p0)] := hl
  refine lv_aload_n hx hb dX11_same_0 rfl (lv_at hl 0 rfl) ?_
  refine lv_iload_n hx hb dX11_same_1 rfl (lv_at hl 1 rfl) ?_
  refine kx_callV (wc := [(h0, .inr (10, [.ref r1, .int 0, .int (-1), .ref r2, .ref r4, .ref r6, .int (-2), .ref r7, .ref r9])), (r2, .inr (0, [.ref r3, .int 0, .int 0]))]) (wr := []) (As := [.int p0]) (rest := []) (c_X11_existing l G cy sa hlst h0 r1 r2 r4 r6 r7 r9 r3 p0) m_X11_existing u_1079 hx hb hml hown hU hl.1 hK hP hD hS hA dX11_same_2 [0, 1] [] rfl rfl rfl rfl rfl rfl (Nat.le_of_ble_eq_true rfl) (ci := 10) rfl rfl rfl hZ hnt hlocks (fun _ h9 => h9) (fun _ _ _ _ hw _ _ _ => hw.elim)
set_option maxHeartbeats 4000000 in
set_option maxRecDepth 100000 in
theorem c_X11_gives (l : Launch) (G : va_G) (cy : Nat → ClassId) (sa : Nat → Nat) (hlst : l.stackTraces = false) (h0 : Nat) (r1 : Nat) (r2 : Nat) (r4 : Nat) (r6 : Nat) (r7 : Nat) (r9 : Nat) (r3 : Nat) (p0 : Int32) (p1 : Int32) : Kx l G cy sa yX11_gives cX11_gives 4 (some .boolean) ({ frames := 12, cells := 1, slots := 6, locals := 300 } : Room) [.ref h0, .int p0, .int p1] [(h0, .inr (10, [.ref r1, .int 0, .int (-1), .ref r2, .ref r4, .ref r6, .int (-2), .ref r7, .ref r9])), (r2, .inr (0, [.ref r3, .int 0, .int 0]))] (fun _ _ => False) (fun E => E = eIO) := by
  refine kx_ofW (by decide) (Nat.le_of_ble_eq_true rfl) ?_
  intro p e s m below meth c A ls hx hb hr hU hown hlocks hml hin hP hK hD hA hS hl hZ hnt
  have hown : s.vm.findClass RX11 = some m.cls := hown
  have hl : lv_has ls 4 [(0, .ref h0), (1, .int p0), (2, .int p1)] := hl
  refine lv_aload_n hx hb dX11_gives_0 rfl (lv_at hl 0 rfl) ?_
  refine lv_iload_n hx hb dX11_gives_1 rfl (lv_at hl 1 rfl) ?_
  refine kx_callV (wc := [(h0, .inr (10, [.ref r1, .int 0, .int (-1), .ref r2, .ref r4, .ref r6, .int (-2), .ref r7, .ref r9])), (r2, .inr (0, [.ref r3, .int 0, .int 0]))]) (wr := []) (As := [.int p0]) (rest := []) (c_X11_existing l G cy sa hlst h0 r1 r2 r4 r6 r7 r9 r3 p0) m_X11_existing u_1079 hx hb hml hown hU hl.1 hK hP hD hS hA dX11_gives_2 [0, 1] [] rfl rfl rfl rfl rfl rfl (Nat.le_of_ble_eq_true rfl) (ci := 10) rfl rfl rfl hZ hnt hlocks (fun _ h9 => h9) (fun _ _ _ _ hw _ _ _ => hw.elim)
set_option maxHeartbeats 4000000 in
set_option maxRecDepth 100000 in
theorem c_X11_trim (l : Launch) (G : va_G) (cy : Nat → ClassId) (sa : Nat → Nat) (hlst : l.stackTraces = false) (h0 : Nat) (r1 : Nat) (r2 : Nat) (r4 : Nat) (r6 : Nat) (r7 : Nat) (r9 : Nat) (r3 : Nat) (p0 : Int32) : Kx l G cy sa yX11_trim cX11_trim 3 (some .int) ({ frames := 12, cells := 1, slots := 6, locals := 300 } : Room) [.ref h0, .int p0] [(h0, .inr (10, [.ref r1, .int 0, .int (-1), .ref r2, .ref r4, .ref r6, .int (-2), .ref r7, .ref r9])), (r2, .inr (0, [.ref r3, .int 0, .int 0]))] (fun _ _ => False) (fun E => E = eIO) := by
  refine kx_ofW (by decide) (Nat.le_of_ble_eq_true rfl) ?_
  intro p e s m below meth c A ls hx hb hr hU hown hlocks hml hin hP hK hD hA hS hl hZ hnt
  have hown : s.vm.findClass RX11 = some m.cls := hown
  have hl : lv_has ls 3 [(0, .ref h0), (1, .int p0)] := hl
  refine lv_aload_n hx hb dX11_trim_0 rfl (lv_at hl 0 rfl) ?_
  refine lv_iload_n hx hb dX11_trim_1 rfl (lv_at hl 1 rfl) ?_
  refine kx_callV (wc := [(h0, .inr (10, [.ref r1, .int 0, .int (-1), .ref r2, .ref r4, .ref r6, .int (-2), .ref r7, .ref r9])), (r2, .inr (0, [.ref r3, .int 0, .int 0]))]) (wr := []) (As := [.int p0]) (rest := []) (c_X11_existing l G cy sa hlst h0 r1 r2 r4 r6 r7 r9 r3 p0) m_X11_existing u_1079 hx hb hml hown hU hl.1 hK hP hD hS hA dX11_trim_2 [0, 1] [] rfl rfl rfl rfl rfl rfl (Nat.le_of_ble_eq_true rfl) (ci := 10) rfl rfl rfl hZ hnt hlocks (fun _ h9 => h9) (fun _ _ _ _ hw _ _ _ => hw.elim)
set_option maxHeartbeats 4000000 in
set_option maxRecDepth 100000 in
theorem c_X11_translate (l : Launch) (G : va_G) (cy : Nat → ClassId) (sa : Nat → Nat) (hlst : l.stackTraces = false) (h0 : Nat) (r1 : Nat) (r2 : Nat) (r4 : Nat) (r6 : Nat) (r7 : Nat) (r9 : Nat) (r3 : Nat) (p0 : Int32) : Kx l G cy sa yX11_translate cX11_translate 3 (some .int) ({ frames := 12, cells := 1, slots := 6, locals := 300 } : Room) [.ref h0, .int p0] [(h0, .inr (10, [.ref r1, .int 0, .int (-1), .ref r2, .ref r4, .ref r6, .int (-2), .ref r7, .ref r9])), (r2, .inr (0, [.ref r3, .int 0, .int 0]))] (fun _ _ => False) (fun E => E = eIO) := by
  refine kx_ofW (by decide) (Nat.le_of_ble_eq_true rfl) ?_
  intro p e s m below meth c A ls hx hb hr hU hown hlocks hml hin hP hK hD hA hS hl hZ hnt
  have hown : s.vm.findClass RX11 = some m.cls := hown
  have hl : lv_has ls 3 [(0, .ref h0), (1, .int p0)] := hl
  refine lv_aload_n hx hb dX11_translate_0 rfl (lv_at hl 0 rfl) ?_
  refine lv_iload_n hx hb dX11_translate_1 rfl (lv_at hl 1 rfl) ?_
  refine kx_callV (wc := [(h0, .inr (10, [.ref r1, .int 0, .int (-1), .ref r2, .ref r4, .ref r6, .int (-2), .ref r7, .ref r9])), (r2, .inr (0, [.ref r3, .int 0, .int 0]))]) (wr := []) (As := [.int p0]) (rest := []) (c_X11_existing l G cy sa hlst h0 r1 r2 r4 r6 r7 r9 r3 p0) m_X11_existing u_1079 hx hb hml hown hU hl.1 hK hP hD hS hA dX11_translate_2 [0, 1] [] rfl rfl rfl rfl rfl rfl (Nat.le_of_ble_eq_true rfl) (ci := 10) rfl rfl rfl hZ hnt hlocks (fun _ h9 => h9) (fun _ _ _ _ hw _ _ _ => hw.elim)
set_option maxHeartbeats 4000000 in
set_option maxRecDepth 100000 in
theorem c_X11_translated (l : Launch) (G : va_G) (cy : Nat → ClassId) (sa : Nat → Nat) (hlst : l.stackTraces = false) (h0 : Nat) (r1 : Nat) (r2 : Nat) (r4 : Nat) (r6 : Nat) (r7 : Nat) (r9 : Nat) (r3 : Nat) (p0 : Int32) : Kx l G cy sa yX11_translated cX11_translated 3 (some .int) ({ frames := 12, cells := 1, slots := 6, locals := 300 } : Room) [.ref h0, .int p0] [(h0, .inr (10, [.ref r1, .int 0, .int (-1), .ref r2, .ref r4, .ref r6, .int (-2), .ref r7, .ref r9])), (r2, .inr (0, [.ref r3, .int 0, .int 0]))] (fun _ _ => False) (fun E => E = eIO) := by
  refine kx_ofW (by decide) (Nat.le_of_ble_eq_true rfl) ?_
  intro p e s m below meth c A ls hx hb hr hU hown hlocks hml hin hP hK hD hA hS hl hZ hnt
  have hown : s.vm.findClass RX11 = some m.cls := hown
  have hl : lv_has ls 3 [(0, .ref h0), (1, .int p0)] := hl
  refine lv_aload_n hx hb dX11_translated_0 rfl (lv_at hl 0 rfl) ?_
  refine lv_iload_n hx hb dX11_translated_1 rfl (lv_at hl 1 rfl) ?_
  refine kx_callV (wc := [(h0, .inr (10, [.ref r1, .int 0, .int (-1), .ref r2, .ref r4, .ref r6, .int (-2), .ref r7, .ref r9])), (r2, .inr (0, [.ref r3, .int 0, .int 0]))]) (wr := []) (As := [.int p0]) (rest := []) (c_X11_existing l G cy sa hlst h0 r1 r2 r4 r6 r7 r9 r3 p0) m_X11_existing u_1079 hx hb hml hown hU hl.1 hK hP hD hS hA dX11_translated_2 [0, 1] [] rfl rfl rfl rfl rfl rfl (Nat.le_of_ble_eq_true rfl) (ci := 10) rfl rfl rfl hZ hnt hlocks (fun _ h9 => h9) (fun _ _ _ _ hw _ _ _ => hw.elim)
set_option maxHeartbeats 4000000 in
set_option maxRecDepth 100000 in
theorem c_X11_slack (l : Launch) (G : va_G) (cy : Nat → ClassId) (sa : Nat → Nat) (hlst : l.stackTraces = false) (h0 : Nat) (r1 : Nat) (r2 : Nat) (r4 : Nat) (r6 : Nat) (r7 : Nat) (r9 : Nat) (r3 : Nat) (p0 : Int32) (p1 : Int32) : Kx l G cy sa yX11_slack cX11_slack 4 (some .int) ({ frames := 12, cells := 1, slots := 6, locals := 300 } : Room) [.ref h0, .int p0, .int p1] [(h0, .inr (10, [.ref r1, .int 0, .int (-1), .ref r2, .ref r4, .ref r6, .int (-2), .ref r7, .ref r9])), (r2, .inr (0, [.ref r3, .int 0, .int 0]))] (fun _ _ => False) (fun E => E = eIO) := by
  refine kx_ofW (by decide) (Nat.le_of_ble_eq_true rfl) ?_
  intro p e s m below meth c A ls hx hb hr hU hown hlocks hml hin hP hK hD hA hS hl hZ hnt
  have hown : s.vm.findClass RX11 = some m.cls := hown
  have hl : lv_has ls 4 [(0, .ref h0), (1, .int p0), (2, .int p1)] := hl
  refine lv_aload_n hx hb dX11_slack_0 rfl (lv_at hl 0 rfl) ?_
  refine lv_iload_n hx hb dX11_slack_1 rfl (lv_at hl 1 rfl) ?_
  refine kx_callV (wc := [(h0, .inr (10, [.ref r1, .int 0, .int (-1), .ref r2, .ref r4, .ref r6, .int (-2), .ref r7, .ref r9])), (r2, .inr (0, [.ref r3, .int 0, .int 0]))]) (wr := []) (As := [.int p0]) (rest := []) (c_X11_existing l G cy sa hlst h0 r1 r2 r4 r6 r7 r9 r3 p0) m_X11_existing u_1079 hx hb hml hown hU hl.1 hK hP hD hS hA dX11_slack_2 [0, 1] [] rfl rfl rfl rfl rfl rfl (Nat.le_of_ble_eq_true rfl) (ci := 10) rfl rfl rfl hZ hnt hlocks (fun _ h9 => h9) (fun _ _ _ _ hw _ _ _ => hw.elim)
set_option maxHeartbeats 4000000 in
set_option maxRecDepth 100000 in
theorem c_X11_rests (l : Launch) (G : va_G) (cy : Nat → ClassId) (sa : Nat → Nat) (hlst : l.stackTraces = false) (h0 : Nat) (r1 : Nat) (r2 : Nat) (r4 : Nat) (r6 : Nat) (r7 : Nat) (r9 : Nat) (r3 : Nat) (p0 : Int32) : Kx l G cy sa yX11_rests cX11_rests 2 (some .int) ({ frames := 12, cells := 1, slots := 6, locals := 300 } : Room) [.ref h0, .int p0] [(h0, .inr (10, [.ref r1, .int 0, .int (-1), .ref r2, .ref r4, .ref r6, .int (-2), .ref r7, .ref r9])), (r2, .inr (0, [.ref r3, .int 0, .int 0]))] (fun _ _ => False) (fun E => E = eIO) := by
  refine kx_ofW (by decide) (Nat.le_of_ble_eq_true rfl) ?_
  intro p e s m below meth c A ls hx hb hr hU hown hlocks hml hin hP hK hD hA hS hl hZ hnt
  have hown : s.vm.findClass RX11 = some m.cls := hown
  have hl : lv_has ls 2 [(0, .ref h0), (1, .int p0)] := hl
  refine lv_aload_n hx hb dX11_rests_0 rfl (lv_at hl 0 rfl) ?_
  refine lv_iload_n hx hb dX11_rests_1 rfl (lv_at hl 1 rfl) ?_
  refine kx_callV (wc := [(h0, .inr (10, [.ref r1, .int 0, .int (-1), .ref r2, .ref r4, .ref r6, .int (-2), .ref r7, .ref r9])), (r2, .inr (0, [.ref r3, .int 0, .int 0]))]) (wr := []) (As := [.int p0]) (rest := []) (c_X11_existing l G cy sa hlst h0 r1 r2 r4 r6 r7 r9 r3 p0) m_X11_existing u_1079 hx hb hml hown hU hl.1 hK hP hD hS hA dX11_rests_2 [0, 1] [] rfl rfl rfl rfl rfl rfl (Nat.le_of_ble_eq_true rfl) (ci := 10) rfl rfl rfl hZ hnt hlocks (fun _ h9 => h9) (fun _ _ _ _ hw _ _ _ => hw.elim)
set_option maxHeartbeats 4000000 in
set_option maxRecDepth 100000 in
theorem c_X11_without (l : Launch) (G : va_G) (cy : Nat → ClassId) (sa : Nat → Nat) (hlst : l.stackTraces = false) (h0 : Nat) (r1 : Nat) (r2 : Nat) (r4 : Nat) (r6 : Nat) (r7 : Nat) (r9 : Nat) (r3 : Nat) (p0 : Int32) : Kx l G cy sa yX11_without cX11_without 2 (some .int) ({ frames := 12, cells := 1, slots := 6, locals := 300 } : Room) [.ref h0, .int p0] [(h0, .inr (10, [.ref r1, .int 0, .int (-1), .ref r2, .ref r4, .ref r6, .int (-2), .ref r7, .ref r9])), (r2, .inr (0, [.ref r3, .int 0, .int 0]))] (fun _ _ => False) (fun E => E = eIO) := by
  refine kx_ofW (by decide) (Nat.le_of_ble_eq_true rfl) ?_
  intro p e s m below meth c A ls hx hb hr hU hown hlocks hml hin hP hK hD hA hS hl hZ hnt
  have hown : s.vm.findClass RX11 = some m.cls := hown
  have hl : lv_has ls 2 [(0, .ref h0), (1, .int p0)] := hl
  refine lv_iload_n hx hb dX11_without_0 rfl (lv_at hl 1 rfl) ?_
  refine lv_if_lt (tgt := 15) hx hb dX11_without_1 (by decide) (fun c_1 => ?_) (fun c_1 => ?_)
  · exact kx_throwW (text := "no such axiom") hx hb hlst hown (by decide) hU u_1083 u_144 (by decide) at_156 hZ hS (by rw [hml]; exact hl.1) dX11_without_15 dX11_without_18 dX11_without_19 dX11_without_22 dX11_without_25 hnt rfl rfl rfl rfl hlocks rfl
  · refine lv_iload_n hx hb dX11_without_4 rfl (lv_at hl 1 rfl) ?_
    refine lv_aload_n hx hb dX11_without_5 rfl (lv_at hl 0 rfl) ?_
    refine va_get (D := G) (ci := 10) (v := .ref r2) (C := RX11) (T := TX11) (N := 9) hx hb hU in_X11 hown hK.1 hP 0 rfl rfl 3 (by decide) (hU _ u_253) (fun _ h9 => h9) rfl dX11_without_6 ?_
    refine va_get (D := G) (ci := 0) (v := .int 0) (C := RX0) (T := TX0) (N := 3) hx hb hU in_X0 hown hK.1 hP 1 rfl rfl 1 (by decide) (hU _ u_178) (fun _ h9 => h9) rfl dX11_without_9 ?_
    refine lv_icmp_lt (tgt := 26) hx hb dX11_without_12 (by decide) (fun c9 => absurd c9 c_1) (fun _ => ?_)
    exact kx_throwW (text := "no such axiom") hx hb hlst hown (by decide) hU u_1083 u_144 (by decide) at_156 hZ hS (by rw [hml]; exact hl.1) dX11_without_15 dX11_without_18 dX11_without_19 dX11_without_22 dX11_without_25 hnt rfl rfl rfl rfl hlocks rfl
set_option maxHeartbeats 4000000 in
set_option maxRecDepth 100000 in
theorem c_X11_refutes (l : Launch) (G : va_G) (cy : Nat → ClassId) (h0 : Nat) (r1 : Nat) (r2 : Nat) (r4 : Nat) (r6 : Nat) (r7 : Nat) (r9 : Nat) (r3 : Nat) : Kt l G cy yX11_refutes cX11_refutes 2 (some .int) ({ frames := 10, cells := 0, slots := 0, locals := 200 } : Room) [.ref h0] [(h0, .inr (10, [.ref r1, .int 0, .int (-1), .ref r2, .ref r4, .ref r6, .int (-2), .ref r7, .ref r9])), (r2, .inr (0, [.ref r3, .int 0, .int 0]))] (fun (v : Option Value) (w1 : va_W) => v = some (.int (-1)) ∧ w1 = []) := by
  refine kt_ofW (by decide) (Nat.le_of_ble_eq_true rfl) ?_
  intro p e s m below meth c A ls hx hb hr hU hown hlocks hml hin hP hK hD hA hS hl
  have hown : s.vm.findClass RX11 = some m.cls := hown
  have hl : lv_has ls 2 [(0, .ref h0)] := hl
  refine lv_iconst (v := 0) hx hb dX11_refutes_0 (by decide) ?_
  refine lv_istore_n (lv' := [(1, .int 0), (0, .ref h0)]) hx hb dX11_refutes_1 rfl hl (by decide) rfl (fun ls hl => ?_)
  refine lv_iload_n hx hb dX11_refutes_2 rfl (lv_at hl 0 rfl) ?_
  refine lv_aload_n hx hb dX11_refutes_3 rfl (lv_at hl 1 rfl) ?_
  refine va_get (D := G) (ci := 10) (v := .ref r2) (C := RX11) (T := TX11) (N := 9) hx hb hU in_X11 hown hK.1 hP 0 rfl rfl 3 (by decide) (hU _ u_253) (fun _ h9 => h9) rfl dX11_refutes_4 ?_
  refine va_get (D := G) (ci := 0) (v := .int 0) (C := RX0) (T := TX0) (N := 3) hx hb hU in_X0 hown hK.1 hP 1 rfl rfl 2 (by decide) (hU _ u_181) (fun _ h9 => h9) rfl dX11_refutes_7 ?_
  refine lv_icmp_ge (tgt := 36) hx hb dX11_refutes_10 (by decide) (fun _ => ?_) (fun c9 => absurd (by decide) c9)
  refine lv_iconst (v := (-1)) hx hb dX11_refutes_36 (by decide) ?_
  exact kt_iret hx hb hr hlocks hP hD hS dX11_refutes_37 [] rfl rfl rfl rfl ⟨rfl, rfl⟩
end
section
def mU (C : String) (x y : MethodName) (bytes : ByteArray) (maxL : Nat) (ret : Option FieldType) (n : Nat) : Prop := Cond.code y bytes maxL ret ∈ UU ∧ Cond.sameMethod x.cls y.cls x.name x.desc ∈ UU ∧ Cond.selects C x y ∈ UU ∧ Cond.instanceMethod y ∈ UU ∧ Cond.initialized y.cls ∈ UU ∧ y = ⟨y.cls, x.name, x.desc⟩ ∧ y.cls ≠ "java/lang/invoke/MethodHandle" ∧ y.cls ≠ "java/lang/invoke/VarHandle" ∧ (parseMethodDescriptor x.desc).map (fun d => d.parameters.length) = some n
theorem kt_callU {p : Program} {l : Launch} {e : Env} {R : Room} {s : State} {m : MethodId} {args : Array Value} {below : List Frame} {meth : Method} {c : Code} {H H0 : Heap} {locs : List Loc} {cells slots : Nat} {Q : State → Prop} {A : Nat → Prop} {G : va_G} {cy : Nat → ClassId} {cc : ByteArray} {pc : Nat} {ls : Array Slot} {st0 rest : List Value} {w wc wr : va_W} {post : Option Value → va_W → Prop}
    {own C : String} {x y : MethodName} {bytes : ByteArray} {maxL nL n index : Nat} {ret : Option FieldType} {rm : Room} {As : List Value} {b : Nat} (hM : Kt l G cy y bytes maxL ret rm (.ref b :: As) wc post) (hm : mU C x y bytes maxL ret n) (hl : Cond.methodLink own index x ∈ UU)
    (hx : p.tables.exec = Jvm.exec) (hb : c.code = cc) (hml : c.maxLocals = nL) (hown : s.vm.findClass own = some m.cls) (hU : ∀ w ∈ UU, w.before args s = true) (hls : ls.size = nL) (hK : kK G cy s) (hP : va_P G vwCl w H) (hD : va_D A w) (hS : va_S A H0 H locs) (hA : ∀ q, H0.size ≤ q → A q)
    (hdg : decode cc pc = .ok (.invokevirtual index, 3)) (isC isR : List Nat) (hC : isC.map (fun i => w[i]?) = wc.map some) (hR : isR.map (fun i => w[i]?) = wr.map some) (hok : lx_ok isC isR = true) (hroom : lx_room rm R maxL cells slots = true)
    (hn : As.length = n) (hst : st0 = As.reverse ++ .ref b :: rest) (hrest : (rest.map fun v => v.category).sum ≤ 8)
    {ci : Nat} {q : vw_C} {fs : List Value} (hcl : vwCl[ci]? = some q) (hq0 : wc[0]? = some (b, .inr (ci, fs))) (hqC : q.1 = C)
    (kk : ∀ (v : Option Value) (w1 : va_W) (H1 : Heap) (locs1 : List Loc), post v w1 → va_P G vwCl (wr ++ w1) H1 → va_D A (wr ++ w1) → va_S A H0 H1 locs1 → W p l e R s m args below meth c H1 locs1 (cells + rm.cells) (slots + rm.slots) Q (F0 m (pc + 3) ls (v.toList ++ rest))) : W p l e R s m args below meth c H locs cells slots Q (F0 m pc ls st0) := by
  obtain ⟨u0, u1, u2, u3, u4, hyx, hd⟩ := hm
  have hpre := kt_pre (av := .ref b :: As) (wc := wc) hK hP hD isC hC (lx_okc hok)
  have hrec : ∃ cell : Cell, H[b]? = some cell ∧ cell.vm.isStatics = false ∧ s.vm.findClass C = some cell.cls := by
    rw [← hqC]; exact va_recv hK.1 (hP.sub isC (lx_fm hC)) hcl hq0
  have hG : GoodIn UU (va_wsU own index C y.cls x y (Cond.code y bytes maxL ret :: UU)) := by
    intro v hv
    rcases List.mem_append.mp hv with h | h
    · have h2 : v ∈ UU := by
        rcases List.mem_cons.mp h with h | h
        · rw [h]; exact hl
        rcases List.mem_cons.mp h with h | h
        · rw [h]; exact u1
        rcases List.mem_cons.mp h with h | h
        · rw [h]; exact u2
        rcases List.mem_cons.mp h with h | h
        · rw [h]; exact u3
        rcases List.mem_cons.mp h with h | h
        · rw [h]; exact u4
        · cases h
      exact ⟨h2, good_of_word (uu_good h2)⟩
    · exact uu_gi u0 v h
  exact kt_go (va_runU (C := C) (As := As) (rest := rest) ⟨hx, hb, hml, hown, hU⟩ (hM H.size) (va_cwU n hU hG rfl rfl rfl hyx hd (lx_rooma hroom)) ⟨hpre.1, hrec, hpre.2⟩ rfl hn hls hst (lv_room hrest) hdg (lx_roomb hroom)) hP hD hS hA isC isR hC hR hok kk
theorem lx_lushr0 (z : UInt64) : ((0 : Int64).toUInt64 >>> z).toInt64 = 0 := by
  apply Int64.toBitVec_inj.mp
  simp
theorem lx_upL {k : Nat} {a : Int64} : vp_updL (fun _ => a) k a = (fun _ => a) := funext (fun j => by simp [vp_updL])
theorem lx_upI {k : Nat} {a : Int32} : upd (fun _ => a) k a = (fun _ => a) := funext (fun j => by simp [upd])
theorem lx_upq {f : Nat → Option Nat} {k : Nat} {v : Option Nat} : va_up f k v k = v := by simp [va_up]
theorem okW_in {k : Int32} (h : okWidth k) : vp_in k 7 := by
  obtain ⟨j, h1, h2⟩ := nI_of2 (x := k) (M := 6) (n := 6) rfl h.1 (lx_le h.2)
  rw [h2]
  exact vp_in_nI (by omega) (by decide)
theorem lx_m1bit : ∀ i, i < 64 → (((-1 : Int64).toUInt64 >>> ((nI i).toInt64.toUInt64 &&& Int64.toUInt64 63)).toInt64 &&& 1) = 1 := by decide +kernel
theorem sp_model_hit {k : Int32} {i : Nat} (hi : i < 64) (hk : ¬ k = (-1)) (h : nI i = k) : nI i = sp_model k := by
  subst h
  unfold sp_model
  rw [if_neg hk, if_neg (nI_pos (by omega)), if_pos (show nI i < 64 from (show nI i < nI 64 from nI_lt hi (by decide)))]
theorem sp_model_out {k : Int32} (hk : ¬ k = (-1)) (h : ∀ j, j < 64 → ¬ nI j = k) : (-1) = sp_model k := by
  unfold sp_model
  rw [if_neg hk]
  by_cases h0 : k < 0
  · rw [if_pos h0]
  · rw [if_neg h0]
    by_cases h1 : k < 64
    · exfalso
      obtain ⟨j, h2, h3⟩ := nI_of2 (x := k) (M := 64) (n := 64) rfl h0 (lx_le (fun q => lx_nlt (lx_le (lx_nlt (Int32.le_of_lt h1))) q))
      rcases Nat.lt_or_ge j 64 with q | q
      · exact h j q h3.symm
      · have e : j = 64 := by omega
        subst e
        rw [h3] at h1
        exact absurd h1 (by decide)
    · rw [if_neg h1]
end
section
theorem u_143 : Cond.initialized "java/lang/IllegalArgumentException" ∈ UU := uu_mem 143 (by decide +kernel) (by decide +kernel)
theorem u_145 : Cond.initialized "java/util/NoSuchElementException" ∈ UU := uu_mem 145 (by decide +kernel) (by decide +kernel)
theorem u_147 : Cond.initialized RX10 ∈ UU := uu_mem 147 (by decide +kernel) (by decide +kernel)
theorem u_176 : Cond.fieldLink RX10 18 "PlaneProof$Book" "axioms" "I" ∈ UU := uu_mem 176 (by decide +kernel) (by decide +kernel)
theorem u_301 : Cond.code yX0_modelsWithout cX0_modelsWithout 5 (some .long) ∈ UU := uu_mem 301 (by decide +kernel) (by decide +kernel)
theorem u_302 : Cond.constantLong RX0 22 (-1) ∈ UU := uu_mem 302 (by decide +kernel) (by decide +kernel)
theorem u_305 : Cond.code yJ13_bitCount_95d88 cJ13_bitCount_95d88 2 (some .int) ∈ UU := uu_mem 305 (by decide +kernel) (by decide +kernel)
theorem u_306 : Cond.constantLong RJ13 314 (6148914691236517205) ∈ UU := uu_mem 306 (by decide +kernel) (by decide +kernel)
theorem u_307 : Cond.constantLong RJ13 316 (3689348814741910323) ∈ UU := uu_mem 307 (by decide +kernel) (by decide +kernel)
theorem u_308 : Cond.constantLong RJ13 318 (1085102592571150095) ∈ UU := uu_mem 308 (by decide +kernel) (by decide +kernel)
theorem u_336 : Cond.code yX2_init cX2_init 2 none ∈ UU := uu_mem 336 (by decide +kernel) (by decide +kernel)
theorem u_337 : Cond.methodLink RX2 3 Lib.objectInit ∈ UU := uu_mem 337 (by decide +kernel) (by decide +kernel)
theorem u_338 : Cond.fieldLink RX2 9 "PlaneProof$Closure" "width" "I" ∈ UU := uu_mem 338 (by decide +kernel) (by decide +kernel)
theorem u_339 : Cond.fieldLink RX2 15 "PlaneProof$Closure" "there" "[J" ∈ UU := uu_mem 339 (by decide +kernel) (by decide +kernel)
theorem u_340 : Cond.fieldLink RX2 19 "PlaneProof$Closure" "found" "[I" ∈ UU := uu_mem 340 (by decide +kernel) (by decide +kernel)
theorem u_364 : Cond.arrayClass .long ∈ UU := uu_mem 364 (by decide +kernel) (by decide +kernel)
theorem u_371 : Cond.code yJ7_fill_d0a16 cJ7_fill_d0a16 5 none ∈ UU := uu_mem 371 (by decide +kernel) (by decide +kernel)
theorem u_439 : Cond.code yX0_leastCore cX0_leastCore 1 (some .int) ∈ UU := uu_mem 439 (by decide +kernel) (by decide +kernel)
theorem u_440 : Cond.methodLink RX0 30 yX0_lesserCore ∈ UU := uu_mem 440 (by decide +kernel) (by decide +kernel)
theorem u_441 : Cond.static yX0_lesserCore ∈ UU := uu_mem 441 (by decide +kernel) (by decide +kernel)
theorem u_442 : Cond.code yX0_lesserCore cX0_lesserCore 9 (some .int) ∈ UU := uu_mem 442 (by decide +kernel) (by decide +kernel)
theorem u_461 : Cond.code yX0_planeCount cX0_planeCount 3 (some .int) ∈ UU := uu_mem 461 (by decide +kernel) (by decide +kernel)
theorem u_465 : Cond.code yX0_madeBy cX0_madeBy 4 (some .int) ∈ UU := uu_mem 465 (by decide +kernel) (by decide +kernel)
theorem u_469 : Cond.code yX0_unusedSteps cX0_unusedSteps 3 (some .int) ∈ UU := uu_mem 469 (by decide +kernel) (by decide +kernel)
theorem u_977 : Cond.classLink RX11 84 "java/lang/IllegalArgumentException" ∈ UU := uu_mem 977 (by decide +kernel) (by decide +kernel)
theorem u_1099 : Cond.classLink RX11 141 "java/util/NoSuchElementException" ∈ UU := uu_mem 1099 (by decide +kernel) (by decide +kernel)
theorem u_1239 : Cond.code yX11_units cX11_units 5 (some .int) ∈ UU := uu_mem 1239 (by decide +kernel) (by decide +kernel)
theorem u_1240 : Cond.methodLink RX11 218 yX11_checkSets ∈ UU := uu_mem 1240 (by decide +kernel) (by decide +kernel)
theorem u_1241 : Cond.static yX11_checkSets ∈ UU := uu_mem 1241 (by decide +kernel) (by decide +kernel)
theorem u_1242 : Cond.code yX11_checkSets cX11_checkSets 2 none ∈ UU := uu_mem 1242 (by decide +kernel) (by decide +kernel)
theorem u_1244 : Cond.classLink RX11 222 RX10 ∈ UU := uu_mem 1244 (by decide +kernel) (by decide +kernel)
theorem u_1245 : Cond.instantiable RX10 3 ∈ UU := uu_mem 1245 (by decide +kernel) (by decide +kernel)
theorem u_1246 : Cond.methodLink RX11 224 yX10_init ∈ UU := uu_mem 1246 (by decide +kernel) (by decide +kernel)
theorem u_1247 : Cond.instanceMethod yX10_init ∈ UU := uu_mem 1247 (by decide +kernel) (by decide +kernel)
theorem u_1248 : Cond.code yX10_init cX10_init 3 none ∈ UU := uu_mem 1248 (by decide +kernel) (by decide +kernel)
theorem u_1249 : Cond.methodLink RX10 3 Lib.objectInit ∈ UU := uu_mem 1249 (by decide +kernel) (by decide +kernel)
theorem u_1250 : Cond.fieldLink RX10 9 "PlaneProof$Units" "ones" "I" ∈ UU := uu_mem 1250 (by decide +kernel) (by decide +kernel)
theorem u_1251 : Cond.fieldLink RX11 230 "PlaneProof$Units" "ones" "I" ∈ UU := uu_mem 1251 (by decide +kernel) (by decide +kernel)
theorem u_1252 : Cond.fieldLink RX10 15 "PlaneProof$Units" "noughts" "I" ∈ UU := uu_mem 1252 (by decide +kernel) (by decide +kernel)
theorem u_1253 : Cond.fieldLink RX11 233 "PlaneProof$Units" "noughts" "I" ∈ UU := uu_mem 1253 (by decide +kernel) (by decide +kernel)
theorem u_1254 : Cond.fieldLink RX10 23 "PlaneProof$Units" "clash" "Z" ∈ UU := uu_mem 1254 (by decide +kernel) (by decide +kernel)
theorem u_1255 : Cond.fieldLink RX11 236 "PlaneProof$Units" "clash" "Z" ∈ UU := uu_mem 1255 (by decide +kernel) (by decide +kernel)
theorem u_1263 : Cond.methodLink RX11 226 yX10_spread ∈ UU := uu_mem 1263 (by decide +kernel) (by decide +kernel)
theorem u_1264 : Cond.instanceMethod yX10_spread ∈ UU := uu_mem 1264 (by decide +kernel) (by decide +kernel)
theorem u_1265 : Cond.selects RX10 yX10_spread yX10_spread ∈ UU := uu_mem 1265 (by decide +kernel) (by decide +kernel)
theorem u_1266 : Cond.code yX10_spread cX10_spread 5 none ∈ UU := uu_mem 1266 (by decide +kernel) (by decide +kernel)
theorem u_1289 : Cond.code yX11_checkWidth cX11_checkWidth 1 none ∈ UU := uu_mem 1289 (by decide +kernel) (by decide +kernel)
theorem df_X10 : ∀ j, j < 3 → defaultValue (tyX10 j) = vp_V [.int 0, .int 0, .int 0] j := by decide +kernel
theorem m_X0_lesserCore : mS yX0_lesserCore cX0_lesserCore 9 (some .int) 5 := ⟨u_442, u_441, u_124, ⟨by decide, by decide, by decide +kernel⟩⟩
theorem m_X10_init : mI yX10_init cX10_init 3 2 := ⟨u_1248, u_1247, u_147, rfl, ⟨by decide, by decide, by decide +kernel⟩⟩
theorem m_X10_spread : mV yX10_spread cX10_spread 5 none 1 := ⟨u_1266, u_1264, u_1265, u_147, ⟨by decide, by decide, by decide +kernel⟩⟩
theorem m_X11_checkSets : mS yX11_checkSets cX11_checkSets 2 none 2 := ⟨u_1242, u_1241, u_123, ⟨by decide, by decide, by decide +kernel⟩⟩
theorem dJ13_bitCount_95d88_0 : decode cJ13_bitCount_95d88 0 = .ok (.lload_n 0, 1) := by decide +kernel
theorem dJ13_bitCount_95d88_1 : decode cJ13_bitCount_95d88 1 = .ok (.lload_n 0, 1) := by decide +kernel
theorem dJ13_bitCount_95d88_2 : decode cJ13_bitCount_95d88 2 = .ok (.iconst 1, 1) := by decide +kernel
theorem dJ13_bitCount_95d88_3 : decode cJ13_bitCount_95d88 3 = .ok (.lushr, 1) := by decide +kernel
theorem dJ13_bitCount_95d88_4 : decode cJ13_bitCount_95d88 4 = .ok (.ldc2_w 314, 3) := by decide +kernel
theorem dJ13_bitCount_95d88_7 : decode cJ13_bitCount_95d88 7 = .ok (.land, 1) := by decide +kernel
theorem dJ13_bitCount_95d88_8 : decode cJ13_bitCount_95d88 8 = .ok (.lsub, 1) := by decide +kernel
theorem dJ13_bitCount_95d88_9 : decode cJ13_bitCount_95d88 9 = .ok (.lstore_n 0, 1) := by decide +kernel
theorem dJ13_bitCount_95d88_10 : decode cJ13_bitCount_95d88 10 = .ok (.lload_n 0, 1) := by decide +kernel
theorem dJ13_bitCount_95d88_11 : decode cJ13_bitCount_95d88 11 = .ok (.ldc2_w 316, 3) := by decide +kernel
theorem dJ13_bitCount_95d88_14 : decode cJ13_bitCount_95d88 14 = .ok (.land, 1) := by decide +kernel
theorem dJ13_bitCount_95d88_15 : decode cJ13_bitCount_95d88 15 = .ok (.lload_n 0, 1) := by decide +kernel
theorem dJ13_bitCount_95d88_16 : decode cJ13_bitCount_95d88 16 = .ok (.iconst 2, 1) := by decide +kernel
theorem dJ13_bitCount_95d88_17 : decode cJ13_bitCount_95d88 17 = .ok (.lushr, 1) := by decide +kernel
theorem dJ13_bitCount_95d88_18 : decode cJ13_bitCount_95d88 18 = .ok (.ldc2_w 316, 3) := by decide +kernel
theorem dJ13_bitCount_95d88_21 : decode cJ13_bitCount_95d88 21 = .ok (.land, 1) := by decide +kernel
theorem dJ13_bitCount_95d88_22 : decode cJ13_bitCount_95d88 22 = .ok (.ladd, 1) := by decide +kernel
theorem dJ13_bitCount_95d88_23 : decode cJ13_bitCount_95d88 23 = .ok (.lstore_n 0, 1) := by decide +kernel
theorem dJ13_bitCount_95d88_24 : decode cJ13_bitCount_95d88 24 = .ok (.lload_n 0, 1) := by decide +kernel
theorem dJ13_bitCount_95d88_25 : decode cJ13_bitCount_95d88 25 = .ok (.lload_n 0, 1) := by decide +kernel
theorem dJ13_bitCount_95d88_26 : decode cJ13_bitCount_95d88 26 = .ok (.iconst 4, 1) := by decide +kernel
theorem dJ13_bitCount_95d88_27 : decode cJ13_bitCount_95d88 27 = .ok (.lushr, 1) := by decide +kernel
theorem dJ13_bitCount_95d88_28 : decode cJ13_bitCount_95d88 28 = .ok (.ladd, 1) := by decide +kernel
theorem dJ13_bitCount_95d88_29 : decode cJ13_bitCount_95d88 29 = .ok (.ldc2_w 318, 3) := by decide +kernel
theorem dJ13_bitCount_95d88_32 : decode cJ13_bitCount_95d88 32 = .ok (.land, 1) := by decide +kernel
theorem dJ13_bitCount_95d88_33 : decode cJ13_bitCount_95d88 33 = .ok (.lstore_n 0, 1) := by decide +kernel
theorem dJ13_bitCount_95d88_34 : decode cJ13_bitCount_95d88 34 = .ok (.lload_n 0, 1) := by decide +kernel
theorem dJ13_bitCount_95d88_35 : decode cJ13_bitCount_95d88 35 = .ok (.lload_n 0, 1) := by decide +kernel
theorem dJ13_bitCount_95d88_36 : decode cJ13_bitCount_95d88 36 = .ok (.bipush 8, 2) := by decide +kernel
theorem dJ13_bitCount_95d88_38 : decode cJ13_bitCount_95d88 38 = .ok (.lushr, 1) := by decide +kernel
theorem dJ13_bitCount_95d88_39 : decode cJ13_bitCount_95d88 39 = .ok (.ladd, 1) := by decide +kernel
theorem dJ13_bitCount_95d88_40 : decode cJ13_bitCount_95d88 40 = .ok (.lstore_n 0, 1) := by decide +kernel
theorem dJ13_bitCount_95d88_41 : decode cJ13_bitCount_95d88 41 = .ok (.lload_n 0, 1) := by decide +kernel
theorem dJ13_bitCount_95d88_42 : decode cJ13_bitCount_95d88 42 = .ok (.lload_n 0, 1) := by decide +kernel
theorem dJ13_bitCount_95d88_43 : decode cJ13_bitCount_95d88 43 = .ok (.bipush 16, 2) := by decide +kernel
theorem dJ13_bitCount_95d88_45 : decode cJ13_bitCount_95d88 45 = .ok (.lushr, 1) := by decide +kernel
theorem dJ13_bitCount_95d88_46 : decode cJ13_bitCount_95d88 46 = .ok (.ladd, 1) := by decide +kernel
theorem dJ13_bitCount_95d88_47 : decode cJ13_bitCount_95d88 47 = .ok (.lstore_n 0, 1) := by decide +kernel
theorem dJ13_bitCount_95d88_48 : decode cJ13_bitCount_95d88 48 = .ok (.lload_n 0, 1) := by decide +kernel
theorem dJ13_bitCount_95d88_49 : decode cJ13_bitCount_95d88 49 = .ok (.lload_n 0, 1) := by decide +kernel
theorem dJ13_bitCount_95d88_50 : decode cJ13_bitCount_95d88 50 = .ok (.bipush 32, 2) := by decide +kernel
theorem dJ13_bitCount_95d88_52 : decode cJ13_bitCount_95d88 52 = .ok (.lushr, 1) := by decide +kernel
theorem dJ13_bitCount_95d88_53 : decode cJ13_bitCount_95d88 53 = .ok (.ladd, 1) := by decide +kernel
theorem dJ13_bitCount_95d88_54 : decode cJ13_bitCount_95d88 54 = .ok (.lstore_n 0, 1) := by decide +kernel
theorem dJ13_bitCount_95d88_55 : decode cJ13_bitCount_95d88 55 = .ok (.lload_n 0, 1) := by decide +kernel
theorem dJ13_bitCount_95d88_56 : decode cJ13_bitCount_95d88 56 = .ok (.l2i, 1) := by decide +kernel
theorem dJ13_bitCount_95d88_57 : decode cJ13_bitCount_95d88 57 = .ok (.bipush 127, 2) := by decide +kernel
theorem dJ13_bitCount_95d88_59 : decode cJ13_bitCount_95d88 59 = .ok (.iand, 1) := by decide +kernel
theorem dJ13_bitCount_95d88_60 : decode cJ13_bitCount_95d88 60 = .ok (.ireturn, 1) := by decide +kernel
theorem dJ7_fill_d0a16_0 : decode cJ7_fill_d0a16 0 = .ok (.iconst 0, 1) := by decide +kernel
theorem dJ7_fill_d0a16_1 : decode cJ7_fill_d0a16 1 = .ok (.istore_n 3, 1) := by decide +kernel
theorem dJ7_fill_d0a16_2 : decode cJ7_fill_d0a16 2 = .ok (.aload_n 0, 1) := by decide +kernel
theorem dJ7_fill_d0a16_3 : decode cJ7_fill_d0a16 3 = .ok (.arraylength, 1) := by decide +kernel
theorem dJ7_fill_d0a16_4 : decode cJ7_fill_d0a16 4 = .ok (.istore 4, 2) := by decide +kernel
theorem dJ7_fill_d0a16_6 : decode cJ7_fill_d0a16 6 = .ok (.iload_n 3, 1) := by decide +kernel
theorem dJ7_fill_d0a16_7 : decode cJ7_fill_d0a16 7 = .ok (.iload 4, 2) := by decide +kernel
theorem dJ7_fill_d0a16_9 : decode cJ7_fill_d0a16 9 = .ok (.if_icmp .ge 13, 3) := by decide +kernel
theorem dJ7_fill_d0a16_12 : decode cJ7_fill_d0a16 12 = .ok (.aload_n 0, 1) := by decide +kernel
theorem dJ7_fill_d0a16_13 : decode cJ7_fill_d0a16 13 = .ok (.iload_n 3, 1) := by decide +kernel
theorem dJ7_fill_d0a16_14 : decode cJ7_fill_d0a16 14 = .ok (.lload_n 1, 1) := by decide +kernel
theorem dJ7_fill_d0a16_15 : decode cJ7_fill_d0a16 15 = .ok (.lastore, 1) := by decide +kernel
theorem dJ7_fill_d0a16_16 : decode cJ7_fill_d0a16 16 = .ok (.iinc 3 1, 3) := by decide +kernel
theorem dJ7_fill_d0a16_19 : decode cJ7_fill_d0a16 19 = .ok (.goto (-13), 3) := by decide +kernel
theorem dJ7_fill_d0a16_22 : decode cJ7_fill_d0a16 22 = .ok (.return_, 1) := by decide +kernel
theorem dX0_leastCore_0 : decode cX0_leastCore 0 = .ok (.aload_n 0, 1) := by decide +kernel
theorem dX0_leastCore_1 : decode cX0_leastCore 1 = .ok (.aload_n 0, 1) := by decide +kernel
theorem dX0_leastCore_2 : decode cX0_leastCore 2 = .ok (.getfield 15, 3) := by decide +kernel
theorem dX0_leastCore_5 : decode cX0_leastCore 5 = .ok (.iconst 0, 1) := by decide +kernel
theorem dX0_leastCore_6 : decode cX0_leastCore 6 = .ok (.ldc2_w 22, 3) := by decide +kernel
theorem dX0_leastCore_9 : decode cX0_leastCore 9 = .ok (.iconst (-1), 1) := by decide +kernel
theorem dX0_leastCore_10 : decode cX0_leastCore 10 = .ok (.invokestatic 30, 3) := by decide +kernel
theorem dX0_leastCore_13 : decode cX0_leastCore 13 = .ok (.ireturn, 1) := by decide +kernel
theorem dX0_lesserCore_0 : decode cX0_lesserCore 0 = .ok (.iload 5, 2) := by decide +kernel
theorem dX0_lesserCore_2 : decode cX0_lesserCore 2 = .ok (.iconst (-1), 1) := by decide +kernel
theorem dX0_lesserCore_3 : decode cX0_lesserCore 3 = .ok (.if_icmp .eq 18, 3) := by decide +kernel
theorem dX0_lesserCore_21 : decode cX0_lesserCore 21 = .ok (.lload_n 3, 1) := by decide +kernel
theorem dX0_lesserCore_22 : decode cX0_lesserCore 22 = .ok (.lconst 0, 1) := by decide +kernel
theorem dX0_lesserCore_23 : decode cX0_lesserCore 23 = .ok (.lcmp, 1) := by decide +kernel
theorem dX0_lesserCore_24 : decode cX0_lesserCore 24 = .ok (.ifCond .ne 5, 3) := by decide +kernel
theorem dX0_lesserCore_29 : decode cX0_lesserCore 29 = .ok (.iload_n 1, 1) := by decide +kernel
theorem dX0_lesserCore_30 : decode cX0_lesserCore 30 = .ok (.ifCond .le 15, 3) := by decide +kernel
theorem dX0_lesserCore_45 : decode cX0_lesserCore 45 = .ok (.iload 5, 2) := by decide +kernel
theorem dX0_lesserCore_47 : decode cX0_lesserCore 47 = .ok (.ireturn, 1) := by decide +kernel
theorem dX0_madeBy_0 : decode cX0_madeBy 0 = .ok (.iconst 0, 1) := by decide +kernel
theorem dX0_madeBy_1 : decode cX0_madeBy 1 = .ok (.istore_n 2, 1) := by decide +kernel
theorem dX0_madeBy_2 : decode cX0_madeBy 2 = .ok (.iconst 0, 1) := by decide +kernel
theorem dX0_madeBy_3 : decode cX0_madeBy 3 = .ok (.istore_n 3, 1) := by decide +kernel
theorem dX0_madeBy_4 : decode cX0_madeBy 4 = .ok (.iload_n 3, 1) := by decide +kernel
theorem dX0_madeBy_5 : decode cX0_madeBy 5 = .ok (.aload_n 0, 1) := by decide +kernel
theorem dX0_madeBy_6 : decode cX0_madeBy 6 = .ok (.getfield 19, 3) := by decide +kernel
theorem dX0_madeBy_9 : decode cX0_madeBy 9 = .ok (.if_icmp .ge 25, 3) := by decide +kernel
theorem dX0_madeBy_34 : decode cX0_madeBy 34 = .ok (.iload_n 2, 1) := by decide +kernel
theorem dX0_madeBy_35 : decode cX0_madeBy 35 = .ok (.ireturn, 1) := by decide +kernel
theorem dX0_modelsWithout_0 : decode cX0_modelsWithout 0 = .ok (.ldc2_w 22, 3) := by decide +kernel
theorem dX0_modelsWithout_3 : decode cX0_modelsWithout 3 = .ok (.lstore_n 2, 1) := by decide +kernel
theorem dX0_modelsWithout_4 : decode cX0_modelsWithout 4 = .ok (.iconst 0, 1) := by decide +kernel
theorem dX0_modelsWithout_5 : decode cX0_modelsWithout 5 = .ok (.istore 4, 2) := by decide +kernel
theorem dX0_modelsWithout_7 : decode cX0_modelsWithout 7 = .ok (.iload 4, 2) := by decide +kernel
theorem dX0_modelsWithout_9 : decode cX0_modelsWithout 9 = .ok (.aload_n 0, 1) := by decide +kernel
theorem dX0_modelsWithout_10 : decode cX0_modelsWithout 10 = .ok (.getfield 15, 3) := by decide +kernel
theorem dX0_modelsWithout_13 : decode cX0_modelsWithout 13 = .ok (.if_icmp .ge 28, 3) := by decide +kernel
theorem dX0_modelsWithout_41 : decode cX0_modelsWithout 41 = .ok (.lload_n 2, 1) := by decide +kernel
theorem dX0_modelsWithout_42 : decode cX0_modelsWithout 42 = .ok (.lreturn, 1) := by decide +kernel
theorem dX0_planeCount_0 : decode cX0_planeCount 0 = .ok (.iconst 0, 1) := by decide +kernel
theorem dX0_planeCount_1 : decode cX0_planeCount 1 = .ok (.istore_n 1, 1) := by decide +kernel
theorem dX0_planeCount_2 : decode cX0_planeCount 2 = .ok (.iconst 0, 1) := by decide +kernel
theorem dX0_planeCount_3 : decode cX0_planeCount 3 = .ok (.istore_n 2, 1) := by decide +kernel
theorem dX0_planeCount_4 : decode cX0_planeCount 4 = .ok (.iload_n 2, 1) := by decide +kernel
theorem dX0_planeCount_5 : decode cX0_planeCount 5 = .ok (.aload_n 0, 1) := by decide +kernel
theorem dX0_planeCount_6 : decode cX0_planeCount 6 = .ok (.getfield 19, 3) := by decide +kernel
theorem dX0_planeCount_9 : decode cX0_planeCount 9 = .ok (.if_icmp .ge 24, 3) := by decide +kernel
theorem dX0_planeCount_33 : decode cX0_planeCount 33 = .ok (.iload_n 1, 1) := by decide +kernel
theorem dX0_planeCount_34 : decode cX0_planeCount 34 = .ok (.ireturn, 1) := by decide +kernel
theorem dX0_unusedSteps_0 : decode cX0_unusedSteps 0 = .ok (.iconst 0, 1) := by decide +kernel
theorem dX0_unusedSteps_1 : decode cX0_unusedSteps 1 = .ok (.istore_n 1, 1) := by decide +kernel
theorem dX0_unusedSteps_2 : decode cX0_unusedSteps 2 = .ok (.aload_n 0, 1) := by decide +kernel
theorem dX0_unusedSteps_3 : decode cX0_unusedSteps 3 = .ok (.getfield 15, 3) := by decide +kernel
theorem dX0_unusedSteps_6 : decode cX0_unusedSteps 6 = .ok (.istore_n 2, 1) := by decide +kernel
theorem dX0_unusedSteps_7 : decode cX0_unusedSteps 7 = .ok (.iload_n 2, 1) := by decide +kernel
theorem dX0_unusedSteps_8 : decode cX0_unusedSteps 8 = .ok (.aload_n 0, 1) := by decide +kernel
theorem dX0_unusedSteps_9 : decode cX0_unusedSteps 9 = .ok (.getfield 19, 3) := by decide +kernel
theorem dX0_unusedSteps_12 : decode cX0_unusedSteps 12 = .ok (.if_icmp .ge 20, 3) := by decide +kernel
theorem dX0_unusedSteps_32 : decode cX0_unusedSteps 32 = .ok (.iload_n 1, 1) := by decide +kernel
theorem dX0_unusedSteps_33 : decode cX0_unusedSteps 33 = .ok (.ireturn, 1) := by decide +kernel
theorem dX10_init_0 : decode cX10_init 0 = .ok (.aload_n 0, 1) := by decide +kernel
theorem dX10_init_1 : decode cX10_init 1 = .ok (.invokespecial 3, 3) := by decide +kernel
theorem dX10_init_4 : decode cX10_init 4 = .ok (.aload_n 0, 1) := by decide +kernel
theorem dX10_init_5 : decode cX10_init 5 = .ok (.iload_n 1, 1) := by decide +kernel
theorem dX10_init_6 : decode cX10_init 6 = .ok (.putfield 9, 3) := by decide +kernel
theorem dX10_init_9 : decode cX10_init 9 = .ok (.aload_n 0, 1) := by decide +kernel
theorem dX10_init_10 : decode cX10_init 10 = .ok (.iload_n 2, 1) := by decide +kernel
theorem dX10_init_11 : decode cX10_init 11 = .ok (.putfield 15, 3) := by decide +kernel
theorem dX10_init_14 : decode cX10_init 14 = .ok (.return_, 1) := by decide +kernel
theorem dX10_spread_0 : decode cX10_spread 0 = .ok (.iconst 0, 1) := by decide +kernel
theorem dX10_spread_1 : decode cX10_spread 1 = .ok (.istore_n 2, 1) := by decide +kernel
theorem dX10_spread_2 : decode cX10_spread 2 = .ok (.iload_n 2, 1) := by decide +kernel
theorem dX10_spread_3 : decode cX10_spread 3 = .ok (.bipush 6, 2) := by decide +kernel
theorem dX10_spread_5 : decode cX10_spread 5 = .ok (.if_icmp .gt 76, 3) := by decide +kernel
theorem dX10_spread_8 : decode cX10_spread 8 = .ok (.aload_n 0, 1) := by decide +kernel
theorem dX10_spread_9 : decode cX10_spread 9 = .ok (.getfield 9, 3) := by decide +kernel
theorem dX10_spread_12 : decode cX10_spread 12 = .ok (.aload_n 0, 1) := by decide +kernel
theorem dX10_spread_13 : decode cX10_spread 13 = .ok (.getfield 15, 3) := by decide +kernel
theorem dX10_spread_16 : decode cX10_spread 16 = .ok (.ior, 1) := by decide +kernel
theorem dX10_spread_17 : decode cX10_spread 17 = .ok (.istore_n 3, 1) := by decide +kernel
theorem dX10_spread_18 : decode cX10_spread 18 = .ok (.iconst 0, 1) := by decide +kernel
theorem dX10_spread_19 : decode cX10_spread 19 = .ok (.istore 4, 2) := by decide +kernel
theorem dX10_spread_21 : decode cX10_spread 21 = .ok (.iload 4, 2) := by decide +kernel
theorem dX10_spread_23 : decode cX10_spread 23 = .ok (.aload_n 1, 1) := by decide +kernel
theorem dX10_spread_24 : decode cX10_spread 24 = .ok (.getfield 18, 3) := by decide +kernel
theorem dX10_spread_27 : decode cX10_spread 27 = .ok (.if_icmp .ge 27, 3) := by decide +kernel
theorem dX10_spread_54 : decode cX10_spread 54 = .ok (.aload_n 0, 1) := by decide +kernel
theorem dX10_spread_55 : decode cX10_spread 55 = .ok (.getfield 23, 3) := by decide +kernel
theorem dX10_spread_58 : decode cX10_spread 58 = .ok (.ifCond .ne 16, 3) := by decide +kernel
theorem dX10_spread_61 : decode cX10_spread 61 = .ok (.aload_n 0, 1) := by decide +kernel
theorem dX10_spread_62 : decode cX10_spread 62 = .ok (.getfield 9, 3) := by decide +kernel
theorem dX10_spread_65 : decode cX10_spread 65 = .ok (.aload_n 0, 1) := by decide +kernel
theorem dX10_spread_66 : decode cX10_spread 66 = .ok (.getfield 15, 3) := by decide +kernel
theorem dX10_spread_69 : decode cX10_spread 69 = .ok (.ior, 1) := by decide +kernel
theorem dX10_spread_70 : decode cX10_spread 70 = .ok (.iload_n 3, 1) := by decide +kernel
theorem dX10_spread_71 : decode cX10_spread 71 = .ok (.if_icmp .ne 4, 3) := by decide +kernel
theorem dX10_spread_74 : decode cX10_spread 74 = .ok (.return_, 1) := by decide +kernel
theorem dX11_checkSets_0 : decode cX11_checkSets 0 = .ok (.iload_n 0, 1) := by decide +kernel
theorem dX11_checkSets_1 : decode cX11_checkSets 1 = .ok (.iload_n 1, 1) := by decide +kernel
theorem dX11_checkSets_2 : decode cX11_checkSets 2 = .ok (.ior, 1) := by decide +kernel
theorem dX11_checkSets_3 : decode cX11_checkSets 3 = .ok (.bipush (-64), 2) := by decide +kernel
theorem dX11_checkSets_5 : decode cX11_checkSets 5 = .ok (.iand, 1) := by decide +kernel
theorem dX11_checkSets_6 : decode cX11_checkSets 6 = .ok (.ifCond .ne 9, 3) := by decide +kernel
theorem dX11_checkSets_9 : decode cX11_checkSets 9 = .ok (.iload_n 0, 1) := by decide +kernel
theorem dX11_checkSets_10 : decode cX11_checkSets 10 = .ok (.iload_n 1, 1) := by decide +kernel
theorem dX11_checkSets_11 : decode cX11_checkSets 11 = .ok (.iand, 1) := by decide +kernel
theorem dX11_checkSets_12 : decode cX11_checkSets 12 = .ok (.ifCond .eq 14, 3) := by decide +kernel
theorem dX11_checkSets_15 : decode cX11_checkSets 15 = .ok (.new 84, 3) := by decide +kernel
theorem dX11_checkSets_18 : decode cX11_checkSets 18 = .ok (.dup, 1) := by decide +kernel
theorem dX11_checkSets_19 : decode cX11_checkSets 19 = .ok (.ldc_w 329, 3) := by decide +kernel
theorem dX11_checkSets_22 : decode cX11_checkSets 22 = .ok (.invokespecial 88, 3) := by decide +kernel
theorem dX11_checkSets_25 : decode cX11_checkSets 25 = .ok (.athrow, 1) := by decide +kernel
theorem dX11_checkSets_26 : decode cX11_checkSets 26 = .ok (.return_, 1) := by decide +kernel
theorem dX11_checkWidth_0 : decode cX11_checkWidth 0 = .ok (.iload_n 0, 1) := by decide +kernel
theorem dX11_checkWidth_1 : decode cX11_checkWidth 1 = .ok (.ifCond .lt 9, 3) := by decide +kernel
theorem dX11_checkWidth_4 : decode cX11_checkWidth 4 = .ok (.iload_n 0, 1) := by decide +kernel
theorem dX11_checkWidth_5 : decode cX11_checkWidth 5 = .ok (.bipush 6, 2) := by decide +kernel
theorem dX11_checkWidth_7 : decode cX11_checkWidth 7 = .ok (.if_icmp .le 14, 3) := by decide +kernel
theorem dX11_checkWidth_10 : decode cX11_checkWidth 10 = .ok (.new 84, 3) := by decide +kernel
theorem dX11_checkWidth_13 : decode cX11_checkWidth 13 = .ok (.dup, 1) := by decide +kernel
theorem dX11_checkWidth_14 : decode cX11_checkWidth 14 = .ok (.ldc_w 331, 3) := by decide +kernel
theorem dX11_checkWidth_17 : decode cX11_checkWidth 17 = .ok (.invokespecial 88, 3) := by decide +kernel
theorem dX11_checkWidth_20 : decode cX11_checkWidth 20 = .ok (.athrow, 1) := by decide +kernel
theorem dX11_checkWidth_21 : decode cX11_checkWidth 21 = .ok (.return_, 1) := by decide +kernel
theorem dX11_units_0 : decode cX11_units 0 = .ok (.iload_n 1, 1) := by decide +kernel
theorem dX11_units_1 : decode cX11_units 1 = .ok (.iload_n 2, 1) := by decide +kernel
theorem dX11_units_2 : decode cX11_units 2 = .ok (.invokestatic 218, 3) := by decide +kernel
theorem dX11_units_5 : decode cX11_units 5 = .ok (.iload_n 3, 1) := by decide +kernel
theorem dX11_units_6 : decode cX11_units 6 = .ok (.ifCond .lt 8, 3) := by decide +kernel
theorem dX11_units_9 : decode cX11_units 9 = .ok (.iload_n 3, 1) := by decide +kernel
theorem dX11_units_10 : decode cX11_units 10 = .ok (.iconst 2, 1) := by decide +kernel
theorem dX11_units_11 : decode cX11_units 11 = .ok (.if_icmp .le 13, 3) := by decide +kernel
theorem dX11_units_14 : decode cX11_units 14 = .ok (.new 141, 3) := by decide +kernel
theorem dX11_units_17 : decode cX11_units 17 = .ok (.dup, 1) := by decide +kernel
theorem dX11_units_18 : decode cX11_units 18 = .ok (.ldc 143, 2) := by decide +kernel
theorem dX11_units_20 : decode cX11_units 20 = .ok (.invokespecial 145, 3) := by decide +kernel
theorem dX11_units_23 : decode cX11_units 23 = .ok (.athrow, 1) := by decide +kernel
theorem dX11_units_24 : decode cX11_units 24 = .ok (.new 222, 3) := by decide +kernel
theorem dX11_units_27 : decode cX11_units 27 = .ok (.dup, 1) := by decide +kernel
theorem dX11_units_28 : decode cX11_units 28 = .ok (.iload_n 1, 1) := by decide +kernel
theorem dX11_units_29 : decode cX11_units 29 = .ok (.iload_n 2, 1) := by decide +kernel
theorem dX11_units_30 : decode cX11_units 30 = .ok (.invokespecial 224, 3) := by decide +kernel
theorem dX11_units_33 : decode cX11_units 33 = .ok (.astore 4, 2) := by decide +kernel
theorem dX11_units_35 : decode cX11_units 35 = .ok (.aload 4, 2) := by decide +kernel
theorem dX11_units_37 : decode cX11_units 37 = .ok (.aload_n 0, 1) := by decide +kernel
theorem dX11_units_38 : decode cX11_units 38 = .ok (.getfield 27, 3) := by decide +kernel
theorem dX11_units_41 : decode cX11_units 41 = .ok (.invokevirtual 226, 3) := by decide +kernel
theorem dX11_units_44 : decode cX11_units 44 = .ok (.iload_n 3, 1) := by decide +kernel
theorem dX11_units_45 : decode cX11_units 45 = .ok (.lookupswitch 39 #[(0, 27), (1, 33)], 27) := by decide +kernel
theorem dX11_units_72 : decode cX11_units 72 = .ok (.aload 4, 2) := by decide +kernel
theorem dX11_units_74 : decode cX11_units 74 = .ok (.getfield 230, 3) := by decide +kernel
theorem dX11_units_77 : decode cX11_units 77 = .ok (.ireturn, 1) := by decide +kernel
theorem dX11_units_78 : decode cX11_units 78 = .ok (.aload 4, 2) := by decide +kernel
theorem dX11_units_80 : decode cX11_units 80 = .ok (.getfield 233, 3) := by decide +kernel
theorem dX11_units_83 : decode cX11_units 83 = .ok (.ireturn, 1) := by decide +kernel
theorem dX11_units_84 : decode cX11_units 84 = .ok (.aload 4, 2) := by decide +kernel
theorem dX11_units_86 : decode cX11_units 86 = .ok (.getfield 236, 3) := by decide +kernel
theorem dX11_units_89 : decode cX11_units 89 = .ok (.ifCond .eq 7, 3) := by decide +kernel
theorem dX11_units_96 : decode cX11_units 96 = .ok (.iconst 0, 1) := by decide +kernel
theorem dX11_units_97 : decode cX11_units 97 = .ok (.ireturn, 1) := by decide +kernel
theorem dX2_init_0 : decode cX2_init 0 = .ok (.aload_n 0, 1) := by decide +kernel
theorem dX2_init_1 : decode cX2_init 1 = .ok (.invokespecial 3, 3) := by decide +kernel
theorem dX2_init_4 : decode cX2_init 4 = .ok (.aload_n 0, 1) := by decide +kernel
theorem dX2_init_5 : decode cX2_init 5 = .ok (.iload_n 1, 1) := by decide +kernel
theorem dX2_init_6 : decode cX2_init 6 = .ok (.putfield 9, 3) := by decide +kernel
theorem dX2_init_9 : decode cX2_init 9 = .ok (.aload_n 0, 1) := by decide +kernel
theorem dX2_init_10 : decode cX2_init 10 = .ok (.bipush 64, 2) := by decide +kernel
theorem dX2_init_12 : decode cX2_init 12 = .ok (.newarray .long, 2) := by decide +kernel
theorem dX2_init_14 : decode cX2_init 14 = .ok (.putfield 15, 3) := by decide +kernel
theorem dX2_init_17 : decode cX2_init 17 = .ok (.aload_n 0, 1) := by decide +kernel
theorem dX2_init_18 : decode cX2_init 18 = .ok (.sipush 729, 3) := by decide +kernel
theorem dX2_init_21 : decode cX2_init 21 = .ok (.newarray .int, 2) := by decide +kernel
theorem dX2_init_23 : decode cX2_init 23 = .ok (.putfield 19, 3) := by decide +kernel
theorem dX2_init_26 : decode cX2_init 26 = .ok (.return_, 1) := by decide +kernel
end
section
set_option maxHeartbeats 4000000 in
set_option maxRecDepth 100000 in
theorem c_X0_modelsWithout (l : Launch) (G : va_G) (cy : Nat → ClassId) (r2 : Nat) (r3 : Nat) (p0 : Int32) : Kt l G cy yX0_modelsWithout cX0_modelsWithout 5 (some .long) ({ frames := 10, cells := 0, slots := 0, locals := 200 } : Room) [.ref r2, .int p0] [(r2, .inr (0, [.ref r3, .int 0, .int 0]))] (fun (v : Option Value) (w1 : va_W) => v = some (.long (-1)) ∧ w1 = [(r2, .inr (0, [.ref r3, .int 0, .int 0]))]) := by
  refine kt_ofW (by decide) (Nat.le_of_ble_eq_true rfl) ?_
  intro p e s m below meth c A ls hx hb hr hU hown hlocks hml hin hP hK hD hA hS hl
  have hown : s.vm.findClass RX0 = some m.cls := hown
  have hl : lv_has ls 5 [(0, .ref r2), (1, .int p0)] := hl
  refine lv_ldc2 hx hb hown (hU _ u_302) dX0_modelsWithout_0 ?_
  refine lv_lstore_n (lv' := [(2, .long (-1)), (0, .ref r2), (1, .int p0)]) hx hb dX0_modelsWithout_3 rfl hl (by decide) rfl (fun ls hl => ?_)
  refine lv_iconst (v := 0) hx hb dX0_modelsWithout_4 (by decide) ?_
  refine lv_istore (lv' := [(4, .int 0), (2, .long (-1)), (0, .ref r2), (1, .int p0)]) hx hb dX0_modelsWithout_5 hl (by decide) rfl (fun ls hl => ?_)
  refine lv_iload hx hb dX0_modelsWithout_7 (lv_at hl 0 rfl) ?_
  refine lv_aload_n hx hb dX0_modelsWithout_9 rfl (lv_at hl 2 rfl) ?_
  refine va_get (D := G) (ci := 0) (v := .int 0) (C := RX0) (T := TX0) (N := 3) hx hb hU in_X0 hown hK.1 hP 0 rfl rfl 1 (by decide) (hU _ u_174) (fun _ h9 => h9) rfl dX0_modelsWithout_10 ?_
  refine lv_icmp_ge (tgt := 41) hx hb dX0_modelsWithout_13 (by decide) (fun _ => ?_) (fun c9 => absurd (by decide) c9)
  refine lv_lload_n hx hb dX0_modelsWithout_41 rfl (lv_at hl 1 rfl) ?_
  exact kt_lret hx hb hr hlocks hP hD hS dX0_modelsWithout_42 [0] rfl rfl rfl rfl ⟨rfl, rfl⟩
set_option maxHeartbeats 4000000 in
set_option maxRecDepth 100000 in
theorem c_X0_planeCount (l : Launch) (G : va_G) (cy : Nat → ClassId) (r2 : Nat) (r3 : Nat) : Kt l G cy yX0_planeCount cX0_planeCount 3 (some .int) ({ frames := 10, cells := 0, slots := 0, locals := 200 } : Room) [.ref r2] [(r2, .inr (0, [.ref r3, .int 0, .int 0]))] (fun (v : Option Value) (w1 : va_W) => v = some (.int 0) ∧ w1 = [(r2, .inr (0, [.ref r3, .int 0, .int 0]))]) := by
  refine kt_ofW (by decide) (Nat.le_of_ble_eq_true rfl) ?_
  intro p e s m below meth c A ls hx hb hr hU hown hlocks hml hin hP hK hD hA hS hl
  have hown : s.vm.findClass RX0 = some m.cls := hown
  have hl : lv_has ls 3 [(0, .ref r2)] := hl
  refine lv_iconst (v := 0) hx hb dX0_planeCount_0 (by decide) ?_
  refine lv_istore_n (lv' := [(1, .int 0), (0, .ref r2)]) hx hb dX0_planeCount_1 rfl hl (by decide) rfl (fun ls hl => ?_)
  refine lv_iconst (v := 0) hx hb dX0_planeCount_2 (by decide) ?_
  refine lv_istore_n (lv' := [(2, .int 0), (1, .int 0), (0, .ref r2)]) hx hb dX0_planeCount_3 rfl hl (by decide) rfl (fun ls hl => ?_)
  refine lv_iload_n hx hb dX0_planeCount_4 rfl (lv_at hl 0 rfl) ?_
  refine lv_aload_n hx hb dX0_planeCount_5 rfl (lv_at hl 2 rfl) ?_
  refine va_get (D := G) (ci := 0) (v := .int 0) (C := RX0) (T := TX0) (N := 3) hx hb hU in_X0 hown hK.1 hP 0 rfl rfl 2 (by decide) (hU _ u_179) (fun _ h9 => h9) rfl dX0_planeCount_6 ?_
  refine lv_icmp_ge (tgt := 33) hx hb dX0_planeCount_9 (by decide) (fun _ => ?_) (fun c9 => absurd (by decide) c9)
  refine lv_iload_n hx hb dX0_planeCount_33 rfl (lv_at hl 1 rfl) ?_
  exact kt_iret hx hb hr hlocks hP hD hS dX0_planeCount_34 [0] rfl rfl rfl rfl ⟨rfl, rfl⟩
set_option maxHeartbeats 4000000 in
set_option maxRecDepth 100000 in
theorem c_X0_madeBy (l : Launch) (G : va_G) (cy : Nat → ClassId) (r2 : Nat) (r3 : Nat) (p0 : Int32) : Kt l G cy yX0_madeBy cX0_madeBy 4 (some .int) ({ frames := 10, cells := 0, slots := 0, locals := 200 } : Room) [.ref r2, .int p0] [(r2, .inr (0, [.ref r3, .int 0, .int 0]))] (fun (v : Option Value) (w1 : va_W) => v = some (.int 0) ∧ w1 = [(r2, .inr (0, [.ref r3, .int 0, .int 0]))]) := by
  refine kt_ofW (by decide) (Nat.le_of_ble_eq_true rfl) ?_
  intro p e s m below meth c A ls hx hb hr hU hown hlocks hml hin hP hK hD hA hS hl
  have hown : s.vm.findClass RX0 = some m.cls := hown
  have hl : lv_has ls 4 [(0, .ref r2), (1, .int p0)] := hl
  refine lv_iconst (v := 0) hx hb dX0_madeBy_0 (by decide) ?_
  refine lv_istore_n (lv' := [(2, .int 0), (0, .ref r2), (1, .int p0)]) hx hb dX0_madeBy_1 rfl hl (by decide) rfl (fun ls hl => ?_)
  refine lv_iconst (v := 0) hx hb dX0_madeBy_2 (by decide) ?_
  refine lv_istore_n (lv' := [(3, .int 0), (2, .int 0), (0, .ref r2), (1, .int p0)]) hx hb dX0_madeBy_3 rfl hl (by decide) rfl (fun ls hl => ?_)
  refine lv_iload_n hx hb dX0_madeBy_4 rfl (lv_at hl 0 rfl) ?_
  refine lv_aload_n hx hb dX0_madeBy_5 rfl (lv_at hl 2 rfl) ?_
  refine va_get (D := G) (ci := 0) (v := .int 0) (C := RX0) (T := TX0) (N := 3) hx hb hU in_X0 hown hK.1 hP 0 rfl rfl 2 (by decide) (hU _ u_179) (fun _ h9 => h9) rfl dX0_madeBy_6 ?_
  refine lv_icmp_ge (tgt := 34) hx hb dX0_madeBy_9 (by decide) (fun _ => ?_) (fun c9 => absurd (by decide) c9)
  refine lv_iload_n hx hb dX0_madeBy_34 rfl (lv_at hl 1 rfl) ?_
  exact kt_iret hx hb hr hlocks hP hD hS dX0_madeBy_35 [0] rfl rfl rfl rfl ⟨rfl, rfl⟩
set_option maxHeartbeats 4000000 in
set_option maxRecDepth 100000 in
theorem c_X0_unusedSteps (l : Launch) (G : va_G) (cy : Nat → ClassId) (r2 : Nat) (r3 : Nat) : Kt l G cy yX0_unusedSteps cX0_unusedSteps 3 (some .int) ({ frames := 10, cells := 0, slots := 0, locals := 200 } : Room) [.ref r2] [(r2, .inr (0, [.ref r3, .int 0, .int 0]))] (fun (v : Option Value) (w1 : va_W) => v = some (.int 0) ∧ w1 = [(r2, .inr (0, [.ref r3, .int 0, .int 0]))]) := by
  refine kt_ofW (by decide) (Nat.le_of_ble_eq_true rfl) ?_
  intro p e s m below meth c A ls hx hb hr hU hown hlocks hml hin hP hK hD hA hS hl
  have hown : s.vm.findClass RX0 = some m.cls := hown
  have hl : lv_has ls 3 [(0, .ref r2)] := hl
  refine lv_iconst (v := 0) hx hb dX0_unusedSteps_0 (by decide) ?_
  refine lv_istore_n (lv' := [(1, .int 0), (0, .ref r2)]) hx hb dX0_unusedSteps_1 rfl hl (by decide) rfl (fun ls hl => ?_)
  refine lv_aload_n hx hb dX0_unusedSteps_2 rfl (lv_at hl 1 rfl) ?_
  refine va_get (D := G) (ci := 0) (v := .int 0) (C := RX0) (T := TX0) (N := 3) hx hb hU in_X0 hown hK.1 hP 0 rfl rfl 1 (by decide) (hU _ u_174) (fun _ h9 => h9) rfl dX0_unusedSteps_3 ?_
  refine lv_istore_n (lv' := [(2, .int 0), (1, .int 0), (0, .ref r2)]) hx hb dX0_unusedSteps_6 rfl hl (by decide) rfl (fun ls hl => ?_)
  refine lv_iload_n hx hb dX0_unusedSteps_7 rfl (lv_at hl 0 rfl) ?_
  refine lv_aload_n hx hb dX0_unusedSteps_8 rfl (lv_at hl 2 rfl) ?_
  refine va_get (D := G) (ci := 0) (v := .int 0) (C := RX0) (T := TX0) (N := 3) hx hb hU in_X0 hown hK.1 hP 0 rfl rfl 2 (by decide) (hU _ u_179) (fun _ h9 => h9) rfl dX0_unusedSteps_9 ?_
  refine lv_icmp_ge (tgt := 32) hx hb dX0_unusedSteps_12 (by decide) (fun _ => ?_) (fun c9 => absurd (by decide) c9)
  refine lv_iload_n hx hb dX0_unusedSteps_32 rfl (lv_at hl 1 rfl) ?_
  exact kt_iret hx hb hr hlocks hP hD hS dX0_unusedSteps_33 [0] rfl rfl rfl rfl ⟨rfl, rfl⟩
set_option maxHeartbeats 4000000 in
set_option maxRecDepth 100000 in
theorem c_X0_lesserCore (l : Launch) (G : va_G) (cy : Nat → ClassId) (r2 : Nat) (r3 : Nat) : Kt l G cy yX0_lesserCore cX0_lesserCore 9 (some .int) ({ frames := 10, cells := 0, slots := 0, locals := 200 } : Room) [.ref r2, .int 0, .int 0, .long (-1), .int (-1)] [(r2, .inr (0, [.ref r3, .int 0, .int 0]))] (fun (v : Option Value) (w1 : va_W) => v = some (.int (-1)) ∧ w1 = [(r2, .inr (0, [.ref r3, .int 0, .int 0]))]) := by
  refine kt_ofW (by decide) (Nat.le_of_ble_eq_true rfl) ?_
  intro p e s m below meth c A ls hx hb hr hU hown hlocks hml hin hP hK hD hA hS hl
  have hown : s.vm.findClass RX0 = some m.cls := hown
  have hl : lv_has ls 9 [(0, .ref r2), (1, .int 0), (2, .int 0), (3, .long (-1)), (5, .int (-1))] := hl
  refine lv_iload hx hb dX0_lesserCore_0 (lv_at hl 4 rfl) ?_
  refine lv_iconst (v := (-1)) hx hb dX0_lesserCore_2 (by decide) ?_
  refine lv_icmp_eq (tgt := 21) hx hb dX0_lesserCore_3 (by decide) (fun _ => ?_) (fun c9 => absurd (by decide) c9)
  refine lv_lload_n hx hb dX0_lesserCore_21 rfl (lv_at hl 3 rfl) ?_
  refine lv_lconst (v := 0) hx hb dX0_lesserCore_22 (by decide) ?_
  refine W.lcmp hx hb dX0_lesserCore_23 (lx_top (y := (-1)) (by decide +kernel) ?_)
  refine lv_if_ne (tgt := 29) hx hb dX0_lesserCore_24 (by decide) (fun _ => ?_) (fun c9 => absurd c9 (by decide))
  refine lv_iload_n hx hb dX0_lesserCore_29 rfl (lv_at hl 1 rfl) ?_
  refine lv_if_le (tgt := 45) hx hb dX0_lesserCore_30 (by decide) (fun _ => ?_) (fun c9 => absurd (by decide) c9)
  refine lv_iload hx hb dX0_lesserCore_45 (lv_at hl 4 rfl) ?_
  exact kt_iret hx hb hr hlocks hP hD hS dX0_lesserCore_47 [0] rfl rfl rfl rfl ⟨rfl, rfl⟩
set_option maxHeartbeats 4000000 in
set_option maxRecDepth 100000 in
theorem c_X0_leastCore (l : Launch) (G : va_G) (cy : Nat → ClassId) (r2 : Nat) (r3 : Nat) : Kt l G cy yX0_leastCore cX0_leastCore 1 (some .int) ({ frames := 12, cells := 0, slots := 0, locals := 300 } : Room) [.ref r2] [(r2, .inr (0, [.ref r3, .int 0, .int 0]))] (fun (v : Option Value) (w1 : va_W) => v = some (.int (-1)) ∧ w1 = [(r2, .inr (0, [.ref r3, .int 0, .int 0]))]) := by
  refine kt_ofW (by decide) (Nat.le_of_ble_eq_true rfl) ?_
  intro p e s m below meth c A ls hx hb hr hU hown hlocks hml hin hP hK hD hA hS hl
  have hown : s.vm.findClass RX0 = some m.cls := hown
  have hl : lv_has ls 1 [(0, .ref r2)] := hl
  refine lv_aload_n hx hb dX0_leastCore_0 rfl (lv_at hl 0 rfl) ?_
  refine lv_aload_n hx hb dX0_leastCore_1 rfl (lv_at hl 0 rfl) ?_
  refine va_get (D := G) (ci := 0) (v := .int 0) (C := RX0) (T := TX0) (N := 3) hx hb hU in_X0 hown hK.1 hP 0 rfl rfl 1 (by decide) (hU _ u_174) (fun _ h9 => h9) rfl dX0_leastCore_2 ?_
  refine lv_iconst (v := 0) hx hb dX0_leastCore_5 (by decide) ?_
  refine lv_ldc2 hx hb hown (hU _ u_302) dX0_leastCore_6 ?_
  refine lv_iconst (v := (-1)) hx hb dX0_leastCore_9 (by decide) ?_
  refine kt_callS (wc := [(r2, .inr (0, [.ref r3, .int 0, .int 0]))]) (wr := []) (As := [.ref r2, .int 0, .int 0, .long (-1), .int (-1)]) (rest := []) (c_X0_lesserCore l G cy r2 r3) m_X0_lesserCore u_440 hx hb hml hown hU hl.1 hK hP hD hS hA dX0_leastCore_10 [0] [] rfl rfl rfl rfl rfl rfl (Nat.le_of_ble_eq_true rfl) (fun v9 w9 H locs hw hP hD hS => ?_)
  obtain ⟨rfl, rfl⟩ := hw
  have hP : va_P G vwCl [(r2, .inr (0, [.ref r3, .int 0, .int 0]))] H := hP
  have hD : va_D A [(r2, .inr (0, [.ref r3, .int 0, .int 0]))] := hD
  refine W.eq (g2 := F0 m 13 ls [.int (-1)]) rfl ?_
  refine W.widen (k := 0) (n := 0) (Nat.le_of_ble_eq_true rfl) (Nat.le_of_ble_eq_true rfl) ?_
  exact kt_iret hx hb hr hlocks hP hD hS dX0_leastCore_13 [0] rfl rfl rfl rfl ⟨rfl, rfl⟩
set_option maxHeartbeats 4000000 in
set_option maxRecDepth 100000 in
theorem c_J13_bitCount_95d88 (l : Launch) (G : va_G) (cy : Nat → ClassId)  : Kt l G cy yJ13_bitCount_95d88 cJ13_bitCount_95d88 2 (some .int) ({ frames := 10, cells := 0, slots := 0, locals := 200 } : Room) [.long (-1)] [] (fun (v : Option Value) (w1 : va_W) => v = some (.int 64) ∧ w1 = []) := by
  refine kt_ofW (by decide) (Nat.le_of_ble_eq_true rfl) ?_
  intro p e s m below meth c A ls hx hb hr hU hown hlocks hml hin hP hK hD hA hS hl
  have hown : s.vm.findClass RJ13 = some m.cls := hown
  have hl : lv_has ls 2 [(0, .long (-1))] := hl
  refine lv_lload_n hx hb dJ13_bitCount_95d88_0 rfl (lv_at hl 0 rfl) ?_
  refine lv_lload_n hx hb dJ13_bitCount_95d88_1 rfl (lv_at hl 0 rfl) ?_
  refine lv_iconst (v := 1) hx hb dJ13_bitCount_95d88_2 (by decide) ?_
  refine lv_lushr (v := 9223372036854775807) hx hb dJ13_bitCount_95d88_3 (by decide +kernel) ?_
  refine lv_ldc2 hx hb hown (hU _ u_306) dJ13_bitCount_95d88_4 ?_
  refine lv_land hx hb dJ13_bitCount_95d88_7 (lx_topl (y := 6148914691236517205) (by decide +kernel) ?_)
  refine lv_lsub hx hb dJ13_bitCount_95d88_8 (lx_topl (y := (-6148914691236517206)) (by decide +kernel) ?_)
  refine lv_lstore_n (lv' := [(0, .long (-6148914691236517206))]) hx hb dJ13_bitCount_95d88_9 rfl hl (by decide) rfl (fun ls hl => ?_)
  refine lv_lload_n hx hb dJ13_bitCount_95d88_10 rfl (lv_at hl 0 rfl) ?_
  refine lv_ldc2 hx hb hown (hU _ u_307) dJ13_bitCount_95d88_11 ?_
  refine lv_land hx hb dJ13_bitCount_95d88_14 (lx_topl (y := 2459565876494606882) (by decide +kernel) ?_)
  refine lv_lload_n hx hb dJ13_bitCount_95d88_15 rfl (lv_at hl 0 rfl) ?_
  refine lv_iconst (v := 2) hx hb dJ13_bitCount_95d88_16 (by decide) ?_
  refine lv_lushr (v := 3074457345618258602) hx hb dJ13_bitCount_95d88_17 (by decide +kernel) ?_
  refine lv_ldc2 hx hb hown (hU _ u_307) dJ13_bitCount_95d88_18 ?_
  refine lv_land hx hb dJ13_bitCount_95d88_21 (lx_topl (y := 2459565876494606882) (by decide +kernel) ?_)
  refine lv_ladd hx hb dJ13_bitCount_95d88_22 (lx_topl (y := 4919131752989213764) (by decide +kernel) ?_)
  refine lv_lstore_n (lv' := [(0, .long 4919131752989213764)]) hx hb dJ13_bitCount_95d88_23 rfl hl (by decide) rfl (fun ls hl => ?_)
  refine lv_lload_n hx hb dJ13_bitCount_95d88_24 rfl (lv_at hl 0 rfl) ?_
  refine lv_lload_n hx hb dJ13_bitCount_95d88_25 rfl (lv_at hl 0 rfl) ?_
  refine lv_iconst (v := 4) hx hb dJ13_bitCount_95d88_26 (by decide) ?_
  refine lv_lushr (v := 307445734561825860) hx hb dJ13_bitCount_95d88_27 (by decide +kernel) ?_
  refine lv_ladd hx hb dJ13_bitCount_95d88_28 (lx_topl (y := 5226577487551039624) (by decide +kernel) ?_)
  refine lv_ldc2 hx hb hown (hU _ u_308) dJ13_bitCount_95d88_29 ?_
  refine lv_land hx hb dJ13_bitCount_95d88_32 (lx_topl (y := 578721382704613384) (by decide +kernel) ?_)
  refine lv_lstore_n (lv' := [(0, .long 578721382704613384)]) hx hb dJ13_bitCount_95d88_33 rfl hl (by decide) rfl (fun ls hl => ?_)
  refine lv_lload_n hx hb dJ13_bitCount_95d88_34 rfl (lv_at hl 0 rfl) ?_
  refine lv_lload_n hx hb dJ13_bitCount_95d88_35 rfl (lv_at hl 0 rfl) ?_
  refine lv_bipush (v := 8) hx hb dJ13_bitCount_95d88_36 (by decide) ?_
  refine lv_lushr (v := 2260630401189896) hx hb dJ13_bitCount_95d88_38 (by decide +kernel) ?_
  refine lv_ladd hx hb dJ13_bitCount_95d88_39 (lx_topl (y := 580982013105803280) (by decide +kernel) ?_)
  refine lv_lstore_n (lv' := [(0, .long 580982013105803280)]) hx hb dJ13_bitCount_95d88_40 rfl hl (by decide) rfl (fun ls hl => ?_)
  refine lv_lload_n hx hb dJ13_bitCount_95d88_41 rfl (lv_at hl 0 rfl) ?_
  refine lv_lload_n hx hb dJ13_bitCount_95d88_42 rfl (lv_at hl 0 rfl) ?_
  refine lv_bipush (v := 16) hx hb dJ13_bitCount_95d88_43 (by decide) ?_
  refine lv_lushr (v := 8865081987088) hx hb dJ13_bitCount_95d88_45 (by decide +kernel) ?_
  refine lv_ladd hx hb dJ13_bitCount_95d88_46 (lx_topl (y := 580990878187790368) (by decide +kernel) ?_)
  refine lv_lstore_n (lv' := [(0, .long 580990878187790368)]) hx hb dJ13_bitCount_95d88_47 rfl hl (by decide) rfl (fun ls hl => ?_)
  refine lv_lload_n hx hb dJ13_bitCount_95d88_48 rfl (lv_at hl 0 rfl) ?_
  refine lv_lload_n hx hb dJ13_bitCount_95d88_49 rfl (lv_at hl 0 rfl) ?_
  refine lv_bipush (v := 32) hx hb dJ13_bitCount_95d88_50 (by decide) ?_
  refine lv_lushr (v := 135272480) hx hb dJ13_bitCount_95d88_52 (by decide +kernel) ?_
  refine lv_ladd hx hb dJ13_bitCount_95d88_53 (lx_topl (y := 580990878323062848) (by decide +kernel) ?_)
  refine lv_lstore_n (lv' := [(0, .long 580990878323062848)]) hx hb dJ13_bitCount_95d88_54 rfl hl (by decide) rfl (fun ls hl => ?_)
  refine lv_lload_n hx hb dJ13_bitCount_95d88_55 rfl (lv_at hl 0 rfl) ?_
  refine lv_l2i (v := 674248768) hx hb dJ13_bitCount_95d88_56 (by decide +kernel) ?_
  refine lv_bipush (v := 127) hx hb dJ13_bitCount_95d88_57 (by decide) ?_
  refine lv_iand hx hb dJ13_bitCount_95d88_59 (lx_top (y := 64) (by decide +kernel) ?_)
  exact kt_iret hx hb hr hlocks hP hD hS dJ13_bitCount_95d88_60 [] rfl rfl rfl rfl ⟨rfl, rfl⟩
end
section
set_option maxHeartbeats 4000000 in
set_option maxRecDepth 100000 in
theorem c_X11_checkSets (l : Launch) (G : va_G) (cy : Nat → ClassId) (sa : Nat → Nat) (hlst : l.stackTraces = false) (p0 : Int32) (p1 : Int32) : Kx l G cy sa yX11_checkSets cX11_checkSets 2 none ({ frames := 10, cells := 1, slots := 6, locals := 200 } : Room) [.int p0, .int p1] [] (fun (v : Option Value) (w1 : va_W) => v = none ∧ w1 = [] ∧ (okSets p0 p1)) (fun E => E = eIA ∧ ¬ okSets p0 p1) := by
  refine kx_ofW (by decide) (Nat.le_of_ble_eq_true rfl) ?_
  intro p e s m below meth c A ls hx hb hr hU hown hlocks hml hin hP hK hD hA hS hl hZ hnt
  have hown : s.vm.findClass RX11 = some m.cls := hown
  have hl : lv_has ls 2 [(0, .int p0), (1, .int p1)] := hl
  refine lv_iload_n hx hb dX11_checkSets_0 rfl (lv_at hl 0 rfl) ?_
  refine lv_iload_n hx hb dX11_checkSets_1 rfl (lv_at hl 1 rfl) ?_
  refine lv_ior hx hb dX11_checkSets_2 ?_
  refine lv_bipush (v := (-64)) hx hb dX11_checkSets_3 (by decide) ?_
  refine lv_iand hx hb dX11_checkSets_5 ?_
  refine lv_if_ne (tgt := 15) hx hb dX11_checkSets_6 (by decide) (fun c_1 => ?_) (fun c_1 => ?_)
  · exact kx_throwW (text := "no sets, or one in common") hx hb hlst hown (by decide) hU u_977 u_143 (by decide) at_88 hZ hS (by rw [hml]; exact hl.1) dX11_checkSets_15 dX11_checkSets_18 dX11_checkSets_19 dX11_checkSets_22 dX11_checkSets_25 hnt rfl rfl rfl rfl hlocks ⟨rfl, (by simp [okSets, c_1])⟩
  · refine lv_iload_n hx hb dX11_checkSets_9 rfl (lv_at hl 0 rfl) ?_
    refine lv_iload_n hx hb dX11_checkSets_10 rfl (lv_at hl 1 rfl) ?_
    refine lv_iand hx hb dX11_checkSets_11 ?_
    refine lv_if_eq (tgt := 26) hx hb dX11_checkSets_12 (by decide) (fun c_2 => ?_) (fun c_2 => ?_)
    · exact vx_ret (kt_vret hx hb hr hlocks hP hD hS dX11_checkSets_26 [] rfl rfl rfl rfl ⟨rfl, rfl, (by simp [okSets, c_1, c_2])⟩)
    · exact kx_throwW (text := "no sets, or one in common") hx hb hlst hown (by decide) hU u_977 u_143 (by decide) at_88 hZ hS (by rw [hml]; exact hl.1) dX11_checkSets_15 dX11_checkSets_18 dX11_checkSets_19 dX11_checkSets_22 dX11_checkSets_25 hnt rfl rfl rfl rfl hlocks ⟨rfl, (by simp [okSets, c_1, c_2])⟩
set_option maxHeartbeats 4000000 in
set_option maxRecDepth 100000 in
theorem c_X11_checkWidth (l : Launch) (G : va_G) (cy : Nat → ClassId) (sa : Nat → Nat) (hlst : l.stackTraces = false) (p0 : Int32) : Kx l G cy sa yX11_checkWidth cX11_checkWidth 1 none ({ frames := 10, cells := 1, slots := 6, locals := 200 } : Room) [.int p0] [] (fun (v : Option Value) (w1 : va_W) => v = none ∧ w1 = [] ∧ (okWidth p0)) (fun E => E = eIA ∧ ¬ okWidth p0) := by
  refine kx_ofW (by decide) (Nat.le_of_ble_eq_true rfl) ?_
  intro p e s m below meth c A ls hx hb hr hU hown hlocks hml hin hP hK hD hA hS hl hZ hnt
  have hown : s.vm.findClass RX11 = some m.cls := hown
  have hl : lv_has ls 1 [(0, .int p0)] := hl
  refine lv_iload_n hx hb dX11_checkWidth_0 rfl (lv_at hl 0 rfl) ?_
  refine lv_if_lt (tgt := 10) hx hb dX11_checkWidth_1 (by decide) (fun c_1 => ?_) (fun c_1 => ?_)
  · exact kx_throwW (text := "no width") hx hb hlst hown (by decide) hU u_977 u_143 (by decide) at_88 hZ hS (by rw [hml]; exact hl.1) dX11_checkWidth_10 dX11_checkWidth_13 dX11_checkWidth_14 dX11_checkWidth_17 dX11_checkWidth_20 hnt rfl rfl rfl rfl hlocks ⟨rfl, (by simp [okWidth, c_1])⟩
  · refine lv_iload_n hx hb dX11_checkWidth_4 rfl (lv_at hl 0 rfl) ?_
    refine lv_bipush (v := 6) hx hb dX11_checkWidth_5 (by decide) ?_
    refine lv_icmp_le (tgt := 21) hx hb dX11_checkWidth_7 (by decide) (fun c_2 => ?_) (fun c_2 => ?_)
    · exact vx_ret (kt_vret hx hb hr hlocks hP hD hS dX11_checkWidth_21 [] rfl rfl rfl rfl ⟨rfl, rfl, (by simp [okWidth, c_1, c_2])⟩)
    · exact kx_throwW (text := "no width") hx hb hlst hown (by decide) hU u_977 u_143 (by decide) at_88 hZ hS (by rw [hml]; exact hl.1) dX11_checkWidth_10 dX11_checkWidth_13 dX11_checkWidth_14 dX11_checkWidth_17 dX11_checkWidth_20 hnt rfl rfl rfl rfl hlocks ⟨rfl, (by simp [okWidth, c_1, c_2])⟩
set_option maxHeartbeats 4000000 in
set_option maxRecDepth 100000 in
theorem c_X10_init (l : Launch) (G : va_G) (cy : Nat → ClassId) (h0 : Nat) (p0 : Int32) (p1 : Int32) : Kt l G cy yX10_init cX10_init 3 none ({ frames := 10, cells := 0, slots := 0, locals := 200 } : Room) [.ref h0, .int p0, .int p1] [(h0, .inr (9, [.int 0, .int 0, .int 0]))] (fun (v : Option Value) (w1 : va_W) => v = none ∧ w1 = [(h0, .inr (9, [.int p0, .int p1, .int 0]))]) := by
  refine kt_ofW (by decide) (Nat.le_of_ble_eq_true rfl) ?_
  intro p e s m below meth c A ls hx hb hr hU hown hlocks hml hin hP hK hD hA hS hl
  have hown : s.vm.findClass RX10 = some m.cls := hown
  have hl : lv_has ls 3 [(0, .ref h0), (1, .int p0), (2, .int p1)] := hl
  refine lv_aload_n hx hb dX10_init_0 rfl (lv_at hl 0 rfl) ?_
  refine W.objInit hx hb hown (hU _ u_1249) (hU _ u_157) (hU _ u_158) rfl (by rw [hml]; exact hl.1) rfl dX10_init_1 (Nat.le_of_ble_eq_true rfl) (Nat.le_of_ble_eq_true rfl) ?_
  refine W.eq (g2 := F0 m 4 ls []) rfl ?_
  refine lv_aload_n hx hb dX10_init_4 rfl (lv_at hl 0 rfl) ?_
  refine lv_iload_n hx hb dX10_init_5 rfl (lv_at hl 1 rfl) ?_
  refine va_put (D := G) (ci := 9) (v := .int p0) (ty := .int) (C := RX10) (T := TX10) (N := 3) hx hb hU in_X10 tyX10 tyX10_ok nmX10 hown hK.1 hP hD hS 0 rfl rfl 0 (by decide) (hU _ u_1250) (fun _ h9 => h9) rfl (by decide +kernel) rfl rfl (Nat.le_of_ble_eq_true rfl) dX10_init_6 (fun H locs hP hD hS => ?_)
  have hP : va_P G vwCl [(h0, .inr (9, [.int p0, .int 0, .int 0]))] H := hP
  have hD : va_D A [(h0, .inr (9, [.int p0, .int 0, .int 0]))] := hD
  refine lv_aload_n hx hb dX10_init_9 rfl (lv_at hl 0 rfl) ?_
  refine lv_iload_n hx hb dX10_init_10 rfl (lv_at hl 2 rfl) ?_
  refine va_put (D := G) (ci := 9) (v := .int p1) (ty := .int) (C := RX10) (T := TX10) (N := 3) hx hb hU in_X10 tyX10 tyX10_ok nmX10 hown hK.1 hP hD hS 0 rfl rfl 1 (by decide) (hU _ u_1252) (fun _ h9 => h9) rfl (by decide +kernel) rfl rfl (Nat.le_of_ble_eq_true rfl) dX10_init_11 (fun H locs hP hD hS => ?_)
  have hP : va_P G vwCl [(h0, .inr (9, [.int p0, .int p1, .int 0]))] H := hP
  have hD : va_D A [(h0, .inr (9, [.int p0, .int p1, .int 0]))] := hD
  exact kt_vret hx hb hr hlocks hP hD hS dX10_init_14 [0] rfl rfl rfl rfl ⟨rfl, rfl⟩
set_option maxHeartbeats 4000000 in
set_option maxRecDepth 100000 in
theorem c_X10_spread (l : Launch) (G : va_G) (cy : Nat → ClassId) (h0 : Nat) (p0 : Int32) (p1 : Int32) (r2 : Nat) (r3 : Nat) : Kt l G cy yX10_spread cX10_spread 5 none ({ frames := 10, cells := 0, slots := 0, locals := 200 } : Room) [.ref h0, .ref r2] [(h0, .inr (9, [.int p0, .int p1, .int 0])), (r2, .inr (0, [.ref r3, .int 0, .int 0]))] (fun (v : Option Value) (w1 : va_W) => v = none ∧ w1 = [(h0, .inr (9, [.int p0, .int p1, .int 0])), (r2, .inr (0, [.ref r3, .int 0, .int 0]))]) := by
  refine kt_ofW (by decide) (Nat.le_of_ble_eq_true rfl) ?_
  intro p e s m below meth c A ls hx hb hr hU hown hlocks hml hin hP hK hD hA hS hl
  have hown : s.vm.findClass RX10 = some m.cls := hown
  have hl : lv_has ls 5 [(0, .ref h0), (1, .ref r2)] := hl
  refine lv_iconst (v := 0) hx hb dX10_spread_0 (by decide) ?_
  refine lv_istore_n (lv' := [(2, .int 0), (0, .ref h0), (1, .ref r2)]) hx hb dX10_spread_1 rfl hl (by decide) rfl (fun ls hl => ?_)
  refine lv_iload_n hx hb dX10_spread_2 rfl (lv_at hl 0 rfl) ?_
  refine lv_bipush (v := 6) hx hb dX10_spread_3 (by decide) ?_
  refine lv_icmp_gt (tgt := 81) hx hb dX10_spread_5 (by decide) (fun c9 => absurd c9 (by decide)) (fun _ => ?_)
  refine lv_aload_n hx hb dX10_spread_8 rfl (lv_at hl 1 rfl) ?_
  refine va_get (D := G) (ci := 9) (v := .int p0) (C := RX10) (T := TX10) (N := 3) hx hb hU in_X10 hown hK.1 hP 0 rfl rfl 0 (by decide) (hU _ u_1250) (fun _ h9 => h9) rfl dX10_spread_9 ?_
  refine lv_aload_n hx hb dX10_spread_12 rfl (lv_at hl 1 rfl) ?_
  refine va_get (D := G) (ci := 9) (v := .int p1) (C := RX10) (T := TX10) (N := 3) hx hb hU in_X10 hown hK.1 hP 0 rfl rfl 1 (by decide) (hU _ u_1252) (fun _ h9 => h9) rfl dX10_spread_13 ?_
  refine lv_ior hx hb dX10_spread_16 ?_
  refine lv_istore_n (lv' := [(3, .int (p0 ||| p1)), (2, .int 0), (0, .ref h0), (1, .ref r2)]) hx hb dX10_spread_17 rfl hl (by decide) rfl (fun ls hl => ?_)
  refine lv_iconst (v := 0) hx hb dX10_spread_18 (by decide) ?_
  refine lv_istore (lv' := [(4, .int 0), (3, .int (p0 ||| p1)), (2, .int 0), (0, .ref h0), (1, .ref r2)]) hx hb dX10_spread_19 hl (by decide) rfl (fun ls hl => ?_)
  refine lv_iload hx hb dX10_spread_21 (lv_at hl 0 rfl) ?_
  refine lv_aload_n hx hb dX10_spread_23 rfl (lv_at hl 4 rfl) ?_
  refine va_get (D := G) (ci := 0) (v := .int 0) (C := RX0) (T := TX0) (N := 3) hx hb hU in_X0 hown hK.1 hP 1 rfl rfl 1 (by decide) (hU _ u_176) (fun _ h9 => h9) rfl dX10_spread_24 ?_
  refine lv_icmp_ge (tgt := 54) hx hb dX10_spread_27 (by decide) (fun _ => ?_) (fun c9 => absurd (by decide) c9)
  refine lv_aload_n hx hb dX10_spread_54 rfl (lv_at hl 3 rfl) ?_
  refine va_get (D := G) (ci := 9) (v := .int 0) (C := RX10) (T := TX10) (N := 3) hx hb hU in_X10 hown hK.1 hP 0 rfl rfl 2 (by decide) (hU _ u_1254) (fun _ h9 => h9) rfl dX10_spread_55 ?_
  refine lv_if_ne (tgt := 74) hx hb dX10_spread_58 (by decide) (fun c9 => absurd (by decide) c9) (fun _ => ?_)
  refine lv_aload_n hx hb dX10_spread_61 rfl (lv_at hl 3 rfl) ?_
  refine va_get (D := G) (ci := 9) (v := .int p0) (C := RX10) (T := TX10) (N := 3) hx hb hU in_X10 hown hK.1 hP 0 rfl rfl 0 (by decide) (hU _ u_1250) (fun _ h9 => h9) rfl dX10_spread_62 ?_
  refine lv_aload_n hx hb dX10_spread_65 rfl (lv_at hl 3 rfl) ?_
  refine va_get (D := G) (ci := 9) (v := .int p1) (C := RX10) (T := TX10) (N := 3) hx hb hU in_X10 hown hK.1 hP 0 rfl rfl 1 (by decide) (hU _ u_1252) (fun _ h9 => h9) rfl dX10_spread_66 ?_
  refine lv_ior hx hb dX10_spread_69 ?_
  refine lv_iload_n hx hb dX10_spread_70 rfl (lv_at hl 1 rfl) ?_
  refine lv_icmp_ne (tgt := 75) hx hb dX10_spread_71 (by decide) (fun c9 => absurd rfl c9) (fun _ => ?_)
  exact kt_vret hx hb hr hlocks hP hD hS dX10_spread_74 [0, 1] rfl rfl rfl rfl ⟨rfl, rfl⟩
set_option maxHeartbeats 4000000 in
set_option maxRecDepth 100000 in
theorem c_X11_units (l : Launch) (G : va_G) (cy : Nat → ClassId) (sa : Nat → Nat) (hlst : l.stackTraces = false) (h0 : Nat) (r1 : Nat) (r2 : Nat) (r4 : Nat) (r6 : Nat) (r7 : Nat) (r9 : Nat) (r3 : Nat) (p0 : Int32) (p1 : Int32) (p2 : Int32) : Kx l G cy sa yX11_units cX11_units 5 (some .int) ({ frames := 12, cells := 2, slots := 12, locals := 300 } : Room) [.ref h0, .int p0, .int p1, .int p2] [(h0, .inr (10, [.ref r1, .int 0, .int (-1), .ref r2, .ref r4, .ref r6, .int (-2), .ref r7, .ref r9])), (r2, .inr (0, [.ref r3, .int 0, .int 0]))] (fun (v : Option Value) (w1 : va_W) => ∃ (r : Int32), v = some (.int r) ∧ w1 = [] ∧ (okSets p0 p1 ∧ okWhat p2 ∧ r = sp_units p0 p1 p2)) (fun E => (E = eIA ∧ ¬ okSets p0 p1) ∨ (E = eNS ∧ okSets p0 p1 ∧ ¬ okWhat p2)) := by
  refine kx_ofW (by decide) (Nat.le_of_ble_eq_true rfl) ?_
  intro p e s m below meth c A ls hx hb hr hU hown hlocks hml hin hP hK hD hA hS hl hZ hnt
  have hown : s.vm.findClass RX11 = some m.cls := hown
  have hl : lv_has ls 5 [(0, .ref h0), (1, .int p0), (2, .int p1), (3, .int p2)] := hl
  refine lv_iload_n hx hb dX11_units_0 rfl (lv_at hl 1 rfl) ?_
  refine lv_iload_n hx hb dX11_units_1 rfl (lv_at hl 2 rfl) ?_
  refine kx_callS (wc := []) (wr := [(h0, .inr (10, [.ref r1, .int 0, .int (-1), .ref r2, .ref r4, .ref r6, .int (-2), .ref r7, .ref r9])), (r2, .inr (0, [.ref r3, .int 0, .int 0]))]) (As := [.int p0, .int p1]) (rest := []) (c_X11_checkSets l G cy sa hlst p0 p1) m_X11_checkSets u_1240 hx hb hml hown hU hl.1 hK hP hD hS hA dX11_units_2 [] [0, 1] rfl rfl rfl rfl rfl rfl (Nat.le_of_ble_eq_true rfl) hZ hnt hlocks (fun _ h9 => Or.inl h9) (fun v9 w9 H locs hw hP hD hS => ?_)
  obtain ⟨rfl, rfl, hp_1⟩ := hw
  have hP : va_P G vwCl [(h0, .inr (10, [.ref r1, .int 0, .int (-1), .ref r2, .ref r4, .ref r6, .int (-2), .ref r7, .ref r9])), (r2, .inr (0, [.ref r3, .int 0, .int 0]))] H := hP
  have hD : va_D A [(h0, .inr (10, [.ref r1, .int 0, .int (-1), .ref r2, .ref r4, .ref r6, .int (-2), .ref r7, .ref r9])), (r2, .inr (0, [.ref r3, .int 0, .int 0]))] := hD
  refine W.eq (g2 := F0 m 5 ls []) rfl ?_
  refine W.widen (k := 1) (n := 6) (Nat.le_of_ble_eq_true rfl) (Nat.le_of_ble_eq_true rfl) ?_
  refine lv_iload_n hx hb dX11_units_5 rfl (lv_at hl 3 rfl) ?_
  refine lv_if_lt (tgt := 14) hx hb dX11_units_6 (by decide) (fun c_2 => ?_) (fun c_2 => ?_)
  · exact kx_throwN (text := "another what") hx hb hlst hown hU u_1099 u_145 (by decide) at_145 hZ hS (by rw [hml]; exact hl.1) dX11_units_14 dX11_units_17 dX11_units_18 dX11_units_20 dX11_units_23 hnt rfl rfl rfl rfl hlocks (Or.inr ⟨rfl, by assumption, (by simp [okWhat, c_2])⟩)
  · refine lv_iload_n hx hb dX11_units_9 rfl (lv_at hl 3 rfl) ?_
    refine lv_iconst (v := 2) hx hb dX11_units_10 (by decide) ?_
    refine lv_icmp_le (tgt := 24) hx hb dX11_units_11 (by decide) (fun c_3 => ?_) (fun c_3 => ?_)
    · refine va_new (ci := 9) (fs := [.int 0, .int 0, .int 0]) (C := RX10) (T := TX10) (N := 3) hx hb hU in_X10 tyX10 tyX10_ok hown (hU _ u_1244) (hU _ u_1245) (hU _ u_147) hK.1 hP hD hS hA rfl df_X10 (Nat.le_of_ble_eq_true rfl) (Nat.le_of_ble_eq_true rfl) dX11_units_24 (fun q_4 H hP hD hS => ?_)
      have hP : va_P G vwCl [(h0, .inr (10, [.ref r1, .int 0, .int (-1), .ref r2, .ref r4, .ref r6, .int (-2), .ref r7, .ref r9])), (r2, .inr (0, [.ref r3, .int 0, .int 0])), (q_4, .inr (9, [.int 0, .int 0, .int 0]))] H := hP
      have hD : va_D A [(h0, .inr (10, [.ref r1, .int 0, .int (-1), .ref r2, .ref r4, .ref r6, .int (-2), .ref r7, .ref r9])), (r2, .inr (0, [.ref r3, .int 0, .int 0])), (q_4, .inr (9, [.int 0, .int 0, .int 0]))] := hD
      refine W.widen (k := 2) (n := 9) (Nat.le_of_ble_eq_true rfl) (Nat.le_of_ble_eq_true rfl) ?_
      refine lv_dup hx hb dX11_units_27 rfl ?_
      refine lv_iload_n hx hb dX11_units_28 rfl (lv_at hl 1 rfl) ?_
      refine lv_iload_n hx hb dX11_units_29 rfl (lv_at hl 2 rfl) ?_
      refine kt_callI (wc := [(q_4, .inr (9, [.int 0, .int 0, .int 0]))]) (wr := [(h0, .inr (10, [.ref r1, .int 0, .int (-1), .ref r2, .ref r4, .ref r6, .int (-2), .ref r7, .ref r9])), (r2, .inr (0, [.ref r3, .int 0, .int 0]))]) (As := [.int p0, .int p1]) (rest := [.ref q_4]) (c_X10_init l G cy q_4 p0 p1) m_X10_init u_1246 hx hb hml hown hU hl.1 hK hP hD hS hA dX11_units_30 [2] [0, 1] rfl rfl rfl rfl rfl rfl (Nat.le_of_ble_eq_true rfl) (fun v9 w9 H locs hw hP hD hS => ?_)
      obtain ⟨rfl, rfl⟩ := hw
      have hP : va_P G vwCl [(h0, .inr (10, [.ref r1, .int 0, .int (-1), .ref r2, .ref r4, .ref r6, .int (-2), .ref r7, .ref r9])), (r2, .inr (0, [.ref r3, .int 0, .int 0])), (q_4, .inr (9, [.int p0, .int p1, .int 0]))] H := hP
      have hD : va_D A [(h0, .inr (10, [.ref r1, .int 0, .int (-1), .ref r2, .ref r4, .ref r6, .int (-2), .ref r7, .ref r9])), (r2, .inr (0, [.ref r3, .int 0, .int 0])), (q_4, .inr (9, [.int p0, .int p1, .int 0]))] := hD
      refine W.eq (g2 := F0 m 33 ls [.ref q_4]) rfl ?_
      refine W.widen (k := 2) (n := 9) (Nat.le_of_ble_eq_true rfl) (Nat.le_of_ble_eq_true rfl) ?_
      refine lv_astore (lv' := [(4, .ref q_4), (0, .ref h0), (1, .int p0), (2, .int p1), (3, .int p2)]) hx hb dX11_units_33 hl (by decide) rfl (fun ls hl => ?_)
      refine lv_aload hx hb dX11_units_35 (lv_at hl 0 rfl) ?_
      refine lv_aload_n hx hb dX11_units_37 rfl (lv_at hl 1 rfl) ?_
      refine va_get (D := G) (ci := 10) (v := .ref r2) (C := RX11) (T := TX11) (N := 9) hx hb hU in_X11 hown hK.1 hP 0 rfl rfl 3 (by decide) (hU _ u_253) (fun _ h9 => h9) rfl dX11_units_38 ?_
      refine kt_callV (wc := [(q_4, .inr (9, [.int p0, .int p1, .int 0])), (r2, .inr (0, [.ref r3, .int 0, .int 0]))]) (wr := [(h0, .inr (10, [.ref r1, .int 0, .int (-1), .ref r2, .ref r4, .ref r6, .int (-2), .ref r7, .ref r9]))]) (As := [.ref r2]) (rest := []) (c_X10_spread l G cy q_4 p0 p1 r2 r3) m_X10_spread u_1263 hx hb hml hown hU hl.1 hK hP hD hS hA dX11_units_41 [2, 1] [0] rfl rfl rfl rfl rfl rfl (Nat.le_of_ble_eq_true rfl) (ci := 9) rfl rfl rfl (fun v9 w9 H locs hw hP hD hS => ?_)
      obtain ⟨rfl, rfl⟩ := hw
      have hP : va_P G vwCl [(h0, .inr (10, [.ref r1, .int 0, .int (-1), .ref r2, .ref r4, .ref r6, .int (-2), .ref r7, .ref r9])), (q_4, .inr (9, [.int p0, .int p1, .int 0])), (r2, .inr (0, [.ref r3, .int 0, .int 0]))] H := hP
      have hD : va_D A [(h0, .inr (10, [.ref r1, .int 0, .int (-1), .ref r2, .ref r4, .ref r6, .int (-2), .ref r7, .ref r9])), (q_4, .inr (9, [.int p0, .int p1, .int 0])), (r2, .inr (0, [.ref r3, .int 0, .int 0]))] := hD
      refine W.eq (g2 := F0 m 44 ls []) rfl ?_
      refine W.widen (k := 2) (n := 9) (Nat.le_of_ble_eq_true rfl) (Nat.le_of_ble_eq_true rfl) ?_
      refine lv_iload_n hx hb dX11_units_44 rfl (lv_at hl 4 rfl) ?_
      by_cases c_5 : p2 = 0
      · refine lv_lookup (off := 27) (tgt := 72) hx hb dX11_units_45 (by decide) (by rw [c_5]; decide) (by decide) ?_
        refine lv_aload hx hb dX11_units_72 (lv_at hl 0 rfl) ?_
        refine va_get (D := G) (ci := 9) (v := .int p0) (C := RX10) (T := TX10) (N := 3) hx hb hU in_X10 hown hK.1 hP 1 rfl rfl 0 (by decide) (hU _ u_1251) (fun _ h9 => h9) rfl dX11_units_74 ?_
        exact vx_ret (kt_iret hx hb hr hlocks hP hD hS dX11_units_77 [] rfl rfl rfl rfl ⟨p0, rfl, rfl, ⟨by assumption, (by simp [okWhat, c_2, c_3, c_5]), (by simp [sp_units, c_2, c_3, c_5])⟩⟩)
      by_cases c_6 : p2 = 1
      · refine lv_lookup (off := 33) (tgt := 78) hx hb dX11_units_45 (by decide) (by rw [c_6]; decide) (by decide) ?_
        refine lv_aload hx hb dX11_units_78 (lv_at hl 0 rfl) ?_
        refine va_get (D := G) (ci := 9) (v := .int p1) (C := RX10) (T := TX10) (N := 3) hx hb hU in_X10 hown hK.1 hP 1 rfl rfl 1 (by decide) (hU _ u_1253) (fun _ h9 => h9) rfl dX11_units_80 ?_
        exact vx_ret (kt_iret hx hb hr hlocks hP hD hS dX11_units_83 [] rfl rfl rfl rfl ⟨p1, rfl, rfl, ⟨by assumption, (by simp [okWhat, c_2, c_3, c_5, c_6]), (by simp [sp_units, c_2, c_3, c_5, c_6])⟩⟩)
      refine lv_lookup (off := 39) (tgt := 84) hx hb dX11_units_45 (by decide) ((lv_osw (k := 0) (a := 0) (o := 27) (d := 39) (r := [(1, 33)]) c_5 rfl).trans ((lv_osw (k := 1) (a := 1) (o := 33) (d := 39) (r := []) c_6 rfl).trans (rfl))) (by decide) ?_
      refine lv_aload hx hb dX11_units_84 (lv_at hl 0 rfl) ?_
      refine va_get (D := G) (ci := 9) (v := .int 0) (C := RX10) (T := TX10) (N := 3) hx hb hU in_X10 hown hK.1 hP 1 rfl rfl 2 (by decide) (hU _ u_1255) (fun _ h9 => h9) rfl dX11_units_86 ?_
      refine lv_if_eq (tgt := 96) hx hb dX11_units_89 (by decide) (fun _ => ?_) (fun c9 => absurd (by decide) c9)
      refine lv_iconst (v := 0) hx hb dX11_units_96 (by decide) ?_
      exact vx_ret (kt_iret hx hb hr hlocks hP hD hS dX11_units_97 [] rfl rfl rfl rfl ⟨0, rfl, rfl, ⟨by assumption, (by simp [okWhat, c_2, c_3, c_5, c_6]), (by simp [sp_units, c_2, c_3, c_5, c_6])⟩⟩)
    · exact kx_throwN (text := "another what") hx hb hlst hown hU u_1099 u_145 (by decide) at_145 hZ hS (by rw [hml]; exact hl.1) dX11_units_14 dX11_units_17 dX11_units_18 dX11_units_20 dX11_units_23 hnt rfl rfl rfl rfl hlocks (Or.inr ⟨rfl, by assumption, (by simp [okWhat, c_2, c_3])⟩)
end
section
set_option maxHeartbeats 4000000 in
set_option maxRecDepth 100000 in
theorem c_X2_init (l : Launch) (G : va_G) (cy : Nat → ClassId) (h0 : Nat) (p0 : Int32) : Kt l G cy yX2_init cX2_init 2 none ({ frames := 10, cells := 2, slots := 793, locals := 200 } : Room) [.ref h0, .int p0] [(h0, .inr (2, [.int 0, .null, .null, .int 0, .int 0, .int 0, .int 0]))] (fun (v : Option Value) (w1 : va_W) => ∃ (b1 : Nat), ∃ (b2 : Nat), v = none ∧ w1 = [(h0, .inr (2, [.int p0, .ref b1, .ref b2, .int 0, .int 0, .int 0, .int 0])), (b1, .inl (cy 2, 64, .inr (.inl (fun _ => 0)))), (b2, .inl (cy 1, 729, .inl (fun _ => 0)))]) := by
  refine kt_ofW (by decide) (Nat.le_of_ble_eq_true rfl) ?_
  intro p e s m below meth c A ls hx hb hr hU hown hlocks hml hin hP hK hD hA hS hl
  have hown : s.vm.findClass RX2 = some m.cls := hown
  have hl : lv_has ls 2 [(0, .ref h0), (1, .int p0)] := hl
  refine lv_aload_n hx hb dX2_init_0 rfl (lv_at hl 0 rfl) ?_
  refine W.objInit hx hb hown (hU _ u_337) (hU _ u_157) (hU _ u_158) rfl (by rw [hml]; exact hl.1) rfl dX2_init_1 (Nat.le_of_ble_eq_true rfl) (Nat.le_of_ble_eq_true rfl) ?_
  refine W.eq (g2 := F0 m 4 ls []) rfl ?_
  refine lv_aload_n hx hb dX2_init_4 rfl (lv_at hl 0 rfl) ?_
  refine lv_iload_n hx hb dX2_init_5 rfl (lv_at hl 1 rfl) ?_
  refine va_putF (D := G) (ci := 2) (v := .int p0) (ty := .int) (C := RX2) (T := TX2) (N := 7) hx hb hU in_X2 tyX2 tyX2_ok nmX2 hown hK.1 hP hD hS 0 rfl rfl 0 (by decide) (hU _ u_338) (fun _ h9 => h9) rfl hin rfl (by decide +kernel) rfl rfl (Nat.le_of_ble_eq_true rfl) dX2_init_6 (fun H locs hP hD hS => ?_)
  have hP : va_P G vwCl [(h0, .inr (2, [.int p0, .null, .null, .int 0, .int 0, .int 0, .int 0]))] H := hP
  have hD : va_D A [(h0, .inr (2, [.int p0, .null, .null, .int 0, .int 0, .int 0, .int 0]))] := hD
  refine lv_aload_n hx hb dX2_init_9 rfl (lv_at hl 0 rfl) ?_
  refine lv_bipush (v := 64) hx hb dX2_init_10 (by decide) ?_
  refine lx_newa (atype := .long) (ty := .long) (N' := 64) (a0 := (64, .inr (.inl (fun _ => 0)))) hx hb hU u_364 rfl hK hP hD hS hA 2 rfl (fun _ h9 => h9) (fun _ => rfl) (by decide) (by decide +kernel) (Nat.le_of_ble_eq_true rfl) (Nat.le_of_ble_eq_true rfl) (Nat.le_of_ble_eq_true rfl) dX2_init_12 (fun q_1 H hP hD hS => ?_)
  have hP : va_P G vwCl [(h0, .inr (2, [.int p0, .null, .null, .int 0, .int 0, .int 0, .int 0])), (q_1, .inl (cy 2, 64, .inr (.inl (fun _ => 0))))] H := hP
  have hD : va_D A [(h0, .inr (2, [.int p0, .null, .null, .int 0, .int 0, .int 0, .int 0])), (q_1, .inl (cy 2, 64, .inr (.inl (fun _ => 0))))] := hD
  refine W.widen (k := 1) (n := 64) (Nat.le_of_ble_eq_true rfl) (Nat.le_of_ble_eq_true rfl) ?_
  refine va_putF (D := G) (ci := 2) (v := .ref q_1) (ty := .array (.long)) (C := RX2) (T := TX2) (N := 7) hx hb hU in_X2 tyX2 tyX2_ok nmX2 hown hK.1 hP hD hS 0 rfl rfl 1 (by decide) (hU _ u_339) (fun _ h9 => h9) rfl hin rfl (by decide +kernel) rfl rfl (Nat.le_of_ble_eq_true rfl) dX2_init_14 (fun H locs hP hD hS => ?_)
  have hP : va_P G vwCl [(h0, .inr (2, [.int p0, .ref q_1, .null, .int 0, .int 0, .int 0, .int 0])), (q_1, .inl (cy 2, 64, .inr (.inl (fun _ => 0))))] H := hP
  have hD : va_D A [(h0, .inr (2, [.int p0, .ref q_1, .null, .int 0, .int 0, .int 0, .int 0])), (q_1, .inl (cy 2, 64, .inr (.inl (fun _ => 0))))] := hD
  refine lv_aload_n hx hb dX2_init_17 rfl (lv_at hl 0 rfl) ?_
  refine lv_sipush (v := 729) hx hb dX2_init_18 (by decide) ?_
  refine lx_newa (atype := .int) (ty := .int) (N' := 729) (a0 := (729, .inl (fun _ => 0))) hx hb hU u_214 rfl hK hP hD hS hA 1 rfl (fun _ h9 => h9) (fun _ => rfl) (by decide) (by decide +kernel) (Nat.le_of_ble_eq_true rfl) (Nat.le_of_ble_eq_true rfl) (Nat.le_of_ble_eq_true rfl) dX2_init_21 (fun q_2 H hP hD hS => ?_)
  have hP : va_P G vwCl [(h0, .inr (2, [.int p0, .ref q_1, .null, .int 0, .int 0, .int 0, .int 0])), (q_1, .inl (cy 2, 64, .inr (.inl (fun _ => 0)))), (q_2, .inl (cy 1, 729, .inl (fun _ => 0)))] H := hP
  have hD : va_D A [(h0, .inr (2, [.int p0, .ref q_1, .null, .int 0, .int 0, .int 0, .int 0])), (q_1, .inl (cy 2, 64, .inr (.inl (fun _ => 0)))), (q_2, .inl (cy 1, 729, .inl (fun _ => 0)))] := hD
  refine W.widen (k := 2) (n := 793) (Nat.le_of_ble_eq_true rfl) (Nat.le_of_ble_eq_true rfl) ?_
  refine va_putF (D := G) (ci := 2) (v := .ref q_2) (ty := .array (.int)) (C := RX2) (T := TX2) (N := 7) hx hb hU in_X2 tyX2 tyX2_ok nmX2 hown hK.1 hP hD hS 0 rfl rfl 2 (by decide) (hU _ u_340) (fun _ h9 => h9) rfl hin rfl (by decide +kernel) rfl rfl (Nat.le_of_ble_eq_true rfl) dX2_init_23 (fun H locs hP hD hS => ?_)
  have hP : va_P G vwCl [(h0, .inr (2, [.int p0, .ref q_1, .ref q_2, .int 0, .int 0, .int 0, .int 0])), (q_1, .inl (cy 2, 64, .inr (.inl (fun _ => 0)))), (q_2, .inl (cy 1, 729, .inl (fun _ => 0)))] H := hP
  have hD : va_D A [(h0, .inr (2, [.int p0, .ref q_1, .ref q_2, .int 0, .int 0, .int 0, .int 0])), (q_1, .inl (cy 2, 64, .inr (.inl (fun _ => 0)))), (q_2, .inl (cy 1, 729, .inl (fun _ => 0)))] := hD
  exact kt_vret hx hb hr hlocks hP hD hS dX2_init_26 [0, 1, 2] rfl rfl rfl rfl ⟨q_1, q_2, rfl, rfl⟩
set_option maxHeartbeats 4000000 in
set_option maxRecDepth 100000 in
theorem c_J7_fill_d0a16 (l : Launch) (G : va_G) (cy : Nat → ClassId) (b1 : Nat) : Kt l G cy yJ7_fill_d0a16 cJ7_fill_d0a16 5 none ({ frames := 10, cells := 0, slots := 0, locals := 200 } : Room) [.ref b1, .long 0] [(b1, .inl (cy 2, 64, .inr (.inl (fun _ => 0))))] (fun (v : Option Value) (w1 : va_W) => v = none ∧ w1 = [(b1, .inl (cy 2, 64, .inr (.inl (fun _ => 0))))]) := by
  refine kt_ofW (by decide) (Nat.le_of_ble_eq_true rfl) ?_
  intro p e s m below meth c A ls hx hb hr hU hown hlocks hml hin hP hK hD hA hS hl
  have hown : s.vm.findClass RJ7 = some m.cls := hown
  have hl : lv_has ls 5 [(0, .ref b1), (1, .long 0)] := hl
  refine lv_iconst (v := 0) hx hb dJ7_fill_d0a16_0 (by decide) ?_
  refine lv_istore_n (lv' := [(3, .int 0), (0, .ref b1), (1, .long 0)]) hx hb dJ7_fill_d0a16_1 rfl hl (by decide) rfl (fun ls hl => ?_)
  refine lv_aload_n hx hb dJ7_fill_d0a16_2 rfl (lv_at hl 1 rfl) ?_
  refine va_alen (v := 64) hx hb hK.1 hP 0 2 rfl rfl (by decide) dJ7_fill_d0a16_3 ?_
  refine lv_istore (lv' := [(4, .int 64), (3, .int 0), (0, .ref b1), (1, .long 0)]) hx hb dJ7_fill_d0a16_4 hl (by decide) rfl (fun ls hl => ?_)
  refine (fun (hloop : ∀ (n i : Nat), i + n = 64 → ∀ (H : Heap) (locs : List Loc) (ls : Array Slot), va_P G vwCl [(b1, .inl (cy 2, 64, .inr (.inl (fun _ => 0))))] H → va_D A [(b1, .inl (cy 2, 64, .inr (.inl (fun _ => 0))))] → va_S A s.heap H locs → lv_has ls 5 [(3, .int (nI i)), (4, .int 64), (0, .ref b1), (1, .long 0)] → W p l e _ s m _ below meth c H locs _ _ _ (F0 m 6 ls [])) => hloop 64 0 rfl _ _ _ hP hD hS (lv_sub hl [1, 0, 2, 3] rfl)) ?_
  intro n
  induction n with
  | zero =>
    intro i hi0 H locs ls hP hD hS hl
    obtain rfl : i = 64 := by omega
    refine lv_iload_n hx hb dJ7_fill_d0a16_6 rfl (lv_at hl 0 rfl) ?_
    refine lv_iload hx hb dJ7_fill_d0a16_7 (lv_at hl 1 rfl) ?_
    refine lv_icmp_ge (tgt := 22) hx hb dJ7_fill_d0a16_9 (by decide) (fun _ => ?_) (fun c9 => absurd (by decide) c9)
    exact kt_vret hx hb hr hlocks hP hD hS dJ7_fill_d0a16_22 [0] rfl rfl rfl rfl ⟨rfl, rfl⟩
  | succ n ih =>
    intro i hi0 H locs ls hP hD hS hl
    refine lv_iload_n hx hb dJ7_fill_d0a16_6 rfl (lv_at hl 0 rfl) ?_
    refine lv_iload hx hb dJ7_fill_d0a16_7 (lv_at hl 1 rfl) ?_
    refine lv_icmp_ge (tgt := 22) hx hb dJ7_fill_d0a16_9 (by decide) (fun c9 => absurd c9 (nI_ge (b := 64) (by omega) (by decide))) (fun _ => ?_)
    refine lv_aload_n hx hb dJ7_fill_d0a16_12 rfl (lv_at hl 2 rfl) ?_
    refine lv_iload_n hx hb dJ7_fill_d0a16_13 rfl (lv_at hl 0 rfl) ?_
    refine lv_lload_n hx hb dJ7_fill_d0a16_14 rfl (lv_at hl 3 rfl) ?_
    refine va_last hx hb hK.1 hP hD hS 0 2 rfl rfl (vp_in_nI (by omega) (by decide)) dJ7_fill_d0a16_15 (fun H locs hP hD hS => ?_)
    rw [lx_upL] at hP hD
    have hP : va_P G vwCl [(b1, .inl (cy 2, 64, .inr (.inl (fun _ => 0))))] H := hP
    have hD : va_D A [(b1, .inl (cy 2, 64, .inr (.inl (fun _ => 0))))] := hD
    refine lv_iinc (v := nI (i + 1)) (lv' := [(3, .int (nI (i + 1))), (4, .int 64), (0, .ref b1), (1, .long 0)]) hx hb dJ7_fill_d0a16_16 hl (k := 0) rfl (nI_1 i) (by decide) rfl (fun ls hl => ?_)
    refine lv_goto (tgt := 6) hx hb dJ7_fill_d0a16_19 (by decide) ?_
    exact ih (i + 1) (by omega) _ _ _ hP hD hS (lv_sub hl [0, 1, 2, 3] rfl)
end
section
theorem u_1 : Cond.selects RX11 yX11_closureOf yX11_closureOf ∈ UU := uu_mem 1 (by decide +kernel) (by decide +kernel)
theorem u_3 : Cond.selects RX2 yX2_goRounds yX2_goRounds ∈ UU := uu_mem 3 (by decide +kernel) (by decide +kernel)
theorem u_146 : Cond.initialized RJ13 ∈ UU := uu_mem 146 (by decide +kernel) (by decide +kernel)
theorem u_148 : Cond.initialized RX2 ∈ UU := uu_mem 148 (by decide +kernel) (by decide +kernel)
theorem u_149 : Cond.initialized RJ7 ∈ UU := uu_mem 149 (by decide +kernel) (by decide +kernel)
theorem u_177 : Cond.fieldLink RX2 38 "PlaneProof$Book" "axioms" "I" ∈ UU := uu_mem 177 (by decide +kernel) (by decide +kernel)
theorem u_224 : Cond.fieldLink RX7 15 "PlaneProof$Scribe" "size" "I" ∈ UU := uu_mem 224 (by decide +kernel) (by decide +kernel)
theorem u_225 : Cond.fieldLink RX11 283 "PlaneProof$Scribe" "size" "I" ∈ UU := uu_mem 225 (by decide +kernel) (by decide +kernel)
theorem u_298 : Cond.methodLink RX11 183 yX0_modelsWithout ∈ UU := uu_mem 298 (by decide +kernel) (by decide +kernel)
theorem u_299 : Cond.instanceMethod yX0_modelsWithout ∈ UU := uu_mem 299 (by decide +kernel) (by decide +kernel)
theorem u_300 : Cond.selects RX0 yX0_modelsWithout yX0_modelsWithout ∈ UU := uu_mem 300 (by decide +kernel) (by decide +kernel)
theorem u_303 : Cond.methodLink RX11 177 yJ13_bitCount_95d88 ∈ UU := uu_mem 303 (by decide +kernel) (by decide +kernel)
theorem u_304 : Cond.static yJ13_bitCount_95d88 ∈ UU := uu_mem 304 (by decide +kernel) (by decide +kernel)
theorem u_328 : Cond.code yX11_leastWidth cX11_leastWidth 2 (some .int) ∈ UU := uu_mem 328 (by decide +kernel) (by decide +kernel)
theorem u_329 : Cond.methodLink RX11 242 yX11_closureOf ∈ UU := uu_mem 329 (by decide +kernel) (by decide +kernel)
theorem u_331 : Cond.instanceMethod yX11_closureOf ∈ UU := uu_mem 331 (by decide +kernel) (by decide +kernel)
theorem u_332 : Cond.code yX11_closureOf cX11_closureOf 2 (some (.object "PlaneProof$Closure")) ∈ UU := uu_mem 332 (by decide +kernel) (by decide +kernel)
theorem u_333 : Cond.instantiable RX2 7 ∈ UU := uu_mem 333 (by decide +kernel) (by decide +kernel)
theorem u_334 : Cond.methodLink RX11 342 yX2_init ∈ UU := uu_mem 334 (by decide +kernel) (by decide +kernel)
theorem u_335 : Cond.instanceMethod yX2_init ∈ UU := uu_mem 335 (by decide +kernel) (by decide +kernel)
theorem u_341 : Cond.fieldLink RX2 29 "PlaneProof$Closure" "size" "I" ∈ UU := uu_mem 341 (by decide +kernel) (by decide +kernel)
theorem u_342 : Cond.fieldLink RX11 246 "PlaneProof$Closure" "size" "I" ∈ UU := uu_mem 342 (by decide +kernel) (by decide +kernel)
theorem u_343 : Cond.fieldLink RX2 32 "PlaneProof$Closure" "rounds" "I" ∈ UU := uu_mem 343 (by decide +kernel) (by decide +kernel)
theorem u_344 : Cond.fieldLink RX11 247 "PlaneProof$Closure" "rounds" "I" ∈ UU := uu_mem 344 (by decide +kernel) (by decide +kernel)
theorem u_345 : Cond.fieldLink RX2 35 "PlaneProof$Closure" "emptyRound" "I" ∈ UU := uu_mem 345 (by decide +kernel) (by decide +kernel)
theorem u_346 : Cond.fieldLink RX11 250 "PlaneProof$Closure" "emptyRound" "I" ∈ UU := uu_mem 346 (by decide +kernel) (by decide +kernel)
theorem u_347 : Cond.fieldLink RX2 64 "PlaneProof$Closure" "isBuilt" "Z" ∈ UU := uu_mem 347 (by decide +kernel) (by decide +kernel)
theorem u_348 : Cond.fieldLink RX11 322 "PlaneProof$Closure" "isBuilt" "Z" ∈ UU := uu_mem 348 (by decide +kernel) (by decide +kernel)
theorem u_365 : Cond.methodLink RX11 344 yX2_build ∈ UU := uu_mem 365 (by decide +kernel) (by decide +kernel)
theorem u_366 : Cond.instanceMethod yX2_build ∈ UU := uu_mem 366 (by decide +kernel) (by decide +kernel)
theorem u_367 : Cond.selects RX2 yX2_build yX2_build ∈ UU := uu_mem 367 (by decide +kernel) (by decide +kernel)
theorem u_368 : Cond.code yX2_build cX2_build 4 none ∈ UU := uu_mem 368 (by decide +kernel) (by decide +kernel)
theorem u_369 : Cond.methodLink RX2 23 yJ7_fill_d0a16 ∈ UU := uu_mem 369 (by decide +kernel) (by decide +kernel)
theorem u_370 : Cond.static yJ7_fill_d0a16 ∈ UU := uu_mem 370 (by decide +kernel) (by decide +kernel)
theorem u_378 : Cond.instanceMethod yX2_isThere ∈ UU := uu_mem 378 (by decide +kernel) (by decide +kernel)
theorem u_379 : Cond.selects RX2 yX2_isThere yX2_isThere ∈ UU := uu_mem 379 (by decide +kernel) (by decide +kernel)
theorem u_380 : Cond.code yX2_isThere cX2_isThere 3 (some .boolean) ∈ UU := uu_mem 380 (by decide +kernel) (by decide +kernel)
theorem u_381 : Cond.methodLink RX2 61 yX2_goRounds ∈ UU := uu_mem 381 (by decide +kernel) (by decide +kernel)
theorem u_383 : Cond.instanceMethod yX2_goRounds ∈ UU := uu_mem 383 (by decide +kernel) (by decide +kernel)
theorem u_384 : Cond.code yX2_goRounds cX2_goRounds 7 none ∈ UU := uu_mem 384 (by decide +kernel) (by decide +kernel)
theorem u_401 : Cond.code yX11_pebbles cX11_pebbles 2 (some .int) ∈ UU := uu_mem 401 (by decide +kernel) (by decide +kernel)
theorem u_402 : Cond.methodLink RX11 276 yX4_fewestMoves ∈ UU := uu_mem 402 (by decide +kernel) (by decide +kernel)
theorem u_403 : Cond.instanceMethod yX4_fewestMoves ∈ UU := uu_mem 403 (by decide +kernel) (by decide +kernel)
theorem u_404 : Cond.selects RX4 yX4_fewestMoves yX4_fewestMoves ∈ UU := uu_mem 404 (by decide +kernel) (by decide +kernel)
theorem u_405 : Cond.code yX4_fewestMoves cX4_fewestMoves 7 (some .int) ∈ UU := uu_mem 405 (by decide +kernel) (by decide +kernel)
theorem u_427 : Cond.code yX11_octet cX11_octet 2 (some .int) ∈ UU := uu_mem 427 (by decide +kernel) (by decide +kernel)
theorem u_428 : Cond.methodLink RX11 294 yX7_byteAt ∈ UU := uu_mem 428 (by decide +kernel) (by decide +kernel)
theorem u_429 : Cond.instanceMethod yX7_byteAt ∈ UU := uu_mem 429 (by decide +kernel) (by decide +kernel)
theorem u_430 : Cond.selects RX7 yX7_byteAt yX7_byteAt ∈ UU := uu_mem 430 (by decide +kernel) (by decide +kernel)
theorem u_431 : Cond.code yX7_byteAt cX7_byteAt 2 (some .int) ∈ UU := uu_mem 431 (by decide +kernel) (by decide +kernel)
theorem u_435 : Cond.code yX11_core cX11_core 2 (some .int) ∈ UU := uu_mem 435 (by decide +kernel) (by decide +kernel)
theorem u_436 : Cond.methodLink RX11 304 yX0_leastCore ∈ UU := uu_mem 436 (by decide +kernel) (by decide +kernel)
theorem u_437 : Cond.instanceMethod yX0_leastCore ∈ UU := uu_mem 437 (by decide +kernel) (by decide +kernel)
theorem u_438 : Cond.selects RX0 yX0_leastCore yX0_leastCore ∈ UU := uu_mem 438 (by decide +kernel) (by decide +kernel)
theorem u_452 : Cond.code yX11_pure cX11_pure 5 (some .int) ∈ UU := uu_mem 452 (by decide +kernel) (by decide +kernel)
theorem u_457 : Cond.code yX11_count cX11_count 2 (some .int) ∈ UU := uu_mem 457 (by decide +kernel) (by decide +kernel)
theorem u_458 : Cond.methodLink RX11 313 yX0_planeCount ∈ UU := uu_mem 458 (by decide +kernel) (by decide +kernel)
theorem u_459 : Cond.instanceMethod yX0_planeCount ∈ UU := uu_mem 459 (by decide +kernel) (by decide +kernel)
theorem u_460 : Cond.selects RX0 yX0_planeCount yX0_planeCount ∈ UU := uu_mem 460 (by decide +kernel) (by decide +kernel)
theorem u_462 : Cond.methodLink RX11 316 yX0_madeBy ∈ UU := uu_mem 462 (by decide +kernel) (by decide +kernel)
theorem u_463 : Cond.instanceMethod yX0_madeBy ∈ UU := uu_mem 463 (by decide +kernel) (by decide +kernel)
theorem u_464 : Cond.selects RX0 yX0_madeBy yX0_madeBy ∈ UU := uu_mem 464 (by decide +kernel) (by decide +kernel)
theorem u_466 : Cond.methodLink RX11 319 yX0_unusedSteps ∈ UU := uu_mem 466 (by decide +kernel) (by decide +kernel)
theorem u_467 : Cond.instanceMethod yX0_unusedSteps ∈ UU := uu_mem 467 (by decide +kernel) (by decide +kernel)
theorem u_468 : Cond.selects RX0 yX0_unusedSteps yX0_unusedSteps ∈ UU := uu_mem 468 (by decide +kernel) (by decide +kernel)
theorem u_1286 : Cond.code yX11_within cX11_within 4 (some .int) ∈ UU := uu_mem 1286 (by decide +kernel) (by decide +kernel)
theorem u_1287 : Cond.methodLink RX11 239 yX11_checkWidth ∈ UU := uu_mem 1287 (by decide +kernel) (by decide +kernel)
theorem u_1288 : Cond.static yX11_checkWidth ∈ UU := uu_mem 1288 (by decide +kernel) (by decide +kernel)
theorem u_1297 : Cond.code yX11_has cX11_has 4 (some .boolean) ∈ UU := uu_mem 1297 (by decide +kernel) (by decide +kernel)
theorem u_1298 : Cond.methodLink RX11 253 yX2_isThere ∈ UU := uu_mem 1298 (by decide +kernel) (by decide +kernel)
theorem u_1314 : Cond.code yX11_pebbled cX11_pebbled 2 (some .int) ∈ UU := uu_mem 1314 (by decide +kernel) (by decide +kernel)
theorem u_1498 : Cond.code yX11_stands cX11_stands 7 (some .int) ∈ UU := uu_mem 1498 (by decide +kernel) (by decide +kernel)
theorem df_X2 : ∀ j, j < 7 → defaultValue (tyX2 j) = vp_V [.int 0, .null, .null, .int 0, .int 0, .int 0, .int 0] j := by decide +kernel
theorem m_J13_bitCount_95d88 : mS yJ13_bitCount_95d88 cJ13_bitCount_95d88 2 (some .int) 1 := ⟨u_305, u_304, u_146, ⟨by decide, by decide, by decide +kernel⟩⟩
theorem m_J7_fill_d0a16 : mS yJ7_fill_d0a16 cJ7_fill_d0a16 5 none 2 := ⟨u_371, u_370, u_149, ⟨by decide, by decide, by decide +kernel⟩⟩
theorem m_X0_leastCore : mV yX0_leastCore cX0_leastCore 1 (some .int) 0 := ⟨u_439, u_437, u_438, u_124, ⟨by decide, by decide, by decide +kernel⟩⟩
theorem m_X0_madeBy : mV yX0_madeBy cX0_madeBy 4 (some .int) 1 := ⟨u_465, u_463, u_464, u_124, ⟨by decide, by decide, by decide +kernel⟩⟩
theorem m_X0_modelsWithout : mV yX0_modelsWithout cX0_modelsWithout 5 (some .long) 1 := ⟨u_301, u_299, u_300, u_124, ⟨by decide, by decide, by decide +kernel⟩⟩
theorem m_X0_planeCount : mV yX0_planeCount cX0_planeCount 3 (some .int) 0 := ⟨u_461, u_459, u_460, u_124, ⟨by decide, by decide, by decide +kernel⟩⟩
theorem m_X0_unusedSteps : mV yX0_unusedSteps cX0_unusedSteps 3 (some .int) 0 := ⟨u_469, u_467, u_468, u_124, ⟨by decide, by decide, by decide +kernel⟩⟩
theorem m_X11_checkWidth : mS yX11_checkWidth cX11_checkWidth 1 none 1 := ⟨u_1289, u_1288, u_123, ⟨by decide, by decide, by decide +kernel⟩⟩
theorem m_X11_closureOf : mV yX11_closureOf cX11_closureOf 2 (some (.object "PlaneProof$Closure")) 1 := ⟨u_332, u_331, u_1, u_123, ⟨by decide, by decide, by decide +kernel⟩⟩
theorem m_X2_build : mV yX2_build cX2_build 4 none 1 := ⟨u_368, u_366, u_367, u_148, ⟨by decide, by decide, by decide +kernel⟩⟩
theorem m_X2_goRounds : mV yX2_goRounds cX2_goRounds 7 none 0 := ⟨u_384, u_383, u_3, u_148, ⟨by decide, by decide, by decide +kernel⟩⟩
theorem m_X2_init : mI yX2_init cX2_init 2 1 := ⟨u_336, u_335, u_148, rfl, ⟨by decide, by decide, by decide +kernel⟩⟩
theorem m_X2_isThere : mV yX2_isThere cX2_isThere 3 (some .boolean) 2 := ⟨u_380, u_378, u_379, u_148, ⟨by decide, by decide, by decide +kernel⟩⟩
theorem m_X4_fewestMoves : mV yX4_fewestMoves cX4_fewestMoves 7 (some .int) 1 := ⟨u_405, u_403, u_404, u_125, ⟨by decide, by decide, by decide +kernel⟩⟩
theorem m_X7_byteAt : mV yX7_byteAt cX7_byteAt 2 (some .int) 1 := ⟨u_431, u_429, u_430, u_126, ⟨by decide, by decide, by decide +kernel⟩⟩
theorem dX11_closureOf_0 : decode cX11_closureOf 0 = .ok (.aload_n 0, 1) := by decide +kernel
theorem dX11_closureOf_1 : decode cX11_closureOf 1 = .ok (.getfield 40, 3) := by decide +kernel
theorem dX11_closureOf_4 : decode cX11_closureOf 4 = .ok (.iload_n 1, 1) := by decide +kernel
theorem dX11_closureOf_5 : decode cX11_closureOf 5 = .ok (.aaload, 1) := by decide +kernel
theorem dX11_closureOf_6 : decode cX11_closureOf 6 = .ok (.ifnonnull 17, 3) := by decide +kernel
theorem dX11_closureOf_9 : decode cX11_closureOf 9 = .ok (.aload_n 0, 1) := by decide +kernel
theorem dX11_closureOf_10 : decode cX11_closureOf 10 = .ok (.getfield 40, 3) := by decide +kernel
theorem dX11_closureOf_13 : decode cX11_closureOf 13 = .ok (.iload_n 1, 1) := by decide +kernel
theorem dX11_closureOf_14 : decode cX11_closureOf 14 = .ok (.new 38, 3) := by decide +kernel
theorem dX11_closureOf_17 : decode cX11_closureOf 17 = .ok (.dup, 1) := by decide +kernel
theorem dX11_closureOf_18 : decode cX11_closureOf 18 = .ok (.iload_n 1, 1) := by decide +kernel
theorem dX11_closureOf_19 : decode cX11_closureOf 19 = .ok (.invokespecial 342, 3) := by decide +kernel
theorem dX11_closureOf_22 : decode cX11_closureOf 22 = .ok (.aastore, 1) := by decide +kernel
theorem dX11_closureOf_23 : decode cX11_closureOf 23 = .ok (.aload_n 0, 1) := by decide +kernel
theorem dX11_closureOf_24 : decode cX11_closureOf 24 = .ok (.getfield 40, 3) := by decide +kernel
theorem dX11_closureOf_27 : decode cX11_closureOf 27 = .ok (.iload_n 1, 1) := by decide +kernel
theorem dX11_closureOf_28 : decode cX11_closureOf 28 = .ok (.aaload, 1) := by decide +kernel
theorem dX11_closureOf_29 : decode cX11_closureOf 29 = .ok (.getfield 322, 3) := by decide +kernel
theorem dX11_closureOf_32 : decode cX11_closureOf 32 = .ok (.ifCond .ne 16, 3) := by decide +kernel
theorem dX11_closureOf_35 : decode cX11_closureOf 35 = .ok (.aload_n 0, 1) := by decide +kernel
theorem dX11_closureOf_36 : decode cX11_closureOf 36 = .ok (.getfield 40, 3) := by decide +kernel
theorem dX11_closureOf_39 : decode cX11_closureOf 39 = .ok (.iload_n 1, 1) := by decide +kernel
theorem dX11_closureOf_40 : decode cX11_closureOf 40 = .ok (.aaload, 1) := by decide +kernel
theorem dX11_closureOf_41 : decode cX11_closureOf 41 = .ok (.aload_n 0, 1) := by decide +kernel
theorem dX11_closureOf_42 : decode cX11_closureOf 42 = .ok (.getfield 27, 3) := by decide +kernel
theorem dX11_closureOf_45 : decode cX11_closureOf 45 = .ok (.invokevirtual 344, 3) := by decide +kernel
theorem dX11_closureOf_48 : decode cX11_closureOf 48 = .ok (.aload_n 0, 1) := by decide +kernel
theorem dX11_closureOf_49 : decode cX11_closureOf 49 = .ok (.getfield 40, 3) := by decide +kernel
theorem dX11_closureOf_52 : decode cX11_closureOf 52 = .ok (.iload_n 1, 1) := by decide +kernel
theorem dX11_closureOf_53 : decode cX11_closureOf 53 = .ok (.aaload, 1) := by decide +kernel
theorem dX11_closureOf_54 : decode cX11_closureOf 54 = .ok (.areturn, 1) := by decide +kernel
theorem dX11_core_0 : decode cX11_core 0 = .ok (.aload_n 0, 1) := by decide +kernel
theorem dX11_core_1 : decode cX11_core 1 = .ok (.getfield 44, 3) := by decide +kernel
theorem dX11_core_4 : decode cX11_core 4 = .ok (.bipush (-2), 2) := by decide +kernel
theorem dX11_core_6 : decode cX11_core 6 = .ok (.if_icmp .ne 14, 3) := by decide +kernel
theorem dX11_core_9 : decode cX11_core 9 = .ok (.aload_n 0, 1) := by decide +kernel
theorem dX11_core_10 : decode cX11_core 10 = .ok (.aload_n 0, 1) := by decide +kernel
theorem dX11_core_11 : decode cX11_core 11 = .ok (.getfield 27, 3) := by decide +kernel
theorem dX11_core_14 : decode cX11_core 14 = .ok (.invokevirtual 304, 3) := by decide +kernel
theorem dX11_core_17 : decode cX11_core 17 = .ok (.putfield 44, 3) := by decide +kernel
theorem dX11_core_20 : decode cX11_core 20 = .ok (.aload_n 0, 1) := by decide +kernel
theorem dX11_core_21 : decode cX11_core 21 = .ok (.getfield 44, 3) := by decide +kernel
theorem dX11_core_24 : decode cX11_core 24 = .ok (.iconst (-1), 1) := by decide +kernel
theorem dX11_core_25 : decode cX11_core 25 = .ok (.if_icmp .ne 5, 3) := by decide +kernel
theorem dX11_core_28 : decode cX11_core 28 = .ok (.iconst (-1), 1) := by decide +kernel
theorem dX11_core_29 : decode cX11_core 29 = .ok (.ireturn, 1) := by decide +kernel
theorem dX11_count_0 : decode cX11_count 0 = .ok (.iload_n 1, 1) := by decide +kernel
theorem dX11_count_1 : decode cX11_count 1 = .ok (.tableswitch 166 0 10 #[59, 67, 75, 91, 99, 108, 118, 128, 138, 146, 158], 59) := by decide +kernel
theorem dX11_count_60 : decode cX11_count 60 = .ok (.aload_n 0, 1) := by decide +kernel
theorem dX11_count_61 : decode cX11_count 61 = .ok (.getfield 27, 3) := by decide +kernel
theorem dX11_count_64 : decode cX11_count 64 = .ok (.getfield 102, 3) := by decide +kernel
theorem dX11_count_67 : decode cX11_count 67 = .ok (.ireturn, 1) := by decide +kernel
theorem dX11_count_68 : decode cX11_count 68 = .ok (.aload_n 0, 1) := by decide +kernel
theorem dX11_count_69 : decode cX11_count 69 = .ok (.getfield 27, 3) := by decide +kernel
theorem dX11_count_72 : decode cX11_count 72 = .ok (.getfield 116, 3) := by decide +kernel
theorem dX11_count_75 : decode cX11_count 75 = .ok (.ireturn, 1) := by decide +kernel
theorem dX11_count_76 : decode cX11_count 76 = .ok (.aload_n 0, 1) := by decide +kernel
theorem dX11_count_77 : decode cX11_count 77 = .ok (.getfield 27, 3) := by decide +kernel
theorem dX11_count_80 : decode cX11_count 80 = .ok (.getfield 116, 3) := by decide +kernel
theorem dX11_count_83 : decode cX11_count 83 = .ok (.aload_n 0, 1) := by decide +kernel
theorem dX11_count_84 : decode cX11_count 84 = .ok (.getfield 27, 3) := by decide +kernel
theorem dX11_count_87 : decode cX11_count 87 = .ok (.invokevirtual 313, 3) := by decide +kernel
theorem dX11_count_90 : decode cX11_count 90 = .ok (.isub, 1) := by decide +kernel
theorem dX11_count_91 : decode cX11_count 91 = .ok (.ireturn, 1) := by decide +kernel
theorem dX11_count_92 : decode cX11_count 92 = .ok (.aload_n 0, 1) := by decide +kernel
theorem dX11_count_93 : decode cX11_count 93 = .ok (.getfield 27, 3) := by decide +kernel
theorem dX11_count_96 : decode cX11_count 96 = .ok (.invokevirtual 313, 3) := by decide +kernel
theorem dX11_count_99 : decode cX11_count 99 = .ok (.ireturn, 1) := by decide +kernel
theorem dX11_count_100 : decode cX11_count 100 = .ok (.aload_n 0, 1) := by decide +kernel
theorem dX11_count_101 : decode cX11_count 101 = .ok (.getfield 27, 3) := by decide +kernel
theorem dX11_count_104 : decode cX11_count 104 = .ok (.iconst 1, 1) := by decide +kernel
theorem dX11_count_105 : decode cX11_count 105 = .ok (.invokevirtual 316, 3) := by decide +kernel
theorem dX11_count_108 : decode cX11_count 108 = .ok (.ireturn, 1) := by decide +kernel
theorem dX11_count_109 : decode cX11_count 109 = .ok (.aload_n 0, 1) := by decide +kernel
theorem dX11_count_110 : decode cX11_count 110 = .ok (.getfield 27, 3) := by decide +kernel
theorem dX11_count_113 : decode cX11_count 113 = .ok (.bipush 6, 2) := by decide +kernel
theorem dX11_count_115 : decode cX11_count 115 = .ok (.invokevirtual 316, 3) := by decide +kernel
theorem dX11_count_118 : decode cX11_count 118 = .ok (.ireturn, 1) := by decide +kernel
theorem dX11_count_119 : decode cX11_count 119 = .ok (.aload_n 0, 1) := by decide +kernel
theorem dX11_count_120 : decode cX11_count 120 = .ok (.getfield 27, 3) := by decide +kernel
theorem dX11_count_123 : decode cX11_count 123 = .ok (.bipush 8, 2) := by decide +kernel
theorem dX11_count_125 : decode cX11_count 125 = .ok (.invokevirtual 316, 3) := by decide +kernel
theorem dX11_count_128 : decode cX11_count 128 = .ok (.ireturn, 1) := by decide +kernel
theorem dX11_count_129 : decode cX11_count 129 = .ok (.aload_n 0, 1) := by decide +kernel
theorem dX11_count_130 : decode cX11_count 130 = .ok (.getfield 27, 3) := by decide +kernel
theorem dX11_count_133 : decode cX11_count 133 = .ok (.bipush 9, 2) := by decide +kernel
theorem dX11_count_135 : decode cX11_count 135 = .ok (.invokevirtual 316, 3) := by decide +kernel
theorem dX11_count_138 : decode cX11_count 138 = .ok (.ireturn, 1) := by decide +kernel
theorem dX11_count_139 : decode cX11_count 139 = .ok (.aload_n 0, 1) := by decide +kernel
theorem dX11_count_140 : decode cX11_count 140 = .ok (.getfield 50, 3) := by decide +kernel
theorem dX11_count_143 : decode cX11_count 143 = .ok (.getfield 283, 3) := by decide +kernel
theorem dX11_count_146 : decode cX11_count 146 = .ok (.ireturn, 1) := by decide +kernel
theorem dX11_count_147 : decode cX11_count 147 = .ok (.aload_n 0, 1) := by decide +kernel
theorem dX11_count_148 : decode cX11_count 148 = .ok (.getfield 27, 3) := by decide +kernel
theorem dX11_count_151 : decode cX11_count 151 = .ok (.iconst (-1), 1) := by decide +kernel
theorem dX11_count_152 : decode cX11_count 152 = .ok (.invokevirtual 183, 3) := by decide +kernel
theorem dX11_count_155 : decode cX11_count 155 = .ok (.invokestatic 177, 3) := by decide +kernel
theorem dX11_count_158 : decode cX11_count 158 = .ok (.ireturn, 1) := by decide +kernel
theorem dX11_count_159 : decode cX11_count 159 = .ok (.aload_n 0, 1) := by decide +kernel
theorem dX11_count_160 : decode cX11_count 160 = .ok (.getfield 27, 3) := by decide +kernel
theorem dX11_count_163 : decode cX11_count 163 = .ok (.invokevirtual 319, 3) := by decide +kernel
theorem dX11_count_166 : decode cX11_count 166 = .ok (.ireturn, 1) := by decide +kernel
theorem dX11_count_167 : decode cX11_count 167 = .ok (.iconst (-1), 1) := by decide +kernel
theorem dX11_count_168 : decode cX11_count 168 = .ok (.ireturn, 1) := by decide +kernel
theorem dX11_has_0 : decode cX11_has 0 = .ok (.iload_n 1, 1) := by decide +kernel
theorem dX11_has_1 : decode cX11_has 1 = .ok (.invokestatic 239, 3) := by decide +kernel
theorem dX11_has_4 : decode cX11_has 4 = .ok (.iload_n 2, 1) := by decide +kernel
theorem dX11_has_5 : decode cX11_has 5 = .ok (.iload_n 3, 1) := by decide +kernel
theorem dX11_has_6 : decode cX11_has 6 = .ok (.invokestatic 218, 3) := by decide +kernel
theorem dX11_has_9 : decode cX11_has 9 = .ok (.aload_n 0, 1) := by decide +kernel
theorem dX11_has_10 : decode cX11_has 10 = .ok (.iload_n 1, 1) := by decide +kernel
theorem dX11_has_11 : decode cX11_has 11 = .ok (.invokevirtual 242, 3) := by decide +kernel
theorem dX11_has_14 : decode cX11_has 14 = .ok (.iload_n 2, 1) := by decide +kernel
theorem dX11_has_15 : decode cX11_has 15 = .ok (.iload_n 3, 1) := by decide +kernel
theorem dX11_has_16 : decode cX11_has 16 = .ok (.invokevirtual 253, 3) := by decide +kernel
theorem dX11_has_19 : decode cX11_has 19 = .ok (.ireturn, 1) := by decide +kernel
theorem dX11_leastWidth_0 : decode cX11_leastWidth 0 = .ok (.iconst 0, 1) := by decide +kernel
theorem dX11_leastWidth_1 : decode cX11_leastWidth 1 = .ok (.istore_n 1, 1) := by decide +kernel
theorem dX11_leastWidth_2 : decode cX11_leastWidth 2 = .ok (.iload_n 1, 1) := by decide +kernel
theorem dX11_leastWidth_3 : decode cX11_leastWidth 3 = .ok (.bipush 6, 2) := by decide +kernel
theorem dX11_leastWidth_5 : decode cX11_leastWidth 5 = .ok (.if_icmp .gt 23, 3) := by decide +kernel
theorem dX11_leastWidth_8 : decode cX11_leastWidth 8 = .ok (.aload_n 0, 1) := by decide +kernel
theorem dX11_leastWidth_9 : decode cX11_leastWidth 9 = .ok (.iload_n 1, 1) := by decide +kernel
theorem dX11_leastWidth_10 : decode cX11_leastWidth 10 = .ok (.invokevirtual 242, 3) := by decide +kernel
theorem dX11_leastWidth_13 : decode cX11_leastWidth 13 = .ok (.getfield 250, 3) := by decide +kernel
theorem dX11_leastWidth_16 : decode cX11_leastWidth 16 = .ok (.iconst (-1), 1) := by decide +kernel
theorem dX11_leastWidth_17 : decode cX11_leastWidth 17 = .ok (.if_icmp .eq 5, 3) := by decide +kernel
theorem dX11_leastWidth_22 : decode cX11_leastWidth 22 = .ok (.iinc 1 1, 3) := by decide +kernel
theorem dX11_leastWidth_25 : decode cX11_leastWidth 25 = .ok (.goto (-23), 3) := by decide +kernel
theorem dX11_leastWidth_28 : decode cX11_leastWidth 28 = .ok (.iconst (-1), 1) := by decide +kernel
theorem dX11_leastWidth_29 : decode cX11_leastWidth 29 = .ok (.ireturn, 1) := by decide +kernel
theorem dX11_octet_0 : decode cX11_octet 0 = .ok (.aload_n 0, 1) := by decide +kernel
theorem dX11_octet_1 : decode cX11_octet 1 = .ok (.getfield 50, 3) := by decide +kernel
theorem dX11_octet_4 : decode cX11_octet 4 = .ok (.iload_n 1, 1) := by decide +kernel
theorem dX11_octet_5 : decode cX11_octet 5 = .ok (.invokevirtual 294, 3) := by decide +kernel
theorem dX11_octet_8 : decode cX11_octet 8 = .ok (.ireturn, 1) := by decide +kernel
theorem dX11_pebbled_0 : decode cX11_pebbled 0 = .ok (.iload_n 1, 1) := by decide +kernel
theorem dX11_pebbled_1 : decode cX11_pebbled 1 = .ok (.ifCond .lt 9, 3) := by decide +kernel
theorem dX11_pebbled_4 : decode cX11_pebbled 4 = .ok (.iload_n 1, 1) := by decide +kernel
theorem dX11_pebbled_5 : decode cX11_pebbled 5 = .ok (.bipush 6, 2) := by decide +kernel
theorem dX11_pebbled_7 : decode cX11_pebbled 7 = .ok (.if_icmp .le 14, 3) := by decide +kernel
theorem dX11_pebbled_10 : decode cX11_pebbled 10 = .ok (.new 84, 3) := by decide +kernel
theorem dX11_pebbled_13 : decode cX11_pebbled 13 = .ok (.dup, 1) := by decide +kernel
theorem dX11_pebbled_14 : decode cX11_pebbled 14 = .ok (.ldc_w 274, 3) := by decide +kernel
theorem dX11_pebbled_17 : decode cX11_pebbled 17 = .ok (.invokespecial 88, 3) := by decide +kernel
theorem dX11_pebbled_20 : decode cX11_pebbled 20 = .ok (.athrow, 1) := by decide +kernel
theorem dX11_pebbled_21 : decode cX11_pebbled 21 = .ok (.aload_n 0, 1) := by decide +kernel
theorem dX11_pebbled_22 : decode cX11_pebbled 22 = .ok (.getfield 34, 3) := by decide +kernel
theorem dX11_pebbled_25 : decode cX11_pebbled 25 = .ok (.iload_n 1, 1) := by decide +kernel
theorem dX11_pebbled_26 : decode cX11_pebbled 26 = .ok (.invokevirtual 276, 3) := by decide +kernel
theorem dX11_pebbled_29 : decode cX11_pebbled 29 = .ok (.ireturn, 1) := by decide +kernel
theorem dX11_pebbles_0 : decode cX11_pebbles 0 = .ok (.iconst 0, 1) := by decide +kernel
theorem dX11_pebbles_1 : decode cX11_pebbles 1 = .ok (.istore_n 1, 1) := by decide +kernel
theorem dX11_pebbles_2 : decode cX11_pebbles 2 = .ok (.iload_n 1, 1) := by decide +kernel
theorem dX11_pebbles_3 : decode cX11_pebbles 3 = .ok (.bipush 6, 2) := by decide +kernel
theorem dX11_pebbles_5 : decode cX11_pebbles 5 = .ok (.if_icmp .gt 23, 3) := by decide +kernel
theorem dX11_pebbles_8 : decode cX11_pebbles 8 = .ok (.aload_n 0, 1) := by decide +kernel
theorem dX11_pebbles_9 : decode cX11_pebbles 9 = .ok (.getfield 34, 3) := by decide +kernel
theorem dX11_pebbles_12 : decode cX11_pebbles 12 = .ok (.iload_n 1, 1) := by decide +kernel
theorem dX11_pebbles_13 : decode cX11_pebbles 13 = .ok (.invokevirtual 276, 3) := by decide +kernel
theorem dX11_pebbles_16 : decode cX11_pebbles 16 = .ok (.iconst (-1), 1) := by decide +kernel
theorem dX11_pebbles_17 : decode cX11_pebbles 17 = .ok (.if_icmp .eq 5, 3) := by decide +kernel
theorem dX11_pebbles_22 : decode cX11_pebbles 22 = .ok (.iinc 1 1, 3) := by decide +kernel
theorem dX11_pebbles_25 : decode cX11_pebbles 25 = .ok (.goto (-23), 3) := by decide +kernel
theorem dX11_pebbles_28 : decode cX11_pebbles 28 = .ok (.iconst (-1), 1) := by decide +kernel
theorem dX11_pebbles_29 : decode cX11_pebbles 29 = .ok (.ireturn, 1) := by decide +kernel
theorem dX11_pure_0 : decode cX11_pure 0 = .ok (.iconst 0, 1) := by decide +kernel
theorem dX11_pure_1 : decode cX11_pure 1 = .ok (.istore_n 2, 1) := by decide +kernel
theorem dX11_pure_2 : decode cX11_pure 2 = .ok (.iconst 0, 1) := by decide +kernel
theorem dX11_pure_3 : decode cX11_pure 3 = .ok (.istore_n 3, 1) := by decide +kernel
theorem dX11_pure_4 : decode cX11_pure 4 = .ok (.iconst 0, 1) := by decide +kernel
theorem dX11_pure_5 : decode cX11_pure 5 = .ok (.istore 4, 2) := by decide +kernel
theorem dX11_pure_7 : decode cX11_pure 7 = .ok (.iload 4, 2) := by decide +kernel
theorem dX11_pure_9 : decode cX11_pure 9 = .ok (.aload_n 0, 1) := by decide +kernel
theorem dX11_pure_10 : decode cX11_pure 10 = .ok (.getfield 27, 3) := by decide +kernel
theorem dX11_pure_13 : decode cX11_pure 13 = .ok (.getfield 102, 3) := by decide +kernel
theorem dX11_pure_16 : decode cX11_pure 16 = .ok (.if_icmp .ge 51, 3) := by decide +kernel
theorem dX11_pure_67 : decode cX11_pure 67 = .ok (.iload_n 2, 1) := by decide +kernel
theorem dX11_pure_68 : decode cX11_pure 68 = .ok (.iload_n 3, 1) := by decide +kernel
theorem dX11_pure_69 : decode cX11_pure 69 = .ok (.iconst (-1), 1) := by decide +kernel
theorem dX11_pure_70 : decode cX11_pure 70 = .ok (.ixor, 1) := by decide +kernel
theorem dX11_pure_71 : decode cX11_pure 71 = .ok (.iand, 1) := by decide +kernel
theorem dX11_pure_72 : decode cX11_pure 72 = .ok (.ireturn, 1) := by decide +kernel
theorem dX11_stands_0 : decode cX11_stands 0 = .ok (.iload_n 1, 1) := by decide +kernel
theorem dX11_stands_1 : decode cX11_stands 1 = .ok (.ifCond .lt 9, 3) := by decide +kernel
theorem dX11_stands_4 : decode cX11_stands 4 = .ok (.iload_n 1, 1) := by decide +kernel
theorem dX11_stands_5 : decode cX11_stands 5 = .ok (.bipush 6, 2) := by decide +kernel
theorem dX11_stands_7 : decode cX11_stands 7 = .ok (.if_icmp .lt 13, 3) := by decide +kernel
theorem dX11_stands_10 : decode cX11_stands 10 = .ok (.new 152, 3) := by decide +kernel
theorem dX11_stands_13 : decode cX11_stands 13 = .ok (.dup, 1) := by decide +kernel
theorem dX11_stands_14 : decode cX11_stands 14 = .ok (.ldc 154, 2) := by decide +kernel
theorem dX11_stands_16 : decode cX11_stands 16 = .ok (.invokespecial 156, 3) := by decide +kernel
theorem dX11_stands_19 : decode cX11_stands 19 = .ok (.athrow, 1) := by decide +kernel
theorem dX11_stands_20 : decode cX11_stands 20 = .ok (.iload_n 2, 1) := by decide +kernel
theorem dX11_stands_21 : decode cX11_stands 21 = .ok (.ifCond .eq 13, 3) := by decide +kernel
theorem dX11_stands_24 : decode cX11_stands 24 = .ok (.aload_n 0, 1) := by decide +kernel
theorem dX11_stands_25 : decode cX11_stands 25 = .ok (.getfield 27, 3) := by decide +kernel
theorem dX11_stands_28 : decode cX11_stands 28 = .ok (.getfield 102, 3) := by decide +kernel
theorem dX11_stands_31 : decode cX11_stands 31 = .ok (.goto 4, 3) := by decide +kernel
theorem dX11_stands_34 : decode cX11_stands 34 = .ok (.iconst 0, 1) := by decide +kernel
theorem dX11_stands_35 : decode cX11_stands 35 = .ok (.istore_n 3, 1) := by decide +kernel
theorem dX11_stands_36 : decode cX11_stands 36 = .ok (.iload_n 2, 1) := by decide +kernel
theorem dX11_stands_37 : decode cX11_stands 37 = .ok (.ifCond .eq 13, 3) := by decide +kernel
theorem dX11_stands_40 : decode cX11_stands 40 = .ok (.aload_n 0, 1) := by decide +kernel
theorem dX11_stands_41 : decode cX11_stands 41 = .ok (.getfield 27, 3) := by decide +kernel
theorem dX11_stands_44 : decode cX11_stands 44 = .ok (.getfield 116, 3) := by decide +kernel
theorem dX11_stands_47 : decode cX11_stands 47 = .ok (.goto 10, 3) := by decide +kernel
theorem dX11_stands_50 : decode cX11_stands 50 = .ok (.aload_n 0, 1) := by decide +kernel
theorem dX11_stands_51 : decode cX11_stands 51 = .ok (.getfield 27, 3) := by decide +kernel
theorem dX11_stands_54 : decode cX11_stands 54 = .ok (.getfield 102, 3) := by decide +kernel
theorem dX11_stands_57 : decode cX11_stands 57 = .ok (.istore 4, 2) := by decide +kernel
theorem dX11_stands_59 : decode cX11_stands 59 = .ok (.iconst 0, 1) := by decide +kernel
theorem dX11_stands_60 : decode cX11_stands 60 = .ok (.istore 5, 2) := by decide +kernel
theorem dX11_stands_62 : decode cX11_stands 62 = .ok (.iload_n 3, 1) := by decide +kernel
theorem dX11_stands_63 : decode cX11_stands 63 = .ok (.istore 6, 2) := by decide +kernel
theorem dX11_stands_65 : decode cX11_stands 65 = .ok (.iload 6, 2) := by decide +kernel
theorem dX11_stands_67 : decode cX11_stands 67 = .ok (.iload 4, 2) := by decide +kernel
theorem dX11_stands_69 : decode cX11_stands 69 = .ok (.if_icmp .ge 30, 3) := by decide +kernel
theorem dX11_stands_99 : decode cX11_stands 99 = .ok (.iload 5, 2) := by decide +kernel
theorem dX11_stands_101 : decode cX11_stands 101 = .ok (.ireturn, 1) := by decide +kernel
theorem dX11_within_0 : decode cX11_within 0 = .ok (.iload_n 1, 1) := by decide +kernel
theorem dX11_within_1 : decode cX11_within 1 = .ok (.invokestatic 239, 3) := by decide +kernel
theorem dX11_within_4 : decode cX11_within 4 = .ok (.iload_n 2, 1) := by decide +kernel
theorem dX11_within_5 : decode cX11_within 5 = .ok (.ifCond .lt 8, 3) := by decide +kernel
theorem dX11_within_8 : decode cX11_within 8 = .ok (.iload_n 2, 1) := by decide +kernel
theorem dX11_within_9 : decode cX11_within 9 = .ok (.iconst 2, 1) := by decide +kernel
theorem dX11_within_10 : decode cX11_within 10 = .ok (.if_icmp .le 13, 3) := by decide +kernel
theorem dX11_within_13 : decode cX11_within 13 = .ok (.new 141, 3) := by decide +kernel
theorem dX11_within_16 : decode cX11_within 16 = .ok (.dup, 1) := by decide +kernel
theorem dX11_within_17 : decode cX11_within 17 = .ok (.ldc 143, 2) := by decide +kernel
theorem dX11_within_19 : decode cX11_within 19 = .ok (.invokespecial 145, 3) := by decide +kernel
theorem dX11_within_22 : decode cX11_within 22 = .ok (.athrow, 1) := by decide +kernel
theorem dX11_within_23 : decode cX11_within 23 = .ok (.aload_n 0, 1) := by decide +kernel
theorem dX11_within_24 : decode cX11_within 24 = .ok (.iload_n 1, 1) := by decide +kernel
theorem dX11_within_25 : decode cX11_within 25 = .ok (.invokevirtual 242, 3) := by decide +kernel
theorem dX11_within_28 : decode cX11_within 28 = .ok (.astore_n 3, 1) := by decide +kernel
theorem dX11_within_29 : decode cX11_within 29 = .ok (.iload_n 2, 1) := by decide +kernel
theorem dX11_within_30 : decode cX11_within 30 = .ok (.lookupswitch 36 #[(0, 26), (1, 31)], 26) := by decide +kernel
theorem dX11_within_56 : decode cX11_within 56 = .ok (.aload_n 3, 1) := by decide +kernel
theorem dX11_within_57 : decode cX11_within 57 = .ok (.getfield 246, 3) := by decide +kernel
theorem dX11_within_60 : decode cX11_within 60 = .ok (.ireturn, 1) := by decide +kernel
theorem dX11_within_61 : decode cX11_within 61 = .ok (.aload_n 3, 1) := by decide +kernel
theorem dX11_within_62 : decode cX11_within 62 = .ok (.getfield 247, 3) := by decide +kernel
theorem dX11_within_65 : decode cX11_within 65 = .ok (.ireturn, 1) := by decide +kernel
theorem dX11_within_66 : decode cX11_within 66 = .ok (.aload_n 3, 1) := by decide +kernel
theorem dX11_within_67 : decode cX11_within 67 = .ok (.getfield 250, 3) := by decide +kernel
theorem dX11_within_70 : decode cX11_within 70 = .ok (.ireturn, 1) := by decide +kernel
theorem dX2_build_0 : decode cX2_build 0 = .ok (.aload_n 0, 1) := by decide +kernel
theorem dX2_build_1 : decode cX2_build 1 = .ok (.getfield 15, 3) := by decide +kernel
theorem dX2_build_4 : decode cX2_build 4 = .ok (.lconst 0, 1) := by decide +kernel
theorem dX2_build_5 : decode cX2_build 5 = .ok (.invokestatic 23, 3) := by decide +kernel
theorem dX2_build_8 : decode cX2_build 8 = .ok (.aload_n 0, 1) := by decide +kernel
theorem dX2_build_9 : decode cX2_build 9 = .ok (.iconst 0, 1) := by decide +kernel
theorem dX2_build_10 : decode cX2_build 10 = .ok (.putfield 29, 3) := by decide +kernel
theorem dX2_build_13 : decode cX2_build 13 = .ok (.aload_n 0, 1) := by decide +kernel
theorem dX2_build_14 : decode cX2_build 14 = .ok (.iconst 0, 1) := by decide +kernel
theorem dX2_build_15 : decode cX2_build 15 = .ok (.putfield 32, 3) := by decide +kernel
theorem dX2_build_18 : decode cX2_build 18 = .ok (.aload_n 0, 1) := by decide +kernel
theorem dX2_build_19 : decode cX2_build 19 = .ok (.iconst (-1), 1) := by decide +kernel
theorem dX2_build_20 : decode cX2_build 20 = .ok (.putfield 35, 3) := by decide +kernel
theorem dX2_build_23 : decode cX2_build 23 = .ok (.iconst 0, 1) := by decide +kernel
theorem dX2_build_24 : decode cX2_build 24 = .ok (.istore_n 2, 1) := by decide +kernel
theorem dX2_build_25 : decode cX2_build 25 = .ok (.iload_n 2, 1) := by decide +kernel
theorem dX2_build_26 : decode cX2_build 26 = .ok (.aload_n 1, 1) := by decide +kernel
theorem dX2_build_27 : decode cX2_build 27 = .ok (.getfield 38, 3) := by decide +kernel
theorem dX2_build_30 : decode cX2_build 30 = .ok (.if_icmp .ge 37, 3) := by decide +kernel
theorem dX2_build_67 : decode cX2_build 67 = .ok (.aload_n 0, 1) := by decide +kernel
theorem dX2_build_68 : decode cX2_build 68 = .ok (.invokevirtual 61, 3) := by decide +kernel
theorem dX2_build_71 : decode cX2_build 71 = .ok (.aload_n 0, 1) := by decide +kernel
theorem dX2_build_72 : decode cX2_build 72 = .ok (.iconst 1, 1) := by decide +kernel
theorem dX2_build_73 : decode cX2_build 73 = .ok (.putfield 64, 3) := by decide +kernel
theorem dX2_build_76 : decode cX2_build 76 = .ok (.return_, 1) := by decide +kernel
theorem dX2_goRounds_0 : decode cX2_goRounds 0 = .ok (.iconst 0, 1) := by decide +kernel
theorem dX2_goRounds_1 : decode cX2_goRounds 1 = .ok (.istore_n 1, 1) := by decide +kernel
theorem dX2_goRounds_2 : decode cX2_goRounds 2 = .ok (.iconst 1, 1) := by decide +kernel
theorem dX2_goRounds_3 : decode cX2_goRounds 3 = .ok (.istore_n 2, 1) := by decide +kernel
theorem dX2_goRounds_4 : decode cX2_goRounds 4 = .ok (.iload_n 2, 1) := by decide +kernel
theorem dX2_goRounds_5 : decode cX2_goRounds 5 = .ok (.sipush 729, 3) := by decide +kernel
theorem dX2_goRounds_8 : decode cX2_goRounds 8 = .ok (.if_icmp .gt 138, 3) := by decide +kernel
theorem dX2_goRounds_11 : decode cX2_goRounds 11 = .ok (.aload_n 0, 1) := by decide +kernel
theorem dX2_goRounds_12 : decode cX2_goRounds 12 = .ok (.getfield 29, 3) := by decide +kernel
theorem dX2_goRounds_15 : decode cX2_goRounds 15 = .ok (.istore_n 3, 1) := by decide +kernel
theorem dX2_goRounds_16 : decode cX2_goRounds 16 = .ok (.iload_n 1, 1) := by decide +kernel
theorem dX2_goRounds_17 : decode cX2_goRounds 17 = .ok (.istore 4, 2) := by decide +kernel
theorem dX2_goRounds_19 : decode cX2_goRounds 19 = .ok (.iload 4, 2) := by decide +kernel
theorem dX2_goRounds_21 : decode cX2_goRounds 21 = .ok (.iload_n 3, 1) := by decide +kernel
theorem dX2_goRounds_22 : decode cX2_goRounds 22 = .ok (.if_icmp .ge 80, 3) := by decide +kernel
theorem dX2_goRounds_102 : decode cX2_goRounds 102 = .ok (.aload_n 0, 1) := by decide +kernel
theorem dX2_goRounds_103 : decode cX2_goRounds 103 = .ok (.getfield 29, 3) := by decide +kernel
theorem dX2_goRounds_106 : decode cX2_goRounds 106 = .ok (.iload_n 3, 1) := by decide +kernel
theorem dX2_goRounds_107 : decode cX2_goRounds 107 = .ok (.if_icmp .ne 4, 3) := by decide +kernel
theorem dX2_goRounds_110 : decode cX2_goRounds 110 = .ok (.return_, 1) := by decide +kernel
theorem dX2_isThere_0 : decode cX2_isThere 0 = .ok (.aload_n 0, 1) := by decide +kernel
theorem dX2_isThere_1 : decode cX2_isThere 1 = .ok (.getfield 15, 3) := by decide +kernel
theorem dX2_isThere_4 : decode cX2_isThere 4 = .ok (.iload_n 1, 1) := by decide +kernel
theorem dX2_isThere_5 : decode cX2_isThere 5 = .ok (.bipush 63, 2) := by decide +kernel
theorem dX2_isThere_7 : decode cX2_isThere 7 = .ok (.iand, 1) := by decide +kernel
theorem dX2_isThere_8 : decode cX2_isThere 8 = .ok (.laload, 1) := by decide +kernel
theorem dX2_isThere_9 : decode cX2_isThere 9 = .ok (.iload_n 2, 1) := by decide +kernel
theorem dX2_isThere_10 : decode cX2_isThere 10 = .ok (.lushr, 1) := by decide +kernel
theorem dX2_isThere_11 : decode cX2_isThere 11 = .ok (.lconst 1, 1) := by decide +kernel
theorem dX2_isThere_12 : decode cX2_isThere 12 = .ok (.land, 1) := by decide +kernel
theorem dX2_isThere_13 : decode cX2_isThere 13 = .ok (.lconst 0, 1) := by decide +kernel
theorem dX2_isThere_14 : decode cX2_isThere 14 = .ok (.lcmp, 1) := by decide +kernel
theorem dX2_isThere_15 : decode cX2_isThere 15 = .ok (.ifCond .eq 7, 3) := by decide +kernel
theorem dX2_isThere_22 : decode cX2_isThere 22 = .ok (.iconst 0, 1) := by decide +kernel
theorem dX2_isThere_23 : decode cX2_isThere 23 = .ok (.ireturn, 1) := by decide +kernel
theorem dX4_fewestMoves_0 : decode cX4_fewestMoves 0 = .ok (.aload_n 0, 1) := by decide +kernel
theorem dX4_fewestMoves_1 : decode cX4_fewestMoves 1 = .ok (.getfield 9, 3) := by decide +kernel
theorem dX4_fewestMoves_4 : decode cX4_fewestMoves 4 = .ok (.iconst (-1), 1) := by decide +kernel
theorem dX4_fewestMoves_5 : decode cX4_fewestMoves 5 = .ok (.if_icmp .ne 5, 3) := by decide +kernel
theorem dX4_fewestMoves_8 : decode cX4_fewestMoves 8 = .ok (.iconst (-1), 1) := by decide +kernel
theorem dX4_fewestMoves_9 : decode cX4_fewestMoves 9 = .ok (.ireturn, 1) := by decide +kernel
theorem dX7_byteAt_0 : decode cX7_byteAt 0 = .ok (.iload_n 1, 1) := by decide +kernel
theorem dX7_byteAt_1 : decode cX7_byteAt 1 = .ok (.ifCond .lt 29, 3) := by decide +kernel
theorem dX7_byteAt_4 : decode cX7_byteAt 4 = .ok (.iload_n 1, 1) := by decide +kernel
theorem dX7_byteAt_5 : decode cX7_byteAt 5 = .ok (.aload_n 0, 1) := by decide +kernel
theorem dX7_byteAt_6 : decode cX7_byteAt 6 = .ok (.getfield 15, 3) := by decide +kernel
theorem dX7_byteAt_9 : decode cX7_byteAt 9 = .ok (.if_icmp .ge 21, 3) := by decide +kernel
theorem dX7_byteAt_30 : decode cX7_byteAt 30 = .ok (.iconst (-1), 1) := by decide +kernel
theorem dX7_byteAt_31 : decode cX7_byteAt 31 = .ok (.ireturn, 1) := by decide +kernel
end
section
set_option maxHeartbeats 4000000 in
set_option maxRecDepth 100000 in
theorem c_X2_isThere (l : Launch) (G : va_G) (cy : Nat → ClassId) (h0 : Nat) (p0 : Int32) (p1 : Int32) (q0 : Int32) (b1 : Nat) (b2 : Nat) (e : Int32) (z : Int32) : Kt l G cy yX2_isThere cX2_isThere 3 (some .boolean) ({ frames := 10, cells := 0, slots := 0, locals := 200 } : Room) [.ref h0, .int p0, .int p1] [(h0, .inr (2, [.int q0, .ref b1, .ref b2, .int 0, .int 0, .int e, .int z])), (b1, .inl (cy 2, 64, .inr (.inl (fun _ => 0))))] (fun (v : Option Value) (w1 : va_W) => v = some (.int 0) ∧ w1 = []) := by
  refine kt_ofW (by decide) (Nat.le_of_ble_eq_true rfl) ?_
  intro p e s m below meth c A ls hx hb hr hU hown hlocks hml hin hP hK hD hA hS hl
  have hown : s.vm.findClass RX2 = some m.cls := hown
  have hl : lv_has ls 3 [(0, .ref h0), (1, .int p0), (2, .int p1)] := hl
  refine lv_aload_n hx hb dX2_isThere_0 rfl (lv_at hl 0 rfl) ?_
  refine va_get (D := G) (ci := 2) (v := .ref b1) (C := RX2) (T := TX2) (N := 7) hx hb hU in_X2 hown hK.1 hP 0 rfl rfl 1 (by decide) (hU _ u_339) (fun _ h9 => h9) rfl dX2_isThere_1 ?_
  refine lv_iload_n hx hb dX2_isThere_4 rfl (lv_at hl 1 rfl) ?_
  refine lv_bipush (v := 63) hx hb dX2_isThere_5 (by decide) ?_
  refine lv_iand hx hb dX2_isThere_7 ?_
  refine va_lald hx hb hK.1 hP 1 2 rfl rfl (pk_andIn _ 6 (by decide) (by decide)) dX2_isThere_8 (lx_topl (y := 0) rfl ?_)
  refine lv_iload_n hx hb dX2_isThere_9 rfl (lv_at hl 2 rfl) ?_
  refine lv_lushr (v := 0) hx hb dX2_isThere_10 (lx_lushr0 _) ?_
  refine lv_lconst (v := 1) hx hb dX2_isThere_11 (by decide) ?_
  refine lv_land hx hb dX2_isThere_12 (lx_topl (y := 0) (by decide +kernel) ?_)
  refine lv_lconst (v := 0) hx hb dX2_isThere_13 (by decide) ?_
  refine W.lcmp hx hb dX2_isThere_14 (lx_top (y := 0) (by decide +kernel) ?_)
  refine lv_if_eq (tgt := 22) hx hb dX2_isThere_15 (by decide) (fun _ => ?_) (fun c9 => absurd (by decide) c9)
  refine lv_iconst (v := 0) hx hb dX2_isThere_22 (by decide) ?_
  exact kt_zret hx hb hr hlocks hP hD hS (by first | rfl | decide | exact rfl) dX2_isThere_23 [] rfl rfl rfl rfl ⟨rfl, rfl⟩
set_option maxHeartbeats 4000000 in
set_option maxRecDepth 100000 in
theorem c_X2_goRounds (l : Launch) (G : va_G) (cy : Nat → ClassId) (h0 : Nat) (p0 : Int32) (b1 : Nat) (b2 : Nat) : Kt l G cy yX2_goRounds cX2_goRounds 7 none ({ frames := 10, cells := 0, slots := 0, locals := 200 } : Room) [.ref h0] [(h0, .inr (2, [.int p0, .ref b1, .ref b2, .int 0, .int 0, .int (-1), .int 0]))] (fun (v : Option Value) (w1 : va_W) => v = none ∧ w1 = [(h0, .inr (2, [.int p0, .ref b1, .ref b2, .int 0, .int 0, .int (-1), .int 0]))]) := by
  refine kt_ofW (by decide) (Nat.le_of_ble_eq_true rfl) ?_
  intro p e s m below meth c A ls hx hb hr hU hown hlocks hml hin hP hK hD hA hS hl
  have hown : s.vm.findClass RX2 = some m.cls := hown
  have hl : lv_has ls 7 [(0, .ref h0)] := hl
  refine lv_iconst (v := 0) hx hb dX2_goRounds_0 (by decide) ?_
  refine lv_istore_n (lv' := [(1, .int 0), (0, .ref h0)]) hx hb dX2_goRounds_1 rfl hl (by decide) rfl (fun ls hl => ?_)
  refine lv_iconst (v := 1) hx hb dX2_goRounds_2 (by decide) ?_
  refine lv_istore_n (lv' := [(2, .int 1), (1, .int 0), (0, .ref h0)]) hx hb dX2_goRounds_3 rfl hl (by decide) rfl (fun ls hl => ?_)
  refine lv_iload_n hx hb dX2_goRounds_4 rfl (lv_at hl 0 rfl) ?_
  refine lv_sipush (v := 729) hx hb dX2_goRounds_5 (by decide) ?_
  refine lv_icmp_gt (tgt := 146) hx hb dX2_goRounds_8 (by decide) (fun c9 => absurd c9 (by decide)) (fun _ => ?_)
  refine lv_aload_n hx hb dX2_goRounds_11 rfl (lv_at hl 2 rfl) ?_
  refine va_get (D := G) (ci := 2) (v := .int 0) (C := RX2) (T := TX2) (N := 7) hx hb hU in_X2 hown hK.1 hP 0 rfl rfl 3 (by decide) (hU _ u_341) (fun _ h9 => h9) rfl dX2_goRounds_12 ?_
  refine lv_istore_n (lv' := [(3, .int 0), (2, .int 1), (1, .int 0), (0, .ref h0)]) hx hb dX2_goRounds_15 rfl hl (by decide) rfl (fun ls hl => ?_)
  refine lv_iload_n hx hb dX2_goRounds_16 rfl (lv_at hl 2 rfl) ?_
  refine lv_istore (lv' := [(4, .int 0), (3, .int 0), (2, .int 1), (1, .int 0), (0, .ref h0)]) hx hb dX2_goRounds_17 hl (by decide) rfl (fun ls hl => ?_)
  refine lv_iload hx hb dX2_goRounds_19 (lv_at hl 0 rfl) ?_
  refine lv_iload_n hx hb dX2_goRounds_21 rfl (lv_at hl 1 rfl) ?_
  refine lv_icmp_ge (tgt := 102) hx hb dX2_goRounds_22 (by decide) (fun _ => ?_) (fun c9 => absurd (by decide) c9)
  refine lv_aload_n hx hb dX2_goRounds_102 rfl (lv_at hl 4 rfl) ?_
  refine va_get (D := G) (ci := 2) (v := .int 0) (C := RX2) (T := TX2) (N := 7) hx hb hU in_X2 hown hK.1 hP 0 rfl rfl 3 (by decide) (hU _ u_341) (fun _ h9 => h9) rfl dX2_goRounds_103 ?_
  refine lv_iload_n hx hb dX2_goRounds_106 rfl (lv_at hl 1 rfl) ?_
  refine lv_icmp_ne (tgt := 111) hx hb dX2_goRounds_107 (by decide) (fun c9 => absurd (by decide) c9) (fun _ => ?_)
  exact kt_vret hx hb hr hlocks hP hD hS dX2_goRounds_110 [0] rfl rfl rfl rfl ⟨rfl, rfl⟩
set_option maxHeartbeats 4000000 in
set_option maxRecDepth 100000 in
theorem c_X2_build (l : Launch) (G : va_G) (cy : Nat → ClassId) (h0 : Nat) (p0 : Int32) (b1 : Nat) (b2 : Nat) (r2 : Nat) (r3 : Nat) : Kt l G cy yX2_build cX2_build 4 none ({ frames := 12, cells := 0, slots := 0, locals := 300 } : Room) [.ref h0, .ref r2] [(h0, .inr (2, [.int p0, .ref b1, .ref b2, .int 0, .int 0, .int 0, .int 0])), (b1, .inl (cy 2, 64, .inr (.inl (fun _ => 0)))), (r2, .inr (0, [.ref r3, .int 0, .int 0]))] (fun (v : Option Value) (w1 : va_W) => v = none ∧ w1 = [(h0, .inr (2, [.int p0, .ref b1, .ref b2, .int 0, .int 0, .int (-1), .int 1])), (b1, .inl (cy 2, 64, .inr (.inl (fun _ => 0)))), (r2, .inr (0, [.ref r3, .int 0, .int 0]))]) := by
  refine kt_ofW (by decide) (Nat.le_of_ble_eq_true rfl) ?_
  intro p e s m below meth c A ls hx hb hr hU hown hlocks hml hin hP hK hD hA hS hl
  have hown : s.vm.findClass RX2 = some m.cls := hown
  have hl : lv_has ls 4 [(0, .ref h0), (1, .ref r2)] := hl
  refine lv_aload_n hx hb dX2_build_0 rfl (lv_at hl 0 rfl) ?_
  refine va_get (D := G) (ci := 2) (v := .ref b1) (C := RX2) (T := TX2) (N := 7) hx hb hU in_X2 hown hK.1 hP 0 rfl rfl 1 (by decide) (hU _ u_339) (fun _ h9 => h9) rfl dX2_build_1 ?_
  refine lv_lconst (v := 0) hx hb dX2_build_4 (by decide) ?_
  refine kt_callS (wc := [(b1, .inl (cy 2, 64, .inr (.inl (fun _ => 0))))]) (wr := [(h0, .inr (2, [.int p0, .ref b1, .ref b2, .int 0, .int 0, .int 0, .int 0])), (r2, .inr (0, [.ref r3, .int 0, .int 0]))]) (As := [.ref b1, .long 0]) (rest := []) (c_J7_fill_d0a16 l G cy b1) m_J7_fill_d0a16 u_369 hx hb hml hown hU hl.1 hK hP hD hS hA dX2_build_5 [1] [0, 2] rfl rfl rfl rfl rfl rfl (Nat.le_of_ble_eq_true rfl) (fun v9 w9 H locs hw hP hD hS => ?_)
  obtain ⟨rfl, rfl⟩ := hw
  have hP : va_P G vwCl [(h0, .inr (2, [.int p0, .ref b1, .ref b2, .int 0, .int 0, .int 0, .int 0])), (r2, .inr (0, [.ref r3, .int 0, .int 0])), (b1, .inl (cy 2, 64, .inr (.inl (fun _ => 0))))] H := hP
  have hD : va_D A [(h0, .inr (2, [.int p0, .ref b1, .ref b2, .int 0, .int 0, .int 0, .int 0])), (r2, .inr (0, [.ref r3, .int 0, .int 0])), (b1, .inl (cy 2, 64, .inr (.inl (fun _ => 0))))] := hD
  refine W.eq (g2 := F0 m 8 ls []) rfl ?_
  refine W.widen (k := 0) (n := 0) (Nat.le_of_ble_eq_true rfl) (Nat.le_of_ble_eq_true rfl) ?_
  refine lv_aload_n hx hb dX2_build_8 rfl (lv_at hl 0 rfl) ?_
  refine lv_iconst (v := 0) hx hb dX2_build_9 (by decide) ?_
  refine va_put (D := G) (ci := 2) (v := .int 0) (ty := .int) (C := RX2) (T := TX2) (N := 7) hx hb hU in_X2 tyX2 tyX2_ok nmX2 hown hK.1 hP hD hS 0 rfl rfl 3 (by decide) (hU _ u_341) (fun _ h9 => h9) rfl (by decide +kernel) rfl rfl (Nat.le_of_ble_eq_true rfl) dX2_build_10 (fun H locs hP hD hS => ?_)
  have hP : va_P G vwCl [(h0, .inr (2, [.int p0, .ref b1, .ref b2, .int 0, .int 0, .int 0, .int 0])), (r2, .inr (0, [.ref r3, .int 0, .int 0])), (b1, .inl (cy 2, 64, .inr (.inl (fun _ => 0))))] H := hP
  have hD : va_D A [(h0, .inr (2, [.int p0, .ref b1, .ref b2, .int 0, .int 0, .int 0, .int 0])), (r2, .inr (0, [.ref r3, .int 0, .int 0])), (b1, .inl (cy 2, 64, .inr (.inl (fun _ => 0))))] := hD
  refine lv_aload_n hx hb dX2_build_13 rfl (lv_at hl 0 rfl) ?_
  refine lv_iconst (v := 0) hx hb dX2_build_14 (by decide) ?_
  refine va_put (D := G) (ci := 2) (v := .int 0) (ty := .int) (C := RX2) (T := TX2) (N := 7) hx hb hU in_X2 tyX2 tyX2_ok nmX2 hown hK.1 hP hD hS 0 rfl rfl 4 (by decide) (hU _ u_343) (fun _ h9 => h9) rfl (by decide +kernel) rfl rfl (Nat.le_of_ble_eq_true rfl) dX2_build_15 (fun H locs hP hD hS => ?_)
  have hP : va_P G vwCl [(h0, .inr (2, [.int p0, .ref b1, .ref b2, .int 0, .int 0, .int 0, .int 0])), (r2, .inr (0, [.ref r3, .int 0, .int 0])), (b1, .inl (cy 2, 64, .inr (.inl (fun _ => 0))))] H := hP
  have hD : va_D A [(h0, .inr (2, [.int p0, .ref b1, .ref b2, .int 0, .int 0, .int 0, .int 0])), (r2, .inr (0, [.ref r3, .int 0, .int 0])), (b1, .inl (cy 2, 64, .inr (.inl (fun _ => 0))))] := hD
  refine lv_aload_n hx hb dX2_build_18 rfl (lv_at hl 0 rfl) ?_
  refine lv_iconst (v := (-1)) hx hb dX2_build_19 (by decide) ?_
  refine va_put (D := G) (ci := 2) (v := .int (-1)) (ty := .int) (C := RX2) (T := TX2) (N := 7) hx hb hU in_X2 tyX2 tyX2_ok nmX2 hown hK.1 hP hD hS 0 rfl rfl 5 (by decide) (hU _ u_345) (fun _ h9 => h9) rfl (by decide +kernel) rfl rfl (Nat.le_of_ble_eq_true rfl) dX2_build_20 (fun H locs hP hD hS => ?_)
  have hP : va_P G vwCl [(h0, .inr (2, [.int p0, .ref b1, .ref b2, .int 0, .int 0, .int (-1), .int 0])), (r2, .inr (0, [.ref r3, .int 0, .int 0])), (b1, .inl (cy 2, 64, .inr (.inl (fun _ => 0))))] H := hP
  have hD : va_D A [(h0, .inr (2, [.int p0, .ref b1, .ref b2, .int 0, .int 0, .int (-1), .int 0])), (r2, .inr (0, [.ref r3, .int 0, .int 0])), (b1, .inl (cy 2, 64, .inr (.inl (fun _ => 0))))] := hD
  refine lv_iconst (v := 0) hx hb dX2_build_23 (by decide) ?_
  refine lv_istore_n (lv' := [(2, .int 0), (0, .ref h0), (1, .ref r2)]) hx hb dX2_build_24 rfl hl (by decide) rfl (fun ls hl => ?_)
  refine lv_iload_n hx hb dX2_build_25 rfl (lv_at hl 0 rfl) ?_
  refine lv_aload_n hx hb dX2_build_26 rfl (lv_at hl 2 rfl) ?_
  refine va_get (D := G) (ci := 0) (v := .int 0) (C := RX0) (T := TX0) (N := 3) hx hb hU in_X0 hown hK.1 hP 1 rfl rfl 1 (by decide) (hU _ u_177) (fun _ h9 => h9) rfl dX2_build_27 ?_
  refine lv_icmp_ge (tgt := 67) hx hb dX2_build_30 (by decide) (fun _ => ?_) (fun c9 => absurd (by decide) c9)
  refine lv_aload_n hx hb dX2_build_67 rfl (lv_at hl 1 rfl) ?_
  refine kt_callV (wc := [(h0, .inr (2, [.int p0, .ref b1, .ref b2, .int 0, .int 0, .int (-1), .int 0]))]) (wr := [(r2, .inr (0, [.ref r3, .int 0, .int 0])), (b1, .inl (cy 2, 64, .inr (.inl (fun _ => 0))))]) (As := []) (rest := []) (c_X2_goRounds l G cy h0 p0 b1 b2) m_X2_goRounds u_381 hx hb hml hown hU hl.1 hK hP hD hS hA dX2_build_68 [0] [1, 2] rfl rfl rfl rfl rfl rfl (Nat.le_of_ble_eq_true rfl) (ci := 2) rfl rfl rfl (fun v9 w9 H locs hw hP hD hS => ?_)
  obtain ⟨rfl, rfl⟩ := hw
  have hP : va_P G vwCl [(r2, .inr (0, [.ref r3, .int 0, .int 0])), (b1, .inl (cy 2, 64, .inr (.inl (fun _ => 0)))), (h0, .inr (2, [.int p0, .ref b1, .ref b2, .int 0, .int 0, .int (-1), .int 0]))] H := hP
  have hD : va_D A [(r2, .inr (0, [.ref r3, .int 0, .int 0])), (b1, .inl (cy 2, 64, .inr (.inl (fun _ => 0)))), (h0, .inr (2, [.int p0, .ref b1, .ref b2, .int 0, .int 0, .int (-1), .int 0]))] := hD
  refine W.eq (g2 := F0 m 71 ls []) rfl ?_
  refine W.widen (k := 0) (n := 0) (Nat.le_of_ble_eq_true rfl) (Nat.le_of_ble_eq_true rfl) ?_
  refine lv_aload_n hx hb dX2_build_71 rfl (lv_at hl 1 rfl) ?_
  refine lv_iconst (v := 1) hx hb dX2_build_72 (by decide) ?_
  refine va_put (D := G) (ci := 2) (v := .int 1) (ty := .boolean) (C := RX2) (T := TX2) (N := 7) hx hb hU in_X2 tyX2 tyX2_ok nmX2 hown hK.1 hP hD hS 2 rfl rfl 6 (by decide) (hU _ u_347) (fun _ h9 => h9) rfl (by decide +kernel) rfl rfl (Nat.le_of_ble_eq_true rfl) dX2_build_73 (fun H locs hP hD hS => ?_)
  have hP : va_P G vwCl [(r2, .inr (0, [.ref r3, .int 0, .int 0])), (b1, .inl (cy 2, 64, .inr (.inl (fun _ => 0)))), (h0, .inr (2, [.int p0, .ref b1, .ref b2, .int 0, .int 0, .int (-1), .int 1]))] H := hP
  have hD : va_D A [(r2, .inr (0, [.ref r3, .int 0, .int 0])), (b1, .inl (cy 2, 64, .inr (.inl (fun _ => 0)))), (h0, .inr (2, [.int p0, .ref b1, .ref b2, .int 0, .int 0, .int (-1), .int 1]))] := hD
  exact kt_vret hx hb hr hlocks hP hD hS dX2_build_76 [2, 1, 0] rfl rfl rfl rfl ⟨rfl, rfl⟩
set_option maxHeartbeats 4000000 in
set_option maxRecDepth 100000 in
theorem c_X11_closureOf (l : Launch) (G : va_G) (cy : Nat → ClassId) (h0 : Nat) (r1 : Nat) (r2 : Nat) (r4 : Nat) (r6 : Nat) (r7 : Nat) (r9 : Nat) (r3 : Nat) (cf : Nat → Option Nat) (p0 : Int32) (hw : vp_in p0 7) (hcf : cf p0.toNatClampNeg = none) : Kt l G cy yX11_closureOf cX11_closureOf 2 (some (.object "PlaneProof$Closure")) ({ frames := 14, cells := 3, slots := 800, locals := 400 } : Room) [.ref h0, .int p0] [(h0, .inr (10, [.ref r1, .int 0, .int (-1), .ref r2, .ref r4, .ref r6, .int (-2), .ref r7, .ref r9])), (r2, .inr (0, [.ref r3, .int 0, .int 0])), (r6, .inl (cy 5, 7, .inr (.inr (.inr (.inr cf)))))] (fun (v : Option Value) (w1 : va_W) => ∃ (q : Nat), ∃ (b1 : Nat), ∃ (b2 : Nat), v = some (.ref q) ∧ w1 = [(h0, .inr (10, [.ref r1, .int 0, .int (-1), .ref r2, .ref r4, .ref r6, .int (-2), .ref r7, .ref r9])), (r2, .inr (0, [.ref r3, .int 0, .int 0])), (r6, .inl (cy 5, 7, .inr (.inr (.inr (.inr (va_up cf (p0 : Int32).toNatClampNeg (some q))))))), (q, .inr (2, [.int p0, .ref b1, .ref b2, .int 0, .int 0, .int (-1), .int 1])), (b1, .inl (cy 2, 64, .inr (.inl (fun _ => 0)))), (b2, .inl (cy 1, 729, .inl (fun _ => 0)))]) := by
  refine kt_ofW (by decide) (Nat.le_of_ble_eq_true rfl) ?_
  intro p e s m below meth c A ls hx hb hr hU hown hlocks hml hin hP hK hD hA hS hl
  have hown : s.vm.findClass RX11 = some m.cls := hown
  have hl : lv_has ls 2 [(0, .ref h0), (1, .int p0)] := hl
  refine lv_aload_n hx hb dX11_closureOf_0 rfl (lv_at hl 0 rfl) ?_
  refine va_get (D := G) (ci := 10) (v := .ref r6) (C := RX11) (T := TX11) (N := 9) hx hb hU in_X11 hown hK.1 hP 0 rfl rfl 5 (by decide) (hU _ u_255) (fun _ h9 => h9) rfl dX11_closureOf_1 ?_
  refine lv_iload_n hx hb dX11_closureOf_4 rfl (lv_at hl 1 rfl) ?_
  refine va_aldq hx hb hK.1 hP 2 5 rfl rfl hw dX11_closureOf_5 ?_
  refine W.eq (g2 := F0 m 6 ls [.null]) (by rw [hcf]; rfl) ?_
  refine lv_ifnonnullN hx hb dX11_closureOf_6 ?_
  refine lv_aload_n hx hb dX11_closureOf_9 rfl (lv_at hl 0 rfl) ?_
  refine va_get (D := G) (ci := 10) (v := .ref r6) (C := RX11) (T := TX11) (N := 9) hx hb hU in_X11 hown hK.1 hP 0 rfl rfl 5 (by decide) (hU _ u_255) (fun _ h9 => h9) rfl dX11_closureOf_10 ?_
  refine lv_iload_n hx hb dX11_closureOf_13 rfl (lv_at hl 1 rfl) ?_
  refine va_new (ci := 2) (fs := [.int 0, .null, .null, .int 0, .int 0, .int 0, .int 0]) (C := RX2) (T := TX2) (N := 7) hx hb hU in_X2 tyX2 tyX2_ok hown (hU _ u_215) (hU _ u_333) (hU _ u_148) hK.1 hP hD hS hA rfl df_X2 (Nat.le_of_ble_eq_true rfl) (Nat.le_of_ble_eq_true rfl) dX11_closureOf_14 (fun q_1 H hP hD hS => ?_)
  have hP : va_P G vwCl [(h0, .inr (10, [.ref r1, .int 0, .int (-1), .ref r2, .ref r4, .ref r6, .int (-2), .ref r7, .ref r9])), (r2, .inr (0, [.ref r3, .int 0, .int 0])), (r6, .inl (cy 5, 7, .inr (.inr (.inr (.inr cf))))), (q_1, .inr (2, [.int 0, .null, .null, .int 0, .int 0, .int 0, .int 0]))] H := hP
  have hD : va_D A [(h0, .inr (10, [.ref r1, .int 0, .int (-1), .ref r2, .ref r4, .ref r6, .int (-2), .ref r7, .ref r9])), (r2, .inr (0, [.ref r3, .int 0, .int 0])), (r6, .inl (cy 5, 7, .inr (.inr (.inr (.inr cf))))), (q_1, .inr (2, [.int 0, .null, .null, .int 0, .int 0, .int 0, .int 0]))] := hD
  refine W.widen (k := 1) (n := 7) (Nat.le_of_ble_eq_true rfl) (Nat.le_of_ble_eq_true rfl) ?_
  refine lv_dup hx hb dX11_closureOf_17 rfl ?_
  refine lv_iload_n hx hb dX11_closureOf_18 rfl (lv_at hl 1 rfl) ?_
  refine kt_callI (wc := [(q_1, .inr (2, [.int 0, .null, .null, .int 0, .int 0, .int 0, .int 0]))]) (wr := [(h0, .inr (10, [.ref r1, .int 0, .int (-1), .ref r2, .ref r4, .ref r6, .int (-2), .ref r7, .ref r9])), (r2, .inr (0, [.ref r3, .int 0, .int 0])), (r6, .inl (cy 5, 7, .inr (.inr (.inr (.inr cf)))))]) (As := [.int p0]) (rest := [.ref q_1, .int p0, .ref r6]) (c_X2_init l G cy q_1 p0) m_X2_init u_334 hx hb hml hown hU hl.1 hK hP hD hS hA dX11_closureOf_19 [3] [0, 1, 2] rfl rfl rfl rfl rfl rfl (Nat.le_of_ble_eq_true rfl) (fun v9 w9 H locs hw hP hD hS => ?_)
  obtain ⟨x_2, x_3, rfl, rfl⟩ := hw
  have hP : va_P G vwCl [(h0, .inr (10, [.ref r1, .int 0, .int (-1), .ref r2, .ref r4, .ref r6, .int (-2), .ref r7, .ref r9])), (r2, .inr (0, [.ref r3, .int 0, .int 0])), (r6, .inl (cy 5, 7, .inr (.inr (.inr (.inr cf))))), (q_1, .inr (2, [.int p0, .ref x_2, .ref x_3, .int 0, .int 0, .int 0, .int 0])), (x_2, .inl (cy 2, 64, .inr (.inl (fun _ => 0)))), (x_3, .inl (cy 1, 729, .inl (fun _ => 0)))] H := hP
  have hD : va_D A [(h0, .inr (10, [.ref r1, .int 0, .int (-1), .ref r2, .ref r4, .ref r6, .int (-2), .ref r7, .ref r9])), (r2, .inr (0, [.ref r3, .int 0, .int 0])), (r6, .inl (cy 5, 7, .inr (.inr (.inr (.inr cf))))), (q_1, .inr (2, [.int p0, .ref x_2, .ref x_3, .int 0, .int 0, .int 0, .int 0])), (x_2, .inl (cy 2, 64, .inr (.inl (fun _ => 0)))), (x_3, .inl (cy 1, 729, .inl (fun _ => 0)))] := hD
  refine W.eq (g2 := F0 m 22 ls [.ref q_1, .int p0, .ref r6]) rfl ?_
  refine W.widen (k := 3) (n := 800) (Nat.le_of_ble_eq_true rfl) (Nat.le_of_ble_eq_true rfl) ?_
  refine va_astq (r := (RX2, TX2, 7)) hx hb hK.1 hP hD hS 2 5 3 2 rfl rfl rfl rfl hw dX11_closureOf_22 (fun H locs hP hD hS => ?_)
  have hP : va_P G vwCl [(h0, .inr (10, [.ref r1, .int 0, .int (-1), .ref r2, .ref r4, .ref r6, .int (-2), .ref r7, .ref r9])), (r2, .inr (0, [.ref r3, .int 0, .int 0])), (r6, .inl (cy 5, 7, .inr (.inr (.inr (.inr (va_up cf (p0 : Int32).toNatClampNeg (some q_1))))))), (q_1, .inr (2, [.int p0, .ref x_2, .ref x_3, .int 0, .int 0, .int 0, .int 0])), (x_2, .inl (cy 2, 64, .inr (.inl (fun _ => 0)))), (x_3, .inl (cy 1, 729, .inl (fun _ => 0)))] H := hP
  have hD : va_D A [(h0, .inr (10, [.ref r1, .int 0, .int (-1), .ref r2, .ref r4, .ref r6, .int (-2), .ref r7, .ref r9])), (r2, .inr (0, [.ref r3, .int 0, .int 0])), (r6, .inl (cy 5, 7, .inr (.inr (.inr (.inr (va_up cf (p0 : Int32).toNatClampNeg (some q_1))))))), (q_1, .inr (2, [.int p0, .ref x_2, .ref x_3, .int 0, .int 0, .int 0, .int 0])), (x_2, .inl (cy 2, 64, .inr (.inl (fun _ => 0)))), (x_3, .inl (cy 1, 729, .inl (fun _ => 0)))] := hD
  refine lv_aload_n hx hb dX11_closureOf_23 rfl (lv_at hl 0 rfl) ?_
  refine va_get (D := G) (ci := 10) (v := .ref r6) (C := RX11) (T := TX11) (N := 9) hx hb hU in_X11 hown hK.1 hP 0 rfl rfl 5 (by decide) (hU _ u_255) (fun _ h9 => h9) rfl dX11_closureOf_24 ?_
  refine lv_iload_n hx hb dX11_closureOf_27 rfl (lv_at hl 1 rfl) ?_
  refine va_aldq hx hb hK.1 hP 2 5 rfl rfl hw dX11_closureOf_28 ?_
  refine W.eq (g2 := F0 m 29 ls [.ref q_1]) (by rw [lx_upq]; rfl) ?_
  refine va_get (D := G) (ci := 2) (v := .int 0) (C := RX2) (T := TX2) (N := 7) hx hb hU in_X2 hown hK.1 hP 3 rfl rfl 6 (by decide) (hU _ u_348) (fun _ h9 => h9) rfl dX11_closureOf_29 ?_
  refine lv_if_ne (tgt := 48) hx hb dX11_closureOf_32 (by decide) (fun c9 => absurd (by decide) c9) (fun _ => ?_)
  refine lv_aload_n hx hb dX11_closureOf_35 rfl (lv_at hl 0 rfl) ?_
  refine va_get (D := G) (ci := 10) (v := .ref r6) (C := RX11) (T := TX11) (N := 9) hx hb hU in_X11 hown hK.1 hP 0 rfl rfl 5 (by decide) (hU _ u_255) (fun _ h9 => h9) rfl dX11_closureOf_36 ?_
  refine lv_iload_n hx hb dX11_closureOf_39 rfl (lv_at hl 1 rfl) ?_
  refine va_aldq hx hb hK.1 hP 2 5 rfl rfl hw dX11_closureOf_40 ?_
  refine W.eq (g2 := F0 m 41 ls [.ref q_1]) (by rw [lx_upq]; rfl) ?_
  refine lv_aload_n hx hb dX11_closureOf_41 rfl (lv_at hl 0 rfl) ?_
  refine va_get (D := G) (ci := 10) (v := .ref r2) (C := RX11) (T := TX11) (N := 9) hx hb hU in_X11 hown hK.1 hP 0 rfl rfl 3 (by decide) (hU _ u_253) (fun _ h9 => h9) rfl dX11_closureOf_42 ?_
  refine kt_callV (wc := [(q_1, .inr (2, [.int p0, .ref x_2, .ref x_3, .int 0, .int 0, .int 0, .int 0])), (x_2, .inl (cy 2, 64, .inr (.inl (fun _ => 0)))), (r2, .inr (0, [.ref r3, .int 0, .int 0]))]) (wr := [(h0, .inr (10, [.ref r1, .int 0, .int (-1), .ref r2, .ref r4, .ref r6, .int (-2), .ref r7, .ref r9])), (r6, .inl (cy 5, 7, .inr (.inr (.inr (.inr (va_up cf (p0 : Int32).toNatClampNeg (some q_1))))))), (x_3, .inl (cy 1, 729, .inl (fun _ => 0)))]) (As := [.ref r2]) (rest := []) (c_X2_build l G cy q_1 p0 x_2 x_3 r2 r3) m_X2_build u_365 hx hb hml hown hU hl.1 hK hP hD hS hA dX11_closureOf_45 [3, 4, 1] [0, 2, 5] rfl rfl rfl rfl rfl rfl (Nat.le_of_ble_eq_true rfl) (ci := 2) rfl rfl rfl (fun v9 w9 H locs hw hP hD hS => ?_)
  obtain ⟨rfl, rfl⟩ := hw
  have hP : va_P G vwCl [(h0, .inr (10, [.ref r1, .int 0, .int (-1), .ref r2, .ref r4, .ref r6, .int (-2), .ref r7, .ref r9])), (r6, .inl (cy 5, 7, .inr (.inr (.inr (.inr (va_up cf (p0 : Int32).toNatClampNeg (some q_1))))))), (x_3, .inl (cy 1, 729, .inl (fun _ => 0))), (q_1, .inr (2, [.int p0, .ref x_2, .ref x_3, .int 0, .int 0, .int (-1), .int 1])), (x_2, .inl (cy 2, 64, .inr (.inl (fun _ => 0)))), (r2, .inr (0, [.ref r3, .int 0, .int 0]))] H := hP
  have hD : va_D A [(h0, .inr (10, [.ref r1, .int 0, .int (-1), .ref r2, .ref r4, .ref r6, .int (-2), .ref r7, .ref r9])), (r6, .inl (cy 5, 7, .inr (.inr (.inr (.inr (va_up cf (p0 : Int32).toNatClampNeg (some q_1))))))), (x_3, .inl (cy 1, 729, .inl (fun _ => 0))), (q_1, .inr (2, [.int p0, .ref x_2, .ref x_3, .int 0, .int 0, .int (-1), .int 1])), (x_2, .inl (cy 2, 64, .inr (.inl (fun _ => 0)))), (r2, .inr (0, [.ref r3, .int 0, .int 0]))] := hD
  refine W.eq (g2 := F0 m 48 ls []) rfl ?_
  refine W.widen (k := 3) (n := 800) (Nat.le_of_ble_eq_true rfl) (Nat.le_of_ble_eq_true rfl) ?_
  refine lv_aload_n hx hb dX11_closureOf_48 rfl (lv_at hl 0 rfl) ?_
  refine va_get (D := G) (ci := 10) (v := .ref r6) (C := RX11) (T := TX11) (N := 9) hx hb hU in_X11 hown hK.1 hP 0 rfl rfl 5 (by decide) (hU _ u_255) (fun _ h9 => h9) rfl dX11_closureOf_49 ?_
  refine lv_iload_n hx hb dX11_closureOf_52 rfl (lv_at hl 1 rfl) ?_
  refine va_aldq hx hb hK.1 hP 1 5 rfl rfl hw dX11_closureOf_53 ?_
  refine W.eq (g2 := F0 m 54 ls [.ref q_1]) (by rw [lx_upq]; rfl) ?_
  exact kt_aret hx hb hr hlocks hP hD hS dX11_closureOf_54 [0, 5, 1, 3, 4, 2] rfl rfl rfl rfl ⟨q_1, x_2, x_3, rfl, rfl⟩
end
section
set_option maxHeartbeats 4000000 in
set_option maxRecDepth 100000 in
theorem c_X11_within (l : Launch) (G : va_G) (cy : Nat → ClassId) (sa : Nat → Nat) (hlst : l.stackTraces = false) (h0 : Nat) (r1 : Nat) (r2 : Nat) (r4 : Nat) (r6 : Nat) (r7 : Nat) (r9 : Nat) (r3 : Nat) (p0 : Int32) (p1 : Int32) : Kx l G cy sa yX11_within cX11_within 4 (some .int) ({ frames := 16, cells := 4, slots := 806, locals := 500 } : Room) [.ref h0, .int p0, .int p1] [(h0, .inr (10, [.ref r1, .int 0, .int (-1), .ref r2, .ref r4, .ref r6, .int (-2), .ref r7, .ref r9])), (r2, .inr (0, [.ref r3, .int 0, .int 0])), (r6, .inl (cy 5, 7, .inr (.inr (.inr (.inr (fun _ => none))))))] (fun (v : Option Value) (w1 : va_W) => ∃ (r : Int32), v = some (.int r) ∧ w1 = [] ∧ (okWidth p0 ∧ okWhat p1 ∧ r = sp_within p1)) (fun E => (E = eIA ∧ ¬ okWidth p0) ∨ (E = eNS ∧ okWidth p0 ∧ ¬ okWhat p1)) := by
  refine kx_ofW (by decide) (Nat.le_of_ble_eq_true rfl) ?_
  intro p e s m below meth c A ls hx hb hr hU hown hlocks hml hin hP hK hD hA hS hl hZ hnt
  have hown : s.vm.findClass RX11 = some m.cls := hown
  have hl : lv_has ls 4 [(0, .ref h0), (1, .int p0), (2, .int p1)] := hl
  refine lv_iload_n hx hb dX11_within_0 rfl (lv_at hl 1 rfl) ?_
  refine kx_callS (wc := []) (wr := [(h0, .inr (10, [.ref r1, .int 0, .int (-1), .ref r2, .ref r4, .ref r6, .int (-2), .ref r7, .ref r9])), (r2, .inr (0, [.ref r3, .int 0, .int 0])), (r6, .inl (cy 5, 7, .inr (.inr (.inr (.inr (fun _ => none))))))]) (As := [.int p0]) (rest := []) (c_X11_checkWidth l G cy sa hlst p0) m_X11_checkWidth u_1287 hx hb hml hown hU hl.1 hK hP hD hS hA dX11_within_1 [] [0, 1, 2] rfl rfl rfl rfl rfl rfl (Nat.le_of_ble_eq_true rfl) hZ hnt hlocks (fun _ h9 => Or.inl h9) (fun v9 w9 H locs hw hP hD hS => ?_)
  obtain ⟨rfl, rfl, hp_1⟩ := hw
  have hP : va_P G vwCl [(h0, .inr (10, [.ref r1, .int 0, .int (-1), .ref r2, .ref r4, .ref r6, .int (-2), .ref r7, .ref r9])), (r2, .inr (0, [.ref r3, .int 0, .int 0])), (r6, .inl (cy 5, 7, .inr (.inr (.inr (.inr (fun _ => none))))))] H := hP
  have hD : va_D A [(h0, .inr (10, [.ref r1, .int 0, .int (-1), .ref r2, .ref r4, .ref r6, .int (-2), .ref r7, .ref r9])), (r2, .inr (0, [.ref r3, .int 0, .int 0])), (r6, .inl (cy 5, 7, .inr (.inr (.inr (.inr (fun _ => none))))))] := hD
  refine W.eq (g2 := F0 m 4 ls []) rfl ?_
  refine W.widen (k := 1) (n := 6) (Nat.le_of_ble_eq_true rfl) (Nat.le_of_ble_eq_true rfl) ?_
  refine lv_iload_n hx hb dX11_within_4 rfl (lv_at hl 2 rfl) ?_
  refine lv_if_lt (tgt := 13) hx hb dX11_within_5 (by decide) (fun c_2 => ?_) (fun c_2 => ?_)
  · exact kx_throwN (text := "another what") hx hb hlst hown hU u_1099 u_145 (by decide) at_145 hZ hS (by rw [hml]; exact hl.1) dX11_within_13 dX11_within_16 dX11_within_17 dX11_within_19 dX11_within_22 hnt rfl rfl rfl rfl hlocks (Or.inr ⟨rfl, by assumption, (by simp [okWhat, c_2])⟩)
  · refine lv_iload_n hx hb dX11_within_8 rfl (lv_at hl 2 rfl) ?_
    refine lv_iconst (v := 2) hx hb dX11_within_9 (by decide) ?_
    refine lv_icmp_le (tgt := 23) hx hb dX11_within_10 (by decide) (fun c_3 => ?_) (fun c_3 => ?_)
    · refine lv_aload_n hx hb dX11_within_23 rfl (lv_at hl 0 rfl) ?_
      refine lv_iload_n hx hb dX11_within_24 rfl (lv_at hl 1 rfl) ?_
      refine kt_callV (wc := [(h0, .inr (10, [.ref r1, .int 0, .int (-1), .ref r2, .ref r4, .ref r6, .int (-2), .ref r7, .ref r9])), (r2, .inr (0, [.ref r3, .int 0, .int 0])), (r6, .inl (cy 5, 7, .inr (.inr (.inr (.inr (fun _ => none))))))]) (wr := []) (As := [.int p0]) (rest := []) (c_X11_closureOf l G cy h0 r1 r2 r4 r6 r7 r9 r3 (fun _ => none) p0 (okW_in (by assumption)) (by first | rfl | simp [va_up])) m_X11_closureOf u_329 hx hb hml hown hU hl.1 hK hP hD hS hA dX11_within_25 [0, 1, 2] [] rfl rfl rfl rfl rfl rfl (Nat.le_of_ble_eq_true rfl) (ci := 10) rfl rfl rfl (fun v9 w9 H locs hw hP hD hS => ?_)
      obtain ⟨x_4, x_5, x_6, rfl, rfl⟩ := hw
      have hP : va_P G vwCl [(h0, .inr (10, [.ref r1, .int 0, .int (-1), .ref r2, .ref r4, .ref r6, .int (-2), .ref r7, .ref r9])), (r2, .inr (0, [.ref r3, .int 0, .int 0])), (r6, .inl (cy 5, 7, .inr (.inr (.inr (.inr (va_up (fun _ => none) (p0 : Int32).toNatClampNeg (some x_4))))))), (x_4, .inr (2, [.int p0, .ref x_5, .ref x_6, .int 0, .int 0, .int (-1), .int 1])), (x_5, .inl (cy 2, 64, .inr (.inl (fun _ => 0)))), (x_6, .inl (cy 1, 729, .inl (fun _ => 0)))] H := hP
      have hD : va_D A [(h0, .inr (10, [.ref r1, .int 0, .int (-1), .ref r2, .ref r4, .ref r6, .int (-2), .ref r7, .ref r9])), (r2, .inr (0, [.ref r3, .int 0, .int 0])), (r6, .inl (cy 5, 7, .inr (.inr (.inr (.inr (va_up (fun _ => none) (p0 : Int32).toNatClampNeg (some x_4))))))), (x_4, .inr (2, [.int p0, .ref x_5, .ref x_6, .int 0, .int 0, .int (-1), .int 1])), (x_5, .inl (cy 2, 64, .inr (.inl (fun _ => 0)))), (x_6, .inl (cy 1, 729, .inl (fun _ => 0)))] := hD
      refine W.eq (g2 := F0 m 28 ls [.ref x_4]) rfl ?_
      refine W.widen (k := 4) (n := 806) (Nat.le_of_ble_eq_true rfl) (Nat.le_of_ble_eq_true rfl) ?_
      refine lv_astore_n (lv' := [(3, .ref x_4), (0, .ref h0), (1, .int p0), (2, .int p1)]) hx hb dX11_within_28 rfl hl (by decide) rfl (fun ls hl => ?_)
      refine lv_iload_n hx hb dX11_within_29 rfl (lv_at hl 3 rfl) ?_
      by_cases c_7 : p1 = 0
      · refine lv_lookup (off := 26) (tgt := 56) hx hb dX11_within_30 (by decide) (by rw [c_7]; decide) (by decide) ?_
        refine lv_aload_n hx hb dX11_within_56 rfl (lv_at hl 0 rfl) ?_
        refine va_get (D := G) (ci := 2) (v := .int 0) (C := RX2) (T := TX2) (N := 7) hx hb hU in_X2 hown hK.1 hP 3 rfl rfl 3 (by decide) (hU _ u_342) (fun _ h9 => h9) rfl dX11_within_57 ?_
        exact vx_ret (kt_iret hx hb hr hlocks hP hD hS dX11_within_60 [] rfl rfl rfl rfl ⟨0, rfl, rfl, ⟨by assumption, (by simp [okWhat, c_2, c_3, c_7]), (by simp [sp_within, c_2, c_3, c_7])⟩⟩)
      by_cases c_8 : p1 = 1
      · refine lv_lookup (off := 31) (tgt := 61) hx hb dX11_within_30 (by decide) (by rw [c_8]; decide) (by decide) ?_
        refine lv_aload_n hx hb dX11_within_61 rfl (lv_at hl 0 rfl) ?_
        refine va_get (D := G) (ci := 2) (v := .int 0) (C := RX2) (T := TX2) (N := 7) hx hb hU in_X2 hown hK.1 hP 3 rfl rfl 4 (by decide) (hU _ u_344) (fun _ h9 => h9) rfl dX11_within_62 ?_
        exact vx_ret (kt_iret hx hb hr hlocks hP hD hS dX11_within_65 [] rfl rfl rfl rfl ⟨0, rfl, rfl, ⟨by assumption, (by simp [okWhat, c_2, c_3, c_7, c_8]), (by simp [sp_within, c_2, c_3, c_7, c_8])⟩⟩)
      refine lv_lookup (off := 36) (tgt := 66) hx hb dX11_within_30 (by decide) ((lv_osw (k := 0) (a := 0) (o := 26) (d := 36) (r := [(1, 31)]) c_7 rfl).trans ((lv_osw (k := 1) (a := 1) (o := 31) (d := 36) (r := []) c_8 rfl).trans (rfl))) (by decide) ?_
      refine lv_aload_n hx hb dX11_within_66 rfl (lv_at hl 0 rfl) ?_
      refine va_get (D := G) (ci := 2) (v := .int (-1)) (C := RX2) (T := TX2) (N := 7) hx hb hU in_X2 hown hK.1 hP 3 rfl rfl 5 (by decide) (hU _ u_346) (fun _ h9 => h9) rfl dX11_within_67 ?_
      exact vx_ret (kt_iret hx hb hr hlocks hP hD hS dX11_within_70 [] rfl rfl rfl rfl ⟨(-1), rfl, rfl, ⟨by assumption, (by simp [okWhat, c_2, c_3, c_7, c_8]), (by simp [sp_within, c_2, c_3, c_7, c_8])⟩⟩)
    · exact kx_throwN (text := "another what") hx hb hlst hown hU u_1099 u_145 (by decide) at_145 hZ hS (by rw [hml]; exact hl.1) dX11_within_13 dX11_within_16 dX11_within_17 dX11_within_19 dX11_within_22 hnt rfl rfl rfl rfl hlocks (Or.inr ⟨rfl, by assumption, (by simp [okWhat, c_2, c_3])⟩)
set_option maxHeartbeats 4000000 in
set_option maxRecDepth 100000 in
theorem c_X11_leastWidth (l : Launch) (G : va_G) (cy : Nat → ClassId) (h0 : Nat) (r1 : Nat) (r2 : Nat) (r4 : Nat) (r6 : Nat) (r7 : Nat) (r9 : Nat) (r3 : Nat) : Kt l G cy yX11_leastWidth cX11_leastWidth 2 (some .int) ({ frames := 16, cells := 21, slots := 5600, locals := 500 } : Room) [.ref h0] [(h0, .inr (10, [.ref r1, .int 0, .int (-1), .ref r2, .ref r4, .ref r6, .int (-2), .ref r7, .ref r9])), (r2, .inr (0, [.ref r3, .int 0, .int 0])), (r6, .inl (cy 5, 7, .inr (.inr (.inr (.inr (fun _ => none))))))] (fun (v : Option Value) (w1 : va_W) => v = some (.int (-1)) ∧ w1 = []) := by
  refine kt_ofW (by decide) (Nat.le_of_ble_eq_true rfl) ?_
  intro p e s m below meth c A ls hx hb hr hU hown hlocks hml hin hP hK hD hA hS hl
  have hown : s.vm.findClass RX11 = some m.cls := hown
  have hl : lv_has ls 2 [(0, .ref h0)] := hl
  refine lv_iconst (v := 0) hx hb dX11_leastWidth_0 (by decide) ?_
  refine lv_istore_n (lv' := [(1, .int 0), (0, .ref h0)]) hx hb dX11_leastWidth_1 rfl hl (by decide) rfl (fun ls hl => ?_)
  refine lv_iload_n hx hb dX11_leastWidth_2 rfl (lv_at hl 0 rfl) ?_
  refine lv_bipush (v := 6) hx hb dX11_leastWidth_3 (by decide) ?_
  refine lv_icmp_gt (tgt := 28) hx hb dX11_leastWidth_5 (by decide) (fun c9 => absurd c9 (by decide)) (fun _ => ?_)
  refine lv_aload_n hx hb dX11_leastWidth_8 rfl (lv_at hl 1 rfl) ?_
  refine lv_iload_n hx hb dX11_leastWidth_9 rfl (lv_at hl 0 rfl) ?_
  refine kt_callV (wc := [(h0, .inr (10, [.ref r1, .int 0, .int (-1), .ref r2, .ref r4, .ref r6, .int (-2), .ref r7, .ref r9])), (r2, .inr (0, [.ref r3, .int 0, .int 0])), (r6, .inl (cy 5, 7, .inr (.inr (.inr (.inr (fun _ => none))))))]) (wr := []) (As := [.int 0]) (rest := []) (c_X11_closureOf l G cy h0 r1 r2 r4 r6 r7 r9 r3 (fun _ => none) 0 (lx_in (by decide +kernel)) (by first | rfl | simp [va_up])) m_X11_closureOf u_329 hx hb hml hown hU hl.1 hK hP hD hS hA dX11_leastWidth_10 [0, 1, 2] [] rfl rfl rfl rfl rfl rfl (Nat.le_of_ble_eq_true rfl) (ci := 10) rfl rfl rfl (fun v9 w9 H locs hw hP hD hS => ?_)
  obtain ⟨x_1, x_2, x_3, rfl, rfl⟩ := hw
  have hP : va_P G vwCl [(h0, .inr (10, [.ref r1, .int 0, .int (-1), .ref r2, .ref r4, .ref r6, .int (-2), .ref r7, .ref r9])), (r2, .inr (0, [.ref r3, .int 0, .int 0])), (r6, .inl (cy 5, 7, .inr (.inr (.inr (.inr (va_up (fun _ => none) (0 : Int32).toNatClampNeg (some x_1))))))), (x_1, .inr (2, [.int 0, .ref x_2, .ref x_3, .int 0, .int 0, .int (-1), .int 1])), (x_2, .inl (cy 2, 64, .inr (.inl (fun _ => 0)))), (x_3, .inl (cy 1, 729, .inl (fun _ => 0)))] H := hP
  have hD : va_D A [(h0, .inr (10, [.ref r1, .int 0, .int (-1), .ref r2, .ref r4, .ref r6, .int (-2), .ref r7, .ref r9])), (r2, .inr (0, [.ref r3, .int 0, .int 0])), (r6, .inl (cy 5, 7, .inr (.inr (.inr (.inr (va_up (fun _ => none) (0 : Int32).toNatClampNeg (some x_1))))))), (x_1, .inr (2, [.int 0, .ref x_2, .ref x_3, .int 0, .int 0, .int (-1), .int 1])), (x_2, .inl (cy 2, 64, .inr (.inl (fun _ => 0)))), (x_3, .inl (cy 1, 729, .inl (fun _ => 0)))] := hD
  refine W.eq (g2 := F0 m 13 ls [.ref x_1]) rfl ?_
  refine W.widen (k := 3) (n := 800) (Nat.le_of_ble_eq_true rfl) (Nat.le_of_ble_eq_true rfl) ?_
  refine va_get (D := G) (ci := 2) (v := .int (-1)) (C := RX2) (T := TX2) (N := 7) hx hb hU in_X2 hown hK.1 hP 3 rfl rfl 5 (by decide) (hU _ u_346) (fun _ h9 => h9) rfl dX11_leastWidth_13 ?_
  refine lv_iconst (v := (-1)) hx hb dX11_leastWidth_16 (by decide) ?_
  refine lv_icmp_eq (tgt := 22) hx hb dX11_leastWidth_17 (by decide) (fun _ => ?_) (fun c9 => absurd (by decide) c9)
  refine lv_iinc (v := 1) (lv' := [(1, .int 1), (0, .ref h0)]) hx hb dX11_leastWidth_22 hl (k := 0) rfl (by decide) (by decide) rfl (fun ls hl => ?_)
  refine lv_goto (tgt := 2) hx hb dX11_leastWidth_25 (by decide) ?_
  refine lv_iload_n hx hb dX11_leastWidth_2 rfl (lv_at hl 0 rfl) ?_
  refine lv_bipush (v := 6) hx hb dX11_leastWidth_3 (by decide) ?_
  refine lv_icmp_gt (tgt := 28) hx hb dX11_leastWidth_5 (by decide) (fun c9 => absurd c9 (by decide)) (fun _ => ?_)
  refine lv_aload_n hx hb dX11_leastWidth_8 rfl (lv_at hl 1 rfl) ?_
  refine lv_iload_n hx hb dX11_leastWidth_9 rfl (lv_at hl 0 rfl) ?_
  refine kt_callV (wc := [(h0, .inr (10, [.ref r1, .int 0, .int (-1), .ref r2, .ref r4, .ref r6, .int (-2), .ref r7, .ref r9])), (r2, .inr (0, [.ref r3, .int 0, .int 0])), (r6, .inl (cy 5, 7, .inr (.inr (.inr (.inr (va_up (fun _ => none) (0 : Int32).toNatClampNeg (some x_1)))))))]) (wr := [(x_1, .inr (2, [.int 0, .ref x_2, .ref x_3, .int 0, .int 0, .int (-1), .int 1])), (x_2, .inl (cy 2, 64, .inr (.inl (fun _ => 0)))), (x_3, .inl (cy 1, 729, .inl (fun _ => 0)))]) (As := [.int 1]) (rest := []) (c_X11_closureOf l G cy h0 r1 r2 r4 r6 r7 r9 r3 (va_up (fun _ => none) (0 : Int32).toNatClampNeg (some x_1)) 1 (lx_in (by decide +kernel)) (by first | rfl | simp [va_up])) m_X11_closureOf u_329 hx hb hml hown hU hl.1 hK hP hD hS hA dX11_leastWidth_10 [0, 1, 2] [3, 4, 5] rfl rfl rfl rfl rfl rfl (Nat.le_of_ble_eq_true rfl) (ci := 10) rfl rfl rfl (fun v9 w9 H locs hw hP hD hS => ?_)
  obtain ⟨x_4, x_5, x_6, rfl, rfl⟩ := hw
  have hP : va_P G vwCl [(x_1, .inr (2, [.int 0, .ref x_2, .ref x_3, .int 0, .int 0, .int (-1), .int 1])), (x_2, .inl (cy 2, 64, .inr (.inl (fun _ => 0)))), (x_3, .inl (cy 1, 729, .inl (fun _ => 0))), (h0, .inr (10, [.ref r1, .int 0, .int (-1), .ref r2, .ref r4, .ref r6, .int (-2), .ref r7, .ref r9])), (r2, .inr (0, [.ref r3, .int 0, .int 0])), (r6, .inl (cy 5, 7, .inr (.inr (.inr (.inr (va_up (va_up (fun _ => none) (0 : Int32).toNatClampNeg (some x_1)) (1 : Int32).toNatClampNeg (some x_4))))))), (x_4, .inr (2, [.int 1, .ref x_5, .ref x_6, .int 0, .int 0, .int (-1), .int 1])), (x_5, .inl (cy 2, 64, .inr (.inl (fun _ => 0)))), (x_6, .inl (cy 1, 729, .inl (fun _ => 0)))] H := hP
  have hD : va_D A [(x_1, .inr (2, [.int 0, .ref x_2, .ref x_3, .int 0, .int 0, .int (-1), .int 1])), (x_2, .inl (cy 2, 64, .inr (.inl (fun _ => 0)))), (x_3, .inl (cy 1, 729, .inl (fun _ => 0))), (h0, .inr (10, [.ref r1, .int 0, .int (-1), .ref r2, .ref r4, .ref r6, .int (-2), .ref r7, .ref r9])), (r2, .inr (0, [.ref r3, .int 0, .int 0])), (r6, .inl (cy 5, 7, .inr (.inr (.inr (.inr (va_up (va_up (fun _ => none) (0 : Int32).toNatClampNeg (some x_1)) (1 : Int32).toNatClampNeg (some x_4))))))), (x_4, .inr (2, [.int 1, .ref x_5, .ref x_6, .int 0, .int 0, .int (-1), .int 1])), (x_5, .inl (cy 2, 64, .inr (.inl (fun _ => 0)))), (x_6, .inl (cy 1, 729, .inl (fun _ => 0)))] := hD
  refine W.eq (g2 := F0 m 13 ls [.ref x_4]) rfl ?_
  refine W.widen (k := 6) (n := 1600) (Nat.le_of_ble_eq_true rfl) (Nat.le_of_ble_eq_true rfl) ?_
  refine va_get (D := G) (ci := 2) (v := .int (-1)) (C := RX2) (T := TX2) (N := 7) hx hb hU in_X2 hown hK.1 hP 6 rfl rfl 5 (by decide) (hU _ u_346) (fun _ h9 => h9) rfl dX11_leastWidth_13 ?_
  refine lv_iconst (v := (-1)) hx hb dX11_leastWidth_16 (by decide) ?_
  refine lv_icmp_eq (tgt := 22) hx hb dX11_leastWidth_17 (by decide) (fun _ => ?_) (fun c9 => absurd (by decide) c9)
  refine lv_iinc (v := 2) (lv' := [(1, .int 2), (0, .ref h0)]) hx hb dX11_leastWidth_22 hl (k := 0) rfl (by decide) (by decide) rfl (fun ls hl => ?_)
  refine lv_goto (tgt := 2) hx hb dX11_leastWidth_25 (by decide) ?_
  refine lv_iload_n hx hb dX11_leastWidth_2 rfl (lv_at hl 0 rfl) ?_
  refine lv_bipush (v := 6) hx hb dX11_leastWidth_3 (by decide) ?_
  refine lv_icmp_gt (tgt := 28) hx hb dX11_leastWidth_5 (by decide) (fun c9 => absurd c9 (by decide)) (fun _ => ?_)
  refine lv_aload_n hx hb dX11_leastWidth_8 rfl (lv_at hl 1 rfl) ?_
  refine lv_iload_n hx hb dX11_leastWidth_9 rfl (lv_at hl 0 rfl) ?_
  refine kt_callV (wc := [(h0, .inr (10, [.ref r1, .int 0, .int (-1), .ref r2, .ref r4, .ref r6, .int (-2), .ref r7, .ref r9])), (r2, .inr (0, [.ref r3, .int 0, .int 0])), (r6, .inl (cy 5, 7, .inr (.inr (.inr (.inr (va_up (va_up (fun _ => none) (0 : Int32).toNatClampNeg (some x_1)) (1 : Int32).toNatClampNeg (some x_4)))))))]) (wr := [(x_1, .inr (2, [.int 0, .ref x_2, .ref x_3, .int 0, .int 0, .int (-1), .int 1])), (x_2, .inl (cy 2, 64, .inr (.inl (fun _ => 0)))), (x_3, .inl (cy 1, 729, .inl (fun _ => 0))), (x_4, .inr (2, [.int 1, .ref x_5, .ref x_6, .int 0, .int 0, .int (-1), .int 1])), (x_5, .inl (cy 2, 64, .inr (.inl (fun _ => 0)))), (x_6, .inl (cy 1, 729, .inl (fun _ => 0)))]) (As := [.int 2]) (rest := []) (c_X11_closureOf l G cy h0 r1 r2 r4 r6 r7 r9 r3 (va_up (va_up (fun _ => none) (0 : Int32).toNatClampNeg (some x_1)) (1 : Int32).toNatClampNeg (some x_4)) 2 (lx_in (by decide +kernel)) (by first | rfl | simp [va_up])) m_X11_closureOf u_329 hx hb hml hown hU hl.1 hK hP hD hS hA dX11_leastWidth_10 [3, 4, 5] [0, 1, 2, 6, 7, 8] rfl rfl rfl rfl rfl rfl (Nat.le_of_ble_eq_true rfl) (ci := 10) rfl rfl rfl (fun v9 w9 H locs hw hP hD hS => ?_)
  obtain ⟨x_7, x_8, x_9, rfl, rfl⟩ := hw
  have hP : va_P G vwCl [(x_1, .inr (2, [.int 0, .ref x_2, .ref x_3, .int 0, .int 0, .int (-1), .int 1])), (x_2, .inl (cy 2, 64, .inr (.inl (fun _ => 0)))), (x_3, .inl (cy 1, 729, .inl (fun _ => 0))), (x_4, .inr (2, [.int 1, .ref x_5, .ref x_6, .int 0, .int 0, .int (-1), .int 1])), (x_5, .inl (cy 2, 64, .inr (.inl (fun _ => 0)))), (x_6, .inl (cy 1, 729, .inl (fun _ => 0))), (h0, .inr (10, [.ref r1, .int 0, .int (-1), .ref r2, .ref r4, .ref r6, .int (-2), .ref r7, .ref r9])), (r2, .inr (0, [.ref r3, .int 0, .int 0])), (r6, .inl (cy 5, 7, .inr (.inr (.inr (.inr (va_up (va_up (va_up (fun _ => none) (0 : Int32).toNatClampNeg (some x_1)) (1 : Int32).toNatClampNeg (some x_4)) (2 : Int32).toNatClampNeg (some x_7))))))), (x_7, .inr (2, [.int 2, .ref x_8, .ref x_9, .int 0, .int 0, .int (-1), .int 1])), (x_8, .inl (cy 2, 64, .inr (.inl (fun _ => 0)))), (x_9, .inl (cy 1, 729, .inl (fun _ => 0)))] H := hP
  have hD : va_D A [(x_1, .inr (2, [.int 0, .ref x_2, .ref x_3, .int 0, .int 0, .int (-1), .int 1])), (x_2, .inl (cy 2, 64, .inr (.inl (fun _ => 0)))), (x_3, .inl (cy 1, 729, .inl (fun _ => 0))), (x_4, .inr (2, [.int 1, .ref x_5, .ref x_6, .int 0, .int 0, .int (-1), .int 1])), (x_5, .inl (cy 2, 64, .inr (.inl (fun _ => 0)))), (x_6, .inl (cy 1, 729, .inl (fun _ => 0))), (h0, .inr (10, [.ref r1, .int 0, .int (-1), .ref r2, .ref r4, .ref r6, .int (-2), .ref r7, .ref r9])), (r2, .inr (0, [.ref r3, .int 0, .int 0])), (r6, .inl (cy 5, 7, .inr (.inr (.inr (.inr (va_up (va_up (va_up (fun _ => none) (0 : Int32).toNatClampNeg (some x_1)) (1 : Int32).toNatClampNeg (some x_4)) (2 : Int32).toNatClampNeg (some x_7))))))), (x_7, .inr (2, [.int 2, .ref x_8, .ref x_9, .int 0, .int 0, .int (-1), .int 1])), (x_8, .inl (cy 2, 64, .inr (.inl (fun _ => 0)))), (x_9, .inl (cy 1, 729, .inl (fun _ => 0)))] := hD
  refine W.eq (g2 := F0 m 13 ls [.ref x_7]) rfl ?_
  refine W.widen (k := 9) (n := 2400) (Nat.le_of_ble_eq_true rfl) (Nat.le_of_ble_eq_true rfl) ?_
  refine va_get (D := G) (ci := 2) (v := .int (-1)) (C := RX2) (T := TX2) (N := 7) hx hb hU in_X2 hown hK.1 hP 9 rfl rfl 5 (by decide) (hU _ u_346) (fun _ h9 => h9) rfl dX11_leastWidth_13 ?_
  refine lv_iconst (v := (-1)) hx hb dX11_leastWidth_16 (by decide) ?_
  refine lv_icmp_eq (tgt := 22) hx hb dX11_leastWidth_17 (by decide) (fun _ => ?_) (fun c9 => absurd (by decide) c9)
  refine lv_iinc (v := 3) (lv' := [(1, .int 3), (0, .ref h0)]) hx hb dX11_leastWidth_22 hl (k := 0) rfl (by decide) (by decide) rfl (fun ls hl => ?_)
  refine lv_goto (tgt := 2) hx hb dX11_leastWidth_25 (by decide) ?_
  refine lv_iload_n hx hb dX11_leastWidth_2 rfl (lv_at hl 0 rfl) ?_
  refine lv_bipush (v := 6) hx hb dX11_leastWidth_3 (by decide) ?_
  refine lv_icmp_gt (tgt := 28) hx hb dX11_leastWidth_5 (by decide) (fun c9 => absurd c9 (by decide)) (fun _ => ?_)
  refine lv_aload_n hx hb dX11_leastWidth_8 rfl (lv_at hl 1 rfl) ?_
  refine lv_iload_n hx hb dX11_leastWidth_9 rfl (lv_at hl 0 rfl) ?_
  refine kt_callV (wc := [(h0, .inr (10, [.ref r1, .int 0, .int (-1), .ref r2, .ref r4, .ref r6, .int (-2), .ref r7, .ref r9])), (r2, .inr (0, [.ref r3, .int 0, .int 0])), (r6, .inl (cy 5, 7, .inr (.inr (.inr (.inr (va_up (va_up (va_up (fun _ => none) (0 : Int32).toNatClampNeg (some x_1)) (1 : Int32).toNatClampNeg (some x_4)) (2 : Int32).toNatClampNeg (some x_7)))))))]) (wr := [(x_1, .inr (2, [.int 0, .ref x_2, .ref x_3, .int 0, .int 0, .int (-1), .int 1])), (x_2, .inl (cy 2, 64, .inr (.inl (fun _ => 0)))), (x_3, .inl (cy 1, 729, .inl (fun _ => 0))), (x_4, .inr (2, [.int 1, .ref x_5, .ref x_6, .int 0, .int 0, .int (-1), .int 1])), (x_5, .inl (cy 2, 64, .inr (.inl (fun _ => 0)))), (x_6, .inl (cy 1, 729, .inl (fun _ => 0))), (x_7, .inr (2, [.int 2, .ref x_8, .ref x_9, .int 0, .int 0, .int (-1), .int 1])), (x_8, .inl (cy 2, 64, .inr (.inl (fun _ => 0)))), (x_9, .inl (cy 1, 729, .inl (fun _ => 0)))]) (As := [.int 3]) (rest := []) (c_X11_closureOf l G cy h0 r1 r2 r4 r6 r7 r9 r3 (va_up (va_up (va_up (fun _ => none) (0 : Int32).toNatClampNeg (some x_1)) (1 : Int32).toNatClampNeg (some x_4)) (2 : Int32).toNatClampNeg (some x_7)) 3 (lx_in (by decide +kernel)) (by first | rfl | simp [va_up])) m_X11_closureOf u_329 hx hb hml hown hU hl.1 hK hP hD hS hA dX11_leastWidth_10 [6, 7, 8] [0, 1, 2, 3, 4, 5, 9, 10, 11] rfl rfl rfl rfl rfl rfl (Nat.le_of_ble_eq_true rfl) (ci := 10) rfl rfl rfl (fun v9 w9 H locs hw hP hD hS => ?_)
  obtain ⟨x_10, x_11, x_12, rfl, rfl⟩ := hw
  have hP : va_P G vwCl [(x_1, .inr (2, [.int 0, .ref x_2, .ref x_3, .int 0, .int 0, .int (-1), .int 1])), (x_2, .inl (cy 2, 64, .inr (.inl (fun _ => 0)))), (x_3, .inl (cy 1, 729, .inl (fun _ => 0))), (x_4, .inr (2, [.int 1, .ref x_5, .ref x_6, .int 0, .int 0, .int (-1), .int 1])), (x_5, .inl (cy 2, 64, .inr (.inl (fun _ => 0)))), (x_6, .inl (cy 1, 729, .inl (fun _ => 0))), (x_7, .inr (2, [.int 2, .ref x_8, .ref x_9, .int 0, .int 0, .int (-1), .int 1])), (x_8, .inl (cy 2, 64, .inr (.inl (fun _ => 0)))), (x_9, .inl (cy 1, 729, .inl (fun _ => 0))), (h0, .inr (10, [.ref r1, .int 0, .int (-1), .ref r2, .ref r4, .ref r6, .int (-2), .ref r7, .ref r9])), (r2, .inr (0, [.ref r3, .int 0, .int 0])), (r6, .inl (cy 5, 7, .inr (.inr (.inr (.inr (va_up (va_up (va_up (va_up (fun _ => none) (0 : Int32).toNatClampNeg (some x_1)) (1 : Int32).toNatClampNeg (some x_4)) (2 : Int32).toNatClampNeg (some x_7)) (3 : Int32).toNatClampNeg (some x_10))))))), (x_10, .inr (2, [.int 3, .ref x_11, .ref x_12, .int 0, .int 0, .int (-1), .int 1])), (x_11, .inl (cy 2, 64, .inr (.inl (fun _ => 0)))), (x_12, .inl (cy 1, 729, .inl (fun _ => 0)))] H := hP
  have hD : va_D A [(x_1, .inr (2, [.int 0, .ref x_2, .ref x_3, .int 0, .int 0, .int (-1), .int 1])), (x_2, .inl (cy 2, 64, .inr (.inl (fun _ => 0)))), (x_3, .inl (cy 1, 729, .inl (fun _ => 0))), (x_4, .inr (2, [.int 1, .ref x_5, .ref x_6, .int 0, .int 0, .int (-1), .int 1])), (x_5, .inl (cy 2, 64, .inr (.inl (fun _ => 0)))), (x_6, .inl (cy 1, 729, .inl (fun _ => 0))), (x_7, .inr (2, [.int 2, .ref x_8, .ref x_9, .int 0, .int 0, .int (-1), .int 1])), (x_8, .inl (cy 2, 64, .inr (.inl (fun _ => 0)))), (x_9, .inl (cy 1, 729, .inl (fun _ => 0))), (h0, .inr (10, [.ref r1, .int 0, .int (-1), .ref r2, .ref r4, .ref r6, .int (-2), .ref r7, .ref r9])), (r2, .inr (0, [.ref r3, .int 0, .int 0])), (r6, .inl (cy 5, 7, .inr (.inr (.inr (.inr (va_up (va_up (va_up (va_up (fun _ => none) (0 : Int32).toNatClampNeg (some x_1)) (1 : Int32).toNatClampNeg (some x_4)) (2 : Int32).toNatClampNeg (some x_7)) (3 : Int32).toNatClampNeg (some x_10))))))), (x_10, .inr (2, [.int 3, .ref x_11, .ref x_12, .int 0, .int 0, .int (-1), .int 1])), (x_11, .inl (cy 2, 64, .inr (.inl (fun _ => 0)))), (x_12, .inl (cy 1, 729, .inl (fun _ => 0)))] := hD
  refine W.eq (g2 := F0 m 13 ls [.ref x_10]) rfl ?_
  refine W.widen (k := 12) (n := 3200) (Nat.le_of_ble_eq_true rfl) (Nat.le_of_ble_eq_true rfl) ?_
  refine va_get (D := G) (ci := 2) (v := .int (-1)) (C := RX2) (T := TX2) (N := 7) hx hb hU in_X2 hown hK.1 hP 12 rfl rfl 5 (by decide) (hU _ u_346) (fun _ h9 => h9) rfl dX11_leastWidth_13 ?_
  refine lv_iconst (v := (-1)) hx hb dX11_leastWidth_16 (by decide) ?_
  refine lv_icmp_eq (tgt := 22) hx hb dX11_leastWidth_17 (by decide) (fun _ => ?_) (fun c9 => absurd (by decide) c9)
  refine lv_iinc (v := 4) (lv' := [(1, .int 4), (0, .ref h0)]) hx hb dX11_leastWidth_22 hl (k := 0) rfl (by decide) (by decide) rfl (fun ls hl => ?_)
  refine lv_goto (tgt := 2) hx hb dX11_leastWidth_25 (by decide) ?_
  refine lv_iload_n hx hb dX11_leastWidth_2 rfl (lv_at hl 0 rfl) ?_
  refine lv_bipush (v := 6) hx hb dX11_leastWidth_3 (by decide) ?_
  refine lv_icmp_gt (tgt := 28) hx hb dX11_leastWidth_5 (by decide) (fun c9 => absurd c9 (by decide)) (fun _ => ?_)
  refine lv_aload_n hx hb dX11_leastWidth_8 rfl (lv_at hl 1 rfl) ?_
  refine lv_iload_n hx hb dX11_leastWidth_9 rfl (lv_at hl 0 rfl) ?_
  refine kt_callV (wc := [(h0, .inr (10, [.ref r1, .int 0, .int (-1), .ref r2, .ref r4, .ref r6, .int (-2), .ref r7, .ref r9])), (r2, .inr (0, [.ref r3, .int 0, .int 0])), (r6, .inl (cy 5, 7, .inr (.inr (.inr (.inr (va_up (va_up (va_up (va_up (fun _ => none) (0 : Int32).toNatClampNeg (some x_1)) (1 : Int32).toNatClampNeg (some x_4)) (2 : Int32).toNatClampNeg (some x_7)) (3 : Int32).toNatClampNeg (some x_10)))))))]) (wr := [(x_1, .inr (2, [.int 0, .ref x_2, .ref x_3, .int 0, .int 0, .int (-1), .int 1])), (x_2, .inl (cy 2, 64, .inr (.inl (fun _ => 0)))), (x_3, .inl (cy 1, 729, .inl (fun _ => 0))), (x_4, .inr (2, [.int 1, .ref x_5, .ref x_6, .int 0, .int 0, .int (-1), .int 1])), (x_5, .inl (cy 2, 64, .inr (.inl (fun _ => 0)))), (x_6, .inl (cy 1, 729, .inl (fun _ => 0))), (x_7, .inr (2, [.int 2, .ref x_8, .ref x_9, .int 0, .int 0, .int (-1), .int 1])), (x_8, .inl (cy 2, 64, .inr (.inl (fun _ => 0)))), (x_9, .inl (cy 1, 729, .inl (fun _ => 0))), (x_10, .inr (2, [.int 3, .ref x_11, .ref x_12, .int 0, .int 0, .int (-1), .int 1])), (x_11, .inl (cy 2, 64, .inr (.inl (fun _ => 0)))), (x_12, .inl (cy 1, 729, .inl (fun _ => 0)))]) (As := [.int 4]) (rest := []) (c_X11_closureOf l G cy h0 r1 r2 r4 r6 r7 r9 r3 (va_up (va_up (va_up (va_up (fun _ => none) (0 : Int32).toNatClampNeg (some x_1)) (1 : Int32).toNatClampNeg (some x_4)) (2 : Int32).toNatClampNeg (some x_7)) (3 : Int32).toNatClampNeg (some x_10)) 4 (lx_in (by decide +kernel)) (by first | rfl | simp [va_up])) m_X11_closureOf u_329 hx hb hml hown hU hl.1 hK hP hD hS hA dX11_leastWidth_10 [9, 10, 11] [0, 1, 2, 3, 4, 5, 6, 7, 8, 12, 13, 14] rfl rfl rfl rfl rfl rfl (Nat.le_of_ble_eq_true rfl) (ci := 10) rfl rfl rfl (fun v9 w9 H locs hw hP hD hS => ?_)
  obtain ⟨x_13, x_14, x_15, rfl, rfl⟩ := hw
  have hP : va_P G vwCl [(x_1, .inr (2, [.int 0, .ref x_2, .ref x_3, .int 0, .int 0, .int (-1), .int 1])), (x_2, .inl (cy 2, 64, .inr (.inl (fun _ => 0)))), (x_3, .inl (cy 1, 729, .inl (fun _ => 0))), (x_4, .inr (2, [.int 1, .ref x_5, .ref x_6, .int 0, .int 0, .int (-1), .int 1])), (x_5, .inl (cy 2, 64, .inr (.inl (fun _ => 0)))), (x_6, .inl (cy 1, 729, .inl (fun _ => 0))), (x_7, .inr (2, [.int 2, .ref x_8, .ref x_9, .int 0, .int 0, .int (-1), .int 1])), (x_8, .inl (cy 2, 64, .inr (.inl (fun _ => 0)))), (x_9, .inl (cy 1, 729, .inl (fun _ => 0))), (x_10, .inr (2, [.int 3, .ref x_11, .ref x_12, .int 0, .int 0, .int (-1), .int 1])), (x_11, .inl (cy 2, 64, .inr (.inl (fun _ => 0)))), (x_12, .inl (cy 1, 729, .inl (fun _ => 0))), (h0, .inr (10, [.ref r1, .int 0, .int (-1), .ref r2, .ref r4, .ref r6, .int (-2), .ref r7, .ref r9])), (r2, .inr (0, [.ref r3, .int 0, .int 0])), (r6, .inl (cy 5, 7, .inr (.inr (.inr (.inr (va_up (va_up (va_up (va_up (va_up (fun _ => none) (0 : Int32).toNatClampNeg (some x_1)) (1 : Int32).toNatClampNeg (some x_4)) (2 : Int32).toNatClampNeg (some x_7)) (3 : Int32).toNatClampNeg (some x_10)) (4 : Int32).toNatClampNeg (some x_13))))))), (x_13, .inr (2, [.int 4, .ref x_14, .ref x_15, .int 0, .int 0, .int (-1), .int 1])), (x_14, .inl (cy 2, 64, .inr (.inl (fun _ => 0)))), (x_15, .inl (cy 1, 729, .inl (fun _ => 0)))] H := hP
  have hD : va_D A [(x_1, .inr (2, [.int 0, .ref x_2, .ref x_3, .int 0, .int 0, .int (-1), .int 1])), (x_2, .inl (cy 2, 64, .inr (.inl (fun _ => 0)))), (x_3, .inl (cy 1, 729, .inl (fun _ => 0))), (x_4, .inr (2, [.int 1, .ref x_5, .ref x_6, .int 0, .int 0, .int (-1), .int 1])), (x_5, .inl (cy 2, 64, .inr (.inl (fun _ => 0)))), (x_6, .inl (cy 1, 729, .inl (fun _ => 0))), (x_7, .inr (2, [.int 2, .ref x_8, .ref x_9, .int 0, .int 0, .int (-1), .int 1])), (x_8, .inl (cy 2, 64, .inr (.inl (fun _ => 0)))), (x_9, .inl (cy 1, 729, .inl (fun _ => 0))), (x_10, .inr (2, [.int 3, .ref x_11, .ref x_12, .int 0, .int 0, .int (-1), .int 1])), (x_11, .inl (cy 2, 64, .inr (.inl (fun _ => 0)))), (x_12, .inl (cy 1, 729, .inl (fun _ => 0))), (h0, .inr (10, [.ref r1, .int 0, .int (-1), .ref r2, .ref r4, .ref r6, .int (-2), .ref r7, .ref r9])), (r2, .inr (0, [.ref r3, .int 0, .int 0])), (r6, .inl (cy 5, 7, .inr (.inr (.inr (.inr (va_up (va_up (va_up (va_up (va_up (fun _ => none) (0 : Int32).toNatClampNeg (some x_1)) (1 : Int32).toNatClampNeg (some x_4)) (2 : Int32).toNatClampNeg (some x_7)) (3 : Int32).toNatClampNeg (some x_10)) (4 : Int32).toNatClampNeg (some x_13))))))), (x_13, .inr (2, [.int 4, .ref x_14, .ref x_15, .int 0, .int 0, .int (-1), .int 1])), (x_14, .inl (cy 2, 64, .inr (.inl (fun _ => 0)))), (x_15, .inl (cy 1, 729, .inl (fun _ => 0)))] := hD
  refine W.eq (g2 := F0 m 13 ls [.ref x_13]) rfl ?_
  refine W.widen (k := 15) (n := 4000) (Nat.le_of_ble_eq_true rfl) (Nat.le_of_ble_eq_true rfl) ?_
  refine va_get (D := G) (ci := 2) (v := .int (-1)) (C := RX2) (T := TX2) (N := 7) hx hb hU in_X2 hown hK.1 hP 15 rfl rfl 5 (by decide) (hU _ u_346) (fun _ h9 => h9) rfl dX11_leastWidth_13 ?_
  refine lv_iconst (v := (-1)) hx hb dX11_leastWidth_16 (by decide) ?_
  refine lv_icmp_eq (tgt := 22) hx hb dX11_leastWidth_17 (by decide) (fun _ => ?_) (fun c9 => absurd (by decide) c9)
  refine lv_iinc (v := 5) (lv' := [(1, .int 5), (0, .ref h0)]) hx hb dX11_leastWidth_22 hl (k := 0) rfl (by decide) (by decide) rfl (fun ls hl => ?_)
  refine lv_goto (tgt := 2) hx hb dX11_leastWidth_25 (by decide) ?_
  refine lv_iload_n hx hb dX11_leastWidth_2 rfl (lv_at hl 0 rfl) ?_
  refine lv_bipush (v := 6) hx hb dX11_leastWidth_3 (by decide) ?_
  refine lv_icmp_gt (tgt := 28) hx hb dX11_leastWidth_5 (by decide) (fun c9 => absurd c9 (by decide)) (fun _ => ?_)
  refine lv_aload_n hx hb dX11_leastWidth_8 rfl (lv_at hl 1 rfl) ?_
  refine lv_iload_n hx hb dX11_leastWidth_9 rfl (lv_at hl 0 rfl) ?_
  refine kt_callV (wc := [(h0, .inr (10, [.ref r1, .int 0, .int (-1), .ref r2, .ref r4, .ref r6, .int (-2), .ref r7, .ref r9])), (r2, .inr (0, [.ref r3, .int 0, .int 0])), (r6, .inl (cy 5, 7, .inr (.inr (.inr (.inr (va_up (va_up (va_up (va_up (va_up (fun _ => none) (0 : Int32).toNatClampNeg (some x_1)) (1 : Int32).toNatClampNeg (some x_4)) (2 : Int32).toNatClampNeg (some x_7)) (3 : Int32).toNatClampNeg (some x_10)) (4 : Int32).toNatClampNeg (some x_13)))))))]) (wr := [(x_1, .inr (2, [.int 0, .ref x_2, .ref x_3, .int 0, .int 0, .int (-1), .int 1])), (x_2, .inl (cy 2, 64, .inr (.inl (fun _ => 0)))), (x_3, .inl (cy 1, 729, .inl (fun _ => 0))), (x_4, .inr (2, [.int 1, .ref x_5, .ref x_6, .int 0, .int 0, .int (-1), .int 1])), (x_5, .inl (cy 2, 64, .inr (.inl (fun _ => 0)))), (x_6, .inl (cy 1, 729, .inl (fun _ => 0))), (x_7, .inr (2, [.int 2, .ref x_8, .ref x_9, .int 0, .int 0, .int (-1), .int 1])), (x_8, .inl (cy 2, 64, .inr (.inl (fun _ => 0)))), (x_9, .inl (cy 1, 729, .inl (fun _ => 0))), (x_10, .inr (2, [.int 3, .ref x_11, .ref x_12, .int 0, .int 0, .int (-1), .int 1])), (x_11, .inl (cy 2, 64, .inr (.inl (fun _ => 0)))), (x_12, .inl (cy 1, 729, .inl (fun _ => 0))), (x_13, .inr (2, [.int 4, .ref x_14, .ref x_15, .int 0, .int 0, .int (-1), .int 1])), (x_14, .inl (cy 2, 64, .inr (.inl (fun _ => 0)))), (x_15, .inl (cy 1, 729, .inl (fun _ => 0)))]) (As := [.int 5]) (rest := []) (c_X11_closureOf l G cy h0 r1 r2 r4 r6 r7 r9 r3 (va_up (va_up (va_up (va_up (va_up (fun _ => none) (0 : Int32).toNatClampNeg (some x_1)) (1 : Int32).toNatClampNeg (some x_4)) (2 : Int32).toNatClampNeg (some x_7)) (3 : Int32).toNatClampNeg (some x_10)) (4 : Int32).toNatClampNeg (some x_13)) 5 (lx_in (by decide +kernel)) (by first | rfl | simp [va_up])) m_X11_closureOf u_329 hx hb hml hown hU hl.1 hK hP hD hS hA dX11_leastWidth_10 [12, 13, 14] [0, 1, 2, 3, 4, 5, 6, 7, 8, 9, 10, 11, 15, 16, 17] rfl rfl rfl rfl rfl rfl (Nat.le_of_ble_eq_true rfl) (ci := 10) rfl rfl rfl (fun v9 w9 H locs hw hP hD hS => ?_)
  obtain ⟨x_16, x_17, x_18, rfl, rfl⟩ := hw
  have hP : va_P G vwCl [(x_1, .inr (2, [.int 0, .ref x_2, .ref x_3, .int 0, .int 0, .int (-1), .int 1])), (x_2, .inl (cy 2, 64, .inr (.inl (fun _ => 0)))), (x_3, .inl (cy 1, 729, .inl (fun _ => 0))), (x_4, .inr (2, [.int 1, .ref x_5, .ref x_6, .int 0, .int 0, .int (-1), .int 1])), (x_5, .inl (cy 2, 64, .inr (.inl (fun _ => 0)))), (x_6, .inl (cy 1, 729, .inl (fun _ => 0))), (x_7, .inr (2, [.int 2, .ref x_8, .ref x_9, .int 0, .int 0, .int (-1), .int 1])), (x_8, .inl (cy 2, 64, .inr (.inl (fun _ => 0)))), (x_9, .inl (cy 1, 729, .inl (fun _ => 0))), (x_10, .inr (2, [.int 3, .ref x_11, .ref x_12, .int 0, .int 0, .int (-1), .int 1])), (x_11, .inl (cy 2, 64, .inr (.inl (fun _ => 0)))), (x_12, .inl (cy 1, 729, .inl (fun _ => 0))), (x_13, .inr (2, [.int 4, .ref x_14, .ref x_15, .int 0, .int 0, .int (-1), .int 1])), (x_14, .inl (cy 2, 64, .inr (.inl (fun _ => 0)))), (x_15, .inl (cy 1, 729, .inl (fun _ => 0))), (h0, .inr (10, [.ref r1, .int 0, .int (-1), .ref r2, .ref r4, .ref r6, .int (-2), .ref r7, .ref r9])), (r2, .inr (0, [.ref r3, .int 0, .int 0])), (r6, .inl (cy 5, 7, .inr (.inr (.inr (.inr (va_up (va_up (va_up (va_up (va_up (va_up (fun _ => none) (0 : Int32).toNatClampNeg (some x_1)) (1 : Int32).toNatClampNeg (some x_4)) (2 : Int32).toNatClampNeg (some x_7)) (3 : Int32).toNatClampNeg (some x_10)) (4 : Int32).toNatClampNeg (some x_13)) (5 : Int32).toNatClampNeg (some x_16))))))), (x_16, .inr (2, [.int 5, .ref x_17, .ref x_18, .int 0, .int 0, .int (-1), .int 1])), (x_17, .inl (cy 2, 64, .inr (.inl (fun _ => 0)))), (x_18, .inl (cy 1, 729, .inl (fun _ => 0)))] H := hP
  have hD : va_D A [(x_1, .inr (2, [.int 0, .ref x_2, .ref x_3, .int 0, .int 0, .int (-1), .int 1])), (x_2, .inl (cy 2, 64, .inr (.inl (fun _ => 0)))), (x_3, .inl (cy 1, 729, .inl (fun _ => 0))), (x_4, .inr (2, [.int 1, .ref x_5, .ref x_6, .int 0, .int 0, .int (-1), .int 1])), (x_5, .inl (cy 2, 64, .inr (.inl (fun _ => 0)))), (x_6, .inl (cy 1, 729, .inl (fun _ => 0))), (x_7, .inr (2, [.int 2, .ref x_8, .ref x_9, .int 0, .int 0, .int (-1), .int 1])), (x_8, .inl (cy 2, 64, .inr (.inl (fun _ => 0)))), (x_9, .inl (cy 1, 729, .inl (fun _ => 0))), (x_10, .inr (2, [.int 3, .ref x_11, .ref x_12, .int 0, .int 0, .int (-1), .int 1])), (x_11, .inl (cy 2, 64, .inr (.inl (fun _ => 0)))), (x_12, .inl (cy 1, 729, .inl (fun _ => 0))), (x_13, .inr (2, [.int 4, .ref x_14, .ref x_15, .int 0, .int 0, .int (-1), .int 1])), (x_14, .inl (cy 2, 64, .inr (.inl (fun _ => 0)))), (x_15, .inl (cy 1, 729, .inl (fun _ => 0))), (h0, .inr (10, [.ref r1, .int 0, .int (-1), .ref r2, .ref r4, .ref r6, .int (-2), .ref r7, .ref r9])), (r2, .inr (0, [.ref r3, .int 0, .int 0])), (r6, .inl (cy 5, 7, .inr (.inr (.inr (.inr (va_up (va_up (va_up (va_up (va_up (va_up (fun _ => none) (0 : Int32).toNatClampNeg (some x_1)) (1 : Int32).toNatClampNeg (some x_4)) (2 : Int32).toNatClampNeg (some x_7)) (3 : Int32).toNatClampNeg (some x_10)) (4 : Int32).toNatClampNeg (some x_13)) (5 : Int32).toNatClampNeg (some x_16))))))), (x_16, .inr (2, [.int 5, .ref x_17, .ref x_18, .int 0, .int 0, .int (-1), .int 1])), (x_17, .inl (cy 2, 64, .inr (.inl (fun _ => 0)))), (x_18, .inl (cy 1, 729, .inl (fun _ => 0)))] := hD
  refine W.eq (g2 := F0 m 13 ls [.ref x_16]) rfl ?_
  refine W.widen (k := 18) (n := 4800) (Nat.le_of_ble_eq_true rfl) (Nat.le_of_ble_eq_true rfl) ?_
  refine va_get (D := G) (ci := 2) (v := .int (-1)) (C := RX2) (T := TX2) (N := 7) hx hb hU in_X2 hown hK.1 hP 18 rfl rfl 5 (by decide) (hU _ u_346) (fun _ h9 => h9) rfl dX11_leastWidth_13 ?_
  refine lv_iconst (v := (-1)) hx hb dX11_leastWidth_16 (by decide) ?_
  refine lv_icmp_eq (tgt := 22) hx hb dX11_leastWidth_17 (by decide) (fun _ => ?_) (fun c9 => absurd (by decide) c9)
  refine lv_iinc (v := 6) (lv' := [(1, .int 6), (0, .ref h0)]) hx hb dX11_leastWidth_22 hl (k := 0) rfl (by decide) (by decide) rfl (fun ls hl => ?_)
  refine lv_goto (tgt := 2) hx hb dX11_leastWidth_25 (by decide) ?_
  refine lv_iload_n hx hb dX11_leastWidth_2 rfl (lv_at hl 0 rfl) ?_
  refine lv_bipush (v := 6) hx hb dX11_leastWidth_3 (by decide) ?_
  refine lv_icmp_gt (tgt := 28) hx hb dX11_leastWidth_5 (by decide) (fun c9 => absurd c9 (by decide)) (fun _ => ?_)
  refine lv_aload_n hx hb dX11_leastWidth_8 rfl (lv_at hl 1 rfl) ?_
  refine lv_iload_n hx hb dX11_leastWidth_9 rfl (lv_at hl 0 rfl) ?_
  refine kt_callV (wc := [(h0, .inr (10, [.ref r1, .int 0, .int (-1), .ref r2, .ref r4, .ref r6, .int (-2), .ref r7, .ref r9])), (r2, .inr (0, [.ref r3, .int 0, .int 0])), (r6, .inl (cy 5, 7, .inr (.inr (.inr (.inr (va_up (va_up (va_up (va_up (va_up (va_up (fun _ => none) (0 : Int32).toNatClampNeg (some x_1)) (1 : Int32).toNatClampNeg (some x_4)) (2 : Int32).toNatClampNeg (some x_7)) (3 : Int32).toNatClampNeg (some x_10)) (4 : Int32).toNatClampNeg (some x_13)) (5 : Int32).toNatClampNeg (some x_16)))))))]) (wr := [(x_1, .inr (2, [.int 0, .ref x_2, .ref x_3, .int 0, .int 0, .int (-1), .int 1])), (x_2, .inl (cy 2, 64, .inr (.inl (fun _ => 0)))), (x_3, .inl (cy 1, 729, .inl (fun _ => 0))), (x_4, .inr (2, [.int 1, .ref x_5, .ref x_6, .int 0, .int 0, .int (-1), .int 1])), (x_5, .inl (cy 2, 64, .inr (.inl (fun _ => 0)))), (x_6, .inl (cy 1, 729, .inl (fun _ => 0))), (x_7, .inr (2, [.int 2, .ref x_8, .ref x_9, .int 0, .int 0, .int (-1), .int 1])), (x_8, .inl (cy 2, 64, .inr (.inl (fun _ => 0)))), (x_9, .inl (cy 1, 729, .inl (fun _ => 0))), (x_10, .inr (2, [.int 3, .ref x_11, .ref x_12, .int 0, .int 0, .int (-1), .int 1])), (x_11, .inl (cy 2, 64, .inr (.inl (fun _ => 0)))), (x_12, .inl (cy 1, 729, .inl (fun _ => 0))), (x_13, .inr (2, [.int 4, .ref x_14, .ref x_15, .int 0, .int 0, .int (-1), .int 1])), (x_14, .inl (cy 2, 64, .inr (.inl (fun _ => 0)))), (x_15, .inl (cy 1, 729, .inl (fun _ => 0))), (x_16, .inr (2, [.int 5, .ref x_17, .ref x_18, .int 0, .int 0, .int (-1), .int 1])), (x_17, .inl (cy 2, 64, .inr (.inl (fun _ => 0)))), (x_18, .inl (cy 1, 729, .inl (fun _ => 0)))]) (As := [.int 6]) (rest := []) (c_X11_closureOf l G cy h0 r1 r2 r4 r6 r7 r9 r3 (va_up (va_up (va_up (va_up (va_up (va_up (fun _ => none) (0 : Int32).toNatClampNeg (some x_1)) (1 : Int32).toNatClampNeg (some x_4)) (2 : Int32).toNatClampNeg (some x_7)) (3 : Int32).toNatClampNeg (some x_10)) (4 : Int32).toNatClampNeg (some x_13)) (5 : Int32).toNatClampNeg (some x_16)) 6 (lx_in (by decide +kernel)) (by first | rfl | simp [va_up])) m_X11_closureOf u_329 hx hb hml hown hU hl.1 hK hP hD hS hA dX11_leastWidth_10 [15, 16, 17] [0, 1, 2, 3, 4, 5, 6, 7, 8, 9, 10, 11, 12, 13, 14, 18, 19, 20] rfl rfl rfl rfl rfl rfl (Nat.le_of_ble_eq_true rfl) (ci := 10) rfl rfl rfl (fun v9 w9 H locs hw hP hD hS => ?_)
  obtain ⟨x_19, x_20, x_21, rfl, rfl⟩ := hw
  have hP : va_P G vwCl [(x_1, .inr (2, [.int 0, .ref x_2, .ref x_3, .int 0, .int 0, .int (-1), .int 1])), (x_2, .inl (cy 2, 64, .inr (.inl (fun _ => 0)))), (x_3, .inl (cy 1, 729, .inl (fun _ => 0))), (x_4, .inr (2, [.int 1, .ref x_5, .ref x_6, .int 0, .int 0, .int (-1), .int 1])), (x_5, .inl (cy 2, 64, .inr (.inl (fun _ => 0)))), (x_6, .inl (cy 1, 729, .inl (fun _ => 0))), (x_7, .inr (2, [.int 2, .ref x_8, .ref x_9, .int 0, .int 0, .int (-1), .int 1])), (x_8, .inl (cy 2, 64, .inr (.inl (fun _ => 0)))), (x_9, .inl (cy 1, 729, .inl (fun _ => 0))), (x_10, .inr (2, [.int 3, .ref x_11, .ref x_12, .int 0, .int 0, .int (-1), .int 1])), (x_11, .inl (cy 2, 64, .inr (.inl (fun _ => 0)))), (x_12, .inl (cy 1, 729, .inl (fun _ => 0))), (x_13, .inr (2, [.int 4, .ref x_14, .ref x_15, .int 0, .int 0, .int (-1), .int 1])), (x_14, .inl (cy 2, 64, .inr (.inl (fun _ => 0)))), (x_15, .inl (cy 1, 729, .inl (fun _ => 0))), (x_16, .inr (2, [.int 5, .ref x_17, .ref x_18, .int 0, .int 0, .int (-1), .int 1])), (x_17, .inl (cy 2, 64, .inr (.inl (fun _ => 0)))), (x_18, .inl (cy 1, 729, .inl (fun _ => 0))), (h0, .inr (10, [.ref r1, .int 0, .int (-1), .ref r2, .ref r4, .ref r6, .int (-2), .ref r7, .ref r9])), (r2, .inr (0, [.ref r3, .int 0, .int 0])), (r6, .inl (cy 5, 7, .inr (.inr (.inr (.inr (va_up (va_up (va_up (va_up (va_up (va_up (va_up (fun _ => none) (0 : Int32).toNatClampNeg (some x_1)) (1 : Int32).toNatClampNeg (some x_4)) (2 : Int32).toNatClampNeg (some x_7)) (3 : Int32).toNatClampNeg (some x_10)) (4 : Int32).toNatClampNeg (some x_13)) (5 : Int32).toNatClampNeg (some x_16)) (6 : Int32).toNatClampNeg (some x_19))))))), (x_19, .inr (2, [.int 6, .ref x_20, .ref x_21, .int 0, .int 0, .int (-1), .int 1])), (x_20, .inl (cy 2, 64, .inr (.inl (fun _ => 0)))), (x_21, .inl (cy 1, 729, .inl (fun _ => 0)))] H := hP
  have hD : va_D A [(x_1, .inr (2, [.int 0, .ref x_2, .ref x_3, .int 0, .int 0, .int (-1), .int 1])), (x_2, .inl (cy 2, 64, .inr (.inl (fun _ => 0)))), (x_3, .inl (cy 1, 729, .inl (fun _ => 0))), (x_4, .inr (2, [.int 1, .ref x_5, .ref x_6, .int 0, .int 0, .int (-1), .int 1])), (x_5, .inl (cy 2, 64, .inr (.inl (fun _ => 0)))), (x_6, .inl (cy 1, 729, .inl (fun _ => 0))), (x_7, .inr (2, [.int 2, .ref x_8, .ref x_9, .int 0, .int 0, .int (-1), .int 1])), (x_8, .inl (cy 2, 64, .inr (.inl (fun _ => 0)))), (x_9, .inl (cy 1, 729, .inl (fun _ => 0))), (x_10, .inr (2, [.int 3, .ref x_11, .ref x_12, .int 0, .int 0, .int (-1), .int 1])), (x_11, .inl (cy 2, 64, .inr (.inl (fun _ => 0)))), (x_12, .inl (cy 1, 729, .inl (fun _ => 0))), (x_13, .inr (2, [.int 4, .ref x_14, .ref x_15, .int 0, .int 0, .int (-1), .int 1])), (x_14, .inl (cy 2, 64, .inr (.inl (fun _ => 0)))), (x_15, .inl (cy 1, 729, .inl (fun _ => 0))), (x_16, .inr (2, [.int 5, .ref x_17, .ref x_18, .int 0, .int 0, .int (-1), .int 1])), (x_17, .inl (cy 2, 64, .inr (.inl (fun _ => 0)))), (x_18, .inl (cy 1, 729, .inl (fun _ => 0))), (h0, .inr (10, [.ref r1, .int 0, .int (-1), .ref r2, .ref r4, .ref r6, .int (-2), .ref r7, .ref r9])), (r2, .inr (0, [.ref r3, .int 0, .int 0])), (r6, .inl (cy 5, 7, .inr (.inr (.inr (.inr (va_up (va_up (va_up (va_up (va_up (va_up (va_up (fun _ => none) (0 : Int32).toNatClampNeg (some x_1)) (1 : Int32).toNatClampNeg (some x_4)) (2 : Int32).toNatClampNeg (some x_7)) (3 : Int32).toNatClampNeg (some x_10)) (4 : Int32).toNatClampNeg (some x_13)) (5 : Int32).toNatClampNeg (some x_16)) (6 : Int32).toNatClampNeg (some x_19))))))), (x_19, .inr (2, [.int 6, .ref x_20, .ref x_21, .int 0, .int 0, .int (-1), .int 1])), (x_20, .inl (cy 2, 64, .inr (.inl (fun _ => 0)))), (x_21, .inl (cy 1, 729, .inl (fun _ => 0)))] := hD
  refine W.eq (g2 := F0 m 13 ls [.ref x_19]) rfl ?_
  refine W.widen (k := 21) (n := 5600) (Nat.le_of_ble_eq_true rfl) (Nat.le_of_ble_eq_true rfl) ?_
  refine va_get (D := G) (ci := 2) (v := .int (-1)) (C := RX2) (T := TX2) (N := 7) hx hb hU in_X2 hown hK.1 hP 21 rfl rfl 5 (by decide) (hU _ u_346) (fun _ h9 => h9) rfl dX11_leastWidth_13 ?_
  refine lv_iconst (v := (-1)) hx hb dX11_leastWidth_16 (by decide) ?_
  refine lv_icmp_eq (tgt := 22) hx hb dX11_leastWidth_17 (by decide) (fun _ => ?_) (fun c9 => absurd (by decide) c9)
  refine lv_iinc (v := 7) (lv' := [(1, .int 7), (0, .ref h0)]) hx hb dX11_leastWidth_22 hl (k := 0) rfl (by decide) (by decide) rfl (fun ls hl => ?_)
  refine lv_goto (tgt := 2) hx hb dX11_leastWidth_25 (by decide) ?_
  refine lv_iload_n hx hb dX11_leastWidth_2 rfl (lv_at hl 0 rfl) ?_
  refine lv_bipush (v := 6) hx hb dX11_leastWidth_3 (by decide) ?_
  refine lv_icmp_gt (tgt := 28) hx hb dX11_leastWidth_5 (by decide) (fun _ => ?_) (fun c9 => absurd (by decide) c9)
  refine lv_iconst (v := (-1)) hx hb dX11_leastWidth_28 (by decide) ?_
  exact kt_iret hx hb hr hlocks hP hD hS dX11_leastWidth_29 [] rfl rfl rfl rfl ⟨rfl, rfl⟩
set_option maxHeartbeats 4000000 in
set_option maxRecDepth 100000 in
theorem c_X11_has (l : Launch) (G : va_G) (cy : Nat → ClassId) (sa : Nat → Nat) (hlst : l.stackTraces = false) (h0 : Nat) (r1 : Nat) (r2 : Nat) (r4 : Nat) (r6 : Nat) (r7 : Nat) (r9 : Nat) (r3 : Nat) (p0 : Int32) (p1 : Int32) (p2 : Int32) : Kx l G cy sa yX11_has cX11_has 4 (some .boolean) ({ frames := 16, cells := 5, slots := 812, locals := 500 } : Room) [.ref h0, .int p0, .int p1, .int p2] [(h0, .inr (10, [.ref r1, .int 0, .int (-1), .ref r2, .ref r4, .ref r6, .int (-2), .ref r7, .ref r9])), (r2, .inr (0, [.ref r3, .int 0, .int 0])), (r6, .inl (cy 5, 7, .inr (.inr (.inr (.inr (fun _ => none))))))] (fun (v : Option Value) (w1 : va_W) => v = some (.int 0) ∧ w1 = [] ∧ (okWidth p0 ∧ okSets p1 p2)) (fun E => E = eIA ∧ ¬ (okWidth p0 ∧ okSets p1 p2)) := by
  refine kx_ofW (by decide) (Nat.le_of_ble_eq_true rfl) ?_
  intro p e s m below meth c A ls hx hb hr hU hown hlocks hml hin hP hK hD hA hS hl hZ hnt
  have hown : s.vm.findClass RX11 = some m.cls := hown
  have hl : lv_has ls 4 [(0, .ref h0), (1, .int p0), (2, .int p1), (3, .int p2)] := hl
  refine lv_iload_n hx hb dX11_has_0 rfl (lv_at hl 1 rfl) ?_
  refine kx_callS (wc := []) (wr := [(h0, .inr (10, [.ref r1, .int 0, .int (-1), .ref r2, .ref r4, .ref r6, .int (-2), .ref r7, .ref r9])), (r2, .inr (0, [.ref r3, .int 0, .int 0])), (r6, .inl (cy 5, 7, .inr (.inr (.inr (.inr (fun _ => none))))))]) (As := [.int p0]) (rest := []) (c_X11_checkWidth l G cy sa hlst p0) m_X11_checkWidth u_1287 hx hb hml hown hU hl.1 hK hP hD hS hA dX11_has_1 [] [0, 1, 2] rfl rfl rfl rfl rfl rfl (Nat.le_of_ble_eq_true rfl) hZ hnt hlocks (fun _ h9 => ⟨h9.1, fun q => h9.2 q.1⟩) (fun v9 w9 H locs hw hP hD hS => ?_)
  obtain ⟨rfl, rfl, hp_1⟩ := hw
  have hP : va_P G vwCl [(h0, .inr (10, [.ref r1, .int 0, .int (-1), .ref r2, .ref r4, .ref r6, .int (-2), .ref r7, .ref r9])), (r2, .inr (0, [.ref r3, .int 0, .int 0])), (r6, .inl (cy 5, 7, .inr (.inr (.inr (.inr (fun _ => none))))))] H := hP
  have hD : va_D A [(h0, .inr (10, [.ref r1, .int 0, .int (-1), .ref r2, .ref r4, .ref r6, .int (-2), .ref r7, .ref r9])), (r2, .inr (0, [.ref r3, .int 0, .int 0])), (r6, .inl (cy 5, 7, .inr (.inr (.inr (.inr (fun _ => none))))))] := hD
  refine W.eq (g2 := F0 m 4 ls []) rfl ?_
  refine W.widen (k := 1) (n := 6) (Nat.le_of_ble_eq_true rfl) (Nat.le_of_ble_eq_true rfl) ?_
  refine lv_iload_n hx hb dX11_has_4 rfl (lv_at hl 2 rfl) ?_
  refine lv_iload_n hx hb dX11_has_5 rfl (lv_at hl 3 rfl) ?_
  refine kx_callS (wc := []) (wr := [(h0, .inr (10, [.ref r1, .int 0, .int (-1), .ref r2, .ref r4, .ref r6, .int (-2), .ref r7, .ref r9])), (r2, .inr (0, [.ref r3, .int 0, .int 0])), (r6, .inl (cy 5, 7, .inr (.inr (.inr (.inr (fun _ => none))))))]) (As := [.int p1, .int p2]) (rest := []) (c_X11_checkSets l G cy sa hlst p1 p2) m_X11_checkSets u_1240 hx hb hml hown hU hl.1 hK hP hD hS hA dX11_has_6 [] [0, 1, 2] rfl rfl rfl rfl rfl rfl (Nat.le_of_ble_eq_true rfl) hZ hnt hlocks (fun _ h9 => ⟨h9.1, fun q => h9.2 q.2⟩) (fun v9 w9 H locs hw hP hD hS => ?_)
  obtain ⟨rfl, rfl, hp_2⟩ := hw
  have hP : va_P G vwCl [(h0, .inr (10, [.ref r1, .int 0, .int (-1), .ref r2, .ref r4, .ref r6, .int (-2), .ref r7, .ref r9])), (r2, .inr (0, [.ref r3, .int 0, .int 0])), (r6, .inl (cy 5, 7, .inr (.inr (.inr (.inr (fun _ => none))))))] H := hP
  have hD : va_D A [(h0, .inr (10, [.ref r1, .int 0, .int (-1), .ref r2, .ref r4, .ref r6, .int (-2), .ref r7, .ref r9])), (r2, .inr (0, [.ref r3, .int 0, .int 0])), (r6, .inl (cy 5, 7, .inr (.inr (.inr (.inr (fun _ => none))))))] := hD
  refine W.eq (g2 := F0 m 9 ls []) rfl ?_
  refine W.widen (k := 2) (n := 12) (Nat.le_of_ble_eq_true rfl) (Nat.le_of_ble_eq_true rfl) ?_
  refine lv_aload_n hx hb dX11_has_9 rfl (lv_at hl 0 rfl) ?_
  refine lv_iload_n hx hb dX11_has_10 rfl (lv_at hl 1 rfl) ?_
  refine kt_callV (wc := [(h0, .inr (10, [.ref r1, .int 0, .int (-1), .ref r2, .ref r4, .ref r6, .int (-2), .ref r7, .ref r9])), (r2, .inr (0, [.ref r3, .int 0, .int 0])), (r6, .inl (cy 5, 7, .inr (.inr (.inr (.inr (fun _ => none))))))]) (wr := []) (As := [.int p0]) (rest := []) (c_X11_closureOf l G cy h0 r1 r2 r4 r6 r7 r9 r3 (fun _ => none) p0 (okW_in (by assumption)) (by first | rfl | simp [va_up])) m_X11_closureOf u_329 hx hb hml hown hU hl.1 hK hP hD hS hA dX11_has_11 [0, 1, 2] [] rfl rfl rfl rfl rfl rfl (Nat.le_of_ble_eq_true rfl) (ci := 10) rfl rfl rfl (fun v9 w9 H locs hw hP hD hS => ?_)
  obtain ⟨x_3, x_4, x_5, rfl, rfl⟩ := hw
  have hP : va_P G vwCl [(h0, .inr (10, [.ref r1, .int 0, .int (-1), .ref r2, .ref r4, .ref r6, .int (-2), .ref r7, .ref r9])), (r2, .inr (0, [.ref r3, .int 0, .int 0])), (r6, .inl (cy 5, 7, .inr (.inr (.inr (.inr (va_up (fun _ => none) (p0 : Int32).toNatClampNeg (some x_3))))))), (x_3, .inr (2, [.int p0, .ref x_4, .ref x_5, .int 0, .int 0, .int (-1), .int 1])), (x_4, .inl (cy 2, 64, .inr (.inl (fun _ => 0)))), (x_5, .inl (cy 1, 729, .inl (fun _ => 0)))] H := hP
  have hD : va_D A [(h0, .inr (10, [.ref r1, .int 0, .int (-1), .ref r2, .ref r4, .ref r6, .int (-2), .ref r7, .ref r9])), (r2, .inr (0, [.ref r3, .int 0, .int 0])), (r6, .inl (cy 5, 7, .inr (.inr (.inr (.inr (va_up (fun _ => none) (p0 : Int32).toNatClampNeg (some x_3))))))), (x_3, .inr (2, [.int p0, .ref x_4, .ref x_5, .int 0, .int 0, .int (-1), .int 1])), (x_4, .inl (cy 2, 64, .inr (.inl (fun _ => 0)))), (x_5, .inl (cy 1, 729, .inl (fun _ => 0)))] := hD
  refine W.eq (g2 := F0 m 14 ls [.ref x_3]) rfl ?_
  refine W.widen (k := 5) (n := 812) (Nat.le_of_ble_eq_true rfl) (Nat.le_of_ble_eq_true rfl) ?_
  refine lv_iload_n hx hb dX11_has_14 rfl (lv_at hl 2 rfl) ?_
  refine lv_iload_n hx hb dX11_has_15 rfl (lv_at hl 3 rfl) ?_
  refine kt_callV (wc := [(x_3, .inr (2, [.int p0, .ref x_4, .ref x_5, .int 0, .int 0, .int (-1), .int 1])), (x_4, .inl (cy 2, 64, .inr (.inl (fun _ => 0))))]) (wr := [(h0, .inr (10, [.ref r1, .int 0, .int (-1), .ref r2, .ref r4, .ref r6, .int (-2), .ref r7, .ref r9])), (r2, .inr (0, [.ref r3, .int 0, .int 0])), (r6, .inl (cy 5, 7, .inr (.inr (.inr (.inr (va_up (fun _ => none) (p0 : Int32).toNatClampNeg (some x_3))))))), (x_5, .inl (cy 1, 729, .inl (fun _ => 0)))]) (As := [.int p1, .int p2]) (rest := []) (c_X2_isThere l G cy x_3 p1 p2 p0 x_4 x_5 (-1) 1) m_X2_isThere u_1298 hx hb hml hown hU hl.1 hK hP hD hS hA dX11_has_16 [3, 4] [0, 1, 2, 5] rfl rfl rfl rfl rfl rfl (Nat.le_of_ble_eq_true rfl) (ci := 2) rfl rfl rfl (fun v9 w9 H locs hw hP hD hS => ?_)
  obtain ⟨rfl, rfl⟩ := hw
  have hP : va_P G vwCl [(h0, .inr (10, [.ref r1, .int 0, .int (-1), .ref r2, .ref r4, .ref r6, .int (-2), .ref r7, .ref r9])), (r2, .inr (0, [.ref r3, .int 0, .int 0])), (r6, .inl (cy 5, 7, .inr (.inr (.inr (.inr (va_up (fun _ => none) (p0 : Int32).toNatClampNeg (some x_3))))))), (x_5, .inl (cy 1, 729, .inl (fun _ => 0)))] H := hP
  have hD : va_D A [(h0, .inr (10, [.ref r1, .int 0, .int (-1), .ref r2, .ref r4, .ref r6, .int (-2), .ref r7, .ref r9])), (r2, .inr (0, [.ref r3, .int 0, .int 0])), (r6, .inl (cy 5, 7, .inr (.inr (.inr (.inr (va_up (fun _ => none) (p0 : Int32).toNatClampNeg (some x_3))))))), (x_5, .inl (cy 1, 729, .inl (fun _ => 0)))] := hD
  refine W.eq (g2 := F0 m 19 ls [.int 0]) rfl ?_
  refine W.widen (k := 5) (n := 812) (Nat.le_of_ble_eq_true rfl) (Nat.le_of_ble_eq_true rfl) ?_
  exact vx_ret (kt_zret hx hb hr hlocks hP hD hS (by first | rfl | decide | exact rfl) dX11_has_19 [] rfl rfl rfl rfl ⟨rfl, rfl, ⟨by assumption, by assumption⟩⟩)
end
section
set_option maxHeartbeats 4000000 in
set_option maxRecDepth 100000 in
theorem c_X4_fewestMoves (l : Launch) (G : va_G) (cy : Nat → ClassId) (r4 : Nat) (r5 : Nat) (p0 : Int32) : Kt l G cy yX4_fewestMoves cX4_fewestMoves 7 (some .int) ({ frames := 10, cells := 0, slots := 0, locals := 200 } : Room) [.ref r4, .int p0] [(r4, .inr (4, [.int 0, .int 0, .int (-1), .ref r5]))] (fun (v : Option Value) (w1 : va_W) => v = some (.int (-1)) ∧ w1 = [(r4, .inr (4, [.int 0, .int 0, .int (-1), .ref r5]))]) := by
  refine kt_ofW (by decide) (Nat.le_of_ble_eq_true rfl) ?_
  intro p e s m below meth c A ls hx hb hr hU hown hlocks hml hin hP hK hD hA hS hl
  have hown : s.vm.findClass RX4 = some m.cls := hown
  have hl : lv_has ls 7 [(0, .ref r4), (1, .int p0)] := hl
  refine lv_aload_n hx hb dX4_fewestMoves_0 rfl (lv_at hl 0 rfl) ?_
  refine va_get (D := G) (ci := 4) (v := .int (-1)) (C := RX4) (T := TX4) (N := 4) hx hb hU in_X4 hown hK.1 hP 0 rfl rfl 2 (by decide) (hU _ u_200) (fun _ h9 => h9) rfl dX4_fewestMoves_1 ?_
  refine lv_iconst (v := (-1)) hx hb dX4_fewestMoves_4 (by decide) ?_
  refine lv_icmp_ne (tgt := 10) hx hb dX4_fewestMoves_5 (by decide) (fun c9 => absurd (by decide) c9) (fun _ => ?_)
  refine lv_iconst (v := (-1)) hx hb dX4_fewestMoves_8 (by decide) ?_
  exact kt_iret hx hb hr hlocks hP hD hS dX4_fewestMoves_9 [0] rfl rfl rfl rfl ⟨rfl, rfl⟩
set_option maxHeartbeats 4000000 in
set_option maxRecDepth 100000 in
theorem c_X11_pebbled (l : Launch) (G : va_G) (cy : Nat → ClassId) (sa : Nat → Nat) (hlst : l.stackTraces = false) (h0 : Nat) (r1 : Nat) (r2 : Nat) (r4 : Nat) (r6 : Nat) (r7 : Nat) (r9 : Nat) (r5 : Nat) (p0 : Int32) : Kx l G cy sa yX11_pebbled cX11_pebbled 2 (some .int) ({ frames := 12, cells := 1, slots := 6, locals := 300 } : Room) [.ref h0, .int p0] [(h0, .inr (10, [.ref r1, .int 0, .int (-1), .ref r2, .ref r4, .ref r6, .int (-2), .ref r7, .ref r9])), (r4, .inr (4, [.int 0, .int 0, .int (-1), .ref r5]))] (fun (v : Option Value) (w1 : va_W) => v = some (.int (-1)) ∧ w1 = [] ∧ (okWidth p0)) (fun E => E = eIA ∧ ¬ okWidth p0) := by
  refine kx_ofW (by decide) (Nat.le_of_ble_eq_true rfl) ?_
  intro p e s m below meth c A ls hx hb hr hU hown hlocks hml hin hP hK hD hA hS hl hZ hnt
  have hown : s.vm.findClass RX11 = some m.cls := hown
  have hl : lv_has ls 2 [(0, .ref h0), (1, .int p0)] := hl
  refine lv_iload_n hx hb dX11_pebbled_0 rfl (lv_at hl 1 rfl) ?_
  refine lv_if_lt (tgt := 10) hx hb dX11_pebbled_1 (by decide) (fun c_1 => ?_) (fun c_1 => ?_)
  · exact kx_throwW (text := "no number of pebbles") hx hb hlst hown (by decide) hU u_977 u_143 (by decide) at_88 hZ hS (by rw [hml]; exact hl.1) dX11_pebbled_10 dX11_pebbled_13 dX11_pebbled_14 dX11_pebbled_17 dX11_pebbled_20 hnt rfl rfl rfl rfl hlocks ⟨rfl, (by simp [okWidth, c_1])⟩
  · refine lv_iload_n hx hb dX11_pebbled_4 rfl (lv_at hl 1 rfl) ?_
    refine lv_bipush (v := 6) hx hb dX11_pebbled_5 (by decide) ?_
    refine lv_icmp_le (tgt := 21) hx hb dX11_pebbled_7 (by decide) (fun c_2 => ?_) (fun c_2 => ?_)
    · refine lv_aload_n hx hb dX11_pebbled_21 rfl (lv_at hl 0 rfl) ?_
      refine va_get (D := G) (ci := 10) (v := .ref r4) (C := RX11) (T := TX11) (N := 9) hx hb hU in_X11 hown hK.1 hP 0 rfl rfl 4 (by decide) (hU _ u_254) (fun _ h9 => h9) rfl dX11_pebbled_22 ?_
      refine lv_iload_n hx hb dX11_pebbled_25 rfl (lv_at hl 1 rfl) ?_
      refine kt_callV (wc := [(r4, .inr (4, [.int 0, .int 0, .int (-1), .ref r5]))]) (wr := [(h0, .inr (10, [.ref r1, .int 0, .int (-1), .ref r2, .ref r4, .ref r6, .int (-2), .ref r7, .ref r9]))]) (As := [.int p0]) (rest := []) (c_X4_fewestMoves l G cy r4 r5 p0) m_X4_fewestMoves u_402 hx hb hml hown hU hl.1 hK hP hD hS hA dX11_pebbled_26 [1] [0] rfl rfl rfl rfl rfl rfl (Nat.le_of_ble_eq_true rfl) (ci := 4) rfl rfl rfl (fun v9 w9 H locs hw hP hD hS => ?_)
      obtain ⟨rfl, rfl⟩ := hw
      have hP : va_P G vwCl [(h0, .inr (10, [.ref r1, .int 0, .int (-1), .ref r2, .ref r4, .ref r6, .int (-2), .ref r7, .ref r9])), (r4, .inr (4, [.int 0, .int 0, .int (-1), .ref r5]))] H := hP
      have hD : va_D A [(h0, .inr (10, [.ref r1, .int 0, .int (-1), .ref r2, .ref r4, .ref r6, .int (-2), .ref r7, .ref r9])), (r4, .inr (4, [.int 0, .int 0, .int (-1), .ref r5]))] := hD
      refine W.eq (g2 := F0 m 29 ls [.int (-1)]) rfl ?_
      refine W.widen (k := 0) (n := 0) (Nat.le_of_ble_eq_true rfl) (Nat.le_of_ble_eq_true rfl) ?_
      exact vx_ret (kt_iret hx hb hr hlocks hP hD hS dX11_pebbled_29 [] rfl rfl rfl rfl ⟨rfl, rfl, (by simp [okWidth, c_1, c_2])⟩)
    · exact kx_throwW (text := "no number of pebbles") hx hb hlst hown (by decide) hU u_977 u_143 (by decide) at_88 hZ hS (by rw [hml]; exact hl.1) dX11_pebbled_10 dX11_pebbled_13 dX11_pebbled_14 dX11_pebbled_17 dX11_pebbled_20 hnt rfl rfl rfl rfl hlocks ⟨rfl, (by simp [okWidth, c_1, c_2])⟩
set_option maxHeartbeats 4000000 in
set_option maxRecDepth 100000 in
theorem c_X11_pebbles (l : Launch) (G : va_G) (cy : Nat → ClassId) (h0 : Nat) (r1 : Nat) (r2 : Nat) (r4 : Nat) (r6 : Nat) (r7 : Nat) (r9 : Nat) (r5 : Nat) : Kt l G cy yX11_pebbles cX11_pebbles 2 (some .int) ({ frames := 12, cells := 0, slots := 0, locals := 300 } : Room) [.ref h0] [(h0, .inr (10, [.ref r1, .int 0, .int (-1), .ref r2, .ref r4, .ref r6, .int (-2), .ref r7, .ref r9])), (r4, .inr (4, [.int 0, .int 0, .int (-1), .ref r5]))] (fun (v : Option Value) (w1 : va_W) => v = some (.int (-1)) ∧ w1 = []) := by
  refine kt_ofW (by decide) (Nat.le_of_ble_eq_true rfl) ?_
  intro p e s m below meth c A ls hx hb hr hU hown hlocks hml hin hP hK hD hA hS hl
  have hown : s.vm.findClass RX11 = some m.cls := hown
  have hl : lv_has ls 2 [(0, .ref h0)] := hl
  refine lv_iconst (v := 0) hx hb dX11_pebbles_0 (by decide) ?_
  refine lv_istore_n (lv' := [(1, .int 0), (0, .ref h0)]) hx hb dX11_pebbles_1 rfl hl (by decide) rfl (fun ls hl => ?_)
  refine lv_iload_n hx hb dX11_pebbles_2 rfl (lv_at hl 0 rfl) ?_
  refine lv_bipush (v := 6) hx hb dX11_pebbles_3 (by decide) ?_
  refine lv_icmp_gt (tgt := 28) hx hb dX11_pebbles_5 (by decide) (fun c9 => absurd c9 (by decide)) (fun _ => ?_)
  refine lv_aload_n hx hb dX11_pebbles_8 rfl (lv_at hl 1 rfl) ?_
  refine va_get (D := G) (ci := 10) (v := .ref r4) (C := RX11) (T := TX11) (N := 9) hx hb hU in_X11 hown hK.1 hP 0 rfl rfl 4 (by decide) (hU _ u_254) (fun _ h9 => h9) rfl dX11_pebbles_9 ?_
  refine lv_iload_n hx hb dX11_pebbles_12 rfl (lv_at hl 0 rfl) ?_
  refine kt_callV (wc := [(r4, .inr (4, [.int 0, .int 0, .int (-1), .ref r5]))]) (wr := [(h0, .inr (10, [.ref r1, .int 0, .int (-1), .ref r2, .ref r4, .ref r6, .int (-2), .ref r7, .ref r9]))]) (As := [.int 0]) (rest := []) (c_X4_fewestMoves l G cy r4 r5 0) m_X4_fewestMoves u_402 hx hb hml hown hU hl.1 hK hP hD hS hA dX11_pebbles_13 [1] [0] rfl rfl rfl rfl rfl rfl (Nat.le_of_ble_eq_true rfl) (ci := 4) rfl rfl rfl (fun v9 w9 H locs hw hP hD hS => ?_)
  obtain ⟨rfl, rfl⟩ := hw
  have hP : va_P G vwCl [(h0, .inr (10, [.ref r1, .int 0, .int (-1), .ref r2, .ref r4, .ref r6, .int (-2), .ref r7, .ref r9])), (r4, .inr (4, [.int 0, .int 0, .int (-1), .ref r5]))] H := hP
  have hD : va_D A [(h0, .inr (10, [.ref r1, .int 0, .int (-1), .ref r2, .ref r4, .ref r6, .int (-2), .ref r7, .ref r9])), (r4, .inr (4, [.int 0, .int 0, .int (-1), .ref r5]))] := hD
  refine W.eq (g2 := F0 m 16 ls [.int (-1)]) rfl ?_
  refine W.widen (k := 0) (n := 0) (Nat.le_of_ble_eq_true rfl) (Nat.le_of_ble_eq_true rfl) ?_
  refine lv_iconst (v := (-1)) hx hb dX11_pebbles_16 (by decide) ?_
  refine lv_icmp_eq (tgt := 22) hx hb dX11_pebbles_17 (by decide) (fun _ => ?_) (fun c9 => absurd (by decide) c9)
  refine lv_iinc (v := 1) (lv' := [(1, .int 1), (0, .ref h0)]) hx hb dX11_pebbles_22 hl (k := 0) rfl (by decide) (by decide) rfl (fun ls hl => ?_)
  refine lv_goto (tgt := 2) hx hb dX11_pebbles_25 (by decide) ?_
  refine lv_iload_n hx hb dX11_pebbles_2 rfl (lv_at hl 0 rfl) ?_
  refine lv_bipush (v := 6) hx hb dX11_pebbles_3 (by decide) ?_
  refine lv_icmp_gt (tgt := 28) hx hb dX11_pebbles_5 (by decide) (fun c9 => absurd c9 (by decide)) (fun _ => ?_)
  refine lv_aload_n hx hb dX11_pebbles_8 rfl (lv_at hl 1 rfl) ?_
  refine va_get (D := G) (ci := 10) (v := .ref r4) (C := RX11) (T := TX11) (N := 9) hx hb hU in_X11 hown hK.1 hP 0 rfl rfl 4 (by decide) (hU _ u_254) (fun _ h9 => h9) rfl dX11_pebbles_9 ?_
  refine lv_iload_n hx hb dX11_pebbles_12 rfl (lv_at hl 0 rfl) ?_
  refine kt_callV (wc := [(r4, .inr (4, [.int 0, .int 0, .int (-1), .ref r5]))]) (wr := [(h0, .inr (10, [.ref r1, .int 0, .int (-1), .ref r2, .ref r4, .ref r6, .int (-2), .ref r7, .ref r9]))]) (As := [.int 1]) (rest := []) (c_X4_fewestMoves l G cy r4 r5 1) m_X4_fewestMoves u_402 hx hb hml hown hU hl.1 hK hP hD hS hA dX11_pebbles_13 [1] [0] rfl rfl rfl rfl rfl rfl (Nat.le_of_ble_eq_true rfl) (ci := 4) rfl rfl rfl (fun v9 w9 H locs hw hP hD hS => ?_)
  obtain ⟨rfl, rfl⟩ := hw
  have hP : va_P G vwCl [(h0, .inr (10, [.ref r1, .int 0, .int (-1), .ref r2, .ref r4, .ref r6, .int (-2), .ref r7, .ref r9])), (r4, .inr (4, [.int 0, .int 0, .int (-1), .ref r5]))] H := hP
  have hD : va_D A [(h0, .inr (10, [.ref r1, .int 0, .int (-1), .ref r2, .ref r4, .ref r6, .int (-2), .ref r7, .ref r9])), (r4, .inr (4, [.int 0, .int 0, .int (-1), .ref r5]))] := hD
  refine W.eq (g2 := F0 m 16 ls [.int (-1)]) rfl ?_
  refine W.widen (k := 0) (n := 0) (Nat.le_of_ble_eq_true rfl) (Nat.le_of_ble_eq_true rfl) ?_
  refine lv_iconst (v := (-1)) hx hb dX11_pebbles_16 (by decide) ?_
  refine lv_icmp_eq (tgt := 22) hx hb dX11_pebbles_17 (by decide) (fun _ => ?_) (fun c9 => absurd (by decide) c9)
  refine lv_iinc (v := 2) (lv' := [(1, .int 2), (0, .ref h0)]) hx hb dX11_pebbles_22 hl (k := 0) rfl (by decide) (by decide) rfl (fun ls hl => ?_)
  refine lv_goto (tgt := 2) hx hb dX11_pebbles_25 (by decide) ?_
  refine lv_iload_n hx hb dX11_pebbles_2 rfl (lv_at hl 0 rfl) ?_
  refine lv_bipush (v := 6) hx hb dX11_pebbles_3 (by decide) ?_
  refine lv_icmp_gt (tgt := 28) hx hb dX11_pebbles_5 (by decide) (fun c9 => absurd c9 (by decide)) (fun _ => ?_)
  refine lv_aload_n hx hb dX11_pebbles_8 rfl (lv_at hl 1 rfl) ?_
  refine va_get (D := G) (ci := 10) (v := .ref r4) (C := RX11) (T := TX11) (N := 9) hx hb hU in_X11 hown hK.1 hP 0 rfl rfl 4 (by decide) (hU _ u_254) (fun _ h9 => h9) rfl dX11_pebbles_9 ?_
  refine lv_iload_n hx hb dX11_pebbles_12 rfl (lv_at hl 0 rfl) ?_
  refine kt_callV (wc := [(r4, .inr (4, [.int 0, .int 0, .int (-1), .ref r5]))]) (wr := [(h0, .inr (10, [.ref r1, .int 0, .int (-1), .ref r2, .ref r4, .ref r6, .int (-2), .ref r7, .ref r9]))]) (As := [.int 2]) (rest := []) (c_X4_fewestMoves l G cy r4 r5 2) m_X4_fewestMoves u_402 hx hb hml hown hU hl.1 hK hP hD hS hA dX11_pebbles_13 [1] [0] rfl rfl rfl rfl rfl rfl (Nat.le_of_ble_eq_true rfl) (ci := 4) rfl rfl rfl (fun v9 w9 H locs hw hP hD hS => ?_)
  obtain ⟨rfl, rfl⟩ := hw
  have hP : va_P G vwCl [(h0, .inr (10, [.ref r1, .int 0, .int (-1), .ref r2, .ref r4, .ref r6, .int (-2), .ref r7, .ref r9])), (r4, .inr (4, [.int 0, .int 0, .int (-1), .ref r5]))] H := hP
  have hD : va_D A [(h0, .inr (10, [.ref r1, .int 0, .int (-1), .ref r2, .ref r4, .ref r6, .int (-2), .ref r7, .ref r9])), (r4, .inr (4, [.int 0, .int 0, .int (-1), .ref r5]))] := hD
  refine W.eq (g2 := F0 m 16 ls [.int (-1)]) rfl ?_
  refine W.widen (k := 0) (n := 0) (Nat.le_of_ble_eq_true rfl) (Nat.le_of_ble_eq_true rfl) ?_
  refine lv_iconst (v := (-1)) hx hb dX11_pebbles_16 (by decide) ?_
  refine lv_icmp_eq (tgt := 22) hx hb dX11_pebbles_17 (by decide) (fun _ => ?_) (fun c9 => absurd (by decide) c9)
  refine lv_iinc (v := 3) (lv' := [(1, .int 3), (0, .ref h0)]) hx hb dX11_pebbles_22 hl (k := 0) rfl (by decide) (by decide) rfl (fun ls hl => ?_)
  refine lv_goto (tgt := 2) hx hb dX11_pebbles_25 (by decide) ?_
  refine lv_iload_n hx hb dX11_pebbles_2 rfl (lv_at hl 0 rfl) ?_
  refine lv_bipush (v := 6) hx hb dX11_pebbles_3 (by decide) ?_
  refine lv_icmp_gt (tgt := 28) hx hb dX11_pebbles_5 (by decide) (fun c9 => absurd c9 (by decide)) (fun _ => ?_)
  refine lv_aload_n hx hb dX11_pebbles_8 rfl (lv_at hl 1 rfl) ?_
  refine va_get (D := G) (ci := 10) (v := .ref r4) (C := RX11) (T := TX11) (N := 9) hx hb hU in_X11 hown hK.1 hP 0 rfl rfl 4 (by decide) (hU _ u_254) (fun _ h9 => h9) rfl dX11_pebbles_9 ?_
  refine lv_iload_n hx hb dX11_pebbles_12 rfl (lv_at hl 0 rfl) ?_
  refine kt_callV (wc := [(r4, .inr (4, [.int 0, .int 0, .int (-1), .ref r5]))]) (wr := [(h0, .inr (10, [.ref r1, .int 0, .int (-1), .ref r2, .ref r4, .ref r6, .int (-2), .ref r7, .ref r9]))]) (As := [.int 3]) (rest := []) (c_X4_fewestMoves l G cy r4 r5 3) m_X4_fewestMoves u_402 hx hb hml hown hU hl.1 hK hP hD hS hA dX11_pebbles_13 [1] [0] rfl rfl rfl rfl rfl rfl (Nat.le_of_ble_eq_true rfl) (ci := 4) rfl rfl rfl (fun v9 w9 H locs hw hP hD hS => ?_)
  obtain ⟨rfl, rfl⟩ := hw
  have hP : va_P G vwCl [(h0, .inr (10, [.ref r1, .int 0, .int (-1), .ref r2, .ref r4, .ref r6, .int (-2), .ref r7, .ref r9])), (r4, .inr (4, [.int 0, .int 0, .int (-1), .ref r5]))] H := hP
  have hD : va_D A [(h0, .inr (10, [.ref r1, .int 0, .int (-1), .ref r2, .ref r4, .ref r6, .int (-2), .ref r7, .ref r9])), (r4, .inr (4, [.int 0, .int 0, .int (-1), .ref r5]))] := hD
  refine W.eq (g2 := F0 m 16 ls [.int (-1)]) rfl ?_
  refine W.widen (k := 0) (n := 0) (Nat.le_of_ble_eq_true rfl) (Nat.le_of_ble_eq_true rfl) ?_
  refine lv_iconst (v := (-1)) hx hb dX11_pebbles_16 (by decide) ?_
  refine lv_icmp_eq (tgt := 22) hx hb dX11_pebbles_17 (by decide) (fun _ => ?_) (fun c9 => absurd (by decide) c9)
  refine lv_iinc (v := 4) (lv' := [(1, .int 4), (0, .ref h0)]) hx hb dX11_pebbles_22 hl (k := 0) rfl (by decide) (by decide) rfl (fun ls hl => ?_)
  refine lv_goto (tgt := 2) hx hb dX11_pebbles_25 (by decide) ?_
  refine lv_iload_n hx hb dX11_pebbles_2 rfl (lv_at hl 0 rfl) ?_
  refine lv_bipush (v := 6) hx hb dX11_pebbles_3 (by decide) ?_
  refine lv_icmp_gt (tgt := 28) hx hb dX11_pebbles_5 (by decide) (fun c9 => absurd c9 (by decide)) (fun _ => ?_)
  refine lv_aload_n hx hb dX11_pebbles_8 rfl (lv_at hl 1 rfl) ?_
  refine va_get (D := G) (ci := 10) (v := .ref r4) (C := RX11) (T := TX11) (N := 9) hx hb hU in_X11 hown hK.1 hP 0 rfl rfl 4 (by decide) (hU _ u_254) (fun _ h9 => h9) rfl dX11_pebbles_9 ?_
  refine lv_iload_n hx hb dX11_pebbles_12 rfl (lv_at hl 0 rfl) ?_
  refine kt_callV (wc := [(r4, .inr (4, [.int 0, .int 0, .int (-1), .ref r5]))]) (wr := [(h0, .inr (10, [.ref r1, .int 0, .int (-1), .ref r2, .ref r4, .ref r6, .int (-2), .ref r7, .ref r9]))]) (As := [.int 4]) (rest := []) (c_X4_fewestMoves l G cy r4 r5 4) m_X4_fewestMoves u_402 hx hb hml hown hU hl.1 hK hP hD hS hA dX11_pebbles_13 [1] [0] rfl rfl rfl rfl rfl rfl (Nat.le_of_ble_eq_true rfl) (ci := 4) rfl rfl rfl (fun v9 w9 H locs hw hP hD hS => ?_)
  obtain ⟨rfl, rfl⟩ := hw
  have hP : va_P G vwCl [(h0, .inr (10, [.ref r1, .int 0, .int (-1), .ref r2, .ref r4, .ref r6, .int (-2), .ref r7, .ref r9])), (r4, .inr (4, [.int 0, .int 0, .int (-1), .ref r5]))] H := hP
  have hD : va_D A [(h0, .inr (10, [.ref r1, .int 0, .int (-1), .ref r2, .ref r4, .ref r6, .int (-2), .ref r7, .ref r9])), (r4, .inr (4, [.int 0, .int 0, .int (-1), .ref r5]))] := hD
  refine W.eq (g2 := F0 m 16 ls [.int (-1)]) rfl ?_
  refine W.widen (k := 0) (n := 0) (Nat.le_of_ble_eq_true rfl) (Nat.le_of_ble_eq_true rfl) ?_
  refine lv_iconst (v := (-1)) hx hb dX11_pebbles_16 (by decide) ?_
  refine lv_icmp_eq (tgt := 22) hx hb dX11_pebbles_17 (by decide) (fun _ => ?_) (fun c9 => absurd (by decide) c9)
  refine lv_iinc (v := 5) (lv' := [(1, .int 5), (0, .ref h0)]) hx hb dX11_pebbles_22 hl (k := 0) rfl (by decide) (by decide) rfl (fun ls hl => ?_)
  refine lv_goto (tgt := 2) hx hb dX11_pebbles_25 (by decide) ?_
  refine lv_iload_n hx hb dX11_pebbles_2 rfl (lv_at hl 0 rfl) ?_
  refine lv_bipush (v := 6) hx hb dX11_pebbles_3 (by decide) ?_
  refine lv_icmp_gt (tgt := 28) hx hb dX11_pebbles_5 (by decide) (fun c9 => absurd c9 (by decide)) (fun _ => ?_)
  refine lv_aload_n hx hb dX11_pebbles_8 rfl (lv_at hl 1 rfl) ?_
  refine va_get (D := G) (ci := 10) (v := .ref r4) (C := RX11) (T := TX11) (N := 9) hx hb hU in_X11 hown hK.1 hP 0 rfl rfl 4 (by decide) (hU _ u_254) (fun _ h9 => h9) rfl dX11_pebbles_9 ?_
  refine lv_iload_n hx hb dX11_pebbles_12 rfl (lv_at hl 0 rfl) ?_
  refine kt_callV (wc := [(r4, .inr (4, [.int 0, .int 0, .int (-1), .ref r5]))]) (wr := [(h0, .inr (10, [.ref r1, .int 0, .int (-1), .ref r2, .ref r4, .ref r6, .int (-2), .ref r7, .ref r9]))]) (As := [.int 5]) (rest := []) (c_X4_fewestMoves l G cy r4 r5 5) m_X4_fewestMoves u_402 hx hb hml hown hU hl.1 hK hP hD hS hA dX11_pebbles_13 [1] [0] rfl rfl rfl rfl rfl rfl (Nat.le_of_ble_eq_true rfl) (ci := 4) rfl rfl rfl (fun v9 w9 H locs hw hP hD hS => ?_)
  obtain ⟨rfl, rfl⟩ := hw
  have hP : va_P G vwCl [(h0, .inr (10, [.ref r1, .int 0, .int (-1), .ref r2, .ref r4, .ref r6, .int (-2), .ref r7, .ref r9])), (r4, .inr (4, [.int 0, .int 0, .int (-1), .ref r5]))] H := hP
  have hD : va_D A [(h0, .inr (10, [.ref r1, .int 0, .int (-1), .ref r2, .ref r4, .ref r6, .int (-2), .ref r7, .ref r9])), (r4, .inr (4, [.int 0, .int 0, .int (-1), .ref r5]))] := hD
  refine W.eq (g2 := F0 m 16 ls [.int (-1)]) rfl ?_
  refine W.widen (k := 0) (n := 0) (Nat.le_of_ble_eq_true rfl) (Nat.le_of_ble_eq_true rfl) ?_
  refine lv_iconst (v := (-1)) hx hb dX11_pebbles_16 (by decide) ?_
  refine lv_icmp_eq (tgt := 22) hx hb dX11_pebbles_17 (by decide) (fun _ => ?_) (fun c9 => absurd (by decide) c9)
  refine lv_iinc (v := 6) (lv' := [(1, .int 6), (0, .ref h0)]) hx hb dX11_pebbles_22 hl (k := 0) rfl (by decide) (by decide) rfl (fun ls hl => ?_)
  refine lv_goto (tgt := 2) hx hb dX11_pebbles_25 (by decide) ?_
  refine lv_iload_n hx hb dX11_pebbles_2 rfl (lv_at hl 0 rfl) ?_
  refine lv_bipush (v := 6) hx hb dX11_pebbles_3 (by decide) ?_
  refine lv_icmp_gt (tgt := 28) hx hb dX11_pebbles_5 (by decide) (fun c9 => absurd c9 (by decide)) (fun _ => ?_)
  refine lv_aload_n hx hb dX11_pebbles_8 rfl (lv_at hl 1 rfl) ?_
  refine va_get (D := G) (ci := 10) (v := .ref r4) (C := RX11) (T := TX11) (N := 9) hx hb hU in_X11 hown hK.1 hP 0 rfl rfl 4 (by decide) (hU _ u_254) (fun _ h9 => h9) rfl dX11_pebbles_9 ?_
  refine lv_iload_n hx hb dX11_pebbles_12 rfl (lv_at hl 0 rfl) ?_
  refine kt_callV (wc := [(r4, .inr (4, [.int 0, .int 0, .int (-1), .ref r5]))]) (wr := [(h0, .inr (10, [.ref r1, .int 0, .int (-1), .ref r2, .ref r4, .ref r6, .int (-2), .ref r7, .ref r9]))]) (As := [.int 6]) (rest := []) (c_X4_fewestMoves l G cy r4 r5 6) m_X4_fewestMoves u_402 hx hb hml hown hU hl.1 hK hP hD hS hA dX11_pebbles_13 [1] [0] rfl rfl rfl rfl rfl rfl (Nat.le_of_ble_eq_true rfl) (ci := 4) rfl rfl rfl (fun v9 w9 H locs hw hP hD hS => ?_)
  obtain ⟨rfl, rfl⟩ := hw
  have hP : va_P G vwCl [(h0, .inr (10, [.ref r1, .int 0, .int (-1), .ref r2, .ref r4, .ref r6, .int (-2), .ref r7, .ref r9])), (r4, .inr (4, [.int 0, .int 0, .int (-1), .ref r5]))] H := hP
  have hD : va_D A [(h0, .inr (10, [.ref r1, .int 0, .int (-1), .ref r2, .ref r4, .ref r6, .int (-2), .ref r7, .ref r9])), (r4, .inr (4, [.int 0, .int 0, .int (-1), .ref r5]))] := hD
  refine W.eq (g2 := F0 m 16 ls [.int (-1)]) rfl ?_
  refine W.widen (k := 0) (n := 0) (Nat.le_of_ble_eq_true rfl) (Nat.le_of_ble_eq_true rfl) ?_
  refine lv_iconst (v := (-1)) hx hb dX11_pebbles_16 (by decide) ?_
  refine lv_icmp_eq (tgt := 22) hx hb dX11_pebbles_17 (by decide) (fun _ => ?_) (fun c9 => absurd (by decide) c9)
  refine lv_iinc (v := 7) (lv' := [(1, .int 7), (0, .ref h0)]) hx hb dX11_pebbles_22 hl (k := 0) rfl (by decide) (by decide) rfl (fun ls hl => ?_)
  refine lv_goto (tgt := 2) hx hb dX11_pebbles_25 (by decide) ?_
  refine lv_iload_n hx hb dX11_pebbles_2 rfl (lv_at hl 0 rfl) ?_
  refine lv_bipush (v := 6) hx hb dX11_pebbles_3 (by decide) ?_
  refine lv_icmp_gt (tgt := 28) hx hb dX11_pebbles_5 (by decide) (fun _ => ?_) (fun c9 => absurd (by decide) c9)
  refine lv_iconst (v := (-1)) hx hb dX11_pebbles_28 (by decide) ?_
  exact kt_iret hx hb hr hlocks hP hD hS dX11_pebbles_29 [] rfl rfl rfl rfl ⟨rfl, rfl⟩
set_option maxHeartbeats 4000000 in
set_option maxRecDepth 100000 in
theorem c_X7_byteAt (l : Launch) (G : va_G) (cy : Nat → ClassId) (r7 : Nat) (r8 : Nat) (p0 : Int32) : Kt l G cy yX7_byteAt cX7_byteAt 2 (some .int) ({ frames := 10, cells := 0, slots := 0, locals := 200 } : Room) [.ref r7, .int p0] [(r7, .inr (7, [.ref r8, .int 0, .int 0]))] (fun (v : Option Value) (w1 : va_W) => v = some (.int (-1)) ∧ w1 = []) := by
  refine kt_ofW (by decide) (Nat.le_of_ble_eq_true rfl) ?_
  intro p e s m below meth c A ls hx hb hr hU hown hlocks hml hin hP hK hD hA hS hl
  have hown : s.vm.findClass RX7 = some m.cls := hown
  have hl : lv_has ls 2 [(0, .ref r7), (1, .int p0)] := hl
  refine lv_iload_n hx hb dX7_byteAt_0 rfl (lv_at hl 1 rfl) ?_
  refine lv_if_lt (tgt := 30) hx hb dX7_byteAt_1 (by decide) (fun c_1 => ?_) (fun c_1 => ?_)
  · refine lv_iconst (v := (-1)) hx hb dX7_byteAt_30 (by decide) ?_
    exact kt_iret hx hb hr hlocks hP hD hS dX7_byteAt_31 [] rfl rfl rfl rfl ⟨rfl, rfl⟩
  · refine lv_iload_n hx hb dX7_byteAt_4 rfl (lv_at hl 1 rfl) ?_
    refine lv_aload_n hx hb dX7_byteAt_5 rfl (lv_at hl 0 rfl) ?_
    refine va_get (D := G) (ci := 7) (v := .int 0) (C := RX7) (T := TX7) (N := 3) hx hb hU in_X7 hown hK.1 hP 0 rfl rfl 1 (by decide) (hU _ u_224) (fun _ h9 => h9) rfl dX7_byteAt_6 ?_
    refine lv_icmp_ge (tgt := 30) hx hb dX7_byteAt_9 (by decide) (fun _ => ?_) (fun c9 => absurd (lx_le c_1) c9)
    refine lv_iconst (v := (-1)) hx hb dX7_byteAt_30 (by decide) ?_
    exact kt_iret hx hb hr hlocks hP hD hS dX7_byteAt_31 [] rfl rfl rfl rfl ⟨rfl, rfl⟩
set_option maxHeartbeats 4000000 in
set_option maxRecDepth 100000 in
theorem c_X11_octet (l : Launch) (G : va_G) (cy : Nat → ClassId) (h0 : Nat) (r1 : Nat) (r2 : Nat) (r4 : Nat) (r6 : Nat) (r7 : Nat) (r9 : Nat) (r8 : Nat) (p0 : Int32) : Kt l G cy yX11_octet cX11_octet 2 (some .int) ({ frames := 12, cells := 0, slots := 0, locals := 300 } : Room) [.ref h0, .int p0] [(h0, .inr (10, [.ref r1, .int 0, .int (-1), .ref r2, .ref r4, .ref r6, .int (-2), .ref r7, .ref r9])), (r7, .inr (7, [.ref r8, .int 0, .int 0]))] (fun (v : Option Value) (w1 : va_W) => v = some (.int (-1)) ∧ w1 = []) := by
  refine kt_ofW (by decide) (Nat.le_of_ble_eq_true rfl) ?_
  intro p e s m below meth c A ls hx hb hr hU hown hlocks hml hin hP hK hD hA hS hl
  have hown : s.vm.findClass RX11 = some m.cls := hown
  have hl : lv_has ls 2 [(0, .ref h0), (1, .int p0)] := hl
  refine lv_aload_n hx hb dX11_octet_0 rfl (lv_at hl 0 rfl) ?_
  refine va_get (D := G) (ci := 10) (v := .ref r7) (C := RX11) (T := TX11) (N := 9) hx hb hU in_X11 hown hK.1 hP 0 rfl rfl 7 (by decide) (hU _ u_257) (fun _ h9 => h9) rfl dX11_octet_1 ?_
  refine lv_iload_n hx hb dX11_octet_4 rfl (lv_at hl 1 rfl) ?_
  refine kt_callV (wc := [(r7, .inr (7, [.ref r8, .int 0, .int 0]))]) (wr := [(h0, .inr (10, [.ref r1, .int 0, .int (-1), .ref r2, .ref r4, .ref r6, .int (-2), .ref r7, .ref r9]))]) (As := [.int p0]) (rest := []) (c_X7_byteAt l G cy r7 r8 p0) m_X7_byteAt u_428 hx hb hml hown hU hl.1 hK hP hD hS hA dX11_octet_5 [1] [0] rfl rfl rfl rfl rfl rfl (Nat.le_of_ble_eq_true rfl) (ci := 7) rfl rfl rfl (fun v9 w9 H locs hw hP hD hS => ?_)
  obtain ⟨rfl, rfl⟩ := hw
  have hP : va_P G vwCl [(h0, .inr (10, [.ref r1, .int 0, .int (-1), .ref r2, .ref r4, .ref r6, .int (-2), .ref r7, .ref r9]))] H := hP
  have hD : va_D A [(h0, .inr (10, [.ref r1, .int 0, .int (-1), .ref r2, .ref r4, .ref r6, .int (-2), .ref r7, .ref r9]))] := hD
  refine W.eq (g2 := F0 m 8 ls [.int (-1)]) rfl ?_
  refine W.widen (k := 0) (n := 0) (Nat.le_of_ble_eq_true rfl) (Nat.le_of_ble_eq_true rfl) ?_
  exact kt_iret hx hb hr hlocks hP hD hS dX11_octet_8 [] rfl rfl rfl rfl ⟨rfl, rfl⟩
end
section
set_option maxHeartbeats 4000000 in
set_option maxRecDepth 100000 in
theorem c_X11_core (l : Launch) (G : va_G) (cy : Nat → ClassId) (h0 : Nat) (r1 : Nat) (r2 : Nat) (r4 : Nat) (r6 : Nat) (r7 : Nat) (r9 : Nat) (r3 : Nat) (p0 : Int32) : Kt l G cy yX11_core cX11_core 2 (some .int) ({ frames := 14, cells := 0, slots := 0, locals := 400 } : Room) [.ref h0, .int p0] [(h0, .inr (10, [.ref r1, .int 0, .int (-1), .ref r2, .ref r4, .ref r6, .int (-2), .ref r7, .ref r9])), (r2, .inr (0, [.ref r3, .int 0, .int 0]))] (fun (v : Option Value) (w1 : va_W) => v = some (.int (-1)) ∧ w1 = []) := by
  refine kt_ofW (by decide) (Nat.le_of_ble_eq_true rfl) ?_
  intro p e s m below meth c A ls hx hb hr hU hown hlocks hml hin hP hK hD hA hS hl
  have hown : s.vm.findClass RX11 = some m.cls := hown
  have hl : lv_has ls 2 [(0, .ref h0), (1, .int p0)] := hl
  refine lv_aload_n hx hb dX11_core_0 rfl (lv_at hl 0 rfl) ?_
  refine va_get (D := G) (ci := 10) (v := .int (-2)) (C := RX11) (T := TX11) (N := 9) hx hb hU in_X11 hown hK.1 hP 0 rfl rfl 6 (by decide) (hU _ u_256) (fun _ h9 => h9) rfl dX11_core_1 ?_
  refine lv_bipush (v := (-2)) hx hb dX11_core_4 (by decide) ?_
  refine lv_icmp_ne (tgt := 20) hx hb dX11_core_6 (by decide) (fun c9 => absurd (by decide) c9) (fun _ => ?_)
  refine lv_aload_n hx hb dX11_core_9 rfl (lv_at hl 0 rfl) ?_
  refine lv_aload_n hx hb dX11_core_10 rfl (lv_at hl 0 rfl) ?_
  refine va_get (D := G) (ci := 10) (v := .ref r2) (C := RX11) (T := TX11) (N := 9) hx hb hU in_X11 hown hK.1 hP 0 rfl rfl 3 (by decide) (hU _ u_253) (fun _ h9 => h9) rfl dX11_core_11 ?_
  refine kt_callV (wc := [(r2, .inr (0, [.ref r3, .int 0, .int 0]))]) (wr := [(h0, .inr (10, [.ref r1, .int 0, .int (-1), .ref r2, .ref r4, .ref r6, .int (-2), .ref r7, .ref r9]))]) (As := []) (rest := [.ref h0]) (c_X0_leastCore l G cy r2 r3) m_X0_leastCore u_436 hx hb hml hown hU hl.1 hK hP hD hS hA dX11_core_14 [1] [0] rfl rfl rfl rfl rfl rfl (Nat.le_of_ble_eq_true rfl) (ci := 0) rfl rfl rfl (fun v9 w9 H locs hw hP hD hS => ?_)
  obtain ⟨rfl, rfl⟩ := hw
  have hP : va_P G vwCl [(h0, .inr (10, [.ref r1, .int 0, .int (-1), .ref r2, .ref r4, .ref r6, .int (-2), .ref r7, .ref r9])), (r2, .inr (0, [.ref r3, .int 0, .int 0]))] H := hP
  have hD : va_D A [(h0, .inr (10, [.ref r1, .int 0, .int (-1), .ref r2, .ref r4, .ref r6, .int (-2), .ref r7, .ref r9])), (r2, .inr (0, [.ref r3, .int 0, .int 0]))] := hD
  refine W.eq (g2 := F0 m 17 ls [.int (-1), .ref h0]) rfl ?_
  refine W.widen (k := 0) (n := 0) (Nat.le_of_ble_eq_true rfl) (Nat.le_of_ble_eq_true rfl) ?_
  refine va_put (D := G) (ci := 10) (v := .int (-1)) (ty := .int) (C := RX11) (T := TX11) (N := 9) hx hb hU in_X11 tyX11 tyX11_ok nmX11 hown hK.1 hP hD hS 0 rfl rfl 6 (by decide) (hU _ u_256) (fun _ h9 => h9) rfl (by decide +kernel) rfl rfl (Nat.le_of_ble_eq_true rfl) dX11_core_17 (fun H locs hP hD hS => ?_)
  have hP : va_P G vwCl [(h0, .inr (10, [.ref r1, .int 0, .int (-1), .ref r2, .ref r4, .ref r6, .int (-1), .ref r7, .ref r9])), (r2, .inr (0, [.ref r3, .int 0, .int 0]))] H := hP
  have hD : va_D A [(h0, .inr (10, [.ref r1, .int 0, .int (-1), .ref r2, .ref r4, .ref r6, .int (-1), .ref r7, .ref r9])), (r2, .inr (0, [.ref r3, .int 0, .int 0]))] := hD
  refine lv_aload_n hx hb dX11_core_20 rfl (lv_at hl 0 rfl) ?_
  refine va_get (D := G) (ci := 10) (v := .int (-1)) (C := RX11) (T := TX11) (N := 9) hx hb hU in_X11 hown hK.1 hP 0 rfl rfl 6 (by decide) (hU _ u_256) (fun _ h9 => h9) rfl dX11_core_21 ?_
  refine lv_iconst (v := (-1)) hx hb dX11_core_24 (by decide) ?_
  refine lv_icmp_ne (tgt := 30) hx hb dX11_core_25 (by decide) (fun c9 => absurd (by decide) c9) (fun _ => ?_)
  refine lv_iconst (v := (-1)) hx hb dX11_core_28 (by decide) ?_
  exact kt_iret hx hb hr hlocks hP hD hS dX11_core_29 [] rfl rfl rfl rfl ⟨rfl, rfl⟩
set_option maxHeartbeats 4000000 in
set_option maxRecDepth 100000 in
theorem c_X11_pure (l : Launch) (G : va_G) (cy : Nat → ClassId) (h0 : Nat) (r1 : Nat) (r2 : Nat) (r4 : Nat) (r6 : Nat) (r7 : Nat) (r9 : Nat) (r3 : Nat) (p0 : Int32) : Kt l G cy yX11_pure cX11_pure 5 (some .int) ({ frames := 12, cells := 0, slots := 0, locals := 300 } : Room) [.ref h0, .int p0] [(h0, .inr (10, [.ref r1, .int 0, .int (-1), .ref r2, .ref r4, .ref r6, .int (-2), .ref r7, .ref r9])), (r2, .inr (0, [.ref r3, .int 0, .int 0]))] (fun (v : Option Value) (w1 : va_W) => v = some (.int 0) ∧ w1 = []) := by
  refine kt_ofW (by decide) (Nat.le_of_ble_eq_true rfl) ?_
  intro p e s m below meth c A ls hx hb hr hU hown hlocks hml hin hP hK hD hA hS hl
  have hown : s.vm.findClass RX11 = some m.cls := hown
  have hl : lv_has ls 5 [(0, .ref h0), (1, .int p0)] := hl
  refine lv_iconst (v := 0) hx hb dX11_pure_0 (by decide) ?_
  refine lv_istore_n (lv' := [(2, .int 0), (0, .ref h0), (1, .int p0)]) hx hb dX11_pure_1 rfl hl (by decide) rfl (fun ls hl => ?_)
  refine lv_iconst (v := 0) hx hb dX11_pure_2 (by decide) ?_
  refine lv_istore_n (lv' := [(3, .int 0), (2, .int 0), (0, .ref h0), (1, .int p0)]) hx hb dX11_pure_3 rfl hl (by decide) rfl (fun ls hl => ?_)
  refine lv_iconst (v := 0) hx hb dX11_pure_4 (by decide) ?_
  refine lv_istore (lv' := [(4, .int 0), (3, .int 0), (2, .int 0), (0, .ref h0), (1, .int p0)]) hx hb dX11_pure_5 hl (by decide) rfl (fun ls hl => ?_)
  refine lv_iload hx hb dX11_pure_7 (lv_at hl 0 rfl) ?_
  refine lv_aload_n hx hb dX11_pure_9 rfl (lv_at hl 3 rfl) ?_
  refine va_get (D := G) (ci := 10) (v := .ref r2) (C := RX11) (T := TX11) (N := 9) hx hb hU in_X11 hown hK.1 hP 0 rfl rfl 3 (by decide) (hU _ u_253) (fun _ h9 => h9) rfl dX11_pure_10 ?_
  refine va_get (D := G) (ci := 0) (v := .int 0) (C := RX0) (T := TX0) (N := 3) hx hb hU in_X0 hown hK.1 hP 1 rfl rfl 1 (by decide) (hU _ u_178) (fun _ h9 => h9) rfl dX11_pure_13 ?_
  refine lv_icmp_ge (tgt := 67) hx hb dX11_pure_16 (by decide) (fun _ => ?_) (fun c9 => absurd (by decide) c9)
  refine lv_iload_n hx hb dX11_pure_67 rfl (lv_at hl 2 rfl) ?_
  refine lv_iload_n hx hb dX11_pure_68 rfl (lv_at hl 1 rfl) ?_
  refine lv_iconst (v := (-1)) hx hb dX11_pure_69 (by decide) ?_
  refine lv_ixor hx hb dX11_pure_70 (lx_top (y := (-1)) (by decide +kernel) ?_)
  refine lv_iand hx hb dX11_pure_71 (lx_top (y := 0) (by decide +kernel) ?_)
  exact kt_iret hx hb hr hlocks hP hD hS dX11_pure_72 [] rfl rfl rfl rfl ⟨rfl, rfl⟩
set_option maxHeartbeats 4000000 in
set_option maxRecDepth 100000 in
theorem c_X11_stands (l : Launch) (G : va_G) (cy : Nat → ClassId) (sa : Nat → Nat) (hlst : l.stackTraces = false) (h0 : Nat) (r1 : Nat) (r2 : Nat) (r4 : Nat) (r6 : Nat) (r7 : Nat) (r9 : Nat) (r3 : Nat) (p0 : Int32) (p1 : Int32) : Kx l G cy sa yX11_stands cX11_stands 7 (some .int) ({ frames := 12, cells := 1, slots := 6, locals := 300 } : Room) [.ref h0, .int p0, .int p1] [(h0, .inr (10, [.ref r1, .int 0, .int (-1), .ref r2, .ref r4, .ref r6, .int (-2), .ref r7, .ref r9])), (r2, .inr (0, [.ref r3, .int 0, .int 0]))] (fun (v : Option Value) (w1 : va_W) => v = some (.int 0) ∧ w1 = [] ∧ (okVar p0)) (fun E => E = eIO ∧ ¬ okVar p0) := by
  refine kx_ofW (by decide) (Nat.le_of_ble_eq_true rfl) ?_
  intro p e s m below meth c A ls hx hb hr hU hown hlocks hml hin hP hK hD hA hS hl hZ hnt
  have hown : s.vm.findClass RX11 = some m.cls := hown
  have hl : lv_has ls 7 [(0, .ref h0), (1, .int p0), (2, .int p1)] := hl
  refine lv_iload_n hx hb dX11_stands_0 rfl (lv_at hl 1 rfl) ?_
  refine lv_if_lt (tgt := 10) hx hb dX11_stands_1 (by decide) (fun c_1 => ?_) (fun c_1 => ?_)
  · exact kx_throw (text := "no such variable") hx hb hlst hown (by decide) hU u_1083 u_144 (by decide) at_156 hZ hS (by rw [hml]; exact hl.1) dX11_stands_10 dX11_stands_13 dX11_stands_14 dX11_stands_16 dX11_stands_19 hnt rfl rfl rfl rfl hlocks ⟨rfl, (by simp [okVar, c_1])⟩
  · refine lv_iload_n hx hb dX11_stands_4 rfl (lv_at hl 1 rfl) ?_
    refine lv_bipush (v := 6) hx hb dX11_stands_5 (by decide) ?_
    refine lv_icmp_lt (tgt := 20) hx hb dX11_stands_7 (by decide) (fun c_2 => ?_) (fun c_2 => ?_)
    · refine lv_iload_n hx hb dX11_stands_20 rfl (lv_at hl 2 rfl) ?_
      refine lv_if_eq (tgt := 34) hx hb dX11_stands_21 (by decide) (fun c_3 => ?_) (fun c_3 => ?_)
      · refine lv_iconst (v := 0) hx hb dX11_stands_34 (by decide) ?_
        refine lv_istore_n (lv' := [(3, .int 0), (0, .ref h0), (1, .int p0), (2, .int p1)]) hx hb dX11_stands_35 rfl hl (by decide) rfl (fun ls hl => ?_)
        refine lv_iload_n hx hb dX11_stands_36 rfl (lv_at hl 3 rfl) ?_
        refine lv_if_eq (tgt := 50) hx hb dX11_stands_37 (by decide) (fun _ => ?_) (fun c9 => absurd c_3 c9)
        refine lv_aload_n hx hb dX11_stands_50 rfl (lv_at hl 1 rfl) ?_
        refine va_get (D := G) (ci := 10) (v := .ref r2) (C := RX11) (T := TX11) (N := 9) hx hb hU in_X11 hown hK.1 hP 0 rfl rfl 3 (by decide) (hU _ u_253) (fun _ h9 => h9) rfl dX11_stands_51 ?_
        refine va_get (D := G) (ci := 0) (v := .int 0) (C := RX0) (T := TX0) (N := 3) hx hb hU in_X0 hown hK.1 hP 1 rfl rfl 1 (by decide) (hU _ u_178) (fun _ h9 => h9) rfl dX11_stands_54 ?_
        refine lv_istore (lv' := [(4, .int 0), (3, .int 0), (0, .ref h0), (1, .int p0), (2, .int p1)]) hx hb dX11_stands_57 hl (by decide) rfl (fun ls hl => ?_)
        refine lv_iconst (v := 0) hx hb dX11_stands_59 (by decide) ?_
        refine lv_istore (lv' := [(5, .int 0), (4, .int 0), (3, .int 0), (0, .ref h0), (1, .int p0), (2, .int p1)]) hx hb dX11_stands_60 hl (by decide) rfl (fun ls hl => ?_)
        refine lv_iload_n hx hb dX11_stands_62 rfl (lv_at hl 2 rfl) ?_
        refine lv_istore (lv' := [(6, .int 0), (5, .int 0), (4, .int 0), (3, .int 0), (0, .ref h0), (1, .int p0), (2, .int p1)]) hx hb dX11_stands_63 hl (by decide) rfl (fun ls hl => ?_)
        refine lv_iload hx hb dX11_stands_65 (lv_at hl 0 rfl) ?_
        refine lv_iload hx hb dX11_stands_67 (lv_at hl 2 rfl) ?_
        refine lv_icmp_ge (tgt := 99) hx hb dX11_stands_69 (by decide) (fun _ => ?_) (fun c9 => absurd (by decide) c9)
        refine lv_iload hx hb dX11_stands_99 (lv_at hl 1 rfl) ?_
        exact vx_ret (kt_iret hx hb hr hlocks hP hD hS dX11_stands_101 [] rfl rfl rfl rfl ⟨rfl, rfl, (by simp [okVar, c_1, c_2, c_3])⟩)
      · refine lv_aload_n hx hb dX11_stands_24 rfl (lv_at hl 0 rfl) ?_
        refine va_get (D := G) (ci := 10) (v := .ref r2) (C := RX11) (T := TX11) (N := 9) hx hb hU in_X11 hown hK.1 hP 0 rfl rfl 3 (by decide) (hU _ u_253) (fun _ h9 => h9) rfl dX11_stands_25 ?_
        refine va_get (D := G) (ci := 0) (v := .int 0) (C := RX0) (T := TX0) (N := 3) hx hb hU in_X0 hown hK.1 hP 1 rfl rfl 1 (by decide) (hU _ u_178) (fun _ h9 => h9) rfl dX11_stands_28 ?_
        refine lv_goto (tgt := 35) hx hb dX11_stands_31 (by decide) ?_
        refine lv_istore_n (lv' := [(3, .int 0), (0, .ref h0), (1, .int p0), (2, .int p1)]) hx hb dX11_stands_35 rfl hl (by decide) rfl (fun ls hl => ?_)
        refine lv_iload_n hx hb dX11_stands_36 rfl (lv_at hl 3 rfl) ?_
        refine lv_if_eq (tgt := 50) hx hb dX11_stands_37 (by decide) (fun c9 => absurd c9 c_3) (fun _ => ?_)
        refine lv_aload_n hx hb dX11_stands_40 rfl (lv_at hl 1 rfl) ?_
        refine va_get (D := G) (ci := 10) (v := .ref r2) (C := RX11) (T := TX11) (N := 9) hx hb hU in_X11 hown hK.1 hP 0 rfl rfl 3 (by decide) (hU _ u_253) (fun _ h9 => h9) rfl dX11_stands_41 ?_
        refine va_get (D := G) (ci := 0) (v := .int 0) (C := RX0) (T := TX0) (N := 3) hx hb hU in_X0 hown hK.1 hP 1 rfl rfl 2 (by decide) (hU _ u_181) (fun _ h9 => h9) rfl dX11_stands_44 ?_
        refine lv_goto (tgt := 57) hx hb dX11_stands_47 (by decide) ?_
        refine lv_istore (lv' := [(4, .int 0), (3, .int 0), (0, .ref h0), (1, .int p0), (2, .int p1)]) hx hb dX11_stands_57 hl (by decide) rfl (fun ls hl => ?_)
        refine lv_iconst (v := 0) hx hb dX11_stands_59 (by decide) ?_
        refine lv_istore (lv' := [(5, .int 0), (4, .int 0), (3, .int 0), (0, .ref h0), (1, .int p0), (2, .int p1)]) hx hb dX11_stands_60 hl (by decide) rfl (fun ls hl => ?_)
        refine lv_iload_n hx hb dX11_stands_62 rfl (lv_at hl 2 rfl) ?_
        refine lv_istore (lv' := [(6, .int 0), (5, .int 0), (4, .int 0), (3, .int 0), (0, .ref h0), (1, .int p0), (2, .int p1)]) hx hb dX11_stands_63 hl (by decide) rfl (fun ls hl => ?_)
        refine lv_iload hx hb dX11_stands_65 (lv_at hl 0 rfl) ?_
        refine lv_iload hx hb dX11_stands_67 (lv_at hl 2 rfl) ?_
        refine lv_icmp_ge (tgt := 99) hx hb dX11_stands_69 (by decide) (fun _ => ?_) (fun c9 => absurd (by decide) c9)
        refine lv_iload hx hb dX11_stands_99 (lv_at hl 1 rfl) ?_
        exact vx_ret (kt_iret hx hb hr hlocks hP hD hS dX11_stands_101 [] rfl rfl rfl rfl ⟨rfl, rfl, (by simp [okVar, c_1, c_2, c_3])⟩)
    · exact kx_throw (text := "no such variable") hx hb hlst hown (by decide) hU u_1083 u_144 (by decide) at_156 hZ hS (by rw [hml]; exact hl.1) dX11_stands_10 dX11_stands_13 dX11_stands_14 dX11_stands_16 dX11_stands_19 hnt rfl rfl rfl rfl hlocks ⟨rfl, (by simp [okVar, c_1, c_2])⟩
set_option maxHeartbeats 4000000 in
set_option maxRecDepth 100000 in
theorem c_X11_count (l : Launch) (G : va_G) (cy : Nat → ClassId) (h0 : Nat) (r1 : Nat) (r2 : Nat) (r4 : Nat) (r6 : Nat) (r7 : Nat) (r9 : Nat) (r3 : Nat) (r8 : Nat) (p0 : Int32) : Kt l G cy yX11_count cX11_count 2 (some .int) ({ frames := 12, cells := 0, slots := 0, locals := 300 } : Room) [.ref h0, .int p0] [(h0, .inr (10, [.ref r1, .int 0, .int (-1), .ref r2, .ref r4, .ref r6, .int (-2), .ref r7, .ref r9])), (r2, .inr (0, [.ref r3, .int 0, .int 0])), (r7, .inr (7, [.ref r8, .int 0, .int 0]))] (fun (v : Option Value) (w1 : va_W) => ∃ (r : Int32), v = some (.int r) ∧ w1 = [] ∧ (r = sp_count p0)) := by
  refine kt_ofW (by decide) (Nat.le_of_ble_eq_true rfl) ?_
  intro p e s m below meth c A ls hx hb hr hU hown hlocks hml hin hP hK hD hA hS hl
  have hown : s.vm.findClass RX11 = some m.cls := hown
  have hl : lv_has ls 2 [(0, .ref h0), (1, .int p0)] := hl
  refine lv_iload_n hx hb dX11_count_0 rfl (lv_at hl 1 rfl) ?_
  by_cases c_1 : p0 = 0
  · refine lv_tableIn (off := 59) (tgt := 60) hx hb dX11_count_1 (by rw [c_1]; decide) (by rw [c_1]; decide) (by rw [c_1]; rfl) (by decide) ?_
    refine lv_aload_n hx hb dX11_count_60 rfl (lv_at hl 0 rfl) ?_
    refine va_get (D := G) (ci := 10) (v := .ref r2) (C := RX11) (T := TX11) (N := 9) hx hb hU in_X11 hown hK.1 hP 0 rfl rfl 3 (by decide) (hU _ u_253) (fun _ h9 => h9) rfl dX11_count_61 ?_
    refine va_get (D := G) (ci := 0) (v := .int 0) (C := RX0) (T := TX0) (N := 3) hx hb hU in_X0 hown hK.1 hP 1 rfl rfl 1 (by decide) (hU _ u_178) (fun _ h9 => h9) rfl dX11_count_64 ?_
    exact kt_iret hx hb hr hlocks hP hD hS dX11_count_67 [] rfl rfl rfl rfl ⟨0, rfl, rfl, (by simp [sp_count, c_1])⟩
  by_cases c_2 : p0 = 1
  · refine lv_tableIn (off := 67) (tgt := 68) hx hb dX11_count_1 (by rw [c_2]; decide) (by rw [c_2]; decide) (by rw [c_2]; rfl) (by decide) ?_
    refine lv_aload_n hx hb dX11_count_68 rfl (lv_at hl 0 rfl) ?_
    refine va_get (D := G) (ci := 10) (v := .ref r2) (C := RX11) (T := TX11) (N := 9) hx hb hU in_X11 hown hK.1 hP 0 rfl rfl 3 (by decide) (hU _ u_253) (fun _ h9 => h9) rfl dX11_count_69 ?_
    refine va_get (D := G) (ci := 0) (v := .int 0) (C := RX0) (T := TX0) (N := 3) hx hb hU in_X0 hown hK.1 hP 1 rfl rfl 2 (by decide) (hU _ u_181) (fun _ h9 => h9) rfl dX11_count_72 ?_
    exact kt_iret hx hb hr hlocks hP hD hS dX11_count_75 [] rfl rfl rfl rfl ⟨0, rfl, rfl, (by simp [sp_count, c_1, c_2])⟩
  by_cases c_3 : p0 = 2
  · refine lv_tableIn (off := 75) (tgt := 76) hx hb dX11_count_1 (by rw [c_3]; decide) (by rw [c_3]; decide) (by rw [c_3]; rfl) (by decide) ?_
    refine lv_aload_n hx hb dX11_count_76 rfl (lv_at hl 0 rfl) ?_
    refine va_get (D := G) (ci := 10) (v := .ref r2) (C := RX11) (T := TX11) (N := 9) hx hb hU in_X11 hown hK.1 hP 0 rfl rfl 3 (by decide) (hU _ u_253) (fun _ h9 => h9) rfl dX11_count_77 ?_
    refine va_get (D := G) (ci := 0) (v := .int 0) (C := RX0) (T := TX0) (N := 3) hx hb hU in_X0 hown hK.1 hP 1 rfl rfl 2 (by decide) (hU _ u_181) (fun _ h9 => h9) rfl dX11_count_80 ?_
    refine lv_aload_n hx hb dX11_count_83 rfl (lv_at hl 0 rfl) ?_
    refine va_get (D := G) (ci := 10) (v := .ref r2) (C := RX11) (T := TX11) (N := 9) hx hb hU in_X11 hown hK.1 hP 0 rfl rfl 3 (by decide) (hU _ u_253) (fun _ h9 => h9) rfl dX11_count_84 ?_
    refine kt_callV (wc := [(r2, .inr (0, [.ref r3, .int 0, .int 0]))]) (wr := [(h0, .inr (10, [.ref r1, .int 0, .int (-1), .ref r2, .ref r4, .ref r6, .int (-2), .ref r7, .ref r9])), (r7, .inr (7, [.ref r8, .int 0, .int 0]))]) (As := []) (rest := [.int 0]) (c_X0_planeCount l G cy r2 r3) m_X0_planeCount u_458 hx hb hml hown hU hl.1 hK hP hD hS hA dX11_count_87 [1] [0, 2] rfl rfl rfl rfl rfl rfl (Nat.le_of_ble_eq_true rfl) (ci := 0) rfl rfl rfl (fun v9 w9 H locs hw hP hD hS => ?_)
    obtain ⟨rfl, rfl⟩ := hw
    have hP : va_P G vwCl [(h0, .inr (10, [.ref r1, .int 0, .int (-1), .ref r2, .ref r4, .ref r6, .int (-2), .ref r7, .ref r9])), (r7, .inr (7, [.ref r8, .int 0, .int 0])), (r2, .inr (0, [.ref r3, .int 0, .int 0]))] H := hP
    have hD : va_D A [(h0, .inr (10, [.ref r1, .int 0, .int (-1), .ref r2, .ref r4, .ref r6, .int (-2), .ref r7, .ref r9])), (r7, .inr (7, [.ref r8, .int 0, .int 0])), (r2, .inr (0, [.ref r3, .int 0, .int 0]))] := hD
    refine W.eq (g2 := F0 m 90 ls [.int 0, .int 0]) rfl ?_
    refine W.widen (k := 0) (n := 0) (Nat.le_of_ble_eq_true rfl) (Nat.le_of_ble_eq_true rfl) ?_
    refine lv_isub hx hb dX11_count_90 (lx_top (y := 0) (by decide +kernel) ?_)
    exact kt_iret hx hb hr hlocks hP hD hS dX11_count_91 [] rfl rfl rfl rfl ⟨0, rfl, rfl, (by simp [sp_count, c_1, c_2, c_3])⟩
  by_cases c_4 : p0 = 3
  · refine lv_tableIn (off := 91) (tgt := 92) hx hb dX11_count_1 (by rw [c_4]; decide) (by rw [c_4]; decide) (by rw [c_4]; rfl) (by decide) ?_
    refine lv_aload_n hx hb dX11_count_92 rfl (lv_at hl 0 rfl) ?_
    refine va_get (D := G) (ci := 10) (v := .ref r2) (C := RX11) (T := TX11) (N := 9) hx hb hU in_X11 hown hK.1 hP 0 rfl rfl 3 (by decide) (hU _ u_253) (fun _ h9 => h9) rfl dX11_count_93 ?_
    refine kt_callV (wc := [(r2, .inr (0, [.ref r3, .int 0, .int 0]))]) (wr := [(h0, .inr (10, [.ref r1, .int 0, .int (-1), .ref r2, .ref r4, .ref r6, .int (-2), .ref r7, .ref r9])), (r7, .inr (7, [.ref r8, .int 0, .int 0]))]) (As := []) (rest := []) (c_X0_planeCount l G cy r2 r3) m_X0_planeCount u_458 hx hb hml hown hU hl.1 hK hP hD hS hA dX11_count_96 [1] [0, 2] rfl rfl rfl rfl rfl rfl (Nat.le_of_ble_eq_true rfl) (ci := 0) rfl rfl rfl (fun v9 w9 H locs hw hP hD hS => ?_)
    obtain ⟨rfl, rfl⟩ := hw
    have hP : va_P G vwCl [(h0, .inr (10, [.ref r1, .int 0, .int (-1), .ref r2, .ref r4, .ref r6, .int (-2), .ref r7, .ref r9])), (r7, .inr (7, [.ref r8, .int 0, .int 0])), (r2, .inr (0, [.ref r3, .int 0, .int 0]))] H := hP
    have hD : va_D A [(h0, .inr (10, [.ref r1, .int 0, .int (-1), .ref r2, .ref r4, .ref r6, .int (-2), .ref r7, .ref r9])), (r7, .inr (7, [.ref r8, .int 0, .int 0])), (r2, .inr (0, [.ref r3, .int 0, .int 0]))] := hD
    refine W.eq (g2 := F0 m 99 ls [.int 0]) rfl ?_
    refine W.widen (k := 0) (n := 0) (Nat.le_of_ble_eq_true rfl) (Nat.le_of_ble_eq_true rfl) ?_
    exact kt_iret hx hb hr hlocks hP hD hS dX11_count_99 [] rfl rfl rfl rfl ⟨0, rfl, rfl, (by simp [sp_count, c_1, c_2, c_3, c_4])⟩
  by_cases c_5 : p0 = 4
  · refine lv_tableIn (off := 99) (tgt := 100) hx hb dX11_count_1 (by rw [c_5]; decide) (by rw [c_5]; decide) (by rw [c_5]; rfl) (by decide) ?_
    refine lv_aload_n hx hb dX11_count_100 rfl (lv_at hl 0 rfl) ?_
    refine va_get (D := G) (ci := 10) (v := .ref r2) (C := RX11) (T := TX11) (N := 9) hx hb hU in_X11 hown hK.1 hP 0 rfl rfl 3 (by decide) (hU _ u_253) (fun _ h9 => h9) rfl dX11_count_101 ?_
    refine lv_iconst (v := 1) hx hb dX11_count_104 (by decide) ?_
    refine kt_callV (wc := [(r2, .inr (0, [.ref r3, .int 0, .int 0]))]) (wr := [(h0, .inr (10, [.ref r1, .int 0, .int (-1), .ref r2, .ref r4, .ref r6, .int (-2), .ref r7, .ref r9])), (r7, .inr (7, [.ref r8, .int 0, .int 0]))]) (As := [.int 1]) (rest := []) (c_X0_madeBy l G cy r2 r3 1) m_X0_madeBy u_462 hx hb hml hown hU hl.1 hK hP hD hS hA dX11_count_105 [1] [0, 2] rfl rfl rfl rfl rfl rfl (Nat.le_of_ble_eq_true rfl) (ci := 0) rfl rfl rfl (fun v9 w9 H locs hw hP hD hS => ?_)
    obtain ⟨rfl, rfl⟩ := hw
    have hP : va_P G vwCl [(h0, .inr (10, [.ref r1, .int 0, .int (-1), .ref r2, .ref r4, .ref r6, .int (-2), .ref r7, .ref r9])), (r7, .inr (7, [.ref r8, .int 0, .int 0])), (r2, .inr (0, [.ref r3, .int 0, .int 0]))] H := hP
    have hD : va_D A [(h0, .inr (10, [.ref r1, .int 0, .int (-1), .ref r2, .ref r4, .ref r6, .int (-2), .ref r7, .ref r9])), (r7, .inr (7, [.ref r8, .int 0, .int 0])), (r2, .inr (0, [.ref r3, .int 0, .int 0]))] := hD
    refine W.eq (g2 := F0 m 108 ls [.int 0]) rfl ?_
    refine W.widen (k := 0) (n := 0) (Nat.le_of_ble_eq_true rfl) (Nat.le_of_ble_eq_true rfl) ?_
    exact kt_iret hx hb hr hlocks hP hD hS dX11_count_108 [] rfl rfl rfl rfl ⟨0, rfl, rfl, (by simp [sp_count, c_1, c_2, c_3, c_4, c_5])⟩
  by_cases c_6 : p0 = 5
  · refine lv_tableIn (off := 108) (tgt := 109) hx hb dX11_count_1 (by rw [c_6]; decide) (by rw [c_6]; decide) (by rw [c_6]; rfl) (by decide) ?_
    refine lv_aload_n hx hb dX11_count_109 rfl (lv_at hl 0 rfl) ?_
    refine va_get (D := G) (ci := 10) (v := .ref r2) (C := RX11) (T := TX11) (N := 9) hx hb hU in_X11 hown hK.1 hP 0 rfl rfl 3 (by decide) (hU _ u_253) (fun _ h9 => h9) rfl dX11_count_110 ?_
    refine lv_bipush (v := 6) hx hb dX11_count_113 (by decide) ?_
    refine kt_callV (wc := [(r2, .inr (0, [.ref r3, .int 0, .int 0]))]) (wr := [(h0, .inr (10, [.ref r1, .int 0, .int (-1), .ref r2, .ref r4, .ref r6, .int (-2), .ref r7, .ref r9])), (r7, .inr (7, [.ref r8, .int 0, .int 0]))]) (As := [.int 6]) (rest := []) (c_X0_madeBy l G cy r2 r3 6) m_X0_madeBy u_462 hx hb hml hown hU hl.1 hK hP hD hS hA dX11_count_115 [1] [0, 2] rfl rfl rfl rfl rfl rfl (Nat.le_of_ble_eq_true rfl) (ci := 0) rfl rfl rfl (fun v9 w9 H locs hw hP hD hS => ?_)
    obtain ⟨rfl, rfl⟩ := hw
    have hP : va_P G vwCl [(h0, .inr (10, [.ref r1, .int 0, .int (-1), .ref r2, .ref r4, .ref r6, .int (-2), .ref r7, .ref r9])), (r7, .inr (7, [.ref r8, .int 0, .int 0])), (r2, .inr (0, [.ref r3, .int 0, .int 0]))] H := hP
    have hD : va_D A [(h0, .inr (10, [.ref r1, .int 0, .int (-1), .ref r2, .ref r4, .ref r6, .int (-2), .ref r7, .ref r9])), (r7, .inr (7, [.ref r8, .int 0, .int 0])), (r2, .inr (0, [.ref r3, .int 0, .int 0]))] := hD
    refine W.eq (g2 := F0 m 118 ls [.int 0]) rfl ?_
    refine W.widen (k := 0) (n := 0) (Nat.le_of_ble_eq_true rfl) (Nat.le_of_ble_eq_true rfl) ?_
    exact kt_iret hx hb hr hlocks hP hD hS dX11_count_118 [] rfl rfl rfl rfl ⟨0, rfl, rfl, (by simp [sp_count, c_1, c_2, c_3, c_4, c_5, c_6])⟩
  by_cases c_7 : p0 = 6
  · refine lv_tableIn (off := 118) (tgt := 119) hx hb dX11_count_1 (by rw [c_7]; decide) (by rw [c_7]; decide) (by rw [c_7]; rfl) (by decide) ?_
    refine lv_aload_n hx hb dX11_count_119 rfl (lv_at hl 0 rfl) ?_
    refine va_get (D := G) (ci := 10) (v := .ref r2) (C := RX11) (T := TX11) (N := 9) hx hb hU in_X11 hown hK.1 hP 0 rfl rfl 3 (by decide) (hU _ u_253) (fun _ h9 => h9) rfl dX11_count_120 ?_
    refine lv_bipush (v := 8) hx hb dX11_count_123 (by decide) ?_
    refine kt_callV (wc := [(r2, .inr (0, [.ref r3, .int 0, .int 0]))]) (wr := [(h0, .inr (10, [.ref r1, .int 0, .int (-1), .ref r2, .ref r4, .ref r6, .int (-2), .ref r7, .ref r9])), (r7, .inr (7, [.ref r8, .int 0, .int 0]))]) (As := [.int 8]) (rest := []) (c_X0_madeBy l G cy r2 r3 8) m_X0_madeBy u_462 hx hb hml hown hU hl.1 hK hP hD hS hA dX11_count_125 [1] [0, 2] rfl rfl rfl rfl rfl rfl (Nat.le_of_ble_eq_true rfl) (ci := 0) rfl rfl rfl (fun v9 w9 H locs hw hP hD hS => ?_)
    obtain ⟨rfl, rfl⟩ := hw
    have hP : va_P G vwCl [(h0, .inr (10, [.ref r1, .int 0, .int (-1), .ref r2, .ref r4, .ref r6, .int (-2), .ref r7, .ref r9])), (r7, .inr (7, [.ref r8, .int 0, .int 0])), (r2, .inr (0, [.ref r3, .int 0, .int 0]))] H := hP
    have hD : va_D A [(h0, .inr (10, [.ref r1, .int 0, .int (-1), .ref r2, .ref r4, .ref r6, .int (-2), .ref r7, .ref r9])), (r7, .inr (7, [.ref r8, .int 0, .int 0])), (r2, .inr (0, [.ref r3, .int 0, .int 0]))] := hD
    refine W.eq (g2 := F0 m 128 ls [.int 0]) rfl ?_
    refine W.widen (k := 0) (n := 0) (Nat.le_of_ble_eq_true rfl) (Nat.le_of_ble_eq_true rfl) ?_
    exact kt_iret hx hb hr hlocks hP hD hS dX11_count_128 [] rfl rfl rfl rfl ⟨0, rfl, rfl, (by simp [sp_count, c_1, c_2, c_3, c_4, c_5, c_6, c_7])⟩
  by_cases c_8 : p0 = 7
  · refine lv_tableIn (off := 128) (tgt := 129) hx hb dX11_count_1 (by rw [c_8]; decide) (by rw [c_8]; decide) (by rw [c_8]; rfl) (by decide) ?_
    refine lv_aload_n hx hb dX11_count_129 rfl (lv_at hl 0 rfl) ?_
    refine va_get (D := G) (ci := 10) (v := .ref r2) (C := RX11) (T := TX11) (N := 9) hx hb hU in_X11 hown hK.1 hP 0 rfl rfl 3 (by decide) (hU _ u_253) (fun _ h9 => h9) rfl dX11_count_130 ?_
    refine lv_bipush (v := 9) hx hb dX11_count_133 (by decide) ?_
    refine kt_callV (wc := [(r2, .inr (0, [.ref r3, .int 0, .int 0]))]) (wr := [(h0, .inr (10, [.ref r1, .int 0, .int (-1), .ref r2, .ref r4, .ref r6, .int (-2), .ref r7, .ref r9])), (r7, .inr (7, [.ref r8, .int 0, .int 0]))]) (As := [.int 9]) (rest := []) (c_X0_madeBy l G cy r2 r3 9) m_X0_madeBy u_462 hx hb hml hown hU hl.1 hK hP hD hS hA dX11_count_135 [1] [0, 2] rfl rfl rfl rfl rfl rfl (Nat.le_of_ble_eq_true rfl) (ci := 0) rfl rfl rfl (fun v9 w9 H locs hw hP hD hS => ?_)
    obtain ⟨rfl, rfl⟩ := hw
    have hP : va_P G vwCl [(h0, .inr (10, [.ref r1, .int 0, .int (-1), .ref r2, .ref r4, .ref r6, .int (-2), .ref r7, .ref r9])), (r7, .inr (7, [.ref r8, .int 0, .int 0])), (r2, .inr (0, [.ref r3, .int 0, .int 0]))] H := hP
    have hD : va_D A [(h0, .inr (10, [.ref r1, .int 0, .int (-1), .ref r2, .ref r4, .ref r6, .int (-2), .ref r7, .ref r9])), (r7, .inr (7, [.ref r8, .int 0, .int 0])), (r2, .inr (0, [.ref r3, .int 0, .int 0]))] := hD
    refine W.eq (g2 := F0 m 138 ls [.int 0]) rfl ?_
    refine W.widen (k := 0) (n := 0) (Nat.le_of_ble_eq_true rfl) (Nat.le_of_ble_eq_true rfl) ?_
    exact kt_iret hx hb hr hlocks hP hD hS dX11_count_138 [] rfl rfl rfl rfl ⟨0, rfl, rfl, (by simp [sp_count, c_1, c_2, c_3, c_4, c_5, c_6, c_7, c_8])⟩
  by_cases c_9 : p0 = 8
  · refine lv_tableIn (off := 138) (tgt := 139) hx hb dX11_count_1 (by rw [c_9]; decide) (by rw [c_9]; decide) (by rw [c_9]; rfl) (by decide) ?_
    refine lv_aload_n hx hb dX11_count_139 rfl (lv_at hl 0 rfl) ?_
    refine va_get (D := G) (ci := 10) (v := .ref r7) (C := RX11) (T := TX11) (N := 9) hx hb hU in_X11 hown hK.1 hP 0 rfl rfl 7 (by decide) (hU _ u_257) (fun _ h9 => h9) rfl dX11_count_140 ?_
    refine va_get (D := G) (ci := 7) (v := .int 0) (C := RX7) (T := TX7) (N := 3) hx hb hU in_X7 hown hK.1 hP 2 rfl rfl 1 (by decide) (hU _ u_225) (fun _ h9 => h9) rfl dX11_count_143 ?_
    exact kt_iret hx hb hr hlocks hP hD hS dX11_count_146 [] rfl rfl rfl rfl ⟨0, rfl, rfl, (by simp [sp_count, c_1, c_2, c_3, c_4, c_5, c_6, c_7, c_8, c_9])⟩
  by_cases c_10 : p0 = 9
  · refine lv_tableIn (off := 146) (tgt := 147) hx hb dX11_count_1 (by rw [c_10]; decide) (by rw [c_10]; decide) (by rw [c_10]; rfl) (by decide) ?_
    refine lv_aload_n hx hb dX11_count_147 rfl (lv_at hl 0 rfl) ?_
    refine va_get (D := G) (ci := 10) (v := .ref r2) (C := RX11) (T := TX11) (N := 9) hx hb hU in_X11 hown hK.1 hP 0 rfl rfl 3 (by decide) (hU _ u_253) (fun _ h9 => h9) rfl dX11_count_148 ?_
    refine lv_iconst (v := (-1)) hx hb dX11_count_151 (by decide) ?_
    refine kt_callV (wc := [(r2, .inr (0, [.ref r3, .int 0, .int 0]))]) (wr := [(h0, .inr (10, [.ref r1, .int 0, .int (-1), .ref r2, .ref r4, .ref r6, .int (-2), .ref r7, .ref r9])), (r7, .inr (7, [.ref r8, .int 0, .int 0]))]) (As := [.int (-1)]) (rest := []) (c_X0_modelsWithout l G cy r2 r3 (-1)) m_X0_modelsWithout u_298 hx hb hml hown hU hl.1 hK hP hD hS hA dX11_count_152 [1] [0, 2] rfl rfl rfl rfl rfl rfl (Nat.le_of_ble_eq_true rfl) (ci := 0) rfl rfl rfl (fun v9 w9 H locs hw hP hD hS => ?_)
    obtain ⟨rfl, rfl⟩ := hw
    have hP : va_P G vwCl [(h0, .inr (10, [.ref r1, .int 0, .int (-1), .ref r2, .ref r4, .ref r6, .int (-2), .ref r7, .ref r9])), (r7, .inr (7, [.ref r8, .int 0, .int 0])), (r2, .inr (0, [.ref r3, .int 0, .int 0]))] H := hP
    have hD : va_D A [(h0, .inr (10, [.ref r1, .int 0, .int (-1), .ref r2, .ref r4, .ref r6, .int (-2), .ref r7, .ref r9])), (r7, .inr (7, [.ref r8, .int 0, .int 0])), (r2, .inr (0, [.ref r3, .int 0, .int 0]))] := hD
    refine W.eq (g2 := F0 m 155 ls [.long (-1)]) rfl ?_
    refine W.widen (k := 0) (n := 0) (Nat.le_of_ble_eq_true rfl) (Nat.le_of_ble_eq_true rfl) ?_
    refine kt_callS (wc := []) (wr := [(h0, .inr (10, [.ref r1, .int 0, .int (-1), .ref r2, .ref r4, .ref r6, .int (-2), .ref r7, .ref r9])), (r7, .inr (7, [.ref r8, .int 0, .int 0])), (r2, .inr (0, [.ref r3, .int 0, .int 0]))]) (As := [.long (-1)]) (rest := []) (c_J13_bitCount_95d88 l G cy ) m_J13_bitCount_95d88 u_303 hx hb hml hown hU hl.1 hK hP hD hS hA dX11_count_155 [] [0, 1, 2] rfl rfl rfl rfl rfl rfl (Nat.le_of_ble_eq_true rfl) (fun v9 w9 H locs hw hP hD hS => ?_)
    obtain ⟨rfl, rfl⟩ := hw
    have hP : va_P G vwCl [(h0, .inr (10, [.ref r1, .int 0, .int (-1), .ref r2, .ref r4, .ref r6, .int (-2), .ref r7, .ref r9])), (r7, .inr (7, [.ref r8, .int 0, .int 0])), (r2, .inr (0, [.ref r3, .int 0, .int 0]))] H := hP
    have hD : va_D A [(h0, .inr (10, [.ref r1, .int 0, .int (-1), .ref r2, .ref r4, .ref r6, .int (-2), .ref r7, .ref r9])), (r7, .inr (7, [.ref r8, .int 0, .int 0])), (r2, .inr (0, [.ref r3, .int 0, .int 0]))] := hD
    refine W.eq (g2 := F0 m 158 ls [.int 64]) rfl ?_
    refine W.widen (k := 0) (n := 0) (Nat.le_of_ble_eq_true rfl) (Nat.le_of_ble_eq_true rfl) ?_
    exact kt_iret hx hb hr hlocks hP hD hS dX11_count_158 [] rfl rfl rfl rfl ⟨64, rfl, rfl, (by simp [sp_count, c_1, c_2, c_3, c_4, c_5, c_6, c_7, c_8, c_9, c_10])⟩
  by_cases c_11 : p0 = 10
  · refine lv_tableIn (off := 158) (tgt := 159) hx hb dX11_count_1 (by rw [c_11]; decide) (by rw [c_11]; decide) (by rw [c_11]; rfl) (by decide) ?_
    refine lv_aload_n hx hb dX11_count_159 rfl (lv_at hl 0 rfl) ?_
    refine va_get (D := G) (ci := 10) (v := .ref r2) (C := RX11) (T := TX11) (N := 9) hx hb hU in_X11 hown hK.1 hP 0 rfl rfl 3 (by decide) (hU _ u_253) (fun _ h9 => h9) rfl dX11_count_160 ?_
    refine kt_callV (wc := [(r2, .inr (0, [.ref r3, .int 0, .int 0]))]) (wr := [(h0, .inr (10, [.ref r1, .int 0, .int (-1), .ref r2, .ref r4, .ref r6, .int (-2), .ref r7, .ref r9])), (r7, .inr (7, [.ref r8, .int 0, .int 0]))]) (As := []) (rest := []) (c_X0_unusedSteps l G cy r2 r3) m_X0_unusedSteps u_466 hx hb hml hown hU hl.1 hK hP hD hS hA dX11_count_163 [1] [0, 2] rfl rfl rfl rfl rfl rfl (Nat.le_of_ble_eq_true rfl) (ci := 0) rfl rfl rfl (fun v9 w9 H locs hw hP hD hS => ?_)
    obtain ⟨rfl, rfl⟩ := hw
    have hP : va_P G vwCl [(h0, .inr (10, [.ref r1, .int 0, .int (-1), .ref r2, .ref r4, .ref r6, .int (-2), .ref r7, .ref r9])), (r7, .inr (7, [.ref r8, .int 0, .int 0])), (r2, .inr (0, [.ref r3, .int 0, .int 0]))] H := hP
    have hD : va_D A [(h0, .inr (10, [.ref r1, .int 0, .int (-1), .ref r2, .ref r4, .ref r6, .int (-2), .ref r7, .ref r9])), (r7, .inr (7, [.ref r8, .int 0, .int 0])), (r2, .inr (0, [.ref r3, .int 0, .int 0]))] := hD
    refine W.eq (g2 := F0 m 166 ls [.int 0]) rfl ?_
    refine W.widen (k := 0) (n := 0) (Nat.le_of_ble_eq_true rfl) (Nat.le_of_ble_eq_true rfl) ?_
    exact kt_iret hx hb hr hlocks hP hD hS dX11_count_166 [] rfl rfl rfl rfl ⟨0, rfl, rfl, (by simp [sp_count, c_1, c_2, c_3, c_4, c_5, c_6, c_7, c_8, c_9, c_10, c_11])⟩
  refine lv_tableOut (tgt := 167) hx hb dX11_count_1 (lx_tout (n := 10) (fun k9 h9 => by rcases (show k9 = 0 ∨ k9 = 1 ∨ k9 = 2 ∨ k9 = 3 ∨ k9 = 4 ∨ k9 = 5 ∨ k9 = 6 ∨ k9 = 7 ∨ k9 = 8 ∨ k9 = 9 ∨ k9 = 10 by omega) with rfl | rfl | rfl | rfl | rfl | rfl | rfl | rfl | rfl | rfl | rfl <;> assumption) (by decide)) (by decide) ?_
  refine lv_iconst (v := (-1)) hx hb dX11_count_167 (by decide) ?_
  exact kt_iret hx hb hr hlocks hP hD hS dX11_count_168 [] rfl rfl rfl rfl ⟨(-1), rfl, rfl, (by simp [sp_count, c_1, c_2, c_3, c_4, c_5, c_6, c_7, c_8, c_9, c_10, c_11])⟩
end
section
theorem lx_iushr0 (z : UInt32) : ((0 : Int32).toUInt32 >>> z).toInt32 = 0 := by
  apply Int32.toBitVec_inj.mp
  simp
end
section
theorem u_9 : Cond.selects RX8 yX8_kindAt yX8_kindAt ∈ UU := uu_mem 9 (by decide +kernel) (by decide +kernel)
theorem u_33 : Cond.selects RX11 yX11_forgetAnswers yX11_forgetAnswers ∈ UU := uu_mem 33 (by decide +kernel) (by decide +kernel)
theorem u_129 : Cond.initialized RX9 ∈ UU := uu_mem 129 (by decide +kernel) (by decide +kernel)
theorem u_130 : Cond.initialized RX1 ∈ UU := uu_mem 130 (by decide +kernel) (by decide +kernel)
theorem u_131 : Cond.initialized RX8 ∈ UU := uu_mem 131 (by decide +kernel) (by decide +kernel)
theorem u_137 : Cond.initialized RX6 ∈ UU := uu_mem 137 (by decide +kernel) (by decide +kernel)
theorem u_173 : Cond.fieldLink RX6 9 "PlaneProof$Book" "axioms" "I" ∈ UU := uu_mem 173 (by decide +kernel) (by decide +kernel)
theorem u_196 : Cond.fieldLink RX4 19 "PlaneProof$Graph" "nodes" "I" ∈ UU := uu_mem 196 (by decide +kernel) (by decide +kernel)
theorem u_197 : Cond.fieldLink RX11 257 "PlaneProof$Graph" "nodes" "I" ∈ UU := uu_mem 197 (by decide +kernel) (by decide +kernel)
theorem u_199 : Cond.fieldLink RX11 260 "PlaneProof$Graph" "sources" "I" ∈ UU := uu_mem 199 (by decide +kernel) (by decide +kernel)
theorem u_202 : Cond.fieldLink RX11 263 "PlaneProof$Graph" "sink" "I" ∈ UU := uu_mem 202 (by decide +kernel) (by decide +kernel)
theorem u_297 : Cond.code yX11_model cX11_model 6 (some .int) ∈ UU := uu_mem 297 (by decide +kernel) (by decide +kernel)
theorem u_416 : Cond.instanceMethod yX4_isNode ∈ UU := uu_mem 416 (by decide +kernel) (by decide +kernel)
theorem u_417 : Cond.selects RX4 yX4_isNode yX4_isNode ∈ UU := uu_mem 417 (by decide +kernel) (by decide +kernel)
theorem u_418 : Cond.code yX4_isNode cX4_isNode 2 (some .boolean) ∈ UU := uu_mem 418 (by decide +kernel) (by decide +kernel)
theorem u_485 : Cond.code yX11_claim cX11_claim 3 (some .int) ∈ UU := uu_mem 485 (by decide +kernel) (by decide +kernel)
theorem u_486 : Cond.classLink RX11 67 RX1 ∈ UU := uu_mem 486 (by decide +kernel) (by decide +kernel)
theorem u_487 : Cond.instantiable RX1 5 ∈ UU := uu_mem 487 (by decide +kernel) (by decide +kernel)
theorem u_488 : Cond.classLink RX11 69 RX8 ∈ UU := uu_mem 488 (by decide +kernel) (by decide +kernel)
theorem u_489 : Cond.instantiable RX8 6 ∈ UU := uu_mem 489 (by decide +kernel) (by decide +kernel)
theorem u_490 : Cond.methodLink RX11 71 yX8_init ∈ UU := uu_mem 490 (by decide +kernel) (by decide +kernel)
theorem u_491 : Cond.instanceMethod yX8_init ∈ UU := uu_mem 491 (by decide +kernel) (by decide +kernel)
theorem u_492 : Cond.code yX8_init cX8_init 3 none ∈ UU := uu_mem 492 (by decide +kernel) (by decide +kernel)
theorem u_493 : Cond.methodLink RX8 3 Lib.objectInit ∈ UU := uu_mem 493 (by decide +kernel) (by decide +kernel)
theorem u_494 : Cond.fieldLink RX8 9 "PlaneProof$Signs" "text" "[B" ∈ UU := uu_mem 494 (by decide +kernel) (by decide +kernel)
theorem u_495 : Cond.fieldLink RX8 15 "PlaneProof$Signs" "size" "I" ∈ UU := uu_mem 495 (by decide +kernel) (by decide +kernel)
theorem u_496 : Cond.fieldLink RX8 19 "PlaneProof$Signs" "start" "I" ∈ UU := uu_mem 496 (by decide +kernel) (by decide +kernel)
theorem u_498 : Cond.fieldLink RX8 22 "PlaneProof$Signs" "stop" "I" ∈ UU := uu_mem 498 (by decide +kernel) (by decide +kernel)
theorem u_499 : Cond.fieldLink RX8 25 "PlaneProof$Signs" "kind" "I" ∈ UU := uu_mem 499 (by decide +kernel) (by decide +kernel)
theorem u_500 : Cond.fieldLink RX8 28 "PlaneProof$Signs" "value" "I" ∈ UU := uu_mem 500 (by decide +kernel) (by decide +kernel)
theorem u_516 : Cond.methodLink RX11 74 yX1_init ∈ UU := uu_mem 516 (by decide +kernel) (by decide +kernel)
theorem u_517 : Cond.instanceMethod yX1_init ∈ UU := uu_mem 517 (by decide +kernel) (by decide +kernel)
theorem u_518 : Cond.code yX1_init cX1_init 2 none ∈ UU := uu_mem 518 (by decide +kernel) (by decide +kernel)
theorem u_519 : Cond.methodLink RX1 3 yX9_init ∈ UU := uu_mem 519 (by decide +kernel) (by decide +kernel)
theorem u_520 : Cond.instanceMethod yX9_init ∈ UU := uu_mem 520 (by decide +kernel) (by decide +kernel)
theorem u_521 : Cond.code yX9_init cX9_init 2 none ∈ UU := uu_mem 521 (by decide +kernel) (by decide +kernel)
theorem u_522 : Cond.methodLink RX9 3 Lib.objectInit ∈ UU := uu_mem 522 (by decide +kernel) (by decide +kernel)
theorem u_523 : Cond.classLink RX9 15 RX5 ∈ UU := uu_mem 523 (by decide +kernel) (by decide +kernel)
theorem u_524 : Cond.classLink RX1 9 RX4 ∈ UU := uu_mem 524 (by decide +kernel) (by decide +kernel)
theorem u_525 : Cond.methodLink RX1 11 yX4_init ∈ UU := uu_mem 525 (by decide +kernel) (by decide +kernel)
theorem u_526 : Cond.fieldLink RX1 14 "PlaneProof$ClaimReader" "graph" "LPlaneProof$Graph;" ∈ UU := uu_mem 526 (by decide +kernel) (by decide +kernel)
theorem u_527 : Cond.fieldLink RX11 98 "PlaneProof$ClaimReader" "graph" "LPlaneProof$Graph;" ∈ UU := uu_mem 527 (by decide +kernel) (by decide +kernel)
theorem u_528 : Cond.fieldLink RX9 9 "PlaneProof$TextReader" "signs" "LPlaneProof$Signs;" ∈ UU := uu_mem 528 (by decide +kernel) (by decide +kernel)
theorem u_533 : Cond.fieldLink RX9 17 "PlaneProof$TextReader" "lines" "[LPlaneProof$Line;" ∈ UU := uu_mem 533 (by decide +kernel) (by decide +kernel)
theorem u_535 : Cond.sameField "PlaneProof$ProofReader" "PlaneProof$TextReader" "lines" "[LPlaneProof$Line;" ∈ UU := uu_mem 535 (by decide +kernel) (by decide +kernel)
theorem u_536 : Cond.fieldLink RX11 91 "PlaneProof$ClaimReader" "lines" "[LPlaneProof$Line;" ∈ UU := uu_mem 536 (by decide +kernel) (by decide +kernel)
theorem u_537 : Cond.sameField "PlaneProof$ClaimReader" "PlaneProof$TextReader" "lines" "[LPlaneProof$Line;" ∈ UU := uu_mem 537 (by decide +kernel) (by decide +kernel)
theorem u_538 : Cond.fieldLink RX11 114 "PlaneProof$ProofReader" "lines" "[LPlaneProof$Line;" ∈ UU := uu_mem 538 (by decide +kernel) (by decide +kernel)
theorem u_539 : Cond.fieldLink RX9 21 "PlaneProof$TextReader" "size" "I" ∈ UU := uu_mem 539 (by decide +kernel) (by decide +kernel)
theorem u_540 : Cond.fieldLink RX6 22 "PlaneProof$ProofReader" "size" "I" ∈ UU := uu_mem 540 (by decide +kernel) (by decide +kernel)
theorem u_541 : Cond.sameField "PlaneProof$ProofReader" "PlaneProof$TextReader" "size" "I" ∈ UU := uu_mem 541 (by decide +kernel) (by decide +kernel)
theorem u_542 : Cond.fieldLink RX11 95 "PlaneProof$ClaimReader" "size" "I" ∈ UU := uu_mem 542 (by decide +kernel) (by decide +kernel)
theorem u_543 : Cond.sameField "PlaneProof$ClaimReader" "PlaneProof$TextReader" "size" "I" ∈ UU := uu_mem 543 (by decide +kernel) (by decide +kernel)
theorem u_544 : Cond.fieldLink RX11 115 "PlaneProof$ProofReader" "size" "I" ∈ UU := uu_mem 544 (by decide +kernel) (by decide +kernel)
theorem u_545 : Cond.fieldLink RX9 25 "PlaneProof$TextReader" "faultAt" "I" ∈ UU := uu_mem 545 (by decide +kernel) (by decide +kernel)
theorem u_546 : Cond.fieldLink RX11 81 "PlaneProof$ClaimReader" "faultAt" "I" ∈ UU := uu_mem 546 (by decide +kernel) (by decide +kernel)
theorem u_547 : Cond.sameField "PlaneProof$ClaimReader" "PlaneProof$TextReader" "faultAt" "I" ∈ UU := uu_mem 547 (by decide +kernel) (by decide +kernel)
theorem u_548 : Cond.fieldLink RX11 111 "PlaneProof$ProofReader" "faultAt" "I" ∈ UU := uu_mem 548 (by decide +kernel) (by decide +kernel)
theorem u_549 : Cond.sameField "PlaneProof$ProofReader" "PlaneProof$TextReader" "faultAt" "I" ∈ UU := uu_mem 549 (by decide +kernel) (by decide +kernel)
theorem u_561 : Cond.methodLink RX11 77 ⟨RX1, "readText", "(I)Z"⟩ ∈ UU := uu_mem 561 (by decide +kernel) (by decide +kernel)
theorem u_562 : Cond.sameMethod "PlaneProof$ClaimReader" "PlaneProof$TextReader" "readText" "(I)Z" ∈ UU := uu_mem 562 (by decide +kernel) (by decide +kernel)
theorem u_564 : Cond.selects RX1 ⟨RX1, "readText", "(I)Z"⟩ yX9_readText ∈ UU := uu_mem 564 (by decide +kernel) (by decide +kernel)
theorem u_565 : Cond.instanceMethod yX9_readText ∈ UU := uu_mem 565 (by decide +kernel) (by decide +kernel)
theorem u_566 : Cond.code yX9_readText cX9_readText 5 (some .boolean) ∈ UU := uu_mem 566 (by decide +kernel) (by decide +kernel)
theorem u_567 : Cond.methodLink RX9 28 yX8_advance ∈ UU := uu_mem 567 (by decide +kernel) (by decide +kernel)
theorem u_568 : Cond.instanceMethod yX8_advance ∈ UU := uu_mem 568 (by decide +kernel) (by decide +kernel)
theorem u_569 : Cond.selects RX8 yX8_advance yX8_advance ∈ UU := uu_mem 569 (by decide +kernel) (by decide +kernel)
theorem u_570 : Cond.code yX8_advance cX8_advance 1 none ∈ UU := uu_mem 570 (by decide +kernel) (by decide +kernel)
theorem u_571 : Cond.methodLink RX8 31 yX8_kindAt ∈ UU := uu_mem 571 (by decide +kernel) (by decide +kernel)
theorem u_573 : Cond.instanceMethod yX8_kindAt ∈ UU := uu_mem 573 (by decide +kernel) (by decide +kernel)
theorem u_574 : Cond.code yX8_kindAt cX8_kindAt 3 (some .int) ∈ UU := uu_mem 574 (by decide +kernel) (by decide +kernel)
theorem u_579 : Cond.methodLink RX9 33 yX8_isEnd ∈ UU := uu_mem 579 (by decide +kernel) (by decide +kernel)
theorem u_580 : Cond.instanceMethod yX8_isEnd ∈ UU := uu_mem 580 (by decide +kernel) (by decide +kernel)
theorem u_581 : Cond.selects RX8 yX8_isEnd yX8_isEnd ∈ UU := uu_mem 581 (by decide +kernel) (by decide +kernel)
theorem u_582 : Cond.code yX8_isEnd cX8_isEnd 1 (some .boolean) ∈ UU := uu_mem 582 (by decide +kernel) (by decide +kernel)
theorem u_846 : Cond.instantiable RX6 4 ∈ UU := uu_mem 846 (by decide +kernel) (by decide +kernel)
theorem u_1045 : Cond.methodLink RX11 99 yX11_forgetAnswers ∈ UU := uu_mem 1045 (by decide +kernel) (by decide +kernel)
theorem u_1047 : Cond.instanceMethod yX11_forgetAnswers ∈ UU := uu_mem 1047 (by decide +kernel) (by decide +kernel)
theorem u_1048 : Cond.code yX11_forgetAnswers cX11_forgetAnswers 2 none ∈ UU := uu_mem 1048 (by decide +kernel) (by decide +kernel)
theorem u_1055 : Cond.code yX11_proof cX11_proof 3 (some .int) ∈ UU := uu_mem 1055 (by decide +kernel) (by decide +kernel)
theorem u_1056 : Cond.classLink RX11 105 RX6 ∈ UU := uu_mem 1056 (by decide +kernel) (by decide +kernel)
theorem u_1057 : Cond.methodLink RX11 107 yX6_init ∈ UU := uu_mem 1057 (by decide +kernel) (by decide +kernel)
theorem u_1058 : Cond.instanceMethod yX6_init ∈ UU := uu_mem 1058 (by decide +kernel) (by decide +kernel)
theorem u_1059 : Cond.code yX6_init cX6_init 4 none ∈ UU := uu_mem 1059 (by decide +kernel) (by decide +kernel)
theorem u_1060 : Cond.methodLink RX6 3 yX9_init ∈ UU := uu_mem 1060 (by decide +kernel) (by decide +kernel)
theorem u_1066 : Cond.methodLink RX11 110 ⟨RX6, "readText", "(I)Z"⟩ ∈ UU := uu_mem 1066 (by decide +kernel) (by decide +kernel)
theorem u_1067 : Cond.sameMethod "PlaneProof$ProofReader" "PlaneProof$TextReader" "readText" "(I)Z" ∈ UU := uu_mem 1067 (by decide +kernel) (by decide +kernel)
theorem u_1068 : Cond.selects RX6 ⟨RX6, "readText", "(I)Z"⟩ yX9_readText ∈ UU := uu_mem 1068 (by decide +kernel) (by decide +kernel)
theorem u_1305 : Cond.code yX11_node cX11_node 3 (some .int) ∈ UU := uu_mem 1305 (by decide +kernel) (by decide +kernel)
theorem u_1306 : Cond.methodLink RX11 266 yX4_isNode ∈ UU := uu_mem 1306 (by decide +kernel) (by decide +kernel)
theorem df_X1 : ∀ j, j < 5 → defaultValue (tyX1 j) = vp_V [.null, .null, .int 0, .int 0, .null] j := by decide +kernel
theorem df_X6 : ∀ j, j < 4 → defaultValue (tyX6 j) = vp_V [.null, .null, .int 0, .int 0] j := by decide +kernel
theorem df_X8 : ∀ j, j < 6 → defaultValue (tyX8 j) = vp_V [.null, .int 0, .int 0, .int 0, .int 0, .int 0] j := by decide +kernel
theorem m_X11_forgetAnswers : mV yX11_forgetAnswers cX11_forgetAnswers 2 none 0 := ⟨u_1048, u_1047, u_33, u_123, ⟨by decide, by decide, by decide +kernel⟩⟩
theorem m_X1_init : mI yX1_init cX1_init 2 1 := ⟨u_518, u_517, u_130, rfl, ⟨by decide, by decide, by decide +kernel⟩⟩
theorem m_X4_isNode : mV yX4_isNode cX4_isNode 2 (some .boolean) 1 := ⟨u_418, u_416, u_417, u_125, ⟨by decide, by decide, by decide +kernel⟩⟩
theorem m_X6_init : mI yX6_init cX6_init 4 2 := ⟨u_1059, u_1058, u_137, rfl, ⟨by decide, by decide, by decide +kernel⟩⟩
theorem m_X8_advance : mV yX8_advance cX8_advance 1 none 0 := ⟨u_570, u_568, u_569, u_131, ⟨by decide, by decide, by decide +kernel⟩⟩
theorem m_X8_init : mI yX8_init cX8_init 3 2 := ⟨u_492, u_491, u_131, rfl, ⟨by decide, by decide, by decide +kernel⟩⟩
theorem m_X8_isEnd : mV yX8_isEnd cX8_isEnd 1 (some .boolean) 0 := ⟨u_582, u_580, u_581, u_131, ⟨by decide, by decide, by decide +kernel⟩⟩
theorem m_X8_kindAt : mV yX8_kindAt cX8_kindAt 3 (some .int) 1 := ⟨u_574, u_573, u_9, u_131, ⟨by decide, by decide, by decide +kernel⟩⟩
theorem m_X9_init : mI yX9_init cX9_init 2 1 := ⟨u_521, u_520, u_129, rfl, ⟨by decide, by decide, by decide +kernel⟩⟩
theorem mu_X9_readText_RX1 : mU RX1 ⟨RX1, "readText", "(I)Z"⟩ yX9_readText cX9_readText 5 (some .boolean) 1 := ⟨u_566, u_562, u_564, u_565, u_129, rfl, ⟨by decide, by decide, by decide +kernel⟩⟩
theorem mu_X9_readText_RX6 : mU RX6 ⟨RX6, "readText", "(I)Z"⟩ yX9_readText cX9_readText 5 (some .boolean) 1 := ⟨u_566, u_1067, u_1068, u_565, u_129, rfl, ⟨by decide, by decide, by decide +kernel⟩⟩
theorem dX11_claim_0 : decode cX11_claim 0 = .ok (.new 67, 3) := by decide +kernel
theorem dX11_claim_3 : decode cX11_claim 3 = .ok (.dup, 1) := by decide +kernel
theorem dX11_claim_4 : decode cX11_claim 4 = .ok (.new 69, 3) := by decide +kernel
theorem dX11_claim_7 : decode cX11_claim 7 = .ok (.dup, 1) := by decide +kernel
theorem dX11_claim_8 : decode cX11_claim 8 = .ok (.aload_n 0, 1) := by decide +kernel
theorem dX11_claim_9 : decode cX11_claim 9 = .ok (.getfield 9, 3) := by decide +kernel
theorem dX11_claim_12 : decode cX11_claim 12 = .ok (.aload_n 0, 1) := by decide +kernel
theorem dX11_claim_13 : decode cX11_claim 13 = .ok (.getfield 13, 3) := by decide +kernel
theorem dX11_claim_16 : decode cX11_claim 16 = .ok (.invokespecial 71, 3) := by decide +kernel
theorem dX11_claim_19 : decode cX11_claim 19 = .ok (.invokespecial 74, 3) := by decide +kernel
theorem dX11_claim_22 : decode cX11_claim 22 = .ok (.astore_n 1, 1) := by decide +kernel
theorem dX11_claim_23 : decode cX11_claim 23 = .ok (.aload_n 0, 1) := by decide +kernel
theorem dX11_claim_24 : decode cX11_claim 24 = .ok (.iconst 0, 1) := by decide +kernel
theorem dX11_claim_25 : decode cX11_claim 25 = .ok (.putfield 13, 3) := by decide +kernel
theorem dX11_claim_28 : decode cX11_claim 28 = .ok (.aload_n 1, 1) := by decide +kernel
theorem dX11_claim_29 : decode cX11_claim 29 = .ok (.bipush 16, 2) := by decide +kernel
theorem dX11_claim_31 : decode cX11_claim 31 = .ok (.invokevirtual 77, 3) := by decide +kernel
theorem dX11_claim_34 : decode cX11_claim 34 = .ok (.istore_n 2, 1) := by decide +kernel
theorem dX11_claim_35 : decode cX11_claim 35 = .ok (.aload_n 0, 1) := by decide +kernel
theorem dX11_claim_36 : decode cX11_claim 36 = .ok (.aload_n 1, 1) := by decide +kernel
theorem dX11_claim_37 : decode cX11_claim 37 = .ok (.getfield 81, 3) := by decide +kernel
theorem dX11_claim_40 : decode cX11_claim 40 = .ok (.putfield 17, 3) := by decide +kernel
theorem dX11_claim_43 : decode cX11_claim 43 = .ok (.iload_n 2, 1) := by decide +kernel
theorem dX11_claim_44 : decode cX11_claim 44 = .ok (.ifCond .ne 13, 3) := by decide +kernel
theorem dX11_claim_57 : decode cX11_claim 57 = .ok (.aload_n 0, 1) := by decide +kernel
theorem dX11_claim_58 : decode cX11_claim 58 = .ok (.new 20, 3) := by decide +kernel
theorem dX11_claim_61 : decode cX11_claim 61 = .ok (.dup, 1) := by decide +kernel
theorem dX11_claim_62 : decode cX11_claim 62 = .ok (.aload_n 1, 1) := by decide +kernel
theorem dX11_claim_63 : decode cX11_claim 63 = .ok (.getfield 91, 3) := by decide +kernel
theorem dX11_claim_66 : decode cX11_claim 66 = .ok (.aload_n 1, 1) := by decide +kernel
theorem dX11_claim_67 : decode cX11_claim 67 = .ok (.getfield 95, 3) := by decide +kernel
theorem dX11_claim_70 : decode cX11_claim 70 = .ok (.aload_n 1, 1) := by decide +kernel
theorem dX11_claim_71 : decode cX11_claim 71 = .ok (.getfield 95, 3) := by decide +kernel
theorem dX11_claim_74 : decode cX11_claim 74 = .ok (.invokespecial 24, 3) := by decide +kernel
theorem dX11_claim_77 : decode cX11_claim 77 = .ok (.putfield 27, 3) := by decide +kernel
theorem dX11_claim_80 : decode cX11_claim 80 = .ok (.aload_n 0, 1) := by decide +kernel
theorem dX11_claim_81 : decode cX11_claim 81 = .ok (.aload_n 1, 1) := by decide +kernel
theorem dX11_claim_82 : decode cX11_claim 82 = .ok (.getfield 98, 3) := by decide +kernel
theorem dX11_claim_85 : decode cX11_claim 85 = .ok (.putfield 34, 3) := by decide +kernel
theorem dX11_claim_88 : decode cX11_claim 88 = .ok (.aload_n 0, 1) := by decide +kernel
theorem dX11_claim_89 : decode cX11_claim 89 = .ok (.invokevirtual 99, 3) := by decide +kernel
theorem dX11_claim_92 : decode cX11_claim 92 = .ok (.aload_n 0, 1) := by decide +kernel
theorem dX11_claim_93 : decode cX11_claim 93 = .ok (.getfield 27, 3) := by decide +kernel
theorem dX11_claim_96 : decode cX11_claim 96 = .ok (.getfield 102, 3) := by decide +kernel
theorem dX11_claim_99 : decode cX11_claim 99 = .ok (.ireturn, 1) := by decide +kernel
theorem dX11_forgetAnswers_0 : decode cX11_forgetAnswers 0 = .ok (.aload_n 0, 1) := by decide +kernel
theorem dX11_forgetAnswers_1 : decode cX11_forgetAnswers 1 = .ok (.bipush (-2), 2) := by decide +kernel
theorem dX11_forgetAnswers_3 : decode cX11_forgetAnswers 3 = .ok (.putfield 44, 3) := by decide +kernel
theorem dX11_forgetAnswers_6 : decode cX11_forgetAnswers 6 = .ok (.iconst 0, 1) := by decide +kernel
theorem dX11_forgetAnswers_7 : decode cX11_forgetAnswers 7 = .ok (.istore_n 1, 1) := by decide +kernel
theorem dX11_forgetAnswers_8 : decode cX11_forgetAnswers 8 = .ok (.iload_n 1, 1) := by decide +kernel
theorem dX11_forgetAnswers_9 : decode cX11_forgetAnswers 9 = .ok (.bipush 6, 2) := by decide +kernel
theorem dX11_forgetAnswers_11 : decode cX11_forgetAnswers 11 = .ok (.if_icmp .gt 28, 3) := by decide +kernel
theorem dX11_forgetAnswers_14 : decode cX11_forgetAnswers 14 = .ok (.aload_n 0, 1) := by decide +kernel
theorem dX11_forgetAnswers_15 : decode cX11_forgetAnswers 15 = .ok (.getfield 40, 3) := by decide +kernel
theorem dX11_forgetAnswers_18 : decode cX11_forgetAnswers 18 = .ok (.iload_n 1, 1) := by decide +kernel
theorem dX11_forgetAnswers_19 : decode cX11_forgetAnswers 19 = .ok (.aaload, 1) := by decide +kernel
theorem dX11_forgetAnswers_20 : decode cX11_forgetAnswers 20 = .ok (.ifnull 13, 3) := by decide +kernel
theorem dX11_forgetAnswers_33 : decode cX11_forgetAnswers 33 = .ok (.iinc 1 1, 3) := by decide +kernel
theorem dX11_forgetAnswers_36 : decode cX11_forgetAnswers 36 = .ok (.goto (-28), 3) := by decide +kernel
theorem dX11_forgetAnswers_39 : decode cX11_forgetAnswers 39 = .ok (.return_, 1) := by decide +kernel
theorem dX11_model_0 : decode cX11_model 0 = .ok (.aload_n 0, 1) := by decide +kernel
theorem dX11_model_1 : decode cX11_model 1 = .ok (.getfield 27, 3) := by decide +kernel
theorem dX11_model_4 : decode cX11_model 4 = .ok (.iconst (-1), 1) := by decide +kernel
theorem dX11_model_5 : decode cX11_model 5 = .ok (.invokevirtual 183, 3) := by decide +kernel
theorem dX11_model_8 : decode cX11_model 8 = .ok (.lstore_n 2, 1) := by decide +kernel
theorem dX11_model_9 : decode cX11_model 9 = .ok (.iload_n 1, 1) := by decide +kernel
theorem dX11_model_10 : decode cX11_model 10 = .ok (.iconst (-1), 1) := by decide +kernel
theorem dX11_model_11 : decode cX11_model 11 = .ok (.if_icmp .ne 8, 3) := by decide +kernel
theorem dX11_model_14 : decode cX11_model 14 = .ok (.lload_n 2, 1) := by decide +kernel
theorem dX11_model_15 : decode cX11_model 15 = .ok (.invokestatic 177, 3) := by decide +kernel
theorem dX11_model_18 : decode cX11_model 18 = .ok (.ireturn, 1) := by decide +kernel
theorem dX11_model_19 : decode cX11_model 19 = .ok (.iconst 0, 1) := by decide +kernel
theorem dX11_model_20 : decode cX11_model 20 = .ok (.istore 4, 2) := by decide +kernel
theorem dX11_model_22 : decode cX11_model 22 = .ok (.iconst 0, 1) := by decide +kernel
theorem dX11_model_23 : decode cX11_model 23 = .ok (.istore 5, 2) := by decide +kernel
theorem dX11_model_25 : decode cX11_model 25 = .ok (.iload 5, 2) := by decide +kernel
theorem dX11_model_27 : decode cX11_model 27 = .ok (.bipush 64, 2) := by decide +kernel
theorem dX11_model_29 : decode cX11_model 29 = .ok (.if_icmp .ge 32, 3) := by decide +kernel
theorem dX11_model_32 : decode cX11_model 32 = .ok (.lload_n 2, 1) := by decide +kernel
theorem dX11_model_33 : decode cX11_model 33 = .ok (.iload 5, 2) := by decide +kernel
theorem dX11_model_35 : decode cX11_model 35 = .ok (.lushr, 1) := by decide +kernel
theorem dX11_model_36 : decode cX11_model 36 = .ok (.lconst 1, 1) := by decide +kernel
theorem dX11_model_37 : decode cX11_model 37 = .ok (.land, 1) := by decide +kernel
theorem dX11_model_38 : decode cX11_model 38 = .ok (.lconst 0, 1) := by decide +kernel
theorem dX11_model_39 : decode cX11_model 39 = .ok (.lcmp, 1) := by decide +kernel
theorem dX11_model_40 : decode cX11_model 40 = .ok (.ifCond .eq 15, 3) := by decide +kernel
theorem dX11_model_43 : decode cX11_model 43 = .ok (.iload 4, 2) := by decide +kernel
theorem dX11_model_45 : decode cX11_model 45 = .ok (.iload_n 1, 1) := by decide +kernel
theorem dX11_model_46 : decode cX11_model 46 = .ok (.if_icmp .ne 6, 3) := by decide +kernel
theorem dX11_model_49 : decode cX11_model 49 = .ok (.iload 5, 2) := by decide +kernel
theorem dX11_model_51 : decode cX11_model 51 = .ok (.ireturn, 1) := by decide +kernel
theorem dX11_model_52 : decode cX11_model 52 = .ok (.iinc 4 1, 3) := by decide +kernel
theorem dX11_model_55 : decode cX11_model 55 = .ok (.iinc 5 1, 3) := by decide +kernel
theorem dX11_model_58 : decode cX11_model 58 = .ok (.goto (-33), 3) := by decide +kernel
theorem dX11_model_61 : decode cX11_model 61 = .ok (.iconst (-1), 1) := by decide +kernel
theorem dX11_model_62 : decode cX11_model 62 = .ok (.ireturn, 1) := by decide +kernel
theorem dX11_node_0 : decode cX11_node 0 = .ok (.iload_n 1, 1) := by decide +kernel
theorem dX11_node_1 : decode cX11_node 1 = .ok (.tableswitch 51 0 2 #[27, 35, 43], 27) := by decide +kernel
theorem dX11_node_28 : decode cX11_node 28 = .ok (.aload_n 0, 1) := by decide +kernel
theorem dX11_node_29 : decode cX11_node 29 = .ok (.getfield 34, 3) := by decide +kernel
theorem dX11_node_32 : decode cX11_node 32 = .ok (.getfield 257, 3) := by decide +kernel
theorem dX11_node_35 : decode cX11_node 35 = .ok (.ireturn, 1) := by decide +kernel
theorem dX11_node_36 : decode cX11_node 36 = .ok (.aload_n 0, 1) := by decide +kernel
theorem dX11_node_37 : decode cX11_node 37 = .ok (.getfield 34, 3) := by decide +kernel
theorem dX11_node_40 : decode cX11_node 40 = .ok (.getfield 260, 3) := by decide +kernel
theorem dX11_node_43 : decode cX11_node 43 = .ok (.ireturn, 1) := by decide +kernel
theorem dX11_node_44 : decode cX11_node 44 = .ok (.aload_n 0, 1) := by decide +kernel
theorem dX11_node_45 : decode cX11_node 45 = .ok (.getfield 34, 3) := by decide +kernel
theorem dX11_node_48 : decode cX11_node 48 = .ok (.getfield 263, 3) := by decide +kernel
theorem dX11_node_51 : decode cX11_node 51 = .ok (.ireturn, 1) := by decide +kernel
theorem dX11_node_52 : decode cX11_node 52 = .ok (.iload_n 1, 1) := by decide +kernel
theorem dX11_node_53 : decode cX11_node 53 = .ok (.bipush 10, 2) := by decide +kernel
theorem dX11_node_55 : decode cX11_node 55 = .ok (.isub, 1) := by decide +kernel
theorem dX11_node_56 : decode cX11_node 56 = .ok (.istore_n 2, 1) := by decide +kernel
theorem dX11_node_57 : decode cX11_node 57 = .ok (.iload_n 2, 1) := by decide +kernel
theorem dX11_node_58 : decode cX11_node 58 = .ok (.ifCond .lt 20, 3) := by decide +kernel
theorem dX11_node_61 : decode cX11_node 61 = .ok (.iload_n 2, 1) := by decide +kernel
theorem dX11_node_62 : decode cX11_node 62 = .ok (.bipush 6, 2) := by decide +kernel
theorem dX11_node_64 : decode cX11_node 64 = .ok (.if_icmp .ge 14, 3) := by decide +kernel
theorem dX11_node_67 : decode cX11_node 67 = .ok (.aload_n 0, 1) := by decide +kernel
theorem dX11_node_68 : decode cX11_node 68 = .ok (.getfield 34, 3) := by decide +kernel
theorem dX11_node_71 : decode cX11_node 71 = .ok (.iload_n 2, 1) := by decide +kernel
theorem dX11_node_72 : decode cX11_node 72 = .ok (.invokevirtual 266, 3) := by decide +kernel
theorem dX11_node_75 : decode cX11_node 75 = .ok (.ifCond .ne 14, 3) := by decide +kernel
theorem dX11_node_78 : decode cX11_node 78 = .ok (.new 141, 3) := by decide +kernel
theorem dX11_node_81 : decode cX11_node 81 = .ok (.dup, 1) := by decide +kernel
theorem dX11_node_82 : decode cX11_node 82 = .ok (.ldc_w 269, 3) := by decide +kernel
theorem dX11_node_85 : decode cX11_node 85 = .ok (.invokespecial 145, 3) := by decide +kernel
theorem dX11_node_88 : decode cX11_node 88 = .ok (.athrow, 1) := by decide +kernel
theorem dX11_proof_0 : decode cX11_proof 0 = .ok (.new 105, 3) := by decide +kernel
theorem dX11_proof_3 : decode cX11_proof 3 = .ok (.dup, 1) := by decide +kernel
theorem dX11_proof_4 : decode cX11_proof 4 = .ok (.new 69, 3) := by decide +kernel
theorem dX11_proof_7 : decode cX11_proof 7 = .ok (.dup, 1) := by decide +kernel
theorem dX11_proof_8 : decode cX11_proof 8 = .ok (.aload_n 0, 1) := by decide +kernel
theorem dX11_proof_9 : decode cX11_proof 9 = .ok (.getfield 9, 3) := by decide +kernel
theorem dX11_proof_12 : decode cX11_proof 12 = .ok (.aload_n 0, 1) := by decide +kernel
theorem dX11_proof_13 : decode cX11_proof 13 = .ok (.getfield 13, 3) := by decide +kernel
theorem dX11_proof_16 : decode cX11_proof 16 = .ok (.invokespecial 71, 3) := by decide +kernel
theorem dX11_proof_19 : decode cX11_proof 19 = .ok (.aload_n 0, 1) := by decide +kernel
theorem dX11_proof_20 : decode cX11_proof 20 = .ok (.getfield 27, 3) := by decide +kernel
theorem dX11_proof_23 : decode cX11_proof 23 = .ok (.invokespecial 107, 3) := by decide +kernel
theorem dX11_proof_26 : decode cX11_proof 26 = .ok (.astore_n 1, 1) := by decide +kernel
theorem dX11_proof_27 : decode cX11_proof 27 = .ok (.aload_n 0, 1) := by decide +kernel
theorem dX11_proof_28 : decode cX11_proof 28 = .ok (.iconst 0, 1) := by decide +kernel
theorem dX11_proof_29 : decode cX11_proof 29 = .ok (.putfield 13, 3) := by decide +kernel
theorem dX11_proof_32 : decode cX11_proof 32 = .ok (.aload_n 1, 1) := by decide +kernel
theorem dX11_proof_33 : decode cX11_proof 33 = .ok (.bipush 40, 2) := by decide +kernel
theorem dX11_proof_35 : decode cX11_proof 35 = .ok (.invokevirtual 110, 3) := by decide +kernel
theorem dX11_proof_38 : decode cX11_proof 38 = .ok (.istore_n 2, 1) := by decide +kernel
theorem dX11_proof_39 : decode cX11_proof 39 = .ok (.aload_n 0, 1) := by decide +kernel
theorem dX11_proof_40 : decode cX11_proof 40 = .ok (.aload_n 1, 1) := by decide +kernel
theorem dX11_proof_41 : decode cX11_proof 41 = .ok (.getfield 111, 3) := by decide +kernel
theorem dX11_proof_44 : decode cX11_proof 44 = .ok (.putfield 17, 3) := by decide +kernel
theorem dX11_proof_47 : decode cX11_proof 47 = .ok (.iload_n 2, 1) := by decide +kernel
theorem dX11_proof_48 : decode cX11_proof 48 = .ok (.ifCond .ne 13, 3) := by decide +kernel
theorem dX11_proof_61 : decode cX11_proof 61 = .ok (.aload_n 0, 1) := by decide +kernel
theorem dX11_proof_62 : decode cX11_proof 62 = .ok (.new 20, 3) := by decide +kernel
theorem dX11_proof_65 : decode cX11_proof 65 = .ok (.dup, 1) := by decide +kernel
theorem dX11_proof_66 : decode cX11_proof 66 = .ok (.aload_n 1, 1) := by decide +kernel
theorem dX11_proof_67 : decode cX11_proof 67 = .ok (.getfield 114, 3) := by decide +kernel
theorem dX11_proof_70 : decode cX11_proof 70 = .ok (.aload_n 0, 1) := by decide +kernel
theorem dX11_proof_71 : decode cX11_proof 71 = .ok (.getfield 27, 3) := by decide +kernel
theorem dX11_proof_74 : decode cX11_proof 74 = .ok (.getfield 102, 3) := by decide +kernel
theorem dX11_proof_77 : decode cX11_proof 77 = .ok (.aload_n 1, 1) := by decide +kernel
theorem dX11_proof_78 : decode cX11_proof 78 = .ok (.getfield 115, 3) := by decide +kernel
theorem dX11_proof_81 : decode cX11_proof 81 = .ok (.invokespecial 24, 3) := by decide +kernel
theorem dX11_proof_84 : decode cX11_proof 84 = .ok (.putfield 27, 3) := by decide +kernel
theorem dX11_proof_87 : decode cX11_proof 87 = .ok (.aload_n 0, 1) := by decide +kernel
theorem dX11_proof_88 : decode cX11_proof 88 = .ok (.getfield 27, 3) := by decide +kernel
theorem dX11_proof_91 : decode cX11_proof 91 = .ok (.getfield 116, 3) := by decide +kernel
theorem dX11_proof_94 : decode cX11_proof 94 = .ok (.aload_n 0, 1) := by decide +kernel
theorem dX11_proof_95 : decode cX11_proof 95 = .ok (.getfield 27, 3) := by decide +kernel
theorem dX11_proof_98 : decode cX11_proof 98 = .ok (.getfield 102, 3) := by decide +kernel
theorem dX11_proof_101 : decode cX11_proof 101 = .ok (.isub, 1) := by decide +kernel
theorem dX11_proof_102 : decode cX11_proof 102 = .ok (.ireturn, 1) := by decide +kernel
theorem dX1_init_0 : decode cX1_init 0 = .ok (.aload_n 0, 1) := by decide +kernel
theorem dX1_init_1 : decode cX1_init 1 = .ok (.aload_n 1, 1) := by decide +kernel
theorem dX1_init_2 : decode cX1_init 2 = .ok (.invokespecial 3, 3) := by decide +kernel
theorem dX1_init_5 : decode cX1_init 5 = .ok (.aload_n 0, 1) := by decide +kernel
theorem dX1_init_6 : decode cX1_init 6 = .ok (.new 9, 3) := by decide +kernel
theorem dX1_init_9 : decode cX1_init 9 = .ok (.dup, 1) := by decide +kernel
theorem dX1_init_10 : decode cX1_init 10 = .ok (.invokespecial 11, 3) := by decide +kernel
theorem dX1_init_13 : decode cX1_init 13 = .ok (.putfield 14, 3) := by decide +kernel
theorem dX1_init_16 : decode cX1_init 16 = .ok (.return_, 1) := by decide +kernel
theorem dX4_isNode_0 : decode cX4_isNode 0 = .ok (.aload_n 0, 1) := by decide +kernel
theorem dX4_isNode_1 : decode cX4_isNode 1 = .ok (.getfield 19, 3) := by decide +kernel
theorem dX4_isNode_4 : decode cX4_isNode 4 = .ok (.iload_n 1, 1) := by decide +kernel
theorem dX4_isNode_5 : decode cX4_isNode 5 = .ok (.iushr, 1) := by decide +kernel
theorem dX4_isNode_6 : decode cX4_isNode 6 = .ok (.iconst 1, 1) := by decide +kernel
theorem dX4_isNode_7 : decode cX4_isNode 7 = .ok (.iand, 1) := by decide +kernel
theorem dX4_isNode_8 : decode cX4_isNode 8 = .ok (.ifCond .eq 7, 3) := by decide +kernel
theorem dX4_isNode_15 : decode cX4_isNode 15 = .ok (.iconst 0, 1) := by decide +kernel
theorem dX4_isNode_16 : decode cX4_isNode 16 = .ok (.ireturn, 1) := by decide +kernel
theorem dX6_init_0 : decode cX6_init 0 = .ok (.aload_n 0, 1) := by decide +kernel
theorem dX6_init_1 : decode cX6_init 1 = .ok (.aload_n 1, 1) := by decide +kernel
theorem dX6_init_2 : decode cX6_init 2 = .ok (.invokespecial 3, 3) := by decide +kernel
theorem dX6_init_5 : decode cX6_init 5 = .ok (.iconst 0, 1) := by decide +kernel
theorem dX6_init_6 : decode cX6_init 6 = .ok (.istore_n 3, 1) := by decide +kernel
theorem dX6_init_7 : decode cX6_init 7 = .ok (.iload_n 3, 1) := by decide +kernel
theorem dX6_init_8 : decode cX6_init 8 = .ok (.aload_n 2, 1) := by decide +kernel
theorem dX6_init_9 : decode cX6_init 9 = .ok (.getfield 9, 3) := by decide +kernel
theorem dX6_init_12 : decode cX6_init 12 = .ok (.if_icmp .ge 21, 3) := by decide +kernel
theorem dX6_init_33 : decode cX6_init 33 = .ok (.aload_n 0, 1) := by decide +kernel
theorem dX6_init_34 : decode cX6_init 34 = .ok (.aload_n 2, 1) := by decide +kernel
theorem dX6_init_35 : decode cX6_init 35 = .ok (.getfield 9, 3) := by decide +kernel
theorem dX6_init_38 : decode cX6_init 38 = .ok (.putfield 22, 3) := by decide +kernel
theorem dX6_init_41 : decode cX6_init 41 = .ok (.return_, 1) := by decide +kernel
theorem dX8_advance_0 : decode cX8_advance 0 = .ok (.aload_n 0, 1) := by decide +kernel
theorem dX8_advance_1 : decode cX8_advance 1 = .ok (.aload_n 0, 1) := by decide +kernel
theorem dX8_advance_2 : decode cX8_advance 2 = .ok (.getfield 22, 3) := by decide +kernel
theorem dX8_advance_5 : decode cX8_advance 5 = .ok (.putfield 19, 3) := by decide +kernel
theorem dX8_advance_8 : decode cX8_advance 8 = .ok (.aload_n 0, 1) := by decide +kernel
theorem dX8_advance_9 : decode cX8_advance 9 = .ok (.getfield 19, 3) := by decide +kernel
theorem dX8_advance_12 : decode cX8_advance 12 = .ok (.aload_n 0, 1) := by decide +kernel
theorem dX8_advance_13 : decode cX8_advance 13 = .ok (.getfield 15, 3) := by decide +kernel
theorem dX8_advance_16 : decode cX8_advance 16 = .ok (.if_icmp .ge 28, 3) := by decide +kernel
theorem dX8_advance_44 : decode cX8_advance 44 = .ok (.aload_n 0, 1) := by decide +kernel
theorem dX8_advance_45 : decode cX8_advance 45 = .ok (.aload_n 0, 1) := by decide +kernel
theorem dX8_advance_46 : decode cX8_advance 46 = .ok (.aload_n 0, 1) := by decide +kernel
theorem dX8_advance_47 : decode cX8_advance 47 = .ok (.getfield 19, 3) := by decide +kernel
theorem dX8_advance_50 : decode cX8_advance 50 = .ok (.invokevirtual 31, 3) := by decide +kernel
theorem dX8_advance_53 : decode cX8_advance 53 = .ok (.putfield 25, 3) := by decide +kernel
theorem dX8_advance_56 : decode cX8_advance 56 = .ok (.aload_n 0, 1) := by decide +kernel
theorem dX8_advance_57 : decode cX8_advance 57 = .ok (.aload_n 0, 1) := by decide +kernel
theorem dX8_advance_58 : decode cX8_advance 58 = .ok (.getfield 25, 3) := by decide +kernel
theorem dX8_advance_61 : decode cX8_advance 61 = .ok (.iconst 4, 1) := by decide +kernel
theorem dX8_advance_62 : decode cX8_advance 62 = .ok (.if_icmp .ne 12, 3) := by decide +kernel
theorem dX8_advance_74 : decode cX8_advance 74 = .ok (.aload_n 0, 1) := by decide +kernel
theorem dX8_advance_75 : decode cX8_advance 75 = .ok (.getfield 19, 3) := by decide +kernel
theorem dX8_advance_78 : decode cX8_advance 78 = .ok (.putfield 22, 3) := by decide +kernel
theorem dX8_advance_81 : decode cX8_advance 81 = .ok (.aload_n 0, 1) := by decide +kernel
theorem dX8_advance_82 : decode cX8_advance 82 = .ok (.getfield 22, 3) := by decide +kernel
theorem dX8_advance_85 : decode cX8_advance 85 = .ok (.aload_n 0, 1) := by decide +kernel
theorem dX8_advance_86 : decode cX8_advance 86 = .ok (.getfield 15, 3) := by decide +kernel
theorem dX8_advance_89 : decode cX8_advance 89 = .ok (.if_icmp .ge 39, 3) := by decide +kernel
theorem dX8_advance_128 : decode cX8_advance 128 = .ok (.aload_n 0, 1) := by decide +kernel
theorem dX8_advance_129 : decode cX8_advance 129 = .ok (.aload_n 0, 1) := by decide +kernel
theorem dX8_advance_130 : decode cX8_advance 130 = .ok (.getfield 25, 3) := by decide +kernel
theorem dX8_advance_133 : decode cX8_advance 133 = .ok (.iconst 3, 1) := by decide +kernel
theorem dX8_advance_134 : decode cX8_advance 134 = .ok (.if_icmp .ne 10, 3) := by decide +kernel
theorem dX8_advance_144 : decode cX8_advance 144 = .ok (.iconst (-1), 1) := by decide +kernel
theorem dX8_advance_145 : decode cX8_advance 145 = .ok (.putfield 28, 3) := by decide +kernel
theorem dX8_advance_148 : decode cX8_advance 148 = .ok (.return_, 1) := by decide +kernel
theorem dX8_init_0 : decode cX8_init 0 = .ok (.aload_n 0, 1) := by decide +kernel
theorem dX8_init_1 : decode cX8_init 1 = .ok (.invokespecial 3, 3) := by decide +kernel
theorem dX8_init_4 : decode cX8_init 4 = .ok (.aload_n 0, 1) := by decide +kernel
theorem dX8_init_5 : decode cX8_init 5 = .ok (.aload_n 1, 1) := by decide +kernel
theorem dX8_init_6 : decode cX8_init 6 = .ok (.putfield 9, 3) := by decide +kernel
theorem dX8_init_9 : decode cX8_init 9 = .ok (.aload_n 0, 1) := by decide +kernel
theorem dX8_init_10 : decode cX8_init 10 = .ok (.iload_n 2, 1) := by decide +kernel
theorem dX8_init_11 : decode cX8_init 11 = .ok (.putfield 15, 3) := by decide +kernel
theorem dX8_init_14 : decode cX8_init 14 = .ok (.aload_n 0, 1) := by decide +kernel
theorem dX8_init_15 : decode cX8_init 15 = .ok (.iconst 0, 1) := by decide +kernel
theorem dX8_init_16 : decode cX8_init 16 = .ok (.putfield 19, 3) := by decide +kernel
theorem dX8_init_19 : decode cX8_init 19 = .ok (.aload_n 0, 1) := by decide +kernel
theorem dX8_init_20 : decode cX8_init 20 = .ok (.iconst 0, 1) := by decide +kernel
theorem dX8_init_21 : decode cX8_init 21 = .ok (.putfield 22, 3) := by decide +kernel
theorem dX8_init_24 : decode cX8_init 24 = .ok (.aload_n 0, 1) := by decide +kernel
theorem dX8_init_25 : decode cX8_init 25 = .ok (.iconst 0, 1) := by decide +kernel
theorem dX8_init_26 : decode cX8_init 26 = .ok (.putfield 25, 3) := by decide +kernel
theorem dX8_init_29 : decode cX8_init 29 = .ok (.aload_n 0, 1) := by decide +kernel
theorem dX8_init_30 : decode cX8_init 30 = .ok (.iconst (-1), 1) := by decide +kernel
theorem dX8_init_31 : decode cX8_init 31 = .ok (.putfield 28, 3) := by decide +kernel
theorem dX8_init_34 : decode cX8_init 34 = .ok (.return_, 1) := by decide +kernel
theorem dX8_isEnd_0 : decode cX8_isEnd 0 = .ok (.aload_n 0, 1) := by decide +kernel
theorem dX8_isEnd_1 : decode cX8_isEnd 1 = .ok (.getfield 25, 3) := by decide +kernel
theorem dX8_isEnd_4 : decode cX8_isEnd 4 = .ok (.ifCond .ne 7, 3) := by decide +kernel
theorem dX8_isEnd_7 : decode cX8_isEnd 7 = .ok (.iconst 1, 1) := by decide +kernel
theorem dX8_isEnd_8 : decode cX8_isEnd 8 = .ok (.goto 4, 3) := by decide +kernel
theorem dX8_isEnd_12 : decode cX8_isEnd 12 = .ok (.ireturn, 1) := by decide +kernel
theorem dX8_kindAt_0 : decode cX8_kindAt 0 = .ok (.iload_n 1, 1) := by decide +kernel
theorem dX8_kindAt_1 : decode cX8_kindAt 1 = .ok (.ifCond .lt 20, 3) := by decide +kernel
theorem dX8_kindAt_4 : decode cX8_kindAt 4 = .ok (.iload_n 1, 1) := by decide +kernel
theorem dX8_kindAt_5 : decode cX8_kindAt 5 = .ok (.aload_n 0, 1) := by decide +kernel
theorem dX8_kindAt_6 : decode cX8_kindAt 6 = .ok (.getfield 15, 3) := by decide +kernel
theorem dX8_kindAt_9 : decode cX8_kindAt 9 = .ok (.if_icmp .ge 12, 3) := by decide +kernel
theorem dX8_kindAt_21 : decode cX8_kindAt 21 = .ok (.iconst 0, 1) := by decide +kernel
theorem dX8_kindAt_22 : decode cX8_kindAt 22 = .ok (.ireturn, 1) := by decide +kernel
theorem dX9_init_0 : decode cX9_init 0 = .ok (.aload_n 0, 1) := by decide +kernel
theorem dX9_init_1 : decode cX9_init 1 = .ok (.invokespecial 3, 3) := by decide +kernel
theorem dX9_init_4 : decode cX9_init 4 = .ok (.aload_n 0, 1) := by decide +kernel
theorem dX9_init_5 : decode cX9_init 5 = .ok (.aload_n 1, 1) := by decide +kernel
theorem dX9_init_6 : decode cX9_init 6 = .ok (.putfield 9, 3) := by decide +kernel
theorem dX9_init_9 : decode cX9_init 9 = .ok (.aload_n 0, 1) := by decide +kernel
theorem dX9_init_10 : decode cX9_init 10 = .ok (.bipush 56, 2) := by decide +kernel
theorem dX9_init_12 : decode cX9_init 12 = .ok (.anewarray 15, 3) := by decide +kernel
theorem dX9_init_15 : decode cX9_init 15 = .ok (.putfield 17, 3) := by decide +kernel
theorem dX9_init_18 : decode cX9_init 18 = .ok (.aload_n 0, 1) := by decide +kernel
theorem dX9_init_19 : decode cX9_init 19 = .ok (.iconst 0, 1) := by decide +kernel
theorem dX9_init_20 : decode cX9_init 20 = .ok (.putfield 21, 3) := by decide +kernel
theorem dX9_init_23 : decode cX9_init 23 = .ok (.aload_n 0, 1) := by decide +kernel
theorem dX9_init_24 : decode cX9_init 24 = .ok (.iconst (-1), 1) := by decide +kernel
theorem dX9_init_25 : decode cX9_init 25 = .ok (.putfield 25, 3) := by decide +kernel
theorem dX9_init_28 : decode cX9_init 28 = .ok (.return_, 1) := by decide +kernel
theorem dX9_readText_0 : decode cX9_readText 0 = .ok (.aload_n 0, 1) := by decide +kernel
theorem dX9_readText_1 : decode cX9_readText 1 = .ok (.getfield 9, 3) := by decide +kernel
theorem dX9_readText_4 : decode cX9_readText 4 = .ok (.invokevirtual 28, 3) := by decide +kernel
theorem dX9_readText_7 : decode cX9_readText 7 = .ok (.iconst 0, 1) := by decide +kernel
theorem dX9_readText_8 : decode cX9_readText 8 = .ok (.istore_n 2, 1) := by decide +kernel
theorem dX9_readText_9 : decode cX9_readText 9 = .ok (.iload_n 2, 1) := by decide +kernel
theorem dX9_readText_10 : decode cX9_readText 10 = .ok (.iload_n 1, 1) := by decide +kernel
theorem dX9_readText_11 : decode cX9_readText 11 = .ok (.if_icmp .ge 86, 3) := by decide +kernel
theorem dX9_readText_14 : decode cX9_readText 14 = .ok (.aload_n 0, 1) := by decide +kernel
theorem dX9_readText_15 : decode cX9_readText 15 = .ok (.getfield 9, 3) := by decide +kernel
theorem dX9_readText_18 : decode cX9_readText 18 = .ok (.invokevirtual 33, 3) := by decide +kernel
theorem dX9_readText_21 : decode cX9_readText 21 = .ok (.ifCond .ne 76, 3) := by decide +kernel
theorem dX9_readText_97 : decode cX9_readText 97 = .ok (.aload_n 0, 1) := by decide +kernel
theorem dX9_readText_98 : decode cX9_readText 98 = .ok (.getfield 9, 3) := by decide +kernel
theorem dX9_readText_101 : decode cX9_readText 101 = .ok (.invokevirtual 33, 3) := by decide +kernel
theorem dX9_readText_104 : decode cX9_readText 104 = .ok (.ifCond .ne 10, 3) := by decide +kernel
theorem dX9_readText_114 : decode cX9_readText 114 = .ok (.iconst 1, 1) := by decide +kernel
theorem dX9_readText_115 : decode cX9_readText 115 = .ok (.goto 4, 3) := by decide +kernel
theorem dX9_readText_119 : decode cX9_readText 119 = .ok (.ireturn, 1) := by decide +kernel
end
section
set_option maxHeartbeats 4000000 in
set_option maxRecDepth 100000 in
theorem c_X4_isNode (l : Launch) (G : va_G) (cy : Nat → ClassId) (r4 : Nat) (r5 : Nat) (p0 : Int32) : Kt l G cy yX4_isNode cX4_isNode 2 (some .boolean) ({ frames := 10, cells := 0, slots := 0, locals := 200 } : Room) [.ref r4, .int p0] [(r4, .inr (4, [.int 0, .int 0, .int (-1), .ref r5]))] (fun (v : Option Value) (w1 : va_W) => v = some (.int 0) ∧ w1 = [(r4, .inr (4, [.int 0, .int 0, .int (-1), .ref r5]))]) := by
  refine kt_ofW (by decide) (Nat.le_of_ble_eq_true rfl) ?_
  intro p e s m below meth c A ls hx hb hr hU hown hlocks hml hin hP hK hD hA hS hl
  have hown : s.vm.findClass RX4 = some m.cls := hown
  have hl : lv_has ls 2 [(0, .ref r4), (1, .int p0)] := hl
  refine lv_aload_n hx hb dX4_isNode_0 rfl (lv_at hl 0 rfl) ?_
  refine va_get (D := G) (ci := 4) (v := .int 0) (C := RX4) (T := TX4) (N := 4) hx hb hU in_X4 hown hK.1 hP 0 rfl rfl 0 (by decide) (hU _ u_196) (fun _ h9 => h9) rfl dX4_isNode_1 ?_
  refine lv_iload_n hx hb dX4_isNode_4 rfl (lv_at hl 1 rfl) ?_
  refine lv_iushr (v := 0) hx hb dX4_isNode_5 (lx_iushr0 _) ?_
  refine lv_iconst (v := 1) hx hb dX4_isNode_6 (by decide) ?_
  refine lv_iand hx hb dX4_isNode_7 (lx_top (y := 0) (by decide +kernel) ?_)
  refine lv_if_eq (tgt := 15) hx hb dX4_isNode_8 (by decide) (fun _ => ?_) (fun c9 => absurd (by decide) c9)
  refine lv_iconst (v := 0) hx hb dX4_isNode_15 (by decide) ?_
  exact kt_zret hx hb hr hlocks hP hD hS (by first | rfl | decide | exact rfl) dX4_isNode_16 [0] rfl rfl rfl rfl ⟨rfl, rfl⟩
set_option maxHeartbeats 4000000 in
set_option maxRecDepth 100000 in
theorem c_X11_node (l : Launch) (G : va_G) (cy : Nat → ClassId) (sa : Nat → Nat) (hlst : l.stackTraces = false) (h0 : Nat) (r1 : Nat) (r2 : Nat) (r4 : Nat) (r6 : Nat) (r7 : Nat) (r9 : Nat) (r5 : Nat) (p0 : Int32) : Kx l G cy sa yX11_node cX11_node 3 (some .int) ({ frames := 12, cells := 1, slots := 6, locals := 300 } : Room) [.ref h0, .int p0] [(h0, .inr (10, [.ref r1, .int 0, .int (-1), .ref r2, .ref r4, .ref r6, .int (-2), .ref r7, .ref r9])), (r4, .inr (4, [.int 0, .int 0, .int (-1), .ref r5]))] (fun (v : Option Value) (w1 : va_W) => ∃ (r : Int32), v = some (.int r) ∧ w1 = [] ∧ (okNode p0 ∧ r = sp_node p0)) (fun E => E = eNS ∧ ¬ okNode p0) := by
  refine kx_ofW (by decide) (Nat.le_of_ble_eq_true rfl) ?_
  intro p e s m below meth c A ls hx hb hr hU hown hlocks hml hin hP hK hD hA hS hl hZ hnt
  have hown : s.vm.findClass RX11 = some m.cls := hown
  have hl : lv_has ls 3 [(0, .ref h0), (1, .int p0)] := hl
  refine lv_iload_n hx hb dX11_node_0 rfl (lv_at hl 1 rfl) ?_
  by_cases c_1 : p0 = 0
  · refine lv_tableIn (off := 27) (tgt := 28) hx hb dX11_node_1 (by rw [c_1]; decide) (by rw [c_1]; decide) (by rw [c_1]; rfl) (by decide) ?_
    refine lv_aload_n hx hb dX11_node_28 rfl (lv_at hl 0 rfl) ?_
    refine va_get (D := G) (ci := 10) (v := .ref r4) (C := RX11) (T := TX11) (N := 9) hx hb hU in_X11 hown hK.1 hP 0 rfl rfl 4 (by decide) (hU _ u_254) (fun _ h9 => h9) rfl dX11_node_29 ?_
    refine va_get (D := G) (ci := 4) (v := .int 0) (C := RX4) (T := TX4) (N := 4) hx hb hU in_X4 hown hK.1 hP 1 rfl rfl 0 (by decide) (hU _ u_197) (fun _ h9 => h9) rfl dX11_node_32 ?_
    exact vx_ret (kt_iret hx hb hr hlocks hP hD hS dX11_node_35 [] rfl rfl rfl rfl ⟨0, rfl, rfl, ⟨(by simp [okNode, c_1]), (by simp [sp_node, c_1])⟩⟩)
  by_cases c_2 : p0 = 1
  · refine lv_tableIn (off := 35) (tgt := 36) hx hb dX11_node_1 (by rw [c_2]; decide) (by rw [c_2]; decide) (by rw [c_2]; rfl) (by decide) ?_
    refine lv_aload_n hx hb dX11_node_36 rfl (lv_at hl 0 rfl) ?_
    refine va_get (D := G) (ci := 10) (v := .ref r4) (C := RX11) (T := TX11) (N := 9) hx hb hU in_X11 hown hK.1 hP 0 rfl rfl 4 (by decide) (hU _ u_254) (fun _ h9 => h9) rfl dX11_node_37 ?_
    refine va_get (D := G) (ci := 4) (v := .int 0) (C := RX4) (T := TX4) (N := 4) hx hb hU in_X4 hown hK.1 hP 1 rfl rfl 1 (by decide) (hU _ u_199) (fun _ h9 => h9) rfl dX11_node_40 ?_
    exact vx_ret (kt_iret hx hb hr hlocks hP hD hS dX11_node_43 [] rfl rfl rfl rfl ⟨0, rfl, rfl, ⟨(by simp [okNode, c_1, c_2]), (by simp [sp_node, c_1, c_2])⟩⟩)
  by_cases c_3 : p0 = 2
  · refine lv_tableIn (off := 43) (tgt := 44) hx hb dX11_node_1 (by rw [c_3]; decide) (by rw [c_3]; decide) (by rw [c_3]; rfl) (by decide) ?_
    refine lv_aload_n hx hb dX11_node_44 rfl (lv_at hl 0 rfl) ?_
    refine va_get (D := G) (ci := 10) (v := .ref r4) (C := RX11) (T := TX11) (N := 9) hx hb hU in_X11 hown hK.1 hP 0 rfl rfl 4 (by decide) (hU _ u_254) (fun _ h9 => h9) rfl dX11_node_45 ?_
    refine va_get (D := G) (ci := 4) (v := .int (-1)) (C := RX4) (T := TX4) (N := 4) hx hb hU in_X4 hown hK.1 hP 1 rfl rfl 2 (by decide) (hU _ u_202) (fun _ h9 => h9) rfl dX11_node_48 ?_
    exact vx_ret (kt_iret hx hb hr hlocks hP hD hS dX11_node_51 [] rfl rfl rfl rfl ⟨(-1), rfl, rfl, ⟨(by simp [okNode, c_1, c_2, c_3]), (by simp [sp_node, c_1, c_2, c_3])⟩⟩)
  refine lv_tableOut (tgt := 52) hx hb dX11_node_1 (lx_tout (n := 2) (fun k9 h9 => by rcases (show k9 = 0 ∨ k9 = 1 ∨ k9 = 2 by omega) with rfl | rfl | rfl <;> assumption) (by decide)) (by decide) ?_
  refine lv_iload_n hx hb dX11_node_52 rfl (lv_at hl 1 rfl) ?_
  refine lv_bipush (v := 10) hx hb dX11_node_53 (by decide) ?_
  refine lv_isub hx hb dX11_node_55 ?_
  refine lv_istore_n (lv' := [(2, .int (p0 - 10)), (0, .ref h0), (1, .int p0)]) hx hb dX11_node_56 rfl hl (by decide) rfl (fun ls hl => ?_)
  refine lv_iload_n hx hb dX11_node_57 rfl (lv_at hl 0 rfl) ?_
  refine lv_if_lt (tgt := 78) hx hb dX11_node_58 (by decide) (fun c_4 => ?_) (fun c_4 => ?_)
  · exact kx_throwNW (text := "another what, or no node") hx hb hlst hown hU u_1099 u_145 (by decide) at_145 hZ hS (by rw [hml]; exact hl.1) dX11_node_78 dX11_node_81 dX11_node_82 dX11_node_85 dX11_node_88 hnt rfl rfl rfl rfl hlocks ⟨rfl, (by simp [okNode, c_1, c_2, c_3, c_4])⟩
  · refine lv_iload_n hx hb dX11_node_61 rfl (lv_at hl 0 rfl) ?_
    refine lv_bipush (v := 6) hx hb dX11_node_62 (by decide) ?_
    refine lv_icmp_ge (tgt := 78) hx hb dX11_node_64 (by decide) (fun c_5 => ?_) (fun c_5 => ?_)
    · exact kx_throwNW (text := "another what, or no node") hx hb hlst hown hU u_1099 u_145 (by decide) at_145 hZ hS (by rw [hml]; exact hl.1) dX11_node_78 dX11_node_81 dX11_node_82 dX11_node_85 dX11_node_88 hnt rfl rfl rfl rfl hlocks ⟨rfl, (by simp [okNode, c_1, c_2, c_3, c_4, c_5])⟩
    · refine lv_aload_n hx hb dX11_node_67 rfl (lv_at hl 1 rfl) ?_
      refine va_get (D := G) (ci := 10) (v := .ref r4) (C := RX11) (T := TX11) (N := 9) hx hb hU in_X11 hown hK.1 hP 0 rfl rfl 4 (by decide) (hU _ u_254) (fun _ h9 => h9) rfl dX11_node_68 ?_
      refine lv_iload_n hx hb dX11_node_71 rfl (lv_at hl 0 rfl) ?_
      refine kt_callV (wc := [(r4, .inr (4, [.int 0, .int 0, .int (-1), .ref r5]))]) (wr := [(h0, .inr (10, [.ref r1, .int 0, .int (-1), .ref r2, .ref r4, .ref r6, .int (-2), .ref r7, .ref r9]))]) (As := [.int (p0 - 10)]) (rest := []) (c_X4_isNode l G cy r4 r5 (p0 - 10)) m_X4_isNode u_1306 hx hb hml hown hU hl.1 hK hP hD hS hA dX11_node_72 [1] [0] rfl rfl rfl rfl rfl rfl (Nat.le_of_ble_eq_true rfl) (ci := 4) rfl rfl rfl (fun v9 w9 H locs hw hP hD hS => ?_)
      obtain ⟨rfl, rfl⟩ := hw
      have hP : va_P G vwCl [(h0, .inr (10, [.ref r1, .int 0, .int (-1), .ref r2, .ref r4, .ref r6, .int (-2), .ref r7, .ref r9])), (r4, .inr (4, [.int 0, .int 0, .int (-1), .ref r5]))] H := hP
      have hD : va_D A [(h0, .inr (10, [.ref r1, .int 0, .int (-1), .ref r2, .ref r4, .ref r6, .int (-2), .ref r7, .ref r9])), (r4, .inr (4, [.int 0, .int 0, .int (-1), .ref r5]))] := hD
      refine W.eq (g2 := F0 m 75 ls [.int 0]) rfl ?_
      refine W.widen (k := 0) (n := 0) (Nat.le_of_ble_eq_true rfl) (Nat.le_of_ble_eq_true rfl) ?_
      refine lv_if_ne (tgt := 89) hx hb dX11_node_75 (by decide) (fun c9 => absurd (by decide) c9) (fun _ => ?_)
      exact kx_throwNW (text := "another what, or no node") hx hb hlst hown hU u_1099 u_145 (by decide) at_145 hZ hS (by rw [hml]; exact hl.1) dX11_node_78 dX11_node_81 dX11_node_82 dX11_node_85 dX11_node_88 hnt rfl rfl rfl rfl hlocks ⟨rfl, (by simp [okNode, c_1, c_2, c_3, c_4, c_5])⟩
set_option maxHeartbeats 4000000 in
set_option maxRecDepth 100000 in
theorem c_X11_model (l : Launch) (G : va_G) (cy : Nat → ClassId) (h0 : Nat) (r1 : Nat) (r2 : Nat) (r4 : Nat) (r6 : Nat) (r7 : Nat) (r9 : Nat) (r3 : Nat) (p0 : Int32) : Kt l G cy yX11_model cX11_model 6 (some .int) ({ frames := 12, cells := 0, slots := 0, locals := 300 } : Room) [.ref h0, .int p0] [(h0, .inr (10, [.ref r1, .int 0, .int (-1), .ref r2, .ref r4, .ref r6, .int (-2), .ref r7, .ref r9])), (r2, .inr (0, [.ref r3, .int 0, .int 0]))] (fun (v : Option Value) (w1 : va_W) => ∃ (r : Int32), v = some (.int r) ∧ w1 = [] ∧ (r = sp_model p0)) := by
  refine kt_ofW (by decide) (Nat.le_of_ble_eq_true rfl) ?_
  intro p e s m below meth c A ls hx hb hr hU hown hlocks hml hin hP hK hD hA hS hl
  have hown : s.vm.findClass RX11 = some m.cls := hown
  have hl : lv_has ls 6 [(0, .ref h0), (1, .int p0)] := hl
  refine lv_aload_n hx hb dX11_model_0 rfl (lv_at hl 0 rfl) ?_
  refine va_get (D := G) (ci := 10) (v := .ref r2) (C := RX11) (T := TX11) (N := 9) hx hb hU in_X11 hown hK.1 hP 0 rfl rfl 3 (by decide) (hU _ u_253) (fun _ h9 => h9) rfl dX11_model_1 ?_
  refine lv_iconst (v := (-1)) hx hb dX11_model_4 (by decide) ?_
  refine kt_callV (wc := [(r2, .inr (0, [.ref r3, .int 0, .int 0]))]) (wr := [(h0, .inr (10, [.ref r1, .int 0, .int (-1), .ref r2, .ref r4, .ref r6, .int (-2), .ref r7, .ref r9]))]) (As := [.int (-1)]) (rest := []) (c_X0_modelsWithout l G cy r2 r3 (-1)) m_X0_modelsWithout u_298 hx hb hml hown hU hl.1 hK hP hD hS hA dX11_model_5 [1] [0] rfl rfl rfl rfl rfl rfl (Nat.le_of_ble_eq_true rfl) (ci := 0) rfl rfl rfl (fun v9 w9 H locs hw hP hD hS => ?_)
  obtain ⟨rfl, rfl⟩ := hw
  have hP : va_P G vwCl [(h0, .inr (10, [.ref r1, .int 0, .int (-1), .ref r2, .ref r4, .ref r6, .int (-2), .ref r7, .ref r9])), (r2, .inr (0, [.ref r3, .int 0, .int 0]))] H := hP
  have hD : va_D A [(h0, .inr (10, [.ref r1, .int 0, .int (-1), .ref r2, .ref r4, .ref r6, .int (-2), .ref r7, .ref r9])), (r2, .inr (0, [.ref r3, .int 0, .int 0]))] := hD
  refine W.eq (g2 := F0 m 8 ls [.long (-1)]) rfl ?_
  refine W.widen (k := 0) (n := 0) (Nat.le_of_ble_eq_true rfl) (Nat.le_of_ble_eq_true rfl) ?_
  refine lv_lstore_n (lv' := [(2, .long (-1)), (0, .ref h0), (1, .int p0)]) hx hb dX11_model_8 rfl hl (by decide) rfl (fun ls hl => ?_)
  refine lv_iload_n hx hb dX11_model_9 rfl (lv_at hl 2 rfl) ?_
  refine lv_iconst (v := (-1)) hx hb dX11_model_10 (by decide) ?_
  refine lv_icmp_ne (tgt := 19) hx hb dX11_model_11 (by decide) (fun c_1 => ?_) (fun c_1 => ?_)
  · refine lv_iconst (v := 0) hx hb dX11_model_19 (by decide) ?_
    refine lv_istore (lv' := [(4, .int 0), (2, .long (-1)), (0, .ref h0), (1, .int p0)]) hx hb dX11_model_20 hl (by decide) rfl (fun ls hl => ?_)
    refine lv_iconst (v := 0) hx hb dX11_model_22 (by decide) ?_
    refine lv_istore (lv' := [(5, .int 0), (4, .int 0), (2, .long (-1)), (0, .ref h0), (1, .int p0)]) hx hb dX11_model_23 hl (by decide) rfl (fun ls hl => ?_)
    refine (fun (hloop : ∀ (n i : Nat), i + n = 64 → (∀ j, j < i → ¬ nI j = p0) → ∀ (H : Heap) (locs : List Loc) (ls : Array Slot), va_P G vwCl [(h0, .inr (10, [.ref r1, .int 0, .int (-1), .ref r2, .ref r4, .ref r6, .int (-2), .ref r7, .ref r9])), (r2, .inr (0, [.ref r3, .int 0, .int 0]))] H → va_D A [(h0, .inr (10, [.ref r1, .int 0, .int (-1), .ref r2, .ref r4, .ref r6, .int (-2), .ref r7, .ref r9])), (r2, .inr (0, [.ref r3, .int 0, .int 0]))] → va_S A s.heap H locs → lv_has ls 6 [(5, .int (nI i)), (4, .int (nI i)), (0, .ref h0), (1, .int p0), (2, .long (-1))] → W p l e _ s m _ below meth c H locs _ _ _ (F0 m 25 ls [])) => hloop 64 0 rfl (fun j hj => absurd hj (Nat.not_lt_zero j)) _ _ _ hP hD hS (lv_sub hl [0, 1, 3, 4, 2] rfl)) ?_
    intro n
    induction n with
    | zero =>
      intro i hi0 hex H locs ls hP hD hS hl
      obtain rfl : i = 64 := by omega
      refine lv_iload hx hb dX11_model_25 (lv_at hl 0 rfl) ?_
      refine lv_bipush (v := 64) hx hb dX11_model_27 (by decide) ?_
      refine lv_icmp_ge (tgt := 61) hx hb dX11_model_29 (by decide) (fun _ => ?_) (fun c9 => absurd (by decide) c9)
      refine lv_iconst (v := (-1)) hx hb dX11_model_61 (by decide) ?_
      exact kt_iret hx hb hr hlocks hP hD hS dX11_model_62 [] rfl rfl rfl rfl ⟨(-1), rfl, rfl, (sp_model_out c_1 hex)⟩
    | succ n ih =>
      intro i hi0 hex H locs ls hP hD hS hl
      refine lv_iload hx hb dX11_model_25 (lv_at hl 0 rfl) ?_
      refine lv_bipush (v := 64) hx hb dX11_model_27 (by decide) ?_
      refine lv_icmp_ge (tgt := 61) hx hb dX11_model_29 (by decide) (fun c9 => absurd c9 (nI_ge (b := 64) (by omega) (by decide))) (fun _ => ?_)
      refine lv_lload_n hx hb dX11_model_32 rfl (lv_at hl 4 rfl) ?_
      refine lv_iload hx hb dX11_model_33 (lv_at hl 0 rfl) ?_
      refine lv_lushr hx hb dX11_model_35 rfl ?_
      refine lv_lconst (v := 1) hx hb dX11_model_36 (by decide) ?_
      refine lv_land hx hb dX11_model_37 (lx_topl (y := 1) (lx_m1bit i (by omega)) ?_)
      refine lv_lconst (v := 0) hx hb dX11_model_38 (by decide) ?_
      refine W.lcmp hx hb dX11_model_39 (lx_top (y := 1) (by decide +kernel) ?_)
      refine lv_if_eq (tgt := 55) hx hb dX11_model_40 (by decide) (fun c9 => absurd c9 (by decide)) (fun _ => ?_)
      refine lv_iload hx hb dX11_model_43 (lv_at hl 1 rfl) ?_
      refine lv_iload_n hx hb dX11_model_45 rfl (lv_at hl 3 rfl) ?_
      refine lv_icmp_ne (tgt := 52) hx hb dX11_model_46 (by decide) (fun c_2 => ?_) (fun c_2 => ?_)
      · refine lv_iinc (v := nI (i + 1)) (lv' := [(4, .int (nI (i + 1))), (5, .int (nI i)), (0, .ref h0), (1, .int p0), (2, .long (-1))]) hx hb dX11_model_52 hl (k := 1) rfl (nI_1 i) (by decide) rfl (fun ls hl => ?_)
        refine lv_iinc (v := nI (i + 1)) (lv' := [(5, .int (nI (i + 1))), (4, .int (nI (i + 1))), (0, .ref h0), (1, .int p0), (2, .long (-1))]) hx hb dX11_model_55 hl (k := 1) rfl (nI_1 i) (by decide) rfl (fun ls hl => ?_)
        refine lv_goto (tgt := 25) hx hb dX11_model_58 (by decide) ?_
        exact ih (i + 1) (by omega) (fun j hj => (Nat.lt_succ_iff_lt_or_eq.mp hj).elim (hex j) (fun e9 => by rw [e9]; exact c_2)) _ _ _ hP hD hS (lv_sub hl [0, 1, 2, 3, 4] rfl)
      · refine lv_iload hx hb dX11_model_49 (lv_at hl 0 rfl) ?_
        exact kt_iret hx hb hr hlocks hP hD hS dX11_model_51 [] rfl rfl rfl rfl ⟨(nI i), rfl, rfl, (sp_model_hit (by omega) c_1 c_2)⟩
  · refine lv_lload_n hx hb dX11_model_14 rfl (lv_at hl 0 rfl) ?_
    refine kt_callS (wc := []) (wr := [(h0, .inr (10, [.ref r1, .int 0, .int (-1), .ref r2, .ref r4, .ref r6, .int (-2), .ref r7, .ref r9])), (r2, .inr (0, [.ref r3, .int 0, .int 0]))]) (As := [.long (-1)]) (rest := []) (c_J13_bitCount_95d88 l G cy ) m_J13_bitCount_95d88 u_303 hx hb hml hown hU hl.1 hK hP hD hS hA dX11_model_15 [] [0, 1] rfl rfl rfl rfl rfl rfl (Nat.le_of_ble_eq_true rfl) (fun v9 w9 H locs hw hP hD hS => ?_)
    obtain ⟨rfl, rfl⟩ := hw
    have hP : va_P G vwCl [(h0, .inr (10, [.ref r1, .int 0, .int (-1), .ref r2, .ref r4, .ref r6, .int (-2), .ref r7, .ref r9])), (r2, .inr (0, [.ref r3, .int 0, .int 0]))] H := hP
    have hD : va_D A [(h0, .inr (10, [.ref r1, .int 0, .int (-1), .ref r2, .ref r4, .ref r6, .int (-2), .ref r7, .ref r9])), (r2, .inr (0, [.ref r3, .int 0, .int 0]))] := hD
    refine W.eq (g2 := F0 m 18 ls [.int 64]) rfl ?_
    refine W.widen (k := 0) (n := 0) (Nat.le_of_ble_eq_true rfl) (Nat.le_of_ble_eq_true rfl) ?_
    exact kt_iret hx hb hr hlocks hP hD hS dX11_model_18 [] rfl rfl rfl rfl ⟨64, rfl, rfl, (by simp [sp_model, c_1])⟩
end
section
set_option maxHeartbeats 4000000 in
set_option maxRecDepth 100000 in
theorem c_X8_init (l : Launch) (G : va_G) (cy : Nat → ClassId) (h0 : Nat) (t0 : Nat) : Kt l G cy yX8_init cX8_init 3 none ({ frames := 10, cells := 0, slots := 0, locals := 200 } : Room) [.ref h0, .ref t0, .int 0] [(h0, .inr (8, [.null, .int 0, .int 0, .int 0, .int 0, .int 0]))] (fun (v : Option Value) (w1 : va_W) => v = none ∧ w1 = [(h0, .inr (8, [.ref t0, .int 0, .int 0, .int 0, .int 0, .int (-1)]))]) := by
  refine kt_ofW (by decide) (Nat.le_of_ble_eq_true rfl) ?_
  intro p e s m below meth c A ls hx hb hr hU hown hlocks hml hin hP hK hD hA hS hl
  have hown : s.vm.findClass RX8 = some m.cls := hown
  have hl : lv_has ls 3 [(0, .ref h0), (1, .ref t0), (2, .int 0)] := hl
  refine lv_aload_n hx hb dX8_init_0 rfl (lv_at hl 0 rfl) ?_
  refine W.objInit hx hb hown (hU _ u_493) (hU _ u_157) (hU _ u_158) rfl (by rw [hml]; exact hl.1) rfl dX8_init_1 (Nat.le_of_ble_eq_true rfl) (Nat.le_of_ble_eq_true rfl) ?_
  refine W.eq (g2 := F0 m 4 ls []) rfl ?_
  refine lv_aload_n hx hb dX8_init_4 rfl (lv_at hl 0 rfl) ?_
  refine lv_aload_n hx hb dX8_init_5 rfl (lv_at hl 1 rfl) ?_
  refine va_putF (D := G) (ci := 8) (v := .ref t0) (ty := .array (.byte)) (C := RX8) (T := TX8) (N := 6) hx hb hU in_X8 tyX8 tyX8_ok nmX8 hown hK.1 hP hD hS 0 rfl rfl 0 (by decide) (hU _ u_494) (fun _ h9 => h9) rfl hin rfl (by decide +kernel) rfl rfl (Nat.le_of_ble_eq_true rfl) dX8_init_6 (fun H locs hP hD hS => ?_)
  have hP : va_P G vwCl [(h0, .inr (8, [.ref t0, .int 0, .int 0, .int 0, .int 0, .int 0]))] H := hP
  have hD : va_D A [(h0, .inr (8, [.ref t0, .int 0, .int 0, .int 0, .int 0, .int 0]))] := hD
  refine lv_aload_n hx hb dX8_init_9 rfl (lv_at hl 0 rfl) ?_
  refine lv_iload_n hx hb dX8_init_10 rfl (lv_at hl 2 rfl) ?_
  refine va_putF (D := G) (ci := 8) (v := .int 0) (ty := .int) (C := RX8) (T := TX8) (N := 6) hx hb hU in_X8 tyX8 tyX8_ok nmX8 hown hK.1 hP hD hS 0 rfl rfl 1 (by decide) (hU _ u_495) (fun _ h9 => h9) rfl hin rfl (by decide +kernel) rfl rfl (Nat.le_of_ble_eq_true rfl) dX8_init_11 (fun H locs hP hD hS => ?_)
  have hP : va_P G vwCl [(h0, .inr (8, [.ref t0, .int 0, .int 0, .int 0, .int 0, .int 0]))] H := hP
  have hD : va_D A [(h0, .inr (8, [.ref t0, .int 0, .int 0, .int 0, .int 0, .int 0]))] := hD
  refine lv_aload_n hx hb dX8_init_14 rfl (lv_at hl 0 rfl) ?_
  refine lv_iconst (v := 0) hx hb dX8_init_15 (by decide) ?_
  refine va_put (D := G) (ci := 8) (v := .int 0) (ty := .int) (C := RX8) (T := TX8) (N := 6) hx hb hU in_X8 tyX8 tyX8_ok nmX8 hown hK.1 hP hD hS 0 rfl rfl 2 (by decide) (hU _ u_496) (fun _ h9 => h9) rfl (by decide +kernel) rfl rfl (Nat.le_of_ble_eq_true rfl) dX8_init_16 (fun H locs hP hD hS => ?_)
  have hP : va_P G vwCl [(h0, .inr (8, [.ref t0, .int 0, .int 0, .int 0, .int 0, .int 0]))] H := hP
  have hD : va_D A [(h0, .inr (8, [.ref t0, .int 0, .int 0, .int 0, .int 0, .int 0]))] := hD
  refine lv_aload_n hx hb dX8_init_19 rfl (lv_at hl 0 rfl) ?_
  refine lv_iconst (v := 0) hx hb dX8_init_20 (by decide) ?_
  refine va_put (D := G) (ci := 8) (v := .int 0) (ty := .int) (C := RX8) (T := TX8) (N := 6) hx hb hU in_X8 tyX8 tyX8_ok nmX8 hown hK.1 hP hD hS 0 rfl rfl 3 (by decide) (hU _ u_498) (fun _ h9 => h9) rfl (by decide +kernel) rfl rfl (Nat.le_of_ble_eq_true rfl) dX8_init_21 (fun H locs hP hD hS => ?_)
  have hP : va_P G vwCl [(h0, .inr (8, [.ref t0, .int 0, .int 0, .int 0, .int 0, .int 0]))] H := hP
  have hD : va_D A [(h0, .inr (8, [.ref t0, .int 0, .int 0, .int 0, .int 0, .int 0]))] := hD
  refine lv_aload_n hx hb dX8_init_24 rfl (lv_at hl 0 rfl) ?_
  refine lv_iconst (v := 0) hx hb dX8_init_25 (by decide) ?_
  refine va_put (D := G) (ci := 8) (v := .int 0) (ty := .int) (C := RX8) (T := TX8) (N := 6) hx hb hU in_X8 tyX8 tyX8_ok nmX8 hown hK.1 hP hD hS 0 rfl rfl 4 (by decide) (hU _ u_499) (fun _ h9 => h9) rfl (by decide +kernel) rfl rfl (Nat.le_of_ble_eq_true rfl) dX8_init_26 (fun H locs hP hD hS => ?_)
  have hP : va_P G vwCl [(h0, .inr (8, [.ref t0, .int 0, .int 0, .int 0, .int 0, .int 0]))] H := hP
  have hD : va_D A [(h0, .inr (8, [.ref t0, .int 0, .int 0, .int 0, .int 0, .int 0]))] := hD
  refine lv_aload_n hx hb dX8_init_29 rfl (lv_at hl 0 rfl) ?_
  refine lv_iconst (v := (-1)) hx hb dX8_init_30 (by decide) ?_
  refine va_put (D := G) (ci := 8) (v := .int (-1)) (ty := .int) (C := RX8) (T := TX8) (N := 6) hx hb hU in_X8 tyX8 tyX8_ok nmX8 hown hK.1 hP hD hS 0 rfl rfl 5 (by decide) (hU _ u_500) (fun _ h9 => h9) rfl (by decide +kernel) rfl rfl (Nat.le_of_ble_eq_true rfl) dX8_init_31 (fun H locs hP hD hS => ?_)
  have hP : va_P G vwCl [(h0, .inr (8, [.ref t0, .int 0, .int 0, .int 0, .int 0, .int (-1)]))] H := hP
  have hD : va_D A [(h0, .inr (8, [.ref t0, .int 0, .int 0, .int 0, .int 0, .int (-1)]))] := hD
  exact kt_vret hx hb hr hlocks hP hD hS dX8_init_34 [0] rfl rfl rfl rfl ⟨rfl, rfl⟩
set_option maxHeartbeats 4000000 in
set_option maxRecDepth 100000 in
theorem c_X8_kindAt (l : Launch) (G : va_G) (cy : Nat → ClassId) (h0 : Nat) (t0 : Nat) : Kt l G cy yX8_kindAt cX8_kindAt 3 (some .int) ({ frames := 10, cells := 0, slots := 0, locals := 200 } : Room) [.ref h0, .int 0] [(h0, .inr (8, [.ref t0, .int 0, .int 0, .int 0, .int 0, .int (-1)]))] (fun (v : Option Value) (w1 : va_W) => v = some (.int 0) ∧ w1 = [(h0, .inr (8, [.ref t0, .int 0, .int 0, .int 0, .int 0, .int (-1)]))]) := by
  refine kt_ofW (by decide) (Nat.le_of_ble_eq_true rfl) ?_
  intro p e s m below meth c A ls hx hb hr hU hown hlocks hml hin hP hK hD hA hS hl
  have hown : s.vm.findClass RX8 = some m.cls := hown
  have hl : lv_has ls 3 [(0, .ref h0), (1, .int 0)] := hl
  refine lv_iload_n hx hb dX8_kindAt_0 rfl (lv_at hl 1 rfl) ?_
  refine lv_if_lt (tgt := 21) hx hb dX8_kindAt_1 (by decide) (fun c9 => absurd c9 (by decide)) (fun _ => ?_)
  refine lv_iload_n hx hb dX8_kindAt_4 rfl (lv_at hl 1 rfl) ?_
  refine lv_aload_n hx hb dX8_kindAt_5 rfl (lv_at hl 0 rfl) ?_
  refine va_get (D := G) (ci := 8) (v := .int 0) (C := RX8) (T := TX8) (N := 6) hx hb hU in_X8 hown hK.1 hP 0 rfl rfl 1 (by decide) (hU _ u_495) (fun _ h9 => h9) rfl dX8_kindAt_6 ?_
  refine lv_icmp_ge (tgt := 21) hx hb dX8_kindAt_9 (by decide) (fun _ => ?_) (fun c9 => absurd (by decide) c9)
  refine lv_iconst (v := 0) hx hb dX8_kindAt_21 (by decide) ?_
  exact kt_iret hx hb hr hlocks hP hD hS dX8_kindAt_22 [0] rfl rfl rfl rfl ⟨rfl, rfl⟩
set_option maxHeartbeats 4000000 in
set_option maxRecDepth 100000 in
theorem c_X8_advance (l : Launch) (G : va_G) (cy : Nat → ClassId) (h0 : Nat) (t0 : Nat) : Kt l G cy yX8_advance cX8_advance 1 none ({ frames := 12, cells := 0, slots := 0, locals := 300 } : Room) [.ref h0] [(h0, .inr (8, [.ref t0, .int 0, .int 0, .int 0, .int 0, .int (-1)]))] (fun (v : Option Value) (w1 : va_W) => v = none ∧ w1 = [(h0, .inr (8, [.ref t0, .int 0, .int 0, .int 0, .int 0, .int (-1)]))]) := by
  refine kt_ofW (by decide) (Nat.le_of_ble_eq_true rfl) ?_
  intro p e s m below meth c A ls hx hb hr hU hown hlocks hml hin hP hK hD hA hS hl
  have hown : s.vm.findClass RX8 = some m.cls := hown
  have hl : lv_has ls 1 [(0, .ref h0)] := hl
  refine lv_aload_n hx hb dX8_advance_0 rfl (lv_at hl 0 rfl) ?_
  refine lv_aload_n hx hb dX8_advance_1 rfl (lv_at hl 0 rfl) ?_
  refine va_get (D := G) (ci := 8) (v := .int 0) (C := RX8) (T := TX8) (N := 6) hx hb hU in_X8 hown hK.1 hP 0 rfl rfl 3 (by decide) (hU _ u_498) (fun _ h9 => h9) rfl dX8_advance_2 ?_
  refine va_put (D := G) (ci := 8) (v := .int 0) (ty := .int) (C := RX8) (T := TX8) (N := 6) hx hb hU in_X8 tyX8 tyX8_ok nmX8 hown hK.1 hP hD hS 0 rfl rfl 2 (by decide) (hU _ u_496) (fun _ h9 => h9) rfl (by decide +kernel) rfl rfl (Nat.le_of_ble_eq_true rfl) dX8_advance_5 (fun H locs hP hD hS => ?_)
  have hP : va_P G vwCl [(h0, .inr (8, [.ref t0, .int 0, .int 0, .int 0, .int 0, .int (-1)]))] H := hP
  have hD : va_D A [(h0, .inr (8, [.ref t0, .int 0, .int 0, .int 0, .int 0, .int (-1)]))] := hD
  refine lv_aload_n hx hb dX8_advance_8 rfl (lv_at hl 0 rfl) ?_
  refine va_get (D := G) (ci := 8) (v := .int 0) (C := RX8) (T := TX8) (N := 6) hx hb hU in_X8 hown hK.1 hP 0 rfl rfl 2 (by decide) (hU _ u_496) (fun _ h9 => h9) rfl dX8_advance_9 ?_
  refine lv_aload_n hx hb dX8_advance_12 rfl (lv_at hl 0 rfl) ?_
  refine va_get (D := G) (ci := 8) (v := .int 0) (C := RX8) (T := TX8) (N := 6) hx hb hU in_X8 hown hK.1 hP 0 rfl rfl 1 (by decide) (hU _ u_495) (fun _ h9 => h9) rfl dX8_advance_13 ?_
  refine lv_icmp_ge (tgt := 44) hx hb dX8_advance_16 (by decide) (fun _ => ?_) (fun c9 => absurd (by decide) c9)
  refine lv_aload_n hx hb dX8_advance_44 rfl (lv_at hl 0 rfl) ?_
  refine lv_aload_n hx hb dX8_advance_45 rfl (lv_at hl 0 rfl) ?_
  refine lv_aload_n hx hb dX8_advance_46 rfl (lv_at hl 0 rfl) ?_
  refine va_get (D := G) (ci := 8) (v := .int 0) (C := RX8) (T := TX8) (N := 6) hx hb hU in_X8 hown hK.1 hP 0 rfl rfl 2 (by decide) (hU _ u_496) (fun _ h9 => h9) rfl dX8_advance_47 ?_
  refine kt_callV (wc := [(h0, .inr (8, [.ref t0, .int 0, .int 0, .int 0, .int 0, .int (-1)]))]) (wr := []) (As := [.int 0]) (rest := [.ref h0]) (c_X8_kindAt l G cy h0 t0) m_X8_kindAt u_571 hx hb hml hown hU hl.1 hK hP hD hS hA dX8_advance_50 [0] [] rfl rfl rfl rfl rfl rfl (Nat.le_of_ble_eq_true rfl) (ci := 8) rfl rfl rfl (fun v9 w9 H locs hw hP hD hS => ?_)
  obtain ⟨rfl, rfl⟩ := hw
  have hP : va_P G vwCl [(h0, .inr (8, [.ref t0, .int 0, .int 0, .int 0, .int 0, .int (-1)]))] H := hP
  have hD : va_D A [(h0, .inr (8, [.ref t0, .int 0, .int 0, .int 0, .int 0, .int (-1)]))] := hD
  refine W.eq (g2 := F0 m 53 ls [.int 0, .ref h0]) rfl ?_
  refine W.widen (k := 0) (n := 0) (Nat.le_of_ble_eq_true rfl) (Nat.le_of_ble_eq_true rfl) ?_
  refine va_put (D := G) (ci := 8) (v := .int 0) (ty := .int) (C := RX8) (T := TX8) (N := 6) hx hb hU in_X8 tyX8 tyX8_ok nmX8 hown hK.1 hP hD hS 0 rfl rfl 4 (by decide) (hU _ u_499) (fun _ h9 => h9) rfl (by decide +kernel) rfl rfl (Nat.le_of_ble_eq_true rfl) dX8_advance_53 (fun H locs hP hD hS => ?_)
  have hP : va_P G vwCl [(h0, .inr (8, [.ref t0, .int 0, .int 0, .int 0, .int 0, .int (-1)]))] H := hP
  have hD : va_D A [(h0, .inr (8, [.ref t0, .int 0, .int 0, .int 0, .int 0, .int (-1)]))] := hD
  refine lv_aload_n hx hb dX8_advance_56 rfl (lv_at hl 0 rfl) ?_
  refine lv_aload_n hx hb dX8_advance_57 rfl (lv_at hl 0 rfl) ?_
  refine va_get (D := G) (ci := 8) (v := .int 0) (C := RX8) (T := TX8) (N := 6) hx hb hU in_X8 hown hK.1 hP 0 rfl rfl 4 (by decide) (hU _ u_499) (fun _ h9 => h9) rfl dX8_advance_58 ?_
  refine lv_iconst (v := 4) hx hb dX8_advance_61 (by decide) ?_
  refine lv_icmp_ne (tgt := 74) hx hb dX8_advance_62 (by decide) (fun _ => ?_) (fun c9 => absurd c9 (by decide))
  refine lv_aload_n hx hb dX8_advance_74 rfl (lv_at hl 0 rfl) ?_
  refine va_get (D := G) (ci := 8) (v := .int 0) (C := RX8) (T := TX8) (N := 6) hx hb hU in_X8 hown hK.1 hP 0 rfl rfl 2 (by decide) (hU _ u_496) (fun _ h9 => h9) rfl dX8_advance_75 ?_
  refine va_put (D := G) (ci := 8) (v := .int 0) (ty := .int) (C := RX8) (T := TX8) (N := 6) hx hb hU in_X8 tyX8 tyX8_ok nmX8 hown hK.1 hP hD hS 0 rfl rfl 3 (by decide) (hU _ u_498) (fun _ h9 => h9) rfl (by decide +kernel) rfl rfl (Nat.le_of_ble_eq_true rfl) dX8_advance_78 (fun H locs hP hD hS => ?_)
  have hP : va_P G vwCl [(h0, .inr (8, [.ref t0, .int 0, .int 0, .int 0, .int 0, .int (-1)]))] H := hP
  have hD : va_D A [(h0, .inr (8, [.ref t0, .int 0, .int 0, .int 0, .int 0, .int (-1)]))] := hD
  refine lv_aload_n hx hb dX8_advance_81 rfl (lv_at hl 0 rfl) ?_
  refine va_get (D := G) (ci := 8) (v := .int 0) (C := RX8) (T := TX8) (N := 6) hx hb hU in_X8 hown hK.1 hP 0 rfl rfl 3 (by decide) (hU _ u_498) (fun _ h9 => h9) rfl dX8_advance_82 ?_
  refine lv_aload_n hx hb dX8_advance_85 rfl (lv_at hl 0 rfl) ?_
  refine va_get (D := G) (ci := 8) (v := .int 0) (C := RX8) (T := TX8) (N := 6) hx hb hU in_X8 hown hK.1 hP 0 rfl rfl 1 (by decide) (hU _ u_495) (fun _ h9 => h9) rfl dX8_advance_86 ?_
  refine lv_icmp_ge (tgt := 128) hx hb dX8_advance_89 (by decide) (fun _ => ?_) (fun c9 => absurd (by decide) c9)
  refine lv_aload_n hx hb dX8_advance_128 rfl (lv_at hl 0 rfl) ?_
  refine lv_aload_n hx hb dX8_advance_129 rfl (lv_at hl 0 rfl) ?_
  refine va_get (D := G) (ci := 8) (v := .int 0) (C := RX8) (T := TX8) (N := 6) hx hb hU in_X8 hown hK.1 hP 0 rfl rfl 4 (by decide) (hU _ u_499) (fun _ h9 => h9) rfl dX8_advance_130 ?_
  refine lv_iconst (v := 3) hx hb dX8_advance_133 (by decide) ?_
  refine lv_icmp_ne (tgt := 144) hx hb dX8_advance_134 (by decide) (fun _ => ?_) (fun c9 => absurd c9 (by decide))
  refine lv_iconst (v := (-1)) hx hb dX8_advance_144 (by decide) ?_
  refine va_put (D := G) (ci := 8) (v := .int (-1)) (ty := .int) (C := RX8) (T := TX8) (N := 6) hx hb hU in_X8 tyX8 tyX8_ok nmX8 hown hK.1 hP hD hS 0 rfl rfl 5 (by decide) (hU _ u_500) (fun _ h9 => h9) rfl (by decide +kernel) rfl rfl (Nat.le_of_ble_eq_true rfl) dX8_advance_145 (fun H locs hP hD hS => ?_)
  have hP : va_P G vwCl [(h0, .inr (8, [.ref t0, .int 0, .int 0, .int 0, .int 0, .int (-1)]))] H := hP
  have hD : va_D A [(h0, .inr (8, [.ref t0, .int 0, .int 0, .int 0, .int 0, .int (-1)]))] := hD
  exact kt_vret hx hb hr hlocks hP hD hS dX8_advance_148 [0] rfl rfl rfl rfl ⟨rfl, rfl⟩
set_option maxHeartbeats 4000000 in
set_option maxRecDepth 100000 in
theorem c_X8_isEnd (l : Launch) (G : va_G) (cy : Nat → ClassId) (h0 : Nat) (t0 : Nat) : Kt l G cy yX8_isEnd cX8_isEnd 1 (some .boolean) ({ frames := 10, cells := 0, slots := 0, locals := 200 } : Room) [.ref h0] [(h0, .inr (8, [.ref t0, .int 0, .int 0, .int 0, .int 0, .int (-1)]))] (fun (v : Option Value) (w1 : va_W) => v = some (.int 1) ∧ w1 = [(h0, .inr (8, [.ref t0, .int 0, .int 0, .int 0, .int 0, .int (-1)]))]) := by
  refine kt_ofW (by decide) (Nat.le_of_ble_eq_true rfl) ?_
  intro p e s m below meth c A ls hx hb hr hU hown hlocks hml hin hP hK hD hA hS hl
  have hown : s.vm.findClass RX8 = some m.cls := hown
  have hl : lv_has ls 1 [(0, .ref h0)] := hl
  refine lv_aload_n hx hb dX8_isEnd_0 rfl (lv_at hl 0 rfl) ?_
  refine va_get (D := G) (ci := 8) (v := .int 0) (C := RX8) (T := TX8) (N := 6) hx hb hU in_X8 hown hK.1 hP 0 rfl rfl 4 (by decide) (hU _ u_499) (fun _ h9 => h9) rfl dX8_isEnd_1 ?_
  refine lv_if_ne (tgt := 11) hx hb dX8_isEnd_4 (by decide) (fun c9 => absurd (by decide) c9) (fun _ => ?_)
  refine lv_iconst (v := 1) hx hb dX8_isEnd_7 (by decide) ?_
  refine lv_goto (tgt := 12) hx hb dX8_isEnd_8 (by decide) ?_
  exact kt_zret hx hb hr hlocks hP hD hS (by first | rfl | decide | exact rfl) dX8_isEnd_12 [0] rfl rfl rfl rfl ⟨rfl, rfl⟩
set_option maxHeartbeats 4000000 in
set_option maxRecDepth 100000 in
theorem c_X9_init_1 (l : Launch) (G : va_G) (cy : Nat → ClassId) (h0 : Nat) (s0 : Nat) : Kt l G cy yX9_init cX9_init 2 none ({ frames := 10, cells := 1, slots := 56, locals := 200 } : Room) [.ref h0, .ref s0] [(h0, .inr (1, [.null, .null, .int 0, .int 0, .null]))] (fun (v : Option Value) (w1 : va_W) => ∃ (l0 : Nat), v = none ∧ w1 = [(h0, .inr (1, [.ref s0, .ref l0, .int 0, .int (-1), .null])), (l0, .inl (cy 4, 56, .inr (.inr (.inr (.inr (fun _ => none))))))]) := by
  refine kt_ofW (by decide) (Nat.le_of_ble_eq_true rfl) ?_
  intro p e s m below meth c A ls hx hb hr hU hown hlocks hml hin hP hK hD hA hS hl
  have hown : s.vm.findClass RX9 = some m.cls := hown
  have hl : lv_has ls 2 [(0, .ref h0), (1, .ref s0)] := hl
  refine lv_aload_n hx hb dX9_init_0 rfl (lv_at hl 0 rfl) ?_
  refine W.objInit hx hb hown (hU _ u_522) (hU _ u_157) (hU _ u_158) rfl (by rw [hml]; exact hl.1) rfl dX9_init_1 (Nat.le_of_ble_eq_true rfl) (Nat.le_of_ble_eq_true rfl) ?_
  refine W.eq (g2 := F0 m 4 ls []) rfl ?_
  refine lv_aload_n hx hb dX9_init_4 rfl (lv_at hl 0 rfl) ?_
  refine lv_aload_n hx hb dX9_init_5 rfl (lv_at hl 1 rfl) ?_
  refine va_putF (D := G) (ci := 1) (v := .ref s0) (ty := .object "PlaneProof$Signs") (C := RX1) (T := TX1) (N := 5) hx hb hU in_X1 tyX1 tyX1_ok nmX1 hown hK.1 hP hD hS 0 rfl rfl 0 (by decide) (hU _ u_528) (fun _ h9 => h9) rfl hin rfl (by decide +kernel) rfl rfl (Nat.le_of_ble_eq_true rfl) dX9_init_6 (fun H locs hP hD hS => ?_)
  have hP : va_P G vwCl [(h0, .inr (1, [.ref s0, .null, .int 0, .int 0, .null]))] H := hP
  have hD : va_D A [(h0, .inr (1, [.ref s0, .null, .int 0, .int 0, .null]))] := hD
  refine lv_aload_n hx hb dX9_init_9 rfl (lv_at hl 0 rfl) ?_
  refine lv_bipush (v := 56) hx hb dX9_init_10 (by decide) ?_
  refine lx_newq (C := RX5) (N' := 56) hx hb hown hU u_523 hK.2.1 hK hP hD hS hA 4 rfl (by decide) (by decide +kernel) (Nat.le_of_ble_eq_true rfl) (Nat.le_of_ble_eq_true rfl) (Nat.le_of_ble_eq_true rfl) dX9_init_12 (fun q_1 H hP hD hS => ?_)
  have hP : va_P G vwCl [(h0, .inr (1, [.ref s0, .null, .int 0, .int 0, .null])), (q_1, .inl (cy 4, 56, .inr (.inr (.inr (.inr (fun _ => none))))))] H := hP
  have hD : va_D A [(h0, .inr (1, [.ref s0, .null, .int 0, .int 0, .null])), (q_1, .inl (cy 4, 56, .inr (.inr (.inr (.inr (fun _ => none))))))] := hD
  refine W.widen (k := 1) (n := 56) (Nat.le_of_ble_eq_true rfl) (Nat.le_of_ble_eq_true rfl) ?_
  refine va_putF (D := G) (ci := 1) (v := .ref q_1) (ty := .array (.object "PlaneProof$Line")) (C := RX1) (T := TX1) (N := 5) hx hb hU in_X1 tyX1 tyX1_ok nmX1 hown hK.1 hP hD hS 0 rfl rfl 1 (by decide) (hU _ u_533) (fun _ h9 => h9) rfl hin rfl (by decide +kernel) rfl rfl (Nat.le_of_ble_eq_true rfl) dX9_init_15 (fun H locs hP hD hS => ?_)
  have hP : va_P G vwCl [(h0, .inr (1, [.ref s0, .ref q_1, .int 0, .int 0, .null])), (q_1, .inl (cy 4, 56, .inr (.inr (.inr (.inr (fun _ => none))))))] H := hP
  have hD : va_D A [(h0, .inr (1, [.ref s0, .ref q_1, .int 0, .int 0, .null])), (q_1, .inl (cy 4, 56, .inr (.inr (.inr (.inr (fun _ => none))))))] := hD
  refine lv_aload_n hx hb dX9_init_18 rfl (lv_at hl 0 rfl) ?_
  refine lv_iconst (v := 0) hx hb dX9_init_19 (by decide) ?_
  refine va_put (D := G) (ci := 1) (v := .int 0) (ty := .int) (C := RX1) (T := TX1) (N := 5) hx hb hU in_X1 tyX1 tyX1_ok nmX1 hown hK.1 hP hD hS 0 rfl rfl 2 (by decide) (hU _ u_539) (fun _ h9 => h9) rfl (by decide +kernel) rfl rfl (Nat.le_of_ble_eq_true rfl) dX9_init_20 (fun H locs hP hD hS => ?_)
  have hP : va_P G vwCl [(h0, .inr (1, [.ref s0, .ref q_1, .int 0, .int 0, .null])), (q_1, .inl (cy 4, 56, .inr (.inr (.inr (.inr (fun _ => none))))))] H := hP
  have hD : va_D A [(h0, .inr (1, [.ref s0, .ref q_1, .int 0, .int 0, .null])), (q_1, .inl (cy 4, 56, .inr (.inr (.inr (.inr (fun _ => none))))))] := hD
  refine lv_aload_n hx hb dX9_init_23 rfl (lv_at hl 0 rfl) ?_
  refine lv_iconst (v := (-1)) hx hb dX9_init_24 (by decide) ?_
  refine va_put (D := G) (ci := 1) (v := .int (-1)) (ty := .int) (C := RX1) (T := TX1) (N := 5) hx hb hU in_X1 tyX1 tyX1_ok nmX1 hown hK.1 hP hD hS 0 rfl rfl 3 (by decide) (hU _ u_545) (fun _ h9 => h9) rfl (by decide +kernel) rfl rfl (Nat.le_of_ble_eq_true rfl) dX9_init_25 (fun H locs hP hD hS => ?_)
  have hP : va_P G vwCl [(h0, .inr (1, [.ref s0, .ref q_1, .int 0, .int (-1), .null])), (q_1, .inl (cy 4, 56, .inr (.inr (.inr (.inr (fun _ => none))))))] H := hP
  have hD : va_D A [(h0, .inr (1, [.ref s0, .ref q_1, .int 0, .int (-1), .null])), (q_1, .inl (cy 4, 56, .inr (.inr (.inr (.inr (fun _ => none))))))] := hD
  exact kt_vret hx hb hr hlocks hP hD hS dX9_init_28 [0, 1] rfl rfl rfl rfl ⟨q_1, rfl, rfl⟩
set_option maxHeartbeats 4000000 in
set_option maxRecDepth 100000 in
theorem c_X9_init_6 (l : Launch) (G : va_G) (cy : Nat → ClassId) (h0 : Nat) (s0 : Nat) : Kt l G cy yX9_init cX9_init 2 none ({ frames := 10, cells := 1, slots := 56, locals := 200 } : Room) [.ref h0, .ref s0] [(h0, .inr (6, [.null, .null, .int 0, .int 0]))] (fun (v : Option Value) (w1 : va_W) => ∃ (l0 : Nat), v = none ∧ w1 = [(h0, .inr (6, [.ref s0, .ref l0, .int 0, .int (-1)])), (l0, .inl (cy 4, 56, .inr (.inr (.inr (.inr (fun _ => none))))))]) := by
  refine kt_ofW (by decide) (Nat.le_of_ble_eq_true rfl) ?_
  intro p e s m below meth c A ls hx hb hr hU hown hlocks hml hin hP hK hD hA hS hl
  have hown : s.vm.findClass RX9 = some m.cls := hown
  have hl : lv_has ls 2 [(0, .ref h0), (1, .ref s0)] := hl
  refine lv_aload_n hx hb dX9_init_0 rfl (lv_at hl 0 rfl) ?_
  refine W.objInit hx hb hown (hU _ u_522) (hU _ u_157) (hU _ u_158) rfl (by rw [hml]; exact hl.1) rfl dX9_init_1 (Nat.le_of_ble_eq_true rfl) (Nat.le_of_ble_eq_true rfl) ?_
  refine W.eq (g2 := F0 m 4 ls []) rfl ?_
  refine lv_aload_n hx hb dX9_init_4 rfl (lv_at hl 0 rfl) ?_
  refine lv_aload_n hx hb dX9_init_5 rfl (lv_at hl 1 rfl) ?_
  refine va_putF (D := G) (ci := 6) (v := .ref s0) (ty := .object "PlaneProof$Signs") (C := RX6) (T := TX6) (N := 4) hx hb hU in_X6 tyX6 tyX6_ok nmX6 hown hK.1 hP hD hS 0 rfl rfl 0 (by decide) (hU _ u_528) (fun _ h9 => h9) rfl hin rfl (by decide +kernel) rfl rfl (Nat.le_of_ble_eq_true rfl) dX9_init_6 (fun H locs hP hD hS => ?_)
  have hP : va_P G vwCl [(h0, .inr (6, [.ref s0, .null, .int 0, .int 0]))] H := hP
  have hD : va_D A [(h0, .inr (6, [.ref s0, .null, .int 0, .int 0]))] := hD
  refine lv_aload_n hx hb dX9_init_9 rfl (lv_at hl 0 rfl) ?_
  refine lv_bipush (v := 56) hx hb dX9_init_10 (by decide) ?_
  refine lx_newq (C := RX5) (N' := 56) hx hb hown hU u_523 hK.2.1 hK hP hD hS hA 4 rfl (by decide) (by decide +kernel) (Nat.le_of_ble_eq_true rfl) (Nat.le_of_ble_eq_true rfl) (Nat.le_of_ble_eq_true rfl) dX9_init_12 (fun q_1 H hP hD hS => ?_)
  have hP : va_P G vwCl [(h0, .inr (6, [.ref s0, .null, .int 0, .int 0])), (q_1, .inl (cy 4, 56, .inr (.inr (.inr (.inr (fun _ => none))))))] H := hP
  have hD : va_D A [(h0, .inr (6, [.ref s0, .null, .int 0, .int 0])), (q_1, .inl (cy 4, 56, .inr (.inr (.inr (.inr (fun _ => none))))))] := hD
  refine W.widen (k := 1) (n := 56) (Nat.le_of_ble_eq_true rfl) (Nat.le_of_ble_eq_true rfl) ?_
  refine va_putF (D := G) (ci := 6) (v := .ref q_1) (ty := .array (.object "PlaneProof$Line")) (C := RX6) (T := TX6) (N := 4) hx hb hU in_X6 tyX6 tyX6_ok nmX6 hown hK.1 hP hD hS 0 rfl rfl 1 (by decide) (hU _ u_533) (fun _ h9 => h9) rfl hin rfl (by decide +kernel) rfl rfl (Nat.le_of_ble_eq_true rfl) dX9_init_15 (fun H locs hP hD hS => ?_)
  have hP : va_P G vwCl [(h0, .inr (6, [.ref s0, .ref q_1, .int 0, .int 0])), (q_1, .inl (cy 4, 56, .inr (.inr (.inr (.inr (fun _ => none))))))] H := hP
  have hD : va_D A [(h0, .inr (6, [.ref s0, .ref q_1, .int 0, .int 0])), (q_1, .inl (cy 4, 56, .inr (.inr (.inr (.inr (fun _ => none))))))] := hD
  refine lv_aload_n hx hb dX9_init_18 rfl (lv_at hl 0 rfl) ?_
  refine lv_iconst (v := 0) hx hb dX9_init_19 (by decide) ?_
  refine va_put (D := G) (ci := 6) (v := .int 0) (ty := .int) (C := RX6) (T := TX6) (N := 4) hx hb hU in_X6 tyX6 tyX6_ok nmX6 hown hK.1 hP hD hS 0 rfl rfl 2 (by decide) (hU _ u_539) (fun _ h9 => h9) rfl (by decide +kernel) rfl rfl (Nat.le_of_ble_eq_true rfl) dX9_init_20 (fun H locs hP hD hS => ?_)
  have hP : va_P G vwCl [(h0, .inr (6, [.ref s0, .ref q_1, .int 0, .int 0])), (q_1, .inl (cy 4, 56, .inr (.inr (.inr (.inr (fun _ => none))))))] H := hP
  have hD : va_D A [(h0, .inr (6, [.ref s0, .ref q_1, .int 0, .int 0])), (q_1, .inl (cy 4, 56, .inr (.inr (.inr (.inr (fun _ => none))))))] := hD
  refine lv_aload_n hx hb dX9_init_23 rfl (lv_at hl 0 rfl) ?_
  refine lv_iconst (v := (-1)) hx hb dX9_init_24 (by decide) ?_
  refine va_put (D := G) (ci := 6) (v := .int (-1)) (ty := .int) (C := RX6) (T := TX6) (N := 4) hx hb hU in_X6 tyX6 tyX6_ok nmX6 hown hK.1 hP hD hS 0 rfl rfl 3 (by decide) (hU _ u_545) (fun _ h9 => h9) rfl (by decide +kernel) rfl rfl (Nat.le_of_ble_eq_true rfl) dX9_init_25 (fun H locs hP hD hS => ?_)
  have hP : va_P G vwCl [(h0, .inr (6, [.ref s0, .ref q_1, .int 0, .int (-1)])), (q_1, .inl (cy 4, 56, .inr (.inr (.inr (.inr (fun _ => none))))))] H := hP
  have hD : va_D A [(h0, .inr (6, [.ref s0, .ref q_1, .int 0, .int (-1)])), (q_1, .inl (cy 4, 56, .inr (.inr (.inr (.inr (fun _ => none))))))] := hD
  exact kt_vret hx hb hr hlocks hP hD hS dX9_init_28 [0, 1] rfl rfl rfl rfl ⟨q_1, rfl, rfl⟩
set_option maxHeartbeats 4000000 in
set_option maxRecDepth 100000 in
theorem c_X1_init (l : Launch) (G : va_G) (cy : Nat → ClassId) (h0 : Nat) (s0 : Nat) : Kt l G cy yX1_init cX1_init 2 none ({ frames := 12, cells := 3, slots := 66, locals := 300 } : Room) [.ref h0, .ref s0] [(h0, .inr (1, [.null, .null, .int 0, .int 0, .null]))] (fun (v : Option Value) (w1 : va_W) => ∃ (l0 : Nat), ∃ (g0 : Nat), ∃ (g1 : Nat), v = none ∧ w1 = [(h0, .inr (1, [.ref s0, .ref l0, .int 0, .int (-1), .ref g0])), (l0, .inl (cy 4, 56, .inr (.inr (.inr (.inr (fun _ => none)))))), (g0, .inr (4, [.int 0, .int 0, .int (-1), .ref g1])), (g1, .inl (cy 1, 6, .inl (fun _ => 0)))]) := by
  refine kt_ofW (by decide) (Nat.le_of_ble_eq_true rfl) ?_
  intro p e s m below meth c A ls hx hb hr hU hown hlocks hml hin hP hK hD hA hS hl
  have hown : s.vm.findClass RX1 = some m.cls := hown
  have hl : lv_has ls 2 [(0, .ref h0), (1, .ref s0)] := hl
  refine lv_aload_n hx hb dX1_init_0 rfl (lv_at hl 0 rfl) ?_
  refine lv_aload_n hx hb dX1_init_1 rfl (lv_at hl 1 rfl) ?_
  refine kt_callI (wc := [(h0, .inr (1, [.null, .null, .int 0, .int 0, .null]))]) (wr := []) (As := [.ref s0]) (rest := []) (c_X9_init_1 l G cy h0 s0) m_X9_init u_519 hx hb hml hown hU hl.1 hK hP hD hS hA dX1_init_2 [0] [] rfl rfl rfl rfl rfl rfl (Nat.le_of_ble_eq_true rfl) (fun v9 w9 H locs hw hP hD hS => ?_)
  obtain ⟨x_1, rfl, rfl⟩ := hw
  have hP : va_P G vwCl [(h0, .inr (1, [.ref s0, .ref x_1, .int 0, .int (-1), .null])), (x_1, .inl (cy 4, 56, .inr (.inr (.inr (.inr (fun _ => none))))))] H := hP
  have hD : va_D A [(h0, .inr (1, [.ref s0, .ref x_1, .int 0, .int (-1), .null])), (x_1, .inl (cy 4, 56, .inr (.inr (.inr (.inr (fun _ => none))))))] := hD
  refine W.eq (g2 := F0 m 5 ls []) rfl ?_
  refine W.widen (k := 1) (n := 56) (Nat.le_of_ble_eq_true rfl) (Nat.le_of_ble_eq_true rfl) ?_
  refine lv_aload_n hx hb dX1_init_5 rfl (lv_at hl 0 rfl) ?_
  refine va_new (ci := 4) (fs := [.int 0, .int 0, .int 0, .null]) (C := RX4) (T := TX4) (N := 4) hx hb hU in_X4 tyX4 tyX4_ok hown (hU _ u_524) (hU _ u_191) (hU _ u_125) hK.1 hP hD hS hA rfl df_X4 (Nat.le_of_ble_eq_true rfl) (Nat.le_of_ble_eq_true rfl) dX1_init_6 (fun q_2 H hP hD hS => ?_)
  have hP : va_P G vwCl [(h0, .inr (1, [.ref s0, .ref x_1, .int 0, .int (-1), .null])), (x_1, .inl (cy 4, 56, .inr (.inr (.inr (.inr (fun _ => none)))))), (q_2, .inr (4, [.int 0, .int 0, .int 0, .null]))] H := hP
  have hD : va_D A [(h0, .inr (1, [.ref s0, .ref x_1, .int 0, .int (-1), .null])), (x_1, .inl (cy 4, 56, .inr (.inr (.inr (.inr (fun _ => none)))))), (q_2, .inr (4, [.int 0, .int 0, .int 0, .null]))] := hD
  refine W.widen (k := 2) (n := 60) (Nat.le_of_ble_eq_true rfl) (Nat.le_of_ble_eq_true rfl) ?_
  refine lv_dup hx hb dX1_init_9 rfl ?_
  refine kt_callI (wc := [(q_2, .inr (4, [.int 0, .int 0, .int 0, .null]))]) (wr := [(h0, .inr (1, [.ref s0, .ref x_1, .int 0, .int (-1), .null])), (x_1, .inl (cy 4, 56, .inr (.inr (.inr (.inr (fun _ => none))))))]) (As := []) (rest := [.ref q_2, .ref h0]) (c_X4_init l G cy q_2) m_X4_init u_525 hx hb hml hown hU hl.1 hK hP hD hS hA dX1_init_10 [2] [0, 1] rfl rfl rfl rfl rfl rfl (Nat.le_of_ble_eq_true rfl) (fun v9 w9 H locs hw hP hD hS => ?_)
  obtain ⟨x_3, rfl, rfl⟩ := hw
  have hP : va_P G vwCl [(h0, .inr (1, [.ref s0, .ref x_1, .int 0, .int (-1), .null])), (x_1, .inl (cy 4, 56, .inr (.inr (.inr (.inr (fun _ => none)))))), (q_2, .inr (4, [.int 0, .int 0, .int (-1), .ref x_3])), (x_3, .inl (cy 1, 6, .inl (fun _ => 0)))] H := hP
  have hD : va_D A [(h0, .inr (1, [.ref s0, .ref x_1, .int 0, .int (-1), .null])), (x_1, .inl (cy 4, 56, .inr (.inr (.inr (.inr (fun _ => none)))))), (q_2, .inr (4, [.int 0, .int 0, .int (-1), .ref x_3])), (x_3, .inl (cy 1, 6, .inl (fun _ => 0)))] := hD
  refine W.eq (g2 := F0 m 13 ls [.ref q_2, .ref h0]) rfl ?_
  refine W.widen (k := 3) (n := 66) (Nat.le_of_ble_eq_true rfl) (Nat.le_of_ble_eq_true rfl) ?_
  refine va_putF (D := G) (ci := 1) (v := .ref q_2) (ty := .object "PlaneProof$Graph") (C := RX1) (T := TX1) (N := 5) hx hb hU in_X1 tyX1 tyX1_ok nmX1 hown hK.1 hP hD hS 0 rfl rfl 4 (by decide) (hU _ u_526) (fun _ h9 => h9) rfl hin rfl (by decide +kernel) rfl rfl (Nat.le_of_ble_eq_true rfl) dX1_init_13 (fun H locs hP hD hS => ?_)
  have hP : va_P G vwCl [(h0, .inr (1, [.ref s0, .ref x_1, .int 0, .int (-1), .ref q_2])), (x_1, .inl (cy 4, 56, .inr (.inr (.inr (.inr (fun _ => none)))))), (q_2, .inr (4, [.int 0, .int 0, .int (-1), .ref x_3])), (x_3, .inl (cy 1, 6, .inl (fun _ => 0)))] H := hP
  have hD : va_D A [(h0, .inr (1, [.ref s0, .ref x_1, .int 0, .int (-1), .ref q_2])), (x_1, .inl (cy 4, 56, .inr (.inr (.inr (.inr (fun _ => none)))))), (q_2, .inr (4, [.int 0, .int 0, .int (-1), .ref x_3])), (x_3, .inl (cy 1, 6, .inl (fun _ => 0)))] := hD
  exact kt_vret hx hb hr hlocks hP hD hS dX1_init_16 [0, 1, 2, 3] rfl rfl rfl rfl ⟨x_1, q_2, x_3, rfl, rfl⟩
set_option maxHeartbeats 4000000 in
set_option maxRecDepth 100000 in
theorem c_X6_init (l : Launch) (G : va_G) (cy : Nat → ClassId) (h0 : Nat) (s0 : Nat) (r2 : Nat) (r3 : Nat) : Kt l G cy yX6_init cX6_init 4 none ({ frames := 12, cells := 1, slots := 56, locals := 300 } : Room) [.ref h0, .ref s0, .ref r2] [(h0, .inr (6, [.null, .null, .int 0, .int 0])), (r2, .inr (0, [.ref r3, .int 0, .int 0]))] (fun (v : Option Value) (w1 : va_W) => ∃ (l0 : Nat), v = none ∧ w1 = [(h0, .inr (6, [.ref s0, .ref l0, .int 0, .int (-1)])), (l0, .inl (cy 4, 56, .inr (.inr (.inr (.inr (fun _ => none)))))), (r2, .inr (0, [.ref r3, .int 0, .int 0]))]) := by
  refine kt_ofW (by decide) (Nat.le_of_ble_eq_true rfl) ?_
  intro p e s m below meth c A ls hx hb hr hU hown hlocks hml hin hP hK hD hA hS hl
  have hown : s.vm.findClass RX6 = some m.cls := hown
  have hl : lv_has ls 4 [(0, .ref h0), (1, .ref s0), (2, .ref r2)] := hl
  refine lv_aload_n hx hb dX6_init_0 rfl (lv_at hl 0 rfl) ?_
  refine lv_aload_n hx hb dX6_init_1 rfl (lv_at hl 1 rfl) ?_
  refine kt_callI (wc := [(h0, .inr (6, [.null, .null, .int 0, .int 0]))]) (wr := [(r2, .inr (0, [.ref r3, .int 0, .int 0]))]) (As := [.ref s0]) (rest := []) (c_X9_init_6 l G cy h0 s0) m_X9_init u_1060 hx hb hml hown hU hl.1 hK hP hD hS hA dX6_init_2 [0] [1] rfl rfl rfl rfl rfl rfl (Nat.le_of_ble_eq_true rfl) (fun v9 w9 H locs hw hP hD hS => ?_)
  obtain ⟨x_1, rfl, rfl⟩ := hw
  have hP : va_P G vwCl [(r2, .inr (0, [.ref r3, .int 0, .int 0])), (h0, .inr (6, [.ref s0, .ref x_1, .int 0, .int (-1)])), (x_1, .inl (cy 4, 56, .inr (.inr (.inr (.inr (fun _ => none))))))] H := hP
  have hD : va_D A [(r2, .inr (0, [.ref r3, .int 0, .int 0])), (h0, .inr (6, [.ref s0, .ref x_1, .int 0, .int (-1)])), (x_1, .inl (cy 4, 56, .inr (.inr (.inr (.inr (fun _ => none))))))] := hD
  refine W.eq (g2 := F0 m 5 ls []) rfl ?_
  refine W.widen (k := 1) (n := 56) (Nat.le_of_ble_eq_true rfl) (Nat.le_of_ble_eq_true rfl) ?_
  refine lv_iconst (v := 0) hx hb dX6_init_5 (by decide) ?_
  refine lv_istore_n (lv' := [(3, .int 0), (0, .ref h0), (1, .ref s0), (2, .ref r2)]) hx hb dX6_init_6 rfl hl (by decide) rfl (fun ls hl => ?_)
  refine lv_iload_n hx hb dX6_init_7 rfl (lv_at hl 0 rfl) ?_
  refine lv_aload_n hx hb dX6_init_8 rfl (lv_at hl 3 rfl) ?_
  refine va_get (D := G) (ci := 0) (v := .int 0) (C := RX0) (T := TX0) (N := 3) hx hb hU in_X0 hown hK.1 hP 0 rfl rfl 1 (by decide) (hU _ u_173) (fun _ h9 => h9) rfl dX6_init_9 ?_
  refine lv_icmp_ge (tgt := 33) hx hb dX6_init_12 (by decide) (fun _ => ?_) (fun c9 => absurd (by decide) c9)
  refine lv_aload_n hx hb dX6_init_33 rfl (lv_at hl 1 rfl) ?_
  refine lv_aload_n hx hb dX6_init_34 rfl (lv_at hl 3 rfl) ?_
  refine va_get (D := G) (ci := 0) (v := .int 0) (C := RX0) (T := TX0) (N := 3) hx hb hU in_X0 hown hK.1 hP 0 rfl rfl 1 (by decide) (hU _ u_173) (fun _ h9 => h9) rfl dX6_init_35 ?_
  refine va_put (D := G) (ci := 6) (v := .int 0) (ty := .int) (C := RX6) (T := TX6) (N := 4) hx hb hU in_X6 tyX6 tyX6_ok nmX6 hown hK.1 hP hD hS 1 rfl rfl 2 (by decide) (hU _ u_540) (fun x9 h9 => u_same (hU _ u_541) x9 h9) rfl (by decide +kernel) rfl rfl (Nat.le_of_ble_eq_true rfl) dX6_init_38 (fun H locs hP hD hS => ?_)
  have hP : va_P G vwCl [(r2, .inr (0, [.ref r3, .int 0, .int 0])), (h0, .inr (6, [.ref s0, .ref x_1, .int 0, .int (-1)])), (x_1, .inl (cy 4, 56, .inr (.inr (.inr (.inr (fun _ => none))))))] H := hP
  have hD : va_D A [(r2, .inr (0, [.ref r3, .int 0, .int 0])), (h0, .inr (6, [.ref s0, .ref x_1, .int 0, .int (-1)])), (x_1, .inl (cy 4, 56, .inr (.inr (.inr (.inr (fun _ => none))))))] := hD
  exact kt_vret hx hb hr hlocks hP hD hS dX6_init_41 [1, 2, 0] rfl rfl rfl rfl ⟨x_1, rfl, rfl⟩
set_option maxHeartbeats 4000000 in
set_option maxRecDepth 100000 in
theorem c_X9_readText_1 (l : Launch) (G : va_G) (cy : Nat → ClassId) (h0 : Nat) (s0 : Nat) (l0 : Nat) (g0 : Nat) (t0 : Nat) (p0 : Int32) (hp : 0 < p0) : Kt l G cy yX9_readText cX9_readText 5 (some .boolean) ({ frames := 14, cells := 0, slots := 0, locals := 400 } : Room) [.ref h0, .int p0] [(h0, .inr (1, [.ref s0, .ref l0, .int 0, .int (-1), .ref g0])), (s0, .inr (8, [.ref t0, .int 0, .int 0, .int 0, .int 0, .int (-1)]))] (fun (v : Option Value) (w1 : va_W) => v = some (.int 1) ∧ w1 = [(h0, .inr (1, [.ref s0, .ref l0, .int 0, .int (-1), .ref g0]))]) := by
  refine kt_ofW (by decide) (Nat.le_of_ble_eq_true rfl) ?_
  intro p e s m below meth c A ls hx hb hr hU hown hlocks hml hin hP hK hD hA hS hl
  have hown : s.vm.findClass RX9 = some m.cls := hown
  have hl : lv_has ls 5 [(0, .ref h0), (1, .int p0)] := hl
  refine lv_aload_n hx hb dX9_readText_0 rfl (lv_at hl 0 rfl) ?_
  refine va_get (D := G) (ci := 1) (v := .ref s0) (C := RX1) (T := TX1) (N := 5) hx hb hU in_X1 hown hK.1 hP 0 rfl rfl 0 (by decide) (hU _ u_528) (fun _ h9 => h9) rfl dX9_readText_1 ?_
  refine kt_callV (wc := [(s0, .inr (8, [.ref t0, .int 0, .int 0, .int 0, .int 0, .int (-1)]))]) (wr := [(h0, .inr (1, [.ref s0, .ref l0, .int 0, .int (-1), .ref g0]))]) (As := []) (rest := []) (c_X8_advance l G cy s0 t0) m_X8_advance u_567 hx hb hml hown hU hl.1 hK hP hD hS hA dX9_readText_4 [1] [0] rfl rfl rfl rfl rfl rfl (Nat.le_of_ble_eq_true rfl) (ci := 8) rfl rfl rfl (fun v9 w9 H locs hw hP hD hS => ?_)
  obtain ⟨rfl, rfl⟩ := hw
  have hP : va_P G vwCl [(h0, .inr (1, [.ref s0, .ref l0, .int 0, .int (-1), .ref g0])), (s0, .inr (8, [.ref t0, .int 0, .int 0, .int 0, .int 0, .int (-1)]))] H := hP
  have hD : va_D A [(h0, .inr (1, [.ref s0, .ref l0, .int 0, .int (-1), .ref g0])), (s0, .inr (8, [.ref t0, .int 0, .int 0, .int 0, .int 0, .int (-1)]))] := hD
  refine W.eq (g2 := F0 m 7 ls []) rfl ?_
  refine W.widen (k := 0) (n := 0) (Nat.le_of_ble_eq_true rfl) (Nat.le_of_ble_eq_true rfl) ?_
  refine lv_iconst (v := 0) hx hb dX9_readText_7 (by decide) ?_
  refine lv_istore_n (lv' := [(2, .int 0), (0, .ref h0), (1, .int p0)]) hx hb dX9_readText_8 rfl hl (by decide) rfl (fun ls hl => ?_)
  refine lv_iload_n hx hb dX9_readText_9 rfl (lv_at hl 0 rfl) ?_
  refine lv_iload_n hx hb dX9_readText_10 rfl (lv_at hl 2 rfl) ?_
  refine lv_icmp_ge (tgt := 97) hx hb dX9_readText_11 (by decide) (fun c9 => absurd c9 (lx_nle hp)) (fun _ => ?_)
  refine lv_aload_n hx hb dX9_readText_14 rfl (lv_at hl 1 rfl) ?_
  refine va_get (D := G) (ci := 1) (v := .ref s0) (C := RX1) (T := TX1) (N := 5) hx hb hU in_X1 hown hK.1 hP 0 rfl rfl 0 (by decide) (hU _ u_528) (fun _ h9 => h9) rfl dX9_readText_15 ?_
  refine kt_callV (wc := [(s0, .inr (8, [.ref t0, .int 0, .int 0, .int 0, .int 0, .int (-1)]))]) (wr := [(h0, .inr (1, [.ref s0, .ref l0, .int 0, .int (-1), .ref g0]))]) (As := []) (rest := []) (c_X8_isEnd l G cy s0 t0) m_X8_isEnd u_579 hx hb hml hown hU hl.1 hK hP hD hS hA dX9_readText_18 [1] [0] rfl rfl rfl rfl rfl rfl (Nat.le_of_ble_eq_true rfl) (ci := 8) rfl rfl rfl (fun v9 w9 H locs hw hP hD hS => ?_)
  obtain ⟨rfl, rfl⟩ := hw
  have hP : va_P G vwCl [(h0, .inr (1, [.ref s0, .ref l0, .int 0, .int (-1), .ref g0])), (s0, .inr (8, [.ref t0, .int 0, .int 0, .int 0, .int 0, .int (-1)]))] H := hP
  have hD : va_D A [(h0, .inr (1, [.ref s0, .ref l0, .int 0, .int (-1), .ref g0])), (s0, .inr (8, [.ref t0, .int 0, .int 0, .int 0, .int 0, .int (-1)]))] := hD
  refine W.eq (g2 := F0 m 21 ls [.int 1]) rfl ?_
  refine W.widen (k := 0) (n := 0) (Nat.le_of_ble_eq_true rfl) (Nat.le_of_ble_eq_true rfl) ?_
  refine lv_if_ne (tgt := 97) hx hb dX9_readText_21 (by decide) (fun _ => ?_) (fun c9 => absurd c9 (by decide))
  refine lv_aload_n hx hb dX9_readText_97 rfl (lv_at hl 1 rfl) ?_
  refine va_get (D := G) (ci := 1) (v := .ref s0) (C := RX1) (T := TX1) (N := 5) hx hb hU in_X1 hown hK.1 hP 0 rfl rfl 0 (by decide) (hU _ u_528) (fun _ h9 => h9) rfl dX9_readText_98 ?_
  refine kt_callV (wc := [(s0, .inr (8, [.ref t0, .int 0, .int 0, .int 0, .int 0, .int (-1)]))]) (wr := [(h0, .inr (1, [.ref s0, .ref l0, .int 0, .int (-1), .ref g0]))]) (As := []) (rest := []) (c_X8_isEnd l G cy s0 t0) m_X8_isEnd u_579 hx hb hml hown hU hl.1 hK hP hD hS hA dX9_readText_101 [1] [0] rfl rfl rfl rfl rfl rfl (Nat.le_of_ble_eq_true rfl) (ci := 8) rfl rfl rfl (fun v9 w9 H locs hw hP hD hS => ?_)
  obtain ⟨rfl, rfl⟩ := hw
  have hP : va_P G vwCl [(h0, .inr (1, [.ref s0, .ref l0, .int 0, .int (-1), .ref g0])), (s0, .inr (8, [.ref t0, .int 0, .int 0, .int 0, .int 0, .int (-1)]))] H := hP
  have hD : va_D A [(h0, .inr (1, [.ref s0, .ref l0, .int 0, .int (-1), .ref g0])), (s0, .inr (8, [.ref t0, .int 0, .int 0, .int 0, .int 0, .int (-1)]))] := hD
  refine W.eq (g2 := F0 m 104 ls [.int 1]) rfl ?_
  refine W.widen (k := 0) (n := 0) (Nat.le_of_ble_eq_true rfl) (Nat.le_of_ble_eq_true rfl) ?_
  refine lv_if_ne (tgt := 114) hx hb dX9_readText_104 (by decide) (fun _ => ?_) (fun c9 => absurd c9 (by decide))
  refine lv_iconst (v := 1) hx hb dX9_readText_114 (by decide) ?_
  refine lv_goto (tgt := 119) hx hb dX9_readText_115 (by decide) ?_
  exact kt_zret hx hb hr hlocks hP hD hS (by first | rfl | decide | exact rfl) dX9_readText_119 [0] rfl rfl rfl rfl ⟨rfl, rfl⟩
set_option maxHeartbeats 4000000 in
set_option maxRecDepth 100000 in
theorem c_X9_readText_6 (l : Launch) (G : va_G) (cy : Nat → ClassId) (h0 : Nat) (s0 : Nat) (l0 : Nat) (t0 : Nat) (p0 : Int32) (hp : 0 < p0) : Kt l G cy yX9_readText cX9_readText 5 (some .boolean) ({ frames := 14, cells := 0, slots := 0, locals := 400 } : Room) [.ref h0, .int p0] [(h0, .inr (6, [.ref s0, .ref l0, .int 0, .int (-1)])), (s0, .inr (8, [.ref t0, .int 0, .int 0, .int 0, .int 0, .int (-1)]))] (fun (v : Option Value) (w1 : va_W) => v = some (.int 1) ∧ w1 = [(h0, .inr (6, [.ref s0, .ref l0, .int 0, .int (-1)]))]) := by
  refine kt_ofW (by decide) (Nat.le_of_ble_eq_true rfl) ?_
  intro p e s m below meth c A ls hx hb hr hU hown hlocks hml hin hP hK hD hA hS hl
  have hown : s.vm.findClass RX9 = some m.cls := hown
  have hl : lv_has ls 5 [(0, .ref h0), (1, .int p0)] := hl
  refine lv_aload_n hx hb dX9_readText_0 rfl (lv_at hl 0 rfl) ?_
  refine va_get (D := G) (ci := 6) (v := .ref s0) (C := RX6) (T := TX6) (N := 4) hx hb hU in_X6 hown hK.1 hP 0 rfl rfl 0 (by decide) (hU _ u_528) (fun _ h9 => h9) rfl dX9_readText_1 ?_
  refine kt_callV (wc := [(s0, .inr (8, [.ref t0, .int 0, .int 0, .int 0, .int 0, .int (-1)]))]) (wr := [(h0, .inr (6, [.ref s0, .ref l0, .int 0, .int (-1)]))]) (As := []) (rest := []) (c_X8_advance l G cy s0 t0) m_X8_advance u_567 hx hb hml hown hU hl.1 hK hP hD hS hA dX9_readText_4 [1] [0] rfl rfl rfl rfl rfl rfl (Nat.le_of_ble_eq_true rfl) (ci := 8) rfl rfl rfl (fun v9 w9 H locs hw hP hD hS => ?_)
  obtain ⟨rfl, rfl⟩ := hw
  have hP : va_P G vwCl [(h0, .inr (6, [.ref s0, .ref l0, .int 0, .int (-1)])), (s0, .inr (8, [.ref t0, .int 0, .int 0, .int 0, .int 0, .int (-1)]))] H := hP
  have hD : va_D A [(h0, .inr (6, [.ref s0, .ref l0, .int 0, .int (-1)])), (s0, .inr (8, [.ref t0, .int 0, .int 0, .int 0, .int 0, .int (-1)]))] := hD
  refine W.eq (g2 := F0 m 7 ls []) rfl ?_
  refine W.widen (k := 0) (n := 0) (Nat.le_of_ble_eq_true rfl) (Nat.le_of_ble_eq_true rfl) ?_
  refine lv_iconst (v := 0) hx hb dX9_readText_7 (by decide) ?_
  refine lv_istore_n (lv' := [(2, .int 0), (0, .ref h0), (1, .int p0)]) hx hb dX9_readText_8 rfl hl (by decide) rfl (fun ls hl => ?_)
  refine lv_iload_n hx hb dX9_readText_9 rfl (lv_at hl 0 rfl) ?_
  refine lv_iload_n hx hb dX9_readText_10 rfl (lv_at hl 2 rfl) ?_
  refine lv_icmp_ge (tgt := 97) hx hb dX9_readText_11 (by decide) (fun c9 => absurd c9 (lx_nle hp)) (fun _ => ?_)
  refine lv_aload_n hx hb dX9_readText_14 rfl (lv_at hl 1 rfl) ?_
  refine va_get (D := G) (ci := 6) (v := .ref s0) (C := RX6) (T := TX6) (N := 4) hx hb hU in_X6 hown hK.1 hP 0 rfl rfl 0 (by decide) (hU _ u_528) (fun _ h9 => h9) rfl dX9_readText_15 ?_
  refine kt_callV (wc := [(s0, .inr (8, [.ref t0, .int 0, .int 0, .int 0, .int 0, .int (-1)]))]) (wr := [(h0, .inr (6, [.ref s0, .ref l0, .int 0, .int (-1)]))]) (As := []) (rest := []) (c_X8_isEnd l G cy s0 t0) m_X8_isEnd u_579 hx hb hml hown hU hl.1 hK hP hD hS hA dX9_readText_18 [1] [0] rfl rfl rfl rfl rfl rfl (Nat.le_of_ble_eq_true rfl) (ci := 8) rfl rfl rfl (fun v9 w9 H locs hw hP hD hS => ?_)
  obtain ⟨rfl, rfl⟩ := hw
  have hP : va_P G vwCl [(h0, .inr (6, [.ref s0, .ref l0, .int 0, .int (-1)])), (s0, .inr (8, [.ref t0, .int 0, .int 0, .int 0, .int 0, .int (-1)]))] H := hP
  have hD : va_D A [(h0, .inr (6, [.ref s0, .ref l0, .int 0, .int (-1)])), (s0, .inr (8, [.ref t0, .int 0, .int 0, .int 0, .int 0, .int (-1)]))] := hD
  refine W.eq (g2 := F0 m 21 ls [.int 1]) rfl ?_
  refine W.widen (k := 0) (n := 0) (Nat.le_of_ble_eq_true rfl) (Nat.le_of_ble_eq_true rfl) ?_
  refine lv_if_ne (tgt := 97) hx hb dX9_readText_21 (by decide) (fun _ => ?_) (fun c9 => absurd c9 (by decide))
  refine lv_aload_n hx hb dX9_readText_97 rfl (lv_at hl 1 rfl) ?_
  refine va_get (D := G) (ci := 6) (v := .ref s0) (C := RX6) (T := TX6) (N := 4) hx hb hU in_X6 hown hK.1 hP 0 rfl rfl 0 (by decide) (hU _ u_528) (fun _ h9 => h9) rfl dX9_readText_98 ?_
  refine kt_callV (wc := [(s0, .inr (8, [.ref t0, .int 0, .int 0, .int 0, .int 0, .int (-1)]))]) (wr := [(h0, .inr (6, [.ref s0, .ref l0, .int 0, .int (-1)]))]) (As := []) (rest := []) (c_X8_isEnd l G cy s0 t0) m_X8_isEnd u_579 hx hb hml hown hU hl.1 hK hP hD hS hA dX9_readText_101 [1] [0] rfl rfl rfl rfl rfl rfl (Nat.le_of_ble_eq_true rfl) (ci := 8) rfl rfl rfl (fun v9 w9 H locs hw hP hD hS => ?_)
  obtain ⟨rfl, rfl⟩ := hw
  have hP : va_P G vwCl [(h0, .inr (6, [.ref s0, .ref l0, .int 0, .int (-1)])), (s0, .inr (8, [.ref t0, .int 0, .int 0, .int 0, .int 0, .int (-1)]))] H := hP
  have hD : va_D A [(h0, .inr (6, [.ref s0, .ref l0, .int 0, .int (-1)])), (s0, .inr (8, [.ref t0, .int 0, .int 0, .int 0, .int 0, .int (-1)]))] := hD
  refine W.eq (g2 := F0 m 104 ls [.int 1]) rfl ?_
  refine W.widen (k := 0) (n := 0) (Nat.le_of_ble_eq_true rfl) (Nat.le_of_ble_eq_true rfl) ?_
  refine lv_if_ne (tgt := 114) hx hb dX9_readText_104 (by decide) (fun _ => ?_) (fun c9 => absurd c9 (by decide))
  refine lv_iconst (v := 1) hx hb dX9_readText_114 (by decide) ?_
  refine lv_goto (tgt := 119) hx hb dX9_readText_115 (by decide) ?_
  exact kt_zret hx hb hr hlocks hP hD hS (by first | rfl | decide | exact rfl) dX9_readText_119 [0] rfl rfl rfl rfl ⟨rfl, rfl⟩
end
section
set_option maxHeartbeats 4000000 in
set_option maxRecDepth 100000 in
theorem c_X11_forgetAnswers (l : Launch) (G : va_G) (cy : Nat → ClassId) (h0 : Nat) (r1 : Nat) (r2 : Nat) (r4 : Nat) (r6 : Nat) (r7 : Nat) (r9 : Nat) : Kt l G cy yX11_forgetAnswers cX11_forgetAnswers 2 none ({ frames := 10, cells := 0, slots := 0, locals := 200 } : Room) [.ref h0] [(h0, .inr (10, [.ref r1, .int 0, .int (-1), .ref r2, .ref r4, .ref r6, .int (-2), .ref r7, .ref r9])), (r6, .inl (cy 5, 7, .inr (.inr (.inr (.inr (fun _ => none))))))] (fun (v : Option Value) (w1 : va_W) => v = none ∧ w1 = [(h0, .inr (10, [.ref r1, .int 0, .int (-1), .ref r2, .ref r4, .ref r6, .int (-2), .ref r7, .ref r9])), (r6, .inl (cy 5, 7, .inr (.inr (.inr (.inr (fun _ => none))))))]) := by
  refine kt_ofW (by decide) (Nat.le_of_ble_eq_true rfl) ?_
  intro p e s m below meth c A ls hx hb hr hU hown hlocks hml hin hP hK hD hA hS hl
  have hown : s.vm.findClass RX11 = some m.cls := hown
  have hl : lv_has ls 2 [(0, .ref h0)] := hl
  refine lv_aload_n hx hb dX11_forgetAnswers_0 rfl (lv_at hl 0 rfl) ?_
  refine lv_bipush (v := (-2)) hx hb dX11_forgetAnswers_1 (by decide) ?_
  refine va_put (D := G) (ci := 10) (v := .int (-2)) (ty := .int) (C := RX11) (T := TX11) (N := 9) hx hb hU in_X11 tyX11 tyX11_ok nmX11 hown hK.1 hP hD hS 0 rfl rfl 6 (by decide) (hU _ u_256) (fun _ h9 => h9) rfl (by decide +kernel) rfl rfl (Nat.le_of_ble_eq_true rfl) dX11_forgetAnswers_3 (fun H locs hP hD hS => ?_)
  have hP : va_P G vwCl [(h0, .inr (10, [.ref r1, .int 0, .int (-1), .ref r2, .ref r4, .ref r6, .int (-2), .ref r7, .ref r9])), (r6, .inl (cy 5, 7, .inr (.inr (.inr (.inr (fun _ => none))))))] H := hP
  have hD : va_D A [(h0, .inr (10, [.ref r1, .int 0, .int (-1), .ref r2, .ref r4, .ref r6, .int (-2), .ref r7, .ref r9])), (r6, .inl (cy 5, 7, .inr (.inr (.inr (.inr (fun _ => none))))))] := hD
  refine lv_iconst (v := 0) hx hb dX11_forgetAnswers_6 (by decide) ?_
  refine lv_istore_n (lv' := [(1, .int 0), (0, .ref h0)]) hx hb dX11_forgetAnswers_7 rfl hl (by decide) rfl (fun ls hl => ?_)
  refine lv_iload_n hx hb dX11_forgetAnswers_8 rfl (lv_at hl 0 rfl) ?_
  refine lv_bipush (v := 6) hx hb dX11_forgetAnswers_9 (by decide) ?_
  refine lv_icmp_gt (tgt := 39) hx hb dX11_forgetAnswers_11 (by decide) (fun c9 => absurd c9 (by decide)) (fun _ => ?_)
  refine lv_aload_n hx hb dX11_forgetAnswers_14 rfl (lv_at hl 1 rfl) ?_
  refine va_get (D := G) (ci := 10) (v := .ref r6) (C := RX11) (T := TX11) (N := 9) hx hb hU in_X11 hown hK.1 hP 0 rfl rfl 5 (by decide) (hU _ u_255) (fun _ h9 => h9) rfl dX11_forgetAnswers_15 ?_
  refine lv_iload_n hx hb dX11_forgetAnswers_18 rfl (lv_at hl 0 rfl) ?_
  refine va_aldq hx hb hK.1 hP 1 5 rfl rfl (lx_in (by decide +kernel)) dX11_forgetAnswers_19 ?_
  refine W.eq (g2 := F0 m 20 ls [.null]) rfl ?_
  refine lv_ifnullN (tgt := 33) hx hb dX11_forgetAnswers_20 (by decide) ?_
  refine lv_iinc (v := 1) (lv' := [(1, .int 1), (0, .ref h0)]) hx hb dX11_forgetAnswers_33 hl (k := 0) rfl (by decide) (by decide) rfl (fun ls hl => ?_)
  refine lv_goto (tgt := 8) hx hb dX11_forgetAnswers_36 (by decide) ?_
  refine lv_iload_n hx hb dX11_forgetAnswers_8 rfl (lv_at hl 0 rfl) ?_
  refine lv_bipush (v := 6) hx hb dX11_forgetAnswers_9 (by decide) ?_
  refine lv_icmp_gt (tgt := 39) hx hb dX11_forgetAnswers_11 (by decide) (fun c9 => absurd c9 (by decide)) (fun _ => ?_)
  refine lv_aload_n hx hb dX11_forgetAnswers_14 rfl (lv_at hl 1 rfl) ?_
  refine va_get (D := G) (ci := 10) (v := .ref r6) (C := RX11) (T := TX11) (N := 9) hx hb hU in_X11 hown hK.1 hP 0 rfl rfl 5 (by decide) (hU _ u_255) (fun _ h9 => h9) rfl dX11_forgetAnswers_15 ?_
  refine lv_iload_n hx hb dX11_forgetAnswers_18 rfl (lv_at hl 0 rfl) ?_
  refine va_aldq hx hb hK.1 hP 1 5 rfl rfl (lx_in (by decide +kernel)) dX11_forgetAnswers_19 ?_
  refine W.eq (g2 := F0 m 20 ls [.null]) rfl ?_
  refine lv_ifnullN (tgt := 33) hx hb dX11_forgetAnswers_20 (by decide) ?_
  refine lv_iinc (v := 2) (lv' := [(1, .int 2), (0, .ref h0)]) hx hb dX11_forgetAnswers_33 hl (k := 0) rfl (by decide) (by decide) rfl (fun ls hl => ?_)
  refine lv_goto (tgt := 8) hx hb dX11_forgetAnswers_36 (by decide) ?_
  refine lv_iload_n hx hb dX11_forgetAnswers_8 rfl (lv_at hl 0 rfl) ?_
  refine lv_bipush (v := 6) hx hb dX11_forgetAnswers_9 (by decide) ?_
  refine lv_icmp_gt (tgt := 39) hx hb dX11_forgetAnswers_11 (by decide) (fun c9 => absurd c9 (by decide)) (fun _ => ?_)
  refine lv_aload_n hx hb dX11_forgetAnswers_14 rfl (lv_at hl 1 rfl) ?_
  refine va_get (D := G) (ci := 10) (v := .ref r6) (C := RX11) (T := TX11) (N := 9) hx hb hU in_X11 hown hK.1 hP 0 rfl rfl 5 (by decide) (hU _ u_255) (fun _ h9 => h9) rfl dX11_forgetAnswers_15 ?_
  refine lv_iload_n hx hb dX11_forgetAnswers_18 rfl (lv_at hl 0 rfl) ?_
  refine va_aldq hx hb hK.1 hP 1 5 rfl rfl (lx_in (by decide +kernel)) dX11_forgetAnswers_19 ?_
  refine W.eq (g2 := F0 m 20 ls [.null]) rfl ?_
  refine lv_ifnullN (tgt := 33) hx hb dX11_forgetAnswers_20 (by decide) ?_
  refine lv_iinc (v := 3) (lv' := [(1, .int 3), (0, .ref h0)]) hx hb dX11_forgetAnswers_33 hl (k := 0) rfl (by decide) (by decide) rfl (fun ls hl => ?_)
  refine lv_goto (tgt := 8) hx hb dX11_forgetAnswers_36 (by decide) ?_
  refine lv_iload_n hx hb dX11_forgetAnswers_8 rfl (lv_at hl 0 rfl) ?_
  refine lv_bipush (v := 6) hx hb dX11_forgetAnswers_9 (by decide) ?_
  refine lv_icmp_gt (tgt := 39) hx hb dX11_forgetAnswers_11 (by decide) (fun c9 => absurd c9 (by decide)) (fun _ => ?_)
  refine lv_aload_n hx hb dX11_forgetAnswers_14 rfl (lv_at hl 1 rfl) ?_
  refine va_get (D := G) (ci := 10) (v := .ref r6) (C := RX11) (T := TX11) (N := 9) hx hb hU in_X11 hown hK.1 hP 0 rfl rfl 5 (by decide) (hU _ u_255) (fun _ h9 => h9) rfl dX11_forgetAnswers_15 ?_
  refine lv_iload_n hx hb dX11_forgetAnswers_18 rfl (lv_at hl 0 rfl) ?_
  refine va_aldq hx hb hK.1 hP 1 5 rfl rfl (lx_in (by decide +kernel)) dX11_forgetAnswers_19 ?_
  refine W.eq (g2 := F0 m 20 ls [.null]) rfl ?_
  refine lv_ifnullN (tgt := 33) hx hb dX11_forgetAnswers_20 (by decide) ?_
  refine lv_iinc (v := 4) (lv' := [(1, .int 4), (0, .ref h0)]) hx hb dX11_forgetAnswers_33 hl (k := 0) rfl (by decide) (by decide) rfl (fun ls hl => ?_)
  refine lv_goto (tgt := 8) hx hb dX11_forgetAnswers_36 (by decide) ?_
  refine lv_iload_n hx hb dX11_forgetAnswers_8 rfl (lv_at hl 0 rfl) ?_
  refine lv_bipush (v := 6) hx hb dX11_forgetAnswers_9 (by decide) ?_
  refine lv_icmp_gt (tgt := 39) hx hb dX11_forgetAnswers_11 (by decide) (fun c9 => absurd c9 (by decide)) (fun _ => ?_)
  refine lv_aload_n hx hb dX11_forgetAnswers_14 rfl (lv_at hl 1 rfl) ?_
  refine va_get (D := G) (ci := 10) (v := .ref r6) (C := RX11) (T := TX11) (N := 9) hx hb hU in_X11 hown hK.1 hP 0 rfl rfl 5 (by decide) (hU _ u_255) (fun _ h9 => h9) rfl dX11_forgetAnswers_15 ?_
  refine lv_iload_n hx hb dX11_forgetAnswers_18 rfl (lv_at hl 0 rfl) ?_
  refine va_aldq hx hb hK.1 hP 1 5 rfl rfl (lx_in (by decide +kernel)) dX11_forgetAnswers_19 ?_
  refine W.eq (g2 := F0 m 20 ls [.null]) rfl ?_
  refine lv_ifnullN (tgt := 33) hx hb dX11_forgetAnswers_20 (by decide) ?_
  refine lv_iinc (v := 5) (lv' := [(1, .int 5), (0, .ref h0)]) hx hb dX11_forgetAnswers_33 hl (k := 0) rfl (by decide) (by decide) rfl (fun ls hl => ?_)
  refine lv_goto (tgt := 8) hx hb dX11_forgetAnswers_36 (by decide) ?_
  refine lv_iload_n hx hb dX11_forgetAnswers_8 rfl (lv_at hl 0 rfl) ?_
  refine lv_bipush (v := 6) hx hb dX11_forgetAnswers_9 (by decide) ?_
  refine lv_icmp_gt (tgt := 39) hx hb dX11_forgetAnswers_11 (by decide) (fun c9 => absurd c9 (by decide)) (fun _ => ?_)
  refine lv_aload_n hx hb dX11_forgetAnswers_14 rfl (lv_at hl 1 rfl) ?_
  refine va_get (D := G) (ci := 10) (v := .ref r6) (C := RX11) (T := TX11) (N := 9) hx hb hU in_X11 hown hK.1 hP 0 rfl rfl 5 (by decide) (hU _ u_255) (fun _ h9 => h9) rfl dX11_forgetAnswers_15 ?_
  refine lv_iload_n hx hb dX11_forgetAnswers_18 rfl (lv_at hl 0 rfl) ?_
  refine va_aldq hx hb hK.1 hP 1 5 rfl rfl (lx_in (by decide +kernel)) dX11_forgetAnswers_19 ?_
  refine W.eq (g2 := F0 m 20 ls [.null]) rfl ?_
  refine lv_ifnullN (tgt := 33) hx hb dX11_forgetAnswers_20 (by decide) ?_
  refine lv_iinc (v := 6) (lv' := [(1, .int 6), (0, .ref h0)]) hx hb dX11_forgetAnswers_33 hl (k := 0) rfl (by decide) (by decide) rfl (fun ls hl => ?_)
  refine lv_goto (tgt := 8) hx hb dX11_forgetAnswers_36 (by decide) ?_
  refine lv_iload_n hx hb dX11_forgetAnswers_8 rfl (lv_at hl 0 rfl) ?_
  refine lv_bipush (v := 6) hx hb dX11_forgetAnswers_9 (by decide) ?_
  refine lv_icmp_gt (tgt := 39) hx hb dX11_forgetAnswers_11 (by decide) (fun c9 => absurd c9 (by decide)) (fun _ => ?_)
  refine lv_aload_n hx hb dX11_forgetAnswers_14 rfl (lv_at hl 1 rfl) ?_
  refine va_get (D := G) (ci := 10) (v := .ref r6) (C := RX11) (T := TX11) (N := 9) hx hb hU in_X11 hown hK.1 hP 0 rfl rfl 5 (by decide) (hU _ u_255) (fun _ h9 => h9) rfl dX11_forgetAnswers_15 ?_
  refine lv_iload_n hx hb dX11_forgetAnswers_18 rfl (lv_at hl 0 rfl) ?_
  refine va_aldq hx hb hK.1 hP 1 5 rfl rfl (lx_in (by decide +kernel)) dX11_forgetAnswers_19 ?_
  refine W.eq (g2 := F0 m 20 ls [.null]) rfl ?_
  refine lv_ifnullN (tgt := 33) hx hb dX11_forgetAnswers_20 (by decide) ?_
  refine lv_iinc (v := 7) (lv' := [(1, .int 7), (0, .ref h0)]) hx hb dX11_forgetAnswers_33 hl (k := 0) rfl (by decide) (by decide) rfl (fun ls hl => ?_)
  refine lv_goto (tgt := 8) hx hb dX11_forgetAnswers_36 (by decide) ?_
  refine lv_iload_n hx hb dX11_forgetAnswers_8 rfl (lv_at hl 0 rfl) ?_
  refine lv_bipush (v := 6) hx hb dX11_forgetAnswers_9 (by decide) ?_
  refine lv_icmp_gt (tgt := 39) hx hb dX11_forgetAnswers_11 (by decide) (fun _ => ?_) (fun c9 => absurd (by decide) c9)
  exact kt_vret hx hb hr hlocks hP hD hS dX11_forgetAnswers_39 [0, 1] rfl rfl rfl rfl ⟨rfl, rfl⟩
set_option maxHeartbeats 4000000 in
set_option maxRecDepth 100000 in
theorem c_X11_claim (l : Launch) (G : va_G) (cy : Nat → ClassId) (h0 : Nat) (r1 : Nat) (r2 : Nat) (r4 : Nat) (r6 : Nat) (r7 : Nat) (r9 : Nat) (r3 : Nat) : Kt l G cy yX11_claim cX11_claim 3 (some .int) ({ frames := 16, cells := 6, slots := 80, locals := 500 } : Room) [.ref h0] [(h0, .inr (10, [.ref r1, .int 0, .int (-1), .ref r2, .ref r4, .ref r6, .int (-2), .ref r7, .ref r9])), (r2, .inr (0, [.ref r3, .int 0, .int 0])), (r6, .inl (cy 5, 7, .inr (.inr (.inr (.inr (fun _ => none))))))] (fun (v : Option Value) (w1 : va_W) => v = some (.int 0) ∧ w1 = []) := by
  refine kt_ofW (by decide) (Nat.le_of_ble_eq_true rfl) ?_
  intro p e s m below meth c A ls hx hb hr hU hown hlocks hml hin hP hK hD hA hS hl
  have hown : s.vm.findClass RX11 = some m.cls := hown
  have hl : lv_has ls 3 [(0, .ref h0)] := hl
  refine va_new (ci := 1) (fs := [.null, .null, .int 0, .int 0, .null]) (C := RX1) (T := TX1) (N := 5) hx hb hU in_X1 tyX1 tyX1_ok hown (hU _ u_486) (hU _ u_487) (hU _ u_130) hK.1 hP hD hS hA rfl df_X1 (Nat.le_of_ble_eq_true rfl) (Nat.le_of_ble_eq_true rfl) dX11_claim_0 (fun q_1 H hP hD hS => ?_)
  have hP : va_P G vwCl [(h0, .inr (10, [.ref r1, .int 0, .int (-1), .ref r2, .ref r4, .ref r6, .int (-2), .ref r7, .ref r9])), (r2, .inr (0, [.ref r3, .int 0, .int 0])), (r6, .inl (cy 5, 7, .inr (.inr (.inr (.inr (fun _ => none)))))), (q_1, .inr (1, [.null, .null, .int 0, .int 0, .null]))] H := hP
  have hD : va_D A [(h0, .inr (10, [.ref r1, .int 0, .int (-1), .ref r2, .ref r4, .ref r6, .int (-2), .ref r7, .ref r9])), (r2, .inr (0, [.ref r3, .int 0, .int 0])), (r6, .inl (cy 5, 7, .inr (.inr (.inr (.inr (fun _ => none)))))), (q_1, .inr (1, [.null, .null, .int 0, .int 0, .null]))] := hD
  refine W.widen (k := 1) (n := 5) (Nat.le_of_ble_eq_true rfl) (Nat.le_of_ble_eq_true rfl) ?_
  refine lv_dup hx hb dX11_claim_3 rfl ?_
  refine va_new (ci := 8) (fs := [.null, .int 0, .int 0, .int 0, .int 0, .int 0]) (C := RX8) (T := TX8) (N := 6) hx hb hU in_X8 tyX8 tyX8_ok hown (hU _ u_488) (hU _ u_489) (hU _ u_131) hK.1 hP hD hS hA rfl df_X8 (Nat.le_of_ble_eq_true rfl) (Nat.le_of_ble_eq_true rfl) dX11_claim_4 (fun q_2 H hP hD hS => ?_)
  have hP : va_P G vwCl [(h0, .inr (10, [.ref r1, .int 0, .int (-1), .ref r2, .ref r4, .ref r6, .int (-2), .ref r7, .ref r9])), (r2, .inr (0, [.ref r3, .int 0, .int 0])), (r6, .inl (cy 5, 7, .inr (.inr (.inr (.inr (fun _ => none)))))), (q_1, .inr (1, [.null, .null, .int 0, .int 0, .null])), (q_2, .inr (8, [.null, .int 0, .int 0, .int 0, .int 0, .int 0]))] H := hP
  have hD : va_D A [(h0, .inr (10, [.ref r1, .int 0, .int (-1), .ref r2, .ref r4, .ref r6, .int (-2), .ref r7, .ref r9])), (r2, .inr (0, [.ref r3, .int 0, .int 0])), (r6, .inl (cy 5, 7, .inr (.inr (.inr (.inr (fun _ => none)))))), (q_1, .inr (1, [.null, .null, .int 0, .int 0, .null])), (q_2, .inr (8, [.null, .int 0, .int 0, .int 0, .int 0, .int 0]))] := hD
  refine W.widen (k := 2) (n := 11) (Nat.le_of_ble_eq_true rfl) (Nat.le_of_ble_eq_true rfl) ?_
  refine lv_dup hx hb dX11_claim_7 rfl ?_
  refine lv_aload_n hx hb dX11_claim_8 rfl (lv_at hl 0 rfl) ?_
  refine va_get (D := G) (ci := 10) (v := .ref r1) (C := RX11) (T := TX11) (N := 9) hx hb hU in_X11 hown hK.1 hP 0 rfl rfl 0 (by decide) (hU _ u_250) (fun _ h9 => h9) rfl dX11_claim_9 ?_
  refine lv_aload_n hx hb dX11_claim_12 rfl (lv_at hl 0 rfl) ?_
  refine va_get (D := G) (ci := 10) (v := .int 0) (C := RX11) (T := TX11) (N := 9) hx hb hU in_X11 hown hK.1 hP 0 rfl rfl 1 (by decide) (hU _ u_251) (fun _ h9 => h9) rfl dX11_claim_13 ?_
  refine kt_callI (wc := [(q_2, .inr (8, [.null, .int 0, .int 0, .int 0, .int 0, .int 0]))]) (wr := [(h0, .inr (10, [.ref r1, .int 0, .int (-1), .ref r2, .ref r4, .ref r6, .int (-2), .ref r7, .ref r9])), (r2, .inr (0, [.ref r3, .int 0, .int 0])), (r6, .inl (cy 5, 7, .inr (.inr (.inr (.inr (fun _ => none)))))), (q_1, .inr (1, [.null, .null, .int 0, .int 0, .null]))]) (As := [.ref r1, .int 0]) (rest := [.ref q_2, .ref q_1, .ref q_1]) (c_X8_init l G cy q_2 r1) m_X8_init u_490 hx hb hml hown hU hl.1 hK hP hD hS hA dX11_claim_16 [4] [0, 1, 2, 3] rfl rfl rfl rfl rfl rfl (Nat.le_of_ble_eq_true rfl) (fun v9 w9 H locs hw hP hD hS => ?_)
  obtain ⟨rfl, rfl⟩ := hw
  have hP : va_P G vwCl [(h0, .inr (10, [.ref r1, .int 0, .int (-1), .ref r2, .ref r4, .ref r6, .int (-2), .ref r7, .ref r9])), (r2, .inr (0, [.ref r3, .int 0, .int 0])), (r6, .inl (cy 5, 7, .inr (.inr (.inr (.inr (fun _ => none)))))), (q_1, .inr (1, [.null, .null, .int 0, .int 0, .null])), (q_2, .inr (8, [.ref r1, .int 0, .int 0, .int 0, .int 0, .int (-1)]))] H := hP
  have hD : va_D A [(h0, .inr (10, [.ref r1, .int 0, .int (-1), .ref r2, .ref r4, .ref r6, .int (-2), .ref r7, .ref r9])), (r2, .inr (0, [.ref r3, .int 0, .int 0])), (r6, .inl (cy 5, 7, .inr (.inr (.inr (.inr (fun _ => none)))))), (q_1, .inr (1, [.null, .null, .int 0, .int 0, .null])), (q_2, .inr (8, [.ref r1, .int 0, .int 0, .int 0, .int 0, .int (-1)]))] := hD
  refine W.eq (g2 := F0 m 19 ls [.ref q_2, .ref q_1, .ref q_1]) rfl ?_
  refine W.widen (k := 2) (n := 11) (Nat.le_of_ble_eq_true rfl) (Nat.le_of_ble_eq_true rfl) ?_
  refine kt_callI (wc := [(q_1, .inr (1, [.null, .null, .int 0, .int 0, .null]))]) (wr := [(h0, .inr (10, [.ref r1, .int 0, .int (-1), .ref r2, .ref r4, .ref r6, .int (-2), .ref r7, .ref r9])), (r2, .inr (0, [.ref r3, .int 0, .int 0])), (r6, .inl (cy 5, 7, .inr (.inr (.inr (.inr (fun _ => none)))))), (q_2, .inr (8, [.ref r1, .int 0, .int 0, .int 0, .int 0, .int (-1)]))]) (As := [.ref q_2]) (rest := [.ref q_1]) (c_X1_init l G cy q_1 q_2) m_X1_init u_516 hx hb hml hown hU hl.1 hK hP hD hS hA dX11_claim_19 [3] [0, 1, 2, 4] rfl rfl rfl rfl rfl rfl (Nat.le_of_ble_eq_true rfl) (fun v9 w9 H locs hw hP hD hS => ?_)
  obtain ⟨x_3, x_4, x_5, rfl, rfl⟩ := hw
  have hP : va_P G vwCl [(h0, .inr (10, [.ref r1, .int 0, .int (-1), .ref r2, .ref r4, .ref r6, .int (-2), .ref r7, .ref r9])), (r2, .inr (0, [.ref r3, .int 0, .int 0])), (r6, .inl (cy 5, 7, .inr (.inr (.inr (.inr (fun _ => none)))))), (q_2, .inr (8, [.ref r1, .int 0, .int 0, .int 0, .int 0, .int (-1)])), (q_1, .inr (1, [.ref q_2, .ref x_3, .int 0, .int (-1), .ref x_4])), (x_3, .inl (cy 4, 56, .inr (.inr (.inr (.inr (fun _ => none)))))), (x_4, .inr (4, [.int 0, .int 0, .int (-1), .ref x_5])), (x_5, .inl (cy 1, 6, .inl (fun _ => 0)))] H := hP
  have hD : va_D A [(h0, .inr (10, [.ref r1, .int 0, .int (-1), .ref r2, .ref r4, .ref r6, .int (-2), .ref r7, .ref r9])), (r2, .inr (0, [.ref r3, .int 0, .int 0])), (r6, .inl (cy 5, 7, .inr (.inr (.inr (.inr (fun _ => none)))))), (q_2, .inr (8, [.ref r1, .int 0, .int 0, .int 0, .int 0, .int (-1)])), (q_1, .inr (1, [.ref q_2, .ref x_3, .int 0, .int (-1), .ref x_4])), (x_3, .inl (cy 4, 56, .inr (.inr (.inr (.inr (fun _ => none)))))), (x_4, .inr (4, [.int 0, .int 0, .int (-1), .ref x_5])), (x_5, .inl (cy 1, 6, .inl (fun _ => 0)))] := hD
  refine W.eq (g2 := F0 m 22 ls [.ref q_1]) rfl ?_
  refine W.widen (k := 5) (n := 77) (Nat.le_of_ble_eq_true rfl) (Nat.le_of_ble_eq_true rfl) ?_
  refine lv_astore_n (lv' := [(1, .ref q_1), (0, .ref h0)]) hx hb dX11_claim_22 rfl hl (by decide) rfl (fun ls hl => ?_)
  refine lv_aload_n hx hb dX11_claim_23 rfl (lv_at hl 1 rfl) ?_
  refine lv_iconst (v := 0) hx hb dX11_claim_24 (by decide) ?_
  refine va_put (D := G) (ci := 10) (v := .int 0) (ty := .int) (C := RX11) (T := TX11) (N := 9) hx hb hU in_X11 tyX11 tyX11_ok nmX11 hown hK.1 hP hD hS 0 rfl rfl 1 (by decide) (hU _ u_251) (fun _ h9 => h9) rfl (by decide +kernel) rfl rfl (Nat.le_of_ble_eq_true rfl) dX11_claim_25 (fun H locs hP hD hS => ?_)
  have hP : va_P G vwCl [(h0, .inr (10, [.ref r1, .int 0, .int (-1), .ref r2, .ref r4, .ref r6, .int (-2), .ref r7, .ref r9])), (r2, .inr (0, [.ref r3, .int 0, .int 0])), (r6, .inl (cy 5, 7, .inr (.inr (.inr (.inr (fun _ => none)))))), (q_2, .inr (8, [.ref r1, .int 0, .int 0, .int 0, .int 0, .int (-1)])), (q_1, .inr (1, [.ref q_2, .ref x_3, .int 0, .int (-1), .ref x_4])), (x_3, .inl (cy 4, 56, .inr (.inr (.inr (.inr (fun _ => none)))))), (x_4, .inr (4, [.int 0, .int 0, .int (-1), .ref x_5])), (x_5, .inl (cy 1, 6, .inl (fun _ => 0)))] H := hP
  have hD : va_D A [(h0, .inr (10, [.ref r1, .int 0, .int (-1), .ref r2, .ref r4, .ref r6, .int (-2), .ref r7, .ref r9])), (r2, .inr (0, [.ref r3, .int 0, .int 0])), (r6, .inl (cy 5, 7, .inr (.inr (.inr (.inr (fun _ => none)))))), (q_2, .inr (8, [.ref r1, .int 0, .int 0, .int 0, .int 0, .int (-1)])), (q_1, .inr (1, [.ref q_2, .ref x_3, .int 0, .int (-1), .ref x_4])), (x_3, .inl (cy 4, 56, .inr (.inr (.inr (.inr (fun _ => none)))))), (x_4, .inr (4, [.int 0, .int 0, .int (-1), .ref x_5])), (x_5, .inl (cy 1, 6, .inl (fun _ => 0)))] := hD
  refine lv_aload_n hx hb dX11_claim_28 rfl (lv_at hl 0 rfl) ?_
  refine lv_bipush (v := 16) hx hb dX11_claim_29 (by decide) ?_
  refine kt_callU (wc := [(q_1, .inr (1, [.ref q_2, .ref x_3, .int 0, .int (-1), .ref x_4])), (q_2, .inr (8, [.ref r1, .int 0, .int 0, .int 0, .int 0, .int (-1)]))]) (wr := [(h0, .inr (10, [.ref r1, .int 0, .int (-1), .ref r2, .ref r4, .ref r6, .int (-2), .ref r7, .ref r9])), (r2, .inr (0, [.ref r3, .int 0, .int 0])), (r6, .inl (cy 5, 7, .inr (.inr (.inr (.inr (fun _ => none)))))), (x_3, .inl (cy 4, 56, .inr (.inr (.inr (.inr (fun _ => none)))))), (x_4, .inr (4, [.int 0, .int 0, .int (-1), .ref x_5])), (x_5, .inl (cy 1, 6, .inl (fun _ => 0)))]) (As := [.int 16]) (rest := []) (c_X9_readText_1 l G cy q_1 q_2 x_3 x_4 r1 16 (by decide)) mu_X9_readText_RX1 u_561 hx hb hml hown hU hl.1 hK hP hD hS hA dX11_claim_31 [4, 3] [0, 1, 2, 5, 6, 7] rfl rfl rfl rfl rfl rfl (Nat.le_of_ble_eq_true rfl) (ci := 1) rfl rfl rfl (fun v9 w9 H locs hw hP hD hS => ?_)
  obtain ⟨rfl, rfl⟩ := hw
  have hP : va_P G vwCl [(h0, .inr (10, [.ref r1, .int 0, .int (-1), .ref r2, .ref r4, .ref r6, .int (-2), .ref r7, .ref r9])), (r2, .inr (0, [.ref r3, .int 0, .int 0])), (r6, .inl (cy 5, 7, .inr (.inr (.inr (.inr (fun _ => none)))))), (x_3, .inl (cy 4, 56, .inr (.inr (.inr (.inr (fun _ => none)))))), (x_4, .inr (4, [.int 0, .int 0, .int (-1), .ref x_5])), (x_5, .inl (cy 1, 6, .inl (fun _ => 0))), (q_1, .inr (1, [.ref q_2, .ref x_3, .int 0, .int (-1), .ref x_4]))] H := hP
  have hD : va_D A [(h0, .inr (10, [.ref r1, .int 0, .int (-1), .ref r2, .ref r4, .ref r6, .int (-2), .ref r7, .ref r9])), (r2, .inr (0, [.ref r3, .int 0, .int 0])), (r6, .inl (cy 5, 7, .inr (.inr (.inr (.inr (fun _ => none)))))), (x_3, .inl (cy 4, 56, .inr (.inr (.inr (.inr (fun _ => none)))))), (x_4, .inr (4, [.int 0, .int 0, .int (-1), .ref x_5])), (x_5, .inl (cy 1, 6, .inl (fun _ => 0))), (q_1, .inr (1, [.ref q_2, .ref x_3, .int 0, .int (-1), .ref x_4]))] := hD
  refine W.eq (g2 := F0 m 34 ls [.int 1]) rfl ?_
  refine W.widen (k := 5) (n := 77) (Nat.le_of_ble_eq_true rfl) (Nat.le_of_ble_eq_true rfl) ?_
  refine lv_istore_n (lv' := [(2, .int 1), (1, .ref q_1), (0, .ref h0)]) hx hb dX11_claim_34 rfl hl (by decide) rfl (fun ls hl => ?_)
  refine lv_aload_n hx hb dX11_claim_35 rfl (lv_at hl 2 rfl) ?_
  refine lv_aload_n hx hb dX11_claim_36 rfl (lv_at hl 1 rfl) ?_
  refine va_get (D := G) (ci := 1) (v := .int (-1)) (C := RX1) (T := TX1) (N := 5) hx hb hU in_X1 hown hK.1 hP 6 rfl rfl 3 (by decide) (hU _ u_546) (fun x9 h9 => u_same (hU _ u_547) x9 h9) rfl dX11_claim_37 ?_
  refine va_put (D := G) (ci := 10) (v := .int (-1)) (ty := .int) (C := RX11) (T := TX11) (N := 9) hx hb hU in_X11 tyX11 tyX11_ok nmX11 hown hK.1 hP hD hS 0 rfl rfl 2 (by decide) (hU _ u_252) (fun _ h9 => h9) rfl (by decide +kernel) rfl rfl (Nat.le_of_ble_eq_true rfl) dX11_claim_40 (fun H locs hP hD hS => ?_)
  have hP : va_P G vwCl [(h0, .inr (10, [.ref r1, .int 0, .int (-1), .ref r2, .ref r4, .ref r6, .int (-2), .ref r7, .ref r9])), (r2, .inr (0, [.ref r3, .int 0, .int 0])), (r6, .inl (cy 5, 7, .inr (.inr (.inr (.inr (fun _ => none)))))), (x_3, .inl (cy 4, 56, .inr (.inr (.inr (.inr (fun _ => none)))))), (x_4, .inr (4, [.int 0, .int 0, .int (-1), .ref x_5])), (x_5, .inl (cy 1, 6, .inl (fun _ => 0))), (q_1, .inr (1, [.ref q_2, .ref x_3, .int 0, .int (-1), .ref x_4]))] H := hP
  have hD : va_D A [(h0, .inr (10, [.ref r1, .int 0, .int (-1), .ref r2, .ref r4, .ref r6, .int (-2), .ref r7, .ref r9])), (r2, .inr (0, [.ref r3, .int 0, .int 0])), (r6, .inl (cy 5, 7, .inr (.inr (.inr (.inr (fun _ => none)))))), (x_3, .inl (cy 4, 56, .inr (.inr (.inr (.inr (fun _ => none)))))), (x_4, .inr (4, [.int 0, .int 0, .int (-1), .ref x_5])), (x_5, .inl (cy 1, 6, .inl (fun _ => 0))), (q_1, .inr (1, [.ref q_2, .ref x_3, .int 0, .int (-1), .ref x_4]))] := hD
  refine lv_iload_n hx hb dX11_claim_43 rfl (lv_at hl 0 rfl) ?_
  refine lv_if_ne (tgt := 57) hx hb dX11_claim_44 (by decide) (fun _ => ?_) (fun c9 => absurd c9 (by decide))
  refine lv_aload_n hx hb dX11_claim_57 rfl (lv_at hl 2 rfl) ?_
  refine va_new (ci := 0) (fs := [.null, .int 0, .int 0]) (C := RX0) (T := TX0) (N := 3) hx hb hU in_X0 tyX0 tyX0_ok hown (hU _ u_159) (hU _ u_160) (hU _ u_124) hK.1 hP hD hS hA rfl df_X0 (Nat.le_of_ble_eq_true rfl) (Nat.le_of_ble_eq_true rfl) dX11_claim_58 (fun q_6 H hP hD hS => ?_)
  have hP : va_P G vwCl [(h0, .inr (10, [.ref r1, .int 0, .int (-1), .ref r2, .ref r4, .ref r6, .int (-2), .ref r7, .ref r9])), (r2, .inr (0, [.ref r3, .int 0, .int 0])), (r6, .inl (cy 5, 7, .inr (.inr (.inr (.inr (fun _ => none)))))), (x_3, .inl (cy 4, 56, .inr (.inr (.inr (.inr (fun _ => none)))))), (x_4, .inr (4, [.int 0, .int 0, .int (-1), .ref x_5])), (x_5, .inl (cy 1, 6, .inl (fun _ => 0))), (q_1, .inr (1, [.ref q_2, .ref x_3, .int 0, .int (-1), .ref x_4])), (q_6, .inr (0, [.null, .int 0, .int 0]))] H := hP
  have hD : va_D A [(h0, .inr (10, [.ref r1, .int 0, .int (-1), .ref r2, .ref r4, .ref r6, .int (-2), .ref r7, .ref r9])), (r2, .inr (0, [.ref r3, .int 0, .int 0])), (r6, .inl (cy 5, 7, .inr (.inr (.inr (.inr (fun _ => none)))))), (x_3, .inl (cy 4, 56, .inr (.inr (.inr (.inr (fun _ => none)))))), (x_4, .inr (4, [.int 0, .int 0, .int (-1), .ref x_5])), (x_5, .inl (cy 1, 6, .inl (fun _ => 0))), (q_1, .inr (1, [.ref q_2, .ref x_3, .int 0, .int (-1), .ref x_4])), (q_6, .inr (0, [.null, .int 0, .int 0]))] := hD
  refine W.widen (k := 6) (n := 80) (Nat.le_of_ble_eq_true rfl) (Nat.le_of_ble_eq_true rfl) ?_
  refine lv_dup hx hb dX11_claim_61 rfl ?_
  refine lv_aload_n hx hb dX11_claim_62 rfl (lv_at hl 1 rfl) ?_
  refine va_get (D := G) (ci := 1) (v := .ref x_3) (C := RX1) (T := TX1) (N := 5) hx hb hU in_X1 hown hK.1 hP 6 rfl rfl 1 (by decide) (hU _ u_536) (fun x9 h9 => u_same (hU _ u_537) x9 h9) rfl dX11_claim_63 ?_
  refine lv_aload_n hx hb dX11_claim_66 rfl (lv_at hl 1 rfl) ?_
  refine va_get (D := G) (ci := 1) (v := .int 0) (C := RX1) (T := TX1) (N := 5) hx hb hU in_X1 hown hK.1 hP 6 rfl rfl 2 (by decide) (hU _ u_542) (fun x9 h9 => u_same (hU _ u_543) x9 h9) rfl dX11_claim_67 ?_
  refine lv_aload_n hx hb dX11_claim_70 rfl (lv_at hl 1 rfl) ?_
  refine va_get (D := G) (ci := 1) (v := .int 0) (C := RX1) (T := TX1) (N := 5) hx hb hU in_X1 hown hK.1 hP 6 rfl rfl 2 (by decide) (hU _ u_542) (fun x9 h9 => u_same (hU _ u_543) x9 h9) rfl dX11_claim_71 ?_
  refine kt_callI (wc := [(q_6, .inr (0, [.null, .int 0, .int 0]))]) (wr := [(h0, .inr (10, [.ref r1, .int 0, .int (-1), .ref r2, .ref r4, .ref r6, .int (-2), .ref r7, .ref r9])), (r2, .inr (0, [.ref r3, .int 0, .int 0])), (r6, .inl (cy 5, 7, .inr (.inr (.inr (.inr (fun _ => none)))))), (x_3, .inl (cy 4, 56, .inr (.inr (.inr (.inr (fun _ => none)))))), (x_4, .inr (4, [.int 0, .int 0, .int (-1), .ref x_5])), (x_5, .inl (cy 1, 6, .inl (fun _ => 0))), (q_1, .inr (1, [.ref q_2, .ref x_3, .int 0, .int (-1), .ref x_4]))]) (As := [.ref x_3, .int 0, .int 0]) (rest := [.ref q_6, .ref h0]) (c_X0_init l G cy q_6 x_3 0 0) m_X0_init u_163 hx hb hml hown hU hl.1 hK hP hD hS hA dX11_claim_74 [7] [0, 1, 2, 3, 4, 5, 6] rfl rfl rfl rfl rfl rfl (Nat.le_of_ble_eq_true rfl) (fun v9 w9 H locs hw hP hD hS => ?_)
  obtain ⟨rfl, rfl⟩ := hw
  have hP : va_P G vwCl [(h0, .inr (10, [.ref r1, .int 0, .int (-1), .ref r2, .ref r4, .ref r6, .int (-2), .ref r7, .ref r9])), (r2, .inr (0, [.ref r3, .int 0, .int 0])), (r6, .inl (cy 5, 7, .inr (.inr (.inr (.inr (fun _ => none)))))), (x_3, .inl (cy 4, 56, .inr (.inr (.inr (.inr (fun _ => none)))))), (x_4, .inr (4, [.int 0, .int 0, .int (-1), .ref x_5])), (x_5, .inl (cy 1, 6, .inl (fun _ => 0))), (q_1, .inr (1, [.ref q_2, .ref x_3, .int 0, .int (-1), .ref x_4])), (q_6, .inr (0, [.ref x_3, .int 0, .int 0]))] H := hP
  have hD : va_D A [(h0, .inr (10, [.ref r1, .int 0, .int (-1), .ref r2, .ref r4, .ref r6, .int (-2), .ref r7, .ref r9])), (r2, .inr (0, [.ref r3, .int 0, .int 0])), (r6, .inl (cy 5, 7, .inr (.inr (.inr (.inr (fun _ => none)))))), (x_3, .inl (cy 4, 56, .inr (.inr (.inr (.inr (fun _ => none)))))), (x_4, .inr (4, [.int 0, .int 0, .int (-1), .ref x_5])), (x_5, .inl (cy 1, 6, .inl (fun _ => 0))), (q_1, .inr (1, [.ref q_2, .ref x_3, .int 0, .int (-1), .ref x_4])), (q_6, .inr (0, [.ref x_3, .int 0, .int 0]))] := hD
  refine W.eq (g2 := F0 m 77 ls [.ref q_6, .ref h0]) rfl ?_
  refine W.widen (k := 6) (n := 80) (Nat.le_of_ble_eq_true rfl) (Nat.le_of_ble_eq_true rfl) ?_
  refine va_put (D := G) (ci := 10) (v := .ref q_6) (ty := .object "PlaneProof$Book") (C := RX11) (T := TX11) (N := 9) hx hb hU in_X11 tyX11 tyX11_ok nmX11 hown hK.1 hP hD hS 0 rfl rfl 3 (by decide) (hU _ u_253) (fun _ h9 => h9) rfl (by decide +kernel) rfl rfl (Nat.le_of_ble_eq_true rfl) dX11_claim_77 (fun H locs hP hD hS => ?_)
  have hP : va_P G vwCl [(h0, .inr (10, [.ref r1, .int 0, .int (-1), .ref q_6, .ref r4, .ref r6, .int (-2), .ref r7, .ref r9])), (r2, .inr (0, [.ref r3, .int 0, .int 0])), (r6, .inl (cy 5, 7, .inr (.inr (.inr (.inr (fun _ => none)))))), (x_3, .inl (cy 4, 56, .inr (.inr (.inr (.inr (fun _ => none)))))), (x_4, .inr (4, [.int 0, .int 0, .int (-1), .ref x_5])), (x_5, .inl (cy 1, 6, .inl (fun _ => 0))), (q_1, .inr (1, [.ref q_2, .ref x_3, .int 0, .int (-1), .ref x_4])), (q_6, .inr (0, [.ref x_3, .int 0, .int 0]))] H := hP
  have hD : va_D A [(h0, .inr (10, [.ref r1, .int 0, .int (-1), .ref q_6, .ref r4, .ref r6, .int (-2), .ref r7, .ref r9])), (r2, .inr (0, [.ref r3, .int 0, .int 0])), (r6, .inl (cy 5, 7, .inr (.inr (.inr (.inr (fun _ => none)))))), (x_3, .inl (cy 4, 56, .inr (.inr (.inr (.inr (fun _ => none)))))), (x_4, .inr (4, [.int 0, .int 0, .int (-1), .ref x_5])), (x_5, .inl (cy 1, 6, .inl (fun _ => 0))), (q_1, .inr (1, [.ref q_2, .ref x_3, .int 0, .int (-1), .ref x_4])), (q_6, .inr (0, [.ref x_3, .int 0, .int 0]))] := hD
  refine lv_aload_n hx hb dX11_claim_80 rfl (lv_at hl 2 rfl) ?_
  refine lv_aload_n hx hb dX11_claim_81 rfl (lv_at hl 1 rfl) ?_
  refine va_get (D := G) (ci := 1) (v := .ref x_4) (C := RX1) (T := TX1) (N := 5) hx hb hU in_X1 hown hK.1 hP 6 rfl rfl 4 (by decide) (hU _ u_527) (fun _ h9 => h9) rfl dX11_claim_82 ?_
  refine va_put (D := G) (ci := 10) (v := .ref x_4) (ty := .object "PlaneProof$Graph") (C := RX11) (T := TX11) (N := 9) hx hb hU in_X11 tyX11 tyX11_ok nmX11 hown hK.1 hP hD hS 0 rfl rfl 4 (by decide) (hU _ u_254) (fun _ h9 => h9) rfl (by decide +kernel) rfl rfl (Nat.le_of_ble_eq_true rfl) dX11_claim_85 (fun H locs hP hD hS => ?_)
  have hP : va_P G vwCl [(h0, .inr (10, [.ref r1, .int 0, .int (-1), .ref q_6, .ref x_4, .ref r6, .int (-2), .ref r7, .ref r9])), (r2, .inr (0, [.ref r3, .int 0, .int 0])), (r6, .inl (cy 5, 7, .inr (.inr (.inr (.inr (fun _ => none)))))), (x_3, .inl (cy 4, 56, .inr (.inr (.inr (.inr (fun _ => none)))))), (x_4, .inr (4, [.int 0, .int 0, .int (-1), .ref x_5])), (x_5, .inl (cy 1, 6, .inl (fun _ => 0))), (q_1, .inr (1, [.ref q_2, .ref x_3, .int 0, .int (-1), .ref x_4])), (q_6, .inr (0, [.ref x_3, .int 0, .int 0]))] H := hP
  have hD : va_D A [(h0, .inr (10, [.ref r1, .int 0, .int (-1), .ref q_6, .ref x_4, .ref r6, .int (-2), .ref r7, .ref r9])), (r2, .inr (0, [.ref r3, .int 0, .int 0])), (r6, .inl (cy 5, 7, .inr (.inr (.inr (.inr (fun _ => none)))))), (x_3, .inl (cy 4, 56, .inr (.inr (.inr (.inr (fun _ => none)))))), (x_4, .inr (4, [.int 0, .int 0, .int (-1), .ref x_5])), (x_5, .inl (cy 1, 6, .inl (fun _ => 0))), (q_1, .inr (1, [.ref q_2, .ref x_3, .int 0, .int (-1), .ref x_4])), (q_6, .inr (0, [.ref x_3, .int 0, .int 0]))] := hD
  refine lv_aload_n hx hb dX11_claim_88 rfl (lv_at hl 2 rfl) ?_
  refine kt_callV (wc := [(h0, .inr (10, [.ref r1, .int 0, .int (-1), .ref q_6, .ref x_4, .ref r6, .int (-2), .ref r7, .ref r9])), (r6, .inl (cy 5, 7, .inr (.inr (.inr (.inr (fun _ => none))))))]) (wr := [(r2, .inr (0, [.ref r3, .int 0, .int 0])), (x_3, .inl (cy 4, 56, .inr (.inr (.inr (.inr (fun _ => none)))))), (x_4, .inr (4, [.int 0, .int 0, .int (-1), .ref x_5])), (x_5, .inl (cy 1, 6, .inl (fun _ => 0))), (q_1, .inr (1, [.ref q_2, .ref x_3, .int 0, .int (-1), .ref x_4])), (q_6, .inr (0, [.ref x_3, .int 0, .int 0]))]) (As := []) (rest := []) (c_X11_forgetAnswers l G cy h0 r1 q_6 x_4 r6 r7 r9) m_X11_forgetAnswers u_1045 hx hb hml hown hU hl.1 hK hP hD hS hA dX11_claim_89 [0, 2] [1, 3, 4, 5, 6, 7] rfl rfl rfl rfl rfl rfl (Nat.le_of_ble_eq_true rfl) (ci := 10) rfl rfl rfl (fun v9 w9 H locs hw hP hD hS => ?_)
  obtain ⟨rfl, rfl⟩ := hw
  have hP : va_P G vwCl [(r2, .inr (0, [.ref r3, .int 0, .int 0])), (x_3, .inl (cy 4, 56, .inr (.inr (.inr (.inr (fun _ => none)))))), (x_4, .inr (4, [.int 0, .int 0, .int (-1), .ref x_5])), (x_5, .inl (cy 1, 6, .inl (fun _ => 0))), (q_1, .inr (1, [.ref q_2, .ref x_3, .int 0, .int (-1), .ref x_4])), (q_6, .inr (0, [.ref x_3, .int 0, .int 0])), (h0, .inr (10, [.ref r1, .int 0, .int (-1), .ref q_6, .ref x_4, .ref r6, .int (-2), .ref r7, .ref r9])), (r6, .inl (cy 5, 7, .inr (.inr (.inr (.inr (fun _ => none))))))] H := hP
  have hD : va_D A [(r2, .inr (0, [.ref r3, .int 0, .int 0])), (x_3, .inl (cy 4, 56, .inr (.inr (.inr (.inr (fun _ => none)))))), (x_4, .inr (4, [.int 0, .int 0, .int (-1), .ref x_5])), (x_5, .inl (cy 1, 6, .inl (fun _ => 0))), (q_1, .inr (1, [.ref q_2, .ref x_3, .int 0, .int (-1), .ref x_4])), (q_6, .inr (0, [.ref x_3, .int 0, .int 0])), (h0, .inr (10, [.ref r1, .int 0, .int (-1), .ref q_6, .ref x_4, .ref r6, .int (-2), .ref r7, .ref r9])), (r6, .inl (cy 5, 7, .inr (.inr (.inr (.inr (fun _ => none))))))] := hD
  refine W.eq (g2 := F0 m 92 ls []) rfl ?_
  refine W.widen (k := 6) (n := 80) (Nat.le_of_ble_eq_true rfl) (Nat.le_of_ble_eq_true rfl) ?_
  refine lv_aload_n hx hb dX11_claim_92 rfl (lv_at hl 2 rfl) ?_
  refine va_get (D := G) (ci := 10) (v := .ref q_6) (C := RX11) (T := TX11) (N := 9) hx hb hU in_X11 hown hK.1 hP 6 rfl rfl 3 (by decide) (hU _ u_253) (fun _ h9 => h9) rfl dX11_claim_93 ?_
  refine va_get (D := G) (ci := 0) (v := .int 0) (C := RX0) (T := TX0) (N := 3) hx hb hU in_X0 hown hK.1 hP 5 rfl rfl 1 (by decide) (hU _ u_178) (fun _ h9 => h9) rfl dX11_claim_96 ?_
  exact kt_iret hx hb hr hlocks hP hD hS dX11_claim_99 [] rfl rfl rfl rfl ⟨rfl, rfl⟩
set_option maxHeartbeats 4000000 in
set_option maxRecDepth 100000 in
theorem c_X11_proof (l : Launch) (G : va_G) (cy : Nat → ClassId) (h0 : Nat) (r1 : Nat) (r2 : Nat) (r4 : Nat) (r6 : Nat) (r7 : Nat) (r9 : Nat) (r3 : Nat) : Kt l G cy yX11_proof cX11_proof 3 (some .int) ({ frames := 16, cells := 4, slots := 69, locals := 500 } : Room) [.ref h0] [(h0, .inr (10, [.ref r1, .int 0, .int (-1), .ref r2, .ref r4, .ref r6, .int (-2), .ref r7, .ref r9])), (r2, .inr (0, [.ref r3, .int 0, .int 0]))] (fun (v : Option Value) (w1 : va_W) => v = some (.int 0) ∧ w1 = []) := by
  refine kt_ofW (by decide) (Nat.le_of_ble_eq_true rfl) ?_
  intro p e s m below meth c A ls hx hb hr hU hown hlocks hml hin hP hK hD hA hS hl
  have hown : s.vm.findClass RX11 = some m.cls := hown
  have hl : lv_has ls 3 [(0, .ref h0)] := hl
  refine va_new (ci := 6) (fs := [.null, .null, .int 0, .int 0]) (C := RX6) (T := TX6) (N := 4) hx hb hU in_X6 tyX6 tyX6_ok hown (hU _ u_1056) (hU _ u_846) (hU _ u_137) hK.1 hP hD hS hA rfl df_X6 (Nat.le_of_ble_eq_true rfl) (Nat.le_of_ble_eq_true rfl) dX11_proof_0 (fun q_1 H hP hD hS => ?_)
  have hP : va_P G vwCl [(h0, .inr (10, [.ref r1, .int 0, .int (-1), .ref r2, .ref r4, .ref r6, .int (-2), .ref r7, .ref r9])), (r2, .inr (0, [.ref r3, .int 0, .int 0])), (q_1, .inr (6, [.null, .null, .int 0, .int 0]))] H := hP
  have hD : va_D A [(h0, .inr (10, [.ref r1, .int 0, .int (-1), .ref r2, .ref r4, .ref r6, .int (-2), .ref r7, .ref r9])), (r2, .inr (0, [.ref r3, .int 0, .int 0])), (q_1, .inr (6, [.null, .null, .int 0, .int 0]))] := hD
  refine W.widen (k := 1) (n := 4) (Nat.le_of_ble_eq_true rfl) (Nat.le_of_ble_eq_true rfl) ?_
  refine lv_dup hx hb dX11_proof_3 rfl ?_
  refine va_new (ci := 8) (fs := [.null, .int 0, .int 0, .int 0, .int 0, .int 0]) (C := RX8) (T := TX8) (N := 6) hx hb hU in_X8 tyX8 tyX8_ok hown (hU _ u_488) (hU _ u_489) (hU _ u_131) hK.1 hP hD hS hA rfl df_X8 (Nat.le_of_ble_eq_true rfl) (Nat.le_of_ble_eq_true rfl) dX11_proof_4 (fun q_2 H hP hD hS => ?_)
  have hP : va_P G vwCl [(h0, .inr (10, [.ref r1, .int 0, .int (-1), .ref r2, .ref r4, .ref r6, .int (-2), .ref r7, .ref r9])), (r2, .inr (0, [.ref r3, .int 0, .int 0])), (q_1, .inr (6, [.null, .null, .int 0, .int 0])), (q_2, .inr (8, [.null, .int 0, .int 0, .int 0, .int 0, .int 0]))] H := hP
  have hD : va_D A [(h0, .inr (10, [.ref r1, .int 0, .int (-1), .ref r2, .ref r4, .ref r6, .int (-2), .ref r7, .ref r9])), (r2, .inr (0, [.ref r3, .int 0, .int 0])), (q_1, .inr (6, [.null, .null, .int 0, .int 0])), (q_2, .inr (8, [.null, .int 0, .int 0, .int 0, .int 0, .int 0]))] := hD
  refine W.widen (k := 2) (n := 10) (Nat.le_of_ble_eq_true rfl) (Nat.le_of_ble_eq_true rfl) ?_
  refine lv_dup hx hb dX11_proof_7 rfl ?_
  refine lv_aload_n hx hb dX11_proof_8 rfl (lv_at hl 0 rfl) ?_
  refine va_get (D := G) (ci := 10) (v := .ref r1) (C := RX11) (T := TX11) (N := 9) hx hb hU in_X11 hown hK.1 hP 0 rfl rfl 0 (by decide) (hU _ u_250) (fun _ h9 => h9) rfl dX11_proof_9 ?_
  refine lv_aload_n hx hb dX11_proof_12 rfl (lv_at hl 0 rfl) ?_
  refine va_get (D := G) (ci := 10) (v := .int 0) (C := RX11) (T := TX11) (N := 9) hx hb hU in_X11 hown hK.1 hP 0 rfl rfl 1 (by decide) (hU _ u_251) (fun _ h9 => h9) rfl dX11_proof_13 ?_
  refine kt_callI (wc := [(q_2, .inr (8, [.null, .int 0, .int 0, .int 0, .int 0, .int 0]))]) (wr := [(h0, .inr (10, [.ref r1, .int 0, .int (-1), .ref r2, .ref r4, .ref r6, .int (-2), .ref r7, .ref r9])), (r2, .inr (0, [.ref r3, .int 0, .int 0])), (q_1, .inr (6, [.null, .null, .int 0, .int 0]))]) (As := [.ref r1, .int 0]) (rest := [.ref q_2, .ref q_1, .ref q_1]) (c_X8_init l G cy q_2 r1) m_X8_init u_490 hx hb hml hown hU hl.1 hK hP hD hS hA dX11_proof_16 [3] [0, 1, 2] rfl rfl rfl rfl rfl rfl (Nat.le_of_ble_eq_true rfl) (fun v9 w9 H locs hw hP hD hS => ?_)
  obtain ⟨rfl, rfl⟩ := hw
  have hP : va_P G vwCl [(h0, .inr (10, [.ref r1, .int 0, .int (-1), .ref r2, .ref r4, .ref r6, .int (-2), .ref r7, .ref r9])), (r2, .inr (0, [.ref r3, .int 0, .int 0])), (q_1, .inr (6, [.null, .null, .int 0, .int 0])), (q_2, .inr (8, [.ref r1, .int 0, .int 0, .int 0, .int 0, .int (-1)]))] H := hP
  have hD : va_D A [(h0, .inr (10, [.ref r1, .int 0, .int (-1), .ref r2, .ref r4, .ref r6, .int (-2), .ref r7, .ref r9])), (r2, .inr (0, [.ref r3, .int 0, .int 0])), (q_1, .inr (6, [.null, .null, .int 0, .int 0])), (q_2, .inr (8, [.ref r1, .int 0, .int 0, .int 0, .int 0, .int (-1)]))] := hD
  refine W.eq (g2 := F0 m 19 ls [.ref q_2, .ref q_1, .ref q_1]) rfl ?_
  refine W.widen (k := 2) (n := 10) (Nat.le_of_ble_eq_true rfl) (Nat.le_of_ble_eq_true rfl) ?_
  refine lv_aload_n hx hb dX11_proof_19 rfl (lv_at hl 0 rfl) ?_
  refine va_get (D := G) (ci := 10) (v := .ref r2) (C := RX11) (T := TX11) (N := 9) hx hb hU in_X11 hown hK.1 hP 0 rfl rfl 3 (by decide) (hU _ u_253) (fun _ h9 => h9) rfl dX11_proof_20 ?_
  refine kt_callI (wc := [(q_1, .inr (6, [.null, .null, .int 0, .int 0])), (r2, .inr (0, [.ref r3, .int 0, .int 0]))]) (wr := [(h0, .inr (10, [.ref r1, .int 0, .int (-1), .ref r2, .ref r4, .ref r6, .int (-2), .ref r7, .ref r9])), (q_2, .inr (8, [.ref r1, .int 0, .int 0, .int 0, .int 0, .int (-1)]))]) (As := [.ref q_2, .ref r2]) (rest := [.ref q_1]) (c_X6_init l G cy q_1 q_2 r2 r3) m_X6_init u_1057 hx hb hml hown hU hl.1 hK hP hD hS hA dX11_proof_23 [2, 1] [0, 3] rfl rfl rfl rfl rfl rfl (Nat.le_of_ble_eq_true rfl) (fun v9 w9 H locs hw hP hD hS => ?_)
  obtain ⟨x_3, rfl, rfl⟩ := hw
  have hP : va_P G vwCl [(h0, .inr (10, [.ref r1, .int 0, .int (-1), .ref r2, .ref r4, .ref r6, .int (-2), .ref r7, .ref r9])), (q_2, .inr (8, [.ref r1, .int 0, .int 0, .int 0, .int 0, .int (-1)])), (q_1, .inr (6, [.ref q_2, .ref x_3, .int 0, .int (-1)])), (x_3, .inl (cy 4, 56, .inr (.inr (.inr (.inr (fun _ => none)))))), (r2, .inr (0, [.ref r3, .int 0, .int 0]))] H := hP
  have hD : va_D A [(h0, .inr (10, [.ref r1, .int 0, .int (-1), .ref r2, .ref r4, .ref r6, .int (-2), .ref r7, .ref r9])), (q_2, .inr (8, [.ref r1, .int 0, .int 0, .int 0, .int 0, .int (-1)])), (q_1, .inr (6, [.ref q_2, .ref x_3, .int 0, .int (-1)])), (x_3, .inl (cy 4, 56, .inr (.inr (.inr (.inr (fun _ => none)))))), (r2, .inr (0, [.ref r3, .int 0, .int 0]))] := hD
  refine W.eq (g2 := F0 m 26 ls [.ref q_1]) rfl ?_
  refine W.widen (k := 3) (n := 66) (Nat.le_of_ble_eq_true rfl) (Nat.le_of_ble_eq_true rfl) ?_
  refine lv_astore_n (lv' := [(1, .ref q_1), (0, .ref h0)]) hx hb dX11_proof_26 rfl hl (by decide) rfl (fun ls hl => ?_)
  refine lv_aload_n hx hb dX11_proof_27 rfl (lv_at hl 1 rfl) ?_
  refine lv_iconst (v := 0) hx hb dX11_proof_28 (by decide) ?_
  refine va_put (D := G) (ci := 10) (v := .int 0) (ty := .int) (C := RX11) (T := TX11) (N := 9) hx hb hU in_X11 tyX11 tyX11_ok nmX11 hown hK.1 hP hD hS 0 rfl rfl 1 (by decide) (hU _ u_251) (fun _ h9 => h9) rfl (by decide +kernel) rfl rfl (Nat.le_of_ble_eq_true rfl) dX11_proof_29 (fun H locs hP hD hS => ?_)
  have hP : va_P G vwCl [(h0, .inr (10, [.ref r1, .int 0, .int (-1), .ref r2, .ref r4, .ref r6, .int (-2), .ref r7, .ref r9])), (q_2, .inr (8, [.ref r1, .int 0, .int 0, .int 0, .int 0, .int (-1)])), (q_1, .inr (6, [.ref q_2, .ref x_3, .int 0, .int (-1)])), (x_3, .inl (cy 4, 56, .inr (.inr (.inr (.inr (fun _ => none)))))), (r2, .inr (0, [.ref r3, .int 0, .int 0]))] H := hP
  have hD : va_D A [(h0, .inr (10, [.ref r1, .int 0, .int (-1), .ref r2, .ref r4, .ref r6, .int (-2), .ref r7, .ref r9])), (q_2, .inr (8, [.ref r1, .int 0, .int 0, .int 0, .int 0, .int (-1)])), (q_1, .inr (6, [.ref q_2, .ref x_3, .int 0, .int (-1)])), (x_3, .inl (cy 4, 56, .inr (.inr (.inr (.inr (fun _ => none)))))), (r2, .inr (0, [.ref r3, .int 0, .int 0]))] := hD
  refine lv_aload_n hx hb dX11_proof_32 rfl (lv_at hl 0 rfl) ?_
  refine lv_bipush (v := 40) hx hb dX11_proof_33 (by decide) ?_
  refine kt_callU (wc := [(q_1, .inr (6, [.ref q_2, .ref x_3, .int 0, .int (-1)])), (q_2, .inr (8, [.ref r1, .int 0, .int 0, .int 0, .int 0, .int (-1)]))]) (wr := [(h0, .inr (10, [.ref r1, .int 0, .int (-1), .ref r2, .ref r4, .ref r6, .int (-2), .ref r7, .ref r9])), (x_3, .inl (cy 4, 56, .inr (.inr (.inr (.inr (fun _ => none)))))), (r2, .inr (0, [.ref r3, .int 0, .int 0]))]) (As := [.int 40]) (rest := []) (c_X9_readText_6 l G cy q_1 q_2 x_3 r1 40 (by decide)) mu_X9_readText_RX6 u_1066 hx hb hml hown hU hl.1 hK hP hD hS hA dX11_proof_35 [2, 1] [0, 3, 4] rfl rfl rfl rfl rfl rfl (Nat.le_of_ble_eq_true rfl) (ci := 6) rfl rfl rfl (fun v9 w9 H locs hw hP hD hS => ?_)
  obtain ⟨rfl, rfl⟩ := hw
  have hP : va_P G vwCl [(h0, .inr (10, [.ref r1, .int 0, .int (-1), .ref r2, .ref r4, .ref r6, .int (-2), .ref r7, .ref r9])), (x_3, .inl (cy 4, 56, .inr (.inr (.inr (.inr (fun _ => none)))))), (r2, .inr (0, [.ref r3, .int 0, .int 0])), (q_1, .inr (6, [.ref q_2, .ref x_3, .int 0, .int (-1)]))] H := hP
  have hD : va_D A [(h0, .inr (10, [.ref r1, .int 0, .int (-1), .ref r2, .ref r4, .ref r6, .int (-2), .ref r7, .ref r9])), (x_3, .inl (cy 4, 56, .inr (.inr (.inr (.inr (fun _ => none)))))), (r2, .inr (0, [.ref r3, .int 0, .int 0])), (q_1, .inr (6, [.ref q_2, .ref x_3, .int 0, .int (-1)]))] := hD
  refine W.eq (g2 := F0 m 38 ls [.int 1]) rfl ?_
  refine W.widen (k := 3) (n := 66) (Nat.le_of_ble_eq_true rfl) (Nat.le_of_ble_eq_true rfl) ?_
  refine lv_istore_n (lv' := [(2, .int 1), (1, .ref q_1), (0, .ref h0)]) hx hb dX11_proof_38 rfl hl (by decide) rfl (fun ls hl => ?_)
  refine lv_aload_n hx hb dX11_proof_39 rfl (lv_at hl 2 rfl) ?_
  refine lv_aload_n hx hb dX11_proof_40 rfl (lv_at hl 1 rfl) ?_
  refine va_get (D := G) (ci := 6) (v := .int (-1)) (C := RX6) (T := TX6) (N := 4) hx hb hU in_X6 hown hK.1 hP 3 rfl rfl 3 (by decide) (hU _ u_548) (fun x9 h9 => u_same (hU _ u_549) x9 h9) rfl dX11_proof_41 ?_
  refine va_put (D := G) (ci := 10) (v := .int (-1)) (ty := .int) (C := RX11) (T := TX11) (N := 9) hx hb hU in_X11 tyX11 tyX11_ok nmX11 hown hK.1 hP hD hS 0 rfl rfl 2 (by decide) (hU _ u_252) (fun _ h9 => h9) rfl (by decide +kernel) rfl rfl (Nat.le_of_ble_eq_true rfl) dX11_proof_44 (fun H locs hP hD hS => ?_)
  have hP : va_P G vwCl [(h0, .inr (10, [.ref r1, .int 0, .int (-1), .ref r2, .ref r4, .ref r6, .int (-2), .ref r7, .ref r9])), (x_3, .inl (cy 4, 56, .inr (.inr (.inr (.inr (fun _ => none)))))), (r2, .inr (0, [.ref r3, .int 0, .int 0])), (q_1, .inr (6, [.ref q_2, .ref x_3, .int 0, .int (-1)]))] H := hP
  have hD : va_D A [(h0, .inr (10, [.ref r1, .int 0, .int (-1), .ref r2, .ref r4, .ref r6, .int (-2), .ref r7, .ref r9])), (x_3, .inl (cy 4, 56, .inr (.inr (.inr (.inr (fun _ => none)))))), (r2, .inr (0, [.ref r3, .int 0, .int 0])), (q_1, .inr (6, [.ref q_2, .ref x_3, .int 0, .int (-1)]))] := hD
  refine lv_iload_n hx hb dX11_proof_47 rfl (lv_at hl 0 rfl) ?_
  refine lv_if_ne (tgt := 61) hx hb dX11_proof_48 (by decide) (fun _ => ?_) (fun c9 => absurd c9 (by decide))
  refine lv_aload_n hx hb dX11_proof_61 rfl (lv_at hl 2 rfl) ?_
  refine va_new (ci := 0) (fs := [.null, .int 0, .int 0]) (C := RX0) (T := TX0) (N := 3) hx hb hU in_X0 tyX0 tyX0_ok hown (hU _ u_159) (hU _ u_160) (hU _ u_124) hK.1 hP hD hS hA rfl df_X0 (Nat.le_of_ble_eq_true rfl) (Nat.le_of_ble_eq_true rfl) dX11_proof_62 (fun q_4 H hP hD hS => ?_)
  have hP : va_P G vwCl [(h0, .inr (10, [.ref r1, .int 0, .int (-1), .ref r2, .ref r4, .ref r6, .int (-2), .ref r7, .ref r9])), (x_3, .inl (cy 4, 56, .inr (.inr (.inr (.inr (fun _ => none)))))), (r2, .inr (0, [.ref r3, .int 0, .int 0])), (q_1, .inr (6, [.ref q_2, .ref x_3, .int 0, .int (-1)])), (q_4, .inr (0, [.null, .int 0, .int 0]))] H := hP
  have hD : va_D A [(h0, .inr (10, [.ref r1, .int 0, .int (-1), .ref r2, .ref r4, .ref r6, .int (-2), .ref r7, .ref r9])), (x_3, .inl (cy 4, 56, .inr (.inr (.inr (.inr (fun _ => none)))))), (r2, .inr (0, [.ref r3, .int 0, .int 0])), (q_1, .inr (6, [.ref q_2, .ref x_3, .int 0, .int (-1)])), (q_4, .inr (0, [.null, .int 0, .int 0]))] := hD
  refine W.widen (k := 4) (n := 69) (Nat.le_of_ble_eq_true rfl) (Nat.le_of_ble_eq_true rfl) ?_
  refine lv_dup hx hb dX11_proof_65 rfl ?_
  refine lv_aload_n hx hb dX11_proof_66 rfl (lv_at hl 1 rfl) ?_
  refine va_get (D := G) (ci := 6) (v := .ref x_3) (C := RX6) (T := TX6) (N := 4) hx hb hU in_X6 hown hK.1 hP 3 rfl rfl 1 (by decide) (hU _ u_538) (fun x9 h9 => u_same (hU _ u_535) x9 h9) rfl dX11_proof_67 ?_
  refine lv_aload_n hx hb dX11_proof_70 rfl (lv_at hl 2 rfl) ?_
  refine va_get (D := G) (ci := 10) (v := .ref r2) (C := RX11) (T := TX11) (N := 9) hx hb hU in_X11 hown hK.1 hP 0 rfl rfl 3 (by decide) (hU _ u_253) (fun _ h9 => h9) rfl dX11_proof_71 ?_
  refine va_get (D := G) (ci := 0) (v := .int 0) (C := RX0) (T := TX0) (N := 3) hx hb hU in_X0 hown hK.1 hP 2 rfl rfl 1 (by decide) (hU _ u_178) (fun _ h9 => h9) rfl dX11_proof_74 ?_
  refine lv_aload_n hx hb dX11_proof_77 rfl (lv_at hl 1 rfl) ?_
  refine va_get (D := G) (ci := 6) (v := .int 0) (C := RX6) (T := TX6) (N := 4) hx hb hU in_X6 hown hK.1 hP 3 rfl rfl 2 (by decide) (hU _ u_544) (fun x9 h9 => u_same (hU _ u_541) x9 h9) rfl dX11_proof_78 ?_
  refine kt_callI (wc := [(q_4, .inr (0, [.null, .int 0, .int 0]))]) (wr := [(h0, .inr (10, [.ref r1, .int 0, .int (-1), .ref r2, .ref r4, .ref r6, .int (-2), .ref r7, .ref r9])), (x_3, .inl (cy 4, 56, .inr (.inr (.inr (.inr (fun _ => none)))))), (r2, .inr (0, [.ref r3, .int 0, .int 0])), (q_1, .inr (6, [.ref q_2, .ref x_3, .int 0, .int (-1)]))]) (As := [.ref x_3, .int 0, .int 0]) (rest := [.ref q_4, .ref h0]) (c_X0_init l G cy q_4 x_3 0 0) m_X0_init u_163 hx hb hml hown hU hl.1 hK hP hD hS hA dX11_proof_81 [4] [0, 1, 2, 3] rfl rfl rfl rfl rfl rfl (Nat.le_of_ble_eq_true rfl) (fun v9 w9 H locs hw hP hD hS => ?_)
  obtain ⟨rfl, rfl⟩ := hw
  have hP : va_P G vwCl [(h0, .inr (10, [.ref r1, .int 0, .int (-1), .ref r2, .ref r4, .ref r6, .int (-2), .ref r7, .ref r9])), (x_3, .inl (cy 4, 56, .inr (.inr (.inr (.inr (fun _ => none)))))), (r2, .inr (0, [.ref r3, .int 0, .int 0])), (q_1, .inr (6, [.ref q_2, .ref x_3, .int 0, .int (-1)])), (q_4, .inr (0, [.ref x_3, .int 0, .int 0]))] H := hP
  have hD : va_D A [(h0, .inr (10, [.ref r1, .int 0, .int (-1), .ref r2, .ref r4, .ref r6, .int (-2), .ref r7, .ref r9])), (x_3, .inl (cy 4, 56, .inr (.inr (.inr (.inr (fun _ => none)))))), (r2, .inr (0, [.ref r3, .int 0, .int 0])), (q_1, .inr (6, [.ref q_2, .ref x_3, .int 0, .int (-1)])), (q_4, .inr (0, [.ref x_3, .int 0, .int 0]))] := hD
  refine W.eq (g2 := F0 m 84 ls [.ref q_4, .ref h0]) rfl ?_
  refine W.widen (k := 4) (n := 69) (Nat.le_of_ble_eq_true rfl) (Nat.le_of_ble_eq_true rfl) ?_
  refine va_put (D := G) (ci := 10) (v := .ref q_4) (ty := .object "PlaneProof$Book") (C := RX11) (T := TX11) (N := 9) hx hb hU in_X11 tyX11 tyX11_ok nmX11 hown hK.1 hP hD hS 0 rfl rfl 3 (by decide) (hU _ u_253) (fun _ h9 => h9) rfl (by decide +kernel) rfl rfl (Nat.le_of_ble_eq_true rfl) dX11_proof_84 (fun H locs hP hD hS => ?_)
  have hP : va_P G vwCl [(h0, .inr (10, [.ref r1, .int 0, .int (-1), .ref q_4, .ref r4, .ref r6, .int (-2), .ref r7, .ref r9])), (x_3, .inl (cy 4, 56, .inr (.inr (.inr (.inr (fun _ => none)))))), (r2, .inr (0, [.ref r3, .int 0, .int 0])), (q_1, .inr (6, [.ref q_2, .ref x_3, .int 0, .int (-1)])), (q_4, .inr (0, [.ref x_3, .int 0, .int 0]))] H := hP
  have hD : va_D A [(h0, .inr (10, [.ref r1, .int 0, .int (-1), .ref q_4, .ref r4, .ref r6, .int (-2), .ref r7, .ref r9])), (x_3, .inl (cy 4, 56, .inr (.inr (.inr (.inr (fun _ => none)))))), (r2, .inr (0, [.ref r3, .int 0, .int 0])), (q_1, .inr (6, [.ref q_2, .ref x_3, .int 0, .int (-1)])), (q_4, .inr (0, [.ref x_3, .int 0, .int 0]))] := hD
  refine lv_aload_n hx hb dX11_proof_87 rfl (lv_at hl 2 rfl) ?_
  refine va_get (D := G) (ci := 10) (v := .ref q_4) (C := RX11) (T := TX11) (N := 9) hx hb hU in_X11 hown hK.1 hP 0 rfl rfl 3 (by decide) (hU _ u_253) (fun _ h9 => h9) rfl dX11_proof_88 ?_
  refine va_get (D := G) (ci := 0) (v := .int 0) (C := RX0) (T := TX0) (N := 3) hx hb hU in_X0 hown hK.1 hP 4 rfl rfl 2 (by decide) (hU _ u_181) (fun _ h9 => h9) rfl dX11_proof_91 ?_
  refine lv_aload_n hx hb dX11_proof_94 rfl (lv_at hl 2 rfl) ?_
  refine va_get (D := G) (ci := 10) (v := .ref q_4) (C := RX11) (T := TX11) (N := 9) hx hb hU in_X11 hown hK.1 hP 0 rfl rfl 3 (by decide) (hU _ u_253) (fun _ h9 => h9) rfl dX11_proof_95 ?_
  refine va_get (D := G) (ci := 0) (v := .int 0) (C := RX0) (T := TX0) (N := 3) hx hb hU in_X0 hown hK.1 hP 4 rfl rfl 1 (by decide) (hU _ u_178) (fun _ h9 => h9) rfl dX11_proof_98 ?_
  refine lv_isub hx hb dX11_proof_101 (lx_top (y := 0) (by decide +kernel) ?_)
  exact kt_iret hx hb hr hlocks hP hD hS dX11_proof_102 [] rfl rfl rfl rfl ⟨rfl, rfl⟩
end
section
theorem i_vc : Claimed_1_1 ∧ Claimed_1_2 := sorry
end
