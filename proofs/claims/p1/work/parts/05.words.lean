theorem u_124 : Cond.initialized RX0 ∈ UU := uu_mem 124 (by decide +kernel) (by decide +kernel)
theorem u_125 : Cond.initialized RX4 ∈ UU := uu_mem 125 (by decide +kernel) (by decide +kernel)
theorem u_126 : Cond.initialized RX7 ∈ UU := uu_mem 126 (by decide +kernel) (by decide +kernel)
theorem u_127 : Cond.initialized RX3 ∈ UU := uu_mem 127 (by decide +kernel) (by decide +kernel)
theorem u_155 : Cond.code yX11_init cX11_init 1 none ∈ UU := uu_mem 155 (by decide +kernel) (by decide +kernel)
theorem u_156 : Cond.methodLink RX11 1 Lib.objectInit ∈ UU := uu_mem 156 (by decide +kernel) (by decide +kernel)
theorem u_157 : Cond.instanceMethod Lib.objectInit ∈ UU := uu_mem 157 (by decide +kernel) (by decide +kernel)
theorem u_158 : Cond.code Lib.objectInit ⟨#[0xb1]⟩ 1 none ∈ UU := uu_mem 158 (by decide +kernel) (by decide +kernel)
theorem u_159 : Cond.classLink RX11 20 RX0 ∈ UU := uu_mem 159 (by decide +kernel) (by decide +kernel)
theorem u_160 : Cond.instantiable RX0 3 ∈ UU := uu_mem 160 (by decide +kernel) (by decide +kernel)
theorem u_161 : Cond.classLink RX11 22 RX5 ∈ UU := uu_mem 161 (by decide +kernel) (by decide +kernel)
theorem u_163 : Cond.methodLink RX11 24 yX0_init ∈ UU := uu_mem 163 (by decide +kernel) (by decide +kernel)
theorem u_164 : Cond.instanceMethod yX0_init ∈ UU := uu_mem 164 (by decide +kernel) (by decide +kernel)
theorem u_165 : Cond.code yX0_init cX0_init 4 none ∈ UU := uu_mem 165 (by decide +kernel) (by decide +kernel)
theorem u_166 : Cond.methodLink RX0 3 Lib.objectInit ∈ UU := uu_mem 166 (by decide +kernel) (by decide +kernel)
theorem u_167 : Cond.fieldLink RX0 9 "PlaneProof$Book" "lines" "[LPlaneProof$Line;" ∈ UU := uu_mem 167 (by decide +kernel) (by decide +kernel)
theorem u_174 : Cond.fieldLink RX0 15 "PlaneProof$Book" "axioms" "I" ∈ UU := uu_mem 174 (by decide +kernel) (by decide +kernel)
theorem u_179 : Cond.fieldLink RX0 19 "PlaneProof$Book" "size" "I" ∈ UU := uu_mem 179 (by decide +kernel) (by decide +kernel)
theorem u_189 : Cond.arrayClass .byte ∈ UU := uu_mem 189 (by decide +kernel) (by decide +kernel)
theorem u_190 : Cond.classLink RX11 31 RX4 ∈ UU := uu_mem 190 (by decide +kernel) (by decide +kernel)
theorem u_191 : Cond.instantiable RX4 4 ∈ UU := uu_mem 191 (by decide +kernel) (by decide +kernel)
theorem u_192 : Cond.methodLink RX11 33 yX4_init ∈ UU := uu_mem 192 (by decide +kernel) (by decide +kernel)
theorem u_193 : Cond.instanceMethod yX4_init ∈ UU := uu_mem 193 (by decide +kernel) (by decide +kernel)
theorem u_194 : Cond.code yX4_init cX4_init 1 none ∈ UU := uu_mem 194 (by decide +kernel) (by decide +kernel)
theorem u_195 : Cond.methodLink RX4 3 Lib.objectInit ∈ UU := uu_mem 195 (by decide +kernel) (by decide +kernel)
theorem u_200 : Cond.fieldLink RX4 9 "PlaneProof$Graph" "sink" "I" ∈ UU := uu_mem 200 (by decide +kernel) (by decide +kernel)
theorem u_203 : Cond.fieldLink RX4 15 "PlaneProof$Graph" "behind" "[I" ∈ UU := uu_mem 203 (by decide +kernel) (by decide +kernel)
theorem u_214 : Cond.arrayClass .int ∈ UU := uu_mem 214 (by decide +kernel) (by decide +kernel)
theorem u_215 : Cond.classLink RX11 38 RX2 ∈ UU := uu_mem 215 (by decide +kernel) (by decide +kernel)
theorem u_217 : Cond.classLink RX11 47 RX7 ∈ UU := uu_mem 217 (by decide +kernel) (by decide +kernel)
theorem u_218 : Cond.instantiable RX7 3 ∈ UU := uu_mem 218 (by decide +kernel) (by decide +kernel)
theorem u_219 : Cond.methodLink RX11 49 yX7_init ∈ UU := uu_mem 219 (by decide +kernel) (by decide +kernel)
theorem u_220 : Cond.instanceMethod yX7_init ∈ UU := uu_mem 220 (by decide +kernel) (by decide +kernel)
theorem u_221 : Cond.code yX7_init cX7_init 1 none ∈ UU := uu_mem 221 (by decide +kernel) (by decide +kernel)
theorem u_222 : Cond.methodLink RX7 3 Lib.objectInit ∈ UU := uu_mem 222 (by decide +kernel) (by decide +kernel)
theorem u_223 : Cond.fieldLink RX7 9 "PlaneProof$Scribe" "text" "[B" ∈ UU := uu_mem 223 (by decide +kernel) (by decide +kernel)
theorem u_234 : Cond.classLink RX11 54 RX3 ∈ UU := uu_mem 234 (by decide +kernel) (by decide +kernel)
theorem u_235 : Cond.instantiable RX3 3 ∈ UU := uu_mem 235 (by decide +kernel) (by decide +kernel)
theorem u_236 : Cond.methodLink RX11 56 yX3_init ∈ UU := uu_mem 236 (by decide +kernel) (by decide +kernel)
theorem u_237 : Cond.instanceMethod yX3_init ∈ UU := uu_mem 237 (by decide +kernel) (by decide +kernel)
theorem u_238 : Cond.code yX3_init cX3_init 2 none ∈ UU := uu_mem 238 (by decide +kernel) (by decide +kernel)
theorem u_239 : Cond.methodLink RX3 3 Lib.objectInit ∈ UU := uu_mem 239 (by decide +kernel) (by decide +kernel)
theorem u_240 : Cond.fieldLink RX3 9 "PlaneProof$Composer" "scribe" "LPlaneProof$Scribe;" ∈ UU := uu_mem 240 (by decide +kernel) (by decide +kernel)
theorem u_241 : Cond.fieldLink RX3 15 "PlaneProof$Composer" "placed" "[I" ∈ UU := uu_mem 241 (by decide +kernel) (by decide +kernel)
theorem u_250 : Cond.fieldLink RX11 9 "PlaneProof" "tape" "[B" ∈ UU := uu_mem 250 (by decide +kernel) (by decide +kernel)
theorem u_251 : Cond.fieldLink RX11 13 "PlaneProof" "tapeSize" "I" ∈ UU := uu_mem 251 (by decide +kernel) (by decide +kernel)
theorem u_252 : Cond.fieldLink RX11 17 "PlaneProof" "latestFault" "I" ∈ UU := uu_mem 252 (by decide +kernel) (by decide +kernel)
theorem u_253 : Cond.fieldLink RX11 27 "PlaneProof" "book" "LPlaneProof$Book;" ∈ UU := uu_mem 253 (by decide +kernel) (by decide +kernel)
theorem u_254 : Cond.fieldLink RX11 34 "PlaneProof" "graph" "LPlaneProof$Graph;" ∈ UU := uu_mem 254 (by decide +kernel) (by decide +kernel)
theorem u_255 : Cond.fieldLink RX11 40 "PlaneProof" "closures" "[LPlaneProof$Closure;" ∈ UU := uu_mem 255 (by decide +kernel) (by decide +kernel)
theorem u_256 : Cond.fieldLink RX11 44 "PlaneProof" "coreBits" "I" ∈ UU := uu_mem 256 (by decide +kernel) (by decide +kernel)
theorem u_257 : Cond.fieldLink RX11 50 "PlaneProof" "scribe" "LPlaneProof$Scribe;" ∈ UU := uu_mem 257 (by decide +kernel) (by decide +kernel)
theorem u_258 : Cond.fieldLink RX11 59 "PlaneProof" "composer" "LPlaneProof$Composer;" ∈ UU := uu_mem 258 (by decide +kernel) (by decide +kernel)
theorem in_X0 : ∀ w ∈ u_ws RX0 TX0 3, w ∈ UU := uu_sub (by decide +kernel) (by decide +kernel)
theorem in_X1 : ∀ w ∈ u_ws RX1 TX1 5, w ∈ UU := uu_sub (by decide +kernel) (by decide +kernel)
theorem in_X2 : ∀ w ∈ u_ws RX2 TX2 7, w ∈ UU := uu_sub (by decide +kernel) (by decide +kernel)
theorem in_X3 : ∀ w ∈ u_ws RX3 TX3 3, w ∈ UU := uu_sub (by decide +kernel) (by decide +kernel)
theorem in_X4 : ∀ w ∈ u_ws RX4 TX4 4, w ∈ UU := uu_sub (by decide +kernel) (by decide +kernel)
theorem in_X5 : ∀ w ∈ u_ws RX5 TX5 13, w ∈ UU := uu_sub (by decide +kernel) (by decide +kernel)
theorem in_X6 : ∀ w ∈ u_ws RX6 TX6 4, w ∈ UU := uu_sub (by decide +kernel) (by decide +kernel)
theorem in_X7 : ∀ w ∈ u_ws RX7 TX7 3, w ∈ UU := uu_sub (by decide +kernel) (by decide +kernel)
theorem in_X8 : ∀ w ∈ u_ws RX8 TX8 6, w ∈ UU := uu_sub (by decide +kernel) (by decide +kernel)
theorem in_X10 : ∀ w ∈ u_ws RX10 TX10 3, w ∈ UU := uu_sub (by decide +kernel) (by decide +kernel)
theorem in_X11 : ∀ w ∈ u_ws RX11 TX11 9, w ∈ UU := uu_sub (by decide +kernel) (by decide +kernel)
theorem in_X12 : ∀ w ∈ u_ws RX12 TX12 38, w ∈ UU := uu_sub (by decide +kernel) (by decide +kernel)
theorem df_X0 : ∀ j, j < 3 → defaultValue (tyX0 j) = vp_V [.null, .int 0, .int 0] j := by decide +kernel
theorem df_X3 : ∀ j, j < 3 → defaultValue (tyX3 j) = vp_V [.null, .null, .int 0] j := by decide +kernel
theorem df_X4 : ∀ j, j < 4 → defaultValue (tyX4 j) = vp_V [.int 0, .int 0, .int 0, .null] j := by decide +kernel
theorem df_X7 : ∀ j, j < 3 → defaultValue (tyX7 j) = vp_V [.null, .int 0, .int 0] j := by decide +kernel
theorem m_X0_init : mI yX0_init cX0_init 4 3 := ⟨u_165, u_164, u_124, rfl, ⟨by decide, by decide, by decide +kernel⟩⟩
theorem m_X3_init : mI yX3_init cX3_init 2 1 := ⟨u_238, u_237, u_127, rfl, ⟨by decide, by decide, by decide +kernel⟩⟩
theorem m_X4_init : mI yX4_init cX4_init 1 0 := ⟨u_194, u_193, u_125, rfl, ⟨by decide, by decide, by decide +kernel⟩⟩
theorem m_X7_init : mI yX7_init cX7_init 1 0 := ⟨u_221, u_220, u_126, rfl, ⟨by decide, by decide, by decide +kernel⟩⟩
theorem dX0_init_0 : decode cX0_init 0 = .ok (.aload_n 0, 1) := by decide +kernel
theorem dX0_init_1 : decode cX0_init 1 = .ok (.invokespecial 3, 3) := by decide +kernel
theorem dX0_init_4 : decode cX0_init 4 = .ok (.aload_n 0, 1) := by decide +kernel
theorem dX0_init_5 : decode cX0_init 5 = .ok (.aload_n 1, 1) := by decide +kernel
theorem dX0_init_6 : decode cX0_init 6 = .ok (.putfield 9, 3) := by decide +kernel
theorem dX0_init_9 : decode cX0_init 9 = .ok (.aload_n 0, 1) := by decide +kernel
theorem dX0_init_10 : decode cX0_init 10 = .ok (.iload_n 2, 1) := by decide +kernel
theorem dX0_init_11 : decode cX0_init 11 = .ok (.putfield 15, 3) := by decide +kernel
theorem dX0_init_14 : decode cX0_init 14 = .ok (.aload_n 0, 1) := by decide +kernel
theorem dX0_init_15 : decode cX0_init 15 = .ok (.iload_n 3, 1) := by decide +kernel
theorem dX0_init_16 : decode cX0_init 16 = .ok (.putfield 19, 3) := by decide +kernel
theorem dX0_init_19 : decode cX0_init 19 = .ok (.return_, 1) := by decide +kernel
theorem dX11_init_0 : decode cX11_init 0 = .ok (.aload_n 0, 1) := by decide +kernel
theorem dX11_init_1 : decode cX11_init 1 = .ok (.invokespecial 1, 3) := by decide +kernel
theorem dX11_init_4 : decode cX11_init 4 = .ok (.aload_n 0, 1) := by decide +kernel
theorem dX11_init_5 : decode cX11_init 5 = .ok (.sipush 400, 3) := by decide +kernel
theorem dX11_init_8 : decode cX11_init 8 = .ok (.newarray .byte, 2) := by decide +kernel
theorem dX11_init_10 : decode cX11_init 10 = .ok (.putfield 9, 3) := by decide +kernel
theorem dX11_init_13 : decode cX11_init 13 = .ok (.aload_n 0, 1) := by decide +kernel
theorem dX11_init_14 : decode cX11_init 14 = .ok (.iconst 0, 1) := by decide +kernel
theorem dX11_init_15 : decode cX11_init 15 = .ok (.putfield 13, 3) := by decide +kernel
theorem dX11_init_18 : decode cX11_init 18 = .ok (.aload_n 0, 1) := by decide +kernel
theorem dX11_init_19 : decode cX11_init 19 = .ok (.iconst (-1), 1) := by decide +kernel
theorem dX11_init_20 : decode cX11_init 20 = .ok (.putfield 17, 3) := by decide +kernel
theorem dX11_init_23 : decode cX11_init 23 = .ok (.aload_n 0, 1) := by decide +kernel
theorem dX11_init_24 : decode cX11_init 24 = .ok (.new 20, 3) := by decide +kernel
theorem dX11_init_27 : decode cX11_init 27 = .ok (.dup, 1) := by decide +kernel
theorem dX11_init_28 : decode cX11_init 28 = .ok (.bipush 56, 2) := by decide +kernel
theorem dX11_init_30 : decode cX11_init 30 = .ok (.anewarray 22, 3) := by decide +kernel
theorem dX11_init_33 : decode cX11_init 33 = .ok (.iconst 0, 1) := by decide +kernel
theorem dX11_init_34 : decode cX11_init 34 = .ok (.iconst 0, 1) := by decide +kernel
theorem dX11_init_35 : decode cX11_init 35 = .ok (.invokespecial 24, 3) := by decide +kernel
theorem dX11_init_38 : decode cX11_init 38 = .ok (.putfield 27, 3) := by decide +kernel
theorem dX11_init_41 : decode cX11_init 41 = .ok (.aload_n 0, 1) := by decide +kernel
theorem dX11_init_42 : decode cX11_init 42 = .ok (.new 31, 3) := by decide +kernel
theorem dX11_init_45 : decode cX11_init 45 = .ok (.dup, 1) := by decide +kernel
theorem dX11_init_46 : decode cX11_init 46 = .ok (.invokespecial 33, 3) := by decide +kernel
theorem dX11_init_49 : decode cX11_init 49 = .ok (.putfield 34, 3) := by decide +kernel
theorem dX11_init_52 : decode cX11_init 52 = .ok (.aload_n 0, 1) := by decide +kernel
theorem dX11_init_53 : decode cX11_init 53 = .ok (.bipush 7, 2) := by decide +kernel
theorem dX11_init_55 : decode cX11_init 55 = .ok (.anewarray 38, 3) := by decide +kernel
theorem dX11_init_58 : decode cX11_init 58 = .ok (.putfield 40, 3) := by decide +kernel
theorem dX11_init_61 : decode cX11_init 61 = .ok (.aload_n 0, 1) := by decide +kernel
theorem dX11_init_62 : decode cX11_init 62 = .ok (.bipush (-2), 2) := by decide +kernel
theorem dX11_init_64 : decode cX11_init 64 = .ok (.putfield 44, 3) := by decide +kernel
theorem dX11_init_67 : decode cX11_init 67 = .ok (.aload_n 0, 1) := by decide +kernel
theorem dX11_init_68 : decode cX11_init 68 = .ok (.new 47, 3) := by decide +kernel
theorem dX11_init_71 : decode cX11_init 71 = .ok (.dup, 1) := by decide +kernel
theorem dX11_init_72 : decode cX11_init 72 = .ok (.invokespecial 49, 3) := by decide +kernel
theorem dX11_init_75 : decode cX11_init 75 = .ok (.putfield 50, 3) := by decide +kernel
theorem dX11_init_78 : decode cX11_init 78 = .ok (.aload_n 0, 1) := by decide +kernel
theorem dX11_init_79 : decode cX11_init 79 = .ok (.new 54, 3) := by decide +kernel
theorem dX11_init_82 : decode cX11_init 82 = .ok (.dup, 1) := by decide +kernel
theorem dX11_init_83 : decode cX11_init 83 = .ok (.aload_n 0, 1) := by decide +kernel
theorem dX11_init_84 : decode cX11_init 84 = .ok (.getfield 50, 3) := by decide +kernel
theorem dX11_init_87 : decode cX11_init 87 = .ok (.invokespecial 56, 3) := by decide +kernel
theorem dX11_init_90 : decode cX11_init 90 = .ok (.putfield 59, 3) := by decide +kernel
theorem dX11_init_93 : decode cX11_init 93 = .ok (.return_, 1) := by decide +kernel
theorem dX3_init_0 : decode cX3_init 0 = .ok (.aload_n 0, 1) := by decide +kernel
theorem dX3_init_1 : decode cX3_init 1 = .ok (.invokespecial 3, 3) := by decide +kernel
theorem dX3_init_4 : decode cX3_init 4 = .ok (.aload_n 0, 1) := by decide +kernel
theorem dX3_init_5 : decode cX3_init 5 = .ok (.aload_n 1, 1) := by decide +kernel
theorem dX3_init_6 : decode cX3_init 6 = .ok (.putfield 9, 3) := by decide +kernel
theorem dX3_init_9 : decode cX3_init 9 = .ok (.aload_n 0, 1) := by decide +kernel
theorem dX3_init_10 : decode cX3_init 10 = .ok (.bipush 56, 2) := by decide +kernel
theorem dX3_init_12 : decode cX3_init 12 = .ok (.newarray .int, 2) := by decide +kernel
theorem dX3_init_14 : decode cX3_init 14 = .ok (.putfield 15, 3) := by decide +kernel
theorem dX3_init_17 : decode cX3_init 17 = .ok (.return_, 1) := by decide +kernel
theorem dX4_init_0 : decode cX4_init 0 = .ok (.aload_n 0, 1) := by decide +kernel
theorem dX4_init_1 : decode cX4_init 1 = .ok (.invokespecial 3, 3) := by decide +kernel
theorem dX4_init_4 : decode cX4_init 4 = .ok (.aload_n 0, 1) := by decide +kernel
theorem dX4_init_5 : decode cX4_init 5 = .ok (.iconst (-1), 1) := by decide +kernel
theorem dX4_init_6 : decode cX4_init 6 = .ok (.putfield 9, 3) := by decide +kernel
theorem dX4_init_9 : decode cX4_init 9 = .ok (.aload_n 0, 1) := by decide +kernel
theorem dX4_init_10 : decode cX4_init 10 = .ok (.bipush 6, 2) := by decide +kernel
theorem dX4_init_12 : decode cX4_init 12 = .ok (.newarray .int, 2) := by decide +kernel
theorem dX4_init_14 : decode cX4_init 14 = .ok (.putfield 15, 3) := by decide +kernel
theorem dX4_init_17 : decode cX4_init 17 = .ok (.return_, 1) := by decide +kernel
theorem dX7_init_0 : decode cX7_init 0 = .ok (.aload_n 0, 1) := by decide +kernel
theorem dX7_init_1 : decode cX7_init 1 = .ok (.invokespecial 3, 3) := by decide +kernel
theorem dX7_init_4 : decode cX7_init 4 = .ok (.aload_n 0, 1) := by decide +kernel
theorem dX7_init_5 : decode cX7_init 5 = .ok (.sipush 400, 3) := by decide +kernel
theorem dX7_init_8 : decode cX7_init 8 = .ok (.newarray .byte, 2) := by decide +kernel
theorem dX7_init_10 : decode cX7_init 10 = .ok (.putfield 9, 3) := by decide +kernel
theorem dX7_init_13 : decode cX7_init 13 = .ok (.return_, 1) := by decide +kernel
