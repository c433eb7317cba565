theorem u_140 : Cond.initialized "java/lang/Throwable" ∈ UU := uu_mem 140 (by decide +kernel) (by decide +kernel)
theorem u_151 : Cond.classLink RL 8 RX11 ∈ UU := uu_mem 151 (by decide +kernel) (by decide +kernel)
theorem u_152 : Cond.instantiable RX11 9 ∈ UU := uu_mem 152 (by decide +kernel) (by decide +kernel)
theorem u_153 : Cond.methodLink RL 103 yX11_init ∈ UU := uu_mem 153 (by decide +kernel) (by decide +kernel)
theorem u_154 : Cond.instanceMethod yX11_init ∈ UU := uu_mem 154 (by decide +kernel) (by decide +kernel)
theorem u_652 : Cond.instantiable RX5 13 ∈ UU := uu_mem 652 (by decide +kernel) (by decide +kernel)
theorem u_1499 : Cond.classLink RL 104 RX12 ∈ UU := uu_mem 1499 (by decide +kernel) (by decide +kernel)
theorem u_1500 : Cond.instantiable RX12 38 ∈ UU := uu_mem 1500 (by decide +kernel) (by decide +kernel)
theorem u_1501 : Cond.methodLink RL 106 yX12_init ∈ UU := uu_mem 1501 (by decide +kernel) (by decide +kernel)
theorem u_1502 : Cond.instanceMethod yX12_init ∈ UU := uu_mem 1502 (by decide +kernel) (by decide +kernel)
theorem df_X11 : ∀ j, j < 9 → defaultValue (tyX11 j) = vp_V [.null, .int 0, .int 0, .null, .null, .null, .int 0, .null, .null] j := by decide +kernel
theorem df_X12 : ∀ j, j < 38 → defaultValue (tyX12 j) = vp_V [.int 0, .null, .int 0, .null, .int 0, .int 0, .int 0, .int 0, .int 0, .null, .null, .int 0, .int 0, .int 0, .null, .null, .int 0, .int 0, .int 0, .int 0, .null, .null, .null, .null, .int 0, .int 0, .null, .null, .int 0, .int 0, .null, .null, .null, .int 0, .int 0, .null, .null, .null] j := by decide +kernel
theorem m_X11_init : mI yX11_init cX11_init 1 0 := ⟨u_155, u_154, u_123, rfl, ⟨by decide, by decide, by decide +kernel⟩⟩
theorem m_X12_init : mI yX12_init cX12_init 1 0 := ⟨u_1503, u_1502, u_128, rfl, ⟨by decide, by decide, by decide +kernel⟩⟩
theorem dL_law_0 : decode cL_law 0 = .ok (.new 8, 3) := by decide +kernel
theorem dL_law_3 : decode cL_law 3 = .ok (.dup, 1) := by decide +kernel
theorem dL_law_4 : decode cL_law 4 = .ok (.invokespecial 103, 3) := by decide +kernel
theorem dL_law_7 : decode cL_law 7 = .ok (.astore_n 1, 1) := by decide +kernel
theorem dL_law_8 : decode cL_law 8 = .ok (.new 104, 3) := by decide +kernel
theorem dL_law_11 : decode cL_law 11 = .ok (.dup, 1) := by decide +kernel
theorem dL_law_12 : decode cL_law 12 = .ok (.invokespecial 106, 3) := by decide +kernel
theorem dL_law_15 : decode cL_law 15 = .ok (.astore_n 2, 1) := by decide +kernel
theorem dL_law_16 : decode cL_law 16 = .ok (.iconst 1, 1) := by decide +kernel
theorem dL_law_17 : decode cL_law 17 = .ok (.newarray .long, 2) := by decide +kernel
theorem dL_law_19 : decode cL_law 19 = .ok (.astore_n 3, 1) := by decide +kernel
theorem dL_law_20 : decode cL_law 20 = .ok (.iconst 0, 1) := by decide +kernel
theorem dL_law_21 : decode cL_law 21 = .ok (.istore 4, 2) := by decide +kernel
theorem dL_law_33 : decode cL_law 33 = .ok (.aload_n 0, 1) := by decide +kernel
theorem dL_law_34 : decode cL_law 34 = .ok (.iload 4, 2) := by decide +kernel
theorem dL_law_36 : decode cL_law 36 = .ok (.iaload, 1) := by decide +kernel
theorem dL_law_37 : decode cL_law 37 = .ok (.bipush 63, 2) := by decide +kernel
theorem dL_law_39 : decode cL_law 39 = .ok (.iand, 1) := by decide +kernel
theorem dL_law_40 : decode cL_law 40 = .ok (.tableswitch 2130 0 36 #[164, 237, 262, 306, 350, 363, 431, 515, 583, 639, 714, 770, 795, 808, 876, 931, 1006, 1062, 1118, 1193, 1273, 1341, 1354, 1441, 1497, 1553, 1566, 1622, 1678, 1734, 1759, 1827, 1883, 1924, 1980, 2021, 2105], 164) := by decide +kernel
