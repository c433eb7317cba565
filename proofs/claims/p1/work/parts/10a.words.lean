theorem u_0 : Cond.selects RX11 yX11_putOnTape yX11_putOnTape ∈ UU := uu_mem 0 (by decide +kernel) (by decide +kernel)
theorem u_34 : Cond.selects RX11 yX11_existing yX11_existing ∈ UU := uu_mem 34 (by decide +kernel) (by decide +kernel)
theorem u_123 : Cond.initialized RX11 ∈ UU := uu_mem 123 (by decide +kernel) (by decide +kernel)
theorem u_144 : Cond.initialized "java/lang/IndexOutOfBoundsException" ∈ UU := uu_mem 144 (by decide +kernel) (by decide +kernel)
theorem u_178 : Cond.fieldLink RX11 102 "PlaneProof$Book" "axioms" "I" ∈ UU := uu_mem 178 (by decide +kernel) (by decide +kernel)
theorem u_181 : Cond.fieldLink RX11 116 "PlaneProof$Book" "size" "I" ∈ UU := uu_mem 181 (by decide +kernel) (by decide +kernel)
theorem u_281 : Cond.code yX11_feed cX11_feed 6 (some .int) ∈ UU := uu_mem 281 (by decide +kernel) (by decide +kernel)
theorem u_282 : Cond.methodLink RX11 63 yX11_putOnTape ∈ UU := uu_mem 282 (by decide +kernel) (by decide +kernel)
theorem u_284 : Cond.instanceMethod yX11_putOnTape ∈ UU := uu_mem 284 (by decide +kernel) (by decide +kernel)
theorem u_285 : Cond.code yX11_putOnTape cX11_putOnTape 3 none ∈ UU := uu_mem 285 (by decide +kernel) (by decide +kernel)
theorem u_289 : Cond.code yX11_end cX11_end 2 (some .boolean) ∈ UU := uu_mem 289 (by decide +kernel) (by decide +kernel)
theorem u_293 : Cond.code yX11_fault cX11_fault 1 (some .int) ∈ UU := uu_mem 293 (by decide +kernel) (by decide +kernel)
theorem u_312 : Cond.code yX11_refutes cX11_refutes 2 (some .int) ∈ UU := uu_mem 312 (by decide +kernel) (by decide +kernel)
theorem u_1078 : Cond.code yX11_line cX11_line 4 (some .int) ∈ UU := uu_mem 1078 (by decide +kernel) (by decide +kernel)
theorem u_1079 : Cond.methodLink RX11 117 yX11_existing ∈ UU := uu_mem 1079 (by decide +kernel) (by decide +kernel)
theorem u_1081 : Cond.instanceMethod yX11_existing ∈ UU := uu_mem 1081 (by decide +kernel) (by decide +kernel)
theorem u_1082 : Cond.code yX11_existing cX11_existing 2 (some (.object "PlaneProof$Line")) ∈ UU := uu_mem 1082 (by decide +kernel) (by decide +kernel)
theorem u_1083 : Cond.classLink RX11 152 "java/lang/IndexOutOfBoundsException" ∈ UU := uu_mem 1083 (by decide +kernel) (by decide +kernel)
theorem u_1121 : Cond.code yX11_lits cX11_lits 4 (some .int) ∈ UU := uu_mem 1121 (by decide +kernel) (by decide +kernel)
theorem u_1129 : Cond.code yX11_plane cX11_plane 4 (some .int) ∈ UU := uu_mem 1129 (by decide +kernel) (by decide +kernel)
theorem u_1138 : Cond.code yX11_cut cX11_cut 3 (some .int) ∈ UU := uu_mem 1138 (by decide +kernel) (by decide +kernel)
theorem u_1152 : Cond.code yX11_holds cX11_holds 4 (some .boolean) ∈ UU := uu_mem 1152 (by decide +kernel) (by decide +kernel)
theorem u_1163 : Cond.code yX11_often cX11_often 2 (some .int) ∈ UU := uu_mem 1163 (by decide +kernel) (by decide +kernel)
theorem u_1170 : Cond.code yX11_measure cX11_measure 4 (some .int) ∈ UU := uu_mem 1170 (by decide +kernel) (by decide +kernel)
theorem u_1198 : Cond.code yX11_tree cX11_tree 2 (some .long) ∈ UU := uu_mem 1198 (by decide +kernel) (by decide +kernel)
theorem u_1205 : Cond.code yX11_needs cX11_needs 4 (some .boolean) ∈ UU := uu_mem 1205 (by decide +kernel) (by decide +kernel)
theorem u_1212 : Cond.code yX11_uses cX11_uses 2 (some .int) ∈ UU := uu_mem 1212 (by decide +kernel) (by decide +kernel)
theorem u_1220 : Cond.code yX11_same cX11_same 4 (some .int) ∈ UU := uu_mem 1220 (by decide +kernel) (by decide +kernel)
theorem u_1231 : Cond.code yX11_gives cX11_gives 4 (some .boolean) ∈ UU := uu_mem 1231 (by decide +kernel) (by decide +kernel)
theorem u_1322 : Cond.code yX11_trim cX11_trim 3 (some .int) ∈ UU := uu_mem 1322 (by decide +kernel) (by decide +kernel)
theorem u_1392 : Cond.code yX11_translate cX11_translate 3 (some .int) ∈ UU := uu_mem 1392 (by decide +kernel) (by decide +kernel)
theorem u_1466 : Cond.code yX11_translated cX11_translated 3 (some .int) ∈ UU := uu_mem 1466 (by decide +kernel) (by decide +kernel)
theorem u_1474 : Cond.code yX11_slack cX11_slack 4 (some .int) ∈ UU := uu_mem 1474 (by decide +kernel) (by decide +kernel)
theorem u_1482 : Cond.code yX11_rests cX11_rests 2 (some .int) ∈ UU := uu_mem 1482 (by decide +kernel) (by decide +kernel)
theorem u_1490 : Cond.code yX11_without cX11_without 2 (some .int) ∈ UU := uu_mem 1490 (by decide +kernel) (by decide +kernel)
theorem m_X11_existing : mV yX11_existing cX11_existing 2 (some (.object "PlaneProof$Line")) 1 := ⟨u_1082, u_1081, u_34, u_123, ⟨by decide, by decide, by decide +kernel⟩⟩
theorem m_X11_putOnTape : mV yX11_putOnTape cX11_putOnTape 3 none 1 := ⟨u_285, u_284, u_0, u_123, ⟨by decide, by decide, by decide +kernel⟩⟩
theorem dX11_cut_0 : decode cX11_cut 0 = .ok (.aload_n 0, 1) := by decide +kernel
theorem dX11_cut_1 : decode cX11_cut 1 = .ok (.iload_n 1, 1) := by decide +kernel
theorem dX11_cut_2 : decode cX11_cut 2 = .ok (.invokevirtual 117, 3) := by decide +kernel
theorem dX11_end_0 : decode cX11_end 0 = .ok (.iload_n 1, 1) := by decide +kernel
theorem dX11_end_1 : decode cX11_end 1 = .ok (.ifCond .lt 11, 3) := by decide +kernel
theorem dX11_end_4 : decode cX11_end 4 = .ok (.iload_n 1, 1) := by decide +kernel
theorem dX11_end_5 : decode cX11_end 5 = .ok (.aload_n 0, 1) := by decide +kernel
theorem dX11_end_6 : decode cX11_end 6 = .ok (.getfield 13, 3) := by decide +kernel
theorem dX11_end_9 : decode cX11_end 9 = .ok (.if_icmp .le 5, 3) := by decide +kernel
theorem dX11_end_12 : decode cX11_end 12 = .ok (.iconst 0, 1) := by decide +kernel
theorem dX11_end_13 : decode cX11_end 13 = .ok (.ireturn, 1) := by decide +kernel
theorem dX11_end_14 : decode cX11_end 14 = .ok (.aload_n 0, 1) := by decide +kernel
theorem dX11_end_15 : decode cX11_end 15 = .ok (.iload_n 1, 1) := by decide +kernel
theorem dX11_end_16 : decode cX11_end 16 = .ok (.putfield 13, 3) := by decide +kernel
theorem dX11_end_19 : decode cX11_end 19 = .ok (.iconst 1, 1) := by decide +kernel
theorem dX11_end_20 : decode cX11_end 20 = .ok (.ireturn, 1) := by decide +kernel
theorem dX11_existing_0 : decode cX11_existing 0 = .ok (.iload_n 1, 1) := by decide +kernel
theorem dX11_existing_1 : decode cX11_existing 1 = .ok (.ifCond .lt 14, 3) := by decide +kernel
theorem dX11_existing_4 : decode cX11_existing 4 = .ok (.iload_n 1, 1) := by decide +kernel
theorem dX11_existing_5 : decode cX11_existing 5 = .ok (.aload_n 0, 1) := by decide +kernel
theorem dX11_existing_6 : decode cX11_existing 6 = .ok (.getfield 27, 3) := by decide +kernel
theorem dX11_existing_9 : decode cX11_existing 9 = .ok (.getfield 116, 3) := by decide +kernel
theorem dX11_existing_12 : decode cX11_existing 12 = .ok (.if_icmp .lt 14, 3) := by decide +kernel
theorem dX11_existing_15 : decode cX11_existing 15 = .ok (.new 152, 3) := by decide +kernel
theorem dX11_existing_18 : decode cX11_existing 18 = .ok (.dup, 1) := by decide +kernel
theorem dX11_existing_19 : decode cX11_existing 19 = .ok (.ldc_w 325, 3) := by decide +kernel
theorem dX11_existing_22 : decode cX11_existing 22 = .ok (.invokespecial 156, 3) := by decide +kernel
theorem dX11_existing_25 : decode cX11_existing 25 = .ok (.athrow, 1) := by decide +kernel
theorem dX11_fault_0 : decode cX11_fault 0 = .ok (.aload_n 0, 1) := by decide +kernel
theorem dX11_fault_1 : decode cX11_fault 1 = .ok (.getfield 17, 3) := by decide +kernel
theorem dX11_fault_4 : decode cX11_fault 4 = .ok (.ireturn, 1) := by decide +kernel
theorem dX11_feed_0 : decode cX11_feed 0 = .ok (.aload_n 0, 1) := by decide +kernel
theorem dX11_feed_1 : decode cX11_feed 1 = .ok (.getfield 13, 3) := by decide +kernel
theorem dX11_feed_4 : decode cX11_feed 4 = .ok (.bipush 20, 2) := by decide +kernel
theorem dX11_feed_6 : decode cX11_feed 6 = .ok (.iadd, 1) := by decide +kernel
theorem dX11_feed_7 : decode cX11_feed 7 = .ok (.sipush 400, 3) := by decide +kernel
theorem dX11_feed_10 : decode cX11_feed 10 = .ok (.if_icmp .le 5, 3) := by decide +kernel
theorem dX11_feed_15 : decode cX11_feed 15 = .ok (.aload_n 0, 1) := by decide +kernel
theorem dX11_feed_16 : decode cX11_feed 16 = .ok (.iload_n 1, 1) := by decide +kernel
theorem dX11_feed_17 : decode cX11_feed 17 = .ok (.invokevirtual 63, 3) := by decide +kernel
theorem dX11_feed_20 : decode cX11_feed 20 = .ok (.aload_n 0, 1) := by decide +kernel
theorem dX11_feed_21 : decode cX11_feed 21 = .ok (.iload_n 2, 1) := by decide +kernel
theorem dX11_feed_22 : decode cX11_feed 22 = .ok (.invokevirtual 63, 3) := by decide +kernel
theorem dX11_feed_25 : decode cX11_feed 25 = .ok (.aload_n 0, 1) := by decide +kernel
theorem dX11_feed_26 : decode cX11_feed 26 = .ok (.iload_n 3, 1) := by decide +kernel
theorem dX11_feed_27 : decode cX11_feed 27 = .ok (.invokevirtual 63, 3) := by decide +kernel
theorem dX11_feed_30 : decode cX11_feed 30 = .ok (.aload_n 0, 1) := by decide +kernel
theorem dX11_feed_31 : decode cX11_feed 31 = .ok (.iload 4, 2) := by decide +kernel
theorem dX11_feed_33 : decode cX11_feed 33 = .ok (.invokevirtual 63, 3) := by decide +kernel
theorem dX11_feed_36 : decode cX11_feed 36 = .ok (.aload_n 0, 1) := by decide +kernel
theorem dX11_feed_37 : decode cX11_feed 37 = .ok (.iload 5, 2) := by decide +kernel
theorem dX11_feed_39 : decode cX11_feed 39 = .ok (.invokevirtual 63, 3) := by decide +kernel
theorem dX11_feed_42 : decode cX11_feed 42 = .ok (.aload_n 0, 1) := by decide +kernel
theorem dX11_feed_43 : decode cX11_feed 43 = .ok (.getfield 13, 3) := by decide +kernel
theorem dX11_feed_46 : decode cX11_feed 46 = .ok (.ireturn, 1) := by decide +kernel
theorem dX11_gives_0 : decode cX11_gives 0 = .ok (.aload_n 0, 1) := by decide +kernel
theorem dX11_gives_1 : decode cX11_gives 1 = .ok (.iload_n 1, 1) := by decide +kernel
theorem dX11_gives_2 : decode cX11_gives 2 = .ok (.invokevirtual 117, 3) := by decide +kernel
theorem dX11_holds_0 : decode cX11_holds 0 = .ok (.aload_n 0, 1) := by decide +kernel
theorem dX11_holds_1 : decode cX11_holds 1 = .ok (.iload_n 1, 1) := by decide +kernel
theorem dX11_holds_2 : decode cX11_holds 2 = .ok (.invokevirtual 117, 3) := by decide +kernel
theorem dX11_line_0 : decode cX11_line 0 = .ok (.aload_n 0, 1) := by decide +kernel
theorem dX11_line_1 : decode cX11_line 1 = .ok (.iload_n 1, 1) := by decide +kernel
theorem dX11_line_2 : decode cX11_line 2 = .ok (.invokevirtual 117, 3) := by decide +kernel
theorem dX11_lits_0 : decode cX11_lits 0 = .ok (.aload_n 0, 1) := by decide +kernel
theorem dX11_lits_1 : decode cX11_lits 1 = .ok (.iload_n 1, 1) := by decide +kernel
theorem dX11_lits_2 : decode cX11_lits 2 = .ok (.invokevirtual 117, 3) := by decide +kernel
theorem dX11_measure_0 : decode cX11_measure 0 = .ok (.aload_n 0, 1) := by decide +kernel
theorem dX11_measure_1 : decode cX11_measure 1 = .ok (.iload_n 1, 1) := by decide +kernel
theorem dX11_measure_2 : decode cX11_measure 2 = .ok (.invokevirtual 117, 3) := by decide +kernel
theorem dX11_needs_0 : decode cX11_needs 0 = .ok (.aload_n 0, 1) := by decide +kernel
theorem dX11_needs_1 : decode cX11_needs 1 = .ok (.iload_n 1, 1) := by decide +kernel
theorem dX11_needs_2 : decode cX11_needs 2 = .ok (.invokevirtual 117, 3) := by decide +kernel
theorem dX11_often_0 : decode cX11_often 0 = .ok (.aload_n 0, 1) := by decide +kernel
theorem dX11_often_1 : decode cX11_often 1 = .ok (.iload_n 1, 1) := by decide +kernel
theorem dX11_often_2 : decode cX11_often 2 = .ok (.invokevirtual 117, 3) := by decide +kernel
theorem dX11_plane_0 : decode cX11_plane 0 = .ok (.aload_n 0, 1) := by decide +kernel
theorem dX11_plane_1 : decode cX11_plane 1 = .ok (.iload_n 1, 1) := by decide +kernel
theorem dX11_plane_2 : decode cX11_plane 2 = .ok (.invokevirtual 117, 3) := by decide +kernel
theorem dX11_putOnTape_0 : decode cX11_putOnTape 0 = .ok (.bipush 24, 2) := by decide +kernel
theorem dX11_putOnTape_2 : decode cX11_putOnTape 2 = .ok (.istore_n 2, 1) := by decide +kernel
theorem dX11_putOnTape_3 : decode cX11_putOnTape 3 = .ok (.iload_n 2, 1) := by decide +kernel
theorem dX11_putOnTape_4 : decode cX11_putOnTape 4 = .ok (.ifCond .lt 42, 3) := by decide +kernel
theorem dX11_putOnTape_7 : decode cX11_putOnTape 7 = .ok (.aload_n 0, 1) := by decide +kernel
theorem dX11_putOnTape_8 : decode cX11_putOnTape 8 = .ok (.getfield 13, 3) := by decide +kernel
theorem dX11_putOnTape_11 : decode cX11_putOnTape 11 = .ok (.sipush 400, 3) := by decide +kernel
theorem dX11_putOnTape_14 : decode cX11_putOnTape 14 = .ok (.if_icmp .ge 26, 3) := by decide +kernel
theorem dX11_putOnTape_17 : decode cX11_putOnTape 17 = .ok (.aload_n 0, 1) := by decide +kernel
theorem dX11_putOnTape_18 : decode cX11_putOnTape 18 = .ok (.getfield 9, 3) := by decide +kernel
theorem dX11_putOnTape_21 : decode cX11_putOnTape 21 = .ok (.aload_n 0, 1) := by decide +kernel
theorem dX11_putOnTape_22 : decode cX11_putOnTape 22 = .ok (.getfield 13, 3) := by decide +kernel
theorem dX11_putOnTape_25 : decode cX11_putOnTape 25 = .ok (.iload_n 1, 1) := by decide +kernel
theorem dX11_putOnTape_26 : decode cX11_putOnTape 26 = .ok (.iload_n 2, 1) := by decide +kernel
theorem dX11_putOnTape_27 : decode cX11_putOnTape 27 = .ok (.iushr, 1) := by decide +kernel
theorem dX11_putOnTape_28 : decode cX11_putOnTape 28 = .ok (.i2b, 1) := by decide +kernel
theorem dX11_putOnTape_29 : decode cX11_putOnTape 29 = .ok (.bastore, 1) := by decide +kernel
theorem dX11_putOnTape_30 : decode cX11_putOnTape 30 = .ok (.aload_n 0, 1) := by decide +kernel
theorem dX11_putOnTape_31 : decode cX11_putOnTape 31 = .ok (.dup, 1) := by decide +kernel
theorem dX11_putOnTape_32 : decode cX11_putOnTape 32 = .ok (.getfield 13, 3) := by decide +kernel
theorem dX11_putOnTape_35 : decode cX11_putOnTape 35 = .ok (.iconst 1, 1) := by decide +kernel
theorem dX11_putOnTape_36 : decode cX11_putOnTape 36 = .ok (.iadd, 1) := by decide +kernel
theorem dX11_putOnTape_37 : decode cX11_putOnTape 37 = .ok (.putfield 13, 3) := by decide +kernel
theorem dX11_putOnTape_40 : decode cX11_putOnTape 40 = .ok (.iinc 2 (-8), 3) := by decide +kernel
theorem dX11_putOnTape_43 : decode cX11_putOnTape 43 = .ok (.goto (-40), 3) := by decide +kernel
theorem dX11_putOnTape_46 : decode cX11_putOnTape 46 = .ok (.return_, 1) := by decide +kernel
theorem dX11_refutes_0 : decode cX11_refutes 0 = .ok (.iconst 0, 1) := by decide +kernel
theorem dX11_refutes_1 : decode cX11_refutes 1 = .ok (.istore_n 1, 1) := by decide +kernel
theorem dX11_refutes_2 : decode cX11_refutes 2 = .ok (.iload_n 1, 1) := by decide +kernel
theorem dX11_refutes_3 : decode cX11_refutes 3 = .ok (.aload_n 0, 1) := by decide +kernel
theorem dX11_refutes_4 : decode cX11_refutes 4 = .ok (.getfield 27, 3) := by decide +kernel
theorem dX11_refutes_7 : decode cX11_refutes 7 = .ok (.getfield 116, 3) := by decide +kernel
theorem dX11_refutes_10 : decode cX11_refutes 10 = .ok (.if_icmp .ge 26, 3) := by decide +kernel
theorem dX11_refutes_36 : decode cX11_refutes 36 = .ok (.iconst (-1), 1) := by decide +kernel
theorem dX11_refutes_37 : decode cX11_refutes 37 = .ok (.ireturn, 1) := by decide +kernel
theorem dX11_rests_0 : decode cX11_rests 0 = .ok (.aload_n 0, 1) := by decide +kernel
theorem dX11_rests_1 : decode cX11_rests 1 = .ok (.iload_n 1, 1) := by decide +kernel
theorem dX11_rests_2 : decode cX11_rests 2 = .ok (.invokevirtual 117, 3) := by decide +kernel
theorem dX11_same_0 : decode cX11_same 0 = .ok (.aload_n 0, 1) := by decide +kernel
theorem dX11_same_1 : decode cX11_same 1 = .ok (.iload_n 1, 1) := by decide +kernel
theorem dX11_same_2 : decode cX11_same 2 = .ok (.invokevirtual 117, 3) := by decide +kernel
theorem dX11_slack_0 : decode cX11_slack 0 = .ok (.aload_n 0, 1) := by decide +kernel
theorem dX11_slack_1 : decode cX11_slack 1 = .ok (.iload_n 1, 1) := by decide +kernel
theorem dX11_slack_2 : decode cX11_slack 2 = .ok (.invokevirtual 117, 3) := by decide +kernel
theorem dX11_translate_0 : decode cX11_translate 0 = .ok (.aload_n 0, 1) := by decide +kernel
theorem dX11_translate_1 : decode cX11_translate 1 = .ok (.iload_n 1, 1) := by decide +kernel
theorem dX11_translate_2 : decode cX11_translate 2 = .ok (.invokevirtual 117, 3) := by decide +kernel
theorem dX11_translated_0 : decode cX11_translated 0 = .ok (.aload_n 0, 1) := by decide +kernel
theorem dX11_translated_1 : decode cX11_translated 1 = .ok (.iload_n 1, 1) := by decide +kernel
theorem dX11_translated_2 : decode cX11_translated 2 = .ok (.invokevirtual 117, 3) := by decide +kernel
theorem dX11_tree_0 : decode cX11_tree 0 = .ok (.aload_n 0, 1) := by decide +kernel
theorem dX11_tree_1 : decode cX11_tree 1 = .ok (.iload_n 1, 1) := by decide +kernel
theorem dX11_tree_2 : decode cX11_tree 2 = .ok (.invokevirtual 117, 3) := by decide +kernel
theorem dX11_trim_0 : decode cX11_trim 0 = .ok (.aload_n 0, 1) := by decide +kernel
theorem dX11_trim_1 : decode cX11_trim 1 = .ok (.iload_n 1, 1) := by decide +kernel
theorem dX11_trim_2 : decode cX11_trim 2 = .ok (.invokevirtual 117, 3) := by decide +kernel
theorem dX11_uses_0 : decode cX11_uses 0 = .ok (.aload_n 0, 1) := by decide +kernel
theorem dX11_uses_1 : decode cX11_uses 1 = .ok (.iload_n 1, 1) := by decide +kernel
theorem dX11_uses_2 : decode cX11_uses 2 = .ok (.invokevirtual 117, 3) := by decide +kernel
theorem dX11_without_0 : decode cX11_without 0 = .ok (.iload_n 1, 1) := by decide +kernel
theorem dX11_without_1 : decode cX11_without 1 = .ok (.ifCond .lt 14, 3) := by decide +kernel
theorem dX11_without_4 : decode cX11_without 4 = .ok (.iload_n 1, 1) := by decide +kernel
theorem dX11_without_5 : decode cX11_without 5 = .ok (.aload_n 0, 1) := by decide +kernel
theorem dX11_without_6 : decode cX11_without 6 = .ok (.getfield 27, 3) := by decide +kernel
theorem dX11_without_9 : decode cX11_without 9 = .ok (.getfield 102, 3) := by decide +kernel
theorem dX11_without_12 : decode cX11_without 12 = .ok (.if_icmp .lt 14, 3) := by decide +kernel
theorem dX11_without_15 : decode cX11_without 15 = .ok (.new 152, 3) := by decide +kernel
theorem dX11_without_18 : decode cX11_without 18 = .ok (.dup, 1) := by decide +kernel
theorem dX11_without_19 : decode cX11_without 19 = .ok (.ldc_w 311, 3) := by decide +kernel
theorem dX11_without_22 : decode cX11_without 22 = .ok (.invokespecial 156, 3) := by decide +kernel
theorem dX11_without_25 : decode cX11_without 25 = .ok (.athrow, 1) := by decide +kernel
