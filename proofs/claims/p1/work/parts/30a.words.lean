theorem u_73 : Cond.selects RX12 yX12_throwsIf yX12_throwsIf ∈ UU := uu_mem 73 (by decide +kernel) (by decide +kernel)
theorem u_85 : Cond.selects RX12 yX12_noLine yX12_noLine ∈ UU := uu_mem 85 (by decide +kernel) (by decide +kernel)
theorem u_103 : Cond.selects RX12 yX12_pebbledBy yX12_pebbledBy ∈ UU := uu_mem 103 (by decide +kernel) (by decide +kernel)
theorem u_128 : Cond.initialized RX12 ∈ UU := uu_mem 128 (by decide +kernel) (by decide +kernel)
theorem u_1503 : Cond.code yX12_init cX12_init 1 none ∈ UU := uu_mem 1503 (by decide +kernel) (by decide +kernel)
theorem u_1504 : Cond.methodLink RX12 3 Lib.objectInit ∈ UU := uu_mem 1504 (by decide +kernel) (by decide +kernel)
theorem u_1505 : Cond.fieldLink RX12 74 "PlaneProofModel" "thrown" "I" ∈ UU := uu_mem 1505 (by decide +kernel) (by decide +kernel)
theorem u_1506 : Cond.fieldLink RX12 9 "PlaneProofModel" "tape" "[B" ∈ UU := uu_mem 1506 (by decide +kernel) (by decide +kernel)
theorem u_1507 : Cond.fieldLink RX12 77 "PlaneProofModel" "taped" "I" ∈ UU := uu_mem 1507 (by decide +kernel) (by decide +kernel)
theorem u_1508 : Cond.fieldLink RX12 13 "PlaneProofModel" "five" "[I" ∈ UU := uu_mem 1508 (by decide +kernel) (by decide +kernel)
theorem u_1513 : Cond.fieldLink RX12 17 "PlaneProofModel" "fault" "I" ∈ UU := uu_mem 1513 (by decide +kernel) (by decide +kernel)
theorem u_1514 : Cond.fieldLink RX12 21 "PlaneProofModel" "row" "[I" ∈ UU := uu_mem 1514 (by decide +kernel) (by decide +kernel)
theorem u_1515 : Cond.fieldLink RX12 24 "PlaneProofModel" "draft" "[I" ∈ UU := uu_mem 1515 (by decide +kernel) (by decide +kernel)
theorem u_1516 : Cond.fieldLink RX12 217 "PlaneProofModel" "axioms" "I" ∈ UU := uu_mem 1516 (by decide +kernel) (by decide +kernel)
theorem u_1517 : Cond.fieldLink RX12 226 "PlaneProofModel" "lines" "I" ∈ UU := uu_mem 1517 (by decide +kernel) (by decide +kernel)
theorem u_1519 : Cond.fieldLink RX12 27 "PlaneProofModel" "behind" "[I" ∈ UU := uu_mem 1519 (by decide +kernel) (by decide +kernel)
theorem u_1520 : Cond.fieldLink RX12 30 "PlaneProofModel" "draftBehind" "[I" ∈ UU := uu_mem 1520 (by decide +kernel) (by decide +kernel)
theorem u_1521 : Cond.fieldLink RX12 220 "PlaneProofModel" "nodes" "I" ∈ UU := uu_mem 1521 (by decide +kernel) (by decide +kernel)
theorem u_1522 : Cond.fieldLink RX12 33 "PlaneProofModel" "sink" "I" ∈ UU := uu_mem 1522 (by decide +kernel) (by decide +kernel)
theorem u_1525 : Cond.fieldLink RX12 36 "PlaneProofModel" "needed" "[Z" ∈ UU := uu_mem 1525 (by decide +kernel) (by decide +kernel)
theorem u_1526 : Cond.fieldLink RX12 40 "PlaneProofModel" "deep" "[I" ∈ UU := uu_mem 1526 (by decide +kernel) (by decide +kernel)
theorem u_1527 : Cond.fieldLink RX12 43 "PlaneProofModel" "lastUse" "[I" ∈ UU := uu_mem 1527 (by decide +kernel) (by decide +kernel)
theorem u_1528 : Cond.fieldLink RX12 46 "PlaneProofModel" "trees" "[J" ∈ UU := uu_mem 1528 (by decide +kernel) (by decide +kernel)
theorem u_1529 : Cond.fieldLink RX12 359 "PlaneProofModel" "unitOnes" "I" ∈ UU := uu_mem 1529 (by decide +kernel) (by decide +kernel)
theorem u_1530 : Cond.fieldLink RX12 356 "PlaneProofModel" "unitNoughts" "I" ∈ UU := uu_mem 1530 (by decide +kernel) (by decide +kernel)
theorem u_1531 : Cond.fieldLink RX12 50 "PlaneProofModel" "came" "[I" ∈ UU := uu_mem 1531 (by decide +kernel) (by decide +kernel)
theorem u_1532 : Cond.fieldLink RX12 53 "PlaneProofModel" "list" "[I" ∈ UU := uu_mem 1532 (by decide +kernel) (by decide +kernel)
theorem u_1535 : Cond.fieldLink RX12 56 "PlaneProofModel" "moves" "[I" ∈ UU := uu_mem 1535 (by decide +kernel) (by decide +kernel)
theorem u_1536 : Cond.fieldLink RX12 59 "PlaneProofModel" "queue" "[I" ∈ UU := uu_mem 1536 (by decide +kernel) (by decide +kernel)
theorem u_1537 : Cond.fieldLink RX12 62 "PlaneProofModel" "text" "[B" ∈ UU := uu_mem 1537 (by decide +kernel) (by decide +kernel)
theorem u_1538 : Cond.fieldLink RX12 384 "PlaneProofModel" "written" "I" ∈ UU := uu_mem 1538 (by decide +kernel) (by decide +kernel)
theorem u_1540 : Cond.fieldLink RX12 65 "PlaneProofModel" "anew" "[I" ∈ UU := uu_mem 1540 (by decide +kernel) (by decide +kernel)
theorem u_1541 : Cond.fieldLink RX12 68 "PlaneProofModel" "aside" "[B" ∈ UU := uu_mem 1541 (by decide +kernel) (by decide +kernel)
theorem u_1542 : Cond.fieldLink RX12 71 "PlaneProofModel" "masks" "[J" ∈ UU := uu_mem 1542 (by decide +kernel) (by decide +kernel)
theorem u_1620 : Cond.arrayClass .boolean ∈ UU := uu_mem 1620 (by decide +kernel) (by decide +kernel)
theorem u_1632 : Cond.code yX12_end cX12_end 2 (some .boolean) ∈ UU := uu_mem 1632 (by decide +kernel) (by decide +kernel)
theorem u_1636 : Cond.code yX12_fault cX12_fault 1 (some .int) ∈ UU := uu_mem 1636 (by decide +kernel) (by decide +kernel)
theorem u_1712 : Cond.methodLink RX12 138 yX12_isIn ∈ UU := uu_mem 1712 (by decide +kernel) (by decide +kernel)
theorem u_1713 : Cond.static yX12_isIn ∈ UU := uu_mem 1713 (by decide +kernel) (by decide +kernel)
theorem u_1714 : Cond.code yX12_isIn cX12_isIn 2 (some .boolean) ∈ UU := uu_mem 1714 (by decide +kernel) (by decide +kernel)
theorem u_1732 : Cond.methodLink RX12 131 yX12_in ∈ UU := uu_mem 1732 (by decide +kernel) (by decide +kernel)
theorem u_1733 : Cond.static yX12_in ∈ UU := uu_mem 1733 (by decide +kernel) (by decide +kernel)
theorem u_1734 : Cond.code yX12_in cX12_in 3 (some .boolean) ∈ UU := uu_mem 1734 (by decide +kernel) (by decide +kernel)
theorem u_1752 : Cond.methodLink RX12 213 yX12_throwsIf ∈ UU := uu_mem 1752 (by decide +kernel) (by decide +kernel)
theorem u_1754 : Cond.instanceMethod yX12_throwsIf ∈ UU := uu_mem 1754 (by decide +kernel) (by decide +kernel)
theorem u_1755 : Cond.code yX12_throwsIf cX12_throwsIf 3 (some .boolean) ∈ UU := uu_mem 1755 (by decide +kernel) (by decide +kernel)
theorem u_1833 : Cond.code yX12_line cX12_line 3 (some .int) ∈ UU := uu_mem 1833 (by decide +kernel) (by decide +kernel)
theorem u_1834 : Cond.methodLink RX12 312 yX12_noLine ∈ UU := uu_mem 1834 (by decide +kernel) (by decide +kernel)
theorem u_1836 : Cond.instanceMethod yX12_noLine ∈ UU := uu_mem 1836 (by decide +kernel) (by decide +kernel)
theorem u_1837 : Cond.code yX12_noLine cX12_noLine 2 (some .boolean) ∈ UU := uu_mem 1837 (by decide +kernel) (by decide +kernel)
theorem u_1858 : Cond.code yX12_lits cX12_lits 3 (some .int) ∈ UU := uu_mem 1858 (by decide +kernel) (by decide +kernel)
theorem u_1862 : Cond.code yX12_plane cX12_plane 3 (some .int) ∈ UU := uu_mem 1862 (by decide +kernel) (by decide +kernel)
theorem u_1866 : Cond.code yX12_cut cX12_cut 2 (some .int) ∈ UU := uu_mem 1866 (by decide +kernel) (by decide +kernel)
theorem u_1870 : Cond.code yX12_holds cX12_holds 3 (some .boolean) ∈ UU := uu_mem 1870 (by decide +kernel) (by decide +kernel)
theorem u_1878 : Cond.code yX12_slack cX12_slack 3 (some .int) ∈ UU := uu_mem 1878 (by decide +kernel) (by decide +kernel)
theorem u_1882 : Cond.code yX12_often cX12_often 2 (some .int) ∈ UU := uu_mem 1882 (by decide +kernel) (by decide +kernel)
theorem u_1901 : Cond.code yX12_without cX12_without 2 (some .int) ∈ UU := uu_mem 1901 (by decide +kernel) (by decide +kernel)
theorem u_1905 : Cond.code yX12_refutes cX12_refutes 2 (some .int) ∈ UU := uu_mem 1905 (by decide +kernel) (by decide +kernel)
theorem u_1909 : Cond.code yX12_same cX12_same 5 (some .int) ∈ UU := uu_mem 1909 (by decide +kernel) (by decide +kernel)
theorem u_1913 : Cond.code yX12_gives cX12_gives 3 (some .boolean) ∈ UU := uu_mem 1913 (by decide +kernel) (by decide +kernel)
theorem u_1917 : Cond.code yX12_needs cX12_needs 3 (some .boolean) ∈ UU := uu_mem 1917 (by decide +kernel) (by decide +kernel)
theorem u_1925 : Cond.code yX12_rests cX12_rests 4 (some .int) ∈ UU := uu_mem 1925 (by decide +kernel) (by decide +kernel)
theorem u_1929 : Cond.code yX12_uses cX12_uses 4 (some .int) ∈ UU := uu_mem 1929 (by decide +kernel) (by decide +kernel)
theorem u_1937 : Cond.code yX12_measure cX12_measure 5 (some .int) ∈ UU := uu_mem 1937 (by decide +kernel) (by decide +kernel)
theorem u_1958 : Cond.code yX12_tree cX12_tree 4 (some .long) ∈ UU := uu_mem 1958 (by decide +kernel) (by decide +kernel)
theorem u_1962 : Cond.code yX12_units cX12_units 8 (some .int) ∈ UU := uu_mem 1962 (by decide +kernel) (by decide +kernel)
theorem u_1994 : Cond.code yX12_node cX12_node 5 (some .int) ∈ UU := uu_mem 1994 (by decide +kernel) (by decide +kernel)
theorem u_1998 : Cond.code yX12_pebbled cX12_pebbled 2 (some .int) ∈ UU := uu_mem 1998 (by decide +kernel) (by decide +kernel)
theorem u_1999 : Cond.methodLink RX12 381 yX12_pebbledBy ∈ UU := uu_mem 1999 (by decide +kernel) (by decide +kernel)
theorem u_2001 : Cond.instanceMethod yX12_pebbledBy ∈ UU := uu_mem 2001 (by decide +kernel) (by decide +kernel)
theorem u_2002 : Cond.code yX12_pebbledBy cX12_pebbledBy 8 (some .int) ∈ UU := uu_mem 2002 (by decide +kernel) (by decide +kernel)
theorem u_2006 : Cond.code yX12_pebbles cX12_pebbles 2 (some .int) ∈ UU := uu_mem 2006 (by decide +kernel) (by decide +kernel)
theorem u_2010 : Cond.code yX12_trim cX12_trim 4 (some .int) ∈ UU := uu_mem 2010 (by decide +kernel) (by decide +kernel)
theorem u_2047 : Cond.code yX12_translate cX12_translate 2 (some .int) ∈ UU := uu_mem 2047 (by decide +kernel) (by decide +kernel)
theorem u_2083 : Cond.code yX12_translated cX12_translated 5 (some .int) ∈ UU := uu_mem 2083 (by decide +kernel) (by decide +kernel)
theorem u_2087 : Cond.code yX12_octet cX12_octet 2 (some .int) ∈ UU := uu_mem 2087 (by decide +kernel) (by decide +kernel)
theorem u_2091 : Cond.code yX12_core cX12_core 7 (some .int) ∈ UU := uu_mem 2091 (by decide +kernel) (by decide +kernel)
theorem u_2095 : Cond.code yX12_pure cX12_pure 6 (some .int) ∈ UU := uu_mem 2095 (by decide +kernel) (by decide +kernel)
theorem u_2099 : Cond.code yX12_stands cX12_stands 5 (some .int) ∈ UU := uu_mem 2099 (by decide +kernel) (by decide +kernel)
theorem m_X12_in : mS yX12_in cX12_in 3 (some .boolean) 3 := ⟨u_1734, u_1733, u_128, ⟨by decide, by decide, by decide +kernel⟩⟩
theorem m_X12_isIn : mS yX12_isIn cX12_isIn 2 (some .boolean) 2 := ⟨u_1714, u_1713, u_128, ⟨by decide, by decide, by decide +kernel⟩⟩
theorem m_X12_noLine : mV yX12_noLine cX12_noLine 2 (some .boolean) 1 := ⟨u_1837, u_1836, u_85, u_128, ⟨by decide, by decide, by decide +kernel⟩⟩
theorem m_X12_pebbledBy : mV yX12_pebbledBy cX12_pebbledBy 8 (some .int) 1 := ⟨u_2002, u_2001, u_103, u_128, ⟨by decide, by decide, by decide +kernel⟩⟩
theorem m_X12_throwsIf : mV yX12_throwsIf cX12_throwsIf 3 (some .boolean) 2 := ⟨u_1755, u_1754, u_73, u_128, ⟨by decide, by decide, by decide +kernel⟩⟩
theorem dX12_core_0 : decode cX12_core 0 = .ok (.aload_n 0, 1) := by decide +kernel
theorem dX12_core_1 : decode cX12_core 1 = .ok (.iconst 0, 1) := by decide +kernel
theorem dX12_core_2 : decode cX12_core 2 = .ok (.putfield 74, 3) := by decide +kernel
theorem dX12_core_5 : decode cX12_core 5 = .ok (.iconst 0, 1) := by decide +kernel
theorem dX12_core_6 : decode cX12_core 6 = .ok (.istore_n 2, 1) := by decide +kernel
theorem dX12_core_7 : decode cX12_core 7 = .ok (.iload_n 2, 1) := by decide +kernel
theorem dX12_core_8 : decode cX12_core 8 = .ok (.aload_n 0, 1) := by decide +kernel
theorem dX12_core_9 : decode cX12_core 9 = .ok (.getfield 217, 3) := by decide +kernel
theorem dX12_core_12 : decode cX12_core 12 = .ok (.if_icmp .ge 20, 3) := by decide +kernel
theorem dX12_core_32 : decode cX12_core 32 = .ok (.iconst (-1), 1) := by decide +kernel
theorem dX12_core_33 : decode cX12_core 33 = .ok (.istore_n 2, 1) := by decide +kernel
theorem dX12_core_34 : decode cX12_core 34 = .ok (.iconst 1, 1) := by decide +kernel
theorem dX12_core_35 : decode cX12_core 35 = .ok (.istore_n 3, 1) := by decide +kernel
theorem dX12_core_36 : decode cX12_core 36 = .ok (.iload_n 3, 1) := by decide +kernel
theorem dX12_core_37 : decode cX12_core 37 = .ok (.iconst 1, 1) := by decide +kernel
theorem dX12_core_38 : decode cX12_core 38 = .ok (.aload_n 0, 1) := by decide +kernel
theorem dX12_core_39 : decode cX12_core 39 = .ok (.getfield 217, 3) := by decide +kernel
theorem dX12_core_42 : decode cX12_core 42 = .ok (.ishl, 1) := by decide +kernel
theorem dX12_core_43 : decode cX12_core 43 = .ok (.if_icmp .ge 81, 3) := by decide +kernel
theorem dX12_core_124 : decode cX12_core 124 = .ok (.iload_n 1, 1) := by decide +kernel
theorem dX12_core_125 : decode cX12_core 125 = .ok (.ifCond .ne 8, 3) := by decide +kernel
theorem dX12_core_128 : decode cX12_core 128 = .ok (.iload_n 2, 1) := by decide +kernel
theorem dX12_core_129 : decode cX12_core 129 = .ok (.iconst (-1), 1) := by decide +kernel
theorem dX12_core_130 : decode cX12_core 130 = .ok (.if_icmp .ne 7, 3) := by decide +kernel
theorem dX12_core_133 : decode cX12_core 133 = .ok (.iload_n 2, 1) := by decide +kernel
theorem dX12_core_134 : decode cX12_core 134 = .ok (.goto 7, 3) := by decide +kernel
theorem dX12_core_141 : decode cX12_core 141 = .ok (.ireturn, 1) := by decide +kernel
theorem dX12_cut_0 : decode cX12_cut 0 = .ok (.aload_n 0, 1) := by decide +kernel
theorem dX12_cut_1 : decode cX12_cut 1 = .ok (.iconst 0, 1) := by decide +kernel
theorem dX12_cut_2 : decode cX12_cut 2 = .ok (.putfield 74, 3) := by decide +kernel
theorem dX12_cut_5 : decode cX12_cut 5 = .ok (.aload_n 0, 1) := by decide +kernel
theorem dX12_cut_6 : decode cX12_cut 6 = .ok (.iload_n 1, 1) := by decide +kernel
theorem dX12_cut_7 : decode cX12_cut 7 = .ok (.invokevirtual 312, 3) := by decide +kernel
theorem dX12_cut_10 : decode cX12_cut 10 = .ok (.ifCond .ne 24, 3) := by decide +kernel
theorem dX12_cut_34 : decode cX12_cut 34 = .ok (.iconst 0, 1) := by decide +kernel
theorem dX12_cut_35 : decode cX12_cut 35 = .ok (.ireturn, 1) := by decide +kernel
theorem dX12_end_0 : decode cX12_end 0 = .ok (.aload_n 0, 1) := by decide +kernel
theorem dX12_end_1 : decode cX12_end 1 = .ok (.iconst 0, 1) := by decide +kernel
theorem dX12_end_2 : decode cX12_end 2 = .ok (.putfield 74, 3) := by decide +kernel
theorem dX12_end_5 : decode cX12_end 5 = .ok (.iload_n 1, 1) := by decide +kernel
theorem dX12_end_6 : decode cX12_end 6 = .ok (.ifCond .lt 11, 3) := by decide +kernel
theorem dX12_end_9 : decode cX12_end 9 = .ok (.iload_n 1, 1) := by decide +kernel
theorem dX12_end_10 : decode cX12_end 10 = .ok (.aload_n 0, 1) := by decide +kernel
theorem dX12_end_11 : decode cX12_end 11 = .ok (.getfield 77, 3) := by decide +kernel
theorem dX12_end_14 : decode cX12_end 14 = .ok (.if_icmp .le 5, 3) := by decide +kernel
theorem dX12_end_17 : decode cX12_end 17 = .ok (.iconst 0, 1) := by decide +kernel
theorem dX12_end_18 : decode cX12_end 18 = .ok (.ireturn, 1) := by decide +kernel
theorem dX12_end_19 : decode cX12_end 19 = .ok (.aload_n 0, 1) := by decide +kernel
theorem dX12_end_20 : decode cX12_end 20 = .ok (.iload_n 1, 1) := by decide +kernel
theorem dX12_end_21 : decode cX12_end 21 = .ok (.putfield 77, 3) := by decide +kernel
theorem dX12_end_24 : decode cX12_end 24 = .ok (.iconst 1, 1) := by decide +kernel
theorem dX12_end_25 : decode cX12_end 25 = .ok (.ireturn, 1) := by decide +kernel
theorem dX12_fault_0 : decode cX12_fault 0 = .ok (.aload_n 0, 1) := by decide +kernel
theorem dX12_fault_1 : decode cX12_fault 1 = .ok (.iconst 0, 1) := by decide +kernel
theorem dX12_fault_2 : decode cX12_fault 2 = .ok (.putfield 74, 3) := by decide +kernel
theorem dX12_fault_5 : decode cX12_fault 5 = .ok (.aload_n 0, 1) := by decide +kernel
theorem dX12_fault_6 : decode cX12_fault 6 = .ok (.getfield 17, 3) := by decide +kernel
theorem dX12_fault_9 : decode cX12_fault 9 = .ok (.ireturn, 1) := by decide +kernel
theorem dX12_gives_0 : decode cX12_gives 0 = .ok (.aload_n 0, 1) := by decide +kernel
theorem dX12_gives_1 : decode cX12_gives 1 = .ok (.iconst 0, 1) := by decide +kernel
theorem dX12_gives_2 : decode cX12_gives 2 = .ok (.putfield 74, 3) := by decide +kernel
theorem dX12_gives_5 : decode cX12_gives 5 = .ok (.aload_n 0, 1) := by decide +kernel
theorem dX12_gives_6 : decode cX12_gives 6 = .ok (.iload_n 1, 1) := by decide +kernel
theorem dX12_gives_7 : decode cX12_gives 7 = .ok (.invokevirtual 312, 3) := by decide +kernel
theorem dX12_gives_10 : decode cX12_gives 10 = .ok (.ifCond .ne 35, 3) := by decide +kernel
theorem dX12_gives_45 : decode cX12_gives 45 = .ok (.iconst 0, 1) := by decide +kernel
theorem dX12_gives_46 : decode cX12_gives 46 = .ok (.ireturn, 1) := by decide +kernel
theorem dX12_holds_0 : decode cX12_holds 0 = .ok (.aload_n 0, 1) := by decide +kernel
theorem dX12_holds_1 : decode cX12_holds 1 = .ok (.iconst 0, 1) := by decide +kernel
theorem dX12_holds_2 : decode cX12_holds 2 = .ok (.putfield 74, 3) := by decide +kernel
theorem dX12_holds_5 : decode cX12_holds 5 = .ok (.aload_n 0, 1) := by decide +kernel
theorem dX12_holds_6 : decode cX12_holds 6 = .ok (.iload_n 1, 1) := by decide +kernel
theorem dX12_holds_7 : decode cX12_holds 7 = .ok (.invokevirtual 312, 3) := by decide +kernel
theorem dX12_holds_10 : decode cX12_holds 10 = .ok (.ifCond .ne 27, 3) := by decide +kernel
theorem dX12_holds_37 : decode cX12_holds 37 = .ok (.iconst 0, 1) := by decide +kernel
theorem dX12_holds_38 : decode cX12_holds 38 = .ok (.ireturn, 1) := by decide +kernel
theorem dX12_in_0 : decode cX12_in 0 = .ok (.iload_n 0, 1) := by decide +kernel
theorem dX12_in_1 : decode cX12_in 1 = .ok (.iload_n 1, 1) := by decide +kernel
theorem dX12_in_2 : decode cX12_in 2 = .ok (.if_icmp .lt 12, 3) := by decide +kernel
theorem dX12_in_5 : decode cX12_in 5 = .ok (.iload_n 0, 1) := by decide +kernel
theorem dX12_in_6 : decode cX12_in 6 = .ok (.iload_n 2, 1) := by decide +kernel
theorem dX12_in_7 : decode cX12_in 7 = .ok (.if_icmp .gt 7, 3) := by decide +kernel
theorem dX12_in_10 : decode cX12_in 10 = .ok (.iconst 1, 1) := by decide +kernel
theorem dX12_in_11 : decode cX12_in 11 = .ok (.goto 4, 3) := by decide +kernel
theorem dX12_in_14 : decode cX12_in 14 = .ok (.iconst 0, 1) := by decide +kernel
theorem dX12_in_15 : decode cX12_in 15 = .ok (.ireturn, 1) := by decide +kernel
theorem dX12_init_0 : decode cX12_init 0 = .ok (.aload_n 0, 1) := by decide +kernel
theorem dX12_init_1 : decode cX12_init 1 = .ok (.invokespecial 3, 3) := by decide +kernel
theorem dX12_init_4 : decode cX12_init 4 = .ok (.aload_n 0, 1) := by decide +kernel
theorem dX12_init_5 : decode cX12_init 5 = .ok (.sipush 400, 3) := by decide +kernel
theorem dX12_init_8 : decode cX12_init 8 = .ok (.newarray .byte, 2) := by decide +kernel
theorem dX12_init_10 : decode cX12_init 10 = .ok (.putfield 9, 3) := by decide +kernel
theorem dX12_init_13 : decode cX12_init 13 = .ok (.aload_n 0, 1) := by decide +kernel
theorem dX12_init_14 : decode cX12_init 14 = .ok (.iconst 5, 1) := by decide +kernel
theorem dX12_init_15 : decode cX12_init 15 = .ok (.newarray .int, 2) := by decide +kernel
theorem dX12_init_17 : decode cX12_init 17 = .ok (.putfield 13, 3) := by decide +kernel
theorem dX12_init_20 : decode cX12_init 20 = .ok (.aload_n 0, 1) := by decide +kernel
theorem dX12_init_21 : decode cX12_init 21 = .ok (.iconst (-1), 1) := by decide +kernel
theorem dX12_init_22 : decode cX12_init 22 = .ok (.putfield 17, 3) := by decide +kernel
theorem dX12_init_25 : decode cX12_init 25 = .ok (.aload_n 0, 1) := by decide +kernel
theorem dX12_init_26 : decode cX12_init 26 = .ok (.sipush 1232, 3) := by decide +kernel
theorem dX12_init_29 : decode cX12_init 29 = .ok (.newarray .int, 2) := by decide +kernel
theorem dX12_init_31 : decode cX12_init 31 = .ok (.putfield 21, 3) := by decide +kernel
theorem dX12_init_34 : decode cX12_init 34 = .ok (.aload_n 0, 1) := by decide +kernel
theorem dX12_init_35 : decode cX12_init 35 = .ok (.sipush 1232, 3) := by decide +kernel
theorem dX12_init_38 : decode cX12_init 38 = .ok (.newarray .int, 2) := by decide +kernel
theorem dX12_init_40 : decode cX12_init 40 = .ok (.putfield 24, 3) := by decide +kernel
theorem dX12_init_43 : decode cX12_init 43 = .ok (.aload_n 0, 1) := by decide +kernel
theorem dX12_init_44 : decode cX12_init 44 = .ok (.bipush 6, 2) := by decide +kernel
theorem dX12_init_46 : decode cX12_init 46 = .ok (.newarray .int, 2) := by decide +kernel
theorem dX12_init_48 : decode cX12_init 48 = .ok (.putfield 27, 3) := by decide +kernel
theorem dX12_init_51 : decode cX12_init 51 = .ok (.aload_n 0, 1) := by decide +kernel
theorem dX12_init_52 : decode cX12_init 52 = .ok (.bipush 6, 2) := by decide +kernel
theorem dX12_init_54 : decode cX12_init 54 = .ok (.newarray .int, 2) := by decide +kernel
theorem dX12_init_56 : decode cX12_init 56 = .ok (.putfield 30, 3) := by decide +kernel
theorem dX12_init_59 : decode cX12_init 59 = .ok (.aload_n 0, 1) := by decide +kernel
theorem dX12_init_60 : decode cX12_init 60 = .ok (.iconst (-1), 1) := by decide +kernel
theorem dX12_init_61 : decode cX12_init 61 = .ok (.putfield 33, 3) := by decide +kernel
theorem dX12_init_64 : decode cX12_init 64 = .ok (.aload_n 0, 1) := by decide +kernel
theorem dX12_init_65 : decode cX12_init 65 = .ok (.bipush 56, 2) := by decide +kernel
theorem dX12_init_67 : decode cX12_init 67 = .ok (.newarray .boolean, 2) := by decide +kernel
theorem dX12_init_69 : decode cX12_init 69 = .ok (.putfield 36, 3) := by decide +kernel
theorem dX12_init_72 : decode cX12_init 72 = .ok (.aload_n 0, 1) := by decide +kernel
theorem dX12_init_73 : decode cX12_init 73 = .ok (.bipush 56, 2) := by decide +kernel
theorem dX12_init_75 : decode cX12_init 75 = .ok (.newarray .int, 2) := by decide +kernel
theorem dX12_init_77 : decode cX12_init 77 = .ok (.putfield 40, 3) := by decide +kernel
theorem dX12_init_80 : decode cX12_init 80 = .ok (.aload_n 0, 1) := by decide +kernel
theorem dX12_init_81 : decode cX12_init 81 = .ok (.bipush 56, 2) := by decide +kernel
theorem dX12_init_83 : decode cX12_init 83 = .ok (.newarray .int, 2) := by decide +kernel
theorem dX12_init_85 : decode cX12_init 85 = .ok (.putfield 43, 3) := by decide +kernel
theorem dX12_init_88 : decode cX12_init 88 = .ok (.aload_n 0, 1) := by decide +kernel
theorem dX12_init_89 : decode cX12_init 89 = .ok (.bipush 56, 2) := by decide +kernel
theorem dX12_init_91 : decode cX12_init 91 = .ok (.newarray .long, 2) := by decide +kernel
theorem dX12_init_93 : decode cX12_init 93 = .ok (.putfield 46, 3) := by decide +kernel
theorem dX12_init_96 : decode cX12_init 96 = .ok (.aload_n 0, 1) := by decide +kernel
theorem dX12_init_97 : decode cX12_init 97 = .ok (.sipush 4096, 3) := by decide +kernel
theorem dX12_init_100 : decode cX12_init 100 = .ok (.newarray .int, 2) := by decide +kernel
theorem dX12_init_102 : decode cX12_init 102 = .ok (.putfield 50, 3) := by decide +kernel
theorem dX12_init_105 : decode cX12_init 105 = .ok (.aload_n 0, 1) := by decide +kernel
theorem dX12_init_106 : decode cX12_init 106 = .ok (.sipush 4096, 3) := by decide +kernel
theorem dX12_init_109 : decode cX12_init 109 = .ok (.newarray .int, 2) := by decide +kernel
theorem dX12_init_111 : decode cX12_init 111 = .ok (.putfield 53, 3) := by decide +kernel
theorem dX12_init_114 : decode cX12_init 114 = .ok (.aload_n 0, 1) := by decide +kernel
theorem dX12_init_115 : decode cX12_init 115 = .ok (.bipush 64, 2) := by decide +kernel
theorem dX12_init_117 : decode cX12_init 117 = .ok (.newarray .int, 2) := by decide +kernel
theorem dX12_init_119 : decode cX12_init 119 = .ok (.putfield 56, 3) := by decide +kernel
theorem dX12_init_122 : decode cX12_init 122 = .ok (.aload_n 0, 1) := by decide +kernel
theorem dX12_init_123 : decode cX12_init 123 = .ok (.bipush 64, 2) := by decide +kernel
theorem dX12_init_125 : decode cX12_init 125 = .ok (.newarray .int, 2) := by decide +kernel
theorem dX12_init_127 : decode cX12_init 127 = .ok (.putfield 59, 3) := by decide +kernel
theorem dX12_init_130 : decode cX12_init 130 = .ok (.aload_n 0, 1) := by decide +kernel
theorem dX12_init_131 : decode cX12_init 131 = .ok (.sipush 20000, 3) := by decide +kernel
theorem dX12_init_134 : decode cX12_init 134 = .ok (.newarray .byte, 2) := by decide +kernel
theorem dX12_init_136 : decode cX12_init 136 = .ok (.putfield 62, 3) := by decide +kernel
theorem dX12_init_139 : decode cX12_init 139 = .ok (.aload_n 0, 1) := by decide +kernel
theorem dX12_init_140 : decode cX12_init 140 = .ok (.bipush 56, 2) := by decide +kernel
theorem dX12_init_142 : decode cX12_init 142 = .ok (.newarray .int, 2) := by decide +kernel
theorem dX12_init_144 : decode cX12_init 144 = .ok (.putfield 65, 3) := by decide +kernel
theorem dX12_init_147 : decode cX12_init 147 = .ok (.aload_n 0, 1) := by decide +kernel
theorem dX12_init_148 : decode cX12_init 148 = .ok (.sipush 20000, 3) := by decide +kernel
theorem dX12_init_151 : decode cX12_init 151 = .ok (.newarray .byte, 2) := by decide +kernel
theorem dX12_init_153 : decode cX12_init 153 = .ok (.putfield 68, 3) := by decide +kernel
theorem dX12_init_156 : decode cX12_init 156 = .ok (.aload_n 0, 1) := by decide +kernel
theorem dX12_init_157 : decode cX12_init 157 = .ok (.bipush 16, 2) := by decide +kernel
theorem dX12_init_159 : decode cX12_init 159 = .ok (.newarray .long, 2) := by decide +kernel
theorem dX12_init_161 : decode cX12_init 161 = .ok (.putfield 71, 3) := by decide +kernel
theorem dX12_init_164 : decode cX12_init 164 = .ok (.return_, 1) := by decide +kernel
theorem dX12_isIn_0 : decode cX12_isIn 0 = .ok (.iload_n 0, 1) := by decide +kernel
theorem dX12_isIn_1 : decode cX12_isIn 1 = .ok (.iload_n 1, 1) := by decide +kernel
theorem dX12_isIn_2 : decode cX12_isIn 2 = .ok (.ishr, 1) := by decide +kernel
theorem dX12_isIn_3 : decode cX12_isIn 3 = .ok (.iconst 1, 1) := by decide +kernel
theorem dX12_isIn_4 : decode cX12_isIn 4 = .ok (.iand, 1) := by decide +kernel
theorem dX12_isIn_5 : decode cX12_isIn 5 = .ok (.iconst 1, 1) := by decide +kernel
theorem dX12_isIn_6 : decode cX12_isIn 6 = .ok (.if_icmp .ne 7, 3) := by decide +kernel
theorem dX12_isIn_13 : decode cX12_isIn 13 = .ok (.iconst 0, 1) := by decide +kernel
theorem dX12_isIn_14 : decode cX12_isIn 14 = .ok (.ireturn, 1) := by decide +kernel
theorem dX12_line_0 : decode cX12_line 0 = .ok (.aload_n 0, 1) := by decide +kernel
theorem dX12_line_1 : decode cX12_line 1 = .ok (.iconst 0, 1) := by decide +kernel
theorem dX12_line_2 : decode cX12_line 2 = .ok (.putfield 74, 3) := by decide +kernel
theorem dX12_line_5 : decode cX12_line 5 = .ok (.aload_n 0, 1) := by decide +kernel
theorem dX12_line_6 : decode cX12_line 6 = .ok (.iload_n 1, 1) := by decide +kernel
theorem dX12_line_7 : decode cX12_line 7 = .ok (.invokevirtual 312, 3) := by decide +kernel
theorem dX12_line_10 : decode cX12_line 10 = .ok (.ifCond .ne 25, 3) := by decide +kernel
theorem dX12_line_35 : decode cX12_line 35 = .ok (.iconst 0, 1) := by decide +kernel
theorem dX12_line_36 : decode cX12_line 36 = .ok (.ireturn, 1) := by decide +kernel
theorem dX12_lits_0 : decode cX12_lits 0 = .ok (.aload_n 0, 1) := by decide +kernel
theorem dX12_lits_1 : decode cX12_lits 1 = .ok (.iconst 0, 1) := by decide +kernel
theorem dX12_lits_2 : decode cX12_lits 2 = .ok (.putfield 74, 3) := by decide +kernel
theorem dX12_lits_5 : decode cX12_lits 5 = .ok (.aload_n 0, 1) := by decide +kernel
theorem dX12_lits_6 : decode cX12_lits 6 = .ok (.iload_n 1, 1) := by decide +kernel
theorem dX12_lits_7 : decode cX12_lits 7 = .ok (.invokevirtual 312, 3) := by decide +kernel
theorem dX12_lits_10 : decode cX12_lits 10 = .ok (.ifCond .ne 16, 3) := by decide +kernel
theorem dX12_lits_26 : decode cX12_lits 26 = .ok (.iconst 0, 1) := by decide +kernel
theorem dX12_lits_27 : decode cX12_lits 27 = .ok (.ireturn, 1) := by decide +kernel
theorem dX12_measure_0 : decode cX12_measure 0 = .ok (.aload_n 0, 1) := by decide +kernel
theorem dX12_measure_1 : decode cX12_measure 1 = .ok (.iconst 0, 1) := by decide +kernel
theorem dX12_measure_2 : decode cX12_measure 2 = .ok (.putfield 74, 3) := by decide +kernel
theorem dX12_measure_5 : decode cX12_measure 5 = .ok (.aload_n 0, 1) := by decide +kernel
theorem dX12_measure_6 : decode cX12_measure 6 = .ok (.iload_n 1, 1) := by decide +kernel
theorem dX12_measure_7 : decode cX12_measure 7 = .ok (.invokevirtual 312, 3) := by decide +kernel
theorem dX12_measure_10 : decode cX12_measure 10 = .ok (.ifCond .ne 25, 3) := by decide +kernel
theorem dX12_measure_35 : decode cX12_measure 35 = .ok (.iconst 0, 1) := by decide +kernel
theorem dX12_measure_36 : decode cX12_measure 36 = .ok (.ireturn, 1) := by decide +kernel
theorem dX12_needs_0 : decode cX12_needs 0 = .ok (.aload_n 0, 1) := by decide +kernel
theorem dX12_needs_1 : decode cX12_needs 1 = .ok (.iconst 0, 1) := by decide +kernel
theorem dX12_needs_2 : decode cX12_needs 2 = .ok (.putfield 74, 3) := by decide +kernel
theorem dX12_needs_5 : decode cX12_needs 5 = .ok (.aload_n 0, 1) := by decide +kernel
theorem dX12_needs_6 : decode cX12_needs 6 = .ok (.iload_n 1, 1) := by decide +kernel
theorem dX12_needs_7 : decode cX12_needs 7 = .ok (.invokevirtual 312, 3) := by decide +kernel
theorem dX12_needs_10 : decode cX12_needs 10 = .ok (.ifCond .ne 11, 3) := by decide +kernel
theorem dX12_needs_21 : decode cX12_needs 21 = .ok (.iconst 0, 1) := by decide +kernel
theorem dX12_needs_22 : decode cX12_needs 22 = .ok (.ireturn, 1) := by decide +kernel
theorem dX12_noLine_0 : decode cX12_noLine 0 = .ok (.aload_n 0, 1) := by decide +kernel
theorem dX12_noLine_1 : decode cX12_noLine 1 = .ok (.iload_n 1, 1) := by decide +kernel
theorem dX12_noLine_2 : decode cX12_noLine 2 = .ok (.iconst 0, 1) := by decide +kernel
theorem dX12_noLine_3 : decode cX12_noLine 3 = .ok (.aload_n 0, 1) := by decide +kernel
theorem dX12_noLine_4 : decode cX12_noLine 4 = .ok (.getfield 226, 3) := by decide +kernel
theorem dX12_noLine_7 : decode cX12_noLine 7 = .ok (.iconst 1, 1) := by decide +kernel
theorem dX12_noLine_8 : decode cX12_noLine 8 = .ok (.isub, 1) := by decide +kernel
theorem dX12_noLine_9 : decode cX12_noLine 9 = .ok (.invokestatic 131, 3) := by decide +kernel
theorem dX12_noLine_12 : decode cX12_noLine 12 = .ok (.ifCond .ne 7, 3) := by decide +kernel
theorem dX12_noLine_15 : decode cX12_noLine 15 = .ok (.iconst 1, 1) := by decide +kernel
theorem dX12_noLine_16 : decode cX12_noLine 16 = .ok (.goto 4, 3) := by decide +kernel
theorem dX12_noLine_20 : decode cX12_noLine 20 = .ok (.iconst 1, 1) := by decide +kernel
theorem dX12_noLine_21 : decode cX12_noLine 21 = .ok (.invokevirtual 213, 3) := by decide +kernel
theorem dX12_noLine_24 : decode cX12_noLine 24 = .ok (.ireturn, 1) := by decide +kernel
theorem dX12_node_0 : decode cX12_node 0 = .ok (.aload_n 0, 1) := by decide +kernel
theorem dX12_node_1 : decode cX12_node 1 = .ok (.iconst 0, 1) := by decide +kernel
theorem dX12_node_2 : decode cX12_node 2 = .ok (.putfield 74, 3) := by decide +kernel
theorem dX12_node_5 : decode cX12_node 5 = .ok (.iload_n 1, 1) := by decide +kernel
theorem dX12_node_6 : decode cX12_node 6 = .ok (.iconst 0, 1) := by decide +kernel
theorem dX12_node_7 : decode cX12_node 7 = .ok (.iconst 2, 1) := by decide +kernel
theorem dX12_node_8 : decode cX12_node 8 = .ok (.invokestatic 131, 3) := by decide +kernel
theorem dX12_node_11 : decode cX12_node 11 = .ok (.ifCond .ne 28, 3) := by decide +kernel
theorem dX12_node_14 : decode cX12_node 14 = .ok (.iload_n 1, 1) := by decide +kernel
theorem dX12_node_15 : decode cX12_node 15 = .ok (.bipush 10, 2) := by decide +kernel
theorem dX12_node_17 : decode cX12_node 17 = .ok (.bipush 15, 2) := by decide +kernel
theorem dX12_node_19 : decode cX12_node 19 = .ok (.invokestatic 131, 3) := by decide +kernel
theorem dX12_node_22 : decode cX12_node 22 = .ok (.ifCond .eq 21, 3) := by decide +kernel
theorem dX12_node_25 : decode cX12_node 25 = .ok (.aload_n 0, 1) := by decide +kernel
theorem dX12_node_26 : decode cX12_node 26 = .ok (.getfield 220, 3) := by decide +kernel
theorem dX12_node_29 : decode cX12_node 29 = .ok (.iload_n 1, 1) := by decide +kernel
theorem dX12_node_30 : decode cX12_node 30 = .ok (.bipush 10, 2) := by decide +kernel
theorem dX12_node_32 : decode cX12_node 32 = .ok (.isub, 1) := by decide +kernel
theorem dX12_node_33 : decode cX12_node 33 = .ok (.invokestatic 138, 3) := by decide +kernel
theorem dX12_node_36 : decode cX12_node 36 = .ok (.ifCond .eq 7, 3) := by decide +kernel
theorem dX12_node_39 : decode cX12_node 39 = .ok (.iconst 1, 1) := by decide +kernel
theorem dX12_node_40 : decode cX12_node 40 = .ok (.goto 4, 3) := by decide +kernel
theorem dX12_node_43 : decode cX12_node 43 = .ok (.iconst 0, 1) := by decide +kernel
theorem dX12_node_44 : decode cX12_node 44 = .ok (.istore_n 2, 1) := by decide +kernel
theorem dX12_node_45 : decode cX12_node 45 = .ok (.aload_n 0, 1) := by decide +kernel
theorem dX12_node_46 : decode cX12_node 46 = .ok (.iload_n 2, 1) := by decide +kernel
theorem dX12_node_47 : decode cX12_node 47 = .ok (.ifCond .ne 7, 3) := by decide +kernel
theorem dX12_node_50 : decode cX12_node 50 = .ok (.iconst 1, 1) := by decide +kernel
theorem dX12_node_51 : decode cX12_node 51 = .ok (.goto 4, 3) := by decide +kernel
theorem dX12_node_54 : decode cX12_node 54 = .ok (.iconst 0, 1) := by decide +kernel
theorem dX12_node_55 : decode cX12_node 55 = .ok (.iconst 1, 1) := by decide +kernel
theorem dX12_node_56 : decode cX12_node 56 = .ok (.invokevirtual 213, 3) := by decide +kernel
theorem dX12_node_59 : decode cX12_node 59 = .ok (.ifCond .eq 5, 3) := by decide +kernel
theorem dX12_node_62 : decode cX12_node 62 = .ok (.iconst 0, 1) := by decide +kernel
theorem dX12_node_63 : decode cX12_node 63 = .ok (.ireturn, 1) := by decide +kernel
theorem dX12_node_64 : decode cX12_node 64 = .ok (.iload_n 1, 1) := by decide +kernel
theorem dX12_node_65 : decode cX12_node 65 = .ok (.bipush 10, 2) := by decide +kernel
theorem dX12_node_67 : decode cX12_node 67 = .ok (.if_icmp .lt 13, 3) := by decide +kernel
theorem dX12_node_80 : decode cX12_node 80 = .ok (.iconst 0, 1) := by decide +kernel
theorem dX12_node_81 : decode cX12_node 81 = .ok (.istore_n 3, 1) := by decide +kernel
theorem dX12_node_82 : decode cX12_node 82 = .ok (.iconst 0, 1) := by decide +kernel
theorem dX12_node_83 : decode cX12_node 83 = .ok (.istore 4, 2) := by decide +kernel
theorem dX12_node_85 : decode cX12_node 85 = .ok (.iload 4, 2) := by decide +kernel
theorem dX12_node_87 : decode cX12_node 87 = .ok (.bipush 6, 2) := by decide +kernel
theorem dX12_node_89 : decode cX12_node 89 = .ok (.if_icmp .ge 42, 3) := by decide +kernel
theorem dX12_node_92 : decode cX12_node 92 = .ok (.iload_n 3, 1) := by decide +kernel
theorem dX12_node_93 : decode cX12_node 93 = .ok (.aload_n 0, 1) := by decide +kernel
theorem dX12_node_94 : decode cX12_node 94 = .ok (.getfield 220, 3) := by decide +kernel
theorem dX12_node_97 : decode cX12_node 97 = .ok (.iload 4, 2) := by decide +kernel
theorem dX12_node_99 : decode cX12_node 99 = .ok (.invokestatic 138, 3) := by decide +kernel
theorem dX12_node_102 : decode cX12_node 102 = .ok (.ifCond .eq 20, 3) := by decide +kernel
theorem dX12_node_122 : decode cX12_node 122 = .ok (.iconst 0, 1) := by decide +kernel
theorem dX12_node_123 : decode cX12_node 123 = .ok (.ior, 1) := by decide +kernel
theorem dX12_node_124 : decode cX12_node 124 = .ok (.istore_n 3, 1) := by decide +kernel
theorem dX12_node_125 : decode cX12_node 125 = .ok (.iinc 4 1, 3) := by decide +kernel
theorem dX12_node_128 : decode cX12_node 128 = .ok (.goto (-43), 3) := by decide +kernel
theorem dX12_node_131 : decode cX12_node 131 = .ok (.iload_n 1, 1) := by decide +kernel
theorem dX12_node_132 : decode cX12_node 132 = .ok (.ifCond .ne 10, 3) := by decide +kernel
theorem dX12_node_135 : decode cX12_node 135 = .ok (.aload_n 0, 1) := by decide +kernel
theorem dX12_node_136 : decode cX12_node 136 = .ok (.getfield 220, 3) := by decide +kernel
theorem dX12_node_139 : decode cX12_node 139 = .ok (.goto 16, 3) := by decide +kernel
theorem dX12_node_142 : decode cX12_node 142 = .ok (.iload_n 1, 1) := by decide +kernel
theorem dX12_node_143 : decode cX12_node 143 = .ok (.iconst 1, 1) := by decide +kernel
theorem dX12_node_144 : decode cX12_node 144 = .ok (.if_icmp .ne 7, 3) := by decide +kernel
theorem dX12_node_147 : decode cX12_node 147 = .ok (.iload_n 3, 1) := by decide +kernel
theorem dX12_node_148 : decode cX12_node 148 = .ok (.goto 7, 3) := by decide +kernel
theorem dX12_node_151 : decode cX12_node 151 = .ok (.aload_n 0, 1) := by decide +kernel
theorem dX12_node_152 : decode cX12_node 152 = .ok (.getfield 33, 3) := by decide +kernel
theorem dX12_node_155 : decode cX12_node 155 = .ok (.ireturn, 1) := by decide +kernel
theorem dX12_octet_0 : decode cX12_octet 0 = .ok (.aload_n 0, 1) := by decide +kernel
theorem dX12_octet_1 : decode cX12_octet 1 = .ok (.iconst 0, 1) := by decide +kernel
theorem dX12_octet_2 : decode cX12_octet 2 = .ok (.putfield 74, 3) := by decide +kernel
theorem dX12_octet_5 : decode cX12_octet 5 = .ok (.iload_n 1, 1) := by decide +kernel
theorem dX12_octet_6 : decode cX12_octet 6 = .ok (.iconst 0, 1) := by decide +kernel
theorem dX12_octet_7 : decode cX12_octet 7 = .ok (.aload_n 0, 1) := by decide +kernel
theorem dX12_octet_8 : decode cX12_octet 8 = .ok (.getfield 384, 3) := by decide +kernel
theorem dX12_octet_11 : decode cX12_octet 11 = .ok (.iconst 1, 1) := by decide +kernel
theorem dX12_octet_12 : decode cX12_octet 12 = .ok (.isub, 1) := by decide +kernel
theorem dX12_octet_13 : decode cX12_octet 13 = .ok (.invokestatic 131, 3) := by decide +kernel
theorem dX12_octet_16 : decode cX12_octet 16 = .ok (.ifCond .eq 12, 3) := by decide +kernel
theorem dX12_octet_28 : decode cX12_octet 28 = .ok (.iconst (-1), 1) := by decide +kernel
theorem dX12_octet_29 : decode cX12_octet 29 = .ok (.ireturn, 1) := by decide +kernel
theorem dX12_often_0 : decode cX12_often 0 = .ok (.aload_n 0, 1) := by decide +kernel
theorem dX12_often_1 : decode cX12_often 1 = .ok (.iconst 0, 1) := by decide +kernel
theorem dX12_often_2 : decode cX12_often 2 = .ok (.putfield 74, 3) := by decide +kernel
theorem dX12_often_5 : decode cX12_often 5 = .ok (.aload_n 0, 1) := by decide +kernel
theorem dX12_often_6 : decode cX12_often 6 = .ok (.iload_n 1, 1) := by decide +kernel
theorem dX12_often_7 : decode cX12_often 7 = .ok (.invokevirtual 312, 3) := by decide +kernel
theorem dX12_often_10 : decode cX12_often 10 = .ok (.ifCond .eq 7, 3) := by decide +kernel
theorem dX12_often_13 : decode cX12_often 13 = .ok (.iconst 0, 1) := by decide +kernel
theorem dX12_often_14 : decode cX12_often 14 = .ok (.goto 11, 3) := by decide +kernel
theorem dX12_often_25 : decode cX12_often 25 = .ok (.ireturn, 1) := by decide +kernel
theorem dX12_pebbled_0 : decode cX12_pebbled 0 = .ok (.aload_n 0, 1) := by decide +kernel
theorem dX12_pebbled_1 : decode cX12_pebbled 1 = .ok (.iconst 0, 1) := by decide +kernel
theorem dX12_pebbled_2 : decode cX12_pebbled 2 = .ok (.putfield 74, 3) := by decide +kernel
theorem dX12_pebbled_5 : decode cX12_pebbled 5 = .ok (.aload_n 0, 1) := by decide +kernel
theorem dX12_pebbled_6 : decode cX12_pebbled 6 = .ok (.iload_n 1, 1) := by decide +kernel
theorem dX12_pebbled_7 : decode cX12_pebbled 7 = .ok (.iconst 0, 1) := by decide +kernel
theorem dX12_pebbled_8 : decode cX12_pebbled 8 = .ok (.bipush 6, 2) := by decide +kernel
theorem dX12_pebbled_10 : decode cX12_pebbled 10 = .ok (.invokestatic 131, 3) := by decide +kernel
theorem dX12_pebbled_13 : decode cX12_pebbled 13 = .ok (.ifCond .ne 7, 3) := by decide +kernel
theorem dX12_pebbled_16 : decode cX12_pebbled 16 = .ok (.iconst 1, 1) := by decide +kernel
theorem dX12_pebbled_17 : decode cX12_pebbled 17 = .ok (.goto 4, 3) := by decide +kernel
theorem dX12_pebbled_20 : decode cX12_pebbled 20 = .ok (.iconst 0, 1) := by decide +kernel
theorem dX12_pebbled_21 : decode cX12_pebbled 21 = .ok (.iconst 1, 1) := by decide +kernel
theorem dX12_pebbled_22 : decode cX12_pebbled 22 = .ok (.invokevirtual 213, 3) := by decide +kernel
theorem dX12_pebbled_25 : decode cX12_pebbled 25 = .ok (.ifCond .eq 5, 3) := by decide +kernel
theorem dX12_pebbled_28 : decode cX12_pebbled 28 = .ok (.iconst 0, 1) := by decide +kernel
theorem dX12_pebbled_29 : decode cX12_pebbled 29 = .ok (.ireturn, 1) := by decide +kernel
theorem dX12_pebbled_30 : decode cX12_pebbled 30 = .ok (.aload_n 0, 1) := by decide +kernel
theorem dX12_pebbled_31 : decode cX12_pebbled 31 = .ok (.iload_n 1, 1) := by decide +kernel
theorem dX12_pebbled_32 : decode cX12_pebbled 32 = .ok (.invokevirtual 381, 3) := by decide +kernel
theorem dX12_pebbled_35 : decode cX12_pebbled 35 = .ok (.ireturn, 1) := by decide +kernel
theorem dX12_pebbledBy_0 : decode cX12_pebbledBy 0 = .ok (.aload_n 0, 1) := by decide +kernel
theorem dX12_pebbledBy_1 : decode cX12_pebbledBy 1 = .ok (.getfield 33, 3) := by decide +kernel
theorem dX12_pebbledBy_4 : decode cX12_pebbledBy 4 = .ok (.iconst (-1), 1) := by decide +kernel
theorem dX12_pebbledBy_5 : decode cX12_pebbledBy 5 = .ok (.if_icmp .ne 5, 3) := by decide +kernel
theorem dX12_pebbledBy_8 : decode cX12_pebbledBy 8 = .ok (.iconst (-1), 1) := by decide +kernel
theorem dX12_pebbledBy_9 : decode cX12_pebbledBy 9 = .ok (.ireturn, 1) := by decide +kernel
theorem dX12_pebbles_0 : decode cX12_pebbles 0 = .ok (.aload_n 0, 1) := by decide +kernel
theorem dX12_pebbles_1 : decode cX12_pebbles 1 = .ok (.iconst 0, 1) := by decide +kernel
theorem dX12_pebbles_2 : decode cX12_pebbles 2 = .ok (.putfield 74, 3) := by decide +kernel
theorem dX12_pebbles_5 : decode cX12_pebbles 5 = .ok (.iconst 0, 1) := by decide +kernel
theorem dX12_pebbles_6 : decode cX12_pebbles 6 = .ok (.istore_n 1, 1) := by decide +kernel
theorem dX12_pebbles_7 : decode cX12_pebbles 7 = .ok (.iload_n 1, 1) := by decide +kernel
theorem dX12_pebbles_8 : decode cX12_pebbles 8 = .ok (.bipush 6, 2) := by decide +kernel
theorem dX12_pebbles_10 : decode cX12_pebbles 10 = .ok (.if_icmp .gt 28, 3) := by decide +kernel
theorem dX12_pebbles_13 : decode cX12_pebbles 13 = .ok (.aload_n 0, 1) := by decide +kernel
theorem dX12_pebbles_14 : decode cX12_pebbles 14 = .ok (.getfield 33, 3) := by decide +kernel
theorem dX12_pebbles_17 : decode cX12_pebbles 17 = .ok (.iconst (-1), 1) := by decide +kernel
theorem dX12_pebbles_18 : decode cX12_pebbles 18 = .ok (.if_icmp .eq 20, 3) := by decide +kernel
theorem dX12_pebbles_38 : decode cX12_pebbles 38 = .ok (.iconst (-1), 1) := by decide +kernel
theorem dX12_pebbles_39 : decode cX12_pebbles 39 = .ok (.ireturn, 1) := by decide +kernel
theorem dX12_plane_0 : decode cX12_plane 0 = .ok (.aload_n 0, 1) := by decide +kernel
theorem dX12_plane_1 : decode cX12_plane 1 = .ok (.iconst 0, 1) := by decide +kernel
theorem dX12_plane_2 : decode cX12_plane 2 = .ok (.putfield 74, 3) := by decide +kernel
theorem dX12_plane_5 : decode cX12_plane 5 = .ok (.aload_n 0, 1) := by decide +kernel
theorem dX12_plane_6 : decode cX12_plane 6 = .ok (.iload_n 1, 1) := by decide +kernel
theorem dX12_plane_7 : decode cX12_plane 7 = .ok (.invokevirtual 312, 3) := by decide +kernel
theorem dX12_plane_10 : decode cX12_plane 10 = .ok (.ifCond .ne 46, 3) := by decide +kernel
theorem dX12_plane_56 : decode cX12_plane 56 = .ok (.iconst 0, 1) := by decide +kernel
theorem dX12_plane_57 : decode cX12_plane 57 = .ok (.ireturn, 1) := by decide +kernel
theorem dX12_pure_0 : decode cX12_pure 0 = .ok (.aload_n 0, 1) := by decide +kernel
theorem dX12_pure_1 : decode cX12_pure 1 = .ok (.iconst 0, 1) := by decide +kernel
theorem dX12_pure_2 : decode cX12_pure 2 = .ok (.putfield 74, 3) := by decide +kernel
theorem dX12_pure_5 : decode cX12_pure 5 = .ok (.iconst 0, 1) := by decide +kernel
theorem dX12_pure_6 : decode cX12_pure 6 = .ok (.istore_n 2, 1) := by decide +kernel
theorem dX12_pure_7 : decode cX12_pure 7 = .ok (.iconst 0, 1) := by decide +kernel
theorem dX12_pure_8 : decode cX12_pure 8 = .ok (.istore_n 3, 1) := by decide +kernel
theorem dX12_pure_9 : decode cX12_pure 9 = .ok (.iconst 0, 1) := by decide +kernel
theorem dX12_pure_10 : decode cX12_pure 10 = .ok (.istore 4, 2) := by decide +kernel
theorem dX12_pure_12 : decode cX12_pure 12 = .ok (.iload 4, 2) := by decide +kernel
theorem dX12_pure_14 : decode cX12_pure 14 = .ok (.aload_n 0, 1) := by decide +kernel
theorem dX12_pure_15 : decode cX12_pure 15 = .ok (.getfield 217, 3) := by decide +kernel
theorem dX12_pure_18 : decode cX12_pure 18 = .ok (.if_icmp .ge 75, 3) := by decide +kernel
theorem dX12_pure_93 : decode cX12_pure 93 = .ok (.iload_n 1, 1) := by decide +kernel
theorem dX12_pure_94 : decode cX12_pure 94 = .ok (.ifCond .eq 11, 3) := by decide +kernel
theorem dX12_pure_97 : decode cX12_pure 97 = .ok (.iload_n 3, 1) := by decide +kernel
theorem dX12_pure_98 : decode cX12_pure 98 = .ok (.iload_n 2, 1) := by decide +kernel
theorem dX12_pure_99 : decode cX12_pure 99 = .ok (.iconst (-1), 1) := by decide +kernel
theorem dX12_pure_100 : decode cX12_pure 100 = .ok (.ixor, 1) := by decide +kernel
theorem dX12_pure_101 : decode cX12_pure 101 = .ok (.iand, 1) := by decide +kernel
theorem dX12_pure_102 : decode cX12_pure 102 = .ok (.goto 8, 3) := by decide +kernel
theorem dX12_pure_105 : decode cX12_pure 105 = .ok (.iload_n 2, 1) := by decide +kernel
theorem dX12_pure_106 : decode cX12_pure 106 = .ok (.iload_n 3, 1) := by decide +kernel
theorem dX12_pure_107 : decode cX12_pure 107 = .ok (.iconst (-1), 1) := by decide +kernel
theorem dX12_pure_108 : decode cX12_pure 108 = .ok (.ixor, 1) := by decide +kernel
theorem dX12_pure_109 : decode cX12_pure 109 = .ok (.iand, 1) := by decide +kernel
theorem dX12_pure_110 : decode cX12_pure 110 = .ok (.ireturn, 1) := by decide +kernel
theorem dX12_refutes_0 : decode cX12_refutes 0 = .ok (.aload_n 0, 1) := by decide +kernel
theorem dX12_refutes_1 : decode cX12_refutes 1 = .ok (.iconst 0, 1) := by decide +kernel
theorem dX12_refutes_2 : decode cX12_refutes 2 = .ok (.putfield 74, 3) := by decide +kernel
theorem dX12_refutes_5 : decode cX12_refutes 5 = .ok (.iconst 0, 1) := by decide +kernel
theorem dX12_refutes_6 : decode cX12_refutes 6 = .ok (.istore_n 1, 1) := by decide +kernel
theorem dX12_refutes_7 : decode cX12_refutes 7 = .ok (.iload_n 1, 1) := by decide +kernel
theorem dX12_refutes_8 : decode cX12_refutes 8 = .ok (.aload_n 0, 1) := by decide +kernel
theorem dX12_refutes_9 : decode cX12_refutes 9 = .ok (.getfield 226, 3) := by decide +kernel
theorem dX12_refutes_12 : decode cX12_refutes 12 = .ok (.if_icmp .ge 19, 3) := by decide +kernel
theorem dX12_refutes_31 : decode cX12_refutes 31 = .ok (.iconst (-1), 1) := by decide +kernel
theorem dX12_refutes_32 : decode cX12_refutes 32 = .ok (.ireturn, 1) := by decide +kernel
theorem dX12_rests_0 : decode cX12_rests 0 = .ok (.aload_n 0, 1) := by decide +kernel
theorem dX12_rests_1 : decode cX12_rests 1 = .ok (.iconst 0, 1) := by decide +kernel
theorem dX12_rests_2 : decode cX12_rests 2 = .ok (.putfield 74, 3) := by decide +kernel
theorem dX12_rests_5 : decode cX12_rests 5 = .ok (.aload_n 0, 1) := by decide +kernel
theorem dX12_rests_6 : decode cX12_rests 6 = .ok (.iload_n 1, 1) := by decide +kernel
theorem dX12_rests_7 : decode cX12_rests 7 = .ok (.invokevirtual 312, 3) := by decide +kernel
theorem dX12_rests_10 : decode cX12_rests 10 = .ok (.ifCond .eq 5, 3) := by decide +kernel
theorem dX12_rests_13 : decode cX12_rests 13 = .ok (.iconst 0, 1) := by decide +kernel
theorem dX12_rests_14 : decode cX12_rests 14 = .ok (.ireturn, 1) := by decide +kernel
theorem dX12_same_0 : decode cX12_same 0 = .ok (.aload_n 0, 1) := by decide +kernel
theorem dX12_same_1 : decode cX12_same 1 = .ok (.iconst 0, 1) := by decide +kernel
theorem dX12_same_2 : decode cX12_same 2 = .ok (.putfield 74, 3) := by decide +kernel
theorem dX12_same_5 : decode cX12_same 5 = .ok (.aload_n 0, 1) := by decide +kernel
theorem dX12_same_6 : decode cX12_same 6 = .ok (.iload_n 1, 1) := by decide +kernel
theorem dX12_same_7 : decode cX12_same 7 = .ok (.invokevirtual 312, 3) := by decide +kernel
theorem dX12_same_10 : decode cX12_same 10 = .ok (.ifCond .eq 5, 3) := by decide +kernel
theorem dX12_same_13 : decode cX12_same 13 = .ok (.iconst 0, 1) := by decide +kernel
theorem dX12_same_14 : decode cX12_same 14 = .ok (.ireturn, 1) := by decide +kernel
theorem dX12_slack_0 : decode cX12_slack 0 = .ok (.aload_n 0, 1) := by decide +kernel
theorem dX12_slack_1 : decode cX12_slack 1 = .ok (.iconst 0, 1) := by decide +kernel
theorem dX12_slack_2 : decode cX12_slack 2 = .ok (.putfield 74, 3) := by decide +kernel
theorem dX12_slack_5 : decode cX12_slack 5 = .ok (.aload_n 0, 1) := by decide +kernel
theorem dX12_slack_6 : decode cX12_slack 6 = .ok (.iload_n 1, 1) := by decide +kernel
theorem dX12_slack_7 : decode cX12_slack 7 = .ok (.invokevirtual 312, 3) := by decide +kernel
theorem dX12_slack_10 : decode cX12_slack 10 = .ok (.ifCond .ne 11, 3) := by decide +kernel
theorem dX12_slack_21 : decode cX12_slack 21 = .ok (.iconst 0, 1) := by decide +kernel
theorem dX12_slack_22 : decode cX12_slack 22 = .ok (.ireturn, 1) := by decide +kernel
theorem dX12_stands_0 : decode cX12_stands 0 = .ok (.aload_n 0, 1) := by decide +kernel
theorem dX12_stands_1 : decode cX12_stands 1 = .ok (.iconst 0, 1) := by decide +kernel
theorem dX12_stands_2 : decode cX12_stands 2 = .ok (.putfield 74, 3) := by decide +kernel
theorem dX12_stands_5 : decode cX12_stands 5 = .ok (.aload_n 0, 1) := by decide +kernel
theorem dX12_stands_6 : decode cX12_stands 6 = .ok (.iload_n 1, 1) := by decide +kernel
theorem dX12_stands_7 : decode cX12_stands 7 = .ok (.iconst 0, 1) := by decide +kernel
theorem dX12_stands_8 : decode cX12_stands 8 = .ok (.iconst 5, 1) := by decide +kernel
theorem dX12_stands_9 : decode cX12_stands 9 = .ok (.invokestatic 131, 3) := by decide +kernel
theorem dX12_stands_12 : decode cX12_stands 12 = .ok (.ifCond .ne 7, 3) := by decide +kernel
theorem dX12_stands_15 : decode cX12_stands 15 = .ok (.iconst 1, 1) := by decide +kernel
theorem dX12_stands_16 : decode cX12_stands 16 = .ok (.goto 4, 3) := by decide +kernel
theorem dX12_stands_19 : decode cX12_stands 19 = .ok (.iconst 0, 1) := by decide +kernel
theorem dX12_stands_20 : decode cX12_stands 20 = .ok (.iconst 1, 1) := by decide +kernel
theorem dX12_stands_21 : decode cX12_stands 21 = .ok (.invokevirtual 213, 3) := by decide +kernel
theorem dX12_stands_24 : decode cX12_stands 24 = .ok (.ifCond .eq 5, 3) := by decide +kernel
theorem dX12_stands_27 : decode cX12_stands 27 = .ok (.iconst 0, 1) := by decide +kernel
theorem dX12_stands_28 : decode cX12_stands 28 = .ok (.ireturn, 1) := by decide +kernel
theorem dX12_stands_29 : decode cX12_stands 29 = .ok (.iconst 0, 1) := by decide +kernel
theorem dX12_stands_30 : decode cX12_stands 30 = .ok (.istore_n 3, 1) := by decide +kernel
theorem dX12_stands_31 : decode cX12_stands 31 = .ok (.iload_n 2, 1) := by decide +kernel
theorem dX12_stands_32 : decode cX12_stands 32 = .ok (.ifCond .eq 10, 3) := by decide +kernel
theorem dX12_stands_35 : decode cX12_stands 35 = .ok (.aload_n 0, 1) := by decide +kernel
theorem dX12_stands_36 : decode cX12_stands 36 = .ok (.getfield 217, 3) := by decide +kernel
theorem dX12_stands_39 : decode cX12_stands 39 = .ok (.goto 4, 3) := by decide +kernel
theorem dX12_stands_42 : decode cX12_stands 42 = .ok (.iconst 0, 1) := by decide +kernel
theorem dX12_stands_43 : decode cX12_stands 43 = .ok (.istore 4, 2) := by decide +kernel
theorem dX12_stands_45 : decode cX12_stands 45 = .ok (.iload 4, 2) := by decide +kernel
theorem dX12_stands_47 : decode cX12_stands 47 = .ok (.iload_n 2, 1) := by decide +kernel
theorem dX12_stands_48 : decode cX12_stands 48 = .ok (.ifCond .eq 10, 3) := by decide +kernel
theorem dX12_stands_51 : decode cX12_stands 51 = .ok (.aload_n 0, 1) := by decide +kernel
theorem dX12_stands_52 : decode cX12_stands 52 = .ok (.getfield 226, 3) := by decide +kernel
theorem dX12_stands_55 : decode cX12_stands 55 = .ok (.goto 7, 3) := by decide +kernel
theorem dX12_stands_58 : decode cX12_stands 58 = .ok (.aload_n 0, 1) := by decide +kernel
theorem dX12_stands_59 : decode cX12_stands 59 = .ok (.getfield 217, 3) := by decide +kernel
theorem dX12_stands_62 : decode cX12_stands 62 = .ok (.if_icmp .ge 30, 3) := by decide +kernel
theorem dX12_stands_92 : decode cX12_stands 92 = .ok (.iload_n 3, 1) := by decide +kernel
theorem dX12_stands_93 : decode cX12_stands 93 = .ok (.ireturn, 1) := by decide +kernel
theorem dX12_throwsIf_0 : decode cX12_throwsIf 0 = .ok (.iload_n 1, 1) := by decide +kernel
theorem dX12_throwsIf_1 : decode cX12_throwsIf 1 = .ok (.ifCond .eq 8, 3) := by decide +kernel
theorem dX12_throwsIf_4 : decode cX12_throwsIf 4 = .ok (.aload_n 0, 1) := by decide +kernel
theorem dX12_throwsIf_5 : decode cX12_throwsIf 5 = .ok (.iload_n 2, 1) := by decide +kernel
theorem dX12_throwsIf_6 : decode cX12_throwsIf 6 = .ok (.putfield 74, 3) := by decide +kernel
theorem dX12_throwsIf_9 : decode cX12_throwsIf 9 = .ok (.iload_n 1, 1) := by decide +kernel
theorem dX12_throwsIf_10 : decode cX12_throwsIf 10 = .ok (.ireturn, 1) := by decide +kernel
theorem dX12_translate_0 : decode cX12_translate 0 = .ok (.aload_n 0, 1) := by decide +kernel
theorem dX12_translate_1 : decode cX12_translate 1 = .ok (.iconst 0, 1) := by decide +kernel
theorem dX12_translate_2 : decode cX12_translate 2 = .ok (.putfield 74, 3) := by decide +kernel
theorem dX12_translate_5 : decode cX12_translate 5 = .ok (.aload_n 0, 1) := by decide +kernel
theorem dX12_translate_6 : decode cX12_translate 6 = .ok (.iload_n 1, 1) := by decide +kernel
theorem dX12_translate_7 : decode cX12_translate 7 = .ok (.invokevirtual 312, 3) := by decide +kernel
theorem dX12_translate_10 : decode cX12_translate 10 = .ok (.ifCond .ne 11, 3) := by decide +kernel
theorem dX12_translate_21 : decode cX12_translate 21 = .ok (.iconst 0, 1) := by decide +kernel
theorem dX12_translate_22 : decode cX12_translate 22 = .ok (.ireturn, 1) := by decide +kernel
theorem dX12_translated_0 : decode cX12_translated 0 = .ok (.aload_n 0, 1) := by decide +kernel
theorem dX12_translated_1 : decode cX12_translated 1 = .ok (.iconst 0, 1) := by decide +kernel
theorem dX12_translated_2 : decode cX12_translated 2 = .ok (.putfield 74, 3) := by decide +kernel
theorem dX12_translated_5 : decode cX12_translated 5 = .ok (.aload_n 0, 1) := by decide +kernel
theorem dX12_translated_6 : decode cX12_translated 6 = .ok (.iload_n 1, 1) := by decide +kernel
theorem dX12_translated_7 : decode cX12_translated 7 = .ok (.invokevirtual 312, 3) := by decide +kernel
theorem dX12_translated_10 : decode cX12_translated 10 = .ok (.ifCond .ne 11, 3) := by decide +kernel
theorem dX12_translated_21 : decode cX12_translated 21 = .ok (.iconst 0, 1) := by decide +kernel
theorem dX12_translated_22 : decode cX12_translated 22 = .ok (.ireturn, 1) := by decide +kernel
theorem dX12_tree_0 : decode cX12_tree 0 = .ok (.aload_n 0, 1) := by decide +kernel
theorem dX12_tree_1 : decode cX12_tree 1 = .ok (.iconst 0, 1) := by decide +kernel
theorem dX12_tree_2 : decode cX12_tree 2 = .ok (.putfield 74, 3) := by decide +kernel
theorem dX12_tree_5 : decode cX12_tree 5 = .ok (.aload_n 0, 1) := by decide +kernel
theorem dX12_tree_6 : decode cX12_tree 6 = .ok (.iload_n 1, 1) := by decide +kernel
theorem dX12_tree_7 : decode cX12_tree 7 = .ok (.invokevirtual 312, 3) := by decide +kernel
theorem dX12_tree_10 : decode cX12_tree 10 = .ok (.ifCond .eq 5, 3) := by decide +kernel
theorem dX12_tree_13 : decode cX12_tree 13 = .ok (.lconst 0, 1) := by decide +kernel
theorem dX12_tree_14 : decode cX12_tree 14 = .ok (.lreturn, 1) := by decide +kernel
theorem dX12_trim_0 : decode cX12_trim 0 = .ok (.aload_n 0, 1) := by decide +kernel
theorem dX12_trim_1 : decode cX12_trim 1 = .ok (.iconst 0, 1) := by decide +kernel
theorem dX12_trim_2 : decode cX12_trim 2 = .ok (.putfield 74, 3) := by decide +kernel
theorem dX12_trim_5 : decode cX12_trim 5 = .ok (.aload_n 0, 1) := by decide +kernel
theorem dX12_trim_6 : decode cX12_trim 6 = .ok (.iload_n 1, 1) := by decide +kernel
theorem dX12_trim_7 : decode cX12_trim 7 = .ok (.invokevirtual 312, 3) := by decide +kernel
theorem dX12_trim_10 : decode cX12_trim 10 = .ok (.ifCond .eq 5, 3) := by decide +kernel
theorem dX12_trim_13 : decode cX12_trim 13 = .ok (.iconst 0, 1) := by decide +kernel
theorem dX12_trim_14 : decode cX12_trim 14 = .ok (.ireturn, 1) := by decide +kernel
theorem dX12_units_0 : decode cX12_units 0 = .ok (.aload_n 0, 1) := by decide +kernel
theorem dX12_units_1 : decode cX12_units 1 = .ok (.iconst 0, 1) := by decide +kernel
theorem dX12_units_2 : decode cX12_units 2 = .ok (.putfield 74, 3) := by decide +kernel
theorem dX12_units_5 : decode cX12_units 5 = .ok (.aload_n 0, 1) := by decide +kernel
theorem dX12_units_6 : decode cX12_units 6 = .ok (.iload_n 1, 1) := by decide +kernel
theorem dX12_units_7 : decode cX12_units 7 = .ok (.iconst 0, 1) := by decide +kernel
theorem dX12_units_8 : decode cX12_units 8 = .ok (.bipush 63, 2) := by decide +kernel
theorem dX12_units_10 : decode cX12_units 10 = .ok (.invokestatic 131, 3) := by decide +kernel
theorem dX12_units_13 : decode cX12_units 13 = .ok (.ifCond .eq 19, 3) := by decide +kernel
theorem dX12_units_16 : decode cX12_units 16 = .ok (.iload_n 2, 1) := by decide +kernel
theorem dX12_units_17 : decode cX12_units 17 = .ok (.iconst 0, 1) := by decide +kernel
theorem dX12_units_18 : decode cX12_units 18 = .ok (.bipush 63, 2) := by decide +kernel
theorem dX12_units_20 : decode cX12_units 20 = .ok (.invokestatic 131, 3) := by decide +kernel
theorem dX12_units_23 : decode cX12_units 23 = .ok (.ifCond .eq 9, 3) := by decide +kernel
theorem dX12_units_26 : decode cX12_units 26 = .ok (.iload_n 1, 1) := by decide +kernel
theorem dX12_units_27 : decode cX12_units 27 = .ok (.iload_n 2, 1) := by decide +kernel
theorem dX12_units_28 : decode cX12_units 28 = .ok (.iand, 1) := by decide +kernel
theorem dX12_units_29 : decode cX12_units 29 = .ok (.ifCond .eq 7, 3) := by decide +kernel
theorem dX12_units_32 : decode cX12_units 32 = .ok (.iconst 1, 1) := by decide +kernel
theorem dX12_units_33 : decode cX12_units 33 = .ok (.goto 4, 3) := by decide +kernel
theorem dX12_units_36 : decode cX12_units 36 = .ok (.iconst 0, 1) := by decide +kernel
theorem dX12_units_37 : decode cX12_units 37 = .ok (.iconst 1, 1) := by decide +kernel
theorem dX12_units_38 : decode cX12_units 38 = .ok (.invokevirtual 213, 3) := by decide +kernel
theorem dX12_units_41 : decode cX12_units 41 = .ok (.ifCond .ne 25, 3) := by decide +kernel
theorem dX12_units_44 : decode cX12_units 44 = .ok (.aload_n 0, 1) := by decide +kernel
theorem dX12_units_45 : decode cX12_units 45 = .ok (.iload_n 3, 1) := by decide +kernel
theorem dX12_units_46 : decode cX12_units 46 = .ok (.iconst 0, 1) := by decide +kernel
theorem dX12_units_47 : decode cX12_units 47 = .ok (.iconst 2, 1) := by decide +kernel
theorem dX12_units_48 : decode cX12_units 48 = .ok (.invokestatic 131, 3) := by decide +kernel
theorem dX12_units_51 : decode cX12_units 51 = .ok (.ifCond .ne 7, 3) := by decide +kernel
theorem dX12_units_54 : decode cX12_units 54 = .ok (.iconst 1, 1) := by decide +kernel
theorem dX12_units_55 : decode cX12_units 55 = .ok (.goto 4, 3) := by decide +kernel
theorem dX12_units_58 : decode cX12_units 58 = .ok (.iconst 0, 1) := by decide +kernel
theorem dX12_units_59 : decode cX12_units 59 = .ok (.iconst 2, 1) := by decide +kernel
theorem dX12_units_60 : decode cX12_units 60 = .ok (.invokevirtual 213, 3) := by decide +kernel
theorem dX12_units_63 : decode cX12_units 63 = .ok (.ifCond .eq 5, 3) := by decide +kernel
theorem dX12_units_66 : decode cX12_units 66 = .ok (.iconst 0, 1) := by decide +kernel
theorem dX12_units_67 : decode cX12_units 67 = .ok (.ireturn, 1) := by decide +kernel
theorem dX12_units_68 : decode cX12_units 68 = .ok (.aload_n 0, 1) := by decide +kernel
theorem dX12_units_69 : decode cX12_units 69 = .ok (.iload_n 1, 1) := by decide +kernel
theorem dX12_units_70 : decode cX12_units 70 = .ok (.putfield 359, 3) := by decide +kernel
theorem dX12_units_73 : decode cX12_units 73 = .ok (.aload_n 0, 1) := by decide +kernel
theorem dX12_units_74 : decode cX12_units 74 = .ok (.iload_n 2, 1) := by decide +kernel
theorem dX12_units_75 : decode cX12_units 75 = .ok (.putfield 356, 3) := by decide +kernel
theorem dX12_units_78 : decode cX12_units 78 = .ok (.iconst 0, 1) := by decide +kernel
theorem dX12_units_79 : decode cX12_units 79 = .ok (.istore 4, 2) := by decide +kernel
theorem dX12_units_81 : decode cX12_units 81 = .ok (.iconst 1, 1) := by decide +kernel
theorem dX12_units_82 : decode cX12_units 82 = .ok (.istore 5, 2) := by decide +kernel
theorem dX12_units_84 : decode cX12_units 84 = .ok (.iload 5, 2) := by decide +kernel
theorem dX12_units_86 : decode cX12_units 86 = .ok (.ifCond .eq 74, 3) := by decide +kernel
theorem dX12_units_89 : decode cX12_units 89 = .ok (.iload 4, 2) := by decide +kernel
theorem dX12_units_91 : decode cX12_units 91 = .ok (.ifCond .ne 69, 3) := by decide +kernel
theorem dX12_units_94 : decode cX12_units 94 = .ok (.iconst 0, 1) := by decide +kernel
theorem dX12_units_95 : decode cX12_units 95 = .ok (.istore 5, 2) := by decide +kernel
theorem dX12_units_97 : decode cX12_units 97 = .ok (.iconst 0, 1) := by decide +kernel
theorem dX12_units_98 : decode cX12_units 98 = .ok (.istore 6, 2) := by decide +kernel
theorem dX12_units_100 : decode cX12_units 100 = .ok (.iload 6, 2) := by decide +kernel
theorem dX12_units_102 : decode cX12_units 102 = .ok (.aload_n 0, 1) := by decide +kernel
theorem dX12_units_103 : decode cX12_units 103 = .ok (.getfield 217, 3) := by decide +kernel
theorem dX12_units_106 : decode cX12_units 106 = .ok (.if_icmp .ge 51, 3) := by decide +kernel
theorem dX12_units_157 : decode cX12_units 157 = .ok (.goto (-73), 3) := by decide +kernel
theorem dX12_units_160 : decode cX12_units 160 = .ok (.iload_n 3, 1) := by decide +kernel
theorem dX12_units_161 : decode cX12_units 161 = .ok (.ifCond .ne 10, 3) := by decide +kernel
theorem dX12_units_164 : decode cX12_units 164 = .ok (.aload_n 0, 1) := by decide +kernel
theorem dX12_units_165 : decode cX12_units 165 = .ok (.getfield 359, 3) := by decide +kernel
theorem dX12_units_168 : decode cX12_units 168 = .ok (.goto 25, 3) := by decide +kernel
theorem dX12_units_171 : decode cX12_units 171 = .ok (.iload_n 3, 1) := by decide +kernel
theorem dX12_units_172 : decode cX12_units 172 = .ok (.iconst 1, 1) := by decide +kernel
theorem dX12_units_173 : decode cX12_units 173 = .ok (.if_icmp .ne 10, 3) := by decide +kernel
theorem dX12_units_176 : decode cX12_units 176 = .ok (.aload_n 0, 1) := by decide +kernel
theorem dX12_units_177 : decode cX12_units 177 = .ok (.getfield 356, 3) := by decide +kernel
theorem dX12_units_180 : decode cX12_units 180 = .ok (.goto 13, 3) := by decide +kernel
theorem dX12_units_183 : decode cX12_units 183 = .ok (.iload 4, 2) := by decide +kernel
theorem dX12_units_185 : decode cX12_units 185 = .ok (.ifCond .eq 7, 3) := by decide +kernel
theorem dX12_units_192 : decode cX12_units 192 = .ok (.iconst 0, 1) := by decide +kernel
theorem dX12_units_193 : decode cX12_units 193 = .ok (.ireturn, 1) := by decide +kernel
theorem dX12_uses_0 : decode cX12_uses 0 = .ok (.aload_n 0, 1) := by decide +kernel
theorem dX12_uses_1 : decode cX12_uses 1 = .ok (.iconst 0, 1) := by decide +kernel
theorem dX12_uses_2 : decode cX12_uses 2 = .ok (.putfield 74, 3) := by decide +kernel
theorem dX12_uses_5 : decode cX12_uses 5 = .ok (.aload_n 0, 1) := by decide +kernel
theorem dX12_uses_6 : decode cX12_uses 6 = .ok (.iload_n 1, 1) := by decide +kernel
theorem dX12_uses_7 : decode cX12_uses 7 = .ok (.invokevirtual 312, 3) := by decide +kernel
theorem dX12_uses_10 : decode cX12_uses 10 = .ok (.ifCond .eq 5, 3) := by decide +kernel
theorem dX12_uses_13 : decode cX12_uses 13 = .ok (.iconst 0, 1) := by decide +kernel
theorem dX12_uses_14 : decode cX12_uses 14 = .ok (.ireturn, 1) := by decide +kernel
theorem dX12_without_0 : decode cX12_without 0 = .ok (.aload_n 0, 1) := by decide +kernel
theorem dX12_without_1 : decode cX12_without 1 = .ok (.iconst 0, 1) := by decide +kernel
theorem dX12_without_2 : decode cX12_without 2 = .ok (.putfield 74, 3) := by decide +kernel
theorem dX12_without_5 : decode cX12_without 5 = .ok (.aload_n 0, 1) := by decide +kernel
theorem dX12_without_6 : decode cX12_without 6 = .ok (.iload_n 1, 1) := by decide +kernel
theorem dX12_without_7 : decode cX12_without 7 = .ok (.iconst 0, 1) := by decide +kernel
theorem dX12_without_8 : decode cX12_without 8 = .ok (.aload_n 0, 1) := by decide +kernel
theorem dX12_without_9 : decode cX12_without 9 = .ok (.getfield 217, 3) := by decide +kernel
theorem dX12_without_12 : decode cX12_without 12 = .ok (.iconst 1, 1) := by decide +kernel
theorem dX12_without_13 : decode cX12_without 13 = .ok (.isub, 1) := by decide +kernel
theorem dX12_without_14 : decode cX12_without 14 = .ok (.invokestatic 131, 3) := by decide +kernel
theorem dX12_without_17 : decode cX12_without 17 = .ok (.ifCond .ne 7, 3) := by decide +kernel
theorem dX12_without_20 : decode cX12_without 20 = .ok (.iconst 1, 1) := by decide +kernel
theorem dX12_without_21 : decode cX12_without 21 = .ok (.goto 4, 3) := by decide +kernel
theorem dX12_without_25 : decode cX12_without 25 = .ok (.iconst 1, 1) := by decide +kernel
theorem dX12_without_26 : decode cX12_without 26 = .ok (.invokevirtual 213, 3) := by decide +kernel
theorem dX12_without_29 : decode cX12_without 29 = .ok (.ifCond .eq 5, 3) := by decide +kernel
theorem dX12_without_32 : decode cX12_without 32 = .ok (.iconst 0, 1) := by decide +kernel
theorem dX12_without_33 : decode cX12_without 33 = .ok (.ireturn, 1) := by decide +kernel
