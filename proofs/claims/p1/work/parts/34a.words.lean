theorem u_49 : Cond.selects RX12 yX12_begins yX12_begins ∈ UU := uu_mem 49 (by decide +kernel) (by decide +kernel)
theorem u_50 : Cond.selects RX12 yX12_blanks yX12_blanks ∈ UU := uu_mem 50 (by decide +kernel) (by decide +kernel)
theorem u_51 : Cond.selects RX12 yX12_isAt yX12_isAt ∈ UU := uu_mem 51 (by decide +kernel) (by decide +kernel)
theorem u_52 : Cond.selects RX12 yX12_hasFailed yX12_hasFailed ∈ UU := uu_mem 52 (by decide +kernel) (by decide +kernel)
theorem u_74 : Cond.selects RX12 yX12_taken yX12_taken ∈ UU := uu_mem 74 (by decide +kernel) (by decide +kernel)
theorem u_92 : Cond.selects RX12 yX12_models yX12_models ∈ UU := uu_mem 92 (by decide +kernel) (by decide +kernel)
theorem u_100 : Cond.selects RX12 yX12_laysWithin yX12_laysWithin ∈ UU := uu_mem 100 (by decide +kernel) (by decide +kernel)
theorem u_120 : Cond.selects RX12 yX12_countOf yX12_countOf ∈ UU := uu_mem 120 (by decide +kernel) (by decide +kernel)
theorem u_121 : Cond.selects RX12 yX12_idle yX12_idle ∈ UU := uu_mem 121 (by decide +kernel) (by decide +kernel)
theorem u_1509 : Cond.fieldLink RX12 83 "PlaneProofModel" "point" "I" ∈ UU := uu_mem 1509 (by decide +kernel) (by decide +kernel)
theorem u_1510 : Cond.fieldLink RX12 93 "PlaneProofModel" "begin" "I" ∈ UU := uu_mem 1510 (by decide +kernel) (by decide +kernel)
theorem u_1511 : Cond.fieldLink RX12 80 "PlaneProofModel" "size" "I" ∈ UU := uu_mem 1511 (by decide +kernel) (by decide +kernel)
theorem u_1512 : Cond.fieldLink RX12 86 "PlaneProofModel" "faultAt" "I" ∈ UU := uu_mem 1512 (by decide +kernel) (by decide +kernel)
theorem u_1518 : Cond.fieldLink RX12 141 "PlaneProofModel" "made" "I" ∈ UU := uu_mem 1518 (by decide +kernel) (by decide +kernel)
theorem u_1523 : Cond.fieldLink RX12 170 "PlaneProofModel" "draftNodes" "I" ∈ UU := uu_mem 1523 (by decide +kernel) (by decide +kernel)
theorem u_1524 : Cond.fieldLink RX12 200 "PlaneProofModel" "draftSink" "I" ∈ UU := uu_mem 1524 (by decide +kernel) (by decide +kernel)
theorem u_1533 : Cond.fieldLink RX12 365 "PlaneProofModel" "listed" "I" ∈ UU := uu_mem 1533 (by decide +kernel) (by decide +kernel)
theorem u_1534 : Cond.fieldLink RX12 368 "PlaneProofModel" "rounds" "I" ∈ UU := uu_mem 1534 (by decide +kernel) (by decide +kernel)
theorem u_1628 : Cond.code yX12_feed cX12_feed 7 (some .int) ∈ UU := uu_mem 1628 (by decide +kernel) (by decide +kernel)
theorem u_1640 : Cond.code yX12_claim cX12_claim 2 (some .int) ∈ UU := uu_mem 1640 (by decide +kernel) (by decide +kernel)
theorem u_1641 : Cond.methodLink RX12 207 yX12_begins ∈ UU := uu_mem 1641 (by decide +kernel) (by decide +kernel)
theorem u_1643 : Cond.instanceMethod yX12_begins ∈ UU := uu_mem 1643 (by decide +kernel) (by decide +kernel)
theorem u_1644 : Cond.code yX12_begins cX12_begins 1 none ∈ UU := uu_mem 1644 (by decide +kernel) (by decide +kernel)
theorem u_1645 : Cond.methodLink RX12 100 yX12_blanks ∈ UU := uu_mem 1645 (by decide +kernel) (by decide +kernel)
theorem u_1647 : Cond.instanceMethod yX12_blanks ∈ UU := uu_mem 1647 (by decide +kernel) (by decide +kernel)
theorem u_1648 : Cond.code yX12_blanks cX12_blanks 1 none ∈ UU := uu_mem 1648 (by decide +kernel) (by decide +kernel)
theorem u_1649 : Cond.methodLink RX12 89 yX12_isAt ∈ UU := uu_mem 1649 (by decide +kernel) (by decide +kernel)
theorem u_1651 : Cond.instanceMethod yX12_isAt ∈ UU := uu_mem 1651 (by decide +kernel) (by decide +kernel)
theorem u_1652 : Cond.code yX12_isAt cX12_isAt 3 (some .boolean) ∈ UU := uu_mem 1652 (by decide +kernel) (by decide +kernel)
theorem u_1653 : Cond.methodLink RX12 103 yX12_hasFailed ∈ UU := uu_mem 1653 (by decide +kernel) (by decide +kernel)
theorem u_1655 : Cond.instanceMethod yX12_hasFailed ∈ UU := uu_mem 1655 (by decide +kernel) (by decide +kernel)
theorem u_1656 : Cond.code yX12_hasFailed cX12_hasFailed 1 (some .boolean) ∈ UU := uu_mem 1656 (by decide +kernel) (by decide +kernel)
theorem u_1756 : Cond.methodLink RX12 223 yX12_taken ∈ UU := uu_mem 1756 (by decide +kernel) (by decide +kernel)
theorem u_1758 : Cond.instanceMethod yX12_taken ∈ UU := uu_mem 1758 (by decide +kernel) (by decide +kernel)
theorem u_1759 : Cond.code yX12_taken cX12_taken 2 none ∈ UU := uu_mem 1759 (by decide +kernel) (by decide +kernel)
theorem u_1763 : Cond.code yX12_proof cX12_proof 2 (some .int) ∈ UU := uu_mem 1763 (by decide +kernel) (by decide +kernel)
theorem u_1829 : Cond.constantLong RX12 245 (-1) ∈ UU := uu_mem 1829 (by decide +kernel) (by decide +kernel)
theorem u_1887 : Cond.methodLink RX12 328 yX12_many ∈ UU := uu_mem 1887 (by decide +kernel) (by decide +kernel)
theorem u_1888 : Cond.static yX12_many ∈ UU := uu_mem 1888 (by decide +kernel) (by decide +kernel)
theorem u_1889 : Cond.code yX12_many cX12_many 4 (some .int) ∈ UU := uu_mem 1889 (by decide +kernel) (by decide +kernel)
theorem u_1893 : Cond.code yX12_model cX12_model 6 (some .int) ∈ UU := uu_mem 1893 (by decide +kernel) (by decide +kernel)
theorem u_1894 : Cond.methodLink RX12 332 yX12_models ∈ UU := uu_mem 1894 (by decide +kernel) (by decide +kernel)
theorem u_1896 : Cond.instanceMethod yX12_models ∈ UU := uu_mem 1896 (by decide +kernel) (by decide +kernel)
theorem u_1897 : Cond.code yX12_models cX12_models 5 (some .long) ∈ UU := uu_mem 1897 (by decide +kernel) (by decide +kernel)
theorem u_1970 : Cond.code yX12_within cX12_within 3 (some .int) ∈ UU := uu_mem 1970 (by decide +kernel) (by decide +kernel)
theorem u_1971 : Cond.methodLink RX12 378 yX12_laysWithin ∈ UU := uu_mem 1971 (by decide +kernel) (by decide +kernel)
theorem u_1973 : Cond.instanceMethod yX12_laysWithin ∈ UU := uu_mem 1973 (by decide +kernel) (by decide +kernel)
theorem u_1974 : Cond.code yX12_laysWithin cX12_laysWithin 6 none ∈ UU := uu_mem 1974 (by decide +kernel) (by decide +kernel)
theorem u_1986 : Cond.code yX12_leastWidth cX12_leastWidth 2 (some .int) ∈ UU := uu_mem 1986 (by decide +kernel) (by decide +kernel)
theorem u_1990 : Cond.code yX12_has cX12_has 4 (some .boolean) ∈ UU := uu_mem 1990 (by decide +kernel) (by decide +kernel)
theorem u_2103 : Cond.code yX12_count cX12_count 2 (some .int) ∈ UU := uu_mem 2103 (by decide +kernel) (by decide +kernel)
theorem u_2104 : Cond.methodLink RX12 444 yX12_countOf ∈ UU := uu_mem 2104 (by decide +kernel) (by decide +kernel)
theorem u_2106 : Cond.instanceMethod yX12_countOf ∈ UU := uu_mem 2106 (by decide +kernel) (by decide +kernel)
theorem u_2107 : Cond.code yX12_countOf cX12_countOf 5 (some .int) ∈ UU := uu_mem 2107 (by decide +kernel) (by decide +kernel)
theorem u_2108 : Cond.methodLink RX12 447 yX12_idle ∈ UU := uu_mem 2108 (by decide +kernel) (by decide +kernel)
theorem u_2110 : Cond.instanceMethod yX12_idle ∈ UU := uu_mem 2110 (by decide +kernel) (by decide +kernel)
theorem u_2111 : Cond.code yX12_idle cX12_idle 3 (some .int) ∈ UU := uu_mem 2111 (by decide +kernel) (by decide +kernel)
theorem m_X12_begins : mV yX12_begins cX12_begins 1 none 0 := ⟨u_1644, u_1643, u_49, u_128, ⟨by decide, by decide, by decide +kernel⟩⟩
theorem m_X12_blanks : mV yX12_blanks cX12_blanks 1 none 0 := ⟨u_1648, u_1647, u_50, u_128, ⟨by decide, by decide, by decide +kernel⟩⟩
theorem m_X12_countOf : mV yX12_countOf cX12_countOf 5 (some .int) 2 := ⟨u_2107, u_2106, u_120, u_128, ⟨by decide, by decide, by decide +kernel⟩⟩
theorem m_X12_hasFailed : mV yX12_hasFailed cX12_hasFailed 1 (some .boolean) 0 := ⟨u_1656, u_1655, u_52, u_128, ⟨by decide, by decide, by decide +kernel⟩⟩
theorem m_X12_idle : mV yX12_idle cX12_idle 3 (some .int) 0 := ⟨u_2111, u_2110, u_121, u_128, ⟨by decide, by decide, by decide +kernel⟩⟩
theorem m_X12_isAt : mV yX12_isAt cX12_isAt 3 (some .boolean) 2 := ⟨u_1652, u_1651, u_51, u_128, ⟨by decide, by decide, by decide +kernel⟩⟩
theorem m_X12_laysWithin : mV yX12_laysWithin cX12_laysWithin 6 none 1 := ⟨u_1974, u_1973, u_100, u_128, ⟨by decide, by decide, by decide +kernel⟩⟩
theorem m_X12_many : mS yX12_many cX12_many 4 (some .int) 1 := ⟨u_1889, u_1888, u_128, ⟨by decide, by decide, by decide +kernel⟩⟩
theorem m_X12_models : mV yX12_models cX12_models 5 (some .long) 1 := ⟨u_1897, u_1896, u_92, u_128, ⟨by decide, by decide, by decide +kernel⟩⟩
theorem m_X12_taken : mV yX12_taken cX12_taken 2 none 0 := ⟨u_1759, u_1758, u_74, u_128, ⟨by decide, by decide, by decide +kernel⟩⟩
theorem dX12_begins_0 : decode cX12_begins 0 = .ok (.aload_n 0, 1) := by decide +kernel
theorem dX12_begins_1 : decode cX12_begins 1 = .ok (.aload_n 0, 1) := by decide +kernel
theorem dX12_begins_2 : decode cX12_begins 2 = .ok (.getfield 77, 3) := by decide +kernel
theorem dX12_begins_5 : decode cX12_begins 5 = .ok (.putfield 80, 3) := by decide +kernel
theorem dX12_begins_8 : decode cX12_begins 8 = .ok (.aload_n 0, 1) := by decide +kernel
theorem dX12_begins_9 : decode cX12_begins 9 = .ok (.iconst 0, 1) := by decide +kernel
theorem dX12_begins_10 : decode cX12_begins 10 = .ok (.putfield 77, 3) := by decide +kernel
theorem dX12_begins_13 : decode cX12_begins 13 = .ok (.aload_n 0, 1) := by decide +kernel
theorem dX12_begins_14 : decode cX12_begins 14 = .ok (.iconst 0, 1) := by decide +kernel
theorem dX12_begins_15 : decode cX12_begins 15 = .ok (.putfield 83, 3) := by decide +kernel
theorem dX12_begins_18 : decode cX12_begins 18 = .ok (.aload_n 0, 1) := by decide +kernel
theorem dX12_begins_19 : decode cX12_begins 19 = .ok (.iconst (-1), 1) := by decide +kernel
theorem dX12_begins_20 : decode cX12_begins 20 = .ok (.putfield 86, 3) := by decide +kernel
theorem dX12_begins_23 : decode cX12_begins 23 = .ok (.return_, 1) := by decide +kernel
theorem dX12_blanks_0 : decode cX12_blanks 0 = .ok (.aload_n 0, 1) := by decide +kernel
theorem dX12_blanks_1 : decode cX12_blanks 1 = .ok (.bipush 9, 2) := by decide +kernel
theorem dX12_blanks_3 : decode cX12_blanks 3 = .ok (.bipush 10, 2) := by decide +kernel
theorem dX12_blanks_5 : decode cX12_blanks 5 = .ok (.invokevirtual 89, 3) := by decide +kernel
theorem dX12_blanks_8 : decode cX12_blanks 8 = .ok (.ifCond .ne 14, 3) := by decide +kernel
theorem dX12_blanks_11 : decode cX12_blanks 11 = .ok (.aload_n 0, 1) := by decide +kernel
theorem dX12_blanks_12 : decode cX12_blanks 12 = .ok (.bipush 32, 2) := by decide +kernel
theorem dX12_blanks_14 : decode cX12_blanks 14 = .ok (.bipush 32, 2) := by decide +kernel
theorem dX12_blanks_16 : decode cX12_blanks 16 = .ok (.invokevirtual 89, 3) := by decide +kernel
theorem dX12_blanks_19 : decode cX12_blanks 19 = .ok (.ifCond .eq 16, 3) := by decide +kernel
theorem dX12_blanks_35 : decode cX12_blanks 35 = .ok (.aload_n 0, 1) := by decide +kernel
theorem dX12_blanks_36 : decode cX12_blanks 36 = .ok (.aload_n 0, 1) := by decide +kernel
theorem dX12_blanks_37 : decode cX12_blanks 37 = .ok (.getfield 83, 3) := by decide +kernel
theorem dX12_blanks_40 : decode cX12_blanks 40 = .ok (.putfield 93, 3) := by decide +kernel
theorem dX12_blanks_43 : decode cX12_blanks 43 = .ok (.return_, 1) := by decide +kernel
theorem dX12_claim_0 : decode cX12_claim 0 = .ok (.aload_n 0, 1) := by decide +kernel
theorem dX12_claim_1 : decode cX12_claim 1 = .ok (.iconst 0, 1) := by decide +kernel
theorem dX12_claim_2 : decode cX12_claim 2 = .ok (.putfield 74, 3) := by decide +kernel
theorem dX12_claim_5 : decode cX12_claim 5 = .ok (.aload_n 0, 1) := by decide +kernel
theorem dX12_claim_6 : decode cX12_claim 6 = .ok (.invokevirtual 207, 3) := by decide +kernel
theorem dX12_claim_9 : decode cX12_claim 9 = .ok (.aload_n 0, 1) := by decide +kernel
theorem dX12_claim_10 : decode cX12_claim 10 = .ok (.iconst 0, 1) := by decide +kernel
theorem dX12_claim_11 : decode cX12_claim 11 = .ok (.putfield 141, 3) := by decide +kernel
theorem dX12_claim_14 : decode cX12_claim 14 = .ok (.aload_n 0, 1) := by decide +kernel
theorem dX12_claim_15 : decode cX12_claim 15 = .ok (.iconst 0, 1) := by decide +kernel
theorem dX12_claim_16 : decode cX12_claim 16 = .ok (.putfield 170, 3) := by decide +kernel
theorem dX12_claim_19 : decode cX12_claim 19 = .ok (.aload_n 0, 1) := by decide +kernel
theorem dX12_claim_20 : decode cX12_claim 20 = .ok (.iconst (-1), 1) := by decide +kernel
theorem dX12_claim_21 : decode cX12_claim 21 = .ok (.putfield 200, 3) := by decide +kernel
theorem dX12_claim_24 : decode cX12_claim 24 = .ok (.aload_n 0, 1) := by decide +kernel
theorem dX12_claim_25 : decode cX12_claim 25 = .ok (.invokevirtual 100, 3) := by decide +kernel
theorem dX12_claim_28 : decode cX12_claim 28 = .ok (.aload_n 0, 1) := by decide +kernel
theorem dX12_claim_29 : decode cX12_claim 29 = .ok (.invokevirtual 103, 3) := by decide +kernel
theorem dX12_claim_32 : decode cX12_claim 32 = .ok (.ifCond .ne 25, 3) := by decide +kernel
theorem dX12_claim_35 : decode cX12_claim 35 = .ok (.aload_n 0, 1) := by decide +kernel
theorem dX12_claim_36 : decode cX12_claim 36 = .ok (.getfield 83, 3) := by decide +kernel
theorem dX12_claim_39 : decode cX12_claim 39 = .ok (.aload_n 0, 1) := by decide +kernel
theorem dX12_claim_40 : decode cX12_claim 40 = .ok (.getfield 80, 3) := by decide +kernel
theorem dX12_claim_43 : decode cX12_claim 43 = .ok (.if_icmp .ge 14, 3) := by decide +kernel
theorem dX12_claim_57 : decode cX12_claim 57 = .ok (.aload_n 0, 1) := by decide +kernel
theorem dX12_claim_58 : decode cX12_claim 58 = .ok (.aload_n 0, 1) := by decide +kernel
theorem dX12_claim_59 : decode cX12_claim 59 = .ok (.getfield 86, 3) := by decide +kernel
theorem dX12_claim_62 : decode cX12_claim 62 = .ok (.putfield 17, 3) := by decide +kernel
theorem dX12_claim_65 : decode cX12_claim 65 = .ok (.aload_n 0, 1) := by decide +kernel
theorem dX12_claim_66 : decode cX12_claim 66 = .ok (.aload_n 0, 1) := by decide +kernel
theorem dX12_claim_67 : decode cX12_claim 67 = .ok (.invokevirtual 103, 3) := by decide +kernel
theorem dX12_claim_70 : decode cX12_claim 70 = .ok (.iconst 1, 1) := by decide +kernel
theorem dX12_claim_71 : decode cX12_claim 71 = .ok (.invokevirtual 213, 3) := by decide +kernel
theorem dX12_claim_74 : decode cX12_claim 74 = .ok (.ifCond .eq 5, 3) := by decide +kernel
theorem dX12_claim_79 : decode cX12_claim 79 = .ok (.aload_n 0, 1) := by decide +kernel
theorem dX12_claim_80 : decode cX12_claim 80 = .ok (.aload_n 0, 1) := by decide +kernel
theorem dX12_claim_81 : decode cX12_claim 81 = .ok (.getfield 141, 3) := by decide +kernel
theorem dX12_claim_84 : decode cX12_claim 84 = .ok (.putfield 217, 3) := by decide +kernel
theorem dX12_claim_87 : decode cX12_claim 87 = .ok (.aload_n 0, 1) := by decide +kernel
theorem dX12_claim_88 : decode cX12_claim 88 = .ok (.aload_n 0, 1) := by decide +kernel
theorem dX12_claim_89 : decode cX12_claim 89 = .ok (.getfield 170, 3) := by decide +kernel
theorem dX12_claim_92 : decode cX12_claim 92 = .ok (.putfield 220, 3) := by decide +kernel
theorem dX12_claim_95 : decode cX12_claim 95 = .ok (.aload_n 0, 1) := by decide +kernel
theorem dX12_claim_96 : decode cX12_claim 96 = .ok (.aload_n 0, 1) := by decide +kernel
theorem dX12_claim_97 : decode cX12_claim 97 = .ok (.getfield 200, 3) := by decide +kernel
theorem dX12_claim_100 : decode cX12_claim 100 = .ok (.putfield 33, 3) := by decide +kernel
theorem dX12_claim_103 : decode cX12_claim 103 = .ok (.iconst 0, 1) := by decide +kernel
theorem dX12_claim_104 : decode cX12_claim 104 = .ok (.istore_n 1, 1) := by decide +kernel
theorem dX12_claim_105 : decode cX12_claim 105 = .ok (.iload_n 1, 1) := by decide +kernel
theorem dX12_claim_106 : decode cX12_claim 106 = .ok (.bipush 6, 2) := by decide +kernel
theorem dX12_claim_108 : decode cX12_claim 108 = .ok (.if_icmp .ge 21, 3) := by decide +kernel
theorem dX12_claim_111 : decode cX12_claim 111 = .ok (.aload_n 0, 1) := by decide +kernel
theorem dX12_claim_112 : decode cX12_claim 112 = .ok (.getfield 27, 3) := by decide +kernel
theorem dX12_claim_115 : decode cX12_claim 115 = .ok (.iload_n 1, 1) := by decide +kernel
theorem dX12_claim_116 : decode cX12_claim 116 = .ok (.aload_n 0, 1) := by decide +kernel
theorem dX12_claim_117 : decode cX12_claim 117 = .ok (.getfield 30, 3) := by decide +kernel
theorem dX12_claim_120 : decode cX12_claim 120 = .ok (.iload_n 1, 1) := by decide +kernel
theorem dX12_claim_121 : decode cX12_claim 121 = .ok (.iaload, 1) := by decide +kernel
theorem dX12_claim_122 : decode cX12_claim 122 = .ok (.iastore, 1) := by decide +kernel
theorem dX12_claim_123 : decode cX12_claim 123 = .ok (.iinc 1 1, 3) := by decide +kernel
theorem dX12_claim_126 : decode cX12_claim 126 = .ok (.goto (-21), 3) := by decide +kernel
theorem dX12_claim_129 : decode cX12_claim 129 = .ok (.aload_n 0, 1) := by decide +kernel
theorem dX12_claim_130 : decode cX12_claim 130 = .ok (.invokevirtual 223, 3) := by decide +kernel
theorem dX12_claim_133 : decode cX12_claim 133 = .ok (.aload_n 0, 1) := by decide +kernel
theorem dX12_claim_134 : decode cX12_claim 134 = .ok (.getfield 217, 3) := by decide +kernel
theorem dX12_claim_137 : decode cX12_claim 137 = .ok (.ireturn, 1) := by decide +kernel
theorem dX12_count_0 : decode cX12_count 0 = .ok (.aload_n 0, 1) := by decide +kernel
theorem dX12_count_1 : decode cX12_count 1 = .ok (.iconst 0, 1) := by decide +kernel
theorem dX12_count_2 : decode cX12_count 2 = .ok (.putfield 74, 3) := by decide +kernel
theorem dX12_count_5 : decode cX12_count 5 = .ok (.iload_n 1, 1) := by decide +kernel
theorem dX12_count_6 : decode cX12_count 6 = .ok (.tableswitch 132 0 10 #[58, 63, 68, 75, 82, 89, 97, 105, 113, 118, 127], 58) := by decide +kernel
theorem dX12_count_64 : decode cX12_count 64 = .ok (.aload_n 0, 1) := by decide +kernel
theorem dX12_count_65 : decode cX12_count 65 = .ok (.getfield 217, 3) := by decide +kernel
theorem dX12_count_68 : decode cX12_count 68 = .ok (.ireturn, 1) := by decide +kernel
theorem dX12_count_69 : decode cX12_count 69 = .ok (.aload_n 0, 1) := by decide +kernel
theorem dX12_count_70 : decode cX12_count 70 = .ok (.getfield 226, 3) := by decide +kernel
theorem dX12_count_73 : decode cX12_count 73 = .ok (.ireturn, 1) := by decide +kernel
theorem dX12_count_74 : decode cX12_count 74 = .ok (.aload_n 0, 1) := by decide +kernel
theorem dX12_count_75 : decode cX12_count 75 = .ok (.iconst 1, 1) := by decide +kernel
theorem dX12_count_76 : decode cX12_count 76 = .ok (.iconst 0, 1) := by decide +kernel
theorem dX12_count_77 : decode cX12_count 77 = .ok (.invokevirtual 444, 3) := by decide +kernel
theorem dX12_count_80 : decode cX12_count 80 = .ok (.ireturn, 1) := by decide +kernel
theorem dX12_count_81 : decode cX12_count 81 = .ok (.aload_n 0, 1) := by decide +kernel
theorem dX12_count_82 : decode cX12_count 82 = .ok (.iconst 1, 1) := by decide +kernel
theorem dX12_count_83 : decode cX12_count 83 = .ok (.iconst 1, 1) := by decide +kernel
theorem dX12_count_84 : decode cX12_count 84 = .ok (.invokevirtual 444, 3) := by decide +kernel
theorem dX12_count_87 : decode cX12_count 87 = .ok (.ireturn, 1) := by decide +kernel
theorem dX12_count_88 : decode cX12_count 88 = .ok (.aload_n 0, 1) := by decide +kernel
theorem dX12_count_89 : decode cX12_count 89 = .ok (.iconst 0, 1) := by decide +kernel
theorem dX12_count_90 : decode cX12_count 90 = .ok (.iconst 1, 1) := by decide +kernel
theorem dX12_count_91 : decode cX12_count 91 = .ok (.invokevirtual 444, 3) := by decide +kernel
theorem dX12_count_94 : decode cX12_count 94 = .ok (.ireturn, 1) := by decide +kernel
theorem dX12_count_95 : decode cX12_count 95 = .ok (.aload_n 0, 1) := by decide +kernel
theorem dX12_count_96 : decode cX12_count 96 = .ok (.iconst 0, 1) := by decide +kernel
theorem dX12_count_97 : decode cX12_count 97 = .ok (.bipush 6, 2) := by decide +kernel
theorem dX12_count_99 : decode cX12_count 99 = .ok (.invokevirtual 444, 3) := by decide +kernel
theorem dX12_count_102 : decode cX12_count 102 = .ok (.ireturn, 1) := by decide +kernel
theorem dX12_count_103 : decode cX12_count 103 = .ok (.aload_n 0, 1) := by decide +kernel
theorem dX12_count_104 : decode cX12_count 104 = .ok (.iconst 0, 1) := by decide +kernel
theorem dX12_count_105 : decode cX12_count 105 = .ok (.bipush 8, 2) := by decide +kernel
theorem dX12_count_107 : decode cX12_count 107 = .ok (.invokevirtual 444, 3) := by decide +kernel
theorem dX12_count_110 : decode cX12_count 110 = .ok (.ireturn, 1) := by decide +kernel
theorem dX12_count_111 : decode cX12_count 111 = .ok (.aload_n 0, 1) := by decide +kernel
theorem dX12_count_112 : decode cX12_count 112 = .ok (.iconst 0, 1) := by decide +kernel
theorem dX12_count_113 : decode cX12_count 113 = .ok (.bipush 9, 2) := by decide +kernel
theorem dX12_count_115 : decode cX12_count 115 = .ok (.invokevirtual 444, 3) := by decide +kernel
theorem dX12_count_118 : decode cX12_count 118 = .ok (.ireturn, 1) := by decide +kernel
theorem dX12_count_119 : decode cX12_count 119 = .ok (.aload_n 0, 1) := by decide +kernel
theorem dX12_count_120 : decode cX12_count 120 = .ok (.getfield 384, 3) := by decide +kernel
theorem dX12_count_123 : decode cX12_count 123 = .ok (.ireturn, 1) := by decide +kernel
theorem dX12_count_124 : decode cX12_count 124 = .ok (.aload_n 0, 1) := by decide +kernel
theorem dX12_count_125 : decode cX12_count 125 = .ok (.iconst (-1), 1) := by decide +kernel
theorem dX12_count_126 : decode cX12_count 126 = .ok (.invokevirtual 332, 3) := by decide +kernel
theorem dX12_count_129 : decode cX12_count 129 = .ok (.invokestatic 328, 3) := by decide +kernel
theorem dX12_count_132 : decode cX12_count 132 = .ok (.ireturn, 1) := by decide +kernel
theorem dX12_count_133 : decode cX12_count 133 = .ok (.aload_n 0, 1) := by decide +kernel
theorem dX12_count_134 : decode cX12_count 134 = .ok (.invokevirtual 447, 3) := by decide +kernel
theorem dX12_count_137 : decode cX12_count 137 = .ok (.ireturn, 1) := by decide +kernel
theorem dX12_count_138 : decode cX12_count 138 = .ok (.iconst (-1), 1) := by decide +kernel
theorem dX12_count_139 : decode cX12_count 139 = .ok (.ireturn, 1) := by decide +kernel
theorem dX12_countOf_0 : decode cX12_countOf 0 = .ok (.iconst 0, 1) := by decide +kernel
theorem dX12_countOf_1 : decode cX12_countOf 1 = .ok (.istore_n 3, 1) := by decide +kernel
theorem dX12_countOf_2 : decode cX12_countOf 2 = .ok (.iconst 0, 1) := by decide +kernel
theorem dX12_countOf_3 : decode cX12_countOf 3 = .ok (.istore 4, 2) := by decide +kernel
theorem dX12_countOf_5 : decode cX12_countOf 5 = .ok (.iload 4, 2) := by decide +kernel
theorem dX12_countOf_7 : decode cX12_countOf 7 = .ok (.aload_n 0, 1) := by decide +kernel
theorem dX12_countOf_8 : decode cX12_countOf 8 = .ok (.getfield 226, 3) := by decide +kernel
theorem dX12_countOf_11 : decode cX12_countOf 11 = .ok (.if_icmp .ge 28, 3) := by decide +kernel
theorem dX12_countOf_39 : decode cX12_countOf 39 = .ok (.iload_n 3, 1) := by decide +kernel
theorem dX12_countOf_40 : decode cX12_countOf 40 = .ok (.ireturn, 1) := by decide +kernel
theorem dX12_feed_0 : decode cX12_feed 0 = .ok (.aload_n 0, 1) := by decide +kernel
theorem dX12_feed_1 : decode cX12_feed 1 = .ok (.iconst 0, 1) := by decide +kernel
theorem dX12_feed_2 : decode cX12_feed 2 = .ok (.putfield 74, 3) := by decide +kernel
theorem dX12_feed_5 : decode cX12_feed 5 = .ok (.aload_n 0, 1) := by decide +kernel
theorem dX12_feed_6 : decode cX12_feed 6 = .ok (.getfield 77, 3) := by decide +kernel
theorem dX12_feed_9 : decode cX12_feed 9 = .ok (.bipush 20, 2) := by decide +kernel
theorem dX12_feed_11 : decode cX12_feed 11 = .ok (.iadd, 1) := by decide +kernel
theorem dX12_feed_12 : decode cX12_feed 12 = .ok (.sipush 400, 3) := by decide +kernel
theorem dX12_feed_15 : decode cX12_feed 15 = .ok (.if_icmp .le 5, 3) := by decide +kernel
theorem dX12_feed_20 : decode cX12_feed 20 = .ok (.aload_n 0, 1) := by decide +kernel
theorem dX12_feed_21 : decode cX12_feed 21 = .ok (.getfield 13, 3) := by decide +kernel
theorem dX12_feed_24 : decode cX12_feed 24 = .ok (.iconst 0, 1) := by decide +kernel
theorem dX12_feed_25 : decode cX12_feed 25 = .ok (.iload_n 1, 1) := by decide +kernel
theorem dX12_feed_26 : decode cX12_feed 26 = .ok (.iastore, 1) := by decide +kernel
theorem dX12_feed_27 : decode cX12_feed 27 = .ok (.aload_n 0, 1) := by decide +kernel
theorem dX12_feed_28 : decode cX12_feed 28 = .ok (.getfield 13, 3) := by decide +kernel
theorem dX12_feed_31 : decode cX12_feed 31 = .ok (.iconst 1, 1) := by decide +kernel
theorem dX12_feed_32 : decode cX12_feed 32 = .ok (.iload_n 2, 1) := by decide +kernel
theorem dX12_feed_33 : decode cX12_feed 33 = .ok (.iastore, 1) := by decide +kernel
theorem dX12_feed_34 : decode cX12_feed 34 = .ok (.aload_n 0, 1) := by decide +kernel
theorem dX12_feed_35 : decode cX12_feed 35 = .ok (.getfield 13, 3) := by decide +kernel
theorem dX12_feed_38 : decode cX12_feed 38 = .ok (.iconst 2, 1) := by decide +kernel
theorem dX12_feed_39 : decode cX12_feed 39 = .ok (.iload_n 3, 1) := by decide +kernel
theorem dX12_feed_40 : decode cX12_feed 40 = .ok (.iastore, 1) := by decide +kernel
theorem dX12_feed_41 : decode cX12_feed 41 = .ok (.aload_n 0, 1) := by decide +kernel
theorem dX12_feed_42 : decode cX12_feed 42 = .ok (.getfield 13, 3) := by decide +kernel
theorem dX12_feed_45 : decode cX12_feed 45 = .ok (.iconst 3, 1) := by decide +kernel
theorem dX12_feed_46 : decode cX12_feed 46 = .ok (.iload 4, 2) := by decide +kernel
theorem dX12_feed_48 : decode cX12_feed 48 = .ok (.iastore, 1) := by decide +kernel
theorem dX12_feed_49 : decode cX12_feed 49 = .ok (.aload_n 0, 1) := by decide +kernel
theorem dX12_feed_50 : decode cX12_feed 50 = .ok (.getfield 13, 3) := by decide +kernel
theorem dX12_feed_53 : decode cX12_feed 53 = .ok (.iconst 4, 1) := by decide +kernel
theorem dX12_feed_54 : decode cX12_feed 54 = .ok (.iload 5, 2) := by decide +kernel
theorem dX12_feed_56 : decode cX12_feed 56 = .ok (.iastore, 1) := by decide +kernel
theorem dX12_feed_57 : decode cX12_feed 57 = .ok (.iconst 0, 1) := by decide +kernel
theorem dX12_feed_58 : decode cX12_feed 58 = .ok (.istore 6, 2) := by decide +kernel
theorem dX12_feed_60 : decode cX12_feed 60 = .ok (.iload 6, 2) := by decide +kernel
theorem dX12_feed_62 : decode cX12_feed 62 = .ok (.bipush 20, 2) := by decide +kernel
theorem dX12_feed_64 : decode cX12_feed 64 = .ok (.if_icmp .ge 42, 3) := by decide +kernel
theorem dX12_feed_67 : decode cX12_feed 67 = .ok (.aload_n 0, 1) := by decide +kernel
theorem dX12_feed_68 : decode cX12_feed 68 = .ok (.getfield 9, 3) := by decide +kernel
theorem dX12_feed_71 : decode cX12_feed 71 = .ok (.aload_n 0, 1) := by decide +kernel
theorem dX12_feed_72 : decode cX12_feed 72 = .ok (.getfield 77, 3) := by decide +kernel
theorem dX12_feed_75 : decode cX12_feed 75 = .ok (.iload 6, 2) := by decide +kernel
theorem dX12_feed_77 : decode cX12_feed 77 = .ok (.iadd, 1) := by decide +kernel
theorem dX12_feed_78 : decode cX12_feed 78 = .ok (.aload_n 0, 1) := by decide +kernel
theorem dX12_feed_79 : decode cX12_feed 79 = .ok (.getfield 13, 3) := by decide +kernel
theorem dX12_feed_82 : decode cX12_feed 82 = .ok (.iload 6, 2) := by decide +kernel
theorem dX12_feed_84 : decode cX12_feed 84 = .ok (.iconst 4, 1) := by decide +kernel
theorem dX12_feed_85 : decode cX12_feed 85 = .ok (.idiv, 1) := by decide +kernel
theorem dX12_feed_86 : decode cX12_feed 86 = .ok (.iaload, 1) := by decide +kernel
theorem dX12_feed_87 : decode cX12_feed 87 = .ok (.bipush 24, 2) := by decide +kernel
theorem dX12_feed_89 : decode cX12_feed 89 = .ok (.bipush 8, 2) := by decide +kernel
theorem dX12_feed_91 : decode cX12_feed 91 = .ok (.iload 6, 2) := by decide +kernel
theorem dX12_feed_93 : decode cX12_feed 93 = .ok (.iconst 4, 1) := by decide +kernel
theorem dX12_feed_94 : decode cX12_feed 94 = .ok (.irem, 1) := by decide +kernel
theorem dX12_feed_95 : decode cX12_feed 95 = .ok (.imul, 1) := by decide +kernel
theorem dX12_feed_96 : decode cX12_feed 96 = .ok (.isub, 1) := by decide +kernel
theorem dX12_feed_97 : decode cX12_feed 97 = .ok (.ishr, 1) := by decide +kernel
theorem dX12_feed_98 : decode cX12_feed 98 = .ok (.i2b, 1) := by decide +kernel
theorem dX12_feed_99 : decode cX12_feed 99 = .ok (.bastore, 1) := by decide +kernel
theorem dX12_feed_100 : decode cX12_feed 100 = .ok (.iinc 6 1, 3) := by decide +kernel
theorem dX12_feed_103 : decode cX12_feed 103 = .ok (.goto (-43), 3) := by decide +kernel
theorem dX12_feed_106 : decode cX12_feed 106 = .ok (.aload_n 0, 1) := by decide +kernel
theorem dX12_feed_107 : decode cX12_feed 107 = .ok (.dup, 1) := by decide +kernel
theorem dX12_feed_108 : decode cX12_feed 108 = .ok (.getfield 77, 3) := by decide +kernel
theorem dX12_feed_111 : decode cX12_feed 111 = .ok (.bipush 20, 2) := by decide +kernel
theorem dX12_feed_113 : decode cX12_feed 113 = .ok (.iadd, 1) := by decide +kernel
theorem dX12_feed_114 : decode cX12_feed 114 = .ok (.putfield 77, 3) := by decide +kernel
theorem dX12_feed_117 : decode cX12_feed 117 = .ok (.aload_n 0, 1) := by decide +kernel
theorem dX12_feed_118 : decode cX12_feed 118 = .ok (.getfield 77, 3) := by decide +kernel
theorem dX12_feed_121 : decode cX12_feed 121 = .ok (.ireturn, 1) := by decide +kernel
theorem dX12_has_0 : decode cX12_has 0 = .ok (.aload_n 0, 1) := by decide +kernel
theorem dX12_has_1 : decode cX12_has 1 = .ok (.iconst 0, 1) := by decide +kernel
theorem dX12_has_2 : decode cX12_has 2 = .ok (.putfield 74, 3) := by decide +kernel
theorem dX12_has_5 : decode cX12_has 5 = .ok (.aload_n 0, 1) := by decide +kernel
theorem dX12_has_6 : decode cX12_has 6 = .ok (.iload_n 1, 1) := by decide +kernel
theorem dX12_has_7 : decode cX12_has 7 = .ok (.iconst 0, 1) := by decide +kernel
theorem dX12_has_8 : decode cX12_has 8 = .ok (.bipush 6, 2) := by decide +kernel
theorem dX12_has_10 : decode cX12_has 10 = .ok (.invokestatic 131, 3) := by decide +kernel
theorem dX12_has_13 : decode cX12_has 13 = .ok (.ifCond .eq 29, 3) := by decide +kernel
theorem dX12_has_16 : decode cX12_has 16 = .ok (.iload_n 2, 1) := by decide +kernel
theorem dX12_has_17 : decode cX12_has 17 = .ok (.iconst 0, 1) := by decide +kernel
theorem dX12_has_18 : decode cX12_has 18 = .ok (.bipush 63, 2) := by decide +kernel
theorem dX12_has_20 : decode cX12_has 20 = .ok (.invokestatic 131, 3) := by decide +kernel
theorem dX12_has_23 : decode cX12_has 23 = .ok (.ifCond .eq 19, 3) := by decide +kernel
theorem dX12_has_26 : decode cX12_has 26 = .ok (.iload_n 3, 1) := by decide +kernel
theorem dX12_has_27 : decode cX12_has 27 = .ok (.iconst 0, 1) := by decide +kernel
theorem dX12_has_28 : decode cX12_has 28 = .ok (.bipush 63, 2) := by decide +kernel
theorem dX12_has_30 : decode cX12_has 30 = .ok (.invokestatic 131, 3) := by decide +kernel
theorem dX12_has_33 : decode cX12_has 33 = .ok (.ifCond .eq 9, 3) := by decide +kernel
theorem dX12_has_36 : decode cX12_has 36 = .ok (.iload_n 2, 1) := by decide +kernel
theorem dX12_has_37 : decode cX12_has 37 = .ok (.iload_n 3, 1) := by decide +kernel
theorem dX12_has_38 : decode cX12_has 38 = .ok (.iand, 1) := by decide +kernel
theorem dX12_has_39 : decode cX12_has 39 = .ok (.ifCond .eq 7, 3) := by decide +kernel
theorem dX12_has_42 : decode cX12_has 42 = .ok (.iconst 1, 1) := by decide +kernel
theorem dX12_has_43 : decode cX12_has 43 = .ok (.goto 4, 3) := by decide +kernel
theorem dX12_has_46 : decode cX12_has 46 = .ok (.iconst 0, 1) := by decide +kernel
theorem dX12_has_47 : decode cX12_has 47 = .ok (.iconst 1, 1) := by decide +kernel
theorem dX12_has_48 : decode cX12_has 48 = .ok (.invokevirtual 213, 3) := by decide +kernel
theorem dX12_has_51 : decode cX12_has 51 = .ok (.ifCond .eq 5, 3) := by decide +kernel
theorem dX12_has_54 : decode cX12_has 54 = .ok (.iconst 0, 1) := by decide +kernel
theorem dX12_has_55 : decode cX12_has 55 = .ok (.ireturn, 1) := by decide +kernel
theorem dX12_has_56 : decode cX12_has 56 = .ok (.aload_n 0, 1) := by decide +kernel
theorem dX12_has_57 : decode cX12_has 57 = .ok (.iload_n 1, 1) := by decide +kernel
theorem dX12_has_58 : decode cX12_has 58 = .ok (.invokevirtual 378, 3) := by decide +kernel
theorem dX12_has_61 : decode cX12_has 61 = .ok (.aload_n 0, 1) := by decide +kernel
theorem dX12_has_62 : decode cX12_has 62 = .ok (.getfield 50, 3) := by decide +kernel
theorem dX12_has_65 : decode cX12_has 65 = .ok (.iload_n 2, 1) := by decide +kernel
theorem dX12_has_66 : decode cX12_has 66 = .ok (.iload_n 3, 1) := by decide +kernel
theorem dX12_has_67 : decode cX12_has 67 = .ok (.bipush 6, 2) := by decide +kernel
theorem dX12_has_69 : decode cX12_has 69 = .ok (.ishl, 1) := by decide +kernel
theorem dX12_has_70 : decode cX12_has 70 = .ok (.ior, 1) := by decide +kernel
theorem dX12_has_71 : decode cX12_has 71 = .ok (.iaload, 1) := by decide +kernel
theorem dX12_has_72 : decode cX12_has 72 = .ok (.iconst (-1), 1) := by decide +kernel
theorem dX12_has_73 : decode cX12_has 73 = .ok (.if_icmp .eq 7, 3) := by decide +kernel
theorem dX12_has_80 : decode cX12_has 80 = .ok (.iconst 0, 1) := by decide +kernel
theorem dX12_has_81 : decode cX12_has 81 = .ok (.ireturn, 1) := by decide +kernel
theorem dX12_hasFailed_0 : decode cX12_hasFailed 0 = .ok (.aload_n 0, 1) := by decide +kernel
theorem dX12_hasFailed_1 : decode cX12_hasFailed 1 = .ok (.getfield 86, 3) := by decide +kernel
theorem dX12_hasFailed_4 : decode cX12_hasFailed 4 = .ok (.iconst (-1), 1) := by decide +kernel
theorem dX12_hasFailed_5 : decode cX12_hasFailed 5 = .ok (.if_icmp .eq 7, 3) := by decide +kernel
theorem dX12_hasFailed_12 : decode cX12_hasFailed 12 = .ok (.iconst 0, 1) := by decide +kernel
theorem dX12_hasFailed_13 : decode cX12_hasFailed 13 = .ok (.ireturn, 1) := by decide +kernel
theorem dX12_idle_0 : decode cX12_idle 0 = .ok (.iconst 0, 1) := by decide +kernel
theorem dX12_idle_1 : decode cX12_idle 1 = .ok (.istore_n 1, 1) := by decide +kernel
theorem dX12_idle_2 : decode cX12_idle 2 = .ok (.aload_n 0, 1) := by decide +kernel
theorem dX12_idle_3 : decode cX12_idle 3 = .ok (.getfield 217, 3) := by decide +kernel
theorem dX12_idle_6 : decode cX12_idle 6 = .ok (.istore_n 2, 1) := by decide +kernel
theorem dX12_idle_7 : decode cX12_idle 7 = .ok (.iload_n 2, 1) := by decide +kernel
theorem dX12_idle_8 : decode cX12_idle 8 = .ok (.aload_n 0, 1) := by decide +kernel
theorem dX12_idle_9 : decode cX12_idle 9 = .ok (.getfield 226, 3) := by decide +kernel
theorem dX12_idle_12 : decode cX12_idle 12 = .ok (.if_icmp .ge 25, 3) := by decide +kernel
theorem dX12_idle_37 : decode cX12_idle 37 = .ok (.iload_n 1, 1) := by decide +kernel
theorem dX12_idle_38 : decode cX12_idle 38 = .ok (.ireturn, 1) := by decide +kernel
theorem dX12_isAt_0 : decode cX12_isAt 0 = .ok (.aload_n 0, 1) := by decide +kernel
theorem dX12_isAt_1 : decode cX12_isAt 1 = .ok (.getfield 83, 3) := by decide +kernel
theorem dX12_isAt_4 : decode cX12_isAt 4 = .ok (.aload_n 0, 1) := by decide +kernel
theorem dX12_isAt_5 : decode cX12_isAt 5 = .ok (.getfield 80, 3) := by decide +kernel
theorem dX12_isAt_8 : decode cX12_isAt 8 = .ok (.if_icmp .ge 33, 3) := by decide +kernel
theorem dX12_isAt_41 : decode cX12_isAt 41 = .ok (.iconst 0, 1) := by decide +kernel
theorem dX12_isAt_42 : decode cX12_isAt 42 = .ok (.ireturn, 1) := by decide +kernel
theorem dX12_laysWithin_0 : decode cX12_laysWithin 0 = .ok (.iconst 0, 1) := by decide +kernel
theorem dX12_laysWithin_1 : decode cX12_laysWithin 1 = .ok (.istore_n 2, 1) := by decide +kernel
theorem dX12_laysWithin_2 : decode cX12_laysWithin 2 = .ok (.iload_n 2, 1) := by decide +kernel
theorem dX12_laysWithin_3 : decode cX12_laysWithin 3 = .ok (.sipush 4096, 3) := by decide +kernel
theorem dX12_laysWithin_6 : decode cX12_laysWithin 6 = .ok (.if_icmp .ge 16, 3) := by decide +kernel
theorem dX12_laysWithin_9 : decode cX12_laysWithin 9 = .ok (.aload_n 0, 1) := by decide +kernel
theorem dX12_laysWithin_10 : decode cX12_laysWithin 10 = .ok (.getfield 50, 3) := by decide +kernel
theorem dX12_laysWithin_13 : decode cX12_laysWithin 13 = .ok (.iload_n 2, 1) := by decide +kernel
theorem dX12_laysWithin_14 : decode cX12_laysWithin 14 = .ok (.iconst (-1), 1) := by decide +kernel
theorem dX12_laysWithin_15 : decode cX12_laysWithin 15 = .ok (.iastore, 1) := by decide +kernel
theorem dX12_laysWithin_16 : decode cX12_laysWithin 16 = .ok (.iinc 2 1, 3) := by decide +kernel
theorem dX12_laysWithin_19 : decode cX12_laysWithin 19 = .ok (.goto (-17), 3) := by decide +kernel
theorem dX12_laysWithin_22 : decode cX12_laysWithin 22 = .ok (.aload_n 0, 1) := by decide +kernel
theorem dX12_laysWithin_23 : decode cX12_laysWithin 23 = .ok (.iconst 0, 1) := by decide +kernel
theorem dX12_laysWithin_24 : decode cX12_laysWithin 24 = .ok (.putfield 365, 3) := by decide +kernel
theorem dX12_laysWithin_27 : decode cX12_laysWithin 27 = .ok (.aload_n 0, 1) := by decide +kernel
theorem dX12_laysWithin_28 : decode cX12_laysWithin 28 = .ok (.iconst 0, 1) := by decide +kernel
theorem dX12_laysWithin_29 : decode cX12_laysWithin 29 = .ok (.putfield 368, 3) := by decide +kernel
theorem dX12_laysWithin_32 : decode cX12_laysWithin 32 = .ok (.iconst 0, 1) := by decide +kernel
theorem dX12_laysWithin_33 : decode cX12_laysWithin 33 = .ok (.istore_n 2, 1) := by decide +kernel
theorem dX12_laysWithin_34 : decode cX12_laysWithin 34 = .ok (.iload_n 2, 1) := by decide +kernel
theorem dX12_laysWithin_35 : decode cX12_laysWithin 35 = .ok (.aload_n 0, 1) := by decide +kernel
theorem dX12_laysWithin_36 : decode cX12_laysWithin 36 = .ok (.getfield 217, 3) := by decide +kernel
theorem dX12_laysWithin_39 : decode cX12_laysWithin 39 = .ok (.if_icmp .ge 40, 3) := by decide +kernel
theorem dX12_laysWithin_79 : decode cX12_laysWithin 79 = .ok (.iconst 1, 1) := by decide +kernel
theorem dX12_laysWithin_80 : decode cX12_laysWithin 80 = .ok (.istore_n 2, 1) := by decide +kernel
theorem dX12_laysWithin_81 : decode cX12_laysWithin 81 = .ok (.iload_n 2, 1) := by decide +kernel
theorem dX12_laysWithin_82 : decode cX12_laysWithin 82 = .ok (.ifCond .eq 98, 3) := by decide +kernel
theorem dX12_laysWithin_85 : decode cX12_laysWithin 85 = .ok (.aload_n 0, 1) := by decide +kernel
theorem dX12_laysWithin_86 : decode cX12_laysWithin 86 = .ok (.getfield 365, 3) := by decide +kernel
theorem dX12_laysWithin_89 : decode cX12_laysWithin 89 = .ok (.istore_n 3, 1) := by decide +kernel
theorem dX12_laysWithin_90 : decode cX12_laysWithin 90 = .ok (.iconst 0, 1) := by decide +kernel
theorem dX12_laysWithin_91 : decode cX12_laysWithin 91 = .ok (.istore 4, 2) := by decide +kernel
theorem dX12_laysWithin_93 : decode cX12_laysWithin 93 = .ok (.iload 4, 2) := by decide +kernel
theorem dX12_laysWithin_95 : decode cX12_laysWithin 95 = .ok (.iload_n 3, 1) := by decide +kernel
theorem dX12_laysWithin_96 : decode cX12_laysWithin 96 = .ok (.if_icmp .ge 49, 3) := by decide +kernel
theorem dX12_laysWithin_145 : decode cX12_laysWithin 145 = .ok (.aload_n 0, 1) := by decide +kernel
theorem dX12_laysWithin_146 : decode cX12_laysWithin 146 = .ok (.getfield 365, 3) := by decide +kernel
theorem dX12_laysWithin_149 : decode cX12_laysWithin 149 = .ok (.iload_n 3, 1) := by decide +kernel
theorem dX12_laysWithin_150 : decode cX12_laysWithin 150 = .ok (.if_icmp .le 7, 3) := by decide +kernel
theorem dX12_laysWithin_157 : decode cX12_laysWithin 157 = .ok (.iconst 0, 1) := by decide +kernel
theorem dX12_laysWithin_158 : decode cX12_laysWithin 158 = .ok (.istore_n 2, 1) := by decide +kernel
theorem dX12_laysWithin_159 : decode cX12_laysWithin 159 = .ok (.aload_n 0, 1) := by decide +kernel
theorem dX12_laysWithin_160 : decode cX12_laysWithin 160 = .ok (.dup, 1) := by decide +kernel
theorem dX12_laysWithin_161 : decode cX12_laysWithin 161 = .ok (.getfield 368, 3) := by decide +kernel
theorem dX12_laysWithin_164 : decode cX12_laysWithin 164 = .ok (.iload_n 2, 1) := by decide +kernel
theorem dX12_laysWithin_165 : decode cX12_laysWithin 165 = .ok (.ifCond .eq 7, 3) := by decide +kernel
theorem dX12_laysWithin_172 : decode cX12_laysWithin 172 = .ok (.iconst 0, 1) := by decide +kernel
theorem dX12_laysWithin_173 : decode cX12_laysWithin 173 = .ok (.iadd, 1) := by decide +kernel
theorem dX12_laysWithin_174 : decode cX12_laysWithin 174 = .ok (.putfield 368, 3) := by decide +kernel
theorem dX12_laysWithin_177 : decode cX12_laysWithin 177 = .ok (.goto (-96), 3) := by decide +kernel
theorem dX12_laysWithin_180 : decode cX12_laysWithin 180 = .ok (.return_, 1) := by decide +kernel
theorem dX12_leastWidth_0 : decode cX12_leastWidth 0 = .ok (.aload_n 0, 1) := by decide +kernel
theorem dX12_leastWidth_1 : decode cX12_leastWidth 1 = .ok (.iconst 0, 1) := by decide +kernel
theorem dX12_leastWidth_2 : decode cX12_leastWidth 2 = .ok (.putfield 74, 3) := by decide +kernel
theorem dX12_leastWidth_5 : decode cX12_leastWidth 5 = .ok (.iconst 0, 1) := by decide +kernel
theorem dX12_leastWidth_6 : decode cX12_leastWidth 6 = .ok (.istore_n 1, 1) := by decide +kernel
theorem dX12_leastWidth_7 : decode cX12_leastWidth 7 = .ok (.iload_n 1, 1) := by decide +kernel
theorem dX12_leastWidth_8 : decode cX12_leastWidth 8 = .ok (.bipush 6, 2) := by decide +kernel
theorem dX12_leastWidth_10 : decode cX12_leastWidth 10 = .ok (.if_icmp .gt 26, 3) := by decide +kernel
theorem dX12_leastWidth_13 : decode cX12_leastWidth 13 = .ok (.aload_n 0, 1) := by decide +kernel
theorem dX12_leastWidth_14 : decode cX12_leastWidth 14 = .ok (.iload_n 1, 1) := by decide +kernel
theorem dX12_leastWidth_15 : decode cX12_leastWidth 15 = .ok (.invokevirtual 378, 3) := by decide +kernel
theorem dX12_leastWidth_18 : decode cX12_leastWidth 18 = .ok (.aload_n 0, 1) := by decide +kernel
theorem dX12_leastWidth_19 : decode cX12_leastWidth 19 = .ok (.getfield 50, 3) := by decide +kernel
theorem dX12_leastWidth_22 : decode cX12_leastWidth 22 = .ok (.iconst 0, 1) := by decide +kernel
theorem dX12_leastWidth_23 : decode cX12_leastWidth 23 = .ok (.iaload, 1) := by decide +kernel
theorem dX12_leastWidth_24 : decode cX12_leastWidth 24 = .ok (.iconst (-1), 1) := by decide +kernel
theorem dX12_leastWidth_25 : decode cX12_leastWidth 25 = .ok (.if_icmp .eq 5, 3) := by decide +kernel
theorem dX12_leastWidth_30 : decode cX12_leastWidth 30 = .ok (.iinc 1 1, 3) := by decide +kernel
theorem dX12_leastWidth_33 : decode cX12_leastWidth 33 = .ok (.goto (-26), 3) := by decide +kernel
theorem dX12_leastWidth_36 : decode cX12_leastWidth 36 = .ok (.iconst (-1), 1) := by decide +kernel
theorem dX12_leastWidth_37 : decode cX12_leastWidth 37 = .ok (.ireturn, 1) := by decide +kernel
theorem dX12_many_0 : decode cX12_many 0 = .ok (.iconst 0, 1) := by decide +kernel
theorem dX12_many_1 : decode cX12_many 1 = .ok (.istore_n 2, 1) := by decide +kernel
theorem dX12_many_2 : decode cX12_many 2 = .ok (.iconst 0, 1) := by decide +kernel
theorem dX12_many_3 : decode cX12_many 3 = .ok (.istore_n 3, 1) := by decide +kernel
theorem dX12_many_4 : decode cX12_many 4 = .ok (.iload_n 3, 1) := by decide +kernel
theorem dX12_many_5 : decode cX12_many 5 = .ok (.bipush 64, 2) := by decide +kernel
theorem dX12_many_7 : decode cX12_many 7 = .ok (.if_icmp .ge 18, 3) := by decide +kernel
theorem dX12_many_10 : decode cX12_many 10 = .ok (.iload_n 2, 1) := by decide +kernel
theorem dX12_many_11 : decode cX12_many 11 = .ok (.lload_n 0, 1) := by decide +kernel
theorem dX12_many_12 : decode cX12_many 12 = .ok (.iload_n 3, 1) := by decide +kernel
theorem dX12_many_13 : decode cX12_many 13 = .ok (.lshr, 1) := by decide +kernel
theorem dX12_many_14 : decode cX12_many 14 = .ok (.lconst 1, 1) := by decide +kernel
theorem dX12_many_15 : decode cX12_many 15 = .ok (.land, 1) := by decide +kernel
theorem dX12_many_16 : decode cX12_many 16 = .ok (.l2i, 1) := by decide +kernel
theorem dX12_many_17 : decode cX12_many 17 = .ok (.iadd, 1) := by decide +kernel
theorem dX12_many_18 : decode cX12_many 18 = .ok (.istore_n 2, 1) := by decide +kernel
theorem dX12_many_19 : decode cX12_many 19 = .ok (.iinc 3 1, 3) := by decide +kernel
theorem dX12_many_22 : decode cX12_many 22 = .ok (.goto (-18), 3) := by decide +kernel
theorem dX12_many_25 : decode cX12_many 25 = .ok (.iload_n 2, 1) := by decide +kernel
theorem dX12_many_26 : decode cX12_many 26 = .ok (.ireturn, 1) := by decide +kernel
theorem dX12_model_0 : decode cX12_model 0 = .ok (.aload_n 0, 1) := by decide +kernel
theorem dX12_model_1 : decode cX12_model 1 = .ok (.iconst 0, 1) := by decide +kernel
theorem dX12_model_2 : decode cX12_model 2 = .ok (.putfield 74, 3) := by decide +kernel
theorem dX12_model_5 : decode cX12_model 5 = .ok (.aload_n 0, 1) := by decide +kernel
theorem dX12_model_6 : decode cX12_model 6 = .ok (.iconst (-1), 1) := by decide +kernel
theorem dX12_model_7 : decode cX12_model 7 = .ok (.invokevirtual 332, 3) := by decide +kernel
theorem dX12_model_10 : decode cX12_model 10 = .ok (.lstore_n 2, 1) := by decide +kernel
theorem dX12_model_11 : decode cX12_model 11 = .ok (.iload_n 1, 1) := by decide +kernel
theorem dX12_model_12 : decode cX12_model 12 = .ok (.iconst (-1), 1) := by decide +kernel
theorem dX12_model_13 : decode cX12_model 13 = .ok (.if_icmp .ne 8, 3) := by decide +kernel
theorem dX12_model_16 : decode cX12_model 16 = .ok (.lload_n 2, 1) := by decide +kernel
theorem dX12_model_17 : decode cX12_model 17 = .ok (.invokestatic 328, 3) := by decide +kernel
theorem dX12_model_20 : decode cX12_model 20 = .ok (.ireturn, 1) := by decide +kernel
theorem dX12_model_21 : decode cX12_model 21 = .ok (.iload_n 1, 1) := by decide +kernel
theorem dX12_model_22 : decode cX12_model 22 = .ok (.istore 4, 2) := by decide +kernel
theorem dX12_model_24 : decode cX12_model 24 = .ok (.iconst 0, 1) := by decide +kernel
theorem dX12_model_25 : decode cX12_model 25 = .ok (.istore 5, 2) := by decide +kernel
theorem dX12_model_27 : decode cX12_model 27 = .ok (.iload 5, 2) := by decide +kernel
theorem dX12_model_29 : decode cX12_model 29 = .ok (.bipush 64, 2) := by decide +kernel
theorem dX12_model_31 : decode cX12_model 31 = .ok (.if_icmp .ge 34, 3) := by decide +kernel
theorem dX12_model_34 : decode cX12_model 34 = .ok (.lload_n 2, 1) := by decide +kernel
theorem dX12_model_35 : decode cX12_model 35 = .ok (.iload 5, 2) := by decide +kernel
theorem dX12_model_37 : decode cX12_model 37 = .ok (.lshr, 1) := by decide +kernel
theorem dX12_model_38 : decode cX12_model 38 = .ok (.lconst 1, 1) := by decide +kernel
theorem dX12_model_39 : decode cX12_model 39 = .ok (.land, 1) := by decide +kernel
theorem dX12_model_40 : decode cX12_model 40 = .ok (.lconst 0, 1) := by decide +kernel
theorem dX12_model_41 : decode cX12_model 41 = .ok (.lcmp, 1) := by decide +kernel
theorem dX12_model_42 : decode cX12_model 42 = .ok (.ifCond .ne 6, 3) := by decide +kernel
theorem dX12_model_48 : decode cX12_model 48 = .ok (.iload 4, 2) := by decide +kernel
theorem dX12_model_50 : decode cX12_model 50 = .ok (.ifCond .ne 6, 3) := by decide +kernel
theorem dX12_model_53 : decode cX12_model 53 = .ok (.iload 5, 2) := by decide +kernel
theorem dX12_model_55 : decode cX12_model 55 = .ok (.ireturn, 1) := by decide +kernel
theorem dX12_model_56 : decode cX12_model 56 = .ok (.iinc 4 (-1), 3) := by decide +kernel
theorem dX12_model_59 : decode cX12_model 59 = .ok (.iinc 5 1, 3) := by decide +kernel
theorem dX12_model_62 : decode cX12_model 62 = .ok (.goto (-35), 3) := by decide +kernel
theorem dX12_model_65 : decode cX12_model 65 = .ok (.iconst (-1), 1) := by decide +kernel
theorem dX12_model_66 : decode cX12_model 66 = .ok (.ireturn, 1) := by decide +kernel
theorem dX12_models_0 : decode cX12_models 0 = .ok (.ldc2_w 245, 3) := by decide +kernel
theorem dX12_models_3 : decode cX12_models 3 = .ok (.lstore_n 2, 1) := by decide +kernel
theorem dX12_models_4 : decode cX12_models 4 = .ok (.iconst 0, 1) := by decide +kernel
theorem dX12_models_5 : decode cX12_models 5 = .ok (.istore 4, 2) := by decide +kernel
theorem dX12_models_7 : decode cX12_models 7 = .ok (.iload 4, 2) := by decide +kernel
theorem dX12_models_9 : decode cX12_models 9 = .ok (.aload_n 0, 1) := by decide +kernel
theorem dX12_models_10 : decode cX12_models 10 = .ok (.getfield 217, 3) := by decide +kernel
theorem dX12_models_13 : decode cX12_models 13 = .ok (.if_icmp .ge 24, 3) := by decide +kernel
theorem dX12_models_37 : decode cX12_models 37 = .ok (.lload_n 2, 1) := by decide +kernel
theorem dX12_models_38 : decode cX12_models 38 = .ok (.lreturn, 1) := by decide +kernel
theorem dX12_proof_0 : decode cX12_proof 0 = .ok (.aload_n 0, 1) := by decide +kernel
theorem dX12_proof_1 : decode cX12_proof 1 = .ok (.iconst 0, 1) := by decide +kernel
theorem dX12_proof_2 : decode cX12_proof 2 = .ok (.putfield 74, 3) := by decide +kernel
theorem dX12_proof_5 : decode cX12_proof 5 = .ok (.aload_n 0, 1) := by decide +kernel
theorem dX12_proof_6 : decode cX12_proof 6 = .ok (.invokevirtual 207, 3) := by decide +kernel
theorem dX12_proof_9 : decode cX12_proof 9 = .ok (.aload_n 0, 1) := by decide +kernel
theorem dX12_proof_10 : decode cX12_proof 10 = .ok (.aload_n 0, 1) := by decide +kernel
theorem dX12_proof_11 : decode cX12_proof 11 = .ok (.getfield 217, 3) := by decide +kernel
theorem dX12_proof_14 : decode cX12_proof 14 = .ok (.putfield 141, 3) := by decide +kernel
theorem dX12_proof_17 : decode cX12_proof 17 = .ok (.iconst 0, 1) := by decide +kernel
theorem dX12_proof_18 : decode cX12_proof 18 = .ok (.istore_n 1, 1) := by decide +kernel
theorem dX12_proof_19 : decode cX12_proof 19 = .ok (.iload_n 1, 1) := by decide +kernel
theorem dX12_proof_20 : decode cX12_proof 20 = .ok (.bipush 22, 2) := by decide +kernel
theorem dX12_proof_22 : decode cX12_proof 22 = .ok (.aload_n 0, 1) := by decide +kernel
theorem dX12_proof_23 : decode cX12_proof 23 = .ok (.getfield 217, 3) := by decide +kernel
theorem dX12_proof_26 : decode cX12_proof 26 = .ok (.imul, 1) := by decide +kernel
theorem dX12_proof_27 : decode cX12_proof 27 = .ok (.if_icmp .ge 21, 3) := by decide +kernel
theorem dX12_proof_48 : decode cX12_proof 48 = .ok (.aload_n 0, 1) := by decide +kernel
theorem dX12_proof_49 : decode cX12_proof 49 = .ok (.invokevirtual 100, 3) := by decide +kernel
theorem dX12_proof_52 : decode cX12_proof 52 = .ok (.aload_n 0, 1) := by decide +kernel
theorem dX12_proof_53 : decode cX12_proof 53 = .ok (.invokevirtual 103, 3) := by decide +kernel
theorem dX12_proof_56 : decode cX12_proof 56 = .ok (.ifCond .ne 25, 3) := by decide +kernel
theorem dX12_proof_59 : decode cX12_proof 59 = .ok (.aload_n 0, 1) := by decide +kernel
theorem dX12_proof_60 : decode cX12_proof 60 = .ok (.getfield 83, 3) := by decide +kernel
theorem dX12_proof_63 : decode cX12_proof 63 = .ok (.aload_n 0, 1) := by decide +kernel
theorem dX12_proof_64 : decode cX12_proof 64 = .ok (.getfield 80, 3) := by decide +kernel
theorem dX12_proof_67 : decode cX12_proof 67 = .ok (.if_icmp .ge 14, 3) := by decide +kernel
theorem dX12_proof_81 : decode cX12_proof 81 = .ok (.aload_n 0, 1) := by decide +kernel
theorem dX12_proof_82 : decode cX12_proof 82 = .ok (.aload_n 0, 1) := by decide +kernel
theorem dX12_proof_83 : decode cX12_proof 83 = .ok (.getfield 86, 3) := by decide +kernel
theorem dX12_proof_86 : decode cX12_proof 86 = .ok (.putfield 17, 3) := by decide +kernel
theorem dX12_proof_89 : decode cX12_proof 89 = .ok (.aload_n 0, 1) := by decide +kernel
theorem dX12_proof_90 : decode cX12_proof 90 = .ok (.aload_n 0, 1) := by decide +kernel
theorem dX12_proof_91 : decode cX12_proof 91 = .ok (.invokevirtual 103, 3) := by decide +kernel
theorem dX12_proof_94 : decode cX12_proof 94 = .ok (.iconst 1, 1) := by decide +kernel
theorem dX12_proof_95 : decode cX12_proof 95 = .ok (.invokevirtual 213, 3) := by decide +kernel
theorem dX12_proof_98 : decode cX12_proof 98 = .ok (.ifCond .eq 5, 3) := by decide +kernel
theorem dX12_proof_103 : decode cX12_proof 103 = .ok (.aload_n 0, 1) := by decide +kernel
theorem dX12_proof_104 : decode cX12_proof 104 = .ok (.invokevirtual 223, 3) := by decide +kernel
theorem dX12_proof_107 : decode cX12_proof 107 = .ok (.aload_n 0, 1) := by decide +kernel
theorem dX12_proof_108 : decode cX12_proof 108 = .ok (.getfield 226, 3) := by decide +kernel
theorem dX12_proof_111 : decode cX12_proof 111 = .ok (.aload_n 0, 1) := by decide +kernel
theorem dX12_proof_112 : decode cX12_proof 112 = .ok (.getfield 217, 3) := by decide +kernel
theorem dX12_proof_115 : decode cX12_proof 115 = .ok (.isub, 1) := by decide +kernel
theorem dX12_proof_116 : decode cX12_proof 116 = .ok (.ireturn, 1) := by decide +kernel
theorem dX12_taken_0 : decode cX12_taken 0 = .ok (.iconst 0, 1) := by decide +kernel
theorem dX12_taken_1 : decode cX12_taken 1 = .ok (.istore_n 1, 1) := by decide +kernel
theorem dX12_taken_2 : decode cX12_taken 2 = .ok (.iload_n 1, 1) := by decide +kernel
theorem dX12_taken_3 : decode cX12_taken 3 = .ok (.bipush 22, 2) := by decide +kernel
theorem dX12_taken_5 : decode cX12_taken 5 = .ok (.aload_n 0, 1) := by decide +kernel
theorem dX12_taken_6 : decode cX12_taken 6 = .ok (.getfield 141, 3) := by decide +kernel
theorem dX12_taken_9 : decode cX12_taken 9 = .ok (.imul, 1) := by decide +kernel
theorem dX12_taken_10 : decode cX12_taken 10 = .ok (.if_icmp .ge 21, 3) := by decide +kernel
theorem dX12_taken_31 : decode cX12_taken 31 = .ok (.aload_n 0, 1) := by decide +kernel
theorem dX12_taken_32 : decode cX12_taken 32 = .ok (.aload_n 0, 1) := by decide +kernel
theorem dX12_taken_33 : decode cX12_taken 33 = .ok (.getfield 141, 3) := by decide +kernel
theorem dX12_taken_36 : decode cX12_taken 36 = .ok (.putfield 226, 3) := by decide +kernel
theorem dX12_taken_39 : decode cX12_taken 39 = .ok (.return_, 1) := by decide +kernel
theorem dX12_within_0 : decode cX12_within 0 = .ok (.aload_n 0, 1) := by decide +kernel
theorem dX12_within_1 : decode cX12_within 1 = .ok (.iconst 0, 1) := by decide +kernel
theorem dX12_within_2 : decode cX12_within 2 = .ok (.putfield 74, 3) := by decide +kernel
theorem dX12_within_5 : decode cX12_within 5 = .ok (.aload_n 0, 1) := by decide +kernel
theorem dX12_within_6 : decode cX12_within 6 = .ok (.iload_n 1, 1) := by decide +kernel
theorem dX12_within_7 : decode cX12_within 7 = .ok (.iconst 0, 1) := by decide +kernel
theorem dX12_within_8 : decode cX12_within 8 = .ok (.bipush 6, 2) := by decide +kernel
theorem dX12_within_10 : decode cX12_within 10 = .ok (.invokestatic 131, 3) := by decide +kernel
theorem dX12_within_13 : decode cX12_within 13 = .ok (.ifCond .ne 7, 3) := by decide +kernel
theorem dX12_within_16 : decode cX12_within 16 = .ok (.iconst 1, 1) := by decide +kernel
theorem dX12_within_17 : decode cX12_within 17 = .ok (.goto 4, 3) := by decide +kernel
theorem dX12_within_20 : decode cX12_within 20 = .ok (.iconst 0, 1) := by decide +kernel
theorem dX12_within_21 : decode cX12_within 21 = .ok (.iconst 1, 1) := by decide +kernel
theorem dX12_within_22 : decode cX12_within 22 = .ok (.invokevirtual 213, 3) := by decide +kernel
theorem dX12_within_25 : decode cX12_within 25 = .ok (.ifCond .ne 25, 3) := by decide +kernel
theorem dX12_within_28 : decode cX12_within 28 = .ok (.aload_n 0, 1) := by decide +kernel
theorem dX12_within_29 : decode cX12_within 29 = .ok (.iload_n 2, 1) := by decide +kernel
theorem dX12_within_30 : decode cX12_within 30 = .ok (.iconst 0, 1) := by decide +kernel
theorem dX12_within_31 : decode cX12_within 31 = .ok (.iconst 2, 1) := by decide +kernel
theorem dX12_within_32 : decode cX12_within 32 = .ok (.invokestatic 131, 3) := by decide +kernel
theorem dX12_within_35 : decode cX12_within 35 = .ok (.ifCond .ne 7, 3) := by decide +kernel
theorem dX12_within_38 : decode cX12_within 38 = .ok (.iconst 1, 1) := by decide +kernel
theorem dX12_within_39 : decode cX12_within 39 = .ok (.goto 4, 3) := by decide +kernel
theorem dX12_within_42 : decode cX12_within 42 = .ok (.iconst 0, 1) := by decide +kernel
theorem dX12_within_43 : decode cX12_within 43 = .ok (.iconst 2, 1) := by decide +kernel
theorem dX12_within_44 : decode cX12_within 44 = .ok (.invokevirtual 213, 3) := by decide +kernel
theorem dX12_within_47 : decode cX12_within 47 = .ok (.ifCond .eq 5, 3) := by decide +kernel
theorem dX12_within_50 : decode cX12_within 50 = .ok (.iconst 0, 1) := by decide +kernel
theorem dX12_within_51 : decode cX12_within 51 = .ok (.ireturn, 1) := by decide +kernel
theorem dX12_within_52 : decode cX12_within 52 = .ok (.aload_n 0, 1) := by decide +kernel
theorem dX12_within_53 : decode cX12_within 53 = .ok (.iload_n 1, 1) := by decide +kernel
theorem dX12_within_54 : decode cX12_within 54 = .ok (.invokevirtual 378, 3) := by decide +kernel
theorem dX12_within_57 : decode cX12_within 57 = .ok (.iload_n 2, 1) := by decide +kernel
theorem dX12_within_58 : decode cX12_within 58 = .ok (.ifCond .ne 10, 3) := by decide +kernel
theorem dX12_within_61 : decode cX12_within 61 = .ok (.aload_n 0, 1) := by decide +kernel
theorem dX12_within_62 : decode cX12_within 62 = .ok (.getfield 365, 3) := by decide +kernel
theorem dX12_within_65 : decode cX12_within 65 = .ok (.goto 21, 3) := by decide +kernel
theorem dX12_within_68 : decode cX12_within 68 = .ok (.iload_n 2, 1) := by decide +kernel
theorem dX12_within_69 : decode cX12_within 69 = .ok (.iconst 1, 1) := by decide +kernel
theorem dX12_within_70 : decode cX12_within 70 = .ok (.if_icmp .ne 10, 3) := by decide +kernel
theorem dX12_within_73 : decode cX12_within 73 = .ok (.aload_n 0, 1) := by decide +kernel
theorem dX12_within_74 : decode cX12_within 74 = .ok (.getfield 368, 3) := by decide +kernel
theorem dX12_within_77 : decode cX12_within 77 = .ok (.goto 9, 3) := by decide +kernel
theorem dX12_within_80 : decode cX12_within 80 = .ok (.aload_n 0, 1) := by decide +kernel
theorem dX12_within_81 : decode cX12_within 81 = .ok (.getfield 50, 3) := by decide +kernel
theorem dX12_within_84 : decode cX12_within 84 = .ok (.iconst 0, 1) := by decide +kernel
theorem dX12_within_85 : decode cX12_within 85 = .ok (.iaload, 1) := by decide +kernel
theorem dX12_within_86 : decode cX12_within 86 = .ok (.ireturn, 1) := by decide +kernel
