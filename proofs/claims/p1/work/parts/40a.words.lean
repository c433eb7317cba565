theorem u_480 : Cond.codeWith yL_claim cL_claim 3 (some .int) [(0, 8, 11, 13)] ∈ UU := uu_mem 480 (by decide +kernel) (by decide +kernel)
theorem u_481 : Cond.classLink RL 13 "java/lang/IllegalArgumentException" ∈ UU := uu_mem 481 (by decide +kernel) (by decide +kernel)
theorem u_482 : Cond.methodLink RL 7 yX11_claim ∈ UU := uu_mem 482 (by decide +kernel) (by decide +kernel)
theorem u_483 : Cond.instanceMethod yX11_claim ∈ UU := uu_mem 483 (by decide +kernel) (by decide +kernel)
theorem u_484 : Cond.selects RX11 yX11_claim yX11_claim ∈ UU := uu_mem 484 (by decide +kernel) (by decide +kernel)
theorem u_1051 : Cond.codeWith yL_proof cL_proof 3 (some .int) [(0, 8, 11, 13)] ∈ UU := uu_mem 1051 (by decide +kernel) (by decide +kernel)
theorem u_1052 : Cond.methodLink RL 15 yX11_proof ∈ UU := uu_mem 1052 (by decide +kernel) (by decide +kernel)
theorem u_1053 : Cond.instanceMethod yX11_proof ∈ UU := uu_mem 1053 (by decide +kernel) (by decide +kernel)
theorem u_1054 : Cond.selects RX11 yX11_proof yX11_proof ∈ UU := uu_mem 1054 (by decide +kernel) (by decide +kernel)
theorem u_1072 : Cond.codeWith yL_line cL_line 5 (some .int) [(0, 10, 13, 22), (0, 10, 17, 24)] ∈ UU := uu_mem 1072 (by decide +kernel) (by decide +kernel)
theorem u_1073 : Cond.classLink RL 22 "java/lang/IndexOutOfBoundsException" ∈ UU := uu_mem 1073 (by decide +kernel) (by decide +kernel)
theorem u_1074 : Cond.classLink RL 24 "java/util/NoSuchElementException" ∈ UU := uu_mem 1074 (by decide +kernel) (by decide +kernel)
theorem u_1075 : Cond.methodLink RL 18 yX11_line ∈ UU := uu_mem 1075 (by decide +kernel) (by decide +kernel)
theorem u_1076 : Cond.instanceMethod yX11_line ∈ UU := uu_mem 1076 (by decide +kernel) (by decide +kernel)
theorem u_1077 : Cond.selects RX11 yX11_line yX11_line ∈ UU := uu_mem 1077 (by decide +kernel) (by decide +kernel)
theorem u_1117 : Cond.codeWith yL_lits cL_lits 5 (some .int) [(0, 10, 13, 22), (0, 10, 17, 24)] ∈ UU := uu_mem 1117 (by decide +kernel) (by decide +kernel)
theorem u_1118 : Cond.methodLink RL 26 yX11_lits ∈ UU := uu_mem 1118 (by decide +kernel) (by decide +kernel)
theorem u_1119 : Cond.instanceMethod yX11_lits ∈ UU := uu_mem 1119 (by decide +kernel) (by decide +kernel)
theorem u_1120 : Cond.selects RX11 yX11_lits yX11_lits ∈ UU := uu_mem 1120 (by decide +kernel) (by decide +kernel)
theorem u_1125 : Cond.codeWith yL_plane cL_plane 5 (some .int) [(0, 10, 13, 22), (0, 10, 17, 24)] ∈ UU := uu_mem 1125 (by decide +kernel) (by decide +kernel)
theorem u_1126 : Cond.methodLink RL 30 yX11_plane ∈ UU := uu_mem 1126 (by decide +kernel) (by decide +kernel)
theorem u_1127 : Cond.instanceMethod yX11_plane ∈ UU := uu_mem 1127 (by decide +kernel) (by decide +kernel)
theorem u_1128 : Cond.selects RX11 yX11_plane yX11_plane ∈ UU := uu_mem 1128 (by decide +kernel) (by decide +kernel)
theorem u_1134 : Cond.codeWith yL_cut cL_cut 4 (some .int) [(0, 9, 12, 22), (0, 9, 15, 24)] ∈ UU := uu_mem 1134 (by decide +kernel) (by decide +kernel)
theorem u_1135 : Cond.methodLink RL 33 yX11_cut ∈ UU := uu_mem 1135 (by decide +kernel) (by decide +kernel)
theorem u_1136 : Cond.instanceMethod yX11_cut ∈ UU := uu_mem 1136 (by decide +kernel) (by decide +kernel)
theorem u_1137 : Cond.selects RX11 yX11_cut yX11_cut ∈ UU := uu_mem 1137 (by decide +kernel) (by decide +kernel)
theorem u_1148 : Cond.codeWith yL_holds cL_holds 5 (some .int) [(0, 17, 20, 22), (0, 17, 24, 13)] ∈ UU := uu_mem 1148 (by decide +kernel) (by decide +kernel)
theorem u_1149 : Cond.methodLink RL 37 yX11_holds ∈ UU := uu_mem 1149 (by decide +kernel) (by decide +kernel)
theorem u_1150 : Cond.instanceMethod yX11_holds ∈ UU := uu_mem 1150 (by decide +kernel) (by decide +kernel)
theorem u_1151 : Cond.selects RX11 yX11_holds yX11_holds ∈ UU := uu_mem 1151 (by decide +kernel) (by decide +kernel)
theorem u_1159 : Cond.codeWith yL_often cL_often 4 (some .int) [(0, 9, 12, 22)] ∈ UU := uu_mem 1159 (by decide +kernel) (by decide +kernel)
theorem u_1160 : Cond.methodLink RL 41 yX11_often ∈ UU := uu_mem 1160 (by decide +kernel) (by decide +kernel)
theorem u_1161 : Cond.instanceMethod yX11_often ∈ UU := uu_mem 1161 (by decide +kernel) (by decide +kernel)
theorem u_1162 : Cond.selects RX11 yX11_often yX11_often ∈ UU := uu_mem 1162 (by decide +kernel) (by decide +kernel)
theorem u_1166 : Cond.codeWith yL_measure cL_measure 5 (some .int) [(0, 10, 13, 22), (0, 10, 17, 24)] ∈ UU := uu_mem 1166 (by decide +kernel) (by decide +kernel)
theorem u_1167 : Cond.methodLink RL 44 yX11_measure ∈ UU := uu_mem 1167 (by decide +kernel) (by decide +kernel)
theorem u_1168 : Cond.instanceMethod yX11_measure ∈ UU := uu_mem 1168 (by decide +kernel) (by decide +kernel)
theorem u_1169 : Cond.selects RX11 yX11_measure yX11_measure ∈ UU := uu_mem 1169 (by decide +kernel) (by decide +kernel)
theorem u_1194 : Cond.codeWith yL_tree cL_tree 4 (some .int) [(0, 8, 11, 22)] ∈ UU := uu_mem 1194 (by decide +kernel) (by decide +kernel)
theorem u_1195 : Cond.methodLink RL 47 yX11_tree ∈ UU := uu_mem 1195 (by decide +kernel) (by decide +kernel)
theorem u_1196 : Cond.instanceMethod yX11_tree ∈ UU := uu_mem 1196 (by decide +kernel) (by decide +kernel)
theorem u_1197 : Cond.selects RX11 yX11_tree yX11_tree ∈ UU := uu_mem 1197 (by decide +kernel) (by decide +kernel)
theorem u_1201 : Cond.codeWith yL_needs cL_needs 5 (some .int) [(0, 17, 20, 22)] ∈ UU := uu_mem 1201 (by decide +kernel) (by decide +kernel)
theorem u_1202 : Cond.methodLink RL 51 yX11_needs ∈ UU := uu_mem 1202 (by decide +kernel) (by decide +kernel)
theorem u_1203 : Cond.instanceMethod yX11_needs ∈ UU := uu_mem 1203 (by decide +kernel) (by decide +kernel)
theorem u_1204 : Cond.selects RX11 yX11_needs yX11_needs ∈ UU := uu_mem 1204 (by decide +kernel) (by decide +kernel)
theorem u_1208 : Cond.codeWith yL_uses cL_uses 4 (some .int) [(0, 9, 12, 22)] ∈ UU := uu_mem 1208 (by decide +kernel) (by decide +kernel)
theorem u_1209 : Cond.methodLink RL 54 yX11_uses ∈ UU := uu_mem 1209 (by decide +kernel) (by decide +kernel)
theorem u_1210 : Cond.instanceMethod yX11_uses ∈ UU := uu_mem 1210 (by decide +kernel) (by decide +kernel)
theorem u_1211 : Cond.selects RX11 yX11_uses yX11_uses ∈ UU := uu_mem 1211 (by decide +kernel) (by decide +kernel)
theorem u_1216 : Cond.codeWith yL_same cL_same 4 (some .int) [(0, 9, 12, 22)] ∈ UU := uu_mem 1216 (by decide +kernel) (by decide +kernel)
theorem u_1217 : Cond.methodLink RL 57 yX11_same ∈ UU := uu_mem 1217 (by decide +kernel) (by decide +kernel)
theorem u_1218 : Cond.instanceMethod yX11_same ∈ UU := uu_mem 1218 (by decide +kernel) (by decide +kernel)
theorem u_1219 : Cond.selects RX11 yX11_same yX11_same ∈ UU := uu_mem 1219 (by decide +kernel) (by decide +kernel)
theorem u_1227 : Cond.codeWith yL_gives cL_gives 5 (some .int) [(0, 17, 20, 22)] ∈ UU := uu_mem 1227 (by decide +kernel) (by decide +kernel)
theorem u_1228 : Cond.methodLink RL 60 yX11_gives ∈ UU := uu_mem 1228 (by decide +kernel) (by decide +kernel)
theorem u_1229 : Cond.instanceMethod yX11_gives ∈ UU := uu_mem 1229 (by decide +kernel) (by decide +kernel)
theorem u_1230 : Cond.selects RX11 yX11_gives yX11_gives ∈ UU := uu_mem 1230 (by decide +kernel) (by decide +kernel)
theorem u_1235 : Cond.codeWith yL_units cL_units 6 (some .int) [(0, 12, 15, 13), (0, 12, 19, 24)] ∈ UU := uu_mem 1235 (by decide +kernel) (by decide +kernel)
theorem u_1236 : Cond.methodLink RL 63 yX11_units ∈ UU := uu_mem 1236 (by decide +kernel) (by decide +kernel)
theorem u_1237 : Cond.instanceMethod yX11_units ∈ UU := uu_mem 1237 (by decide +kernel) (by decide +kernel)
theorem u_1238 : Cond.selects RX11 yX11_units yX11_units ∈ UU := uu_mem 1238 (by decide +kernel) (by decide +kernel)
theorem u_1282 : Cond.codeWith yL_within cL_within 5 (some .int) [(0, 10, 13, 13), (0, 10, 17, 24)] ∈ UU := uu_mem 1282 (by decide +kernel) (by decide +kernel)
theorem u_1283 : Cond.methodLink RL 67 yX11_within ∈ UU := uu_mem 1283 (by decide +kernel) (by decide +kernel)
theorem u_1284 : Cond.instanceMethod yX11_within ∈ UU := uu_mem 1284 (by decide +kernel) (by decide +kernel)
theorem u_1285 : Cond.selects RX11 yX11_within yX11_within ∈ UU := uu_mem 1285 (by decide +kernel) (by decide +kernel)
theorem u_1293 : Cond.codeWith yL_has cL_has 6 (some .int) [(0, 19, 22, 13)] ∈ UU := uu_mem 1293 (by decide +kernel) (by decide +kernel)
theorem u_1294 : Cond.methodLink RL 70 yX11_has ∈ UU := uu_mem 1294 (by decide +kernel) (by decide +kernel)
theorem u_1295 : Cond.instanceMethod yX11_has ∈ UU := uu_mem 1295 (by decide +kernel) (by decide +kernel)
theorem u_1296 : Cond.selects RX11 yX11_has yX11_has ∈ UU := uu_mem 1296 (by decide +kernel) (by decide +kernel)
theorem u_1301 : Cond.codeWith yL_node cL_node 4 (some .int) [(0, 9, 12, 24)] ∈ UU := uu_mem 1301 (by decide +kernel) (by decide +kernel)
theorem u_1302 : Cond.methodLink RL 74 yX11_node ∈ UU := uu_mem 1302 (by decide +kernel) (by decide +kernel)
theorem u_1303 : Cond.instanceMethod yX11_node ∈ UU := uu_mem 1303 (by decide +kernel) (by decide +kernel)
theorem u_1304 : Cond.selects RX11 yX11_node yX11_node ∈ UU := uu_mem 1304 (by decide +kernel) (by decide +kernel)
theorem u_1310 : Cond.codeWith yL_pebbled cL_pebbled 4 (some .int) [(0, 9, 12, 13)] ∈ UU := uu_mem 1310 (by decide +kernel) (by decide +kernel)
theorem u_1311 : Cond.methodLink RL 77 yX11_pebbled ∈ UU := uu_mem 1311 (by decide +kernel) (by decide +kernel)
theorem u_1312 : Cond.instanceMethod yX11_pebbled ∈ UU := uu_mem 1312 (by decide +kernel) (by decide +kernel)
theorem u_1313 : Cond.selects RX11 yX11_pebbled yX11_pebbled ∈ UU := uu_mem 1313 (by decide +kernel) (by decide +kernel)
theorem u_1318 : Cond.codeWith yL_trim cL_trim 4 (some .int) [(0, 9, 12, 22)] ∈ UU := uu_mem 1318 (by decide +kernel) (by decide +kernel)
theorem u_1319 : Cond.methodLink RL 80 yX11_trim ∈ UU := uu_mem 1319 (by decide +kernel) (by decide +kernel)
theorem u_1320 : Cond.instanceMethod yX11_trim ∈ UU := uu_mem 1320 (by decide +kernel) (by decide +kernel)
theorem u_1321 : Cond.selects RX11 yX11_trim yX11_trim ∈ UU := uu_mem 1321 (by decide +kernel) (by decide +kernel)
theorem u_1387 : Cond.codeWith yL_translate cL_translate 4 (some .int) [(0, 9, 12, 22), (0, 9, 15, 86)] ∈ UU := uu_mem 1387 (by decide +kernel) (by decide +kernel)
theorem u_1388 : Cond.classLink RL 86 "java/lang/IllegalStateException" ∈ UU := uu_mem 1388 (by decide +kernel) (by decide +kernel)
theorem u_1389 : Cond.methodLink RL 83 yX11_translate ∈ UU := uu_mem 1389 (by decide +kernel) (by decide +kernel)
theorem u_1390 : Cond.instanceMethod yX11_translate ∈ UU := uu_mem 1390 (by decide +kernel) (by decide +kernel)
theorem u_1391 : Cond.selects RX11 yX11_translate yX11_translate ∈ UU := uu_mem 1391 (by decide +kernel) (by decide +kernel)
theorem u_1462 : Cond.codeWith yL_translated cL_translated 4 (some .int) [(0, 9, 12, 22), (0, 9, 15, 86)] ∈ UU := uu_mem 1462 (by decide +kernel) (by decide +kernel)
theorem u_1463 : Cond.methodLink RL 88 yX11_translated ∈ UU := uu_mem 1463 (by decide +kernel) (by decide +kernel)
theorem u_1464 : Cond.instanceMethod yX11_translated ∈ UU := uu_mem 1464 (by decide +kernel) (by decide +kernel)
theorem u_1465 : Cond.selects RX11 yX11_translated yX11_translated ∈ UU := uu_mem 1465 (by decide +kernel) (by decide +kernel)
theorem u_1470 : Cond.codeWith yL_slack cL_slack 5 (some .int) [(0, 10, 13, 22), (0, 10, 17, 13)] ∈ UU := uu_mem 1470 (by decide +kernel) (by decide +kernel)
theorem u_1471 : Cond.methodLink RL 91 yX11_slack ∈ UU := uu_mem 1471 (by decide +kernel) (by decide +kernel)
theorem u_1472 : Cond.instanceMethod yX11_slack ∈ UU := uu_mem 1472 (by decide +kernel) (by decide +kernel)
theorem u_1473 : Cond.selects RX11 yX11_slack yX11_slack ∈ UU := uu_mem 1473 (by decide +kernel) (by decide +kernel)
theorem u_1478 : Cond.codeWith yL_rests cL_rests 4 (some .int) [(0, 9, 12, 22)] ∈ UU := uu_mem 1478 (by decide +kernel) (by decide +kernel)
theorem u_1479 : Cond.methodLink RL 94 yX11_rests ∈ UU := uu_mem 1479 (by decide +kernel) (by decide +kernel)
theorem u_1480 : Cond.instanceMethod yX11_rests ∈ UU := uu_mem 1480 (by decide +kernel) (by decide +kernel)
theorem u_1481 : Cond.selects RX11 yX11_rests yX11_rests ∈ UU := uu_mem 1481 (by decide +kernel) (by decide +kernel)
theorem u_1486 : Cond.codeWith yL_without cL_without 4 (some .int) [(0, 9, 12, 22)] ∈ UU := uu_mem 1486 (by decide +kernel) (by decide +kernel)
theorem u_1487 : Cond.methodLink RL 97 yX11_without ∈ UU := uu_mem 1487 (by decide +kernel) (by decide +kernel)
theorem u_1488 : Cond.instanceMethod yX11_without ∈ UU := uu_mem 1488 (by decide +kernel) (by decide +kernel)
theorem u_1489 : Cond.selects RX11 yX11_without yX11_without ∈ UU := uu_mem 1489 (by decide +kernel) (by decide +kernel)
theorem u_1494 : Cond.codeWith yL_stands cL_stands 5 (some .int) [(0, 10, 13, 22)] ∈ UU := uu_mem 1494 (by decide +kernel) (by decide +kernel)
theorem u_1495 : Cond.methodLink RL 100 yX11_stands ∈ UU := uu_mem 1495 (by decide +kernel) (by decide +kernel)
theorem u_1496 : Cond.instanceMethod yX11_stands ∈ UU := uu_mem 1496 (by decide +kernel) (by decide +kernel)
theorem u_1497 : Cond.selects RX11 yX11_stands yX11_stands ∈ UU := uu_mem 1497 (by decide +kernel) (by decide +kernel)
theorem m_X11_claim : mV yX11_claim cX11_claim 3 (some .int) 0 := ⟨u_485, u_483, u_484, u_123, ⟨by decide, by decide, by decide +kernel⟩⟩
theorem m_X11_cut : mV yX11_cut cX11_cut 3 (some .int) 1 := ⟨u_1138, u_1136, u_1137, u_123, ⟨by decide, by decide, by decide +kernel⟩⟩
theorem m_X11_gives : mV yX11_gives cX11_gives 4 (some .boolean) 2 := ⟨u_1231, u_1229, u_1230, u_123, ⟨by decide, by decide, by decide +kernel⟩⟩
theorem m_X11_has : mV yX11_has cX11_has 4 (some .boolean) 3 := ⟨u_1297, u_1295, u_1296, u_123, ⟨by decide, by decide, by decide +kernel⟩⟩
theorem m_X11_holds : mV yX11_holds cX11_holds 4 (some .boolean) 2 := ⟨u_1152, u_1150, u_1151, u_123, ⟨by decide, by decide, by decide +kernel⟩⟩
theorem m_X11_line : mV yX11_line cX11_line 4 (some .int) 2 := ⟨u_1078, u_1076, u_1077, u_123, ⟨by decide, by decide, by decide +kernel⟩⟩
theorem m_X11_lits : mV yX11_lits cX11_lits 4 (some .int) 2 := ⟨u_1121, u_1119, u_1120, u_123, ⟨by decide, by decide, by decide +kernel⟩⟩
theorem m_X11_measure : mV yX11_measure cX11_measure 4 (some .int) 2 := ⟨u_1170, u_1168, u_1169, u_123, ⟨by decide, by decide, by decide +kernel⟩⟩
theorem m_X11_needs : mV yX11_needs cX11_needs 4 (some .boolean) 2 := ⟨u_1205, u_1203, u_1204, u_123, ⟨by decide, by decide, by decide +kernel⟩⟩
theorem m_X11_node : mV yX11_node cX11_node 3 (some .int) 1 := ⟨u_1305, u_1303, u_1304, u_123, ⟨by decide, by decide, by decide +kernel⟩⟩
theorem m_X11_often : mV yX11_often cX11_often 2 (some .int) 1 := ⟨u_1163, u_1161, u_1162, u_123, ⟨by decide, by decide, by decide +kernel⟩⟩
theorem m_X11_pebbled : mV yX11_pebbled cX11_pebbled 2 (some .int) 1 := ⟨u_1314, u_1312, u_1313, u_123, ⟨by decide, by decide, by decide +kernel⟩⟩
theorem m_X11_plane : mV yX11_plane cX11_plane 4 (some .int) 2 := ⟨u_1129, u_1127, u_1128, u_123, ⟨by decide, by decide, by decide +kernel⟩⟩
theorem m_X11_proof : mV yX11_proof cX11_proof 3 (some .int) 0 := ⟨u_1055, u_1053, u_1054, u_123, ⟨by decide, by decide, by decide +kernel⟩⟩
theorem m_X11_rests : mV yX11_rests cX11_rests 2 (some .int) 1 := ⟨u_1482, u_1480, u_1481, u_123, ⟨by decide, by decide, by decide +kernel⟩⟩
theorem m_X11_same : mV yX11_same cX11_same 4 (some .int) 1 := ⟨u_1220, u_1218, u_1219, u_123, ⟨by decide, by decide, by decide +kernel⟩⟩
theorem m_X11_slack : mV yX11_slack cX11_slack 4 (some .int) 2 := ⟨u_1474, u_1472, u_1473, u_123, ⟨by decide, by decide, by decide +kernel⟩⟩
theorem m_X11_stands : mV yX11_stands cX11_stands 7 (some .int) 2 := ⟨u_1498, u_1496, u_1497, u_123, ⟨by decide, by decide, by decide +kernel⟩⟩
theorem m_X11_translate : mV yX11_translate cX11_translate 3 (some .int) 1 := ⟨u_1392, u_1390, u_1391, u_123, ⟨by decide, by decide, by decide +kernel⟩⟩
theorem m_X11_translated : mV yX11_translated cX11_translated 3 (some .int) 1 := ⟨u_1466, u_1464, u_1465, u_123, ⟨by decide, by decide, by decide +kernel⟩⟩
theorem m_X11_tree : mV yX11_tree cX11_tree 2 (some .long) 1 := ⟨u_1198, u_1196, u_1197, u_123, ⟨by decide, by decide, by decide +kernel⟩⟩
theorem m_X11_trim : mV yX11_trim cX11_trim 3 (some .int) 1 := ⟨u_1322, u_1320, u_1321, u_123, ⟨by decide, by decide, by decide +kernel⟩⟩
theorem m_X11_units : mV yX11_units cX11_units 5 (some .int) 3 := ⟨u_1239, u_1237, u_1238, u_123, ⟨by decide, by decide, by decide +kernel⟩⟩
theorem m_X11_uses : mV yX11_uses cX11_uses 2 (some .int) 1 := ⟨u_1212, u_1210, u_1211, u_123, ⟨by decide, by decide, by decide +kernel⟩⟩
theorem m_X11_within : mV yX11_within cX11_within 4 (some .int) 2 := ⟨u_1286, u_1284, u_1285, u_123, ⟨by decide, by decide, by decide +kernel⟩⟩
theorem m_X11_without : mV yX11_without cX11_without 2 (some .int) 1 := ⟨u_1490, u_1488, u_1489, u_123, ⟨by decide, by decide, by decide +kernel⟩⟩
theorem dL_claim_0 : decode cL_claim 0 = .ok (.aload_n 1, 1) := by decide +kernel
theorem dL_claim_1 : decode cL_claim 1 = .ok (.iconst 0, 1) := by decide +kernel
theorem dL_claim_2 : decode cL_claim 2 = .ok (.aload_n 0, 1) := by decide +kernel
theorem dL_claim_3 : decode cL_claim 3 = .ok (.invokevirtual 7, 3) := by decide +kernel
theorem dL_claim_6 : decode cL_claim 6 = .ok (.i2l, 1) := by decide +kernel
theorem dL_claim_7 : decode cL_claim 7 = .ok (.lastore, 1) := by decide +kernel
theorem dL_claim_8 : decode cL_claim 8 = .ok (.goto 6, 3) := by decide +kernel
theorem dL_claim_14 : decode cL_claim 14 = .ok (.iconst 0, 1) := by decide +kernel
theorem dL_claim_15 : decode cL_claim 15 = .ok (.ireturn, 1) := by decide +kernel
theorem dL_cut_0 : decode cL_cut 0 = .ok (.aload_n 2, 1) := by decide +kernel
theorem dL_cut_1 : decode cL_cut 1 = .ok (.iconst 0, 1) := by decide +kernel
theorem dL_cut_2 : decode cL_cut 2 = .ok (.aload_n 0, 1) := by decide +kernel
theorem dL_cut_3 : decode cL_cut 3 = .ok (.iload_n 1, 1) := by decide +kernel
theorem dL_cut_4 : decode cL_cut 4 = .ok (.invokevirtual 33, 3) := by decide +kernel
theorem dL_cut_12 : decode cL_cut 12 = .ok (.astore_n 3, 1) := by decide +kernel
theorem dL_cut_13 : decode cL_cut 13 = .ok (.iconst 1, 1) := by decide +kernel
theorem dL_cut_14 : decode cL_cut 14 = .ok (.ireturn, 1) := by decide +kernel
theorem dL_gives_0 : decode cL_gives 0 = .ok (.aload_n 3, 1) := by decide +kernel
theorem dL_gives_1 : decode cL_gives 1 = .ok (.iconst 0, 1) := by decide +kernel
theorem dL_gives_2 : decode cL_gives 2 = .ok (.aload_n 0, 1) := by decide +kernel
theorem dL_gives_3 : decode cL_gives 3 = .ok (.iload_n 1, 1) := by decide +kernel
theorem dL_gives_4 : decode cL_gives 4 = .ok (.iload_n 2, 1) := by decide +kernel
theorem dL_gives_5 : decode cL_gives 5 = .ok (.invokevirtual 60, 3) := by decide +kernel
theorem dL_gives_20 : decode cL_gives 20 = .ok (.astore 4, 2) := by decide +kernel
theorem dL_gives_22 : decode cL_gives 22 = .ok (.iconst 1, 1) := by decide +kernel
theorem dL_gives_23 : decode cL_gives 23 = .ok (.ireturn, 1) := by decide +kernel
theorem dL_has_0 : decode cL_has 0 = .ok (.aload 4, 2) := by decide +kernel
theorem dL_has_2 : decode cL_has 2 = .ok (.iconst 0, 1) := by decide +kernel
theorem dL_has_3 : decode cL_has 3 = .ok (.aload_n 0, 1) := by decide +kernel
theorem dL_has_4 : decode cL_has 4 = .ok (.iload_n 1, 1) := by decide +kernel
theorem dL_has_5 : decode cL_has 5 = .ok (.iload_n 2, 1) := by decide +kernel
theorem dL_has_6 : decode cL_has 6 = .ok (.iload_n 3, 1) := by decide +kernel
theorem dL_has_7 : decode cL_has 7 = .ok (.invokevirtual 70, 3) := by decide +kernel
theorem dL_has_10 : decode cL_has 10 = .ok (.ifCond .eq 7, 3) := by decide +kernel
theorem dL_has_17 : decode cL_has 17 = .ok (.lconst 0, 1) := by decide +kernel
theorem dL_has_18 : decode cL_has 18 = .ok (.lastore, 1) := by decide +kernel
theorem dL_has_19 : decode cL_has 19 = .ok (.goto 7, 3) := by decide +kernel
theorem dL_has_22 : decode cL_has 22 = .ok (.astore 5, 2) := by decide +kernel
theorem dL_has_24 : decode cL_has 24 = .ok (.iconst 1, 1) := by decide +kernel
theorem dL_has_25 : decode cL_has 25 = .ok (.ireturn, 1) := by decide +kernel
theorem dL_has_26 : decode cL_has 26 = .ok (.iconst 0, 1) := by decide +kernel
theorem dL_has_27 : decode cL_has 27 = .ok (.ireturn, 1) := by decide +kernel
theorem dL_holds_0 : decode cL_holds 0 = .ok (.aload_n 3, 1) := by decide +kernel
theorem dL_holds_1 : decode cL_holds 1 = .ok (.iconst 0, 1) := by decide +kernel
theorem dL_holds_2 : decode cL_holds 2 = .ok (.aload_n 0, 1) := by decide +kernel
theorem dL_holds_3 : decode cL_holds 3 = .ok (.iload_n 1, 1) := by decide +kernel
theorem dL_holds_4 : decode cL_holds 4 = .ok (.iload_n 2, 1) := by decide +kernel
theorem dL_holds_5 : decode cL_holds 5 = .ok (.invokevirtual 37, 3) := by decide +kernel
theorem dL_holds_20 : decode cL_holds 20 = .ok (.astore 4, 2) := by decide +kernel
theorem dL_holds_22 : decode cL_holds 22 = .ok (.iconst 1, 1) := by decide +kernel
theorem dL_holds_23 : decode cL_holds 23 = .ok (.ireturn, 1) := by decide +kernel
theorem dL_line_0 : decode cL_line 0 = .ok (.aload_n 3, 1) := by decide +kernel
theorem dL_line_1 : decode cL_line 1 = .ok (.iconst 0, 1) := by decide +kernel
theorem dL_line_2 : decode cL_line 2 = .ok (.aload_n 0, 1) := by decide +kernel
theorem dL_line_3 : decode cL_line 3 = .ok (.iload_n 1, 1) := by decide +kernel
theorem dL_line_4 : decode cL_line 4 = .ok (.iload_n 2, 1) := by decide +kernel
theorem dL_line_5 : decode cL_line 5 = .ok (.invokevirtual 18, 3) := by decide +kernel
theorem dL_line_13 : decode cL_line 13 = .ok (.astore 4, 2) := by decide +kernel
theorem dL_line_15 : decode cL_line 15 = .ok (.iconst 1, 1) := by decide +kernel
theorem dL_line_16 : decode cL_line 16 = .ok (.ireturn, 1) := by decide +kernel
theorem dL_lits_0 : decode cL_lits 0 = .ok (.aload_n 3, 1) := by decide +kernel
theorem dL_lits_1 : decode cL_lits 1 = .ok (.iconst 0, 1) := by decide +kernel
theorem dL_lits_2 : decode cL_lits 2 = .ok (.aload_n 0, 1) := by decide +kernel
theorem dL_lits_3 : decode cL_lits 3 = .ok (.iload_n 1, 1) := by decide +kernel
theorem dL_lits_4 : decode cL_lits 4 = .ok (.iload_n 2, 1) := by decide +kernel
theorem dL_lits_5 : decode cL_lits 5 = .ok (.invokevirtual 26, 3) := by decide +kernel
theorem dL_lits_13 : decode cL_lits 13 = .ok (.astore 4, 2) := by decide +kernel
theorem dL_lits_15 : decode cL_lits 15 = .ok (.iconst 1, 1) := by decide +kernel
theorem dL_lits_16 : decode cL_lits 16 = .ok (.ireturn, 1) := by decide +kernel
theorem dL_measure_0 : decode cL_measure 0 = .ok (.aload_n 3, 1) := by decide +kernel
theorem dL_measure_1 : decode cL_measure 1 = .ok (.iconst 0, 1) := by decide +kernel
theorem dL_measure_2 : decode cL_measure 2 = .ok (.aload_n 0, 1) := by decide +kernel
theorem dL_measure_3 : decode cL_measure 3 = .ok (.iload_n 1, 1) := by decide +kernel
theorem dL_measure_4 : decode cL_measure 4 = .ok (.iload_n 2, 1) := by decide +kernel
theorem dL_measure_5 : decode cL_measure 5 = .ok (.invokevirtual 44, 3) := by decide +kernel
theorem dL_measure_13 : decode cL_measure 13 = .ok (.astore 4, 2) := by decide +kernel
theorem dL_measure_15 : decode cL_measure 15 = .ok (.iconst 1, 1) := by decide +kernel
theorem dL_measure_16 : decode cL_measure 16 = .ok (.ireturn, 1) := by decide +kernel
theorem dL_needs_0 : decode cL_needs 0 = .ok (.aload_n 3, 1) := by decide +kernel
theorem dL_needs_1 : decode cL_needs 1 = .ok (.iconst 0, 1) := by decide +kernel
theorem dL_needs_2 : decode cL_needs 2 = .ok (.aload_n 0, 1) := by decide +kernel
theorem dL_needs_3 : decode cL_needs 3 = .ok (.iload_n 1, 1) := by decide +kernel
theorem dL_needs_4 : decode cL_needs 4 = .ok (.iload_n 2, 1) := by decide +kernel
theorem dL_needs_5 : decode cL_needs 5 = .ok (.invokevirtual 51, 3) := by decide +kernel
theorem dL_needs_20 : decode cL_needs 20 = .ok (.astore 4, 2) := by decide +kernel
theorem dL_needs_22 : decode cL_needs 22 = .ok (.iconst 1, 1) := by decide +kernel
theorem dL_needs_23 : decode cL_needs 23 = .ok (.ireturn, 1) := by decide +kernel
theorem dL_node_0 : decode cL_node 0 = .ok (.aload_n 2, 1) := by decide +kernel
theorem dL_node_1 : decode cL_node 1 = .ok (.iconst 0, 1) := by decide +kernel
theorem dL_node_2 : decode cL_node 2 = .ok (.aload_n 0, 1) := by decide +kernel
theorem dL_node_3 : decode cL_node 3 = .ok (.iload_n 1, 1) := by decide +kernel
theorem dL_node_4 : decode cL_node 4 = .ok (.invokevirtual 74, 3) := by decide +kernel
theorem dL_node_7 : decode cL_node 7 = .ok (.i2l, 1) := by decide +kernel
theorem dL_node_8 : decode cL_node 8 = .ok (.lastore, 1) := by decide +kernel
theorem dL_node_9 : decode cL_node 9 = .ok (.goto 6, 3) := by decide +kernel
theorem dL_node_12 : decode cL_node 12 = .ok (.astore_n 3, 1) := by decide +kernel
theorem dL_node_13 : decode cL_node 13 = .ok (.iconst 1, 1) := by decide +kernel
theorem dL_node_14 : decode cL_node 14 = .ok (.ireturn, 1) := by decide +kernel
theorem dL_node_15 : decode cL_node 15 = .ok (.iconst 0, 1) := by decide +kernel
theorem dL_node_16 : decode cL_node 16 = .ok (.ireturn, 1) := by decide +kernel
theorem dL_often_0 : decode cL_often 0 = .ok (.aload_n 2, 1) := by decide +kernel
theorem dL_often_1 : decode cL_often 1 = .ok (.iconst 0, 1) := by decide +kernel
theorem dL_often_2 : decode cL_often 2 = .ok (.aload_n 0, 1) := by decide +kernel
theorem dL_often_3 : decode cL_often 3 = .ok (.iload_n 1, 1) := by decide +kernel
theorem dL_often_4 : decode cL_often 4 = .ok (.invokevirtual 41, 3) := by decide +kernel
theorem dL_often_12 : decode cL_often 12 = .ok (.astore_n 3, 1) := by decide +kernel
theorem dL_often_13 : decode cL_often 13 = .ok (.iconst 1, 1) := by decide +kernel
theorem dL_often_14 : decode cL_often 14 = .ok (.ireturn, 1) := by decide +kernel
theorem dL_pebbled_0 : decode cL_pebbled 0 = .ok (.aload_n 2, 1) := by decide +kernel
theorem dL_pebbled_1 : decode cL_pebbled 1 = .ok (.iconst 0, 1) := by decide +kernel
theorem dL_pebbled_2 : decode cL_pebbled 2 = .ok (.aload_n 0, 1) := by decide +kernel
theorem dL_pebbled_3 : decode cL_pebbled 3 = .ok (.iload_n 1, 1) := by decide +kernel
theorem dL_pebbled_4 : decode cL_pebbled 4 = .ok (.invokevirtual 77, 3) := by decide +kernel
theorem dL_pebbled_7 : decode cL_pebbled 7 = .ok (.i2l, 1) := by decide +kernel
theorem dL_pebbled_8 : decode cL_pebbled 8 = .ok (.lastore, 1) := by decide +kernel
theorem dL_pebbled_9 : decode cL_pebbled 9 = .ok (.goto 6, 3) := by decide +kernel
theorem dL_pebbled_12 : decode cL_pebbled 12 = .ok (.astore_n 3, 1) := by decide +kernel
theorem dL_pebbled_13 : decode cL_pebbled 13 = .ok (.iconst 1, 1) := by decide +kernel
theorem dL_pebbled_14 : decode cL_pebbled 14 = .ok (.ireturn, 1) := by decide +kernel
theorem dL_pebbled_15 : decode cL_pebbled 15 = .ok (.iconst 0, 1) := by decide +kernel
theorem dL_pebbled_16 : decode cL_pebbled 16 = .ok (.ireturn, 1) := by decide +kernel
theorem dL_plane_0 : decode cL_plane 0 = .ok (.aload_n 3, 1) := by decide +kernel
theorem dL_plane_1 : decode cL_plane 1 = .ok (.iconst 0, 1) := by decide +kernel
theorem dL_plane_2 : decode cL_plane 2 = .ok (.aload_n 0, 1) := by decide +kernel
theorem dL_plane_3 : decode cL_plane 3 = .ok (.iload_n 1, 1) := by decide +kernel
theorem dL_plane_4 : decode cL_plane 4 = .ok (.iload_n 2, 1) := by decide +kernel
theorem dL_plane_5 : decode cL_plane 5 = .ok (.invokevirtual 30, 3) := by decide +kernel
theorem dL_plane_13 : decode cL_plane 13 = .ok (.astore 4, 2) := by decide +kernel
theorem dL_plane_15 : decode cL_plane 15 = .ok (.iconst 1, 1) := by decide +kernel
theorem dL_plane_16 : decode cL_plane 16 = .ok (.ireturn, 1) := by decide +kernel
theorem dL_proof_0 : decode cL_proof 0 = .ok (.aload_n 1, 1) := by decide +kernel
theorem dL_proof_1 : decode cL_proof 1 = .ok (.iconst 0, 1) := by decide +kernel
theorem dL_proof_2 : decode cL_proof 2 = .ok (.aload_n 0, 1) := by decide +kernel
theorem dL_proof_3 : decode cL_proof 3 = .ok (.invokevirtual 15, 3) := by decide +kernel
theorem dL_proof_6 : decode cL_proof 6 = .ok (.i2l, 1) := by decide +kernel
theorem dL_proof_7 : decode cL_proof 7 = .ok (.lastore, 1) := by decide +kernel
theorem dL_proof_8 : decode cL_proof 8 = .ok (.goto 6, 3) := by decide +kernel
theorem dL_proof_14 : decode cL_proof 14 = .ok (.iconst 0, 1) := by decide +kernel
theorem dL_proof_15 : decode cL_proof 15 = .ok (.ireturn, 1) := by decide +kernel
theorem dL_rests_0 : decode cL_rests 0 = .ok (.aload_n 2, 1) := by decide +kernel
theorem dL_rests_1 : decode cL_rests 1 = .ok (.iconst 0, 1) := by decide +kernel
theorem dL_rests_2 : decode cL_rests 2 = .ok (.aload_n 0, 1) := by decide +kernel
theorem dL_rests_3 : decode cL_rests 3 = .ok (.iload_n 1, 1) := by decide +kernel
theorem dL_rests_4 : decode cL_rests 4 = .ok (.invokevirtual 94, 3) := by decide +kernel
theorem dL_rests_12 : decode cL_rests 12 = .ok (.astore_n 3, 1) := by decide +kernel
theorem dL_rests_13 : decode cL_rests 13 = .ok (.iconst 1, 1) := by decide +kernel
theorem dL_rests_14 : decode cL_rests 14 = .ok (.ireturn, 1) := by decide +kernel
theorem dL_same_0 : decode cL_same 0 = .ok (.aload_n 2, 1) := by decide +kernel
theorem dL_same_1 : decode cL_same 1 = .ok (.iconst 0, 1) := by decide +kernel
theorem dL_same_2 : decode cL_same 2 = .ok (.aload_n 0, 1) := by decide +kernel
theorem dL_same_3 : decode cL_same 3 = .ok (.iload_n 1, 1) := by decide +kernel
theorem dL_same_4 : decode cL_same 4 = .ok (.invokevirtual 57, 3) := by decide +kernel
theorem dL_same_12 : decode cL_same 12 = .ok (.astore_n 3, 1) := by decide +kernel
theorem dL_same_13 : decode cL_same 13 = .ok (.iconst 1, 1) := by decide +kernel
theorem dL_same_14 : decode cL_same 14 = .ok (.ireturn, 1) := by decide +kernel
theorem dL_slack_0 : decode cL_slack 0 = .ok (.aload_n 3, 1) := by decide +kernel
theorem dL_slack_1 : decode cL_slack 1 = .ok (.iconst 0, 1) := by decide +kernel
theorem dL_slack_2 : decode cL_slack 2 = .ok (.aload_n 0, 1) := by decide +kernel
theorem dL_slack_3 : decode cL_slack 3 = .ok (.iload_n 1, 1) := by decide +kernel
theorem dL_slack_4 : decode cL_slack 4 = .ok (.iload_n 2, 1) := by decide +kernel
theorem dL_slack_5 : decode cL_slack 5 = .ok (.invokevirtual 91, 3) := by decide +kernel
theorem dL_slack_13 : decode cL_slack 13 = .ok (.astore 4, 2) := by decide +kernel
theorem dL_slack_15 : decode cL_slack 15 = .ok (.iconst 1, 1) := by decide +kernel
theorem dL_slack_16 : decode cL_slack 16 = .ok (.ireturn, 1) := by decide +kernel
theorem dL_stands_0 : decode cL_stands 0 = .ok (.aload_n 3, 1) := by decide +kernel
theorem dL_stands_1 : decode cL_stands 1 = .ok (.iconst 0, 1) := by decide +kernel
theorem dL_stands_2 : decode cL_stands 2 = .ok (.aload_n 0, 1) := by decide +kernel
theorem dL_stands_3 : decode cL_stands 3 = .ok (.iload_n 1, 1) := by decide +kernel
theorem dL_stands_4 : decode cL_stands 4 = .ok (.iload_n 2, 1) := by decide +kernel
theorem dL_stands_5 : decode cL_stands 5 = .ok (.invokevirtual 100, 3) := by decide +kernel
theorem dL_stands_8 : decode cL_stands 8 = .ok (.i2l, 1) := by decide +kernel
theorem dL_stands_9 : decode cL_stands 9 = .ok (.lastore, 1) := by decide +kernel
theorem dL_stands_10 : decode cL_stands 10 = .ok (.goto 7, 3) := by decide +kernel
theorem dL_stands_13 : decode cL_stands 13 = .ok (.astore 4, 2) := by decide +kernel
theorem dL_stands_15 : decode cL_stands 15 = .ok (.iconst 1, 1) := by decide +kernel
theorem dL_stands_16 : decode cL_stands 16 = .ok (.ireturn, 1) := by decide +kernel
theorem dL_stands_17 : decode cL_stands 17 = .ok (.iconst 0, 1) := by decide +kernel
theorem dL_stands_18 : decode cL_stands 18 = .ok (.ireturn, 1) := by decide +kernel
theorem dL_translate_0 : decode cL_translate 0 = .ok (.aload_n 2, 1) := by decide +kernel
theorem dL_translate_1 : decode cL_translate 1 = .ok (.iconst 0, 1) := by decide +kernel
theorem dL_translate_2 : decode cL_translate 2 = .ok (.aload_n 0, 1) := by decide +kernel
theorem dL_translate_3 : decode cL_translate 3 = .ok (.iload_n 1, 1) := by decide +kernel
theorem dL_translate_4 : decode cL_translate 4 = .ok (.invokevirtual 83, 3) := by decide +kernel
theorem dL_translate_12 : decode cL_translate 12 = .ok (.astore_n 3, 1) := by decide +kernel
theorem dL_translate_13 : decode cL_translate 13 = .ok (.iconst 1, 1) := by decide +kernel
theorem dL_translate_14 : decode cL_translate 14 = .ok (.ireturn, 1) := by decide +kernel
theorem dL_translated_0 : decode cL_translated 0 = .ok (.aload_n 2, 1) := by decide +kernel
theorem dL_translated_1 : decode cL_translated 1 = .ok (.iconst 0, 1) := by decide +kernel
theorem dL_translated_2 : decode cL_translated 2 = .ok (.aload_n 0, 1) := by decide +kernel
theorem dL_translated_3 : decode cL_translated 3 = .ok (.iload_n 1, 1) := by decide +kernel
theorem dL_translated_4 : decode cL_translated 4 = .ok (.invokevirtual 88, 3) := by decide +kernel
theorem dL_translated_12 : decode cL_translated 12 = .ok (.astore_n 3, 1) := by decide +kernel
theorem dL_translated_13 : decode cL_translated 13 = .ok (.iconst 1, 1) := by decide +kernel
theorem dL_translated_14 : decode cL_translated 14 = .ok (.ireturn, 1) := by decide +kernel
theorem dL_tree_0 : decode cL_tree 0 = .ok (.aload_n 2, 1) := by decide +kernel
theorem dL_tree_1 : decode cL_tree 1 = .ok (.iconst 0, 1) := by decide +kernel
theorem dL_tree_2 : decode cL_tree 2 = .ok (.aload_n 0, 1) := by decide +kernel
theorem dL_tree_3 : decode cL_tree 3 = .ok (.iload_n 1, 1) := by decide +kernel
theorem dL_tree_4 : decode cL_tree 4 = .ok (.invokevirtual 47, 3) := by decide +kernel
theorem dL_tree_11 : decode cL_tree 11 = .ok (.astore_n 3, 1) := by decide +kernel
theorem dL_tree_12 : decode cL_tree 12 = .ok (.iconst 1, 1) := by decide +kernel
theorem dL_tree_13 : decode cL_tree 13 = .ok (.ireturn, 1) := by decide +kernel
theorem dL_trim_0 : decode cL_trim 0 = .ok (.aload_n 2, 1) := by decide +kernel
theorem dL_trim_1 : decode cL_trim 1 = .ok (.iconst 0, 1) := by decide +kernel
theorem dL_trim_2 : decode cL_trim 2 = .ok (.aload_n 0, 1) := by decide +kernel
theorem dL_trim_3 : decode cL_trim 3 = .ok (.iload_n 1, 1) := by decide +kernel
theorem dL_trim_4 : decode cL_trim 4 = .ok (.invokevirtual 80, 3) := by decide +kernel
theorem dL_trim_12 : decode cL_trim 12 = .ok (.astore_n 3, 1) := by decide +kernel
theorem dL_trim_13 : decode cL_trim 13 = .ok (.iconst 1, 1) := by decide +kernel
theorem dL_trim_14 : decode cL_trim 14 = .ok (.ireturn, 1) := by decide +kernel
theorem dL_units_0 : decode cL_units 0 = .ok (.aload 4, 2) := by decide +kernel
theorem dL_units_2 : decode cL_units 2 = .ok (.iconst 0, 1) := by decide +kernel
theorem dL_units_3 : decode cL_units 3 = .ok (.aload_n 0, 1) := by decide +kernel
theorem dL_units_4 : decode cL_units 4 = .ok (.iload_n 1, 1) := by decide +kernel
theorem dL_units_5 : decode cL_units 5 = .ok (.iload_n 2, 1) := by decide +kernel
theorem dL_units_6 : decode cL_units 6 = .ok (.iload_n 3, 1) := by decide +kernel
theorem dL_units_7 : decode cL_units 7 = .ok (.invokevirtual 63, 3) := by decide +kernel
theorem dL_units_10 : decode cL_units 10 = .ok (.i2l, 1) := by decide +kernel
theorem dL_units_11 : decode cL_units 11 = .ok (.lastore, 1) := by decide +kernel
theorem dL_units_12 : decode cL_units 12 = .ok (.goto 11, 3) := by decide +kernel
theorem dL_units_15 : decode cL_units 15 = .ok (.astore 5, 2) := by decide +kernel
theorem dL_units_17 : decode cL_units 17 = .ok (.iconst 1, 1) := by decide +kernel
theorem dL_units_18 : decode cL_units 18 = .ok (.ireturn, 1) := by decide +kernel
theorem dL_units_19 : decode cL_units 19 = .ok (.astore 5, 2) := by decide +kernel
theorem dL_units_21 : decode cL_units 21 = .ok (.iconst 2, 1) := by decide +kernel
theorem dL_units_22 : decode cL_units 22 = .ok (.ireturn, 1) := by decide +kernel
theorem dL_units_23 : decode cL_units 23 = .ok (.iconst 0, 1) := by decide +kernel
theorem dL_units_24 : decode cL_units 24 = .ok (.ireturn, 1) := by decide +kernel
theorem dL_uses_0 : decode cL_uses 0 = .ok (.aload_n 2, 1) := by decide +kernel
theorem dL_uses_1 : decode cL_uses 1 = .ok (.iconst 0, 1) := by decide +kernel
theorem dL_uses_2 : decode cL_uses 2 = .ok (.aload_n 0, 1) := by decide +kernel
theorem dL_uses_3 : decode cL_uses 3 = .ok (.iload_n 1, 1) := by decide +kernel
theorem dL_uses_4 : decode cL_uses 4 = .ok (.invokevirtual 54, 3) := by decide +kernel
theorem dL_uses_12 : decode cL_uses 12 = .ok (.astore_n 3, 1) := by decide +kernel
theorem dL_uses_13 : decode cL_uses 13 = .ok (.iconst 1, 1) := by decide +kernel
theorem dL_uses_14 : decode cL_uses 14 = .ok (.ireturn, 1) := by decide +kernel
theorem dL_within_0 : decode cL_within 0 = .ok (.aload_n 3, 1) := by decide +kernel
theorem dL_within_1 : decode cL_within 1 = .ok (.iconst 0, 1) := by decide +kernel
theorem dL_within_2 : decode cL_within 2 = .ok (.aload_n 0, 1) := by decide +kernel
theorem dL_within_3 : decode cL_within 3 = .ok (.iload_n 1, 1) := by decide +kernel
theorem dL_within_4 : decode cL_within 4 = .ok (.iload_n 2, 1) := by decide +kernel
theorem dL_within_5 : decode cL_within 5 = .ok (.invokevirtual 67, 3) := by decide +kernel
theorem dL_within_8 : decode cL_within 8 = .ok (.i2l, 1) := by decide +kernel
theorem dL_within_9 : decode cL_within 9 = .ok (.lastore, 1) := by decide +kernel
theorem dL_within_10 : decode cL_within 10 = .ok (.goto 11, 3) := by decide +kernel
theorem dL_within_13 : decode cL_within 13 = .ok (.astore 4, 2) := by decide +kernel
theorem dL_within_15 : decode cL_within 15 = .ok (.iconst 1, 1) := by decide +kernel
theorem dL_within_16 : decode cL_within 16 = .ok (.ireturn, 1) := by decide +kernel
theorem dL_within_17 : decode cL_within 17 = .ok (.astore 4, 2) := by decide +kernel
theorem dL_within_19 : decode cL_within 19 = .ok (.iconst 2, 1) := by decide +kernel
theorem dL_within_20 : decode cL_within 20 = .ok (.ireturn, 1) := by decide +kernel
theorem dL_within_21 : decode cL_within 21 = .ok (.iconst 0, 1) := by decide +kernel
theorem dL_within_22 : decode cL_within 22 = .ok (.ireturn, 1) := by decide +kernel
theorem dL_without_0 : decode cL_without 0 = .ok (.aload_n 2, 1) := by decide +kernel
theorem dL_without_1 : decode cL_without 1 = .ok (.iconst 0, 1) := by decide +kernel
theorem dL_without_2 : decode cL_without 2 = .ok (.aload_n 0, 1) := by decide +kernel
theorem dL_without_3 : decode cL_without 3 = .ok (.iload_n 1, 1) := by decide +kernel
theorem dL_without_4 : decode cL_without 4 = .ok (.invokevirtual 97, 3) := by decide +kernel
theorem dL_without_12 : decode cL_without 12 = .ok (.astore_n 3, 1) := by decide +kernel
theorem dL_without_13 : decode cL_without 13 = .ok (.iconst 1, 1) := by decide +kernel
theorem dL_without_14 : decode cL_without 14 = .ok (.ireturn, 1) := by decide +kernel
