theorem u_122 : Cond.initialized RL ∈ UU := uu_mem 122 (by decide +kernel) (by decide +kernel)
theorem u_278 : Cond.methodLink RL 107 yX11_feed ∈ UU := uu_mem 278 (by decide +kernel) (by decide +kernel)
theorem u_279 : Cond.instanceMethod yX11_feed ∈ UU := uu_mem 279 (by decide +kernel) (by decide +kernel)
theorem u_280 : Cond.selects RX11 yX11_feed yX11_feed ∈ UU := uu_mem 280 (by decide +kernel) (by decide +kernel)
theorem u_286 : Cond.methodLink RL 112 yX11_end ∈ UU := uu_mem 286 (by decide +kernel) (by decide +kernel)
theorem u_287 : Cond.instanceMethod yX11_end ∈ UU := uu_mem 287 (by decide +kernel) (by decide +kernel)
theorem u_288 : Cond.selects RX11 yX11_end yX11_end ∈ UU := uu_mem 288 (by decide +kernel) (by decide +kernel)
theorem u_290 : Cond.methodLink RL 129 yX11_fault ∈ UU := uu_mem 290 (by decide +kernel) (by decide +kernel)
theorem u_291 : Cond.instanceMethod yX11_fault ∈ UU := uu_mem 291 (by decide +kernel) (by decide +kernel)
theorem u_292 : Cond.selects RX11 yX11_fault yX11_fault ∈ UU := uu_mem 292 (by decide +kernel) (by decide +kernel)
theorem u_294 : Cond.methodLink RL 154 yX11_model ∈ UU := uu_mem 294 (by decide +kernel) (by decide +kernel)
theorem u_295 : Cond.instanceMethod yX11_model ∈ UU := uu_mem 295 (by decide +kernel) (by decide +kernel)
theorem u_296 : Cond.selects RX11 yX11_model yX11_model ∈ UU := uu_mem 296 (by decide +kernel) (by decide +kernel)
theorem u_309 : Cond.methodLink RL 158 yX11_refutes ∈ UU := uu_mem 309 (by decide +kernel) (by decide +kernel)
theorem u_310 : Cond.instanceMethod yX11_refutes ∈ UU := uu_mem 310 (by decide +kernel) (by decide +kernel)
theorem u_311 : Cond.selects RX11 yX11_refutes yX11_refutes ∈ UU := uu_mem 311 (by decide +kernel) (by decide +kernel)
theorem u_325 : Cond.methodLink RL 187 yX11_leastWidth ∈ UU := uu_mem 325 (by decide +kernel) (by decide +kernel)
theorem u_326 : Cond.instanceMethod yX11_leastWidth ∈ UU := uu_mem 326 (by decide +kernel) (by decide +kernel)
theorem u_327 : Cond.selects RX11 yX11_leastWidth yX11_leastWidth ∈ UU := uu_mem 327 (by decide +kernel) (by decide +kernel)
theorem u_398 : Cond.methodLink RL 200 yX11_pebbles ∈ UU := uu_mem 398 (by decide +kernel) (by decide +kernel)
theorem u_399 : Cond.instanceMethod yX11_pebbles ∈ UU := uu_mem 399 (by decide +kernel) (by decide +kernel)
theorem u_400 : Cond.selects RX11 yX11_pebbles yX11_pebbles ∈ UU := uu_mem 400 (by decide +kernel) (by decide +kernel)
theorem u_424 : Cond.methodLink RL 213 yX11_octet ∈ UU := uu_mem 424 (by decide +kernel) (by decide +kernel)
theorem u_425 : Cond.instanceMethod yX11_octet ∈ UU := uu_mem 425 (by decide +kernel) (by decide +kernel)
theorem u_426 : Cond.selects RX11 yX11_octet yX11_octet ∈ UU := uu_mem 426 (by decide +kernel) (by decide +kernel)
theorem u_432 : Cond.methodLink RL 223 yX11_core ∈ UU := uu_mem 432 (by decide +kernel) (by decide +kernel)
theorem u_433 : Cond.instanceMethod yX11_core ∈ UU := uu_mem 433 (by decide +kernel) (by decide +kernel)
theorem u_434 : Cond.selects RX11 yX11_core yX11_core ∈ UU := uu_mem 434 (by decide +kernel) (by decide +kernel)
theorem u_449 : Cond.methodLink RL 231 yX11_pure ∈ UU := uu_mem 449 (by decide +kernel) (by decide +kernel)
theorem u_450 : Cond.instanceMethod yX11_pure ∈ UU := uu_mem 450 (by decide +kernel) (by decide +kernel)
theorem u_451 : Cond.selects RX11 yX11_pure yX11_pure ∈ UU := uu_mem 451 (by decide +kernel) (by decide +kernel)
theorem u_454 : Cond.methodLink RL 238 yX11_count ∈ UU := uu_mem 454 (by decide +kernel) (by decide +kernel)
theorem u_455 : Cond.instanceMethod yX11_count ∈ UU := uu_mem 455 (by decide +kernel) (by decide +kernel)
theorem u_456 : Cond.selects RX11 yX11_count yX11_count ∈ UU := uu_mem 456 (by decide +kernel) (by decide +kernel)
theorem u_478 : Cond.methodLink RL 117 yL_claim ∈ UU := uu_mem 478 (by decide +kernel) (by decide +kernel)
theorem u_479 : Cond.static yL_claim ∈ UU := uu_mem 479 (by decide +kernel) (by decide +kernel)
theorem u_1049 : Cond.methodLink RL 126 yL_proof ∈ UU := uu_mem 1049 (by decide +kernel) (by decide +kernel)
theorem u_1050 : Cond.static yL_proof ∈ UU := uu_mem 1050 (by decide +kernel) (by decide +kernel)
theorem u_1070 : Cond.methodLink RL 133 yL_line ∈ UU := uu_mem 1070 (by decide +kernel) (by decide +kernel)
theorem u_1071 : Cond.static yL_line ∈ UU := uu_mem 1071 (by decide +kernel) (by decide +kernel)
theorem u_1115 : Cond.methodLink RL 137 yL_lits ∈ UU := uu_mem 1115 (by decide +kernel) (by decide +kernel)
theorem u_1116 : Cond.static yL_lits ∈ UU := uu_mem 1116 (by decide +kernel) (by decide +kernel)
theorem u_1123 : Cond.methodLink RL 141 yL_plane ∈ UU := uu_mem 1123 (by decide +kernel) (by decide +kernel)
theorem u_1124 : Cond.static yL_plane ∈ UU := uu_mem 1124 (by decide +kernel) (by decide +kernel)
theorem u_1132 : Cond.methodLink RL 144 yL_cut ∈ UU := uu_mem 1132 (by decide +kernel) (by decide +kernel)
theorem u_1133 : Cond.static yL_cut ∈ UU := uu_mem 1133 (by decide +kernel) (by decide +kernel)
theorem u_1146 : Cond.methodLink RL 148 yL_holds ∈ UU := uu_mem 1146 (by decide +kernel) (by decide +kernel)
theorem u_1147 : Cond.static yL_holds ∈ UU := uu_mem 1147 (by decide +kernel) (by decide +kernel)
theorem u_1157 : Cond.methodLink RL 151 yL_often ∈ UU := uu_mem 1157 (by decide +kernel) (by decide +kernel)
theorem u_1158 : Cond.static yL_often ∈ UU := uu_mem 1158 (by decide +kernel) (by decide +kernel)
theorem u_1164 : Cond.methodLink RL 162 yL_measure ∈ UU := uu_mem 1164 (by decide +kernel) (by decide +kernel)
theorem u_1165 : Cond.static yL_measure ∈ UU := uu_mem 1165 (by decide +kernel) (by decide +kernel)
theorem u_1192 : Cond.methodLink RL 165 yL_tree ∈ UU := uu_mem 1192 (by decide +kernel) (by decide +kernel)
theorem u_1193 : Cond.static yL_tree ∈ UU := uu_mem 1193 (by decide +kernel) (by decide +kernel)
theorem u_1199 : Cond.methodLink RL 168 yL_needs ∈ UU := uu_mem 1199 (by decide +kernel) (by decide +kernel)
theorem u_1200 : Cond.static yL_needs ∈ UU := uu_mem 1200 (by decide +kernel) (by decide +kernel)
theorem u_1206 : Cond.methodLink RL 171 yL_uses ∈ UU := uu_mem 1206 (by decide +kernel) (by decide +kernel)
theorem u_1207 : Cond.static yL_uses ∈ UU := uu_mem 1207 (by decide +kernel) (by decide +kernel)
theorem u_1214 : Cond.methodLink RL 174 yL_same ∈ UU := uu_mem 1214 (by decide +kernel) (by decide +kernel)
theorem u_1215 : Cond.static yL_same ∈ UU := uu_mem 1215 (by decide +kernel) (by decide +kernel)
theorem u_1225 : Cond.methodLink RL 177 yL_gives ∈ UU := uu_mem 1225 (by decide +kernel) (by decide +kernel)
theorem u_1226 : Cond.static yL_gives ∈ UU := uu_mem 1226 (by decide +kernel) (by decide +kernel)
theorem u_1233 : Cond.methodLink RL 180 yL_units ∈ UU := uu_mem 1233 (by decide +kernel) (by decide +kernel)
theorem u_1234 : Cond.static yL_units ∈ UU := uu_mem 1234 (by decide +kernel) (by decide +kernel)
theorem u_1280 : Cond.methodLink RL 184 yL_within ∈ UU := uu_mem 1280 (by decide +kernel) (by decide +kernel)
theorem u_1281 : Cond.static yL_within ∈ UU := uu_mem 1281 (by decide +kernel) (by decide +kernel)
theorem u_1291 : Cond.methodLink RL 191 yL_has ∈ UU := uu_mem 1291 (by decide +kernel) (by decide +kernel)
theorem u_1292 : Cond.static yL_has ∈ UU := uu_mem 1292 (by decide +kernel) (by decide +kernel)
theorem u_1299 : Cond.methodLink RL 194 yL_node ∈ UU := uu_mem 1299 (by decide +kernel) (by decide +kernel)
theorem u_1300 : Cond.static yL_node ∈ UU := uu_mem 1300 (by decide +kernel) (by decide +kernel)
theorem u_1308 : Cond.methodLink RL 197 yL_pebbled ∈ UU := uu_mem 1308 (by decide +kernel) (by decide +kernel)
theorem u_1309 : Cond.static yL_pebbled ∈ UU := uu_mem 1309 (by decide +kernel) (by decide +kernel)
theorem u_1316 : Cond.methodLink RL 204 yL_trim ∈ UU := uu_mem 1316 (by decide +kernel) (by decide +kernel)
theorem u_1317 : Cond.static yL_trim ∈ UU := uu_mem 1317 (by decide +kernel) (by decide +kernel)
theorem u_1385 : Cond.methodLink RL 207 yL_translate ∈ UU := uu_mem 1385 (by decide +kernel) (by decide +kernel)
theorem u_1386 : Cond.static yL_translate ∈ UU := uu_mem 1386 (by decide +kernel) (by decide +kernel)
theorem u_1460 : Cond.methodLink RL 210 yL_translated ∈ UU := uu_mem 1460 (by decide +kernel) (by decide +kernel)
theorem u_1461 : Cond.static yL_translated ∈ UU := uu_mem 1461 (by decide +kernel) (by decide +kernel)
theorem u_1468 : Cond.methodLink RL 217 yL_slack ∈ UU := uu_mem 1468 (by decide +kernel) (by decide +kernel)
theorem u_1469 : Cond.static yL_slack ∈ UU := uu_mem 1469 (by decide +kernel) (by decide +kernel)
theorem u_1476 : Cond.methodLink RL 220 yL_rests ∈ UU := uu_mem 1476 (by decide +kernel) (by decide +kernel)
theorem u_1477 : Cond.static yL_rests ∈ UU := uu_mem 1477 (by decide +kernel) (by decide +kernel)
theorem u_1484 : Cond.methodLink RL 228 yL_without ∈ UU := uu_mem 1484 (by decide +kernel) (by decide +kernel)
theorem u_1485 : Cond.static yL_without ∈ UU := uu_mem 1485 (by decide +kernel) (by decide +kernel)
theorem u_1492 : Cond.methodLink RL 235 yL_stands ∈ UU := uu_mem 1492 (by decide +kernel) (by decide +kernel)
theorem u_1493 : Cond.static yL_stands ∈ UU := uu_mem 1493 (by decide +kernel) (by decide +kernel)
theorem u_1621 : Cond.methodLink RL 123 yX12_thrown ∈ UU := uu_mem 1621 (by decide +kernel) (by decide +kernel)
theorem u_1622 : Cond.instanceMethod yX12_thrown ∈ UU := uu_mem 1622 (by decide +kernel) (by decide +kernel)
theorem u_1623 : Cond.selects RX12 yX12_thrown yX12_thrown ∈ UU := uu_mem 1623 (by decide +kernel) (by decide +kernel)
theorem u_1624 : Cond.code yX12_thrown cX12_thrown 1 (some .int) ∈ UU := uu_mem 1624 (by decide +kernel) (by decide +kernel)
theorem u_1625 : Cond.methodLink RL 111 yX12_feed ∈ UU := uu_mem 1625 (by decide +kernel) (by decide +kernel)
theorem u_1626 : Cond.instanceMethod yX12_feed ∈ UU := uu_mem 1626 (by decide +kernel) (by decide +kernel)
theorem u_1627 : Cond.selects RX12 yX12_feed yX12_feed ∈ UU := uu_mem 1627 (by decide +kernel) (by decide +kernel)
theorem u_1629 : Cond.methodLink RL 116 yX12_end ∈ UU := uu_mem 1629 (by decide +kernel) (by decide +kernel)
theorem u_1630 : Cond.instanceMethod yX12_end ∈ UU := uu_mem 1630 (by decide +kernel) (by decide +kernel)
theorem u_1631 : Cond.selects RX12 yX12_end yX12_end ∈ UU := uu_mem 1631 (by decide +kernel) (by decide +kernel)
theorem u_1633 : Cond.methodLink RL 132 yX12_fault ∈ UU := uu_mem 1633 (by decide +kernel) (by decide +kernel)
theorem u_1634 : Cond.instanceMethod yX12_fault ∈ UU := uu_mem 1634 (by decide +kernel) (by decide +kernel)
theorem u_1635 : Cond.selects RX12 yX12_fault yX12_fault ∈ UU := uu_mem 1635 (by decide +kernel) (by decide +kernel)
theorem u_1637 : Cond.methodLink RL 122 yX12_claim ∈ UU := uu_mem 1637 (by decide +kernel) (by decide +kernel)
theorem u_1638 : Cond.instanceMethod yX12_claim ∈ UU := uu_mem 1638 (by decide +kernel) (by decide +kernel)
theorem u_1639 : Cond.selects RX12 yX12_claim yX12_claim ∈ UU := uu_mem 1639 (by decide +kernel) (by decide +kernel)
theorem u_1760 : Cond.methodLink RL 128 yX12_proof ∈ UU := uu_mem 1760 (by decide +kernel) (by decide +kernel)
theorem u_1761 : Cond.instanceMethod yX12_proof ∈ UU := uu_mem 1761 (by decide +kernel) (by decide +kernel)
theorem u_1762 : Cond.selects RX12 yX12_proof yX12_proof ∈ UU := uu_mem 1762 (by decide +kernel) (by decide +kernel)
theorem u_1830 : Cond.methodLink RL 136 yX12_line ∈ UU := uu_mem 1830 (by decide +kernel) (by decide +kernel)
theorem u_1831 : Cond.instanceMethod yX12_line ∈ UU := uu_mem 1831 (by decide +kernel) (by decide +kernel)
theorem u_1832 : Cond.selects RX12 yX12_line yX12_line ∈ UU := uu_mem 1832 (by decide +kernel) (by decide +kernel)
theorem u_1855 : Cond.methodLink RL 140 yX12_lits ∈ UU := uu_mem 1855 (by decide +kernel) (by decide +kernel)
theorem u_1856 : Cond.instanceMethod yX12_lits ∈ UU := uu_mem 1856 (by decide +kernel) (by decide +kernel)
theorem u_1857 : Cond.selects RX12 yX12_lits yX12_lits ∈ UU := uu_mem 1857 (by decide +kernel) (by decide +kernel)
theorem u_1859 : Cond.methodLink RL 143 yX12_plane ∈ UU := uu_mem 1859 (by decide +kernel) (by decide +kernel)
theorem u_1860 : Cond.instanceMethod yX12_plane ∈ UU := uu_mem 1860 (by decide +kernel) (by decide +kernel)
theorem u_1861 : Cond.selects RX12 yX12_plane yX12_plane ∈ UU := uu_mem 1861 (by decide +kernel) (by decide +kernel)
theorem u_1863 : Cond.methodLink RL 147 yX12_cut ∈ UU := uu_mem 1863 (by decide +kernel) (by decide +kernel)
theorem u_1864 : Cond.instanceMethod yX12_cut ∈ UU := uu_mem 1864 (by decide +kernel) (by decide +kernel)
theorem u_1865 : Cond.selects RX12 yX12_cut yX12_cut ∈ UU := uu_mem 1865 (by decide +kernel) (by decide +kernel)
theorem u_1867 : Cond.methodLink RL 150 yX12_holds ∈ UU := uu_mem 1867 (by decide +kernel) (by decide +kernel)
theorem u_1868 : Cond.instanceMethod yX12_holds ∈ UU := uu_mem 1868 (by decide +kernel) (by decide +kernel)
theorem u_1869 : Cond.selects RX12 yX12_holds yX12_holds ∈ UU := uu_mem 1869 (by decide +kernel) (by decide +kernel)
theorem u_1875 : Cond.methodLink RL 219 yX12_slack ∈ UU := uu_mem 1875 (by decide +kernel) (by decide +kernel)
theorem u_1876 : Cond.instanceMethod yX12_slack ∈ UU := uu_mem 1876 (by decide +kernel) (by decide +kernel)
theorem u_1877 : Cond.selects RX12 yX12_slack yX12_slack ∈ UU := uu_mem 1877 (by decide +kernel) (by decide +kernel)
theorem u_1879 : Cond.methodLink RL 153 yX12_often ∈ UU := uu_mem 1879 (by decide +kernel) (by decide +kernel)
theorem u_1880 : Cond.instanceMethod yX12_often ∈ UU := uu_mem 1880 (by decide +kernel) (by decide +kernel)
theorem u_1881 : Cond.selects RX12 yX12_often yX12_often ∈ UU := uu_mem 1881 (by decide +kernel) (by decide +kernel)
theorem u_1890 : Cond.methodLink RL 157 yX12_model ∈ UU := uu_mem 1890 (by decide +kernel) (by decide +kernel)
theorem u_1891 : Cond.instanceMethod yX12_model ∈ UU := uu_mem 1891 (by decide +kernel) (by decide +kernel)
theorem u_1892 : Cond.selects RX12 yX12_model yX12_model ∈ UU := uu_mem 1892 (by decide +kernel) (by decide +kernel)
theorem u_1898 : Cond.methodLink RL 230 yX12_without ∈ UU := uu_mem 1898 (by decide +kernel) (by decide +kernel)
theorem u_1899 : Cond.instanceMethod yX12_without ∈ UU := uu_mem 1899 (by decide +kernel) (by decide +kernel)
theorem u_1900 : Cond.selects RX12 yX12_without yX12_without ∈ UU := uu_mem 1900 (by decide +kernel) (by decide +kernel)
theorem u_1902 : Cond.methodLink RL 161 yX12_refutes ∈ UU := uu_mem 1902 (by decide +kernel) (by decide +kernel)
theorem u_1903 : Cond.instanceMethod yX12_refutes ∈ UU := uu_mem 1903 (by decide +kernel) (by decide +kernel)
theorem u_1904 : Cond.selects RX12 yX12_refutes yX12_refutes ∈ UU := uu_mem 1904 (by decide +kernel) (by decide +kernel)
theorem u_1906 : Cond.methodLink RL 176 yX12_same ∈ UU := uu_mem 1906 (by decide +kernel) (by decide +kernel)
theorem u_1907 : Cond.instanceMethod yX12_same ∈ UU := uu_mem 1907 (by decide +kernel) (by decide +kernel)
theorem u_1908 : Cond.selects RX12 yX12_same yX12_same ∈ UU := uu_mem 1908 (by decide +kernel) (by decide +kernel)
theorem u_1910 : Cond.methodLink RL 179 yX12_gives ∈ UU := uu_mem 1910 (by decide +kernel) (by decide +kernel)
theorem u_1911 : Cond.instanceMethod yX12_gives ∈ UU := uu_mem 1911 (by decide +kernel) (by decide +kernel)
theorem u_1912 : Cond.selects RX12 yX12_gives yX12_gives ∈ UU := uu_mem 1912 (by decide +kernel) (by decide +kernel)
theorem u_1914 : Cond.methodLink RL 170 yX12_needs ∈ UU := uu_mem 1914 (by decide +kernel) (by decide +kernel)
theorem u_1915 : Cond.instanceMethod yX12_needs ∈ UU := uu_mem 1915 (by decide +kernel) (by decide +kernel)
theorem u_1916 : Cond.selects RX12 yX12_needs yX12_needs ∈ UU := uu_mem 1916 (by decide +kernel) (by decide +kernel)
theorem u_1922 : Cond.methodLink RL 222 yX12_rests ∈ UU := uu_mem 1922 (by decide +kernel) (by decide +kernel)
theorem u_1923 : Cond.instanceMethod yX12_rests ∈ UU := uu_mem 1923 (by decide +kernel) (by decide +kernel)
theorem u_1924 : Cond.selects RX12 yX12_rests yX12_rests ∈ UU := uu_mem 1924 (by decide +kernel) (by decide +kernel)
theorem u_1926 : Cond.methodLink RL 173 yX12_uses ∈ UU := uu_mem 1926 (by decide +kernel) (by decide +kernel)
theorem u_1927 : Cond.instanceMethod yX12_uses ∈ UU := uu_mem 1927 (by decide +kernel) (by decide +kernel)
theorem u_1928 : Cond.selects RX12 yX12_uses yX12_uses ∈ UU := uu_mem 1928 (by decide +kernel) (by decide +kernel)
theorem u_1934 : Cond.methodLink RL 164 yX12_measure ∈ UU := uu_mem 1934 (by decide +kernel) (by decide +kernel)
theorem u_1935 : Cond.instanceMethod yX12_measure ∈ UU := uu_mem 1935 (by decide +kernel) (by decide +kernel)
theorem u_1936 : Cond.selects RX12 yX12_measure yX12_measure ∈ UU := uu_mem 1936 (by decide +kernel) (by decide +kernel)
theorem u_1955 : Cond.methodLink RL 167 yX12_tree ∈ UU := uu_mem 1955 (by decide +kernel) (by decide +kernel)
theorem u_1956 : Cond.instanceMethod yX12_tree ∈ UU := uu_mem 1956 (by decide +kernel) (by decide +kernel)
theorem u_1957 : Cond.selects RX12 yX12_tree yX12_tree ∈ UU := uu_mem 1957 (by decide +kernel) (by decide +kernel)
theorem u_1959 : Cond.methodLink RL 183 yX12_units ∈ UU := uu_mem 1959 (by decide +kernel) (by decide +kernel)
theorem u_1960 : Cond.instanceMethod yX12_units ∈ UU := uu_mem 1960 (by decide +kernel) (by decide +kernel)
theorem u_1961 : Cond.selects RX12 yX12_units yX12_units ∈ UU := uu_mem 1961 (by decide +kernel) (by decide +kernel)
theorem u_1967 : Cond.methodLink RL 186 yX12_within ∈ UU := uu_mem 1967 (by decide +kernel) (by decide +kernel)
theorem u_1968 : Cond.instanceMethod yX12_within ∈ UU := uu_mem 1968 (by decide +kernel) (by decide +kernel)
theorem u_1969 : Cond.selects RX12 yX12_within yX12_within ∈ UU := uu_mem 1969 (by decide +kernel) (by decide +kernel)
theorem u_1983 : Cond.methodLink RL 190 yX12_leastWidth ∈ UU := uu_mem 1983 (by decide +kernel) (by decide +kernel)
theorem u_1984 : Cond.instanceMethod yX12_leastWidth ∈ UU := uu_mem 1984 (by decide +kernel) (by decide +kernel)
theorem u_1985 : Cond.selects RX12 yX12_leastWidth yX12_leastWidth ∈ UU := uu_mem 1985 (by decide +kernel) (by decide +kernel)
theorem u_1987 : Cond.methodLink RL 193 yX12_has ∈ UU := uu_mem 1987 (by decide +kernel) (by decide +kernel)
theorem u_1988 : Cond.instanceMethod yX12_has ∈ UU := uu_mem 1988 (by decide +kernel) (by decide +kernel)
theorem u_1989 : Cond.selects RX12 yX12_has yX12_has ∈ UU := uu_mem 1989 (by decide +kernel) (by decide +kernel)
theorem u_1991 : Cond.methodLink RL 196 yX12_node ∈ UU := uu_mem 1991 (by decide +kernel) (by decide +kernel)
theorem u_1992 : Cond.instanceMethod yX12_node ∈ UU := uu_mem 1992 (by decide +kernel) (by decide +kernel)
theorem u_1993 : Cond.selects RX12 yX12_node yX12_node ∈ UU := uu_mem 1993 (by decide +kernel) (by decide +kernel)
theorem u_1995 : Cond.methodLink RL 199 yX12_pebbled ∈ UU := uu_mem 1995 (by decide +kernel) (by decide +kernel)
theorem u_1996 : Cond.instanceMethod yX12_pebbled ∈ UU := uu_mem 1996 (by decide +kernel) (by decide +kernel)
theorem u_1997 : Cond.selects RX12 yX12_pebbled yX12_pebbled ∈ UU := uu_mem 1997 (by decide +kernel) (by decide +kernel)
theorem u_2003 : Cond.methodLink RL 203 yX12_pebbles ∈ UU := uu_mem 2003 (by decide +kernel) (by decide +kernel)
theorem u_2004 : Cond.instanceMethod yX12_pebbles ∈ UU := uu_mem 2004 (by decide +kernel) (by decide +kernel)
theorem u_2005 : Cond.selects RX12 yX12_pebbles yX12_pebbles ∈ UU := uu_mem 2005 (by decide +kernel) (by decide +kernel)
theorem u_2007 : Cond.methodLink RL 206 yX12_trim ∈ UU := uu_mem 2007 (by decide +kernel) (by decide +kernel)
theorem u_2008 : Cond.instanceMethod yX12_trim ∈ UU := uu_mem 2008 (by decide +kernel) (by decide +kernel)
theorem u_2009 : Cond.selects RX12 yX12_trim yX12_trim ∈ UU := uu_mem 2009 (by decide +kernel) (by decide +kernel)
theorem u_2044 : Cond.methodLink RL 209 yX12_translate ∈ UU := uu_mem 2044 (by decide +kernel) (by decide +kernel)
theorem u_2045 : Cond.instanceMethod yX12_translate ∈ UU := uu_mem 2045 (by decide +kernel) (by decide +kernel)
theorem u_2046 : Cond.selects RX12 yX12_translate yX12_translate ∈ UU := uu_mem 2046 (by decide +kernel) (by decide +kernel)
theorem u_2080 : Cond.methodLink RL 212 yX12_translated ∈ UU := uu_mem 2080 (by decide +kernel) (by decide +kernel)
theorem u_2081 : Cond.instanceMethod yX12_translated ∈ UU := uu_mem 2081 (by decide +kernel) (by decide +kernel)
theorem u_2082 : Cond.selects RX12 yX12_translated yX12_translated ∈ UU := uu_mem 2082 (by decide +kernel) (by decide +kernel)
theorem u_2084 : Cond.methodLink RL 216 yX12_octet ∈ UU := uu_mem 2084 (by decide +kernel) (by decide +kernel)
theorem u_2085 : Cond.instanceMethod yX12_octet ∈ UU := uu_mem 2085 (by decide +kernel) (by decide +kernel)
theorem u_2086 : Cond.selects RX12 yX12_octet yX12_octet ∈ UU := uu_mem 2086 (by decide +kernel) (by decide +kernel)
theorem u_2088 : Cond.methodLink RL 227 yX12_core ∈ UU := uu_mem 2088 (by decide +kernel) (by decide +kernel)
theorem u_2089 : Cond.instanceMethod yX12_core ∈ UU := uu_mem 2089 (by decide +kernel) (by decide +kernel)
theorem u_2090 : Cond.selects RX12 yX12_core yX12_core ∈ UU := uu_mem 2090 (by decide +kernel) (by decide +kernel)
theorem u_2092 : Cond.methodLink RL 234 yX12_pure ∈ UU := uu_mem 2092 (by decide +kernel) (by decide +kernel)
theorem u_2093 : Cond.instanceMethod yX12_pure ∈ UU := uu_mem 2093 (by decide +kernel) (by decide +kernel)
theorem u_2094 : Cond.selects RX12 yX12_pure yX12_pure ∈ UU := uu_mem 2094 (by decide +kernel) (by decide +kernel)
theorem u_2096 : Cond.methodLink RL 237 yX12_stands ∈ UU := uu_mem 2096 (by decide +kernel) (by decide +kernel)
theorem u_2097 : Cond.instanceMethod yX12_stands ∈ UU := uu_mem 2097 (by decide +kernel) (by decide +kernel)
theorem u_2098 : Cond.selects RX12 yX12_stands yX12_stands ∈ UU := uu_mem 2098 (by decide +kernel) (by decide +kernel)
theorem u_2100 : Cond.methodLink RL 241 yX12_count ∈ UU := uu_mem 2100 (by decide +kernel) (by decide +kernel)
theorem u_2101 : Cond.instanceMethod yX12_count ∈ UU := uu_mem 2101 (by decide +kernel) (by decide +kernel)
theorem u_2102 : Cond.selects RX12 yX12_count yX12_count ∈ UU := uu_mem 2102 (by decide +kernel) (by decide +kernel)
theorem m_L_claim : mW yL_claim cL_claim 3 (some .int) [(0, 8, 11, 13)] 2 := ⟨u_480, u_479, u_122, ⟨by decide, by decide, by decide +kernel⟩⟩
theorem m_L_cut : mW yL_cut cL_cut 4 (some .int) [(0, 9, 12, 22), (0, 9, 15, 24)] 3 := ⟨u_1134, u_1133, u_122, ⟨by decide, by decide, by decide +kernel⟩⟩
theorem m_L_gives : mW yL_gives cL_gives 5 (some .int) [(0, 17, 20, 22)] 4 := ⟨u_1227, u_1226, u_122, ⟨by decide, by decide, by decide +kernel⟩⟩
theorem m_L_has : mW yL_has cL_has 6 (some .int) [(0, 19, 22, 13)] 5 := ⟨u_1293, u_1292, u_122, ⟨by decide, by decide, by decide +kernel⟩⟩
theorem m_L_holds : mW yL_holds cL_holds 5 (some .int) [(0, 17, 20, 22), (0, 17, 24, 13)] 4 := ⟨u_1148, u_1147, u_122, ⟨by decide, by decide, by decide +kernel⟩⟩
theorem m_L_line : mW yL_line cL_line 5 (some .int) [(0, 10, 13, 22), (0, 10, 17, 24)] 4 := ⟨u_1072, u_1071, u_122, ⟨by decide, by decide, by decide +kernel⟩⟩
theorem m_L_lits : mW yL_lits cL_lits 5 (some .int) [(0, 10, 13, 22), (0, 10, 17, 24)] 4 := ⟨u_1117, u_1116, u_122, ⟨by decide, by decide, by decide +kernel⟩⟩
theorem m_L_measure : mW yL_measure cL_measure 5 (some .int) [(0, 10, 13, 22), (0, 10, 17, 24)] 4 := ⟨u_1166, u_1165, u_122, ⟨by decide, by decide, by decide +kernel⟩⟩
theorem m_L_needs : mW yL_needs cL_needs 5 (some .int) [(0, 17, 20, 22)] 4 := ⟨u_1201, u_1200, u_122, ⟨by decide, by decide, by decide +kernel⟩⟩
theorem m_L_node : mW yL_node cL_node 4 (some .int) [(0, 9, 12, 24)] 3 := ⟨u_1301, u_1300, u_122, ⟨by decide, by decide, by decide +kernel⟩⟩
theorem m_L_often : mW yL_often cL_often 4 (some .int) [(0, 9, 12, 22)] 3 := ⟨u_1159, u_1158, u_122, ⟨by decide, by decide, by decide +kernel⟩⟩
theorem m_L_pebbled : mW yL_pebbled cL_pebbled 4 (some .int) [(0, 9, 12, 13)] 3 := ⟨u_1310, u_1309, u_122, ⟨by decide, by decide, by decide +kernel⟩⟩
theorem m_L_plane : mW yL_plane cL_plane 5 (some .int) [(0, 10, 13, 22), (0, 10, 17, 24)] 4 := ⟨u_1125, u_1124, u_122, ⟨by decide, by decide, by decide +kernel⟩⟩
theorem m_L_proof : mW yL_proof cL_proof 3 (some .int) [(0, 8, 11, 13)] 2 := ⟨u_1051, u_1050, u_122, ⟨by decide, by decide, by decide +kernel⟩⟩
theorem m_L_rests : mW yL_rests cL_rests 4 (some .int) [(0, 9, 12, 22)] 3 := ⟨u_1478, u_1477, u_122, ⟨by decide, by decide, by decide +kernel⟩⟩
theorem m_L_same : mW yL_same cL_same 4 (some .int) [(0, 9, 12, 22)] 3 := ⟨u_1216, u_1215, u_122, ⟨by decide, by decide, by decide +kernel⟩⟩
theorem m_L_slack : mW yL_slack cL_slack 5 (some .int) [(0, 10, 13, 22), (0, 10, 17, 13)] 4 := ⟨u_1470, u_1469, u_122, ⟨by decide, by decide, by decide +kernel⟩⟩
theorem m_L_stands : mW yL_stands cL_stands 5 (some .int) [(0, 10, 13, 22)] 4 := ⟨u_1494, u_1493, u_122, ⟨by decide, by decide, by decide +kernel⟩⟩
theorem m_L_translate : mW yL_translate cL_translate 4 (some .int) [(0, 9, 12, 22), (0, 9, 15, 86)] 3 := ⟨u_1387, u_1386, u_122, ⟨by decide, by decide, by decide +kernel⟩⟩
theorem m_L_translated : mW yL_translated cL_translated 4 (some .int) [(0, 9, 12, 22), (0, 9, 15, 86)] 3 := ⟨u_1462, u_1461, u_122, ⟨by decide, by decide, by decide +kernel⟩⟩
theorem m_L_tree : mW yL_tree cL_tree 4 (some .int) [(0, 8, 11, 22)] 3 := ⟨u_1194, u_1193, u_122, ⟨by decide, by decide, by decide +kernel⟩⟩
theorem m_L_trim : mW yL_trim cL_trim 4 (some .int) [(0, 9, 12, 22)] 3 := ⟨u_1318, u_1317, u_122, ⟨by decide, by decide, by decide +kernel⟩⟩
theorem m_L_units : mW yL_units cL_units 6 (some .int) [(0, 12, 15, 13), (0, 12, 19, 24)] 5 := ⟨u_1235, u_1234, u_122, ⟨by decide, by decide, by decide +kernel⟩⟩
theorem m_L_uses : mW yL_uses cL_uses 4 (some .int) [(0, 9, 12, 22)] 3 := ⟨u_1208, u_1207, u_122, ⟨by decide, by decide, by decide +kernel⟩⟩
theorem m_L_within : mW yL_within cL_within 5 (some .int) [(0, 10, 13, 13), (0, 10, 17, 24)] 4 := ⟨u_1282, u_1281, u_122, ⟨by decide, by decide, by decide +kernel⟩⟩
theorem m_L_without : mW yL_without cL_without 4 (some .int) [(0, 9, 12, 22)] 3 := ⟨u_1486, u_1485, u_122, ⟨by decide, by decide, by decide +kernel⟩⟩
theorem m_X11_core : mV yX11_core cX11_core 2 (some .int) 1 := ⟨u_435, u_433, u_434, u_123, ⟨by decide, by decide, by decide +kernel⟩⟩
theorem m_X11_count : mV yX11_count cX11_count 2 (some .int) 1 := ⟨u_457, u_455, u_456, u_123, ⟨by decide, by decide, by decide +kernel⟩⟩
theorem m_X11_end : mV yX11_end cX11_end 2 (some .boolean) 1 := ⟨u_289, u_287, u_288, u_123, ⟨by decide, by decide, by decide +kernel⟩⟩
theorem m_X11_fault : mV yX11_fault cX11_fault 1 (some .int) 0 := ⟨u_293, u_291, u_292, u_123, ⟨by decide, by decide, by decide +kernel⟩⟩
theorem m_X11_feed : mV yX11_feed cX11_feed 6 (some .int) 5 := ⟨u_281, u_279, u_280, u_123, ⟨by decide, by decide, by decide +kernel⟩⟩
theorem m_X11_leastWidth : mV yX11_leastWidth cX11_leastWidth 2 (some .int) 0 := ⟨u_328, u_326, u_327, u_123, ⟨by decide, by decide, by decide +kernel⟩⟩
theorem m_X11_model : mV yX11_model cX11_model 6 (some .int) 1 := ⟨u_297, u_295, u_296, u_123, ⟨by decide, by decide, by decide +kernel⟩⟩
theorem m_X11_octet : mV yX11_octet cX11_octet 2 (some .int) 1 := ⟨u_427, u_425, u_426, u_123, ⟨by decide, by decide, by decide +kernel⟩⟩
theorem m_X11_pebbles : mV yX11_pebbles cX11_pebbles 2 (some .int) 0 := ⟨u_401, u_399, u_400, u_123, ⟨by decide, by decide, by decide +kernel⟩⟩
theorem m_X11_pure : mV yX11_pure cX11_pure 5 (some .int) 1 := ⟨u_452, u_450, u_451, u_123, ⟨by decide, by decide, by decide +kernel⟩⟩
theorem m_X11_refutes : mV yX11_refutes cX11_refutes 2 (some .int) 0 := ⟨u_312, u_310, u_311, u_123, ⟨by decide, by decide, by decide +kernel⟩⟩
theorem m_X12_claim : mV yX12_claim cX12_claim 2 (some .int) 0 := ⟨u_1640, u_1638, u_1639, u_128, ⟨by decide, by decide, by decide +kernel⟩⟩
theorem m_X12_core : mV yX12_core cX12_core 7 (some .int) 1 := ⟨u_2091, u_2089, u_2090, u_128, ⟨by decide, by decide, by decide +kernel⟩⟩
theorem m_X12_count : mV yX12_count cX12_count 2 (some .int) 1 := ⟨u_2103, u_2101, u_2102, u_128, ⟨by decide, by decide, by decide +kernel⟩⟩
theorem m_X12_cut : mV yX12_cut cX12_cut 2 (some .int) 1 := ⟨u_1866, u_1864, u_1865, u_128, ⟨by decide, by decide, by decide +kernel⟩⟩
theorem m_X12_end : mV yX12_end cX12_end 2 (some .boolean) 1 := ⟨u_1632, u_1630, u_1631, u_128, ⟨by decide, by decide, by decide +kernel⟩⟩
theorem m_X12_fault : mV yX12_fault cX12_fault 1 (some .int) 0 := ⟨u_1636, u_1634, u_1635, u_128, ⟨by decide, by decide, by decide +kernel⟩⟩
theorem m_X12_feed : mV yX12_feed cX12_feed 7 (some .int) 5 := ⟨u_1628, u_1626, u_1627, u_128, ⟨by decide, by decide, by decide +kernel⟩⟩
theorem m_X12_gives : mV yX12_gives cX12_gives 3 (some .boolean) 2 := ⟨u_1913, u_1911, u_1912, u_128, ⟨by decide, by decide, by decide +kernel⟩⟩
theorem m_X12_has : mV yX12_has cX12_has 4 (some .boolean) 3 := ⟨u_1990, u_1988, u_1989, u_128, ⟨by decide, by decide, by decide +kernel⟩⟩
theorem m_X12_holds : mV yX12_holds cX12_holds 3 (some .boolean) 2 := ⟨u_1870, u_1868, u_1869, u_128, ⟨by decide, by decide, by decide +kernel⟩⟩
theorem m_X12_leastWidth : mV yX12_leastWidth cX12_leastWidth 2 (some .int) 0 := ⟨u_1986, u_1984, u_1985, u_128, ⟨by decide, by decide, by decide +kernel⟩⟩
theorem m_X12_line : mV yX12_line cX12_line 3 (some .int) 2 := ⟨u_1833, u_1831, u_1832, u_128, ⟨by decide, by decide, by decide +kernel⟩⟩
theorem m_X12_lits : mV yX12_lits cX12_lits 3 (some .int) 2 := ⟨u_1858, u_1856, u_1857, u_128, ⟨by decide, by decide, by decide +kernel⟩⟩
theorem m_X12_measure : mV yX12_measure cX12_measure 5 (some .int) 2 := ⟨u_1937, u_1935, u_1936, u_128, ⟨by decide, by decide, by decide +kernel⟩⟩
theorem m_X12_model : mV yX12_model cX12_model 6 (some .int) 1 := ⟨u_1893, u_1891, u_1892, u_128, ⟨by decide, by decide, by decide +kernel⟩⟩
theorem m_X12_needs : mV yX12_needs cX12_needs 3 (some .boolean) 2 := ⟨u_1917, u_1915, u_1916, u_128, ⟨by decide, by decide, by decide +kernel⟩⟩
theorem m_X12_node : mV yX12_node cX12_node 5 (some .int) 1 := ⟨u_1994, u_1992, u_1993, u_128, ⟨by decide, by decide, by decide +kernel⟩⟩
theorem m_X12_octet : mV yX12_octet cX12_octet 2 (some .int) 1 := ⟨u_2087, u_2085, u_2086, u_128, ⟨by decide, by decide, by decide +kernel⟩⟩
theorem m_X12_often : mV yX12_often cX12_often 2 (some .int) 1 := ⟨u_1882, u_1880, u_1881, u_128, ⟨by decide, by decide, by decide +kernel⟩⟩
theorem m_X12_pebbled : mV yX12_pebbled cX12_pebbled 2 (some .int) 1 := ⟨u_1998, u_1996, u_1997, u_128, ⟨by decide, by decide, by decide +kernel⟩⟩
theorem m_X12_pebbles : mV yX12_pebbles cX12_pebbles 2 (some .int) 0 := ⟨u_2006, u_2004, u_2005, u_128, ⟨by decide, by decide, by decide +kernel⟩⟩
theorem m_X12_plane : mV yX12_plane cX12_plane 3 (some .int) 2 := ⟨u_1862, u_1860, u_1861, u_128, ⟨by decide, by decide, by decide +kernel⟩⟩
theorem m_X12_proof : mV yX12_proof cX12_proof 2 (some .int) 0 := ⟨u_1763, u_1761, u_1762, u_128, ⟨by decide, by decide, by decide +kernel⟩⟩
theorem m_X12_pure : mV yX12_pure cX12_pure 6 (some .int) 1 := ⟨u_2095, u_2093, u_2094, u_128, ⟨by decide, by decide, by decide +kernel⟩⟩
theorem m_X12_refutes : mV yX12_refutes cX12_refutes 2 (some .int) 0 := ⟨u_1905, u_1903, u_1904, u_128, ⟨by decide, by decide, by decide +kernel⟩⟩
theorem m_X12_rests : mV yX12_rests cX12_rests 4 (some .int) 1 := ⟨u_1925, u_1923, u_1924, u_128, ⟨by decide, by decide, by decide +kernel⟩⟩
theorem m_X12_same : mV yX12_same cX12_same 5 (some .int) 1 := ⟨u_1909, u_1907, u_1908, u_128, ⟨by decide, by decide, by decide +kernel⟩⟩
theorem m_X12_slack : mV yX12_slack cX12_slack 3 (some .int) 2 := ⟨u_1878, u_1876, u_1877, u_128, ⟨by decide, by decide, by decide +kernel⟩⟩
theorem m_X12_stands : mV yX12_stands cX12_stands 5 (some .int) 2 := ⟨u_2099, u_2097, u_2098, u_128, ⟨by decide, by decide, by decide +kernel⟩⟩
theorem m_X12_thrown : mV yX12_thrown cX12_thrown 1 (some .int) 0 := ⟨u_1624, u_1622, u_1623, u_128, ⟨by decide, by decide, by decide +kernel⟩⟩
theorem m_X12_translate : mV yX12_translate cX12_translate 2 (some .int) 1 := ⟨u_2047, u_2045, u_2046, u_128, ⟨by decide, by decide, by decide +kernel⟩⟩
theorem m_X12_translated : mV yX12_translated cX12_translated 5 (some .int) 1 := ⟨u_2083, u_2081, u_2082, u_128, ⟨by decide, by decide, by decide +kernel⟩⟩
theorem m_X12_tree : mV yX12_tree cX12_tree 4 (some .long) 1 := ⟨u_1958, u_1956, u_1957, u_128, ⟨by decide, by decide, by decide +kernel⟩⟩
theorem m_X12_trim : mV yX12_trim cX12_trim 4 (some .int) 1 := ⟨u_2010, u_2008, u_2009, u_128, ⟨by decide, by decide, by decide +kernel⟩⟩
theorem m_X12_units : mV yX12_units cX12_units 8 (some .int) 3 := ⟨u_1962, u_1960, u_1961, u_128, ⟨by decide, by decide, by decide +kernel⟩⟩
theorem m_X12_uses : mV yX12_uses cX12_uses 4 (some .int) 1 := ⟨u_1929, u_1927, u_1928, u_128, ⟨by decide, by decide, by decide +kernel⟩⟩
theorem m_X12_within : mV yX12_within cX12_within 3 (some .int) 2 := ⟨u_1970, u_1968, u_1969, u_128, ⟨by decide, by decide, by decide +kernel⟩⟩
theorem m_X12_without : mV yX12_without cX12_without 2 (some .int) 1 := ⟨u_1901, u_1899, u_1900, u_128, ⟨by decide, by decide, by decide +kernel⟩⟩
theorem dL_law_23 : decode cL_law 23 = .ok (.iload 4, 2) := by decide +kernel
theorem dL_law_25 : decode cL_law 25 = .ok (.aload_n 0, 1) := by decide +kernel
theorem dL_law_26 : decode cL_law 26 = .ok (.arraylength, 1) := by decide +kernel
theorem dL_law_27 : decode cL_law 27 = .ok (.bipush 6, 2) := by decide +kernel
theorem dL_law_29 : decode cL_law 29 = .ok (.isub, 1) := by decide +kernel
theorem dL_law_30 : decode cL_law 30 = .ok (.if_icmp .gt 2146, 3) := by decide +kernel
theorem dL_law_204 : decode cL_law 204 = .ok (.aload_n 1, 1) := by decide +kernel
theorem dL_law_205 : decode cL_law 205 = .ok (.aload_n 0, 1) := by decide +kernel
theorem dL_law_206 : decode cL_law 206 = .ok (.iload 4, 2) := by decide +kernel
theorem dL_law_208 : decode cL_law 208 = .ok (.iconst 1, 1) := by decide +kernel
theorem dL_law_209 : decode cL_law 209 = .ok (.iadd, 1) := by decide +kernel
theorem dL_law_210 : decode cL_law 210 = .ok (.iaload, 1) := by decide +kernel
theorem dL_law_211 : decode cL_law 211 = .ok (.aload_n 0, 1) := by decide +kernel
theorem dL_law_212 : decode cL_law 212 = .ok (.iload 4, 2) := by decide +kernel
theorem dL_law_214 : decode cL_law 214 = .ok (.iconst 2, 1) := by decide +kernel
theorem dL_law_215 : decode cL_law 215 = .ok (.iadd, 1) := by decide +kernel
theorem dL_law_216 : decode cL_law 216 = .ok (.iaload, 1) := by decide +kernel
theorem dL_law_217 : decode cL_law 217 = .ok (.aload_n 0, 1) := by decide +kernel
theorem dL_law_218 : decode cL_law 218 = .ok (.iload 4, 2) := by decide +kernel
theorem dL_law_220 : decode cL_law 220 = .ok (.iconst 3, 1) := by decide +kernel
theorem dL_law_221 : decode cL_law 221 = .ok (.iadd, 1) := by decide +kernel
theorem dL_law_222 : decode cL_law 222 = .ok (.iaload, 1) := by decide +kernel
theorem dL_law_223 : decode cL_law 223 = .ok (.aload_n 0, 1) := by decide +kernel
theorem dL_law_224 : decode cL_law 224 = .ok (.iload 4, 2) := by decide +kernel
theorem dL_law_226 : decode cL_law 226 = .ok (.iconst 4, 1) := by decide +kernel
theorem dL_law_227 : decode cL_law 227 = .ok (.iadd, 1) := by decide +kernel
theorem dL_law_228 : decode cL_law 228 = .ok (.iaload, 1) := by decide +kernel
theorem dL_law_229 : decode cL_law 229 = .ok (.aload_n 0, 1) := by decide +kernel
theorem dL_law_230 : decode cL_law 230 = .ok (.iload 4, 2) := by decide +kernel
theorem dL_law_232 : decode cL_law 232 = .ok (.iconst 5, 1) := by decide +kernel
theorem dL_law_233 : decode cL_law 233 = .ok (.iadd, 1) := by decide +kernel
theorem dL_law_234 : decode cL_law 234 = .ok (.iaload, 1) := by decide +kernel
theorem dL_law_235 : decode cL_law 235 = .ok (.invokevirtual 107, 3) := by decide +kernel
theorem dL_law_238 : decode cL_law 238 = .ok (.aload_n 2, 1) := by decide +kernel
theorem dL_law_239 : decode cL_law 239 = .ok (.aload_n 0, 1) := by decide +kernel
theorem dL_law_240 : decode cL_law 240 = .ok (.iload 4, 2) := by decide +kernel
theorem dL_law_242 : decode cL_law 242 = .ok (.iconst 1, 1) := by decide +kernel
theorem dL_law_243 : decode cL_law 243 = .ok (.iadd, 1) := by decide +kernel
theorem dL_law_244 : decode cL_law 244 = .ok (.iaload, 1) := by decide +kernel
theorem dL_law_245 : decode cL_law 245 = .ok (.aload_n 0, 1) := by decide +kernel
theorem dL_law_246 : decode cL_law 246 = .ok (.iload 4, 2) := by decide +kernel
theorem dL_law_248 : decode cL_law 248 = .ok (.iconst 2, 1) := by decide +kernel
theorem dL_law_249 : decode cL_law 249 = .ok (.iadd, 1) := by decide +kernel
theorem dL_law_250 : decode cL_law 250 = .ok (.iaload, 1) := by decide +kernel
theorem dL_law_251 : decode cL_law 251 = .ok (.aload_n 0, 1) := by decide +kernel
theorem dL_law_252 : decode cL_law 252 = .ok (.iload 4, 2) := by decide +kernel
theorem dL_law_254 : decode cL_law 254 = .ok (.iconst 3, 1) := by decide +kernel
theorem dL_law_255 : decode cL_law 255 = .ok (.iadd, 1) := by decide +kernel
theorem dL_law_256 : decode cL_law 256 = .ok (.iaload, 1) := by decide +kernel
theorem dL_law_257 : decode cL_law 257 = .ok (.aload_n 0, 1) := by decide +kernel
theorem dL_law_258 : decode cL_law 258 = .ok (.iload 4, 2) := by decide +kernel
theorem dL_law_260 : decode cL_law 260 = .ok (.iconst 4, 1) := by decide +kernel
theorem dL_law_261 : decode cL_law 261 = .ok (.iadd, 1) := by decide +kernel
theorem dL_law_262 : decode cL_law 262 = .ok (.iaload, 1) := by decide +kernel
theorem dL_law_263 : decode cL_law 263 = .ok (.aload_n 0, 1) := by decide +kernel
theorem dL_law_264 : decode cL_law 264 = .ok (.iload 4, 2) := by decide +kernel
theorem dL_law_266 : decode cL_law 266 = .ok (.iconst 5, 1) := by decide +kernel
theorem dL_law_267 : decode cL_law 267 = .ok (.iadd, 1) := by decide +kernel
theorem dL_law_268 : decode cL_law 268 = .ok (.iaload, 1) := by decide +kernel
theorem dL_law_269 : decode cL_law 269 = .ok (.invokevirtual 111, 3) := by decide +kernel
theorem dL_law_272 : decode cL_law 272 = .ok (.if_icmp .eq 1898, 3) := by decide +kernel
theorem dL_law_277 : decode cL_law 277 = .ok (.aload_n 1, 1) := by decide +kernel
theorem dL_law_278 : decode cL_law 278 = .ok (.aload_n 0, 1) := by decide +kernel
theorem dL_law_279 : decode cL_law 279 = .ok (.iload 4, 2) := by decide +kernel
theorem dL_law_281 : decode cL_law 281 = .ok (.iconst 1, 1) := by decide +kernel
theorem dL_law_282 : decode cL_law 282 = .ok (.iadd, 1) := by decide +kernel
theorem dL_law_283 : decode cL_law 283 = .ok (.iaload, 1) := by decide +kernel
theorem dL_law_284 : decode cL_law 284 = .ok (.invokevirtual 112, 3) := by decide +kernel
theorem dL_law_287 : decode cL_law 287 = .ok (.aload_n 2, 1) := by decide +kernel
theorem dL_law_288 : decode cL_law 288 = .ok (.aload_n 0, 1) := by decide +kernel
theorem dL_law_289 : decode cL_law 289 = .ok (.iload 4, 2) := by decide +kernel
theorem dL_law_291 : decode cL_law 291 = .ok (.iconst 1, 1) := by decide +kernel
theorem dL_law_292 : decode cL_law 292 = .ok (.iadd, 1) := by decide +kernel
theorem dL_law_293 : decode cL_law 293 = .ok (.iaload, 1) := by decide +kernel
theorem dL_law_294 : decode cL_law 294 = .ok (.invokevirtual 116, 3) := by decide +kernel
theorem dL_law_297 : decode cL_law 297 = .ok (.if_icmp .eq 1873, 3) := by decide +kernel
theorem dL_law_302 : decode cL_law 302 = .ok (.aload_n 1, 1) := by decide +kernel
theorem dL_law_303 : decode cL_law 303 = .ok (.aload_n 3, 1) := by decide +kernel
theorem dL_law_304 : decode cL_law 304 = .ok (.invokestatic 117, 3) := by decide +kernel
theorem dL_law_307 : decode cL_law 307 = .ok (.istore 5, 2) := by decide +kernel
theorem dL_law_309 : decode cL_law 309 = .ok (.aload_n 2, 1) := by decide +kernel
theorem dL_law_310 : decode cL_law 310 = .ok (.invokevirtual 122, 3) := by decide +kernel
theorem dL_law_313 : decode cL_law 313 = .ok (.istore 6, 2) := by decide +kernel
theorem dL_law_315 : decode cL_law 315 = .ok (.aload_n 2, 1) := by decide +kernel
theorem dL_law_316 : decode cL_law 316 = .ok (.invokevirtual 123, 3) := by decide +kernel
theorem dL_law_319 : decode cL_law 319 = .ok (.iload 5, 2) := by decide +kernel
theorem dL_law_321 : decode cL_law 321 = .ok (.if_icmp .eq 5, 3) := by decide +kernel
theorem dL_law_326 : decode cL_law 326 = .ok (.iload 5, 2) := by decide +kernel
theorem dL_law_328 : decode cL_law 328 = .ok (.ifCond .ne 15, 3) := by decide +kernel
theorem dL_law_331 : decode cL_law 331 = .ok (.aload_n 3, 1) := by decide +kernel
theorem dL_law_332 : decode cL_law 332 = .ok (.iconst 0, 1) := by decide +kernel
theorem dL_law_333 : decode cL_law 333 = .ok (.laload, 1) := by decide +kernel
theorem dL_law_334 : decode cL_law 334 = .ok (.iload 6, 2) := by decide +kernel
theorem dL_law_336 : decode cL_law 336 = .ok (.i2l, 1) := by decide +kernel
theorem dL_law_337 : decode cL_law 337 = .ok (.lcmp, 1) := by decide +kernel
theorem dL_law_338 : decode cL_law 338 = .ok (.ifCond .eq 5, 3) := by decide +kernel
theorem dL_law_343 : decode cL_law 343 = .ok (.goto 1827, 3) := by decide +kernel
theorem dL_law_346 : decode cL_law 346 = .ok (.aload_n 1, 1) := by decide +kernel
theorem dL_law_347 : decode cL_law 347 = .ok (.aload_n 3, 1) := by decide +kernel
theorem dL_law_348 : decode cL_law 348 = .ok (.invokestatic 126, 3) := by decide +kernel
theorem dL_law_351 : decode cL_law 351 = .ok (.istore 5, 2) := by decide +kernel
theorem dL_law_353 : decode cL_law 353 = .ok (.aload_n 2, 1) := by decide +kernel
theorem dL_law_354 : decode cL_law 354 = .ok (.invokevirtual 128, 3) := by decide +kernel
theorem dL_law_357 : decode cL_law 357 = .ok (.istore 6, 2) := by decide +kernel
theorem dL_law_359 : decode cL_law 359 = .ok (.aload_n 2, 1) := by decide +kernel
theorem dL_law_360 : decode cL_law 360 = .ok (.invokevirtual 123, 3) := by decide +kernel
theorem dL_law_363 : decode cL_law 363 = .ok (.iload 5, 2) := by decide +kernel
theorem dL_law_365 : decode cL_law 365 = .ok (.if_icmp .eq 5, 3) := by decide +kernel
theorem dL_law_370 : decode cL_law 370 = .ok (.iload 5, 2) := by decide +kernel
theorem dL_law_372 : decode cL_law 372 = .ok (.ifCond .ne 15, 3) := by decide +kernel
theorem dL_law_375 : decode cL_law 375 = .ok (.aload_n 3, 1) := by decide +kernel
theorem dL_law_376 : decode cL_law 376 = .ok (.iconst 0, 1) := by decide +kernel
theorem dL_law_377 : decode cL_law 377 = .ok (.laload, 1) := by decide +kernel
theorem dL_law_378 : decode cL_law 378 = .ok (.iload 6, 2) := by decide +kernel
theorem dL_law_380 : decode cL_law 380 = .ok (.i2l, 1) := by decide +kernel
theorem dL_law_381 : decode cL_law 381 = .ok (.lcmp, 1) := by decide +kernel
theorem dL_law_382 : decode cL_law 382 = .ok (.ifCond .eq 5, 3) := by decide +kernel
theorem dL_law_387 : decode cL_law 387 = .ok (.goto 1783, 3) := by decide +kernel
theorem dL_law_390 : decode cL_law 390 = .ok (.aload_n 1, 1) := by decide +kernel
theorem dL_law_391 : decode cL_law 391 = .ok (.invokevirtual 129, 3) := by decide +kernel
theorem dL_law_394 : decode cL_law 394 = .ok (.aload_n 2, 1) := by decide +kernel
theorem dL_law_395 : decode cL_law 395 = .ok (.invokevirtual 132, 3) := by decide +kernel
theorem dL_law_398 : decode cL_law 398 = .ok (.if_icmp .eq 1772, 3) := by decide +kernel
theorem dL_law_403 : decode cL_law 403 = .ok (.aload_n 1, 1) := by decide +kernel
theorem dL_law_404 : decode cL_law 404 = .ok (.aload_n 0, 1) := by decide +kernel
theorem dL_law_405 : decode cL_law 405 = .ok (.iload 4, 2) := by decide +kernel
theorem dL_law_407 : decode cL_law 407 = .ok (.iconst 1, 1) := by decide +kernel
theorem dL_law_408 : decode cL_law 408 = .ok (.iadd, 1) := by decide +kernel
theorem dL_law_409 : decode cL_law 409 = .ok (.iaload, 1) := by decide +kernel
theorem dL_law_410 : decode cL_law 410 = .ok (.aload_n 0, 1) := by decide +kernel
theorem dL_law_411 : decode cL_law 411 = .ok (.iload 4, 2) := by decide +kernel
theorem dL_law_413 : decode cL_law 413 = .ok (.iconst 2, 1) := by decide +kernel
theorem dL_law_414 : decode cL_law 414 = .ok (.iadd, 1) := by decide +kernel
theorem dL_law_415 : decode cL_law 415 = .ok (.iaload, 1) := by decide +kernel
theorem dL_law_416 : decode cL_law 416 = .ok (.aload_n 3, 1) := by decide +kernel
theorem dL_law_417 : decode cL_law 417 = .ok (.invokestatic 133, 3) := by decide +kernel
theorem dL_law_420 : decode cL_law 420 = .ok (.istore 5, 2) := by decide +kernel
theorem dL_law_422 : decode cL_law 422 = .ok (.aload_n 2, 1) := by decide +kernel
theorem dL_law_423 : decode cL_law 423 = .ok (.aload_n 0, 1) := by decide +kernel
theorem dL_law_424 : decode cL_law 424 = .ok (.iload 4, 2) := by decide +kernel
theorem dL_law_426 : decode cL_law 426 = .ok (.iconst 1, 1) := by decide +kernel
theorem dL_law_427 : decode cL_law 427 = .ok (.iadd, 1) := by decide +kernel
theorem dL_law_428 : decode cL_law 428 = .ok (.iaload, 1) := by decide +kernel
theorem dL_law_429 : decode cL_law 429 = .ok (.aload_n 0, 1) := by decide +kernel
theorem dL_law_430 : decode cL_law 430 = .ok (.iload 4, 2) := by decide +kernel
theorem dL_law_432 : decode cL_law 432 = .ok (.iconst 2, 1) := by decide +kernel
theorem dL_law_433 : decode cL_law 433 = .ok (.iadd, 1) := by decide +kernel
theorem dL_law_434 : decode cL_law 434 = .ok (.iaload, 1) := by decide +kernel
theorem dL_law_435 : decode cL_law 435 = .ok (.invokevirtual 136, 3) := by decide +kernel
theorem dL_law_438 : decode cL_law 438 = .ok (.istore 6, 2) := by decide +kernel
theorem dL_law_440 : decode cL_law 440 = .ok (.aload_n 2, 1) := by decide +kernel
theorem dL_law_441 : decode cL_law 441 = .ok (.invokevirtual 123, 3) := by decide +kernel
theorem dL_law_444 : decode cL_law 444 = .ok (.iload 5, 2) := by decide +kernel
theorem dL_law_446 : decode cL_law 446 = .ok (.if_icmp .eq 5, 3) := by decide +kernel
theorem dL_law_451 : decode cL_law 451 = .ok (.iload 5, 2) := by decide +kernel
theorem dL_law_453 : decode cL_law 453 = .ok (.ifCond .ne 15, 3) := by decide +kernel
theorem dL_law_468 : decode cL_law 468 = .ok (.goto 1702, 3) := by decide +kernel
theorem dL_law_471 : decode cL_law 471 = .ok (.aload_n 1, 1) := by decide +kernel
theorem dL_law_472 : decode cL_law 472 = .ok (.aload_n 0, 1) := by decide +kernel
theorem dL_law_473 : decode cL_law 473 = .ok (.iload 4, 2) := by decide +kernel
theorem dL_law_475 : decode cL_law 475 = .ok (.iconst 1, 1) := by decide +kernel
theorem dL_law_476 : decode cL_law 476 = .ok (.iadd, 1) := by decide +kernel
theorem dL_law_477 : decode cL_law 477 = .ok (.iaload, 1) := by decide +kernel
theorem dL_law_478 : decode cL_law 478 = .ok (.aload_n 0, 1) := by decide +kernel
theorem dL_law_479 : decode cL_law 479 = .ok (.iload 4, 2) := by decide +kernel
theorem dL_law_481 : decode cL_law 481 = .ok (.iconst 2, 1) := by decide +kernel
theorem dL_law_482 : decode cL_law 482 = .ok (.iadd, 1) := by decide +kernel
theorem dL_law_483 : decode cL_law 483 = .ok (.iaload, 1) := by decide +kernel
theorem dL_law_484 : decode cL_law 484 = .ok (.ifCond .eq 7, 3) := by decide +kernel
theorem dL_law_487 : decode cL_law 487 = .ok (.iconst 1, 1) := by decide +kernel
theorem dL_law_488 : decode cL_law 488 = .ok (.goto 4, 3) := by decide +kernel
theorem dL_law_491 : decode cL_law 491 = .ok (.iconst 0, 1) := by decide +kernel
theorem dL_law_492 : decode cL_law 492 = .ok (.aload_n 3, 1) := by decide +kernel
theorem dL_law_493 : decode cL_law 493 = .ok (.invokestatic 137, 3) := by decide +kernel
theorem dL_law_496 : decode cL_law 496 = .ok (.istore 5, 2) := by decide +kernel
theorem dL_law_498 : decode cL_law 498 = .ok (.aload_n 2, 1) := by decide +kernel
theorem dL_law_499 : decode cL_law 499 = .ok (.aload_n 0, 1) := by decide +kernel
theorem dL_law_500 : decode cL_law 500 = .ok (.iload 4, 2) := by decide +kernel
theorem dL_law_502 : decode cL_law 502 = .ok (.iconst 1, 1) := by decide +kernel
theorem dL_law_503 : decode cL_law 503 = .ok (.iadd, 1) := by decide +kernel
theorem dL_law_504 : decode cL_law 504 = .ok (.iaload, 1) := by decide +kernel
theorem dL_law_505 : decode cL_law 505 = .ok (.aload_n 0, 1) := by decide +kernel
theorem dL_law_506 : decode cL_law 506 = .ok (.iload 4, 2) := by decide +kernel
theorem dL_law_508 : decode cL_law 508 = .ok (.iconst 2, 1) := by decide +kernel
theorem dL_law_509 : decode cL_law 509 = .ok (.iadd, 1) := by decide +kernel
theorem dL_law_510 : decode cL_law 510 = .ok (.iaload, 1) := by decide +kernel
theorem dL_law_511 : decode cL_law 511 = .ok (.ifCond .eq 7, 3) := by decide +kernel
theorem dL_law_514 : decode cL_law 514 = .ok (.iconst 1, 1) := by decide +kernel
theorem dL_law_515 : decode cL_law 515 = .ok (.goto 4, 3) := by decide +kernel
theorem dL_law_518 : decode cL_law 518 = .ok (.iconst 0, 1) := by decide +kernel
theorem dL_law_519 : decode cL_law 519 = .ok (.invokevirtual 140, 3) := by decide +kernel
theorem dL_law_522 : decode cL_law 522 = .ok (.istore 6, 2) := by decide +kernel
theorem dL_law_524 : decode cL_law 524 = .ok (.aload_n 2, 1) := by decide +kernel
theorem dL_law_525 : decode cL_law 525 = .ok (.invokevirtual 123, 3) := by decide +kernel
theorem dL_law_528 : decode cL_law 528 = .ok (.iload 5, 2) := by decide +kernel
theorem dL_law_530 : decode cL_law 530 = .ok (.if_icmp .eq 5, 3) := by decide +kernel
theorem dL_law_535 : decode cL_law 535 = .ok (.iload 5, 2) := by decide +kernel
theorem dL_law_537 : decode cL_law 537 = .ok (.ifCond .ne 15, 3) := by decide +kernel
theorem dL_law_552 : decode cL_law 552 = .ok (.goto 1618, 3) := by decide +kernel
theorem dL_law_555 : decode cL_law 555 = .ok (.aload_n 1, 1) := by decide +kernel
theorem dL_law_556 : decode cL_law 556 = .ok (.aload_n 0, 1) := by decide +kernel
theorem dL_law_557 : decode cL_law 557 = .ok (.iload 4, 2) := by decide +kernel
theorem dL_law_559 : decode cL_law 559 = .ok (.iconst 1, 1) := by decide +kernel
theorem dL_law_560 : decode cL_law 560 = .ok (.iadd, 1) := by decide +kernel
theorem dL_law_561 : decode cL_law 561 = .ok (.iaload, 1) := by decide +kernel
theorem dL_law_562 : decode cL_law 562 = .ok (.aload_n 0, 1) := by decide +kernel
theorem dL_law_563 : decode cL_law 563 = .ok (.iload 4, 2) := by decide +kernel
theorem dL_law_565 : decode cL_law 565 = .ok (.iconst 2, 1) := by decide +kernel
theorem dL_law_566 : decode cL_law 566 = .ok (.iadd, 1) := by decide +kernel
theorem dL_law_567 : decode cL_law 567 = .ok (.iaload, 1) := by decide +kernel
theorem dL_law_568 : decode cL_law 568 = .ok (.aload_n 3, 1) := by decide +kernel
theorem dL_law_569 : decode cL_law 569 = .ok (.invokestatic 141, 3) := by decide +kernel
theorem dL_law_572 : decode cL_law 572 = .ok (.istore 5, 2) := by decide +kernel
theorem dL_law_574 : decode cL_law 574 = .ok (.aload_n 2, 1) := by decide +kernel
theorem dL_law_575 : decode cL_law 575 = .ok (.aload_n 0, 1) := by decide +kernel
theorem dL_law_576 : decode cL_law 576 = .ok (.iload 4, 2) := by decide +kernel
theorem dL_law_578 : decode cL_law 578 = .ok (.iconst 1, 1) := by decide +kernel
theorem dL_law_579 : decode cL_law 579 = .ok (.iadd, 1) := by decide +kernel
theorem dL_law_580 : decode cL_law 580 = .ok (.iaload, 1) := by decide +kernel
theorem dL_law_581 : decode cL_law 581 = .ok (.aload_n 0, 1) := by decide +kernel
theorem dL_law_582 : decode cL_law 582 = .ok (.iload 4, 2) := by decide +kernel
theorem dL_law_584 : decode cL_law 584 = .ok (.iconst 2, 1) := by decide +kernel
theorem dL_law_585 : decode cL_law 585 = .ok (.iadd, 1) := by decide +kernel
theorem dL_law_586 : decode cL_law 586 = .ok (.iaload, 1) := by decide +kernel
theorem dL_law_587 : decode cL_law 587 = .ok (.invokevirtual 143, 3) := by decide +kernel
theorem dL_law_590 : decode cL_law 590 = .ok (.istore 6, 2) := by decide +kernel
theorem dL_law_592 : decode cL_law 592 = .ok (.aload_n 2, 1) := by decide +kernel
theorem dL_law_593 : decode cL_law 593 = .ok (.invokevirtual 123, 3) := by decide +kernel
theorem dL_law_596 : decode cL_law 596 = .ok (.iload 5, 2) := by decide +kernel
theorem dL_law_598 : decode cL_law 598 = .ok (.if_icmp .eq 5, 3) := by decide +kernel
theorem dL_law_603 : decode cL_law 603 = .ok (.iload 5, 2) := by decide +kernel
theorem dL_law_605 : decode cL_law 605 = .ok (.ifCond .ne 15, 3) := by decide +kernel
theorem dL_law_620 : decode cL_law 620 = .ok (.goto 1550, 3) := by decide +kernel
theorem dL_law_623 : decode cL_law 623 = .ok (.aload_n 1, 1) := by decide +kernel
theorem dL_law_624 : decode cL_law 624 = .ok (.aload_n 0, 1) := by decide +kernel
theorem dL_law_625 : decode cL_law 625 = .ok (.iload 4, 2) := by decide +kernel
theorem dL_law_627 : decode cL_law 627 = .ok (.iconst 1, 1) := by decide +kernel
theorem dL_law_628 : decode cL_law 628 = .ok (.iadd, 1) := by decide +kernel
theorem dL_law_629 : decode cL_law 629 = .ok (.iaload, 1) := by decide +kernel
theorem dL_law_630 : decode cL_law 630 = .ok (.aload_n 3, 1) := by decide +kernel
theorem dL_law_631 : decode cL_law 631 = .ok (.invokestatic 144, 3) := by decide +kernel
theorem dL_law_634 : decode cL_law 634 = .ok (.istore 5, 2) := by decide +kernel
theorem dL_law_636 : decode cL_law 636 = .ok (.aload_n 2, 1) := by decide +kernel
theorem dL_law_637 : decode cL_law 637 = .ok (.aload_n 0, 1) := by decide +kernel
theorem dL_law_638 : decode cL_law 638 = .ok (.iload 4, 2) := by decide +kernel
theorem dL_law_640 : decode cL_law 640 = .ok (.iconst 1, 1) := by decide +kernel
theorem dL_law_641 : decode cL_law 641 = .ok (.iadd, 1) := by decide +kernel
theorem dL_law_642 : decode cL_law 642 = .ok (.iaload, 1) := by decide +kernel
theorem dL_law_643 : decode cL_law 643 = .ok (.invokevirtual 147, 3) := by decide +kernel
theorem dL_law_646 : decode cL_law 646 = .ok (.istore 6, 2) := by decide +kernel
theorem dL_law_648 : decode cL_law 648 = .ok (.aload_n 2, 1) := by decide +kernel
theorem dL_law_649 : decode cL_law 649 = .ok (.invokevirtual 123, 3) := by decide +kernel
theorem dL_law_652 : decode cL_law 652 = .ok (.iload 5, 2) := by decide +kernel
theorem dL_law_654 : decode cL_law 654 = .ok (.if_icmp .eq 5, 3) := by decide +kernel
theorem dL_law_659 : decode cL_law 659 = .ok (.iload 5, 2) := by decide +kernel
theorem dL_law_661 : decode cL_law 661 = .ok (.ifCond .ne 15, 3) := by decide +kernel
theorem dL_law_676 : decode cL_law 676 = .ok (.goto 1494, 3) := by decide +kernel
theorem dL_law_679 : decode cL_law 679 = .ok (.aload_n 1, 1) := by decide +kernel
theorem dL_law_680 : decode cL_law 680 = .ok (.aload_n 0, 1) := by decide +kernel
theorem dL_law_681 : decode cL_law 681 = .ok (.iload 4, 2) := by decide +kernel
theorem dL_law_683 : decode cL_law 683 = .ok (.iconst 1, 1) := by decide +kernel
theorem dL_law_684 : decode cL_law 684 = .ok (.iadd, 1) := by decide +kernel
theorem dL_law_685 : decode cL_law 685 = .ok (.iaload, 1) := by decide +kernel
theorem dL_law_686 : decode cL_law 686 = .ok (.aload_n 0, 1) := by decide +kernel
theorem dL_law_687 : decode cL_law 687 = .ok (.iload 4, 2) := by decide +kernel
theorem dL_law_689 : decode cL_law 689 = .ok (.iconst 2, 1) := by decide +kernel
theorem dL_law_690 : decode cL_law 690 = .ok (.iadd, 1) := by decide +kernel
theorem dL_law_691 : decode cL_law 691 = .ok (.iaload, 1) := by decide +kernel
theorem dL_law_692 : decode cL_law 692 = .ok (.aload_n 3, 1) := by decide +kernel
theorem dL_law_693 : decode cL_law 693 = .ok (.invokestatic 148, 3) := by decide +kernel
theorem dL_law_696 : decode cL_law 696 = .ok (.istore 5, 2) := by decide +kernel
theorem dL_law_698 : decode cL_law 698 = .ok (.aload_n 2, 1) := by decide +kernel
theorem dL_law_699 : decode cL_law 699 = .ok (.aload_n 0, 1) := by decide +kernel
theorem dL_law_700 : decode cL_law 700 = .ok (.iload 4, 2) := by decide +kernel
theorem dL_law_702 : decode cL_law 702 = .ok (.iconst 1, 1) := by decide +kernel
theorem dL_law_703 : decode cL_law 703 = .ok (.iadd, 1) := by decide +kernel
theorem dL_law_704 : decode cL_law 704 = .ok (.iaload, 1) := by decide +kernel
theorem dL_law_705 : decode cL_law 705 = .ok (.aload_n 0, 1) := by decide +kernel
theorem dL_law_706 : decode cL_law 706 = .ok (.iload 4, 2) := by decide +kernel
theorem dL_law_708 : decode cL_law 708 = .ok (.iconst 2, 1) := by decide +kernel
theorem dL_law_709 : decode cL_law 709 = .ok (.iadd, 1) := by decide +kernel
theorem dL_law_710 : decode cL_law 710 = .ok (.iaload, 1) := by decide +kernel
theorem dL_law_711 : decode cL_law 711 = .ok (.invokevirtual 150, 3) := by decide +kernel
theorem dL_law_714 : decode cL_law 714 = .ok (.istore 6, 2) := by decide +kernel
theorem dL_law_716 : decode cL_law 716 = .ok (.aload_n 2, 1) := by decide +kernel
theorem dL_law_717 : decode cL_law 717 = .ok (.invokevirtual 123, 3) := by decide +kernel
theorem dL_law_720 : decode cL_law 720 = .ok (.iload 5, 2) := by decide +kernel
theorem dL_law_722 : decode cL_law 722 = .ok (.if_icmp .eq 5, 3) := by decide +kernel
theorem dL_law_727 : decode cL_law 727 = .ok (.iload 5, 2) := by decide +kernel
theorem dL_law_729 : decode cL_law 729 = .ok (.ifCond .ne 22, 3) := by decide +kernel
theorem dL_law_751 : decode cL_law 751 = .ok (.goto 1419, 3) := by decide +kernel
theorem dL_law_754 : decode cL_law 754 = .ok (.aload_n 1, 1) := by decide +kernel
theorem dL_law_755 : decode cL_law 755 = .ok (.aload_n 0, 1) := by decide +kernel
theorem dL_law_756 : decode cL_law 756 = .ok (.iload 4, 2) := by decide +kernel
theorem dL_law_758 : decode cL_law 758 = .ok (.iconst 1, 1) := by decide +kernel
theorem dL_law_759 : decode cL_law 759 = .ok (.iadd, 1) := by decide +kernel
theorem dL_law_760 : decode cL_law 760 = .ok (.iaload, 1) := by decide +kernel
theorem dL_law_761 : decode cL_law 761 = .ok (.aload_n 3, 1) := by decide +kernel
theorem dL_law_762 : decode cL_law 762 = .ok (.invokestatic 151, 3) := by decide +kernel
theorem dL_law_765 : decode cL_law 765 = .ok (.istore 5, 2) := by decide +kernel
theorem dL_law_767 : decode cL_law 767 = .ok (.aload_n 2, 1) := by decide +kernel
theorem dL_law_768 : decode cL_law 768 = .ok (.aload_n 0, 1) := by decide +kernel
theorem dL_law_769 : decode cL_law 769 = .ok (.iload 4, 2) := by decide +kernel
theorem dL_law_771 : decode cL_law 771 = .ok (.iconst 1, 1) := by decide +kernel
theorem dL_law_772 : decode cL_law 772 = .ok (.iadd, 1) := by decide +kernel
theorem dL_law_773 : decode cL_law 773 = .ok (.iaload, 1) := by decide +kernel
theorem dL_law_774 : decode cL_law 774 = .ok (.invokevirtual 153, 3) := by decide +kernel
theorem dL_law_777 : decode cL_law 777 = .ok (.istore 6, 2) := by decide +kernel
theorem dL_law_779 : decode cL_law 779 = .ok (.aload_n 2, 1) := by decide +kernel
theorem dL_law_780 : decode cL_law 780 = .ok (.invokevirtual 123, 3) := by decide +kernel
theorem dL_law_783 : decode cL_law 783 = .ok (.iload 5, 2) := by decide +kernel
theorem dL_law_785 : decode cL_law 785 = .ok (.if_icmp .eq 5, 3) := by decide +kernel
theorem dL_law_790 : decode cL_law 790 = .ok (.iload 5, 2) := by decide +kernel
theorem dL_law_792 : decode cL_law 792 = .ok (.ifCond .ne 15, 3) := by decide +kernel
theorem dL_law_807 : decode cL_law 807 = .ok (.goto 1363, 3) := by decide +kernel
theorem dL_law_810 : decode cL_law 810 = .ok (.aload_n 1, 1) := by decide +kernel
theorem dL_law_811 : decode cL_law 811 = .ok (.aload_n 0, 1) := by decide +kernel
theorem dL_law_812 : decode cL_law 812 = .ok (.iload 4, 2) := by decide +kernel
theorem dL_law_814 : decode cL_law 814 = .ok (.iconst 1, 1) := by decide +kernel
theorem dL_law_815 : decode cL_law 815 = .ok (.iadd, 1) := by decide +kernel
theorem dL_law_816 : decode cL_law 816 = .ok (.iaload, 1) := by decide +kernel
theorem dL_law_817 : decode cL_law 817 = .ok (.invokevirtual 154, 3) := by decide +kernel
theorem dL_law_820 : decode cL_law 820 = .ok (.aload_n 2, 1) := by decide +kernel
theorem dL_law_821 : decode cL_law 821 = .ok (.aload_n 0, 1) := by decide +kernel
theorem dL_law_822 : decode cL_law 822 = .ok (.iload 4, 2) := by decide +kernel
theorem dL_law_824 : decode cL_law 824 = .ok (.iconst 1, 1) := by decide +kernel
theorem dL_law_825 : decode cL_law 825 = .ok (.iadd, 1) := by decide +kernel
theorem dL_law_826 : decode cL_law 826 = .ok (.iaload, 1) := by decide +kernel
theorem dL_law_827 : decode cL_law 827 = .ok (.invokevirtual 157, 3) := by decide +kernel
theorem dL_law_830 : decode cL_law 830 = .ok (.if_icmp .eq 1340, 3) := by decide +kernel
theorem dL_law_835 : decode cL_law 835 = .ok (.aload_n 1, 1) := by decide +kernel
theorem dL_law_836 : decode cL_law 836 = .ok (.invokevirtual 158, 3) := by decide +kernel
theorem dL_law_839 : decode cL_law 839 = .ok (.aload_n 2, 1) := by decide +kernel
theorem dL_law_840 : decode cL_law 840 = .ok (.invokevirtual 161, 3) := by decide +kernel
theorem dL_law_843 : decode cL_law 843 = .ok (.if_icmp .eq 1327, 3) := by decide +kernel
theorem dL_law_848 : decode cL_law 848 = .ok (.aload_n 1, 1) := by decide +kernel
theorem dL_law_849 : decode cL_law 849 = .ok (.aload_n 0, 1) := by decide +kernel
theorem dL_law_850 : decode cL_law 850 = .ok (.iload 4, 2) := by decide +kernel
theorem dL_law_852 : decode cL_law 852 = .ok (.iconst 1, 1) := by decide +kernel
theorem dL_law_853 : decode cL_law 853 = .ok (.iadd, 1) := by decide +kernel
theorem dL_law_854 : decode cL_law 854 = .ok (.iaload, 1) := by decide +kernel
theorem dL_law_855 : decode cL_law 855 = .ok (.aload_n 0, 1) := by decide +kernel
theorem dL_law_856 : decode cL_law 856 = .ok (.iload 4, 2) := by decide +kernel
theorem dL_law_858 : decode cL_law 858 = .ok (.iconst 2, 1) := by decide +kernel
theorem dL_law_859 : decode cL_law 859 = .ok (.iadd, 1) := by decide +kernel
theorem dL_law_860 : decode cL_law 860 = .ok (.iaload, 1) := by decide +kernel
theorem dL_law_861 : decode cL_law 861 = .ok (.aload_n 3, 1) := by decide +kernel
theorem dL_law_862 : decode cL_law 862 = .ok (.invokestatic 162, 3) := by decide +kernel
theorem dL_law_865 : decode cL_law 865 = .ok (.istore 5, 2) := by decide +kernel
theorem dL_law_867 : decode cL_law 867 = .ok (.aload_n 2, 1) := by decide +kernel
theorem dL_law_868 : decode cL_law 868 = .ok (.aload_n 0, 1) := by decide +kernel
theorem dL_law_869 : decode cL_law 869 = .ok (.iload 4, 2) := by decide +kernel
theorem dL_law_871 : decode cL_law 871 = .ok (.iconst 1, 1) := by decide +kernel
theorem dL_law_872 : decode cL_law 872 = .ok (.iadd, 1) := by decide +kernel
theorem dL_law_873 : decode cL_law 873 = .ok (.iaload, 1) := by decide +kernel
theorem dL_law_874 : decode cL_law 874 = .ok (.aload_n 0, 1) := by decide +kernel
theorem dL_law_875 : decode cL_law 875 = .ok (.iload 4, 2) := by decide +kernel
theorem dL_law_877 : decode cL_law 877 = .ok (.iconst 2, 1) := by decide +kernel
theorem dL_law_878 : decode cL_law 878 = .ok (.iadd, 1) := by decide +kernel
theorem dL_law_879 : decode cL_law 879 = .ok (.iaload, 1) := by decide +kernel
theorem dL_law_880 : decode cL_law 880 = .ok (.invokevirtual 164, 3) := by decide +kernel
theorem dL_law_883 : decode cL_law 883 = .ok (.istore 6, 2) := by decide +kernel
theorem dL_law_885 : decode cL_law 885 = .ok (.aload_n 2, 1) := by decide +kernel
theorem dL_law_886 : decode cL_law 886 = .ok (.invokevirtual 123, 3) := by decide +kernel
theorem dL_law_889 : decode cL_law 889 = .ok (.iload 5, 2) := by decide +kernel
theorem dL_law_891 : decode cL_law 891 = .ok (.if_icmp .eq 5, 3) := by decide +kernel
theorem dL_law_896 : decode cL_law 896 = .ok (.iload 5, 2) := by decide +kernel
theorem dL_law_898 : decode cL_law 898 = .ok (.ifCond .ne 15, 3) := by decide +kernel
theorem dL_law_913 : decode cL_law 913 = .ok (.goto 1257, 3) := by decide +kernel
theorem dL_law_916 : decode cL_law 916 = .ok (.aload_n 1, 1) := by decide +kernel
theorem dL_law_917 : decode cL_law 917 = .ok (.aload_n 0, 1) := by decide +kernel
theorem dL_law_918 : decode cL_law 918 = .ok (.iload 4, 2) := by decide +kernel
theorem dL_law_920 : decode cL_law 920 = .ok (.iconst 1, 1) := by decide +kernel
theorem dL_law_921 : decode cL_law 921 = .ok (.iadd, 1) := by decide +kernel
theorem dL_law_922 : decode cL_law 922 = .ok (.iaload, 1) := by decide +kernel
theorem dL_law_923 : decode cL_law 923 = .ok (.aload_n 3, 1) := by decide +kernel
theorem dL_law_924 : decode cL_law 924 = .ok (.invokestatic 165, 3) := by decide +kernel
theorem dL_law_927 : decode cL_law 927 = .ok (.istore 5, 2) := by decide +kernel
theorem dL_law_929 : decode cL_law 929 = .ok (.aload_n 2, 1) := by decide +kernel
theorem dL_law_930 : decode cL_law 930 = .ok (.aload_n 0, 1) := by decide +kernel
theorem dL_law_931 : decode cL_law 931 = .ok (.iload 4, 2) := by decide +kernel
theorem dL_law_933 : decode cL_law 933 = .ok (.iconst 1, 1) := by decide +kernel
theorem dL_law_934 : decode cL_law 934 = .ok (.iadd, 1) := by decide +kernel
theorem dL_law_935 : decode cL_law 935 = .ok (.iaload, 1) := by decide +kernel
theorem dL_law_936 : decode cL_law 936 = .ok (.invokevirtual 167, 3) := by decide +kernel
theorem dL_law_939 : decode cL_law 939 = .ok (.lstore 6, 2) := by decide +kernel
theorem dL_law_941 : decode cL_law 941 = .ok (.aload_n 2, 1) := by decide +kernel
theorem dL_law_942 : decode cL_law 942 = .ok (.invokevirtual 123, 3) := by decide +kernel
theorem dL_law_945 : decode cL_law 945 = .ok (.iload 5, 2) := by decide +kernel
theorem dL_law_947 : decode cL_law 947 = .ok (.if_icmp .eq 5, 3) := by decide +kernel
theorem dL_law_952 : decode cL_law 952 = .ok (.iload 5, 2) := by decide +kernel
theorem dL_law_954 : decode cL_law 954 = .ok (.ifCond .ne 14, 3) := by decide +kernel
theorem dL_law_968 : decode cL_law 968 = .ok (.goto 1202, 3) := by decide +kernel
theorem dL_law_971 : decode cL_law 971 = .ok (.aload_n 1, 1) := by decide +kernel
theorem dL_law_972 : decode cL_law 972 = .ok (.aload_n 0, 1) := by decide +kernel
theorem dL_law_973 : decode cL_law 973 = .ok (.iload 4, 2) := by decide +kernel
theorem dL_law_975 : decode cL_law 975 = .ok (.iconst 1, 1) := by decide +kernel
theorem dL_law_976 : decode cL_law 976 = .ok (.iadd, 1) := by decide +kernel
theorem dL_law_977 : decode cL_law 977 = .ok (.iaload, 1) := by decide +kernel
theorem dL_law_978 : decode cL_law 978 = .ok (.aload_n 0, 1) := by decide +kernel
theorem dL_law_979 : decode cL_law 979 = .ok (.iload 4, 2) := by decide +kernel
theorem dL_law_981 : decode cL_law 981 = .ok (.iconst 2, 1) := by decide +kernel
theorem dL_law_982 : decode cL_law 982 = .ok (.iadd, 1) := by decide +kernel
theorem dL_law_983 : decode cL_law 983 = .ok (.iaload, 1) := by decide +kernel
theorem dL_law_984 : decode cL_law 984 = .ok (.aload_n 3, 1) := by decide +kernel
theorem dL_law_985 : decode cL_law 985 = .ok (.invokestatic 168, 3) := by decide +kernel
theorem dL_law_988 : decode cL_law 988 = .ok (.istore 5, 2) := by decide +kernel
theorem dL_law_990 : decode cL_law 990 = .ok (.aload_n 2, 1) := by decide +kernel
theorem dL_law_991 : decode cL_law 991 = .ok (.aload_n 0, 1) := by decide +kernel
theorem dL_law_992 : decode cL_law 992 = .ok (.iload 4, 2) := by decide +kernel
theorem dL_law_994 : decode cL_law 994 = .ok (.iconst 1, 1) := by decide +kernel
theorem dL_law_995 : decode cL_law 995 = .ok (.iadd, 1) := by decide +kernel
theorem dL_law_996 : decode cL_law 996 = .ok (.iaload, 1) := by decide +kernel
theorem dL_law_997 : decode cL_law 997 = .ok (.aload_n 0, 1) := by decide +kernel
theorem dL_law_998 : decode cL_law 998 = .ok (.iload 4, 2) := by decide +kernel
theorem dL_law_1000 : decode cL_law 1000 = .ok (.iconst 2, 1) := by decide +kernel
theorem dL_law_1001 : decode cL_law 1001 = .ok (.iadd, 1) := by decide +kernel
theorem dL_law_1002 : decode cL_law 1002 = .ok (.iaload, 1) := by decide +kernel
theorem dL_law_1003 : decode cL_law 1003 = .ok (.invokevirtual 170, 3) := by decide +kernel
theorem dL_law_1006 : decode cL_law 1006 = .ok (.istore 6, 2) := by decide +kernel
theorem dL_law_1008 : decode cL_law 1008 = .ok (.aload_n 2, 1) := by decide +kernel
theorem dL_law_1009 : decode cL_law 1009 = .ok (.invokevirtual 123, 3) := by decide +kernel
theorem dL_law_1012 : decode cL_law 1012 = .ok (.iload 5, 2) := by decide +kernel
theorem dL_law_1014 : decode cL_law 1014 = .ok (.if_icmp .eq 5, 3) := by decide +kernel
theorem dL_law_1019 : decode cL_law 1019 = .ok (.iload 5, 2) := by decide +kernel
theorem dL_law_1021 : decode cL_law 1021 = .ok (.ifCond .ne 22, 3) := by decide +kernel
theorem dL_law_1043 : decode cL_law 1043 = .ok (.goto 1127, 3) := by decide +kernel
theorem dL_law_1046 : decode cL_law 1046 = .ok (.aload_n 1, 1) := by decide +kernel
theorem dL_law_1047 : decode cL_law 1047 = .ok (.aload_n 0, 1) := by decide +kernel
theorem dL_law_1048 : decode cL_law 1048 = .ok (.iload 4, 2) := by decide +kernel
theorem dL_law_1050 : decode cL_law 1050 = .ok (.iconst 1, 1) := by decide +kernel
theorem dL_law_1051 : decode cL_law 1051 = .ok (.iadd, 1) := by decide +kernel
theorem dL_law_1052 : decode cL_law 1052 = .ok (.iaload, 1) := by decide +kernel
theorem dL_law_1053 : decode cL_law 1053 = .ok (.aload_n 3, 1) := by decide +kernel
theorem dL_law_1054 : decode cL_law 1054 = .ok (.invokestatic 171, 3) := by decide +kernel
theorem dL_law_1057 : decode cL_law 1057 = .ok (.istore 5, 2) := by decide +kernel
theorem dL_law_1059 : decode cL_law 1059 = .ok (.aload_n 2, 1) := by decide +kernel
theorem dL_law_1060 : decode cL_law 1060 = .ok (.aload_n 0, 1) := by decide +kernel
theorem dL_law_1061 : decode cL_law 1061 = .ok (.iload 4, 2) := by decide +kernel
theorem dL_law_1063 : decode cL_law 1063 = .ok (.iconst 1, 1) := by decide +kernel
theorem dL_law_1064 : decode cL_law 1064 = .ok (.iadd, 1) := by decide +kernel
theorem dL_law_1065 : decode cL_law 1065 = .ok (.iaload, 1) := by decide +kernel
theorem dL_law_1066 : decode cL_law 1066 = .ok (.invokevirtual 173, 3) := by decide +kernel
theorem dL_law_1069 : decode cL_law 1069 = .ok (.istore 6, 2) := by decide +kernel
theorem dL_law_1071 : decode cL_law 1071 = .ok (.aload_n 2, 1) := by decide +kernel
theorem dL_law_1072 : decode cL_law 1072 = .ok (.invokevirtual 123, 3) := by decide +kernel
theorem dL_law_1075 : decode cL_law 1075 = .ok (.iload 5, 2) := by decide +kernel
theorem dL_law_1077 : decode cL_law 1077 = .ok (.if_icmp .eq 5, 3) := by decide +kernel
theorem dL_law_1082 : decode cL_law 1082 = .ok (.iload 5, 2) := by decide +kernel
theorem dL_law_1084 : decode cL_law 1084 = .ok (.ifCond .ne 15, 3) := by decide +kernel
theorem dL_law_1099 : decode cL_law 1099 = .ok (.goto 1071, 3) := by decide +kernel
theorem dL_law_1102 : decode cL_law 1102 = .ok (.aload_n 1, 1) := by decide +kernel
theorem dL_law_1103 : decode cL_law 1103 = .ok (.aload_n 0, 1) := by decide +kernel
theorem dL_law_1104 : decode cL_law 1104 = .ok (.iload 4, 2) := by decide +kernel
theorem dL_law_1106 : decode cL_law 1106 = .ok (.iconst 1, 1) := by decide +kernel
theorem dL_law_1107 : decode cL_law 1107 = .ok (.iadd, 1) := by decide +kernel
theorem dL_law_1108 : decode cL_law 1108 = .ok (.iaload, 1) := by decide +kernel
theorem dL_law_1109 : decode cL_law 1109 = .ok (.aload_n 3, 1) := by decide +kernel
theorem dL_law_1110 : decode cL_law 1110 = .ok (.invokestatic 174, 3) := by decide +kernel
theorem dL_law_1113 : decode cL_law 1113 = .ok (.istore 5, 2) := by decide +kernel
theorem dL_law_1115 : decode cL_law 1115 = .ok (.aload_n 2, 1) := by decide +kernel
theorem dL_law_1116 : decode cL_law 1116 = .ok (.aload_n 0, 1) := by decide +kernel
theorem dL_law_1117 : decode cL_law 1117 = .ok (.iload 4, 2) := by decide +kernel
theorem dL_law_1119 : decode cL_law 1119 = .ok (.iconst 1, 1) := by decide +kernel
theorem dL_law_1120 : decode cL_law 1120 = .ok (.iadd, 1) := by decide +kernel
theorem dL_law_1121 : decode cL_law 1121 = .ok (.iaload, 1) := by decide +kernel
theorem dL_law_1122 : decode cL_law 1122 = .ok (.invokevirtual 176, 3) := by decide +kernel
theorem dL_law_1125 : decode cL_law 1125 = .ok (.istore 6, 2) := by decide +kernel
theorem dL_law_1127 : decode cL_law 1127 = .ok (.aload_n 2, 1) := by decide +kernel
theorem dL_law_1128 : decode cL_law 1128 = .ok (.invokevirtual 123, 3) := by decide +kernel
theorem dL_law_1131 : decode cL_law 1131 = .ok (.iload 5, 2) := by decide +kernel
theorem dL_law_1133 : decode cL_law 1133 = .ok (.if_icmp .eq 5, 3) := by decide +kernel
theorem dL_law_1138 : decode cL_law 1138 = .ok (.iload 5, 2) := by decide +kernel
theorem dL_law_1140 : decode cL_law 1140 = .ok (.ifCond .ne 15, 3) := by decide +kernel
theorem dL_law_1155 : decode cL_law 1155 = .ok (.goto 1015, 3) := by decide +kernel
theorem dL_law_1158 : decode cL_law 1158 = .ok (.aload_n 1, 1) := by decide +kernel
theorem dL_law_1159 : decode cL_law 1159 = .ok (.aload_n 0, 1) := by decide +kernel
theorem dL_law_1160 : decode cL_law 1160 = .ok (.iload 4, 2) := by decide +kernel
theorem dL_law_1162 : decode cL_law 1162 = .ok (.iconst 1, 1) := by decide +kernel
theorem dL_law_1163 : decode cL_law 1163 = .ok (.iadd, 1) := by decide +kernel
theorem dL_law_1164 : decode cL_law 1164 = .ok (.iaload, 1) := by decide +kernel
theorem dL_law_1165 : decode cL_law 1165 = .ok (.aload_n 0, 1) := by decide +kernel
theorem dL_law_1166 : decode cL_law 1166 = .ok (.iload 4, 2) := by decide +kernel
theorem dL_law_1168 : decode cL_law 1168 = .ok (.iconst 2, 1) := by decide +kernel
theorem dL_law_1169 : decode cL_law 1169 = .ok (.iadd, 1) := by decide +kernel
theorem dL_law_1170 : decode cL_law 1170 = .ok (.iaload, 1) := by decide +kernel
theorem dL_law_1171 : decode cL_law 1171 = .ok (.aload_n 3, 1) := by decide +kernel
theorem dL_law_1172 : decode cL_law 1172 = .ok (.invokestatic 177, 3) := by decide +kernel
theorem dL_law_1175 : decode cL_law 1175 = .ok (.istore 5, 2) := by decide +kernel
theorem dL_law_1177 : decode cL_law 1177 = .ok (.aload_n 2, 1) := by decide +kernel
theorem dL_law_1178 : decode cL_law 1178 = .ok (.aload_n 0, 1) := by decide +kernel
theorem dL_law_1179 : decode cL_law 1179 = .ok (.iload 4, 2) := by decide +kernel
theorem dL_law_1181 : decode cL_law 1181 = .ok (.iconst 1, 1) := by decide +kernel
theorem dL_law_1182 : decode cL_law 1182 = .ok (.iadd, 1) := by decide +kernel
theorem dL_law_1183 : decode cL_law 1183 = .ok (.iaload, 1) := by decide +kernel
theorem dL_law_1184 : decode cL_law 1184 = .ok (.aload_n 0, 1) := by decide +kernel
theorem dL_law_1185 : decode cL_law 1185 = .ok (.iload 4, 2) := by decide +kernel
theorem dL_law_1187 : decode cL_law 1187 = .ok (.iconst 2, 1) := by decide +kernel
theorem dL_law_1188 : decode cL_law 1188 = .ok (.iadd, 1) := by decide +kernel
theorem dL_law_1189 : decode cL_law 1189 = .ok (.iaload, 1) := by decide +kernel
theorem dL_law_1190 : decode cL_law 1190 = .ok (.invokevirtual 179, 3) := by decide +kernel
theorem dL_law_1193 : decode cL_law 1193 = .ok (.istore 6, 2) := by decide +kernel
theorem dL_law_1195 : decode cL_law 1195 = .ok (.aload_n 2, 1) := by decide +kernel
theorem dL_law_1196 : decode cL_law 1196 = .ok (.invokevirtual 123, 3) := by decide +kernel
theorem dL_law_1199 : decode cL_law 1199 = .ok (.iload 5, 2) := by decide +kernel
theorem dL_law_1201 : decode cL_law 1201 = .ok (.if_icmp .eq 5, 3) := by decide +kernel
theorem dL_law_1206 : decode cL_law 1206 = .ok (.iload 5, 2) := by decide +kernel
theorem dL_law_1208 : decode cL_law 1208 = .ok (.ifCond .ne 22, 3) := by decide +kernel
theorem dL_law_1230 : decode cL_law 1230 = .ok (.goto 940, 3) := by decide +kernel
theorem dL_law_1233 : decode cL_law 1233 = .ok (.aload_n 1, 1) := by decide +kernel
theorem dL_law_1234 : decode cL_law 1234 = .ok (.aload_n 0, 1) := by decide +kernel
theorem dL_law_1235 : decode cL_law 1235 = .ok (.iload 4, 2) := by decide +kernel
theorem dL_law_1237 : decode cL_law 1237 = .ok (.iconst 1, 1) := by decide +kernel
theorem dL_law_1238 : decode cL_law 1238 = .ok (.iadd, 1) := by decide +kernel
theorem dL_law_1239 : decode cL_law 1239 = .ok (.iaload, 1) := by decide +kernel
theorem dL_law_1240 : decode cL_law 1240 = .ok (.aload_n 0, 1) := by decide +kernel
theorem dL_law_1241 : decode cL_law 1241 = .ok (.iload 4, 2) := by decide +kernel
theorem dL_law_1243 : decode cL_law 1243 = .ok (.iconst 2, 1) := by decide +kernel
theorem dL_law_1244 : decode cL_law 1244 = .ok (.iadd, 1) := by decide +kernel
theorem dL_law_1245 : decode cL_law 1245 = .ok (.iaload, 1) := by decide +kernel
theorem dL_law_1246 : decode cL_law 1246 = .ok (.aload_n 0, 1) := by decide +kernel
theorem dL_law_1247 : decode cL_law 1247 = .ok (.iload 4, 2) := by decide +kernel
theorem dL_law_1249 : decode cL_law 1249 = .ok (.iconst 3, 1) := by decide +kernel
theorem dL_law_1250 : decode cL_law 1250 = .ok (.iadd, 1) := by decide +kernel
theorem dL_law_1251 : decode cL_law 1251 = .ok (.iaload, 1) := by decide +kernel
theorem dL_law_1252 : decode cL_law 1252 = .ok (.aload_n 3, 1) := by decide +kernel
theorem dL_law_1253 : decode cL_law 1253 = .ok (.invokestatic 180, 3) := by decide +kernel
theorem dL_law_1256 : decode cL_law 1256 = .ok (.istore 5, 2) := by decide +kernel
theorem dL_law_1258 : decode cL_law 1258 = .ok (.aload_n 2, 1) := by decide +kernel
theorem dL_law_1259 : decode cL_law 1259 = .ok (.aload_n 0, 1) := by decide +kernel
theorem dL_law_1260 : decode cL_law 1260 = .ok (.iload 4, 2) := by decide +kernel
theorem dL_law_1262 : decode cL_law 1262 = .ok (.iconst 1, 1) := by decide +kernel
theorem dL_law_1263 : decode cL_law 1263 = .ok (.iadd, 1) := by decide +kernel
theorem dL_law_1264 : decode cL_law 1264 = .ok (.iaload, 1) := by decide +kernel
theorem dL_law_1265 : decode cL_law 1265 = .ok (.aload_n 0, 1) := by decide +kernel
theorem dL_law_1266 : decode cL_law 1266 = .ok (.iload 4, 2) := by decide +kernel
theorem dL_law_1268 : decode cL_law 1268 = .ok (.iconst 2, 1) := by decide +kernel
theorem dL_law_1269 : decode cL_law 1269 = .ok (.iadd, 1) := by decide +kernel
theorem dL_law_1270 : decode cL_law 1270 = .ok (.iaload, 1) := by decide +kernel
theorem dL_law_1271 : decode cL_law 1271 = .ok (.aload_n 0, 1) := by decide +kernel
theorem dL_law_1272 : decode cL_law 1272 = .ok (.iload 4, 2) := by decide +kernel
theorem dL_law_1274 : decode cL_law 1274 = .ok (.iconst 3, 1) := by decide +kernel
theorem dL_law_1275 : decode cL_law 1275 = .ok (.iadd, 1) := by decide +kernel
theorem dL_law_1276 : decode cL_law 1276 = .ok (.iaload, 1) := by decide +kernel
theorem dL_law_1277 : decode cL_law 1277 = .ok (.invokevirtual 183, 3) := by decide +kernel
theorem dL_law_1280 : decode cL_law 1280 = .ok (.istore 6, 2) := by decide +kernel
theorem dL_law_1282 : decode cL_law 1282 = .ok (.aload_n 2, 1) := by decide +kernel
theorem dL_law_1283 : decode cL_law 1283 = .ok (.invokevirtual 123, 3) := by decide +kernel
theorem dL_law_1286 : decode cL_law 1286 = .ok (.iload 5, 2) := by decide +kernel
theorem dL_law_1288 : decode cL_law 1288 = .ok (.if_icmp .eq 5, 3) := by decide +kernel
theorem dL_law_1293 : decode cL_law 1293 = .ok (.iload 5, 2) := by decide +kernel
theorem dL_law_1295 : decode cL_law 1295 = .ok (.ifCond .ne 15, 3) := by decide +kernel
theorem dL_law_1298 : decode cL_law 1298 = .ok (.aload_n 3, 1) := by decide +kernel
theorem dL_law_1299 : decode cL_law 1299 = .ok (.iconst 0, 1) := by decide +kernel
theorem dL_law_1300 : decode cL_law 1300 = .ok (.laload, 1) := by decide +kernel
theorem dL_law_1301 : decode cL_law 1301 = .ok (.iload 6, 2) := by decide +kernel
theorem dL_law_1303 : decode cL_law 1303 = .ok (.i2l, 1) := by decide +kernel
theorem dL_law_1304 : decode cL_law 1304 = .ok (.lcmp, 1) := by decide +kernel
theorem dL_law_1305 : decode cL_law 1305 = .ok (.ifCond .eq 5, 3) := by decide +kernel
theorem dL_law_1310 : decode cL_law 1310 = .ok (.goto 860, 3) := by decide +kernel
theorem dL_law_1313 : decode cL_law 1313 = .ok (.aload_n 1, 1) := by decide +kernel
theorem dL_law_1314 : decode cL_law 1314 = .ok (.aload_n 0, 1) := by decide +kernel
theorem dL_law_1315 : decode cL_law 1315 = .ok (.iload 4, 2) := by decide +kernel
theorem dL_law_1317 : decode cL_law 1317 = .ok (.iconst 1, 1) := by decide +kernel
theorem dL_law_1318 : decode cL_law 1318 = .ok (.iadd, 1) := by decide +kernel
theorem dL_law_1319 : decode cL_law 1319 = .ok (.iaload, 1) := by decide +kernel
theorem dL_law_1320 : decode cL_law 1320 = .ok (.aload_n 0, 1) := by decide +kernel
theorem dL_law_1321 : decode cL_law 1321 = .ok (.iload 4, 2) := by decide +kernel
theorem dL_law_1323 : decode cL_law 1323 = .ok (.iconst 2, 1) := by decide +kernel
theorem dL_law_1324 : decode cL_law 1324 = .ok (.iadd, 1) := by decide +kernel
theorem dL_law_1325 : decode cL_law 1325 = .ok (.iaload, 1) := by decide +kernel
theorem dL_law_1326 : decode cL_law 1326 = .ok (.aload_n 3, 1) := by decide +kernel
theorem dL_law_1327 : decode cL_law 1327 = .ok (.invokestatic 184, 3) := by decide +kernel
theorem dL_law_1330 : decode cL_law 1330 = .ok (.istore 5, 2) := by decide +kernel
theorem dL_law_1332 : decode cL_law 1332 = .ok (.aload_n 2, 1) := by decide +kernel
theorem dL_law_1333 : decode cL_law 1333 = .ok (.aload_n 0, 1) := by decide +kernel
theorem dL_law_1334 : decode cL_law 1334 = .ok (.iload 4, 2) := by decide +kernel
theorem dL_law_1336 : decode cL_law 1336 = .ok (.iconst 1, 1) := by decide +kernel
theorem dL_law_1337 : decode cL_law 1337 = .ok (.iadd, 1) := by decide +kernel
theorem dL_law_1338 : decode cL_law 1338 = .ok (.iaload, 1) := by decide +kernel
theorem dL_law_1339 : decode cL_law 1339 = .ok (.aload_n 0, 1) := by decide +kernel
theorem dL_law_1340 : decode cL_law 1340 = .ok (.iload 4, 2) := by decide +kernel
theorem dL_law_1342 : decode cL_law 1342 = .ok (.iconst 2, 1) := by decide +kernel
theorem dL_law_1343 : decode cL_law 1343 = .ok (.iadd, 1) := by decide +kernel
theorem dL_law_1344 : decode cL_law 1344 = .ok (.iaload, 1) := by decide +kernel
theorem dL_law_1345 : decode cL_law 1345 = .ok (.invokevirtual 186, 3) := by decide +kernel
theorem dL_law_1348 : decode cL_law 1348 = .ok (.istore 6, 2) := by decide +kernel
theorem dL_law_1350 : decode cL_law 1350 = .ok (.aload_n 2, 1) := by decide +kernel
theorem dL_law_1351 : decode cL_law 1351 = .ok (.invokevirtual 123, 3) := by decide +kernel
theorem dL_law_1354 : decode cL_law 1354 = .ok (.iload 5, 2) := by decide +kernel
theorem dL_law_1356 : decode cL_law 1356 = .ok (.if_icmp .eq 5, 3) := by decide +kernel
theorem dL_law_1361 : decode cL_law 1361 = .ok (.iload 5, 2) := by decide +kernel
theorem dL_law_1363 : decode cL_law 1363 = .ok (.ifCond .ne 15, 3) := by decide +kernel
theorem dL_law_1366 : decode cL_law 1366 = .ok (.aload_n 3, 1) := by decide +kernel
theorem dL_law_1367 : decode cL_law 1367 = .ok (.iconst 0, 1) := by decide +kernel
theorem dL_law_1368 : decode cL_law 1368 = .ok (.laload, 1) := by decide +kernel
theorem dL_law_1369 : decode cL_law 1369 = .ok (.iload 6, 2) := by decide +kernel
theorem dL_law_1371 : decode cL_law 1371 = .ok (.i2l, 1) := by decide +kernel
theorem dL_law_1372 : decode cL_law 1372 = .ok (.lcmp, 1) := by decide +kernel
theorem dL_law_1373 : decode cL_law 1373 = .ok (.ifCond .eq 5, 3) := by decide +kernel
theorem dL_law_1378 : decode cL_law 1378 = .ok (.goto 792, 3) := by decide +kernel
theorem dL_law_1381 : decode cL_law 1381 = .ok (.aload_n 1, 1) := by decide +kernel
theorem dL_law_1382 : decode cL_law 1382 = .ok (.invokevirtual 187, 3) := by decide +kernel
theorem dL_law_1385 : decode cL_law 1385 = .ok (.aload_n 2, 1) := by decide +kernel
theorem dL_law_1386 : decode cL_law 1386 = .ok (.invokevirtual 190, 3) := by decide +kernel
theorem dL_law_1389 : decode cL_law 1389 = .ok (.if_icmp .eq 781, 3) := by decide +kernel
theorem dL_law_1394 : decode cL_law 1394 = .ok (.aload_n 1, 1) := by decide +kernel
theorem dL_law_1395 : decode cL_law 1395 = .ok (.aload_n 0, 1) := by decide +kernel
theorem dL_law_1396 : decode cL_law 1396 = .ok (.iload 4, 2) := by decide +kernel
theorem dL_law_1398 : decode cL_law 1398 = .ok (.iconst 1, 1) := by decide +kernel
theorem dL_law_1399 : decode cL_law 1399 = .ok (.iadd, 1) := by decide +kernel
theorem dL_law_1400 : decode cL_law 1400 = .ok (.iaload, 1) := by decide +kernel
theorem dL_law_1401 : decode cL_law 1401 = .ok (.aload_n 0, 1) := by decide +kernel
theorem dL_law_1402 : decode cL_law 1402 = .ok (.iload 4, 2) := by decide +kernel
theorem dL_law_1404 : decode cL_law 1404 = .ok (.iconst 2, 1) := by decide +kernel
theorem dL_law_1405 : decode cL_law 1405 = .ok (.iadd, 1) := by decide +kernel
theorem dL_law_1406 : decode cL_law 1406 = .ok (.iaload, 1) := by decide +kernel
theorem dL_law_1407 : decode cL_law 1407 = .ok (.aload_n 0, 1) := by decide +kernel
theorem dL_law_1408 : decode cL_law 1408 = .ok (.iload 4, 2) := by decide +kernel
theorem dL_law_1410 : decode cL_law 1410 = .ok (.iconst 3, 1) := by decide +kernel
theorem dL_law_1411 : decode cL_law 1411 = .ok (.iadd, 1) := by decide +kernel
theorem dL_law_1412 : decode cL_law 1412 = .ok (.iaload, 1) := by decide +kernel
theorem dL_law_1413 : decode cL_law 1413 = .ok (.aload_n 3, 1) := by decide +kernel
theorem dL_law_1414 : decode cL_law 1414 = .ok (.invokestatic 191, 3) := by decide +kernel
theorem dL_law_1417 : decode cL_law 1417 = .ok (.istore 5, 2) := by decide +kernel
theorem dL_law_1419 : decode cL_law 1419 = .ok (.aload_n 2, 1) := by decide +kernel
theorem dL_law_1420 : decode cL_law 1420 = .ok (.aload_n 0, 1) := by decide +kernel
theorem dL_law_1421 : decode cL_law 1421 = .ok (.iload 4, 2) := by decide +kernel
theorem dL_law_1423 : decode cL_law 1423 = .ok (.iconst 1, 1) := by decide +kernel
theorem dL_law_1424 : decode cL_law 1424 = .ok (.iadd, 1) := by decide +kernel
theorem dL_law_1425 : decode cL_law 1425 = .ok (.iaload, 1) := by decide +kernel
theorem dL_law_1426 : decode cL_law 1426 = .ok (.aload_n 0, 1) := by decide +kernel
theorem dL_law_1427 : decode cL_law 1427 = .ok (.iload 4, 2) := by decide +kernel
theorem dL_law_1429 : decode cL_law 1429 = .ok (.iconst 2, 1) := by decide +kernel
theorem dL_law_1430 : decode cL_law 1430 = .ok (.iadd, 1) := by decide +kernel
theorem dL_law_1431 : decode cL_law 1431 = .ok (.iaload, 1) := by decide +kernel
theorem dL_law_1432 : decode cL_law 1432 = .ok (.aload_n 0, 1) := by decide +kernel
theorem dL_law_1433 : decode cL_law 1433 = .ok (.iload 4, 2) := by decide +kernel
theorem dL_law_1435 : decode cL_law 1435 = .ok (.iconst 3, 1) := by decide +kernel
theorem dL_law_1436 : decode cL_law 1436 = .ok (.iadd, 1) := by decide +kernel
theorem dL_law_1437 : decode cL_law 1437 = .ok (.iaload, 1) := by decide +kernel
theorem dL_law_1438 : decode cL_law 1438 = .ok (.invokevirtual 193, 3) := by decide +kernel
theorem dL_law_1441 : decode cL_law 1441 = .ok (.istore 6, 2) := by decide +kernel
theorem dL_law_1443 : decode cL_law 1443 = .ok (.aload_n 2, 1) := by decide +kernel
theorem dL_law_1444 : decode cL_law 1444 = .ok (.invokevirtual 123, 3) := by decide +kernel
theorem dL_law_1447 : decode cL_law 1447 = .ok (.iload 5, 2) := by decide +kernel
theorem dL_law_1449 : decode cL_law 1449 = .ok (.if_icmp .eq 5, 3) := by decide +kernel
theorem dL_law_1454 : decode cL_law 1454 = .ok (.iload 5, 2) := by decide +kernel
theorem dL_law_1456 : decode cL_law 1456 = .ok (.ifCond .ne 22, 3) := by decide +kernel
theorem dL_law_1459 : decode cL_law 1459 = .ok (.aload_n 3, 1) := by decide +kernel
theorem dL_law_1460 : decode cL_law 1460 = .ok (.iconst 0, 1) := by decide +kernel
theorem dL_law_1461 : decode cL_law 1461 = .ok (.laload, 1) := by decide +kernel
theorem dL_law_1462 : decode cL_law 1462 = .ok (.iload 6, 2) := by decide +kernel
theorem dL_law_1464 : decode cL_law 1464 = .ok (.ifCond .eq 7, 3) := by decide +kernel
theorem dL_law_1471 : decode cL_law 1471 = .ok (.lconst 0, 1) := by decide +kernel
theorem dL_law_1472 : decode cL_law 1472 = .ok (.lcmp, 1) := by decide +kernel
theorem dL_law_1473 : decode cL_law 1473 = .ok (.ifCond .eq 5, 3) := by decide +kernel
theorem dL_law_1478 : decode cL_law 1478 = .ok (.goto 692, 3) := by decide +kernel
theorem dL_law_1481 : decode cL_law 1481 = .ok (.aload_n 1, 1) := by decide +kernel
theorem dL_law_1482 : decode cL_law 1482 = .ok (.aload_n 0, 1) := by decide +kernel
theorem dL_law_1483 : decode cL_law 1483 = .ok (.iload 4, 2) := by decide +kernel
theorem dL_law_1485 : decode cL_law 1485 = .ok (.iconst 1, 1) := by decide +kernel
theorem dL_law_1486 : decode cL_law 1486 = .ok (.iadd, 1) := by decide +kernel
theorem dL_law_1487 : decode cL_law 1487 = .ok (.iaload, 1) := by decide +kernel
theorem dL_law_1488 : decode cL_law 1488 = .ok (.aload_n 3, 1) := by decide +kernel
theorem dL_law_1489 : decode cL_law 1489 = .ok (.invokestatic 194, 3) := by decide +kernel
theorem dL_law_1492 : decode cL_law 1492 = .ok (.istore 5, 2) := by decide +kernel
theorem dL_law_1494 : decode cL_law 1494 = .ok (.aload_n 2, 1) := by decide +kernel
theorem dL_law_1495 : decode cL_law 1495 = .ok (.aload_n 0, 1) := by decide +kernel
theorem dL_law_1496 : decode cL_law 1496 = .ok (.iload 4, 2) := by decide +kernel
theorem dL_law_1498 : decode cL_law 1498 = .ok (.iconst 1, 1) := by decide +kernel
theorem dL_law_1499 : decode cL_law 1499 = .ok (.iadd, 1) := by decide +kernel
theorem dL_law_1500 : decode cL_law 1500 = .ok (.iaload, 1) := by decide +kernel
theorem dL_law_1501 : decode cL_law 1501 = .ok (.invokevirtual 196, 3) := by decide +kernel
theorem dL_law_1504 : decode cL_law 1504 = .ok (.istore 6, 2) := by decide +kernel
theorem dL_law_1506 : decode cL_law 1506 = .ok (.aload_n 2, 1) := by decide +kernel
theorem dL_law_1507 : decode cL_law 1507 = .ok (.invokevirtual 123, 3) := by decide +kernel
theorem dL_law_1510 : decode cL_law 1510 = .ok (.iload 5, 2) := by decide +kernel
theorem dL_law_1512 : decode cL_law 1512 = .ok (.if_icmp .eq 5, 3) := by decide +kernel
theorem dL_law_1517 : decode cL_law 1517 = .ok (.iload 5, 2) := by decide +kernel
theorem dL_law_1519 : decode cL_law 1519 = .ok (.ifCond .ne 15, 3) := by decide +kernel
theorem dL_law_1522 : decode cL_law 1522 = .ok (.aload_n 3, 1) := by decide +kernel
theorem dL_law_1523 : decode cL_law 1523 = .ok (.iconst 0, 1) := by decide +kernel
theorem dL_law_1524 : decode cL_law 1524 = .ok (.laload, 1) := by decide +kernel
theorem dL_law_1525 : decode cL_law 1525 = .ok (.iload 6, 2) := by decide +kernel
theorem dL_law_1527 : decode cL_law 1527 = .ok (.i2l, 1) := by decide +kernel
theorem dL_law_1528 : decode cL_law 1528 = .ok (.lcmp, 1) := by decide +kernel
theorem dL_law_1529 : decode cL_law 1529 = .ok (.ifCond .eq 5, 3) := by decide +kernel
theorem dL_law_1534 : decode cL_law 1534 = .ok (.goto 636, 3) := by decide +kernel
theorem dL_law_1537 : decode cL_law 1537 = .ok (.aload_n 1, 1) := by decide +kernel
theorem dL_law_1538 : decode cL_law 1538 = .ok (.aload_n 0, 1) := by decide +kernel
theorem dL_law_1539 : decode cL_law 1539 = .ok (.iload 4, 2) := by decide +kernel
theorem dL_law_1541 : decode cL_law 1541 = .ok (.iconst 1, 1) := by decide +kernel
theorem dL_law_1542 : decode cL_law 1542 = .ok (.iadd, 1) := by decide +kernel
theorem dL_law_1543 : decode cL_law 1543 = .ok (.iaload, 1) := by decide +kernel
theorem dL_law_1544 : decode cL_law 1544 = .ok (.aload_n 3, 1) := by decide +kernel
theorem dL_law_1545 : decode cL_law 1545 = .ok (.invokestatic 197, 3) := by decide +kernel
theorem dL_law_1548 : decode cL_law 1548 = .ok (.istore 5, 2) := by decide +kernel
theorem dL_law_1550 : decode cL_law 1550 = .ok (.aload_n 2, 1) := by decide +kernel
theorem dL_law_1551 : decode cL_law 1551 = .ok (.aload_n 0, 1) := by decide +kernel
theorem dL_law_1552 : decode cL_law 1552 = .ok (.iload 4, 2) := by decide +kernel
theorem dL_law_1554 : decode cL_law 1554 = .ok (.iconst 1, 1) := by decide +kernel
theorem dL_law_1555 : decode cL_law 1555 = .ok (.iadd, 1) := by decide +kernel
theorem dL_law_1556 : decode cL_law 1556 = .ok (.iaload, 1) := by decide +kernel
theorem dL_law_1557 : decode cL_law 1557 = .ok (.invokevirtual 199, 3) := by decide +kernel
theorem dL_law_1560 : decode cL_law 1560 = .ok (.istore 6, 2) := by decide +kernel
theorem dL_law_1562 : decode cL_law 1562 = .ok (.aload_n 2, 1) := by decide +kernel
theorem dL_law_1563 : decode cL_law 1563 = .ok (.invokevirtual 123, 3) := by decide +kernel
theorem dL_law_1566 : decode cL_law 1566 = .ok (.iload 5, 2) := by decide +kernel
theorem dL_law_1568 : decode cL_law 1568 = .ok (.if_icmp .eq 5, 3) := by decide +kernel
theorem dL_law_1573 : decode cL_law 1573 = .ok (.iload 5, 2) := by decide +kernel
theorem dL_law_1575 : decode cL_law 1575 = .ok (.ifCond .ne 15, 3) := by decide +kernel
theorem dL_law_1578 : decode cL_law 1578 = .ok (.aload_n 3, 1) := by decide +kernel
theorem dL_law_1579 : decode cL_law 1579 = .ok (.iconst 0, 1) := by decide +kernel
theorem dL_law_1580 : decode cL_law 1580 = .ok (.laload, 1) := by decide +kernel
theorem dL_law_1581 : decode cL_law 1581 = .ok (.iload 6, 2) := by decide +kernel
theorem dL_law_1583 : decode cL_law 1583 = .ok (.i2l, 1) := by decide +kernel
theorem dL_law_1584 : decode cL_law 1584 = .ok (.lcmp, 1) := by decide +kernel
theorem dL_law_1585 : decode cL_law 1585 = .ok (.ifCond .eq 5, 3) := by decide +kernel
theorem dL_law_1590 : decode cL_law 1590 = .ok (.goto 580, 3) := by decide +kernel
theorem dL_law_1593 : decode cL_law 1593 = .ok (.aload_n 1, 1) := by decide +kernel
theorem dL_law_1594 : decode cL_law 1594 = .ok (.invokevirtual 200, 3) := by decide +kernel
theorem dL_law_1597 : decode cL_law 1597 = .ok (.aload_n 2, 1) := by decide +kernel
theorem dL_law_1598 : decode cL_law 1598 = .ok (.invokevirtual 203, 3) := by decide +kernel
theorem dL_law_1601 : decode cL_law 1601 = .ok (.if_icmp .eq 569, 3) := by decide +kernel
theorem dL_law_1606 : decode cL_law 1606 = .ok (.aload_n 1, 1) := by decide +kernel
theorem dL_law_1607 : decode cL_law 1607 = .ok (.aload_n 0, 1) := by decide +kernel
theorem dL_law_1608 : decode cL_law 1608 = .ok (.iload 4, 2) := by decide +kernel
theorem dL_law_1610 : decode cL_law 1610 = .ok (.iconst 1, 1) := by decide +kernel
theorem dL_law_1611 : decode cL_law 1611 = .ok (.iadd, 1) := by decide +kernel
theorem dL_law_1612 : decode cL_law 1612 = .ok (.iaload, 1) := by decide +kernel
theorem dL_law_1613 : decode cL_law 1613 = .ok (.aload_n 3, 1) := by decide +kernel
theorem dL_law_1614 : decode cL_law 1614 = .ok (.invokestatic 204, 3) := by decide +kernel
theorem dL_law_1617 : decode cL_law 1617 = .ok (.istore 5, 2) := by decide +kernel
theorem dL_law_1619 : decode cL_law 1619 = .ok (.aload_n 2, 1) := by decide +kernel
theorem dL_law_1620 : decode cL_law 1620 = .ok (.aload_n 0, 1) := by decide +kernel
theorem dL_law_1621 : decode cL_law 1621 = .ok (.iload 4, 2) := by decide +kernel
theorem dL_law_1623 : decode cL_law 1623 = .ok (.iconst 1, 1) := by decide +kernel
theorem dL_law_1624 : decode cL_law 1624 = .ok (.iadd, 1) := by decide +kernel
theorem dL_law_1625 : decode cL_law 1625 = .ok (.iaload, 1) := by decide +kernel
theorem dL_law_1626 : decode cL_law 1626 = .ok (.invokevirtual 206, 3) := by decide +kernel
theorem dL_law_1629 : decode cL_law 1629 = .ok (.istore 6, 2) := by decide +kernel
theorem dL_law_1631 : decode cL_law 1631 = .ok (.aload_n 2, 1) := by decide +kernel
theorem dL_law_1632 : decode cL_law 1632 = .ok (.invokevirtual 123, 3) := by decide +kernel
theorem dL_law_1635 : decode cL_law 1635 = .ok (.iload 5, 2) := by decide +kernel
theorem dL_law_1637 : decode cL_law 1637 = .ok (.if_icmp .eq 5, 3) := by decide +kernel
theorem dL_law_1642 : decode cL_law 1642 = .ok (.iload 5, 2) := by decide +kernel
theorem dL_law_1644 : decode cL_law 1644 = .ok (.ifCond .ne 15, 3) := by decide +kernel
theorem dL_law_1659 : decode cL_law 1659 = .ok (.goto 511, 3) := by decide +kernel
theorem dL_law_1662 : decode cL_law 1662 = .ok (.aload_n 1, 1) := by decide +kernel
theorem dL_law_1663 : decode cL_law 1663 = .ok (.aload_n 0, 1) := by decide +kernel
theorem dL_law_1664 : decode cL_law 1664 = .ok (.iload 4, 2) := by decide +kernel
theorem dL_law_1666 : decode cL_law 1666 = .ok (.iconst 1, 1) := by decide +kernel
theorem dL_law_1667 : decode cL_law 1667 = .ok (.iadd, 1) := by decide +kernel
theorem dL_law_1668 : decode cL_law 1668 = .ok (.iaload, 1) := by decide +kernel
theorem dL_law_1669 : decode cL_law 1669 = .ok (.aload_n 3, 1) := by decide +kernel
theorem dL_law_1670 : decode cL_law 1670 = .ok (.invokestatic 207, 3) := by decide +kernel
theorem dL_law_1673 : decode cL_law 1673 = .ok (.istore 5, 2) := by decide +kernel
theorem dL_law_1675 : decode cL_law 1675 = .ok (.aload_n 2, 1) := by decide +kernel
theorem dL_law_1676 : decode cL_law 1676 = .ok (.aload_n 0, 1) := by decide +kernel
theorem dL_law_1677 : decode cL_law 1677 = .ok (.iload 4, 2) := by decide +kernel
theorem dL_law_1679 : decode cL_law 1679 = .ok (.iconst 1, 1) := by decide +kernel
theorem dL_law_1680 : decode cL_law 1680 = .ok (.iadd, 1) := by decide +kernel
theorem dL_law_1681 : decode cL_law 1681 = .ok (.iaload, 1) := by decide +kernel
theorem dL_law_1682 : decode cL_law 1682 = .ok (.invokevirtual 209, 3) := by decide +kernel
theorem dL_law_1685 : decode cL_law 1685 = .ok (.istore 6, 2) := by decide +kernel
theorem dL_law_1687 : decode cL_law 1687 = .ok (.aload_n 2, 1) := by decide +kernel
theorem dL_law_1688 : decode cL_law 1688 = .ok (.invokevirtual 123, 3) := by decide +kernel
theorem dL_law_1691 : decode cL_law 1691 = .ok (.iload 5, 2) := by decide +kernel
theorem dL_law_1693 : decode cL_law 1693 = .ok (.if_icmp .eq 5, 3) := by decide +kernel
theorem dL_law_1698 : decode cL_law 1698 = .ok (.iload 5, 2) := by decide +kernel
theorem dL_law_1700 : decode cL_law 1700 = .ok (.ifCond .ne 15, 3) := by decide +kernel
theorem dL_law_1715 : decode cL_law 1715 = .ok (.goto 455, 3) := by decide +kernel
theorem dL_law_1718 : decode cL_law 1718 = .ok (.aload_n 1, 1) := by decide +kernel
theorem dL_law_1719 : decode cL_law 1719 = .ok (.aload_n 0, 1) := by decide +kernel
theorem dL_law_1720 : decode cL_law 1720 = .ok (.iload 4, 2) := by decide +kernel
theorem dL_law_1722 : decode cL_law 1722 = .ok (.iconst 1, 1) := by decide +kernel
theorem dL_law_1723 : decode cL_law 1723 = .ok (.iadd, 1) := by decide +kernel
theorem dL_law_1724 : decode cL_law 1724 = .ok (.iaload, 1) := by decide +kernel
theorem dL_law_1725 : decode cL_law 1725 = .ok (.aload_n 3, 1) := by decide +kernel
theorem dL_law_1726 : decode cL_law 1726 = .ok (.invokestatic 210, 3) := by decide +kernel
theorem dL_law_1729 : decode cL_law 1729 = .ok (.istore 5, 2) := by decide +kernel
theorem dL_law_1731 : decode cL_law 1731 = .ok (.aload_n 2, 1) := by decide +kernel
theorem dL_law_1732 : decode cL_law 1732 = .ok (.aload_n 0, 1) := by decide +kernel
theorem dL_law_1733 : decode cL_law 1733 = .ok (.iload 4, 2) := by decide +kernel
theorem dL_law_1735 : decode cL_law 1735 = .ok (.iconst 1, 1) := by decide +kernel
theorem dL_law_1736 : decode cL_law 1736 = .ok (.iadd, 1) := by decide +kernel
theorem dL_law_1737 : decode cL_law 1737 = .ok (.iaload, 1) := by decide +kernel
theorem dL_law_1738 : decode cL_law 1738 = .ok (.invokevirtual 212, 3) := by decide +kernel
theorem dL_law_1741 : decode cL_law 1741 = .ok (.istore 6, 2) := by decide +kernel
theorem dL_law_1743 : decode cL_law 1743 = .ok (.aload_n 2, 1) := by decide +kernel
theorem dL_law_1744 : decode cL_law 1744 = .ok (.invokevirtual 123, 3) := by decide +kernel
theorem dL_law_1747 : decode cL_law 1747 = .ok (.iload 5, 2) := by decide +kernel
theorem dL_law_1749 : decode cL_law 1749 = .ok (.if_icmp .eq 5, 3) := by decide +kernel
theorem dL_law_1754 : decode cL_law 1754 = .ok (.iload 5, 2) := by decide +kernel
theorem dL_law_1756 : decode cL_law 1756 = .ok (.ifCond .ne 15, 3) := by decide +kernel
theorem dL_law_1771 : decode cL_law 1771 = .ok (.goto 399, 3) := by decide +kernel
theorem dL_law_1774 : decode cL_law 1774 = .ok (.aload_n 1, 1) := by decide +kernel
theorem dL_law_1775 : decode cL_law 1775 = .ok (.aload_n 0, 1) := by decide +kernel
theorem dL_law_1776 : decode cL_law 1776 = .ok (.iload 4, 2) := by decide +kernel
theorem dL_law_1778 : decode cL_law 1778 = .ok (.iconst 1, 1) := by decide +kernel
theorem dL_law_1779 : decode cL_law 1779 = .ok (.iadd, 1) := by decide +kernel
theorem dL_law_1780 : decode cL_law 1780 = .ok (.iaload, 1) := by decide +kernel
theorem dL_law_1781 : decode cL_law 1781 = .ok (.invokevirtual 213, 3) := by decide +kernel
theorem dL_law_1784 : decode cL_law 1784 = .ok (.aload_n 2, 1) := by decide +kernel
theorem dL_law_1785 : decode cL_law 1785 = .ok (.aload_n 0, 1) := by decide +kernel
theorem dL_law_1786 : decode cL_law 1786 = .ok (.iload 4, 2) := by decide +kernel
theorem dL_law_1788 : decode cL_law 1788 = .ok (.iconst 1, 1) := by decide +kernel
theorem dL_law_1789 : decode cL_law 1789 = .ok (.iadd, 1) := by decide +kernel
theorem dL_law_1790 : decode cL_law 1790 = .ok (.iaload, 1) := by decide +kernel
theorem dL_law_1791 : decode cL_law 1791 = .ok (.invokevirtual 216, 3) := by decide +kernel
theorem dL_law_1794 : decode cL_law 1794 = .ok (.if_icmp .eq 376, 3) := by decide +kernel
theorem dL_law_1799 : decode cL_law 1799 = .ok (.aload_n 1, 1) := by decide +kernel
theorem dL_law_1800 : decode cL_law 1800 = .ok (.aload_n 0, 1) := by decide +kernel
theorem dL_law_1801 : decode cL_law 1801 = .ok (.iload 4, 2) := by decide +kernel
theorem dL_law_1803 : decode cL_law 1803 = .ok (.iconst 1, 1) := by decide +kernel
theorem dL_law_1804 : decode cL_law 1804 = .ok (.iadd, 1) := by decide +kernel
theorem dL_law_1805 : decode cL_law 1805 = .ok (.iaload, 1) := by decide +kernel
theorem dL_law_1806 : decode cL_law 1806 = .ok (.aload_n 0, 1) := by decide +kernel
theorem dL_law_1807 : decode cL_law 1807 = .ok (.iload 4, 2) := by decide +kernel
theorem dL_law_1809 : decode cL_law 1809 = .ok (.iconst 2, 1) := by decide +kernel
theorem dL_law_1810 : decode cL_law 1810 = .ok (.iadd, 1) := by decide +kernel
theorem dL_law_1811 : decode cL_law 1811 = .ok (.iaload, 1) := by decide +kernel
theorem dL_law_1812 : decode cL_law 1812 = .ok (.aload_n 3, 1) := by decide +kernel
theorem dL_law_1813 : decode cL_law 1813 = .ok (.invokestatic 217, 3) := by decide +kernel
theorem dL_law_1816 : decode cL_law 1816 = .ok (.istore 5, 2) := by decide +kernel
theorem dL_law_1818 : decode cL_law 1818 = .ok (.aload_n 2, 1) := by decide +kernel
theorem dL_law_1819 : decode cL_law 1819 = .ok (.aload_n 0, 1) := by decide +kernel
theorem dL_law_1820 : decode cL_law 1820 = .ok (.iload 4, 2) := by decide +kernel
theorem dL_law_1822 : decode cL_law 1822 = .ok (.iconst 1, 1) := by decide +kernel
theorem dL_law_1823 : decode cL_law 1823 = .ok (.iadd, 1) := by decide +kernel
theorem dL_law_1824 : decode cL_law 1824 = .ok (.iaload, 1) := by decide +kernel
theorem dL_law_1825 : decode cL_law 1825 = .ok (.aload_n 0, 1) := by decide +kernel
theorem dL_law_1826 : decode cL_law 1826 = .ok (.iload 4, 2) := by decide +kernel
theorem dL_law_1828 : decode cL_law 1828 = .ok (.iconst 2, 1) := by decide +kernel
theorem dL_law_1829 : decode cL_law 1829 = .ok (.iadd, 1) := by decide +kernel
theorem dL_law_1830 : decode cL_law 1830 = .ok (.iaload, 1) := by decide +kernel
theorem dL_law_1831 : decode cL_law 1831 = .ok (.invokevirtual 219, 3) := by decide +kernel
theorem dL_law_1834 : decode cL_law 1834 = .ok (.istore 6, 2) := by decide +kernel
theorem dL_law_1836 : decode cL_law 1836 = .ok (.aload_n 2, 1) := by decide +kernel
theorem dL_law_1837 : decode cL_law 1837 = .ok (.invokevirtual 123, 3) := by decide +kernel
theorem dL_law_1840 : decode cL_law 1840 = .ok (.iload 5, 2) := by decide +kernel
theorem dL_law_1842 : decode cL_law 1842 = .ok (.if_icmp .eq 5, 3) := by decide +kernel
theorem dL_law_1847 : decode cL_law 1847 = .ok (.iload 5, 2) := by decide +kernel
theorem dL_law_1849 : decode cL_law 1849 = .ok (.ifCond .ne 15, 3) := by decide +kernel
theorem dL_law_1864 : decode cL_law 1864 = .ok (.goto 306, 3) := by decide +kernel
theorem dL_law_1867 : decode cL_law 1867 = .ok (.aload_n 1, 1) := by decide +kernel
theorem dL_law_1868 : decode cL_law 1868 = .ok (.aload_n 0, 1) := by decide +kernel
theorem dL_law_1869 : decode cL_law 1869 = .ok (.iload 4, 2) := by decide +kernel
theorem dL_law_1871 : decode cL_law 1871 = .ok (.iconst 1, 1) := by decide +kernel
theorem dL_law_1872 : decode cL_law 1872 = .ok (.iadd, 1) := by decide +kernel
theorem dL_law_1873 : decode cL_law 1873 = .ok (.iaload, 1) := by decide +kernel
theorem dL_law_1874 : decode cL_law 1874 = .ok (.aload_n 3, 1) := by decide +kernel
theorem dL_law_1875 : decode cL_law 1875 = .ok (.invokestatic 220, 3) := by decide +kernel
theorem dL_law_1878 : decode cL_law 1878 = .ok (.istore 5, 2) := by decide +kernel
theorem dL_law_1880 : decode cL_law 1880 = .ok (.aload_n 2, 1) := by decide +kernel
theorem dL_law_1881 : decode cL_law 1881 = .ok (.aload_n 0, 1) := by decide +kernel
theorem dL_law_1882 : decode cL_law 1882 = .ok (.iload 4, 2) := by decide +kernel
theorem dL_law_1884 : decode cL_law 1884 = .ok (.iconst 1, 1) := by decide +kernel
theorem dL_law_1885 : decode cL_law 1885 = .ok (.iadd, 1) := by decide +kernel
theorem dL_law_1886 : decode cL_law 1886 = .ok (.iaload, 1) := by decide +kernel
theorem dL_law_1887 : decode cL_law 1887 = .ok (.invokevirtual 222, 3) := by decide +kernel
theorem dL_law_1890 : decode cL_law 1890 = .ok (.istore 6, 2) := by decide +kernel
theorem dL_law_1892 : decode cL_law 1892 = .ok (.aload_n 2, 1) := by decide +kernel
theorem dL_law_1893 : decode cL_law 1893 = .ok (.invokevirtual 123, 3) := by decide +kernel
theorem dL_law_1896 : decode cL_law 1896 = .ok (.iload 5, 2) := by decide +kernel
theorem dL_law_1898 : decode cL_law 1898 = .ok (.if_icmp .eq 5, 3) := by decide +kernel
theorem dL_law_1903 : decode cL_law 1903 = .ok (.iload 5, 2) := by decide +kernel
theorem dL_law_1905 : decode cL_law 1905 = .ok (.ifCond .ne 15, 3) := by decide +kernel
theorem dL_law_1920 : decode cL_law 1920 = .ok (.goto 250, 3) := by decide +kernel
theorem dL_law_1923 : decode cL_law 1923 = .ok (.aload_n 1, 1) := by decide +kernel
theorem dL_law_1924 : decode cL_law 1924 = .ok (.aload_n 0, 1) := by decide +kernel
theorem dL_law_1925 : decode cL_law 1925 = .ok (.iload 4, 2) := by decide +kernel
theorem dL_law_1927 : decode cL_law 1927 = .ok (.iconst 1, 1) := by decide +kernel
theorem dL_law_1928 : decode cL_law 1928 = .ok (.iadd, 1) := by decide +kernel
theorem dL_law_1929 : decode cL_law 1929 = .ok (.iaload, 1) := by decide +kernel
theorem dL_law_1930 : decode cL_law 1930 = .ok (.ifCond .eq 7, 3) := by decide +kernel
theorem dL_law_1933 : decode cL_law 1933 = .ok (.iconst 1, 1) := by decide +kernel
theorem dL_law_1934 : decode cL_law 1934 = .ok (.goto 4, 3) := by decide +kernel
theorem dL_law_1937 : decode cL_law 1937 = .ok (.iconst 0, 1) := by decide +kernel
theorem dL_law_1938 : decode cL_law 1938 = .ok (.invokevirtual 223, 3) := by decide +kernel
theorem dL_law_1941 : decode cL_law 1941 = .ok (.aload_n 2, 1) := by decide +kernel
theorem dL_law_1942 : decode cL_law 1942 = .ok (.aload_n 0, 1) := by decide +kernel
theorem dL_law_1943 : decode cL_law 1943 = .ok (.iload 4, 2) := by decide +kernel
theorem dL_law_1945 : decode cL_law 1945 = .ok (.iconst 1, 1) := by decide +kernel
theorem dL_law_1946 : decode cL_law 1946 = .ok (.iadd, 1) := by decide +kernel
theorem dL_law_1947 : decode cL_law 1947 = .ok (.iaload, 1) := by decide +kernel
theorem dL_law_1948 : decode cL_law 1948 = .ok (.ifCond .eq 7, 3) := by decide +kernel
theorem dL_law_1951 : decode cL_law 1951 = .ok (.iconst 1, 1) := by decide +kernel
theorem dL_law_1952 : decode cL_law 1952 = .ok (.goto 4, 3) := by decide +kernel
theorem dL_law_1955 : decode cL_law 1955 = .ok (.iconst 0, 1) := by decide +kernel
theorem dL_law_1956 : decode cL_law 1956 = .ok (.invokevirtual 227, 3) := by decide +kernel
theorem dL_law_1959 : decode cL_law 1959 = .ok (.if_icmp .eq 211, 3) := by decide +kernel
theorem dL_law_1964 : decode cL_law 1964 = .ok (.aload_n 1, 1) := by decide +kernel
theorem dL_law_1965 : decode cL_law 1965 = .ok (.aload_n 0, 1) := by decide +kernel
theorem dL_law_1966 : decode cL_law 1966 = .ok (.iload 4, 2) := by decide +kernel
theorem dL_law_1968 : decode cL_law 1968 = .ok (.iconst 1, 1) := by decide +kernel
theorem dL_law_1969 : decode cL_law 1969 = .ok (.iadd, 1) := by decide +kernel
theorem dL_law_1970 : decode cL_law 1970 = .ok (.iaload, 1) := by decide +kernel
theorem dL_law_1971 : decode cL_law 1971 = .ok (.aload_n 3, 1) := by decide +kernel
theorem dL_law_1972 : decode cL_law 1972 = .ok (.invokestatic 228, 3) := by decide +kernel
theorem dL_law_1975 : decode cL_law 1975 = .ok (.istore 5, 2) := by decide +kernel
theorem dL_law_1977 : decode cL_law 1977 = .ok (.aload_n 2, 1) := by decide +kernel
theorem dL_law_1978 : decode cL_law 1978 = .ok (.aload_n 0, 1) := by decide +kernel
theorem dL_law_1979 : decode cL_law 1979 = .ok (.iload 4, 2) := by decide +kernel
theorem dL_law_1981 : decode cL_law 1981 = .ok (.iconst 1, 1) := by decide +kernel
theorem dL_law_1982 : decode cL_law 1982 = .ok (.iadd, 1) := by decide +kernel
theorem dL_law_1983 : decode cL_law 1983 = .ok (.iaload, 1) := by decide +kernel
theorem dL_law_1984 : decode cL_law 1984 = .ok (.invokevirtual 230, 3) := by decide +kernel
theorem dL_law_1987 : decode cL_law 1987 = .ok (.istore 6, 2) := by decide +kernel
theorem dL_law_1989 : decode cL_law 1989 = .ok (.aload_n 2, 1) := by decide +kernel
theorem dL_law_1990 : decode cL_law 1990 = .ok (.invokevirtual 123, 3) := by decide +kernel
theorem dL_law_1993 : decode cL_law 1993 = .ok (.iload 5, 2) := by decide +kernel
theorem dL_law_1995 : decode cL_law 1995 = .ok (.if_icmp .eq 5, 3) := by decide +kernel
theorem dL_law_2000 : decode cL_law 2000 = .ok (.iload 5, 2) := by decide +kernel
theorem dL_law_2002 : decode cL_law 2002 = .ok (.ifCond .ne 15, 3) := by decide +kernel
theorem dL_law_2017 : decode cL_law 2017 = .ok (.goto 153, 3) := by decide +kernel
theorem dL_law_2020 : decode cL_law 2020 = .ok (.aload_n 1, 1) := by decide +kernel
theorem dL_law_2021 : decode cL_law 2021 = .ok (.aload_n 0, 1) := by decide +kernel
theorem dL_law_2022 : decode cL_law 2022 = .ok (.iload 4, 2) := by decide +kernel
theorem dL_law_2024 : decode cL_law 2024 = .ok (.iconst 1, 1) := by decide +kernel
theorem dL_law_2025 : decode cL_law 2025 = .ok (.iadd, 1) := by decide +kernel
theorem dL_law_2026 : decode cL_law 2026 = .ok (.iaload, 1) := by decide +kernel
theorem dL_law_2027 : decode cL_law 2027 = .ok (.ifCond .eq 7, 3) := by decide +kernel
theorem dL_law_2030 : decode cL_law 2030 = .ok (.iconst 1, 1) := by decide +kernel
theorem dL_law_2031 : decode cL_law 2031 = .ok (.goto 4, 3) := by decide +kernel
theorem dL_law_2034 : decode cL_law 2034 = .ok (.iconst 0, 1) := by decide +kernel
theorem dL_law_2035 : decode cL_law 2035 = .ok (.invokevirtual 231, 3) := by decide +kernel
theorem dL_law_2038 : decode cL_law 2038 = .ok (.aload_n 2, 1) := by decide +kernel
theorem dL_law_2039 : decode cL_law 2039 = .ok (.aload_n 0, 1) := by decide +kernel
theorem dL_law_2040 : decode cL_law 2040 = .ok (.iload 4, 2) := by decide +kernel
theorem dL_law_2042 : decode cL_law 2042 = .ok (.iconst 1, 1) := by decide +kernel
theorem dL_law_2043 : decode cL_law 2043 = .ok (.iadd, 1) := by decide +kernel
theorem dL_law_2044 : decode cL_law 2044 = .ok (.iaload, 1) := by decide +kernel
theorem dL_law_2045 : decode cL_law 2045 = .ok (.ifCond .eq 7, 3) := by decide +kernel
theorem dL_law_2048 : decode cL_law 2048 = .ok (.iconst 1, 1) := by decide +kernel
theorem dL_law_2049 : decode cL_law 2049 = .ok (.goto 4, 3) := by decide +kernel
theorem dL_law_2052 : decode cL_law 2052 = .ok (.iconst 0, 1) := by decide +kernel
theorem dL_law_2053 : decode cL_law 2053 = .ok (.invokevirtual 234, 3) := by decide +kernel
theorem dL_law_2056 : decode cL_law 2056 = .ok (.if_icmp .eq 114, 3) := by decide +kernel
theorem dL_law_2061 : decode cL_law 2061 = .ok (.aload_n 1, 1) := by decide +kernel
theorem dL_law_2062 : decode cL_law 2062 = .ok (.aload_n 0, 1) := by decide +kernel
theorem dL_law_2063 : decode cL_law 2063 = .ok (.iload 4, 2) := by decide +kernel
theorem dL_law_2065 : decode cL_law 2065 = .ok (.iconst 1, 1) := by decide +kernel
theorem dL_law_2066 : decode cL_law 2066 = .ok (.iadd, 1) := by decide +kernel
theorem dL_law_2067 : decode cL_law 2067 = .ok (.iaload, 1) := by decide +kernel
theorem dL_law_2068 : decode cL_law 2068 = .ok (.aload_n 0, 1) := by decide +kernel
theorem dL_law_2069 : decode cL_law 2069 = .ok (.iload 4, 2) := by decide +kernel
theorem dL_law_2071 : decode cL_law 2071 = .ok (.iconst 2, 1) := by decide +kernel
theorem dL_law_2072 : decode cL_law 2072 = .ok (.iadd, 1) := by decide +kernel
theorem dL_law_2073 : decode cL_law 2073 = .ok (.iaload, 1) := by decide +kernel
theorem dL_law_2074 : decode cL_law 2074 = .ok (.ifCond .eq 7, 3) := by decide +kernel
theorem dL_law_2077 : decode cL_law 2077 = .ok (.iconst 1, 1) := by decide +kernel
theorem dL_law_2078 : decode cL_law 2078 = .ok (.goto 4, 3) := by decide +kernel
theorem dL_law_2081 : decode cL_law 2081 = .ok (.iconst 0, 1) := by decide +kernel
theorem dL_law_2082 : decode cL_law 2082 = .ok (.aload_n 3, 1) := by decide +kernel
theorem dL_law_2083 : decode cL_law 2083 = .ok (.invokestatic 235, 3) := by decide +kernel
theorem dL_law_2086 : decode cL_law 2086 = .ok (.istore 5, 2) := by decide +kernel
theorem dL_law_2088 : decode cL_law 2088 = .ok (.aload_n 2, 1) := by decide +kernel
theorem dL_law_2089 : decode cL_law 2089 = .ok (.aload_n 0, 1) := by decide +kernel
theorem dL_law_2090 : decode cL_law 2090 = .ok (.iload 4, 2) := by decide +kernel
theorem dL_law_2092 : decode cL_law 2092 = .ok (.iconst 1, 1) := by decide +kernel
theorem dL_law_2093 : decode cL_law 2093 = .ok (.iadd, 1) := by decide +kernel
theorem dL_law_2094 : decode cL_law 2094 = .ok (.iaload, 1) := by decide +kernel
theorem dL_law_2095 : decode cL_law 2095 = .ok (.aload_n 0, 1) := by decide +kernel
theorem dL_law_2096 : decode cL_law 2096 = .ok (.iload 4, 2) := by decide +kernel
theorem dL_law_2098 : decode cL_law 2098 = .ok (.iconst 2, 1) := by decide +kernel
theorem dL_law_2099 : decode cL_law 2099 = .ok (.iadd, 1) := by decide +kernel
theorem dL_law_2100 : decode cL_law 2100 = .ok (.iaload, 1) := by decide +kernel
theorem dL_law_2101 : decode cL_law 2101 = .ok (.ifCond .eq 7, 3) := by decide +kernel
theorem dL_law_2104 : decode cL_law 2104 = .ok (.iconst 1, 1) := by decide +kernel
theorem dL_law_2105 : decode cL_law 2105 = .ok (.goto 4, 3) := by decide +kernel
theorem dL_law_2108 : decode cL_law 2108 = .ok (.iconst 0, 1) := by decide +kernel
theorem dL_law_2109 : decode cL_law 2109 = .ok (.invokevirtual 237, 3) := by decide +kernel
theorem dL_law_2112 : decode cL_law 2112 = .ok (.istore 6, 2) := by decide +kernel
theorem dL_law_2114 : decode cL_law 2114 = .ok (.aload_n 2, 1) := by decide +kernel
theorem dL_law_2115 : decode cL_law 2115 = .ok (.invokevirtual 123, 3) := by decide +kernel
theorem dL_law_2118 : decode cL_law 2118 = .ok (.iload 5, 2) := by decide +kernel
theorem dL_law_2120 : decode cL_law 2120 = .ok (.if_icmp .eq 5, 3) := by decide +kernel
theorem dL_law_2125 : decode cL_law 2125 = .ok (.iload 5, 2) := by decide +kernel
theorem dL_law_2127 : decode cL_law 2127 = .ok (.ifCond .ne 15, 3) := by decide +kernel
theorem dL_law_2130 : decode cL_law 2130 = .ok (.aload_n 3, 1) := by decide +kernel
theorem dL_law_2131 : decode cL_law 2131 = .ok (.iconst 0, 1) := by decide +kernel
theorem dL_law_2132 : decode cL_law 2132 = .ok (.laload, 1) := by decide +kernel
theorem dL_law_2133 : decode cL_law 2133 = .ok (.iload 6, 2) := by decide +kernel
theorem dL_law_2135 : decode cL_law 2135 = .ok (.i2l, 1) := by decide +kernel
theorem dL_law_2136 : decode cL_law 2136 = .ok (.lcmp, 1) := by decide +kernel
theorem dL_law_2137 : decode cL_law 2137 = .ok (.ifCond .eq 5, 3) := by decide +kernel
theorem dL_law_2142 : decode cL_law 2142 = .ok (.goto 28, 3) := by decide +kernel
theorem dL_law_2145 : decode cL_law 2145 = .ok (.aload_n 1, 1) := by decide +kernel
theorem dL_law_2146 : decode cL_law 2146 = .ok (.aload_n 0, 1) := by decide +kernel
theorem dL_law_2147 : decode cL_law 2147 = .ok (.iload 4, 2) := by decide +kernel
theorem dL_law_2149 : decode cL_law 2149 = .ok (.iconst 1, 1) := by decide +kernel
theorem dL_law_2150 : decode cL_law 2150 = .ok (.iadd, 1) := by decide +kernel
theorem dL_law_2151 : decode cL_law 2151 = .ok (.iaload, 1) := by decide +kernel
theorem dL_law_2152 : decode cL_law 2152 = .ok (.invokevirtual 238, 3) := by decide +kernel
theorem dL_law_2155 : decode cL_law 2155 = .ok (.aload_n 2, 1) := by decide +kernel
theorem dL_law_2156 : decode cL_law 2156 = .ok (.aload_n 0, 1) := by decide +kernel
theorem dL_law_2157 : decode cL_law 2157 = .ok (.iload 4, 2) := by decide +kernel
theorem dL_law_2159 : decode cL_law 2159 = .ok (.iconst 1, 1) := by decide +kernel
theorem dL_law_2160 : decode cL_law 2160 = .ok (.iadd, 1) := by decide +kernel
theorem dL_law_2161 : decode cL_law 2161 = .ok (.iaload, 1) := by decide +kernel
theorem dL_law_2162 : decode cL_law 2162 = .ok (.invokevirtual 241, 3) := by decide +kernel
theorem dL_law_2165 : decode cL_law 2165 = .ok (.if_icmp .eq 5, 3) := by decide +kernel
theorem dL_law_2170 : decode cL_law 2170 = .ok (.iinc 4 6, 3) := by decide +kernel
theorem dL_law_2173 : decode cL_law 2173 = .ok (.goto (-2150), 3) := by decide +kernel
theorem dL_law_2176 : decode cL_law 2176 = .ok (.iconst 1, 1) := by decide +kernel
theorem dL_law_2177 : decode cL_law 2177 = .ok (.ireturn, 1) := by decide +kernel
theorem dX12_thrown_0 : decode cX12_thrown 0 = .ok (.aload_n 0, 1) := by decide +kernel
theorem dX12_thrown_1 : decode cX12_thrown 1 = .ok (.getfield 74, 3) := by decide +kernel
theorem dX12_thrown_4 : decode cX12_thrown 4 = .ok (.ireturn, 1) := by decide +kernel
