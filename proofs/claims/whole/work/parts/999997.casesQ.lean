section L7
/-! ===== the law's cases: questions ===== -/
theorem w_L_137 : x_cv RL 137 yX12_count cX12_count 2 (some .int) 12 1 := ⟨⟨_, rfl, rfl⟩, (x_in 1680 (by decide +kernel) rfl), (x_in 1681 (by decide +kernel) rfl), (x_in 1682 (by decide +kernel) rfl), (x_in 90 (by decide +kernel) rfl), (x_in 1683 (by decide +kernel) rfl), by decide, ⟨by decide +kernel, by decide +kernel, by decide +kernel⟩⟩
theorem w_L_141 : x_cv RL 141 yX12_town cX12_town 3 (some .int) 12 2 := ⟨⟨_, rfl, rfl⟩, (x_in 1707 (by decide +kernel) rfl), (x_in 1708 (by decide +kernel) rfl), (x_in 1709 (by decide +kernel) rfl), (x_in 90 (by decide +kernel) rfl), (x_in 1710 (by decide +kernel) rfl), by decide, ⟨by decide +kernel, by decide +kernel, by decide +kernel⟩⟩
theorem w_L_144 : x_cv RL 144 yX12_crate cX12_crate 3 (some .int) 12 2 := ⟨⟨_, rfl, rfl⟩, (x_in 1740 (by decide +kernel) rfl), (x_in 1741 (by decide +kernel) rfl), (x_in 1742 (by decide +kernel) rfl), (x_in 90 (by decide +kernel) rfl), (x_in 1743 (by decide +kernel) rfl), by decide, ⟨by decide +kernel, by decide +kernel, by decide +kernel⟩⟩
theorem w_L_169 : x_cv RL 169 yX12_then cX12_then 4 (some .int) 12 3 := ⟨⟨_, rfl, rfl⟩, (x_in 1807 (by decide +kernel) rfl), (x_in 1808 (by decide +kernel) rfl), (x_in 1809 (by decide +kernel) rfl), (x_in 90 (by decide +kernel) rfl), (x_in 1810 (by decide +kernel) rfl), by decide, ⟨by decide +kernel, by decide +kernel, by decide +kernel⟩⟩
theorem w_L_172 : x_cv RL 172 yX12_even cX12_even 3 (some .int) 12 1 := ⟨⟨_, rfl, rfl⟩, (x_in 1823 (by decide +kernel) rfl), (x_in 1824 (by decide +kernel) rfl), (x_in 1825 (by decide +kernel) rfl), (x_in 90 (by decide +kernel) rfl), (x_in 1826 (by decide +kernel) rfl), by decide, ⟨by decide +kernel, by decide +kernel, by decide +kernel⟩⟩
theorem w_L_175 : x_cv RL 175 yX12_out cX12_out 3 (some .int) 12 1 := ⟨⟨_, rfl, rfl⟩, (x_in 1827 (by decide +kernel) rfl), (x_in 1828 (by decide +kernel) rfl), (x_in 1829 (by decide +kernel) rfl), (x_in 90 (by decide +kernel) rfl), (x_in 1830 (by decide +kernel) rfl), by decide, ⟨by decide +kernel, by decide +kernel, by decide +kernel⟩⟩
theorem w_L_178 : x_cv RL 178 yX12_luckiest cX12_luckiest 4 (some .int) 12 1 := ⟨⟨_, rfl, rfl⟩, (x_in 1831 (by decide +kernel) rfl), (x_in 1832 (by decide +kernel) rfl), (x_in 1833 (by decide +kernel) rfl), (x_in 90 (by decide +kernel) rfl), (x_in 1834 (by decide +kernel) rfl), by decide, ⟨by decide +kernel, by decide +kernel, by decide +kernel⟩⟩
theorem w_L_181 : x_cv RL 181 yX12_far cX12_far 3 (some .int) 12 2 := ⟨⟨_, rfl, rfl⟩, (x_in 1843 (by decide +kernel) rfl), (x_in 1844 (by decide +kernel) rfl), (x_in 1845 (by decide +kernel) rfl), (x_in 90 (by decide +kernel) rfl), (x_in 1846 (by decide +kernel) rfl), by decide, ⟨by decide +kernel, by decide +kernel, by decide +kernel⟩⟩
theorem w_L_184 : x_cv RL 184 yX12_leak cX12_leak 3 (some .int) 12 2 := ⟨⟨_, rfl, rfl⟩, (x_in 1855 (by decide +kernel) rfl), (x_in 1856 (by decide +kernel) rfl), (x_in 1857 (by decide +kernel) rfl), (x_in 90 (by decide +kernel) rfl), (x_in 1858 (by decide +kernel) rfl), by decide, ⟨by decide +kernel, by decide +kernel, by decide +kernel⟩⟩
theorem w_L_187 : x_cv RL 187 yX12_sending cX12_sending 8 (some .int) 12 2 := ⟨⟨_, rfl, rfl⟩, (x_in 1859 (by decide +kernel) rfl), (x_in 1860 (by decide +kernel) rfl), (x_in 1861 (by decide +kernel) rfl), (x_in 90 (by decide +kernel) rfl), (x_in 1862 (by decide +kernel) rfl), by decide, ⟨by decide +kernel, by decide +kernel, by decide +kernel⟩⟩
theorem w_L_190 : x_cv RL 190 yX12_hold cX12_hold 12 (some .int) 12 2 := ⟨⟨_, rfl, rfl⟩, (x_in 1887 (by decide +kernel) rfl), (x_in 1888 (by decide +kernel) rfl), (x_in 1889 (by decide +kernel) rfl), (x_in 90 (by decide +kernel) rfl), (x_in 1890 (by decide +kernel) rfl), by decide, ⟨by decide +kernel, by decide +kernel, by decide +kernel⟩⟩
theorem w_L_194 : x_cv RL 194 yX12_thrower cX12_thrower 8 (some .int) 12 4 := ⟨⟨_, rfl, rfl⟩, (x_in 1899 (by decide +kernel) rfl), (x_in 1900 (by decide +kernel) rfl), (x_in 1901 (by decide +kernel) rfl), (x_in 90 (by decide +kernel) rfl), (x_in 1902 (by decide +kernel) rfl), by decide, ⟨by decide +kernel, by decide +kernel, by decide +kernel⟩⟩
theorem w_L_197 : x_cv RL 197 yX12_stop cX12_stop 11 (some .int) 12 4 := ⟨⟨_, rfl, rfl⟩, (x_in 1906 (by decide +kernel) rfl), (x_in 1907 (by decide +kernel) rfl), (x_in 1908 (by decide +kernel) rfl), (x_in 90 (by decide +kernel) rfl), (x_in 1909 (by decide +kernel) rfl), by decide, ⟨by decide +kernel, by decide +kernel, by decide +kernel⟩⟩
theorem w_L_207 : x_cv RL 207 yX12_opened cX12_opened 5 (some .int) 12 1 := ⟨⟨_, rfl, rfl⟩, (x_in 1918 (by decide +kernel) rfl), (x_in 1919 (by decide +kernel) rfl), (x_in 1920 (by decide +kernel) rfl), (x_in 90 (by decide +kernel) rfl), (x_in 1921 (by decide +kernel) rfl), by decide, ⟨by decide +kernel, by decide +kernel, by decide +kernel⟩⟩
theorem w_L_210 : x_cv RL 210 yX12_next cX12_next 10 (some .int) 12 1 := ⟨⟨_, rfl, rfl⟩, (x_in 1930 (by decide +kernel) rfl), (x_in 1931 (by decide +kernel) rfl), (x_in 1932 (by decide +kernel) rfl), (x_in 90 (by decide +kernel) rfl), (x_in 1933 (by decide +kernel) rfl), by decide, ⟨by decide +kernel, by decide +kernel, by decide +kernel⟩⟩
theorem w_L_213 : x_cv RL 213 yX12_pooled cX12_pooled 4 (some .int) 12 1 := ⟨⟨_, rfl, rfl⟩, (x_in 1938 (by decide +kernel) rfl), (x_in 1939 (by decide +kernel) rfl), (x_in 1940 (by decide +kernel) rfl), (x_in 90 (by decide +kernel) rfl), (x_in 1941 (by decide +kernel) rfl), by decide, ⟨by decide +kernel, by decide +kernel, by decide +kernel⟩⟩
theorem w_L_220 : x_cv RL 220 yX12_game cX12_game 9 (some .int) 12 3 := ⟨⟨_, rfl, rfl⟩, (x_in 1946 (by decide +kernel) rfl), (x_in 1947 (by decide +kernel) rfl), (x_in 1948 (by decide +kernel) rfl), (x_in 90 (by decide +kernel) rfl), (x_in 1949 (by decide +kernel) rfl), by decide, ⟨by decide +kernel, by decide +kernel, by decide +kernel⟩⟩
theorem w_L_223 : x_cv RL 223 yX12_years cX12_years 7 (some .int) 12 3 := ⟨⟨_, rfl, rfl⟩, (x_in 1954 (by decide +kernel) rfl), (x_in 1955 (by decide +kernel) rfl), (x_in 1956 (by decide +kernel) rfl), (x_in 90 (by decide +kernel) rfl), (x_in 1957 (by decide +kernel) rfl), by decide, ⟨by decide +kernel, by decide +kernel, by decide +kernel⟩⟩
theorem w_L_226 : x_cv RL 226 yX12_thief cX12_thief 7 (some .int) 12 2 := ⟨⟨_, rfl, rfl⟩, (x_in 1967 (by decide +kernel) rfl), (x_in 1968 (by decide +kernel) rfl), (x_in 1969 (by decide +kernel) rfl), (x_in 90 (by decide +kernel) rfl), (x_in 1970 (by decide +kernel) rfl), by decide, ⟨by decide +kernel, by decide +kernel, by decide +kernel⟩⟩
theorem w_L_229 : x_cv RL 229 yX12_row cX12_row 6 (some .int) 12 3 := ⟨⟨_, rfl, rfl⟩, (x_in 1867 (by decide +kernel) rfl), (x_in 1868 (by decide +kernel) rfl), (x_in 1869 (by decide +kernel) rfl), (x_in 90 (by decide +kernel) rfl), (x_in 1870 (by decide +kernel) rfl), by decide, ⟨by decide +kernel, by decide +kernel, by decide +kernel⟩⟩
theorem w_L_236 : x_cv RL 236 yX12_bridge cX12_bridge 2 (some .boolean) 12 1 := ⟨⟨_, rfl, rfl⟩, (x_in 1879 (by decide +kernel) rfl), (x_in 1880 (by decide +kernel) rfl), (x_in 1881 (by decide +kernel) rfl), (x_in 90 (by decide +kernel) rfl), (x_in 1882 (by decide +kernel) rfl), by decide, ⟨by decide +kernel, by decide +kernel, by decide +kernel⟩⟩
theorem w_L_239 : x_cv RL 239 yX12_streak cX12_streak 6 (some .int) 12 2 := ⟨⟨_, rfl, rfl⟩, (x_in 1835 (by decide +kernel) rfl), (x_in 1836 (by decide +kernel) rfl), (x_in 1837 (by decide +kernel) rfl), (x_in 90 (by decide +kernel) rfl), (x_in 1838 (by decide +kernel) rfl), by decide, ⟨by decide +kernel, by decide +kernel, by decide +kernel⟩⟩
theorem w_L_242 : x_cv RL 242 yX12_day cX12_day 8 (some .int) 12 2 := ⟨⟨_, rfl, rfl⟩, (x_in 1839 (by decide +kernel) rfl), (x_in 1840 (by decide +kernel) rfl), (x_in 1841 (by decide +kernel) rfl), (x_in 90 (by decide +kernel) rfl), (x_in 1842 (by decide +kernel) rfl), by decide, ⟨by decide +kernel, by decide +kernel, by decide +kernel⟩⟩
theorem w_L_245 : x_cv RL 245 yX12_level cX12_level 6 (some .int) 12 1 := ⟨⟨_, rfl, rfl⟩, (x_in 1975 (by decide +kernel) rfl), (x_in 1976 (by decide +kernel) rfl), (x_in 1977 (by decide +kernel) rfl), (x_in 90 (by decide +kernel) rfl), (x_in 1978 (by decide +kernel) rfl), by decide, ⟨by decide +kernel, by decide +kernel, by decide +kernel⟩⟩
theorem w_L_248 : x_cv RL 248 yX12_lend cX12_lend 4 (some .int) 12 1 := ⟨⟨_, rfl, rfl⟩, (x_in 1983 (by decide +kernel) rfl), (x_in 1984 (by decide +kernel) rfl), (x_in 1985 (by decide +kernel) rfl), (x_in 90 (by decide +kernel) rfl), (x_in 1986 (by decide +kernel) rfl), by decide, ⟨by decide +kernel, by decide +kernel, by decide +kernel⟩⟩
theorem ws_L_135 : x_csh RL 135 yL_count cL_count 4 (some .int) [(0, 9, 12, 18)] 3 := ⟨(x_in 888 (by decide +kernel) rfl), (x_in 889 (by decide +kernel) rfl), (x_in 79 (by decide +kernel) rfl), (x_in 890 (by decide +kernel) rfl), by decide, ⟨by decide +kernel, by decide +kernel, by decide +kernel⟩⟩
theorem ws_L_138 : x_csh RL 138 yL_town cL_town 5 (some .int) [(0, 10, 13, 18)] 4 := ⟨(x_in 926 (by decide +kernel) rfl), (x_in 927 (by decide +kernel) rfl), (x_in 79 (by decide +kernel) rfl), (x_in 928 (by decide +kernel) rfl), by decide, ⟨by decide +kernel, by decide +kernel, by decide +kernel⟩⟩
theorem ws_L_142 : x_csh RL 142 yL_crate cL_crate 5 (some .int) [(0, 10, 13, 18)] 4 := ⟨(x_in 941 (by decide +kernel) rfl), (x_in 942 (by decide +kernel) rfl), (x_in 79 (by decide +kernel) rfl), (x_in 943 (by decide +kernel) rfl), by decide, ⟨by decide +kernel, by decide +kernel, by decide +kernel⟩⟩
theorem ws_L_166 : x_csh RL 166 yL_then cL_then 6 (some .int) [(0, 12, 15, 18), (0, 12, 19, 13)] 5 := ⟨(x_in 996 (by decide +kernel) rfl), (x_in 997 (by decide +kernel) rfl), (x_in 79 (by decide +kernel) rfl), (x_in 998 (by decide +kernel) rfl), by decide, ⟨by decide +kernel, by decide +kernel, by decide +kernel⟩⟩
theorem ws_L_170 : x_csh RL 170 yL_even cL_even 4 (some .int) [(0, 9, 12, 18)] 3 := ⟨(x_in 1012 (by decide +kernel) rfl), (x_in 1013 (by decide +kernel) rfl), (x_in 79 (by decide +kernel) rfl), (x_in 1014 (by decide +kernel) rfl), by decide, ⟨by decide +kernel, by decide +kernel, by decide +kernel⟩⟩
theorem ws_L_173 : x_csh RL 173 yL_out cL_out 4 (some .int) [(0, 9, 12, 18)] 3 := ⟨(x_in 1019 (by decide +kernel) rfl), (x_in 1020 (by decide +kernel) rfl), (x_in 79 (by decide +kernel) rfl), (x_in 1021 (by decide +kernel) rfl), by decide, ⟨by decide +kernel, by decide +kernel, by decide +kernel⟩⟩
theorem ws_L_176 : x_csh RL 176 yL_luckiest cL_luckiest 4 (some .int) [(0, 9, 12, 13)] 3 := ⟨(x_in 1026 (by decide +kernel) rfl), (x_in 1027 (by decide +kernel) rfl), (x_in 79 (by decide +kernel) rfl), (x_in 1028 (by decide +kernel) rfl), by decide, ⟨by decide +kernel, by decide +kernel, by decide +kernel⟩⟩
theorem ws_L_179 : x_csh RL 179 yL_far cL_far 5 (some .int) [(0, 10, 13, 18)] 4 := ⟨(x_in 1033 (by decide +kernel) rfl), (x_in 1034 (by decide +kernel) rfl), (x_in 79 (by decide +kernel) rfl), (x_in 1035 (by decide +kernel) rfl), by decide, ⟨by decide +kernel, by decide +kernel, by decide +kernel⟩⟩
theorem ws_L_182 : x_csh RL 182 yL_leak cL_leak 5 (some .int) [(0, 10, 13, 18)] 4 := ⟨(x_in 1044 (by decide +kernel) rfl), (x_in 1045 (by decide +kernel) rfl), (x_in 79 (by decide +kernel) rfl), (x_in 1046 (by decide +kernel) rfl), by decide, ⟨by decide +kernel, by decide +kernel, by decide +kernel⟩⟩
theorem ws_L_185 : x_csh RL 185 yL_sending cL_sending 5 (some .int) [(0, 10, 13, 18), (0, 10, 17, 13)] 4 := ⟨(x_in 1055 (by decide +kernel) rfl), (x_in 1056 (by decide +kernel) rfl), (x_in 79 (by decide +kernel) rfl), (x_in 1057 (by decide +kernel) rfl), by decide, ⟨by decide +kernel, by decide +kernel, by decide +kernel⟩⟩
theorem ws_L_188 : x_csh RL 188 yL_hold cL_hold 5 (some .int) [(0, 10, 13, 18)] 4 := ⟨(x_in 1075 (by decide +kernel) rfl), (x_in 1076 (by decide +kernel) rfl), (x_in 79 (by decide +kernel) rfl), (x_in 1077 (by decide +kernel) rfl), by decide, ⟨by decide +kernel, by decide +kernel, by decide +kernel⟩⟩
theorem ws_L_191 : x_csh RL 191 yL_thrower cL_thrower 7 (some .int) [(0, 14, 17, 13)] 6 := ⟨(x_in 1107 (by decide +kernel) rfl), (x_in 1108 (by decide +kernel) rfl), (x_in 79 (by decide +kernel) rfl), (x_in 1109 (by decide +kernel) rfl), by decide, ⟨by decide +kernel, by decide +kernel, by decide +kernel⟩⟩
theorem ws_L_195 : x_csh RL 195 yL_stop cL_stop 7 (some .int) [(0, 14, 17, 18), (0, 14, 21, 13)] 6 := ⟨(x_in 1121 (by decide +kernel) rfl), (x_in 1122 (by decide +kernel) rfl), (x_in 79 (by decide +kernel) rfl), (x_in 1123 (by decide +kernel) rfl), by decide, ⟨by decide +kernel, by decide +kernel, by decide +kernel⟩⟩
theorem ws_L_205 : x_csh RL 205 yL_opened cL_opened 4 (some .int) [(0, 9, 12, 18)] 3 := ⟨(x_in 1149 (by decide +kernel) rfl), (x_in 1150 (by decide +kernel) rfl), (x_in 79 (by decide +kernel) rfl), (x_in 1151 (by decide +kernel) rfl), by decide, ⟨by decide +kernel, by decide +kernel, by decide +kernel⟩⟩
theorem ws_L_208 : x_csh RL 208 yL_next cL_next 4 (some .int) [(0, 9, 12, 18)] 3 := ⟨(x_in 1194 (by decide +kernel) rfl), (x_in 1195 (by decide +kernel) rfl), (x_in 79 (by decide +kernel) rfl), (x_in 1196 (by decide +kernel) rfl), by decide, ⟨by decide +kernel, by decide +kernel, by decide +kernel⟩⟩
theorem ws_L_211 : x_csh RL 211 yL_pooled cL_pooled 4 (some .int) [(0, 9, 12, 13)] 3 := ⟨(x_in 1209 (by decide +kernel) rfl), (x_in 1210 (by decide +kernel) rfl), (x_in 79 (by decide +kernel) rfl), (x_in 1211 (by decide +kernel) rfl), by decide, ⟨by decide +kernel, by decide +kernel, by decide +kernel⟩⟩
theorem ws_L_218 : x_csh RL 218 yL_game cL_game 6 (some .int) [(0, 12, 15, 18), (0, 12, 19, 13)] 5 := ⟨(x_in 1220 (by decide +kernel) rfl), (x_in 1221 (by decide +kernel) rfl), (x_in 79 (by decide +kernel) rfl), (x_in 1222 (by decide +kernel) rfl), by decide, ⟨by decide +kernel, by decide +kernel, by decide +kernel⟩⟩
theorem ws_L_221 : x_csh RL 221 yL_years cL_years 6 (some .int) [(0, 12, 15, 18), (0, 12, 19, 13)] 5 := ⟨(x_in 1237 (by decide +kernel) rfl), (x_in 1238 (by decide +kernel) rfl), (x_in 79 (by decide +kernel) rfl), (x_in 1239 (by decide +kernel) rfl), by decide, ⟨by decide +kernel, by decide +kernel, by decide +kernel⟩⟩
theorem ws_L_224 : x_csh RL 224 yL_thief cL_thief 5 (some .int) [(0, 10, 13, 18), (0, 10, 17, 13)] 4 := ⟨(x_in 1258 (by decide +kernel) rfl), (x_in 1259 (by decide +kernel) rfl), (x_in 79 (by decide +kernel) rfl), (x_in 1260 (by decide +kernel) rfl), by decide, ⟨by decide +kernel, by decide +kernel, by decide +kernel⟩⟩
theorem ws_L_227 : x_csh RL 227 yL_row cL_row 6 (some .int) [(0, 12, 15, 18)] 5 := ⟨(x_in 1272 (by decide +kernel) rfl), (x_in 1273 (by decide +kernel) rfl), (x_in 79 (by decide +kernel) rfl), (x_in 1274 (by decide +kernel) rfl), by decide, ⟨by decide +kernel, by decide +kernel, by decide +kernel⟩⟩
theorem ws_L_234 : x_csh RL 234 yL_bridge cL_bridge 4 (some .int) [(0, 16, 19, 18)] 3 := ⟨(x_in 1289 (by decide +kernel) rfl), (x_in 1290 (by decide +kernel) rfl), (x_in 79 (by decide +kernel) rfl), (x_in 1291 (by decide +kernel) rfl), by decide, ⟨by decide +kernel, by decide +kernel, by decide +kernel⟩⟩
theorem ws_L_237 : x_csh RL 237 yL_streak cL_streak 5 (some .int) [(0, 10, 13, 18), (0, 10, 17, 13)] 4 := ⟨(x_in 1300 (by decide +kernel) rfl), (x_in 1301 (by decide +kernel) rfl), (x_in 79 (by decide +kernel) rfl), (x_in 1302 (by decide +kernel) rfl), by decide, ⟨by decide +kernel, by decide +kernel, by decide +kernel⟩⟩
theorem ws_L_240 : x_csh RL 240 yL_day cL_day 5 (some .int) [(0, 10, 13, 18), (0, 10, 17, 13)] 4 := ⟨(x_in 1308 (by decide +kernel) rfl), (x_in 1309 (by decide +kernel) rfl), (x_in 79 (by decide +kernel) rfl), (x_in 1310 (by decide +kernel) rfl), by decide, ⟨by decide +kernel, by decide +kernel, by decide +kernel⟩⟩
theorem ws_L_243 : x_csh RL 243 yL_level cL_level 4 (some .int) [(0, 9, 12, 18)] 3 := ⟨(x_in 1316 (by decide +kernel) rfl), (x_in 1317 (by decide +kernel) rfl), (x_in 79 (by decide +kernel) rfl), (x_in 1318 (by decide +kernel) rfl), by decide, ⟨by decide +kernel, by decide +kernel, by decide +kernel⟩⟩
theorem ws_L_246 : x_csh RL 246 yL_lend cL_lend 4 (some .int) [(0, 9, 12, 18)] 3 := ⟨(x_in 1330 (by decide +kernel) rfl), (x_in 1331 (by decide +kernel) rfl), (x_in 79 (by decide +kernel) rfl), (x_in 1332 (by decide +kernel) rfl), by decide, ⟨by decide +kernel, by decide +kernel, by decide +kernel⟩⟩
theorem x_slz {X : xC} {l : Launch} {nm : String} {hh : List (Nat × Nat × Nat × Nat)} {pc : Nat} {L : List (Option Value)} {st : List Value} {k n : Nat} {g : Bool} {N : Nat} {sh : xS} {D : xM} {z : Int} (hd : decode cL_law pc = .ok (.iaload, 1)) (h0 : 0 ≤ z) (h1 : z < xsl X) (h2 : xsl X ≤ 3072) (kk : x_W (zL X l nm hh) (pc + 1) L (.int (xI (xsv X z)) :: st) k n g N sh D) : x_W (zL X l nm hh) pc L (.int (xI z) :: .ref (xsc X) :: st) k n g N sh D := x_sld (Z := zL X l nm hh) hd h0 h1 h2 kk
theorem q_tailB {X : xC} {l : Launch} {nm : String} {hh : List (Nat × Nat × Nat × Nat)} (hl : l.stackTraces = false) {sh : xS} {d3 : xM} {la lb T C W : Nat} {G : Ldt} {L : List (Int → Int)} {S : List (Int × Int × Int)} (hJ : jq sh d3 la lb T C W G L S) {q : x_O} (hO : (∃ z : Int, (z = 0 ∨ z = 1) ∧ q = o_i z) ∨ q = .inr x_NSE) (h0 : d3 62 0 = m_k 1 q) (h96 : ∀ z, q = o_i z → d3 96 0 = x_Il z) {i : Int} {k n : Nat} (hk : k ≤ 601024) (hn : n ≤ 7293034) (hK : Kn X l nm hh i k n) {r : Nat} {go : Int}
    (e0 : decode cL_law r = .ok (.istore 6, 2)) (e1 : decode cL_law (r + 2) = .ok (.aload_n 2, 1)) (e2 : decode cL_law (r + 2 + 1) = .ok (.invokevirtual 127, 3)) (e3 : decode cL_law (r + 2 + 1 + 3) = .ok (.iload 5, 2)) (e4 : decode cL_law (r + 2 + 1 + 3 + 2) = .ok (.if_icmp .eq 5, 3)) (e5 : decode cL_law (r + 13) = .ok (.iload 5, 2)) (e6 : decode cL_law (r + 13 + 2) = .ok (.ifCond .ne 22, 3)) (e7 : decode cL_law (r + 13 + 2 + 3) = .ok (.aload_n 3, 1)) (e8 : decode cL_law (r + 13 + 2 + 3 + 1) = .ok (.iconst 0, 1)) (e9 : decode cL_law (r + 13 + 2 + 3 + 1 + 1) = .ok (.laload, 1)) (e10 : decode cL_law (r + 13 + 2 + 3 + 1 + 1 + 1) = .ok (.iload 6, 2)) (e11 : decode cL_law (r + 13 + 2 + 3 + 1 + 1 + 1 + 2) = .ok (.ifCond .eq 7, 3)) (e12 : decode cL_law (r + 13 + 2 + 3 + 1 + 1 + 1 + 2 + 3) = .ok (.lconst 1, 1)) (e13 : decode cL_law (r + 13 + 2 + 3 + 1 + 1 + 1 + 2 + 3 + 1) = .ok (.goto 4, 3)) (e14 : decode cL_law (r + 30) = .ok (.lconst 0, 1)) (e15 : decode cL_law (r + 31) = .ok (.lcmp, 1)) (e16 : decode cL_law (r + 31 + 1) = .ok (.ifCond .eq 5, 3)) (e17 : decode cL_law (r + 37) = .ok (.goto go, 3)) (hgo : ((r + 37 : Nat) : Int) + go = (2520 : Nat)) :
    x_W (zL X l nm hh) r [some (.ref (xsc X)), some (.ref (x_b X + 0)), some (.ref (x_b X + 62)), some (.ref (x_b X + 96)), some (.int (xI i)), some (.int (xI (m_k 1 q))), none] [.int (xI (m_v q))] k n false 97 sh d3 := by
  have hMd := hJ.2.1.1
  have s62 := md_62 hMd
  have ht := m_thrown (X := X) (l := l) hl hMd (D := d3)
  rw [h0] at ht
  have g37 : ∀ f g : Option Value, x_W (zL X l nm hh) (r + 37) [some (.ref (xsc X)), some (.ref (x_b X + 0)), some (.ref (x_b X + 62)), some (.ref (x_b X + 96)), some (.int (xI i)), f, g] [] k n false 97 sh d3 := by
    intro f g
    refine x_goto (t := 2520) e17 hgo ?_
    exact x_lcl ls_fg (hK _ _ _ _ _ _ _ _ _ _ hJ)
  refine x_istore e0 (Nat.le_of_ble_eq_true rfl) rfl x_set_7_6 ?_
  refine x_aload_n e1 x_get_7_2 ?_
  refine x_callV (As := []) e2 w_L_127 ht (by decide) s62 rfl rfl (Nat.le_of_ble_eq_true rfl) (Nat.le_of_ble_eq_true rfl) (Nat.le_of_ble_eq_true rfl) (show k + 0 ≤ 601024 from hk) (show n + 0 ≤ 7293034 from hn) ?_
  intro d hd
  obtain rfl := Eq.symm hd
  refine x_iload e3 x_get_7_5 ?_
  refine x_icmp_eq (t := r + 13) e4 (by omega) (fun _ => ?_) (fun h => absurd rfl h)
  refine x_iload e5 x_get_7_5 ?_
  rcases hO with ⟨z, hz, rfl⟩ | rfl
  · have h9 := h96 z rfl
    refine x_if_ne (t := r + 37) e6 (by omega) (fun _ => g37 _ _) (fun _ => ?_)
    refine x_aload_n e7 x_get_7_3 ?_
    refine x_iconst e8 ?_
    refine x_lald e9 (by decide) hJ.2.2.1 (by decide) (by decide) (by decide) ?_
    refine x_iload e10 x_get_7_6 ?_
    rw [h9]
    rcases hz with rfl | rfl
    · refine x_if_eq (t := r + 30) e11 (by omega) (fun _ => ?_) (fun h => absurd (by decide) h)
      refine x_lconst (z := 0) e14 rfl ?_
      refine x_lcmp e15 ?_
      rw [show x_lc (x_Il 0) 0 = 0 by decide]
      exact x_if_eq (t := r + 37) e16 (by omega) (fun _ => g37 _ _) (fun h => absurd x_n0 h)
    · refine x_if_eq (t := r + 30) e11 (by omega) (fun h => absurd h (by decide)) (fun _ => ?_)
      refine x_lconst (z := 1) e12 rfl ?_
      refine x_goto (t := r + 31) e13 (by omega) ?_
      refine x_lcmp e15 ?_
      rw [show x_lc (x_Il 1) 1 = 0 by decide]
      exact x_if_eq (t := r + 37) e16 (by omega) (fun _ => g37 _ _) (fun h => absurd x_n0 h)
  · refine x_if_ne (t := r + 37) e6 (by omega) (fun _ => g37 _ _) (fun h => absurd h ?_)
    rw [m_k_N]
    decide
set_option maxHeartbeats 2000000 in
theorem lc_count {X : xC} {l : Launch} {nm : String} {hh : List (Nat × Nat × Nat × Nat)} (hl : l.stackTraces = false) {sh : xS} {D : xM} {la lb T C W : Nat} {G : Ldt} {L : List (Int → Int)} {S : List (Int × Int × Int)} (h : jq sh D la lb T C W G L S) {i : Int} {k n : Nat} (hi0 : 0 ≤ i) (hi : i + 6 ≤ xsl X) (hs : xsl X ≤ 3072) (hk : k + 1 ≤ 601024) (hn : n + 6 ≤ 7293034) (hK : Kn X l nm hh i (k + 1) (n + 6)) : x_W (zL X l nm hh) 362 [some (.ref (xsc X)), some (.ref (x_b X + 0)), some (.ref (x_b X + 62)), some (.ref (x_b X + 96)), some (.int (xI i)), none, none] [] k n false 97 sh D := by
  have hll := jq_ll h
  have hq := h.1
  have s0 := h.1.1.2.1
  have hMd := h.2.1.1
  have s62 := md_62 hMd
  have so := h.2.2.1
  have hrow : k_row T C (D 34) := h.1.2.2.2.1
  obtain ⟨hsk, hsB⟩ := row_B hrow
  have hT : T ≤ 8 := h.2.1.2.2.1
  have hC : C ≤ 10 := h.2.1.2.2.2.2.2.2.1
  have hc := c11_count (X := X) (l := l) hl hq (w := (xsv X (i + 1))) xsv_r
  obtain ⟨q, hqe⟩ : ∃ q, q = q_count T C W (D 34) (D 37 2) (D 39 3) (D 0 1) (D 61 0) (D 61 1) (D 61 2) (xsv X (i + 1)) := ⟨_, rfl⟩
  rw [← hqe] at hc
  have hO : o_okN q := by rw [hqe]; exact ok_count (G := G)
  have hw := wr_count hl (by decide) s0 so hO hc
  refine x_aload_n dL_law_362 x_get_7_1 ?_
  refine x_aload_n dL_law_363 x_get_7_0 ?_
  refine x_iload dL_law_364 x_get_7_4 ?_
  refine x_iconst dL_law_366 ?_
  refine x_iadd dL_law_367 ?_
  refine x_slz dL_law_368 (by omega) (by omega) hs ?_
  refine x_aload_n dL_law_369 x_get_7_3 ?_
  refine x_callSH (As := [_, _, _]) dL_law_370 ws_L_135 hw rfl rfl (Nat.le_of_ble_eq_true rfl) (Nat.le_of_ble_eq_true rfl) (Nat.le_of_ble_eq_true rfl) hk hn ?_
  rintro _ ⟨d1, hd1, rfl⟩
  obtain ⟨m1, m2, m3, m4, m5, m6, m7, m8, m9⟩ := jq_out (q := q) h (sc_62 (by omega) hd1)
  have hm := m_count (X := X) (l := l) hl m1 hsk hsB m2 m3 (w := (xsv X (i + 1))) xsv_r
  rw [m7, m8, eq_count h, ← hqe] at hm
  refine x_istore dL_law_373 (Nat.le_of_ble_eq_true rfl) rfl x_set_7_5 ?_
  refine x_aload_n dL_law_375 x_get_7_2 ?_
  refine x_aload_n dL_law_376 x_get_7_0 ?_
  refine x_iload dL_law_377 x_get_7_4 ?_
  refine x_iconst dL_law_379 ?_
  refine x_iadd dL_law_380 ?_
  refine x_slz dL_law_381 (by omega) (by omega) hs ?_
  refine x_callV (As := [_]) dL_law_382 w_L_137 hm (by decide) s62 rfl rfl (Nat.le_of_ble_eq_true rfl) (Nat.le_of_ble_eq_true rfl) (Nat.le_of_ble_eq_true rfl) (show _ + 0 ≤ 601024 from hk) (show _ + 0 ≤ 7293034 from hn) ?_
  rintro d3 ⟨hms, h0⟩
  exact q_tail hl (jq_ask h hd1 hms) (o_B_N hO) (Or.inl rfl) h0 (fun z hz => by rw [hms.1 96 (by decide) (by decide) (by decide) (by decide) (by decide), hz]; exact outw_96) hk hn hK dL_law_385 dL_law_387 dL_law_388 dL_law_391 dL_law_393 dL_law_398 dL_law_400 dL_law_403 dL_law_404 dL_law_405 dL_law_406 dL_law_408 dL_law_409 dL_law_410 dL_law_415 (by decide)
set_option maxHeartbeats 2000000 in
theorem lc_town {X : xC} {l : Launch} {nm : String} {hh : List (Nat × Nat × Nat × Nat)} (hl : l.stackTraces = false) {sh : xS} {D : xM} {la lb T C W : Nat} {G : Ldt} {L : List (Int → Int)} {S : List (Int × Int × Int)} (h : jq sh D la lb T C W G L S) {i : Int} {k n : Nat} (hi0 : 0 ≤ i) (hi : i + 6 ≤ xsl X) (hs : xsl X ≤ 3072) (hk : k + 1 ≤ 601024) (hn : n + 6 ≤ 7293034) (hK : Kn X l nm hh i (k + 1) (n + 6)) : x_W (zL X l nm hh) 418 [some (.ref (xsc X)), some (.ref (x_b X + 0)), some (.ref (x_b X + 62)), some (.ref (x_b X + 96)), some (.int (xI i)), none, none] [] k n false 97 sh D := by
  have hll := jq_ll h
  have hq := h.1
  have s0 := h.1.1.2.1
  have hMd := h.2.1.1
  have s62 := md_62 hMd
  have so := h.2.2.1
  have hrow : k_row T C (D 34) := h.1.2.2.2.1
  obtain ⟨hsk, hsB⟩ := row_B hrow
  have hT : T ≤ 8 := h.2.1.2.2.1
  have hC : C ≤ 10 := h.2.1.2.2.2.2.2.2.1
  have hc := c11_town (X := X) (l := l) hl hq (t := (xsv X (i + 1))) (w := (xsv X (i + 2))) xsv_r xsv_r
  obtain ⟨q, hqe⟩ : ∃ q, q = q_town T C G (D 34) (xsv X (i + 1)) (xsv X (i + 2)) := ⟨_, rfl⟩
  rw [← hqe] at hc
  have hO : o_okN q := by rw [hqe]; exact ok_town (W := W)
  have hw := wr_town hl (by decide) s0 so hO hc
  refine x_aload_n dL_law_418 x_get_7_1 ?_
  refine x_aload_n dL_law_419 x_get_7_0 ?_
  refine x_iload dL_law_420 x_get_7_4 ?_
  refine x_iconst dL_law_422 ?_
  refine x_iadd dL_law_423 ?_
  refine x_slz dL_law_424 (by omega) (by omega) hs ?_
  refine x_aload_n dL_law_425 x_get_7_0 ?_
  refine x_iload dL_law_426 x_get_7_4 ?_
  refine x_iconst dL_law_428 ?_
  refine x_iadd dL_law_429 ?_
  refine x_slz dL_law_430 (by omega) (by omega) hs ?_
  refine x_aload_n dL_law_431 x_get_7_3 ?_
  refine x_callSH (As := [_, _, _, _]) dL_law_432 ws_L_138 hw rfl rfl (Nat.le_of_ble_eq_true rfl) (Nat.le_of_ble_eq_true rfl) (Nat.le_of_ble_eq_true rfl) hk hn ?_
  rintro _ ⟨d1, hd1, rfl⟩
  obtain ⟨m1, m2, m3, m4, m5, m6, m7, m8, m9⟩ := jq_out (q := q) h (sc_62 (by omega) hd1)
  have hm := m_town (X := X) (l := l) hl m1 hsk hsB m2 m3 (t := (xsv X (i + 1))) (w := (xsv X (i + 2))) xsv_r xsv_r
  rw [← hqe] at hm
  refine x_istore dL_law_435 (Nat.le_of_ble_eq_true rfl) rfl x_set_7_5 ?_
  refine x_aload_n dL_law_437 x_get_7_2 ?_
  refine x_aload_n dL_law_438 x_get_7_0 ?_
  refine x_iload dL_law_439 x_get_7_4 ?_
  refine x_iconst dL_law_441 ?_
  refine x_iadd dL_law_442 ?_
  refine x_slz dL_law_443 (by omega) (by omega) hs ?_
  refine x_aload_n dL_law_444 x_get_7_0 ?_
  refine x_iload dL_law_445 x_get_7_4 ?_
  refine x_iconst dL_law_447 ?_
  refine x_iadd dL_law_448 ?_
  refine x_slz dL_law_449 (by omega) (by omega) hs ?_
  refine x_callV (As := [_, _]) dL_law_450 w_L_141 hm (by decide) s62 rfl rfl (Nat.le_of_ble_eq_true rfl) (Nat.le_of_ble_eq_true rfl) (Nat.le_of_ble_eq_true rfl) (show _ + 0 ≤ 601024 from hk) (show _ + 0 ≤ 7293034 from hn) ?_
  rintro d3 ⟨hms, h0⟩
  exact q_tail hl (jq_ask h hd1 hms) (o_B_N hO) (Or.inl rfl) h0 (fun z hz => by rw [hms.1 96 (by decide) (by decide) (by decide) (by decide) (by decide), hz]; exact outw_96) hk hn hK dL_law_453 dL_law_455 dL_law_456 dL_law_459 dL_law_461 dL_law_466 dL_law_468 dL_law_471 dL_law_472 dL_law_473 dL_law_474 dL_law_476 dL_law_477 dL_law_478 dL_law_483 (by decide)
set_option maxHeartbeats 2000000 in
theorem lc_crate {X : xC} {l : Launch} {nm : String} {hh : List (Nat × Nat × Nat × Nat)} (hl : l.stackTraces = false) {sh : xS} {D : xM} {la lb T C W : Nat} {G : Ldt} {L : List (Int → Int)} {S : List (Int × Int × Int)} (h : jq sh D la lb T C W G L S) {i : Int} {k n : Nat} (hi0 : 0 ≤ i) (hi : i + 6 ≤ xsl X) (hs : xsl X ≤ 3072) (hk : k + 1 ≤ 601024) (hn : n + 6 ≤ 7293034) (hK : Kn X l nm hh i (k + 1) (n + 6)) : x_W (zL X l nm hh) 486 [some (.ref (xsc X)), some (.ref (x_b X + 0)), some (.ref (x_b X + 62)), some (.ref (x_b X + 96)), some (.int (xI i)), none, none] [] k n false 97 sh D := by
  have hll := jq_ll h
  have hq := h.1
  have s0 := h.1.1.2.1
  have hMd := h.2.1.1
  have s62 := md_62 hMd
  have so := h.2.2.1
  have hrow : k_row T C (D 34) := h.1.2.2.2.1
  obtain ⟨hsk, hsB⟩ := row_B hrow
  have hT : T ≤ 8 := h.2.1.2.2.1
  have hC : C ≤ 10 := h.2.1.2.2.2.2.2.2.1
  have hc := c11_crate (X := X) (l := l) hl hq (t := (xsv X (i + 1))) (w := (xsv X (i + 2))) xsv_r xsv_r
  obtain ⟨q, hqe⟩ : ∃ q, q = q_crate C (D 34) (xsv X (i + 1)) (xsv X (i + 2)) := ⟨_, rfl⟩
  rw [← hqe] at hc
  have hO : o_okN q := by rw [hqe]; exact ok_crate (T := T) (W := W) (G := G)
  have hw := wr_crate hl (by decide) s0 so hO hc
  refine x_aload_n dL_law_486 x_get_7_1 ?_
  refine x_aload_n dL_law_487 x_get_7_0 ?_
  refine x_iload dL_law_488 x_get_7_4 ?_
  refine x_iconst dL_law_490 ?_
  refine x_iadd dL_law_491 ?_
  refine x_slz dL_law_492 (by omega) (by omega) hs ?_
  refine x_aload_n dL_law_493 x_get_7_0 ?_
  refine x_iload dL_law_494 x_get_7_4 ?_
  refine x_iconst dL_law_496 ?_
  refine x_iadd dL_law_497 ?_
  refine x_slz dL_law_498 (by omega) (by omega) hs ?_
  refine x_aload_n dL_law_499 x_get_7_3 ?_
  refine x_callSH (As := [_, _, _, _]) dL_law_500 ws_L_142 hw rfl rfl (Nat.le_of_ble_eq_true rfl) (Nat.le_of_ble_eq_true rfl) (Nat.le_of_ble_eq_true rfl) hk hn ?_
  rintro _ ⟨d1, hd1, rfl⟩
  obtain ⟨m1, m2, m3, m4, m5, m6, m7, m8, m9⟩ := jq_out (q := q) h (sc_62 (by omega) hd1)
  have hm := m_crate (X := X) (l := l) hl m1 hsk hsB m2 m3 (c := (xsv X (i + 1))) (w := (xsv X (i + 2))) xsv_r xsv_r
  rw [← hqe] at hm
  refine x_istore dL_law_503 (Nat.le_of_ble_eq_true rfl) rfl x_set_7_5 ?_
  refine x_aload_n dL_law_505 x_get_7_2 ?_
  refine x_aload_n dL_law_506 x_get_7_0 ?_
  refine x_iload dL_law_507 x_get_7_4 ?_
  refine x_iconst dL_law_509 ?_
  refine x_iadd dL_law_510 ?_
  refine x_slz dL_law_511 (by omega) (by omega) hs ?_
  refine x_aload_n dL_law_512 x_get_7_0 ?_
  refine x_iload dL_law_513 x_get_7_4 ?_
  refine x_iconst dL_law_515 ?_
  refine x_iadd dL_law_516 ?_
  refine x_slz dL_law_517 (by omega) (by omega) hs ?_
  refine x_callV (As := [_, _]) dL_law_518 w_L_144 hm (by decide) s62 rfl rfl (Nat.le_of_ble_eq_true rfl) (Nat.le_of_ble_eq_true rfl) (Nat.le_of_ble_eq_true rfl) (show _ + 0 ≤ 601024 from hk) (show _ + 0 ≤ 7293034 from hn) ?_
  rintro d3 ⟨hms, h0⟩
  exact q_tail hl (jq_ask h hd1 hms) (o_B_N hO) (Or.inl rfl) h0 (fun z hz => by rw [hms.1 96 (by decide) (by decide) (by decide) (by decide) (by decide), hz]; exact outw_96) hk hn hK dL_law_521 dL_law_523 dL_law_524 dL_law_527 dL_law_529 dL_law_534 dL_law_536 dL_law_539 dL_law_540 dL_law_541 dL_law_542 dL_law_544 dL_law_545 dL_law_546 dL_law_551 (by decide)
set_option maxHeartbeats 2000000 in
theorem lc_then {X : xC} {l : Launch} {nm : String} {hh : List (Nat × Nat × Nat × Nat)} (hl : l.stackTraces = false) {sh : xS} {D : xM} {la lb T C W : Nat} {G : Ldt} {L : List (Int → Int)} {S : List (Int × Int × Int)} (h : jq sh D la lb T C W G L S) {i : Int} {k n : Nat} (hi0 : 0 ≤ i) (hi : i + 6 ≤ xsl X) (hs : xsl X ≤ 3072) (hk : k + 1 ≤ 601024) (hn : n + 6 ≤ 7293034) (hK : Kn X l nm hh i (k + 1) (n + 6)) : x_W (zL X l nm hh) 875 [some (.ref (xsc X)), some (.ref (x_b X + 0)), some (.ref (x_b X + 62)), some (.ref (x_b X + 96)), some (.int (xI i)), none, none] [] k n false 97 sh D := by
  have hll := jq_ll h
  have hq := h.1
  have s0 := h.1.1.2.1
  have hMd := h.2.1.1
  have s62 := md_62 hMd
  have so := h.2.2.1
  have hrow : k_row T C (D 34) := h.1.2.2.2.1
  obtain ⟨hsk, hsB⟩ := row_B hrow
  have hT : T ≤ 8 := h.2.1.2.2.1
  have hC : C ≤ 10 := h.2.1.2.2.2.2.2.2.1
  have hc := c11_then (X := X) (l := l) hl hq (t := (xsv X (i + 1))) (n := (xsv X (i + 2))) (w := (xsv X (i + 3))) xsv_r xsv_r xsv_r
  obtain ⟨q, hqe⟩ : ∃ q, q = q_then T C G (D 34) (xsv X (i + 1)) (xsv X (i + 2)) (xsv X (i + 3)) := ⟨_, rfl⟩
  rw [← hqe] at hc
  have hO : o_okB q := by rw [hqe]; exact ok_then (W := W)
  have hw := wr_then hl (by decide) s0 so hO hc
  refine x_aload_n dL_law_875 x_get_7_1 ?_
  refine x_aload_n dL_law_876 x_get_7_0 ?_
  refine x_iload dL_law_877 x_get_7_4 ?_
  refine x_iconst dL_law_879 ?_
  refine x_iadd dL_law_880 ?_
  refine x_slz dL_law_881 (by omega) (by omega) hs ?_
  refine x_aload_n dL_law_882 x_get_7_0 ?_
  refine x_iload dL_law_883 x_get_7_4 ?_
  refine x_iconst dL_law_885 ?_
  refine x_iadd dL_law_886 ?_
  refine x_slz dL_law_887 (by omega) (by omega) hs ?_
  refine x_aload_n dL_law_888 x_get_7_0 ?_
  refine x_iload dL_law_889 x_get_7_4 ?_
  refine x_iconst dL_law_891 ?_
  refine x_iadd dL_law_892 ?_
  refine x_slz dL_law_893 (by omega) (by omega) hs ?_
  refine x_aload_n dL_law_894 x_get_7_3 ?_
  refine x_callSH (As := [_, _, _, _, _]) dL_law_895 ws_L_166 hw rfl rfl (Nat.le_of_ble_eq_true rfl) (Nat.le_of_ble_eq_true rfl) (Nat.le_of_ble_eq_true rfl) hk hn ?_
  rintro _ ⟨d1, hd1, rfl⟩
  obtain ⟨m1, m2, m3, m4, m5, m6, m7, m8, m9⟩ := jq_out (q := q) h (sc_62 (by omega) hd1)
  have hm := m_then (X := X) (l := l) hl m1 hsk hsB m2 m3 (t := (xsv X (i + 1))) (n := (xsv X (i + 2))) (w := (xsv X (i + 3))) xsv_r xsv_r xsv_r
  rw [← hqe] at hm
  refine x_istore dL_law_898 (Nat.le_of_ble_eq_true rfl) rfl x_set_7_5 ?_
  refine x_aload_n dL_law_900 x_get_7_2 ?_
  refine x_aload_n dL_law_901 x_get_7_0 ?_
  refine x_iload dL_law_902 x_get_7_4 ?_
  refine x_iconst dL_law_904 ?_
  refine x_iadd dL_law_905 ?_
  refine x_slz dL_law_906 (by omega) (by omega) hs ?_
  refine x_aload_n dL_law_907 x_get_7_0 ?_
  refine x_iload dL_law_908 x_get_7_4 ?_
  refine x_iconst dL_law_910 ?_
  refine x_iadd dL_law_911 ?_
  refine x_slz dL_law_912 (by omega) (by omega) hs ?_
  refine x_aload_n dL_law_913 x_get_7_0 ?_
  refine x_iload dL_law_914 x_get_7_4 ?_
  refine x_iconst dL_law_916 ?_
  refine x_iadd dL_law_917 ?_
  refine x_slz dL_law_918 (by omega) (by omega) hs ?_
  refine x_callV (As := [_, _, _]) dL_law_919 w_L_169 hm (by decide) s62 rfl rfl (Nat.le_of_ble_eq_true rfl) (Nat.le_of_ble_eq_true rfl) (Nat.le_of_ble_eq_true rfl) (show _ + 0 ≤ 601024 from hk) (show _ + 0 ≤ 7293034 from hn) ?_
  rintro d3 ⟨hms, h0⟩
  exact q_tail hl (jq_ask h hd1 hms) hO (Or.inr rfl) h0 (fun z hz => by rw [hms.1 96 (by decide) (by decide) (by decide) (by decide) (by decide), hz]; exact outw_96) hk hn hK dL_law_922 dL_law_924 dL_law_925 dL_law_928 dL_law_930 dL_law_935 dL_law_937 dL_law_940 dL_law_941 dL_law_942 dL_law_943 dL_law_945 dL_law_946 dL_law_947 dL_law_952 (by decide)
set_option maxHeartbeats 2000000 in
theorem lc_even {X : xC} {l : Launch} {nm : String} {hh : List (Nat × Nat × Nat × Nat)} (hl : l.stackTraces = false) {sh : xS} {D : xM} {la lb T C W : Nat} {G : Ldt} {L : List (Int → Int)} {S : List (Int × Int × Int)} (h : jq sh D la lb T C W G L S) {i : Int} {k n : Nat} (hi0 : 0 ≤ i) (hi : i + 6 ≤ xsl X) (hs : xsl X ≤ 3072) (hk : k + 1 ≤ 601024) (hn : n + 6 ≤ 7293034) (hK : Kn X l nm hh i (k + 1) (n + 6)) : x_W (zL X l nm hh) 955 [some (.ref (xsc X)), some (.ref (x_b X + 0)), some (.ref (x_b X + 62)), some (.ref (x_b X + 96)), some (.int (xI i)), none, none] [] k n false 97 sh D := by
  have hll := jq_ll h
  have hq := h.1
  have s0 := h.1.1.2.1
  have hMd := h.2.1.1
  have s62 := md_62 hMd
  have so := h.2.2.1
  have hrow : k_row T C (D 34) := h.1.2.2.2.1
  obtain ⟨hsk, hsB⟩ := row_B hrow
  have hT : T ≤ 8 := h.2.1.2.2.1
  have hC : C ≤ 10 := h.2.1.2.2.2.2.2.2.1
  have hc := c11_even (X := X) (l := l) hl hq (t := (xsv X (i + 1))) xsv_r
  obtain ⟨q, hqe⟩ : ∃ q, q = q_even T C G (D 34) (xsv X (i + 1)) := ⟨_, rfl⟩
  rw [← hqe] at hc
  have hO : o_okN q := by rw [hqe]; exact ok_even (W := W)
  have hw := wr_even hl (by decide) s0 so hO hc
  refine x_aload_n dL_law_955 x_get_7_1 ?_
  refine x_aload_n dL_law_956 x_get_7_0 ?_
  refine x_iload dL_law_957 x_get_7_4 ?_
  refine x_iconst dL_law_959 ?_
  refine x_iadd dL_law_960 ?_
  refine x_slz dL_law_961 (by omega) (by omega) hs ?_
  refine x_aload_n dL_law_962 x_get_7_3 ?_
  refine x_callSH (As := [_, _, _]) dL_law_963 ws_L_170 hw rfl rfl (Nat.le_of_ble_eq_true rfl) (Nat.le_of_ble_eq_true rfl) (Nat.le_of_ble_eq_true rfl) hk hn ?_
  rintro _ ⟨d1, hd1, rfl⟩
  obtain ⟨m1, m2, m3, m4, m5, m6, m7, m8, m9⟩ := jq_out (q := q) h (sc_62 (by omega) hd1)
  have hm := m_even (X := X) (l := l) hl m1 hsk hsB m2 m3 (t := (xsv X (i + 1))) xsv_r
  rw [← hqe] at hm
  refine x_istore dL_law_966 (Nat.le_of_ble_eq_true rfl) rfl x_set_7_5 ?_
  refine x_aload_n dL_law_968 x_get_7_2 ?_
  refine x_aload_n dL_law_969 x_get_7_0 ?_
  refine x_iload dL_law_970 x_get_7_4 ?_
  refine x_iconst dL_law_972 ?_
  refine x_iadd dL_law_973 ?_
  refine x_slz dL_law_974 (by omega) (by omega) hs ?_
  refine x_callV (As := [_]) dL_law_975 w_L_172 hm (by decide) s62 rfl rfl (Nat.le_of_ble_eq_true rfl) (Nat.le_of_ble_eq_true rfl) (Nat.le_of_ble_eq_true rfl) (show _ + 0 ≤ 601024 from hk) (show _ + 0 ≤ 7293034 from hn) ?_
  rintro d3 ⟨hms, h0⟩
  exact q_tail hl (jq_ask h hd1 hms) (o_B_N hO) (Or.inl rfl) h0 (fun z hz => by rw [hms.1 96 (by decide) (by decide) (by decide) (by decide) (by decide), hz]; exact outw_96) hk hn hK dL_law_978 dL_law_980 dL_law_981 dL_law_984 dL_law_986 dL_law_991 dL_law_993 dL_law_996 dL_law_997 dL_law_998 dL_law_999 dL_law_1001 dL_law_1002 dL_law_1003 dL_law_1008 (by decide)
set_option maxHeartbeats 2000000 in
theorem lc_out {X : xC} {l : Launch} {nm : String} {hh : List (Nat × Nat × Nat × Nat)} (hl : l.stackTraces = false) {sh : xS} {D : xM} {la lb T C W : Nat} {G : Ldt} {L : List (Int → Int)} {S : List (Int × Int × Int)} (h : jq sh D la lb T C W G L S) {i : Int} {k n : Nat} (hi0 : 0 ≤ i) (hi : i + 6 ≤ xsl X) (hs : xsl X ≤ 3072) (hk : k + 1 ≤ 601024) (hn : n + 6 ≤ 7293034) (hK : Kn X l nm hh i (k + 1) (n + 6)) : x_W (zL X l nm hh) 1011 [some (.ref (xsc X)), some (.ref (x_b X + 0)), some (.ref (x_b X + 62)), some (.ref (x_b X + 96)), some (.int (xI i)), none, none] [] k n false 97 sh D := by
  have hll := jq_ll h
  have hq := h.1
  have s0 := h.1.1.2.1
  have hMd := h.2.1.1
  have s62 := md_62 hMd
  have so := h.2.2.1
  have hrow : k_row T C (D 34) := h.1.2.2.2.1
  obtain ⟨hsk, hsB⟩ := row_B hrow
  have hT : T ≤ 8 := h.2.1.2.2.1
  have hC : C ≤ 10 := h.2.1.2.2.2.2.2.2.1
  have hc := c11_out (X := X) (l := l) hl hq (t := (xsv X (i + 1))) xsv_r
  obtain ⟨q, hqe⟩ : ∃ q, q = q_out T C G (D 34) (xsv X (i + 1)) := ⟨_, rfl⟩
  rw [← hqe] at hc
  have hO : o_okN q := by rw [hqe]; exact ok_out (W := W)
  have hw := wr_out hl (by decide) s0 so hO hc
  refine x_aload_n dL_law_1011 x_get_7_1 ?_
  refine x_aload_n dL_law_1012 x_get_7_0 ?_
  refine x_iload dL_law_1013 x_get_7_4 ?_
  refine x_iconst dL_law_1015 ?_
  refine x_iadd dL_law_1016 ?_
  refine x_slz dL_law_1017 (by omega) (by omega) hs ?_
  refine x_aload_n dL_law_1018 x_get_7_3 ?_
  refine x_callSH (As := [_, _, _]) dL_law_1019 ws_L_173 hw rfl rfl (Nat.le_of_ble_eq_true rfl) (Nat.le_of_ble_eq_true rfl) (Nat.le_of_ble_eq_true rfl) hk hn ?_
  rintro _ ⟨d1, hd1, rfl⟩
  obtain ⟨m1, m2, m3, m4, m5, m6, m7, m8, m9⟩ := jq_out (q := q) h (sc_62 (by omega) hd1)
  have hm := m_out (X := X) (l := l) hl m1 hsk hsB m2 m3 (t := (xsv X (i + 1))) xsv_r
  rw [← hqe] at hm
  refine x_istore dL_law_1022 (Nat.le_of_ble_eq_true rfl) rfl x_set_7_5 ?_
  refine x_aload_n dL_law_1024 x_get_7_2 ?_
  refine x_aload_n dL_law_1025 x_get_7_0 ?_
  refine x_iload dL_law_1026 x_get_7_4 ?_
  refine x_iconst dL_law_1028 ?_
  refine x_iadd dL_law_1029 ?_
  refine x_slz dL_law_1030 (by omega) (by omega) hs ?_
  refine x_callV (As := [_]) dL_law_1031 w_L_175 hm (by decide) s62 rfl rfl (Nat.le_of_ble_eq_true rfl) (Nat.le_of_ble_eq_true rfl) (Nat.le_of_ble_eq_true rfl) (show _ + 0 ≤ 601024 from hk) (show _ + 0 ≤ 7293034 from hn) ?_
  rintro d3 ⟨hms, h0⟩
  exact q_tail hl (jq_ask h hd1 hms) (o_B_N hO) (Or.inl rfl) h0 (fun z hz => by rw [hms.1 96 (by decide) (by decide) (by decide) (by decide) (by decide), hz]; exact outw_96) hk hn hK dL_law_1034 dL_law_1036 dL_law_1037 dL_law_1040 dL_law_1042 dL_law_1047 dL_law_1049 dL_law_1052 dL_law_1053 dL_law_1054 dL_law_1055 dL_law_1057 dL_law_1058 dL_law_1059 dL_law_1064 (by decide)
set_option maxHeartbeats 2000000 in
theorem lc_luckiest {X : xC} {l : Launch} {nm : String} {hh : List (Nat × Nat × Nat × Nat)} (hl : l.stackTraces = false) {sh : xS} {D : xM} {la lb T C W : Nat} {G : Ldt} {L : List (Int → Int)} {S : List (Int × Int × Int)} (h : jq sh D la lb T C W G L S) {i : Int} {k n : Nat} (hi0 : 0 ≤ i) (hi : i + 6 ≤ xsl X) (hs : xsl X ≤ 3072) (hk : k + 1 ≤ 601024) (hn : n + 6 ≤ 7293034) (hK : Kn X l nm hh i (k + 1) (n + 6)) : x_W (zL X l nm hh) 1067 [some (.ref (xsc X)), some (.ref (x_b X + 0)), some (.ref (x_b X + 62)), some (.ref (x_b X + 96)), some (.int (xI i)), none, none] [] k n false 97 sh D := by
  have hll := jq_ll h
  have hq := h.1
  have s0 := h.1.1.2.1
  have hMd := h.2.1.1
  have s62 := md_62 hMd
  have so := h.2.2.1
  have hrow : k_row T C (D 34) := h.1.2.2.2.1
  obtain ⟨hsk, hsB⟩ := row_B hrow
  have hT : T ≤ 8 := h.2.1.2.2.1
  have hC : C ≤ 10 := h.2.1.2.2.2.2.2.2.1
  have hc := c11_lucky (X := X) (l := l) hl hq (n := (xsv X (i + 1))) xsv_r
  obtain ⟨q, hqe⟩ : ∃ q, q = q_lucky T C G (D 34) (xsv X (i + 1)) := ⟨_, rfl⟩
  rw [← hqe] at hc
  have hO : o_okI q := by rw [hqe]; exact ok_lucky (W := W)
  have hw := wr_luckiest hl (by decide) s0 so hO hc
  refine x_aload_n dL_law_1067 x_get_7_1 ?_
  refine x_aload_n dL_law_1068 x_get_7_0 ?_
  refine x_iload dL_law_1069 x_get_7_4 ?_
  refine x_iconst dL_law_1071 ?_
  refine x_iadd dL_law_1072 ?_
  refine x_slz dL_law_1073 (by omega) (by omega) hs ?_
  refine x_aload_n dL_law_1074 x_get_7_3 ?_
  refine x_callSH (As := [_, _, _]) dL_law_1075 ws_L_176 hw rfl rfl (Nat.le_of_ble_eq_true rfl) (Nat.le_of_ble_eq_true rfl) (Nat.le_of_ble_eq_true rfl) hk hn ?_
  rintro _ ⟨d1, hd1, rfl⟩
  obtain ⟨m1, m2, m3, m4, m5, m6, m7, m8, m9⟩ := jq_out (q := q) h (sc_62 (by omega) hd1)
  have hm := m_lucky (X := X) (l := l) hl m1 hsk hsB m2 m3 (n := (xsv X (i + 1))) xsv_r
  rw [← hqe] at hm
  refine x_istore dL_law_1078 (Nat.le_of_ble_eq_true rfl) rfl x_set_7_5 ?_
  refine x_aload_n dL_law_1080 x_get_7_2 ?_
  refine x_aload_n dL_law_1081 x_get_7_0 ?_
  refine x_iload dL_law_1082 x_get_7_4 ?_
  refine x_iconst dL_law_1084 ?_
  refine x_iadd dL_law_1085 ?_
  refine x_slz dL_law_1086 (by omega) (by omega) hs ?_
  refine x_callV (As := [_]) dL_law_1087 w_L_178 hm (by decide) s62 rfl rfl (Nat.le_of_ble_eq_true rfl) (Nat.le_of_ble_eq_true rfl) (Nat.le_of_ble_eq_true rfl) (show _ + 0 ≤ 601024 from hk) (show _ + 0 ≤ 7293034 from hn) ?_
  rintro d3 ⟨hms, h0⟩
  exact q_tail hl (jq_ask h hd1 hms) (o_B_I hO) (Or.inl rfl) h0 (fun z hz => by rw [hms.1 96 (by decide) (by decide) (by decide) (by decide) (by decide), hz]; exact outw_96) hk hn hK dL_law_1090 dL_law_1092 dL_law_1093 dL_law_1096 dL_law_1098 dL_law_1103 dL_law_1105 dL_law_1108 dL_law_1109 dL_law_1110 dL_law_1111 dL_law_1113 dL_law_1114 dL_law_1115 dL_law_1120 (by decide)
set_option maxHeartbeats 2000000 in
theorem lc_far {X : xC} {l : Launch} {nm : String} {hh : List (Nat × Nat × Nat × Nat)} (hl : l.stackTraces = false) {sh : xS} {D : xM} {la lb T C W : Nat} {G : Ldt} {L : List (Int → Int)} {S : List (Int × Int × Int)} (h : jq sh D la lb T C W G L S) {i : Int} {k n : Nat} (hi0 : 0 ≤ i) (hi : i + 6 ≤ xsl X) (hs : xsl X ≤ 3072) (hk : k + 1 ≤ 601024) (hn : n + 6 ≤ 7293034) (hK : Kn X l nm hh i (k + 1) (n + 6)) : x_W (zL X l nm hh) 1123 [some (.ref (xsc X)), some (.ref (x_b X + 0)), some (.ref (x_b X + 62)), some (.ref (x_b X + 96)), some (.int (xI i)), none, none] [] k n false 97 sh D := by
  have hll := jq_ll h
  have hq := h.1
  have s0 := h.1.1.2.1
  have hMd := h.2.1.1
  have s62 := md_62 hMd
  have so := h.2.2.1
  have hrow : k_row T C (D 34) := h.1.2.2.2.1
  obtain ⟨hsk, hsB⟩ := row_B hrow
  have hT : T ≤ 8 := h.2.1.2.2.1
  have hC : C ≤ 10 := h.2.1.2.2.2.2.2.2.1
  have hc := c11_far (X := X) (l := l) hl hq (a := (xsv X (i + 1))) (b := (xsv X (i + 2))) xsv_r xsv_r
  obtain ⟨q, hqe⟩ : ∃ q, q = q_2t T (xsv X (i + 1)) (xsv X (i + 2)) (o_i (e_none 1000000 (D (la + 3 + 5) ((xsv X (i + 1)) * 8 + (xsv X (i + 2)))))) := ⟨_, rfl⟩
  rw [← hqe] at hc
  have hO : o_okN q := by rw [hqe]; exact ok_2t (C := C) (W := W) (G := G) (f := D 34)
  have hw := wr_far hl (by decide) s0 so hO hc
  refine x_aload_n dL_law_1123 x_get_7_1 ?_
  refine x_aload_n dL_law_1124 x_get_7_0 ?_
  refine x_iload dL_law_1125 x_get_7_4 ?_
  refine x_iconst dL_law_1127 ?_
  refine x_iadd dL_law_1128 ?_
  refine x_slz dL_law_1129 (by omega) (by omega) hs ?_
  refine x_aload_n dL_law_1130 x_get_7_0 ?_
  refine x_iload dL_law_1131 x_get_7_4 ?_
  refine x_iconst dL_law_1133 ?_
  refine x_iadd dL_law_1134 ?_
  refine x_slz dL_law_1135 (by omega) (by omega) hs ?_
  refine x_aload_n dL_law_1136 x_get_7_3 ?_
  refine x_callSH (As := [_, _, _, _]) dL_law_1137 ws_L_179 hw rfl rfl (Nat.le_of_ble_eq_true rfl) (Nat.le_of_ble_eq_true rfl) (Nat.le_of_ble_eq_true rfl) hk hn ?_
  rintro _ ⟨d1, hd1, rfl⟩
  obtain ⟨m1, m2, m3, m4, m5, m6, m7, m8, m9⟩ := jq_out (q := q) h (sc_62 (by omega) hd1)
  have hm := m_far (X := X) (l := l) hl m1 hsk hsB m2 m3 (a := (xsv X (i + 1))) (b := (xsv X (i + 2))) m6 xsv_r xsv_r
  rw [eq_far h.2.2.2.2.2.2.2.2.2.2.2.1 hT, ← hqe] at hm
  refine x_istore dL_law_1140 (Nat.le_of_ble_eq_true rfl) rfl x_set_7_5 ?_
  refine x_aload_n dL_law_1142 x_get_7_2 ?_
  refine x_aload_n dL_law_1143 x_get_7_0 ?_
  refine x_iload dL_law_1144 x_get_7_4 ?_
  refine x_iconst dL_law_1146 ?_
  refine x_iadd dL_law_1147 ?_
  refine x_slz dL_law_1148 (by omega) (by omega) hs ?_
  refine x_aload_n dL_law_1149 x_get_7_0 ?_
  refine x_iload dL_law_1150 x_get_7_4 ?_
  refine x_iconst dL_law_1152 ?_
  refine x_iadd dL_law_1153 ?_
  refine x_slz dL_law_1154 (by omega) (by omega) hs ?_
  refine x_callV (As := [_, _]) dL_law_1155 w_L_181 hm (by decide) s62 rfl rfl (Nat.le_of_ble_eq_true rfl) (Nat.le_of_ble_eq_true rfl) (Nat.le_of_ble_eq_true rfl) (show _ + 0 ≤ 601024 from hk) (show _ + 0 ≤ 7293034 from hn) ?_
  rintro d3 ⟨hms, h0⟩
  exact q_tail hl (jq_ask h hd1 hms) (o_B_N hO) (Or.inl rfl) h0 (fun z hz => by rw [hms.1 96 (by decide) (by decide) (by decide) (by decide) (by decide), hz]; exact outw_96) hk hn hK dL_law_1158 dL_law_1160 dL_law_1161 dL_law_1164 dL_law_1166 dL_law_1171 dL_law_1173 dL_law_1176 dL_law_1177 dL_law_1178 dL_law_1179 dL_law_1181 dL_law_1182 dL_law_1183 dL_law_1188 (by decide)
set_option maxHeartbeats 2000000 in
theorem lc_leak {X : xC} {l : Launch} {nm : String} {hh : List (Nat × Nat × Nat × Nat)} (hl : l.stackTraces = false) {sh : xS} {D : xM} {la lb T C W : Nat} {G : Ldt} {L : List (Int → Int)} {S : List (Int × Int × Int)} (h : jq sh D la lb T C W G L S) {i : Int} {k n : Nat} (hi0 : 0 ≤ i) (hi : i + 6 ≤ xsl X) (hs : xsl X ≤ 3072) (hk : k + 1 ≤ 601024) (hn : n + 6 ≤ 7293034) (hK : Kn X l nm hh i (k + 1) (n + 6)) : x_W (zL X l nm hh) 1191 [some (.ref (xsc X)), some (.ref (x_b X + 0)), some (.ref (x_b X + 62)), some (.ref (x_b X + 96)), some (.int (xI i)), none, none] [] k n false 97 sh D := by
  have hll := jq_ll h
  have hq := h.1
  have s0 := h.1.1.2.1
  have hMd := h.2.1.1
  have s62 := md_62 hMd
  have so := h.2.2.1
  have hrow : k_row T C (D 34) := h.1.2.2.2.1
  obtain ⟨hsk, hsB⟩ := row_B hrow
  have hT : T ≤ 8 := h.2.1.2.2.1
  have hC : C ≤ 10 := h.2.1.2.2.2.2.2.2.1
  have hc := c11_leak (X := X) (l := l) hl hq (a := (xsv X (i + 1))) (b := (xsv X (i + 2))) xsv_r xsv_r
  obtain ⟨q, hqe⟩ : ∃ q, q = q_2t T (xsv X (i + 1)) (xsv X (i + 2)) (o_i (e_none 1000000 (D (la + 3 + 6) ((xsv X (i + 1)) * 8 + (xsv X (i + 2)))))) := ⟨_, rfl⟩
  rw [← hqe] at hc
  have hO : o_okN q := by rw [hqe]; exact ok_2t (C := C) (W := W) (G := G) (f := D 34)
  have hw := wr_leak hl (by decide) s0 so hO hc
  refine x_aload_n dL_law_1191 x_get_7_1 ?_
  refine x_aload_n dL_law_1192 x_get_7_0 ?_
  refine x_iload dL_law_1193 x_get_7_4 ?_
  refine x_iconst dL_law_1195 ?_
  refine x_iadd dL_law_1196 ?_
  refine x_slz dL_law_1197 (by omega) (by omega) hs ?_
  refine x_aload_n dL_law_1198 x_get_7_0 ?_
  refine x_iload dL_law_1199 x_get_7_4 ?_
  refine x_iconst dL_law_1201 ?_
  refine x_iadd dL_law_1202 ?_
  refine x_slz dL_law_1203 (by omega) (by omega) hs ?_
  refine x_aload_n dL_law_1204 x_get_7_3 ?_
  refine x_callSH (As := [_, _, _, _]) dL_law_1205 ws_L_182 hw rfl rfl (Nat.le_of_ble_eq_true rfl) (Nat.le_of_ble_eq_true rfl) (Nat.le_of_ble_eq_true rfl) hk hn ?_
  rintro _ ⟨d1, hd1, rfl⟩
  obtain ⟨m1, m2, m3, m4, m5, m6, m7, m8, m9⟩ := jq_out (q := q) h (sc_62 (by omega) hd1)
  have hm := m_leak (X := X) (l := l) hl m1 hsk hsB m2 m3 (a := (xsv X (i + 1))) (b := (xsv X (i + 2))) m6 xsv_r xsv_r
  rw [eq_leak h.2.2.2.2.2.2.2.2.2.2.2.1 hT, ← hqe] at hm
  refine x_istore dL_law_1208 (Nat.le_of_ble_eq_true rfl) rfl x_set_7_5 ?_
  refine x_aload_n dL_law_1210 x_get_7_2 ?_
  refine x_aload_n dL_law_1211 x_get_7_0 ?_
  refine x_iload dL_law_1212 x_get_7_4 ?_
  refine x_iconst dL_law_1214 ?_
  refine x_iadd dL_law_1215 ?_
  refine x_slz dL_law_1216 (by omega) (by omega) hs ?_
  refine x_aload_n dL_law_1217 x_get_7_0 ?_
  refine x_iload dL_law_1218 x_get_7_4 ?_
  refine x_iconst dL_law_1220 ?_
  refine x_iadd dL_law_1221 ?_
  refine x_slz dL_law_1222 (by omega) (by omega) hs ?_
  refine x_callV (As := [_, _]) dL_law_1223 w_L_184 hm (by decide) s62 rfl rfl (Nat.le_of_ble_eq_true rfl) (Nat.le_of_ble_eq_true rfl) (Nat.le_of_ble_eq_true rfl) (show _ + 0 ≤ 601024 from hk) (show _ + 0 ≤ 7293034 from hn) ?_
  rintro d3 ⟨hms, h0⟩
  exact q_tail hl (jq_ask h hd1 hms) (o_B_N hO) (Or.inl rfl) h0 (fun z hz => by rw [hms.1 96 (by decide) (by decide) (by decide) (by decide) (by decide), hz]; exact outw_96) hk hn hK dL_law_1226 dL_law_1228 dL_law_1229 dL_law_1232 dL_law_1234 dL_law_1239 dL_law_1241 dL_law_1244 dL_law_1245 dL_law_1246 dL_law_1247 dL_law_1249 dL_law_1250 dL_law_1251 dL_law_1256 (by decide)
set_option maxHeartbeats 2000000 in
theorem lc_sending {X : xC} {l : Launch} {nm : String} {hh : List (Nat × Nat × Nat × Nat)} (hl : l.stackTraces = false) {sh : xS} {D : xM} {la lb T C W : Nat} {G : Ldt} {L : List (Int → Int)} {S : List (Int × Int × Int)} (h : jq sh D la lb T C W G L S) {i : Int} {k n : Nat} (hi0 : 0 ≤ i) (hi : i + 6 ≤ xsl X) (hs : xsl X ≤ 3072) (hk : k + 1 ≤ 601024) (hn : n + 6 ≤ 7293034) (hK : Kn X l nm hh i (k + 1) (n + 6)) : x_W (zL X l nm hh) 1259 [some (.ref (xsc X)), some (.ref (x_b X + 0)), some (.ref (x_b X + 62)), some (.ref (x_b X + 96)), some (.int (xI i)), none, none] [] k n false 97 sh D := by
  have hll := jq_ll h
  have hq := h.1
  have s0 := h.1.1.2.1
  have hMd := h.2.1.1
  have s62 := md_62 hMd
  have so := h.2.2.1
  have hrow : k_row T C (D 34) := h.1.2.2.2.1
  obtain ⟨hsk, hsB⟩ := row_B hrow
  have hT : T ≤ 8 := h.2.1.2.2.1
  have hC : C ≤ 10 := h.2.1.2.2.2.2.2.2.1
  have hc := c11_sending (X := X) (l := l) hl hq (t := (xsv X (i + 1))) (wa := (xsv X (i + 2))) xsv_r xsv_r
  obtain ⟨q, hqe⟩ : ∃ q, q = q_sendg T C (D 34) (D (la + 3 + 6)) (xsv X (i + 1)) (xsv X (i + 2)) := ⟨_, rfl⟩
  rw [← hqe] at hc
  have hO : o_okB q := by rw [hqe]; exact ok_sendg (W := W) (G := G)
  have hw := wr_sending hl (by decide) s0 so hO hc
  refine x_aload_n dL_law_1259 x_get_7_1 ?_
  refine x_aload_n dL_law_1260 x_get_7_0 ?_
  refine x_iload dL_law_1261 x_get_7_4 ?_
  refine x_iconst dL_law_1263 ?_
  refine x_iadd dL_law_1264 ?_
  refine x_slz dL_law_1265 (by omega) (by omega) hs ?_
  refine x_aload_n dL_law_1266 x_get_7_0 ?_
  refine x_iload dL_law_1267 x_get_7_4 ?_
  refine x_iconst dL_law_1269 ?_
  refine x_iadd dL_law_1270 ?_
  refine x_slz dL_law_1271 (by omega) (by omega) hs ?_
  refine x_aload_n dL_law_1272 x_get_7_3 ?_
  refine x_callSH (As := [_, _, _, _]) dL_law_1273 ws_L_185 hw rfl rfl (Nat.le_of_ble_eq_true rfl) (Nat.le_of_ble_eq_true rfl) (Nat.le_of_ble_eq_true rfl) hk hn ?_
  rintro _ ⟨d1, hd1, rfl⟩
  obtain ⟨m1, m2, m3, m4, m5, m6, m7, m8, m9⟩ := jq_out (q := q) h (sc_62 (by omega) hd1)
  have hm := m_sending (X := X) (l := l) hl m1 hsk hsB m2 m3 (t := (xsv X (i + 1))) (wa := (xsv X (i + 2))) m6 (pl_row hrow) xsv_r xsv_r
  rw [eq_send h.2.2.2.2.2.2.2.2.2.2.2.1 hT hsk hC (pl_row hrow), ← hqe] at hm
  refine x_istore dL_law_1276 (Nat.le_of_ble_eq_true rfl) rfl x_set_7_5 ?_
  refine x_aload_n dL_law_1278 x_get_7_2 ?_
  refine x_aload_n dL_law_1279 x_get_7_0 ?_
  refine x_iload dL_law_1280 x_get_7_4 ?_
  refine x_iconst dL_law_1282 ?_
  refine x_iadd dL_law_1283 ?_
  refine x_slz dL_law_1284 (by omega) (by omega) hs ?_
  refine x_aload_n dL_law_1285 x_get_7_0 ?_
  refine x_iload dL_law_1286 x_get_7_4 ?_
  refine x_iconst dL_law_1288 ?_
  refine x_iadd dL_law_1289 ?_
  refine x_slz dL_law_1290 (by omega) (by omega) hs ?_
  refine x_callV (As := [_, _]) dL_law_1291 w_L_187 hm (by decide) s62 rfl rfl (Nat.le_of_ble_eq_true rfl) (Nat.le_of_ble_eq_true rfl) (Nat.le_of_ble_eq_true rfl) (show _ + 0 ≤ 601024 from hk) (show _ + 0 ≤ 7293034 from hn) ?_
  rintro d3 ⟨hms, h0⟩
  exact q_tail hl (jq_ask h hd1 hms) hO (Or.inr rfl) h0 (fun z hz => by rw [hms.1 96 (by decide) (by decide) (by decide) (by decide) (by decide), hz]; exact outw_96) hk hn hK dL_law_1294 dL_law_1296 dL_law_1297 dL_law_1300 dL_law_1302 dL_law_1307 dL_law_1309 dL_law_1312 dL_law_1313 dL_law_1314 dL_law_1315 dL_law_1317 dL_law_1318 dL_law_1319 dL_law_1324 (by decide)
set_option maxHeartbeats 2000000 in
theorem lc_hold {X : xC} {l : Launch} {nm : String} {hh : List (Nat × Nat × Nat × Nat)} (hl : l.stackTraces = false) {sh : xS} {D : xM} {la lb T C W : Nat} {G : Ldt} {L : List (Int → Int)} {S : List (Int × Int × Int)} (h : jq sh D la lb T C W G L S) {i : Int} {k n : Nat} (hi0 : 0 ≤ i) (hi : i + 6 ≤ xsl X) (hs : xsl X ≤ 3072) (hk : k + 1 ≤ 601024) (hn : n + 6 ≤ 7293034) (hK : Kn X l nm hh i (k + 1) (n + 6)) : x_W (zL X l nm hh) 1327 [some (.ref (xsc X)), some (.ref (x_b X + 0)), some (.ref (x_b X + 62)), some (.ref (x_b X + 96)), some (.int (xI i)), none, none] [] k n false 97 sh D := by
  have hll := jq_ll h
  have hq := h.1
  have s0 := h.1.1.2.1
  have hMd := h.2.1.1
  have s62 := md_62 hMd
  have so := h.2.2.1
  have hrow : k_row T C (D 34) := h.1.2.2.2.1
  obtain ⟨hsk, hsB⟩ := row_B hrow
  have hT : T ≤ 8 := h.2.1.2.2.1
  have hC : C ≤ 10 := h.2.1.2.2.2.2.2.2.1
  have hc := c11_hold (X := X) (l := l) hl hq (t := (xsv X (i + 1))) (i := (xsv X (i + 2))) xsv_r xsv_r
  obtain ⟨q, hqe⟩ : ∃ q, q = q_hold T C (D 34) (xsv X (i + 1)) (xsv X (i + 2)) := ⟨_, rfl⟩
  rw [← hqe] at hc
  have hO : o_okN q := by rw [hqe]; exact ok_hold (W := W) (G := G)
  have hw := wr_hold hl (by decide) s0 so hO hc
  refine x_aload_n dL_law_1327 x_get_7_1 ?_
  refine x_aload_n dL_law_1328 x_get_7_0 ?_
  refine x_iload dL_law_1329 x_get_7_4 ?_
  refine x_iconst dL_law_1331 ?_
  refine x_iadd dL_law_1332 ?_
  refine x_slz dL_law_1333 (by omega) (by omega) hs ?_
  refine x_aload_n dL_law_1334 x_get_7_0 ?_
  refine x_iload dL_law_1335 x_get_7_4 ?_
  refine x_iconst dL_law_1337 ?_
  refine x_iadd dL_law_1338 ?_
  refine x_slz dL_law_1339 (by omega) (by omega) hs ?_
  refine x_aload_n dL_law_1340 x_get_7_3 ?_
  refine x_callSH (As := [_, _, _, _]) dL_law_1341 ws_L_188 hw rfl rfl (Nat.le_of_ble_eq_true rfl) (Nat.le_of_ble_eq_true rfl) (Nat.le_of_ble_eq_true rfl) hk hn ?_
  rintro _ ⟨d1, hd1, rfl⟩
  obtain ⟨m1, m2, m3, m4, m5, m6, m7, m8, m9⟩ := jq_out (q := q) h (sc_62 (by omega) hd1)
  have hm := m_hold (X := X) (l := l) hl m1 hsk hsB m2 m3 (t := (xsv X (i + 1))) (i := (xsv X (i + 2))) xsv_r xsv_r
  rw [← hqe] at hm
  refine x_istore dL_law_1344 (Nat.le_of_ble_eq_true rfl) rfl x_set_7_5 ?_
  refine x_aload_n dL_law_1346 x_get_7_2 ?_
  refine x_aload_n dL_law_1347 x_get_7_0 ?_
  refine x_iload dL_law_1348 x_get_7_4 ?_
  refine x_iconst dL_law_1350 ?_
  refine x_iadd dL_law_1351 ?_
  refine x_slz dL_law_1352 (by omega) (by omega) hs ?_
  refine x_aload_n dL_law_1353 x_get_7_0 ?_
  refine x_iload dL_law_1354 x_get_7_4 ?_
  refine x_iconst dL_law_1356 ?_
  refine x_iadd dL_law_1357 ?_
  refine x_slz dL_law_1358 (by omega) (by omega) hs ?_
  refine x_callV (As := [_, _]) dL_law_1359 w_L_190 hm (by decide) s62 rfl rfl (Nat.le_of_ble_eq_true rfl) (Nat.le_of_ble_eq_true rfl) (Nat.le_of_ble_eq_true rfl) (show _ + 0 ≤ 601024 from hk) (show _ + 0 ≤ 7293034 from hn) ?_
  rintro d3 ⟨hms, h0⟩
  exact q_tail hl (jq_ask h hd1 hms) (o_B_N hO) (Or.inl rfl) h0 (fun z hz => by rw [hms.1 96 (by decide) (by decide) (by decide) (by decide) (by decide), hz]; exact outw_96) hk hn hK dL_law_1362 dL_law_1364 dL_law_1365 dL_law_1368 dL_law_1370 dL_law_1375 dL_law_1377 dL_law_1380 dL_law_1381 dL_law_1382 dL_law_1383 dL_law_1385 dL_law_1386 dL_law_1387 dL_law_1392 (by decide)
set_option maxHeartbeats 2000000 in
theorem lc_thrower {X : xC} {l : Launch} {nm : String} {hh : List (Nat × Nat × Nat × Nat)} (hl : l.stackTraces = false) {sh : xS} {D : xM} {la lb T C W : Nat} {G : Ldt} {L : List (Int → Int)} {S : List (Int × Int × Int)} (h : jq sh D la lb T C W G L S) {i : Int} {k n : Nat} (hi0 : 0 ≤ i) (hi : i + 6 ≤ xsl X) (hs : xsl X ≤ 3072) (hk : k + 1 ≤ 601024) (hn : n + 6 ≤ 7293034) (hK : Kn X l nm hh i (k + 1) (n + 6)) : x_W (zL X l nm hh) 1395 [some (.ref (xsc X)), some (.ref (x_b X + 0)), some (.ref (x_b X + 62)), some (.ref (x_b X + 96)), some (.int (xI i)), none, none] [] k n false 97 sh D := by
  have hll := jq_ll h
  have hq := h.1
  have s0 := h.1.1.2.1
  have hMd := h.2.1.1
  have s62 := md_62 hMd
  have so := h.2.2.1
  have hrow : k_row T C (D 34) := h.1.2.2.2.1
  obtain ⟨hsk, hsB⟩ := row_B hrow
  have hT : T ≤ 8 := h.2.1.2.2.1
  have hC : C ≤ 10 := h.2.1.2.2.2.2.2.2.1
  have hc := c11_thrower (X := X) (l := l) hl hq (g := (xsv X (i + 1))) (tw := (xsv X (i + 2))) (goal := (xsv X (i + 3))) (n := (xsv X (i + 4))) xsv_r xsv_r xsv_r xsv_r
  obtain ⟨q, hqe⟩ : ∃ q, q = q_thrower (xsv X (i + 1)) (xsv X (i + 2)) (xsv X (i + 3)) (xsv X (i + 4)) := ⟨_, rfl⟩
  rw [← hqe] at hc
  have hO : o_okI q := by rw [hqe]; exact ok_thrower (T := T) (C := C) (W := W) (G := G) (f := D 34)
  have hw := wr_thrower hl (by decide) s0 so hO hc
  refine x_aload_n dL_law_1395 x_get_7_1 ?_
  refine x_aload_n dL_law_1396 x_get_7_0 ?_
  refine x_iload dL_law_1397 x_get_7_4 ?_
  refine x_iconst dL_law_1399 ?_
  refine x_iadd dL_law_1400 ?_
  refine x_slz dL_law_1401 (by omega) (by omega) hs ?_
  refine x_aload_n dL_law_1402 x_get_7_0 ?_
  refine x_iload dL_law_1403 x_get_7_4 ?_
  refine x_iconst dL_law_1405 ?_
  refine x_iadd dL_law_1406 ?_
  refine x_slz dL_law_1407 (by omega) (by omega) hs ?_
  refine x_aload_n dL_law_1408 x_get_7_0 ?_
  refine x_iload dL_law_1409 x_get_7_4 ?_
  refine x_iconst dL_law_1411 ?_
  refine x_iadd dL_law_1412 ?_
  refine x_slz dL_law_1413 (by omega) (by omega) hs ?_
  refine x_aload_n dL_law_1414 x_get_7_0 ?_
  refine x_iload dL_law_1415 x_get_7_4 ?_
  refine x_iconst dL_law_1417 ?_
  refine x_iadd dL_law_1418 ?_
  refine x_slz dL_law_1419 (by omega) (by omega) hs ?_
  refine x_aload_n dL_law_1420 x_get_7_3 ?_
  refine x_callSH (As := [_, _, _, _, _, _]) dL_law_1421 ws_L_191 hw rfl rfl (Nat.le_of_ble_eq_true rfl) (Nat.le_of_ble_eq_true rfl) (Nat.le_of_ble_eq_true rfl) hk hn ?_
  rintro _ ⟨d1, hd1, rfl⟩
  obtain ⟨m1, m2, m3, m4, m5, m6, m7, m8, m9⟩ := jq_out (q := q) h (sc_62 (by omega) hd1)
  have hm := m_thrower (X := X) (l := l) hl m1 hsk hsB m2 m3 (g := (xsv X (i + 1))) (tw := (xsv X (i + 2))) (goal := (xsv X (i + 3))) (n := (xsv X (i + 4))) xsv_r xsv_r xsv_r xsv_r
  rw [← hqe] at hm
  refine x_istore dL_law_1424 (Nat.le_of_ble_eq_true rfl) rfl x_set_7_5 ?_
  refine x_aload_n dL_law_1426 x_get_7_2 ?_
  refine x_aload_n dL_law_1427 x_get_7_0 ?_
  refine x_iload dL_law_1428 x_get_7_4 ?_
  refine x_iconst dL_law_1430 ?_
  refine x_iadd dL_law_1431 ?_
  refine x_slz dL_law_1432 (by omega) (by omega) hs ?_
  refine x_aload_n dL_law_1433 x_get_7_0 ?_
  refine x_iload dL_law_1434 x_get_7_4 ?_
  refine x_iconst dL_law_1436 ?_
  refine x_iadd dL_law_1437 ?_
  refine x_slz dL_law_1438 (by omega) (by omega) hs ?_
  refine x_aload_n dL_law_1439 x_get_7_0 ?_
  refine x_iload dL_law_1440 x_get_7_4 ?_
  refine x_iconst dL_law_1442 ?_
  refine x_iadd dL_law_1443 ?_
  refine x_slz dL_law_1444 (by omega) (by omega) hs ?_
  refine x_aload_n dL_law_1445 x_get_7_0 ?_
  refine x_iload dL_law_1446 x_get_7_4 ?_
  refine x_iconst dL_law_1448 ?_
  refine x_iadd dL_law_1449 ?_
  refine x_slz dL_law_1450 (by omega) (by omega) hs ?_
  refine x_callV (As := [_, _, _, _]) dL_law_1451 w_L_194 hm (by decide) s62 rfl rfl (Nat.le_of_ble_eq_true rfl) (Nat.le_of_ble_eq_true rfl) (Nat.le_of_ble_eq_true rfl) (show _ + 0 ≤ 601024 from hk) (show _ + 0 ≤ 7293034 from hn) ?_
  rintro d3 ⟨hms, h0⟩
  exact q_tail hl (jq_ask h hd1 hms) (o_B_I hO) (Or.inl rfl) h0 (fun z hz => by rw [hms.1 96 (by decide) (by decide) (by decide) (by decide) (by decide), hz]; exact outw_96) hk hn hK dL_law_1454 dL_law_1456 dL_law_1457 dL_law_1460 dL_law_1462 dL_law_1467 dL_law_1469 dL_law_1472 dL_law_1473 dL_law_1474 dL_law_1475 dL_law_1477 dL_law_1478 dL_law_1479 dL_law_1484 (by decide)
set_option maxHeartbeats 2000000 in
theorem lc_stop {X : xC} {l : Launch} {nm : String} {hh : List (Nat × Nat × Nat × Nat)} (hl : l.stackTraces = false) {sh : xS} {D : xM} {la lb T C W : Nat} {G : Ldt} {L : List (Int → Int)} {S : List (Int × Int × Int)} (h : jq sh D la lb T C W G L S) {i : Int} {k n : Nat} (hi0 : 0 ≤ i) (hi : i + 6 ≤ xsl X) (hs : xsl X ≤ 3072) (hk : k + 1 ≤ 601024) (hn : n + 6 ≤ 7293034) (hK : Kn X l nm hh i (k + 1) (n + 6)) : x_W (zL X l nm hh) 1487 [some (.ref (xsc X)), some (.ref (x_b X + 0)), some (.ref (x_b X + 62)), some (.ref (x_b X + 96)), some (.int (xI i)), none, none] [] k n false 97 sh D := by
  have hll := jq_ll h
  have hq := h.1
  have s0 := h.1.1.2.1
  have hMd := h.2.1.1
  have s62 := md_62 hMd
  have so := h.2.2.1
  have hrow : k_row T C (D 34) := h.1.2.2.2.1
  obtain ⟨hsk, hsB⟩ := row_B hrow
  have hT : T ≤ 8 := h.2.1.2.2.1
  have hC : C ≤ 10 := h.2.1.2.2.2.2.2.2.1
  have hc := c11_stop (X := X) (l := l) hl hq (g := (xsv X (i + 1))) (tw := (xsv X (i + 2))) (n := (xsv X (i + 3))) (w := (xsv X (i + 4))) xsv_r xsv_r xsv_r xsv_r
  obtain ⟨q, hqe⟩ : ∃ q, q = q_stop (xsv X (i + 1)) (xsv X (i + 2)) (xsv X (i + 3)) (xsv X (i + 4)) := ⟨_, rfl⟩
  rw [← hqe] at hc
  have hO : o_okB q := by rw [hqe]; exact ok_stop (T := T) (C := C) (W := W) (G := G) (f := D 34)
  have hw := wr_stop hl (by decide) s0 so hO hc
  refine x_aload_n dL_law_1487 x_get_7_1 ?_
  refine x_aload_n dL_law_1488 x_get_7_0 ?_
  refine x_iload dL_law_1489 x_get_7_4 ?_
  refine x_iconst dL_law_1491 ?_
  refine x_iadd dL_law_1492 ?_
  refine x_slz dL_law_1493 (by omega) (by omega) hs ?_
  refine x_aload_n dL_law_1494 x_get_7_0 ?_
  refine x_iload dL_law_1495 x_get_7_4 ?_
  refine x_iconst dL_law_1497 ?_
  refine x_iadd dL_law_1498 ?_
  refine x_slz dL_law_1499 (by omega) (by omega) hs ?_
  refine x_aload_n dL_law_1500 x_get_7_0 ?_
  refine x_iload dL_law_1501 x_get_7_4 ?_
  refine x_iconst dL_law_1503 ?_
  refine x_iadd dL_law_1504 ?_
  refine x_slz dL_law_1505 (by omega) (by omega) hs ?_
  refine x_aload_n dL_law_1506 x_get_7_0 ?_
  refine x_iload dL_law_1507 x_get_7_4 ?_
  refine x_iconst dL_law_1509 ?_
  refine x_iadd dL_law_1510 ?_
  refine x_slz dL_law_1511 (by omega) (by omega) hs ?_
  refine x_aload_n dL_law_1512 x_get_7_3 ?_
  refine x_callSH (As := [_, _, _, _, _, _]) dL_law_1513 ws_L_195 hw rfl rfl (Nat.le_of_ble_eq_true rfl) (Nat.le_of_ble_eq_true rfl) (Nat.le_of_ble_eq_true rfl) hk hn ?_
  rintro _ ⟨d1, hd1, rfl⟩
  obtain ⟨m1, m2, m3, m4, m5, m6, m7, m8, m9⟩ := jq_out (q := q) h (sc_62 (by omega) hd1)
  have hm := m_stop (X := X) (l := l) hl m1 hsk hsB m2 m3 (g := (xsv X (i + 1))) (tw := (xsv X (i + 2))) (n := (xsv X (i + 3))) (w := (xsv X (i + 4))) xsv_r xsv_r xsv_r xsv_r
  rw [← hqe] at hm
  refine x_istore dL_law_1516 (Nat.le_of_ble_eq_true rfl) rfl x_set_7_5 ?_
  refine x_aload_n dL_law_1518 x_get_7_2 ?_
  refine x_aload_n dL_law_1519 x_get_7_0 ?_
  refine x_iload dL_law_1520 x_get_7_4 ?_
  refine x_iconst dL_law_1522 ?_
  refine x_iadd dL_law_1523 ?_
  refine x_slz dL_law_1524 (by omega) (by omega) hs ?_
  refine x_aload_n dL_law_1525 x_get_7_0 ?_
  refine x_iload dL_law_1526 x_get_7_4 ?_
  refine x_iconst dL_law_1528 ?_
  refine x_iadd dL_law_1529 ?_
  refine x_slz dL_law_1530 (by omega) (by omega) hs ?_
  refine x_aload_n dL_law_1531 x_get_7_0 ?_
  refine x_iload dL_law_1532 x_get_7_4 ?_
  refine x_iconst dL_law_1534 ?_
  refine x_iadd dL_law_1535 ?_
  refine x_slz dL_law_1536 (by omega) (by omega) hs ?_
  refine x_aload_n dL_law_1537 x_get_7_0 ?_
  refine x_iload dL_law_1538 x_get_7_4 ?_
  refine x_iconst dL_law_1540 ?_
  refine x_iadd dL_law_1541 ?_
  refine x_slz dL_law_1542 (by omega) (by omega) hs ?_
  refine x_callV (As := [_, _, _, _]) dL_law_1543 w_L_197 hm (by decide) s62 rfl rfl (Nat.le_of_ble_eq_true rfl) (Nat.le_of_ble_eq_true rfl) (Nat.le_of_ble_eq_true rfl) (show _ + 0 ≤ 601024 from hk) (show _ + 0 ≤ 7293034 from hn) ?_
  rintro d3 ⟨hms, h0⟩
  exact q_tail hl (jq_ask h hd1 hms) hO (Or.inr rfl) h0 (fun z hz => by rw [hms.1 96 (by decide) (by decide) (by decide) (by decide) (by decide), hz]; exact outw_96) hk hn hK dL_law_1546 dL_law_1548 dL_law_1549 dL_law_1552 dL_law_1554 dL_law_1559 dL_law_1561 dL_law_1564 dL_law_1565 dL_law_1566 dL_law_1567 dL_law_1569 dL_law_1570 dL_law_1571 dL_law_1576 (by decide)
set_option maxHeartbeats 2000000 in
theorem lc_opened {X : xC} {l : Launch} {nm : String} {hh : List (Nat × Nat × Nat × Nat)} (hl : l.stackTraces = false) {sh : xS} {D : xM} {la lb T C W : Nat} {G : Ldt} {L : List (Int → Int)} {S : List (Int × Int × Int)} (h : jq sh D la lb T C W G L S) {i : Int} {k n : Nat} (hi0 : 0 ≤ i) (hi : i + 6 ≤ xsl X) (hs : xsl X ≤ 3072) (hk : k + 1 ≤ 601024) (hn : n + 6 ≤ 7293034) (hK : Kn X l nm hh i (k + 1) (n + 6)) : x_W (zL X l nm hh) 1670 [some (.ref (xsc X)), some (.ref (x_b X + 0)), some (.ref (x_b X + 62)), some (.ref (x_b X + 96)), some (.int (xI i)), none, none] [] k n false 97 sh D := by
  have hll := jq_ll h
  have hq := h.1
  have s0 := h.1.1.2.1
  have hMd := h.2.1.1
  have s62 := md_62 hMd
  have so := h.2.2.1
  have hrow : k_row T C (D 34) := h.1.2.2.2.1
  obtain ⟨hsk, hsB⟩ := row_B hrow
  have hT : T ≤ 8 := h.2.1.2.2.1
  have hC : C ≤ 10 := h.2.1.2.2.2.2.2.2.1
  have hc := c11_opened (X := X) (l := l) hl hq (w := (xsv X (i + 1))) h.2.2.2.2.2.2.1.1 h.2.2.2.2.2.2.1.2.2 xsv_r
  obtain ⟨q, hqe⟩ : ∃ q, q = q_opened T C G (D 34) S (xsv X (i + 1)) := ⟨_, rfl⟩
  rw [← hqe] at hc
  have hO : o_okN q := by rw [hqe]; exact ok_opened (W := W)
  have hw := wr_opened hl (by decide) s0 so hO hc
  refine x_aload_n dL_law_1670 x_get_7_1 ?_
  refine x_aload_n dL_law_1671 x_get_7_0 ?_
  refine x_iload dL_law_1672 x_get_7_4 ?_
  refine x_iconst dL_law_1674 ?_
  refine x_iadd dL_law_1675 ?_
  refine x_slz dL_law_1676 (by omega) (by omega) hs ?_
  refine x_aload_n dL_law_1677 x_get_7_3 ?_
  refine x_callSH (As := [_, _, _]) dL_law_1678 ws_L_205 hw rfl rfl (Nat.le_of_ble_eq_true rfl) (Nat.le_of_ble_eq_true rfl) (Nat.le_of_ble_eq_true rfl) hk hn ?_
  rintro _ ⟨d1, hd1, rfl⟩
  obtain ⟨m1, m2, m3, m4, m5, m6, m7, m8, m9⟩ := jq_out (q := q) h (sc_62 (by omega) hd1)
  have hm := m_opened (X := X) (l := l) hl m1 hsk hsB m2 m3 (w := (xsv X (i + 1))) m5 h.2.2.2.2.2.2.1.2.2 (pl_row hrow) xsv_r
  rw [← hqe] at hm
  refine x_istore dL_law_1681 (Nat.le_of_ble_eq_true rfl) rfl x_set_7_5 ?_
  refine x_aload_n dL_law_1683 x_get_7_2 ?_
  refine x_aload_n dL_law_1684 x_get_7_0 ?_
  refine x_iload dL_law_1685 x_get_7_4 ?_
  refine x_iconst dL_law_1687 ?_
  refine x_iadd dL_law_1688 ?_
  refine x_slz dL_law_1689 (by omega) (by omega) hs ?_
  refine x_callV (As := [_]) dL_law_1690 w_L_207 hm (by decide) s62 rfl rfl (Nat.le_of_ble_eq_true rfl) (Nat.le_of_ble_eq_true rfl) (Nat.le_of_ble_eq_true rfl) (show _ + 0 ≤ 601024 from hk) (show _ + 0 ≤ 7293034 from hn) ?_
  rintro d3 ⟨hms, h0⟩
  exact q_tail hl (jq_ask h hd1 hms) (o_B_N hO) (Or.inl rfl) h0 (fun z hz => by rw [hms.1 96 (by decide) (by decide) (by decide) (by decide) (by decide), hz]; exact outw_96) hk hn hK dL_law_1693 dL_law_1695 dL_law_1696 dL_law_1699 dL_law_1701 dL_law_1706 dL_law_1708 dL_law_1711 dL_law_1712 dL_law_1713 dL_law_1714 dL_law_1716 dL_law_1717 dL_law_1718 dL_law_1723 (by decide)
set_option maxHeartbeats 2000000 in
theorem lc_next {X : xC} {l : Launch} {nm : String} {hh : List (Nat × Nat × Nat × Nat)} (hl : l.stackTraces = false) {sh : xS} {D : xM} {la lb T C W : Nat} {G : Ldt} {L : List (Int → Int)} {S : List (Int × Int × Int)} (h : jq sh D la lb T C W G L S) {i : Int} {k n : Nat} (hi0 : 0 ≤ i) (hi : i + 6 ≤ xsl X) (hs : xsl X ≤ 3072) (hk : k + 1 ≤ 601024) (hn : n + 6 ≤ 7293034) (hK : Kn X l nm hh i (k + 1) (n + 6)) : x_W (zL X l nm hh) 1726 [some (.ref (xsc X)), some (.ref (x_b X + 0)), some (.ref (x_b X + 62)), some (.ref (x_b X + 96)), some (.int (xI i)), none, none] [] k n false 97 sh D := by
  have hll := jq_ll h
  have hq := h.1
  have s0 := h.1.1.2.1
  have hMd := h.2.1.1
  have s62 := md_62 hMd
  have so := h.2.2.1
  have hrow : k_row T C (D 34) := h.1.2.2.2.1
  obtain ⟨hsk, hsB⟩ := row_B hrow
  have hT : T ≤ 8 := h.2.1.2.2.1
  have hC : C ≤ 10 := h.2.1.2.2.2.2.2.2.1
  have hc := c11_next (X := X) (l := l) hl hq (w := (xsv X (i + 1))) h.2.2.2.2.2.2.1.1 h.2.2.2.2.2.2.1.2.2 xsv_r
  obtain ⟨q, hqe⟩ : ∃ q, q = q_next T C G (D 34) S (xsv X (i + 1)) := ⟨_, rfl⟩
  rw [← hqe] at hc
  have hO : o_okN q := by rw [hqe]; exact ok_next (W := W)
  have hw := wr_next hl (by decide) s0 so hO hc
  refine x_aload_n dL_law_1726 x_get_7_1 ?_
  refine x_aload_n dL_law_1727 x_get_7_0 ?_
  refine x_iload dL_law_1728 x_get_7_4 ?_
  refine x_iconst dL_law_1730 ?_
  refine x_iadd dL_law_1731 ?_
  refine x_slz dL_law_1732 (by omega) (by omega) hs ?_
  refine x_aload_n dL_law_1733 x_get_7_3 ?_
  refine x_callSH (As := [_, _, _]) dL_law_1734 ws_L_208 hw rfl rfl (Nat.le_of_ble_eq_true rfl) (Nat.le_of_ble_eq_true rfl) (Nat.le_of_ble_eq_true rfl) hk hn ?_
  rintro _ ⟨d1, hd1, rfl⟩
  obtain ⟨m1, m2, m3, m4, m5, m6, m7, m8, m9⟩ := jq_out (q := q) h (sc_62 (by omega) hd1)
  have hm := m_next (X := X) (l := l) hl m1 hsk hsB m2 m3 (w := (xsv X (i + 1))) m5 h.2.2.2.2.2.2.1.2.2 (pl_row hrow) xsv_r
  rw [← hqe] at hm
  refine x_istore dL_law_1737 (Nat.le_of_ble_eq_true rfl) rfl x_set_7_5 ?_
  refine x_aload_n dL_law_1739 x_get_7_2 ?_
  refine x_aload_n dL_law_1740 x_get_7_0 ?_
  refine x_iload dL_law_1741 x_get_7_4 ?_
  refine x_iconst dL_law_1743 ?_
  refine x_iadd dL_law_1744 ?_
  refine x_slz dL_law_1745 (by omega) (by omega) hs ?_
  refine x_callV (As := [_]) dL_law_1746 w_L_210 hm (by decide) s62 rfl rfl (Nat.le_of_ble_eq_true rfl) (Nat.le_of_ble_eq_true rfl) (Nat.le_of_ble_eq_true rfl) (show _ + 0 ≤ 601024 from hk) (show _ + 0 ≤ 7293034 from hn) ?_
  rintro d3 ⟨hms, h0⟩
  exact q_tail hl (jq_ask h hd1 hms) (o_B_N hO) (Or.inl rfl) h0 (fun z hz => by rw [hms.1 96 (by decide) (by decide) (by decide) (by decide) (by decide), hz]; exact outw_96) hk hn hK dL_law_1749 dL_law_1751 dL_law_1752 dL_law_1755 dL_law_1757 dL_law_1762 dL_law_1764 dL_law_1767 dL_law_1768 dL_law_1769 dL_law_1770 dL_law_1772 dL_law_1773 dL_law_1774 dL_law_1779 (by decide)
set_option maxHeartbeats 2000000 in
theorem lc_pooled {X : xC} {l : Launch} {nm : String} {hh : List (Nat × Nat × Nat × Nat)} (hl : l.stackTraces = false) {sh : xS} {D : xM} {la lb T C W : Nat} {G : Ldt} {L : List (Int → Int)} {S : List (Int × Int × Int)} (h : jq sh D la lb T C W G L S) {i : Int} {k n : Nat} (hi0 : 0 ≤ i) (hi : i + 6 ≤ xsl X) (hs : xsl X ≤ 3072) (hk : k + 1 ≤ 601024) (hn : n + 6 ≤ 7293034) (hK : Kn X l nm hh i (k + 1) (n + 6)) : x_W (zL X l nm hh) 1782 [some (.ref (xsc X)), some (.ref (x_b X + 0)), some (.ref (x_b X + 62)), some (.ref (x_b X + 96)), some (.int (xI i)), none, none] [] k n false 97 sh D := by
  have hll := jq_ll h
  have hq := h.1
  have s0 := h.1.1.2.1
  have hMd := h.2.1.1
  have s62 := md_62 hMd
  have so := h.2.2.1
  have hrow : k_row T C (D 34) := h.1.2.2.2.1
  obtain ⟨hsk, hsB⟩ := row_B hrow
  have hT : T ≤ 8 := h.2.1.2.2.1
  have hC : C ≤ 10 := h.2.1.2.2.2.2.2.2.1
  have hc := c11_pooled (X := X) (l := l) hl hq (n := (xsv X (i + 1))) xsv_r
  obtain ⟨q, hqe⟩ : ∃ q, q = q_pooled T C G (D 34) (xsv X (i + 1)) := ⟨_, rfl⟩
  rw [← hqe] at hc
  have hO : o_okI q := by rw [hqe]; exact ok_pooled (W := W)
  have hw := wr_pooled hl (by decide) s0 so hO hc
  refine x_aload_n dL_law_1782 x_get_7_1 ?_
  refine x_aload_n dL_law_1783 x_get_7_0 ?_
  refine x_iload dL_law_1784 x_get_7_4 ?_
  refine x_iconst dL_law_1786 ?_
  refine x_iadd dL_law_1787 ?_
  refine x_slz dL_law_1788 (by omega) (by omega) hs ?_
  refine x_aload_n dL_law_1789 x_get_7_3 ?_
  refine x_callSH (As := [_, _, _]) dL_law_1790 ws_L_211 hw rfl rfl (Nat.le_of_ble_eq_true rfl) (Nat.le_of_ble_eq_true rfl) (Nat.le_of_ble_eq_true rfl) hk hn ?_
  rintro _ ⟨d1, hd1, rfl⟩
  obtain ⟨m1, m2, m3, m4, m5, m6, m7, m8, m9⟩ := jq_out (q := q) h (sc_62 (by omega) hd1)
  have hm := m_pooled (X := X) (l := l) hl m1 hsk hsB m2 m3 (n := (xsv X (i + 1))) xsv_r
  rw [← hqe] at hm
  refine x_istore dL_law_1793 (Nat.le_of_ble_eq_true rfl) rfl x_set_7_5 ?_
  refine x_aload_n dL_law_1795 x_get_7_2 ?_
  refine x_aload_n dL_law_1796 x_get_7_0 ?_
  refine x_iload dL_law_1797 x_get_7_4 ?_
  refine x_iconst dL_law_1799 ?_
  refine x_iadd dL_law_1800 ?_
  refine x_slz dL_law_1801 (by omega) (by omega) hs ?_
  refine x_callV (As := [_]) dL_law_1802 w_L_213 hm (by decide) s62 rfl rfl (Nat.le_of_ble_eq_true rfl) (Nat.le_of_ble_eq_true rfl) (Nat.le_of_ble_eq_true rfl) (show _ + 0 ≤ 601024 from hk) (show _ + 0 ≤ 7293034 from hn) ?_
  rintro d3 ⟨hms, h0⟩
  exact q_tail hl (jq_ask h hd1 hms) (o_B_I hO) (Or.inl rfl) h0 (fun z hz => by rw [hms.1 96 (by decide) (by decide) (by decide) (by decide) (by decide), hz]; exact outw_96) hk hn hK dL_law_1805 dL_law_1807 dL_law_1808 dL_law_1811 dL_law_1813 dL_law_1818 dL_law_1820 dL_law_1823 dL_law_1824 dL_law_1825 dL_law_1826 dL_law_1828 dL_law_1829 dL_law_1830 dL_law_1835 (by decide)
set_option maxHeartbeats 2000000 in
theorem lc_game {X : xC} {l : Launch} {nm : String} {hh : List (Nat × Nat × Nat × Nat)} (hl : l.stackTraces = false) {sh : xS} {D : xM} {la lb T C W : Nat} {G : Ldt} {L : List (Int → Int)} {S : List (Int × Int × Int)} (h : jq sh D la lb T C W G L S) {i : Int} {k n : Nat} (hi0 : 0 ≤ i) (hi : i + 6 ≤ xsl X) (hs : xsl X ≤ 3072) (hk : k + 1 ≤ 601024) (hn : n + 6 ≤ 7293034) (hK : Kn X l nm hh i (k + 1) (n + 6)) : x_W (zL X l nm hh) 1851 [some (.ref (xsc X)), some (.ref (x_b X + 0)), some (.ref (x_b X + 62)), some (.ref (x_b X + 96)), some (.int (xI i)), none, none] [] k n false 97 sh D := by
  have hll := jq_ll h
  have hq := h.1
  have s0 := h.1.1.2.1
  have hMd := h.2.1.1
  have s62 := md_62 hMd
  have so := h.2.2.1
  have hrow : k_row T C (D 34) := h.1.2.2.2.1
  obtain ⟨hsk, hsB⟩ := row_B hrow
  have hT : T ≤ 8 := h.2.1.2.2.1
  have hC : C ≤ 10 := h.2.1.2.2.2.2.2.2.1
  have hc := c11_game (X := X) (l := l) hl hq (t := (xsv X (i + 1))) (u := (xsv X (i + 2))) (w := (xsv X (i + 3))) xsv_r xsv_r xsv_r
  obtain ⟨q, hqe⟩ : ∃ q, q = q_game T C G (D 34) (xsv X (i + 1)) (xsv X (i + 2)) (xsv X (i + 3)) := ⟨_, rfl⟩
  rw [← hqe] at hc
  have hO : o_okB q := by rw [hqe]; exact ok_game (W := W)
  have hw := wr_game hl (by decide) s0 so hO hc
  refine x_aload_n dL_law_1851 x_get_7_1 ?_
  refine x_aload_n dL_law_1852 x_get_7_0 ?_
  refine x_iload dL_law_1853 x_get_7_4 ?_
  refine x_iconst dL_law_1855 ?_
  refine x_iadd dL_law_1856 ?_
  refine x_slz dL_law_1857 (by omega) (by omega) hs ?_
  refine x_aload_n dL_law_1858 x_get_7_0 ?_
  refine x_iload dL_law_1859 x_get_7_4 ?_
  refine x_iconst dL_law_1861 ?_
  refine x_iadd dL_law_1862 ?_
  refine x_slz dL_law_1863 (by omega) (by omega) hs ?_
  refine x_aload_n dL_law_1864 x_get_7_0 ?_
  refine x_iload dL_law_1865 x_get_7_4 ?_
  refine x_iconst dL_law_1867 ?_
  refine x_iadd dL_law_1868 ?_
  refine x_slz dL_law_1869 (by omega) (by omega) hs ?_
  refine x_aload_n dL_law_1870 x_get_7_3 ?_
  refine x_callSH (As := [_, _, _, _, _]) dL_law_1871 ws_L_218 hw rfl rfl (Nat.le_of_ble_eq_true rfl) (Nat.le_of_ble_eq_true rfl) (Nat.le_of_ble_eq_true rfl) hk hn ?_
  rintro _ ⟨d1, hd1, rfl⟩
  obtain ⟨m1, m2, m3, m4, m5, m6, m7, m8, m9⟩ := jq_out (q := q) h (sc_62 (by omega) hd1)
  have hm := m_game (X := X) (l := l) hl m1 hsk hsB m2 m3 (t := (xsv X (i + 1))) (u := (xsv X (i + 2))) (w := (xsv X (i + 3))) xsv_r xsv_r xsv_r
  rw [← hqe] at hm
  refine x_istore dL_law_1874 (Nat.le_of_ble_eq_true rfl) rfl x_set_7_5 ?_
  refine x_aload_n dL_law_1876 x_get_7_2 ?_
  refine x_aload_n dL_law_1877 x_get_7_0 ?_
  refine x_iload dL_law_1878 x_get_7_4 ?_
  refine x_iconst dL_law_1880 ?_
  refine x_iadd dL_law_1881 ?_
  refine x_slz dL_law_1882 (by omega) (by omega) hs ?_
  refine x_aload_n dL_law_1883 x_get_7_0 ?_
  refine x_iload dL_law_1884 x_get_7_4 ?_
  refine x_iconst dL_law_1886 ?_
  refine x_iadd dL_law_1887 ?_
  refine x_slz dL_law_1888 (by omega) (by omega) hs ?_
  refine x_aload_n dL_law_1889 x_get_7_0 ?_
  refine x_iload dL_law_1890 x_get_7_4 ?_
  refine x_iconst dL_law_1892 ?_
  refine x_iadd dL_law_1893 ?_
  refine x_slz dL_law_1894 (by omega) (by omega) hs ?_
  refine x_callV (As := [_, _, _]) dL_law_1895 w_L_220 hm (by decide) s62 rfl rfl (Nat.le_of_ble_eq_true rfl) (Nat.le_of_ble_eq_true rfl) (Nat.le_of_ble_eq_true rfl) (show _ + 0 ≤ 601024 from hk) (show _ + 0 ≤ 7293034 from hn) ?_
  rintro d3 ⟨hms, h0⟩
  exact q_tail hl (jq_ask h hd1 hms) hO (Or.inr rfl) h0 (fun z hz => by rw [hms.1 96 (by decide) (by decide) (by decide) (by decide) (by decide), hz]; exact outw_96) hk hn hK dL_law_1898 dL_law_1900 dL_law_1901 dL_law_1904 dL_law_1906 dL_law_1911 dL_law_1913 dL_law_1916 dL_law_1917 dL_law_1918 dL_law_1919 dL_law_1921 dL_law_1922 dL_law_1923 dL_law_1928 (by decide)
set_option maxHeartbeats 2000000 in
theorem lc_years {X : xC} {l : Launch} {nm : String} {hh : List (Nat × Nat × Nat × Nat)} (hl : l.stackTraces = false) {sh : xS} {D : xM} {la lb T C W : Nat} {G : Ldt} {L : List (Int → Int)} {S : List (Int × Int × Int)} (h : jq sh D la lb T C W G L S) {i : Int} {k n : Nat} (hi0 : 0 ≤ i) (hi : i + 6 ≤ xsl X) (hs : xsl X ≤ 3072) (hk : k + 1 ≤ 601024) (hn : n + 6 ≤ 7293034) (hK : Kn X l nm hh i (k + 1) (n + 6)) : x_W (zL X l nm hh) 1931 [some (.ref (xsc X)), some (.ref (x_b X + 0)), some (.ref (x_b X + 62)), some (.ref (x_b X + 96)), some (.int (xI i)), none, none] [] k n false 97 sh D := by
  have hll := jq_ll h
  have hq := h.1
  have s0 := h.1.1.2.1
  have hMd := h.2.1.1
  have s62 := md_62 hMd
  have so := h.2.2.1
  have hrow : k_row T C (D 34) := h.1.2.2.2.1
  obtain ⟨hsk, hsB⟩ := row_B hrow
  have hT : T ≤ 8 := h.2.1.2.2.1
  have hC : C ≤ 10 := h.2.1.2.2.2.2.2.2.1
  have hc := c11_years (X := X) (l := l) hl hq (s := (xsv X (i + 1))) (n := (xsv X (i + 2))) (w := (xsv X (i + 3))) xsv_r xsv_r
  obtain ⟨q, hqe⟩ : ∃ q, q = q_years T C G (D 34) (xsv X (i + 1)) (xsv X (i + 2)) (xsv X (i + 3)) := ⟨_, rfl⟩
  rw [← hqe] at hc
  have hO : o_okB q := by rw [hqe]; exact ok_years (W := W)
  have hw := wr_years hl (by decide) s0 so hO hc
  refine x_aload_n dL_law_1931 x_get_7_1 ?_
  refine x_aload_n dL_law_1932 x_get_7_0 ?_
  refine x_iload dL_law_1933 x_get_7_4 ?_
  refine x_iconst dL_law_1935 ?_
  refine x_iadd dL_law_1936 ?_
  refine x_slz dL_law_1937 (by omega) (by omega) hs ?_
  refine x_aload_n dL_law_1938 x_get_7_0 ?_
  refine x_iload dL_law_1939 x_get_7_4 ?_
  refine x_iconst dL_law_1941 ?_
  refine x_iadd dL_law_1942 ?_
  refine x_slz dL_law_1943 (by omega) (by omega) hs ?_
  refine x_aload_n dL_law_1944 x_get_7_0 ?_
  refine x_iload dL_law_1945 x_get_7_4 ?_
  refine x_iconst dL_law_1947 ?_
  refine x_iadd dL_law_1948 ?_
  refine x_slz dL_law_1949 (by omega) (by omega) hs ?_
  refine x_aload_n dL_law_1950 x_get_7_3 ?_
  refine x_callSH (As := [_, _, _, _, _]) dL_law_1951 ws_L_221 hw rfl rfl (Nat.le_of_ble_eq_true rfl) (Nat.le_of_ble_eq_true rfl) (Nat.le_of_ble_eq_true rfl) hk hn ?_
  rintro _ ⟨d1, hd1, rfl⟩
  obtain ⟨m1, m2, m3, m4, m5, m6, m7, m8, m9⟩ := jq_out (q := q) h (sc_62 (by omega) hd1)
  have hm := m_years (X := X) (l := l) hl m1 hsk hsB m2 m3 (s := (xsv X (i + 1))) (n := (xsv X (i + 2))) (w := (xsv X (i + 3))) xsv_r xsv_r
  rw [← hqe] at hm
  refine x_istore dL_law_1954 (Nat.le_of_ble_eq_true rfl) rfl x_set_7_5 ?_
  refine x_aload_n dL_law_1956 x_get_7_2 ?_
  refine x_aload_n dL_law_1957 x_get_7_0 ?_
  refine x_iload dL_law_1958 x_get_7_4 ?_
  refine x_iconst dL_law_1960 ?_
  refine x_iadd dL_law_1961 ?_
  refine x_slz dL_law_1962 (by omega) (by omega) hs ?_
  refine x_aload_n dL_law_1963 x_get_7_0 ?_
  refine x_iload dL_law_1964 x_get_7_4 ?_
  refine x_iconst dL_law_1966 ?_
  refine x_iadd dL_law_1967 ?_
  refine x_slz dL_law_1968 (by omega) (by omega) hs ?_
  refine x_aload_n dL_law_1969 x_get_7_0 ?_
  refine x_iload dL_law_1970 x_get_7_4 ?_
  refine x_iconst dL_law_1972 ?_
  refine x_iadd dL_law_1973 ?_
  refine x_slz dL_law_1974 (by omega) (by omega) hs ?_
  refine x_callV (As := [_, _, _]) dL_law_1975 w_L_223 hm (by decide) s62 rfl rfl (Nat.le_of_ble_eq_true rfl) (Nat.le_of_ble_eq_true rfl) (Nat.le_of_ble_eq_true rfl) (show _ + 0 ≤ 601024 from hk) (show _ + 0 ≤ 7293034 from hn) ?_
  rintro d3 ⟨hms, h0⟩
  exact q_tail hl (jq_ask h hd1 hms) hO (Or.inr rfl) h0 (fun z hz => by rw [hms.1 96 (by decide) (by decide) (by decide) (by decide) (by decide), hz]; exact outw_96) hk hn hK dL_law_1978 dL_law_1980 dL_law_1981 dL_law_1984 dL_law_1986 dL_law_1991 dL_law_1993 dL_law_1996 dL_law_1997 dL_law_1998 dL_law_1999 dL_law_2001 dL_law_2002 dL_law_2003 dL_law_2008 (by decide)
set_option maxHeartbeats 2000000 in
theorem lc_thief {X : xC} {l : Launch} {nm : String} {hh : List (Nat × Nat × Nat × Nat)} (hl : l.stackTraces = false) {sh : xS} {D : xM} {la lb T C W : Nat} {G : Ldt} {L : List (Int → Int)} {S : List (Int × Int × Int)} (h : jq sh D la lb T C W G L S) {i : Int} {k n : Nat} (hi0 : 0 ≤ i) (hi : i + 6 ≤ xsl X) (hs : xsl X ≤ 3072) (hk : k + 1 ≤ 601024) (hn : n + 6 ≤ 7293034) (hK : Kn X l nm hh i (k + 1) (n + 6)) : x_W (zL X l nm hh) 2011 [some (.ref (xsc X)), some (.ref (x_b X + 0)), some (.ref (x_b X + 62)), some (.ref (x_b X + 96)), some (.int (xI i)), none, none] [] k n false 97 sh D := by
  have hll := jq_ll h
  have hq := h.1
  have s0 := h.1.1.2.1
  have hMd := h.2.1.1
  have s62 := md_62 hMd
  have so := h.2.2.1
  have hrow : k_row T C (D 34) := h.1.2.2.2.1
  obtain ⟨hsk, hsB⟩ := row_B hrow
  have hT : T ≤ 8 := h.2.1.2.2.1
  have hC : C ≤ 10 := h.2.1.2.2.2.2.2.2.1
  have hc := c11_thief (X := X) (l := l) hl hq (t := (xsv X (i + 1))) (ca := (xsv X (i + 2))) xsv_r xsv_r
  obtain ⟨q, hqe⟩ : ∃ q, q = q_thief T C (D 34) (xsv X (i + 1)) (xsv X (i + 2)) := ⟨_, rfl⟩
  rw [← hqe] at hc
  have hO : o_okB q := by rw [hqe]; exact ok_thief (W := W) (G := G)
  have hw := wr_thief hl (by decide) s0 so hO hc
  refine x_aload_n dL_law_2011 x_get_7_1 ?_
  refine x_aload_n dL_law_2012 x_get_7_0 ?_
  refine x_iload dL_law_2013 x_get_7_4 ?_
  refine x_iconst dL_law_2015 ?_
  refine x_iadd dL_law_2016 ?_
  refine x_slz dL_law_2017 (by omega) (by omega) hs ?_
  refine x_aload_n dL_law_2018 x_get_7_0 ?_
  refine x_iload dL_law_2019 x_get_7_4 ?_
  refine x_iconst dL_law_2021 ?_
  refine x_iadd dL_law_2022 ?_
  refine x_slz dL_law_2023 (by omega) (by omega) hs ?_
  refine x_aload_n dL_law_2024 x_get_7_3 ?_
  refine x_callSH (As := [_, _, _, _]) dL_law_2025 ws_L_224 hw rfl rfl (Nat.le_of_ble_eq_true rfl) (Nat.le_of_ble_eq_true rfl) (Nat.le_of_ble_eq_true rfl) hk hn ?_
  rintro _ ⟨d1, hd1, rfl⟩
  obtain ⟨m1, m2, m3, m4, m5, m6, m7, m8, m9⟩ := jq_out (q := q) h (sc_62 (by omega) hd1)
  have hm := m_thief (X := X) (l := l) hl m1 hsk hsB m2 m3 (t := (xsv X (i + 1))) (ca := (xsv X (i + 2))) xsv_r xsv_r
  rw [eq_thief hsk hC, ← hqe] at hm
  refine x_istore dL_law_2028 (Nat.le_of_ble_eq_true rfl) rfl x_set_7_5 ?_
  refine x_aload_n dL_law_2030 x_get_7_2 ?_
  refine x_aload_n dL_law_2031 x_get_7_0 ?_
  refine x_iload dL_law_2032 x_get_7_4 ?_
  refine x_iconst dL_law_2034 ?_
  refine x_iadd dL_law_2035 ?_
  refine x_slz dL_law_2036 (by omega) (by omega) hs ?_
  refine x_aload_n dL_law_2037 x_get_7_0 ?_
  refine x_iload dL_law_2038 x_get_7_4 ?_
  refine x_iconst dL_law_2040 ?_
  refine x_iadd dL_law_2041 ?_
  refine x_slz dL_law_2042 (by omega) (by omega) hs ?_
  refine x_callV (As := [_, _]) dL_law_2043 w_L_226 hm (by decide) s62 rfl rfl (Nat.le_of_ble_eq_true rfl) (Nat.le_of_ble_eq_true rfl) (Nat.le_of_ble_eq_true rfl) (show _ + 0 ≤ 601024 from hk) (show _ + 0 ≤ 7293034 from hn) ?_
  rintro d3 ⟨hms, h0⟩
  exact q_tail hl (jq_ask h hd1 hms) hO (Or.inr rfl) h0 (fun z hz => by rw [hms.1 96 (by decide) (by decide) (by decide) (by decide) (by decide), hz]; exact outw_96) hk hn hK dL_law_2046 dL_law_2048 dL_law_2049 dL_law_2052 dL_law_2054 dL_law_2059 dL_law_2061 dL_law_2064 dL_law_2065 dL_law_2066 dL_law_2067 dL_law_2069 dL_law_2070 dL_law_2071 dL_law_2076 (by decide)
set_option maxHeartbeats 2000000 in
theorem lc_row {X : xC} {l : Launch} {nm : String} {hh : List (Nat × Nat × Nat × Nat)} (hl : l.stackTraces = false) {sh : xS} {D : xM} {la lb T C W : Nat} {G : Ldt} {L : List (Int → Int)} {S : List (Int × Int × Int)} (h : jq sh D la lb T C W G L S) {i : Int} {k n : Nat} (hi0 : 0 ≤ i) (hi : i + 6 ≤ xsl X) (hs : xsl X ≤ 3072) (hk : k + 1 ≤ 601024) (hn : n + 6 ≤ 7293034) (hK : Kn X l nm hh i (k + 1) (n + 6)) : x_W (zL X l nm hh) 2079 [some (.ref (xsc X)), some (.ref (x_b X + 0)), some (.ref (x_b X + 62)), some (.ref (x_b X + 96)), some (.int (xI i)), none, none] [] k n false 97 sh D := by
  have hll := jq_ll h
  have hq := h.1
  have s0 := h.1.1.2.1
  have hMd := h.2.1.1
  have s62 := md_62 hMd
  have so := h.2.2.1
  have hrow : k_row T C (D 34) := h.1.2.2.2.1
  obtain ⟨hsk, hsB⟩ := row_B hrow
  have hT : T ≤ 8 := h.2.1.2.2.1
  have hC : C ≤ 10 := h.2.1.2.2.2.2.2.2.1
  have hc := c11_row (X := X) (l := l) hl hq (a := (xsv X (i + 1))) (b := (xsv X (i + 2))) (i := (xsv X (i + 3))) xsv_r xsv_r xsv_r
  obtain ⟨q, hqe⟩ : ∃ q, q = q_row T W (D (la + 3 + 1)) (D (la + 3 + 2)) (D (la + 3 + 3)) (D (la + 3 + 5)) (xsv X (i + 1)) (xsv X (i + 2)) (xsv X (i + 3)) := ⟨_, rfl⟩
  rw [← hqe] at hc
  have hO : o_okN q := by rw [hqe]; exact ok_row (C := C) (G := G) (f := D 34)
  have hw := wr_row hl (by decide) s0 so hO hc
  refine x_aload_n dL_law_2079 x_get_7_1 ?_
  refine x_aload_n dL_law_2080 x_get_7_0 ?_
  refine x_iload dL_law_2081 x_get_7_4 ?_
  refine x_iconst dL_law_2083 ?_
  refine x_iadd dL_law_2084 ?_
  refine x_slz dL_law_2085 (by omega) (by omega) hs ?_
  refine x_aload_n dL_law_2086 x_get_7_0 ?_
  refine x_iload dL_law_2087 x_get_7_4 ?_
  refine x_iconst dL_law_2089 ?_
  refine x_iadd dL_law_2090 ?_
  refine x_slz dL_law_2091 (by omega) (by omega) hs ?_
  refine x_aload_n dL_law_2092 x_get_7_0 ?_
  refine x_iload dL_law_2093 x_get_7_4 ?_
  refine x_iconst dL_law_2095 ?_
  refine x_iadd dL_law_2096 ?_
  refine x_slz dL_law_2097 (by omega) (by omega) hs ?_
  refine x_aload_n dL_law_2098 x_get_7_3 ?_
  refine x_callSH (As := [_, _, _, _, _]) dL_law_2099 ws_L_227 hw rfl rfl (Nat.le_of_ble_eq_true rfl) (Nat.le_of_ble_eq_true rfl) (Nat.le_of_ble_eq_true rfl) hk hn ?_
  rintro _ ⟨d1, hd1, rfl⟩
  obtain ⟨m1, m2, m3, m4, m5, m6, m7, m8, m9⟩ := jq_out (q := q) h (sc_62 (by omega) hd1)
  have hm := m_row (X := X) (l := l) hl m1 hsk hsB m2 m3 (a := (xsv X (i + 1))) (b := (xsv X (i + 2))) (i := (xsv X (i + 3))) m6 (x_next_st h.2.2.2.2.2.2.2.2.2.2.2.1.2.1 hT h.2.2.2.2.2.2.2.2.2.2.2.1.1.2.2.2.1) xsv_r xsv_r xsv_r
  rw [eq_row h.2.2.2.2.2.2.2.2.2.2.2.1 hT, ← hqe] at hm
  refine x_istore dL_law_2102 (Nat.le_of_ble_eq_true rfl) rfl x_set_7_5 ?_
  refine x_aload_n dL_law_2104 x_get_7_2 ?_
  refine x_aload_n dL_law_2105 x_get_7_0 ?_
  refine x_iload dL_law_2106 x_get_7_4 ?_
  refine x_iconst dL_law_2108 ?_
  refine x_iadd dL_law_2109 ?_
  refine x_slz dL_law_2110 (by omega) (by omega) hs ?_
  refine x_aload_n dL_law_2111 x_get_7_0 ?_
  refine x_iload dL_law_2112 x_get_7_4 ?_
  refine x_iconst dL_law_2114 ?_
  refine x_iadd dL_law_2115 ?_
  refine x_slz dL_law_2116 (by omega) (by omega) hs ?_
  refine x_aload_n dL_law_2117 x_get_7_0 ?_
  refine x_iload dL_law_2118 x_get_7_4 ?_
  refine x_iconst dL_law_2120 ?_
  refine x_iadd dL_law_2121 ?_
  refine x_slz dL_law_2122 (by omega) (by omega) hs ?_
  refine x_callV (As := [_, _, _]) dL_law_2123 w_L_229 hm (by decide) s62 rfl rfl (Nat.le_of_ble_eq_true rfl) (Nat.le_of_ble_eq_true rfl) (Nat.le_of_ble_eq_true rfl) (show _ + 0 ≤ 601024 from hk) (show _ + 0 ≤ 7293034 from hn) ?_
  rintro d3 ⟨hms, h0⟩
  exact q_tail hl (jq_ask h hd1 hms) (o_B_N hO) (Or.inl rfl) h0 (fun z hz => by rw [hms.1 96 (by decide) (by decide) (by decide) (by decide) (by decide), hz]; exact outw_96) hk hn hK dL_law_2126 dL_law_2128 dL_law_2129 dL_law_2132 dL_law_2134 dL_law_2139 dL_law_2141 dL_law_2144 dL_law_2145 dL_law_2146 dL_law_2147 dL_law_2149 dL_law_2150 dL_law_2151 dL_law_2156 (by decide)
set_option maxHeartbeats 2000000 in
theorem lc_bridge {X : xC} {l : Launch} {nm : String} {hh : List (Nat × Nat × Nat × Nat)} (hl : l.stackTraces = false) {sh : xS} {D : xM} {la lb T C W : Nat} {G : Ldt} {L : List (Int → Int)} {S : List (Int × Int × Int)} (h : jq sh D la lb T C W G L S) {i : Int} {k n : Nat} (hi0 : 0 ≤ i) (hi : i + 6 ≤ xsl X) (hs : xsl X ≤ 3072) (hk : k + 1 ≤ 601024) (hn : n + 6 ≤ 7293034) (hK : Kn X l nm hh i (k + 1) (n + 6)) : x_W (zL X l nm hh) 2172 [some (.ref (xsc X)), some (.ref (x_b X + 0)), some (.ref (x_b X + 62)), some (.ref (x_b X + 96)), some (.int (xI i)), none, none] [] k n false 97 sh D := by
  have hll := jq_ll h
  have hq := h.1
  have s0 := h.1.1.2.1
  have hMd := h.2.1.1
  have s62 := md_62 hMd
  have so := h.2.2.1
  have hrow : k_row T C (D 34) := h.1.2.2.2.1
  obtain ⟨hsk, hsB⟩ := row_B hrow
  have hT : T ≤ 8 := h.2.1.2.2.1
  have hC : C ≤ 10 := h.2.1.2.2.2.2.2.2.1
  have hc := c11_bridge (X := X) (l := l) hl hq (w := (xsv X (i + 1))) xsv_r
  obtain ⟨q, hqe⟩ : ∃ q, q = q_1t W (xsv X (i + 1)) (o_i (x_B (p_rr (D (la + 3 + 1)) (D (la + 3 + 2)) (xsv X (i + 1)) W (2 ^ (D (la + 3 + 1) (xsv X (i + 1))).toNat) T &&& 2 ^ (D (la + 3 + 2) (xsv X (i + 1))).toNat = 0))) := ⟨_, rfl⟩
  rw [← hqe] at hc
  have hO : (∃ z : Int, (z = 0 ∨ z = 1) ∧ q = o_i z) ∨ q = .inr x_NSE := by rw [hqe]; exact ok_1tB
  have hw := wr_bridge hl (by decide) s0 so hO hc
  refine x_aload_n dL_law_2172 x_get_7_1 ?_
  refine x_aload_n dL_law_2173 x_get_7_0 ?_
  refine x_iload dL_law_2174 x_get_7_4 ?_
  refine x_iconst dL_law_2176 ?_
  refine x_iadd dL_law_2177 ?_
  refine x_slz dL_law_2178 (by omega) (by omega) hs ?_
  refine x_aload_n dL_law_2179 x_get_7_3 ?_
  refine x_callSH (As := [_, _, _]) dL_law_2180 ws_L_234 hw rfl rfl (Nat.le_of_ble_eq_true rfl) (Nat.le_of_ble_eq_true rfl) (Nat.le_of_ble_eq_true rfl) hk hn ?_
  rintro _ ⟨d1, hd1, rfl⟩
  obtain ⟨m1, m2, m3, m4, m5, m6, m7, m8, m9⟩ := jq_out (q := q) h (sc_62 (by omega) hd1)
  have hm := m_bridge (X := X) (l := l) hl m1 hsk hsB m2 m3 (w := (xsv X (i + 1))) m6 xsv_r
  rw [eq_bridge h.2.2.2.2.2.2.2.2.2.2.2.1 hT, ← hqe] at hm
  refine x_istore dL_law_2183 (Nat.le_of_ble_eq_true rfl) rfl x_set_7_5 ?_
  refine x_aload_n dL_law_2185 x_get_7_2 ?_
  refine x_aload_n dL_law_2186 x_get_7_0 ?_
  refine x_iload dL_law_2187 x_get_7_4 ?_
  refine x_iconst dL_law_2189 ?_
  refine x_iadd dL_law_2190 ?_
  refine x_slz dL_law_2191 (by omega) (by omega) hs ?_
  refine x_callV (As := [_]) dL_law_2192 w_L_236 hm (by decide) s62 rfl rfl (Nat.le_of_ble_eq_true rfl) (Nat.le_of_ble_eq_true rfl) (Nat.le_of_ble_eq_true rfl) (show _ + 0 ≤ 601024 from hk) (show _ + 0 ≤ 7293034 from hn) ?_
  rintro d3 ⟨hms, h0⟩
  exact q_tailB hl (jq_ask h hd1 hms) hO h0 (fun z hz => by rw [hms.1 96 (by decide) (by decide) (by decide) (by decide) (by decide), hz]; exact outw_96) hk hn hK dL_law_2195 dL_law_2197 dL_law_2198 dL_law_2201 dL_law_2203 dL_law_2208 dL_law_2210 dL_law_2213 dL_law_2214 dL_law_2215 dL_law_2216 dL_law_2218 dL_law_2221 dL_law_2222 dL_law_2225 dL_law_2226 dL_law_2227 dL_law_2232 (by decide)
set_option maxHeartbeats 2000000 in
theorem lc_streak {X : xC} {l : Launch} {nm : String} {hh : List (Nat × Nat × Nat × Nat)} (hl : l.stackTraces = false) {sh : xS} {D : xM} {la lb T C W : Nat} {G : Ldt} {L : List (Int → Int)} {S : List (Int × Int × Int)} (h : jq sh D la lb T C W G L S) {i : Int} {k n : Nat} (hi0 : 0 ≤ i) (hi : i + 6 ≤ xsl X) (hs : xsl X ≤ 3072) (hk : k + 1 ≤ 601024) (hn : n + 6 ≤ 7293034) (hK : Kn X l nm hh i (k + 1) (n + 6)) : x_W (zL X l nm hh) 2235 [some (.ref (xsc X)), some (.ref (x_b X + 0)), some (.ref (x_b X + 62)), some (.ref (x_b X + 96)), some (.int (xI i)), none, none] [] k n false 97 sh D := by
  have hll := jq_ll h
  have hq := h.1
  have s0 := h.1.1.2.1
  have hMd := h.2.1.1
  have s62 := md_62 hMd
  have so := h.2.2.1
  have hrow : k_row T C (D 34) := h.1.2.2.2.1
  obtain ⟨hsk, hsB⟩ := row_B hrow
  have hT : T ≤ 8 := h.2.1.2.2.1
  have hC : C ≤ 10 := h.2.1.2.2.2.2.2.2.1
  have hc := c11_streak (X := X) (l := l) hl hq (t := (xsv X (i + 1))) (n := (xsv X (i + 2))) xsv_r xsv_r
  obtain ⟨q, hqe⟩ : ∃ q, q = q_streak T C G (D 34) (xsv X (i + 1)) (xsv X (i + 2)) := ⟨_, rfl⟩
  rw [← hqe] at hc
  have hO : o_okB q := by rw [hqe]; exact ok_streak (W := W)
  have hw := wr_streak hl (by decide) s0 so hO hc
  refine x_aload_n dL_law_2235 x_get_7_1 ?_
  refine x_aload_n dL_law_2236 x_get_7_0 ?_
  refine x_iload dL_law_2237 x_get_7_4 ?_
  refine x_iconst dL_law_2239 ?_
  refine x_iadd dL_law_2240 ?_
  refine x_slz dL_law_2241 (by omega) (by omega) hs ?_
  refine x_aload_n dL_law_2242 x_get_7_0 ?_
  refine x_iload dL_law_2243 x_get_7_4 ?_
  refine x_iconst dL_law_2245 ?_
  refine x_iadd dL_law_2246 ?_
  refine x_slz dL_law_2247 (by omega) (by omega) hs ?_
  refine x_aload_n dL_law_2248 x_get_7_3 ?_
  refine x_callSH (As := [_, _, _, _]) dL_law_2249 ws_L_237 hw rfl rfl (Nat.le_of_ble_eq_true rfl) (Nat.le_of_ble_eq_true rfl) (Nat.le_of_ble_eq_true rfl) hk hn ?_
  rintro _ ⟨d1, hd1, rfl⟩
  obtain ⟨m1, m2, m3, m4, m5, m6, m7, m8, m9⟩ := jq_out (q := q) h (sc_62 (by omega) hd1)
  have hm := m_streak (X := X) (l := l) hl m1 hsk hsB m2 m3 (t := (xsv X (i + 1))) (n := (xsv X (i + 2))) xsv_r xsv_r
  rw [← hqe] at hm
  refine x_istore dL_law_2252 (Nat.le_of_ble_eq_true rfl) rfl x_set_7_5 ?_
  refine x_aload_n dL_law_2254 x_get_7_2 ?_
  refine x_aload_n dL_law_2255 x_get_7_0 ?_
  refine x_iload dL_law_2256 x_get_7_4 ?_
  refine x_iconst dL_law_2258 ?_
  refine x_iadd dL_law_2259 ?_
  refine x_slz dL_law_2260 (by omega) (by omega) hs ?_
  refine x_aload_n dL_law_2261 x_get_7_0 ?_
  refine x_iload dL_law_2262 x_get_7_4 ?_
  refine x_iconst dL_law_2264 ?_
  refine x_iadd dL_law_2265 ?_
  refine x_slz dL_law_2266 (by omega) (by omega) hs ?_
  refine x_callV (As := [_, _]) dL_law_2267 w_L_239 hm (by decide) s62 rfl rfl (Nat.le_of_ble_eq_true rfl) (Nat.le_of_ble_eq_true rfl) (Nat.le_of_ble_eq_true rfl) (show _ + 0 ≤ 601024 from hk) (show _ + 0 ≤ 7293034 from hn) ?_
  rintro d3 ⟨hms, h0⟩
  exact q_tail hl (jq_ask h hd1 hms) hO (Or.inr rfl) h0 (fun z hz => by rw [hms.1 96 (by decide) (by decide) (by decide) (by decide) (by decide), hz]; exact outw_96) hk hn hK dL_law_2270 dL_law_2272 dL_law_2273 dL_law_2276 dL_law_2278 dL_law_2283 dL_law_2285 dL_law_2288 dL_law_2289 dL_law_2290 dL_law_2291 dL_law_2293 dL_law_2294 dL_law_2295 dL_law_2300 (by decide)
set_option maxHeartbeats 2000000 in
theorem lc_day {X : xC} {l : Launch} {nm : String} {hh : List (Nat × Nat × Nat × Nat)} (hl : l.stackTraces = false) {sh : xS} {D : xM} {la lb T C W : Nat} {G : Ldt} {L : List (Int → Int)} {S : List (Int × Int × Int)} (h : jq sh D la lb T C W G L S) {i : Int} {k n : Nat} (hi0 : 0 ≤ i) (hi : i + 6 ≤ xsl X) (hs : xsl X ≤ 3072) (hk : k + 1 ≤ 601024) (hn : n + 6 ≤ 7293034) (hK : Kn X l nm hh i (k + 1) (n + 6)) : x_W (zL X l nm hh) 2303 [some (.ref (xsc X)), some (.ref (x_b X + 0)), some (.ref (x_b X + 62)), some (.ref (x_b X + 96)), some (.int (xI i)), none, none] [] k n false 97 sh D := by
  have hll := jq_ll h
  have hq := h.1
  have s0 := h.1.1.2.1
  have hMd := h.2.1.1
  have s62 := md_62 hMd
  have so := h.2.2.1
  have hrow : k_row T C (D 34) := h.1.2.2.2.1
  obtain ⟨hsk, hsB⟩ := row_B hrow
  have hT : T ≤ 8 := h.2.1.2.2.1
  have hC : C ≤ 10 := h.2.1.2.2.2.2.2.2.1
  have hc := c11_day (X := X) (l := l) hl hq (n := (xsv X (i + 1))) (w := (xsv X (i + 2))) xsv_r xsv_r
  obtain ⟨q, hqe⟩ : ∃ q, q = q_day T C G (D 34) (xsv X (i + 1)) (xsv X (i + 2)) := ⟨_, rfl⟩
  rw [← hqe] at hc
  have hO : o_okB q := by rw [hqe]; exact ok_day (W := W)
  have hw := wr_day hl (by decide) s0 so hO hc
  refine x_aload_n dL_law_2303 x_get_7_1 ?_
  refine x_aload_n dL_law_2304 x_get_7_0 ?_
  refine x_iload dL_law_2305 x_get_7_4 ?_
  refine x_iconst dL_law_2307 ?_
  refine x_iadd dL_law_2308 ?_
  refine x_slz dL_law_2309 (by omega) (by omega) hs ?_
  refine x_aload_n dL_law_2310 x_get_7_0 ?_
  refine x_iload dL_law_2311 x_get_7_4 ?_
  refine x_iconst dL_law_2313 ?_
  refine x_iadd dL_law_2314 ?_
  refine x_slz dL_law_2315 (by omega) (by omega) hs ?_
  refine x_aload_n dL_law_2316 x_get_7_3 ?_
  refine x_callSH (As := [_, _, _, _]) dL_law_2317 ws_L_240 hw rfl rfl (Nat.le_of_ble_eq_true rfl) (Nat.le_of_ble_eq_true rfl) (Nat.le_of_ble_eq_true rfl) hk hn ?_
  rintro _ ⟨d1, hd1, rfl⟩
  obtain ⟨m1, m2, m3, m4, m5, m6, m7, m8, m9⟩ := jq_out (q := q) h (sc_62 (by omega) hd1)
  have hm := m_day (X := X) (l := l) hl m1 hsk hsB m2 m3 (n := (xsv X (i + 1))) (w := (xsv X (i + 2))) xsv_r xsv_r
  rw [← hqe] at hm
  refine x_istore dL_law_2320 (Nat.le_of_ble_eq_true rfl) rfl x_set_7_5 ?_
  refine x_aload_n dL_law_2322 x_get_7_2 ?_
  refine x_aload_n dL_law_2323 x_get_7_0 ?_
  refine x_iload dL_law_2324 x_get_7_4 ?_
  refine x_iconst dL_law_2326 ?_
  refine x_iadd dL_law_2327 ?_
  refine x_slz dL_law_2328 (by omega) (by omega) hs ?_
  refine x_aload_n dL_law_2329 x_get_7_0 ?_
  refine x_iload dL_law_2330 x_get_7_4 ?_
  refine x_iconst dL_law_2332 ?_
  refine x_iadd dL_law_2333 ?_
  refine x_slz dL_law_2334 (by omega) (by omega) hs ?_
  refine x_callV (As := [_, _]) dL_law_2335 w_L_242 hm (by decide) s62 rfl rfl (Nat.le_of_ble_eq_true rfl) (Nat.le_of_ble_eq_true rfl) (Nat.le_of_ble_eq_true rfl) (show _ + 0 ≤ 601024 from hk) (show _ + 0 ≤ 7293034 from hn) ?_
  rintro d3 ⟨hms, h0⟩
  exact q_tail hl (jq_ask h hd1 hms) hO (Or.inr rfl) h0 (fun z hz => by rw [hms.1 96 (by decide) (by decide) (by decide) (by decide) (by decide), hz]; exact outw_96) hk hn hK dL_law_2338 dL_law_2340 dL_law_2341 dL_law_2344 dL_law_2346 dL_law_2351 dL_law_2353 dL_law_2356 dL_law_2357 dL_law_2358 dL_law_2359 dL_law_2361 dL_law_2362 dL_law_2363 dL_law_2368 (by decide)
set_option maxHeartbeats 2000000 in
theorem lc_level {X : xC} {l : Launch} {nm : String} {hh : List (Nat × Nat × Nat × Nat)} (hl : l.stackTraces = false) {sh : xS} {D : xM} {la lb T C W : Nat} {G : Ldt} {L : List (Int → Int)} {S : List (Int × Int × Int)} (h : jq sh D la lb T C W G L S) {i : Int} {k n : Nat} (hi0 : 0 ≤ i) (hi : i + 6 ≤ xsl X) (hs : xsl X ≤ 3072) (hk : k + 1 ≤ 601024) (hn : n + 6 ≤ 7293034) (hK : Kn X l nm hh i (k + 1) (n + 6)) : x_W (zL X l nm hh) 2371 [some (.ref (xsc X)), some (.ref (x_b X + 0)), some (.ref (x_b X + 62)), some (.ref (x_b X + 96)), some (.int (xI i)), none, none] [] k n false 97 sh D := by
  have hll := jq_ll h
  have hq := h.1
  have s0 := h.1.1.2.1
  have hMd := h.2.1.1
  have s62 := md_62 hMd
  have so := h.2.2.1
  have hrow : k_row T C (D 34) := h.1.2.2.2.1
  obtain ⟨hsk, hsB⟩ := row_B hrow
  have hT : T ≤ 8 := h.2.1.2.2.1
  have hC : C ≤ 10 := h.2.1.2.2.2.2.2.2.1
  have hc := c11_level (X := X) (l := l) hl hq (t := (xsv X (i + 1))) xsv_r
  obtain ⟨q, hqe⟩ : ∃ q, q = q_level T C (D 34) (xsv X (i + 1)) := ⟨_, rfl⟩
  rw [← hqe] at hc
  have hO : o_okN q := by rw [hqe]; exact ok_level (W := W) (G := G)
  have hw := wr_level hl (by decide) s0 so hO hc
  refine x_aload_n dL_law_2371 x_get_7_1 ?_
  refine x_aload_n dL_law_2372 x_get_7_0 ?_
  refine x_iload dL_law_2373 x_get_7_4 ?_
  refine x_iconst dL_law_2375 ?_
  refine x_iadd dL_law_2376 ?_
  refine x_slz dL_law_2377 (by omega) (by omega) hs ?_
  refine x_aload_n dL_law_2378 x_get_7_3 ?_
  refine x_callSH (As := [_, _, _]) dL_law_2379 ws_L_243 hw rfl rfl (Nat.le_of_ble_eq_true rfl) (Nat.le_of_ble_eq_true rfl) (Nat.le_of_ble_eq_true rfl) hk hn ?_
  rintro _ ⟨d1, hd1, rfl⟩
  obtain ⟨m1, m2, m3, m4, m5, m6, m7, m8, m9⟩ := jq_out (q := q) h (sc_62 (by omega) hd1)
  have hm := m_level (X := X) (l := l) hl m1 hsk hsB m2 m3 (t := (xsv X (i + 1))) xsv_r
  rw [eq_level hsk hC, ← hqe] at hm
  refine x_istore dL_law_2382 (Nat.le_of_ble_eq_true rfl) rfl x_set_7_5 ?_
  refine x_aload_n dL_law_2384 x_get_7_2 ?_
  refine x_aload_n dL_law_2385 x_get_7_0 ?_
  refine x_iload dL_law_2386 x_get_7_4 ?_
  refine x_iconst dL_law_2388 ?_
  refine x_iadd dL_law_2389 ?_
  refine x_slz dL_law_2390 (by omega) (by omega) hs ?_
  refine x_callV (As := [_]) dL_law_2391 w_L_245 hm (by decide) s62 rfl rfl (Nat.le_of_ble_eq_true rfl) (Nat.le_of_ble_eq_true rfl) (Nat.le_of_ble_eq_true rfl) (show _ + 0 ≤ 601024 from hk) (show _ + 0 ≤ 7293034 from hn) ?_
  rintro d3 ⟨hms, h0⟩
  exact q_tail hl (jq_ask h hd1 hms) (o_B_N hO) (Or.inl rfl) h0 (fun z hz => by rw [hms.1 96 (by decide) (by decide) (by decide) (by decide) (by decide), hz]; exact outw_96) hk hn hK dL_law_2394 dL_law_2396 dL_law_2397 dL_law_2400 dL_law_2402 dL_law_2407 dL_law_2409 dL_law_2412 dL_law_2413 dL_law_2414 dL_law_2415 dL_law_2417 dL_law_2418 dL_law_2419 dL_law_2424 (by decide)
set_option maxHeartbeats 2000000 in
theorem lc_lend {X : xC} {l : Launch} {nm : String} {hh : List (Nat × Nat × Nat × Nat)} (hl : l.stackTraces = false) {sh : xS} {D : xM} {la lb T C W : Nat} {G : Ldt} {L : List (Int → Int)} {S : List (Int × Int × Int)} (h : jq sh D la lb T C W G L S) {i : Int} {k n : Nat} (hi0 : 0 ≤ i) (hi : i + 6 ≤ xsl X) (hs : xsl X ≤ 3072) (hk : k + 1 ≤ 601024) (hn : n + 6 ≤ 7293034) (hK : Kn X l nm hh i (k + 1) (n + 6)) : x_W (zL X l nm hh) 2427 [some (.ref (xsc X)), some (.ref (x_b X + 0)), some (.ref (x_b X + 62)), some (.ref (x_b X + 96)), some (.int (xI i)), none, none] [] k n false 97 sh D := by
  have hll := jq_ll h
  have hq := h.1
  have s0 := h.1.1.2.1
  have hMd := h.2.1.1
  have s62 := md_62 hMd
  have so := h.2.2.1
  have hrow : k_row T C (D 34) := h.1.2.2.2.1
  obtain ⟨hsk, hsB⟩ := row_B hrow
  have hT : T ≤ 8 := h.2.1.2.2.1
  have hC : C ≤ 10 := h.2.1.2.2.2.2.2.2.1
  have hc := c11_lend (X := X) (l := l) hl hq (t := (xsv X (i + 1))) xsv_r
  obtain ⟨q, hqe⟩ : ∃ q, q = q_lend T G (D 34) (xsv X (i + 1)) := ⟨_, rfl⟩
  rw [← hqe] at hc
  have hO : o_okN q := by rw [hqe]; exact ok_lend (C := C) (W := W)
  have hw := wr_lend hl (by decide) s0 so hO hc
  refine x_aload_n dL_law_2427 x_get_7_1 ?_
  refine x_aload_n dL_law_2428 x_get_7_0 ?_
  refine x_iload dL_law_2429 x_get_7_4 ?_
  refine x_iconst dL_law_2431 ?_
  refine x_iadd dL_law_2432 ?_
  refine x_slz dL_law_2433 (by omega) (by omega) hs ?_
  refine x_aload_n dL_law_2434 x_get_7_3 ?_
  refine x_callSH (As := [_, _, _]) dL_law_2435 ws_L_246 hw rfl rfl (Nat.le_of_ble_eq_true rfl) (Nat.le_of_ble_eq_true rfl) (Nat.le_of_ble_eq_true rfl) hk hn ?_
  rintro _ ⟨d1, hd1, rfl⟩
  obtain ⟨m1, m2, m3, m4, m5, m6, m7, m8, m9⟩ := jq_out (q := q) h (sc_62 (by omega) hd1)
  have hm := m_lend (X := X) (l := l) hl m1 hsk hsB m2 m3 (t := (xsv X (i + 1))) xsv_r
  rw [← hqe] at hm
  refine x_istore dL_law_2438 (Nat.le_of_ble_eq_true rfl) rfl x_set_7_5 ?_
  refine x_aload_n dL_law_2440 x_get_7_2 ?_
  refine x_aload_n dL_law_2441 x_get_7_0 ?_
  refine x_iload dL_law_2442 x_get_7_4 ?_
  refine x_iconst dL_law_2444 ?_
  refine x_iadd dL_law_2445 ?_
  refine x_slz dL_law_2446 (by omega) (by omega) hs ?_
  refine x_callV (As := [_]) dL_law_2447 w_L_248 hm (by decide) s62 rfl rfl (Nat.le_of_ble_eq_true rfl) (Nat.le_of_ble_eq_true rfl) (Nat.le_of_ble_eq_true rfl) (show _ + 0 ≤ 601024 from hk) (show _ + 0 ≤ 7293034 from hn) ?_
  rintro d3 ⟨hms, h0⟩
  exact q_tail hl (jq_ask h hd1 hms) (o_B_N hO) (Or.inl rfl) h0 (fun z hz => by rw [hms.1 96 (by decide) (by decide) (by decide) (by decide) (by decide), hz]; exact outw_96) hk hn hK dL_law_2450 dL_law_2452 dL_law_2453 dL_law_2456 dL_law_2458 dL_law_2463 dL_law_2465 dL_law_2468 dL_law_2469 dL_law_2470 dL_law_2471 dL_law_2473 dL_law_2474 dL_law_2475 dL_law_2480 (by decide)
end L7
