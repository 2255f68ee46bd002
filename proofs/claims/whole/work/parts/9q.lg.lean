set_option maxRecDepth 20000 in
theorem ggL_law_L_due : GoodIn wsL_law wsL_due := goodIn_ca (goodIn_r _ [991, 207, 992, 993, 994, 2, 995, 34, 972, 417, 418, 419, 420, 19, 421, 123, 124, 125, 16, 126, 127, 220, 221, 222, 223, 224, 225, 226, 227, 228, 229, 230, 231, 232, 233, 234, 235, 236, 237, 238, 239, 240, 41, 754, 755, 756, 369, 757, 385, 465, 466, 758, 471, 472, 978, 979, 980, 981, 390, 297, 298, 299, 300, 25, 301, 302, 303, 122, 304, 137, 305, 306, 307, 308, 136, 309, 310, 311, 24, 312, 313, 314, 315, 316, 56, 1062, 1063, 1064, 1065, 1066, 1067, 1068, 1069, 1070, 1071, 1072, 1131, 1132, 1133, 1134, 1135, 1136, 1137, 1138, 1139, 1140, 1121, 1122, 1123, 1141, 1142, 1143, 1144, 1145, 1146, 1147, 1148, 1149, 1129, 1130, 1124] (by decide +kernel) (by decide +kernel)) (goodIn_sub (fun _ h => List.mem_append_left _ (List.mem_append_left _ (List.mem_append_right _ h))) (by decide +kernel))
set_option maxRecDepth 20000 in
theorem gL_law_L_due : GoodIn wsL_law (va_wsS RL 231 yL_due wsL_due) := goodIn_app (goodIn_of _ (by decide +kernel)) ggL_law_L_due
set_option maxRecDepth 20000 in
theorem ggL_law_X11_due : GoodIn wsL_law wsX11_due := goodIn_r _ [999, 194, 75, 287, 80, 434, 435, 436, 5, 437, 403, 196, 197, 198, 199, 820, 821, 822, 823, 86, 85, 84, 986, 987, 988, 322, 323, 324, 325, 74, 73, 326, 327, 328, 329, 72, 1073, 1074, 1075, 1076, 1077, 1078, 1079, 1080, 1081, 1082, 1083, 1084, 1085, 1086, 1087, 1088, 1089, 1090, 1091, 1092, 1093, 1094, 1095, 1096, 1097, 1098, 1099, 1100, 1101, 1102, 1103, 1104, 1105, 1106, 1107, 1108, 1109, 1110, 1111, 1112, 1113, 1114, 1115, 1116, 1117, 1118, 1119, 1120] (by decide +kernel) (by decide +kernel)
set_option maxRecDepth 20000 in
theorem gL_law_X11_due : GoodIn wsL_law (wsV RL 233 RX11 yX11_due wsX11_due) := goodIn_app (goodIn_of _ (by decide +kernel)) ggL_law_X11_due
theorem dL_law_2047 : decode cL_law 2047 = .ok (.aload_n 1, 1) := by decide +kernel
theorem dL_law_2048 : decode cL_law 2048 = .ok (.aload_n 0, 1) := by decide +kernel
theorem dL_law_2049 : decode cL_law 2049 = .ok (.iload 4, 2) := by decide +kernel
theorem dL_law_2051 : decode cL_law 2051 = .ok (.iconst 1, 1) := by decide +kernel
theorem dL_law_2052 : decode cL_law 2052 = .ok (.iadd, 1) := by decide +kernel
theorem dL_law_2053 : decode cL_law 2053 = .ok (.iaload, 1) := by decide +kernel
theorem dL_law_2054 : decode cL_law 2054 = .ok (.aload_n 3, 1) := by decide +kernel
theorem dL_law_2055 : decode cL_law 2055 = .ok (.invokestatic 231, 3) := by decide +kernel
theorem dL_law_2058 : decode cL_law 2058 = .ok (.istore 5, 2) := by decide +kernel
theorem dL_law_2060 : decode cL_law 2060 = .ok (.aload_n 2, 1) := by decide +kernel
theorem dL_law_2061 : decode cL_law 2061 = .ok (.aload_n 0, 1) := by decide +kernel
theorem dL_law_2062 : decode cL_law 2062 = .ok (.iload 4, 2) := by decide +kernel
theorem dL_law_2064 : decode cL_law 2064 = .ok (.iconst 1, 1) := by decide +kernel
theorem dL_law_2065 : decode cL_law 2065 = .ok (.iadd, 1) := by decide +kernel
theorem dL_law_2066 : decode cL_law 2066 = .ok (.iaload, 1) := by decide +kernel
theorem dL_law_2067 : decode cL_law 2067 = .ok (.invokevirtual 233, 3) := by decide +kernel
theorem dL_law_2070 : decode cL_law 2070 = .ok (.istore 6, 2) := by decide +kernel
theorem dL_law_2072 : decode cL_law 2072 = .ok (.aload_n 2, 1) := by decide +kernel
theorem dL_law_2073 : decode cL_law 2073 = .ok (.invokevirtual 136, 3) := by decide +kernel
theorem dL_law_2076 : decode cL_law 2076 = .ok (.iload 5, 2) := by decide +kernel
theorem dL_law_2078 : decode cL_law 2078 = .ok (.if_icmp .eq 5, 3) := by decide +kernel
theorem dL_law_2081 : decode cL_law 2081 = .ok (.iconst 0, 1) := by decide +kernel
theorem dL_law_2082 : decode cL_law 2082 = .ok (.ireturn, 1) := by decide +kernel
theorem dL_law_2083 : decode cL_law 2083 = .ok (.iload 5, 2) := by decide +kernel
theorem dL_law_2085 : decode cL_law 2085 = .ok (.ifCond .ne 15, 3) := by decide +kernel
theorem dL_law_2088 : decode cL_law 2088 = .ok (.aload_n 3, 1) := by decide +kernel
theorem dL_law_2089 : decode cL_law 2089 = .ok (.iconst 0, 1) := by decide +kernel
theorem dL_law_2090 : decode cL_law 2090 = .ok (.laload, 1) := by decide +kernel
theorem dL_law_2091 : decode cL_law 2091 = .ok (.iload 6, 2) := by decide +kernel
theorem dL_law_2093 : decode cL_law 2093 = .ok (.i2l, 1) := by decide +kernel
theorem dL_law_2094 : decode cL_law 2094 = .ok (.lcmp, 1) := by decide +kernel
theorem dL_law_2095 : decode cL_law 2095 = .ok (.ifCond .eq 5, 3) := by decide +kernel
theorem dL_law_2098 : decode cL_law 2098 = .ok (.iconst 0, 1) := by decide +kernel
theorem dL_law_2099 : decode cL_law 2099 = .ok (.ireturn, 1) := by decide +kernel
theorem dL_law_2100 : decode cL_law 2100 = .ok (.goto 233, 3) := by decide +kernel
set_option maxRecDepth 20000 in
set_option maxHeartbeats 4000000 in
theorem lc_due {p : Program} {l : Launch} {e : Env} {s : State} {m : MethodId} {below : List Frame} {meth : Method} {c : Code} {H : Heap} {locs : List Loc} {cells slots : Nat} {Q : State → Prop} {ls : Array Slot} {D : va_G} {cy : Nat → ClassId} {d0 : Nat} {la : Nat → Int → Nat} {σ : MS} {o a b L x : Nat} {ad : Nat → Nat} {xs : Nat → Int32} {n i : Int} (hlt : l.stackTraces = false) (G : lG p s m c b L xs D cy d0 a o ad) (hB : lB D cy d0 (lA s a o ad) o ad a x n la σ H) (hS : va_S (l9 s) s.heap H locs) (hn : n + 1 ≤ 600) (hi : 0 ≤ i ∧ i + 5 ≤ L) (hf : cells + 24 ≤ room_1.cells ∧ slots + 2100 ≤ room_1.slots) (hl : lv_has ls 8 (lL b x o a i)) (kk : lNext p l e s m below meth c Q D cy d0 a o ad b x i n cells slots) : W p l e room_1 s m #[Value.ref b] below meth c H locs cells slots Q (F0 m 2047 ls []) := by
  have B := G.1.1
  have hts := G.1.2.2.2.1
  obtain ⟨hCP, hM, I, hcp, ho, rfl⟩ := id hB
  refine x_aload_n B hl dL_law_2047 rfl ?_
  refine ls_rd (k := 1) G hS hl rfl rfl hi ⟨by decide, by decide⟩ dL_law_2048 dL_law_2049 dL_law_2051 dL_law_2052 dL_law_2053 ?_
  refine x_aload_n B hl dL_law_2054 rfl ?_
  refine ls_w (av := [.ref (la 0 0), .int (iI (lX xs i 1)), .ref a]) (rest := []) G hB hS hl (wr_due l hlt D cy d0 (lA s a o ad) la σ (lX_r xs i 1) I hn hCP.2.2.2.2.2.1 hcp (fun h => h.2.1 rfl)) (vx_cwSW 3 hts gL_law_L_due rfl rfl rfl (by decide +kernel) ⟨Nat.le_of_ble_eq_true rfl, Nat.le_of_ble_eq_true rfl⟩) rfl rfl (by decide) dL_law_2055 ⟨by decide, by decide⟩ hf (fun H1 locs1 hQ hM1 hS1 => ?_)
  refine x_istore B hl dL_law_2058 (by decide) (fun ls hl => ?_)
  refine x_aload_n B hl dL_law_2060 rfl ?_
  refine ls_rd (k := 1) G hS1 hl rfl rfl hi ⟨by decide, by decide⟩ dL_law_2061 dL_law_2062 dL_law_2064 dL_law_2065 dL_law_2066 ?_
  refine ls_m (av := [.int (iI (lX xs i 1))]) (rest := []) G hQ hM1 I hn hcp hS1 hl (m_p_due l D cy o ad σ I.s (lX_r xs i 1)) (cwV 1 hts gL_law_X11_due rfl rfl rfl (by decide +kernel) ⟨Nat.le_of_ble_eq_true rfl, Nat.le_of_ble_eq_true rfl⟩) rfl rfl (by decide) dL_law_2067 hf (fun H2 locs2 la2 σ2 hB2 e0 ho2 hS2 => ?_)
  refine x_istore B hl dL_law_2070 (by decide) (fun ls hl => ?_)
  exact ls_endI G hB2 e0 ho2 hS2 (lv_key hl [(6, _), (5, _), (0, _), (1, _), (2, _), (3, _), (4, _)] rfl) (cwV 0 hts gL_law_X11_thrown rfl rfl rfl (by decide +kernel) ⟨Nat.le_of_ble_eq_true rfl, Nat.le_of_ble_eq_true rfl⟩) hf dL_law_2072 dL_law_2073 dL_law_2076 dL_law_2078 dL_law_2083 dL_law_2085 dL_law_2088 dL_law_2089 dL_law_2090 dL_law_2091 dL_law_2093 dL_law_2094 dL_law_2095 dL_law_2100 (by decide) (fun H3 locs3 ls3 h1 h2 h3 => kk H3 locs3 la2 σ2 ls3 h1 h2 h3)
set_option maxRecDepth 20000 in
theorem ggL_law_L_load : GoodIn wsL_law wsL_load := goodIn_ca (goodIn_ca (goodIn_r _ [1002, 207, 664, 1003, 1004, 1005, 2, 1006, 213, 858, 696, 973, 592, 593, 594, 595, 20, 596, 123, 124, 125, 16, 126, 127, 220, 221, 222, 223, 224, 225, 226, 227, 228, 229, 230, 231, 232, 233, 234, 235, 236, 237, 238, 239, 240, 41, 245, 246, 247, 675, 676, 677, 678, 679, 725, 726, 727, 728, 21, 624, 709, 591, 729, 730, 731, 732, 669, 34, 718, 719, 720, 721, 722, 723, 158, 724, 485, 36, 1153, 1154, 1155, 1156, 1157, 1158, 1062, 1063, 1064, 1065, 1066, 1067, 1068, 1069, 1070, 1071, 1072, 1121, 1122, 1123, 1159, 1160, 1161, 1162, 1163, 1164, 1165, 1166, 1167, 1168, 1169, 1170, 1171] (by decide +kernel) (by decide +kernel)) (goodIn_sub (fun _ h => List.mem_append_left _ (List.mem_append_left _ (List.mem_append_right _ h))) (by decide +kernel))) (goodIn_sub (fun _ h => List.mem_append_right _ h) (by decide +kernel))
set_option maxRecDepth 20000 in
theorem gL_law_L_load : GoodIn wsL_law (va_wsS RL 234 yL_load wsL_load) := goodIn_app (goodIn_of _ (by decide +kernel)) ggL_law_L_load
set_option maxRecDepth 20000 in
theorem ggL_law_X11_load : GoodIn wsL_law wsX11_load := goodIn_r _ [1010, 194, 92, 93, 91, 653, 654, 655, 5, 656, 535, 196, 197, 198, 199, 812, 813, 814, 815, 652, 96, 287, 97, 99, 808, 809, 810, 811, 507, 563, 880, 881, 882, 1073, 1074, 1075, 1076, 1077, 1078, 1079, 1080, 1081, 1082, 1083, 1084, 1085, 1086, 1087, 1088, 1089, 1090, 1091, 1092, 1093, 1094, 1095, 1096, 1097, 1098, 1099, 1100, 1101, 1102, 1103, 1104, 1105, 1106, 1107, 1108, 1109, 1110, 1111, 1112, 1113, 1114, 1115, 1116, 1117, 1118, 1119, 1120] (by decide +kernel) (by decide +kernel)
set_option maxRecDepth 20000 in
theorem gL_law_X11_load : GoodIn wsL_law (wsV RL 236 RX11 yX11_load wsX11_load) := goodIn_app (goodIn_of _ (by decide +kernel)) ggL_law_X11_load
theorem dL_law_2103 : decode cL_law 2103 = .ok (.aload_n 1, 1) := by decide +kernel
theorem dL_law_2104 : decode cL_law 2104 = .ok (.aload_n 0, 1) := by decide +kernel
theorem dL_law_2105 : decode cL_law 2105 = .ok (.iload 4, 2) := by decide +kernel
theorem dL_law_2107 : decode cL_law 2107 = .ok (.iconst 1, 1) := by decide +kernel
theorem dL_law_2108 : decode cL_law 2108 = .ok (.iadd, 1) := by decide +kernel
theorem dL_law_2109 : decode cL_law 2109 = .ok (.iaload, 1) := by decide +kernel
theorem dL_law_2110 : decode cL_law 2110 = .ok (.aload_n 0, 1) := by decide +kernel
theorem dL_law_2111 : decode cL_law 2111 = .ok (.iload 4, 2) := by decide +kernel
theorem dL_law_2113 : decode cL_law 2113 = .ok (.iconst 2, 1) := by decide +kernel
theorem dL_law_2114 : decode cL_law 2114 = .ok (.iadd, 1) := by decide +kernel
theorem dL_law_2115 : decode cL_law 2115 = .ok (.iaload, 1) := by decide +kernel
theorem dL_law_2116 : decode cL_law 2116 = .ok (.aload_n 3, 1) := by decide +kernel
theorem dL_law_2117 : decode cL_law 2117 = .ok (.invokestatic 234, 3) := by decide +kernel
theorem dL_law_2120 : decode cL_law 2120 = .ok (.istore 5, 2) := by decide +kernel
theorem dL_law_2122 : decode cL_law 2122 = .ok (.aload_n 2, 1) := by decide +kernel
theorem dL_law_2123 : decode cL_law 2123 = .ok (.aload_n 0, 1) := by decide +kernel
theorem dL_law_2124 : decode cL_law 2124 = .ok (.iload 4, 2) := by decide +kernel
theorem dL_law_2126 : decode cL_law 2126 = .ok (.iconst 1, 1) := by decide +kernel
theorem dL_law_2127 : decode cL_law 2127 = .ok (.iadd, 1) := by decide +kernel
theorem dL_law_2128 : decode cL_law 2128 = .ok (.iaload, 1) := by decide +kernel
theorem dL_law_2129 : decode cL_law 2129 = .ok (.aload_n 0, 1) := by decide +kernel
theorem dL_law_2130 : decode cL_law 2130 = .ok (.iload 4, 2) := by decide +kernel
theorem dL_law_2132 : decode cL_law 2132 = .ok (.iconst 2, 1) := by decide +kernel
theorem dL_law_2133 : decode cL_law 2133 = .ok (.iadd, 1) := by decide +kernel
theorem dL_law_2134 : decode cL_law 2134 = .ok (.iaload, 1) := by decide +kernel
theorem dL_law_2135 : decode cL_law 2135 = .ok (.invokevirtual 236, 3) := by decide +kernel
theorem dL_law_2138 : decode cL_law 2138 = .ok (.istore 6, 2) := by decide +kernel
theorem dL_law_2140 : decode cL_law 2140 = .ok (.aload_n 2, 1) := by decide +kernel
theorem dL_law_2141 : decode cL_law 2141 = .ok (.invokevirtual 136, 3) := by decide +kernel
theorem dL_law_2144 : decode cL_law 2144 = .ok (.iload 5, 2) := by decide +kernel
theorem dL_law_2146 : decode cL_law 2146 = .ok (.if_icmp .eq 5, 3) := by decide +kernel
theorem dL_law_2149 : decode cL_law 2149 = .ok (.iconst 0, 1) := by decide +kernel
theorem dL_law_2150 : decode cL_law 2150 = .ok (.ireturn, 1) := by decide +kernel
theorem dL_law_2151 : decode cL_law 2151 = .ok (.iload 5, 2) := by decide +kernel
theorem dL_law_2153 : decode cL_law 2153 = .ok (.ifCond .ne 15, 3) := by decide +kernel
theorem dL_law_2156 : decode cL_law 2156 = .ok (.aload_n 3, 1) := by decide +kernel
theorem dL_law_2157 : decode cL_law 2157 = .ok (.iconst 0, 1) := by decide +kernel
theorem dL_law_2158 : decode cL_law 2158 = .ok (.laload, 1) := by decide +kernel
theorem dL_law_2159 : decode cL_law 2159 = .ok (.iload 6, 2) := by decide +kernel
theorem dL_law_2161 : decode cL_law 2161 = .ok (.i2l, 1) := by decide +kernel
theorem dL_law_2162 : decode cL_law 2162 = .ok (.lcmp, 1) := by decide +kernel
theorem dL_law_2163 : decode cL_law 2163 = .ok (.ifCond .eq 5, 3) := by decide +kernel
theorem dL_law_2166 : decode cL_law 2166 = .ok (.iconst 0, 1) := by decide +kernel
theorem dL_law_2167 : decode cL_law 2167 = .ok (.ireturn, 1) := by decide +kernel
theorem dL_law_2168 : decode cL_law 2168 = .ok (.goto 165, 3) := by decide +kernel
set_option maxRecDepth 20000 in
set_option maxHeartbeats 4000000 in
theorem lc_load {p : Program} {l : Launch} {e : Env} {s : State} {m : MethodId} {below : List Frame} {meth : Method} {c : Code} {H : Heap} {locs : List Loc} {cells slots : Nat} {Q : State → Prop} {ls : Array Slot} {D : va_G} {cy : Nat → ClassId} {d0 : Nat} {la : Nat → Int → Nat} {σ : MS} {o a b L x : Nat} {ad : Nat → Nat} {xs : Nat → Int32} {n i : Int} (hlt : l.stackTraces = false) (G : lG p s m c b L xs D cy d0 a o ad) (hB : lB D cy d0 (lA s a o ad) o ad a x n la σ H) (hS : va_S (l9 s) s.heap H locs) (hn : n + 1 ≤ 600) (hi : 0 ≤ i ∧ i + 5 ≤ L) (hf : cells + 24 ≤ room_1.cells ∧ slots + 2100 ≤ room_1.slots) (hl : lv_has ls 8 (lL b x o a i)) (kk : lNext p l e s m below meth c Q D cy d0 a o ad b x i n cells slots) : W p l e room_1 s m #[Value.ref b] below meth c H locs cells slots Q (F0 m 2103 ls []) := by
  have B := G.1.1
  have hts := G.1.2.2.2.1
  obtain ⟨hCP, hM, I, hcp, ho, rfl⟩ := id hB
  refine x_aload_n B hl dL_law_2103 rfl ?_
  refine ls_rd (k := 1) G hS hl rfl rfl hi ⟨by decide, by decide⟩ dL_law_2104 dL_law_2105 dL_law_2107 dL_law_2108 dL_law_2109 ?_
  refine ls_rd (k := 2) G hS hl rfl rfl hi ⟨by decide, by decide⟩ dL_law_2110 dL_law_2111 dL_law_2113 dL_law_2114 dL_law_2115 ?_
  refine x_aload_n B hl dL_law_2116 rfl ?_
  refine ls_w (av := [.ref (la 0 0), .int (iI (lX xs i 1)), .int (iI (lX xs i 2)), .ref a]) (rest := []) G hB hS hl (wr_load l hlt D cy d0 (lA s a o ad) la σ (lX_r xs i 1) (lX_r xs i 2) I hn hCP.2.2.2.2.2.1 hcp (fun h => h.2.1 rfl)) (vx_cwSW 4 hts gL_law_L_load rfl rfl rfl (by decide +kernel) ⟨Nat.le_of_ble_eq_true rfl, Nat.le_of_ble_eq_true rfl⟩) rfl rfl (by decide) dL_law_2117 ⟨by decide, by decide⟩ hf (fun H1 locs1 hQ hM1 hS1 => ?_)
  refine x_istore B hl dL_law_2120 (by decide) (fun ls hl => ?_)
  refine x_aload_n B hl dL_law_2122 rfl ?_
  refine ls_rd (k := 1) G hS1 hl rfl rfl hi ⟨by decide, by decide⟩ dL_law_2123 dL_law_2124 dL_law_2126 dL_law_2127 dL_law_2128 ?_
  refine ls_rd (k := 2) G hS1 hl rfl rfl hi ⟨by decide, by decide⟩ dL_law_2129 dL_law_2130 dL_law_2132 dL_law_2133 dL_law_2134 ?_
  refine ls_m (av := [.int (iI (lX xs i 1)), .int (iI (lX xs i 2))]) (rest := []) G hQ hM1 I hn hcp hS1 hl (m_p_load l D cy o ad σ I.s (lX_r xs i 1) (lX_r xs i 2)) (cwV 2 hts gL_law_X11_load rfl rfl rfl (by decide +kernel) ⟨Nat.le_of_ble_eq_true rfl, Nat.le_of_ble_eq_true rfl⟩) rfl rfl (by decide) dL_law_2135 hf (fun H2 locs2 la2 σ2 hB2 e0 ho2 hS2 => ?_)
  refine x_istore B hl dL_law_2138 (by decide) (fun ls hl => ?_)
  exact ls_endI G hB2 e0 ho2 hS2 (lv_key hl [(6, _), (5, _), (0, _), (1, _), (2, _), (3, _), (4, _)] rfl) (cwV 0 hts gL_law_X11_thrown rfl rfl rfl (by decide +kernel) ⟨Nat.le_of_ble_eq_true rfl, Nat.le_of_ble_eq_true rfl⟩) hf dL_law_2140 dL_law_2141 dL_law_2144 dL_law_2146 dL_law_2151 dL_law_2153 dL_law_2156 dL_law_2157 dL_law_2158 dL_law_2159 dL_law_2161 dL_law_2162 dL_law_2163 dL_law_2168 (by decide) (fun H3 locs3 ls3 h1 h2 h3 => kk H3 locs3 la2 σ2 ls3 h1 h2 h3)
set_option maxRecDepth 20000 in
theorem ggL_law_L_about : GoodIn wsL_law wsL_about := goodIn_ca (goodIn_ca (goodIn_r _ [1013, 207, 664, 1014, 1015, 1016, 2, 1017, 244, 1018, 571, 375, 376, 377, 378, 18, 379, 123, 124, 125, 16, 126, 127, 220, 221, 222, 223, 224, 225, 226, 227, 228, 229, 230, 231, 232, 233, 234, 235, 236, 237, 238, 239, 240, 41, 245, 246, 247, 675, 676, 677, 678, 679, 1019, 1020, 1021, 1022, 19, 421, 34, 754, 755, 756, 369, 757, 385, 465, 466, 758, 471, 472, 1131, 1132, 1133, 1134, 1135, 1136, 1137, 1138, 1139, 1140, 1062, 1063, 1064, 1065, 1066, 1067, 1068, 1069, 1070, 1071, 1072, 1121, 1122, 1123, 1141, 1142, 1143, 1144, 1145, 1146, 1147, 1148, 1149] (by decide +kernel) (by decide +kernel)) (goodIn_sub (fun _ h => List.mem_append_left _ (List.mem_append_left _ (List.mem_append_right _ h))) (by decide +kernel))) (goodIn_sub (fun _ h => List.mem_append_right _ h) (by decide +kernel))
set_option maxRecDepth 20000 in
theorem gL_law_L_about : GoodIn wsL_law (va_wsS RL 237 yL_about wsL_about) := goodIn_app (goodIn_of _ (by decide +kernel)) ggL_law_L_about
set_option maxRecDepth 20000 in
theorem ggL_law_X11_about : GoodIn wsL_law wsX11_about := goodIn_r _ [1026, 194, 75, 76, 403, 287, 404, 405, 406, 5, 407, 359, 196, 197, 198, 199, 820, 821, 822, 823, 86, 85, 84, 880, 881, 882, 1073, 1074, 1075, 1076, 1077, 1078, 1079, 1080, 1081, 1082, 1083, 1084, 1085, 1086, 1087, 1088, 1089, 1090, 1091, 1092, 1093, 1094, 1095, 1096, 1097, 1098, 1099, 1100, 1101, 1102, 1103, 1104, 1105, 1106, 1107, 1108, 1109, 1110, 1111, 1112, 1113, 1114, 1115, 1116, 1117, 1118, 1119, 1120] (by decide +kernel) (by decide +kernel)
set_option maxRecDepth 20000 in
theorem gL_law_X11_about : GoodIn wsL_law (wsV RL 239 RX11 yX11_about wsX11_about) := goodIn_app (goodIn_of _ (by decide +kernel)) ggL_law_X11_about
theorem dL_law_2171 : decode cL_law 2171 = .ok (.aload_n 1, 1) := by decide +kernel
theorem dL_law_2172 : decode cL_law 2172 = .ok (.aload_n 0, 1) := by decide +kernel
theorem dL_law_2173 : decode cL_law 2173 = .ok (.iload 4, 2) := by decide +kernel
theorem dL_law_2175 : decode cL_law 2175 = .ok (.iconst 1, 1) := by decide +kernel
theorem dL_law_2176 : decode cL_law 2176 = .ok (.iadd, 1) := by decide +kernel
theorem dL_law_2177 : decode cL_law 2177 = .ok (.iaload, 1) := by decide +kernel
theorem dL_law_2178 : decode cL_law 2178 = .ok (.aload_n 0, 1) := by decide +kernel
theorem dL_law_2179 : decode cL_law 2179 = .ok (.iload 4, 2) := by decide +kernel
theorem dL_law_2181 : decode cL_law 2181 = .ok (.iconst 2, 1) := by decide +kernel
theorem dL_law_2182 : decode cL_law 2182 = .ok (.iadd, 1) := by decide +kernel
theorem dL_law_2183 : decode cL_law 2183 = .ok (.iaload, 1) := by decide +kernel
theorem dL_law_2184 : decode cL_law 2184 = .ok (.aload_n 3, 1) := by decide +kernel
theorem dL_law_2185 : decode cL_law 2185 = .ok (.invokestatic 237, 3) := by decide +kernel
theorem dL_law_2188 : decode cL_law 2188 = .ok (.istore 5, 2) := by decide +kernel
theorem dL_law_2190 : decode cL_law 2190 = .ok (.aload_n 2, 1) := by decide +kernel
theorem dL_law_2191 : decode cL_law 2191 = .ok (.aload_n 0, 1) := by decide +kernel
theorem dL_law_2192 : decode cL_law 2192 = .ok (.iload 4, 2) := by decide +kernel
theorem dL_law_2194 : decode cL_law 2194 = .ok (.iconst 1, 1) := by decide +kernel
theorem dL_law_2195 : decode cL_law 2195 = .ok (.iadd, 1) := by decide +kernel
theorem dL_law_2196 : decode cL_law 2196 = .ok (.iaload, 1) := by decide +kernel
theorem dL_law_2197 : decode cL_law 2197 = .ok (.aload_n 0, 1) := by decide +kernel
theorem dL_law_2198 : decode cL_law 2198 = .ok (.iload 4, 2) := by decide +kernel
theorem dL_law_2200 : decode cL_law 2200 = .ok (.iconst 2, 1) := by decide +kernel
theorem dL_law_2201 : decode cL_law 2201 = .ok (.iadd, 1) := by decide +kernel
theorem dL_law_2202 : decode cL_law 2202 = .ok (.iaload, 1) := by decide +kernel
theorem dL_law_2203 : decode cL_law 2203 = .ok (.invokevirtual 239, 3) := by decide +kernel
theorem dL_law_2206 : decode cL_law 2206 = .ok (.istore 6, 2) := by decide +kernel
theorem dL_law_2208 : decode cL_law 2208 = .ok (.aload_n 2, 1) := by decide +kernel
theorem dL_law_2209 : decode cL_law 2209 = .ok (.invokevirtual 136, 3) := by decide +kernel
theorem dL_law_2212 : decode cL_law 2212 = .ok (.iload 5, 2) := by decide +kernel
theorem dL_law_2214 : decode cL_law 2214 = .ok (.if_icmp .eq 5, 3) := by decide +kernel
theorem dL_law_2217 : decode cL_law 2217 = .ok (.iconst 0, 1) := by decide +kernel
theorem dL_law_2218 : decode cL_law 2218 = .ok (.ireturn, 1) := by decide +kernel
theorem dL_law_2219 : decode cL_law 2219 = .ok (.iload 5, 2) := by decide +kernel
theorem dL_law_2221 : decode cL_law 2221 = .ok (.ifCond .ne 15, 3) := by decide +kernel
theorem dL_law_2224 : decode cL_law 2224 = .ok (.aload_n 3, 1) := by decide +kernel
theorem dL_law_2225 : decode cL_law 2225 = .ok (.iconst 0, 1) := by decide +kernel
theorem dL_law_2226 : decode cL_law 2226 = .ok (.laload, 1) := by decide +kernel
theorem dL_law_2227 : decode cL_law 2227 = .ok (.iload 6, 2) := by decide +kernel
theorem dL_law_2229 : decode cL_law 2229 = .ok (.i2l, 1) := by decide +kernel
theorem dL_law_2230 : decode cL_law 2230 = .ok (.lcmp, 1) := by decide +kernel
theorem dL_law_2231 : decode cL_law 2231 = .ok (.ifCond .eq 5, 3) := by decide +kernel
theorem dL_law_2234 : decode cL_law 2234 = .ok (.iconst 0, 1) := by decide +kernel
theorem dL_law_2235 : decode cL_law 2235 = .ok (.ireturn, 1) := by decide +kernel
theorem dL_law_2236 : decode cL_law 2236 = .ok (.goto 97, 3) := by decide +kernel
set_option maxRecDepth 20000 in
set_option maxHeartbeats 4000000 in
theorem lc_about {p : Program} {l : Launch} {e : Env} {s : State} {m : MethodId} {below : List Frame} {meth : Method} {c : Code} {H : Heap} {locs : List Loc} {cells slots : Nat} {Q : State → Prop} {ls : Array Slot} {D : va_G} {cy : Nat → ClassId} {d0 : Nat} {la : Nat → Int → Nat} {σ : MS} {o a b L x : Nat} {ad : Nat → Nat} {xs : Nat → Int32} {n i : Int} (hlt : l.stackTraces = false) (G : lG p s m c b L xs D cy d0 a o ad) (hB : lB D cy d0 (lA s a o ad) o ad a x n la σ H) (hS : va_S (l9 s) s.heap H locs) (hn : n + 1 ≤ 600) (hi : 0 ≤ i ∧ i + 5 ≤ L) (hf : cells + 24 ≤ room_1.cells ∧ slots + 2100 ≤ room_1.slots) (hl : lv_has ls 8 (lL b x o a i)) (kk : lNext p l e s m below meth c Q D cy d0 a o ad b x i n cells slots) : W p l e room_1 s m #[Value.ref b] below meth c H locs cells slots Q (F0 m 2171 ls []) := by
  have B := G.1.1
  have hts := G.1.2.2.2.1
  obtain ⟨hCP, hM, I, hcp, ho, rfl⟩ := id hB
  refine x_aload_n B hl dL_law_2171 rfl ?_
  refine ls_rd (k := 1) G hS hl rfl rfl hi ⟨by decide, by decide⟩ dL_law_2172 dL_law_2173 dL_law_2175 dL_law_2176 dL_law_2177 ?_
  refine ls_rd (k := 2) G hS hl rfl rfl hi ⟨by decide, by decide⟩ dL_law_2178 dL_law_2179 dL_law_2181 dL_law_2182 dL_law_2183 ?_
  refine x_aload_n B hl dL_law_2184 rfl ?_
  refine ls_w (av := [.ref (la 0 0), .int (iI (lX xs i 1)), .int (iI (lX xs i 2)), .ref a]) (rest := []) G hB hS hl (wr_about l hlt D cy d0 (lA s a o ad) la σ (lX_r xs i 1) (lX_r xs i 2) I hn hCP.2.2.2.2.2.1 hcp (fun h => h.2.1 rfl)) (vx_cwSW 4 hts gL_law_L_about rfl rfl rfl (by decide +kernel) ⟨Nat.le_of_ble_eq_true rfl, Nat.le_of_ble_eq_true rfl⟩) rfl rfl (by decide) dL_law_2185 ⟨by decide, by decide⟩ hf (fun H1 locs1 hQ hM1 hS1 => ?_)
  refine x_istore B hl dL_law_2188 (by decide) (fun ls hl => ?_)
  refine x_aload_n B hl dL_law_2190 rfl ?_
  refine ls_rd (k := 1) G hS1 hl rfl rfl hi ⟨by decide, by decide⟩ dL_law_2191 dL_law_2192 dL_law_2194 dL_law_2195 dL_law_2196 ?_
  refine ls_rd (k := 2) G hS1 hl rfl rfl hi ⟨by decide, by decide⟩ dL_law_2197 dL_law_2198 dL_law_2200 dL_law_2201 dL_law_2202 ?_
  refine ls_m (av := [.int (iI (lX xs i 1)), .int (iI (lX xs i 2))]) (rest := []) G hQ hM1 I hn hcp hS1 hl (m_p_about l D cy o ad σ I.s (lX_r xs i 1) (lX_r xs i 2)) (cwV 2 hts gL_law_X11_about rfl rfl rfl (by decide +kernel) ⟨Nat.le_of_ble_eq_true rfl, Nat.le_of_ble_eq_true rfl⟩) rfl rfl (by decide) dL_law_2203 hf (fun H2 locs2 la2 σ2 hB2 e0 ho2 hS2 => ?_)
  refine x_istore B hl dL_law_2206 (by decide) (fun ls hl => ?_)
  exact ls_endI G hB2 e0 ho2 hS2 (lv_key hl [(6, _), (5, _), (0, _), (1, _), (2, _), (3, _), (4, _)] rfl) (cwV 0 hts gL_law_X11_thrown rfl rfl rfl (by decide +kernel) ⟨Nat.le_of_ble_eq_true rfl, Nat.le_of_ble_eq_true rfl⟩) hf dL_law_2208 dL_law_2209 dL_law_2212 dL_law_2214 dL_law_2219 dL_law_2221 dL_law_2224 dL_law_2225 dL_law_2226 dL_law_2227 dL_law_2229 dL_law_2230 dL_law_2231 dL_law_2236 (by decide) (fun H3 locs3 ls3 h1 h2 h3 => kk H3 locs3 la2 σ2 ls3 h1 h2 h3)
set_option maxRecDepth 20000 in
theorem ggL_law_L_state : GoodIn wsL_law wsL_state := goodIn_ca (goodIn_ca (goodIn_r _ [1029, 207, 664, 1030, 1031, 1032, 2, 1033, 1034, 484, 415, 416, 34, 746, 370, 486, 417, 418, 419, 420, 19, 421, 123, 124, 125, 16, 126, 127, 220, 221, 222, 223, 224, 225, 226, 227, 228, 229, 230, 231, 232, 233, 234, 235, 236, 237, 238, 239, 240, 41, 245, 246, 247, 675, 676, 677, 678, 679, 754, 755, 756, 369, 757, 385, 465, 466, 758, 471, 472, 1035, 1036, 1037, 340, 1141, 1142, 1143, 1144, 1145, 1146, 1147, 1062, 1063, 1064, 1065, 1066, 1067, 1068, 1069, 1070, 1071, 1072, 1121, 1122, 1123, 1148, 1149, 1131, 1132, 1133, 1134, 1135, 1136, 1137, 1138, 1139, 1140] (by decide +kernel) (by decide +kernel)) (goodIn_sub (fun _ h => List.mem_append_left _ (List.mem_append_left _ (List.mem_append_right _ h))) (by decide +kernel))) (goodIn_sub (fun _ h => List.mem_append_right _ h) (by decide +kernel))
set_option maxRecDepth 20000 in
theorem gL_law_L_state : GoodIn wsL_law (va_wsS RL 240 yL_state wsL_state) := goodIn_app (goodIn_of _ (by decide +kernel)) ggL_law_L_state
set_option maxRecDepth 20000 in
theorem ggL_law_X11_state : GoodIn wsL_law wsX11_state := goodIn_r _ [1041, 194, 80, 81, 82, 287, 83, 86, 90, 434, 435, 436, 5, 437, 403, 196, 197, 198, 199, 880, 881, 882, 820, 821, 822, 823, 85, 84, 1073, 1074, 1075, 1076, 1077, 1078, 1079, 1080, 1081, 1082, 1083, 1084, 1085, 1086, 1087, 1088, 1089, 1090, 1091, 1092, 1093, 1094, 1095, 1096, 1097, 1098, 1099, 1100, 1101, 1102, 1103, 1104, 1105, 1106, 1107, 1108, 1109, 1110, 1111, 1112, 1113, 1114, 1115, 1116, 1117, 1118, 1119, 1120] (by decide +kernel) (by decide +kernel)
set_option maxRecDepth 20000 in
theorem gL_law_X11_state : GoodIn wsL_law (wsV RL 242 RX11 yX11_state wsX11_state) := goodIn_app (goodIn_of _ (by decide +kernel)) ggL_law_X11_state
theorem dL_law_2239 : decode cL_law 2239 = .ok (.aload_n 1, 1) := by decide +kernel
theorem dL_law_2240 : decode cL_law 2240 = .ok (.aload_n 0, 1) := by decide +kernel
theorem dL_law_2241 : decode cL_law 2241 = .ok (.iload 4, 2) := by decide +kernel
theorem dL_law_2243 : decode cL_law 2243 = .ok (.iconst 1, 1) := by decide +kernel
theorem dL_law_2244 : decode cL_law 2244 = .ok (.iadd, 1) := by decide +kernel
theorem dL_law_2245 : decode cL_law 2245 = .ok (.iaload, 1) := by decide +kernel
theorem dL_law_2246 : decode cL_law 2246 = .ok (.aload_n 0, 1) := by decide +kernel
theorem dL_law_2247 : decode cL_law 2247 = .ok (.iload 4, 2) := by decide +kernel
theorem dL_law_2249 : decode cL_law 2249 = .ok (.iconst 2, 1) := by decide +kernel
theorem dL_law_2250 : decode cL_law 2250 = .ok (.iadd, 1) := by decide +kernel
theorem dL_law_2251 : decode cL_law 2251 = .ok (.iaload, 1) := by decide +kernel
theorem dL_law_2252 : decode cL_law 2252 = .ok (.aload_n 3, 1) := by decide +kernel
theorem dL_law_2253 : decode cL_law 2253 = .ok (.invokestatic 240, 3) := by decide +kernel
theorem dL_law_2256 : decode cL_law 2256 = .ok (.istore 5, 2) := by decide +kernel
theorem dL_law_2258 : decode cL_law 2258 = .ok (.aload_n 2, 1) := by decide +kernel
theorem dL_law_2259 : decode cL_law 2259 = .ok (.aload_n 0, 1) := by decide +kernel
theorem dL_law_2260 : decode cL_law 2260 = .ok (.iload 4, 2) := by decide +kernel
theorem dL_law_2262 : decode cL_law 2262 = .ok (.iconst 1, 1) := by decide +kernel
theorem dL_law_2263 : decode cL_law 2263 = .ok (.iadd, 1) := by decide +kernel
theorem dL_law_2264 : decode cL_law 2264 = .ok (.iaload, 1) := by decide +kernel
theorem dL_law_2265 : decode cL_law 2265 = .ok (.aload_n 0, 1) := by decide +kernel
theorem dL_law_2266 : decode cL_law 2266 = .ok (.iload 4, 2) := by decide +kernel
theorem dL_law_2268 : decode cL_law 2268 = .ok (.iconst 2, 1) := by decide +kernel
theorem dL_law_2269 : decode cL_law 2269 = .ok (.iadd, 1) := by decide +kernel
theorem dL_law_2270 : decode cL_law 2270 = .ok (.iaload, 1) := by decide +kernel
theorem dL_law_2271 : decode cL_law 2271 = .ok (.invokevirtual 242, 3) := by decide +kernel
theorem dL_law_2274 : decode cL_law 2274 = .ok (.istore 6, 2) := by decide +kernel
theorem dL_law_2276 : decode cL_law 2276 = .ok (.aload_n 2, 1) := by decide +kernel
theorem dL_law_2277 : decode cL_law 2277 = .ok (.invokevirtual 136, 3) := by decide +kernel
theorem dL_law_2280 : decode cL_law 2280 = .ok (.iload 5, 2) := by decide +kernel
theorem dL_law_2282 : decode cL_law 2282 = .ok (.if_icmp .eq 5, 3) := by decide +kernel
theorem dL_law_2285 : decode cL_law 2285 = .ok (.iconst 0, 1) := by decide +kernel
theorem dL_law_2286 : decode cL_law 2286 = .ok (.ireturn, 1) := by decide +kernel
theorem dL_law_2287 : decode cL_law 2287 = .ok (.iload 5, 2) := by decide +kernel
theorem dL_law_2289 : decode cL_law 2289 = .ok (.ifCond .ne 15, 3) := by decide +kernel
theorem dL_law_2292 : decode cL_law 2292 = .ok (.aload_n 3, 1) := by decide +kernel
theorem dL_law_2293 : decode cL_law 2293 = .ok (.iconst 0, 1) := by decide +kernel
theorem dL_law_2294 : decode cL_law 2294 = .ok (.laload, 1) := by decide +kernel
theorem dL_law_2295 : decode cL_law 2295 = .ok (.iload 6, 2) := by decide +kernel
theorem dL_law_2297 : decode cL_law 2297 = .ok (.i2l, 1) := by decide +kernel
theorem dL_law_2298 : decode cL_law 2298 = .ok (.lcmp, 1) := by decide +kernel
theorem dL_law_2299 : decode cL_law 2299 = .ok (.ifCond .eq 5, 3) := by decide +kernel
theorem dL_law_2302 : decode cL_law 2302 = .ok (.iconst 0, 1) := by decide +kernel
theorem dL_law_2303 : decode cL_law 2303 = .ok (.ireturn, 1) := by decide +kernel
theorem dL_law_2304 : decode cL_law 2304 = .ok (.goto 29, 3) := by decide +kernel
set_option maxRecDepth 20000 in
set_option maxHeartbeats 4000000 in
theorem lc_state {p : Program} {l : Launch} {e : Env} {s : State} {m : MethodId} {below : List Frame} {meth : Method} {c : Code} {H : Heap} {locs : List Loc} {cells slots : Nat} {Q : State → Prop} {ls : Array Slot} {D : va_G} {cy : Nat → ClassId} {d0 : Nat} {la : Nat → Int → Nat} {σ : MS} {o a b L x : Nat} {ad : Nat → Nat} {xs : Nat → Int32} {n i : Int} (hlt : l.stackTraces = false) (G : lG p s m c b L xs D cy d0 a o ad) (hB : lB D cy d0 (lA s a o ad) o ad a x n la σ H) (hS : va_S (l9 s) s.heap H locs) (hn : n + 1 ≤ 600) (hi : 0 ≤ i ∧ i + 5 ≤ L) (hf : cells + 24 ≤ room_1.cells ∧ slots + 2100 ≤ room_1.slots) (hl : lv_has ls 8 (lL b x o a i)) (kk : lNext p l e s m below meth c Q D cy d0 a o ad b x i n cells slots) : W p l e room_1 s m #[Value.ref b] below meth c H locs cells slots Q (F0 m 2239 ls []) := by
  have B := G.1.1
  have hts := G.1.2.2.2.1
  obtain ⟨hCP, hM, I, hcp, ho, rfl⟩ := id hB
  refine x_aload_n B hl dL_law_2239 rfl ?_
  refine ls_rd (k := 1) G hS hl rfl rfl hi ⟨by decide, by decide⟩ dL_law_2240 dL_law_2241 dL_law_2243 dL_law_2244 dL_law_2245 ?_
  refine ls_rd (k := 2) G hS hl rfl rfl hi ⟨by decide, by decide⟩ dL_law_2246 dL_law_2247 dL_law_2249 dL_law_2250 dL_law_2251 ?_
  refine x_aload_n B hl dL_law_2252 rfl ?_
  refine ls_w (av := [.ref (la 0 0), .int (iI (lX xs i 1)), .int (iI (lX xs i 2)), .ref a]) (rest := []) G hB hS hl (wr_state l hlt D cy d0 (lA s a o ad) la σ (lX_r xs i 1) (lX_r xs i 2) I hn hCP.2.2.2.2.2.1 hcp (fun h => h.2.1 rfl)) (vx_cwSW 4 hts gL_law_L_state rfl rfl rfl (by decide +kernel) ⟨Nat.le_of_ble_eq_true rfl, Nat.le_of_ble_eq_true rfl⟩) rfl rfl (by decide) dL_law_2253 ⟨by decide, by decide⟩ hf (fun H1 locs1 hQ hM1 hS1 => ?_)
  refine x_istore B hl dL_law_2256 (by decide) (fun ls hl => ?_)
  refine x_aload_n B hl dL_law_2258 rfl ?_
  refine ls_rd (k := 1) G hS1 hl rfl rfl hi ⟨by decide, by decide⟩ dL_law_2259 dL_law_2260 dL_law_2262 dL_law_2263 dL_law_2264 ?_
  refine ls_rd (k := 2) G hS1 hl rfl rfl hi ⟨by decide, by decide⟩ dL_law_2265 dL_law_2266 dL_law_2268 dL_law_2269 dL_law_2270 ?_
  refine ls_m (av := [.int (iI (lX xs i 1)), .int (iI (lX xs i 2))]) (rest := []) G hQ hM1 I hn hcp hS1 hl (m_p_state l D cy o ad σ I.s (lX_r xs i 1) (lX_r xs i 2)) (cwV 2 hts gL_law_X11_state rfl rfl rfl (by decide +kernel) ⟨Nat.le_of_ble_eq_true rfl, Nat.le_of_ble_eq_true rfl⟩) rfl rfl (by decide) dL_law_2271 hf (fun H2 locs2 la2 σ2 hB2 e0 ho2 hS2 => ?_)
  refine x_istore B hl dL_law_2274 (by decide) (fun ls hl => ?_)
  exact ls_endI G hB2 e0 ho2 hS2 (lv_key hl [(6, _), (5, _), (0, _), (1, _), (2, _), (3, _), (4, _)] rfl) (cwV 0 hts gL_law_X11_thrown rfl rfl rfl (by decide +kernel) ⟨Nat.le_of_ble_eq_true rfl, Nat.le_of_ble_eq_true rfl⟩) hf dL_law_2276 dL_law_2277 dL_law_2280 dL_law_2282 dL_law_2287 dL_law_2289 dL_law_2292 dL_law_2293 dL_law_2294 dL_law_2295 dL_law_2297 dL_law_2298 dL_law_2299 dL_law_2304 (by decide) (fun H3 locs3 ls3 h1 h2 h3 => kk H3 locs3 la2 σ2 ls3 h1 h2 h3)
