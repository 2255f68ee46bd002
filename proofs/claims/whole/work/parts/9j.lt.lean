set_option maxRecDepth 20000 in
theorem ggL_law_X11_thrown : GoodIn wsL_law wsX11_thrown := goodIn_r _ [203, 194, 1073, 1074, 1075, 1076, 1077, 1078, 1079, 1080, 1081, 1082, 1083, 1084, 1085, 1086, 1087, 1088, 1089, 1090, 1091, 1092, 1093, 1094, 1095, 1096, 1097, 1098, 1099, 1100, 1101, 1102, 1103, 1104, 1105, 1106, 1107, 1108, 1109, 1110, 1111, 1112, 1113, 1114, 1115, 1116, 1117, 1118, 1119, 1120] (by decide +kernel) (by decide +kernel)
set_option maxRecDepth 20000 in
theorem gL_law_X11_thrown : GoodIn wsL_law (wsV RL 136 RX11 yX11_thrown wsX11_thrown) := goodIn_app (goodIn_of _ (by decide +kernel)) ggL_law_X11_thrown
set_option maxRecDepth 20000 in
theorem ggL_law_L_round : GoodIn wsL_law wsL_round := goodIn_ca (goodIn_ca (goodIn_r _ [206, 207, 208, 209, 210, 211, 2, 212, 213, 214, 215, 216, 217, 218, 17, 219, 123, 124, 125, 16, 126, 127, 220, 221, 222, 223, 224, 225, 226, 227, 228, 229, 230, 231, 232, 233, 234, 235, 236, 237, 238, 239, 240, 41, 241, 242, 243, 244, 245, 246, 247, 248, 249, 250, 251, 252, 253, 254, 255, 122, 256, 136, 137, 1062, 1063, 1064, 1065, 1066, 1067, 1068, 1069, 1070, 1071, 1072, 1121, 1122, 1123, 1129, 1130] (by decide +kernel) (by decide +kernel)) (goodIn_sub (fun _ h => List.mem_append_left _ (List.mem_append_left _ (List.mem_append_right _ h))) (by decide +kernel))) (goodIn_sub (fun _ h => List.mem_append_left _ (List.mem_append_right _ h)) (by decide +kernel))
set_option maxRecDepth 20000 in
theorem gL_law_L_round : GoodIn wsL_law (va_wsS RL 139 yL_round wsL_round) := goodIn_app (goodIn_of _ (by decide +kernel)) ggL_law_L_round
set_option maxRecDepth 20000 in
theorem ggL_law_X11_round : GoodIn wsL_law wsX11_round := goodIn_r _ [260, 194, 261, 262, 263, 73, 74, 264, 265, 266, 5, 267, 195, 196, 197, 198, 199, 268, 269, 270, 1073, 1074, 1075, 1076, 1077, 1078, 1079, 1080, 1081, 1082, 1083, 1084, 1085, 1086, 1087, 1088, 1089, 1090, 1091, 1092, 1093, 1094, 1095, 1096, 1097, 1098, 1099, 1100, 1101, 1102, 1103, 1104, 1105, 1106, 1107, 1108, 1109, 1110, 1111, 1112, 1113, 1114, 1115, 1116, 1117, 1118, 1119, 1120] (by decide +kernel) (by decide +kernel)
set_option maxRecDepth 20000 in
theorem gL_law_X11_round : GoodIn wsL_law (wsV RL 142 RX11 yX11_round wsX11_round) := goodIn_app (goodIn_of _ (by decide +kernel)) ggL_law_X11_round
theorem dL_law_228 : decode cL_law 228 = .ok (.aload_n 1, 1) := by decide +kernel
theorem dL_law_229 : decode cL_law 229 = .ok (.aload_n 0, 1) := by decide +kernel
theorem dL_law_230 : decode cL_law 230 = .ok (.iload 4, 2) := by decide +kernel
theorem dL_law_232 : decode cL_law 232 = .ok (.iconst 1, 1) := by decide +kernel
theorem dL_law_233 : decode cL_law 233 = .ok (.iadd, 1) := by decide +kernel
theorem dL_law_234 : decode cL_law 234 = .ok (.iaload, 1) := by decide +kernel
theorem dL_law_235 : decode cL_law 235 = .ok (.aload_n 0, 1) := by decide +kernel
theorem dL_law_236 : decode cL_law 236 = .ok (.iload 4, 2) := by decide +kernel
theorem dL_law_238 : decode cL_law 238 = .ok (.iconst 2, 1) := by decide +kernel
theorem dL_law_239 : decode cL_law 239 = .ok (.iadd, 1) := by decide +kernel
theorem dL_law_240 : decode cL_law 240 = .ok (.iaload, 1) := by decide +kernel
theorem dL_law_241 : decode cL_law 241 = .ok (.aload_n 0, 1) := by decide +kernel
theorem dL_law_242 : decode cL_law 242 = .ok (.iload 4, 2) := by decide +kernel
theorem dL_law_244 : decode cL_law 244 = .ok (.iconst 3, 1) := by decide +kernel
theorem dL_law_245 : decode cL_law 245 = .ok (.iadd, 1) := by decide +kernel
theorem dL_law_246 : decode cL_law 246 = .ok (.iaload, 1) := by decide +kernel
theorem dL_law_247 : decode cL_law 247 = .ok (.aload_n 0, 1) := by decide +kernel
theorem dL_law_248 : decode cL_law 248 = .ok (.iload 4, 2) := by decide +kernel
theorem dL_law_250 : decode cL_law 250 = .ok (.iconst 4, 1) := by decide +kernel
theorem dL_law_251 : decode cL_law 251 = .ok (.iadd, 1) := by decide +kernel
theorem dL_law_252 : decode cL_law 252 = .ok (.iaload, 1) := by decide +kernel
theorem dL_law_253 : decode cL_law 253 = .ok (.invokestatic 139, 3) := by decide +kernel
theorem dL_law_256 : decode cL_law 256 = .ok (.istore 5, 2) := by decide +kernel
theorem dL_law_258 : decode cL_law 258 = .ok (.aload_n 2, 1) := by decide +kernel
theorem dL_law_259 : decode cL_law 259 = .ok (.aload_n 0, 1) := by decide +kernel
theorem dL_law_260 : decode cL_law 260 = .ok (.iload 4, 2) := by decide +kernel
theorem dL_law_262 : decode cL_law 262 = .ok (.iconst 1, 1) := by decide +kernel
theorem dL_law_263 : decode cL_law 263 = .ok (.iadd, 1) := by decide +kernel
theorem dL_law_264 : decode cL_law 264 = .ok (.iaload, 1) := by decide +kernel
theorem dL_law_265 : decode cL_law 265 = .ok (.aload_n 0, 1) := by decide +kernel
theorem dL_law_266 : decode cL_law 266 = .ok (.iload 4, 2) := by decide +kernel
theorem dL_law_268 : decode cL_law 268 = .ok (.iconst 2, 1) := by decide +kernel
theorem dL_law_269 : decode cL_law 269 = .ok (.iadd, 1) := by decide +kernel
theorem dL_law_270 : decode cL_law 270 = .ok (.iaload, 1) := by decide +kernel
theorem dL_law_271 : decode cL_law 271 = .ok (.aload_n 0, 1) := by decide +kernel
theorem dL_law_272 : decode cL_law 272 = .ok (.iload 4, 2) := by decide +kernel
theorem dL_law_274 : decode cL_law 274 = .ok (.iconst 3, 1) := by decide +kernel
theorem dL_law_275 : decode cL_law 275 = .ok (.iadd, 1) := by decide +kernel
theorem dL_law_276 : decode cL_law 276 = .ok (.iaload, 1) := by decide +kernel
theorem dL_law_277 : decode cL_law 277 = .ok (.aload_n 0, 1) := by decide +kernel
theorem dL_law_278 : decode cL_law 278 = .ok (.iload 4, 2) := by decide +kernel
theorem dL_law_280 : decode cL_law 280 = .ok (.iconst 4, 1) := by decide +kernel
theorem dL_law_281 : decode cL_law 281 = .ok (.iadd, 1) := by decide +kernel
theorem dL_law_282 : decode cL_law 282 = .ok (.iaload, 1) := by decide +kernel
theorem dL_law_283 : decode cL_law 283 = .ok (.invokevirtual 142, 3) := by decide +kernel
theorem dL_law_286 : decode cL_law 286 = .ok (.aload_n 2, 1) := by decide +kernel
theorem dL_law_287 : decode cL_law 287 = .ok (.invokevirtual 136, 3) := by decide +kernel
theorem dL_law_290 : decode cL_law 290 = .ok (.iload 5, 2) := by decide +kernel
theorem dL_law_292 : decode cL_law 292 = .ok (.if_icmp .eq 5, 3) := by decide +kernel
theorem dL_law_295 : decode cL_law 295 = .ok (.iconst 0, 1) := by decide +kernel
theorem dL_law_296 : decode cL_law 296 = .ok (.ireturn, 1) := by decide +kernel
theorem dL_law_297 : decode cL_law 297 = .ok (.goto 2036, 3) := by decide +kernel
set_option maxRecDepth 20000 in
set_option maxHeartbeats 4000000 in
theorem lc_round {p : Program} {l : Launch} {e : Env} {s : State} {m : MethodId} {below : List Frame} {meth : Method} {c : Code} {H : Heap} {locs : List Loc} {cells slots : Nat} {Q : State → Prop} {ls : Array Slot} {D : va_G} {cy : Nat → ClassId} {d0 : Nat} {la : Nat → Int → Nat} {σ : MS} {o a b L x : Nat} {ad : Nat → Nat} {xs : Nat → Int32} {n i : Int} (hlt : l.stackTraces = false) (G : lG p s m c b L xs D cy d0 a o ad) (hB : lB D cy d0 (lA s a o ad) o ad a x n la σ H) (hS : va_S (l9 s) s.heap H locs) (hn : n + 1 ≤ 600) (hi : 0 ≤ i ∧ i + 5 ≤ L) (hf : cells + 24 ≤ room_1.cells ∧ slots + 2100 ≤ room_1.slots) (hl : lv_has ls 8 (lL b x o a i)) (kk : lNext p l e s m below meth c Q D cy d0 a o ad b x i n cells slots) : W p l e room_1 s m #[Value.ref b] below meth c H locs cells slots Q (F0 m 228 ls []) := by
  have B := G.1.1
  have hts := G.1.2.2.2.1
  obtain ⟨hCP, hM, I, hcp, ho, rfl⟩ := id hB
  refine x_aload_n B hl dL_law_228 rfl ?_
  refine ls_rd (k := 1) G hS hl rfl rfl hi ⟨by decide, by decide⟩ dL_law_229 dL_law_230 dL_law_232 dL_law_233 dL_law_234 ?_
  refine ls_rd (k := 2) G hS hl rfl rfl hi ⟨by decide, by decide⟩ dL_law_235 dL_law_236 dL_law_238 dL_law_239 dL_law_240 ?_
  refine ls_rd (k := 3) G hS hl rfl rfl hi ⟨by decide, by decide⟩ dL_law_241 dL_law_242 dL_law_244 dL_law_245 dL_law_246 ?_
  refine ls_rd (k := 4) G hS hl rfl rfl hi ⟨by decide, by decide⟩ dL_law_247 dL_law_248 dL_law_250 dL_law_251 dL_law_252 ?_
  refine ls_v (av := [.ref (la 0 0), .int (iI (lX xs i 1)), .int (iI (lX xs i 2)), .int (iI (lX xs i 3)), .int (iI (lX xs i 4))]) (rest := []) G hB hS hl (wr_round l hlt D cy d0 (lA s a o ad) la σ (lX_r xs i 1) (lX_r xs i 2) (lX_r xs i 3) (lX_r xs i 4) I hn hCP.2.2.2.2.2.1 hcp) (vx_cwSW 5 hts gL_law_L_round rfl rfl rfl (by decide +kernel) ⟨Nat.le_of_ble_eq_true rfl, Nat.le_of_ble_eq_true rfl⟩) rfl rfl (by decide) dL_law_253 ⟨by decide, by decide⟩ hf (fun H1 locs1 hQ ho1 hM1 hS1 => ?_)
  refine x_istore B hl dL_law_256 (by decide) (fun ls hl => ?_)
  refine x_aload_n B hl dL_law_258 rfl ?_
  refine ls_rd (k := 1) G hS1 hl rfl rfl hi ⟨by decide, by decide⟩ dL_law_259 dL_law_260 dL_law_262 dL_law_263 dL_law_264 ?_
  refine ls_rd (k := 2) G hS1 hl rfl rfl hi ⟨by decide, by decide⟩ dL_law_265 dL_law_266 dL_law_268 dL_law_269 dL_law_270 ?_
  refine ls_rd (k := 3) G hS1 hl rfl rfl hi ⟨by decide, by decide⟩ dL_law_271 dL_law_272 dL_law_274 dL_law_275 dL_law_276 ?_
  refine ls_rd (k := 4) G hS1 hl rfl rfl hi ⟨by decide, by decide⟩ dL_law_277 dL_law_278 dL_law_280 dL_law_281 dL_law_282 ?_
  refine ls_mv (av := [.int (iI (lX xs i 1)), .int (iI (lX xs i 2)), .int (iI (lX xs i 3)), .int (iI (lX xs i 4))]) (rest := []) G hQ ho1 hM1 I hn hcp hS1 hl (m_p_round l D cy o ad σ I.s (lX_r xs i 1) (lX_r xs i 2) (lX_r xs i 3) (lX_r xs i 4)) (cwV 4 hts gL_law_X11_round rfl rfl rfl (by decide +kernel) ⟨Nat.le_of_ble_eq_true rfl, Nat.le_of_ble_eq_true rfl⟩) rfl rfl (by decide) dL_law_283 hf (fun H2 locs2 la2 σ2 hB2 e0 hS2 => ?_)
  exact ls_endV G hB2 e0 hS2 (lv_key hl [(5, _), (0, _), (1, _), (2, _), (3, _), (4, _)] rfl) (cwV 0 hts gL_law_X11_thrown rfl rfl rfl (by decide +kernel) ⟨Nat.le_of_ble_eq_true rfl, Nat.le_of_ble_eq_true rfl⟩) hf dL_law_286 dL_law_287 dL_law_290 dL_law_292 dL_law_297 (by decide) (fun H3 locs3 ls3 h1 h2 h3 => kk H3 locs3 la2 σ2 ls3 h1 h2 h3)
set_option maxRecDepth 20000 in
theorem ggL_law_L_mark : GoodIn wsL_law wsL_mark := goodIn_ca (goodIn_r _ [410, 207, 411, 412, 413, 2, 414, 415, 416, 417, 418, 419, 420, 19, 421, 123, 124, 125, 16, 126, 127, 220, 221, 222, 223, 224, 225, 226, 227, 228, 229, 230, 231, 232, 233, 234, 235, 236, 237, 238, 239, 240, 41, 422, 423, 424, 425, 426, 427, 428, 369, 429, 387, 391, 1141, 1142, 1143, 1144, 1145, 1146, 1147, 1062, 1063, 1064, 1065, 1066, 1067, 1068, 1069, 1070, 1071, 1072, 1121, 1122, 1123] (by decide +kernel) (by decide +kernel)) (goodIn_sub (fun _ h => List.mem_append_left _ (List.mem_append_left _ (List.mem_append_right _ h))) (by decide +kernel))
set_option maxRecDepth 20000 in
theorem gL_law_L_mark : GoodIn wsL_law (va_wsS RL 158 yL_mark wsL_mark) := goodIn_app (goodIn_of _ (by decide +kernel)) ggL_law_L_mark
set_option maxRecDepth 20000 in
theorem ggL_law_X11_mark : GoodIn wsL_law wsX11_mark := goodIn_r _ [433, 194, 81, 82, 434, 435, 436, 5, 437, 403, 196, 197, 198, 199, 438, 439, 440, 441, 1073, 1074, 1075, 1076, 1077, 1078, 1079, 1080, 1081, 1082, 1083, 1084, 1085, 1086, 1087, 1088, 1089, 1090, 1091, 1092, 1093, 1094, 1095, 1096, 1097, 1098, 1099, 1100, 1101, 1102, 1103, 1104, 1105, 1106, 1107, 1108, 1109, 1110, 1111, 1112, 1113, 1114, 1115, 1116, 1117, 1118, 1119, 1120] (by decide +kernel) (by decide +kernel)
set_option maxRecDepth 20000 in
theorem gL_law_X11_mark : GoodIn wsL_law (wsV RL 161 RX11 yX11_mark wsX11_mark) := goodIn_app (goodIn_of _ (by decide +kernel)) ggL_law_X11_mark
theorem dL_law_607 : decode cL_law 607 = .ok (.aload_n 1, 1) := by decide +kernel
theorem dL_law_608 : decode cL_law 608 = .ok (.aload_n 0, 1) := by decide +kernel
theorem dL_law_609 : decode cL_law 609 = .ok (.iload 4, 2) := by decide +kernel
theorem dL_law_611 : decode cL_law 611 = .ok (.iconst 1, 1) := by decide +kernel
theorem dL_law_612 : decode cL_law 612 = .ok (.iadd, 1) := by decide +kernel
theorem dL_law_613 : decode cL_law 613 = .ok (.iaload, 1) := by decide +kernel
theorem dL_law_614 : decode cL_law 614 = .ok (.aload_n 0, 1) := by decide +kernel
theorem dL_law_615 : decode cL_law 615 = .ok (.iload 4, 2) := by decide +kernel
theorem dL_law_617 : decode cL_law 617 = .ok (.iconst 2, 1) := by decide +kernel
theorem dL_law_618 : decode cL_law 618 = .ok (.iadd, 1) := by decide +kernel
theorem dL_law_619 : decode cL_law 619 = .ok (.iaload, 1) := by decide +kernel
theorem dL_law_620 : decode cL_law 620 = .ok (.aload_n 3, 1) := by decide +kernel
theorem dL_law_621 : decode cL_law 621 = .ok (.invokestatic 158, 3) := by decide +kernel
theorem dL_law_624 : decode cL_law 624 = .ok (.istore 5, 2) := by decide +kernel
theorem dL_law_626 : decode cL_law 626 = .ok (.aload_n 2, 1) := by decide +kernel
theorem dL_law_627 : decode cL_law 627 = .ok (.aload_n 0, 1) := by decide +kernel
theorem dL_law_628 : decode cL_law 628 = .ok (.iload 4, 2) := by decide +kernel
theorem dL_law_630 : decode cL_law 630 = .ok (.iconst 1, 1) := by decide +kernel
theorem dL_law_631 : decode cL_law 631 = .ok (.iadd, 1) := by decide +kernel
theorem dL_law_632 : decode cL_law 632 = .ok (.iaload, 1) := by decide +kernel
theorem dL_law_633 : decode cL_law 633 = .ok (.aload_n 0, 1) := by decide +kernel
theorem dL_law_634 : decode cL_law 634 = .ok (.iload 4, 2) := by decide +kernel
theorem dL_law_636 : decode cL_law 636 = .ok (.iconst 2, 1) := by decide +kernel
theorem dL_law_637 : decode cL_law 637 = .ok (.iadd, 1) := by decide +kernel
theorem dL_law_638 : decode cL_law 638 = .ok (.iaload, 1) := by decide +kernel
theorem dL_law_639 : decode cL_law 639 = .ok (.invokevirtual 161, 3) := by decide +kernel
theorem dL_law_642 : decode cL_law 642 = .ok (.istore 6, 2) := by decide +kernel
theorem dL_law_644 : decode cL_law 644 = .ok (.aload_n 2, 1) := by decide +kernel
theorem dL_law_645 : decode cL_law 645 = .ok (.invokevirtual 136, 3) := by decide +kernel
theorem dL_law_648 : decode cL_law 648 = .ok (.iload 5, 2) := by decide +kernel
theorem dL_law_650 : decode cL_law 650 = .ok (.if_icmp .eq 5, 3) := by decide +kernel
theorem dL_law_653 : decode cL_law 653 = .ok (.iconst 0, 1) := by decide +kernel
theorem dL_law_654 : decode cL_law 654 = .ok (.ireturn, 1) := by decide +kernel
theorem dL_law_655 : decode cL_law 655 = .ok (.iload 5, 2) := by decide +kernel
theorem dL_law_657 : decode cL_law 657 = .ok (.ifCond .ne 15, 3) := by decide +kernel
theorem dL_law_660 : decode cL_law 660 = .ok (.aload_n 3, 1) := by decide +kernel
theorem dL_law_661 : decode cL_law 661 = .ok (.iconst 0, 1) := by decide +kernel
theorem dL_law_662 : decode cL_law 662 = .ok (.laload, 1) := by decide +kernel
theorem dL_law_663 : decode cL_law 663 = .ok (.iload 6, 2) := by decide +kernel
theorem dL_law_665 : decode cL_law 665 = .ok (.i2l, 1) := by decide +kernel
theorem dL_law_666 : decode cL_law 666 = .ok (.lcmp, 1) := by decide +kernel
theorem dL_law_667 : decode cL_law 667 = .ok (.ifCond .eq 5, 3) := by decide +kernel
theorem dL_law_670 : decode cL_law 670 = .ok (.iconst 0, 1) := by decide +kernel
theorem dL_law_671 : decode cL_law 671 = .ok (.ireturn, 1) := by decide +kernel
theorem dL_law_672 : decode cL_law 672 = .ok (.goto 1661, 3) := by decide +kernel
set_option maxRecDepth 20000 in
set_option maxHeartbeats 4000000 in
theorem lc_mark {p : Program} {l : Launch} {e : Env} {s : State} {m : MethodId} {below : List Frame} {meth : Method} {c : Code} {H : Heap} {locs : List Loc} {cells slots : Nat} {Q : State → Prop} {ls : Array Slot} {D : va_G} {cy : Nat → ClassId} {d0 : Nat} {la : Nat → Int → Nat} {σ : MS} {o a b L x : Nat} {ad : Nat → Nat} {xs : Nat → Int32} {n i : Int} (hlt : l.stackTraces = false) (G : lG p s m c b L xs D cy d0 a o ad) (hB : lB D cy d0 (lA s a o ad) o ad a x n la σ H) (hS : va_S (l9 s) s.heap H locs) (hn : n + 1 ≤ 600) (hi : 0 ≤ i ∧ i + 5 ≤ L) (hf : cells + 24 ≤ room_1.cells ∧ slots + 2100 ≤ room_1.slots) (hl : lv_has ls 8 (lL b x o a i)) (kk : lNext p l e s m below meth c Q D cy d0 a o ad b x i n cells slots) : W p l e room_1 s m #[Value.ref b] below meth c H locs cells slots Q (F0 m 607 ls []) := by
  have B := G.1.1
  have hts := G.1.2.2.2.1
  obtain ⟨hCP, hM, I, hcp, ho, rfl⟩ := id hB
  refine x_aload_n B hl dL_law_607 rfl ?_
  refine ls_rd (k := 1) G hS hl rfl rfl hi ⟨by decide, by decide⟩ dL_law_608 dL_law_609 dL_law_611 dL_law_612 dL_law_613 ?_
  refine ls_rd (k := 2) G hS hl rfl rfl hi ⟨by decide, by decide⟩ dL_law_614 dL_law_615 dL_law_617 dL_law_618 dL_law_619 ?_
  refine x_aload_n B hl dL_law_620 rfl ?_
  refine ls_w (av := [.ref (la 0 0), .int (iI (lX xs i 1)), .int (iI (lX xs i 2)), .ref a]) (rest := []) G hB hS hl (wr_mark l hlt D cy d0 (lA s a o ad) la σ (lX_r xs i 1) (lX_r xs i 2) I hn hCP.2.2.2.2.2.1 hcp (fun h => h.2.1 rfl)) (vx_cwSW 4 hts gL_law_L_mark rfl rfl rfl (by decide +kernel) ⟨Nat.le_of_ble_eq_true rfl, Nat.le_of_ble_eq_true rfl⟩) rfl rfl (by decide) dL_law_621 ⟨by decide, by decide⟩ hf (fun H1 locs1 hQ hM1 hS1 => ?_)
  refine x_istore B hl dL_law_624 (by decide) (fun ls hl => ?_)
  refine x_aload_n B hl dL_law_626 rfl ?_
  refine ls_rd (k := 1) G hS1 hl rfl rfl hi ⟨by decide, by decide⟩ dL_law_627 dL_law_628 dL_law_630 dL_law_631 dL_law_632 ?_
  refine ls_rd (k := 2) G hS1 hl rfl rfl hi ⟨by decide, by decide⟩ dL_law_633 dL_law_634 dL_law_636 dL_law_637 dL_law_638 ?_
  refine ls_m (av := [.int (iI (lX xs i 1)), .int (iI (lX xs i 2))]) (rest := []) G hQ hM1 I hn hcp hS1 hl (m_p_mark l D cy o ad σ I.s (lX_r xs i 1) (lX_r xs i 2)) (cwV 2 hts gL_law_X11_mark rfl rfl rfl (by decide +kernel) ⟨Nat.le_of_ble_eq_true rfl, Nat.le_of_ble_eq_true rfl⟩) rfl rfl (by decide) dL_law_639 hf (fun H2 locs2 la2 σ2 hB2 e0 ho2 hS2 => ?_)
  refine x_istore B hl dL_law_642 (by decide) (fun ls hl => ?_)
  exact ls_endI G hB2 e0 ho2 hS2 (lv_key hl [(6, _), (5, _), (0, _), (1, _), (2, _), (3, _), (4, _)] rfl) (cwV 0 hts gL_law_X11_thrown rfl rfl rfl (by decide +kernel) ⟨Nat.le_of_ble_eq_true rfl, Nat.le_of_ble_eq_true rfl⟩) hf dL_law_644 dL_law_645 dL_law_648 dL_law_650 dL_law_655 dL_law_657 dL_law_660 dL_law_661 dL_law_662 dL_law_663 dL_law_665 dL_law_666 dL_law_667 dL_law_672 (by decide) (fun H3 locs3 ls3 h1 h2 h3 => kk H3 locs3 la2 σ2 ls3 h1 h2 h3)
set_option maxRecDepth 20000 in
theorem ggL_law_L_lost : GoodIn wsL_law wsL_lost := goodIn_ca (goodIn_r _ [444, 207, 445, 446, 447, 2, 448, 415, 417, 418, 419, 420, 19, 421, 123, 124, 125, 16, 126, 127, 220, 221, 222, 223, 224, 225, 226, 227, 228, 229, 230, 231, 232, 233, 234, 235, 236, 237, 238, 239, 240, 41, 1141, 1142, 1143, 1144, 1145, 1146, 1147, 1062, 1063, 1064, 1065, 1066, 1067, 1068, 1069, 1070, 1071, 1072, 1121, 1122, 1123] (by decide +kernel) (by decide +kernel)) (goodIn_sub (fun _ h => List.mem_append_left _ (List.mem_append_left _ (List.mem_append_right _ h))) (by decide +kernel))
set_option maxRecDepth 20000 in
theorem gL_law_L_lost : GoodIn wsL_law (va_wsS RL 162 yL_lost wsL_lost) := goodIn_app (goodIn_of _ (by decide +kernel)) ggL_law_L_lost
set_option maxRecDepth 20000 in
theorem ggL_law_X11_lost : GoodIn wsL_law wsX11_lost := goodIn_r _ [452, 194, 81, 434, 435, 436, 5, 437, 403, 196, 197, 198, 199, 1073, 1074, 1075, 1076, 1077, 1078, 1079, 1080, 1081, 1082, 1083, 1084, 1085, 1086, 1087, 1088, 1089, 1090, 1091, 1092, 1093, 1094, 1095, 1096, 1097, 1098, 1099, 1100, 1101, 1102, 1103, 1104, 1105, 1106, 1107, 1108, 1109, 1110, 1111, 1112, 1113, 1114, 1115, 1116, 1117, 1118, 1119, 1120] (by decide +kernel) (by decide +kernel)
set_option maxRecDepth 20000 in
theorem gL_law_X11_lost : GoodIn wsL_law (wsV RL 164 RX11 yX11_lost wsX11_lost) := goodIn_app (goodIn_of _ (by decide +kernel)) ggL_law_X11_lost
theorem dL_law_675 : decode cL_law 675 = .ok (.aload_n 1, 1) := by decide +kernel
theorem dL_law_676 : decode cL_law 676 = .ok (.aload_n 0, 1) := by decide +kernel
theorem dL_law_677 : decode cL_law 677 = .ok (.iload 4, 2) := by decide +kernel
theorem dL_law_679 : decode cL_law 679 = .ok (.iconst 1, 1) := by decide +kernel
theorem dL_law_680 : decode cL_law 680 = .ok (.iadd, 1) := by decide +kernel
theorem dL_law_681 : decode cL_law 681 = .ok (.iaload, 1) := by decide +kernel
theorem dL_law_682 : decode cL_law 682 = .ok (.aload_n 3, 1) := by decide +kernel
theorem dL_law_683 : decode cL_law 683 = .ok (.invokestatic 162, 3) := by decide +kernel
theorem dL_law_686 : decode cL_law 686 = .ok (.istore 5, 2) := by decide +kernel
theorem dL_law_688 : decode cL_law 688 = .ok (.aload_n 2, 1) := by decide +kernel
theorem dL_law_689 : decode cL_law 689 = .ok (.aload_n 0, 1) := by decide +kernel
theorem dL_law_690 : decode cL_law 690 = .ok (.iload 4, 2) := by decide +kernel
theorem dL_law_692 : decode cL_law 692 = .ok (.iconst 1, 1) := by decide +kernel
theorem dL_law_693 : decode cL_law 693 = .ok (.iadd, 1) := by decide +kernel
theorem dL_law_694 : decode cL_law 694 = .ok (.iaload, 1) := by decide +kernel
theorem dL_law_695 : decode cL_law 695 = .ok (.invokevirtual 164, 3) := by decide +kernel
theorem dL_law_698 : decode cL_law 698 = .ok (.istore 6, 2) := by decide +kernel
theorem dL_law_700 : decode cL_law 700 = .ok (.aload_n 2, 1) := by decide +kernel
theorem dL_law_701 : decode cL_law 701 = .ok (.invokevirtual 136, 3) := by decide +kernel
theorem dL_law_704 : decode cL_law 704 = .ok (.iload 5, 2) := by decide +kernel
theorem dL_law_706 : decode cL_law 706 = .ok (.if_icmp .eq 5, 3) := by decide +kernel
theorem dL_law_709 : decode cL_law 709 = .ok (.iconst 0, 1) := by decide +kernel
theorem dL_law_710 : decode cL_law 710 = .ok (.ireturn, 1) := by decide +kernel
theorem dL_law_711 : decode cL_law 711 = .ok (.iload 5, 2) := by decide +kernel
theorem dL_law_713 : decode cL_law 713 = .ok (.ifCond .ne 22, 3) := by decide +kernel
theorem dL_law_716 : decode cL_law 716 = .ok (.aload_n 3, 1) := by decide +kernel
theorem dL_law_717 : decode cL_law 717 = .ok (.iconst 0, 1) := by decide +kernel
theorem dL_law_718 : decode cL_law 718 = .ok (.laload, 1) := by decide +kernel
theorem dL_law_719 : decode cL_law 719 = .ok (.iload 6, 2) := by decide +kernel
theorem dL_law_721 : decode cL_law 721 = .ok (.ifCond .eq 7, 3) := by decide +kernel
theorem dL_law_724 : decode cL_law 724 = .ok (.lconst 1, 1) := by decide +kernel
theorem dL_law_725 : decode cL_law 725 = .ok (.goto 4, 3) := by decide +kernel
theorem dL_law_728 : decode cL_law 728 = .ok (.lconst 0, 1) := by decide +kernel
theorem dL_law_729 : decode cL_law 729 = .ok (.lcmp, 1) := by decide +kernel
theorem dL_law_730 : decode cL_law 730 = .ok (.ifCond .eq 5, 3) := by decide +kernel
theorem dL_law_733 : decode cL_law 733 = .ok (.iconst 0, 1) := by decide +kernel
theorem dL_law_734 : decode cL_law 734 = .ok (.ireturn, 1) := by decide +kernel
theorem dL_law_735 : decode cL_law 735 = .ok (.goto 1598, 3) := by decide +kernel
set_option maxRecDepth 20000 in
set_option maxHeartbeats 4000000 in
theorem lc_lost {p : Program} {l : Launch} {e : Env} {s : State} {m : MethodId} {below : List Frame} {meth : Method} {c : Code} {H : Heap} {locs : List Loc} {cells slots : Nat} {Q : State → Prop} {ls : Array Slot} {D : va_G} {cy : Nat → ClassId} {d0 : Nat} {la : Nat → Int → Nat} {σ : MS} {o a b L x : Nat} {ad : Nat → Nat} {xs : Nat → Int32} {n i : Int} (hlt : l.stackTraces = false) (G : lG p s m c b L xs D cy d0 a o ad) (hB : lB D cy d0 (lA s a o ad) o ad a x n la σ H) (hS : va_S (l9 s) s.heap H locs) (hn : n + 1 ≤ 600) (hi : 0 ≤ i ∧ i + 5 ≤ L) (hf : cells + 24 ≤ room_1.cells ∧ slots + 2100 ≤ room_1.slots) (hl : lv_has ls 8 (lL b x o a i)) (kk : lNext p l e s m below meth c Q D cy d0 a o ad b x i n cells slots) : W p l e room_1 s m #[Value.ref b] below meth c H locs cells slots Q (F0 m 675 ls []) := by
  have B := G.1.1
  have hts := G.1.2.2.2.1
  obtain ⟨hCP, hM, I, hcp, ho, rfl⟩ := id hB
  refine x_aload_n B hl dL_law_675 rfl ?_
  refine ls_rd (k := 1) G hS hl rfl rfl hi ⟨by decide, by decide⟩ dL_law_676 dL_law_677 dL_law_679 dL_law_680 dL_law_681 ?_
  refine x_aload_n B hl dL_law_682 rfl ?_
  refine ls_w (av := [.ref (la 0 0), .int (iI (lX xs i 1)), .ref a]) (rest := []) G hB hS hl (wr_lost l hlt D cy d0 (lA s a o ad) la σ (lX_r xs i 1) I hn hCP.2.2.2.2.2.1 hcp (fun h => h.2.1 rfl)) (vx_cwSW 3 hts gL_law_L_lost rfl rfl rfl (by decide +kernel) ⟨Nat.le_of_ble_eq_true rfl, Nat.le_of_ble_eq_true rfl⟩) rfl rfl (by decide) dL_law_683 ⟨by decide, by decide⟩ hf (fun H1 locs1 hQ hM1 hS1 => ?_)
  refine x_istore B hl dL_law_686 (by decide) (fun ls hl => ?_)
  refine x_aload_n B hl dL_law_688 rfl ?_
  refine ls_rd (k := 1) G hS1 hl rfl rfl hi ⟨by decide, by decide⟩ dL_law_689 dL_law_690 dL_law_692 dL_law_693 dL_law_694 ?_
  refine ls_m (av := [.int (iI (lX xs i 1))]) (rest := []) G hQ hM1 I hn hcp hS1 hl (m_p_lost l D cy o ad σ I.s (lX_r xs i 1)) (cwV 1 hts gL_law_X11_lost rfl rfl rfl (by decide +kernel) ⟨Nat.le_of_ble_eq_true rfl, Nat.le_of_ble_eq_true rfl⟩) rfl rfl (by decide) dL_law_695 hf (fun H2 locs2 la2 σ2 hB2 e0 ho2 hS2 => ?_)
  refine x_istore B hl dL_law_698 (by decide) (fun ls hl => ?_)
  exact ls_endB G hB2 e0 ho2 hS2 (lv_key hl [(6, _), (5, _), (0, _), (1, _), (2, _), (3, _), (4, _)] rfl) (cwV 0 hts gL_law_X11_thrown rfl rfl rfl (by decide +kernel) ⟨Nat.le_of_ble_eq_true rfl, Nat.le_of_ble_eq_true rfl⟩) hf dL_law_700 dL_law_701 dL_law_704 dL_law_706 dL_law_711 dL_law_713 dL_law_716 dL_law_717 dL_law_718 dL_law_719 dL_law_721 dL_law_724 dL_law_725 dL_law_728 dL_law_729 dL_law_730 dL_law_735 (by decide) (fun H3 locs3 ls3 h1 h2 h3 => kk H3 locs3 la2 σ2 ls3 h1 h2 h3)
set_option maxRecDepth 20000 in
theorem ggL_law_L_pay : GoodIn wsL_law wsL_pay := goodIn_ca (goodIn_ca (goodIn_r _ [942, 207, 208, 943, 944, 945, 2, 946, 947, 948, 935, 375, 376, 377, 378, 18, 379, 123, 124, 125, 16, 126, 127, 220, 221, 222, 223, 224, 225, 226, 227, 228, 229, 230, 231, 232, 233, 234, 235, 236, 237, 238, 239, 240, 41, 245, 246, 247, 248, 249, 250, 251, 252, 1131, 1132, 1133, 1134, 1135, 1136, 1137, 1138, 1139, 1140, 1062, 1063, 1064, 1065, 1066, 1067, 1068, 1069, 1070, 1071, 1072, 1121, 1122, 1123] (by decide +kernel) (by decide +kernel)) (goodIn_sub (fun _ h => List.mem_append_left _ (List.mem_append_left _ (List.mem_append_right _ h))) (by decide +kernel))) (goodIn_sub (fun _ h => List.mem_append_left _ (List.mem_append_right _ h)) (by decide +kernel))
set_option maxRecDepth 20000 in
theorem gL_law_L_pay : GoodIn wsL_law (va_wsS RL 221 yL_pay wsL_pay) := goodIn_app (goodIn_of _ (by decide +kernel)) ggL_law_L_pay
set_option maxRecDepth 20000 in
theorem ggL_law_X11_pay : GoodIn wsL_law wsX11_pay := goodIn_r _ [952, 194, 953, 79, 78, 404, 405, 406, 5, 407, 359, 196, 197, 198, 199, 268, 269, 270, 1073, 1074, 1075, 1076, 1077, 1078, 1079, 1080, 1081, 1082, 1083, 1084, 1085, 1086, 1087, 1088, 1089, 1090, 1091, 1092, 1093, 1094, 1095, 1096, 1097, 1098, 1099, 1100, 1101, 1102, 1103, 1104, 1105, 1106, 1107, 1108, 1109, 1110, 1111, 1112, 1113, 1114, 1115, 1116, 1117, 1118, 1119, 1120] (by decide +kernel) (by decide +kernel)
set_option maxRecDepth 20000 in
theorem gL_law_X11_pay : GoodIn wsL_law (wsV RL 224 RX11 yX11_pay wsX11_pay) := goodIn_app (goodIn_of _ (by decide +kernel)) ggL_law_X11_pay
theorem dL_law_1812 : decode cL_law 1812 = .ok (.aload_n 1, 1) := by decide +kernel
theorem dL_law_1813 : decode cL_law 1813 = .ok (.aload_n 0, 1) := by decide +kernel
theorem dL_law_1814 : decode cL_law 1814 = .ok (.iload 4, 2) := by decide +kernel
theorem dL_law_1816 : decode cL_law 1816 = .ok (.iconst 1, 1) := by decide +kernel
theorem dL_law_1817 : decode cL_law 1817 = .ok (.iadd, 1) := by decide +kernel
theorem dL_law_1818 : decode cL_law 1818 = .ok (.iaload, 1) := by decide +kernel
theorem dL_law_1819 : decode cL_law 1819 = .ok (.aload_n 0, 1) := by decide +kernel
theorem dL_law_1820 : decode cL_law 1820 = .ok (.iload 4, 2) := by decide +kernel
theorem dL_law_1822 : decode cL_law 1822 = .ok (.iconst 2, 1) := by decide +kernel
theorem dL_law_1823 : decode cL_law 1823 = .ok (.iadd, 1) := by decide +kernel
theorem dL_law_1824 : decode cL_law 1824 = .ok (.iaload, 1) := by decide +kernel
theorem dL_law_1825 : decode cL_law 1825 = .ok (.i2l, 1) := by decide +kernel
theorem dL_law_1826 : decode cL_law 1826 = .ok (.bipush 32, 2) := by decide +kernel
theorem dL_law_1828 : decode cL_law 1828 = .ok (.lshl, 1) := by decide +kernel
theorem dL_law_1829 : decode cL_law 1829 = .ok (.aload_n 0, 1) := by decide +kernel
theorem dL_law_1830 : decode cL_law 1830 = .ok (.iload 4, 2) := by decide +kernel
theorem dL_law_1832 : decode cL_law 1832 = .ok (.iconst 3, 1) := by decide +kernel
theorem dL_law_1833 : decode cL_law 1833 = .ok (.iadd, 1) := by decide +kernel
theorem dL_law_1834 : decode cL_law 1834 = .ok (.iaload, 1) := by decide +kernel
theorem dL_law_1835 : decode cL_law 1835 = .ok (.i2l, 1) := by decide +kernel
theorem dL_law_1836 : decode cL_law 1836 = .ok (.ldc2_w 219, 3) := by decide +kernel
theorem dL_law_1839 : decode cL_law 1839 = .ok (.land, 1) := by decide +kernel
theorem dL_law_1840 : decode cL_law 1840 = .ok (.lor, 1) := by decide +kernel
theorem dL_law_1841 : decode cL_law 1841 = .ok (.aload_n 3, 1) := by decide +kernel
theorem dL_law_1842 : decode cL_law 1842 = .ok (.invokestatic 221, 3) := by decide +kernel
theorem dL_law_1845 : decode cL_law 1845 = .ok (.istore 5, 2) := by decide +kernel
theorem dL_law_1847 : decode cL_law 1847 = .ok (.aload_n 2, 1) := by decide +kernel
theorem dL_law_1848 : decode cL_law 1848 = .ok (.aload_n 0, 1) := by decide +kernel
theorem dL_law_1849 : decode cL_law 1849 = .ok (.iload 4, 2) := by decide +kernel
theorem dL_law_1851 : decode cL_law 1851 = .ok (.iconst 1, 1) := by decide +kernel
theorem dL_law_1852 : decode cL_law 1852 = .ok (.iadd, 1) := by decide +kernel
theorem dL_law_1853 : decode cL_law 1853 = .ok (.iaload, 1) := by decide +kernel
theorem dL_law_1854 : decode cL_law 1854 = .ok (.aload_n 0, 1) := by decide +kernel
theorem dL_law_1855 : decode cL_law 1855 = .ok (.iload 4, 2) := by decide +kernel
theorem dL_law_1857 : decode cL_law 1857 = .ok (.iconst 2, 1) := by decide +kernel
theorem dL_law_1858 : decode cL_law 1858 = .ok (.iadd, 1) := by decide +kernel
theorem dL_law_1859 : decode cL_law 1859 = .ok (.iaload, 1) := by decide +kernel
theorem dL_law_1860 : decode cL_law 1860 = .ok (.i2l, 1) := by decide +kernel
theorem dL_law_1861 : decode cL_law 1861 = .ok (.bipush 32, 2) := by decide +kernel
theorem dL_law_1863 : decode cL_law 1863 = .ok (.lshl, 1) := by decide +kernel
theorem dL_law_1864 : decode cL_law 1864 = .ok (.aload_n 0, 1) := by decide +kernel
theorem dL_law_1865 : decode cL_law 1865 = .ok (.iload 4, 2) := by decide +kernel
theorem dL_law_1867 : decode cL_law 1867 = .ok (.iconst 3, 1) := by decide +kernel
theorem dL_law_1868 : decode cL_law 1868 = .ok (.iadd, 1) := by decide +kernel
theorem dL_law_1869 : decode cL_law 1869 = .ok (.iaload, 1) := by decide +kernel
theorem dL_law_1870 : decode cL_law 1870 = .ok (.i2l, 1) := by decide +kernel
theorem dL_law_1871 : decode cL_law 1871 = .ok (.ldc2_w 219, 3) := by decide +kernel
theorem dL_law_1874 : decode cL_law 1874 = .ok (.land, 1) := by decide +kernel
theorem dL_law_1875 : decode cL_law 1875 = .ok (.lor, 1) := by decide +kernel
theorem dL_law_1876 : decode cL_law 1876 = .ok (.invokevirtual 224, 3) := by decide +kernel
theorem dL_law_1879 : decode cL_law 1879 = .ok (.lstore 6, 2) := by decide +kernel
theorem dL_law_1881 : decode cL_law 1881 = .ok (.aload_n 2, 1) := by decide +kernel
theorem dL_law_1882 : decode cL_law 1882 = .ok (.invokevirtual 136, 3) := by decide +kernel
theorem dL_law_1885 : decode cL_law 1885 = .ok (.iload 5, 2) := by decide +kernel
theorem dL_law_1887 : decode cL_law 1887 = .ok (.if_icmp .eq 5, 3) := by decide +kernel
theorem dL_law_1890 : decode cL_law 1890 = .ok (.iconst 0, 1) := by decide +kernel
theorem dL_law_1891 : decode cL_law 1891 = .ok (.ireturn, 1) := by decide +kernel
theorem dL_law_1892 : decode cL_law 1892 = .ok (.iload 5, 2) := by decide +kernel
theorem dL_law_1894 : decode cL_law 1894 = .ok (.ifCond .ne 14, 3) := by decide +kernel
theorem dL_law_1897 : decode cL_law 1897 = .ok (.aload_n 3, 1) := by decide +kernel
theorem dL_law_1898 : decode cL_law 1898 = .ok (.iconst 0, 1) := by decide +kernel
theorem dL_law_1899 : decode cL_law 1899 = .ok (.laload, 1) := by decide +kernel
theorem dL_law_1900 : decode cL_law 1900 = .ok (.lload 6, 2) := by decide +kernel
theorem dL_law_1902 : decode cL_law 1902 = .ok (.lcmp, 1) := by decide +kernel
theorem dL_law_1903 : decode cL_law 1903 = .ok (.ifCond .eq 5, 3) := by decide +kernel
theorem dL_law_1906 : decode cL_law 1906 = .ok (.iconst 0, 1) := by decide +kernel
theorem dL_law_1907 : decode cL_law 1907 = .ok (.ireturn, 1) := by decide +kernel
theorem dL_law_1908 : decode cL_law 1908 = .ok (.goto 425, 3) := by decide +kernel
set_option maxRecDepth 20000 in
set_option maxHeartbeats 4000000 in
theorem lc_pay {p : Program} {l : Launch} {e : Env} {s : State} {m : MethodId} {below : List Frame} {meth : Method} {c : Code} {H : Heap} {locs : List Loc} {cells slots : Nat} {Q : State → Prop} {ls : Array Slot} {D : va_G} {cy : Nat → ClassId} {d0 : Nat} {la : Nat → Int → Nat} {σ : MS} {o a b L x : Nat} {ad : Nat → Nat} {xs : Nat → Int32} {n i : Int} (hlt : l.stackTraces = false) (G : lG p s m c b L xs D cy d0 a o ad) (hB : lB D cy d0 (lA s a o ad) o ad a x n la σ H) (hS : va_S (l9 s) s.heap H locs) (hn : n + 1 ≤ 600) (hi : 0 ≤ i ∧ i + 5 ≤ L) (hf : cells + 24 ≤ room_1.cells ∧ slots + 2100 ≤ room_1.slots) (hl : lv_has ls 8 (lL b x o a i)) (kk : lNext p l e s m below meth c Q D cy d0 a o ad b x i n cells slots) : W p l e room_1 s m #[Value.ref b] below meth c H locs cells slots Q (F0 m 1812 ls []) := by
  have B := G.1.1
  have hts := G.1.2.2.2.1
  obtain ⟨hCP, hM, I, hcp, ho, rfl⟩ := id hB
  refine x_aload_n B hl dL_law_1812 rfl ?_
  refine ls_rd (k := 1) G hS hl rfl rfl hi ⟨by decide, by decide⟩ dL_law_1813 dL_law_1814 dL_law_1816 dL_law_1817 dL_law_1818 ?_
  refine ls_ln G hS hl rfl rfl hi (hts (.constantLong RL 219 4294967295) (by decide +kernel)) dL_law_1819 dL_law_1820 dL_law_1822 dL_law_1823 dL_law_1824 dL_law_1825 dL_law_1826 dL_law_1828 dL_law_1829 dL_law_1830 dL_law_1832 dL_law_1833 dL_law_1834 dL_law_1835 dL_law_1836 dL_law_1839 dL_law_1840 ?_
  refine x_aload_n B hl dL_law_1841 rfl ?_
  refine ls_w (av := [.ref (la 0 0), .int (iI (lX xs i 1)), .long (lI (lY xs i)), .ref a]) (rest := []) G hB hS hl (wr_pay l hlt D cy d0 (lA s a o ad) la σ (lX_r xs i 1) (lY_r xs i) I hn hCP.2.2.2.2.2.1 hcp (fun h => h.2.1 rfl)) (vx_cwSW 4 hts gL_law_L_pay rfl rfl rfl (by decide +kernel) ⟨Nat.le_of_ble_eq_true rfl, Nat.le_of_ble_eq_true rfl⟩) rfl rfl (by decide) dL_law_1842 ⟨by decide, by decide⟩ hf (fun H1 locs1 hQ hM1 hS1 => ?_)
  refine x_istore B hl dL_law_1845 (by decide) (fun ls hl => ?_)
  refine x_aload_n B hl dL_law_1847 rfl ?_
  refine ls_rd (k := 1) G hS1 hl rfl rfl hi ⟨by decide, by decide⟩ dL_law_1848 dL_law_1849 dL_law_1851 dL_law_1852 dL_law_1853 ?_
  refine ls_ln G hS1 hl rfl rfl hi (hts (.constantLong RL 219 4294967295) (by decide +kernel)) dL_law_1854 dL_law_1855 dL_law_1857 dL_law_1858 dL_law_1859 dL_law_1860 dL_law_1861 dL_law_1863 dL_law_1864 dL_law_1865 dL_law_1867 dL_law_1868 dL_law_1869 dL_law_1870 dL_law_1871 dL_law_1874 dL_law_1875 ?_
  refine ls_m (av := [.int (iI (lX xs i 1)), .long (lI (lY xs i))]) (rest := []) G hQ hM1 I hn hcp hS1 hl (m_p_pay l D cy o ad σ I.s (lX_r xs i 1) (lY_r xs i)) (cwV 2 hts gL_law_X11_pay rfl rfl rfl (by decide +kernel) ⟨Nat.le_of_ble_eq_true rfl, Nat.le_of_ble_eq_true rfl⟩) rfl rfl (by decide) dL_law_1876 hf (fun H2 locs2 la2 σ2 hB2 e0 ho2 hS2 => ?_)
  refine x_lstore B hl dL_law_1879 (by decide) (fun ls hl => ?_)
  exact ls_endL G hB2 e0 ho2 hS2 (lv_key hl [(6, _), (5, _), (0, _), (1, _), (2, _), (3, _), (4, _)] rfl) (cwV 0 hts gL_law_X11_thrown rfl rfl rfl (by decide +kernel) ⟨Nat.le_of_ble_eq_true rfl, Nat.le_of_ble_eq_true rfl⟩) hf dL_law_1881 dL_law_1882 dL_law_1885 dL_law_1887 dL_law_1892 dL_law_1894 dL_law_1897 dL_law_1898 dL_law_1899 dL_law_1900 dL_law_1902 dL_law_1903 dL_law_1908 (by decide) (fun H3 locs3 ls3 h1 h2 h3 => kk H3 locs3 la2 σ2 ls3 h1 h2 h3)
