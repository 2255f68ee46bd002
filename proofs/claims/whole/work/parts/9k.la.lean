set_option maxRecDepth 20000 in
theorem ggL_law_L_street : GoodIn wsL_law wsL_street := goodIn_ca (goodIn_r _ [114, 115, 116, 117, 118, 2, 119, 17, 120, 121, 122, 123, 124, 125, 16, 126, 127, 128, 129, 130, 131, 132, 133, 134, 135, 12, 13, 60, 136, 137, 138, 139, 140, 141, 142, 143, 41, 144, 145, 146, 147, 148, 149, 150, 151, 152, 153, 154, 155, 40, 156, 157, 158, 159, 160, 161, 162, 163, 164, 165, 166, 167, 168, 169, 170, 171, 172, 173, 174, 175, 176, 177, 178, 179, 180, 181, 182, 183, 184, 185, 186, 187, 188, 189, 1062, 1063, 1064, 1065, 1066, 1067, 1068, 1069, 1070, 1071, 1072, 1129, 1130, 1121, 1122, 1123] (by decide +kernel) (by decide +kernel)) (goodIn_sub (fun _ h => List.mem_append_left _ (List.mem_append_left _ (List.mem_append_left _ (List.mem_append_right _ h)))) (by decide +kernel))
set_option maxRecDepth 20000 in
theorem gL_law_L_street : GoodIn wsL_law (va_wsS RL 130 yL_street wsL_street) := goodIn_app (goodIn_of _ (by decide +kernel)) ggL_law_L_street
set_option maxRecDepth 20000 in
theorem ggL_law_X11_street : GoodIn wsL_law wsX11_street := goodIn_r _ [193, 194, 195, 196, 197, 198, 5, 199, 1073, 1074, 1075, 1076, 1077, 1078, 1079, 1080, 1081, 1082, 1083, 1084, 1085, 1086, 1087, 1088, 1089, 1090, 1091, 1092, 1093, 1094, 1095, 1096, 1097, 1098, 1099, 1100, 1101, 1102, 1103, 1104, 1105, 1106, 1107, 1108, 1109, 1110, 1111, 1112, 1113, 1114, 1115, 1116, 1117, 1118, 1119, 1120] (by decide +kernel) (by decide +kernel)
set_option maxRecDepth 20000 in
theorem gL_law_X11_street : GoodIn wsL_law (wsV RL 135 RX11 yX11_street wsX11_street) := goodIn_app (goodIn_of _ (by decide +kernel)) ggL_law_X11_street
theorem dL_law_184 : decode cL_law 184 = .ok (.aload_n 1, 1) := by decide +kernel
theorem dL_law_185 : decode cL_law 185 = .ok (.aload_n 3, 1) := by decide +kernel
theorem dL_law_186 : decode cL_law 186 = .ok (.invokestatic 130, 3) := by decide +kernel
theorem dL_law_189 : decode cL_law 189 = .ok (.istore 5, 2) := by decide +kernel
theorem dL_law_191 : decode cL_law 191 = .ok (.aload_n 2, 1) := by decide +kernel
theorem dL_law_192 : decode cL_law 192 = .ok (.invokevirtual 135, 3) := by decide +kernel
theorem dL_law_195 : decode cL_law 195 = .ok (.istore 6, 2) := by decide +kernel
theorem dL_law_197 : decode cL_law 197 = .ok (.aload_n 2, 1) := by decide +kernel
theorem dL_law_198 : decode cL_law 198 = .ok (.invokevirtual 136, 3) := by decide +kernel
theorem dL_law_201 : decode cL_law 201 = .ok (.iload 5, 2) := by decide +kernel
theorem dL_law_203 : decode cL_law 203 = .ok (.if_icmp .eq 5, 3) := by decide +kernel
theorem dL_law_206 : decode cL_law 206 = .ok (.iconst 0, 1) := by decide +kernel
theorem dL_law_207 : decode cL_law 207 = .ok (.ireturn, 1) := by decide +kernel
theorem dL_law_208 : decode cL_law 208 = .ok (.iload 5, 2) := by decide +kernel
theorem dL_law_210 : decode cL_law 210 = .ok (.ifCond .ne 15, 3) := by decide +kernel
theorem dL_law_213 : decode cL_law 213 = .ok (.aload_n 3, 1) := by decide +kernel
theorem dL_law_214 : decode cL_law 214 = .ok (.iconst 0, 1) := by decide +kernel
theorem dL_law_215 : decode cL_law 215 = .ok (.laload, 1) := by decide +kernel
theorem dL_law_216 : decode cL_law 216 = .ok (.iload 6, 2) := by decide +kernel
theorem dL_law_218 : decode cL_law 218 = .ok (.i2l, 1) := by decide +kernel
theorem dL_law_219 : decode cL_law 219 = .ok (.lcmp, 1) := by decide +kernel
theorem dL_law_220 : decode cL_law 220 = .ok (.ifCond .eq 5, 3) := by decide +kernel
theorem dL_law_223 : decode cL_law 223 = .ok (.iconst 0, 1) := by decide +kernel
theorem dL_law_224 : decode cL_law 224 = .ok (.ireturn, 1) := by decide +kernel
theorem dL_law_225 : decode cL_law 225 = .ok (.goto 2108, 3) := by decide +kernel
set_option maxRecDepth 20000 in
set_option maxHeartbeats 4000000 in
theorem lc_street {p : Program} {l : Launch} {e : Env} {s : State} {m : MethodId} {below : List Frame} {meth : Method} {c : Code} {H : Heap} {locs : List Loc} {cells slots : Nat} {Q : State → Prop} {ls : Array Slot} {D : va_G} {cy : Nat → ClassId} {d0 : Nat} {la : Nat → Int → Nat} {σ : MS} {o a b L x : Nat} {ad : Nat → Nat} {xs : Nat → Int32} {n i : Int} (hlt : l.stackTraces = false) (G : lG p s m c b L xs D cy d0 a o ad) (hB : lB D cy d0 (lA s a o ad) o ad a x n la σ H) (hS : va_S (l9 s) s.heap H locs) (hn : n + 1 ≤ 600) (hi : 0 ≤ i ∧ i + 5 ≤ L) (hf : cells + 24 ≤ room_1.cells ∧ slots + 2100 ≤ room_1.slots) (hl : lv_has ls 8 (lL b x o a i)) (kk : lNext p l e s m below meth c Q D cy d0 a o ad b x i n cells slots) : W p l e room_1 s m #[Value.ref b] below meth c H locs cells slots Q (F0 m 184 ls []) := by
  have B := G.1.1
  have hts := G.1.2.2.2.1
  obtain ⟨hCP, hM, I, hcp, ho, rfl⟩ := id hB
  refine x_aload_n B hl dL_law_184 rfl ?_
  refine x_aload_n B hl dL_law_185 rfl ?_
  refine ls_w (av := [.ref (la 0 0), .ref a]) (rest := []) G hB hS hl (wr_street l hlt D cy d0 (lA s a o ad) la σ  I hn hCP.2.2.2.2.2.1 hcp (fun h => h.2.1 rfl)) (vx_cwSW 2 hts gL_law_L_street rfl rfl rfl (by decide +kernel) ⟨Nat.le_of_ble_eq_true rfl, Nat.le_of_ble_eq_true rfl⟩) rfl rfl (by decide) dL_law_186 ⟨by decide, by decide⟩ hf (fun H1 locs1 hQ hM1 hS1 => ?_)
  refine x_istore B hl dL_law_189 (by decide) (fun ls hl => ?_)
  refine x_aload_n B hl dL_law_191 rfl ?_
  refine ls_m (av := []) (rest := []) G hQ hM1 I hn hcp hS1 hl (m_p_street l D cy o ad σ I.s ) (cwV 0 hts gL_law_X11_street rfl rfl rfl (by decide +kernel) ⟨Nat.le_of_ble_eq_true rfl, Nat.le_of_ble_eq_true rfl⟩) rfl rfl (by decide) dL_law_192 hf (fun H2 locs2 la2 σ2 hB2 e0 ho2 hS2 => ?_)
  refine x_istore B hl dL_law_195 (by decide) (fun ls hl => ?_)
  exact ls_endI G hB2 e0 ho2 hS2 (lv_key hl [(6, _), (5, _), (0, _), (1, _), (2, _), (3, _), (4, _)] rfl) (cwV 0 hts gL_law_X11_thrown rfl rfl rfl (by decide +kernel) ⟨Nat.le_of_ble_eq_true rfl, Nat.le_of_ble_eq_true rfl⟩) hf dL_law_197 dL_law_198 dL_law_201 dL_law_203 dL_law_208 dL_law_210 dL_law_213 dL_law_214 dL_law_215 dL_law_216 dL_law_218 dL_law_219 dL_law_220 dL_law_225 (by decide) (fun H3 locs3 ls3 h1 h2 h3 => kk H3 locs3 la2 σ2 ls3 h1 h2 h3)
set_option maxRecDepth 20000 in
theorem ggL_law_L_holiday : GoodIn wsL_law wsL_holiday := goodIn_ca (goodIn_r _ [273, 208, 274, 275, 276, 2, 277, 34, 278, 25, 245, 246, 247, 248, 249, 250, 251, 252, 279, 280, 281, 24, 282, 56, 1062, 1063, 1064, 1065, 1066, 1067, 1068, 1069, 1070, 1071, 1072, 1124] (by decide +kernel) (by decide +kernel)) (goodIn_sub (fun _ h => List.mem_append_left _ (List.mem_append_right _ h)) (by decide +kernel))
set_option maxRecDepth 20000 in
theorem gL_law_L_holiday : GoodIn wsL_law (va_wsS RL 143 yL_holiday wsL_holiday) := goodIn_app (goodIn_of _ (by decide +kernel)) ggL_law_L_holiday
set_option maxRecDepth 20000 in
theorem ggL_law_X11_holiday : GoodIn wsL_law wsX11_holiday := goodIn_r _ [286, 194, 287, 288, 72, 268, 269, 5, 270, 196, 197, 198, 199, 1073, 1074, 1075, 1076, 1077, 1078, 1079, 1080, 1081, 1082, 1083, 1084, 1085, 1086, 1087, 1088, 1089, 1090, 1091, 1092, 1093, 1094, 1095, 1096, 1097, 1098, 1099, 1100, 1101, 1102, 1103, 1104, 1105, 1106, 1107, 1108, 1109, 1110, 1111, 1112, 1113, 1114, 1115, 1116, 1117, 1118, 1119, 1120] (by decide +kernel) (by decide +kernel)
set_option maxRecDepth 20000 in
theorem gL_law_X11_holiday : GoodIn wsL_law (wsV RL 146 RX11 yX11_holiday wsX11_holiday) := goodIn_app (goodIn_of _ (by decide +kernel)) ggL_law_X11_holiday
theorem dL_law_300 : decode cL_law 300 = .ok (.aload_n 1, 1) := by decide +kernel
theorem dL_law_301 : decode cL_law 301 = .ok (.aload_n 0, 1) := by decide +kernel
theorem dL_law_302 : decode cL_law 302 = .ok (.iload 4, 2) := by decide +kernel
theorem dL_law_304 : decode cL_law 304 = .ok (.iconst 1, 1) := by decide +kernel
theorem dL_law_305 : decode cL_law 305 = .ok (.iadd, 1) := by decide +kernel
theorem dL_law_306 : decode cL_law 306 = .ok (.iaload, 1) := by decide +kernel
theorem dL_law_307 : decode cL_law 307 = .ok (.aload_n 0, 1) := by decide +kernel
theorem dL_law_308 : decode cL_law 308 = .ok (.iload 4, 2) := by decide +kernel
theorem dL_law_310 : decode cL_law 310 = .ok (.iconst 2, 1) := by decide +kernel
theorem dL_law_311 : decode cL_law 311 = .ok (.iadd, 1) := by decide +kernel
theorem dL_law_312 : decode cL_law 312 = .ok (.iaload, 1) := by decide +kernel
theorem dL_law_313 : decode cL_law 313 = .ok (.ifCond .eq 7, 3) := by decide +kernel
theorem dL_law_316 : decode cL_law 316 = .ok (.iconst 1, 1) := by decide +kernel
theorem dL_law_317 : decode cL_law 317 = .ok (.goto 4, 3) := by decide +kernel
theorem dL_law_320 : decode cL_law 320 = .ok (.iconst 0, 1) := by decide +kernel
theorem dL_law_321 : decode cL_law 321 = .ok (.aload_n 3, 1) := by decide +kernel
theorem dL_law_322 : decode cL_law 322 = .ok (.invokestatic 143, 3) := by decide +kernel
theorem dL_law_325 : decode cL_law 325 = .ok (.istore 5, 2) := by decide +kernel
theorem dL_law_327 : decode cL_law 327 = .ok (.aload_n 2, 1) := by decide +kernel
theorem dL_law_328 : decode cL_law 328 = .ok (.aload_n 0, 1) := by decide +kernel
theorem dL_law_329 : decode cL_law 329 = .ok (.iload 4, 2) := by decide +kernel
theorem dL_law_331 : decode cL_law 331 = .ok (.iconst 1, 1) := by decide +kernel
theorem dL_law_332 : decode cL_law 332 = .ok (.iadd, 1) := by decide +kernel
theorem dL_law_333 : decode cL_law 333 = .ok (.iaload, 1) := by decide +kernel
theorem dL_law_334 : decode cL_law 334 = .ok (.aload_n 0, 1) := by decide +kernel
theorem dL_law_335 : decode cL_law 335 = .ok (.iload 4, 2) := by decide +kernel
theorem dL_law_337 : decode cL_law 337 = .ok (.iconst 2, 1) := by decide +kernel
theorem dL_law_338 : decode cL_law 338 = .ok (.iadd, 1) := by decide +kernel
theorem dL_law_339 : decode cL_law 339 = .ok (.iaload, 1) := by decide +kernel
theorem dL_law_340 : decode cL_law 340 = .ok (.ifCond .eq 7, 3) := by decide +kernel
theorem dL_law_343 : decode cL_law 343 = .ok (.iconst 1, 1) := by decide +kernel
theorem dL_law_344 : decode cL_law 344 = .ok (.goto 4, 3) := by decide +kernel
theorem dL_law_347 : decode cL_law 347 = .ok (.iconst 0, 1) := by decide +kernel
theorem dL_law_348 : decode cL_law 348 = .ok (.invokevirtual 146, 3) := by decide +kernel
theorem dL_law_351 : decode cL_law 351 = .ok (.istore 6, 2) := by decide +kernel
theorem dL_law_353 : decode cL_law 353 = .ok (.aload_n 2, 1) := by decide +kernel
theorem dL_law_354 : decode cL_law 354 = .ok (.invokevirtual 136, 3) := by decide +kernel
theorem dL_law_357 : decode cL_law 357 = .ok (.iload 5, 2) := by decide +kernel
theorem dL_law_359 : decode cL_law 359 = .ok (.if_icmp .eq 5, 3) := by decide +kernel
theorem dL_law_362 : decode cL_law 362 = .ok (.iconst 0, 1) := by decide +kernel
theorem dL_law_363 : decode cL_law 363 = .ok (.ireturn, 1) := by decide +kernel
theorem dL_law_364 : decode cL_law 364 = .ok (.iload 5, 2) := by decide +kernel
theorem dL_law_366 : decode cL_law 366 = .ok (.ifCond .ne 22, 3) := by decide +kernel
theorem dL_law_369 : decode cL_law 369 = .ok (.aload_n 3, 1) := by decide +kernel
theorem dL_law_370 : decode cL_law 370 = .ok (.iconst 0, 1) := by decide +kernel
theorem dL_law_371 : decode cL_law 371 = .ok (.laload, 1) := by decide +kernel
theorem dL_law_372 : decode cL_law 372 = .ok (.iload 6, 2) := by decide +kernel
theorem dL_law_374 : decode cL_law 374 = .ok (.ifCond .eq 7, 3) := by decide +kernel
theorem dL_law_377 : decode cL_law 377 = .ok (.lconst 1, 1) := by decide +kernel
theorem dL_law_378 : decode cL_law 378 = .ok (.goto 4, 3) := by decide +kernel
theorem dL_law_381 : decode cL_law 381 = .ok (.lconst 0, 1) := by decide +kernel
theorem dL_law_382 : decode cL_law 382 = .ok (.lcmp, 1) := by decide +kernel
theorem dL_law_383 : decode cL_law 383 = .ok (.ifCond .eq 5, 3) := by decide +kernel
theorem dL_law_386 : decode cL_law 386 = .ok (.iconst 0, 1) := by decide +kernel
theorem dL_law_387 : decode cL_law 387 = .ok (.ireturn, 1) := by decide +kernel
theorem dL_law_388 : decode cL_law 388 = .ok (.goto 1945, 3) := by decide +kernel
set_option maxRecDepth 20000 in
set_option maxHeartbeats 4000000 in
theorem lc_holiday {p : Program} {l : Launch} {e : Env} {s : State} {m : MethodId} {below : List Frame} {meth : Method} {c : Code} {H : Heap} {locs : List Loc} {cells slots : Nat} {Q : State → Prop} {ls : Array Slot} {D : va_G} {cy : Nat → ClassId} {d0 : Nat} {la : Nat → Int → Nat} {σ : MS} {o a b L x : Nat} {ad : Nat → Nat} {xs : Nat → Int32} {n i : Int} (hlt : l.stackTraces = false) (G : lG p s m c b L xs D cy d0 a o ad) (hB : lB D cy d0 (lA s a o ad) o ad a x n la σ H) (hS : va_S (l9 s) s.heap H locs) (hn : n + 1 ≤ 600) (hi : 0 ≤ i ∧ i + 5 ≤ L) (hf : cells + 24 ≤ room_1.cells ∧ slots + 2100 ≤ room_1.slots) (hl : lv_has ls 8 (lL b x o a i)) (kk : lNext p l e s m below meth c Q D cy d0 a o ad b x i n cells slots) : W p l e room_1 s m #[Value.ref b] below meth c H locs cells slots Q (F0 m 300 ls []) := by
  have B := G.1.1
  have hts := G.1.2.2.2.1
  obtain ⟨hCP, hM, I, hcp, ho, rfl⟩ := id hB
  refine x_aload_n B hl dL_law_300 rfl ?_
  refine ls_rd (k := 1) G hS hl rfl rfl hi ⟨by decide, by decide⟩ dL_law_301 dL_law_302 dL_law_304 dL_law_305 dL_law_306 ?_
  refine ls_rd (k := 2) G hS hl rfl rfl hi ⟨by decide, by decide⟩ dL_law_307 dL_law_308 dL_law_310 dL_law_311 dL_law_312 ?_
  refine ls_bo G (lX_r xs i 2) dL_law_313 dL_law_316 dL_law_317 dL_law_320 ?_
  refine x_aload_n B hl dL_law_321 rfl ?_
  refine ls_w (av := [.ref (la 0 0), .int (iI (lX xs i 1)), .int (iI (if lX xs i 2 = 0 then 0 else 1)), .ref a]) (rest := []) G hB hS hl (wr_holiday l hlt D cy d0 (lA s a o ad) la σ (lX_r xs i 1) (lBo _) I hn hCP.2.2.2.2.2.1 hcp (fun h => h.2.1 rfl)) (vx_cwSW 4 hts gL_law_L_holiday rfl rfl rfl (by decide +kernel) ⟨Nat.le_of_ble_eq_true rfl, Nat.le_of_ble_eq_true rfl⟩) rfl rfl (by decide) dL_law_322 ⟨by decide, by decide⟩ hf (fun H1 locs1 hQ hM1 hS1 => ?_)
  refine x_istore B hl dL_law_325 (by decide) (fun ls hl => ?_)
  refine x_aload_n B hl dL_law_327 rfl ?_
  refine ls_rd (k := 1) G hS1 hl rfl rfl hi ⟨by decide, by decide⟩ dL_law_328 dL_law_329 dL_law_331 dL_law_332 dL_law_333 ?_
  refine ls_rd (k := 2) G hS1 hl rfl rfl hi ⟨by decide, by decide⟩ dL_law_334 dL_law_335 dL_law_337 dL_law_338 dL_law_339 ?_
  refine ls_bo G (lX_r xs i 2) dL_law_340 dL_law_343 dL_law_344 dL_law_347 ?_
  refine ls_m (av := [.int (iI (lX xs i 1)), .int (iI (if lX xs i 2 = 0 then 0 else 1))]) (rest := []) G hQ hM1 I hn hcp hS1 hl (m_p_holiday l D cy o ad σ I.s (lX_r xs i 1) (lBo _)) (cwV 2 hts gL_law_X11_holiday rfl rfl rfl (by decide +kernel) ⟨Nat.le_of_ble_eq_true rfl, Nat.le_of_ble_eq_true rfl⟩) rfl rfl (by decide) dL_law_348 hf (fun H2 locs2 la2 σ2 hB2 e0 ho2 hS2 => ?_)
  refine x_istore B hl dL_law_351 (by decide) (fun ls hl => ?_)
  exact ls_endB G hB2 e0 ho2 hS2 (lv_key hl [(6, _), (5, _), (0, _), (1, _), (2, _), (3, _), (4, _)] rfl) (cwV 0 hts gL_law_X11_thrown rfl rfl rfl (by decide +kernel) ⟨Nat.le_of_ble_eq_true rfl, Nat.le_of_ble_eq_true rfl⟩) hf dL_law_353 dL_law_354 dL_law_357 dL_law_359 dL_law_364 dL_law_366 dL_law_369 dL_law_370 dL_law_371 dL_law_372 dL_law_374 dL_law_377 dL_law_378 dL_law_381 dL_law_382 dL_law_383 dL_law_388 (by decide) (fun H3 locs3 ls3 h1 h2 h3 => kk H3 locs3 la2 σ2 ls3 h1 h2 h3)
set_option maxRecDepth 20000 in
theorem ggL_law_L_when : GoodIn wsL_law wsL_when := goodIn_ca (goodIn_ca (goodIn_r _ [291, 207, 208, 292, 293, 294, 2, 295, 296, 215, 216, 217, 218, 17, 219, 123, 124, 125, 16, 126, 127, 220, 221, 222, 223, 224, 225, 226, 227, 228, 229, 230, 231, 232, 233, 234, 235, 236, 237, 238, 239, 240, 41, 241, 242, 243, 244, 245, 246, 247, 248, 249, 250, 251, 252, 297, 298, 299, 300, 25, 301, 302, 303, 122, 304, 137, 305, 306, 307, 308, 136, 309, 310, 311, 24, 312, 313, 314, 315, 316, 56, 1062, 1063, 1064, 1065, 1066, 1067, 1068, 1069, 1070, 1071, 1072, 1121, 1122, 1123, 1129, 1130, 1124] (by decide +kernel) (by decide +kernel)) (goodIn_sub (fun _ h => List.mem_append_left _ (List.mem_append_left _ (List.mem_append_right _ h))) (by decide +kernel))) (goodIn_sub (fun _ h => List.mem_append_left _ (List.mem_append_right _ h)) (by decide +kernel))
set_option maxRecDepth 20000 in
theorem gL_law_L_when : GoodIn wsL_law (va_wsS RL 147 yL_when wsL_when) := goodIn_app (goodIn_of _ (by decide +kernel)) ggL_law_L_when
set_option maxRecDepth 20000 in
theorem ggL_law_X11_when : GoodIn wsL_law wsX11_when := goodIn_r _ [320, 194, 261, 321, 264, 265, 266, 5, 267, 195, 196, 197, 198, 199, 268, 269, 270, 322, 323, 324, 325, 74, 73, 326, 327, 328, 329, 72, 1073, 1074, 1075, 1076, 1077, 1078, 1079, 1080, 1081, 1082, 1083, 1084, 1085, 1086, 1087, 1088, 1089, 1090, 1091, 1092, 1093, 1094, 1095, 1096, 1097, 1098, 1099, 1100, 1101, 1102, 1103, 1104, 1105, 1106, 1107, 1108, 1109, 1110, 1111, 1112, 1113, 1114, 1115, 1116, 1117, 1118, 1119, 1120] (by decide +kernel) (by decide +kernel)
set_option maxRecDepth 20000 in
theorem gL_law_X11_when : GoodIn wsL_law (wsV RL 150 RX11 yX11_when wsX11_when) := goodIn_app (goodIn_of _ (by decide +kernel)) ggL_law_X11_when
theorem dL_law_391 : decode cL_law 391 = .ok (.aload_n 1, 1) := by decide +kernel
theorem dL_law_392 : decode cL_law 392 = .ok (.aload_n 0, 1) := by decide +kernel
theorem dL_law_393 : decode cL_law 393 = .ok (.iload 4, 2) := by decide +kernel
theorem dL_law_395 : decode cL_law 395 = .ok (.iconst 1, 1) := by decide +kernel
theorem dL_law_396 : decode cL_law 396 = .ok (.iadd, 1) := by decide +kernel
theorem dL_law_397 : decode cL_law 397 = .ok (.iaload, 1) := by decide +kernel
theorem dL_law_398 : decode cL_law 398 = .ok (.aload_n 0, 1) := by decide +kernel
theorem dL_law_399 : decode cL_law 399 = .ok (.iload 4, 2) := by decide +kernel
theorem dL_law_401 : decode cL_law 401 = .ok (.iconst 2, 1) := by decide +kernel
theorem dL_law_402 : decode cL_law 402 = .ok (.iadd, 1) := by decide +kernel
theorem dL_law_403 : decode cL_law 403 = .ok (.iaload, 1) := by decide +kernel
theorem dL_law_404 : decode cL_law 404 = .ok (.aload_n 0, 1) := by decide +kernel
theorem dL_law_405 : decode cL_law 405 = .ok (.iload 4, 2) := by decide +kernel
theorem dL_law_407 : decode cL_law 407 = .ok (.iconst 3, 1) := by decide +kernel
theorem dL_law_408 : decode cL_law 408 = .ok (.iadd, 1) := by decide +kernel
theorem dL_law_409 : decode cL_law 409 = .ok (.iaload, 1) := by decide +kernel
theorem dL_law_410 : decode cL_law 410 = .ok (.aload_n 3, 1) := by decide +kernel
theorem dL_law_411 : decode cL_law 411 = .ok (.invokestatic 147, 3) := by decide +kernel
theorem dL_law_414 : decode cL_law 414 = .ok (.istore 5, 2) := by decide +kernel
theorem dL_law_416 : decode cL_law 416 = .ok (.aload_n 2, 1) := by decide +kernel
theorem dL_law_417 : decode cL_law 417 = .ok (.aload_n 0, 1) := by decide +kernel
theorem dL_law_418 : decode cL_law 418 = .ok (.iload 4, 2) := by decide +kernel
theorem dL_law_420 : decode cL_law 420 = .ok (.iconst 1, 1) := by decide +kernel
theorem dL_law_421 : decode cL_law 421 = .ok (.iadd, 1) := by decide +kernel
theorem dL_law_422 : decode cL_law 422 = .ok (.iaload, 1) := by decide +kernel
theorem dL_law_423 : decode cL_law 423 = .ok (.aload_n 0, 1) := by decide +kernel
theorem dL_law_424 : decode cL_law 424 = .ok (.iload 4, 2) := by decide +kernel
theorem dL_law_426 : decode cL_law 426 = .ok (.iconst 2, 1) := by decide +kernel
theorem dL_law_427 : decode cL_law 427 = .ok (.iadd, 1) := by decide +kernel
theorem dL_law_428 : decode cL_law 428 = .ok (.iaload, 1) := by decide +kernel
theorem dL_law_429 : decode cL_law 429 = .ok (.aload_n 0, 1) := by decide +kernel
theorem dL_law_430 : decode cL_law 430 = .ok (.iload 4, 2) := by decide +kernel
theorem dL_law_432 : decode cL_law 432 = .ok (.iconst 3, 1) := by decide +kernel
theorem dL_law_433 : decode cL_law 433 = .ok (.iadd, 1) := by decide +kernel
theorem dL_law_434 : decode cL_law 434 = .ok (.iaload, 1) := by decide +kernel
theorem dL_law_435 : decode cL_law 435 = .ok (.invokevirtual 150, 3) := by decide +kernel
theorem dL_law_438 : decode cL_law 438 = .ok (.istore 6, 2) := by decide +kernel
theorem dL_law_440 : decode cL_law 440 = .ok (.aload_n 2, 1) := by decide +kernel
theorem dL_law_441 : decode cL_law 441 = .ok (.invokevirtual 136, 3) := by decide +kernel
theorem dL_law_444 : decode cL_law 444 = .ok (.iload 5, 2) := by decide +kernel
theorem dL_law_446 : decode cL_law 446 = .ok (.if_icmp .eq 5, 3) := by decide +kernel
theorem dL_law_449 : decode cL_law 449 = .ok (.iconst 0, 1) := by decide +kernel
theorem dL_law_450 : decode cL_law 450 = .ok (.ireturn, 1) := by decide +kernel
theorem dL_law_451 : decode cL_law 451 = .ok (.iload 5, 2) := by decide +kernel
theorem dL_law_453 : decode cL_law 453 = .ok (.ifCond .ne 15, 3) := by decide +kernel
theorem dL_law_456 : decode cL_law 456 = .ok (.aload_n 3, 1) := by decide +kernel
theorem dL_law_457 : decode cL_law 457 = .ok (.iconst 0, 1) := by decide +kernel
theorem dL_law_458 : decode cL_law 458 = .ok (.laload, 1) := by decide +kernel
theorem dL_law_459 : decode cL_law 459 = .ok (.iload 6, 2) := by decide +kernel
theorem dL_law_461 : decode cL_law 461 = .ok (.i2l, 1) := by decide +kernel
theorem dL_law_462 : decode cL_law 462 = .ok (.lcmp, 1) := by decide +kernel
theorem dL_law_463 : decode cL_law 463 = .ok (.ifCond .eq 5, 3) := by decide +kernel
theorem dL_law_466 : decode cL_law 466 = .ok (.iconst 0, 1) := by decide +kernel
theorem dL_law_467 : decode cL_law 467 = .ok (.ireturn, 1) := by decide +kernel
theorem dL_law_468 : decode cL_law 468 = .ok (.goto 1865, 3) := by decide +kernel
set_option maxRecDepth 20000 in
set_option maxHeartbeats 4000000 in
theorem lc_when {p : Program} {l : Launch} {e : Env} {s : State} {m : MethodId} {below : List Frame} {meth : Method} {c : Code} {H : Heap} {locs : List Loc} {cells slots : Nat} {Q : State → Prop} {ls : Array Slot} {D : va_G} {cy : Nat → ClassId} {d0 : Nat} {la : Nat → Int → Nat} {σ : MS} {o a b L x : Nat} {ad : Nat → Nat} {xs : Nat → Int32} {n i : Int} (hlt : l.stackTraces = false) (G : lG p s m c b L xs D cy d0 a o ad) (hB : lB D cy d0 (lA s a o ad) o ad a x n la σ H) (hS : va_S (l9 s) s.heap H locs) (hn : n + 1 ≤ 600) (hi : 0 ≤ i ∧ i + 5 ≤ L) (hf : cells + 24 ≤ room_1.cells ∧ slots + 2100 ≤ room_1.slots) (hl : lv_has ls 8 (lL b x o a i)) (kk : lNext p l e s m below meth c Q D cy d0 a o ad b x i n cells slots) : W p l e room_1 s m #[Value.ref b] below meth c H locs cells slots Q (F0 m 391 ls []) := by
  have B := G.1.1
  have hts := G.1.2.2.2.1
  obtain ⟨hCP, hM, I, hcp, ho, rfl⟩ := id hB
  refine x_aload_n B hl dL_law_391 rfl ?_
  refine ls_rd (k := 1) G hS hl rfl rfl hi ⟨by decide, by decide⟩ dL_law_392 dL_law_393 dL_law_395 dL_law_396 dL_law_397 ?_
  refine ls_rd (k := 2) G hS hl rfl rfl hi ⟨by decide, by decide⟩ dL_law_398 dL_law_399 dL_law_401 dL_law_402 dL_law_403 ?_
  refine ls_rd (k := 3) G hS hl rfl rfl hi ⟨by decide, by decide⟩ dL_law_404 dL_law_405 dL_law_407 dL_law_408 dL_law_409 ?_
  refine x_aload_n B hl dL_law_410 rfl ?_
  refine ls_w (av := [.ref (la 0 0), .int (iI (lX xs i 1)), .int (iI (lX xs i 2)), .int (iI (lX xs i 3)), .ref a]) (rest := []) G hB hS hl (wr_when l hlt D cy d0 (lA s a o ad) la σ (lX_r xs i 1) (lX_r xs i 2) (lX_r xs i 3) I hn hCP.2.2.2.2.2.1 hcp (fun h => h.2.1 rfl)) (vx_cwSW 5 hts gL_law_L_when rfl rfl rfl (by decide +kernel) ⟨Nat.le_of_ble_eq_true rfl, Nat.le_of_ble_eq_true rfl⟩) rfl rfl (by decide) dL_law_411 ⟨by decide, by decide⟩ hf (fun H1 locs1 hQ hM1 hS1 => ?_)
  refine x_istore B hl dL_law_414 (by decide) (fun ls hl => ?_)
  refine x_aload_n B hl dL_law_416 rfl ?_
  refine ls_rd (k := 1) G hS1 hl rfl rfl hi ⟨by decide, by decide⟩ dL_law_417 dL_law_418 dL_law_420 dL_law_421 dL_law_422 ?_
  refine ls_rd (k := 2) G hS1 hl rfl rfl hi ⟨by decide, by decide⟩ dL_law_423 dL_law_424 dL_law_426 dL_law_427 dL_law_428 ?_
  refine ls_rd (k := 3) G hS1 hl rfl rfl hi ⟨by decide, by decide⟩ dL_law_429 dL_law_430 dL_law_432 dL_law_433 dL_law_434 ?_
  refine ls_m (av := [.int (iI (lX xs i 1)), .int (iI (lX xs i 2)), .int (iI (lX xs i 3))]) (rest := []) G hQ hM1 I hn hcp hS1 hl (m_p_when l D cy o ad σ I.s (lX_r xs i 1) (lX_r xs i 2) (lX_r xs i 3)) (cwV 3 hts gL_law_X11_when rfl rfl rfl (by decide +kernel) ⟨Nat.le_of_ble_eq_true rfl, Nat.le_of_ble_eq_true rfl⟩) rfl rfl (by decide) dL_law_435 hf (fun H2 locs2 la2 σ2 hB2 e0 ho2 hS2 => ?_)
  refine x_istore B hl dL_law_438 (by decide) (fun ls hl => ?_)
  exact ls_endI G hB2 e0 ho2 hS2 (lv_key hl [(6, _), (5, _), (0, _), (1, _), (2, _), (3, _), (4, _)] rfl) (cwV 0 hts gL_law_X11_thrown rfl rfl rfl (by decide +kernel) ⟨Nat.le_of_ble_eq_true rfl, Nat.le_of_ble_eq_true rfl⟩) hf dL_law_440 dL_law_441 dL_law_444 dL_law_446 dL_law_451 dL_law_453 dL_law_456 dL_law_457 dL_law_458 dL_law_459 dL_law_461 dL_law_462 dL_law_463 dL_law_468 (by decide) (fun H3 locs3 ls3 h1 h2 h3 => kk H3 locs3 la2 σ2 ls3 h1 h2 h3)
set_option maxRecDepth 20000 in
theorem ggL_law_L_house : GoodIn wsL_law wsL_house := goodIn_ca (goodIn_ca (goodIn_r _ [332, 207, 115, 333, 334, 335, 2, 336, 18, 337, 338, 339, 340, 215, 216, 217, 218, 17, 219, 123, 124, 125, 16, 126, 127, 220, 221, 222, 223, 224, 225, 226, 227, 228, 229, 230, 231, 232, 233, 234, 235, 236, 237, 238, 239, 240, 41, 128, 129, 130, 131, 132, 341, 342, 343, 344, 12, 13, 345, 346, 347, 348, 349, 350, 351, 352, 353, 354, 138, 139, 140, 141, 142, 143, 144, 145, 146, 147, 148, 149, 150, 151, 152, 153, 154, 155, 40, 156, 157, 158, 159, 160, 161, 162, 163, 164, 165, 166, 167, 168, 169, 170, 171, 172, 173, 174, 175, 176, 177, 178, 179, 180, 181, 182, 183, 184, 185, 186, 187, 188, 189, 1062, 1063, 1064, 1065, 1066, 1067, 1068, 1069, 1070, 1071, 1072, 1131, 1132, 1133, 1134, 1135, 1136, 1137, 1138, 1139, 1140, 1121, 1122, 1123] (by decide +kernel) (by decide +kernel)) (goodIn_sub (fun _ h => List.mem_append_left _ (List.mem_append_left _ (List.mem_append_right _ h))) (by decide +kernel))) (goodIn_sub (fun _ h => List.mem_append_left _ (List.mem_append_left _ (List.mem_append_left _ (List.mem_append_right _ h)))) (by decide +kernel))
set_option maxRecDepth 20000 in
theorem gL_law_L_house : GoodIn wsL_law (va_wsS RL 151 yL_house wsL_house) := goodIn_app (goodIn_of _ (by decide +kernel)) ggL_law_L_house
set_option maxRecDepth 20000 in
theorem ggL_law_X11_house : GoodIn wsL_law wsX11_house := goodIn_r _ [358, 194, 359, 75, 264, 265, 266, 5, 267, 195, 196, 197, 198, 199, 1073, 1074, 1075, 1076, 1077, 1078, 1079, 1080, 1081, 1082, 1083, 1084, 1085, 1086, 1087, 1088, 1089, 1090, 1091, 1092, 1093, 1094, 1095, 1096, 1097, 1098, 1099, 1100, 1101, 1102, 1103, 1104, 1105, 1106, 1107, 1108, 1109, 1110, 1111, 1112, 1113, 1114, 1115, 1116, 1117, 1118, 1119, 1120] (by decide +kernel) (by decide +kernel)
set_option maxRecDepth 20000 in
theorem gL_law_X11_house : GoodIn wsL_law (wsV RL 154 RX11 yX11_house wsX11_house) := goodIn_app (goodIn_of _ (by decide +kernel)) ggL_law_X11_house
theorem dL_law_471 : decode cL_law 471 = .ok (.aload_n 1, 1) := by decide +kernel
theorem dL_law_472 : decode cL_law 472 = .ok (.aload_n 0, 1) := by decide +kernel
theorem dL_law_473 : decode cL_law 473 = .ok (.iload 4, 2) := by decide +kernel
theorem dL_law_475 : decode cL_law 475 = .ok (.iconst 1, 1) := by decide +kernel
theorem dL_law_476 : decode cL_law 476 = .ok (.iadd, 1) := by decide +kernel
theorem dL_law_477 : decode cL_law 477 = .ok (.iaload, 1) := by decide +kernel
theorem dL_law_478 : decode cL_law 478 = .ok (.aload_n 3, 1) := by decide +kernel
theorem dL_law_479 : decode cL_law 479 = .ok (.invokestatic 151, 3) := by decide +kernel
theorem dL_law_482 : decode cL_law 482 = .ok (.istore 5, 2) := by decide +kernel
theorem dL_law_484 : decode cL_law 484 = .ok (.aload_n 2, 1) := by decide +kernel
theorem dL_law_485 : decode cL_law 485 = .ok (.aload_n 0, 1) := by decide +kernel
theorem dL_law_486 : decode cL_law 486 = .ok (.iload 4, 2) := by decide +kernel
theorem dL_law_488 : decode cL_law 488 = .ok (.iconst 1, 1) := by decide +kernel
theorem dL_law_489 : decode cL_law 489 = .ok (.iadd, 1) := by decide +kernel
theorem dL_law_490 : decode cL_law 490 = .ok (.iaload, 1) := by decide +kernel
theorem dL_law_491 : decode cL_law 491 = .ok (.invokevirtual 154, 3) := by decide +kernel
theorem dL_law_494 : decode cL_law 494 = .ok (.istore 6, 2) := by decide +kernel
theorem dL_law_496 : decode cL_law 496 = .ok (.aload_n 2, 1) := by decide +kernel
theorem dL_law_497 : decode cL_law 497 = .ok (.invokevirtual 136, 3) := by decide +kernel
theorem dL_law_500 : decode cL_law 500 = .ok (.iload 5, 2) := by decide +kernel
theorem dL_law_502 : decode cL_law 502 = .ok (.if_icmp .eq 5, 3) := by decide +kernel
theorem dL_law_505 : decode cL_law 505 = .ok (.iconst 0, 1) := by decide +kernel
theorem dL_law_506 : decode cL_law 506 = .ok (.ireturn, 1) := by decide +kernel
theorem dL_law_507 : decode cL_law 507 = .ok (.iload 5, 2) := by decide +kernel
theorem dL_law_509 : decode cL_law 509 = .ok (.ifCond .ne 15, 3) := by decide +kernel
theorem dL_law_512 : decode cL_law 512 = .ok (.aload_n 3, 1) := by decide +kernel
theorem dL_law_513 : decode cL_law 513 = .ok (.iconst 0, 1) := by decide +kernel
theorem dL_law_514 : decode cL_law 514 = .ok (.laload, 1) := by decide +kernel
theorem dL_law_515 : decode cL_law 515 = .ok (.iload 6, 2) := by decide +kernel
theorem dL_law_517 : decode cL_law 517 = .ok (.i2l, 1) := by decide +kernel
theorem dL_law_518 : decode cL_law 518 = .ok (.lcmp, 1) := by decide +kernel
theorem dL_law_519 : decode cL_law 519 = .ok (.ifCond .eq 5, 3) := by decide +kernel
theorem dL_law_522 : decode cL_law 522 = .ok (.iconst 0, 1) := by decide +kernel
theorem dL_law_523 : decode cL_law 523 = .ok (.ireturn, 1) := by decide +kernel
theorem dL_law_524 : decode cL_law 524 = .ok (.goto 1809, 3) := by decide +kernel
set_option maxRecDepth 20000 in
set_option maxHeartbeats 4000000 in
theorem lc_house {p : Program} {l : Launch} {e : Env} {s : State} {m : MethodId} {below : List Frame} {meth : Method} {c : Code} {H : Heap} {locs : List Loc} {cells slots : Nat} {Q : State → Prop} {ls : Array Slot} {D : va_G} {cy : Nat → ClassId} {d0 : Nat} {la : Nat → Int → Nat} {σ : MS} {o a b L x : Nat} {ad : Nat → Nat} {xs : Nat → Int32} {n i : Int} (hlt : l.stackTraces = false) (G : lG p s m c b L xs D cy d0 a o ad) (hB : lB D cy d0 (lA s a o ad) o ad a x n la σ H) (hS : va_S (l9 s) s.heap H locs) (hn : n + 1 ≤ 600) (hi : 0 ≤ i ∧ i + 5 ≤ L) (hf : cells + 24 ≤ room_1.cells ∧ slots + 2100 ≤ room_1.slots) (hl : lv_has ls 8 (lL b x o a i)) (kk : lNext p l e s m below meth c Q D cy d0 a o ad b x i n cells slots) : W p l e room_1 s m #[Value.ref b] below meth c H locs cells slots Q (F0 m 471 ls []) := by
  have B := G.1.1
  have hts := G.1.2.2.2.1
  obtain ⟨hCP, hM, I, hcp, ho, rfl⟩ := id hB
  refine x_aload_n B hl dL_law_471 rfl ?_
  refine ls_rd (k := 1) G hS hl rfl rfl hi ⟨by decide, by decide⟩ dL_law_472 dL_law_473 dL_law_475 dL_law_476 dL_law_477 ?_
  refine x_aload_n B hl dL_law_478 rfl ?_
  refine ls_w (av := [.ref (la 0 0), .int (iI (lX xs i 1)), .ref a]) (rest := []) G hB hS hl (wr_house l hlt D cy d0 (lA s a o ad) la σ (lX_r xs i 1) I hn hCP.2.2.2.2.2.1 hcp (fun h => h.2.1 rfl)) (vx_cwSW 3 hts gL_law_L_house rfl rfl rfl (by decide +kernel) ⟨Nat.le_of_ble_eq_true rfl, Nat.le_of_ble_eq_true rfl⟩) rfl rfl (by decide) dL_law_479 ⟨by decide, by decide⟩ hf (fun H1 locs1 hQ hM1 hS1 => ?_)
  refine x_istore B hl dL_law_482 (by decide) (fun ls hl => ?_)
  refine x_aload_n B hl dL_law_484 rfl ?_
  refine ls_rd (k := 1) G hS1 hl rfl rfl hi ⟨by decide, by decide⟩ dL_law_485 dL_law_486 dL_law_488 dL_law_489 dL_law_490 ?_
  refine ls_m (av := [.int (iI (lX xs i 1))]) (rest := []) G hQ hM1 I hn hcp hS1 hl (m_p_house l D cy o ad σ I.s (lX_r xs i 1)) (cwV 1 hts gL_law_X11_house rfl rfl rfl (by decide +kernel) ⟨Nat.le_of_ble_eq_true rfl, Nat.le_of_ble_eq_true rfl⟩) rfl rfl (by decide) dL_law_491 hf (fun H2 locs2 la2 σ2 hB2 e0 ho2 hS2 => ?_)
  refine x_istore B hl dL_law_494 (by decide) (fun ls hl => ?_)
  exact ls_endI G hB2 e0 ho2 hS2 (lv_key hl [(6, _), (5, _), (0, _), (1, _), (2, _), (3, _), (4, _)] rfl) (cwV 0 hts gL_law_X11_thrown rfl rfl rfl (by decide +kernel) ⟨Nat.le_of_ble_eq_true rfl, Nat.le_of_ble_eq_true rfl⟩) hf dL_law_496 dL_law_497 dL_law_500 dL_law_502 dL_law_507 dL_law_509 dL_law_512 dL_law_513 dL_law_514 dL_law_515 dL_law_517 dL_law_518 dL_law_519 dL_law_524 (by decide) (fun H3 locs3 ls3 h1 h2 h3 => kk H3 locs3 la2 σ2 ls3 h1 h2 h3)
