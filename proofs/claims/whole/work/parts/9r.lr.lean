set_option maxRecDepth 20000 in
theorem ggL_law_X10_count : GoodIn wsL_law wsX10_count := goodIn_r _ [1045, 34, 17, 18, 19, 20, 21, 584, 123, 124, 125, 16, 126, 127, 1046, 1047, 1048, 2, 1049, 379, 774, 225, 226, 227, 228, 229, 230, 231, 232, 233, 234, 235, 236, 237, 238, 239, 240, 41, 1050, 1051, 1052, 1053, 572, 1054, 1055, 1056, 1057, 948, 1062, 1063, 1064, 1065, 1066, 1067, 1068, 1069, 1070, 1071, 1072, 1121, 1122, 1123, 1131, 1132, 1133, 1134, 1135, 1136, 1137, 1138, 1139, 1140] (by decide +kernel) (by decide +kernel)
set_option maxRecDepth 20000 in
theorem gL_law_X10_count : GoodIn wsL_law (wsV RL 243 RX10 yX10_count wsX10_count) := goodIn_app (goodIn_of _ (by decide +kernel)) ggL_law_X10_count
set_option maxRecDepth 20000 in
theorem ggL_law_X11_count : GoodIn wsL_law wsX11_count := goodIn_r _ [1061, 194, 287, 195, 359, 403, 535, 652, 77, 79, 650, 835, 836, 837, 5, 838, 104, 106, 107, 103, 839, 840, 841, 842, 80, 100, 96, 843, 844, 845, 846, 847, 848, 849, 850, 90, 87, 89, 88, 820, 821, 822, 823, 86, 85, 84, 924, 925, 926, 927, 905, 906, 907, 908, 1073, 1074, 1075, 1076, 1077, 1078, 1079, 1080, 1081, 1082, 1083, 1084, 1085, 1086, 1087, 1088, 1089, 1090, 1091, 1092, 1093, 1094, 1095, 1096, 1097, 1098, 1099, 1100, 1101, 1102, 1103, 1104, 1105, 1106, 1107, 1108, 1109, 1110, 1111, 1112, 1113, 1114, 1115, 1116, 1117, 1118, 1119, 1120] (by decide +kernel) (by decide +kernel)
set_option maxRecDepth 20000 in
theorem gL_law_X11_count : GoodIn wsL_law (wsV RL 246 RX11 yX11_count wsX11_count) := goodIn_app (goodIn_of _ (by decide +kernel)) ggL_law_X11_count
theorem dL_law_2307 : decode cL_law 2307 = .ok (.aload_n 1, 1) := by decide +kernel
theorem dL_law_2308 : decode cL_law 2308 = .ok (.aload_n 0, 1) := by decide +kernel
theorem dL_law_2309 : decode cL_law 2309 = .ok (.iload 4, 2) := by decide +kernel
theorem dL_law_2311 : decode cL_law 2311 = .ok (.iconst 1, 1) := by decide +kernel
theorem dL_law_2312 : decode cL_law 2312 = .ok (.iadd, 1) := by decide +kernel
theorem dL_law_2313 : decode cL_law 2313 = .ok (.iaload, 1) := by decide +kernel
theorem dL_law_2314 : decode cL_law 2314 = .ok (.invokevirtual 243, 3) := by decide +kernel
theorem dL_law_2317 : decode cL_law 2317 = .ok (.aload_n 2, 1) := by decide +kernel
theorem dL_law_2318 : decode cL_law 2318 = .ok (.aload_n 0, 1) := by decide +kernel
theorem dL_law_2319 : decode cL_law 2319 = .ok (.iload 4, 2) := by decide +kernel
theorem dL_law_2321 : decode cL_law 2321 = .ok (.iconst 1, 1) := by decide +kernel
theorem dL_law_2322 : decode cL_law 2322 = .ok (.iadd, 1) := by decide +kernel
theorem dL_law_2323 : decode cL_law 2323 = .ok (.iaload, 1) := by decide +kernel
theorem dL_law_2324 : decode cL_law 2324 = .ok (.invokevirtual 246, 3) := by decide +kernel
theorem dL_law_2327 : decode cL_law 2327 = .ok (.lcmp, 1) := by decide +kernel
theorem dL_law_2328 : decode cL_law 2328 = .ok (.ifCond .eq 5, 3) := by decide +kernel
theorem dL_law_2331 : decode cL_law 2331 = .ok (.iconst 0, 1) := by decide +kernel
theorem dL_law_2332 : decode cL_law 2332 = .ok (.ireturn, 1) := by decide +kernel
theorem dL_law_2333 : decode cL_law 2333 = .ok (.iinc 4 5, 3) := by decide +kernel
theorem dL_law_2336 : decode cL_law 2336 = .ok (.goto (-2313), 3) := by decide +kernel
theorem dL_law_2339 : decode cL_law 2339 = .ok (.iconst 1, 1) := by decide +kernel
theorem dL_law_2340 : decode cL_law 2340 = .ok (.ireturn, 1) := by decide +kernel
section LCW
variable {p : Program} {l : Launch} {e : Env} {R : Room} {s : State} {m : MethodId} {below : List Frame} {meth : Method} {c : Code} {H : Heap} {locs : List Loc} {cells slots : Nat} {Q : State → Prop}
variable {pc : Nat} {ls : Array Slot} {st rest : List Value} {lv : List (Nat × Value)} {D : va_G} {cy : Nat → ClassId} {d0 : Nat} {la : Nat → Int → Nat} {σ : MS} {o a b L x : Nat} {ad : Nat → Nat} {xs : Nat → Int32} {n i : Int}
/-- the law calls the class itself -/
theorem ls_c {y : MethodName} {bytes : ByteArray} {maxL nn index : Nat} {ret : Option FieldType} {wsy : List Cond} {rm : Room} {av : List Value} {v : Option Value} (G : lG p s m c b L xs D cy d0 a o ad) (hB : lB D cy d0 (lA s a o ad) o ad a x n la σ H) (hS : va_S (l9 s) s.heap H locs) (hl : lv_has ls 8 lv)
    (hM : CM l y wsy rm D cy d0 (lA s a o ad) (.ref (la 0 0) :: av) la σ v σ True) (cw : CallW R s #[Value.ref b] RL RX10 index y bytes maxL ret wsy rm 0 0 nn) (hst : st = av.reverse ++ .ref (la 0 0) :: rest) (hn : av.length = nn) (hW : (rest.map fun v => v.category).sum ≤ 8) (d : decode cL_law pc = .ok (.invokevirtual index, 3)) (hf : cells ≤ R.cells ∧ slots ≤ R.slots)
    (kk : ∀ (H1 : Heap) (locs1 : List Loc), lB D cy d0 (lA s a o ad) o ad a x n la σ H1 → va_S (l9 s) s.heap H1 locs1 → W p l e R s m #[Value.ref b] below meth c H1 locs1 cells slots Q (F0 m (pc + 3) ls (v.toList ++ rest))) : W p l e R s m #[Value.ref b] below meth c H locs cells slots Q (F0 m pc ls st) := by
  have hK := G.k hB.2.1 hB.2.2.2.2.1 hS
  have hr := va_runV (l := l) (e := e) (below := below) (meth := meth) (locs := locs) (cells := cells) (slots := slots) (As := av) (rest := rest) (g := F0 m pc ls st) (cFix G.1) hM cw (H := H) ⟨cPre, by
      obtain ⟨cell, h1, h2, h3, -⟩ := hB.1.ob (κ := 0) (i := 0) (by decide) cl_0
      exact ⟨cell, h1, by rw [h3]; rfl, by rw [h2]; exact (hK.1.1 11 _ rfl).2.1⟩, fun U hU hW => ⟨rfl, by rw [hU]; exact hB.1, by rw [hU]; exact hK.moved hW⟩⟩ rfl hn hl.1 hst (lv_room hW) d hf
  intro T hT X
  obtain ⟨v9, st₀, t, T', L9, h0, X', hL, e1, e2, ⟨⟨v1, la1, σ1, hv, hp, hM1⟩, hz, hk⟩, st9⟩ := hr T hT X
  cases hv
  obtain ⟨rfl, rfl, rfl, -⟩ := hp
  rw [h0] at hz hk
  obtain ⟨t2, a1, b1⟩ := kk T'.heap (locs ++ L9) ⟨by rw [e1]; exact hM1, hB.2.1.kept (fun q hq => by
      rw [e1]
      exact hk q (hB.2.1.lt hq) (fun h => h.2.2 hq)), hB.2.2.1, hB.2.2.2.1, hB.2.2.2.2.1.kept (by
      rw [e1]
      exact hk a hB.2.2.2.2.1.lt (fun z => z.2.1 rfl)), hB.2.2.2.2.2⟩ (ly_run hS (fun z h => h.1) (by rw [e1]; exact hz) (by rw [e1]; exact hk) hL) T' rfl X'
  exact ⟨t2, st9 t2 a1, b1⟩
theorem lB.up {A : Nat → Prop} (hB : lB D cy d0 A o ad a x n la σ H) (hn : n + 1 ≤ 600) : lB D cy d0 A o ad a x (n + 1) la σ H := ⟨hB.1, hB.2.1, (hB.2.2.1.same hn (fun _ _ => rfl)).1, hB.2.2.2⟩
end LCW
set_option maxRecDepth 20000 in
set_option maxHeartbeats 4000000 in
theorem lc_count {p : Program} {l : Launch} {e : Env} {s : State} {m : MethodId} {below : List Frame} {meth : Method} {c : Code} {H : Heap} {locs : List Loc} {cells slots : Nat} {Q : State → Prop} {ls : Array Slot} {D : va_G} {cy : Nat → ClassId} {d0 : Nat} {la : Nat → Int → Nat} {σ : MS} {o a b L x : Nat} {ad : Nat → Nat} {xs : Nat → Int32} {n i : Int} (hlt : l.stackTraces = false) (G : lG p s m c b L xs D cy d0 a o ad) (hB : lB D cy d0 (lA s a o ad) o ad a x n la σ H) (hS : va_S (l9 s) s.heap H locs) (hn : n + 1 ≤ 600) (hi : 0 ≤ i ∧ i + 5 ≤ L) (hf : cells + 24 ≤ room_1.cells ∧ slots + 2100 ≤ room_1.slots) (hl : lv_has ls 8 (lL b x o a i)) (kk : lNext p l e s m below meth c Q D cy d0 a o ad b x i n cells slots) : W p l e room_1 s m #[Value.ref b] below meth c H locs cells slots Q (F0 m 2307 ls []) := by
  have B := G.1.1
  have hts := G.1.2.2.2.1
  have hf1 : cells ≤ room_1.cells ∧ slots ≤ room_1.slots := ⟨by have := hf.1; omega, by have := hf.2; omega⟩
  obtain ⟨z, hz, ez⟩ : ∃ z : Int, (-9223372036854775808 ≤ z ∧ z < 9223372036854775808) ∧ lI (countR σ (lX xs i 1)) = lI z := ⟨(lI _).toInt, lI_rng _, (lI_self _).symm⟩
  obtain ⟨hCP, hM, I, hcp, ho, rfl⟩ := id hB
  refine x_aload_n B hl dL_law_2307 rfl ?_
  refine ls_rd (k := 1) G hS hl rfl rfl hi ⟨by decide, by decide⟩ dL_law_2308 dL_law_2309 dL_law_2311 dL_law_2312 dL_law_2313 ?_
  refine ls_c (av := [.int (iI (lX xs i 1))]) (rest := []) G hB hS hl (c_p_count l D cy d0 (lA s a o ad) la σ (lX_r xs i 1) (by have h := ((I.g 5 0).2.1 rfl); omega) (by have h := ((I.g 11 0).2.2.1 rfl); omega) (by have h := ((I.g 23 0).2.2.2.1 rfl); omega) (by have h := ((I.g 27 0).2.2.2.2.1 rfl); omega) (by have h := ((I.g 45 0).2.2.2.2.2.1 rfl); omega) I.lg) (cwV 1 hts gL_law_X10_count rfl rfl rfl (by decide +kernel) ⟨Nat.le_of_ble_eq_true rfl, Nat.le_of_ble_eq_true rfl⟩) rfl rfl (by decide) dL_law_2314 hf1 (fun H1 locs1 hB1 hS1 => ?_)
  rw [I.cnt (fun t => hCP.2.2.2.2.2.1.2 40 t rfl)]
  refine x_aload_n B hl dL_law_2317 rfl ?_
  refine ls_rd (k := 1) G hS1 hl rfl rfl hi ⟨by decide, by decide⟩ dL_law_2318 dL_law_2319 dL_law_2321 dL_law_2322 dL_law_2323 ?_
  refine ls_mv (av := [.int (iI (lX xs i 1))]) (rest := [.long (lI (countR σ (lX xs i 1)))]) (C := 0) (S := σ) G (Or.inl ⟨rfl, la, σ, ⟨⟨rfl, hcp⟩, (I.same hn (fun _ _ => rfl)).nzE⟩, hB1.1⟩) hB1.2.2.2.2.1 hB1.2.1 I hn hcp hS1 hl (m_p_count l D cy o ad σ I.s (lX_r xs i 1)) (cwV 1 hts gL_law_X11_count rfl rfl rfl (by decide +kernel) ⟨Nat.le_of_ble_eq_true rfl, Nat.le_of_ble_eq_true rfl⟩) rfl rfl (Nat.le_of_ble_eq_true rfl) dL_law_2324 hf1 (fun H2 locs2 la2 σ2 hB2 e0 hS2 => ?_)
  rw [if_pos rfl, ez]
  refine x_lcmp_eq (tgt := 2333) B dL_law_2327 dL_law_2328 (by decide) hz hz (fun _ => ?_) (fun z => absurd rfl z)
  refine w_widen (k := cells + 24) (n := slots + 2100) (by omega) (by omega) ?_
  exact kk H2 locs2 la2 σ2 ls hB2 hS2 (lv_key hl (lL b (la 0 0) o a i) rfl)
