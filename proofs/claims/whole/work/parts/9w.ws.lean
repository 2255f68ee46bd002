set_option maxRecDepth 20000 in
theorem ggL_law_X10_init : GoodIn wsL_law wsX10_init := goodIn_r _ [10, 11, 12, 13, 14, 15, 16, 17, 18, 19, 20, 21, 22, 23, 24, 25, 26, 27, 28, 29, 30, 31, 32, 33, 34, 35, 36, 37, 38, 39, 40, 41, 42, 43, 44, 45, 46, 47, 48, 49, 50, 51, 52, 53, 54, 55, 56, 57, 58, 59, 60, 61, 62, 63, 64, 65, 66, 67, 1121, 1122, 1123, 1062, 1063, 1064, 1065, 1066, 1067, 1068, 1069, 1070, 1071, 1072, 1124, 1125, 1126, 1127, 1128] (by decide +kernel) (by decide +kernel)
set_option maxRecDepth 20000 in
theorem gL_law_X10_init : GoodIn wsL_law (wsX10_init) := ggL_law_X10_init
set_option maxRecDepth 20000 in
theorem ggL_law_X11_init : GoodIn wsL_law wsX11_init := goodIn_r _ [70, 71, 12, 13, 55, 72, 60, 73, 74, 75, 76, 6, 77, 78, 79, 80, 81, 82, 83, 84, 85, 86, 87, 88, 89, 90, 91, 92, 93, 94, 95, 96, 97, 98, 99, 100, 101, 102, 103, 104, 105, 106, 107, 108, 109, 110, 1073, 1074, 1075, 1076, 1077, 1078, 1079, 1080, 1081, 1082, 1083, 1084, 1085, 1086, 1087, 1088, 1089, 1090, 1091, 1092, 1093, 1094, 1095, 1096, 1097, 1098, 1099, 1100, 1101, 1102, 1103, 1104, 1105, 1106, 1107, 1108, 1109, 1110, 1111, 1112, 1113, 1114, 1115, 1116, 1117, 1118, 1119, 1120] (by decide +kernel) (by decide +kernel)
set_option maxRecDepth 20000 in
theorem gL_law_X11_init : GoodIn wsL_law (wsX11_init) := ggL_law_X11_init
theorem st_arr {args : Array Value} {s : State} {ty : FieldType} (hty : ty = .int ∨ ty = .boolean ∨ ty = .long) (h : (Cond.arrayClass ty).before args s = true) : ∃ cA : ClassId, ArrOfT s cA ty ∧ va_RA s cA ty := by
  obtain ⟨cA, k, comp, h1, h2, h3⟩ := Cond.arrayClass_spec (args := args) (first := s) (o := none) (s := s) (idx := []) (type := ty) h
  refine ⟨cA, fun n z => ⟨fun k h => (by cases h), k, h2, comp, h3⟩, ?_⟩
  rcases hty with rfl | rfl | rfl <;> exact h1
theorem st_obj {args : Array Value} {s : State} (h : (Cond.arrayOver (.object "java/lang/Object")).before args s = true) : ∃ cA : ClassId, ArrOfT s cA (.object "java/lang/Object") ∧ va_RA s cA (.object "java/lang/Object") := by
  obtain ⟨comp, cA, k, h1, -, h2, h3, h4⟩ := Cond.arrayOver_spec (args := args) (first := s) (s := s) (o := none) (idx := []) h
  exact ⟨cA, fun n z => ⟨fun k h => (by cases h), k, h2, comp, h3⟩, k, comp, h2, h3, h1, h4⟩
set_option maxRecDepth 20000 in
set_option maxHeartbeats 4000000 in
/-- the classes at the start -/
theorem st_K {args : Array Value} {s : State} (hts : ∀ w ∈ wsL_law, w.before args s = true) (hts0 : ∀ w ∈ lw_tbl, w.before args s = true) : ∃ (D : va_G) (cy : Nat → ClassId), va_K D vwCl (cty cy) s := by
  obtain ⟨c0, i0, K0⟩ := u_known (C := RJx4a65c) (T := TJx4a65c) (N := 3) (n := 3) hts inlJx4a65c (hts (.instantiable RJx4a65c 3) (by decide +kernel))
  obtain ⟨c1, i1, K1⟩ := u_known (C := RX0) (T := TX0) (N := 7) (n := 7) hts inlX0 (hts (.instantiable RX0 7) (by decide +kernel))
  obtain ⟨c2, i2, K2⟩ := u_known (C := RX1) (T := TX1) (N := 1) (n := 1) hts inlX1 (hts (.instantiable RX1 1) (by decide +kernel))
  obtain ⟨c3, i3, K3⟩ := u_known (C := RX2) (T := TX2) (N := 6) (n := 6) hts inlX2 (hts (.instantiable RX2 6) (by decide +kernel))
  obtain ⟨c4, i4, K4⟩ := u_known (C := RX3) (T := TX3) (N := 10) (n := 10) hts inlX3 (hts (.instantiable RX3 10) (by decide +kernel))
  obtain ⟨c5, i5, K5⟩ := u_known (C := RX4) (T := TX4) (N := 2) (n := 2) hts inlX4 (hts (.instantiable RX4 2) (by decide +kernel))
  obtain ⟨c6, i6, K6⟩ := u_known (C := RX5) (T := TX5) (N := 2) (n := 2) hts inlX5 (hts (.instantiable RX5 2) (by decide +kernel))
  obtain ⟨c7, i7, K7⟩ := u_known (C := RX6) (T := TX6) (N := 3) (n := 3) hts inlX6 (hts (.instantiable RX6 3) (by decide +kernel))
  obtain ⟨c8, i8, K8⟩ := u_known (C := RX7) (T := TX7) (N := 2) (n := 2) hts inlX7 (hts (.instantiable RX7 2) (by decide +kernel))
  obtain ⟨c9, i9, K9⟩ := u_known (C := RX8) (T := TX8) (N := 2) (n := 2) hts inlX8 (hts (.instantiable RX8 2) (by decide +kernel))
  obtain ⟨c10, i10, K10⟩ := u_known (C := RX9) (T := TX9) (N := 13) (n := 13) hts inlX9 (hts (.instantiable RX9 13) (by decide +kernel))
  obtain ⟨c11, i11, K11⟩ := u_known (C := RX10) (T := TX10) (N := 11) (n := 11) hts inlX10 (hts (.instantiable RX10 11) (by decide +kernel))
  obtain ⟨c12, i12, K12⟩ := u_known (C := RX11) (T := TX11) (N := 48) (n := 48) hts inlX11 (hts (.instantiable RX11 48) (by decide +kernel))
  obtain ⟨a1, A1⟩ := st_arr (ty := .int) (Or.inl rfl) (hts0 (.arrayClass .int) (by decide +kernel))
  obtain ⟨a2, A2⟩ := st_arr (ty := .boolean) (Or.inr (Or.inl rfl)) (hts0 (.arrayClass .boolean) (by decide +kernel))
  obtain ⟨a3, A3⟩ := st_arr (ty := .long) (Or.inr (Or.inr rfl)) (hts0 (.arrayClass .long) (by decide +kernel))
  obtain ⟨a4, A4⟩ := st_obj (hts0 (.arrayOver (.object "java/lang/Object")) (by decide +kernel))
  refine ⟨(fun k => [c0, c1, c2, c3, c4, c5, c6, c7, c8, c9, c10, c11, c12].getD k c0, fun k => [i0, i1, i2, i3, i4, i5, i6, i7, i8, i9, i10, i11, i12].getD k i0), fun k => [a1, a1, a2, a3, a4].getD k a1, ?_, ?_⟩
  · intro k q hq
    match k, hq with
    | 0, hq => cases hq; exact K0
    | 1, hq => cases hq; exact K1
    | 2, hq => cases hq; exact K2
    | 3, hq => cases hq; exact K3
    | 4, hq => cases hq; exact K4
    | 5, hq => cases hq; exact K5
    | 6, hq => cases hq; exact K6
    | 7, hq => cases hq; exact K7
    | 8, hq => cases hq; exact K8
    | 9, hq => cases hq; exact K9
    | 10, hq => cases hq; exact K10
    | 11, hq => cases hq; exact K11
    | 12, hq => cases hq; exact K12
    | k + 13, hq => simp [vwCl] at hq
  · intro k q hq
    match k, hq with
    | 0, hq => cases hq; exact A1
    | 1, hq => cases hq; exact A2
    | 2, hq => cases hq; exact A3
    | 3, hq => cases hq; exact A4
    | k + 4, hq => simp [cty] at hq
set_option maxRecDepth 20000 in
set_option maxHeartbeats 4000000 in
theorem st_Nc {args : Array Value} {s : State} (hg : ∀ c ∈ flatC (Jvm.Cond.and given_1 narrow_1), c.before args s = true) : cNc s := by
  intro i j h1 h2 h3 h4 hij
  rcases (show i = 1 ∨ i = 2 ∨ i = 3 ∨ i = 4 by omega) with rfl | rfl | rfl | rfl <;> rcases (show j = 1 ∨ j = 2 ∨ j = 3 ∨ j = 4 by omega) with rfl | rfl | rfl | rfl
  · exact absurd rfl hij
  · exact va_Nc.of (hg (.not (.castable "java/lang/IndexOutOfBoundsException" "java/lang/IllegalArgumentException")) (by decide +kernel))
  · exact va_Nc.of (hg (.not (.castable "java/lang/IndexOutOfBoundsException" "java/lang/UnsupportedOperationException")) (by decide +kernel))
  · exact va_Nc.of (hg (.not (.castable "java/lang/IndexOutOfBoundsException" "java/util/NoSuchElementException")) (by decide +kernel))
  · exact va_Nc.of (hg (.not (.castable "java/lang/IllegalArgumentException" "java/lang/IndexOutOfBoundsException")) (by decide +kernel))
  · exact absurd rfl hij
  · exact va_Nc.of (hg (.not (.castable "java/lang/IllegalArgumentException" "java/lang/UnsupportedOperationException")) (by decide +kernel))
  · exact va_Nc.of (hg (.not (.castable "java/lang/IllegalArgumentException" "java/util/NoSuchElementException")) (by decide +kernel))
  · exact va_Nc.of (hg (.not (.castable "java/lang/UnsupportedOperationException" "java/lang/IndexOutOfBoundsException")) (by decide +kernel))
  · exact va_Nc.of (hg (.not (.castable "java/lang/UnsupportedOperationException" "java/lang/IllegalArgumentException")) (by decide +kernel))
  · exact absurd rfl hij
  · exact va_Nc.of (hg (.not (.castable "java/lang/UnsupportedOperationException" "java/util/NoSuchElementException")) (by decide +kernel))
  · exact va_Nc.of (hg (.not (.castable "java/util/NoSuchElementException" "java/lang/IndexOutOfBoundsException")) (by decide +kernel))
  · exact va_Nc.of (hg (.not (.castable "java/util/NoSuchElementException" "java/lang/IllegalArgumentException")) (by decide +kernel))
  · exact va_Nc.of (hg (.not (.castable "java/util/NoSuchElementException" "java/lang/UnsupportedOperationException")) (by decide +kernel))
  · exact absurd rfl hij
set_option maxRecDepth 20000 in
set_option maxHeartbeats 4000000 in
/-- what lists stand on -/
theorem st_Ls {args : Array Value} {s : State} (hts0 : ∀ w ∈ lw_tbl, w.before args s = true) (hg : ∀ c ∈ flatC (Jvm.Cond.and given_1 narrow_1), c.before args s = true) : cLs s :=
  ⟨va_Mi.of (hg (.isRef (.mirror "[Ljava/lang/Object;")) (by decide +kernel)), va_Dc.of (hts0 (.declares ⟨"java/lang/Object", "getClass", "()Ljava/lang/Class;"⟩) (by decide +kernel)), va_AO.of (hts0 (.arrayOver (.object "java/lang/Object")) (by decide +kernel)), va_Nw.of rfl (hts0 (.castable "BinRounds$Street" "java/lang/Object") (by decide +kernel)), va_Nw.of rfl (hts0 (.castable "BinRounds$House" "java/lang/Object") (by decide +kernel)), va_Nw.of rfl (hts0 (.castable "BinRounds$Bin" "java/lang/Object") (by decide +kernel)), va_Nw.of rfl (hts0 (.castable "BinRounds$Move" "java/lang/Object") (by decide +kernel)), va_Nw.of rfl (hts0 (.castable "BinRounds$Part" "java/lang/Object") (by decide +kernel)), va_Nw.of rfl (hts0 (.castable "BinRounds$Cart" "java/lang/Object") (by decide +kernel)), va_Nw.of rfl (hts0 (.castable "BinRounds$Tip" "java/lang/Object") (by decide +kernel)), va_Nw.of rfl (hts0 (.methodLinkNest RX10 69 yX7_init RX10) (by decide +kernel)), va_Nw.of rfl (hts0 (.methodLinkNest RX10 30 yX1_init RX10) (by decide +kernel)), va_Nw.of rfl (hts0 (.methodLinkNest RX10 37 yX8_init RX10) (by decide +kernel)), va_Nw.of rfl (hts0 (.methodLinkNest RX10 44 yX4_init RX10) (by decide +kernel))⟩
set_option maxRecDepth 20000 in
set_option maxHeartbeats 4000000 in
theorem st_Th {args : Array Value} {s : State} (hts0 : ∀ w ∈ lw_tbl, w.before args s = true) (hg : ∀ c ∈ flatC (Jvm.Cond.and given_1 narrow_1), c.before args s = true) : cTh s := by
  obtain ⟨z388, -, -, -, q388, -⟩ := Cond.exactly_spec (args := args) (first := s) (o := none) (s := s) (idx := []) (t := .string RX10 388) (cls := "java/lang/String") (hg (.exactly (.string RX10 388) "java/lang/String") (by decide +kernel))
  obtain ⟨z371, -, -, -, q371, -⟩ := Cond.exactly_spec (args := args) (first := s) (o := none) (s := s) (idx := []) (t := .string RX10 371) (cls := "java/lang/String") (hg (.exactly (.string RX10 371) "java/lang/String") (by decide +kernel))
  obtain ⟨z378, -, -, -, q378, -⟩ := Cond.exactly_spec (args := args) (first := s) (o := none) (s := s) (idx := []) (t := .string RX10 378) (cls := "java/lang/String") (hg (.exactly (.string RX10 378) "java/lang/String") (by decide +kernel))
  obtain ⟨z383, -, -, -, q383, -⟩ := Cond.exactly_spec (args := args) (first := s) (o := none) (s := s) (idx := []) (t := .string RX10 383) (cls := "java/lang/String") (hg (.exactly (.string RX10 383) "java/lang/String") (by decide +kernel))
  exact ⟨⟨va_Nw.of rfl (hts0 (.castable "java/lang/IndexOutOfBoundsException" "java/lang/IndexOutOfBoundsException") (by decide +kernel)), va_Nw.of rfl (hts0 (.castable "java/lang/IllegalArgumentException" "java/lang/IllegalArgumentException") (by decide +kernel)), va_Nw.of rfl (hts0 (.castable "java/lang/UnsupportedOperationException" "java/lang/UnsupportedOperationException") (by decide +kernel)), va_Nw.of rfl (hts0 (.castable "java/util/NoSuchElementException" "java/util/NoSuchElementException") (by decide +kernel))⟩, ⟨z388, vk_R.of (hts0 (.stringRef RX10 388 "there is none of that number") (by decide +kernel)) q388⟩, ⟨z371, vk_R.of (hts0 (.stringRef RX10 371 "a number is none of those told") (by decide +kernel)) q371⟩, ⟨z378, vk_R.of (hts0 (.stringRef RX10 378 "there can be no more") (by decide +kernel)) q378⟩, ⟨z383, vk_R.of (hts0 (.stringRef RX10 383 "there is no such thing to tell") (by decide +kernel)) q383⟩, va_Nw.of rfl (hts0 (.declares (Bundle.initS "java/lang/RuntimeException")) (by decide +kernel)), va_Nw.of rfl (hts0 (.declares (Bundle.initS "java/lang/Exception")) (by decide +kernel)), va_Nw.of rfl (hts0 (.declares (Bundle.initS Bundle.tN)) (by decide +kernel)), st_Ls hts0 hg⟩
set_option maxRecDepth 20000 in
set_option maxHeartbeats 4000000 in
/-- what the class's methods stand in, at the start -/
theorem st_cK {args : Array Value} {s : State} {D : va_G} {cy : Nat → ClassId} (hts0 : ∀ w ∈ lw_tbl, w.before args s = true) (hg : ∀ c ∈ flatC (Jvm.Cond.and given_1 narrow_1), c.before args s = true) (hK : va_K D vwCl (cty cy) s) : ∃ d0, cK D cy d0 (l9 s) s s.heap := by
  have hA : ∀ a : Nat, a < s.heap.size → ¬ l9 s a := fun a h z => absurd z (Nat.not_le.mpr h)
  obtain ⟨d0, hd, ce, hcell, hof, hkn, hle, hsz, -, hnA⟩ := va_Tof (args := args) (s := s) (tm := (.static "java/util/ArrayList" "DEFAULTCAPACITY_EMPTY_ELEMENTDATA" "[Ljava/lang/Object;")) (ty := .object "java/lang/Object") (N := 0) (f := fun _ => .null) (A := l9 s) (by decide) (hg (.arrayOf (.static "java/util/ArrayList" "DEFAULTCAPACITY_EMPTY_ELEMENTDATA" "[Ljava/lang/Object;") (.object "java/lang/Object")) (by decide +kernel)) (va_eqt (hg (.eq (.length (.static "java/util/ArrayList" "DEFAULTCAPACITY_EMPTY_ELEMENTDATA" "[Ljava/lang/Object;")) (.int 0)) (by decide +kernel))) (fun j hj => absurd hj (Nat.not_lt_zero j)) hA
  exact ⟨d0, hK, vx_Zqof (hts0 (.laysStatic Bundle.tN "UNASSIGNED_STACK" Bundle.steD) (by decide +kernel)) (hts0 (.initialized Bundle.tN) (by decide +kernel)) (hg (.isRef (.static Bundle.tN "UNASSIGNED_STACK" Bundle.steD)) (by decide +kernel)) hA, vx_Zqof (hts0 (.laysStatic Bundle.tN "SUPPRESSED_SENTINEL" Bundle.listD) (by decide +kernel)) (hts0 (.initialized Bundle.tN) (by decide +kernel)) (hg (.isRef (.static Bundle.tN "SUPPRESSED_SENTINEL" Bundle.listD)) (by decide +kernel)) hA, va_Zref (hts0 (.laysStatic "java/util/ArrayList" "DEFAULTCAPACITY_EMPTY_ELEMENTDATA" "[Ljava/lang/Object;") (by decide +kernel)) (hts0 (.initialized "java/util/ArrayList") (by decide +kernel)) hd hA, ⟨ce, hcell, hof, hsz.trans (iI_nat 0)⟩, hnA, fun q h => h, st_Th hts0 hg⟩
