set_option maxHeartbeats 4000000 in
set_option maxRecDepth 100000 in
theorem k_Town (l : Launch) (D : va_G) (cy : Nat → ClassId) (d0 : Nat) (A : Nat → Prop) {q : Nat}  (hAq : A q) : CB l yX10_init wsX10_init ({ frames := 4, cells := 12, slots := 735, locals := 95 } : Room) D cy d0 A [.ref q] (fun H => t_OB q (D.1 11) 11 (D.2 11) H (fun k => defaultValue (tyX10 k))) (fun v H0 H1 => v = none ∧ ∃ r5 r16 r27 r38 r49 r60 r64 r71 r75 r76 r82 r86, (H0.size ≤ r5 ∧ r5 < r16 ∧ r16 < r27 ∧ r27 < r38 ∧ r38 < r49 ∧ r49 < r60 ∧ r60 < r64 ∧ r64 < r71 ∧ r71 < r75 ∧ r75 < r76 ∧ r76 < r82 ∧ r82 < r86 ∧ r86 < H1.size) ∧ (t_OB r5 (D.1 0) 3 (D.2 0) H1 (lV 0 d0 0) ∧ t_OB r16 (D.1 0) 3 (D.2 0) H1 (lV 0 d0 0) ∧ t_OB r27 (D.1 0) 3 (D.2 0) H1 (lV 0 d0 0) ∧ t_OB r38 (D.1 0) 3 (D.2 0) H1 (lV 0 d0 0) ∧ t_OB r49 (D.1 0) 3 (D.2 0) H1 (lV 0 d0 0)) ∧ (t_OB r60 (D.1 2) 1 (D.2 2) H1 (fun _ => .ref r64) ∧ t_OB r71 (D.1 9) 2 (D.2 9) H1 (fun k => if k = 0 then .ref r75 else .ref r76) ∧ t_OB r82 (D.1 5) 2 (D.2 5) H1 (fun k => if k = 0 then .ref r86 else .int (iI 0))) ∧ (H1[r64]? = some (arrV (cy 2) 700 (fun _ => defaultValue .boolean)) ∧ H1[r75]? = some (arrV (cy 1) 5 (fun _ => defaultValue .int)) ∧ H1[r76]? = some (arrV (cy 1) 5 (fun _ => defaultValue .int)) ∧ H1[r86]? = some (arrV (cy 1) 5 (fun _ => defaultValue .int))) ∧ t_OB q (D.1 11) 11 (D.2 11) H1 (fun k => if k = 0 then .ref r5 else if k = 1 then .ref r16 else if k = 2 then .ref r27 else if k = 3 then .ref r38 else if k = 4 then .ref r49 else if k = 5 then .ref r60 else if k = 6 then .ref r71 else if k = 7 then .ref r82 else if k = 8 then .int (iI 0) else if k = 9 then .int (iI 0) else .int (iI 0))) 12 735 := by
  refine cb_of (cc := cX10_init) (nL := 1) (ret := none) (by decide) rfl (Nat.le_of_ble_eq_true rfl) ?_
  intro p e s m args below meth c ls E hr hlk hini hK hPre hS hl
  have B := E.1
  have hml := E.2.1
  have hown := E.2.2.1
  have hts0 := E.2.2.2.1
  have hts := E.2.2.2.1
  have hA := hK.2.2.2.2.2.2.1
  have hO := hPre
  have hq0 := hO.lt
  refine x_aload_n B hl dX10_init_0 rfl ?_
  refine W.objInit B.1 B.2 hown (hts (.methodLink RX10 1 objectInit) (by decide +kernel)) (hts (.instanceMethod objectInit) (by decide +kernel)) (hts (.code objectInit ⟨#[0xb1]⟩ 1 none) (by decide +kernel)) rfl (hl.1.trans hml.symm) rfl dX10_init_1 (Nat.le_of_ble_eq_true rfl) (Nat.le_of_ble_eq_true rfl) ?_
  refine W.eq (g2 := F0 m 4 ls []) rfl ?_
  refine x_aload_n B hl dX10_init_4 rfl ?_
  have lt_q := hO.lt
  refine ob_new (ci := 0) (C := RJx4a65c) (T := TJx4a65c) E hS rfl (fun z h => List.mem_cons_of_mem _ (List.mem_append_left _ (List.mem_append_left _ (List.mem_append_left _ (List.mem_append_left _ (List.mem_append_right _ h)))))) tyJx4a65c_ok (hts (.classLink RX10 7 RJx4a65c) (by decide +kernel)) (hts (.instantiable RJx4a65c 3) (by decide +kernel)) (hts (.initialized RJx4a65c) (by decide +kernel)) (Nat.le_of_ble_eq_true rfl) (Nat.le_of_ble_eq_true rfl) dX10_init_5 (fun H5 n5 o5 z5 hS => ?_)
  obtain ⟨r5, hr5⟩ : ∃ z, z = s.heap.size := ⟨_, rfl⟩
  rw [← hr5] at n5 z5 ⊢
  have hO := hO.kept (o5 q (by omega))
  have l_q_r5 : q < r5 := by omega
  refine x_dup B dX10_init_8 rfl ?_
  have lt_q := hO.lt
  have lt_r5 := n5.lt
  refine cb_callI (A' := fun z => z = r5 ∨ H5.size ≤ z) (av := []) E hK hS hl (fun z h => h.elim (fun h => by rw [h]; exact hA _ (by omega)) (fun h => hA z (by have := hS.1; omega))) (fun z h => Or.inr h) (k_AL l D cy d0 _ (q := r5) (Or.inl rfl)) n5 (cwI 0 hts0 gX10_init_Jx4a65c_init_da8c8 rfl rfl rfl (hts (.initialized RJx4a65c) (by decide +kernel)) (hts (.methodLink RX10 9 yJx4a65c_init_da8c8) (by decide +kernel)) (hts (.instanceMethod yJx4a65c_init_da8c8) (by decide +kernel)) rfl (by decide +kernel) ⟨Nat.le_of_ble_eq_true rfl, Nat.le_of_ble_eq_true rfl⟩) rfl rfl (Nat.le_of_ble_eq_true rfl) dX10_init_9 ⟨Nat.le_of_ble_eq_true rfl, Nat.le_of_ble_eq_true rfl⟩ (fun H9 locs v hv z9 o9 hS => ?_)
  obtain ⟨rfl, n5⟩ := hv
  have hO := hO.kept (o9 q lt_q (fun z => z.elim (fun e => by omega) (fun e => by omega)))
  refine ob_putF (ty := .object "java/util/ArrayList") E hO hS hAq rfl (fun z h => List.mem_cons_of_mem _ (List.mem_append_left _ (List.mem_append_left _ (List.mem_append_left _ (List.mem_append_right _ h))))) tyX10_ok nmX10 0 (by decide) (hts (.fieldLink RX10 10 "BinRounds" "streets" "Ljava/util/ArrayList;") (by decide +kernel)) (fun x hx => hx) rfl hini rfl rfl rfl rfl dX10_init_12 (fun H12 locs hO ok12 sz12 hS => ?_)
  have n5 := n5.kept (ok12 r5 (by omega))
  refine x_aload_n B hl dX10_init_15 rfl ?_
  have lt_q := hO.lt
  have lt_r5 := n5.lt
  refine ob_new (ci := 0) (C := RJx4a65c) (T := TJx4a65c) E hS rfl (fun z h => List.mem_cons_of_mem _ (List.mem_append_left _ (List.mem_append_left _ (List.mem_append_left _ (List.mem_append_left _ (List.mem_append_right _ h)))))) tyJx4a65c_ok (hts (.classLink RX10 7 RJx4a65c) (by decide +kernel)) (hts (.instantiable RJx4a65c 3) (by decide +kernel)) (hts (.initialized RJx4a65c) (by decide +kernel)) (Nat.le_of_ble_eq_true rfl) (Nat.le_of_ble_eq_true rfl) dX10_init_16 (fun H16 n16 o16 z16 hS => ?_)
  obtain ⟨r16, hr16⟩ : ∃ z, z = H12.size := ⟨_, rfl⟩
  rw [← hr16] at n16 z16 ⊢
  have hO := hO.kept (o16 q (by omega))
  have n5 := n5.kept (o16 r5 (by omega))
  have l_q_r16 : q < r16 := by omega
  have l_r5_r16 : r5 < r16 := by omega
  refine x_dup B dX10_init_19 rfl ?_
  have lt_q := hO.lt
  have lt_r5 := n5.lt
  have lt_r16 := n16.lt
  refine cb_callI (A' := fun z => z = r16 ∨ H16.size ≤ z) (av := []) E hK hS hl (fun z h => h.elim (fun h => by rw [h]; exact hA _ (by omega)) (fun h => hA z (by have := hS.1; omega))) (fun z h => Or.inr h) (k_AL l D cy d0 _ (q := r16) (Or.inl rfl)) n16 (cwI 0 hts0 gX10_init_Jx4a65c_init_da8c8 rfl rfl rfl (hts (.initialized RJx4a65c) (by decide +kernel)) (hts (.methodLink RX10 9 yJx4a65c_init_da8c8) (by decide +kernel)) (hts (.instanceMethod yJx4a65c_init_da8c8) (by decide +kernel)) rfl (by decide +kernel) ⟨Nat.le_of_ble_eq_true rfl, Nat.le_of_ble_eq_true rfl⟩) rfl rfl (Nat.le_of_ble_eq_true rfl) dX10_init_20 ⟨Nat.le_of_ble_eq_true rfl, Nat.le_of_ble_eq_true rfl⟩ (fun H20 locs v hv z20 o20 hS => ?_)
  obtain ⟨rfl, n16⟩ := hv
  have hO := hO.kept (o20 q lt_q (fun z => z.elim (fun e => by omega) (fun e => by omega)))
  have n5 := n5.kept (o20 r5 lt_r5 (fun z => z.elim (fun e => by omega) (fun e => by omega)))
  refine ob_putF (ty := .object "java/util/ArrayList") E hO hS hAq rfl (fun z h => List.mem_cons_of_mem _ (List.mem_append_left _ (List.mem_append_left _ (List.mem_append_left _ (List.mem_append_right _ h))))) tyX10_ok nmX10 1 (by decide) (hts (.fieldLink RX10 16 "BinRounds" "houses" "Ljava/util/ArrayList;") (by decide +kernel)) (fun x hx => hx) rfl hini rfl rfl rfl rfl dX10_init_23 (fun H23 locs hO ok23 sz23 hS => ?_)
  have n5 := n5.kept (ok23 r5 (by omega))
  have n16 := n16.kept (ok23 r16 (by omega))
  refine x_aload_n B hl dX10_init_26 rfl ?_
  have lt_q := hO.lt
  have lt_r5 := n5.lt
  have lt_r16 := n16.lt
  refine ob_new (ci := 0) (C := RJx4a65c) (T := TJx4a65c) E hS rfl (fun z h => List.mem_cons_of_mem _ (List.mem_append_left _ (List.mem_append_left _ (List.mem_append_left _ (List.mem_append_left _ (List.mem_append_right _ h)))))) tyJx4a65c_ok (hts (.classLink RX10 7 RJx4a65c) (by decide +kernel)) (hts (.instantiable RJx4a65c 3) (by decide +kernel)) (hts (.initialized RJx4a65c) (by decide +kernel)) (Nat.le_of_ble_eq_true rfl) (Nat.le_of_ble_eq_true rfl) dX10_init_27 (fun H27 n27 o27 z27 hS => ?_)
  obtain ⟨r27, hr27⟩ : ∃ z, z = H23.size := ⟨_, rfl⟩
  rw [← hr27] at n27 z27 ⊢
  have hO := hO.kept (o27 q (by omega))
  have n5 := n5.kept (o27 r5 (by omega))
  have n16 := n16.kept (o27 r16 (by omega))
  have l_q_r27 : q < r27 := by omega
  have l_r5_r27 : r5 < r27 := by omega
  have l_r16_r27 : r16 < r27 := by omega
  refine x_dup B dX10_init_30 rfl ?_
  have lt_q := hO.lt
  have lt_r5 := n5.lt
  have lt_r16 := n16.lt
  have lt_r27 := n27.lt
  refine cb_callI (A' := fun z => z = r27 ∨ H27.size ≤ z) (av := []) E hK hS hl (fun z h => h.elim (fun h => by rw [h]; exact hA _ (by omega)) (fun h => hA z (by have := hS.1; omega))) (fun z h => Or.inr h) (k_AL l D cy d0 _ (q := r27) (Or.inl rfl)) n27 (cwI 0 hts0 gX10_init_Jx4a65c_init_da8c8 rfl rfl rfl (hts (.initialized RJx4a65c) (by decide +kernel)) (hts (.methodLink RX10 9 yJx4a65c_init_da8c8) (by decide +kernel)) (hts (.instanceMethod yJx4a65c_init_da8c8) (by decide +kernel)) rfl (by decide +kernel) ⟨Nat.le_of_ble_eq_true rfl, Nat.le_of_ble_eq_true rfl⟩) rfl rfl (Nat.le_of_ble_eq_true rfl) dX10_init_31 ⟨Nat.le_of_ble_eq_true rfl, Nat.le_of_ble_eq_true rfl⟩ (fun H31 locs v hv z31 o31 hS => ?_)
  obtain ⟨rfl, n27⟩ := hv
  have hO := hO.kept (o31 q lt_q (fun z => z.elim (fun e => by omega) (fun e => by omega)))
  have n5 := n5.kept (o31 r5 lt_r5 (fun z => z.elim (fun e => by omega) (fun e => by omega)))
  have n16 := n16.kept (o31 r16 lt_r16 (fun z => z.elim (fun e => by omega) (fun e => by omega)))
  refine ob_putF (ty := .object "java/util/ArrayList") E hO hS hAq rfl (fun z h => List.mem_cons_of_mem _ (List.mem_append_left _ (List.mem_append_left _ (List.mem_append_left _ (List.mem_append_right _ h))))) tyX10_ok nmX10 2 (by decide) (hts (.fieldLink RX10 19 "BinRounds" "bins" "Ljava/util/ArrayList;") (by decide +kernel)) (fun x hx => hx) rfl hini rfl rfl rfl rfl dX10_init_34 (fun H34 locs hO ok34 sz34 hS => ?_)
  have n5 := n5.kept (ok34 r5 (by omega))
  have n16 := n16.kept (ok34 r16 (by omega))
  have n27 := n27.kept (ok34 r27 (by omega))
  refine x_aload_n B hl dX10_init_37 rfl ?_
  have lt_q := hO.lt
  have lt_r5 := n5.lt
  have lt_r16 := n16.lt
  have lt_r27 := n27.lt
  refine ob_new (ci := 0) (C := RJx4a65c) (T := TJx4a65c) E hS rfl (fun z h => List.mem_cons_of_mem _ (List.mem_append_left _ (List.mem_append_left _ (List.mem_append_left _ (List.mem_append_left _ (List.mem_append_right _ h)))))) tyJx4a65c_ok (hts (.classLink RX10 7 RJx4a65c) (by decide +kernel)) (hts (.instantiable RJx4a65c 3) (by decide +kernel)) (hts (.initialized RJx4a65c) (by decide +kernel)) (Nat.le_of_ble_eq_true rfl) (Nat.le_of_ble_eq_true rfl) dX10_init_38 (fun H38 n38 o38 z38 hS => ?_)
  obtain ⟨r38, hr38⟩ : ∃ z, z = H34.size := ⟨_, rfl⟩
  rw [← hr38] at n38 z38 ⊢
  have hO := hO.kept (o38 q (by omega))
  have n5 := n5.kept (o38 r5 (by omega))
  have n16 := n16.kept (o38 r16 (by omega))
  have n27 := n27.kept (o38 r27 (by omega))
  have l_q_r38 : q < r38 := by omega
  have l_r5_r38 : r5 < r38 := by omega
  have l_r16_r38 : r16 < r38 := by omega
  have l_r27_r38 : r27 < r38 := by omega
  refine x_dup B dX10_init_41 rfl ?_
  have lt_q := hO.lt
  have lt_r5 := n5.lt
  have lt_r16 := n16.lt
  have lt_r27 := n27.lt
  have lt_r38 := n38.lt
  refine cb_callI (A' := fun z => z = r38 ∨ H38.size ≤ z) (av := []) E hK hS hl (fun z h => h.elim (fun h => by rw [h]; exact hA _ (by omega)) (fun h => hA z (by have := hS.1; omega))) (fun z h => Or.inr h) (k_AL l D cy d0 _ (q := r38) (Or.inl rfl)) n38 (cwI 0 hts0 gX10_init_Jx4a65c_init_da8c8 rfl rfl rfl (hts (.initialized RJx4a65c) (by decide +kernel)) (hts (.methodLink RX10 9 yJx4a65c_init_da8c8) (by decide +kernel)) (hts (.instanceMethod yJx4a65c_init_da8c8) (by decide +kernel)) rfl (by decide +kernel) ⟨Nat.le_of_ble_eq_true rfl, Nat.le_of_ble_eq_true rfl⟩) rfl rfl (Nat.le_of_ble_eq_true rfl) dX10_init_42 ⟨Nat.le_of_ble_eq_true rfl, Nat.le_of_ble_eq_true rfl⟩ (fun H42 locs v hv z42 o42 hS => ?_)
  obtain ⟨rfl, n38⟩ := hv
  have hO := hO.kept (o42 q lt_q (fun z => z.elim (fun e => by omega) (fun e => by omega)))
  have n5 := n5.kept (o42 r5 lt_r5 (fun z => z.elim (fun e => by omega) (fun e => by omega)))
  have n16 := n16.kept (o42 r16 lt_r16 (fun z => z.elim (fun e => by omega) (fun e => by omega)))
  have n27 := n27.kept (o42 r27 lt_r27 (fun z => z.elim (fun e => by omega) (fun e => by omega)))
  refine ob_putF (ty := .object "java/util/ArrayList") E hO hS hAq rfl (fun z h => List.mem_cons_of_mem _ (List.mem_append_left _ (List.mem_append_left _ (List.mem_append_left _ (List.mem_append_right _ h))))) tyX10_ok nmX10 3 (by decide) (hts (.fieldLink RX10 22 "BinRounds" "carts" "Ljava/util/ArrayList;") (by decide +kernel)) (fun x hx => hx) rfl hini rfl rfl rfl rfl dX10_init_45 (fun H45 locs hO ok45 sz45 hS => ?_)
  have n5 := n5.kept (ok45 r5 (by omega))
  have n16 := n16.kept (ok45 r16 (by omega))
  have n27 := n27.kept (ok45 r27 (by omega))
  have n38 := n38.kept (ok45 r38 (by omega))
  refine x_aload_n B hl dX10_init_48 rfl ?_
  have lt_q := hO.lt
  have lt_r5 := n5.lt
  have lt_r16 := n16.lt
  have lt_r27 := n27.lt
  have lt_r38 := n38.lt
  refine ob_new (ci := 0) (C := RJx4a65c) (T := TJx4a65c) E hS rfl (fun z h => List.mem_cons_of_mem _ (List.mem_append_left _ (List.mem_append_left _ (List.mem_append_left _ (List.mem_append_left _ (List.mem_append_right _ h)))))) tyJx4a65c_ok (hts (.classLink RX10 7 RJx4a65c) (by decide +kernel)) (hts (.instantiable RJx4a65c 3) (by decide +kernel)) (hts (.initialized RJx4a65c) (by decide +kernel)) (Nat.le_of_ble_eq_true rfl) (Nat.le_of_ble_eq_true rfl) dX10_init_49 (fun H49 n49 o49 z49 hS => ?_)
  obtain ⟨r49, hr49⟩ : ∃ z, z = H45.size := ⟨_, rfl⟩
  rw [← hr49] at n49 z49 ⊢
  have hO := hO.kept (o49 q (by omega))
  have n5 := n5.kept (o49 r5 (by omega))
  have n16 := n16.kept (o49 r16 (by omega))
  have n27 := n27.kept (o49 r27 (by omega))
  have n38 := n38.kept (o49 r38 (by omega))
  have l_q_r49 : q < r49 := by omega
  have l_r5_r49 : r5 < r49 := by omega
  have l_r16_r49 : r16 < r49 := by omega
  have l_r27_r49 : r27 < r49 := by omega
  have l_r38_r49 : r38 < r49 := by omega
  refine x_dup B dX10_init_52 rfl ?_
  have lt_q := hO.lt
  have lt_r5 := n5.lt
  have lt_r16 := n16.lt
  have lt_r27 := n27.lt
  have lt_r38 := n38.lt
  have lt_r49 := n49.lt
  refine cb_callI (A' := fun z => z = r49 ∨ H49.size ≤ z) (av := []) E hK hS hl (fun z h => h.elim (fun h => by rw [h]; exact hA _ (by omega)) (fun h => hA z (by have := hS.1; omega))) (fun z h => Or.inr h) (k_AL l D cy d0 _ (q := r49) (Or.inl rfl)) n49 (cwI 0 hts0 gX10_init_Jx4a65c_init_da8c8 rfl rfl rfl (hts (.initialized RJx4a65c) (by decide +kernel)) (hts (.methodLink RX10 9 yJx4a65c_init_da8c8) (by decide +kernel)) (hts (.instanceMethod yJx4a65c_init_da8c8) (by decide +kernel)) rfl (by decide +kernel) ⟨Nat.le_of_ble_eq_true rfl, Nat.le_of_ble_eq_true rfl⟩) rfl rfl (Nat.le_of_ble_eq_true rfl) dX10_init_53 ⟨Nat.le_of_ble_eq_true rfl, Nat.le_of_ble_eq_true rfl⟩ (fun H53 locs v hv z53 o53 hS => ?_)
  obtain ⟨rfl, n49⟩ := hv
  have hO := hO.kept (o53 q lt_q (fun z => z.elim (fun e => by omega) (fun e => by omega)))
  have n5 := n5.kept (o53 r5 lt_r5 (fun z => z.elim (fun e => by omega) (fun e => by omega)))
  have n16 := n16.kept (o53 r16 lt_r16 (fun z => z.elim (fun e => by omega) (fun e => by omega)))
  have n27 := n27.kept (o53 r27 lt_r27 (fun z => z.elim (fun e => by omega) (fun e => by omega)))
  have n38 := n38.kept (o53 r38 lt_r38 (fun z => z.elim (fun e => by omega) (fun e => by omega)))
  refine ob_putF (ty := .object "java/util/ArrayList") E hO hS hAq rfl (fun z h => List.mem_cons_of_mem _ (List.mem_append_left _ (List.mem_append_left _ (List.mem_append_left _ (List.mem_append_right _ h))))) tyX10_ok nmX10 4 (by decide) (hts (.fieldLink RX10 25 "BinRounds" "tips" "Ljava/util/ArrayList;") (by decide +kernel)) (fun x hx => hx) rfl hini rfl rfl rfl rfl dX10_init_56 (fun H56 locs hO ok56 sz56 hS => ?_)
  have n5 := n5.kept (ok56 r5 (by omega))
  have n16 := n16.kept (ok56 r16 (by omega))
  have n27 := n27.kept (ok56 r27 (by omega))
  have n38 := n38.kept (ok56 r38 (by omega))
  have n49 := n49.kept (ok56 r49 (by omega))
  refine x_aload_n B hl dX10_init_59 rfl ?_
  have lt_q := hO.lt
  have lt_r5 := n5.lt
  have lt_r16 := n16.lt
  have lt_r27 := n27.lt
  have lt_r38 := n38.lt
  have lt_r49 := n49.lt
  refine ob_new (ci := 2) (C := RX1) (T := TX1) E hS rfl (fun z h => List.mem_cons_of_mem _ (List.mem_append_left _ (List.mem_append_left _ (List.mem_append_right _ h)))) tyX1_ok (hts (.classLink RX10 28 RX1) (by decide +kernel)) (hts (.instantiable RX1 1) (by decide +kernel)) (hts (.initialized RX1) (by decide +kernel)) (Nat.le_of_ble_eq_true rfl) (Nat.le_of_ble_eq_true rfl) dX10_init_60 (fun H60 n60 o60 z60 hS => ?_)
  obtain ⟨r60, hr60⟩ : ∃ z, z = H56.size := ⟨_, rfl⟩
  rw [← hr60] at n60 z60 ⊢
  have hO := hO.kept (o60 q (by omega))
  have n5 := n5.kept (o60 r5 (by omega))
  have n16 := n16.kept (o60 r16 (by omega))
  have n27 := n27.kept (o60 r27 (by omega))
  have n38 := n38.kept (o60 r38 (by omega))
  have n49 := n49.kept (o60 r49 (by omega))
  have l_q_r60 : q < r60 := by omega
  have l_r5_r60 : r5 < r60 := by omega
  have l_r16_r60 : r16 < r60 := by omega
  have l_r27_r60 : r27 < r60 := by omega
  have l_r38_r60 : r38 < r60 := by omega
  have l_r49_r60 : r49 < r60 := by omega
  refine x_dup B dX10_init_63 rfl ?_
  have lt_q := hO.lt
  have lt_r5 := n5.lt
  have lt_r16 := n16.lt
  have lt_r27 := n27.lt
  have lt_r38 := n38.lt
  have lt_r49 := n49.lt
  have lt_r60 := n60.lt
  refine cb_callIN (A' := fun z => z = r60 ∨ H60.size ≤ z) (av := []) E hK hS hl (fun z h => h.elim (fun h => by rw [h]; exact hA _ (by omega)) (fun h => hA z (by have := hS.1; omega))) (fun z h => Or.inr h) (k_Calendar l D cy d0 _ (q := r60) (Or.inl rfl)) n60 ⟨va_cnB 0 hts0 gX10_init_X1_init_n30 rfl rfl rfl ((hK.2.2.2.2.2.2.2.2.2.2.2.2.2.2.2.2.2.2.2.2.2.2.2.2.2.2.1)) (hts (.initialized RX1) (by decide +kernel)) (by decide +kernel) ⟨Nat.le_of_ble_eq_true rfl, Nat.le_of_ble_eq_true rfl⟩, rfl, hts (.instanceMethod yX1_init) (by decide +kernel)⟩ rfl rfl (Nat.le_of_ble_eq_true rfl) dX10_init_64 ⟨Nat.le_of_ble_eq_true rfl, Nat.le_of_ble_eq_true rfl⟩ (fun H64 locs v hv z64 o64 hS => ?_)
  obtain ⟨rfl, r64_1, ⟨b64_1, b64_2⟩, n64_1, n60⟩ := hv
  have hO := hO.kept (o64 q lt_q (fun z => z.elim (fun e => by omega) (fun e => by omega)))
  have n5 := n5.kept (o64 r5 lt_r5 (fun z => z.elim (fun e => by omega) (fun e => by omega)))
  have n16 := n16.kept (o64 r16 lt_r16 (fun z => z.elim (fun e => by omega) (fun e => by omega)))
  have n27 := n27.kept (o64 r27 lt_r27 (fun z => z.elim (fun e => by omega) (fun e => by omega)))
  have n38 := n38.kept (o64 r38 lt_r38 (fun z => z.elim (fun e => by omega) (fun e => by omega)))
  have n49 := n49.kept (o64 r49 lt_r49 (fun z => z.elim (fun e => by omega) (fun e => by omega)))
  refine ob_putF (ty := .object "BinRounds$Calendar") E hO hS hAq rfl (fun z h => List.mem_cons_of_mem _ (List.mem_append_left _ (List.mem_append_left _ (List.mem_append_left _ (List.mem_append_right _ h))))) tyX10_ok nmX10 5 (by decide) (hts (.fieldLink RX10 31 "BinRounds" "calendar" "LBinRounds$Calendar;") (by decide +kernel)) (fun x hx => hx) rfl hini rfl rfl rfl rfl dX10_init_67 (fun H67 locs hO ok67 sz67 hS => ?_)
  have n5 := n5.kept (ok67 r5 (by omega))
  have n16 := n16.kept (ok67 r16 (by omega))
  have n27 := n27.kept (ok67 r27 (by omega))
  have n38 := n38.kept (ok67 r38 (by omega))
  have n49 := n49.kept (ok67 r49 (by omega))
  have n60 := n60.kept (ok67 r60 (by omega))
  have n64_1 := (ok67 r64_1 (by omega)).trans n64_1
  refine x_aload_n B hl dX10_init_70 rfl ?_
  have lt_q := hO.lt
  have lt_r5 := n5.lt
  have lt_r16 := n16.lt
  have lt_r27 := n27.lt
  have lt_r38 := n38.lt
  have lt_r49 := n49.lt
  have lt_r60 := n60.lt
  have lt_r64_1 := (Array.getElem?_eq_some_iff.mp n64_1).1
  refine ob_new (ci := 9) (C := RX8) (T := TX8) E hS rfl (fun z h => List.mem_cons_of_mem _ (List.mem_append_left _ (List.mem_append_right _ h))) tyX8_ok (hts (.classLink RX10 35 RX8) (by decide +kernel)) (hts (.instantiable RX8 2) (by decide +kernel)) (hts (.initialized RX8) (by decide +kernel)) (Nat.le_of_ble_eq_true rfl) (Nat.le_of_ble_eq_true rfl) dX10_init_71 (fun H71 n71 o71 z71 hS => ?_)
  obtain ⟨r71, hr71⟩ : ∃ z, z = H67.size := ⟨_, rfl⟩
  rw [← hr71] at n71 z71 ⊢
  have hO := hO.kept (o71 q (by omega))
  have n5 := n5.kept (o71 r5 (by omega))
  have n16 := n16.kept (o71 r16 (by omega))
  have n27 := n27.kept (o71 r27 (by omega))
  have n38 := n38.kept (o71 r38 (by omega))
  have n49 := n49.kept (o71 r49 (by omega))
  have n60 := n60.kept (o71 r60 (by omega))
  have n64_1 := (o71 r64_1 (by omega)).trans n64_1
  have l_q_r71 : q < r71 := by omega
  have l_r5_r71 : r5 < r71 := by omega
  have l_r16_r71 : r16 < r71 := by omega
  have l_r27_r71 : r27 < r71 := by omega
  have l_r38_r71 : r38 < r71 := by omega
  have l_r49_r71 : r49 < r71 := by omega
  have l_r60_r71 : r60 < r71 := by omega
  have l_r64_1_r71 : r64_1 < r71 := by omega
  refine x_dup B dX10_init_74 rfl ?_
  have lt_q := hO.lt
  have lt_r5 := n5.lt
  have lt_r16 := n16.lt
  have lt_r27 := n27.lt
  have lt_r38 := n38.lt
  have lt_r49 := n49.lt
  have lt_r60 := n60.lt
  have lt_r64_1 := (Array.getElem?_eq_some_iff.mp n64_1).1
  have lt_r71 := n71.lt
  refine cb_callIN (A' := fun z => z = r71 ∨ H71.size ≤ z) (av := []) E hK hS hl (fun z h => h.elim (fun h => by rw [h]; exact hA _ (by omega)) (fun h => hA z (by have := hS.1; omega))) (fun z h => Or.inr h) (k_Tables l D cy d0 _ (q := r71) (Or.inl rfl)) n71 ⟨va_cnB 0 hts0 gX10_init_X8_init_n37 rfl rfl rfl ((hK.2.2.2.2.2.2.2.2.2.2.2.2.2.2.2.2.2.2.2.2.2.2.2.2.2.2.2.1)) (hts (.initialized RX8) (by decide +kernel)) (by decide +kernel) ⟨Nat.le_of_ble_eq_true rfl, Nat.le_of_ble_eq_true rfl⟩, rfl, hts (.instanceMethod yX8_init) (by decide +kernel)⟩ rfl rfl (Nat.le_of_ble_eq_true rfl) dX10_init_75 ⟨Nat.le_of_ble_eq_true rfl, Nat.le_of_ble_eq_true rfl⟩ (fun H75 locs v hv z75 o75 hS => ?_)
  obtain ⟨rfl, r75_1, r75_2, ⟨b75_1, b75_2, b75_3⟩, ⟨n75_1, n75_2⟩, n71⟩ := hv
  have hO := hO.kept (o75 q lt_q (fun z => z.elim (fun e => by omega) (fun e => by omega)))
  have n5 := n5.kept (o75 r5 lt_r5 (fun z => z.elim (fun e => by omega) (fun e => by omega)))
  have n16 := n16.kept (o75 r16 lt_r16 (fun z => z.elim (fun e => by omega) (fun e => by omega)))
  have n27 := n27.kept (o75 r27 lt_r27 (fun z => z.elim (fun e => by omega) (fun e => by omega)))
  have n38 := n38.kept (o75 r38 lt_r38 (fun z => z.elim (fun e => by omega) (fun e => by omega)))
  have n49 := n49.kept (o75 r49 lt_r49 (fun z => z.elim (fun e => by omega) (fun e => by omega)))
  have n60 := n60.kept (o75 r60 lt_r60 (fun z => z.elim (fun e => by omega) (fun e => by omega)))
  have n64_1 := (o75 r64_1 lt_r64_1 (fun z => z.elim (fun e => by omega) (fun e => by omega))).trans n64_1
  refine ob_putF (ty := .object "BinRounds$Tables") E hO hS hAq rfl (fun z h => List.mem_cons_of_mem _ (List.mem_append_left _ (List.mem_append_left _ (List.mem_append_left _ (List.mem_append_right _ h))))) tyX10_ok nmX10 6 (by decide) (hts (.fieldLink RX10 38 "BinRounds" "tables" "LBinRounds$Tables;") (by decide +kernel)) (fun x hx => hx) rfl hini rfl rfl rfl rfl dX10_init_78 (fun H78 locs hO ok78 sz78 hS => ?_)
  have n5 := n5.kept (ok78 r5 (by omega))
  have n16 := n16.kept (ok78 r16 (by omega))
  have n27 := n27.kept (ok78 r27 (by omega))
  have n38 := n38.kept (ok78 r38 (by omega))
  have n49 := n49.kept (ok78 r49 (by omega))
  have n60 := n60.kept (ok78 r60 (by omega))
  have n64_1 := (ok78 r64_1 (by omega)).trans n64_1
  have n71 := n71.kept (ok78 r71 (by omega))
  have n75_1 := (ok78 r75_1 (by omega)).trans n75_1
  have n75_2 := (ok78 r75_2 (by omega)).trans n75_2
  refine x_aload_n B hl dX10_init_81 rfl ?_
  have lt_q := hO.lt
  have lt_r5 := n5.lt
  have lt_r16 := n16.lt
  have lt_r27 := n27.lt
  have lt_r38 := n38.lt
  have lt_r49 := n49.lt
  have lt_r60 := n60.lt
  have lt_r64_1 := (Array.getElem?_eq_some_iff.mp n64_1).1
  have lt_r71 := n71.lt
  have lt_r75_1 := (Array.getElem?_eq_some_iff.mp n75_1).1
  have lt_r75_2 := (Array.getElem?_eq_some_iff.mp n75_2).1
  refine ob_new (ci := 5) (C := RX4) (T := TX4) E hS rfl (fun z h => List.mem_cons_of_mem _ (List.mem_append_right _ h)) tyX4_ok (hts (.classLink RX10 42 RX4) (by decide +kernel)) (hts (.instantiable RX4 2) (by decide +kernel)) (hts (.initialized RX4) (by decide +kernel)) (Nat.le_of_ble_eq_true rfl) (Nat.le_of_ble_eq_true rfl) dX10_init_82 (fun H82 n82 o82 z82 hS => ?_)
  obtain ⟨r82, hr82⟩ : ∃ z, z = H78.size := ⟨_, rfl⟩
  rw [← hr82] at n82 z82 ⊢
  have hO := hO.kept (o82 q (by omega))
  have n5 := n5.kept (o82 r5 (by omega))
  have n16 := n16.kept (o82 r16 (by omega))
  have n27 := n27.kept (o82 r27 (by omega))
  have n38 := n38.kept (o82 r38 (by omega))
  have n49 := n49.kept (o82 r49 (by omega))
  have n60 := n60.kept (o82 r60 (by omega))
  have n64_1 := (o82 r64_1 (by omega)).trans n64_1
  have n71 := n71.kept (o82 r71 (by omega))
  have n75_1 := (o82 r75_1 (by omega)).trans n75_1
  have n75_2 := (o82 r75_2 (by omega)).trans n75_2
  have l_q_r82 : q < r82 := by omega
  have l_r5_r82 : r5 < r82 := by omega
  have l_r16_r82 : r16 < r82 := by omega
  have l_r27_r82 : r27 < r82 := by omega
  have l_r38_r82 : r38 < r82 := by omega
  have l_r49_r82 : r49 < r82 := by omega
  have l_r60_r82 : r60 < r82 := by omega
  have l_r64_1_r82 : r64_1 < r82 := by omega
  have l_r71_r82 : r71 < r82 := by omega
  have l_r75_1_r82 : r75_1 < r82 := by omega
  have l_r75_2_r82 : r75_2 < r82 := by omega
  refine x_dup B dX10_init_85 rfl ?_
  have lt_q := hO.lt
  have lt_r5 := n5.lt
  have lt_r16 := n16.lt
  have lt_r27 := n27.lt
  have lt_r38 := n38.lt
  have lt_r49 := n49.lt
  have lt_r60 := n60.lt
  have lt_r64_1 := (Array.getElem?_eq_some_iff.mp n64_1).1
  have lt_r71 := n71.lt
  have lt_r75_1 := (Array.getElem?_eq_some_iff.mp n75_1).1
  have lt_r75_2 := (Array.getElem?_eq_some_iff.mp n75_2).1
  have lt_r82 := n82.lt
  refine cb_callIN (A' := fun z => z = r82 ∨ H82.size ≤ z) (av := []) E hK hS hl (fun z h => h.elim (fun h => by rw [h]; exact hA _ (by omega)) (fun h => hA z (by have := hS.1; omega))) (fun z h => Or.inr h) (k_Latest l D cy d0 _ (q := r82) (Or.inl rfl)) n82 ⟨va_cnB 0 hts0 gX10_init_X4_init_n44 rfl rfl rfl ((hK.2.2.2.2.2.2.2.2.2.2.2.2.2.2.2.2.2.2.2.2.2.2.2.2.2.2.2.2)) (hts (.initialized RX4) (by decide +kernel)) (by decide +kernel) ⟨Nat.le_of_ble_eq_true rfl, Nat.le_of_ble_eq_true rfl⟩, rfl, hts (.instanceMethod yX4_init) (by decide +kernel)⟩ rfl rfl (Nat.le_of_ble_eq_true rfl) dX10_init_86 ⟨Nat.le_of_ble_eq_true rfl, Nat.le_of_ble_eq_true rfl⟩ (fun H86 locs v hv z86 o86 hS => ?_)
  obtain ⟨rfl, r86_1, ⟨b86_1, b86_2⟩, n86_1, n82⟩ := hv
  have hO := hO.kept (o86 q lt_q (fun z => z.elim (fun e => by omega) (fun e => by omega)))
  have n5 := n5.kept (o86 r5 lt_r5 (fun z => z.elim (fun e => by omega) (fun e => by omega)))
  have n16 := n16.kept (o86 r16 lt_r16 (fun z => z.elim (fun e => by omega) (fun e => by omega)))
  have n27 := n27.kept (o86 r27 lt_r27 (fun z => z.elim (fun e => by omega) (fun e => by omega)))
  have n38 := n38.kept (o86 r38 lt_r38 (fun z => z.elim (fun e => by omega) (fun e => by omega)))
  have n49 := n49.kept (o86 r49 lt_r49 (fun z => z.elim (fun e => by omega) (fun e => by omega)))
  have n60 := n60.kept (o86 r60 lt_r60 (fun z => z.elim (fun e => by omega) (fun e => by omega)))
  have n64_1 := (o86 r64_1 lt_r64_1 (fun z => z.elim (fun e => by omega) (fun e => by omega))).trans n64_1
  have n71 := n71.kept (o86 r71 lt_r71 (fun z => z.elim (fun e => by omega) (fun e => by omega)))
  have n75_1 := (o86 r75_1 lt_r75_1 (fun z => z.elim (fun e => by omega) (fun e => by omega))).trans n75_1
  have n75_2 := (o86 r75_2 lt_r75_2 (fun z => z.elim (fun e => by omega) (fun e => by omega))).trans n75_2
  refine ob_putF (ty := .object "BinRounds$Latest") E hO hS hAq rfl (fun z h => List.mem_cons_of_mem _ (List.mem_append_left _ (List.mem_append_left _ (List.mem_append_left _ (List.mem_append_right _ h))))) tyX10_ok nmX10 7 (by decide) (hts (.fieldLink RX10 45 "BinRounds" "latest" "LBinRounds$Latest;") (by decide +kernel)) (fun x hx => hx) rfl hini rfl rfl rfl rfl dX10_init_89 (fun H89 locs hO ok89 sz89 hS => ?_)
  have n5 := n5.kept (ok89 r5 (by omega))
  have n16 := n16.kept (ok89 r16 (by omega))
  have n27 := n27.kept (ok89 r27 (by omega))
  have n38 := n38.kept (ok89 r38 (by omega))
  have n49 := n49.kept (ok89 r49 (by omega))
  have n60 := n60.kept (ok89 r60 (by omega))
  have n64_1 := (ok89 r64_1 (by omega)).trans n64_1
  have n71 := n71.kept (ok89 r71 (by omega))
  have n75_1 := (ok89 r75_1 (by omega)).trans n75_1
  have n75_2 := (ok89 r75_2 (by omega)).trans n75_2
  have n82 := n82.kept (ok89 r82 (by omega))
  have n86_1 := (ok89 r86_1 (by omega)).trans n86_1
  refine x_aload_n B hl dX10_init_92 rfl ?_
  refine x_iconst B dX10_init_93 ?_
  refine ob_put (ty := .int) E hO hS hAq rfl (fun z h => List.mem_cons_of_mem _ (List.mem_append_left _ (List.mem_append_left _ (List.mem_append_left _ (List.mem_append_right _ h))))) tyX10_ok nmX10 8 (by decide) (hts (.fieldLink RX10 49 "BinRounds" "open" "I") (by decide +kernel)) (fun x hx => hx) rfl rfl rfl rfl dX10_init_94 (fun H94 locs hO ok94 sz94 hS => ?_)
  have n5 := n5.kept (ok94 r5 (by omega))
  have n16 := n16.kept (ok94 r16 (by omega))
  have n27 := n27.kept (ok94 r27 (by omega))
  have n38 := n38.kept (ok94 r38 (by omega))
  have n49 := n49.kept (ok94 r49 (by omega))
  have n60 := n60.kept (ok94 r60 (by omega))
  have n64_1 := (ok94 r64_1 (by omega)).trans n64_1
  have n71 := n71.kept (ok94 r71 (by omega))
  have n75_1 := (ok94 r75_1 (by omega)).trans n75_1
  have n75_2 := (ok94 r75_2 (by omega)).trans n75_2
  have n82 := n82.kept (ok94 r82 (by omega))
  have n86_1 := (ok94 r86_1 (by omega)).trans n86_1
  refine x_aload_n B hl dX10_init_97 rfl ?_
  refine x_iconst B dX10_init_98 ?_
  refine ob_put (ty := .int) E hO hS hAq rfl (fun z h => List.mem_cons_of_mem _ (List.mem_append_left _ (List.mem_append_left _ (List.mem_append_left _ (List.mem_append_right _ h))))) tyX10_ok nmX10 9 (by decide) (hts (.fieldLink RX10 53 "BinRounds" "price" "I") (by decide +kernel)) (fun x hx => hx) rfl rfl rfl rfl dX10_init_99 (fun H99 locs hO ok99 sz99 hS => ?_)
  have n5 := n5.kept (ok99 r5 (by omega))
  have n16 := n16.kept (ok99 r16 (by omega))
  have n27 := n27.kept (ok99 r27 (by omega))
  have n38 := n38.kept (ok99 r38 (by omega))
  have n49 := n49.kept (ok99 r49 (by omega))
  have n60 := n60.kept (ok99 r60 (by omega))
  have n64_1 := (ok99 r64_1 (by omega)).trans n64_1
  have n71 := n71.kept (ok99 r71 (by omega))
  have n75_1 := (ok99 r75_1 (by omega)).trans n75_1
  have n75_2 := (ok99 r75_2 (by omega)).trans n75_2
  have n82 := n82.kept (ok99 r82 (by omega))
  have n86_1 := (ok99 r86_1 (by omega)).trans n86_1
  refine x_aload_n B hl dX10_init_102 rfl ?_
  refine x_iconst B dX10_init_103 ?_
  refine ob_put (ty := .int) E hO hS hAq rfl (fun z h => List.mem_cons_of_mem _ (List.mem_append_left _ (List.mem_append_left _ (List.mem_append_left _ (List.mem_append_right _ h))))) tyX10_ok nmX10 10 (by decide) (hts (.fieldLink RX10 56 "BinRounds" "tolerance" "I") (by decide +kernel)) (fun x hx => hx) rfl rfl rfl rfl dX10_init_104 (fun H104 locs hO ok104 sz104 hS => ?_)
  have n5 := n5.kept (ok104 r5 (by omega))
  have n16 := n16.kept (ok104 r16 (by omega))
  have n27 := n27.kept (ok104 r27 (by omega))
  have n38 := n38.kept (ok104 r38 (by omega))
  have n49 := n49.kept (ok104 r49 (by omega))
  have n60 := n60.kept (ok104 r60 (by omega))
  have n64_1 := (ok104 r64_1 (by omega)).trans n64_1
  have n71 := n71.kept (ok104 r71 (by omega))
  have n75_1 := (ok104 r75_1 (by omega)).trans n75_1
  have n75_2 := (ok104 r75_2 (by omega)).trans n75_2
  have n82 := n82.kept (ok104 r82 (by omega))
  have n86_1 := (ok104 r86_1 (by omega)).trans n86_1
  refine w_widen (k := 12) (n := 735) (Nat.le_of_ble_eq_true rfl) (Nat.le_of_ble_eq_true rfl) ?_
  refine cb_vret E hr hlk hS dX10_init_107 ⟨rfl, r5, r16, r27, r38, r49, r60, r64_1, r71, r75_1, r75_2, r82, r86_1, ⟨by omega, by omega, by omega, by omega, by omega, by omega, by omega, by omega, by omega, by omega, by omega, by omega, (Array.getElem?_eq_some_iff.mp n86_1).1⟩, ⟨n5, n16, n27, n38, n49⟩, ⟨n60, n71, n82⟩, ⟨n64_1, n75_1, n75_2, n86_1⟩, ?_⟩
  exact hO.to (fun k hk => by rcases (show k = 0 ∨ k = 1 ∨ k = 2 ∨ k = 3 ∨ k = 4 ∨ k = 5 ∨ k = 6 ∨ k = 7 ∨ k = 8 ∨ k = 9 ∨ k = 10 by omega) with rfl | rfl | rfl | rfl | rfl | rfl | rfl | rfl | rfl | rfl | rfl <;> rfl)
theorem g_0 {D : va_G} {cy : Nat → ClassId} {d0 : Nat} {A : Nat → Prop} {H1 : Heap} {n0 q r5 r16 r27 r38 r49 r60 r64 r71 r75 r76 r82 r86 : Nat} {la : Nat → Int → Nat} (hq0 : q < n0) (hch : n0 ≤ r5 ∧ r5 < r16 ∧ r16 < r27 ∧ r27 < r38 ∧ r38 < r49 ∧ r49 < r60 ∧ r60 < r64 ∧ r64 < r71 ∧ r71 < r75 ∧ r75 < r76 ∧ r76 < r82 ∧ r82 < r86 ∧ r86 < H1.size) (hOBS : t_OB r5 (D.1 0) 3 (D.2 0) H1 (lV 0 d0 0) ∧ t_OB r16 (D.1 0) 3 (D.2 0) H1 (lV 0 d0 0) ∧ t_OB r27 (D.1 0) 3 (D.2 0) H1 (lV 0 d0 0) ∧ t_OB r38 (D.1 0) 3 (D.2 0) H1 (lV 0 d0 0) ∧ t_OB r49 (D.1 0) 3 (D.2 0) H1 (lV 0 d0 0)) (hOBC : t_OB r60 (D.1 2) 1 (D.2 2) H1 (fun _ => .ref r64) ∧ t_OB r71 (D.1 9) 2 (D.2 9) H1 (fun k => if k = 0 then .ref r75 else .ref r76) ∧ t_OB r82 (D.1 5) 2 (D.2 5) H1 (fun k => if k = 0 then .ref r86 else .int (iI 0))) (hARS : H1[r64]? = some (arrV (cy 2) 700 (fun _ => defaultValue .boolean)) ∧ H1[r75]? = some (arrV (cy 1) 5 (fun _ => defaultValue .int)) ∧ H1[r76]? = some (arrV (cy 1) 5 (fun _ => defaultValue .int)) ∧ H1[r86]? = some (arrV (cy 1) 5 (fun _ => defaultValue .int))) (hO : t_OB q (D.1 11) 11 (D.2 11) H1 (fun k => if k = 0 then .ref r5 else if k = 1 then .ref r16 else if k = 2 then .ref r27 else if k = 3 then .ref r38 else if k = 4 then .ref r49 else if k = 5 then .ref r60 else if k = 6 then .ref r71 else if k = 7 then .ref r82 else if k = 8 then .int (iI 0) else if k = 9 then .int (iI 0) else .int (iI 0))) (hAq : A q) (hA : ∀ z, n0 ≤ z → A z) (hd : ¬ A d0)
    (l0 : la 0 0 = q) (l1 : la 1 0 = r60) (l2 : la 2 0 = r71) (l3 : la 3 0 = r82) (l110 : la 11 0 = r5) (l111 : la 11 1 = r16) (l112 : la 11 2 = r27) (l113 : la 11 3 = r38) (l114 : la 11 4 = r49) (l12 : la 12 0 = r64) (l13 : la 13 0 = r75) (l14 : la 14 0 = r76) (l15 : la 15 0 = r86) (l18 : ∀ i, la 18 i = d0) (l19 : ∀ i, la 19 i = 0) : CP D cy d0 A la (fun _ _ => 0) H1 := by
  obtain ⟨c1, c2, c3, c4, c5, c6, c7, c8, c9, c10, c11, c12, c13⟩ := hch
  obtain ⟨o1, o2, o3, o4, o5⟩ := hOBS
  obtain ⟨o6, o7, o8⟩ := hOBC
  obtain ⟨a1, a2, a3, a4⟩ := hARS
  have live : ∀ κ i, κ ≤ 18 → cLive la (fun _ _ => 0) κ i → (κ = 0 ∧ i = 0 ∧ la κ i = q) ∨ (κ = 1 ∧ i = 0 ∧ la κ i = r60) ∨ (κ = 2 ∧ i = 0 ∧ la κ i = r71) ∨ (κ = 3 ∧ i = 0 ∧ la κ i = r82) ∨ (κ = 11 ∧ i = 0 ∧ la κ i = r5) ∨ (κ = 11 ∧ i = 1 ∧ la κ i = r16) ∨ (κ = 11 ∧ i = 2 ∧ la κ i = r27) ∨ (κ = 11 ∧ i = 3 ∧ la κ i = r38) ∨ (κ = 11 ∧ i = 4 ∧ la κ i = r49) ∨ (κ = 12 ∧ i = 0 ∧ la κ i = r64) ∨ (κ = 13 ∧ i = 0 ∧ la κ i = r75) ∨ (κ = 14 ∧ i = 0 ∧ la κ i = r76) ∨ (κ = 15 ∧ i = 0 ∧ la κ i = r86) := by
    intro κ i hκ h
    rcases (show κ = 0 ∨ κ = 1 ∨ κ = 2 ∨ κ = 3 ∨ κ = 4 ∨ κ = 5 ∨ κ = 6 ∨ κ = 7 ∨ κ = 8 ∨ κ = 9 ∨ κ = 10 ∨ κ = 11 ∨ κ = 12 ∨ κ = 13 ∨ κ = 14 ∨ κ = 15 ∨ κ = 16 ∨ κ = 17 ∨ κ = 18 by omega) with rfl | rfl | rfl | rfl | rfl | rfl | rfl | rfl | rfl | rfl | rfl | rfl | rfl | rfl | rfl | rfl | rfl | rfl | rfl
    · have h2 : i = 0 := h
      subst h2
      exact Or.inl ⟨rfl, rfl, l0⟩
    · have h2 : i = 0 := h
      subst h2
      exact Or.inr (Or.inl ⟨rfl, rfl, l1⟩)
    · have h2 : i = 0 := h
      subst h2
      exact Or.inr (Or.inr (Or.inl ⟨rfl, rfl, l2⟩))
    · have h2 : i = 0 := h
      subst h2
      exact Or.inr (Or.inr (Or.inr (Or.inl ⟨rfl, rfl, l3⟩)))
    · have h2 : 0 ≤ i ∧ i < (0 : Int) := h
      omega
    · have h2 : 0 ≤ i ∧ i < (0 : Int) := h
      omega
    · have h2 : 0 ≤ i ∧ i < (0 : Int) := h
      omega
    · have h2 : 0 ≤ i ∧ i / 8 < (0 : Int) ∧ _ := h
      omega
    · have h2 : 0 ≤ i ∧ i / 20 < (0 : Int) ∧ _ := h
      omega
    · have h2 : 0 ≤ i ∧ i < (0 : Int) := h
      omega
    · have h2 : 0 ≤ i ∧ i < (0 : Int) := h
      omega
    · have h2 : 0 ≤ i ∧ i < 5 + 2 * 0 := h
      rcases (show i = 0 ∨ i = 1 ∨ i = 2 ∨ i = 3 ∨ i = 4 by omega) with rfl | rfl | rfl | rfl | rfl
      · exact Or.inr (Or.inr (Or.inr (Or.inr (Or.inl ⟨rfl, rfl, l110⟩))))
      · exact Or.inr (Or.inr (Or.inr (Or.inr (Or.inr (Or.inl ⟨rfl, rfl, l111⟩)))))
      · exact Or.inr (Or.inr (Or.inr (Or.inr (Or.inr (Or.inr (Or.inl ⟨rfl, rfl, l112⟩))))))
      · exact Or.inr (Or.inr (Or.inr (Or.inr (Or.inr (Or.inr (Or.inr (Or.inl ⟨rfl, rfl, l113⟩)))))))
      · exact Or.inr (Or.inr (Or.inr (Or.inr (Or.inr (Or.inr (Or.inr (Or.inr (Or.inl ⟨rfl, rfl, l114⟩))))))))
    · have h2 : i = 0 := h
      subst h2
      exact Or.inr (Or.inr (Or.inr (Or.inr (Or.inr (Or.inr (Or.inr (Or.inr (Or.inr (Or.inl ⟨rfl, rfl, l12⟩)))))))))
    · have h2 : i = 0 := h
      subst h2
      exact Or.inr (Or.inr (Or.inr (Or.inr (Or.inr (Or.inr (Or.inr (Or.inr (Or.inr (Or.inr (Or.inl ⟨rfl, rfl, l13⟩))))))))))
    · have h2 : i = 0 := h
      subst h2
      exact Or.inr (Or.inr (Or.inr (Or.inr (Or.inr (Or.inr (Or.inr (Or.inr (Or.inr (Or.inr (Or.inr (Or.inl ⟨rfl, rfl, l14⟩)))))))))))
    · have h2 : i = 0 := h
      subst h2
      exact Or.inr (Or.inr (Or.inr (Or.inr (Or.inr (Or.inr (Or.inr (Or.inr (Or.inr (Or.inr (Or.inr (Or.inr (⟨rfl, rfl, l15⟩))))))))))))
    · have h2 : 0 ≤ i ∧ i < (0 : Int) := h
      omega
    · have h2 : 0 ≤ i ∧ i < (0 : Int) := h
      omega
    · have h3 : 0 < la 19 i := h.2
      rw [l19] at h3
      omega
  refine ⟨fun κ i a b => ?_, fun κ i a b c => ?_, fun L hL => ⟨?_, Or.inl ⟨l19 L, l18 L⟩⟩, fun κ κ' i i' a b c d e => ?_, fun κ i a b => ?_, ⟨fun k j _ => ⟨(by decide : (-2147483648 : Int) ≤ 0), (by decide : (0 : Int) < 2147483648)⟩, fun k j _ => Or.inl rfl⟩, hd⟩
  · rcases live κ i (by omega) b with ⟨rfl, rfl, e⟩ | ⟨rfl, rfl, e⟩ | ⟨rfl, rfl, e⟩ | ⟨rfl, rfl, e⟩ | ⟨rfl, rfl, e⟩ | ⟨rfl, rfl, e⟩ | ⟨rfl, rfl, e⟩ | ⟨rfl, rfl, e⟩ | ⟨rfl, rfl, e⟩ | ⟨h, -⟩ | ⟨h, -⟩ | ⟨h, -⟩ | ⟨h, -⟩
    · rw [e]
      refine hO.to (fun k hk => ?_)
      rcases (show k = 0 ∨ k = 1 ∨ k = 2 ∨ k = 3 ∨ k = 4 ∨ k = 5 ∨ k = 6 ∨ k = 7 ∨ k = 8 ∨ k = 9 ∨ k = 10 by have hk2 : k < 11 := hk; omega) with rfl | rfl | rfl | rfl | rfl | rfl | rfl | rfl | rfl | rfl | rfl
      · show _ = va_rf (some (la 11 0)); rw [l110]; rfl
      · show _ = va_rf (some (la 11 1)); rw [l111]; rfl
      · show _ = va_rf (some (la 11 2)); rw [l112]; rfl
      · show _ = va_rf (some (la 11 3)); rw [l113]; rfl
      · show _ = va_rf (some (la 11 4)); rw [l114]; rfl
      · show _ = va_rf (some (la 1 0)); rw [l1]; rfl
      · show _ = va_rf (some (la 2 0)); rw [l2]; rfl
      · show _ = va_rf (some (la 3 0)); rw [l3]; rfl
      · rfl
      · rfl
      · rfl
    · rw [e]
      refine o6.to (fun k hk => ?_)
      have hk2 : k = 0 := by have hk2 : k < 1 := hk; omega
      subst hk2
      show _ = va_rf (some (la 12 0)); rw [l12]; rfl
    · rw [e]
      refine o7.to (fun k hk => ?_)
      rcases (show k = 0 ∨ k = 1 by have hk2 : k < 2 := hk; omega) with rfl | rfl
      · show _ = va_rf (some (la 13 0)); rw [l13]; rfl
      · show _ = va_rf (some (la 14 0)); rw [l14]; rfl
    · rw [e]
      refine o8.to (fun k hk => ?_)
      rcases (show k = 0 ∨ k = 1 by have hk2 : k < 2 := hk; omega) with rfl | rfl
      · show _ = va_rf (some (la 15 0)); rw [l15]; rfl
      · rfl
    · rw [e]
      refine o1.to (fun k hk => ?_)
      rcases (show k = 0 ∨ k = 1 ∨ k = 2 by have hk2 : k < 3 := hk; omega) with rfl | rfl | rfl
      · rfl
      · show _ = va_rf (some (la 18 0)); rw [l18]; rfl
      · rfl
    · rw [e]
      refine o2.to (fun k hk => ?_)
      rcases (show k = 0 ∨ k = 1 ∨ k = 2 by have hk2 : k < 3 := hk; omega) with rfl | rfl | rfl
      · rfl
      · show _ = va_rf (some (la 18 1)); rw [l18]; rfl
      · rfl
    · rw [e]
      refine o3.to (fun k hk => ?_)
      rcases (show k = 0 ∨ k = 1 ∨ k = 2 by have hk2 : k < 3 := hk; omega) with rfl | rfl | rfl
      · rfl
      · show _ = va_rf (some (la 18 2)); rw [l18]; rfl
      · rfl
    · rw [e]
      refine o4.to (fun k hk => ?_)
      rcases (show k = 0 ∨ k = 1 ∨ k = 2 by have hk2 : k < 3 := hk; omega) with rfl | rfl | rfl
      · rfl
      · show _ = va_rf (some (la 18 3)); rw [l18]; rfl
      · rfl
    · rw [e]
      refine o5.to (fun k hk => ?_)
      rcases (show k = 0 ∨ k = 1 ∨ k = 2 by have hk2 : k < 3 := hk; omega) with rfl | rfl | rfl
      · rfl
      · show _ = va_rf (some (la 18 4)); rw [l18]; rfl
      · rfl
    · omega
    · omega
    · omega
    · omega
  · rcases live κ i (by omega) c with ⟨h, -⟩ | ⟨h, -⟩ | ⟨h, -⟩ | ⟨h, -⟩ | ⟨h, -⟩ | ⟨h, -⟩ | ⟨h, -⟩ | ⟨h, -⟩ | ⟨h, -⟩ | ⟨rfl, rfl, e⟩ | ⟨rfl, rfl, e⟩ | ⟨rfl, rfl, e⟩ | ⟨rfl, rfl, e⟩
    · omega
    · omega
    · omega
    · omega
    · omega
    · omega
    · omega
    · omega
    · omega
    · rw [e, a1]; rfl
    · rw [e, a2]; rfl
    · rw [e, a3]; rfl
    · rw [e, a4]; rfl
  · have h2 : 0 ≤ L ∧ L < 5 + 2 * 0 := hL
    rw [l19]
    rcases (show L = 0 ∨ L = 1 ∨ L = 2 ∨ L = 3 ∨ L = 4 by omega) with rfl | rfl | rfl | rfl | rfl <;> decide
  · rcases live κ i a c with ⟨rfl, rfl, f⟩ | ⟨rfl, rfl, f⟩ | ⟨rfl, rfl, f⟩ | ⟨rfl, rfl, f⟩ | ⟨rfl, rfl, f⟩ | ⟨rfl, rfl, f⟩ | ⟨rfl, rfl, f⟩ | ⟨rfl, rfl, f⟩ | ⟨rfl, rfl, f⟩ | ⟨rfl, rfl, f⟩ | ⟨rfl, rfl, f⟩ | ⟨rfl, rfl, f⟩ | ⟨rfl, rfl, f⟩ <;> rcases live κ' i' b d with ⟨rfl, rfl, g⟩ | ⟨rfl, rfl, g⟩ | ⟨rfl, rfl, g⟩ | ⟨rfl, rfl, g⟩ | ⟨rfl, rfl, g⟩ | ⟨rfl, rfl, g⟩ | ⟨rfl, rfl, g⟩ | ⟨rfl, rfl, g⟩ | ⟨rfl, rfl, g⟩ | ⟨rfl, rfl, g⟩ | ⟨rfl, rfl, g⟩ | ⟨rfl, rfl, g⟩ | ⟨rfl, rfl, g⟩ <;> first | exact ⟨rfl, rfl⟩ | (exfalso; rw [f, g] at e; omega)
  · rcases live κ i a b with ⟨-, -, e⟩ | ⟨-, -, e⟩ | ⟨-, -, e⟩ | ⟨-, -, e⟩ | ⟨-, -, e⟩ | ⟨-, -, e⟩ | ⟨-, -, e⟩ | ⟨-, -, e⟩ | ⟨-, -, e⟩ | ⟨-, -, e⟩ | ⟨-, -, e⟩ | ⟨-, -, e⟩ | ⟨-, -, e⟩ <;> rw [e] <;> first | exact hAq | exact hA _ (by omega)
theorem CB.pimp {l : Launch} {y : MethodName} {ws : List Cond} {rm : Room} {D : va_G} {cy : Nat → ClassId} {d0 : Nat} {A : Nat → Prop} {av : List Value} {Pre : Heap → Prop} {P P' : Option Value → Heap → Heap → Prop} {mc ms : Nat} (h : CB l y ws rm D cy d0 A av Pre P mc ms) (hp : ∀ v H0 H1, Pre H0 → ¬ A d0 → (∀ q, H0.size ≤ q → A q) → P v H0 H1 → P' v H0 H1) : CB l y ws rm D cy d0 A av Pre P' mc ms := by
  unfold CB Met at h ⊢
  exact MetFree.mono h (fun _ _ q => q) (fun _ _ _ _ _ q => q) (fun a st oc t hpre hq => by
    obtain ⟨⟨⟨v, h1, h2⟩, h3⟩, h4⟩ := hq
    obtain ⟨-, hp1, hp2⟩ := hpre
    exact ⟨⟨⟨v, h1, hp v _ _ hp1 hp2.2.2.2.2.2.1 hp2.2.2.2.2.2.2.1 h2⟩, h3⟩, h4⟩)
theorem k_Town0 (l : Launch) (D : va_G) (cy : Nat → ClassId) (d0 : Nat) (A : Nat → Prop) {q : Nat} (hAq : A q) : CB l yX10_init wsX10_init ({ frames := 4, cells := 12, slots := 735, locals := 95 } : Room) D cy d0 A [.ref q] (fun H => t_OB q (D.1 11) 11 (D.2 11) H (fun k => defaultValue (tyX10 k))) (fun v H0 H1 => v = none ∧ ∃ la : Nat → Int → Nat, la 0 0 = q ∧ (∀ i, la 19 i = 0) ∧ CP D cy d0 A la (fun _ _ => 0) H1) 12 735 := by
  refine CB.pimp (k_Town l D cy d0 A hAq) (fun v H0 H1 hO hd hA hp => ?_)
  have hq0 := hO.lt
  obtain ⟨rfl, r5, r16, r27, r38, r49, r60, r64, r71, r75, r76, r82, r86, hch, hOBS, hOBC, hARS, hO1⟩ := hp
  exact ⟨rfl, (fun κ i => if κ = 0 then q else if κ = 1 then r60 else if κ = 2 then r71 else if κ = 3 then r82 else if κ = 11 then (if i = 0 then r5 else if i = 1 then r16 else if i = 2 then r27 else if i = 3 then r38 else r49) else if κ = 12 then r64 else if κ = 13 then r75 else if κ = 14 then r76 else if κ = 15 then r86 else if κ = 18 then d0 else 0), rfl, fun _ => rfl, g_0 (n0 := H0.size) hq0 hch hOBS hOBC hARS hO1 hAq hA hd rfl rfl rfl rfl rfl rfl rfl rfl rfl rfl rfl rfl rfl (fun _ => rfl) (fun _ => rfl)⟩
