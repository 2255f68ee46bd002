section OB2
variable {p : Program} {l : Launch} {e : Env} {R : Room} {s : State} {m : MethodId} {args : Array Value} {below : List Frame} {meth : Method} {c : Code} {H : Heap} {locs : List Loc} {cells slots : Nat} {Q : State → Prop}
variable {cc : ByteArray} {pc : Nat} {ls : Array Slot} {rest st : List Value} {nL : Nat} {lv : List (Nat × Value)} {Ts : List Cond} {D : va_G} {cy : Nat → ClassId} {d0 : Nat} {A : Nat → Prop} {idx : Nat} {own ref C : String} {T : u_T}
theorem cb_callIN {A' : Nat → Prop} {b : Nat} {y : MethodName} {host : String} {bytes : ByteArray} {maxL n index mc ms : Nat} {wsy : List Cond} {rm : Room} {av : List Value} {Pre : Heap → Prop} {P : Option Value → Heap → Heap → Prop} (E : cE p s m args c cc nL own Ts D cy) (hK : cK D cy d0 A s s.heap) (hS : va_S A s.heap H locs) (hl : lv_has ls nL lv) (hA' : ∀ q, A' q → A q) (hn' : ∀ q, H.size ≤ q → A' q)
    (hM : CB l y wsy rm D cy d0 A' (.ref b :: av) Pre P mc ms) (hpre : Pre H) (cw : va_CN R s args own index y host bytes maxL none wsy rm mc ms n ∧ y.name = "<init>" ∧ (Cond.instanceMethod y).before args s = true) (hst : st = av.reverse ++ .ref b :: rest) (hn : av.length = n) (hW : (rest.map fun v => v.category).sum ≤ 8) (d : decode cc pc = .ok (.invokespecial index, 3)) (hf : cells + mc ≤ R.cells ∧ slots + ms ≤ R.slots)
    (kk : ∀ (H1 : Heap) (locs1 : List Loc) (v : Option Value), P v H H1 → H.size ≤ H1.size → (∀ q : Nat, q < H.size → ¬ A' q → H1[q]? = H[q]?) → va_S A s.heap H1 locs1 → W p l e R s m args below meth c H1 locs1 (cells + mc) (slots + ms) Q (F0 m (pc + 3) ls (v.toList ++ rest))) : W p l e R s m args below meth c H locs cells slots Q (F0 m pc ls st) := by
  have hr := va_runIN (l := l) (e := e) (below := below) (meth := meth) (locs := locs) (cells := cells) (slots := slots) (As := av) (rest := rest) (g := F0 m pc ls st) (cFix E) hM cw (H := H) ⟨cbPre, fun U hU hW => ⟨rfl, by rw [hU]; exact hpre, by rw [hU]; exact ((hK.kept hS).sub hA' hn').moved hW⟩⟩ rfl hn hl.1 hst (lv_room hW) d hf
  intro T hT X
  obtain ⟨v9, st₀, t, T', L, h0, X', hL, e1, e2, ⟨⟨v, hv, hp⟩, hz, hk⟩, st9⟩ := hr T hT X
  cases hv
  rw [h0] at hz hk hp
  obtain ⟨t2, a1, b1⟩ := kk T'.heap (locs ++ L) v9 (by rw [e1]; exact hp) (by rw [e1]; exact hz) (by rw [e1]; exact hk) (cbRun hA' hS (by rw [e1]; exact hz) (by rw [e1]; exact hk) hL) T' rfl X'
  exact ⟨t2, st9 t2 a1, b1⟩
end OB2
set_option maxHeartbeats 4000000 in
set_option maxRecDepth 100000 in
theorem k_AC (l : Launch) (D : va_G) (cy : Nat → ClassId) (d0 : Nat) (A : Nat → Prop) {q : Nat} : CB l yJxa1e45_init_da8c8 wsJxa1e45_init_da8c8 ({ frames := 1, cells := 0, slots := 0, locals := 20 } : Room) D cy d0 A [.ref q] (fun _ => True) (fun v H0 H1 => v = none ∧ H1 = H0) 0 0 := by
  refine cb_of (cc := cJxa1e45_init_da8c8) (nL := 1) (ret := none) (by decide) rfl (Nat.le_of_ble_eq_true rfl) ?_
  intro p e s m args below meth c ls E hr hlk hini hK hPre hS hl
  have B := E.1
  have hml := E.2.1
  have hown := E.2.2.1
  have hts0 := E.2.2.2.1
  have hts := E.2.2.2.1
  have hA := hK.2.2.2.2.2.2.1
  refine x_aload_n B hl dJxa1e45_init_da8c8_0 rfl ?_
  refine W.objInit B.1 B.2 hown (hts (.methodLink RJxa1e45 1 objectInit) (by decide +kernel)) (hts (.instanceMethod objectInit) (by decide +kernel)) (hts (.code objectInit ⟨#[0xb1]⟩ 1 none) (by decide +kernel)) rfl (hl.1.trans hml.symm) rfl dJxa1e45_init_da8c8_1 (Nat.le_of_ble_eq_true rfl) (Nat.le_of_ble_eq_true rfl) ?_
  refine W.eq (g2 := F0 m 4 ls []) rfl ?_
  exact cb_vret E hr hlk hS dJxa1e45_init_da8c8_4 ⟨rfl, rfl⟩
set_option maxHeartbeats 4000000 in
set_option maxRecDepth 100000 in
theorem k_AL0 (l : Launch) (D : va_G) (cy : Nat → ClassId) (d0 : Nat) (A : Nat → Prop) {q : Nat} {V : Nat → Value} (hAq : A q) : CB l yJxc12de_init_da8c8 wsJxc12de_init_da8c8 ({ frames := 2, cells := 0, slots := 0, locals := 45 } : Room) D cy d0 A [.ref q] (fun H => t_OB q (D.1 0) 3 (D.2 0) H V) (fun v H0 H1 => v = none ∧ t_OB q (D.1 0) 3 (D.2 0) H1 (updV V 0 (.int (iI 0)))) 0 0 := by
  refine cb_of (cc := cJxc12de_init_da8c8) (nL := 1) (ret := none) (by decide) rfl (Nat.le_of_ble_eq_true rfl) ?_
  intro p e s m args below meth c ls E hr hlk hini hK hPre hS hl
  have B := E.1
  have hml := E.2.1
  have hown := E.2.2.1
  have hts0 := E.2.2.2.1
  have hts := E.2.2.2.1
  have hA := hK.2.2.2.2.2.2.1
  have hO := hPre
  have hq0 := hO.lt
  refine x_aload_n B hl dJxc12de_init_da8c8_0 rfl ?_
  refine cb_callI (A' := fun z => s.heap.size ≤ z) (av := []) E hK hS hl (fun z h => hA z h) (fun z h => h) (k_AC l D cy d0 _ (q := q)) trivial (cwI 0 hts0 gJxc12de_init_da8c8_Jxa1e45_init_da8c8 rfl rfl rfl (hts (.initialized RJxa1e45) (by decide +kernel)) (hts (.methodLink RJxc12de 1 yJxa1e45_init_da8c8) (by decide +kernel)) (hts (.instanceMethod yJxa1e45_init_da8c8) (by decide +kernel)) rfl (by decide +kernel) ⟨Nat.le_of_ble_eq_true rfl, Nat.le_of_ble_eq_true rfl⟩) rfl rfl (Nat.le_of_ble_eq_true rfl) dJxc12de_init_da8c8_1 ⟨Nat.le_of_ble_eq_true rfl, Nat.le_of_ble_eq_true rfl⟩ (fun H1 locs v hv z1 o1 hS => ?_)
  obtain ⟨rfl, rfl⟩ := hv
  refine x_aload_n B hl dJxc12de_init_da8c8_4 rfl ?_
  refine x_iconst B dJxc12de_init_da8c8_5 ?_
  refine ob_put (ty := .int) E hO hS hAq rfl (fun z h => List.mem_cons_of_mem _ (List.mem_append_right _ h)) tyJx4a65c_ok nmJx4a65c 0 (by decide) (hts (.fieldLink RJxc12de 7 "java/util/AbstractList" "modCount" "I") (by decide +kernel)) (fun x hx => hx) rfl rfl rfl rfl dJxc12de_init_da8c8_6 (fun H locs hO ok6 sz6 hS => ?_)
  exact cb_vret E hr hlk hS dJxc12de_init_da8c8_9 ⟨rfl, hO⟩
set_option maxHeartbeats 4000000 in
set_option maxRecDepth 100000 in
theorem k_AL (l : Launch) (D : va_G) (cy : Nat → ClassId) (d0 : Nat) (A : Nat → Prop) {q : Nat} (hAq : A q) : CB l yJx4a65c_init_da8c8 wsJx4a65c_init_da8c8 ({ frames := 3, cells := 0, slots := 0, locals := 70 } : Room) D cy d0 A [.ref q] (fun H => t_OB q (D.1 0) 3 (D.2 0) H (fun k => defaultValue (tyJx4a65c k))) (fun v H0 H1 => v = none ∧ t_OB q (D.1 0) 3 (D.2 0) H1 (lV 0 d0 0)) 0 0 := by
  refine cb_of (cc := cJx4a65c_init_da8c8) (nL := 1) (ret := none) (by decide) rfl (Nat.le_of_ble_eq_true rfl) ?_
  intro p e s m args below meth c ls E hr hlk hini hK hPre hS hl
  have B := E.1
  have hml := E.2.1
  have hown := E.2.2.1
  have hts0 := E.2.2.2.1
  have hts := E.2.2.2.1
  have hA := hK.2.2.2.2.2.2.1
  have hO := hPre
  have hq0 := hO.lt
  refine x_aload_n B hl dJx4a65c_init_da8c8_0 rfl ?_
  refine cb_callI (A' := A) (av := []) E hK hS hl (fun z h => h) (fun z h => hA z h) (k_AL0 l D cy d0 A (q := q) hAq) hO (cwI 0 hts0 gJx4a65c_init_da8c8_Jxc12de_init_da8c8 rfl rfl rfl (hts (.initialized RJxc12de) (by decide +kernel)) (hts (.methodLink RJx4a65c 1 yJxc12de_init_da8c8) (by decide +kernel)) (hts (.instanceMethod yJxc12de_init_da8c8) (by decide +kernel)) rfl (by decide +kernel) ⟨Nat.le_of_ble_eq_true rfl, Nat.le_of_ble_eq_true rfl⟩) rfl rfl (Nat.le_of_ble_eq_true rfl) dJx4a65c_init_da8c8_1 ⟨Nat.le_of_ble_eq_true rfl, Nat.le_of_ble_eq_true rfl⟩ (fun H1 locs v hv z1 o1 hS => ?_)
  obtain ⟨rfl, hO⟩ := hv
  refine x_aload_n B hl dJx4a65c_init_da8c8_4 rfl ?_
  refine va_gets B.1 B.2 hK.2.2.2.1 hS hown (hts (.fieldLink RJx4a65c 39 "java/util/ArrayList" "DEFAULTCAPACITY_EMPTY_ELEMENTDATA" "[Ljava/lang/Object;") (by decide +kernel)) (fun x h => h) dJx4a65c_init_da8c8_5 ?_
  refine ob_put (ty := .array (.object "java/lang/Object")) E hO hS hAq rfl (fun z h => List.mem_cons_of_mem _ (List.mem_append_right _ h)) tyJx4a65c_ok nmJx4a65c 1 (by decide) (hts (.fieldLink RJx4a65c 9 "java/util/ArrayList" "elementData" "[Ljava/lang/Object;") (by decide +kernel)) (fun x hx => hx) rfl rfl rfl rfl dJx4a65c_init_da8c8_8 (fun H locs hO ok8 sz8 hS => ?_)
  exact cb_vret E hr hlk hS dJx4a65c_init_da8c8_11 ⟨rfl, hO.to (fun k hk => by rcases (show k = 0 ∨ k = 1 ∨ k = 2 by omega) with rfl | rfl | rfl <;> rfl)⟩
set_option maxHeartbeats 4000000 in
set_option maxRecDepth 100000 in
theorem k_House (l : Launch) (D : va_G) (cy : Nat → ClassId) (d0 : Nat) (A : Nat → Prop) {q : Nat} {n st : Int} {a : Nat} (hAq : A q) : CB l yX3_init wsX3_init ({ frames := 1, cells := 0, slots := 0, locals := 20 } : Room) D cy d0 A [.ref q, .int (iI n), .int (iI st), .ref a] (fun H => t_OB q (D.1 4) 10 (D.2 4) H (fun k => defaultValue (tyX3 k))) (fun v H0 H1 => v = none ∧ t_OB q (D.1 4) 10 (D.2 4) H1 (fun k => if k = 0 then .int (iI n) else if k = 1 then .int (iI st) else if k = 2 then .ref a else if k = 3 then .int (iI 0) else if k = 4 then .long (lI 0) else if k = 5 then .long (lI 0) else if k = 6 then .long (lI 0) else if k = 7 then .long (lI 0) else if k = 8 then .long (lI 0) else .long (lI 0))) 0 0 := by
  refine cb_of (cc := cX3_init) (nL := 4) (ret := none) (by decide) rfl (Nat.le_of_ble_eq_true rfl) ?_
  intro p e s m args below meth c ls E hr hlk hini hK hPre hS hl
  have B := E.1
  have hml := E.2.1
  have hown := E.2.2.1
  have hts0 := E.2.2.2.1
  have hts := E.2.2.2.1
  have hA := hK.2.2.2.2.2.2.1
  have hO := hPre
  have hq0 := hO.lt
  refine x_aload_n B hl dX3_init_0 rfl ?_
  refine W.objInit B.1 B.2 hown (hts (.methodLink RX3 1 objectInit) (by decide +kernel)) (hts (.instanceMethod objectInit) (by decide +kernel)) (hts (.code objectInit ⟨#[0xb1]⟩ 1 none) (by decide +kernel)) rfl (hl.1.trans hml.symm) rfl dX3_init_1 (Nat.le_of_ble_eq_true rfl) (Nat.le_of_ble_eq_true rfl) ?_
  refine W.eq (g2 := F0 m 4 ls []) rfl ?_
  refine x_aload_n B hl dX3_init_4 rfl ?_
  refine x_iconst B dX3_init_5 ?_
  refine ob_put (ty := .int) E hO hS hAq rfl (fun z h => List.mem_cons_of_mem _ (List.mem_append_right _ h)) tyX3_ok nmX3 3 (by decide) (hts (.fieldLink RX3 7 "BinRounds$House" "bands" "I") (by decide +kernel)) (fun x hx => hx) rfl rfl rfl rfl dX3_init_6 (fun H6 locs hO ok6 sz6 hS => ?_)
  refine x_aload_n B hl dX3_init_9 rfl ?_
  refine x_lconst B dX3_init_10 ?_
  refine ob_put (ty := .long) E hO hS hAq rfl (fun z h => List.mem_cons_of_mem _ (List.mem_append_right _ h)) tyX3_ok nmX3 4 (by decide) (hts (.fieldLink RX3 13 "BinRounds$House" "fromTips" "J") (by decide +kernel)) (fun x hx => hx) rfl rfl rfl rfl dX3_init_11 (fun H11 locs hO ok11 sz11 hS => ?_)
  refine x_aload_n B hl dX3_init_14 rfl ?_
  refine x_lconst B dX3_init_15 ?_
  refine ob_put (ty := .long) E hO hS hAq rfl (fun z h => List.mem_cons_of_mem _ (List.mem_append_right _ h)) tyX3_ok nmX3 5 (by decide) (hts (.fieldLink RX3 17 "BinRounds$House" "fromBands" "J") (by decide +kernel)) (fun x hx => hx) rfl rfl rfl rfl dX3_init_16 (fun H16 locs hO ok16 sz16 hS => ?_)
  refine x_aload_n B hl dX3_init_19 rfl ?_
  refine x_lconst B dX3_init_20 ?_
  refine ob_put (ty := .long) E hO hS hAq rfl (fun z h => List.mem_cons_of_mem _ (List.mem_append_right _ h)) tyX3_ok nmX3 6 (by decide) (hts (.fieldLink RX3 20 "BinRounds$House" "allBills" "J") (by decide +kernel)) (fun x hx => hx) rfl rfl rfl rfl dX3_init_21 (fun H21 locs hO ok21 sz21 hS => ?_)
  refine x_aload_n B hl dX3_init_24 rfl ?_
  refine x_lconst B dX3_init_25 ?_
  refine ob_put (ty := .long) E hO hS hAq rfl (fun z h => List.mem_cons_of_mem _ (List.mem_append_right _ h)) tyX3_ok nmX3 7 (by decide) (hts (.fieldLink RX3 23 "BinRounds$House" "allPaid" "J") (by decide +kernel)) (fun x hx => hx) rfl rfl rfl rfl dX3_init_26 (fun H26 locs hO ok26 sz26 hS => ?_)
  refine x_aload_n B hl dX3_init_29 rfl ?_
  refine x_lconst B dX3_init_30 ?_
  refine ob_put (ty := .long) E hO hS hAq rfl (fun z h => List.mem_cons_of_mem _ (List.mem_append_right _ h)) tyX3_ok nmX3 8 (by decide) (hts (.fieldLink RX3 26 "BinRounds$House" "weight" "J") (by decide +kernel)) (fun x hx => hx) rfl rfl rfl rfl dX3_init_31 (fun H31 locs hO ok31 sz31 hS => ?_)
  refine x_aload_n B hl dX3_init_34 rfl ?_
  refine x_lconst B dX3_init_35 ?_
  refine ob_put (ty := .long) E hO hS hAq rfl (fun z h => List.mem_cons_of_mem _ (List.mem_append_right _ h)) tyX3_ok nmX3 9 (by decide) (hts (.fieldLink RX3 29 "BinRounds$House" "part" "J") (by decide +kernel)) (fun x hx => hx) rfl rfl rfl rfl dX3_init_36 (fun H36 locs hO ok36 sz36 hS => ?_)
  refine x_aload_n B hl dX3_init_39 rfl ?_
  refine x_iload_n B hl dX3_init_40 rfl ?_
  refine ob_putF (ty := .int) E hO hS hAq rfl (fun z h => List.mem_cons_of_mem _ (List.mem_append_right _ h)) tyX3_ok nmX3 0 (by decide) (hts (.fieldLink RX3 32 "BinRounds$House" "number" "I") (by decide +kernel)) (fun x hx => hx) rfl hini rfl rfl rfl rfl dX3_init_41 (fun H41 locs hO ok41 sz41 hS => ?_)
  refine x_aload_n B hl dX3_init_44 rfl ?_
  refine x_iload_n B hl dX3_init_45 rfl ?_
  refine ob_putF (ty := .int) E hO hS hAq rfl (fun z h => List.mem_cons_of_mem _ (List.mem_append_right _ h)) tyX3_ok nmX3 1 (by decide) (hts (.fieldLink RX3 35 "BinRounds$House" "streetNumber" "I") (by decide +kernel)) (fun x hx => hx) rfl hini rfl rfl rfl rfl dX3_init_46 (fun H46 locs hO ok46 sz46 hS => ?_)
  refine x_aload_n B hl dX3_init_49 rfl ?_
  refine x_aload_n B hl dX3_init_50 rfl ?_
  refine ob_putF (ty := .object "BinRounds$Street") E hO hS hAq rfl (fun z h => List.mem_cons_of_mem _ (List.mem_append_right _ h)) tyX3_ok nmX3 2 (by decide) (hts (.fieldLink RX3 38 "BinRounds$House" "place" "LBinRounds$Street;") (by decide +kernel)) (fun x hx => hx) rfl hini rfl rfl rfl rfl dX3_init_51 (fun H51 locs hO ok51 sz51 hS => ?_)
  refine w_widen (k := 0) (n := 0) (Nat.le_of_ble_eq_true rfl) (Nat.le_of_ble_eq_true rfl) ?_
  refine cb_vret E hr hlk hS dX3_init_54 ⟨rfl, ?_⟩
  exact hO.to (fun k hk => by rcases (show k = 0 ∨ k = 1 ∨ k = 2 ∨ k = 3 ∨ k = 4 ∨ k = 5 ∨ k = 6 ∨ k = 7 ∨ k = 8 ∨ k = 9 by omega) with rfl | rfl | rfl | rfl | rfl | rfl | rfl | rfl | rfl | rfl <;> rfl)
set_option maxHeartbeats 4000000 in
set_option maxRecDepth 100000 in
theorem k_Move (l : Launch) (D : va_G) (cy : Nat → ClassId) (d0 : Nat) (A : Nat → Prop) {q : Nat} {d : Int} {a : Nat} (hAq : A q) : CB l yX5_init wsX5_init ({ frames := 1, cells := 0, slots := 0, locals := 20 } : Room) D cy d0 A [.ref q, .ref a, .int (iI d)] (fun H => t_OB q (D.1 6) 2 (D.2 6) H (fun k => defaultValue (tyX5 k))) (fun v H0 H1 => v = none ∧ t_OB q (D.1 6) 2 (D.2 6) H1 (fun k => if k = 0 then .ref a else .int (iI d))) 0 0 := by
  refine cb_of (cc := cX5_init) (nL := 3) (ret := none) (by decide) rfl (Nat.le_of_ble_eq_true rfl) ?_
  intro p e s m args below meth c ls E hr hlk hini hK hPre hS hl
  have B := E.1
  have hml := E.2.1
  have hown := E.2.2.1
  have hts0 := E.2.2.2.1
  have hts := E.2.2.2.1
  have hA := hK.2.2.2.2.2.2.1
  have hO := hPre
  have hq0 := hO.lt
  refine x_aload_n B hl dX5_init_0 rfl ?_
  refine W.objInit B.1 B.2 hown (hts (.methodLink RX5 1 objectInit) (by decide +kernel)) (hts (.instanceMethod objectInit) (by decide +kernel)) (hts (.code objectInit ⟨#[0xb1]⟩ 1 none) (by decide +kernel)) rfl (hl.1.trans hml.symm) rfl dX5_init_1 (Nat.le_of_ble_eq_true rfl) (Nat.le_of_ble_eq_true rfl) ?_
  refine W.eq (g2 := F0 m 4 ls []) rfl ?_
  refine x_aload_n B hl dX5_init_4 rfl ?_
  refine x_aload_n B hl dX5_init_5 rfl ?_
  refine ob_putF (ty := .object "BinRounds$House") E hO hS hAq rfl (fun z h => List.mem_cons_of_mem _ (List.mem_append_right _ h)) tyX5_ok nmX5 0 (by decide) (hts (.fieldLink RX5 7 "BinRounds$Move" "owner" "LBinRounds$House;") (by decide +kernel)) (fun x hx => hx) rfl hini rfl rfl rfl rfl dX5_init_6 (fun H6 locs hO ok6 sz6 hS => ?_)
  refine x_aload_n B hl dX5_init_9 rfl ?_
  refine x_iload_n B hl dX5_init_10 rfl ?_
  refine ob_putF (ty := .int) E hO hS hAq rfl (fun z h => List.mem_cons_of_mem _ (List.mem_append_right _ h)) tyX5_ok nmX5 1 (by decide) (hts (.fieldLink RX5 13 "BinRounds$Move" "day" "I") (by decide +kernel)) (fun x hx => hx) rfl hini rfl rfl rfl rfl dX5_init_11 (fun H11 locs hO ok11 sz11 hS => ?_)
  refine w_widen (k := 0) (n := 0) (Nat.le_of_ble_eq_true rfl) (Nat.le_of_ble_eq_true rfl) ?_
  refine cb_vret E hr hlk hS dX5_init_14 ⟨rfl, ?_⟩
  exact hO.to (fun k hk => by rcases (show k = 0 ∨ k = 1 by omega) with rfl | rfl <;> rfl)
set_option maxHeartbeats 4000000 in
set_option maxRecDepth 100000 in
theorem k_Part (l : Launch) (D : va_G) (cy : Nat → ClassId) (d0 : Nat) (A : Nat → Prop) {q : Nat} {w d : Int} {a : Nat} (hAq : A q) : CB l yX6_init wsX6_init ({ frames := 1, cells := 0, slots := 0, locals := 20 } : Room) D cy d0 A [.ref q, .ref a, .int (iI w), .int (iI d)] (fun H => t_OB q (D.1 7) 3 (D.2 7) H (fun k => defaultValue (tyX6 k))) (fun v H0 H1 => v = none ∧ t_OB q (D.1 7) 3 (D.2 7) H1 (fun k => if k = 0 then .ref a else if k = 1 then .int (iI w) else .int (iI d))) 0 0 := by
  refine cb_of (cc := cX6_init) (nL := 4) (ret := none) (by decide) rfl (Nat.le_of_ble_eq_true rfl) ?_
  intro p e s m args below meth c ls E hr hlk hini hK hPre hS hl
  have B := E.1
  have hml := E.2.1
  have hown := E.2.2.1
  have hts0 := E.2.2.2.1
  have hts := E.2.2.2.1
  have hA := hK.2.2.2.2.2.2.1
  have hO := hPre
  have hq0 := hO.lt
  refine x_aload_n B hl dX6_init_0 rfl ?_
  refine W.objInit B.1 B.2 hown (hts (.methodLink RX6 1 objectInit) (by decide +kernel)) (hts (.instanceMethod objectInit) (by decide +kernel)) (hts (.code objectInit ⟨#[0xb1]⟩ 1 none) (by decide +kernel)) rfl (hl.1.trans hml.symm) rfl dX6_init_1 (Nat.le_of_ble_eq_true rfl) (Nat.le_of_ble_eq_true rfl) ?_
  refine W.eq (g2 := F0 m 4 ls []) rfl ?_
  refine x_aload_n B hl dX6_init_4 rfl ?_
  refine x_aload_n B hl dX6_init_5 rfl ?_
  refine ob_putF (ty := .object "BinRounds$House") E hO hS hAq rfl (fun z h => List.mem_cons_of_mem _ (List.mem_append_right _ h)) tyX6_ok nmX6 0 (by decide) (hts (.fieldLink RX6 7 "BinRounds$Part" "sharer" "LBinRounds$House;") (by decide +kernel)) (fun x hx => hx) rfl hini rfl rfl rfl rfl dX6_init_6 (fun H6 locs hO ok6 sz6 hS => ?_)
  refine x_aload_n B hl dX6_init_9 rfl ?_
  refine x_iload_n B hl dX6_init_10 rfl ?_
  refine ob_putF (ty := .int) E hO hS hAq rfl (fun z h => List.mem_cons_of_mem _ (List.mem_append_right _ h)) tyX6_ok nmX6 1 (by decide) (hts (.fieldLink RX6 13 "BinRounds$Part" "weight" "I") (by decide +kernel)) (fun x hx => hx) rfl hini rfl rfl rfl rfl dX6_init_11 (fun H11 locs hO ok11 sz11 hS => ?_)
  refine x_aload_n B hl dX6_init_14 rfl ?_
  refine x_iload_n B hl dX6_init_15 rfl ?_
  refine ob_putF (ty := .int) E hO hS hAq rfl (fun z h => List.mem_cons_of_mem _ (List.mem_append_right _ h)) tyX6_ok nmX6 2 (by decide) (hts (.fieldLink RX6 17 "BinRounds$Part" "day" "I") (by decide +kernel)) (fun x hx => hx) rfl hini rfl rfl rfl rfl dX6_init_16 (fun H16 locs hO ok16 sz16 hS => ?_)
  refine w_widen (k := 0) (n := 0) (Nat.le_of_ble_eq_true rfl) (Nat.le_of_ble_eq_true rfl) ?_
  refine cb_vret E hr hlk hS dX6_init_19 ⟨rfl, ?_⟩
  exact hO.to (fun k hk => by rcases (show k = 0 ∨ k = 1 ∨ k = 2 by omega) with rfl | rfl | rfl <;> rfl)
set_option maxHeartbeats 4000000 in
set_option maxRecDepth 100000 in
theorem k_Cart (l : Launch) (D : va_G) (cy : Nat → ClassId) (d0 : Nat) (A : Nat → Prop) {q : Nat} {n lm : Int} (hAq : A q) : CB l yX2_init wsX2_init ({ frames := 1, cells := 0, slots := 0, locals := 20 } : Room) D cy d0 A [.ref q, .int (iI n), .int (iI lm)] (fun H => t_OB q (D.1 3) 6 (D.2 3) H (fun k => defaultValue (tyX2 k))) (fun v H0 H1 => v = none ∧ t_OB q (D.1 3) 6 (D.2 3) H1 (fun k => if k = 0 then .int (iI n) else if k = 1 then .int (iI lm) else if k = 2 then .int (iI 0) else if k = 3 then .int (iI (-1)) else if k = 4 then .int (iI 0) else .int (iI 0))) 0 0 := by
  refine cb_of (cc := cX2_init) (nL := 3) (ret := none) (by decide) rfl (Nat.le_of_ble_eq_true rfl) ?_
  intro p e s m args below meth c ls E hr hlk hini hK hPre hS hl
  have B := E.1
  have hml := E.2.1
  have hown := E.2.2.1
  have hts0 := E.2.2.2.1
  have hts := E.2.2.2.1
  have hA := hK.2.2.2.2.2.2.1
  have hO := hPre
  have hq0 := hO.lt
  refine x_aload_n B hl dX2_init_0 rfl ?_
  refine W.objInit B.1 B.2 hown (hts (.methodLink RX2 3 objectInit) (by decide +kernel)) (hts (.instanceMethod objectInit) (by decide +kernel)) (hts (.code objectInit ⟨#[0xb1]⟩ 1 none) (by decide +kernel)) rfl (hl.1.trans hml.symm) rfl dX2_init_1 (Nat.le_of_ble_eq_true rfl) (Nat.le_of_ble_eq_true rfl) ?_
  refine W.eq (g2 := F0 m 4 ls []) rfl ?_
  refine x_aload_n B hl dX2_init_4 rfl ?_
  refine x_iconst B dX2_init_5 ?_
  refine ob_put (ty := .int) E hO hS hAq rfl (fun z h => List.mem_cons_of_mem _ (List.mem_append_right _ h)) tyX2_ok nmX2 2 (by decide) (hts (.fieldLink RX2 9 "BinRounds$Cart" "carry" "I") (by decide +kernel)) (fun x hx => hx) rfl rfl rfl rfl dX2_init_6 (fun H6 locs hO ok6 sz6 hS => ?_)
  refine x_aload_n B hl dX2_init_9 rfl ?_
  refine x_iconst B dX2_init_10 ?_
  refine ob_put (ty := .int) E hO hS hAq rfl (fun z h => List.mem_cons_of_mem _ (List.mem_append_right _ h)) tyX2_ok nmX2 3 (by decide) (hts (.fieldLink RX2 15 "BinRounds$Cart" "gateHalves" "I") (by decide +kernel)) (fun x hx => hx) rfl rfl rfl rfl dX2_init_11 (fun H11 locs hO ok11 sz11 hS => ?_)
  refine x_aload_n B hl dX2_init_14 rfl ?_
  refine x_iconst B dX2_init_15 ?_
  refine ob_put (ty := .boolean) E hO hS hAq rfl (fun z h => List.mem_cons_of_mem _ (List.mem_append_right _ h)) tyX2_ok nmX2 4 (by decide) (hts (.fieldLink RX2 18 "BinRounds$Cart" "isCapped" "Z") (by decide +kernel)) (fun x hx => hx) rfl rfl rfl rfl dX2_init_16 (fun H16 locs hO ok16 sz16 hS => ?_)
  refine x_aload_n B hl dX2_init_19 rfl ?_
  refine x_iconst B dX2_init_20 ?_
  refine ob_put (ty := .int) E hO hS hAq rfl (fun z h => List.mem_cons_of_mem _ (List.mem_append_right _ h)) tyX2_ok nmX2 5 (by decide) (hts (.fieldLink RX2 22 "BinRounds$Cart" "left" "I") (by decide +kernel)) (fun x hx => hx) rfl rfl rfl rfl dX2_init_21 (fun H21 locs hO ok21 sz21 hS => ?_)
  refine x_aload_n B hl dX2_init_24 rfl ?_
  refine x_iload_n B hl dX2_init_25 rfl ?_
  refine ob_putF (ty := .int) E hO hS hAq rfl (fun z h => List.mem_cons_of_mem _ (List.mem_append_right _ h)) tyX2_ok nmX2 0 (by decide) (hts (.fieldLink RX2 25 "BinRounds$Cart" "number" "I") (by decide +kernel)) (fun x hx => hx) rfl hini rfl rfl rfl rfl dX2_init_26 (fun H26 locs hO ok26 sz26 hS => ?_)
  refine x_aload_n B hl dX2_init_29 rfl ?_
  refine x_iload_n B hl dX2_init_30 rfl ?_
  refine ob_putF (ty := .int) E hO hS hAq rfl (fun z h => List.mem_cons_of_mem _ (List.mem_append_right _ h)) tyX2_ok nmX2 1 (by decide) (hts (.fieldLink RX2 28 "BinRounds$Cart" "limit" "I") (by decide +kernel)) (fun x hx => hx) rfl hini rfl rfl rfl rfl dX2_init_31 (fun H31 locs hO ok31 sz31 hS => ?_)
  refine w_widen (k := 0) (n := 0) (Nat.le_of_ble_eq_true rfl) (Nat.le_of_ble_eq_true rfl) ?_
  refine cb_vret E hr hlk hS dX2_init_34 ⟨rfl, ?_⟩
  exact hO.to (fun k hk => by rcases (show k = 0 ∨ k = 1 ∨ k = 2 ∨ k = 3 ∨ k = 4 ∨ k = 5 by omega) with rfl | rfl | rfl | rfl | rfl | rfl <;> rfl)
set_option maxHeartbeats 4000000 in
set_option maxRecDepth 100000 in
theorem k_Tip (l : Launch) (D : va_G) (cy : Nat → ClassId) (d0 : Nat) (A : Nat → Prop) {q : Nat} {d mk : Int} {a : Nat} (hAq : A q) : CB l yX9_init wsX9_init ({ frames := 1, cells := 0, slots := 0, locals := 20 } : Room) D cy d0 A [.ref q, .int (iI d), .ref a, .int (iI mk)] (fun H => t_OB q (D.1 10) 13 (D.2 10) H (fun k => defaultValue (tyX9 k))) (fun v H0 H1 => v = none ∧ t_OB q (D.1 10) 13 (D.2 10) H1 (fun k => if k = 0 then .int (iI d) else if k = 1 then .ref a else if k = 2 then .int (iI mk) else if k = 3 then .int (iI 0) else if k = 4 then .null else if k = 5 then .int (iI 0) else if k = 6 then .int (iI 0) else if k = 7 then .int (iI 0) else if k = 8 then .int (iI (-1)) else if k = 9 then .int (iI 0) else if k = 10 then .int (iI 0) else if k = 11 then .int (iI 0) else .int (iI 0))) 0 0 := by
  refine cb_of (cc := cX9_init) (nL := 4) (ret := none) (by decide) rfl (Nat.le_of_ble_eq_true rfl) ?_
  intro p e s m args below meth c ls E hr hlk hini hK hPre hS hl
  have B := E.1
  have hml := E.2.1
  have hown := E.2.2.1
  have hts0 := E.2.2.2.1
  have hts := E.2.2.2.1
  have hA := hK.2.2.2.2.2.2.1
  have hO := hPre
  have hq0 := hO.lt
  refine x_aload_n B hl dX9_init_0 rfl ?_
  refine W.objInit B.1 B.2 hown (hts (.methodLink RX9 3 objectInit) (by decide +kernel)) (hts (.instanceMethod objectInit) (by decide +kernel)) (hts (.code objectInit ⟨#[0xb1]⟩ 1 none) (by decide +kernel)) rfl (hl.1.trans hml.symm) rfl dX9_init_1 (Nat.le_of_ble_eq_true rfl) (Nat.le_of_ble_eq_true rfl) ?_
  refine W.eq (g2 := F0 m 4 ls []) rfl ?_
  refine x_aload_n B hl dX9_init_4 rfl ?_
  refine x_iconst B dX9_init_5 ?_
  refine ob_put (ty := .int) E hO hS hAq rfl (fun z h => List.mem_cons_of_mem _ (List.mem_append_right _ h)) tyX9_ok nmX9 3 (by decide) (hts (.fieldLink RX9 9 "BinRounds$Tip" "halves" "I") (by decide +kernel)) (fun x hx => hx) rfl rfl rfl rfl dX9_init_6 (fun H6 locs hO ok6 sz6 hS => ?_)
  refine x_aload_n B hl dX9_init_9 rfl ?_
  refine lv_null B.1 B.2 dX9_init_10 ?_
  refine ob_put (ty := .object "BinRounds$Bin") E hO hS hAq rfl (fun z h => List.mem_cons_of_mem _ (List.mem_append_right _ h)) tyX9_ok nmX9 4 (by decide) (hts (.fieldLink RX9 15 "BinRounds$Tip" "bin" "LBinRounds$Bin;") (by decide +kernel)) (fun x hx => hx) rfl rfl rfl rfl dX9_init_11 (fun H11 locs hO ok11 sz11 hS => ?_)
  refine x_aload_n B hl dX9_init_14 rfl ?_
  refine x_iconst B dX9_init_15 ?_
  refine ob_put (ty := .int) E hO hS hAq rfl (fun z h => List.mem_cons_of_mem _ (List.mem_append_right _ h)) tyX9_ok nmX9 5 (by decide) (hts (.fieldLink RX9 19 "BinRounds$Tip" "origin" "I") (by decide +kernel)) (fun x hx => hx) rfl rfl rfl rfl dX9_init_16 (fun H16 locs hO ok16 sz16 hS => ?_)
  refine x_aload_n B hl dX9_init_19 rfl ?_
  refine x_iconst B dX9_init_20 ?_
  refine ob_put (ty := .int) E hO hS hAq rfl (fun z h => List.mem_cons_of_mem _ (List.mem_append_right _ h)) tyX9_ok nmX9 6 (by decide) (hts (.fieldLink RX9 22 "BinRounds$Tip" "weighing" "I") (by decide +kernel)) (fun x hx => hx) rfl rfl rfl rfl dX9_init_21 (fun H21 locs hO ok21 sz21 hS => ?_)
  refine x_aload_n B hl dX9_init_24 rfl ?_
  refine x_iconst B dX9_init_25 ?_
  refine ob_put (ty := .int) E hO hS hAq rfl (fun z h => List.mem_cons_of_mem _ (List.mem_append_right _ h)) tyX9_ok nmX9 7 (by decide) (hts (.fieldLink RX9 25 "BinRounds$Tip" "paid" "I") (by decide +kernel)) (fun x hx => hx) rfl rfl rfl rfl dX9_init_26 (fun H26 locs hO ok26 sz26 hS => ?_)
  refine x_aload_n B hl dX9_init_29 rfl ?_
  refine x_iconst B dX9_init_30 ?_
  refine ob_put (ty := .int) E hO hS hAq rfl (fun z h => List.mem_cons_of_mem _ (List.mem_append_right _ h)) tyX9_ok nmX9 8 (by decide) (hts (.fieldLink RX9 28 "BinRounds$Tip" "cap" "I") (by decide +kernel)) (fun x hx => hx) rfl rfl rfl rfl dX9_init_31 (fun H31 locs hO ok31 sz31 hS => ?_)
  refine x_aload_n B hl dX9_init_34 rfl ?_
  refine x_iconst B dX9_init_35 ?_
  refine ob_put (ty := .boolean) E hO hS hAq rfl (fun z h => List.mem_cons_of_mem _ (List.mem_append_right _ h)) tyX9_ok nmX9 9 (by decide) (hts (.fieldLink RX9 31 "BinRounds$Tip" "isCharged" "Z") (by decide +kernel)) (fun x hx => hx) rfl rfl rfl rfl dX9_init_36 (fun H36 locs hO ok36 sz36 hS => ?_)
  refine x_aload_n B hl dX9_init_39 rfl ?_
  refine x_iconst B dX9_init_40 ?_
  refine ob_put (ty := .boolean) E hO hS hAq rfl (fun z h => List.mem_cons_of_mem _ (List.mem_append_right _ h)) tyX9_ok nmX9 10 (by decide) (hts (.fieldLink RX9 35 "BinRounds$Tip" "isWrong" "Z") (by decide +kernel)) (fun x hx => hx) rfl rfl rfl rfl dX9_init_41 (fun H41 locs hO ok41 sz41 hS => ?_)
  refine x_aload_n B hl dX9_init_44 rfl ?_
  refine x_iconst B dX9_init_45 ?_
  refine ob_put (ty := .int) E hO hS hAq rfl (fun z h => List.mem_cons_of_mem _ (List.mem_append_right _ h)) tyX9_ok nmX9 11 (by decide) (hts (.fieldLink RX9 38 "BinRounds$Tip" "lift" "I") (by decide +kernel)) (fun x hx => hx) rfl rfl rfl rfl dX9_init_46 (fun H46 locs hO ok46 sz46 hS => ?_)
  refine x_aload_n B hl dX9_init_49 rfl ?_
  refine x_iconst B dX9_init_50 ?_
  refine ob_put (ty := .int) E hO hS hAq rfl (fun z h => List.mem_cons_of_mem _ (List.mem_append_right _ h)) tyX9_ok nmX9 12 (by decide) (hts (.fieldLink RX9 41 "BinRounds$Tip" "rate" "I") (by decide +kernel)) (fun x hx => hx) rfl rfl rfl rfl dX9_init_51 (fun H51 locs hO ok51 sz51 hS => ?_)
  refine x_aload_n B hl dX9_init_54 rfl ?_
  refine x_iload_n B hl dX9_init_55 rfl ?_
  refine ob_putF (ty := .int) E hO hS hAq rfl (fun z h => List.mem_cons_of_mem _ (List.mem_append_right _ h)) tyX9_ok nmX9 0 (by decide) (hts (.fieldLink RX9 44 "BinRounds$Tip" "day" "I") (by decide +kernel)) (fun x hx => hx) rfl hini rfl rfl rfl rfl dX9_init_56 (fun H56 locs hO ok56 sz56 hS => ?_)
  refine x_aload_n B hl dX9_init_59 rfl ?_
  refine x_aload_n B hl dX9_init_60 rfl ?_
  refine ob_putF (ty := .object "BinRounds$Cart") E hO hS hAq rfl (fun z h => List.mem_cons_of_mem _ (List.mem_append_right _ h)) tyX9_ok nmX9 1 (by decide) (hts (.fieldLink RX9 47 "BinRounds$Tip" "carrier" "LBinRounds$Cart;") (by decide +kernel)) (fun x hx => hx) rfl hini rfl rfl rfl rfl dX9_init_61 (fun H61 locs hO ok61 sz61 hS => ?_)
  refine x_aload_n B hl dX9_init_64 rfl ?_
  refine x_iload_n B hl dX9_init_65 rfl ?_
  refine ob_putF (ty := .int) E hO hS hAq rfl (fun z h => List.mem_cons_of_mem _ (List.mem_append_right _ h)) tyX9_ok nmX9 2 (by decide) (hts (.fieldLink RX9 51 "BinRounds$Tip" "markNumber" "I") (by decide +kernel)) (fun x hx => hx) rfl hini rfl rfl rfl rfl dX9_init_66 (fun H66 locs hO ok66 sz66 hS => ?_)
  refine w_widen (k := 0) (n := 0) (Nat.le_of_ble_eq_true rfl) (Nat.le_of_ble_eq_true rfl) ?_
  refine cb_vret E hr hlk hS dX9_init_69 ⟨rfl, ?_⟩
  exact hO.to (fun k hk => by rcases (show k = 0 ∨ k = 1 ∨ k = 2 ∨ k = 3 ∨ k = 4 ∨ k = 5 ∨ k = 6 ∨ k = 7 ∨ k = 8 ∨ k = 9 ∨ k = 10 ∨ k = 11 ∨ k = 12 by omega) with rfl | rfl | rfl | rfl | rfl | rfl | rfl | rfl | rfl | rfl | rfl | rfl | rfl <;> rfl)
set_option maxHeartbeats 4000000 in
set_option maxRecDepth 100000 in
theorem k_Street (l : Launch) (D : va_G) (cy : Nat → ClassId) (d0 : Nat) (A : Nat → Prop) {q : Nat}  (hAq : A q) : CB l yX7_init wsX7_init ({ frames := 1, cells := 2, slots := 6, locals := 20 } : Room) D cy d0 A [.ref q] (fun H => t_OB q (D.1 8) 2 (D.2 8) H (fun k => defaultValue (tyX7 k))) (fun v H0 H1 => v = none ∧ ∃ r1 r2, (H0.size ≤ r1 ∧ r1 < r2 ∧ r2 < H1.size) ∧ (H1[r1]? = some (arrV (cy 1) 3 (fun _ => defaultValue .int)) ∧ H1[r2]? = some (arrV (cy 1) 3 (fun _ => defaultValue .int))) ∧ t_OB q (D.1 8) 2 (D.2 8) H1 (fun k => if k = 0 then .ref r1 else .ref r2)) 2 6 := by
  refine cb_of (cc := cX7_init) (nL := 1) (ret := none) (by decide) rfl (Nat.le_of_ble_eq_true rfl) ?_
  intro p e s m args below meth c ls E hr hlk hini hK hPre hS hl
  have B := E.1
  have hml := E.2.1
  have hown := E.2.2.1
  have hts0 := E.2.2.2.1
  have hts := E.2.2.2.1
  have hA := hK.2.2.2.2.2.2.1
  have hO := hPre
  have hq0 := hO.lt
  refine x_aload_n B hl dX7_init_0 rfl ?_
  refine W.objInit B.1 B.2 hown (hts (.methodLink RX7 3 objectInit) (by decide +kernel)) (hts (.instanceMethod objectInit) (by decide +kernel)) (hts (.code objectInit ⟨#[0xb1]⟩ 1 none) (by decide +kernel)) rfl (hl.1.trans hml.symm) rfl dX7_init_1 (Nat.le_of_ble_eq_true rfl) (Nat.le_of_ble_eq_true rfl) ?_
  refine W.eq (g2 := F0 m 4 ls []) rfl ?_
  refine x_aload_n B hl dX7_init_4 rfl ?_
  refine x_iconst B dX7_init_5 ?_
  have lt_q := hO.lt
  refine ob_newa (atype := .int) (n := 3) (t0 := 0) (ty := .int) (cA0 := (cy 1)) E hS (hts (.arrayClass .int) (by decide +kernel)) rfl rfl (by simp) (by decide) (Nat.le_of_ble_eq_true rfl) (Nat.le_of_ble_eq_true rfl) dX7_init_6 (fun H6 n6 o6 z6 hS => ?_)
  obtain ⟨r6, hr6⟩ : ∃ z, z = s.heap.size := ⟨_, rfl⟩
  rw [← hr6] at n6 z6 ⊢
  have hO := hO.kept (o6 q (by omega))
  have l_q_r6 : q < r6 := by omega
  refine ob_putF (ty := .array .int) E hO hS hAq rfl (fun z h => List.mem_cons_of_mem _ (List.mem_append_right _ h)) tyX7_ok nmX7 0 (by decide) (hts (.fieldLink RX7 9 "BinRounds$Street" "weekdays" "[I") (by decide +kernel)) (fun x hx => hx) rfl hini rfl rfl rfl rfl dX7_init_8 (fun H8 locs hO ok8 sz8 hS => ?_)
  have n6 := (ok8 r6 (by omega)).trans n6
  refine x_aload_n B hl dX7_init_11 rfl ?_
  refine x_iconst B dX7_init_12 ?_
  have lt_q := hO.lt
  have lt_r6 := (Array.getElem?_eq_some_iff.mp n6).1
  refine ob_newa (atype := .int) (n := 3) (t0 := 0) (ty := .int) (cA0 := (cy 1)) E hS (hts (.arrayClass .int) (by decide +kernel)) rfl rfl (by simp) (by decide) (Nat.le_of_ble_eq_true rfl) (Nat.le_of_ble_eq_true rfl) dX7_init_13 (fun H13 n13 o13 z13 hS => ?_)
  obtain ⟨r13, hr13⟩ : ∃ z, z = H8.size := ⟨_, rfl⟩
  rw [← hr13] at n13 z13 ⊢
  have hO := hO.kept (o13 q (by omega))
  have n6 := (o13 r6 (by omega)).trans n6
  have l_q_r13 : q < r13 := by omega
  have l_r6_r13 : r6 < r13 := by omega
  refine ob_putF (ty := .array .int) E hO hS hAq rfl (fun z h => List.mem_cons_of_mem _ (List.mem_append_right _ h)) tyX7_ok nmX7 1 (by decide) (hts (.fieldLink RX7 15 "BinRounds$Street" "weeks" "[I") (by decide +kernel)) (fun x hx => hx) rfl hini rfl rfl rfl rfl dX7_init_15 (fun H15 locs hO ok15 sz15 hS => ?_)
  have n6 := (ok15 r6 (by omega)).trans n6
  have n13 := (ok15 r13 (by omega)).trans n13
  refine w_widen (k := 2) (n := 6) (Nat.le_of_ble_eq_true rfl) (Nat.le_of_ble_eq_true rfl) ?_
  refine cb_vret E hr hlk hS dX7_init_18 ⟨rfl, r6, r13, ⟨by omega, l_r6_r13, (Array.getElem?_eq_some_iff.mp n13).1⟩, ⟨n6, n13⟩, ?_⟩
  exact hO.to (fun k hk => by rcases (show k = 0 ∨ k = 1 by omega) with rfl | rfl <;> rfl)
set_option maxHeartbeats 4000000 in
set_option maxRecDepth 100000 in
theorem k_Tables (l : Launch) (D : va_G) (cy : Nat → ClassId) (d0 : Nat) (A : Nat → Prop) {q : Nat}  (hAq : A q) : CB l yX8_init wsX8_init ({ frames := 1, cells := 2, slots := 10, locals := 20 } : Room) D cy d0 A [.ref q] (fun H => t_OB q (D.1 9) 2 (D.2 9) H (fun k => defaultValue (tyX8 k))) (fun v H0 H1 => v = none ∧ ∃ r1 r2, (H0.size ≤ r1 ∧ r1 < r2 ∧ r2 < H1.size) ∧ (H1[r1]? = some (arrV (cy 1) 5 (fun _ => defaultValue .int)) ∧ H1[r2]? = some (arrV (cy 1) 5 (fun _ => defaultValue .int))) ∧ t_OB q (D.1 9) 2 (D.2 9) H1 (fun k => if k = 0 then .ref r1 else .ref r2)) 2 10 := by
  refine cb_of (cc := cX8_init) (nL := 1) (ret := none) (by decide) rfl (Nat.le_of_ble_eq_true rfl) ?_
  intro p e s m args below meth c ls E hr hlk hini hK hPre hS hl
  have B := E.1
  have hml := E.2.1
  have hown := E.2.2.1
  have hts0 := E.2.2.2.1
  have hts := E.2.2.2.1
  have hA := hK.2.2.2.2.2.2.1
  have hO := hPre
  have hq0 := hO.lt
  refine x_aload_n B hl dX8_init_0 rfl ?_
  refine W.objInit B.1 B.2 hown (hts (.methodLink RX8 3 objectInit) (by decide +kernel)) (hts (.instanceMethod objectInit) (by decide +kernel)) (hts (.code objectInit ⟨#[0xb1]⟩ 1 none) (by decide +kernel)) rfl (hl.1.trans hml.symm) rfl dX8_init_1 (Nat.le_of_ble_eq_true rfl) (Nat.le_of_ble_eq_true rfl) ?_
  refine W.eq (g2 := F0 m 4 ls []) rfl ?_
  refine x_aload_n B hl dX8_init_4 rfl ?_
  refine x_iconst B dX8_init_5 ?_
  have lt_q := hO.lt
  refine ob_newa (atype := .int) (n := 5) (t0 := 0) (ty := .int) (cA0 := (cy 1)) E hS (hts (.arrayClass .int) (by decide +kernel)) rfl rfl (by simp) (by decide) (Nat.le_of_ble_eq_true rfl) (Nat.le_of_ble_eq_true rfl) dX8_init_6 (fun H6 n6 o6 z6 hS => ?_)
  obtain ⟨r6, hr6⟩ : ∃ z, z = s.heap.size := ⟨_, rfl⟩
  rw [← hr6] at n6 z6 ⊢
  have hO := hO.kept (o6 q (by omega))
  have l_q_r6 : q < r6 := by omega
  refine ob_putF (ty := .array .int) E hO hS hAq rfl (fun z h => List.mem_cons_of_mem _ (List.mem_append_right _ h)) tyX8_ok nmX8 0 (by decide) (hts (.fieldLink RX8 9 "BinRounds$Tables" "lifts" "[I") (by decide +kernel)) (fun x hx => hx) rfl hini rfl rfl rfl rfl dX8_init_8 (fun H8 locs hO ok8 sz8 hS => ?_)
  have n6 := (ok8 r6 (by omega)).trans n6
  refine x_aload_n B hl dX8_init_11 rfl ?_
  refine x_iconst B dX8_init_12 ?_
  have lt_q := hO.lt
  have lt_r6 := (Array.getElem?_eq_some_iff.mp n6).1
  refine ob_newa (atype := .int) (n := 5) (t0 := 0) (ty := .int) (cA0 := (cy 1)) E hS (hts (.arrayClass .int) (by decide +kernel)) rfl rfl (by simp) (by decide) (Nat.le_of_ble_eq_true rfl) (Nat.le_of_ble_eq_true rfl) dX8_init_13 (fun H13 n13 o13 z13 hS => ?_)
  obtain ⟨r13, hr13⟩ : ∃ z, z = H8.size := ⟨_, rfl⟩
  rw [← hr13] at n13 z13 ⊢
  have hO := hO.kept (o13 q (by omega))
  have n6 := (o13 r6 (by omega)).trans n6
  have l_q_r13 : q < r13 := by omega
  have l_r6_r13 : r6 < r13 := by omega
  refine ob_putF (ty := .array .int) E hO hS hAq rfl (fun z h => List.mem_cons_of_mem _ (List.mem_append_right _ h)) tyX8_ok nmX8 1 (by decide) (hts (.fieldLink RX8 15 "BinRounds$Tables" "rates" "[I") (by decide +kernel)) (fun x hx => hx) rfl hini rfl rfl rfl rfl dX8_init_15 (fun H15 locs hO ok15 sz15 hS => ?_)
  have n6 := (ok15 r6 (by omega)).trans n6
  have n13 := (ok15 r13 (by omega)).trans n13
  refine w_widen (k := 2) (n := 10) (Nat.le_of_ble_eq_true rfl) (Nat.le_of_ble_eq_true rfl) ?_
  refine cb_vret E hr hlk hS dX8_init_18 ⟨rfl, r6, r13, ⟨by omega, l_r6_r13, (Array.getElem?_eq_some_iff.mp n13).1⟩, ⟨n6, n13⟩, ?_⟩
  exact hO.to (fun k hk => by rcases (show k = 0 ∨ k = 1 by omega) with rfl | rfl <;> rfl)
set_option maxHeartbeats 4000000 in
set_option maxRecDepth 100000 in
theorem k_Calendar (l : Launch) (D : va_G) (cy : Nat → ClassId) (d0 : Nat) (A : Nat → Prop) {q : Nat}  (hAq : A q) : CB l yX1_init wsX1_init ({ frames := 1, cells := 1, slots := 700, locals := 20 } : Room) D cy d0 A [.ref q] (fun H => t_OB q (D.1 2) 1 (D.2 2) H (fun k => defaultValue (tyX1 k))) (fun v H0 H1 => v = none ∧ ∃ r1, (H0.size ≤ r1 ∧ r1 < H1.size) ∧ H1[r1]? = some (arrV (cy 2) 700 (fun _ => defaultValue .boolean)) ∧ t_OB q (D.1 2) 1 (D.2 2) H1 (fun _ => .ref r1)) 1 700 := by
  refine cb_of (cc := cX1_init) (nL := 1) (ret := none) (by decide) rfl (Nat.le_of_ble_eq_true rfl) ?_
  intro p e s m args below meth c ls E hr hlk hini hK hPre hS hl
  have B := E.1
  have hml := E.2.1
  have hown := E.2.2.1
  have hts0 := E.2.2.2.1
  have hts := E.2.2.2.1
  have hA := hK.2.2.2.2.2.2.1
  have hO := hPre
  have hq0 := hO.lt
  refine x_aload_n B hl dX1_init_0 rfl ?_
  refine W.objInit B.1 B.2 hown (hts (.methodLink RX1 3 objectInit) (by decide +kernel)) (hts (.instanceMethod objectInit) (by decide +kernel)) (hts (.code objectInit ⟨#[0xb1]⟩ 1 none) (by decide +kernel)) rfl (hl.1.trans hml.symm) rfl dX1_init_1 (Nat.le_of_ble_eq_true rfl) (Nat.le_of_ble_eq_true rfl) ?_
  refine W.eq (g2 := F0 m 4 ls []) rfl ?_
  refine x_aload_n B hl dX1_init_4 rfl ?_
  refine x_sipush B dX1_init_5 (by decide) ?_
  have lt_q := hO.lt
  refine ob_newa (atype := .boolean) (n := 700) (t0 := 1) (ty := .boolean) (cA0 := (cy 2)) E hS (hts (.arrayClass .boolean) (by decide +kernel)) rfl rfl (by simp) (by decide) (Nat.le_of_ble_eq_true rfl) (Nat.le_of_ble_eq_true rfl) dX1_init_8 (fun H8 n8 o8 z8 hS => ?_)
  obtain ⟨r8, hr8⟩ : ∃ z, z = s.heap.size := ⟨_, rfl⟩
  rw [← hr8] at n8 z8 ⊢
  have hO := hO.kept (o8 q (by omega))
  have l_q_r8 : q < r8 := by omega
  refine ob_putF (ty := .array .boolean) E hO hS hAq rfl (fun z h => List.mem_cons_of_mem _ (List.mem_append_right _ h)) tyX1_ok nmX1 0 (by decide) (hts (.fieldLink RX1 9 "BinRounds$Calendar" "holidays" "[Z") (by decide +kernel)) (fun x hx => hx) rfl hini rfl rfl rfl rfl dX1_init_10 (fun H10 locs hO ok10 sz10 hS => ?_)
  have n8 := (ok10 r8 (by omega)).trans n8
  refine w_widen (k := 1) (n := 700) (Nat.le_of_ble_eq_true rfl) (Nat.le_of_ble_eq_true rfl) ?_
  refine cb_vret E hr hlk hS dX1_init_13 ⟨rfl, r8, ⟨by omega, (Array.getElem?_eq_some_iff.mp n8).1⟩, n8, ?_⟩
  exact hO.to (fun k hk => by rcases (show k = 0 by omega) with rfl <;> rfl)
set_option maxHeartbeats 4000000 in
set_option maxRecDepth 100000 in
theorem k_Latest (l : Launch) (D : va_G) (cy : Nat → ClassId) (d0 : Nat) (A : Nat → Prop) {q : Nat}  (hAq : A q) : CB l yX4_init wsX4_init ({ frames := 1, cells := 1, slots := 5, locals := 20 } : Room) D cy d0 A [.ref q] (fun H => t_OB q (D.1 5) 2 (D.2 5) H (fun k => defaultValue (tyX4 k))) (fun v H0 H1 => v = none ∧ ∃ r1, (H0.size ≤ r1 ∧ r1 < H1.size) ∧ H1[r1]? = some (arrV (cy 1) 5 (fun _ => defaultValue .int)) ∧ t_OB q (D.1 5) 2 (D.2 5) H1 (fun k => if k = 0 then .ref r1 else .int (iI 0))) 1 5 := by
  refine cb_of (cc := cX4_init) (nL := 1) (ret := none) (by decide) rfl (Nat.le_of_ble_eq_true rfl) ?_
  intro p e s m args below meth c ls E hr hlk hini hK hPre hS hl
  have B := E.1
  have hml := E.2.1
  have hown := E.2.2.1
  have hts0 := E.2.2.2.1
  have hts := E.2.2.2.1
  have hA := hK.2.2.2.2.2.2.1
  have hO := hPre
  have hq0 := hO.lt
  refine x_aload_n B hl dX4_init_0 rfl ?_
  refine W.objInit B.1 B.2 hown (hts (.methodLink RX4 1 objectInit) (by decide +kernel)) (hts (.instanceMethod objectInit) (by decide +kernel)) (hts (.code objectInit ⟨#[0xb1]⟩ 1 none) (by decide +kernel)) rfl (hl.1.trans hml.symm) rfl dX4_init_1 (Nat.le_of_ble_eq_true rfl) (Nat.le_of_ble_eq_true rfl) ?_
  refine W.eq (g2 := F0 m 4 ls []) rfl ?_
  refine x_aload_n B hl dX4_init_4 rfl ?_
  refine x_iconst B dX4_init_5 ?_
  have lt_q := hO.lt
  refine ob_newa (atype := .int) (n := 5) (t0 := 0) (ty := .int) (cA0 := (cy 1)) E hS (hts (.arrayClass .int) (by decide +kernel)) rfl rfl (by simp) (by decide) (Nat.le_of_ble_eq_true rfl) (Nat.le_of_ble_eq_true rfl) dX4_init_6 (fun H6 n6 o6 z6 hS => ?_)
  obtain ⟨r6, hr6⟩ : ∃ z, z = s.heap.size := ⟨_, rfl⟩
  rw [← hr6] at n6 z6 ⊢
  have hO := hO.kept (o6 q (by omega))
  have l_q_r6 : q < r6 := by omega
  refine ob_putF (ty := .array .int) E hO hS hAq rfl (fun z h => List.mem_cons_of_mem _ (List.mem_append_right _ h)) tyX4_ok nmX4 0 (by decide) (hts (.fieldLink RX4 7 "BinRounds$Latest" "row" "[I") (by decide +kernel)) (fun x hx => hx) rfl hini rfl rfl rfl rfl dX4_init_8 (fun H8 locs hO ok8 sz8 hS => ?_)
  have n6 := (ok8 r6 (by omega)).trans n6
  refine x_aload_n B hl dX4_init_11 rfl ?_
  refine x_iconst B dX4_init_12 ?_
  refine ob_put (ty := .int) E hO hS hAq rfl (fun z h => List.mem_cons_of_mem _ (List.mem_append_right _ h)) tyX4_ok nmX4 1 (by decide) (hts (.fieldLink RX4 13 "BinRounds$Latest" "size" "I") (by decide +kernel)) (fun x hx => hx) rfl rfl rfl rfl dX4_init_13 (fun H13 locs hO ok13 sz13 hS => ?_)
  have n6 := (ok13 r6 (by omega)).trans n6
  refine w_widen (k := 1) (n := 5) (Nat.le_of_ble_eq_true rfl) (Nat.le_of_ble_eq_true rfl) ?_
  refine cb_vret E hr hlk hS dX4_init_16 ⟨rfl, r6, ⟨by omega, (Array.getElem?_eq_some_iff.mp n6).1⟩, n6, ?_⟩
  exact hO.to (fun k hk => by rcases (show k = 0 ∨ k = 1 by omega) with rfl | rfl <;> rfl)
set_option maxHeartbeats 4000000 in
set_option maxRecDepth 100000 in
theorem k_Bin (l : Launch) (D : va_G) (cy : Nat → ClassId) (d0 : Nat) (A : Nat → Prop) {q : Nat} {n kd mk : Int} (hAq : A q) : CB l yX0_init wsX0_init ({ frames := 4, cells := 2, slots := 6, locals := 95 } : Room) D cy d0 A [.ref q, .int (iI n), .int (iI kd), .int (iI mk)] (fun H => t_OB q (D.1 1) 7 (D.2 1) H (fun k => defaultValue (tyX0 k))) (fun v H0 H1 => v = none ∧ ∃ r1 r2, (H0.size ≤ r1 ∧ r1 < r2 ∧ r2 < H1.size) ∧ (t_OB r1 (D.1 0) 3 (D.2 0) H1 (lV 0 d0 0) ∧ t_OB r2 (D.1 0) 3 (D.2 0) H1 (lV 0 d0 0)) ∧ t_OB q (D.1 1) 7 (D.2 1) H1 (fun k => if k = 0 then .int (iI n) else if k = 1 then .int (iI kd) else if k = 2 then .ref r1 else if k = 3 then .ref r2 else if k = 4 then .int (iI 1) else if k = 5 then .int (iI mk) else .int (iI 0))) 2 6 := by
  refine cb_of (cc := cX0_init) (nL := 4) (ret := none) (by decide) rfl (Nat.le_of_ble_eq_true rfl) ?_
  intro p e s m args below meth c ls E hr hlk hini hK hPre hS hl
  have B := E.1
  have hml := E.2.1
  have hown := E.2.2.1
  have hts0 := E.2.2.2.1
  have hts := E.2.2.2.1
  have hA := hK.2.2.2.2.2.2.1
  have hO := hPre
  have hq0 := hO.lt
  refine x_aload_n B hl dX0_init_0 rfl ?_
  refine W.objInit B.1 B.2 hown (hts (.methodLink RX0 3 objectInit) (by decide +kernel)) (hts (.instanceMethod objectInit) (by decide +kernel)) (hts (.code objectInit ⟨#[0xb1]⟩ 1 none) (by decide +kernel)) rfl (hl.1.trans hml.symm) rfl dX0_init_1 (Nat.le_of_ble_eq_true rfl) (Nat.le_of_ble_eq_true rfl) ?_
  refine W.eq (g2 := F0 m 4 ls []) rfl ?_
  refine x_aload_n B hl dX0_init_4 rfl ?_
  have lt_q := hO.lt
  refine ob_new (ci := 0) (C := RJx4a65c) (T := TJx4a65c) E hS rfl (fun z h => List.mem_cons_of_mem _ (List.mem_append_left _ (List.mem_append_right _ h))) tyJx4a65c_ok (hts (.classLink RX0 9 RJx4a65c) (by decide +kernel)) (hts (.instantiable RJx4a65c 3) (by decide +kernel)) (hts (.initialized RJx4a65c) (by decide +kernel)) (Nat.le_of_ble_eq_true rfl) (Nat.le_of_ble_eq_true rfl) dX0_init_5 (fun H5 n5 o5 z5 hS => ?_)
  obtain ⟨r5, hr5⟩ : ∃ z, z = s.heap.size := ⟨_, rfl⟩
  rw [← hr5] at n5 z5 ⊢
  have hO := hO.kept (o5 q (by omega))
  have l_q_r5 : q < r5 := by omega
  refine x_dup B dX0_init_8 rfl ?_
  have lt_q := hO.lt
  have lt_r5 := n5.lt
  refine cb_callI (A' := fun z => z = r5 ∨ H5.size ≤ z) (av := []) E hK hS hl (fun z h => h.elim (fun h => by rw [h]; exact hA _ (by omega)) (fun h => hA z (by have := hS.1; omega))) (fun z h => Or.inr h) (k_AL l D cy d0 _ (q := r5) (Or.inl rfl)) n5 (cwI 0 hts0 gX0_init_Jx4a65c_init_da8c8 rfl rfl rfl (hts (.initialized RJx4a65c) (by decide +kernel)) (hts (.methodLink RX0 11 yJx4a65c_init_da8c8) (by decide +kernel)) (hts (.instanceMethod yJx4a65c_init_da8c8) (by decide +kernel)) rfl (by decide +kernel) ⟨Nat.le_of_ble_eq_true rfl, Nat.le_of_ble_eq_true rfl⟩) rfl rfl (Nat.le_of_ble_eq_true rfl) dX0_init_9 ⟨Nat.le_of_ble_eq_true rfl, Nat.le_of_ble_eq_true rfl⟩ (fun H9 locs v hv z9 o9 hS => ?_)
  obtain ⟨rfl, n5⟩ := hv
  have hO := hO.kept (o9 q lt_q (fun z => z.elim (fun e => by omega) (fun e => by omega)))
  refine ob_putF (ty := .object "java/util/ArrayList") E hO hS hAq rfl (fun z h => List.mem_cons_of_mem _ (List.mem_append_right _ h)) tyX0_ok nmX0 2 (by decide) (hts (.fieldLink RX0 12 "BinRounds$Bin" "moves" "Ljava/util/ArrayList;") (by decide +kernel)) (fun x hx => hx) rfl hini rfl rfl rfl rfl dX0_init_12 (fun H12 locs hO ok12 sz12 hS => ?_)
  have n5 := n5.kept (ok12 r5 (by omega))
  refine x_aload_n B hl dX0_init_15 rfl ?_
  have lt_q := hO.lt
  have lt_r5 := n5.lt
  refine ob_new (ci := 0) (C := RJx4a65c) (T := TJx4a65c) E hS rfl (fun z h => List.mem_cons_of_mem _ (List.mem_append_left _ (List.mem_append_right _ h))) tyJx4a65c_ok (hts (.classLink RX0 9 RJx4a65c) (by decide +kernel)) (hts (.instantiable RJx4a65c 3) (by decide +kernel)) (hts (.initialized RJx4a65c) (by decide +kernel)) (Nat.le_of_ble_eq_true rfl) (Nat.le_of_ble_eq_true rfl) dX0_init_16 (fun H16 n16 o16 z16 hS => ?_)
  obtain ⟨r16, hr16⟩ : ∃ z, z = H12.size := ⟨_, rfl⟩
  rw [← hr16] at n16 z16 ⊢
  have hO := hO.kept (o16 q (by omega))
  have n5 := n5.kept (o16 r5 (by omega))
  have l_q_r16 : q < r16 := by omega
  have l_r5_r16 : r5 < r16 := by omega
  refine x_dup B dX0_init_19 rfl ?_
  have lt_q := hO.lt
  have lt_r5 := n5.lt
  have lt_r16 := n16.lt
  refine cb_callI (A' := fun z => z = r16 ∨ H16.size ≤ z) (av := []) E hK hS hl (fun z h => h.elim (fun h => by rw [h]; exact hA _ (by omega)) (fun h => hA z (by have := hS.1; omega))) (fun z h => Or.inr h) (k_AL l D cy d0 _ (q := r16) (Or.inl rfl)) n16 (cwI 0 hts0 gX0_init_Jx4a65c_init_da8c8 rfl rfl rfl (hts (.initialized RJx4a65c) (by decide +kernel)) (hts (.methodLink RX0 11 yJx4a65c_init_da8c8) (by decide +kernel)) (hts (.instanceMethod yJx4a65c_init_da8c8) (by decide +kernel)) rfl (by decide +kernel) ⟨Nat.le_of_ble_eq_true rfl, Nat.le_of_ble_eq_true rfl⟩) rfl rfl (Nat.le_of_ble_eq_true rfl) dX0_init_20 ⟨Nat.le_of_ble_eq_true rfl, Nat.le_of_ble_eq_true rfl⟩ (fun H20 locs v hv z20 o20 hS => ?_)
  obtain ⟨rfl, n16⟩ := hv
  have hO := hO.kept (o20 q lt_q (fun z => z.elim (fun e => by omega) (fun e => by omega)))
  have n5 := n5.kept (o20 r5 lt_r5 (fun z => z.elim (fun e => by omega) (fun e => by omega)))
  refine ob_putF (ty := .object "java/util/ArrayList") E hO hS hAq rfl (fun z h => List.mem_cons_of_mem _ (List.mem_append_right _ h)) tyX0_ok nmX0 3 (by decide) (hts (.fieldLink RX0 18 "BinRounds$Bin" "parts" "Ljava/util/ArrayList;") (by decide +kernel)) (fun x hx => hx) rfl hini rfl rfl rfl rfl dX0_init_23 (fun H23 locs hO ok23 sz23 hS => ?_)
  have n5 := n5.kept (ok23 r5 (by omega))
  have n16 := n16.kept (ok23 r16 (by omega))
  refine x_aload_n B hl dX0_init_26 rfl ?_
  refine x_iconst B dX0_init_27 ?_
  refine ob_put (ty := .boolean) E hO hS hAq rfl (fun z h => List.mem_cons_of_mem _ (List.mem_append_right _ h)) tyX0_ok nmX0 4 (by decide) (hts (.fieldLink RX0 21 "BinRounds$Bin" "hasMark" "Z") (by decide +kernel)) (fun x hx => hx) rfl rfl rfl rfl dX0_init_28 (fun H28 locs hO ok28 sz28 hS => ?_)
  have n5 := n5.kept (ok28 r5 (by omega))
  have n16 := n16.kept (ok28 r16 (by omega))
  refine x_aload_n B hl dX0_init_31 rfl ?_
  refine x_iconst B dX0_init_32 ?_
  refine ob_put (ty := .int) E hO hS hAq rfl (fun z h => List.mem_cons_of_mem _ (List.mem_append_right _ h)) tyX0_ok nmX0 6 (by decide) (hts (.fieldLink RX0 25 "BinRounds$Bin" "wrongs" "I") (by decide +kernel)) (fun x hx => hx) rfl rfl rfl rfl dX0_init_33 (fun H33 locs hO ok33 sz33 hS => ?_)
  have n5 := n5.kept (ok33 r5 (by omega))
  have n16 := n16.kept (ok33 r16 (by omega))
  refine x_aload_n B hl dX0_init_36 rfl ?_
  refine x_iload_n B hl dX0_init_37 rfl ?_
  refine ob_putF (ty := .int) E hO hS hAq rfl (fun z h => List.mem_cons_of_mem _ (List.mem_append_right _ h)) tyX0_ok nmX0 0 (by decide) (hts (.fieldLink RX0 29 "BinRounds$Bin" "number" "I") (by decide +kernel)) (fun x hx => hx) rfl hini rfl rfl rfl rfl dX0_init_38 (fun H38 locs hO ok38 sz38 hS => ?_)
  have n5 := n5.kept (ok38 r5 (by omega))
  have n16 := n16.kept (ok38 r16 (by omega))
  refine x_aload_n B hl dX0_init_41 rfl ?_
  refine x_iload_n B hl dX0_init_42 rfl ?_
  refine ob_putF (ty := .int) E hO hS hAq rfl (fun z h => List.mem_cons_of_mem _ (List.mem_append_right _ h)) tyX0_ok nmX0 1 (by decide) (hts (.fieldLink RX0 32 "BinRounds$Bin" "kind" "I") (by decide +kernel)) (fun x hx => hx) rfl hini rfl rfl rfl rfl dX0_init_43 (fun H43 locs hO ok43 sz43 hS => ?_)
  have n5 := n5.kept (ok43 r5 (by omega))
  have n16 := n16.kept (ok43 r16 (by omega))
  refine x_aload_n B hl dX0_init_46 rfl ?_
  refine x_iload_n B hl dX0_init_47 rfl ?_
  refine ob_put (ty := .int) E hO hS hAq rfl (fun z h => List.mem_cons_of_mem _ (List.mem_append_right _ h)) tyX0_ok nmX0 5 (by decide) (hts (.fieldLink RX0 35 "BinRounds$Bin" "markNumber" "I") (by decide +kernel)) (fun x hx => hx) rfl rfl rfl rfl dX0_init_48 (fun H48 locs hO ok48 sz48 hS => ?_)
  have n5 := n5.kept (ok48 r5 (by omega))
  have n16 := n16.kept (ok48 r16 (by omega))
  refine w_widen (k := 2) (n := 6) (Nat.le_of_ble_eq_true rfl) (Nat.le_of_ble_eq_true rfl) ?_
  refine cb_vret E hr hlk hS dX0_init_51 ⟨rfl, r5, r16, ⟨by omega, l_r5_r16, n16.lt⟩, ⟨n5, n16⟩, ?_⟩
  exact hO.to (fun k hk => by rcases (show k = 0 ∨ k = 1 ∨ k = 2 ∨ k = 3 ∨ k = 4 ∨ k = 5 ∨ k = 6 by omega) with rfl | rfl | rfl | rfl | rfl | rfl | rfl <;> rfl)
