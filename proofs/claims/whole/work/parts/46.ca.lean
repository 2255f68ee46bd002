set_option maxHeartbeats 4000000 in
set_option maxRecDepth 100000 in
theorem c_chk3 (l : Launch) {i n : Int} {v : Value} (hi : 0 ≤ i ∧ i < n) (hn : n < 2147483648) : MZ l yJ3_checkIndex_8e157 wsJ3_checkIndex_8e157 ({ frames := 0, cells := 0, slots := 0, locals := 0 } : Room) [.int (iI i), .int (iI n), .null] (some (.int (iI i))) (True) := by
  refine mz_of (cc := cJ3_checkIndex_8e157) (nL := 3) (ret := (some .int)) (by decide) rfl (Nat.le_of_ble_eq_true rfl) ?_
  intro p e s m args below meth c ls S hr hlk hl
  have B : xB p c cJ3_checkIndex_8e157 := ⟨S.1, S.2.1⟩
  have hml := S.2.2.1
  have hown := S.2.2.2.1
  have hts0 := S.2.2.2.2
  have hts := S.2.2.2.2
  refine x_iload_n B hl dJ3_checkIndex_8e157_0 rfl ?_
  refine x_if_lt (tgt := 9) B dJ3_checkIndex_8e157_1 (by decide) (by omega) (fun c_1 => ?_) (fun c_1 => ?_)
  · exact (show False by omega).elim
  · refine x_iload_n B hl dJ3_checkIndex_8e157_4 rfl ?_
    refine x_iload_n B hl dJ3_checkIndex_8e157_5 rfl ?_
    refine x_icmp_lt (tgt := 16) B dJ3_checkIndex_8e157_6 (by decide) (by omega) (by omega) (fun c_6 => ?_) (fun c_6 => ?_)
    · refine x_iload_n B hl dJ3_checkIndex_8e157_16 rfl ?_
      exact z_iret (av := []) B hr rfl hlk dJ3_checkIndex_8e157_17 rfl trivial
    · exact (show False by omega).elim
set_option maxHeartbeats 4000000 in
set_option maxRecDepth 100000 in
theorem c_chk2 (l : Launch) {i n : Int} (hi : 0 ≤ i ∧ i < n) (hn : n < 2147483648) : MZ l yJ15_checkIndex_7cf53 wsJ15_checkIndex_7cf53 ({ frames := 1, cells := 0, slots := 0, locals := 22 } : Room) [.int (iI i), .int (iI n)] (some (.int (iI i))) (True) := by
  refine mz_of (cc := cJ15_checkIndex_7cf53) (nL := 2) (ret := (some .int)) (by decide) rfl (Nat.le_of_ble_eq_true rfl) ?_
  intro p e s m args below meth c ls S hr hlk hl
  have B : xB p c cJ15_checkIndex_7cf53 := ⟨S.1, S.2.1⟩
  have hml := S.2.2.1
  have hown := S.2.2.2.1
  have hts0 := S.2.2.2.2
  have hts := S.2.2.2.2
  refine x_iload_n B hl dJ15_checkIndex_7cf53_0 rfl ?_
  refine x_iload_n B hl dJ15_checkIndex_7cf53_1 rfl ?_
  refine lv_null B.1 B.2 dJ15_checkIndex_7cf53_2 ?_
  refine z_call ⟨B.1, B.2, hml, hown, hts0⟩ hl (c_chk3 l (v := .null) hi hn) (va_cwS 3 hts0 gJ15_checkIndex_7cf53_J3_checkIndex_8e157 rfl rfl rfl (by decide +kernel) ⟨Nat.le_of_ble_eq_true rfl, Nat.le_of_ble_eq_true rfl⟩) rfl rfl (Nat.le_of_ble_eq_true rfl) dJ15_checkIndex_7cf53_3 ⟨Nat.zero_le _, Nat.zero_le _⟩ (fun q => ?_)
  exact z_iret (av := []) B hr rfl hlk dJ15_checkIndex_7cf53_6 rfl trivial
set_option maxHeartbeats 4000000 in
set_option maxRecDepth 100000 in
theorem c_size (l : Launch) (D : va_G) (cy : Nat → ClassId) (d0 : Nat) (A : Nat → Prop) (la : Nat → Int → Nat) (σ : MS) {L n : Int} (hL : cLive la σ 11 L) (hn : cSz σ L = n) : CM l yJx4a65c_size_8abf5 wsJx4a65c_size_8abf5 ({ frames := 0, cells := 0, slots := 0, locals := 0 } : Room) D cy d0 A [.ref (la 11 L)] la σ (some (.int (iI n))) (σ) (True) := by
  refine cn_of (cc := cJx4a65c_size_8abf5) (nL := 1) (ret := (some .int)) (by decide) rfl (Nat.le_of_ble_eq_true rfl) ?_
  intro p e s m args below meth c ls E hr hlk hK hC hS hl
  have B := E.1
  have hml := E.2.1
  have hown := E.2.2.1
  have hts0 := E.2.2.2.1
  have hts := E.2.2.2.1
  have hw := hC.2.2.2.2.2.1
  refine x_aload_n B hl dJx4a65c_size_8abf5_0 rfl ?_
  refine co_getz E hC 11 (by decide) hL rfl (fun z h => List.mem_cons_of_mem _ (List.mem_append_right _ h)) 2 (by decide) (hts (.fieldLink RJx4a65c 48 "java/util/ArrayList" "size" "I") (by decide +kernel)) (fun x hx => hx) dJx4a65c_size_8abf5_1 rfl hn ?_
  exact cm_iret E hr rfl hlk hC hS dJx4a65c_size_8abf5_4 rfl rfl (by first | trivial | omega)
set_option maxHeartbeats 4000000 in
set_option maxRecDepth 100000 in
theorem c_isEmpty (l : Launch) (D : va_G) (cy : Nat → ClassId) (d0 : Nat) (A : Nat → Prop) (la : Nat → Int → Nat) (σ : MS) {L n : Int} (hL : cLive la σ 11 L) (hn : cSz σ L = n) (hr : 0 ≤ n ∧ n < 2147483648) : CM l yJx4a65c_isEmpty_aae02 wsJx4a65c_isEmpty_aae02 ({ frames := 0, cells := 0, slots := 0, locals := 0 } : Room) D cy d0 A [.ref (la 11 L)] la σ (some (.int (iI (if n = 0 then 1 else 0)))) (σ) (True) := by
  refine cn_of (cc := cJx4a65c_isEmpty_aae02) (nL := 1) (ret := (some .boolean)) (by decide) rfl (Nat.le_of_ble_eq_true rfl) ?_
  intro p e s m args below meth c ls E hr hlk hK hC hS hl
  have B := E.1
  have hml := E.2.1
  have hown := E.2.2.1
  have hts0 := E.2.2.2.1
  have hts := E.2.2.2.1
  have hw := hC.2.2.2.2.2.1
  refine x_aload_n B hl dJx4a65c_isEmpty_aae02_0 rfl ?_
  refine co_getz E hC 11 (by decide) hL rfl (fun z h => List.mem_cons_of_mem _ (List.mem_append_right _ h)) 2 (by decide) (hts (.fieldLink RJx4a65c 48 "java/util/ArrayList" "size" "I") (by decide +kernel)) (fun x hx => hx) dJx4a65c_isEmpty_aae02_1 rfl hn ?_
  refine x_if_ne (tgt := 11) B dJx4a65c_isEmpty_aae02_4 (by decide) (by omega) (fun c_4 => ?_) (fun c_4 => ?_)
  · refine x_iconst B dJx4a65c_isEmpty_aae02_11 ?_
    exact cm_iret E hr rfl hlk hC hS dJx4a65c_isEmpty_aae02_12 (by first | rfl | (rw [if_pos (by omega)]) | (rw [if_neg (by omega)]) | (rw [if_neg (by omega), if_pos (by omega)]) | (rw [if_neg (by omega), if_neg (by omega)])) rfl (by first | trivial | omega)
  · refine x_iconst B dJx4a65c_isEmpty_aae02_7 ?_
    refine x_goto (tgt := 12) B dJx4a65c_isEmpty_aae02_8 (by decide) ?_
    exact cm_iret E hr rfl hlk hC hS dJx4a65c_isEmpty_aae02_12 (by first | rfl | (rw [if_pos (by omega)]) | (rw [if_neg (by omega)]) | (rw [if_neg (by omega), if_pos (by omega)]) | (rw [if_neg (by omega), if_neg (by omega)])) rfl (by first | trivial | omega)
set_option maxHeartbeats 4000000 in
set_option maxRecDepth 100000 in
theorem c_elementData (l : Launch) (D : va_G) (cy : Nat → ClassId) (d0 : Nat) (A : Nat → Prop) (la : Nat → Int → Nat) (σ : MS) {L n j : Int} {x : Nat} (hL : cLive la σ 11 L) (hn : cSz σ L = n) (hj : 0 ≤ j ∧ j < n) (hb : n < 2147483648) (hx : cEl la L j = x) : CM l yJx4a65c_elementData_915e3 wsJx4a65c_elementData_915e3 ({ frames := 0, cells := 0, slots := 0, locals := 0 } : Room) D cy d0 A [.ref (la 11 L), .int (iI j)] la σ (some (.ref x)) (σ) (True) := by
  refine cn_of (cc := cJx4a65c_elementData_915e3) (nL := 2) (ret := (some (.object "java/lang/Object"))) (by decide) rfl (Nat.le_of_ble_eq_true rfl) ?_
  intro p e s m args below meth c ls E hr hlk hK hC hS hl
  have B := E.1
  have hml := E.2.1
  have hown := E.2.2.1
  have hts0 := E.2.2.2.1
  have hts := E.2.2.2.1
  have hw := hC.2.2.2.2.2.1
  refine x_aload_n B hl dJx4a65c_elementData_915e3_0 rfl ?_
  refine co_getR (x := la 18 L) E hC 11 (by decide) hL rfl (fun z h => List.mem_cons_of_mem _ (List.mem_append_right _ h)) 1 (by decide) (hts (.fieldLink RJx4a65c 9 "java/util/ArrayList" "elementData" "[Ljava/lang/Object;") (by decide +kernel)) (fun x hx => hx) dJx4a65c_elementData_915e3_1 rfl rfl ?_
  refine x_iload_n B hl dJx4a65c_elementData_915e3_4 rfl ?_
  refine co_aald (x := x) E hC hL (by rw [hn]; exact hj) (by rw [hn]; exact hb) hx dJx4a65c_elementData_915e3_5 ?_
  exact co_aret E hr (Or.inl ⟨_, rfl⟩) hlk hC hS dJx4a65c_elementData_915e3_6 ⟨rfl, rfl, rfl, (by first | trivial | omega)⟩
set_option maxHeartbeats 4000000 in
set_option maxRecDepth 100000 in
theorem c_get (l : Launch) (D : va_G) (cy : Nat → ClassId) (d0 : Nat) (A : Nat → Prop) (la : Nat → Int → Nat) (σ : MS) {L n j : Int} {x : Nat} (hL : cLive la σ 11 L) (hn : cSz σ L = n) (hj : 0 ≤ j ∧ j < n) (hb : n < 2147483648) (hx : cEl la L j = x) : CM l yJx4a65c_get_915e3 wsJx4a65c_get_915e3 ({ frames := 2, cells := 0, slots := 0, locals := 43 } : Room) D cy d0 A [.ref (la 11 L), .int (iI j)] la σ (some (.ref x)) (σ) (True) := by
  refine cn_of (cc := cJx4a65c_get_915e3) (nL := 2) (ret := (some (.object "java/lang/Object"))) (by decide) rfl (Nat.le_of_ble_eq_true rfl) ?_
  intro p e s m args below meth c ls E hr hlk hK hC hS hl
  have B := E.1
  have hml := E.2.1
  have hown := E.2.2.1
  have hts0 := E.2.2.2.1
  have hts := E.2.2.2.1
  have hw := hC.2.2.2.2.2.1
  refine x_iload_n B hl dJx4a65c_get_915e3_0 rfl ?_
  refine x_aload_n B hl dJx4a65c_get_915e3_1 rfl ?_
  refine co_getz E hC 11 (by decide) hL rfl (fun z h => List.mem_cons_of_mem _ (List.mem_append_right _ h)) 2 (by decide) (hts (.fieldLink RJx4a65c 48 "java/util/ArrayList" "size" "I") (by decide +kernel)) (fun x hx => hx) dJx4a65c_get_915e3_2 rfl hn ?_
  refine z_call ⟨B.1, B.2, hml, hown, hts0⟩ hl (c_chk2 l hj hb) (va_cwS 2 hts0 gJx4a65c_get_915e3_J15_checkIndex_7cf53 rfl rfl rfl (by decide +kernel) ⟨Nat.le_of_ble_eq_true rfl, Nat.le_of_ble_eq_true rfl⟩) rfl rfl (Nat.le_of_ble_eq_true rfl) dJx4a65c_get_915e3_5 ⟨Nat.zero_le _, Nat.zero_le _⟩ (fun q => ?_)
  refine x_pop B dJx4a65c_get_915e3_8 rfl ?_
  refine x_aload_n B hl dJx4a65c_get_915e3_9 rfl ?_
  refine x_iload_n B hl dJx4a65c_get_915e3_10 rfl ?_
  refine co_call E hK hC hS hl (κ := 11) (i := L) (by decide) hL rfl (c_elementData l D cy d0 A la σ hL hn hj hb hx) (cwV 1 hts0 gJx4a65c_get_915e3_Jx4a65c_elementData_915e3 rfl rfl rfl (by decide +kernel) ⟨Nat.le_of_ble_eq_true rfl, Nat.le_of_ble_eq_true rfl⟩) rfl rfl (Nat.le_of_ble_eq_true rfl) dJx4a65c_get_915e3_11 ⟨Nat.zero_le _, Nat.zero_le _⟩ (fun H locs q hC hS => ?_)
  exact co_aret E hr (Or.inl ⟨_, rfl⟩) hlk hC hS dJx4a65c_get_915e3_14 ⟨rfl, rfl, rfl, (by first | trivial | omega)⟩
