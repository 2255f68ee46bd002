set_option maxHeartbeats 4000000 in
set_option maxRecDepth 100000 in
theorem c_p_bill (l : Launch) (hlt : l.stackTraces = false) (D : va_G) (cy : Nat → ClassId) (d0 : Nat) (A : Nat → Prop) (la : Nat → Int → Nat) (σ : MS) {h : Int} (h_h : -2147483648 ≤ h ∧ h < 2147483648) (hn5 : 0 ≤ σ 5 0 ∧ σ 5 0 ≤ 1000) (hn11 : 0 ≤ σ 11 0 ∧ σ 11 0 ≤ 1000) (hn23 : 0 ≤ σ 23 0 ∧ σ 23 0 ≤ 1000) (hn27 : 0 ≤ σ 27 0 ∧ σ 27 0 ≤ 1000) (hn45 : 0 ≤ σ 45 0 ∧ σ 45 0 ≤ 600) (hlg : σ 58 0 = 0 ∧ σ 59 0 = 0)  : CT l yX10_bill wsX10_bill ({ frames := 8, cells := 16, slots := 256, locals := 124 } : Room) D cy d0 A [.ref (la 0 0), .int (iI h)] la σ ((if oneC h (σ 11 0) = 1 then 1 else 0)) (cPm (some (.long (lI (σ 50 h + σ 8 h - σ 9 h)))) la (up σ 9 h (σ 9 h + (σ 50 h + σ 8 h - σ 9 h))) (True)) 16 256 := by
  refine ct_of (cc := cX10_bill) (nL := 5) (ret := (some .long)) (by decide) rfl (Nat.le_of_ble_eq_true rfl) ?_
  intro p e s m args below meth c ls E hout hr hlk hK hC hS hl
  have B := E.1
  have hml := E.2.1
  have hown := E.2.2.1
  have hts0 := E.2.2.2.1
  have hts := E.2.2.2.1
  have hw := hC.2.2.2.2.2.1
  refine x_aload_n B hl dX10_bill_0 rfl ?_
  refine x_iload_n B hl dX10_bill_1 rfl ?_
  refine ctm_call E hout hlk hK hC hS hl (κ := 0) (i := 0) (by decide) cl_0 rfl (c_houseAt l hlt D cy d0 A la _ (z := h) h_h (by omega) (by omega) hlg) (cwV 1 hts0 gX10_bill_X10_houseAt rfl rfl rfl (by decide +kernel) ⟨Nat.le_of_ble_eq_true rfl, Nat.le_of_ble_eq_true rfl⟩) rfl rfl (Nat.le_of_ble_eq_true rfl) dX10_bill_2 ⟨Nat.le_of_ble_eq_true rfl, Nat.le_of_ble_eq_true rfl⟩ ⟨Nat.le_of_ble_eq_true rfl, Nat.le_of_ble_eq_true rfl⟩ (fun h => ⟨by unfold oneC; omega, rfl⟩) (fun h9_2 H locs hh1 hC hS => ?_)
  refine x_astore_n B hl dX10_bill_5 (by decide) (fun ls hl => ?_)
  refine x_aload_n B hl dX10_bill_6 rfl ?_
  refine co_call E hK hC hS hl (κ := 5) (i := h) (by decide) (cl_5 hh1) rfl (c_allCharged l D cy d0 A la σ (h := h) hh1) (cwV 0 hts0 gX10_bill_X3_allCharged rfl rfl rfl (by decide +kernel) ⟨Nat.le_of_ble_eq_true rfl, Nat.le_of_ble_eq_true rfl⟩) rfl rfl (Nat.le_of_ble_eq_true rfl) dX10_bill_7 ⟨Nat.le_of_ble_eq_true rfl, Nat.le_of_ble_eq_true rfl⟩ (fun H locs q_7 hC hS => ?_)
  refine x_aload_n B hl dX10_bill_10 rfl ?_
  refine co_getl (f := 9) E hC 5 (by decide) (cl_5 hh1) rfl (fun z h => List.mem_cons_of_mem _ (List.mem_append_left _ (List.mem_append_left _ (List.mem_append_left _ (List.mem_append_right _ h))))) 6 (by decide) (hts (.fieldLink RX10 310 "BinRounds$House" "allBills" "J") (by decide +kernel)) (fun x hx => hx) dX10_bill_11 ⟨rfl, rfl⟩ rfl ?_
  refine x_lsub B dX10_bill_14 ?_
  refine x_lstore_n B hl dX10_bill_15 (by decide) (fun ls hl => ?_)
  refine x_aload_n B hl dX10_bill_16 rfl ?_
  refine x_dup B dX10_bill_17 rfl ?_
  refine co_getl (f := 9) E hC 5 (by decide) (cl_5 hh1) rfl (fun z h => List.mem_cons_of_mem _ (List.mem_append_left _ (List.mem_append_left _ (List.mem_append_left _ (List.mem_append_right _ h))))) 6 (by decide) (hts (.fieldLink RX10 310 "BinRounds$House" "allBills" "J") (by decide +kernel)) (fun x hx => hx) dX10_bill_18 ⟨rfl, rfl⟩ rfl ?_
  refine x_lload_n B hl dX10_bill_21 rfl ?_
  refine x_ladd B dX10_bill_22 ?_
  refine co_putl (f := 9) E hC hS 5 (by decide) (cl_5 hh1) rfl (fun z h => List.mem_cons_of_mem _ (List.mem_append_left _ (List.mem_append_left _ (List.mem_append_left _ (List.mem_append_right _ h))))) tyX3 tyX3_ok nmX3 6 (by decide) (hts (.fieldLink RX10 310 "BinRounds$House" "allBills" "J") (by decide +kernel)) (fun x hx => hx) rfl rfl dX10_bill_23 (by decide) ⟨rfl, rfl, rfl, rfl⟩  (fun H locs hC hS => ?_)
  refine x_lload_n B hl dX10_bill_26 rfl ?_
  exact w_widen (Nat.le_of_ble_eq_true rfl) (Nat.le_of_ble_eq_true rfl) (vx_ret (co_lret E hr hlk hC hS dX10_bill_27 ⟨(by unfold oneC; omega), congrArg (fun z => some (Value.long z)) rfl, rfl, rfl, (by first | trivial | omega)⟩))
