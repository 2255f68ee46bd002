set_option maxHeartbeats 4000000 in
set_option maxRecDepth 100000 in
theorem c_p_lost (l : Launch) (hlt : l.stackTraces = false) (D : va_G) (cy : Nat → ClassId) (d0 : Nat) (A : Nat → Prop) (la : Nat → Int → Nat) (σ : MS) {b : Int} (h_b : -2147483648 ≤ b ∧ b < 2147483648) (hn5 : 0 ≤ σ 5 0 ∧ σ 5 0 ≤ 1000) (hn11 : 0 ≤ σ 11 0 ∧ σ 11 0 ≤ 1000) (hn23 : 0 ≤ σ 23 0 ∧ σ 23 0 ≤ 1000) (hn27 : 0 ≤ σ 27 0 ∧ σ 27 0 ≤ 1000) (hn45 : 0 ≤ σ 45 0 ∧ σ 45 0 ≤ 600) (hlg : σ 58 0 = 0 ∧ σ 59 0 = 0)  : CT l yX10_lost wsX10_lost ({ frames := 8, cells := 16, slots := 256, locals := 124 } : Room) D cy d0 A [.ref (la 0 0), .int (iI b)] la σ ((if markC σ b = 1 then 1 else 0)) (cPm (some (.int (iI (σ 13 b)))) la (lostS σ b) (True)) 16 256 := by
  refine ct_of (cc := cX10_lost) (nL := 4) (ret := (some .boolean)) (by decide) rfl (Nat.le_of_ble_eq_true rfl) ?_
  intro p e s m args below meth c ls E hout hr hlk hK hC hS hl
  have B := E.1
  have hml := E.2.1
  have hown := E.2.2.1
  have hts0 := E.2.2.2.1
  have hts := E.2.2.2.1
  have hw := hC.2.2.2.2.2.1
  refine x_aload_n B hl dX10_lost_0 rfl ?_
  refine x_iload_n B hl dX10_lost_1 rfl ?_
  refine ctm_call E hout hlk hK hC hS hl (κ := 0) (i := 0) (by decide) cl_0 rfl (c_binAt l hlt D cy d0 A la _ (z := b) h_b (by omega) hlg) (cwV 1 hts0 gX10_lost_X10_binAt rfl rfl rfl (by decide +kernel) ⟨Nat.le_of_ble_eq_true rfl, Nat.le_of_ble_eq_true rfl⟩) rfl rfl (Nat.le_of_ble_eq_true rfl) dX10_lost_2 ⟨Nat.le_of_ble_eq_true rfl, Nat.le_of_ble_eq_true rfl⟩ ⟨Nat.le_of_ble_eq_true rfl, Nat.le_of_ble_eq_true rfl⟩ (fun h => ⟨by unfold markC; omega, rfl⟩) (fun h9_2 H locs hb1 hC hS => ?_)
  refine x_astore_n B hl dX10_lost_5 (by decide) (fun ls hl => ?_)
  refine x_aload_n B hl dX10_lost_6 rfl ?_
  refine co_getb (f := 13) E hC 6 (by decide) (cl_6 hb1) rfl (fun z h => List.mem_cons_of_mem _ (List.mem_append_left _ (List.mem_append_left _ (List.mem_append_left _ (List.mem_append_right _ h))))) 4 (by decide) (hts (.fieldLink RX10 138 "BinRounds$Bin" "hasMark" "Z") (by decide +kernel)) (fun x hx => hx) dX10_lost_7 ⟨rfl, rfl, rfl⟩ rfl (fun r_7 => ?_)
  refine x_istore_n B hl dX10_lost_10 (by decide) (fun ls hl => ?_)
  refine x_aload_n B hl dX10_lost_11 rfl ?_
  refine x_iconst B dX10_lost_12 ?_
  refine co_putb (f := 13) E hC hS 6 (by decide) (cl_6 hb1) rfl (fun z h => List.mem_cons_of_mem _ (List.mem_append_left _ (List.mem_append_left _ (List.mem_append_left _ (List.mem_append_right _ h))))) tyX0 tyX0_ok nmX0 4 (by decide) (hts (.fieldLink RX10 138 "BinRounds$Bin" "hasMark" "Z") (by decide +kernel)) (fun x hx => hx) rfl rfl dX10_lost_13 (by decide) ⟨rfl, rfl, rfl, rfl⟩ (by omega) (fun H locs hC hS => ?_)
  refine x_iload_n B hl dX10_lost_16 rfl ?_
  exact w_widen (Nat.le_of_ble_eq_true rfl) (Nat.le_of_ble_eq_true rfl) (vx_ret (co_iret E hr (by rcases hw.2 13 b rfl with q | q <;> rw [q] <;> rfl) hlk hC hS dX10_lost_17 ⟨(by unfold markC; omega), congrArg (fun z => some (Value.int z)) rfl, rfl, rfl, (by first | trivial | omega)⟩))
set_option maxHeartbeats 4000000 in
set_option maxRecDepth 100000 in
theorem c_p_gate (l : Launch) (hlt : l.stackTraces = false) (D : va_G) (cy : Nat → ClassId) (d0 : Nat) (A : Nat → Prop) (la : Nat → Int → Nat) (σ : MS) {q : Int} {h : Int} (h_q : -2147483648 ≤ q ∧ q < 2147483648) (h_h : -2147483648 ≤ h ∧ h < 2147483648) (hn5 : 0 ≤ σ 5 0 ∧ σ 5 0 ≤ 1000) (hn11 : 0 ≤ σ 11 0 ∧ σ 11 0 ≤ 1000) (hn23 : 0 ≤ σ 23 0 ∧ σ 23 0 ≤ 1000) (hn27 : 0 ≤ σ 27 0 ∧ σ 27 0 ≤ 1000) (hn45 : 0 ≤ σ 45 0 ∧ σ 45 0 ≤ 600) (hlg : σ 58 0 = 0 ∧ σ 59 0 = 0)  : CT l yX10_gate wsX10_gate ({ frames := 8, cells := 16, slots := 256, locals := 124 } : Room) D cy d0 A [.ref (la 0 0), .int (iI q), .int (iI h)] la σ ((if gateC σ q h = 1 then 1 else (if gateC σ q h = 2 then 2 else 0))) (cPm (none) la (gateS σ q h) (True)) 16 256 := by
  refine ct_of (cc := cX10_gate) (nL := 4) (ret := none) (by decide) rfl (Nat.le_of_ble_eq_true rfl) ?_
  intro p e s m args below meth c ls E hout hr hlk hK hC hS hl
  have B := E.1
  have hml := E.2.1
  have hown := E.2.2.1
  have hts0 := E.2.2.2.1
  have hts := E.2.2.2.1
  have hw := hC.2.2.2.2.2.1
  refine x_aload_n B hl dX10_gate_0 rfl ?_
  refine x_iload_n B hl dX10_gate_1 rfl ?_
  refine ctm_call E hout hlk hK hC hS hl (κ := 0) (i := 0) (by decide) cl_0 rfl (c_cartAt l hlt D cy d0 A la _ (z := q) h_q (by omega) (by omega) hlg) (cwV 1 hts0 gX10_gate_X10_cartAt rfl rfl rfl (by decide +kernel) ⟨Nat.le_of_ble_eq_true rfl, Nat.le_of_ble_eq_true rfl⟩) rfl rfl (Nat.le_of_ble_eq_true rfl) dX10_gate_2 ⟨Nat.le_of_ble_eq_true rfl, Nat.le_of_ble_eq_true rfl⟩ ⟨Nat.le_of_ble_eq_true rfl, Nat.le_of_ble_eq_true rfl⟩ (fun h => ⟨by unfold gateC; omega, rfl⟩) (fun h9_2 H locs hq1 hC hS => ?_)
  refine x_astore_n B hl dX10_gate_5 (by decide) (fun ls hl => ?_)
  refine x_iload_n B hl dX10_gate_6 rfl ?_
  refine x_i2l B dX10_gate_7 (by omega) ?_
  refine x_lconst B dX10_gate_8 ?_
  refine lv_ldc2 (v := lI 1000000) B.1 B.2 hown (hts (.constantLong RX10 238 (1000000)) (by decide +kernel)) dX10_gate_9 ?_
  refine z_call ⟨B.1, B.2, hml, hown, hts0⟩ hl (c_isWithin l (v := h) (a := 0) (b := 1000000) (by omega) (by omega) (by omega)) (va_cwS 3 hts0 gX10_gate_X10_isWithin rfl rfl rfl (by decide +kernel) ⟨Nat.le_of_ble_eq_true rfl, Nat.le_of_ble_eq_true rfl⟩) rfl rfl (Nat.le_of_ble_eq_true rfl) dX10_gate_12 ⟨Nat.le_of_ble_eq_true rfl, Nat.le_of_ble_eq_true rfl⟩ (fun q_12 => ?_)
  refine x_bool (fun b_12 => ?_) (fun b_12 => ?_)
  · refine cstm_call E hout hlk hK hC hS hl (c_require l hlt D cy d0 A la _ (z := 1) (Or.inr rfl)) (va_cwS 1 hts0 gX10_gate_X10_require rfl rfl rfl (by decide +kernel) ⟨Nat.le_of_ble_eq_true rfl, Nat.le_of_ble_eq_true rfl⟩) rfl rfl (Nat.le_of_ble_eq_true rfl) dX10_gate_15 ⟨Nat.le_of_ble_eq_true rfl, Nat.le_of_ble_eq_true rfl⟩ ⟨Nat.le_of_ble_eq_true rfl, Nat.le_of_ble_eq_true rfl⟩ (fun h => ⟨by unfold gateC; omega, rfl⟩) (fun h9_15 H locs q_15 hC hS => ?_)
    refine x_aload_n B hl dX10_gate_18 rfl ?_
    refine x_iload_n B hl dX10_gate_19 rfl ?_
    refine co_puti (f := 26) E hC hS 9 (by decide) (cl_9 hq1) rfl (fun z h => List.mem_cons_of_mem _ (List.mem_append_left _ (List.mem_append_left _ (List.mem_append_left _ (List.mem_append_left _ (List.mem_append_right _ h)))))) tyX2 tyX2_ok nmX2 3 (by decide) (hts (.fieldLink RX10 240 "BinRounds$Cart" "gateHalves" "I") (by decide +kernel)) (fun x hx => hx) rfl rfl dX10_gate_20 (by decide) ⟨rfl, rfl, rfl, rfl⟩ (by omega) (fun H locs hC hS => ?_)
    exact w_widen (Nat.le_of_ble_eq_true rfl) (Nat.le_of_ble_eq_true rfl) (vx_ret (co_vret E hr hlk hC hS dX10_gate_23 ⟨(by unfold gateC; omega), rfl, rfl, rfl, (by first | trivial | omega)⟩))
  · refine cstm_call E hout hlk hK hC hS hl (c_require l hlt D cy d0 A la _ (z := 0) (Or.inl rfl)) (va_cwS 1 hts0 gX10_gate_X10_require rfl rfl rfl (by decide +kernel) ⟨Nat.le_of_ble_eq_true rfl, Nat.le_of_ble_eq_true rfl⟩) rfl rfl (Nat.le_of_ble_eq_true rfl) dX10_gate_15 ⟨Nat.le_of_ble_eq_true rfl, Nat.le_of_ble_eq_true rfl⟩ ⟨Nat.le_of_ble_eq_true rfl, Nat.le_of_ble_eq_true rfl⟩ (fun h => ⟨by unfold gateC; omega, rfl⟩) (fun h9_15 H locs q_15 hC hS => ?_)
    refine x_aload_n B hl dX10_gate_18 rfl ?_
    refine x_iload_n B hl dX10_gate_19 rfl ?_
    refine co_puti (f := 26) E hC hS 9 (by decide) (cl_9 hq1) rfl (fun z h => List.mem_cons_of_mem _ (List.mem_append_left _ (List.mem_append_left _ (List.mem_append_left _ (List.mem_append_left _ (List.mem_append_right _ h)))))) tyX2 tyX2_ok nmX2 3 (by decide) (hts (.fieldLink RX10 240 "BinRounds$Cart" "gateHalves" "I") (by decide +kernel)) (fun x hx => hx) rfl rfl dX10_gate_20 (by decide) ⟨rfl, rfl, rfl, rfl⟩ (by omega) (fun H locs hC hS => ?_)
    exact w_widen (Nat.le_of_ble_eq_true rfl) (Nat.le_of_ble_eq_true rfl) (vx_ret (co_vret E hr hlk hC hS dX10_gate_23 ⟨(by unfold gateC; omega), rfl, rfl, rfl, (by first | trivial | omega)⟩))
set_option maxHeartbeats 4000000 in
set_option maxRecDepth 100000 in
theorem c_p_terms (l : Launch) (hlt : l.stackTraces = false) (D : va_G) (cy : Nat → ClassId) (d0 : Nat) (A : Nat → Prop) (la : Nat → Int → Nat) (σ : MS) {pr : Int} {tl : Int} (h_pr : -2147483648 ≤ pr ∧ pr < 2147483648) (h_tl : -2147483648 ≤ tl ∧ tl < 2147483648) (hn5 : 0 ≤ σ 5 0 ∧ σ 5 0 ≤ 1000) (hn11 : 0 ≤ σ 11 0 ∧ σ 11 0 ≤ 1000) (hn23 : 0 ≤ σ 23 0 ∧ σ 23 0 ≤ 1000) (hn27 : 0 ≤ σ 27 0 ∧ σ 27 0 ≤ 1000) (hn45 : 0 ≤ σ 45 0 ∧ σ 45 0 ≤ 600) (hlg : σ 58 0 = 0 ∧ σ 59 0 = 0)  : CT l yX10_terms wsX10_terms ({ frames := 7, cells := 16, slots := 256, locals := 102 } : Room) D cy d0 A [.ref (la 0 0), .int (iI pr), .int (iI tl)] la σ ((if termsC pr tl = 1 then 2 else 0)) (cPm (none) la (termsS σ pr tl) (True)) 16 256 := by
  refine ct_of (cc := cX10_terms) (nL := 3) (ret := none) (by decide) rfl (Nat.le_of_ble_eq_true rfl) ?_
  intro p e s m args below meth c ls E hout hr hlk hK hC hS hl
  have B := E.1
  have hml := E.2.1
  have hown := E.2.2.1
  have hts0 := E.2.2.2.1
  have hts := E.2.2.2.1
  have hw := hC.2.2.2.2.2.1
  refine x_iload_n B hl dX10_terms_0 rfl ?_
  refine x_i2l B dX10_terms_1 (by omega) ?_
  refine x_lconst B dX10_terms_2 ?_
  refine lv_ldc2 (v := lI 100000) B.1 B.2 hown (hts (.constantLong RX10 174 (100000)) (by decide +kernel)) dX10_terms_3 ?_
  refine z_call ⟨B.1, B.2, hml, hown, hts0⟩ hl (c_isWithin l (v := pr) (a := 0) (b := 100000) (by omega) (by omega) (by omega)) (va_cwS 3 hts0 gX10_terms_X10_isWithin rfl rfl rfl (by decide +kernel) ⟨Nat.le_of_ble_eq_true rfl, Nat.le_of_ble_eq_true rfl⟩) rfl rfl (Nat.le_of_ble_eq_true rfl) dX10_terms_6 ⟨Nat.le_of_ble_eq_true rfl, Nat.le_of_ble_eq_true rfl⟩ (fun q_6 => ?_)
  refine x_bool (fun b_6 => ?_) (fun b_6 => ?_)
  · refine cstm_call E hout hlk hK hC hS hl (c_require l hlt D cy d0 A la _ (z := 1) (Or.inr rfl)) (va_cwS 1 hts0 gX10_terms_X10_require rfl rfl rfl (by decide +kernel) ⟨Nat.le_of_ble_eq_true rfl, Nat.le_of_ble_eq_true rfl⟩) rfl rfl (Nat.le_of_ble_eq_true rfl) dX10_terms_9 ⟨Nat.le_of_ble_eq_true rfl, Nat.le_of_ble_eq_true rfl⟩ ⟨Nat.le_of_ble_eq_true rfl, Nat.le_of_ble_eq_true rfl⟩ (fun h => ⟨by unfold termsC; omega, rfl⟩) (fun h9_9 H locs q_9 hC hS => ?_)
    refine x_iload_n B hl dX10_terms_12 rfl ?_
    refine x_i2l B dX10_terms_13 (by omega) ?_
    refine x_lconst B dX10_terms_14 ?_
    refine lv_ldc2 (v := lI 1000) B.1 B.2 hown (hts (.constantLong RX10 161 (1000)) (by decide +kernel)) dX10_terms_15 ?_
    refine z_call ⟨B.1, B.2, hml, hown, hts0⟩ hl (c_isWithin l (v := tl) (a := 0) (b := 1000) (by omega) (by omega) (by omega)) (va_cwS 3 hts0 gX10_terms_X10_isWithin rfl rfl rfl (by decide +kernel) ⟨Nat.le_of_ble_eq_true rfl, Nat.le_of_ble_eq_true rfl⟩) rfl rfl (Nat.le_of_ble_eq_true rfl) dX10_terms_18 ⟨Nat.le_of_ble_eq_true rfl, Nat.le_of_ble_eq_true rfl⟩ (fun q_18 => ?_)
    refine x_bool (fun b_18 => ?_) (fun b_18 => ?_)
    · refine cstm_call E hout hlk hK hC hS hl (c_require l hlt D cy d0 A la _ (z := 1) (Or.inr rfl)) (va_cwS 1 hts0 gX10_terms_X10_require rfl rfl rfl (by decide +kernel) ⟨Nat.le_of_ble_eq_true rfl, Nat.le_of_ble_eq_true rfl⟩) rfl rfl (Nat.le_of_ble_eq_true rfl) dX10_terms_21 ⟨Nat.le_of_ble_eq_true rfl, Nat.le_of_ble_eq_true rfl⟩ ⟨Nat.le_of_ble_eq_true rfl, Nat.le_of_ble_eq_true rfl⟩ (fun h => ⟨by unfold termsC; omega, rfl⟩) (fun h9_21 H locs q_21 hC hS => ?_)
      refine x_aload_n B hl dX10_terms_24 rfl ?_
      refine x_iload_n B hl dX10_terms_25 rfl ?_
      refine co_puti (f := 30) E hC hS 0 (by decide) cl_0 rfl (fun z h => List.mem_cons_of_mem _ (List.mem_append_left _ (List.mem_append_right _ h))) tyX10 tyX10_ok nmX10 9 (by decide) (hts (.fieldLink RX10 53 "BinRounds" "price" "I") (by decide +kernel)) (fun x hx => hx) rfl rfl dX10_terms_26 (by decide) ⟨rfl, rfl, rfl, rfl⟩ (by omega) (fun H locs hC hS => ?_)
      refine x_aload_n B hl dX10_terms_29 rfl ?_
      refine x_iload_n B hl dX10_terms_30 rfl ?_
      refine co_puti (f := 31) E hC hS 0 (by decide) cl_0 rfl (fun z h => List.mem_cons_of_mem _ (List.mem_append_left _ (List.mem_append_right _ h))) tyX10 tyX10_ok nmX10 10 (by decide) (hts (.fieldLink RX10 56 "BinRounds" "tolerance" "I") (by decide +kernel)) (fun x hx => hx) rfl rfl dX10_terms_31 (by decide) ⟨rfl, rfl, rfl, rfl⟩ (by omega) (fun H locs hC hS => ?_)
      exact w_widen (Nat.le_of_ble_eq_true rfl) (Nat.le_of_ble_eq_true rfl) (vx_ret (co_vret E hr hlk hC hS dX10_terms_34 ⟨(by unfold termsC; omega), rfl, rfl, rfl, (by first | trivial | omega)⟩))
    · refine cstm_call E hout hlk hK hC hS hl (c_require l hlt D cy d0 A la _ (z := 0) (Or.inl rfl)) (va_cwS 1 hts0 gX10_terms_X10_require rfl rfl rfl (by decide +kernel) ⟨Nat.le_of_ble_eq_true rfl, Nat.le_of_ble_eq_true rfl⟩) rfl rfl (Nat.le_of_ble_eq_true rfl) dX10_terms_21 ⟨Nat.le_of_ble_eq_true rfl, Nat.le_of_ble_eq_true rfl⟩ ⟨Nat.le_of_ble_eq_true rfl, Nat.le_of_ble_eq_true rfl⟩ (fun h => ⟨by unfold termsC; omega, rfl⟩) (fun h9_21 H locs q_21 hC hS => ?_)
      refine x_aload_n B hl dX10_terms_24 rfl ?_
      refine x_iload_n B hl dX10_terms_25 rfl ?_
      refine co_puti (f := 30) E hC hS 0 (by decide) cl_0 rfl (fun z h => List.mem_cons_of_mem _ (List.mem_append_left _ (List.mem_append_right _ h))) tyX10 tyX10_ok nmX10 9 (by decide) (hts (.fieldLink RX10 53 "BinRounds" "price" "I") (by decide +kernel)) (fun x hx => hx) rfl rfl dX10_terms_26 (by decide) ⟨rfl, rfl, rfl, rfl⟩ (by omega) (fun H locs hC hS => ?_)
      refine x_aload_n B hl dX10_terms_29 rfl ?_
      refine x_iload_n B hl dX10_terms_30 rfl ?_
      refine co_puti (f := 31) E hC hS 0 (by decide) cl_0 rfl (fun z h => List.mem_cons_of_mem _ (List.mem_append_left _ (List.mem_append_right _ h))) tyX10 tyX10_ok nmX10 10 (by decide) (hts (.fieldLink RX10 56 "BinRounds" "tolerance" "I") (by decide +kernel)) (fun x hx => hx) rfl rfl dX10_terms_31 (by decide) ⟨rfl, rfl, rfl, rfl⟩ (by omega) (fun H locs hC hS => ?_)
      exact w_widen (Nat.le_of_ble_eq_true rfl) (Nat.le_of_ble_eq_true rfl) (vx_ret (co_vret E hr hlk hC hS dX10_terms_34 ⟨(by unfold termsC; omega), rfl, rfl, rfl, (by first | trivial | omega)⟩))
  · refine cstm_call E hout hlk hK hC hS hl (c_require l hlt D cy d0 A la _ (z := 0) (Or.inl rfl)) (va_cwS 1 hts0 gX10_terms_X10_require rfl rfl rfl (by decide +kernel) ⟨Nat.le_of_ble_eq_true rfl, Nat.le_of_ble_eq_true rfl⟩) rfl rfl (Nat.le_of_ble_eq_true rfl) dX10_terms_9 ⟨Nat.le_of_ble_eq_true rfl, Nat.le_of_ble_eq_true rfl⟩ ⟨Nat.le_of_ble_eq_true rfl, Nat.le_of_ble_eq_true rfl⟩ (fun h => ⟨by unfold termsC; omega, rfl⟩) (fun h9_9 H locs q_9 hC hS => ?_)
    refine x_iload_n B hl dX10_terms_12 rfl ?_
    refine x_i2l B dX10_terms_13 (by omega) ?_
    refine x_lconst B dX10_terms_14 ?_
    refine lv_ldc2 (v := lI 1000) B.1 B.2 hown (hts (.constantLong RX10 161 (1000)) (by decide +kernel)) dX10_terms_15 ?_
    refine z_call ⟨B.1, B.2, hml, hown, hts0⟩ hl (c_isWithin l (v := tl) (a := 0) (b := 1000) (by omega) (by omega) (by omega)) (va_cwS 3 hts0 gX10_terms_X10_isWithin rfl rfl rfl (by decide +kernel) ⟨Nat.le_of_ble_eq_true rfl, Nat.le_of_ble_eq_true rfl⟩) rfl rfl (Nat.le_of_ble_eq_true rfl) dX10_terms_18 ⟨Nat.le_of_ble_eq_true rfl, Nat.le_of_ble_eq_true rfl⟩ (fun q_18 => ?_)
    refine x_bool (fun b_18 => ?_) (fun b_18 => ?_)
    · refine cstm_call E hout hlk hK hC hS hl (c_require l hlt D cy d0 A la _ (z := 1) (Or.inr rfl)) (va_cwS 1 hts0 gX10_terms_X10_require rfl rfl rfl (by decide +kernel) ⟨Nat.le_of_ble_eq_true rfl, Nat.le_of_ble_eq_true rfl⟩) rfl rfl (Nat.le_of_ble_eq_true rfl) dX10_terms_21 ⟨Nat.le_of_ble_eq_true rfl, Nat.le_of_ble_eq_true rfl⟩ ⟨Nat.le_of_ble_eq_true rfl, Nat.le_of_ble_eq_true rfl⟩ (fun h => ⟨by unfold termsC; omega, rfl⟩) (fun h9_21 H locs q_21 hC hS => ?_)
      refine x_aload_n B hl dX10_terms_24 rfl ?_
      refine x_iload_n B hl dX10_terms_25 rfl ?_
      refine co_puti (f := 30) E hC hS 0 (by decide) cl_0 rfl (fun z h => List.mem_cons_of_mem _ (List.mem_append_left _ (List.mem_append_right _ h))) tyX10 tyX10_ok nmX10 9 (by decide) (hts (.fieldLink RX10 53 "BinRounds" "price" "I") (by decide +kernel)) (fun x hx => hx) rfl rfl dX10_terms_26 (by decide) ⟨rfl, rfl, rfl, rfl⟩ (by omega) (fun H locs hC hS => ?_)
      refine x_aload_n B hl dX10_terms_29 rfl ?_
      refine x_iload_n B hl dX10_terms_30 rfl ?_
      refine co_puti (f := 31) E hC hS 0 (by decide) cl_0 rfl (fun z h => List.mem_cons_of_mem _ (List.mem_append_left _ (List.mem_append_right _ h))) tyX10 tyX10_ok nmX10 10 (by decide) (hts (.fieldLink RX10 56 "BinRounds" "tolerance" "I") (by decide +kernel)) (fun x hx => hx) rfl rfl dX10_terms_31 (by decide) ⟨rfl, rfl, rfl, rfl⟩ (by omega) (fun H locs hC hS => ?_)
      exact w_widen (Nat.le_of_ble_eq_true rfl) (Nat.le_of_ble_eq_true rfl) (vx_ret (co_vret E hr hlk hC hS dX10_terms_34 ⟨(by unfold termsC; omega), rfl, rfl, rfl, (by first | trivial | omega)⟩))
    · refine cstm_call E hout hlk hK hC hS hl (c_require l hlt D cy d0 A la _ (z := 0) (Or.inl rfl)) (va_cwS 1 hts0 gX10_terms_X10_require rfl rfl rfl (by decide +kernel) ⟨Nat.le_of_ble_eq_true rfl, Nat.le_of_ble_eq_true rfl⟩) rfl rfl (Nat.le_of_ble_eq_true rfl) dX10_terms_21 ⟨Nat.le_of_ble_eq_true rfl, Nat.le_of_ble_eq_true rfl⟩ ⟨Nat.le_of_ble_eq_true rfl, Nat.le_of_ble_eq_true rfl⟩ (fun h => ⟨by unfold termsC; omega, rfl⟩) (fun h9_21 H locs q_21 hC hS => ?_)
      refine x_aload_n B hl dX10_terms_24 rfl ?_
      refine x_iload_n B hl dX10_terms_25 rfl ?_
      refine co_puti (f := 30) E hC hS 0 (by decide) cl_0 rfl (fun z h => List.mem_cons_of_mem _ (List.mem_append_left _ (List.mem_append_right _ h))) tyX10 tyX10_ok nmX10 9 (by decide) (hts (.fieldLink RX10 53 "BinRounds" "price" "I") (by decide +kernel)) (fun x hx => hx) rfl rfl dX10_terms_26 (by decide) ⟨rfl, rfl, rfl, rfl⟩ (by omega) (fun H locs hC hS => ?_)
      refine x_aload_n B hl dX10_terms_29 rfl ?_
      refine x_iload_n B hl dX10_terms_30 rfl ?_
      refine co_puti (f := 31) E hC hS 0 (by decide) cl_0 rfl (fun z h => List.mem_cons_of_mem _ (List.mem_append_left _ (List.mem_append_right _ h))) tyX10 tyX10_ok nmX10 10 (by decide) (hts (.fieldLink RX10 56 "BinRounds" "tolerance" "I") (by decide +kernel)) (fun x hx => hx) rfl rfl dX10_terms_31 (by decide) ⟨rfl, rfl, rfl, rfl⟩ (by omega) (fun H locs hC hS => ?_)
      exact w_widen (Nat.le_of_ble_eq_true rfl) (Nat.le_of_ble_eq_true rfl) (vx_ret (co_vret E hr hlk hC hS dX10_terms_34 ⟨(by unfold termsC; omega), rfl, rfl, rfl, (by first | trivial | omega)⟩))
set_option maxHeartbeats 4000000 in
set_option maxRecDepth 100000 in
theorem c_p_pay (l : Launch) (hlt : l.stackTraces = false) (D : va_G) (cy : Nat → ClassId) (d0 : Nat) (A : Nat → Prop) (la : Nat → Int → Nat) (σ : MS) {h : Int} {x : Int} (h_h : -2147483648 ≤ h ∧ h < 2147483648) (h_x : -9223372036854775808 ≤ x ∧ x < 9223372036854775808) (hn5 : 0 ≤ σ 5 0 ∧ σ 5 0 ≤ 1000) (hn11 : 0 ≤ σ 11 0 ∧ σ 11 0 ≤ 1000) (hn23 : 0 ≤ σ 23 0 ∧ σ 23 0 ≤ 1000) (hn27 : 0 ≤ σ 27 0 ∧ σ 27 0 ≤ 1000) (hn45 : 0 ≤ σ 45 0 ∧ σ 45 0 ≤ 600) (hlg : σ 58 0 = 0 ∧ σ 59 0 = 0)  : CT l yX10_pay wsX10_pay ({ frames := 8, cells := 16, slots := 256, locals := 124 } : Room) D cy d0 A [.ref (la 0 0), .int (iI h), .long (lI x)] la σ ((if payC σ h x = 1 then 1 else (if payC σ h x = 2 then 2 else 0))) (cPm (some (.long (lI (σ 9 h - (σ 10 h + x))))) la (payS σ h x) (True)) 16 256 := by
  refine ct_of (cc := cX10_pay) (nL := 5) (ret := (some .long)) (by decide) rfl (Nat.le_of_ble_eq_true rfl) ?_
  intro p e s m args below meth c ls E hout hr hlk hK hC hS hl
  have B := E.1
  have hml := E.2.1
  have hown := E.2.2.1
  have hts0 := E.2.2.2.1
  have hts := E.2.2.2.1
  have hw := hC.2.2.2.2.2.1
  refine x_aload_n B hl dX10_pay_0 rfl ?_
  refine x_iload_n B hl dX10_pay_1 rfl ?_
  refine ctm_call E hout hlk hK hC hS hl (κ := 0) (i := 0) (by decide) cl_0 rfl (c_houseAt l hlt D cy d0 A la _ (z := h) h_h (by omega) (by omega) hlg) (cwV 1 hts0 gX10_pay_X10_houseAt rfl rfl rfl (by decide +kernel) ⟨Nat.le_of_ble_eq_true rfl, Nat.le_of_ble_eq_true rfl⟩) rfl rfl (Nat.le_of_ble_eq_true rfl) dX10_pay_2 ⟨Nat.le_of_ble_eq_true rfl, Nat.le_of_ble_eq_true rfl⟩ ⟨Nat.le_of_ble_eq_true rfl, Nat.le_of_ble_eq_true rfl⟩ (fun h => ⟨by unfold payC; omega, rfl⟩) (fun h9_2 H locs hh1 hC hS => ?_)
  refine x_astore B hl dX10_pay_5 (by decide) (fun ls hl => ?_)
  refine x_lload_n B hl dX10_pay_7 rfl ?_
  refine x_lconst B dX10_pay_8 ?_
  refine lv_ldc2 (v := lI 1000000000) B.1 B.2 hown (hts (.constantLong RX10 313 (1000000000)) (by decide +kernel)) dX10_pay_9 ?_
  refine z_call ⟨B.1, B.2, hml, hown, hts0⟩ hl (c_isWithin l (v := x) (a := 1) (b := 1000000000) (by omega) (by omega) (by omega)) (va_cwS 3 hts0 gX10_pay_X10_isWithin rfl rfl rfl (by decide +kernel) ⟨Nat.le_of_ble_eq_true rfl, Nat.le_of_ble_eq_true rfl⟩) rfl rfl (Nat.le_of_ble_eq_true rfl) dX10_pay_12 ⟨Nat.le_of_ble_eq_true rfl, Nat.le_of_ble_eq_true rfl⟩ (fun q_12 => ?_)
  refine x_bool (fun b_12 => ?_) (fun b_12 => ?_)
  · refine cstm_call E hout hlk hK hC hS hl (c_require l hlt D cy d0 A la _ (z := 1) (Or.inr rfl)) (va_cwS 1 hts0 gX10_pay_X10_require rfl rfl rfl (by decide +kernel) ⟨Nat.le_of_ble_eq_true rfl, Nat.le_of_ble_eq_true rfl⟩) rfl rfl (Nat.le_of_ble_eq_true rfl) dX10_pay_15 ⟨Nat.le_of_ble_eq_true rfl, Nat.le_of_ble_eq_true rfl⟩ ⟨Nat.le_of_ble_eq_true rfl, Nat.le_of_ble_eq_true rfl⟩ (fun h => ⟨by unfold payC; omega, rfl⟩) (fun h9_15 H locs q_15 hC hS => ?_)
    refine x_aload B hl dX10_pay_18 rfl ?_
    refine x_dup B dX10_pay_20 rfl ?_
    refine co_getl (f := 10) E hC 5 (by decide) (cl_5 hh1) rfl (fun z h => List.mem_cons_of_mem _ (List.mem_append_left _ (List.mem_append_left _ (List.mem_append_left _ (List.mem_append_left _ (List.mem_append_right _ h)))))) 7 (by decide) (hts (.fieldLink RX10 315 "BinRounds$House" "allPaid" "J") (by decide +kernel)) (fun x hx => hx) dX10_pay_21 ⟨rfl, rfl⟩ rfl ?_
    refine x_lload_n B hl dX10_pay_24 rfl ?_
    refine x_ladd B dX10_pay_25 ?_
    refine co_putl (f := 10) E hC hS 5 (by decide) (cl_5 hh1) rfl (fun z h => List.mem_cons_of_mem _ (List.mem_append_left _ (List.mem_append_left _ (List.mem_append_left _ (List.mem_append_left _ (List.mem_append_right _ h)))))) tyX3 tyX3_ok nmX3 7 (by decide) (hts (.fieldLink RX10 315 "BinRounds$House" "allPaid" "J") (by decide +kernel)) (fun x hx => hx) rfl rfl dX10_pay_26 (by decide) ⟨rfl, rfl, rfl, rfl⟩  (fun H locs hC hS => ?_)
    refine x_aload B hl dX10_pay_29 rfl ?_
    refine co_getl (f := 9) E hC 5 (by decide) (cl_up (by decide) (cl_5 hh1)) rfl (fun z h => List.mem_cons_of_mem _ (List.mem_append_left _ (List.mem_append_left _ (List.mem_append_left _ (List.mem_append_left _ (List.mem_append_right _ h)))))) 6 (by decide) (hts (.fieldLink RX10 310 "BinRounds$House" "allBills" "J") (by decide +kernel)) (fun x hx => hx) dX10_pay_31 ⟨rfl, rfl⟩ (up_ne (by decide) rfl) ?_
    refine x_aload B hl dX10_pay_34 rfl ?_
    refine co_getl (f := 10) E hC 5 (by decide) (cl_up (by decide) (cl_5 hh1)) rfl (fun z h => List.mem_cons_of_mem _ (List.mem_append_left _ (List.mem_append_left _ (List.mem_append_left _ (List.mem_append_left _ (List.mem_append_right _ h)))))) 7 (by decide) (hts (.fieldLink RX10 315 "BinRounds$House" "allPaid" "J") (by decide +kernel)) (fun x hx => hx) dX10_pay_36 ⟨rfl, rfl⟩ up_s ?_
    refine x_lsub B dX10_pay_39 ?_
    exact w_widen (Nat.le_of_ble_eq_true rfl) (Nat.le_of_ble_eq_true rfl) (vx_ret (co_lret E hr hlk hC hS dX10_pay_40 ⟨(by unfold payC; omega), congrArg (fun z => some (Value.long z)) rfl, rfl, rfl, (by first | trivial | omega)⟩))
  · refine cstm_call E hout hlk hK hC hS hl (c_require l hlt D cy d0 A la _ (z := 0) (Or.inl rfl)) (va_cwS 1 hts0 gX10_pay_X10_require rfl rfl rfl (by decide +kernel) ⟨Nat.le_of_ble_eq_true rfl, Nat.le_of_ble_eq_true rfl⟩) rfl rfl (Nat.le_of_ble_eq_true rfl) dX10_pay_15 ⟨Nat.le_of_ble_eq_true rfl, Nat.le_of_ble_eq_true rfl⟩ ⟨Nat.le_of_ble_eq_true rfl, Nat.le_of_ble_eq_true rfl⟩ (fun h => ⟨by unfold payC; omega, rfl⟩) (fun h9_15 H locs q_15 hC hS => ?_)
    refine x_aload B hl dX10_pay_18 rfl ?_
    refine x_dup B dX10_pay_20 rfl ?_
    refine co_getl (f := 10) E hC 5 (by decide) (cl_5 hh1) rfl (fun z h => List.mem_cons_of_mem _ (List.mem_append_left _ (List.mem_append_left _ (List.mem_append_left _ (List.mem_append_left _ (List.mem_append_right _ h)))))) 7 (by decide) (hts (.fieldLink RX10 315 "BinRounds$House" "allPaid" "J") (by decide +kernel)) (fun x hx => hx) dX10_pay_21 ⟨rfl, rfl⟩ rfl ?_
    refine x_lload_n B hl dX10_pay_24 rfl ?_
    refine x_ladd B dX10_pay_25 ?_
    refine co_putl (f := 10) E hC hS 5 (by decide) (cl_5 hh1) rfl (fun z h => List.mem_cons_of_mem _ (List.mem_append_left _ (List.mem_append_left _ (List.mem_append_left _ (List.mem_append_left _ (List.mem_append_right _ h)))))) tyX3 tyX3_ok nmX3 7 (by decide) (hts (.fieldLink RX10 315 "BinRounds$House" "allPaid" "J") (by decide +kernel)) (fun x hx => hx) rfl rfl dX10_pay_26 (by decide) ⟨rfl, rfl, rfl, rfl⟩  (fun H locs hC hS => ?_)
    refine x_aload B hl dX10_pay_29 rfl ?_
    refine co_getl (f := 9) E hC 5 (by decide) (cl_up (by decide) (cl_5 hh1)) rfl (fun z h => List.mem_cons_of_mem _ (List.mem_append_left _ (List.mem_append_left _ (List.mem_append_left _ (List.mem_append_left _ (List.mem_append_right _ h)))))) 6 (by decide) (hts (.fieldLink RX10 310 "BinRounds$House" "allBills" "J") (by decide +kernel)) (fun x hx => hx) dX10_pay_31 ⟨rfl, rfl⟩ (up_ne (by decide) rfl) ?_
    refine x_aload B hl dX10_pay_34 rfl ?_
    refine co_getl (f := 10) E hC 5 (by decide) (cl_up (by decide) (cl_5 hh1)) rfl (fun z h => List.mem_cons_of_mem _ (List.mem_append_left _ (List.mem_append_left _ (List.mem_append_left _ (List.mem_append_left _ (List.mem_append_right _ h)))))) 7 (by decide) (hts (.fieldLink RX10 315 "BinRounds$House" "allPaid" "J") (by decide +kernel)) (fun x hx => hx) dX10_pay_36 ⟨rfl, rfl⟩ up_s ?_
    refine x_lsub B dX10_pay_39 ?_
    exact w_widen (Nat.le_of_ble_eq_true rfl) (Nat.le_of_ble_eq_true rfl) (vx_ret (co_lret E hr hlk hC hS dX10_pay_40 ⟨(by unfold payC; omega), congrArg (fun z => some (Value.long z)) rfl, rfl, rfl, (by first | trivial | omega)⟩))
set_option maxHeartbeats 4000000 in
set_option maxRecDepth 100000 in
theorem c_p_charged (l : Launch) (hlt : l.stackTraces = false) (D : va_G) (cy : Nat → ClassId) (d0 : Nat) (A : Nat → Prop) (la : Nat → Int → Nat) (σ : MS) {h : Int} (h_h : -2147483648 ≤ h ∧ h < 2147483648) (hn5 : 0 ≤ σ 5 0 ∧ σ 5 0 ≤ 1000) (hn11 : 0 ≤ σ 11 0 ∧ σ 11 0 ≤ 1000) (hn23 : 0 ≤ σ 23 0 ∧ σ 23 0 ≤ 1000) (hn27 : 0 ≤ σ 27 0 ∧ σ 27 0 ≤ 1000) (hn45 : 0 ≤ σ 45 0 ∧ σ 45 0 ≤ 600) (hlg : σ 58 0 = 0 ∧ σ 59 0 = 0)  : CT l yX10_charged wsX10_charged ({ frames := 8, cells := 16, slots := 256, locals := 124 } : Room) D cy d0 A [.ref (la 0 0), .int (iI h)] la σ ((if oneC h (σ 11 0) = 1 then 1 else 0)) (cPm (some (.long (lI (σ 50 h + σ 8 h)))) la (σ) (True)) 16 256 := by
  refine ct_of (cc := cX10_charged) (nL := 2) (ret := (some .long)) (by decide) rfl (Nat.le_of_ble_eq_true rfl) ?_
  intro p e s m args below meth c ls E hout hr hlk hK hC hS hl
  have B := E.1
  have hml := E.2.1
  have hown := E.2.2.1
  have hts0 := E.2.2.2.1
  have hts := E.2.2.2.1
  have hw := hC.2.2.2.2.2.1
  refine x_aload_n B hl dX10_charged_0 rfl ?_
  refine x_iload_n B hl dX10_charged_1 rfl ?_
  refine ctm_call E hout hlk hK hC hS hl (κ := 0) (i := 0) (by decide) cl_0 rfl (c_houseAt l hlt D cy d0 A la _ (z := h) h_h (by omega) (by omega) hlg) (cwV 1 hts0 gX10_charged_X10_houseAt rfl rfl rfl (by decide +kernel) ⟨Nat.le_of_ble_eq_true rfl, Nat.le_of_ble_eq_true rfl⟩) rfl rfl (Nat.le_of_ble_eq_true rfl) dX10_charged_2 ⟨Nat.le_of_ble_eq_true rfl, Nat.le_of_ble_eq_true rfl⟩ ⟨Nat.le_of_ble_eq_true rfl, Nat.le_of_ble_eq_true rfl⟩ (fun h => ⟨by unfold oneC; omega, rfl⟩) (fun h9_2 H locs hh1 hC hS => ?_)
  refine co_call E hK hC hS hl (κ := 5) (i := h) (by decide) (cl_5 hh1) rfl (c_allCharged l D cy d0 A la σ (h := h) hh1) (cwV 0 hts0 gX10_charged_X3_allCharged rfl rfl rfl (by decide +kernel) ⟨Nat.le_of_ble_eq_true rfl, Nat.le_of_ble_eq_true rfl⟩) rfl rfl (Nat.le_of_ble_eq_true rfl) dX10_charged_5 ⟨Nat.le_of_ble_eq_true rfl, Nat.le_of_ble_eq_true rfl⟩ (fun H locs q_5 hC hS => ?_)
  exact w_widen (Nat.le_of_ble_eq_true rfl) (Nat.le_of_ble_eq_true rfl) (vx_ret (co_lret E hr hlk hC hS dX10_charged_8 ⟨(by unfold oneC; omega), congrArg (fun z => some (Value.long z)) rfl, rfl, rfl, (by first | trivial | omega)⟩))
set_option maxHeartbeats 4000000 in
set_option maxRecDepth 100000 in
theorem c_p_when (l : Launch) (hlt : l.stackTraces = false) (D : va_G) (cy : Nat → ClassId) (d0 : Nat) (A : Nat → Prop) (la : Nat → Int → Nat) (σ : MS) {st : Int} {g : Int} {wk : Int} (h_st : -2147483648 ≤ st ∧ st < 2147483648) (h_g : -2147483648 ≤ g ∧ g < 2147483648) (h_wk : -2147483648 ≤ wk ∧ wk < 2147483648) (hn5 : 0 ≤ σ 5 0 ∧ σ 5 0 ≤ 1000) (hn11 : 0 ≤ σ 11 0 ∧ σ 11 0 ≤ 1000) (hn23 : 0 ≤ σ 23 0 ∧ σ 23 0 ≤ 1000) (hn27 : 0 ≤ σ 27 0 ∧ σ 27 0 ≤ 1000) (hn45 : 0 ≤ σ 45 0 ∧ σ 45 0 ≤ 600) (hlg : σ 58 0 = 0 ∧ σ 59 0 = 0) (h4 : ∀ j, 0 ≤ σ 4 j ∧ σ 4 j ≤ 3) (h3 : ∀ j, 0 ≤ σ 3 j ∧ σ 3 j ≤ 4) : CT l yX10_when wsX10_when ({ frames := 8, cells := 16, slots := 256, locals := 124 } : Room) D cy d0 A [.ref (la 0 0), .int (iI st), .int (iI g), .int (iI wk)] la σ ((if whenC σ st g wk = 1 then 1 else (if whenC σ st g wk = 2 then 2 else 0))) (cPm (some (.int (iI (sDay σ st g wk)))) la (σ) (True)) 16 256 := by
  refine ct_of (cc := cX10_when) (nL := 5) (ret := (some .int)) (by decide) rfl (Nat.le_of_ble_eq_true rfl) ?_
  intro p e s m args below meth c ls E hout hr hlk hK hC hS hl
  have B := E.1
  have hml := E.2.1
  have hown := E.2.2.1
  have hts0 := E.2.2.2.1
  have hts := E.2.2.2.1
  have hw := hC.2.2.2.2.2.1
  refine x_aload_n B hl dX10_when_0 rfl ?_
  refine x_iload_n B hl dX10_when_1 rfl ?_
  refine ctm_call E hout hlk hK hC hS hl (κ := 0) (i := 0) (by decide) cl_0 rfl (c_streetAt l hlt D cy d0 A la _ (z := st) h_st (by omega) (by omega) hlg) (cwV 1 hts0 gX10_when_X10_streetAt rfl rfl rfl (by decide +kernel) ⟨Nat.le_of_ble_eq_true rfl, Nat.le_of_ble_eq_true rfl⟩) rfl rfl (Nat.le_of_ble_eq_true rfl) dX10_when_2 ⟨Nat.le_of_ble_eq_true rfl, Nat.le_of_ble_eq_true rfl⟩ ⟨Nat.le_of_ble_eq_true rfl, Nat.le_of_ble_eq_true rfl⟩ (fun h => ⟨by unfold whenC; omega, rfl⟩) (fun h9_2 H locs hs1 hC hS => ?_)
  refine x_astore B hl dX10_when_5 (by decide) (fun ls hl => ?_)
  refine x_iload_n B hl dX10_when_7 rfl ?_
  refine z_call ⟨B.1, B.2, hml, hown, hts0⟩ hl (c_isGroup l (g := g) h_g) (va_cwS 1 hts0 gX10_when_X10_isGroup rfl rfl rfl (by decide +kernel) ⟨Nat.le_of_ble_eq_true rfl, Nat.le_of_ble_eq_true rfl⟩) rfl rfl (Nat.le_of_ble_eq_true rfl) dX10_when_8 ⟨Nat.le_of_ble_eq_true rfl, Nat.le_of_ble_eq_true rfl⟩ (fun q_8 => ?_)
  refine x_bool (fun b_8 => ?_) (fun b_8 => ?_)
  · refine cstm_call E hout hlk hK hC hS hl (c_require l hlt D cy d0 A la _ (z := 1) (Or.inr rfl)) (va_cwS 1 hts0 gX10_when_X10_require rfl rfl rfl (by decide +kernel) ⟨Nat.le_of_ble_eq_true rfl, Nat.le_of_ble_eq_true rfl⟩) rfl rfl (Nat.le_of_ble_eq_true rfl) dX10_when_11 ⟨Nat.le_of_ble_eq_true rfl, Nat.le_of_ble_eq_true rfl⟩ ⟨Nat.le_of_ble_eq_true rfl, Nat.le_of_ble_eq_true rfl⟩ (fun h => ⟨by unfold whenC; omega, rfl⟩) (fun h9_11 H locs q_11 hC hS => ?_)
    refine x_iload_n B hl dX10_when_14 rfl ?_
    refine x_i2l B dX10_when_15 (by omega) ?_
    refine x_lconst B dX10_when_16 ?_
    refine lv_ldc2 (v := lI 99) B.1 B.2 hown (hts (.constantLong RX10 103 (99)) (by decide +kernel)) dX10_when_17 ?_
    refine z_call ⟨B.1, B.2, hml, hown, hts0⟩ hl (c_isWithin l (v := wk) (a := 0) (b := 99) (by omega) (by omega) (by omega)) (va_cwS 3 hts0 gX10_when_X10_isWithin rfl rfl rfl (by decide +kernel) ⟨Nat.le_of_ble_eq_true rfl, Nat.le_of_ble_eq_true rfl⟩) rfl rfl (Nat.le_of_ble_eq_true rfl) dX10_when_20 ⟨Nat.le_of_ble_eq_true rfl, Nat.le_of_ble_eq_true rfl⟩ (fun q_20 => ?_)
    refine x_bool (fun b_20 => ?_) (fun b_20 => ?_)
    · refine cstm_call E hout hlk hK hC hS hl (c_require l hlt D cy d0 A la _ (z := 1) (Or.inr rfl)) (va_cwS 1 hts0 gX10_when_X10_require rfl rfl rfl (by decide +kernel) ⟨Nat.le_of_ble_eq_true rfl, Nat.le_of_ble_eq_true rfl⟩) rfl rfl (Nat.le_of_ble_eq_true rfl) dX10_when_23 ⟨Nat.le_of_ble_eq_true rfl, Nat.le_of_ble_eq_true rfl⟩ ⟨Nat.le_of_ble_eq_true rfl, Nat.le_of_ble_eq_true rfl⟩ (fun h => ⟨by unfold whenC; omega, rfl⟩) (fun h9_23 H locs q_23 hC hS => ?_)
      refine x_aload_n B hl dX10_when_26 rfl ?_
      refine x_aload B hl dX10_when_27 rfl ?_
      refine x_iload_n B hl dX10_when_29 rfl ?_
      refine x_iload_n B hl dX10_when_30 rfl ?_
      refine co_call E hK hC hS hl (κ := 0) (i := 0) (by decide) cl_0 rfl (c_roundDay l D cy d0 A la σ (st := st) (g := g) (wk := wk) hs1 (by omega) (by omega) (h4 _) (h3 _)) (cwV 3 hts0 gX10_when_X10_roundDay rfl rfl rfl (by decide +kernel) ⟨Nat.le_of_ble_eq_true rfl, Nat.le_of_ble_eq_true rfl⟩) rfl rfl (Nat.le_of_ble_eq_true rfl) dX10_when_31 ⟨Nat.le_of_ble_eq_true rfl, Nat.le_of_ble_eq_true rfl⟩ (fun H locs q_31 hC hS => ?_)
      exact w_widen (Nat.le_of_ble_eq_true rfl) (Nat.le_of_ble_eq_true rfl) (vx_ret (co_iret E hr rfl hlk hC hS dX10_when_34 ⟨(by unfold whenC; omega), congrArg (fun z => some (Value.int z)) rfl, rfl, rfl, (by first | trivial | omega)⟩))
    · refine cstm_call E hout hlk hK hC hS hl (c_require l hlt D cy d0 A la _ (z := 0) (Or.inl rfl)) (va_cwS 1 hts0 gX10_when_X10_require rfl rfl rfl (by decide +kernel) ⟨Nat.le_of_ble_eq_true rfl, Nat.le_of_ble_eq_true rfl⟩) rfl rfl (Nat.le_of_ble_eq_true rfl) dX10_when_23 ⟨Nat.le_of_ble_eq_true rfl, Nat.le_of_ble_eq_true rfl⟩ ⟨Nat.le_of_ble_eq_true rfl, Nat.le_of_ble_eq_true rfl⟩ (fun h => ⟨by unfold whenC; omega, rfl⟩) (fun h9_23 H locs q_23 hC hS => ?_)
      refine x_aload_n B hl dX10_when_26 rfl ?_
      refine x_aload B hl dX10_when_27 rfl ?_
      refine x_iload_n B hl dX10_when_29 rfl ?_
      refine x_iload_n B hl dX10_when_30 rfl ?_
      refine co_call E hK hC hS hl (κ := 0) (i := 0) (by decide) cl_0 rfl (c_roundDay l D cy d0 A la σ (st := st) (g := g) (wk := wk) hs1 (by omega) (by omega) (h4 _) (h3 _)) (cwV 3 hts0 gX10_when_X10_roundDay rfl rfl rfl (by decide +kernel) ⟨Nat.le_of_ble_eq_true rfl, Nat.le_of_ble_eq_true rfl⟩) rfl rfl (Nat.le_of_ble_eq_true rfl) dX10_when_31 ⟨Nat.le_of_ble_eq_true rfl, Nat.le_of_ble_eq_true rfl⟩ (fun H locs q_31 hC hS => ?_)
      exact w_widen (Nat.le_of_ble_eq_true rfl) (Nat.le_of_ble_eq_true rfl) (vx_ret (co_iret E hr rfl hlk hC hS dX10_when_34 ⟨(by unfold whenC; omega), congrArg (fun z => some (Value.int z)) rfl, rfl, rfl, (by first | trivial | omega)⟩))
  · refine cstm_call E hout hlk hK hC hS hl (c_require l hlt D cy d0 A la _ (z := 0) (Or.inl rfl)) (va_cwS 1 hts0 gX10_when_X10_require rfl rfl rfl (by decide +kernel) ⟨Nat.le_of_ble_eq_true rfl, Nat.le_of_ble_eq_true rfl⟩) rfl rfl (Nat.le_of_ble_eq_true rfl) dX10_when_11 ⟨Nat.le_of_ble_eq_true rfl, Nat.le_of_ble_eq_true rfl⟩ ⟨Nat.le_of_ble_eq_true rfl, Nat.le_of_ble_eq_true rfl⟩ (fun h => ⟨by unfold whenC; omega, rfl⟩) (fun h9_11 H locs q_11 hC hS => ?_)
    refine x_iload_n B hl dX10_when_14 rfl ?_
    refine x_i2l B dX10_when_15 (by omega) ?_
    refine x_lconst B dX10_when_16 ?_
    refine lv_ldc2 (v := lI 99) B.1 B.2 hown (hts (.constantLong RX10 103 (99)) (by decide +kernel)) dX10_when_17 ?_
    refine z_call ⟨B.1, B.2, hml, hown, hts0⟩ hl (c_isWithin l (v := wk) (a := 0) (b := 99) (by omega) (by omega) (by omega)) (va_cwS 3 hts0 gX10_when_X10_isWithin rfl rfl rfl (by decide +kernel) ⟨Nat.le_of_ble_eq_true rfl, Nat.le_of_ble_eq_true rfl⟩) rfl rfl (Nat.le_of_ble_eq_true rfl) dX10_when_20 ⟨Nat.le_of_ble_eq_true rfl, Nat.le_of_ble_eq_true rfl⟩ (fun q_20 => ?_)
    refine x_bool (fun b_20 => ?_) (fun b_20 => ?_)
    · refine cstm_call E hout hlk hK hC hS hl (c_require l hlt D cy d0 A la _ (z := 1) (Or.inr rfl)) (va_cwS 1 hts0 gX10_when_X10_require rfl rfl rfl (by decide +kernel) ⟨Nat.le_of_ble_eq_true rfl, Nat.le_of_ble_eq_true rfl⟩) rfl rfl (Nat.le_of_ble_eq_true rfl) dX10_when_23 ⟨Nat.le_of_ble_eq_true rfl, Nat.le_of_ble_eq_true rfl⟩ ⟨Nat.le_of_ble_eq_true rfl, Nat.le_of_ble_eq_true rfl⟩ (fun h => ⟨by unfold whenC; omega, rfl⟩) (fun h9_23 H locs q_23 hC hS => ?_)
      refine x_aload_n B hl dX10_when_26 rfl ?_
      refine x_aload B hl dX10_when_27 rfl ?_
      refine x_iload_n B hl dX10_when_29 rfl ?_
      refine x_iload_n B hl dX10_when_30 rfl ?_
      refine co_call E hK hC hS hl (κ := 0) (i := 0) (by decide) cl_0 rfl (c_roundDay l D cy d0 A la σ (st := st) (g := g) (wk := wk) hs1 (by omega) (by omega) (h4 _) (h3 _)) (cwV 3 hts0 gX10_when_X10_roundDay rfl rfl rfl (by decide +kernel) ⟨Nat.le_of_ble_eq_true rfl, Nat.le_of_ble_eq_true rfl⟩) rfl rfl (Nat.le_of_ble_eq_true rfl) dX10_when_31 ⟨Nat.le_of_ble_eq_true rfl, Nat.le_of_ble_eq_true rfl⟩ (fun H locs q_31 hC hS => ?_)
      exact w_widen (Nat.le_of_ble_eq_true rfl) (Nat.le_of_ble_eq_true rfl) (vx_ret (co_iret E hr rfl hlk hC hS dX10_when_34 ⟨(by unfold whenC; omega), congrArg (fun z => some (Value.int z)) rfl, rfl, rfl, (by first | trivial | omega)⟩))
    · refine cstm_call E hout hlk hK hC hS hl (c_require l hlt D cy d0 A la _ (z := 0) (Or.inl rfl)) (va_cwS 1 hts0 gX10_when_X10_require rfl rfl rfl (by decide +kernel) ⟨Nat.le_of_ble_eq_true rfl, Nat.le_of_ble_eq_true rfl⟩) rfl rfl (Nat.le_of_ble_eq_true rfl) dX10_when_23 ⟨Nat.le_of_ble_eq_true rfl, Nat.le_of_ble_eq_true rfl⟩ ⟨Nat.le_of_ble_eq_true rfl, Nat.le_of_ble_eq_true rfl⟩ (fun h => ⟨by unfold whenC; omega, rfl⟩) (fun h9_23 H locs q_23 hC hS => ?_)
      refine x_aload_n B hl dX10_when_26 rfl ?_
      refine x_aload B hl dX10_when_27 rfl ?_
      refine x_iload_n B hl dX10_when_29 rfl ?_
      refine x_iload_n B hl dX10_when_30 rfl ?_
      refine co_call E hK hC hS hl (κ := 0) (i := 0) (by decide) cl_0 rfl (c_roundDay l D cy d0 A la σ (st := st) (g := g) (wk := wk) hs1 (by omega) (by omega) (h4 _) (h3 _)) (cwV 3 hts0 gX10_when_X10_roundDay rfl rfl rfl (by decide +kernel) ⟨Nat.le_of_ble_eq_true rfl, Nat.le_of_ble_eq_true rfl⟩) rfl rfl (Nat.le_of_ble_eq_true rfl) dX10_when_31 ⟨Nat.le_of_ble_eq_true rfl, Nat.le_of_ble_eq_true rfl⟩ (fun H locs q_31 hC hS => ?_)
      exact w_widen (Nat.le_of_ble_eq_true rfl) (Nat.le_of_ble_eq_true rfl) (vx_ret (co_iret E hr rfl hlk hC hS dX10_when_34 ⟨(by unfold whenC; omega), congrArg (fun z => some (Value.int z)) rfl, rfl, rfl, (by first | trivial | omega)⟩))
set_option maxHeartbeats 4000000 in
set_option maxRecDepth 100000 in
theorem c_p_round (l : Launch) (hlt : l.stackTraces = false) (D : va_G) (cy : Nat → ClassId) (d0 : Nat) (A : Nat → Prop) (la : Nat → Int → Nat) (σ : MS) {st : Int} {g : Int} {wd : Int} {wk : Int} (h_st : -2147483648 ≤ st ∧ st < 2147483648) (h_g : -2147483648 ≤ g ∧ g < 2147483648) (h_wd : -2147483648 ≤ wd ∧ wd < 2147483648) (h_wk : -2147483648 ≤ wk ∧ wk < 2147483648) (hn5 : 0 ≤ σ 5 0 ∧ σ 5 0 ≤ 1000) (hn11 : 0 ≤ σ 11 0 ∧ σ 11 0 ≤ 1000) (hn23 : 0 ≤ σ 23 0 ∧ σ 23 0 ≤ 1000) (hn27 : 0 ≤ σ 27 0 ∧ σ 27 0 ≤ 1000) (hn45 : 0 ≤ σ 45 0 ∧ σ 45 0 ≤ 600) (hlg : σ 58 0 = 0 ∧ σ 59 0 = 0)  : CT l yX10_round wsX10_round ({ frames := 8, cells := 16, slots := 256, locals := 124 } : Room) D cy d0 A [.ref (la 0 0), .int (iI st), .int (iI g), .int (iI wd), .int (iI wk)] la σ ((if roundC σ st g wd wk = 1 then 1 else (if roundC σ st g wd wk = 2 then 2 else 0))) (cPm (none) la (roundS σ st g wd wk) (True)) 16 256 := by
  refine ct_of (cc := cX10_round) (nL := 6) (ret := none) (by decide) rfl (Nat.le_of_ble_eq_true rfl) ?_
  intro p e s m args below meth c ls E hout hr hlk hK hC hS hl
  have B := E.1
  have hml := E.2.1
  have hown := E.2.2.1
  have hts0 := E.2.2.2.1
  have hts := E.2.2.2.1
  have hw := hC.2.2.2.2.2.1
  refine x_aload_n B hl dX10_round_0 rfl ?_
  refine x_iload_n B hl dX10_round_1 rfl ?_
  refine ctm_call E hout hlk hK hC hS hl (κ := 0) (i := 0) (by decide) cl_0 rfl (c_streetAt l hlt D cy d0 A la _ (z := st) h_st (by omega) (by omega) hlg) (cwV 1 hts0 gX10_round_X10_streetAt rfl rfl rfl (by decide +kernel) ⟨Nat.le_of_ble_eq_true rfl, Nat.le_of_ble_eq_true rfl⟩) rfl rfl (Nat.le_of_ble_eq_true rfl) dX10_round_2 ⟨Nat.le_of_ble_eq_true rfl, Nat.le_of_ble_eq_true rfl⟩ ⟨Nat.le_of_ble_eq_true rfl, Nat.le_of_ble_eq_true rfl⟩ (fun h => ⟨by unfold roundC; omega, rfl⟩) (fun h9_2 H locs hs1 hC hS => ?_)
  refine x_astore B hl dX10_round_5 (by decide) (fun ls hl => ?_)
  refine x_iload_n B hl dX10_round_7 rfl ?_
  refine z_call ⟨B.1, B.2, hml, hown, hts0⟩ hl (c_isGroup l (g := g) h_g) (va_cwS 1 hts0 gX10_round_X10_isGroup rfl rfl rfl (by decide +kernel) ⟨Nat.le_of_ble_eq_true rfl, Nat.le_of_ble_eq_true rfl⟩) rfl rfl (Nat.le_of_ble_eq_true rfl) dX10_round_8 ⟨Nat.le_of_ble_eq_true rfl, Nat.le_of_ble_eq_true rfl⟩ (fun q_8 => ?_)
  refine x_bool (fun b_8 => ?_) (fun b_8 => ?_)
  · refine cstm_call E hout hlk hK hC hS hl (c_require l hlt D cy d0 A la _ (z := 1) (Or.inr rfl)) (va_cwS 1 hts0 gX10_round_X10_require rfl rfl rfl (by decide +kernel) ⟨Nat.le_of_ble_eq_true rfl, Nat.le_of_ble_eq_true rfl⟩) rfl rfl (Nat.le_of_ble_eq_true rfl) dX10_round_11 ⟨Nat.le_of_ble_eq_true rfl, Nat.le_of_ble_eq_true rfl⟩ ⟨Nat.le_of_ble_eq_true rfl, Nat.le_of_ble_eq_true rfl⟩ (fun h => ⟨by unfold roundC; omega, rfl⟩) (fun h9_11 H locs q_11 hC hS => ?_)
    refine x_iload_n B hl dX10_round_14 rfl ?_
    refine x_i2l B dX10_round_15 (by omega) ?_
    refine x_lconst B dX10_round_16 ?_
    refine lv_ldc2 (v := lI 4) B.1 B.2 hown (hts (.constantLong RX10 85 (4)) (by decide +kernel)) dX10_round_17 ?_
    refine z_call ⟨B.1, B.2, hml, hown, hts0⟩ hl (c_isWithin l (v := wd) (a := 0) (b := 4) (by omega) (by omega) (by omega)) (va_cwS 3 hts0 gX10_round_X10_isWithin rfl rfl rfl (by decide +kernel) ⟨Nat.le_of_ble_eq_true rfl, Nat.le_of_ble_eq_true rfl⟩) rfl rfl (Nat.le_of_ble_eq_true rfl) dX10_round_20 ⟨Nat.le_of_ble_eq_true rfl, Nat.le_of_ble_eq_true rfl⟩ (fun q_20 => ?_)
    refine x_bool (fun b_20 => ?_) (fun b_20 => ?_)
    · refine cstm_call E hout hlk hK hC hS hl (c_require l hlt D cy d0 A la _ (z := 1) (Or.inr rfl)) (va_cwS 1 hts0 gX10_round_X10_require rfl rfl rfl (by decide +kernel) ⟨Nat.le_of_ble_eq_true rfl, Nat.le_of_ble_eq_true rfl⟩) rfl rfl (Nat.le_of_ble_eq_true rfl) dX10_round_23 ⟨Nat.le_of_ble_eq_true rfl, Nat.le_of_ble_eq_true rfl⟩ ⟨Nat.le_of_ble_eq_true rfl, Nat.le_of_ble_eq_true rfl⟩ (fun h => ⟨by unfold roundC; omega, rfl⟩) (fun h9_23 H locs q_23 hC hS => ?_)
      refine x_iload B hl dX10_round_26 rfl ?_
      refine x_i2l B dX10_round_28 (by omega) ?_
      refine x_lconst B dX10_round_29 ?_
      refine lv_ldc2 (v := lI 3) B.1 B.2 hown (hts (.constantLong RX10 91 (3)) (by decide +kernel)) dX10_round_30 ?_
      refine z_call ⟨B.1, B.2, hml, hown, hts0⟩ hl (c_isWithin l (v := wk) (a := 0) (b := 3) (by omega) (by omega) (by omega)) (va_cwS 3 hts0 gX10_round_X10_isWithin rfl rfl rfl (by decide +kernel) ⟨Nat.le_of_ble_eq_true rfl, Nat.le_of_ble_eq_true rfl⟩) rfl rfl (Nat.le_of_ble_eq_true rfl) dX10_round_33 ⟨Nat.le_of_ble_eq_true rfl, Nat.le_of_ble_eq_true rfl⟩ (fun q_33 => ?_)
      refine x_bool (fun b_33 => ?_) (fun b_33 => ?_)
      · refine cstm_call E hout hlk hK hC hS hl (c_require l hlt D cy d0 A la _ (z := 1) (Or.inr rfl)) (va_cwS 1 hts0 gX10_round_X10_require rfl rfl rfl (by decide +kernel) ⟨Nat.le_of_ble_eq_true rfl, Nat.le_of_ble_eq_true rfl⟩) rfl rfl (Nat.le_of_ble_eq_true rfl) dX10_round_36 ⟨Nat.le_of_ble_eq_true rfl, Nat.le_of_ble_eq_true rfl⟩ ⟨Nat.le_of_ble_eq_true rfl, Nat.le_of_ble_eq_true rfl⟩ (fun h => ⟨by unfold roundC; omega, rfl⟩) (fun h9_36 H locs q_36 hC hS => ?_)
        refine x_aload B hl dX10_round_39 rfl ?_
        refine x_iload_n B hl dX10_round_41 rfl ?_
        refine x_iload_n B hl dX10_round_42 rfl ?_
        refine x_iload B hl dX10_round_43 rfl ?_
        refine co_call E hK hC hS hl (κ := 4) (i := st) (by decide) (cl_4 hs1) rfl (c_setRound l D cy d0 A la σ (st := st) (g := g) (wd := wd) (wk := wk) hs1 (by omega) (by omega) (by omega)) (cwV 3 hts0 gX10_round_X7_setRound rfl rfl rfl (by decide +kernel) ⟨Nat.le_of_ble_eq_true rfl, Nat.le_of_ble_eq_true rfl⟩) rfl rfl (Nat.le_of_ble_eq_true rfl) dX10_round_45 ⟨Nat.le_of_ble_eq_true rfl, Nat.le_of_ble_eq_true rfl⟩ (fun H locs q_45 hC hS => ?_)
        exact w_widen (Nat.le_of_ble_eq_true rfl) (Nat.le_of_ble_eq_true rfl) (vx_ret (co_vret E hr hlk hC hS dX10_round_48 ⟨(by unfold roundC; omega), rfl, rfl, rfl, (by first | trivial | omega)⟩))
      · refine cstm_call E hout hlk hK hC hS hl (c_require l hlt D cy d0 A la _ (z := 0) (Or.inl rfl)) (va_cwS 1 hts0 gX10_round_X10_require rfl rfl rfl (by decide +kernel) ⟨Nat.le_of_ble_eq_true rfl, Nat.le_of_ble_eq_true rfl⟩) rfl rfl (Nat.le_of_ble_eq_true rfl) dX10_round_36 ⟨Nat.le_of_ble_eq_true rfl, Nat.le_of_ble_eq_true rfl⟩ ⟨Nat.le_of_ble_eq_true rfl, Nat.le_of_ble_eq_true rfl⟩ (fun h => ⟨by unfold roundC; omega, rfl⟩) (fun h9_36 H locs q_36 hC hS => ?_)
        refine x_aload B hl dX10_round_39 rfl ?_
        refine x_iload_n B hl dX10_round_41 rfl ?_
        refine x_iload_n B hl dX10_round_42 rfl ?_
        refine x_iload B hl dX10_round_43 rfl ?_
        refine co_call E hK hC hS hl (κ := 4) (i := st) (by decide) (cl_4 hs1) rfl (c_setRound l D cy d0 A la σ (st := st) (g := g) (wd := wd) (wk := wk) hs1 (by omega) (by omega) (by omega)) (cwV 3 hts0 gX10_round_X7_setRound rfl rfl rfl (by decide +kernel) ⟨Nat.le_of_ble_eq_true rfl, Nat.le_of_ble_eq_true rfl⟩) rfl rfl (Nat.le_of_ble_eq_true rfl) dX10_round_45 ⟨Nat.le_of_ble_eq_true rfl, Nat.le_of_ble_eq_true rfl⟩ (fun H locs q_45 hC hS => ?_)
        exact w_widen (Nat.le_of_ble_eq_true rfl) (Nat.le_of_ble_eq_true rfl) (vx_ret (co_vret E hr hlk hC hS dX10_round_48 ⟨(by unfold roundC; omega), rfl, rfl, rfl, (by first | trivial | omega)⟩))
    · refine cstm_call E hout hlk hK hC hS hl (c_require l hlt D cy d0 A la _ (z := 0) (Or.inl rfl)) (va_cwS 1 hts0 gX10_round_X10_require rfl rfl rfl (by decide +kernel) ⟨Nat.le_of_ble_eq_true rfl, Nat.le_of_ble_eq_true rfl⟩) rfl rfl (Nat.le_of_ble_eq_true rfl) dX10_round_23 ⟨Nat.le_of_ble_eq_true rfl, Nat.le_of_ble_eq_true rfl⟩ ⟨Nat.le_of_ble_eq_true rfl, Nat.le_of_ble_eq_true rfl⟩ (fun h => ⟨by unfold roundC; omega, rfl⟩) (fun h9_23 H locs q_23 hC hS => ?_)
      refine x_iload B hl dX10_round_26 rfl ?_
      refine x_i2l B dX10_round_28 (by omega) ?_
      refine x_lconst B dX10_round_29 ?_
      refine lv_ldc2 (v := lI 3) B.1 B.2 hown (hts (.constantLong RX10 91 (3)) (by decide +kernel)) dX10_round_30 ?_
      refine z_call ⟨B.1, B.2, hml, hown, hts0⟩ hl (c_isWithin l (v := wk) (a := 0) (b := 3) (by omega) (by omega) (by omega)) (va_cwS 3 hts0 gX10_round_X10_isWithin rfl rfl rfl (by decide +kernel) ⟨Nat.le_of_ble_eq_true rfl, Nat.le_of_ble_eq_true rfl⟩) rfl rfl (Nat.le_of_ble_eq_true rfl) dX10_round_33 ⟨Nat.le_of_ble_eq_true rfl, Nat.le_of_ble_eq_true rfl⟩ (fun q_33 => ?_)
      refine x_bool (fun b_33 => ?_) (fun b_33 => ?_)
      · refine cstm_call E hout hlk hK hC hS hl (c_require l hlt D cy d0 A la _ (z := 1) (Or.inr rfl)) (va_cwS 1 hts0 gX10_round_X10_require rfl rfl rfl (by decide +kernel) ⟨Nat.le_of_ble_eq_true rfl, Nat.le_of_ble_eq_true rfl⟩) rfl rfl (Nat.le_of_ble_eq_true rfl) dX10_round_36 ⟨Nat.le_of_ble_eq_true rfl, Nat.le_of_ble_eq_true rfl⟩ ⟨Nat.le_of_ble_eq_true rfl, Nat.le_of_ble_eq_true rfl⟩ (fun h => ⟨by unfold roundC; omega, rfl⟩) (fun h9_36 H locs q_36 hC hS => ?_)
        refine x_aload B hl dX10_round_39 rfl ?_
        refine x_iload_n B hl dX10_round_41 rfl ?_
        refine x_iload_n B hl dX10_round_42 rfl ?_
        refine x_iload B hl dX10_round_43 rfl ?_
        refine co_call E hK hC hS hl (κ := 4) (i := st) (by decide) (cl_4 hs1) rfl (c_setRound l D cy d0 A la σ (st := st) (g := g) (wd := wd) (wk := wk) hs1 (by omega) (by omega) (by omega)) (cwV 3 hts0 gX10_round_X7_setRound rfl rfl rfl (by decide +kernel) ⟨Nat.le_of_ble_eq_true rfl, Nat.le_of_ble_eq_true rfl⟩) rfl rfl (Nat.le_of_ble_eq_true rfl) dX10_round_45 ⟨Nat.le_of_ble_eq_true rfl, Nat.le_of_ble_eq_true rfl⟩ (fun H locs q_45 hC hS => ?_)
        exact w_widen (Nat.le_of_ble_eq_true rfl) (Nat.le_of_ble_eq_true rfl) (vx_ret (co_vret E hr hlk hC hS dX10_round_48 ⟨(by unfold roundC; omega), rfl, rfl, rfl, (by first | trivial | omega)⟩))
      · refine cstm_call E hout hlk hK hC hS hl (c_require l hlt D cy d0 A la _ (z := 0) (Or.inl rfl)) (va_cwS 1 hts0 gX10_round_X10_require rfl rfl rfl (by decide +kernel) ⟨Nat.le_of_ble_eq_true rfl, Nat.le_of_ble_eq_true rfl⟩) rfl rfl (Nat.le_of_ble_eq_true rfl) dX10_round_36 ⟨Nat.le_of_ble_eq_true rfl, Nat.le_of_ble_eq_true rfl⟩ ⟨Nat.le_of_ble_eq_true rfl, Nat.le_of_ble_eq_true rfl⟩ (fun h => ⟨by unfold roundC; omega, rfl⟩) (fun h9_36 H locs q_36 hC hS => ?_)
        refine x_aload B hl dX10_round_39 rfl ?_
        refine x_iload_n B hl dX10_round_41 rfl ?_
        refine x_iload_n B hl dX10_round_42 rfl ?_
        refine x_iload B hl dX10_round_43 rfl ?_
        refine co_call E hK hC hS hl (κ := 4) (i := st) (by decide) (cl_4 hs1) rfl (c_setRound l D cy d0 A la σ (st := st) (g := g) (wd := wd) (wk := wk) hs1 (by omega) (by omega) (by omega)) (cwV 3 hts0 gX10_round_X7_setRound rfl rfl rfl (by decide +kernel) ⟨Nat.le_of_ble_eq_true rfl, Nat.le_of_ble_eq_true rfl⟩) rfl rfl (Nat.le_of_ble_eq_true rfl) dX10_round_45 ⟨Nat.le_of_ble_eq_true rfl, Nat.le_of_ble_eq_true rfl⟩ (fun H locs q_45 hC hS => ?_)
        exact w_widen (Nat.le_of_ble_eq_true rfl) (Nat.le_of_ble_eq_true rfl) (vx_ret (co_vret E hr hlk hC hS dX10_round_48 ⟨(by unfold roundC; omega), rfl, rfl, rfl, (by first | trivial | omega)⟩))
  · refine cstm_call E hout hlk hK hC hS hl (c_require l hlt D cy d0 A la _ (z := 0) (Or.inl rfl)) (va_cwS 1 hts0 gX10_round_X10_require rfl rfl rfl (by decide +kernel) ⟨Nat.le_of_ble_eq_true rfl, Nat.le_of_ble_eq_true rfl⟩) rfl rfl (Nat.le_of_ble_eq_true rfl) dX10_round_11 ⟨Nat.le_of_ble_eq_true rfl, Nat.le_of_ble_eq_true rfl⟩ ⟨Nat.le_of_ble_eq_true rfl, Nat.le_of_ble_eq_true rfl⟩ (fun h => ⟨by unfold roundC; omega, rfl⟩) (fun h9_11 H locs q_11 hC hS => ?_)
    refine x_iload_n B hl dX10_round_14 rfl ?_
    refine x_i2l B dX10_round_15 (by omega) ?_
    refine x_lconst B dX10_round_16 ?_
    refine lv_ldc2 (v := lI 4) B.1 B.2 hown (hts (.constantLong RX10 85 (4)) (by decide +kernel)) dX10_round_17 ?_
    refine z_call ⟨B.1, B.2, hml, hown, hts0⟩ hl (c_isWithin l (v := wd) (a := 0) (b := 4) (by omega) (by omega) (by omega)) (va_cwS 3 hts0 gX10_round_X10_isWithin rfl rfl rfl (by decide +kernel) ⟨Nat.le_of_ble_eq_true rfl, Nat.le_of_ble_eq_true rfl⟩) rfl rfl (Nat.le_of_ble_eq_true rfl) dX10_round_20 ⟨Nat.le_of_ble_eq_true rfl, Nat.le_of_ble_eq_true rfl⟩ (fun q_20 => ?_)
    refine x_bool (fun b_20 => ?_) (fun b_20 => ?_)
    · refine cstm_call E hout hlk hK hC hS hl (c_require l hlt D cy d0 A la _ (z := 1) (Or.inr rfl)) (va_cwS 1 hts0 gX10_round_X10_require rfl rfl rfl (by decide +kernel) ⟨Nat.le_of_ble_eq_true rfl, Nat.le_of_ble_eq_true rfl⟩) rfl rfl (Nat.le_of_ble_eq_true rfl) dX10_round_23 ⟨Nat.le_of_ble_eq_true rfl, Nat.le_of_ble_eq_true rfl⟩ ⟨Nat.le_of_ble_eq_true rfl, Nat.le_of_ble_eq_true rfl⟩ (fun h => ⟨by unfold roundC; omega, rfl⟩) (fun h9_23 H locs q_23 hC hS => ?_)
      refine x_iload B hl dX10_round_26 rfl ?_
      refine x_i2l B dX10_round_28 (by omega) ?_
      refine x_lconst B dX10_round_29 ?_
      refine lv_ldc2 (v := lI 3) B.1 B.2 hown (hts (.constantLong RX10 91 (3)) (by decide +kernel)) dX10_round_30 ?_
      refine z_call ⟨B.1, B.2, hml, hown, hts0⟩ hl (c_isWithin l (v := wk) (a := 0) (b := 3) (by omega) (by omega) (by omega)) (va_cwS 3 hts0 gX10_round_X10_isWithin rfl rfl rfl (by decide +kernel) ⟨Nat.le_of_ble_eq_true rfl, Nat.le_of_ble_eq_true rfl⟩) rfl rfl (Nat.le_of_ble_eq_true rfl) dX10_round_33 ⟨Nat.le_of_ble_eq_true rfl, Nat.le_of_ble_eq_true rfl⟩ (fun q_33 => ?_)
      refine x_bool (fun b_33 => ?_) (fun b_33 => ?_)
      · refine cstm_call E hout hlk hK hC hS hl (c_require l hlt D cy d0 A la _ (z := 1) (Or.inr rfl)) (va_cwS 1 hts0 gX10_round_X10_require rfl rfl rfl (by decide +kernel) ⟨Nat.le_of_ble_eq_true rfl, Nat.le_of_ble_eq_true rfl⟩) rfl rfl (Nat.le_of_ble_eq_true rfl) dX10_round_36 ⟨Nat.le_of_ble_eq_true rfl, Nat.le_of_ble_eq_true rfl⟩ ⟨Nat.le_of_ble_eq_true rfl, Nat.le_of_ble_eq_true rfl⟩ (fun h => ⟨by unfold roundC; omega, rfl⟩) (fun h9_36 H locs q_36 hC hS => ?_)
        refine x_aload B hl dX10_round_39 rfl ?_
        refine x_iload_n B hl dX10_round_41 rfl ?_
        refine x_iload_n B hl dX10_round_42 rfl ?_
        refine x_iload B hl dX10_round_43 rfl ?_
        refine co_call E hK hC hS hl (κ := 4) (i := st) (by decide) (cl_4 hs1) rfl (c_setRound l D cy d0 A la σ (st := st) (g := g) (wd := wd) (wk := wk) hs1 (by omega) (by omega) (by omega)) (cwV 3 hts0 gX10_round_X7_setRound rfl rfl rfl (by decide +kernel) ⟨Nat.le_of_ble_eq_true rfl, Nat.le_of_ble_eq_true rfl⟩) rfl rfl (Nat.le_of_ble_eq_true rfl) dX10_round_45 ⟨Nat.le_of_ble_eq_true rfl, Nat.le_of_ble_eq_true rfl⟩ (fun H locs q_45 hC hS => ?_)
        exact w_widen (Nat.le_of_ble_eq_true rfl) (Nat.le_of_ble_eq_true rfl) (vx_ret (co_vret E hr hlk hC hS dX10_round_48 ⟨(by unfold roundC; omega), rfl, rfl, rfl, (by first | trivial | omega)⟩))
      · refine cstm_call E hout hlk hK hC hS hl (c_require l hlt D cy d0 A la _ (z := 0) (Or.inl rfl)) (va_cwS 1 hts0 gX10_round_X10_require rfl rfl rfl (by decide +kernel) ⟨Nat.le_of_ble_eq_true rfl, Nat.le_of_ble_eq_true rfl⟩) rfl rfl (Nat.le_of_ble_eq_true rfl) dX10_round_36 ⟨Nat.le_of_ble_eq_true rfl, Nat.le_of_ble_eq_true rfl⟩ ⟨Nat.le_of_ble_eq_true rfl, Nat.le_of_ble_eq_true rfl⟩ (fun h => ⟨by unfold roundC; omega, rfl⟩) (fun h9_36 H locs q_36 hC hS => ?_)
        refine x_aload B hl dX10_round_39 rfl ?_
        refine x_iload_n B hl dX10_round_41 rfl ?_
        refine x_iload_n B hl dX10_round_42 rfl ?_
        refine x_iload B hl dX10_round_43 rfl ?_
        refine co_call E hK hC hS hl (κ := 4) (i := st) (by decide) (cl_4 hs1) rfl (c_setRound l D cy d0 A la σ (st := st) (g := g) (wd := wd) (wk := wk) hs1 (by omega) (by omega) (by omega)) (cwV 3 hts0 gX10_round_X7_setRound rfl rfl rfl (by decide +kernel) ⟨Nat.le_of_ble_eq_true rfl, Nat.le_of_ble_eq_true rfl⟩) rfl rfl (Nat.le_of_ble_eq_true rfl) dX10_round_45 ⟨Nat.le_of_ble_eq_true rfl, Nat.le_of_ble_eq_true rfl⟩ (fun H locs q_45 hC hS => ?_)
        exact w_widen (Nat.le_of_ble_eq_true rfl) (Nat.le_of_ble_eq_true rfl) (vx_ret (co_vret E hr hlk hC hS dX10_round_48 ⟨(by unfold roundC; omega), rfl, rfl, rfl, (by first | trivial | omega)⟩))
    · refine cstm_call E hout hlk hK hC hS hl (c_require l hlt D cy d0 A la _ (z := 0) (Or.inl rfl)) (va_cwS 1 hts0 gX10_round_X10_require rfl rfl rfl (by decide +kernel) ⟨Nat.le_of_ble_eq_true rfl, Nat.le_of_ble_eq_true rfl⟩) rfl rfl (Nat.le_of_ble_eq_true rfl) dX10_round_23 ⟨Nat.le_of_ble_eq_true rfl, Nat.le_of_ble_eq_true rfl⟩ ⟨Nat.le_of_ble_eq_true rfl, Nat.le_of_ble_eq_true rfl⟩ (fun h => ⟨by unfold roundC; omega, rfl⟩) (fun h9_23 H locs q_23 hC hS => ?_)
      refine x_iload B hl dX10_round_26 rfl ?_
      refine x_i2l B dX10_round_28 (by omega) ?_
      refine x_lconst B dX10_round_29 ?_
      refine lv_ldc2 (v := lI 3) B.1 B.2 hown (hts (.constantLong RX10 91 (3)) (by decide +kernel)) dX10_round_30 ?_
      refine z_call ⟨B.1, B.2, hml, hown, hts0⟩ hl (c_isWithin l (v := wk) (a := 0) (b := 3) (by omega) (by omega) (by omega)) (va_cwS 3 hts0 gX10_round_X10_isWithin rfl rfl rfl (by decide +kernel) ⟨Nat.le_of_ble_eq_true rfl, Nat.le_of_ble_eq_true rfl⟩) rfl rfl (Nat.le_of_ble_eq_true rfl) dX10_round_33 ⟨Nat.le_of_ble_eq_true rfl, Nat.le_of_ble_eq_true rfl⟩ (fun q_33 => ?_)
      refine x_bool (fun b_33 => ?_) (fun b_33 => ?_)
      · refine cstm_call E hout hlk hK hC hS hl (c_require l hlt D cy d0 A la _ (z := 1) (Or.inr rfl)) (va_cwS 1 hts0 gX10_round_X10_require rfl rfl rfl (by decide +kernel) ⟨Nat.le_of_ble_eq_true rfl, Nat.le_of_ble_eq_true rfl⟩) rfl rfl (Nat.le_of_ble_eq_true rfl) dX10_round_36 ⟨Nat.le_of_ble_eq_true rfl, Nat.le_of_ble_eq_true rfl⟩ ⟨Nat.le_of_ble_eq_true rfl, Nat.le_of_ble_eq_true rfl⟩ (fun h => ⟨by unfold roundC; omega, rfl⟩) (fun h9_36 H locs q_36 hC hS => ?_)
        refine x_aload B hl dX10_round_39 rfl ?_
        refine x_iload_n B hl dX10_round_41 rfl ?_
        refine x_iload_n B hl dX10_round_42 rfl ?_
        refine x_iload B hl dX10_round_43 rfl ?_
        refine co_call E hK hC hS hl (κ := 4) (i := st) (by decide) (cl_4 hs1) rfl (c_setRound l D cy d0 A la σ (st := st) (g := g) (wd := wd) (wk := wk) hs1 (by omega) (by omega) (by omega)) (cwV 3 hts0 gX10_round_X7_setRound rfl rfl rfl (by decide +kernel) ⟨Nat.le_of_ble_eq_true rfl, Nat.le_of_ble_eq_true rfl⟩) rfl rfl (Nat.le_of_ble_eq_true rfl) dX10_round_45 ⟨Nat.le_of_ble_eq_true rfl, Nat.le_of_ble_eq_true rfl⟩ (fun H locs q_45 hC hS => ?_)
        exact w_widen (Nat.le_of_ble_eq_true rfl) (Nat.le_of_ble_eq_true rfl) (vx_ret (co_vret E hr hlk hC hS dX10_round_48 ⟨(by unfold roundC; omega), rfl, rfl, rfl, (by first | trivial | omega)⟩))
      · refine cstm_call E hout hlk hK hC hS hl (c_require l hlt D cy d0 A la _ (z := 0) (Or.inl rfl)) (va_cwS 1 hts0 gX10_round_X10_require rfl rfl rfl (by decide +kernel) ⟨Nat.le_of_ble_eq_true rfl, Nat.le_of_ble_eq_true rfl⟩) rfl rfl (Nat.le_of_ble_eq_true rfl) dX10_round_36 ⟨Nat.le_of_ble_eq_true rfl, Nat.le_of_ble_eq_true rfl⟩ ⟨Nat.le_of_ble_eq_true rfl, Nat.le_of_ble_eq_true rfl⟩ (fun h => ⟨by unfold roundC; omega, rfl⟩) (fun h9_36 H locs q_36 hC hS => ?_)
        refine x_aload B hl dX10_round_39 rfl ?_
        refine x_iload_n B hl dX10_round_41 rfl ?_
        refine x_iload_n B hl dX10_round_42 rfl ?_
        refine x_iload B hl dX10_round_43 rfl ?_
        refine co_call E hK hC hS hl (κ := 4) (i := st) (by decide) (cl_4 hs1) rfl (c_setRound l D cy d0 A la σ (st := st) (g := g) (wd := wd) (wk := wk) hs1 (by omega) (by omega) (by omega)) (cwV 3 hts0 gX10_round_X7_setRound rfl rfl rfl (by decide +kernel) ⟨Nat.le_of_ble_eq_true rfl, Nat.le_of_ble_eq_true rfl⟩) rfl rfl (Nat.le_of_ble_eq_true rfl) dX10_round_45 ⟨Nat.le_of_ble_eq_true rfl, Nat.le_of_ble_eq_true rfl⟩ (fun H locs q_45 hC hS => ?_)
        exact w_widen (Nat.le_of_ble_eq_true rfl) (Nat.le_of_ble_eq_true rfl) (vx_ret (co_vret E hr hlk hC hS dX10_round_48 ⟨(by unfold roundC; omega), rfl, rfl, rfl, (by first | trivial | omega)⟩))
set_option maxHeartbeats 4000000 in
set_option maxRecDepth 100000 in
theorem c_p_holiday (l : Launch) (hlt : l.stackTraces = false) (D : va_G) (cy : Nat → ClassId) (d0 : Nat) (A : Nat → Prop) (la : Nat → Int → Nat) (σ : MS) {z : Int} {v : Int} (h_z : -2147483648 ≤ z ∧ z < 2147483648) (h_v : v = 0 ∨ v = 1) (hn5 : 0 ≤ σ 5 0 ∧ σ 5 0 ≤ 1000) (hn11 : 0 ≤ σ 11 0 ∧ σ 11 0 ≤ 1000) (hn23 : 0 ≤ σ 23 0 ∧ σ 23 0 ≤ 1000) (hn27 : 0 ≤ σ 27 0 ∧ σ 27 0 ≤ 1000) (hn45 : 0 ≤ σ 45 0 ∧ σ 45 0 ≤ 600) (hlg : σ 58 0 = 0 ∧ σ 59 0 = 0) (hop : 0 ≤ σ 1 0 ∧ σ 1 0 ≤ 699) : CT l yX10_holiday wsX10_holiday ({ frames := 7, cells := 16, slots := 256, locals := 102 } : Room) D cy d0 A [.ref (la 0 0), .int (iI z), .int (iI v)] la σ ((if holidayC σ z = 1 then 2 else 0)) (cPm (some (.int (iI (holidayR σ z v)))) la (if σ 2 z = v then σ else up σ 2 z v) (True)) 16 256 := by
  refine ct_of (cc := cX10_holiday) (nL := 3) (ret := (some .boolean)) (by decide) rfl (Nat.le_of_ble_eq_true rfl) ?_
  intro p e s m args below meth c ls E hout hr hlk hK hC hS hl
  have B := E.1
  have hml := E.2.1
  have hown := E.2.2.1
  have hts0 := E.2.2.2.1
  have hts := E.2.2.2.1
  have hw := hC.2.2.2.2.2.1
  refine x_iload_n B hl dX10_holiday_0 rfl ?_
  refine x_i2l B dX10_holiday_1 (by omega) ?_
  refine x_aload_n B hl dX10_holiday_2 rfl ?_
  refine co_geti (f := 1) E hC 0 (by decide) cl_0 rfl (fun z h => List.mem_cons_of_mem _ (List.mem_append_left _ (List.mem_append_left _ (List.mem_append_right _ h)))) 8 (by decide) (hts (.fieldLink RX10 49 "BinRounds" "open" "I") (by decide +kernel)) (fun x hx => hx) dX10_holiday_3 ⟨rfl, rfl, rfl⟩ rfl (fun r_3 => ?_)
  refine x_i2l B dX10_holiday_6 (by omega) ?_
  refine lv_ldc2 (v := lI 699) B.1 B.2 hown (hts (.constantLong RX10 97 (699)) (by decide +kernel)) dX10_holiday_7 ?_
  refine z_call ⟨B.1, B.2, hml, hown, hts0⟩ hl (c_isWithin l (v := z) (a := (σ 1 0)) (b := 699) (by omega) (by omega) (by omega)) (va_cwS 3 hts0 gX10_holiday_X10_isWithin rfl rfl rfl (by decide +kernel) ⟨Nat.le_of_ble_eq_true rfl, Nat.le_of_ble_eq_true rfl⟩) rfl rfl (Nat.le_of_ble_eq_true rfl) dX10_holiday_10 ⟨Nat.le_of_ble_eq_true rfl, Nat.le_of_ble_eq_true rfl⟩ (fun q_10 => ?_)
  refine x_bool (fun b_10 => ?_) (fun b_10 => ?_)
  · refine cstm_call E hout hlk hK hC hS hl (c_require l hlt D cy d0 A la _ (z := 1) (Or.inr rfl)) (va_cwS 1 hts0 gX10_holiday_X10_require rfl rfl rfl (by decide +kernel) ⟨Nat.le_of_ble_eq_true rfl, Nat.le_of_ble_eq_true rfl⟩) rfl rfl (Nat.le_of_ble_eq_true rfl) dX10_holiday_13 ⟨Nat.le_of_ble_eq_true rfl, Nat.le_of_ble_eq_true rfl⟩ ⟨Nat.le_of_ble_eq_true rfl, Nat.le_of_ble_eq_true rfl⟩ (fun h => ⟨by unfold holidayC; omega, rfl⟩) (fun h9_13 H locs q_13 hC hS => ?_)
    refine x_aload_n B hl dX10_holiday_16 rfl ?_
    refine co_getR (x := la 1 0) E hC 0 (by decide) cl_0 rfl (fun z h => List.mem_cons_of_mem _ (List.mem_append_left _ (List.mem_append_left _ (List.mem_append_right _ h)))) 5 (by decide) (hts (.fieldLink RX10 31 "BinRounds" "calendar" "LBinRounds$Calendar;") (by decide +kernel)) (fun x hx => hx) dX10_holiday_17 rfl rfl ?_
    refine x_iload_n B hl dX10_holiday_20 rfl ?_
    refine x_iload_n B hl dX10_holiday_21 rfl ?_
    refine co_call E hK hC hS hl (κ := 1) (i := 0) (by decide) cl_1 rfl (c_calSet l D cy d0 A la σ (z := z) (v := v) (by omega) h_v) (cwV 2 hts0 gX10_holiday_X1_set rfl rfl rfl (by decide +kernel) ⟨Nat.le_of_ble_eq_true rfl, Nat.le_of_ble_eq_true rfl⟩) rfl rfl (Nat.le_of_ble_eq_true rfl) dX10_holiday_22 ⟨Nat.le_of_ble_eq_true rfl, Nat.le_of_ble_eq_true rfl⟩ (fun H locs q_22 hC hS => ?_)
    exact w_widen (Nat.le_of_ble_eq_true rfl) (Nat.le_of_ble_eq_true rfl) (vx_ret (co_iret E hr (by split <;> rfl) hlk hC hS dX10_holiday_25 ⟨(by unfold holidayC; omega), congrArg (fun z => some (Value.int z)) rfl, rfl, rfl, (by first | trivial | omega)⟩))
  · refine cstm_call E hout hlk hK hC hS hl (c_require l hlt D cy d0 A la _ (z := 0) (Or.inl rfl)) (va_cwS 1 hts0 gX10_holiday_X10_require rfl rfl rfl (by decide +kernel) ⟨Nat.le_of_ble_eq_true rfl, Nat.le_of_ble_eq_true rfl⟩) rfl rfl (Nat.le_of_ble_eq_true rfl) dX10_holiday_13 ⟨Nat.le_of_ble_eq_true rfl, Nat.le_of_ble_eq_true rfl⟩ ⟨Nat.le_of_ble_eq_true rfl, Nat.le_of_ble_eq_true rfl⟩ (fun h => ⟨by unfold holidayC; omega, rfl⟩) (fun h9_13 H locs q_13 hC hS => ?_)
    refine x_aload_n B hl dX10_holiday_16 rfl ?_
    refine co_getR (x := la 1 0) E hC 0 (by decide) cl_0 rfl (fun z h => List.mem_cons_of_mem _ (List.mem_append_left _ (List.mem_append_left _ (List.mem_append_right _ h)))) 5 (by decide) (hts (.fieldLink RX10 31 "BinRounds" "calendar" "LBinRounds$Calendar;") (by decide +kernel)) (fun x hx => hx) dX10_holiday_17 rfl rfl ?_
    refine x_iload_n B hl dX10_holiday_20 rfl ?_
    refine x_iload_n B hl dX10_holiday_21 rfl ?_
    refine co_call E hK hC hS hl (κ := 1) (i := 0) (by decide) cl_1 rfl (c_calSet l D cy d0 A la σ (z := z) (v := v) (by omega) h_v) (cwV 2 hts0 gX10_holiday_X1_set rfl rfl rfl (by decide +kernel) ⟨Nat.le_of_ble_eq_true rfl, Nat.le_of_ble_eq_true rfl⟩) rfl rfl (Nat.le_of_ble_eq_true rfl) dX10_holiday_22 ⟨Nat.le_of_ble_eq_true rfl, Nat.le_of_ble_eq_true rfl⟩ (fun H locs q_22 hC hS => ?_)
    exact w_widen (Nat.le_of_ble_eq_true rfl) (Nat.le_of_ble_eq_true rfl) (vx_ret (co_iret E hr (by split <;> rfl) hlk hC hS dX10_holiday_25 ⟨(by unfold holidayC; omega), congrArg (fun z => some (Value.int z)) rfl, rfl, rfl, (by first | trivial | omega)⟩))
set_option maxHeartbeats 4000000 in
set_option maxRecDepth 100000 in
theorem c_p_table (l : Launch) (hlt : l.stackTraces = false) (D : va_G) (cy : Nat → ClassId) (d0 : Nat) (A : Nat → Prop) (la : Nat → Int → Nat) (σ : MS) {k : Int} {lf : Int} {rt : Int} (h_k : -2147483648 ≤ k ∧ k < 2147483648) (h_lf : -2147483648 ≤ lf ∧ lf < 2147483648) (h_rt : -2147483648 ≤ rt ∧ rt < 2147483648) (hn5 : 0 ≤ σ 5 0 ∧ σ 5 0 ≤ 1000) (hn11 : 0 ≤ σ 11 0 ∧ σ 11 0 ≤ 1000) (hn23 : 0 ≤ σ 23 0 ∧ σ 23 0 ≤ 1000) (hn27 : 0 ≤ σ 27 0 ∧ σ 27 0 ≤ 1000) (hn45 : 0 ≤ σ 45 0 ∧ σ 45 0 ≤ 600) (hlg : σ 58 0 = 0 ∧ σ 59 0 = 0)  : CT l yX10_table wsX10_table ({ frames := 7, cells := 16, slots := 256, locals := 102 } : Room) D cy d0 A [.ref (la 0 0), .int (iI k), .int (iI lf), .int (iI rt)] la σ ((if tableC k lf rt = 1 then 2 else 0)) (cPm (none) la (tableS σ k lf rt) (True)) 16 256 := by
  refine ct_of (cc := cX10_table) (nL := 4) (ret := none) (by decide) rfl (Nat.le_of_ble_eq_true rfl) ?_
  intro p e s m args below meth c ls E hout hr hlk hK hC hS hl
  have B := E.1
  have hml := E.2.1
  have hown := E.2.2.1
  have hts0 := E.2.2.2.1
  have hts := E.2.2.2.1
  have hw := hC.2.2.2.2.2.1
  refine x_iload_n B hl dX10_table_0 rfl ?_
  refine x_i2l B dX10_table_1 (by omega) ?_
  refine x_lconst B dX10_table_2 ?_
  refine lv_ldc2 (v := lI 4) B.1 B.2 hown (hts (.constantLong RX10 85 (4)) (by decide +kernel)) dX10_table_3 ?_
  refine z_call ⟨B.1, B.2, hml, hown, hts0⟩ hl (c_isWithin l (v := k) (a := 0) (b := 4) (by omega) (by omega) (by omega)) (va_cwS 3 hts0 gX10_table_X10_isWithin rfl rfl rfl (by decide +kernel) ⟨Nat.le_of_ble_eq_true rfl, Nat.le_of_ble_eq_true rfl⟩) rfl rfl (Nat.le_of_ble_eq_true rfl) dX10_table_6 ⟨Nat.le_of_ble_eq_true rfl, Nat.le_of_ble_eq_true rfl⟩ (fun q_6 => ?_)
  refine x_bool (fun b_6 => ?_) (fun b_6 => ?_)
  · refine x_if_eq_f (tgt := 21) B dX10_table_9 (by decide) (by decide) ?_
    refine x_iload_n B hl dX10_table_12 rfl ?_
    refine x_iconst B dX10_table_13 ?_
    refine x_icmp_eq (tgt := 21) B dX10_table_14 (by decide) (by omega) (by omega) (fun c_14 => ?_) (fun c_14 => ?_)
    · refine x_iconst B dX10_table_21 ?_
      refine cstm_call E hout hlk hK hC hS hl (c_require l hlt D cy d0 A la _ (z := 0) (Or.inl rfl)) (va_cwS 1 hts0 gX10_table_X10_require rfl rfl rfl (by decide +kernel) ⟨Nat.le_of_ble_eq_true rfl, Nat.le_of_ble_eq_true rfl⟩) rfl rfl (Nat.le_of_ble_eq_true rfl) dX10_table_22 ⟨Nat.le_of_ble_eq_true rfl, Nat.le_of_ble_eq_true rfl⟩ ⟨Nat.le_of_ble_eq_true rfl, Nat.le_of_ble_eq_true rfl⟩ (fun h => ⟨by unfold tableC; omega, rfl⟩) (fun h9_22 H locs q_22 hC hS => ?_)
      refine x_iload_n B hl dX10_table_25 rfl ?_
      refine x_i2l B dX10_table_26 (by omega) ?_
      refine x_lconst B dX10_table_27 ?_
      refine lv_ldc2 (v := lI 100000) B.1 B.2 hown (hts (.constantLong RX10 174 (100000)) (by decide +kernel)) dX10_table_28 ?_
      refine z_call ⟨B.1, B.2, hml, hown, hts0⟩ hl (c_isWithin l (v := lf) (a := 0) (b := 100000) (by omega) (by omega) (by omega)) (va_cwS 3 hts0 gX10_table_X10_isWithin rfl rfl rfl (by decide +kernel) ⟨Nat.le_of_ble_eq_true rfl, Nat.le_of_ble_eq_true rfl⟩) rfl rfl (Nat.le_of_ble_eq_true rfl) dX10_table_31 ⟨Nat.le_of_ble_eq_true rfl, Nat.le_of_ble_eq_true rfl⟩ (fun q_31 => ?_)
      refine x_bool (fun b_31 => ?_) (fun b_31 => ?_)
      · refine cstm_call E hout hlk hK hC hS hl (c_require l hlt D cy d0 A la _ (z := 1) (Or.inr rfl)) (va_cwS 1 hts0 gX10_table_X10_require rfl rfl rfl (by decide +kernel) ⟨Nat.le_of_ble_eq_true rfl, Nat.le_of_ble_eq_true rfl⟩) rfl rfl (Nat.le_of_ble_eq_true rfl) dX10_table_34 ⟨Nat.le_of_ble_eq_true rfl, Nat.le_of_ble_eq_true rfl⟩ ⟨Nat.le_of_ble_eq_true rfl, Nat.le_of_ble_eq_true rfl⟩ (fun h => ⟨by unfold tableC; omega, rfl⟩) (fun h9_34 H locs q_34 hC hS => ?_)
        refine x_iload_n B hl dX10_table_37 rfl ?_
        refine x_i2l B dX10_table_38 (by omega) ?_
        refine x_lconst B dX10_table_39 ?_
        refine lv_ldc2 (v := lI 100000) B.1 B.2 hown (hts (.constantLong RX10 174 (100000)) (by decide +kernel)) dX10_table_40 ?_
        refine z_call ⟨B.1, B.2, hml, hown, hts0⟩ hl (c_isWithin l (v := rt) (a := 0) (b := 100000) (by omega) (by omega) (by omega)) (va_cwS 3 hts0 gX10_table_X10_isWithin rfl rfl rfl (by decide +kernel) ⟨Nat.le_of_ble_eq_true rfl, Nat.le_of_ble_eq_true rfl⟩) rfl rfl (Nat.le_of_ble_eq_true rfl) dX10_table_43 ⟨Nat.le_of_ble_eq_true rfl, Nat.le_of_ble_eq_true rfl⟩ (fun q_43 => ?_)
        refine x_bool (fun b_43 => ?_) (fun b_43 => ?_)
        · refine cstm_call E hout hlk hK hC hS hl (c_require l hlt D cy d0 A la _ (z := 1) (Or.inr rfl)) (va_cwS 1 hts0 gX10_table_X10_require rfl rfl rfl (by decide +kernel) ⟨Nat.le_of_ble_eq_true rfl, Nat.le_of_ble_eq_true rfl⟩) rfl rfl (Nat.le_of_ble_eq_true rfl) dX10_table_46 ⟨Nat.le_of_ble_eq_true rfl, Nat.le_of_ble_eq_true rfl⟩ ⟨Nat.le_of_ble_eq_true rfl, Nat.le_of_ble_eq_true rfl⟩ (fun h => ⟨by unfold tableC; omega, rfl⟩) (fun h9_46 H locs q_46 hC hS => ?_)
          refine x_aload_n B hl dX10_table_49 rfl ?_
          refine co_getR (x := la 2 0) E hC 0 (by decide) cl_0 rfl (fun z h => List.mem_cons_of_mem _ (List.mem_append_left _ (List.mem_append_left _ (List.mem_append_right _ h)))) 6 (by decide) (hts (.fieldLink RX10 38 "BinRounds" "tables" "LBinRounds$Tables;") (by decide +kernel)) (fun x hx => hx) dX10_table_50 rfl rfl ?_
          refine x_iload_n B hl dX10_table_53 rfl ?_
          refine x_iload_n B hl dX10_table_54 rfl ?_
          refine x_iload_n B hl dX10_table_55 rfl ?_
          refine co_call E hK hC hS hl (κ := 2) (i := 0) (by decide) cl_2 rfl (c_tabSet l D cy d0 A la σ (k := k) (lf := lf) (rt := rt) (by omega) (by omega) (by omega)) (cwV 3 hts0 gX10_table_X8_set rfl rfl rfl (by decide +kernel) ⟨Nat.le_of_ble_eq_true rfl, Nat.le_of_ble_eq_true rfl⟩) rfl rfl (Nat.le_of_ble_eq_true rfl) dX10_table_56 ⟨Nat.le_of_ble_eq_true rfl, Nat.le_of_ble_eq_true rfl⟩ (fun H locs q_56 hC hS => ?_)
          exact w_widen (Nat.le_of_ble_eq_true rfl) (Nat.le_of_ble_eq_true rfl) (vx_ret (co_vret E hr hlk hC hS dX10_table_59 ⟨(by unfold tableC; omega), rfl, rfl, rfl, (by first | trivial | omega)⟩))
        · refine cstm_call E hout hlk hK hC hS hl (c_require l hlt D cy d0 A la _ (z := 0) (Or.inl rfl)) (va_cwS 1 hts0 gX10_table_X10_require rfl rfl rfl (by decide +kernel) ⟨Nat.le_of_ble_eq_true rfl, Nat.le_of_ble_eq_true rfl⟩) rfl rfl (Nat.le_of_ble_eq_true rfl) dX10_table_46 ⟨Nat.le_of_ble_eq_true rfl, Nat.le_of_ble_eq_true rfl⟩ ⟨Nat.le_of_ble_eq_true rfl, Nat.le_of_ble_eq_true rfl⟩ (fun h => ⟨by unfold tableC; omega, rfl⟩) (fun h9_46 H locs q_46 hC hS => ?_)
          refine x_aload_n B hl dX10_table_49 rfl ?_
          refine co_getR (x := la 2 0) E hC 0 (by decide) cl_0 rfl (fun z h => List.mem_cons_of_mem _ (List.mem_append_left _ (List.mem_append_left _ (List.mem_append_right _ h)))) 6 (by decide) (hts (.fieldLink RX10 38 "BinRounds" "tables" "LBinRounds$Tables;") (by decide +kernel)) (fun x hx => hx) dX10_table_50 rfl rfl ?_
          refine x_iload_n B hl dX10_table_53 rfl ?_
          refine x_iload_n B hl dX10_table_54 rfl ?_
          refine x_iload_n B hl dX10_table_55 rfl ?_
          refine co_call E hK hC hS hl (κ := 2) (i := 0) (by decide) cl_2 rfl (c_tabSet l D cy d0 A la σ (k := k) (lf := lf) (rt := rt) (by omega) (by omega) (by omega)) (cwV 3 hts0 gX10_table_X8_set rfl rfl rfl (by decide +kernel) ⟨Nat.le_of_ble_eq_true rfl, Nat.le_of_ble_eq_true rfl⟩) rfl rfl (Nat.le_of_ble_eq_true rfl) dX10_table_56 ⟨Nat.le_of_ble_eq_true rfl, Nat.le_of_ble_eq_true rfl⟩ (fun H locs q_56 hC hS => ?_)
          exact w_widen (Nat.le_of_ble_eq_true rfl) (Nat.le_of_ble_eq_true rfl) (vx_ret (co_vret E hr hlk hC hS dX10_table_59 ⟨(by unfold tableC; omega), rfl, rfl, rfl, (by first | trivial | omega)⟩))
      · refine cstm_call E hout hlk hK hC hS hl (c_require l hlt D cy d0 A la _ (z := 0) (Or.inl rfl)) (va_cwS 1 hts0 gX10_table_X10_require rfl rfl rfl (by decide +kernel) ⟨Nat.le_of_ble_eq_true rfl, Nat.le_of_ble_eq_true rfl⟩) rfl rfl (Nat.le_of_ble_eq_true rfl) dX10_table_34 ⟨Nat.le_of_ble_eq_true rfl, Nat.le_of_ble_eq_true rfl⟩ ⟨Nat.le_of_ble_eq_true rfl, Nat.le_of_ble_eq_true rfl⟩ (fun h => ⟨by unfold tableC; omega, rfl⟩) (fun h9_34 H locs q_34 hC hS => ?_)
        refine x_iload_n B hl dX10_table_37 rfl ?_
        refine x_i2l B dX10_table_38 (by omega) ?_
        refine x_lconst B dX10_table_39 ?_
        refine lv_ldc2 (v := lI 100000) B.1 B.2 hown (hts (.constantLong RX10 174 (100000)) (by decide +kernel)) dX10_table_40 ?_
        refine z_call ⟨B.1, B.2, hml, hown, hts0⟩ hl (c_isWithin l (v := rt) (a := 0) (b := 100000) (by omega) (by omega) (by omega)) (va_cwS 3 hts0 gX10_table_X10_isWithin rfl rfl rfl (by decide +kernel) ⟨Nat.le_of_ble_eq_true rfl, Nat.le_of_ble_eq_true rfl⟩) rfl rfl (Nat.le_of_ble_eq_true rfl) dX10_table_43 ⟨Nat.le_of_ble_eq_true rfl, Nat.le_of_ble_eq_true rfl⟩ (fun q_43 => ?_)
        refine x_bool (fun b_43 => ?_) (fun b_43 => ?_)
        · refine cstm_call E hout hlk hK hC hS hl (c_require l hlt D cy d0 A la _ (z := 1) (Or.inr rfl)) (va_cwS 1 hts0 gX10_table_X10_require rfl rfl rfl (by decide +kernel) ⟨Nat.le_of_ble_eq_true rfl, Nat.le_of_ble_eq_true rfl⟩) rfl rfl (Nat.le_of_ble_eq_true rfl) dX10_table_46 ⟨Nat.le_of_ble_eq_true rfl, Nat.le_of_ble_eq_true rfl⟩ ⟨Nat.le_of_ble_eq_true rfl, Nat.le_of_ble_eq_true rfl⟩ (fun h => ⟨by unfold tableC; omega, rfl⟩) (fun h9_46 H locs q_46 hC hS => ?_)
          refine x_aload_n B hl dX10_table_49 rfl ?_
          refine co_getR (x := la 2 0) E hC 0 (by decide) cl_0 rfl (fun z h => List.mem_cons_of_mem _ (List.mem_append_left _ (List.mem_append_left _ (List.mem_append_right _ h)))) 6 (by decide) (hts (.fieldLink RX10 38 "BinRounds" "tables" "LBinRounds$Tables;") (by decide +kernel)) (fun x hx => hx) dX10_table_50 rfl rfl ?_
          refine x_iload_n B hl dX10_table_53 rfl ?_
          refine x_iload_n B hl dX10_table_54 rfl ?_
          refine x_iload_n B hl dX10_table_55 rfl ?_
          refine co_call E hK hC hS hl (κ := 2) (i := 0) (by decide) cl_2 rfl (c_tabSet l D cy d0 A la σ (k := k) (lf := lf) (rt := rt) (by omega) (by omega) (by omega)) (cwV 3 hts0 gX10_table_X8_set rfl rfl rfl (by decide +kernel) ⟨Nat.le_of_ble_eq_true rfl, Nat.le_of_ble_eq_true rfl⟩) rfl rfl (Nat.le_of_ble_eq_true rfl) dX10_table_56 ⟨Nat.le_of_ble_eq_true rfl, Nat.le_of_ble_eq_true rfl⟩ (fun H locs q_56 hC hS => ?_)
          exact w_widen (Nat.le_of_ble_eq_true rfl) (Nat.le_of_ble_eq_true rfl) (vx_ret (co_vret E hr hlk hC hS dX10_table_59 ⟨(by unfold tableC; omega), rfl, rfl, rfl, (by first | trivial | omega)⟩))
        · refine cstm_call E hout hlk hK hC hS hl (c_require l hlt D cy d0 A la _ (z := 0) (Or.inl rfl)) (va_cwS 1 hts0 gX10_table_X10_require rfl rfl rfl (by decide +kernel) ⟨Nat.le_of_ble_eq_true rfl, Nat.le_of_ble_eq_true rfl⟩) rfl rfl (Nat.le_of_ble_eq_true rfl) dX10_table_46 ⟨Nat.le_of_ble_eq_true rfl, Nat.le_of_ble_eq_true rfl⟩ ⟨Nat.le_of_ble_eq_true rfl, Nat.le_of_ble_eq_true rfl⟩ (fun h => ⟨by unfold tableC; omega, rfl⟩) (fun h9_46 H locs q_46 hC hS => ?_)
          refine x_aload_n B hl dX10_table_49 rfl ?_
          refine co_getR (x := la 2 0) E hC 0 (by decide) cl_0 rfl (fun z h => List.mem_cons_of_mem _ (List.mem_append_left _ (List.mem_append_left _ (List.mem_append_right _ h)))) 6 (by decide) (hts (.fieldLink RX10 38 "BinRounds" "tables" "LBinRounds$Tables;") (by decide +kernel)) (fun x hx => hx) dX10_table_50 rfl rfl ?_
          refine x_iload_n B hl dX10_table_53 rfl ?_
          refine x_iload_n B hl dX10_table_54 rfl ?_
          refine x_iload_n B hl dX10_table_55 rfl ?_
          refine co_call E hK hC hS hl (κ := 2) (i := 0) (by decide) cl_2 rfl (c_tabSet l D cy d0 A la σ (k := k) (lf := lf) (rt := rt) (by omega) (by omega) (by omega)) (cwV 3 hts0 gX10_table_X8_set rfl rfl rfl (by decide +kernel) ⟨Nat.le_of_ble_eq_true rfl, Nat.le_of_ble_eq_true rfl⟩) rfl rfl (Nat.le_of_ble_eq_true rfl) dX10_table_56 ⟨Nat.le_of_ble_eq_true rfl, Nat.le_of_ble_eq_true rfl⟩ (fun H locs q_56 hC hS => ?_)
          exact w_widen (Nat.le_of_ble_eq_true rfl) (Nat.le_of_ble_eq_true rfl) (vx_ret (co_vret E hr hlk hC hS dX10_table_59 ⟨(by unfold tableC; omega), rfl, rfl, rfl, (by first | trivial | omega)⟩))
    · refine x_iconst B dX10_table_17 ?_
      refine x_goto (tgt := 22) B dX10_table_18 (by decide) ?_
      refine cstm_call E hout hlk hK hC hS hl (c_require l hlt D cy d0 A la _ (z := 1) (Or.inr rfl)) (va_cwS 1 hts0 gX10_table_X10_require rfl rfl rfl (by decide +kernel) ⟨Nat.le_of_ble_eq_true rfl, Nat.le_of_ble_eq_true rfl⟩) rfl rfl (Nat.le_of_ble_eq_true rfl) dX10_table_22 ⟨Nat.le_of_ble_eq_true rfl, Nat.le_of_ble_eq_true rfl⟩ ⟨Nat.le_of_ble_eq_true rfl, Nat.le_of_ble_eq_true rfl⟩ (fun h => ⟨by unfold tableC; omega, rfl⟩) (fun h9_22 H locs q_22 hC hS => ?_)
      refine x_iload_n B hl dX10_table_25 rfl ?_
      refine x_i2l B dX10_table_26 (by omega) ?_
      refine x_lconst B dX10_table_27 ?_
      refine lv_ldc2 (v := lI 100000) B.1 B.2 hown (hts (.constantLong RX10 174 (100000)) (by decide +kernel)) dX10_table_28 ?_
      refine z_call ⟨B.1, B.2, hml, hown, hts0⟩ hl (c_isWithin l (v := lf) (a := 0) (b := 100000) (by omega) (by omega) (by omega)) (va_cwS 3 hts0 gX10_table_X10_isWithin rfl rfl rfl (by decide +kernel) ⟨Nat.le_of_ble_eq_true rfl, Nat.le_of_ble_eq_true rfl⟩) rfl rfl (Nat.le_of_ble_eq_true rfl) dX10_table_31 ⟨Nat.le_of_ble_eq_true rfl, Nat.le_of_ble_eq_true rfl⟩ (fun q_31 => ?_)
      refine x_bool (fun b_31 => ?_) (fun b_31 => ?_)
      · refine cstm_call E hout hlk hK hC hS hl (c_require l hlt D cy d0 A la _ (z := 1) (Or.inr rfl)) (va_cwS 1 hts0 gX10_table_X10_require rfl rfl rfl (by decide +kernel) ⟨Nat.le_of_ble_eq_true rfl, Nat.le_of_ble_eq_true rfl⟩) rfl rfl (Nat.le_of_ble_eq_true rfl) dX10_table_34 ⟨Nat.le_of_ble_eq_true rfl, Nat.le_of_ble_eq_true rfl⟩ ⟨Nat.le_of_ble_eq_true rfl, Nat.le_of_ble_eq_true rfl⟩ (fun h => ⟨by unfold tableC; omega, rfl⟩) (fun h9_34 H locs q_34 hC hS => ?_)
        refine x_iload_n B hl dX10_table_37 rfl ?_
        refine x_i2l B dX10_table_38 (by omega) ?_
        refine x_lconst B dX10_table_39 ?_
        refine lv_ldc2 (v := lI 100000) B.1 B.2 hown (hts (.constantLong RX10 174 (100000)) (by decide +kernel)) dX10_table_40 ?_
        refine z_call ⟨B.1, B.2, hml, hown, hts0⟩ hl (c_isWithin l (v := rt) (a := 0) (b := 100000) (by omega) (by omega) (by omega)) (va_cwS 3 hts0 gX10_table_X10_isWithin rfl rfl rfl (by decide +kernel) ⟨Nat.le_of_ble_eq_true rfl, Nat.le_of_ble_eq_true rfl⟩) rfl rfl (Nat.le_of_ble_eq_true rfl) dX10_table_43 ⟨Nat.le_of_ble_eq_true rfl, Nat.le_of_ble_eq_true rfl⟩ (fun q_43 => ?_)
        refine x_bool (fun b_43 => ?_) (fun b_43 => ?_)
        · refine cstm_call E hout hlk hK hC hS hl (c_require l hlt D cy d0 A la _ (z := 1) (Or.inr rfl)) (va_cwS 1 hts0 gX10_table_X10_require rfl rfl rfl (by decide +kernel) ⟨Nat.le_of_ble_eq_true rfl, Nat.le_of_ble_eq_true rfl⟩) rfl rfl (Nat.le_of_ble_eq_true rfl) dX10_table_46 ⟨Nat.le_of_ble_eq_true rfl, Nat.le_of_ble_eq_true rfl⟩ ⟨Nat.le_of_ble_eq_true rfl, Nat.le_of_ble_eq_true rfl⟩ (fun h => ⟨by unfold tableC; omega, rfl⟩) (fun h9_46 H locs q_46 hC hS => ?_)
          refine x_aload_n B hl dX10_table_49 rfl ?_
          refine co_getR (x := la 2 0) E hC 0 (by decide) cl_0 rfl (fun z h => List.mem_cons_of_mem _ (List.mem_append_left _ (List.mem_append_left _ (List.mem_append_right _ h)))) 6 (by decide) (hts (.fieldLink RX10 38 "BinRounds" "tables" "LBinRounds$Tables;") (by decide +kernel)) (fun x hx => hx) dX10_table_50 rfl rfl ?_
          refine x_iload_n B hl dX10_table_53 rfl ?_
          refine x_iload_n B hl dX10_table_54 rfl ?_
          refine x_iload_n B hl dX10_table_55 rfl ?_
          refine co_call E hK hC hS hl (κ := 2) (i := 0) (by decide) cl_2 rfl (c_tabSet l D cy d0 A la σ (k := k) (lf := lf) (rt := rt) (by omega) (by omega) (by omega)) (cwV 3 hts0 gX10_table_X8_set rfl rfl rfl (by decide +kernel) ⟨Nat.le_of_ble_eq_true rfl, Nat.le_of_ble_eq_true rfl⟩) rfl rfl (Nat.le_of_ble_eq_true rfl) dX10_table_56 ⟨Nat.le_of_ble_eq_true rfl, Nat.le_of_ble_eq_true rfl⟩ (fun H locs q_56 hC hS => ?_)
          exact w_widen (Nat.le_of_ble_eq_true rfl) (Nat.le_of_ble_eq_true rfl) (vx_ret (co_vret E hr hlk hC hS dX10_table_59 ⟨(by unfold tableC; omega), rfl, rfl, rfl, (by first | trivial | omega)⟩))
        · refine cstm_call E hout hlk hK hC hS hl (c_require l hlt D cy d0 A la _ (z := 0) (Or.inl rfl)) (va_cwS 1 hts0 gX10_table_X10_require rfl rfl rfl (by decide +kernel) ⟨Nat.le_of_ble_eq_true rfl, Nat.le_of_ble_eq_true rfl⟩) rfl rfl (Nat.le_of_ble_eq_true rfl) dX10_table_46 ⟨Nat.le_of_ble_eq_true rfl, Nat.le_of_ble_eq_true rfl⟩ ⟨Nat.le_of_ble_eq_true rfl, Nat.le_of_ble_eq_true rfl⟩ (fun h => ⟨by unfold tableC; omega, rfl⟩) (fun h9_46 H locs q_46 hC hS => ?_)
          refine x_aload_n B hl dX10_table_49 rfl ?_
          refine co_getR (x := la 2 0) E hC 0 (by decide) cl_0 rfl (fun z h => List.mem_cons_of_mem _ (List.mem_append_left _ (List.mem_append_left _ (List.mem_append_right _ h)))) 6 (by decide) (hts (.fieldLink RX10 38 "BinRounds" "tables" "LBinRounds$Tables;") (by decide +kernel)) (fun x hx => hx) dX10_table_50 rfl rfl ?_
          refine x_iload_n B hl dX10_table_53 rfl ?_
          refine x_iload_n B hl dX10_table_54 rfl ?_
          refine x_iload_n B hl dX10_table_55 rfl ?_
          refine co_call E hK hC hS hl (κ := 2) (i := 0) (by decide) cl_2 rfl (c_tabSet l D cy d0 A la σ (k := k) (lf := lf) (rt := rt) (by omega) (by omega) (by omega)) (cwV 3 hts0 gX10_table_X8_set rfl rfl rfl (by decide +kernel) ⟨Nat.le_of_ble_eq_true rfl, Nat.le_of_ble_eq_true rfl⟩) rfl rfl (Nat.le_of_ble_eq_true rfl) dX10_table_56 ⟨Nat.le_of_ble_eq_true rfl, Nat.le_of_ble_eq_true rfl⟩ (fun H locs q_56 hC hS => ?_)
          exact w_widen (Nat.le_of_ble_eq_true rfl) (Nat.le_of_ble_eq_true rfl) (vx_ret (co_vret E hr hlk hC hS dX10_table_59 ⟨(by unfold tableC; omega), rfl, rfl, rfl, (by first | trivial | omega)⟩))
      · refine cstm_call E hout hlk hK hC hS hl (c_require l hlt D cy d0 A la _ (z := 0) (Or.inl rfl)) (va_cwS 1 hts0 gX10_table_X10_require rfl rfl rfl (by decide +kernel) ⟨Nat.le_of_ble_eq_true rfl, Nat.le_of_ble_eq_true rfl⟩) rfl rfl (Nat.le_of_ble_eq_true rfl) dX10_table_34 ⟨Nat.le_of_ble_eq_true rfl, Nat.le_of_ble_eq_true rfl⟩ ⟨Nat.le_of_ble_eq_true rfl, Nat.le_of_ble_eq_true rfl⟩ (fun h => ⟨by unfold tableC; omega, rfl⟩) (fun h9_34 H locs q_34 hC hS => ?_)
        refine x_iload_n B hl dX10_table_37 rfl ?_
        refine x_i2l B dX10_table_38 (by omega) ?_
        refine x_lconst B dX10_table_39 ?_
        refine lv_ldc2 (v := lI 100000) B.1 B.2 hown (hts (.constantLong RX10 174 (100000)) (by decide +kernel)) dX10_table_40 ?_
        refine z_call ⟨B.1, B.2, hml, hown, hts0⟩ hl (c_isWithin l (v := rt) (a := 0) (b := 100000) (by omega) (by omega) (by omega)) (va_cwS 3 hts0 gX10_table_X10_isWithin rfl rfl rfl (by decide +kernel) ⟨Nat.le_of_ble_eq_true rfl, Nat.le_of_ble_eq_true rfl⟩) rfl rfl (Nat.le_of_ble_eq_true rfl) dX10_table_43 ⟨Nat.le_of_ble_eq_true rfl, Nat.le_of_ble_eq_true rfl⟩ (fun q_43 => ?_)
        refine x_bool (fun b_43 => ?_) (fun b_43 => ?_)
        · refine cstm_call E hout hlk hK hC hS hl (c_require l hlt D cy d0 A la _ (z := 1) (Or.inr rfl)) (va_cwS 1 hts0 gX10_table_X10_require rfl rfl rfl (by decide +kernel) ⟨Nat.le_of_ble_eq_true rfl, Nat.le_of_ble_eq_true rfl⟩) rfl rfl (Nat.le_of_ble_eq_true rfl) dX10_table_46 ⟨Nat.le_of_ble_eq_true rfl, Nat.le_of_ble_eq_true rfl⟩ ⟨Nat.le_of_ble_eq_true rfl, Nat.le_of_ble_eq_true rfl⟩ (fun h => ⟨by unfold tableC; omega, rfl⟩) (fun h9_46 H locs q_46 hC hS => ?_)
          refine x_aload_n B hl dX10_table_49 rfl ?_
          refine co_getR (x := la 2 0) E hC 0 (by decide) cl_0 rfl (fun z h => List.mem_cons_of_mem _ (List.mem_append_left _ (List.mem_append_left _ (List.mem_append_right _ h)))) 6 (by decide) (hts (.fieldLink RX10 38 "BinRounds" "tables" "LBinRounds$Tables;") (by decide +kernel)) (fun x hx => hx) dX10_table_50 rfl rfl ?_
          refine x_iload_n B hl dX10_table_53 rfl ?_
          refine x_iload_n B hl dX10_table_54 rfl ?_
          refine x_iload_n B hl dX10_table_55 rfl ?_
          refine co_call E hK hC hS hl (κ := 2) (i := 0) (by decide) cl_2 rfl (c_tabSet l D cy d0 A la σ (k := k) (lf := lf) (rt := rt) (by omega) (by omega) (by omega)) (cwV 3 hts0 gX10_table_X8_set rfl rfl rfl (by decide +kernel) ⟨Nat.le_of_ble_eq_true rfl, Nat.le_of_ble_eq_true rfl⟩) rfl rfl (Nat.le_of_ble_eq_true rfl) dX10_table_56 ⟨Nat.le_of_ble_eq_true rfl, Nat.le_of_ble_eq_true rfl⟩ (fun H locs q_56 hC hS => ?_)
          exact w_widen (Nat.le_of_ble_eq_true rfl) (Nat.le_of_ble_eq_true rfl) (vx_ret (co_vret E hr hlk hC hS dX10_table_59 ⟨(by unfold tableC; omega), rfl, rfl, rfl, (by first | trivial | omega)⟩))
        · refine cstm_call E hout hlk hK hC hS hl (c_require l hlt D cy d0 A la _ (z := 0) (Or.inl rfl)) (va_cwS 1 hts0 gX10_table_X10_require rfl rfl rfl (by decide +kernel) ⟨Nat.le_of_ble_eq_true rfl, Nat.le_of_ble_eq_true rfl⟩) rfl rfl (Nat.le_of_ble_eq_true rfl) dX10_table_46 ⟨Nat.le_of_ble_eq_true rfl, Nat.le_of_ble_eq_true rfl⟩ ⟨Nat.le_of_ble_eq_true rfl, Nat.le_of_ble_eq_true rfl⟩ (fun h => ⟨by unfold tableC; omega, rfl⟩) (fun h9_46 H locs q_46 hC hS => ?_)
          refine x_aload_n B hl dX10_table_49 rfl ?_
          refine co_getR (x := la 2 0) E hC 0 (by decide) cl_0 rfl (fun z h => List.mem_cons_of_mem _ (List.mem_append_left _ (List.mem_append_left _ (List.mem_append_right _ h)))) 6 (by decide) (hts (.fieldLink RX10 38 "BinRounds" "tables" "LBinRounds$Tables;") (by decide +kernel)) (fun x hx => hx) dX10_table_50 rfl rfl ?_
          refine x_iload_n B hl dX10_table_53 rfl ?_
          refine x_iload_n B hl dX10_table_54 rfl ?_
          refine x_iload_n B hl dX10_table_55 rfl ?_
          refine co_call E hK hC hS hl (κ := 2) (i := 0) (by decide) cl_2 rfl (c_tabSet l D cy d0 A la σ (k := k) (lf := lf) (rt := rt) (by omega) (by omega) (by omega)) (cwV 3 hts0 gX10_table_X8_set rfl rfl rfl (by decide +kernel) ⟨Nat.le_of_ble_eq_true rfl, Nat.le_of_ble_eq_true rfl⟩) rfl rfl (Nat.le_of_ble_eq_true rfl) dX10_table_56 ⟨Nat.le_of_ble_eq_true rfl, Nat.le_of_ble_eq_true rfl⟩ (fun H locs q_56 hC hS => ?_)
          exact w_widen (Nat.le_of_ble_eq_true rfl) (Nat.le_of_ble_eq_true rfl) (vx_ret (co_vret E hr hlk hC hS dX10_table_59 ⟨(by unfold tableC; omega), rfl, rfl, rfl, (by first | trivial | omega)⟩))
  · refine x_if_eq_t (tgt := 21) B dX10_table_9 (by decide) (by decide) ?_
    refine x_iconst B dX10_table_21 ?_
    refine cstm_call E hout hlk hK hC hS hl (c_require l hlt D cy d0 A la _ (z := 0) (Or.inl rfl)) (va_cwS 1 hts0 gX10_table_X10_require rfl rfl rfl (by decide +kernel) ⟨Nat.le_of_ble_eq_true rfl, Nat.le_of_ble_eq_true rfl⟩) rfl rfl (Nat.le_of_ble_eq_true rfl) dX10_table_22 ⟨Nat.le_of_ble_eq_true rfl, Nat.le_of_ble_eq_true rfl⟩ ⟨Nat.le_of_ble_eq_true rfl, Nat.le_of_ble_eq_true rfl⟩ (fun h => ⟨by unfold tableC; omega, rfl⟩) (fun h9_22 H locs q_22 hC hS => ?_)
    refine x_iload_n B hl dX10_table_25 rfl ?_
    refine x_i2l B dX10_table_26 (by omega) ?_
    refine x_lconst B dX10_table_27 ?_
    refine lv_ldc2 (v := lI 100000) B.1 B.2 hown (hts (.constantLong RX10 174 (100000)) (by decide +kernel)) dX10_table_28 ?_
    refine z_call ⟨B.1, B.2, hml, hown, hts0⟩ hl (c_isWithin l (v := lf) (a := 0) (b := 100000) (by omega) (by omega) (by omega)) (va_cwS 3 hts0 gX10_table_X10_isWithin rfl rfl rfl (by decide +kernel) ⟨Nat.le_of_ble_eq_true rfl, Nat.le_of_ble_eq_true rfl⟩) rfl rfl (Nat.le_of_ble_eq_true rfl) dX10_table_31 ⟨Nat.le_of_ble_eq_true rfl, Nat.le_of_ble_eq_true rfl⟩ (fun q_31 => ?_)
    refine x_bool (fun b_31 => ?_) (fun b_31 => ?_)
    · refine cstm_call E hout hlk hK hC hS hl (c_require l hlt D cy d0 A la _ (z := 1) (Or.inr rfl)) (va_cwS 1 hts0 gX10_table_X10_require rfl rfl rfl (by decide +kernel) ⟨Nat.le_of_ble_eq_true rfl, Nat.le_of_ble_eq_true rfl⟩) rfl rfl (Nat.le_of_ble_eq_true rfl) dX10_table_34 ⟨Nat.le_of_ble_eq_true rfl, Nat.le_of_ble_eq_true rfl⟩ ⟨Nat.le_of_ble_eq_true rfl, Nat.le_of_ble_eq_true rfl⟩ (fun h => ⟨by unfold tableC; omega, rfl⟩) (fun h9_34 H locs q_34 hC hS => ?_)
      refine x_iload_n B hl dX10_table_37 rfl ?_
      refine x_i2l B dX10_table_38 (by omega) ?_
      refine x_lconst B dX10_table_39 ?_
      refine lv_ldc2 (v := lI 100000) B.1 B.2 hown (hts (.constantLong RX10 174 (100000)) (by decide +kernel)) dX10_table_40 ?_
      refine z_call ⟨B.1, B.2, hml, hown, hts0⟩ hl (c_isWithin l (v := rt) (a := 0) (b := 100000) (by omega) (by omega) (by omega)) (va_cwS 3 hts0 gX10_table_X10_isWithin rfl rfl rfl (by decide +kernel) ⟨Nat.le_of_ble_eq_true rfl, Nat.le_of_ble_eq_true rfl⟩) rfl rfl (Nat.le_of_ble_eq_true rfl) dX10_table_43 ⟨Nat.le_of_ble_eq_true rfl, Nat.le_of_ble_eq_true rfl⟩ (fun q_43 => ?_)
      refine x_bool (fun b_43 => ?_) (fun b_43 => ?_)
      · refine cstm_call E hout hlk hK hC hS hl (c_require l hlt D cy d0 A la _ (z := 1) (Or.inr rfl)) (va_cwS 1 hts0 gX10_table_X10_require rfl rfl rfl (by decide +kernel) ⟨Nat.le_of_ble_eq_true rfl, Nat.le_of_ble_eq_true rfl⟩) rfl rfl (Nat.le_of_ble_eq_true rfl) dX10_table_46 ⟨Nat.le_of_ble_eq_true rfl, Nat.le_of_ble_eq_true rfl⟩ ⟨Nat.le_of_ble_eq_true rfl, Nat.le_of_ble_eq_true rfl⟩ (fun h => ⟨by unfold tableC; omega, rfl⟩) (fun h9_46 H locs q_46 hC hS => ?_)
        refine x_aload_n B hl dX10_table_49 rfl ?_
        refine co_getR (x := la 2 0) E hC 0 (by decide) cl_0 rfl (fun z h => List.mem_cons_of_mem _ (List.mem_append_left _ (List.mem_append_left _ (List.mem_append_right _ h)))) 6 (by decide) (hts (.fieldLink RX10 38 "BinRounds" "tables" "LBinRounds$Tables;") (by decide +kernel)) (fun x hx => hx) dX10_table_50 rfl rfl ?_
        refine x_iload_n B hl dX10_table_53 rfl ?_
        refine x_iload_n B hl dX10_table_54 rfl ?_
        refine x_iload_n B hl dX10_table_55 rfl ?_
        refine co_call E hK hC hS hl (κ := 2) (i := 0) (by decide) cl_2 rfl (c_tabSet l D cy d0 A la σ (k := k) (lf := lf) (rt := rt) (by omega) (by omega) (by omega)) (cwV 3 hts0 gX10_table_X8_set rfl rfl rfl (by decide +kernel) ⟨Nat.le_of_ble_eq_true rfl, Nat.le_of_ble_eq_true rfl⟩) rfl rfl (Nat.le_of_ble_eq_true rfl) dX10_table_56 ⟨Nat.le_of_ble_eq_true rfl, Nat.le_of_ble_eq_true rfl⟩ (fun H locs q_56 hC hS => ?_)
        exact w_widen (Nat.le_of_ble_eq_true rfl) (Nat.le_of_ble_eq_true rfl) (vx_ret (co_vret E hr hlk hC hS dX10_table_59 ⟨(by unfold tableC; omega), rfl, rfl, rfl, (by first | trivial | omega)⟩))
      · refine cstm_call E hout hlk hK hC hS hl (c_require l hlt D cy d0 A la _ (z := 0) (Or.inl rfl)) (va_cwS 1 hts0 gX10_table_X10_require rfl rfl rfl (by decide +kernel) ⟨Nat.le_of_ble_eq_true rfl, Nat.le_of_ble_eq_true rfl⟩) rfl rfl (Nat.le_of_ble_eq_true rfl) dX10_table_46 ⟨Nat.le_of_ble_eq_true rfl, Nat.le_of_ble_eq_true rfl⟩ ⟨Nat.le_of_ble_eq_true rfl, Nat.le_of_ble_eq_true rfl⟩ (fun h => ⟨by unfold tableC; omega, rfl⟩) (fun h9_46 H locs q_46 hC hS => ?_)
        refine x_aload_n B hl dX10_table_49 rfl ?_
        refine co_getR (x := la 2 0) E hC 0 (by decide) cl_0 rfl (fun z h => List.mem_cons_of_mem _ (List.mem_append_left _ (List.mem_append_left _ (List.mem_append_right _ h)))) 6 (by decide) (hts (.fieldLink RX10 38 "BinRounds" "tables" "LBinRounds$Tables;") (by decide +kernel)) (fun x hx => hx) dX10_table_50 rfl rfl ?_
        refine x_iload_n B hl dX10_table_53 rfl ?_
        refine x_iload_n B hl dX10_table_54 rfl ?_
        refine x_iload_n B hl dX10_table_55 rfl ?_
        refine co_call E hK hC hS hl (κ := 2) (i := 0) (by decide) cl_2 rfl (c_tabSet l D cy d0 A la σ (k := k) (lf := lf) (rt := rt) (by omega) (by omega) (by omega)) (cwV 3 hts0 gX10_table_X8_set rfl rfl rfl (by decide +kernel) ⟨Nat.le_of_ble_eq_true rfl, Nat.le_of_ble_eq_true rfl⟩) rfl rfl (Nat.le_of_ble_eq_true rfl) dX10_table_56 ⟨Nat.le_of_ble_eq_true rfl, Nat.le_of_ble_eq_true rfl⟩ (fun H locs q_56 hC hS => ?_)
        exact w_widen (Nat.le_of_ble_eq_true rfl) (Nat.le_of_ble_eq_true rfl) (vx_ret (co_vret E hr hlk hC hS dX10_table_59 ⟨(by unfold tableC; omega), rfl, rfl, rfl, (by first | trivial | omega)⟩))
    · refine cstm_call E hout hlk hK hC hS hl (c_require l hlt D cy d0 A la _ (z := 0) (Or.inl rfl)) (va_cwS 1 hts0 gX10_table_X10_require rfl rfl rfl (by decide +kernel) ⟨Nat.le_of_ble_eq_true rfl, Nat.le_of_ble_eq_true rfl⟩) rfl rfl (Nat.le_of_ble_eq_true rfl) dX10_table_34 ⟨Nat.le_of_ble_eq_true rfl, Nat.le_of_ble_eq_true rfl⟩ ⟨Nat.le_of_ble_eq_true rfl, Nat.le_of_ble_eq_true rfl⟩ (fun h => ⟨by unfold tableC; omega, rfl⟩) (fun h9_34 H locs q_34 hC hS => ?_)
      refine x_iload_n B hl dX10_table_37 rfl ?_
      refine x_i2l B dX10_table_38 (by omega) ?_
      refine x_lconst B dX10_table_39 ?_
      refine lv_ldc2 (v := lI 100000) B.1 B.2 hown (hts (.constantLong RX10 174 (100000)) (by decide +kernel)) dX10_table_40 ?_
      refine z_call ⟨B.1, B.2, hml, hown, hts0⟩ hl (c_isWithin l (v := rt) (a := 0) (b := 100000) (by omega) (by omega) (by omega)) (va_cwS 3 hts0 gX10_table_X10_isWithin rfl rfl rfl (by decide +kernel) ⟨Nat.le_of_ble_eq_true rfl, Nat.le_of_ble_eq_true rfl⟩) rfl rfl (Nat.le_of_ble_eq_true rfl) dX10_table_43 ⟨Nat.le_of_ble_eq_true rfl, Nat.le_of_ble_eq_true rfl⟩ (fun q_43 => ?_)
      refine x_bool (fun b_43 => ?_) (fun b_43 => ?_)
      · refine cstm_call E hout hlk hK hC hS hl (c_require l hlt D cy d0 A la _ (z := 1) (Or.inr rfl)) (va_cwS 1 hts0 gX10_table_X10_require rfl rfl rfl (by decide +kernel) ⟨Nat.le_of_ble_eq_true rfl, Nat.le_of_ble_eq_true rfl⟩) rfl rfl (Nat.le_of_ble_eq_true rfl) dX10_table_46 ⟨Nat.le_of_ble_eq_true rfl, Nat.le_of_ble_eq_true rfl⟩ ⟨Nat.le_of_ble_eq_true rfl, Nat.le_of_ble_eq_true rfl⟩ (fun h => ⟨by unfold tableC; omega, rfl⟩) (fun h9_46 H locs q_46 hC hS => ?_)
        refine x_aload_n B hl dX10_table_49 rfl ?_
        refine co_getR (x := la 2 0) E hC 0 (by decide) cl_0 rfl (fun z h => List.mem_cons_of_mem _ (List.mem_append_left _ (List.mem_append_left _ (List.mem_append_right _ h)))) 6 (by decide) (hts (.fieldLink RX10 38 "BinRounds" "tables" "LBinRounds$Tables;") (by decide +kernel)) (fun x hx => hx) dX10_table_50 rfl rfl ?_
        refine x_iload_n B hl dX10_table_53 rfl ?_
        refine x_iload_n B hl dX10_table_54 rfl ?_
        refine x_iload_n B hl dX10_table_55 rfl ?_
        refine co_call E hK hC hS hl (κ := 2) (i := 0) (by decide) cl_2 rfl (c_tabSet l D cy d0 A la σ (k := k) (lf := lf) (rt := rt) (by omega) (by omega) (by omega)) (cwV 3 hts0 gX10_table_X8_set rfl rfl rfl (by decide +kernel) ⟨Nat.le_of_ble_eq_true rfl, Nat.le_of_ble_eq_true rfl⟩) rfl rfl (Nat.le_of_ble_eq_true rfl) dX10_table_56 ⟨Nat.le_of_ble_eq_true rfl, Nat.le_of_ble_eq_true rfl⟩ (fun H locs q_56 hC hS => ?_)
        exact w_widen (Nat.le_of_ble_eq_true rfl) (Nat.le_of_ble_eq_true rfl) (vx_ret (co_vret E hr hlk hC hS dX10_table_59 ⟨(by unfold tableC; omega), rfl, rfl, rfl, (by first | trivial | omega)⟩))
      · refine cstm_call E hout hlk hK hC hS hl (c_require l hlt D cy d0 A la _ (z := 0) (Or.inl rfl)) (va_cwS 1 hts0 gX10_table_X10_require rfl rfl rfl (by decide +kernel) ⟨Nat.le_of_ble_eq_true rfl, Nat.le_of_ble_eq_true rfl⟩) rfl rfl (Nat.le_of_ble_eq_true rfl) dX10_table_46 ⟨Nat.le_of_ble_eq_true rfl, Nat.le_of_ble_eq_true rfl⟩ ⟨Nat.le_of_ble_eq_true rfl, Nat.le_of_ble_eq_true rfl⟩ (fun h => ⟨by unfold tableC; omega, rfl⟩) (fun h9_46 H locs q_46 hC hS => ?_)
        refine x_aload_n B hl dX10_table_49 rfl ?_
        refine co_getR (x := la 2 0) E hC 0 (by decide) cl_0 rfl (fun z h => List.mem_cons_of_mem _ (List.mem_append_left _ (List.mem_append_left _ (List.mem_append_right _ h)))) 6 (by decide) (hts (.fieldLink RX10 38 "BinRounds" "tables" "LBinRounds$Tables;") (by decide +kernel)) (fun x hx => hx) dX10_table_50 rfl rfl ?_
        refine x_iload_n B hl dX10_table_53 rfl ?_
        refine x_iload_n B hl dX10_table_54 rfl ?_
        refine x_iload_n B hl dX10_table_55 rfl ?_
        refine co_call E hK hC hS hl (κ := 2) (i := 0) (by decide) cl_2 rfl (c_tabSet l D cy d0 A la σ (k := k) (lf := lf) (rt := rt) (by omega) (by omega) (by omega)) (cwV 3 hts0 gX10_table_X8_set rfl rfl rfl (by decide +kernel) ⟨Nat.le_of_ble_eq_true rfl, Nat.le_of_ble_eq_true rfl⟩) rfl rfl (Nat.le_of_ble_eq_true rfl) dX10_table_56 ⟨Nat.le_of_ble_eq_true rfl, Nat.le_of_ble_eq_true rfl⟩ (fun H locs q_56 hC hS => ?_)
        exact w_widen (Nat.le_of_ble_eq_true rfl) (Nat.le_of_ble_eq_true rfl) (vx_ret (co_vret E hr hlk hC hS dX10_table_59 ⟨(by unfold tableC; omega), rfl, rfl, rfl, (by first | trivial | omega)⟩))
set_option maxHeartbeats 4000000 in
set_option maxRecDepth 100000 in
theorem c_p_band (l : Launch) (hlt : l.stackTraces = false) (D : va_G) (cy : Nat → ClassId) (d0 : Nat) (A : Nat → Prop) (la : Nat → Int → Nat) (σ : MS) {h : Int} {n : Int} (h_h : -2147483648 ≤ h ∧ h < 2147483648) (h_n : -2147483648 ≤ n ∧ n < 2147483648) (hn5 : 0 ≤ σ 5 0 ∧ σ 5 0 ≤ 1000) (hn11 : 0 ≤ σ 11 0 ∧ σ 11 0 ≤ 1000) (hn23 : 0 ≤ σ 23 0 ∧ σ 23 0 ≤ 1000) (hn27 : 0 ≤ σ 27 0 ∧ σ 27 0 ≤ 1000) (hn45 : 0 ≤ σ 45 0 ∧ σ 45 0 ≤ 600) (hlg : σ 58 0 = 0 ∧ σ 59 0 = 0) (h7 : 0 ≤ σ 7 h ∧ σ 7 h ≤ 1000000000) : CT l yX10_band wsX10_band ({ frames := 8, cells := 16, slots := 256, locals := 124 } : Room) D cy d0 A [.ref (la 0 0), .int (iI h), .int (iI n)] la σ ((if bandC σ h n = 1 then 1 else (if bandC σ h n = 2 then 2 else 0))) (cPm (some (.int (iI (σ 7 h + n)))) la (up (up σ 7 h (σ 7 h + n)) 8 h (σ 8 h + σ 30 0 * n)) (True)) 16 256 := by
  refine ct_of (cc := cX10_band) (nL := 4) (ret := (some .int)) (by decide) rfl (Nat.le_of_ble_eq_true rfl) ?_
  intro p e s m args below meth c ls E hout hr hlk hK hC hS hl
  have B := E.1
  have hml := E.2.1
  have hown := E.2.2.1
  have hts0 := E.2.2.2.1
  have hts := E.2.2.2.1
  have hw := hC.2.2.2.2.2.1
  refine x_aload_n B hl dX10_band_0 rfl ?_
  refine x_iload_n B hl dX10_band_1 rfl ?_
  refine ctm_call E hout hlk hK hC hS hl (κ := 0) (i := 0) (by decide) cl_0 rfl (c_houseAt l hlt D cy d0 A la _ (z := h) h_h (by omega) (by omega) hlg) (cwV 1 hts0 gX10_band_X10_houseAt rfl rfl rfl (by decide +kernel) ⟨Nat.le_of_ble_eq_true rfl, Nat.le_of_ble_eq_true rfl⟩) rfl rfl (Nat.le_of_ble_eq_true rfl) dX10_band_2 ⟨Nat.le_of_ble_eq_true rfl, Nat.le_of_ble_eq_true rfl⟩ ⟨Nat.le_of_ble_eq_true rfl, Nat.le_of_ble_eq_true rfl⟩ (fun h => ⟨by unfold bandC; omega, rfl⟩) (fun h9_2 H locs hh1 hC hS => ?_)
  refine x_astore_n B hl dX10_band_5 (by decide) (fun ls hl => ?_)
  refine x_iload_n B hl dX10_band_6 rfl ?_
  refine x_i2l B dX10_band_7 (by omega) ?_
  refine x_lconst B dX10_band_8 ?_
  refine lv_ldc2 (v := lI 1000) B.1 B.2 hown (hts (.constantLong RX10 161 (1000)) (by decide +kernel)) dX10_band_9 ?_
  refine z_call ⟨B.1, B.2, hml, hown, hts0⟩ hl (c_isWithin l (v := n) (a := 1) (b := 1000) (by omega) (by omega) (by omega)) (va_cwS 3 hts0 gX10_band_X10_isWithin rfl rfl rfl (by decide +kernel) ⟨Nat.le_of_ble_eq_true rfl, Nat.le_of_ble_eq_true rfl⟩) rfl rfl (Nat.le_of_ble_eq_true rfl) dX10_band_12 ⟨Nat.le_of_ble_eq_true rfl, Nat.le_of_ble_eq_true rfl⟩ (fun q_12 => ?_)
  refine x_bool (fun b_12 => ?_) (fun b_12 => ?_)
  · refine cstm_call E hout hlk hK hC hS hl (c_require l hlt D cy d0 A la _ (z := 1) (Or.inr rfl)) (va_cwS 1 hts0 gX10_band_X10_require rfl rfl rfl (by decide +kernel) ⟨Nat.le_of_ble_eq_true rfl, Nat.le_of_ble_eq_true rfl⟩) rfl rfl (Nat.le_of_ble_eq_true rfl) dX10_band_15 ⟨Nat.le_of_ble_eq_true rfl, Nat.le_of_ble_eq_true rfl⟩ ⟨Nat.le_of_ble_eq_true rfl, Nat.le_of_ble_eq_true rfl⟩ (fun h => ⟨by unfold bandC; omega, rfl⟩) (fun h9_15 H locs q_15 hC hS => ?_)
    refine x_aload_n B hl dX10_band_18 rfl ?_
    refine x_dup B dX10_band_19 rfl ?_
    refine co_geti (f := 7) E hC 5 (by decide) (cl_5 hh1) rfl (fun z h => List.mem_cons_of_mem _ (List.mem_append_left _ (List.mem_append_left _ (List.mem_append_left _ (List.mem_append_left _ (List.mem_append_right _ h)))))) 3 (by decide) (hts (.fieldLink RX10 184 "BinRounds$House" "bands" "I") (by decide +kernel)) (fun x hx => hx) dX10_band_20 ⟨rfl, rfl, rfl⟩ rfl (fun r_20 => ?_)
    refine x_iload_n B hl dX10_band_23 rfl ?_
    refine x_iadd B dX10_band_24 ?_
    refine co_puti (f := 7) E hC hS 5 (by decide) (cl_5 hh1) rfl (fun z h => List.mem_cons_of_mem _ (List.mem_append_left _ (List.mem_append_left _ (List.mem_append_left _ (List.mem_append_left _ (List.mem_append_right _ h)))))) tyX3 tyX3_ok nmX3 3 (by decide) (hts (.fieldLink RX10 184 "BinRounds$House" "bands" "I") (by decide +kernel)) (fun x hx => hx) rfl rfl dX10_band_25 (by decide) ⟨rfl, rfl, rfl, rfl⟩ (by omega) (fun H locs hC hS => ?_)
    refine x_aload_n B hl dX10_band_28 rfl ?_
    refine x_dup B dX10_band_29 rfl ?_
    refine co_getl (f := 8) E hC 5 (by decide) (cl_up (by decide) (cl_5 hh1)) rfl (fun z h => List.mem_cons_of_mem _ (List.mem_append_left _ (List.mem_append_left _ (List.mem_append_left _ (List.mem_append_left _ (List.mem_append_right _ h)))))) 5 (by decide) (hts (.fieldLink RX10 187 "BinRounds$House" "fromBands" "J") (by decide +kernel)) (fun x hx => hx) dX10_band_30 ⟨rfl, rfl⟩ (up_ne (by decide) rfl) ?_
    refine x_aload_n B hl dX10_band_33 rfl ?_
    refine co_geti (f := 30) E hC 0 (by decide) cl_0 rfl (fun z h => List.mem_cons_of_mem _ (List.mem_append_left _ (List.mem_append_left _ (List.mem_append_left _ (List.mem_append_right _ h))))) 9 (by decide) (hts (.fieldLink RX10 53 "BinRounds" "price" "I") (by decide +kernel)) (fun x hx => hx) dX10_band_34 ⟨rfl, rfl, rfl⟩ (up_ne (by decide) rfl) (fun r_34 => ?_)
    refine x_i2l B dX10_band_37 (by omega) ?_
    refine x_iload_n B hl dX10_band_38 rfl ?_
    refine x_i2l B dX10_band_39 (by omega) ?_
    refine x_lmul B dX10_band_40 ?_
    refine x_ladd B dX10_band_41 ?_
    refine co_putl (f := 8) E hC hS 5 (by decide) (cl_up (by decide) (cl_5 hh1)) rfl (fun z h => List.mem_cons_of_mem _ (List.mem_append_left _ (List.mem_append_left _ (List.mem_append_left _ (List.mem_append_left _ (List.mem_append_right _ h)))))) tyX3 tyX3_ok nmX3 5 (by decide) (hts (.fieldLink RX10 187 "BinRounds$House" "fromBands" "J") (by decide +kernel)) (fun x hx => hx) rfl rfl dX10_band_42 (by decide) ⟨rfl, rfl, rfl, rfl⟩  (fun H locs hC hS => ?_)
    refine x_aload_n B hl dX10_band_45 rfl ?_
    refine co_geti (f := 7) E hC 5 (by decide) (cl_up (by decide) (cl_up (by decide) (cl_5 hh1))) rfl (fun z h => List.mem_cons_of_mem _ (List.mem_append_left _ (List.mem_append_left _ (List.mem_append_left _ (List.mem_append_left _ (List.mem_append_right _ h)))))) 3 (by decide) (hts (.fieldLink RX10 184 "BinRounds$House" "bands" "I") (by decide +kernel)) (fun x hx => hx) dX10_band_46 ⟨rfl, rfl, rfl⟩ up_s (fun r_46 => ?_)
    exact w_widen (Nat.le_of_ble_eq_true rfl) (Nat.le_of_ble_eq_true rfl) (vx_ret (co_iret E hr rfl hlk hC hS dX10_band_49 ⟨(by unfold bandC; omega), congrArg (fun z => some (Value.int z)) rfl, rfl, rfl, (by first | trivial | omega)⟩))
  · refine cstm_call E hout hlk hK hC hS hl (c_require l hlt D cy d0 A la _ (z := 0) (Or.inl rfl)) (va_cwS 1 hts0 gX10_band_X10_require rfl rfl rfl (by decide +kernel) ⟨Nat.le_of_ble_eq_true rfl, Nat.le_of_ble_eq_true rfl⟩) rfl rfl (Nat.le_of_ble_eq_true rfl) dX10_band_15 ⟨Nat.le_of_ble_eq_true rfl, Nat.le_of_ble_eq_true rfl⟩ ⟨Nat.le_of_ble_eq_true rfl, Nat.le_of_ble_eq_true rfl⟩ (fun h => ⟨by unfold bandC; omega, rfl⟩) (fun h9_15 H locs q_15 hC hS => ?_)
    refine x_aload_n B hl dX10_band_18 rfl ?_
    refine x_dup B dX10_band_19 rfl ?_
    refine co_geti (f := 7) E hC 5 (by decide) (cl_5 hh1) rfl (fun z h => List.mem_cons_of_mem _ (List.mem_append_left _ (List.mem_append_left _ (List.mem_append_left _ (List.mem_append_left _ (List.mem_append_right _ h)))))) 3 (by decide) (hts (.fieldLink RX10 184 "BinRounds$House" "bands" "I") (by decide +kernel)) (fun x hx => hx) dX10_band_20 ⟨rfl, rfl, rfl⟩ rfl (fun r_20 => ?_)
    refine x_iload_n B hl dX10_band_23 rfl ?_
    refine x_iadd B dX10_band_24 ?_
    refine co_puti (f := 7) E hC hS 5 (by decide) (cl_5 hh1) rfl (fun z h => List.mem_cons_of_mem _ (List.mem_append_left _ (List.mem_append_left _ (List.mem_append_left _ (List.mem_append_left _ (List.mem_append_right _ h)))))) tyX3 tyX3_ok nmX3 3 (by decide) (hts (.fieldLink RX10 184 "BinRounds$House" "bands" "I") (by decide +kernel)) (fun x hx => hx) rfl rfl dX10_band_25 (by decide) ⟨rfl, rfl, rfl, rfl⟩ (by omega) (fun H locs hC hS => ?_)
    refine x_aload_n B hl dX10_band_28 rfl ?_
    refine x_dup B dX10_band_29 rfl ?_
    refine co_getl (f := 8) E hC 5 (by decide) (cl_up (by decide) (cl_5 hh1)) rfl (fun z h => List.mem_cons_of_mem _ (List.mem_append_left _ (List.mem_append_left _ (List.mem_append_left _ (List.mem_append_left _ (List.mem_append_right _ h)))))) 5 (by decide) (hts (.fieldLink RX10 187 "BinRounds$House" "fromBands" "J") (by decide +kernel)) (fun x hx => hx) dX10_band_30 ⟨rfl, rfl⟩ (up_ne (by decide) rfl) ?_
    refine x_aload_n B hl dX10_band_33 rfl ?_
    refine co_geti (f := 30) E hC 0 (by decide) cl_0 rfl (fun z h => List.mem_cons_of_mem _ (List.mem_append_left _ (List.mem_append_left _ (List.mem_append_left _ (List.mem_append_right _ h))))) 9 (by decide) (hts (.fieldLink RX10 53 "BinRounds" "price" "I") (by decide +kernel)) (fun x hx => hx) dX10_band_34 ⟨rfl, rfl, rfl⟩ (up_ne (by decide) rfl) (fun r_34 => ?_)
    refine x_i2l B dX10_band_37 (by omega) ?_
    refine x_iload_n B hl dX10_band_38 rfl ?_
    refine x_i2l B dX10_band_39 (by omega) ?_
    refine x_lmul B dX10_band_40 ?_
    refine x_ladd B dX10_band_41 ?_
    refine co_putl (f := 8) E hC hS 5 (by decide) (cl_up (by decide) (cl_5 hh1)) rfl (fun z h => List.mem_cons_of_mem _ (List.mem_append_left _ (List.mem_append_left _ (List.mem_append_left _ (List.mem_append_left _ (List.mem_append_right _ h)))))) tyX3 tyX3_ok nmX3 5 (by decide) (hts (.fieldLink RX10 187 "BinRounds$House" "fromBands" "J") (by decide +kernel)) (fun x hx => hx) rfl rfl dX10_band_42 (by decide) ⟨rfl, rfl, rfl, rfl⟩  (fun H locs hC hS => ?_)
    refine x_aload_n B hl dX10_band_45 rfl ?_
    refine co_geti (f := 7) E hC 5 (by decide) (cl_up (by decide) (cl_up (by decide) (cl_5 hh1))) rfl (fun z h => List.mem_cons_of_mem _ (List.mem_append_left _ (List.mem_append_left _ (List.mem_append_left _ (List.mem_append_left _ (List.mem_append_right _ h)))))) 3 (by decide) (hts (.fieldLink RX10 184 "BinRounds$House" "bands" "I") (by decide +kernel)) (fun x hx => hx) dX10_band_46 ⟨rfl, rfl, rfl⟩ up_s (fun r_46 => ?_)
    exact w_widen (Nat.le_of_ble_eq_true rfl) (Nat.le_of_ble_eq_true rfl) (vx_ret (co_iret E hr rfl hlk hC hS dX10_band_49 ⟨(by unfold bandC; omega), congrArg (fun z => some (Value.int z)) rfl, rfl, rfl, (by first | trivial | omega)⟩))
