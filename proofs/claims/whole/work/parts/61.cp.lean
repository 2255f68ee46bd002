theorem sBr_c {σ τ : MS} (h13 : τ 13 = σ 13) (h14 : τ 14 = σ 14) (mk : Int) : ∀ n, sBr τ mk n = sBr σ mk n
  | 0 => rfl
  | n + 1 => by rw [sBr, sBr, h13, h14, sBr_c h13 h14 mk n]
set_option maxHeartbeats 4000000 in
set_option maxRecDepth 100000 in
theorem c_p_mark (l : Launch) (hlt : l.stackTraces = false) (D : va_G) (cy : Nat → ClassId) (d0 : Nat) (A : Nat → Prop) (la : Nat → Int → Nat) (σ : MS) {b : Int} {mk : Int} (h_b : -2147483648 ≤ b ∧ b < 2147483648) (h_mk : -2147483648 ≤ mk ∧ mk < 2147483648) (hn5 : 0 ≤ σ 5 0 ∧ σ 5 0 ≤ 1000) (hn11 : 0 ≤ σ 11 0 ∧ σ 11 0 ≤ 1000) (hn23 : 0 ≤ σ 23 0 ∧ σ 23 0 ≤ 1000) (hn27 : 0 ≤ σ 27 0 ∧ σ 27 0 ≤ 1000) (hn45 : 0 ≤ σ 45 0 ∧ σ 45 0 ≤ 600) (hlg : σ 58 0 = 0 ∧ σ 59 0 = 0)  : CT l yX10_mark wsX10_mark ({ frames := 8, cells := 16, slots := 256, locals := 124 } : Room) D cy d0 A [.ref (la 0 0), .int (iI b), .int (iI mk)] la σ ((if markC σ b = 1 then 1 else 0)) (cPm (some (.int (iI (sBear (markS σ b mk) mk)))) la (markS σ b mk) (True)) 16 256 := by
  refine ct_of (cc := cX10_mark) (nL := 4) (ret := (some .int)) (by decide) rfl (Nat.le_of_ble_eq_true rfl) ?_
  intro p e s m args below meth c ls E hout hr hlk hK hC hS hl
  have B := E.1
  have hml := E.2.1
  have hown := E.2.2.1
  have hts0 := E.2.2.2.1
  have hts := E.2.2.2.1
  have hw := hC.2.2.2.2.2.1
  refine x_aload_n B hl dX10_mark_0 rfl ?_
  refine x_iload_n B hl dX10_mark_1 rfl ?_
  refine ctm_call E hout hlk hK hC hS hl (κ := 0) (i := 0) (by decide) cl_0 rfl (c_binAt l hlt D cy d0 A la _ (z := b) h_b (by omega) hlg) (cwV 1 hts0 gX10_mark_X10_binAt rfl rfl rfl (by decide +kernel) ⟨Nat.le_of_ble_eq_true rfl, Nat.le_of_ble_eq_true rfl⟩) rfl rfl (Nat.le_of_ble_eq_true rfl) dX10_mark_2 ⟨Nat.le_of_ble_eq_true rfl, Nat.le_of_ble_eq_true rfl⟩ ⟨Nat.le_of_ble_eq_true rfl, Nat.le_of_ble_eq_true rfl⟩ (fun h => ⟨by unfold markC; omega, rfl⟩) (fun h9_2 H locs hb1 hC hS => ?_)
  refine x_astore_n B hl dX10_mark_5 (by decide) (fun ls hl => ?_)
  refine x_aload_n B hl dX10_mark_6 rfl ?_
  refine x_iconst B dX10_mark_7 ?_
  refine co_putb (f := 13) E hC hS 6 (by decide) (cl_6 hb1) rfl (fun z h => List.mem_cons_of_mem _ (List.mem_append_left _ (List.mem_append_left _ (List.mem_append_left _ (List.mem_append_right _ h))))) tyX0 tyX0_ok nmX0 4 (by decide) (hts (.fieldLink RX10 138 "BinRounds$Bin" "hasMark" "Z") (by decide +kernel)) (fun x hx => hx) rfl rfl dX10_mark_8 (by decide) ⟨rfl, rfl, rfl, rfl⟩ (by omega) (fun H locs hC hS => ?_)
  refine x_aload_n B hl dX10_mark_11 rfl ?_
  refine x_iload_n B hl dX10_mark_12 rfl ?_
  refine co_puti (f := 14) E hC hS 6 (by decide) (cl_up (by decide) (cl_6 hb1)) rfl (fun z h => List.mem_cons_of_mem _ (List.mem_append_left _ (List.mem_append_left _ (List.mem_append_left _ (List.mem_append_right _ h))))) tyX0 tyX0_ok nmX0 5 (by decide) (hts (.fieldLink RX10 142 "BinRounds$Bin" "markNumber" "I") (by decide +kernel)) (fun x hx => hx) rfl rfl dX10_mark_13 (by decide) ⟨rfl, rfl, rfl, rfl⟩ (by omega) (fun H locs hC hS => ?_)
  refine x_aload_n B hl dX10_mark_16 rfl ?_
  refine x_iload_n B hl dX10_mark_17 rfl ?_
  refine co_call E hK hC hS hl (κ := 0) (i := 0) (by decide) cl_0 rfl (c_countBearing l D cy d0 A la (up (up σ 13 b 1) 14 b mk) (mk := mk) h_mk hn23 hlg) (cwV 1 hts0 gX10_mark_X10_countBearing rfl rfl rfl (by decide +kernel) ⟨Nat.le_of_ble_eq_true rfl, Nat.le_of_ble_eq_true rfl⟩) rfl rfl (Nat.le_of_ble_eq_true rfl) dX10_mark_18 ⟨Nat.le_of_ble_eq_true rfl, Nat.le_of_ble_eq_true rfl⟩ (fun H locs q_18 hC hS => ?_)
  exact w_widen (Nat.le_of_ble_eq_true rfl) (Nat.le_of_ble_eq_true rfl) (vx_ret (co_iret E hr rfl hlk hC hS dX10_mark_21 ⟨(by unfold markC; omega), congrArg (fun z => some (Value.int z)) rfl, rfl, rfl, (by first | trivial | omega)⟩))
