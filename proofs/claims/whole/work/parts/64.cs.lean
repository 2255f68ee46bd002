set_option maxHeartbeats 4000000 in
set_option maxRecDepth 100000 in
theorem c_p_about (l : Launch) (hlt : l.stackTraces = false) (D : va_G) (cy : Nat → ClassId) (d0 : Nat) (A : Nat → Prop) (la : Nat → Int → Nat) (σ : MS) {h : Int} {wt : Int} (h_h : -2147483648 ≤ h ∧ h < 2147483648) (h_wt : -2147483648 ≤ wt ∧ wt < 2147483648) (hn5 : 0 ≤ σ 5 0 ∧ σ 5 0 ≤ 1000) (hn11 : 0 ≤ σ 11 0 ∧ σ 11 0 ≤ 1000) (hn23 : 0 ≤ σ 23 0 ∧ σ 23 0 ≤ 1000) (hn27 : 0 ≤ σ 27 0 ∧ σ 27 0 ≤ 1000) (hn45 : 0 ≤ σ 45 0 ∧ σ 45 0 ≤ 600) (hlg : σ 58 0 = 0 ∧ σ 59 0 = 0) (hho : ∀ b, 0 ≤ b ∧ b < σ 23 0 → ¬ sHouse σ b (σ 1 0) < 0 → 0 ≤ sHouse σ b (σ 1 0) ∧ sHouse σ b (σ 1 0) < σ 11 0) (hm : ∀ b, 0 ≤ σ 18 b ∧ σ 18 b ≤ 8) (hv : ∀ j, 0 ≤ σ 16 j) (hop : 0 ≤ σ 1 0 ∧ σ 1 0 ≤ 699) : CT l yX10_about wsX10_about ({ frames := 8, cells := 16, slots := 256, locals := 124 } : Room) D cy d0 A [.ref (la 0 0), .int (iI h), .int (iI wt)] la σ ((if aboutC σ h wt = 1 then 1 else (if aboutC σ h wt = 2 then 4 else 0))) (cPm (some (.int (iI (aboutR σ h wt)))) la (σ) (True)) 16 256 := by
  refine ct_of (cc := cX10_about) (nL := 4) (ret := (some .int)) (by decide) rfl (Nat.le_of_ble_eq_true rfl) ?_
  intro p e s m args below meth c ls E hout hr hlk hK hC hS hl
  have B := E.1
  have hml := E.2.1
  have hown := E.2.2.1
  have hts0 := E.2.2.2.1
  have hts := E.2.2.2.1
  have hw := hC.2.2.2.2.2.1
  refine x_aload_n B hl dX10_about_0 rfl ?_
  refine x_iload_n B hl dX10_about_1 rfl ?_
  refine ctm_call E hout hlk hK hC hS hl (κ := 0) (i := 0) (by decide) cl_0 rfl (c_houseAt l hlt D cy d0 A la _ (z := h) h_h (by omega) (by omega) hlg) (cwV 1 hts0 gX10_about_X10_houseAt rfl rfl rfl (by decide +kernel) ⟨Nat.le_of_ble_eq_true rfl, Nat.le_of_ble_eq_true rfl⟩) rfl rfl (Nat.le_of_ble_eq_true rfl) dX10_about_2 ⟨Nat.le_of_ble_eq_true rfl, Nat.le_of_ble_eq_true rfl⟩ ⟨Nat.le_of_ble_eq_true rfl, Nat.le_of_ble_eq_true rfl⟩ (fun h => ⟨by unfold aboutC; omega, rfl⟩) (fun h9_2 H locs hh1 hC hS => ?_)
  refine x_astore_n B hl dX10_about_5 (by decide) (fun ls hl => ?_)
  refine x_iload_n B hl dX10_about_6 rfl ?_
  refine x_i2l B dX10_about_7 (by omega) ?_
  refine x_lconst B dX10_about_8 ?_
  refine lv_ldc2 (v := lI 2) B.1 B.2 hown (hts (.constantLong RX10 343 (2)) (by decide +kernel)) dX10_about_9 ?_
  refine z_call ⟨B.1, B.2, hml, hown, hts0⟩ hl (c_isWithin l (v := wt) (a := 0) (b := 2) (by omega) (by omega) (by omega)) (va_cwS 3 hts0 gX10_about_X10_isWithin rfl rfl rfl (by decide +kernel) ⟨Nat.le_of_ble_eq_true rfl, Nat.le_of_ble_eq_true rfl⟩) rfl rfl (Nat.le_of_ble_eq_true rfl) dX10_about_12 ⟨Nat.le_of_ble_eq_true rfl, Nat.le_of_ble_eq_true rfl⟩ (fun q_12 => ?_)
  refine x_bool (fun b_12 => ?_) (fun b_12 => ?_)
  · refine cstm_call E hout hlk hK hC hS hl (c_requireThere l hlt D cy d0 A la _ (z := 1) (Or.inr rfl)) (va_cwS 1 hts0 gX10_about_X10_requireThere rfl rfl rfl (by decide +kernel) ⟨Nat.le_of_ble_eq_true rfl, Nat.le_of_ble_eq_true rfl⟩) rfl rfl (Nat.le_of_ble_eq_true rfl) dX10_about_15 ⟨Nat.le_of_ble_eq_true rfl, Nat.le_of_ble_eq_true rfl⟩ ⟨Nat.le_of_ble_eq_true rfl, Nat.le_of_ble_eq_true rfl⟩ (fun h => ⟨by unfold aboutC; omega, rfl⟩) (fun h9_15 H locs q_15 hC hS => ?_)
    refine x_iload_n B hl dX10_about_18 rfl ?_
    rcases (show wt = 0 ∨ wt = 1 ∨ (¬ wt = 0 ∧ ¬ wt = 1) by omega) with hk | hk | hk
    · refine lv_lookup (off := 25) (tgt := 44) B.1 B.2 dX10_about_19 (by decide) (by rw [iI_toInt h_wt, hk]; decide) (by decide) ?_
      refine x_aload_n B hl dX10_about_44 rfl ?_
      refine co_geti (f := 6) E hC 5 (by decide) (cl_5 hh1) rfl (fun z h => List.mem_cons_of_mem _ (List.mem_append_left _ (List.mem_append_left _ (List.mem_append_left _ (List.mem_append_left _ (List.mem_append_left _ (List.mem_append_left _ (List.mem_append_right _ h)))))))) 1 (by decide) (hts (.fieldLink RX10 345 "BinRounds$House" "streetNumber" "I") (by decide +kernel)) (fun x hx => hx) dX10_about_45 ⟨rfl, rfl, rfl⟩ rfl (fun r_45 => ?_)
      exact w_widen (Nat.le_of_ble_eq_true rfl) (Nat.le_of_ble_eq_true rfl) (vx_ret (co_iret E hr rfl hlk hC hS dX10_about_48 ⟨(by unfold aboutC; omega), congrArg (fun z => some (Value.int z)) (congrArg iI (by unfold aboutR; rw [if_pos (by omega)])), rfl, rfl, trivial⟩))
    · refine lv_lookup (off := 30) (tgt := 49) B.1 B.2 dX10_about_19 (by decide) (by rw [iI_toInt h_wt, hk]; decide) (by decide) ?_
      refine x_aload_n B hl dX10_about_49 rfl ?_
      refine co_geti (f := 7) E hC 5 (by decide) (cl_5 hh1) rfl (fun z h => List.mem_cons_of_mem _ (List.mem_append_left _ (List.mem_append_left _ (List.mem_append_left _ (List.mem_append_left _ (List.mem_append_left _ (List.mem_append_left _ (List.mem_append_right _ h)))))))) 3 (by decide) (hts (.fieldLink RX10 184 "BinRounds$House" "bands" "I") (by decide +kernel)) (fun x hx => hx) dX10_about_50 ⟨rfl, rfl, rfl⟩ rfl (fun r_50 => ?_)
      exact w_widen (Nat.le_of_ble_eq_true rfl) (Nat.le_of_ble_eq_true rfl) (vx_ret (co_iret E hr rfl hlk hC hS dX10_about_53 ⟨(by unfold aboutC; omega), congrArg (fun z => some (Value.int z)) (congrArg iI (by unfold aboutR; rw [if_neg (by omega), if_pos (by omega)])), rfl, rfl, trivial⟩))
    · refine lv_lookup (off := 35) (tgt := 54) B.1 B.2 dX10_about_19 (by decide) (by rw [iI_toInt h_wt]; simp [Op.lookupswitch.offset_cons, hk.1, hk.2, Ne.symm hk.1, Ne.symm hk.2, Op.lookupswitch.offset]) (by decide) ?_
      refine x_aload_n B hl dX10_about_54 rfl ?_
      refine x_aload_n B hl dX10_about_55 rfl ?_
      refine co_call E hK hC hS hl (κ := 0) (i := 0) (by decide) cl_0 rfl (c_countBinsAt l D cy d0 A la σ (h := h) hh1 hho hn23 hm hv hop hlg) (cwV 1 hts0 gX10_about_X10_countBinsAt rfl rfl rfl (by decide +kernel) ⟨Nat.le_of_ble_eq_true rfl, Nat.le_of_ble_eq_true rfl⟩) rfl rfl (Nat.le_of_ble_eq_true rfl) dX10_about_56 ⟨Nat.le_of_ble_eq_true rfl, Nat.le_of_ble_eq_true rfl⟩ (fun H locs q_56 hC hS => ?_)
      exact w_widen (Nat.le_of_ble_eq_true rfl) (Nat.le_of_ble_eq_true rfl) (vx_ret (co_iret E hr rfl hlk hC hS dX10_about_59 ⟨(by unfold aboutC; omega), congrArg (fun z => some (Value.int z)) (congrArg iI (by unfold aboutR; rw [if_neg (by omega), if_neg (by omega)])), rfl, rfl, trivial⟩))
  · refine cstm_call E hout hlk hK hC hS hl (c_requireThere l hlt D cy d0 A la _ (z := 0) (Or.inl rfl)) (va_cwS 1 hts0 gX10_about_X10_requireThere rfl rfl rfl (by decide +kernel) ⟨Nat.le_of_ble_eq_true rfl, Nat.le_of_ble_eq_true rfl⟩) rfl rfl (Nat.le_of_ble_eq_true rfl) dX10_about_15 ⟨Nat.le_of_ble_eq_true rfl, Nat.le_of_ble_eq_true rfl⟩ ⟨Nat.le_of_ble_eq_true rfl, Nat.le_of_ble_eq_true rfl⟩ (fun h => ⟨by unfold aboutC; omega, rfl⟩) (fun h9_15 H locs q_15 hC hS => ?_)
    refine x_iload_n B hl dX10_about_18 rfl ?_
    rcases (show wt = 0 ∨ wt = 1 ∨ (¬ wt = 0 ∧ ¬ wt = 1) by omega) with hk | hk | hk
    · refine lv_lookup (off := 25) (tgt := 44) B.1 B.2 dX10_about_19 (by decide) (by rw [iI_toInt h_wt, hk]; decide) (by decide) ?_
      refine x_aload_n B hl dX10_about_44 rfl ?_
      refine co_geti (f := 6) E hC 5 (by decide) (cl_5 hh1) rfl (fun z h => List.mem_cons_of_mem _ (List.mem_append_left _ (List.mem_append_left _ (List.mem_append_left _ (List.mem_append_left _ (List.mem_append_left _ (List.mem_append_left _ (List.mem_append_right _ h)))))))) 1 (by decide) (hts (.fieldLink RX10 345 "BinRounds$House" "streetNumber" "I") (by decide +kernel)) (fun x hx => hx) dX10_about_45 ⟨rfl, rfl, rfl⟩ rfl (fun r_45 => ?_)
      exact w_widen (Nat.le_of_ble_eq_true rfl) (Nat.le_of_ble_eq_true rfl) (vx_ret (co_iret E hr rfl hlk hC hS dX10_about_48 ⟨(by unfold aboutC; omega), congrArg (fun z => some (Value.int z)) (congrArg iI (by unfold aboutR; rw [if_pos (by omega)])), rfl, rfl, trivial⟩))
    · refine lv_lookup (off := 30) (tgt := 49) B.1 B.2 dX10_about_19 (by decide) (by rw [iI_toInt h_wt, hk]; decide) (by decide) ?_
      refine x_aload_n B hl dX10_about_49 rfl ?_
      refine co_geti (f := 7) E hC 5 (by decide) (cl_5 hh1) rfl (fun z h => List.mem_cons_of_mem _ (List.mem_append_left _ (List.mem_append_left _ (List.mem_append_left _ (List.mem_append_left _ (List.mem_append_left _ (List.mem_append_left _ (List.mem_append_right _ h)))))))) 3 (by decide) (hts (.fieldLink RX10 184 "BinRounds$House" "bands" "I") (by decide +kernel)) (fun x hx => hx) dX10_about_50 ⟨rfl, rfl, rfl⟩ rfl (fun r_50 => ?_)
      exact w_widen (Nat.le_of_ble_eq_true rfl) (Nat.le_of_ble_eq_true rfl) (vx_ret (co_iret E hr rfl hlk hC hS dX10_about_53 ⟨(by unfold aboutC; omega), congrArg (fun z => some (Value.int z)) (congrArg iI (by unfold aboutR; rw [if_neg (by omega), if_pos (by omega)])), rfl, rfl, trivial⟩))
    · refine lv_lookup (off := 35) (tgt := 54) B.1 B.2 dX10_about_19 (by decide) (by rw [iI_toInt h_wt]; simp [Op.lookupswitch.offset_cons, hk.1, hk.2, Ne.symm hk.1, Ne.symm hk.2, Op.lookupswitch.offset]) (by decide) ?_
      refine x_aload_n B hl dX10_about_54 rfl ?_
      refine x_aload_n B hl dX10_about_55 rfl ?_
      refine co_call E hK hC hS hl (κ := 0) (i := 0) (by decide) cl_0 rfl (c_countBinsAt l D cy d0 A la σ (h := h) hh1 hho hn23 hm hv hop hlg) (cwV 1 hts0 gX10_about_X10_countBinsAt rfl rfl rfl (by decide +kernel) ⟨Nat.le_of_ble_eq_true rfl, Nat.le_of_ble_eq_true rfl⟩) rfl rfl (Nat.le_of_ble_eq_true rfl) dX10_about_56 ⟨Nat.le_of_ble_eq_true rfl, Nat.le_of_ble_eq_true rfl⟩ (fun H locs q_56 hC hS => ?_)
      exact w_widen (Nat.le_of_ble_eq_true rfl) (Nat.le_of_ble_eq_true rfl) (vx_ret (co_iret E hr rfl hlk hC hS dX10_about_59 ⟨(by unfold aboutC; omega), congrArg (fun z => some (Value.int z)) (congrArg iI (by unfold aboutR; rw [if_neg (by omega), if_neg (by omega)])), rfl, rfl, trivial⟩))
