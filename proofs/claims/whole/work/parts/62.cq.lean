set_option maxHeartbeats 4000000 in
set_option maxRecDepth 100000 in
theorem c_p_wrong_n (l : Launch) (hlt : l.stackTraces = false) (D : va_G) (cy : Nat → ClassId) (d0 : Nat) (A : Nat → Prop) (la : Nat → Int → Nat) (σ : MS) {t : Int} (h_t : -2147483648 ≤ t ∧ t < 2147483648) (hn5 : 0 ≤ σ 5 0 ∧ σ 5 0 ≤ 1000) (hn11 : 0 ≤ σ 11 0 ∧ σ 11 0 ≤ 1000) (hn23 : 0 ≤ σ 23 0 ∧ σ 23 0 ≤ 1000) (hn27 : 0 ≤ σ 27 0 ∧ σ 27 0 ≤ 1000) (hn45 : 0 ≤ σ 45 0 ∧ σ 45 0 ≤ 600) (hlg : σ 58 0 = 0 ∧ σ 59 0 = 0) (hb36 : -1 ≤ σ 36 t) (hbn : ∀ t, 0 ≤ t → t < σ 45 0 → ¬ σ 36 t < 0 → 0 ≤ σ 36 t ∧ σ 36 t < σ 23 0) (hnl : σ 36 t < 0) : CT l yX10_wrong wsX10_wrong ({ frames := 8, cells := 16, slots := 256, locals := 124 } : Room) D cy d0 A [.ref (la 0 0), .int (iI t)] la σ ((if wrongC σ t = 1 then 1 else (if wrongC σ t = 2 then 4 else (if wrongC σ t = 3 then 2 else 0)))) (cPm (some (.int (iI (wrongR σ t)))) la (wrongS σ t) (True)) 16 256 := by
  refine ct_of (cc := cX10_wrong) (nL := 4) (ret := (some .boolean)) (by decide) rfl (Nat.le_of_ble_eq_true rfl) ?_
  intro p e s m args below meth c ls E hout hr hlk hK hC hS hl
  have B := E.1
  have hml := E.2.1
  have hown := E.2.2.1
  have hts0 := E.2.2.2.1
  have hts := E.2.2.2.1
  have hw := hC.2.2.2.2.2.1
  refine x_aload_n B hl dX10_wrong_0 rfl ?_
  refine x_iload_n B hl dX10_wrong_1 rfl ?_
  refine ctm_call E hout hlk hK hC hS hl (κ := 0) (i := 0) (by decide) cl_0 rfl (c_tipAt l hlt D cy d0 A la _ (z := t) h_t (by omega) (by omega) hlg) (cwV 1 hts0 gX10_wrong_X10_tipAt rfl rfl rfl (by decide +kernel) ⟨Nat.le_of_ble_eq_true rfl, Nat.le_of_ble_eq_true rfl⟩) rfl rfl (Nat.le_of_ble_eq_true rfl) dX10_wrong_2 ⟨Nat.le_of_ble_eq_true rfl, Nat.le_of_ble_eq_true rfl⟩ ⟨Nat.le_of_ble_eq_true rfl, Nat.le_of_ble_eq_true rfl⟩ (fun h => ⟨by unfold wrongC; omega, rfl⟩) (fun h9_2 H locs ht1 hC hS => ?_)
  refine x_astore_n B hl dX10_wrong_5 (by decide) (fun ls hl => ?_)
  refine x_aload_n B hl dX10_wrong_6 rfl ?_
  refine co_geti (f := 32) E hC 10 (by decide) (cl_10 ht1) rfl (fun z h => List.mem_cons_of_mem _ (List.mem_append_left _ (List.mem_append_left _ (List.mem_append_left _ (List.mem_append_left _ (List.mem_append_left _ (List.mem_append_left _ (List.mem_append_right _ h)))))))) 0 (by decide) (hts (.fieldLink RX10 229 "BinRounds$Tip" "day" "I") (by decide +kernel)) (fun x hx => hx) dX10_wrong_7 ⟨rfl, rfl, rfl⟩ rfl (fun r_7 => ?_)
  refine x_aload_n B hl dX10_wrong_10 rfl ?_
  refine co_geti (f := 1) E hC 0 (by decide) cl_0 rfl (fun z h => List.mem_cons_of_mem _ (List.mem_append_left _ (List.mem_append_left _ (List.mem_append_left _ (List.mem_append_left _ (List.mem_append_left _ (List.mem_append_right _ h))))))) 8 (by decide) (hts (.fieldLink RX10 49 "BinRounds" "open" "I") (by decide +kernel)) (fun x hx => hx) dX10_wrong_11 ⟨rfl, rfl, rfl⟩ rfl (fun r_11 => ?_)
  refine x_icmp_ne (tgt := 21) B dX10_wrong_14 (by decide) (by omega) (by omega) (fun c_14 => ?_) (fun c_14 => ?_)
  · refine x_iconst B dX10_wrong_21 ?_
    refine cstm_call E hout hlk hK hC hS hl (c_requireThere l hlt D cy d0 A la _ (z := 0) (Or.inl rfl)) (va_cwS 1 hts0 gX10_wrong_X10_requireThere rfl rfl rfl (by decide +kernel) ⟨Nat.le_of_ble_eq_true rfl, Nat.le_of_ble_eq_true rfl⟩) rfl rfl (Nat.le_of_ble_eq_true rfl) dX10_wrong_22 ⟨Nat.le_of_ble_eq_true rfl, Nat.le_of_ble_eq_true rfl⟩ ⟨Nat.le_of_ble_eq_true rfl, Nat.le_of_ble_eq_true rfl⟩ (fun h => ⟨by unfold wrongC; omega, rfl⟩) (fun h9_22 H locs q_22 hC hS => ?_)
    refine x_aload_n B hl dX10_wrong_25 rfl ?_
    refine co_getr (r := none) E hC 10 (by decide) (cl_10 ht1) rfl (fun z h => List.mem_cons_of_mem _ (List.mem_append_left _ (List.mem_append_left _ (List.mem_append_left _ (List.mem_append_left _ (List.mem_append_left _ (List.mem_append_left _ (List.mem_append_right _ h)))))))) 4 (by decide) (hts (.fieldLink RX10 211 "BinRounds$Tip" "bin" "LBinRounds$Bin;") (by decide +kernel)) (fun x hx => hx) dX10_wrong_26 rfl (cR_bn (rfl : σ 36 t = σ 36 t) hnl) ?_
    refine lv_ifnullN (tgt := 58) B.1 B.2 dX10_wrong_29 (by decide) ?_
    refine x_iconst B dX10_wrong_58 ?_
    refine cstm_call E hout hlk hK hC hS hl (c_require l hlt D cy d0 A la _ (z := 0) (Or.inl rfl)) (va_cwS 1 hts0 gX10_wrong_X10_require rfl rfl rfl (by decide +kernel) ⟨Nat.le_of_ble_eq_true rfl, Nat.le_of_ble_eq_true rfl⟩) rfl rfl (Nat.le_of_ble_eq_true rfl) dX10_wrong_59 ⟨Nat.le_of_ble_eq_true rfl, Nat.le_of_ble_eq_true rfl⟩ ⟨Nat.le_of_ble_eq_true rfl, Nat.le_of_ble_eq_true rfl⟩ (fun h => ⟨by unfold wrongC; omega, rfl⟩) (fun h9_59 H locs q_59 hC hS => ?_)
    refine x_aload_n B hl dX10_wrong_62 rfl ?_
    refine co_getb (f := 41) E hC 10 (by decide) (cl_10 ht1) rfl (fun z h => List.mem_cons_of_mem _ (List.mem_append_left _ (List.mem_append_left _ (List.mem_append_left _ (List.mem_append_left _ (List.mem_append_left _ (List.mem_append_left _ (List.mem_append_right _ h)))))))) 10 (by decide) (hts (.fieldLink RX10 235 "BinRounds$Tip" "isWrong" "Z") (by decide +kernel)) (fun x hx => hx) dX10_wrong_63 ⟨rfl, rfl, rfl⟩ rfl (fun r_63 => ?_)
    refine x_if_ne (tgt := 73) B dX10_wrong_66 (by decide) (by omega) (fun c_66 => ?_) (fun c_66 => ?_)
    · refine x_iconst B dX10_wrong_73 ?_
      refine x_istore_n B hl dX10_wrong_74 (by decide) (fun ls hl => ?_)
      refine x_aload_n B hl dX10_wrong_75 rfl ?_
      refine x_iconst B dX10_wrong_76 ?_
      refine co_putb (f := 41) E hC hS 10 (by decide) (cl_10 ht1) rfl (fun z h => List.mem_cons_of_mem _ (List.mem_append_left _ (List.mem_append_left _ (List.mem_append_left _ (List.mem_append_left _ (List.mem_append_left _ (List.mem_append_left _ (List.mem_append_right _ h)))))))) tyX9 tyX9_ok nmX9 10 (by decide) (hts (.fieldLink RX10 235 "BinRounds$Tip" "isWrong" "Z") (by decide +kernel)) (fun x hx => hx) rfl rfl dX10_wrong_77 (by decide) ⟨rfl, rfl, rfl, rfl⟩ (by omega) (fun H locs hC hS => ?_)
      refine x_iload_n B hl dX10_wrong_80 rfl ?_
      exact w_widen (Nat.le_of_ble_eq_true rfl) (Nat.le_of_ble_eq_true rfl) (vx_ret (co_iret E hr rfl hlk hC hS dX10_wrong_81 ⟨(by unfold wrongC; omega), congrArg (fun z => some (Value.int z)) (congrArg iI (by unfold wrongR; first | (rw [if_pos (by omega)]; done) | (rw [if_neg (by omega)]; done))), rfl, rfl, (by first | trivial | omega)⟩))
    · refine x_iconst B dX10_wrong_69 ?_
      refine x_goto (tgt := 74) B dX10_wrong_70 (by decide) ?_
      refine x_istore_n B hl dX10_wrong_74 (by decide) (fun ls hl => ?_)
      refine x_aload_n B hl dX10_wrong_75 rfl ?_
      refine x_iconst B dX10_wrong_76 ?_
      refine co_putb (f := 41) E hC hS 10 (by decide) (cl_10 ht1) rfl (fun z h => List.mem_cons_of_mem _ (List.mem_append_left _ (List.mem_append_left _ (List.mem_append_left _ (List.mem_append_left _ (List.mem_append_left _ (List.mem_append_left _ (List.mem_append_right _ h)))))))) tyX9 tyX9_ok nmX9 10 (by decide) (hts (.fieldLink RX10 235 "BinRounds$Tip" "isWrong" "Z") (by decide +kernel)) (fun x hx => hx) rfl rfl dX10_wrong_77 (by decide) ⟨rfl, rfl, rfl, rfl⟩ (by omega) (fun H locs hC hS => ?_)
      refine x_iload_n B hl dX10_wrong_80 rfl ?_
      exact w_widen (Nat.le_of_ble_eq_true rfl) (Nat.le_of_ble_eq_true rfl) (vx_ret (co_iret E hr rfl hlk hC hS dX10_wrong_81 ⟨(by unfold wrongC; omega), congrArg (fun z => some (Value.int z)) (congrArg iI (by unfold wrongR; first | (rw [if_pos (by omega)]; done) | (rw [if_neg (by omega)]; done))), rfl, rfl, (by first | trivial | omega)⟩))
  · refine x_iconst B dX10_wrong_17 ?_
    refine x_goto (tgt := 22) B dX10_wrong_18 (by decide) ?_
    refine cstm_call E hout hlk hK hC hS hl (c_requireThere l hlt D cy d0 A la _ (z := 1) (Or.inr rfl)) (va_cwS 1 hts0 gX10_wrong_X10_requireThere rfl rfl rfl (by decide +kernel) ⟨Nat.le_of_ble_eq_true rfl, Nat.le_of_ble_eq_true rfl⟩) rfl rfl (Nat.le_of_ble_eq_true rfl) dX10_wrong_22 ⟨Nat.le_of_ble_eq_true rfl, Nat.le_of_ble_eq_true rfl⟩ ⟨Nat.le_of_ble_eq_true rfl, Nat.le_of_ble_eq_true rfl⟩ (fun h => ⟨by unfold wrongC; omega, rfl⟩) (fun h9_22 H locs q_22 hC hS => ?_)
    refine x_aload_n B hl dX10_wrong_25 rfl ?_
    refine co_getr (r := none) E hC 10 (by decide) (cl_10 ht1) rfl (fun z h => List.mem_cons_of_mem _ (List.mem_append_left _ (List.mem_append_left _ (List.mem_append_left _ (List.mem_append_left _ (List.mem_append_left _ (List.mem_append_left _ (List.mem_append_right _ h)))))))) 4 (by decide) (hts (.fieldLink RX10 211 "BinRounds$Tip" "bin" "LBinRounds$Bin;") (by decide +kernel)) (fun x hx => hx) dX10_wrong_26 rfl (cR_bn (rfl : σ 36 t = σ 36 t) hnl) ?_
    refine lv_ifnullN (tgt := 58) B.1 B.2 dX10_wrong_29 (by decide) ?_
    refine x_iconst B dX10_wrong_58 ?_
    refine cstm_call E hout hlk hK hC hS hl (c_require l hlt D cy d0 A la _ (z := 0) (Or.inl rfl)) (va_cwS 1 hts0 gX10_wrong_X10_require rfl rfl rfl (by decide +kernel) ⟨Nat.le_of_ble_eq_true rfl, Nat.le_of_ble_eq_true rfl⟩) rfl rfl (Nat.le_of_ble_eq_true rfl) dX10_wrong_59 ⟨Nat.le_of_ble_eq_true rfl, Nat.le_of_ble_eq_true rfl⟩ ⟨Nat.le_of_ble_eq_true rfl, Nat.le_of_ble_eq_true rfl⟩ (fun h => ⟨by unfold wrongC; omega, rfl⟩) (fun h9_59 H locs q_59 hC hS => ?_)
    refine x_aload_n B hl dX10_wrong_62 rfl ?_
    refine co_getb (f := 41) E hC 10 (by decide) (cl_10 ht1) rfl (fun z h => List.mem_cons_of_mem _ (List.mem_append_left _ (List.mem_append_left _ (List.mem_append_left _ (List.mem_append_left _ (List.mem_append_left _ (List.mem_append_left _ (List.mem_append_right _ h)))))))) 10 (by decide) (hts (.fieldLink RX10 235 "BinRounds$Tip" "isWrong" "Z") (by decide +kernel)) (fun x hx => hx) dX10_wrong_63 ⟨rfl, rfl, rfl⟩ rfl (fun r_63 => ?_)
    refine x_if_ne (tgt := 73) B dX10_wrong_66 (by decide) (by omega) (fun c_66 => ?_) (fun c_66 => ?_)
    · refine x_iconst B dX10_wrong_73 ?_
      refine x_istore_n B hl dX10_wrong_74 (by decide) (fun ls hl => ?_)
      refine x_aload_n B hl dX10_wrong_75 rfl ?_
      refine x_iconst B dX10_wrong_76 ?_
      refine co_putb (f := 41) E hC hS 10 (by decide) (cl_10 ht1) rfl (fun z h => List.mem_cons_of_mem _ (List.mem_append_left _ (List.mem_append_left _ (List.mem_append_left _ (List.mem_append_left _ (List.mem_append_left _ (List.mem_append_left _ (List.mem_append_right _ h)))))))) tyX9 tyX9_ok nmX9 10 (by decide) (hts (.fieldLink RX10 235 "BinRounds$Tip" "isWrong" "Z") (by decide +kernel)) (fun x hx => hx) rfl rfl dX10_wrong_77 (by decide) ⟨rfl, rfl, rfl, rfl⟩ (by omega) (fun H locs hC hS => ?_)
      refine x_iload_n B hl dX10_wrong_80 rfl ?_
      exact w_widen (Nat.le_of_ble_eq_true rfl) (Nat.le_of_ble_eq_true rfl) (vx_ret (co_iret E hr rfl hlk hC hS dX10_wrong_81 ⟨(by unfold wrongC; omega), congrArg (fun z => some (Value.int z)) (congrArg iI (by unfold wrongR; first | (rw [if_pos (by omega)]; done) | (rw [if_neg (by omega)]; done))), rfl, rfl, (by first | trivial | omega)⟩))
    · refine x_iconst B dX10_wrong_69 ?_
      refine x_goto (tgt := 74) B dX10_wrong_70 (by decide) ?_
      refine x_istore_n B hl dX10_wrong_74 (by decide) (fun ls hl => ?_)
      refine x_aload_n B hl dX10_wrong_75 rfl ?_
      refine x_iconst B dX10_wrong_76 ?_
      refine co_putb (f := 41) E hC hS 10 (by decide) (cl_10 ht1) rfl (fun z h => List.mem_cons_of_mem _ (List.mem_append_left _ (List.mem_append_left _ (List.mem_append_left _ (List.mem_append_left _ (List.mem_append_left _ (List.mem_append_left _ (List.mem_append_right _ h)))))))) tyX9 tyX9_ok nmX9 10 (by decide) (hts (.fieldLink RX10 235 "BinRounds$Tip" "isWrong" "Z") (by decide +kernel)) (fun x hx => hx) rfl rfl dX10_wrong_77 (by decide) ⟨rfl, rfl, rfl, rfl⟩ (by omega) (fun H locs hC hS => ?_)
      refine x_iload_n B hl dX10_wrong_80 rfl ?_
      exact w_widen (Nat.le_of_ble_eq_true rfl) (Nat.le_of_ble_eq_true rfl) (vx_ret (co_iret E hr rfl hlk hC hS dX10_wrong_81 ⟨(by unfold wrongC; omega), congrArg (fun z => some (Value.int z)) (congrArg iI (by unfold wrongR; first | (rw [if_pos (by omega)]; done) | (rw [if_neg (by omega)]; done))), rfl, rfl, (by first | trivial | omega)⟩))
set_option maxHeartbeats 4000000 in
set_option maxRecDepth 100000 in
theorem c_p_wrong_r (l : Launch) (hlt : l.stackTraces = false) (D : va_G) (cy : Nat → ClassId) (d0 : Nat) (A : Nat → Prop) (la : Nat → Int → Nat) (σ : MS) {t : Int} (h_t : -2147483648 ≤ t ∧ t < 2147483648) (hn5 : 0 ≤ σ 5 0 ∧ σ 5 0 ≤ 1000) (hn11 : 0 ≤ σ 11 0 ∧ σ 11 0 ≤ 1000) (hn23 : 0 ≤ σ 23 0 ∧ σ 23 0 ≤ 1000) (hn27 : 0 ≤ σ 27 0 ∧ σ 27 0 ≤ 1000) (hn45 : 0 ≤ σ 45 0 ∧ σ 45 0 ≤ 600) (hlg : σ 58 0 = 0 ∧ σ 59 0 = 0) (hb36 : -1 ≤ σ 36 t) (hbn : ∀ t, 0 ≤ t → t < σ 45 0 → ¬ σ 36 t < 0 → 0 ≤ σ 36 t ∧ σ 36 t < σ 23 0) (hnl : ¬ σ 36 t < 0) : CT l yX10_wrong wsX10_wrong ({ frames := 8, cells := 16, slots := 256, locals := 124 } : Room) D cy d0 A [.ref (la 0 0), .int (iI t)] la σ ((if wrongC σ t = 1 then 1 else (if wrongC σ t = 2 then 4 else (if wrongC σ t = 3 then 2 else 0)))) (cPm (some (.int (iI (wrongR σ t)))) la (wrongS σ t) (True)) 16 256 := by
  refine ct_of (cc := cX10_wrong) (nL := 4) (ret := (some .boolean)) (by decide) rfl (Nat.le_of_ble_eq_true rfl) ?_
  intro p e s m args below meth c ls E hout hr hlk hK hC hS hl
  have B := E.1
  have hml := E.2.1
  have hown := E.2.2.1
  have hts0 := E.2.2.2.1
  have hts := E.2.2.2.1
  have hw := hC.2.2.2.2.2.1
  refine x_aload_n B hl dX10_wrong_0 rfl ?_
  refine x_iload_n B hl dX10_wrong_1 rfl ?_
  refine ctm_call E hout hlk hK hC hS hl (κ := 0) (i := 0) (by decide) cl_0 rfl (c_tipAt l hlt D cy d0 A la _ (z := t) h_t (by omega) (by omega) hlg) (cwV 1 hts0 gX10_wrong_X10_tipAt rfl rfl rfl (by decide +kernel) ⟨Nat.le_of_ble_eq_true rfl, Nat.le_of_ble_eq_true rfl⟩) rfl rfl (Nat.le_of_ble_eq_true rfl) dX10_wrong_2 ⟨Nat.le_of_ble_eq_true rfl, Nat.le_of_ble_eq_true rfl⟩ ⟨Nat.le_of_ble_eq_true rfl, Nat.le_of_ble_eq_true rfl⟩ (fun h => ⟨by unfold wrongC; omega, rfl⟩) (fun h9_2 H locs ht1 hC hS => ?_)
  refine x_astore_n B hl dX10_wrong_5 (by decide) (fun ls hl => ?_)
  refine x_aload_n B hl dX10_wrong_6 rfl ?_
  refine co_geti (f := 32) E hC 10 (by decide) (cl_10 ht1) rfl (fun z h => List.mem_cons_of_mem _ (List.mem_append_left _ (List.mem_append_left _ (List.mem_append_left _ (List.mem_append_left _ (List.mem_append_left _ (List.mem_append_left _ (List.mem_append_right _ h)))))))) 0 (by decide) (hts (.fieldLink RX10 229 "BinRounds$Tip" "day" "I") (by decide +kernel)) (fun x hx => hx) dX10_wrong_7 ⟨rfl, rfl, rfl⟩ rfl (fun r_7 => ?_)
  refine x_aload_n B hl dX10_wrong_10 rfl ?_
  refine co_geti (f := 1) E hC 0 (by decide) cl_0 rfl (fun z h => List.mem_cons_of_mem _ (List.mem_append_left _ (List.mem_append_left _ (List.mem_append_left _ (List.mem_append_left _ (List.mem_append_left _ (List.mem_append_right _ h))))))) 8 (by decide) (hts (.fieldLink RX10 49 "BinRounds" "open" "I") (by decide +kernel)) (fun x hx => hx) dX10_wrong_11 ⟨rfl, rfl, rfl⟩ rfl (fun r_11 => ?_)
  refine x_icmp_ne (tgt := 21) B dX10_wrong_14 (by decide) (by omega) (by omega) (fun c_14 => ?_) (fun c_14 => ?_)
  · refine x_iconst B dX10_wrong_21 ?_
    refine cstm_call E hout hlk hK hC hS hl (c_requireThere l hlt D cy d0 A la _ (z := 0) (Or.inl rfl)) (va_cwS 1 hts0 gX10_wrong_X10_requireThere rfl rfl rfl (by decide +kernel) ⟨Nat.le_of_ble_eq_true rfl, Nat.le_of_ble_eq_true rfl⟩) rfl rfl (Nat.le_of_ble_eq_true rfl) dX10_wrong_22 ⟨Nat.le_of_ble_eq_true rfl, Nat.le_of_ble_eq_true rfl⟩ ⟨Nat.le_of_ble_eq_true rfl, Nat.le_of_ble_eq_true rfl⟩ (fun h => ⟨by unfold wrongC; omega, rfl⟩) (fun h9_22 H locs q_22 hC hS => ?_)
    refine x_aload_n B hl dX10_wrong_25 rfl ?_
    refine co_getR (x := la 6 (σ 36 t)) E hC 10 (by decide) (cl_10 ht1) rfl (fun z h => List.mem_cons_of_mem _ (List.mem_append_left _ (List.mem_append_left _ (List.mem_append_left _ (List.mem_append_left _ (List.mem_append_left _ (List.mem_append_left _ (List.mem_append_right _ h)))))))) 4 (by decide) (hts (.fieldLink RX10 211 "BinRounds$Tip" "bin" "LBinRounds$Bin;") (by decide +kernel)) (fun x hx => hx) dX10_wrong_26 rfl (cR_br (rfl : σ 36 t = σ 36 t) hnl) ?_
    refine lv_ifnull B.1 B.2 dX10_wrong_29 ?_
    refine x_aload_n B hl dX10_wrong_32 rfl ?_
    refine co_getR (x := la 6 (σ 36 t)) E hC 10 (by decide) (cl_10 ht1) rfl (fun z h => List.mem_cons_of_mem _ (List.mem_append_left _ (List.mem_append_left _ (List.mem_append_left _ (List.mem_append_left _ (List.mem_append_left _ (List.mem_append_left _ (List.mem_append_right _ h)))))))) 4 (by decide) (hts (.fieldLink RX10 211 "BinRounds$Tip" "bin" "LBinRounds$Bin;") (by decide +kernel)) (fun x hx => hx) dX10_wrong_33 rfl (cR_br (rfl : σ 36 t = σ 36 t) hnl) ?_
    refine co_geti (f := 12) E hC 6 (by decide) (cl_6 (hbn t ht1.1 ht1.2 hnl)) rfl (fun z h => List.mem_cons_of_mem _ (List.mem_append_left _ (List.mem_append_left _ (List.mem_append_left _ (List.mem_append_left _ (List.mem_append_right _ h)))))) 1 (by decide) (hts (.fieldLink RX10 158 "BinRounds$Bin" "kind" "I") (by decide +kernel)) (fun x hx => hx) dX10_wrong_36 ⟨rfl, rfl, rfl⟩ rfl (fun r_36 => ?_)
    refine x_iconst B dX10_wrong_39 ?_
    refine x_icmp_eq (tgt := 54) B dX10_wrong_40 (by decide) (by omega) (by omega) (fun c_40 => ?_) (fun c_40 => ?_)
    · refine x_iconst B dX10_wrong_54 ?_
      refine x_goto (tgt := 59) B dX10_wrong_55 (by decide) ?_
      refine cstm_call E hout hlk hK hC hS hl (c_require l hlt D cy d0 A la _ (z := 1) (Or.inr rfl)) (va_cwS 1 hts0 gX10_wrong_X10_require rfl rfl rfl (by decide +kernel) ⟨Nat.le_of_ble_eq_true rfl, Nat.le_of_ble_eq_true rfl⟩) rfl rfl (Nat.le_of_ble_eq_true rfl) dX10_wrong_59 ⟨Nat.le_of_ble_eq_true rfl, Nat.le_of_ble_eq_true rfl⟩ ⟨Nat.le_of_ble_eq_true rfl, Nat.le_of_ble_eq_true rfl⟩ (fun h => ⟨by unfold wrongC; omega, rfl⟩) (fun h9_59 H locs q_59 hC hS => ?_)
      refine x_aload_n B hl dX10_wrong_62 rfl ?_
      refine co_getb (f := 41) E hC 10 (by decide) (cl_10 ht1) rfl (fun z h => List.mem_cons_of_mem _ (List.mem_append_left _ (List.mem_append_left _ (List.mem_append_left _ (List.mem_append_left _ (List.mem_append_left _ (List.mem_append_left _ (List.mem_append_right _ h)))))))) 10 (by decide) (hts (.fieldLink RX10 235 "BinRounds$Tip" "isWrong" "Z") (by decide +kernel)) (fun x hx => hx) dX10_wrong_63 ⟨rfl, rfl, rfl⟩ rfl (fun r_63 => ?_)
      refine x_if_ne (tgt := 73) B dX10_wrong_66 (by decide) (by omega) (fun c_66 => ?_) (fun c_66 => ?_)
      · refine x_iconst B dX10_wrong_73 ?_
        refine x_istore_n B hl dX10_wrong_74 (by decide) (fun ls hl => ?_)
        refine x_aload_n B hl dX10_wrong_75 rfl ?_
        refine x_iconst B dX10_wrong_76 ?_
        refine co_putb (f := 41) E hC hS 10 (by decide) (cl_10 ht1) rfl (fun z h => List.mem_cons_of_mem _ (List.mem_append_left _ (List.mem_append_left _ (List.mem_append_left _ (List.mem_append_left _ (List.mem_append_left _ (List.mem_append_left _ (List.mem_append_right _ h)))))))) tyX9 tyX9_ok nmX9 10 (by decide) (hts (.fieldLink RX10 235 "BinRounds$Tip" "isWrong" "Z") (by decide +kernel)) (fun x hx => hx) rfl rfl dX10_wrong_77 (by decide) ⟨rfl, rfl, rfl, rfl⟩ (by omega) (fun H locs hC hS => ?_)
        refine x_iload_n B hl dX10_wrong_80 rfl ?_
        exact w_widen (Nat.le_of_ble_eq_true rfl) (Nat.le_of_ble_eq_true rfl) (vx_ret (co_iret E hr rfl hlk hC hS dX10_wrong_81 ⟨(by unfold wrongC; omega), congrArg (fun z => some (Value.int z)) (congrArg iI (by unfold wrongR; first | (rw [if_pos (by omega)]; done) | (rw [if_neg (by omega)]; done))), rfl, rfl, (by first | trivial | omega)⟩))
      · refine x_iconst B dX10_wrong_69 ?_
        refine x_goto (tgt := 74) B dX10_wrong_70 (by decide) ?_
        refine x_istore_n B hl dX10_wrong_74 (by decide) (fun ls hl => ?_)
        refine x_aload_n B hl dX10_wrong_75 rfl ?_
        refine x_iconst B dX10_wrong_76 ?_
        refine co_putb (f := 41) E hC hS 10 (by decide) (cl_10 ht1) rfl (fun z h => List.mem_cons_of_mem _ (List.mem_append_left _ (List.mem_append_left _ (List.mem_append_left _ (List.mem_append_left _ (List.mem_append_left _ (List.mem_append_left _ (List.mem_append_right _ h)))))))) tyX9 tyX9_ok nmX9 10 (by decide) (hts (.fieldLink RX10 235 "BinRounds$Tip" "isWrong" "Z") (by decide +kernel)) (fun x hx => hx) rfl rfl dX10_wrong_77 (by decide) ⟨rfl, rfl, rfl, rfl⟩ (by omega) (fun H locs hC hS => ?_)
        refine x_iload_n B hl dX10_wrong_80 rfl ?_
        exact w_widen (Nat.le_of_ble_eq_true rfl) (Nat.le_of_ble_eq_true rfl) (vx_ret (co_iret E hr rfl hlk hC hS dX10_wrong_81 ⟨(by unfold wrongC; omega), congrArg (fun z => some (Value.int z)) (congrArg iI (by unfold wrongR; first | (rw [if_pos (by omega)]; done) | (rw [if_neg (by omega)]; done))), rfl, rfl, (by first | trivial | omega)⟩))
    · refine x_aload_n B hl dX10_wrong_43 rfl ?_
      refine co_getR (x := la 6 (σ 36 t)) E hC 10 (by decide) (cl_10 ht1) rfl (fun z h => List.mem_cons_of_mem _ (List.mem_append_left _ (List.mem_append_left _ (List.mem_append_left _ (List.mem_append_left _ (List.mem_append_left _ (List.mem_append_left _ (List.mem_append_right _ h)))))))) 4 (by decide) (hts (.fieldLink RX10 211 "BinRounds$Tip" "bin" "LBinRounds$Bin;") (by decide +kernel)) (fun x hx => hx) dX10_wrong_44 rfl (cR_br (rfl : σ 36 t = σ 36 t) hnl) ?_
      refine co_geti (f := 12) E hC 6 (by decide) (cl_6 (hbn t ht1.1 ht1.2 hnl)) rfl (fun z h => List.mem_cons_of_mem _ (List.mem_append_left _ (List.mem_append_left _ (List.mem_append_left _ (List.mem_append_left _ (List.mem_append_right _ h)))))) 1 (by decide) (hts (.fieldLink RX10 158 "BinRounds$Bin" "kind" "I") (by decide +kernel)) (fun x hx => hx) dX10_wrong_47 ⟨rfl, rfl, rfl⟩ rfl (fun r_47 => ?_)
      refine x_iconst B dX10_wrong_50 ?_
      refine x_icmp_ne (tgt := 58) B dX10_wrong_51 (by decide) (by omega) (by omega) (fun c_51 => ?_) (fun c_51 => ?_)
      · refine x_iconst B dX10_wrong_58 ?_
        refine cstm_call E hout hlk hK hC hS hl (c_require l hlt D cy d0 A la _ (z := 0) (Or.inl rfl)) (va_cwS 1 hts0 gX10_wrong_X10_require rfl rfl rfl (by decide +kernel) ⟨Nat.le_of_ble_eq_true rfl, Nat.le_of_ble_eq_true rfl⟩) rfl rfl (Nat.le_of_ble_eq_true rfl) dX10_wrong_59 ⟨Nat.le_of_ble_eq_true rfl, Nat.le_of_ble_eq_true rfl⟩ ⟨Nat.le_of_ble_eq_true rfl, Nat.le_of_ble_eq_true rfl⟩ (fun h => ⟨by unfold wrongC; omega, rfl⟩) (fun h9_59 H locs q_59 hC hS => ?_)
        refine x_aload_n B hl dX10_wrong_62 rfl ?_
        refine co_getb (f := 41) E hC 10 (by decide) (cl_10 ht1) rfl (fun z h => List.mem_cons_of_mem _ (List.mem_append_left _ (List.mem_append_left _ (List.mem_append_left _ (List.mem_append_left _ (List.mem_append_left _ (List.mem_append_left _ (List.mem_append_right _ h)))))))) 10 (by decide) (hts (.fieldLink RX10 235 "BinRounds$Tip" "isWrong" "Z") (by decide +kernel)) (fun x hx => hx) dX10_wrong_63 ⟨rfl, rfl, rfl⟩ rfl (fun r_63 => ?_)
        refine x_if_ne (tgt := 73) B dX10_wrong_66 (by decide) (by omega) (fun c_66 => ?_) (fun c_66 => ?_)
        · refine x_iconst B dX10_wrong_73 ?_
          refine x_istore_n B hl dX10_wrong_74 (by decide) (fun ls hl => ?_)
          refine x_aload_n B hl dX10_wrong_75 rfl ?_
          refine x_iconst B dX10_wrong_76 ?_
          refine co_putb (f := 41) E hC hS 10 (by decide) (cl_10 ht1) rfl (fun z h => List.mem_cons_of_mem _ (List.mem_append_left _ (List.mem_append_left _ (List.mem_append_left _ (List.mem_append_left _ (List.mem_append_left _ (List.mem_append_left _ (List.mem_append_right _ h)))))))) tyX9 tyX9_ok nmX9 10 (by decide) (hts (.fieldLink RX10 235 "BinRounds$Tip" "isWrong" "Z") (by decide +kernel)) (fun x hx => hx) rfl rfl dX10_wrong_77 (by decide) ⟨rfl, rfl, rfl, rfl⟩ (by omega) (fun H locs hC hS => ?_)
          refine x_iload_n B hl dX10_wrong_80 rfl ?_
          exact w_widen (Nat.le_of_ble_eq_true rfl) (Nat.le_of_ble_eq_true rfl) (vx_ret (co_iret E hr rfl hlk hC hS dX10_wrong_81 ⟨(by unfold wrongC; omega), congrArg (fun z => some (Value.int z)) (congrArg iI (by unfold wrongR; first | (rw [if_pos (by omega)]; done) | (rw [if_neg (by omega)]; done))), rfl, rfl, (by first | trivial | omega)⟩))
        · refine x_iconst B dX10_wrong_69 ?_
          refine x_goto (tgt := 74) B dX10_wrong_70 (by decide) ?_
          refine x_istore_n B hl dX10_wrong_74 (by decide) (fun ls hl => ?_)
          refine x_aload_n B hl dX10_wrong_75 rfl ?_
          refine x_iconst B dX10_wrong_76 ?_
          refine co_putb (f := 41) E hC hS 10 (by decide) (cl_10 ht1) rfl (fun z h => List.mem_cons_of_mem _ (List.mem_append_left _ (List.mem_append_left _ (List.mem_append_left _ (List.mem_append_left _ (List.mem_append_left _ (List.mem_append_left _ (List.mem_append_right _ h)))))))) tyX9 tyX9_ok nmX9 10 (by decide) (hts (.fieldLink RX10 235 "BinRounds$Tip" "isWrong" "Z") (by decide +kernel)) (fun x hx => hx) rfl rfl dX10_wrong_77 (by decide) ⟨rfl, rfl, rfl, rfl⟩ (by omega) (fun H locs hC hS => ?_)
          refine x_iload_n B hl dX10_wrong_80 rfl ?_
          exact w_widen (Nat.le_of_ble_eq_true rfl) (Nat.le_of_ble_eq_true rfl) (vx_ret (co_iret E hr rfl hlk hC hS dX10_wrong_81 ⟨(by unfold wrongC; omega), congrArg (fun z => some (Value.int z)) (congrArg iI (by unfold wrongR; first | (rw [if_pos (by omega)]; done) | (rw [if_neg (by omega)]; done))), rfl, rfl, (by first | trivial | omega)⟩))
      · refine x_iconst B dX10_wrong_54 ?_
        refine x_goto (tgt := 59) B dX10_wrong_55 (by decide) ?_
        refine cstm_call E hout hlk hK hC hS hl (c_require l hlt D cy d0 A la _ (z := 1) (Or.inr rfl)) (va_cwS 1 hts0 gX10_wrong_X10_require rfl rfl rfl (by decide +kernel) ⟨Nat.le_of_ble_eq_true rfl, Nat.le_of_ble_eq_true rfl⟩) rfl rfl (Nat.le_of_ble_eq_true rfl) dX10_wrong_59 ⟨Nat.le_of_ble_eq_true rfl, Nat.le_of_ble_eq_true rfl⟩ ⟨Nat.le_of_ble_eq_true rfl, Nat.le_of_ble_eq_true rfl⟩ (fun h => ⟨by unfold wrongC; omega, rfl⟩) (fun h9_59 H locs q_59 hC hS => ?_)
        refine x_aload_n B hl dX10_wrong_62 rfl ?_
        refine co_getb (f := 41) E hC 10 (by decide) (cl_10 ht1) rfl (fun z h => List.mem_cons_of_mem _ (List.mem_append_left _ (List.mem_append_left _ (List.mem_append_left _ (List.mem_append_left _ (List.mem_append_left _ (List.mem_append_left _ (List.mem_append_right _ h)))))))) 10 (by decide) (hts (.fieldLink RX10 235 "BinRounds$Tip" "isWrong" "Z") (by decide +kernel)) (fun x hx => hx) dX10_wrong_63 ⟨rfl, rfl, rfl⟩ rfl (fun r_63 => ?_)
        refine x_if_ne (tgt := 73) B dX10_wrong_66 (by decide) (by omega) (fun c_66 => ?_) (fun c_66 => ?_)
        · refine x_iconst B dX10_wrong_73 ?_
          refine x_istore_n B hl dX10_wrong_74 (by decide) (fun ls hl => ?_)
          refine x_aload_n B hl dX10_wrong_75 rfl ?_
          refine x_iconst B dX10_wrong_76 ?_
          refine co_putb (f := 41) E hC hS 10 (by decide) (cl_10 ht1) rfl (fun z h => List.mem_cons_of_mem _ (List.mem_append_left _ (List.mem_append_left _ (List.mem_append_left _ (List.mem_append_left _ (List.mem_append_left _ (List.mem_append_left _ (List.mem_append_right _ h)))))))) tyX9 tyX9_ok nmX9 10 (by decide) (hts (.fieldLink RX10 235 "BinRounds$Tip" "isWrong" "Z") (by decide +kernel)) (fun x hx => hx) rfl rfl dX10_wrong_77 (by decide) ⟨rfl, rfl, rfl, rfl⟩ (by omega) (fun H locs hC hS => ?_)
          refine x_iload_n B hl dX10_wrong_80 rfl ?_
          exact w_widen (Nat.le_of_ble_eq_true rfl) (Nat.le_of_ble_eq_true rfl) (vx_ret (co_iret E hr rfl hlk hC hS dX10_wrong_81 ⟨(by unfold wrongC; omega), congrArg (fun z => some (Value.int z)) (congrArg iI (by unfold wrongR; first | (rw [if_pos (by omega)]; done) | (rw [if_neg (by omega)]; done))), rfl, rfl, (by first | trivial | omega)⟩))
        · refine x_iconst B dX10_wrong_69 ?_
          refine x_goto (tgt := 74) B dX10_wrong_70 (by decide) ?_
          refine x_istore_n B hl dX10_wrong_74 (by decide) (fun ls hl => ?_)
          refine x_aload_n B hl dX10_wrong_75 rfl ?_
          refine x_iconst B dX10_wrong_76 ?_
          refine co_putb (f := 41) E hC hS 10 (by decide) (cl_10 ht1) rfl (fun z h => List.mem_cons_of_mem _ (List.mem_append_left _ (List.mem_append_left _ (List.mem_append_left _ (List.mem_append_left _ (List.mem_append_left _ (List.mem_append_left _ (List.mem_append_right _ h)))))))) tyX9 tyX9_ok nmX9 10 (by decide) (hts (.fieldLink RX10 235 "BinRounds$Tip" "isWrong" "Z") (by decide +kernel)) (fun x hx => hx) rfl rfl dX10_wrong_77 (by decide) ⟨rfl, rfl, rfl, rfl⟩ (by omega) (fun H locs hC hS => ?_)
          refine x_iload_n B hl dX10_wrong_80 rfl ?_
          exact w_widen (Nat.le_of_ble_eq_true rfl) (Nat.le_of_ble_eq_true rfl) (vx_ret (co_iret E hr rfl hlk hC hS dX10_wrong_81 ⟨(by unfold wrongC; omega), congrArg (fun z => some (Value.int z)) (congrArg iI (by unfold wrongR; first | (rw [if_pos (by omega)]; done) | (rw [if_neg (by omega)]; done))), rfl, rfl, (by first | trivial | omega)⟩))
  · refine x_iconst B dX10_wrong_17 ?_
    refine x_goto (tgt := 22) B dX10_wrong_18 (by decide) ?_
    refine cstm_call E hout hlk hK hC hS hl (c_requireThere l hlt D cy d0 A la _ (z := 1) (Or.inr rfl)) (va_cwS 1 hts0 gX10_wrong_X10_requireThere rfl rfl rfl (by decide +kernel) ⟨Nat.le_of_ble_eq_true rfl, Nat.le_of_ble_eq_true rfl⟩) rfl rfl (Nat.le_of_ble_eq_true rfl) dX10_wrong_22 ⟨Nat.le_of_ble_eq_true rfl, Nat.le_of_ble_eq_true rfl⟩ ⟨Nat.le_of_ble_eq_true rfl, Nat.le_of_ble_eq_true rfl⟩ (fun h => ⟨by unfold wrongC; omega, rfl⟩) (fun h9_22 H locs q_22 hC hS => ?_)
    refine x_aload_n B hl dX10_wrong_25 rfl ?_
    refine co_getR (x := la 6 (σ 36 t)) E hC 10 (by decide) (cl_10 ht1) rfl (fun z h => List.mem_cons_of_mem _ (List.mem_append_left _ (List.mem_append_left _ (List.mem_append_left _ (List.mem_append_left _ (List.mem_append_left _ (List.mem_append_left _ (List.mem_append_right _ h)))))))) 4 (by decide) (hts (.fieldLink RX10 211 "BinRounds$Tip" "bin" "LBinRounds$Bin;") (by decide +kernel)) (fun x hx => hx) dX10_wrong_26 rfl (cR_br (rfl : σ 36 t = σ 36 t) hnl) ?_
    refine lv_ifnull B.1 B.2 dX10_wrong_29 ?_
    refine x_aload_n B hl dX10_wrong_32 rfl ?_
    refine co_getR (x := la 6 (σ 36 t)) E hC 10 (by decide) (cl_10 ht1) rfl (fun z h => List.mem_cons_of_mem _ (List.mem_append_left _ (List.mem_append_left _ (List.mem_append_left _ (List.mem_append_left _ (List.mem_append_left _ (List.mem_append_left _ (List.mem_append_right _ h)))))))) 4 (by decide) (hts (.fieldLink RX10 211 "BinRounds$Tip" "bin" "LBinRounds$Bin;") (by decide +kernel)) (fun x hx => hx) dX10_wrong_33 rfl (cR_br (rfl : σ 36 t = σ 36 t) hnl) ?_
    refine co_geti (f := 12) E hC 6 (by decide) (cl_6 (hbn t ht1.1 ht1.2 hnl)) rfl (fun z h => List.mem_cons_of_mem _ (List.mem_append_left _ (List.mem_append_left _ (List.mem_append_left _ (List.mem_append_left _ (List.mem_append_right _ h)))))) 1 (by decide) (hts (.fieldLink RX10 158 "BinRounds$Bin" "kind" "I") (by decide +kernel)) (fun x hx => hx) dX10_wrong_36 ⟨rfl, rfl, rfl⟩ rfl (fun r_36 => ?_)
    refine x_iconst B dX10_wrong_39 ?_
    refine x_icmp_eq (tgt := 54) B dX10_wrong_40 (by decide) (by omega) (by omega) (fun c_40 => ?_) (fun c_40 => ?_)
    · refine x_iconst B dX10_wrong_54 ?_
      refine x_goto (tgt := 59) B dX10_wrong_55 (by decide) ?_
      refine cstm_call E hout hlk hK hC hS hl (c_require l hlt D cy d0 A la _ (z := 1) (Or.inr rfl)) (va_cwS 1 hts0 gX10_wrong_X10_require rfl rfl rfl (by decide +kernel) ⟨Nat.le_of_ble_eq_true rfl, Nat.le_of_ble_eq_true rfl⟩) rfl rfl (Nat.le_of_ble_eq_true rfl) dX10_wrong_59 ⟨Nat.le_of_ble_eq_true rfl, Nat.le_of_ble_eq_true rfl⟩ ⟨Nat.le_of_ble_eq_true rfl, Nat.le_of_ble_eq_true rfl⟩ (fun h => ⟨by unfold wrongC; omega, rfl⟩) (fun h9_59 H locs q_59 hC hS => ?_)
      refine x_aload_n B hl dX10_wrong_62 rfl ?_
      refine co_getb (f := 41) E hC 10 (by decide) (cl_10 ht1) rfl (fun z h => List.mem_cons_of_mem _ (List.mem_append_left _ (List.mem_append_left _ (List.mem_append_left _ (List.mem_append_left _ (List.mem_append_left _ (List.mem_append_left _ (List.mem_append_right _ h)))))))) 10 (by decide) (hts (.fieldLink RX10 235 "BinRounds$Tip" "isWrong" "Z") (by decide +kernel)) (fun x hx => hx) dX10_wrong_63 ⟨rfl, rfl, rfl⟩ rfl (fun r_63 => ?_)
      refine x_if_ne (tgt := 73) B dX10_wrong_66 (by decide) (by omega) (fun c_66 => ?_) (fun c_66 => ?_)
      · refine x_iconst B dX10_wrong_73 ?_
        refine x_istore_n B hl dX10_wrong_74 (by decide) (fun ls hl => ?_)
        refine x_aload_n B hl dX10_wrong_75 rfl ?_
        refine x_iconst B dX10_wrong_76 ?_
        refine co_putb (f := 41) E hC hS 10 (by decide) (cl_10 ht1) rfl (fun z h => List.mem_cons_of_mem _ (List.mem_append_left _ (List.mem_append_left _ (List.mem_append_left _ (List.mem_append_left _ (List.mem_append_left _ (List.mem_append_left _ (List.mem_append_right _ h)))))))) tyX9 tyX9_ok nmX9 10 (by decide) (hts (.fieldLink RX10 235 "BinRounds$Tip" "isWrong" "Z") (by decide +kernel)) (fun x hx => hx) rfl rfl dX10_wrong_77 (by decide) ⟨rfl, rfl, rfl, rfl⟩ (by omega) (fun H locs hC hS => ?_)
        refine x_iload_n B hl dX10_wrong_80 rfl ?_
        exact w_widen (Nat.le_of_ble_eq_true rfl) (Nat.le_of_ble_eq_true rfl) (vx_ret (co_iret E hr rfl hlk hC hS dX10_wrong_81 ⟨(by unfold wrongC; omega), congrArg (fun z => some (Value.int z)) (congrArg iI (by unfold wrongR; first | (rw [if_pos (by omega)]; done) | (rw [if_neg (by omega)]; done))), rfl, rfl, (by first | trivial | omega)⟩))
      · refine x_iconst B dX10_wrong_69 ?_
        refine x_goto (tgt := 74) B dX10_wrong_70 (by decide) ?_
        refine x_istore_n B hl dX10_wrong_74 (by decide) (fun ls hl => ?_)
        refine x_aload_n B hl dX10_wrong_75 rfl ?_
        refine x_iconst B dX10_wrong_76 ?_
        refine co_putb (f := 41) E hC hS 10 (by decide) (cl_10 ht1) rfl (fun z h => List.mem_cons_of_mem _ (List.mem_append_left _ (List.mem_append_left _ (List.mem_append_left _ (List.mem_append_left _ (List.mem_append_left _ (List.mem_append_left _ (List.mem_append_right _ h)))))))) tyX9 tyX9_ok nmX9 10 (by decide) (hts (.fieldLink RX10 235 "BinRounds$Tip" "isWrong" "Z") (by decide +kernel)) (fun x hx => hx) rfl rfl dX10_wrong_77 (by decide) ⟨rfl, rfl, rfl, rfl⟩ (by omega) (fun H locs hC hS => ?_)
        refine x_iload_n B hl dX10_wrong_80 rfl ?_
        exact w_widen (Nat.le_of_ble_eq_true rfl) (Nat.le_of_ble_eq_true rfl) (vx_ret (co_iret E hr rfl hlk hC hS dX10_wrong_81 ⟨(by unfold wrongC; omega), congrArg (fun z => some (Value.int z)) (congrArg iI (by unfold wrongR; first | (rw [if_pos (by omega)]; done) | (rw [if_neg (by omega)]; done))), rfl, rfl, (by first | trivial | omega)⟩))
    · refine x_aload_n B hl dX10_wrong_43 rfl ?_
      refine co_getR (x := la 6 (σ 36 t)) E hC 10 (by decide) (cl_10 ht1) rfl (fun z h => List.mem_cons_of_mem _ (List.mem_append_left _ (List.mem_append_left _ (List.mem_append_left _ (List.mem_append_left _ (List.mem_append_left _ (List.mem_append_left _ (List.mem_append_right _ h)))))))) 4 (by decide) (hts (.fieldLink RX10 211 "BinRounds$Tip" "bin" "LBinRounds$Bin;") (by decide +kernel)) (fun x hx => hx) dX10_wrong_44 rfl (cR_br (rfl : σ 36 t = σ 36 t) hnl) ?_
      refine co_geti (f := 12) E hC 6 (by decide) (cl_6 (hbn t ht1.1 ht1.2 hnl)) rfl (fun z h => List.mem_cons_of_mem _ (List.mem_append_left _ (List.mem_append_left _ (List.mem_append_left _ (List.mem_append_left _ (List.mem_append_right _ h)))))) 1 (by decide) (hts (.fieldLink RX10 158 "BinRounds$Bin" "kind" "I") (by decide +kernel)) (fun x hx => hx) dX10_wrong_47 ⟨rfl, rfl, rfl⟩ rfl (fun r_47 => ?_)
      refine x_iconst B dX10_wrong_50 ?_
      refine x_icmp_ne (tgt := 58) B dX10_wrong_51 (by decide) (by omega) (by omega) (fun c_51 => ?_) (fun c_51 => ?_)
      · refine x_iconst B dX10_wrong_58 ?_
        refine cstm_call E hout hlk hK hC hS hl (c_require l hlt D cy d0 A la _ (z := 0) (Or.inl rfl)) (va_cwS 1 hts0 gX10_wrong_X10_require rfl rfl rfl (by decide +kernel) ⟨Nat.le_of_ble_eq_true rfl, Nat.le_of_ble_eq_true rfl⟩) rfl rfl (Nat.le_of_ble_eq_true rfl) dX10_wrong_59 ⟨Nat.le_of_ble_eq_true rfl, Nat.le_of_ble_eq_true rfl⟩ ⟨Nat.le_of_ble_eq_true rfl, Nat.le_of_ble_eq_true rfl⟩ (fun h => ⟨by unfold wrongC; omega, rfl⟩) (fun h9_59 H locs q_59 hC hS => ?_)
        refine x_aload_n B hl dX10_wrong_62 rfl ?_
        refine co_getb (f := 41) E hC 10 (by decide) (cl_10 ht1) rfl (fun z h => List.mem_cons_of_mem _ (List.mem_append_left _ (List.mem_append_left _ (List.mem_append_left _ (List.mem_append_left _ (List.mem_append_left _ (List.mem_append_left _ (List.mem_append_right _ h)))))))) 10 (by decide) (hts (.fieldLink RX10 235 "BinRounds$Tip" "isWrong" "Z") (by decide +kernel)) (fun x hx => hx) dX10_wrong_63 ⟨rfl, rfl, rfl⟩ rfl (fun r_63 => ?_)
        refine x_if_ne (tgt := 73) B dX10_wrong_66 (by decide) (by omega) (fun c_66 => ?_) (fun c_66 => ?_)
        · refine x_iconst B dX10_wrong_73 ?_
          refine x_istore_n B hl dX10_wrong_74 (by decide) (fun ls hl => ?_)
          refine x_aload_n B hl dX10_wrong_75 rfl ?_
          refine x_iconst B dX10_wrong_76 ?_
          refine co_putb (f := 41) E hC hS 10 (by decide) (cl_10 ht1) rfl (fun z h => List.mem_cons_of_mem _ (List.mem_append_left _ (List.mem_append_left _ (List.mem_append_left _ (List.mem_append_left _ (List.mem_append_left _ (List.mem_append_left _ (List.mem_append_right _ h)))))))) tyX9 tyX9_ok nmX9 10 (by decide) (hts (.fieldLink RX10 235 "BinRounds$Tip" "isWrong" "Z") (by decide +kernel)) (fun x hx => hx) rfl rfl dX10_wrong_77 (by decide) ⟨rfl, rfl, rfl, rfl⟩ (by omega) (fun H locs hC hS => ?_)
          refine x_iload_n B hl dX10_wrong_80 rfl ?_
          exact w_widen (Nat.le_of_ble_eq_true rfl) (Nat.le_of_ble_eq_true rfl) (vx_ret (co_iret E hr rfl hlk hC hS dX10_wrong_81 ⟨(by unfold wrongC; omega), congrArg (fun z => some (Value.int z)) (congrArg iI (by unfold wrongR; first | (rw [if_pos (by omega)]; done) | (rw [if_neg (by omega)]; done))), rfl, rfl, (by first | trivial | omega)⟩))
        · refine x_iconst B dX10_wrong_69 ?_
          refine x_goto (tgt := 74) B dX10_wrong_70 (by decide) ?_
          refine x_istore_n B hl dX10_wrong_74 (by decide) (fun ls hl => ?_)
          refine x_aload_n B hl dX10_wrong_75 rfl ?_
          refine x_iconst B dX10_wrong_76 ?_
          refine co_putb (f := 41) E hC hS 10 (by decide) (cl_10 ht1) rfl (fun z h => List.mem_cons_of_mem _ (List.mem_append_left _ (List.mem_append_left _ (List.mem_append_left _ (List.mem_append_left _ (List.mem_append_left _ (List.mem_append_left _ (List.mem_append_right _ h)))))))) tyX9 tyX9_ok nmX9 10 (by decide) (hts (.fieldLink RX10 235 "BinRounds$Tip" "isWrong" "Z") (by decide +kernel)) (fun x hx => hx) rfl rfl dX10_wrong_77 (by decide) ⟨rfl, rfl, rfl, rfl⟩ (by omega) (fun H locs hC hS => ?_)
          refine x_iload_n B hl dX10_wrong_80 rfl ?_
          exact w_widen (Nat.le_of_ble_eq_true rfl) (Nat.le_of_ble_eq_true rfl) (vx_ret (co_iret E hr rfl hlk hC hS dX10_wrong_81 ⟨(by unfold wrongC; omega), congrArg (fun z => some (Value.int z)) (congrArg iI (by unfold wrongR; first | (rw [if_pos (by omega)]; done) | (rw [if_neg (by omega)]; done))), rfl, rfl, (by first | trivial | omega)⟩))
      · refine x_iconst B dX10_wrong_54 ?_
        refine x_goto (tgt := 59) B dX10_wrong_55 (by decide) ?_
        refine cstm_call E hout hlk hK hC hS hl (c_require l hlt D cy d0 A la _ (z := 1) (Or.inr rfl)) (va_cwS 1 hts0 gX10_wrong_X10_require rfl rfl rfl (by decide +kernel) ⟨Nat.le_of_ble_eq_true rfl, Nat.le_of_ble_eq_true rfl⟩) rfl rfl (Nat.le_of_ble_eq_true rfl) dX10_wrong_59 ⟨Nat.le_of_ble_eq_true rfl, Nat.le_of_ble_eq_true rfl⟩ ⟨Nat.le_of_ble_eq_true rfl, Nat.le_of_ble_eq_true rfl⟩ (fun h => ⟨by unfold wrongC; omega, rfl⟩) (fun h9_59 H locs q_59 hC hS => ?_)
        refine x_aload_n B hl dX10_wrong_62 rfl ?_
        refine co_getb (f := 41) E hC 10 (by decide) (cl_10 ht1) rfl (fun z h => List.mem_cons_of_mem _ (List.mem_append_left _ (List.mem_append_left _ (List.mem_append_left _ (List.mem_append_left _ (List.mem_append_left _ (List.mem_append_left _ (List.mem_append_right _ h)))))))) 10 (by decide) (hts (.fieldLink RX10 235 "BinRounds$Tip" "isWrong" "Z") (by decide +kernel)) (fun x hx => hx) dX10_wrong_63 ⟨rfl, rfl, rfl⟩ rfl (fun r_63 => ?_)
        refine x_if_ne (tgt := 73) B dX10_wrong_66 (by decide) (by omega) (fun c_66 => ?_) (fun c_66 => ?_)
        · refine x_iconst B dX10_wrong_73 ?_
          refine x_istore_n B hl dX10_wrong_74 (by decide) (fun ls hl => ?_)
          refine x_aload_n B hl dX10_wrong_75 rfl ?_
          refine x_iconst B dX10_wrong_76 ?_
          refine co_putb (f := 41) E hC hS 10 (by decide) (cl_10 ht1) rfl (fun z h => List.mem_cons_of_mem _ (List.mem_append_left _ (List.mem_append_left _ (List.mem_append_left _ (List.mem_append_left _ (List.mem_append_left _ (List.mem_append_left _ (List.mem_append_right _ h)))))))) tyX9 tyX9_ok nmX9 10 (by decide) (hts (.fieldLink RX10 235 "BinRounds$Tip" "isWrong" "Z") (by decide +kernel)) (fun x hx => hx) rfl rfl dX10_wrong_77 (by decide) ⟨rfl, rfl, rfl, rfl⟩ (by omega) (fun H locs hC hS => ?_)
          refine x_iload_n B hl dX10_wrong_80 rfl ?_
          exact w_widen (Nat.le_of_ble_eq_true rfl) (Nat.le_of_ble_eq_true rfl) (vx_ret (co_iret E hr rfl hlk hC hS dX10_wrong_81 ⟨(by unfold wrongC; omega), congrArg (fun z => some (Value.int z)) (congrArg iI (by unfold wrongR; first | (rw [if_pos (by omega)]; done) | (rw [if_neg (by omega)]; done))), rfl, rfl, (by first | trivial | omega)⟩))
        · refine x_iconst B dX10_wrong_69 ?_
          refine x_goto (tgt := 74) B dX10_wrong_70 (by decide) ?_
          refine x_istore_n B hl dX10_wrong_74 (by decide) (fun ls hl => ?_)
          refine x_aload_n B hl dX10_wrong_75 rfl ?_
          refine x_iconst B dX10_wrong_76 ?_
          refine co_putb (f := 41) E hC hS 10 (by decide) (cl_10 ht1) rfl (fun z h => List.mem_cons_of_mem _ (List.mem_append_left _ (List.mem_append_left _ (List.mem_append_left _ (List.mem_append_left _ (List.mem_append_left _ (List.mem_append_left _ (List.mem_append_right _ h)))))))) tyX9 tyX9_ok nmX9 10 (by decide) (hts (.fieldLink RX10 235 "BinRounds$Tip" "isWrong" "Z") (by decide +kernel)) (fun x hx => hx) rfl rfl dX10_wrong_77 (by decide) ⟨rfl, rfl, rfl, rfl⟩ (by omega) (fun H locs hC hS => ?_)
          refine x_iload_n B hl dX10_wrong_80 rfl ?_
          exact w_widen (Nat.le_of_ble_eq_true rfl) (Nat.le_of_ble_eq_true rfl) (vx_ret (co_iret E hr rfl hlk hC hS dX10_wrong_81 ⟨(by unfold wrongC; omega), congrArg (fun z => some (Value.int z)) (congrArg iI (by unfold wrongR; first | (rw [if_pos (by omega)]; done) | (rw [if_neg (by omega)]; done))), rfl, rfl, (by first | trivial | omega)⟩))
