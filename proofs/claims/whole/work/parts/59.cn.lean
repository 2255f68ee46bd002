set_option maxHeartbeats 4000000 in
set_option maxRecDepth 100000 in
theorem c_p_load (l : Launch) (hlt : l.stackTraces = false) (D : va_G) (cy : Nat → ClassId) (d0 : Nat) (A : Nat → Prop) (la : Nat → Int → Nat) (σ : MS) {q : Int} {wt : Int} (h_q : -2147483648 ≤ q ∧ q < 2147483648) (h_wt : -2147483648 ≤ wt ∧ wt < 2147483648) (hn5 : 0 ≤ σ 5 0 ∧ σ 5 0 ≤ 1000) (hn11 : 0 ≤ σ 11 0 ∧ σ 11 0 ≤ 1000) (hn23 : 0 ≤ σ 23 0 ∧ σ 23 0 ≤ 1000) (hn27 : 0 ≤ σ 27 0 ∧ σ 27 0 ≤ 1000) (hn45 : 0 ≤ σ 45 0 ∧ σ 45 0 ≤ 600) (hlg : σ 58 0 = 0 ∧ σ 59 0 = 0) (ho : sOrd σ) (hh : ∀ t, 0 ≤ t → t < σ 45 0 → 0 ≤ σ 35 t ∧ σ 35 t ≤ 3000000) (hct : ∀ t, 0 ≤ t → t < σ 45 0 → 0 ≤ σ 33 t ∧ σ 33 t < σ 27 0) (htol : 0 ≤ σ 31 0 ∧ σ 31 0 ≤ 1000) (hgt : ∀ q, -1 ≤ σ 26 q ∧ σ 26 q ≤ 1000000) : CT l yX10_load wsX10_load ({ frames := 8, cells := 16, slots := 256, locals := 131 } : Room) D cy d0 A [.ref (la 0 0), .int (iI q), .int (iI wt)] la σ ((if loadC σ q wt = 1 then 1 else (if loadC σ q wt = 2 then 4 else 0))) (cPm (some (.int (iI (loadR σ q wt)))) la (σ) (True)) 16 256 := by
  refine ct_of (cc := cX10_load) (nL := 4) (ret := (some .int)) (by decide) rfl (Nat.le_of_ble_eq_true rfl) ?_
  intro p e s m args below meth c ls E hout hr hlk hK hC hS hl
  have B := E.1
  have hml := E.2.1
  have hown := E.2.2.1
  have hts0 := E.2.2.2.1
  have hts := E.2.2.2.1
  have hw := hC.2.2.2.2.2.1
  refine x_aload_n B hl dX10_load_0 rfl ?_
  refine x_iload_n B hl dX10_load_1 rfl ?_
  refine ctm_call E hout hlk hK hC hS hl (κ := 0) (i := 0) (by decide) cl_0 rfl (c_cartAt l hlt D cy d0 A la _ (z := q) h_q (by omega) (by omega) hlg) (cwV 1 hts0 gX10_load_X10_cartAt rfl rfl rfl (by decide +kernel) ⟨Nat.le_of_ble_eq_true rfl, Nat.le_of_ble_eq_true rfl⟩) rfl rfl (Nat.le_of_ble_eq_true rfl) dX10_load_2 ⟨Nat.le_of_ble_eq_true rfl, Nat.le_of_ble_eq_true rfl⟩ ⟨Nat.le_of_ble_eq_true rfl, Nat.le_of_ble_eq_true rfl⟩ (fun h => ⟨by unfold loadC; omega, rfl⟩) (fun h9_2 H locs hq1 hC hS => ?_)
  refine x_astore_n B hl dX10_load_5 (by decide) (fun ls hl => ?_)
  refine x_iload_n B hl dX10_load_6 rfl ?_
  refine x_i2l B dX10_load_7 (by omega) ?_
  refine x_lconst B dX10_load_8 ?_
  refine lv_ldc2 (v := lI 4) B.1 B.2 hown (hts (.constantLong RX10 85 (4)) (by decide +kernel)) dX10_load_9 ?_
  refine z_call ⟨B.1, B.2, hml, hown, hts0⟩ hl (c_isWithin l (v := wt) (a := 0) (b := 4) (by omega) (by omega) (by omega)) (va_cwS 3 hts0 gX10_load_X10_isWithin rfl rfl rfl (by decide +kernel) ⟨Nat.le_of_ble_eq_true rfl, Nat.le_of_ble_eq_true rfl⟩) rfl rfl (Nat.le_of_ble_eq_true rfl) dX10_load_12 ⟨Nat.le_of_ble_eq_true rfl, Nat.le_of_ble_eq_true rfl⟩ (fun q_12 => ?_)
  refine x_bool (fun b_12 => ?_) (fun b_12 => ?_)
  · refine cstm_call E hout hlk hK hC hS hl (c_requireThere l hlt D cy d0 A la _ (z := 1) (Or.inr rfl)) (va_cwS 1 hts0 gX10_load_X10_requireThere rfl rfl rfl (by decide +kernel) ⟨Nat.le_of_ble_eq_true rfl, Nat.le_of_ble_eq_true rfl⟩) rfl rfl (Nat.le_of_ble_eq_true rfl) dX10_load_15 ⟨Nat.le_of_ble_eq_true rfl, Nat.le_of_ble_eq_true rfl⟩ ⟨Nat.le_of_ble_eq_true rfl, Nat.le_of_ble_eq_true rfl⟩ (fun h => ⟨by unfold loadC; omega, rfl⟩) (fun h9_15 H locs q_15 hC hS => ?_)
    refine x_iload_n B hl dX10_load_18 rfl ?_
    rcases (show wt = 0 ∨ wt = 1 ∨ wt = 2 ∨ wt = 3 ∨ (wt < 0 ∨ 3 < wt) by omega) with hsw | hsw | hsw | hsw | hsw
    · refine x_tswIn (off := 29) (tgt := 48) B dX10_load_19 hsw (by decide) (by decide) rfl (by decide) ?_
      refine x_aload_n B hl dX10_load_48 rfl ?_
      refine co_geti (f := 25) E hC 9 (by decide) (cl_9 hq1) rfl (fun z h => List.mem_cons_of_mem _ (List.mem_append_left _ (List.mem_append_left _ (List.mem_append_left _ (List.mem_append_left _ (List.mem_append_left _ (List.mem_append_right _ h))))))) 2 (by decide) (hts (.fieldLink RX10 287 "BinRounds$Cart" "carry" "I") (by decide +kernel)) (fun x hx => hx) dX10_load_49 ⟨rfl, rfl, rfl⟩ rfl (fun r_49 => ?_)
      exact w_widen (Nat.le_of_ble_eq_true rfl) (Nat.le_of_ble_eq_true rfl) (vx_ret (co_iret E hr rfl hlk hC hS dX10_load_52 ⟨(by unfold loadC; omega), congrArg (fun z => some (Value.int z)) (congrArg iI (by unfold loadR; rw [if_pos (by omega)])), rfl, rfl, trivial⟩))
    · refine x_tswIn (off := 34) (tgt := 53) B dX10_load_19 hsw (by decide) (by decide) rfl (by decide) ?_
      refine x_aload_n B hl dX10_load_53 rfl ?_
      refine x_aload_n B hl dX10_load_54 rfl ?_
      refine co_call E hK hC hS hl (κ := 0) (i := 0) (by decide) cl_0 rfl (c_halvesToday l D cy d0 A la σ (q := q) hq1 hn45 hn23 hlg ho hh hct) (cwV 1 hts0 gX10_load_X10_halvesToday rfl rfl rfl (by decide +kernel) ⟨Nat.le_of_ble_eq_true rfl, Nat.le_of_ble_eq_true rfl⟩) rfl rfl (Nat.le_of_ble_eq_true rfl) dX10_load_55 ⟨Nat.le_of_ble_eq_true rfl, Nat.le_of_ble_eq_true rfl⟩ (fun H locs q_h hC hS => ?_)
      exact w_widen (Nat.le_of_ble_eq_true rfl) (Nat.le_of_ble_eq_true rfl) (vx_ret (co_iret E hr rfl hlk hC hS dX10_load_58 ⟨(by unfold loadC; omega), congrArg (fun z => some (Value.int z)) (congrArg iI (by unfold loadR; rw [if_neg (by omega), if_pos (by omega)])), rfl, rfl, trivial⟩))
    · refine x_tswIn (off := 40) (tgt := 59) B dX10_load_19 hsw (by decide) (by decide) rfl (by decide) ?_
      refine x_aload_n B hl dX10_load_59 rfl ?_
      refine co_geti (f := 26) E hC 9 (by decide) (cl_9 hq1) rfl (fun z h => List.mem_cons_of_mem _ (List.mem_append_left _ (List.mem_append_left _ (List.mem_append_left _ (List.mem_append_left _ (List.mem_append_left _ (List.mem_append_right _ h))))))) 3 (by decide) (hts (.fieldLink RX10 240 "BinRounds$Cart" "gateHalves" "I") (by decide +kernel)) (fun x hx => hx) dX10_load_60 ⟨rfl, rfl, rfl⟩ rfl (fun r_60 => ?_)
      exact w_widen (Nat.le_of_ble_eq_true rfl) (Nat.le_of_ble_eq_true rfl) (vx_ret (co_iret E hr rfl hlk hC hS dX10_load_63 ⟨(by unfold loadC; omega), congrArg (fun z => some (Value.int z)) (congrArg iI (by unfold loadR; rw [if_neg (by omega), if_neg (by omega), if_pos (by omega)])), rfl, rfl, trivial⟩))
    · refine x_tswIn (off := 45) (tgt := 64) B dX10_load_19 hsw (by decide) (by decide) rfl (by decide) ?_
      refine x_aload_n B hl dX10_load_64 rfl ?_
      refine x_aload_n B hl dX10_load_65 rfl ?_
      refine co_call E hK hC hS hl (κ := 0) (i := 0) (by decide) cl_0 rfl (c_agrees l D cy d0 A la σ (q := q) hq1 hn45 hn23 hlg ho hh hct htol (hgt q)) (cwV 1 hts0 gX10_load_X10_agrees rfl rfl rfl (by decide +kernel) ⟨Nat.le_of_ble_eq_true rfl, Nat.le_of_ble_eq_true rfl⟩) rfl rfl (Nat.le_of_ble_eq_true rfl) dX10_load_66 ⟨Nat.le_of_ble_eq_true rfl, Nat.le_of_ble_eq_true rfl⟩ (fun H locs q_66 hC hS => ?_)
      refine x_bool (fun b_66 => ?_) (fun b_66 => ?_)
      · refine x_if_eq_f (tgt := 76) B dX10_load_69 (by decide) (by decide) ?_
        refine x_iconst B dX10_load_72 ?_
        refine x_goto (tgt := 77) B dX10_load_73 (by decide) ?_
        exact w_widen (Nat.le_of_ble_eq_true rfl) (Nat.le_of_ble_eq_true rfl) (vx_ret (co_iret E hr rfl hlk hC hS dX10_load_77 ⟨(by unfold loadC; omega), congrArg (fun z => some (Value.int z)) (congrArg iI (by unfold loadR; rw [if_neg (by omega), if_neg (by omega), if_neg (by omega), if_pos (by omega)]; first | (rw [if_pos b_66]; done) | (rw [if_neg b_66]; done))), rfl, rfl, trivial⟩))
      · refine x_if_eq_t (tgt := 76) B dX10_load_69 (by decide) (by decide) ?_
        refine x_iconst B dX10_load_76 ?_
        exact w_widen (Nat.le_of_ble_eq_true rfl) (Nat.le_of_ble_eq_true rfl) (vx_ret (co_iret E hr rfl hlk hC hS dX10_load_77 ⟨(by unfold loadC; omega), congrArg (fun z => some (Value.int z)) (congrArg iI (by unfold loadR; rw [if_neg (by omega), if_neg (by omega), if_neg (by omega), if_pos (by omega)]; first | (rw [if_pos b_66]; done) | (rw [if_neg b_66]; done))), rfl, rfl, trivial⟩))
    · refine lv_tableOut (tgt := 78) B.1 B.2 dX10_load_19 (by rw [iI_toInt h_wt]; omega) (by decide) ?_
      refine x_aload_n B hl dX10_load_78 rfl ?_
      refine co_geti (f := 24) E hC 9 (by decide) (cl_9 hq1) rfl (fun z h => List.mem_cons_of_mem _ (List.mem_append_left _ (List.mem_append_left _ (List.mem_append_left _ (List.mem_append_left _ (List.mem_append_left _ (List.mem_append_right _ h))))))) 1 (by decide) (hts (.fieldLink RX10 330 "BinRounds$Cart" "limit" "I") (by decide +kernel)) (fun x hx => hx) dX10_load_79 ⟨rfl, rfl, rfl⟩ rfl (fun r_79 => ?_)
      exact w_widen (Nat.le_of_ble_eq_true rfl) (Nat.le_of_ble_eq_true rfl) (vx_ret (co_iret E hr rfl hlk hC hS dX10_load_82 ⟨(by unfold loadC; omega), congrArg (fun z => some (Value.int z)) (congrArg iI (by unfold loadR; rw [if_neg (by omega), if_neg (by omega), if_neg (by omega), if_neg (by omega)])), rfl, rfl, trivial⟩))
  · refine cstm_call E hout hlk hK hC hS hl (c_requireThere l hlt D cy d0 A la _ (z := 0) (Or.inl rfl)) (va_cwS 1 hts0 gX10_load_X10_requireThere rfl rfl rfl (by decide +kernel) ⟨Nat.le_of_ble_eq_true rfl, Nat.le_of_ble_eq_true rfl⟩) rfl rfl (Nat.le_of_ble_eq_true rfl) dX10_load_15 ⟨Nat.le_of_ble_eq_true rfl, Nat.le_of_ble_eq_true rfl⟩ ⟨Nat.le_of_ble_eq_true rfl, Nat.le_of_ble_eq_true rfl⟩ (fun h => ⟨by unfold loadC; omega, rfl⟩) (fun h9_15 H locs q_15 hC hS => ?_)
    refine x_iload_n B hl dX10_load_18 rfl ?_
    rcases (show wt = 0 ∨ wt = 1 ∨ wt = 2 ∨ wt = 3 ∨ (wt < 0 ∨ 3 < wt) by omega) with hsw | hsw | hsw | hsw | hsw
    · refine x_tswIn (off := 29) (tgt := 48) B dX10_load_19 hsw (by decide) (by decide) rfl (by decide) ?_
      refine x_aload_n B hl dX10_load_48 rfl ?_
      refine co_geti (f := 25) E hC 9 (by decide) (cl_9 hq1) rfl (fun z h => List.mem_cons_of_mem _ (List.mem_append_left _ (List.mem_append_left _ (List.mem_append_left _ (List.mem_append_left _ (List.mem_append_left _ (List.mem_append_right _ h))))))) 2 (by decide) (hts (.fieldLink RX10 287 "BinRounds$Cart" "carry" "I") (by decide +kernel)) (fun x hx => hx) dX10_load_49 ⟨rfl, rfl, rfl⟩ rfl (fun r_49 => ?_)
      exact w_widen (Nat.le_of_ble_eq_true rfl) (Nat.le_of_ble_eq_true rfl) (vx_ret (co_iret E hr rfl hlk hC hS dX10_load_52 ⟨(by unfold loadC; omega), congrArg (fun z => some (Value.int z)) (congrArg iI (by unfold loadR; rw [if_pos (by omega)])), rfl, rfl, trivial⟩))
    · refine x_tswIn (off := 34) (tgt := 53) B dX10_load_19 hsw (by decide) (by decide) rfl (by decide) ?_
      refine x_aload_n B hl dX10_load_53 rfl ?_
      refine x_aload_n B hl dX10_load_54 rfl ?_
      refine co_call E hK hC hS hl (κ := 0) (i := 0) (by decide) cl_0 rfl (c_halvesToday l D cy d0 A la σ (q := q) hq1 hn45 hn23 hlg ho hh hct) (cwV 1 hts0 gX10_load_X10_halvesToday rfl rfl rfl (by decide +kernel) ⟨Nat.le_of_ble_eq_true rfl, Nat.le_of_ble_eq_true rfl⟩) rfl rfl (Nat.le_of_ble_eq_true rfl) dX10_load_55 ⟨Nat.le_of_ble_eq_true rfl, Nat.le_of_ble_eq_true rfl⟩ (fun H locs q_h hC hS => ?_)
      exact w_widen (Nat.le_of_ble_eq_true rfl) (Nat.le_of_ble_eq_true rfl) (vx_ret (co_iret E hr rfl hlk hC hS dX10_load_58 ⟨(by unfold loadC; omega), congrArg (fun z => some (Value.int z)) (congrArg iI (by unfold loadR; rw [if_neg (by omega), if_pos (by omega)])), rfl, rfl, trivial⟩))
    · refine x_tswIn (off := 40) (tgt := 59) B dX10_load_19 hsw (by decide) (by decide) rfl (by decide) ?_
      refine x_aload_n B hl dX10_load_59 rfl ?_
      refine co_geti (f := 26) E hC 9 (by decide) (cl_9 hq1) rfl (fun z h => List.mem_cons_of_mem _ (List.mem_append_left _ (List.mem_append_left _ (List.mem_append_left _ (List.mem_append_left _ (List.mem_append_left _ (List.mem_append_right _ h))))))) 3 (by decide) (hts (.fieldLink RX10 240 "BinRounds$Cart" "gateHalves" "I") (by decide +kernel)) (fun x hx => hx) dX10_load_60 ⟨rfl, rfl, rfl⟩ rfl (fun r_60 => ?_)
      exact w_widen (Nat.le_of_ble_eq_true rfl) (Nat.le_of_ble_eq_true rfl) (vx_ret (co_iret E hr rfl hlk hC hS dX10_load_63 ⟨(by unfold loadC; omega), congrArg (fun z => some (Value.int z)) (congrArg iI (by unfold loadR; rw [if_neg (by omega), if_neg (by omega), if_pos (by omega)])), rfl, rfl, trivial⟩))
    · refine x_tswIn (off := 45) (tgt := 64) B dX10_load_19 hsw (by decide) (by decide) rfl (by decide) ?_
      refine x_aload_n B hl dX10_load_64 rfl ?_
      refine x_aload_n B hl dX10_load_65 rfl ?_
      refine co_call E hK hC hS hl (κ := 0) (i := 0) (by decide) cl_0 rfl (c_agrees l D cy d0 A la σ (q := q) hq1 hn45 hn23 hlg ho hh hct htol (hgt q)) (cwV 1 hts0 gX10_load_X10_agrees rfl rfl rfl (by decide +kernel) ⟨Nat.le_of_ble_eq_true rfl, Nat.le_of_ble_eq_true rfl⟩) rfl rfl (Nat.le_of_ble_eq_true rfl) dX10_load_66 ⟨Nat.le_of_ble_eq_true rfl, Nat.le_of_ble_eq_true rfl⟩ (fun H locs q_66 hC hS => ?_)
      refine x_bool (fun b_66 => ?_) (fun b_66 => ?_)
      · refine x_if_eq_f (tgt := 76) B dX10_load_69 (by decide) (by decide) ?_
        refine x_iconst B dX10_load_72 ?_
        refine x_goto (tgt := 77) B dX10_load_73 (by decide) ?_
        exact w_widen (Nat.le_of_ble_eq_true rfl) (Nat.le_of_ble_eq_true rfl) (vx_ret (co_iret E hr rfl hlk hC hS dX10_load_77 ⟨(by unfold loadC; omega), congrArg (fun z => some (Value.int z)) (congrArg iI (by unfold loadR; rw [if_neg (by omega), if_neg (by omega), if_neg (by omega), if_pos (by omega)]; first | (rw [if_pos b_66]; done) | (rw [if_neg b_66]; done))), rfl, rfl, trivial⟩))
      · refine x_if_eq_t (tgt := 76) B dX10_load_69 (by decide) (by decide) ?_
        refine x_iconst B dX10_load_76 ?_
        exact w_widen (Nat.le_of_ble_eq_true rfl) (Nat.le_of_ble_eq_true rfl) (vx_ret (co_iret E hr rfl hlk hC hS dX10_load_77 ⟨(by unfold loadC; omega), congrArg (fun z => some (Value.int z)) (congrArg iI (by unfold loadR; rw [if_neg (by omega), if_neg (by omega), if_neg (by omega), if_pos (by omega)]; first | (rw [if_pos b_66]; done) | (rw [if_neg b_66]; done))), rfl, rfl, trivial⟩))
    · refine lv_tableOut (tgt := 78) B.1 B.2 dX10_load_19 (by rw [iI_toInt h_wt]; omega) (by decide) ?_
      refine x_aload_n B hl dX10_load_78 rfl ?_
      refine co_geti (f := 24) E hC 9 (by decide) (cl_9 hq1) rfl (fun z h => List.mem_cons_of_mem _ (List.mem_append_left _ (List.mem_append_left _ (List.mem_append_left _ (List.mem_append_left _ (List.mem_append_left _ (List.mem_append_right _ h))))))) 1 (by decide) (hts (.fieldLink RX10 330 "BinRounds$Cart" "limit" "I") (by decide +kernel)) (fun x hx => hx) dX10_load_79 ⟨rfl, rfl, rfl⟩ rfl (fun r_79 => ?_)
      exact w_widen (Nat.le_of_ble_eq_true rfl) (Nat.le_of_ble_eq_true rfl) (vx_ret (co_iret E hr rfl hlk hC hS dX10_load_82 ⟨(by unfold loadC; omega), congrArg (fun z => some (Value.int z)) (congrArg iI (by unfold loadR; rw [if_neg (by omega), if_neg (by omega), if_neg (by omega), if_neg (by omega)])), rfl, rfl, trivial⟩))
set_option maxHeartbeats 4000000 in
set_option maxRecDepth 100000 in
theorem c_p_state (l : Launch) (hlt : l.stackTraces = false) (D : va_G) (cy : Nat → ClassId) (d0 : Nat) (A : Nat → Prop) (la : Nat → Int → Nat) (σ : MS) {b : Int} {wt : Int} (h_b : -2147483648 ≤ b ∧ b < 2147483648) (h_wt : -2147483648 ≤ wt ∧ wt < 2147483648) (hn5 : 0 ≤ σ 5 0 ∧ σ 5 0 ≤ 1000) (hn11 : 0 ≤ σ 11 0 ∧ σ 11 0 ≤ 1000) (hn23 : 0 ≤ σ 23 0 ∧ σ 23 0 ≤ 1000) (hn27 : 0 ≤ σ 27 0 ∧ σ 27 0 ≤ 1000) (hn45 : 0 ≤ σ 45 0 ∧ σ 45 0 ≤ 600) (hlg : σ 58 0 = 0 ∧ σ 59 0 = 0) (hm : ∀ b, 0 ≤ σ 18 b ∧ σ 18 b ≤ 8) (hv : ∀ j, 0 ≤ σ 16 j) (hop : 0 ≤ σ 1 0 ∧ σ 1 0 ≤ 699) (hho : ∀ b, 0 ≤ b ∧ b < σ 23 0 → ¬ sHouse σ b (σ 1 0) < 0 → 0 ≤ sHouse σ b (σ 1 0) ∧ sHouse σ b (σ 1 0) < σ 11 0) (hsl : ∀ b, -1 ≤ sHouse σ b (σ 1 0)) : CT l yX10_state wsX10_state ({ frames := 8, cells := 16, slots := 256, locals := 124 } : Room) D cy d0 A [.ref (la 0 0), .int (iI b), .int (iI wt)] la σ ((if stateC σ b wt = 1 then 1 else (if stateC σ b wt = 2 then 4 else 0))) (cPm (some (.int (iI (stateR σ b wt)))) la (σ) (True)) 16 256 := by
  refine ct_of (cc := cX10_state) (nL := 4) (ret := (some .int)) (by decide) rfl (Nat.le_of_ble_eq_true rfl) ?_
  intro p e s m args below meth c ls E hout hr hlk hK hC hS hl
  have B := E.1
  have hml := E.2.1
  have hown := E.2.2.1
  have hts0 := E.2.2.2.1
  have hts := E.2.2.2.1
  have hw := hC.2.2.2.2.2.1
  refine x_aload_n B hl dX10_state_0 rfl ?_
  refine x_iload_n B hl dX10_state_1 rfl ?_
  refine ctm_call E hout hlk hK hC hS hl (κ := 0) (i := 0) (by decide) cl_0 rfl (c_binAt l hlt D cy d0 A la _ (z := b) h_b (by omega) hlg) (cwV 1 hts0 gX10_state_X10_binAt rfl rfl rfl (by decide +kernel) ⟨Nat.le_of_ble_eq_true rfl, Nat.le_of_ble_eq_true rfl⟩) rfl rfl (Nat.le_of_ble_eq_true rfl) dX10_state_2 ⟨Nat.le_of_ble_eq_true rfl, Nat.le_of_ble_eq_true rfl⟩ ⟨Nat.le_of_ble_eq_true rfl, Nat.le_of_ble_eq_true rfl⟩ (fun h => ⟨by unfold stateC; omega, rfl⟩) (fun h9_2 H locs hb1 hC hS => ?_)
  refine x_astore_n B hl dX10_state_5 (by decide) (fun ls hl => ?_)
  refine x_iload_n B hl dX10_state_6 rfl ?_
  refine x_i2l B dX10_state_7 (by omega) ?_
  refine x_lconst B dX10_state_8 ?_
  refine lv_ldc2 (v := lI 6) B.1 B.2 hown (hts (.constantLong RX10 352 (6)) (by decide +kernel)) dX10_state_9 ?_
  refine z_call ⟨B.1, B.2, hml, hown, hts0⟩ hl (c_isWithin l (v := wt) (a := 0) (b := 6) (by omega) (by omega) (by omega)) (va_cwS 3 hts0 gX10_state_X10_isWithin rfl rfl rfl (by decide +kernel) ⟨Nat.le_of_ble_eq_true rfl, Nat.le_of_ble_eq_true rfl⟩) rfl rfl (Nat.le_of_ble_eq_true rfl) dX10_state_12 ⟨Nat.le_of_ble_eq_true rfl, Nat.le_of_ble_eq_true rfl⟩ (fun q_12 => ?_)
  refine x_bool (fun b_12 => ?_) (fun b_12 => ?_)
  · refine cstm_call E hout hlk hK hC hS hl (c_requireThere l hlt D cy d0 A la _ (z := 1) (Or.inr rfl)) (va_cwS 1 hts0 gX10_state_X10_requireThere rfl rfl rfl (by decide +kernel) ⟨Nat.le_of_ble_eq_true rfl, Nat.le_of_ble_eq_true rfl⟩) rfl rfl (Nat.le_of_ble_eq_true rfl) dX10_state_15 ⟨Nat.le_of_ble_eq_true rfl, Nat.le_of_ble_eq_true rfl⟩ ⟨Nat.le_of_ble_eq_true rfl, Nat.le_of_ble_eq_true rfl⟩ (fun h => ⟨by unfold stateC; omega, rfl⟩) (fun h9_15 H locs q_15 hC hS => ?_)
    refine x_iload_n B hl dX10_state_18 rfl ?_
    rcases (show wt = 0 ∨ wt = 1 ∨ wt = 2 ∨ wt = 3 ∨ wt = 4 ∨ wt = 5 ∨ (wt < 0 ∨ 5 < wt) by omega) with hsw | hsw | hsw | hsw | hsw | hsw | hsw
    · refine x_tswIn (off := 37) (tgt := 56) B dX10_state_19 hsw (by decide) (by decide) rfl (by decide) ?_
      refine x_aload_n B hl dX10_state_56 rfl ?_
      refine co_geti (f := 12) E hC 6 (by decide) (cl_6 hb1) rfl (fun z h => List.mem_cons_of_mem _ (List.mem_append_left _ (List.mem_append_left _ (List.mem_append_left _ (List.mem_append_left _ (List.mem_append_left _ (List.mem_append_left _ (List.mem_append_right _ h)))))))) 1 (by decide) (hts (.fieldLink RX10 158 "BinRounds$Bin" "kind" "I") (by decide +kernel)) (fun x hx => hx) dX10_state_57 ⟨rfl, rfl, rfl⟩ rfl (fun r_57 => ?_)
      exact w_widen (Nat.le_of_ble_eq_true rfl) (Nat.le_of_ble_eq_true rfl) (vx_ret (co_iret E hr rfl hlk hC hS dX10_state_60 ⟨(by unfold stateC; omega), congrArg (fun z => some (Value.int z)) (congrArg iI (by unfold stateR; rw [if_pos (by omega)])), rfl, rfl, trivial⟩))
    · refine x_tswIn (off := 42) (tgt := 61) B dX10_state_19 hsw (by decide) (by decide) rfl (by decide) ?_
      refine x_aload_n B hl dX10_state_61 rfl ?_
      refine co_getb (f := 13) E hC 6 (by decide) (cl_6 hb1) rfl (fun z h => List.mem_cons_of_mem _ (List.mem_append_left _ (List.mem_append_left _ (List.mem_append_left _ (List.mem_append_left _ (List.mem_append_left _ (List.mem_append_left _ (List.mem_append_right _ h)))))))) 4 (by decide) (hts (.fieldLink RX10 138 "BinRounds$Bin" "hasMark" "Z") (by decide +kernel)) (fun x hx => hx) dX10_state_62 ⟨rfl, rfl, rfl⟩ rfl (fun r_62 => ?_)
      refine x_if_eq (tgt := 72) B dX10_state_65 (by decide) (by omega) (fun c_65 => ?_) (fun c_65 => ?_)
      · refine x_iconst B dX10_state_72 ?_
        exact w_widen (Nat.le_of_ble_eq_true rfl) (Nat.le_of_ble_eq_true rfl) (vx_ret (co_iret E hr rfl hlk hC hS dX10_state_73 ⟨(by unfold stateC; omega), congrArg (fun z => some (Value.int z)) (congrArg iI (by unfold stateR; rw [if_neg (by omega), if_pos (by omega)]; omega)), rfl, rfl, trivial⟩))
      · refine x_iconst B dX10_state_68 ?_
        refine x_goto (tgt := 73) B dX10_state_69 (by decide) ?_
        exact w_widen (Nat.le_of_ble_eq_true rfl) (Nat.le_of_ble_eq_true rfl) (vx_ret (co_iret E hr rfl hlk hC hS dX10_state_73 ⟨(by unfold stateC; omega), congrArg (fun z => some (Value.int z)) (congrArg iI (by unfold stateR; rw [if_neg (by omega), if_pos (by omega)]; omega)), rfl, rfl, trivial⟩))
    · refine x_tswIn (off := 55) (tgt := 74) B dX10_state_19 hsw (by decide) (by decide) rfl (by decide) ?_
      refine x_aload_n B hl dX10_state_74 rfl ?_
      refine co_getb (f := 13) E hC 6 (by decide) (cl_6 hb1) rfl (fun z h => List.mem_cons_of_mem _ (List.mem_append_left _ (List.mem_append_left _ (List.mem_append_left _ (List.mem_append_left _ (List.mem_append_left _ (List.mem_append_left _ (List.mem_append_right _ h)))))))) 4 (by decide) (hts (.fieldLink RX10 138 "BinRounds$Bin" "hasMark" "Z") (by decide +kernel)) (fun x hx => hx) dX10_state_75 ⟨rfl, rfl, rfl⟩ rfl (fun r_75 => ?_)
      refine x_if_eq (tgt := 88) B dX10_state_78 (by decide) (by omega) (fun c_78 => ?_) (fun c_78 => ?_)
      · refine x_iconst B dX10_state_88 ?_
        exact w_widen (Nat.le_of_ble_eq_true rfl) (Nat.le_of_ble_eq_true rfl) (vx_ret (co_iret E hr rfl hlk hC hS dX10_state_89 ⟨(by unfold stateC; omega), congrArg (fun z => some (Value.int z)) (congrArg iI (by unfold stateR; rw [if_neg (by omega), if_neg (by omega), if_pos (by omega)]; first | (rw [if_pos (by omega)]; done) | (rw [if_neg (by omega)]; done))), rfl, rfl, trivial⟩))
      · refine x_aload_n B hl dX10_state_81 rfl ?_
        refine co_geti (f := 14) E hC 6 (by decide) (cl_6 hb1) rfl (fun z h => List.mem_cons_of_mem _ (List.mem_append_left _ (List.mem_append_left _ (List.mem_append_left _ (List.mem_append_left _ (List.mem_append_left _ (List.mem_append_left _ (List.mem_append_right _ h)))))))) 5 (by decide) (hts (.fieldLink RX10 142 "BinRounds$Bin" "markNumber" "I") (by decide +kernel)) (fun x hx => hx) dX10_state_82 ⟨rfl, rfl, rfl⟩ rfl (fun r_82 => ?_)
        refine x_goto (tgt := 89) B dX10_state_85 (by decide) ?_
        exact w_widen (Nat.le_of_ble_eq_true rfl) (Nat.le_of_ble_eq_true rfl) (vx_ret (co_iret E hr rfl hlk hC hS dX10_state_89 ⟨(by unfold stateC; omega), congrArg (fun z => some (Value.int z)) (congrArg iI (by unfold stateR; rw [if_neg (by omega), if_neg (by omega), if_pos (by omega)]; first | (rw [if_pos (by omega)]; done) | (rw [if_neg (by omega)]; done))), rfl, rfl, trivial⟩))
    · refine x_tswIn (off := 71) (tgt := 90) B dX10_state_19 hsw (by decide) (by decide) rfl (by decide) ?_
      refine x_aload_n B hl dX10_state_90 rfl ?_
      refine x_aload_n B hl dX10_state_91 rfl ?_
      refine co_geti (f := 1) E hC 0 (by decide) cl_0 rfl (fun z h => List.mem_cons_of_mem _ (List.mem_append_left _ (List.mem_append_left _ (List.mem_append_left _ (List.mem_append_left _ (List.mem_append_left _ (List.mem_append_right _ h))))))) 8 (by decide) (hts (.fieldLink RX10 49 "BinRounds" "open" "I") (by decide +kernel)) (fun x hx => hx) dX10_state_92 ⟨rfl, rfl, rfl⟩ rfl (fun r_92 => ?_)
      by_cases hx : sHouse σ b (σ 1 0) < 0
      · refine co_call E hK hC hS hl (κ := 6) (i := b) (by decide) (cl_6 hb1) rfl (c_ownerOn_n l D cy d0 A la σ (b := b) (d := σ 1 0) hb1 (by omega) (hm _) hv hx) (cwV 1 hts0 gX10_state_X0_ownerOn rfl rfl rfl (by decide +kernel) ⟨Nat.le_of_ble_eq_true rfl, Nat.le_of_ble_eq_true rfl⟩) rfl rfl (Nat.le_of_ble_eq_true rfl) dX10_state_95 ⟨Nat.le_of_ble_eq_true rfl, Nat.le_of_ble_eq_true rfl⟩ (fun H locs q_95 hC hS => ?_)
        refine cs_call E hK hC hS hl (c_numberOf_n l D cy d0 A la σ) (va_cwS 1 hts0 gX10_state_X10_numberOf rfl rfl rfl (by decide +kernel) ⟨Nat.le_of_ble_eq_true rfl, Nat.le_of_ble_eq_true rfl⟩) rfl rfl (Nat.le_of_ble_eq_true rfl) dX10_state_98 ⟨Nat.le_of_ble_eq_true rfl, Nat.le_of_ble_eq_true rfl⟩ (fun H locs q_98 hC hS => ?_)
        exact w_widen (Nat.le_of_ble_eq_true rfl) (Nat.le_of_ble_eq_true rfl) (vx_ret (co_iret E hr rfl hlk hC hS dX10_state_101 ⟨(by unfold stateC; omega), congrArg (fun z => some (Value.int z)) (congrArg iI (by unfold stateR; rw [if_neg (by omega), if_neg (by omega), if_neg (by omega), if_pos (by omega)]; first | done | (have := hsl b; omega))), rfl, rfl, trivial⟩))
      · refine co_call E hK hC hS hl (κ := 6) (i := b) (by decide) (cl_6 hb1) rfl (c_ownerOn_r l D cy d0 A la σ (b := b) (d := σ 1 0) hb1 (by omega) (hm _) hv hx) (cwV 1 hts0 gX10_state_X0_ownerOn rfl rfl rfl (by decide +kernel) ⟨Nat.le_of_ble_eq_true rfl, Nat.le_of_ble_eq_true rfl⟩) rfl rfl (Nat.le_of_ble_eq_true rfl) dX10_state_95 ⟨Nat.le_of_ble_eq_true rfl, Nat.le_of_ble_eq_true rfl⟩ (fun H locs q_95 hC hS => ?_)
        refine cs_call E hK hC hS hl (c_numberOf_r l D cy d0 A la σ (h := sHouse σ b (σ 1 0)) (hho b hb1 hx)) (va_cwS 1 hts0 gX10_state_X10_numberOf rfl rfl rfl (by decide +kernel) ⟨Nat.le_of_ble_eq_true rfl, Nat.le_of_ble_eq_true rfl⟩) rfl rfl (Nat.le_of_ble_eq_true rfl) dX10_state_98 ⟨Nat.le_of_ble_eq_true rfl, Nat.le_of_ble_eq_true rfl⟩ (fun H locs q_98 hC hS => ?_)
        exact w_widen (Nat.le_of_ble_eq_true rfl) (Nat.le_of_ble_eq_true rfl) (vx_ret (co_iret E hr rfl hlk hC hS dX10_state_101 ⟨(by unfold stateC; omega), congrArg (fun z => some (Value.int z)) (congrArg iI (by unfold stateR; rw [if_neg (by omega), if_neg (by omega), if_neg (by omega), if_pos (by omega)]; first | done | (have := hsl b; omega))), rfl, rfl, trivial⟩))
    · refine x_tswIn (off := 83) (tgt := 102) B dX10_state_19 hsw (by decide) (by decide) rfl (by decide) ?_
      refine x_aload_n B hl dX10_state_102 rfl ?_
      refine co_geti (f := 15) E hC 6 (by decide) (cl_6 hb1) rfl (fun z h => List.mem_cons_of_mem _ (List.mem_append_left _ (List.mem_append_left _ (List.mem_append_left _ (List.mem_append_left _ (List.mem_append_left _ (List.mem_append_left _ (List.mem_append_right _ h)))))))) 6 (by decide) (hts (.fieldLink RX10 357 "BinRounds$Bin" "wrongs" "I") (by decide +kernel)) (fun x hx => hx) dX10_state_103 ⟨rfl, rfl, rfl⟩ rfl (fun r_103 => ?_)
      exact w_widen (Nat.le_of_ble_eq_true rfl) (Nat.le_of_ble_eq_true rfl) (vx_ret (co_iret E hr rfl hlk hC hS dX10_state_106 ⟨(by unfold stateC; omega), congrArg (fun z => some (Value.int z)) (congrArg iI (by unfold stateR; rw [if_neg (by omega), if_neg (by omega), if_neg (by omega), if_neg (by omega), if_pos (by omega)])), rfl, rfl, trivial⟩))
    · refine x_tswIn (off := 88) (tgt := 107) B dX10_state_19 hsw (by decide) (by decide) rfl (by decide) ?_
      refine x_aload_n B hl dX10_state_107 rfl ?_
      refine co_getR (x := la 11 (5 + 2 * b)) E hC 6 (by decide) (cl_6 hb1) rfl (fun z h => List.mem_cons_of_mem _ (List.mem_append_left _ (List.mem_append_left _ (List.mem_append_left _ (List.mem_append_left _ (List.mem_append_left _ (List.mem_append_left _ (List.mem_append_right _ h)))))))) 2 (by decide) (hts (.fieldLink RX10 125 "BinRounds$Bin" "moves" "Ljava/util/ArrayList;") (by decide +kernel)) (fun x hx => hx) dX10_state_108 rfl rfl ?_
      refine co_call E hK hC hS hl (κ := 11) (i := (5 + 2 * b)) (by decide) (cl_11 (by omega)) rfl (c_size l D cy d0 A la _ (L := (5 + 2 * b)) (n := σ 18 b) (cl_11 (by omega)) (cSz_m hb1.1)) (cwV 0 hts0 gX10_state_Jx4a65c_size_8abf5 rfl rfl rfl (by decide +kernel) ⟨Nat.le_of_ble_eq_true rfl, Nat.le_of_ble_eq_true rfl⟩) rfl rfl (Nat.le_of_ble_eq_true rfl) dX10_state_111 ⟨Nat.le_of_ble_eq_true rfl, Nat.le_of_ble_eq_true rfl⟩ (fun H locs q_111 hC hS => ?_)
      exact w_widen (Nat.le_of_ble_eq_true rfl) (Nat.le_of_ble_eq_true rfl) (vx_ret (co_iret E hr rfl hlk hC hS dX10_state_114 ⟨(by unfold stateC; omega), congrArg (fun z => some (Value.int z)) (congrArg iI (by unfold stateR; rw [if_neg (by omega), if_neg (by omega), if_neg (by omega), if_neg (by omega), if_neg (by omega), if_pos (by omega)])), rfl, rfl, trivial⟩))
    · refine lv_tableOut (tgt := 115) B.1 B.2 dX10_state_19 (by rw [iI_toInt h_wt]; omega) (by decide) ?_
      refine x_aload_n B hl dX10_state_115 rfl ?_
      refine co_getR (x := la 11 (6 + 2 * b)) E hC 6 (by decide) (cl_6 hb1) rfl (fun z h => List.mem_cons_of_mem _ (List.mem_append_left _ (List.mem_append_left _ (List.mem_append_left _ (List.mem_append_left _ (List.mem_append_left _ (List.mem_append_left _ (List.mem_append_right _ h)))))))) 3 (by decide) (hts (.fieldLink RX10 166 "BinRounds$Bin" "parts" "Ljava/util/ArrayList;") (by decide +kernel)) (fun x hx => hx) dX10_state_116 rfl rfl ?_
      refine co_call E hK hC hS hl (κ := 11) (i := (6 + 2 * b)) (by decide) (cl_11 (by omega)) rfl (c_size l D cy d0 A la _ (L := (6 + 2 * b)) (n := σ 22 b) (cl_11 (by omega)) (cSz_p hb1.1)) (cwV 0 hts0 gX10_state_Jx4a65c_size_8abf5 rfl rfl rfl (by decide +kernel) ⟨Nat.le_of_ble_eq_true rfl, Nat.le_of_ble_eq_true rfl⟩) rfl rfl (Nat.le_of_ble_eq_true rfl) dX10_state_119 ⟨Nat.le_of_ble_eq_true rfl, Nat.le_of_ble_eq_true rfl⟩ (fun H locs q_119 hC hS => ?_)
      exact w_widen (Nat.le_of_ble_eq_true rfl) (Nat.le_of_ble_eq_true rfl) (vx_ret (co_iret E hr rfl hlk hC hS dX10_state_122 ⟨(by unfold stateC; omega), congrArg (fun z => some (Value.int z)) (congrArg iI (by unfold stateR; rw [if_neg (by omega), if_neg (by omega), if_neg (by omega), if_neg (by omega), if_neg (by omega), if_neg (by omega)])), rfl, rfl, trivial⟩))
  · refine cstm_call E hout hlk hK hC hS hl (c_requireThere l hlt D cy d0 A la _ (z := 0) (Or.inl rfl)) (va_cwS 1 hts0 gX10_state_X10_requireThere rfl rfl rfl (by decide +kernel) ⟨Nat.le_of_ble_eq_true rfl, Nat.le_of_ble_eq_true rfl⟩) rfl rfl (Nat.le_of_ble_eq_true rfl) dX10_state_15 ⟨Nat.le_of_ble_eq_true rfl, Nat.le_of_ble_eq_true rfl⟩ ⟨Nat.le_of_ble_eq_true rfl, Nat.le_of_ble_eq_true rfl⟩ (fun h => ⟨by unfold stateC; omega, rfl⟩) (fun h9_15 H locs q_15 hC hS => ?_)
    refine x_iload_n B hl dX10_state_18 rfl ?_
    rcases (show wt = 0 ∨ wt = 1 ∨ wt = 2 ∨ wt = 3 ∨ wt = 4 ∨ wt = 5 ∨ (wt < 0 ∨ 5 < wt) by omega) with hsw | hsw | hsw | hsw | hsw | hsw | hsw
    · refine x_tswIn (off := 37) (tgt := 56) B dX10_state_19 hsw (by decide) (by decide) rfl (by decide) ?_
      refine x_aload_n B hl dX10_state_56 rfl ?_
      refine co_geti (f := 12) E hC 6 (by decide) (cl_6 hb1) rfl (fun z h => List.mem_cons_of_mem _ (List.mem_append_left _ (List.mem_append_left _ (List.mem_append_left _ (List.mem_append_left _ (List.mem_append_left _ (List.mem_append_left _ (List.mem_append_right _ h)))))))) 1 (by decide) (hts (.fieldLink RX10 158 "BinRounds$Bin" "kind" "I") (by decide +kernel)) (fun x hx => hx) dX10_state_57 ⟨rfl, rfl, rfl⟩ rfl (fun r_57 => ?_)
      exact w_widen (Nat.le_of_ble_eq_true rfl) (Nat.le_of_ble_eq_true rfl) (vx_ret (co_iret E hr rfl hlk hC hS dX10_state_60 ⟨(by unfold stateC; omega), congrArg (fun z => some (Value.int z)) (congrArg iI (by unfold stateR; rw [if_pos (by omega)])), rfl, rfl, trivial⟩))
    · refine x_tswIn (off := 42) (tgt := 61) B dX10_state_19 hsw (by decide) (by decide) rfl (by decide) ?_
      refine x_aload_n B hl dX10_state_61 rfl ?_
      refine co_getb (f := 13) E hC 6 (by decide) (cl_6 hb1) rfl (fun z h => List.mem_cons_of_mem _ (List.mem_append_left _ (List.mem_append_left _ (List.mem_append_left _ (List.mem_append_left _ (List.mem_append_left _ (List.mem_append_left _ (List.mem_append_right _ h)))))))) 4 (by decide) (hts (.fieldLink RX10 138 "BinRounds$Bin" "hasMark" "Z") (by decide +kernel)) (fun x hx => hx) dX10_state_62 ⟨rfl, rfl, rfl⟩ rfl (fun r_62 => ?_)
      refine x_if_eq (tgt := 72) B dX10_state_65 (by decide) (by omega) (fun c_65 => ?_) (fun c_65 => ?_)
      · refine x_iconst B dX10_state_72 ?_
        exact w_widen (Nat.le_of_ble_eq_true rfl) (Nat.le_of_ble_eq_true rfl) (vx_ret (co_iret E hr rfl hlk hC hS dX10_state_73 ⟨(by unfold stateC; omega), congrArg (fun z => some (Value.int z)) (congrArg iI (by unfold stateR; rw [if_neg (by omega), if_pos (by omega)]; omega)), rfl, rfl, trivial⟩))
      · refine x_iconst B dX10_state_68 ?_
        refine x_goto (tgt := 73) B dX10_state_69 (by decide) ?_
        exact w_widen (Nat.le_of_ble_eq_true rfl) (Nat.le_of_ble_eq_true rfl) (vx_ret (co_iret E hr rfl hlk hC hS dX10_state_73 ⟨(by unfold stateC; omega), congrArg (fun z => some (Value.int z)) (congrArg iI (by unfold stateR; rw [if_neg (by omega), if_pos (by omega)]; omega)), rfl, rfl, trivial⟩))
    · refine x_tswIn (off := 55) (tgt := 74) B dX10_state_19 hsw (by decide) (by decide) rfl (by decide) ?_
      refine x_aload_n B hl dX10_state_74 rfl ?_
      refine co_getb (f := 13) E hC 6 (by decide) (cl_6 hb1) rfl (fun z h => List.mem_cons_of_mem _ (List.mem_append_left _ (List.mem_append_left _ (List.mem_append_left _ (List.mem_append_left _ (List.mem_append_left _ (List.mem_append_left _ (List.mem_append_right _ h)))))))) 4 (by decide) (hts (.fieldLink RX10 138 "BinRounds$Bin" "hasMark" "Z") (by decide +kernel)) (fun x hx => hx) dX10_state_75 ⟨rfl, rfl, rfl⟩ rfl (fun r_75 => ?_)
      refine x_if_eq (tgt := 88) B dX10_state_78 (by decide) (by omega) (fun c_78 => ?_) (fun c_78 => ?_)
      · refine x_iconst B dX10_state_88 ?_
        exact w_widen (Nat.le_of_ble_eq_true rfl) (Nat.le_of_ble_eq_true rfl) (vx_ret (co_iret E hr rfl hlk hC hS dX10_state_89 ⟨(by unfold stateC; omega), congrArg (fun z => some (Value.int z)) (congrArg iI (by unfold stateR; rw [if_neg (by omega), if_neg (by omega), if_pos (by omega)]; first | (rw [if_pos (by omega)]; done) | (rw [if_neg (by omega)]; done))), rfl, rfl, trivial⟩))
      · refine x_aload_n B hl dX10_state_81 rfl ?_
        refine co_geti (f := 14) E hC 6 (by decide) (cl_6 hb1) rfl (fun z h => List.mem_cons_of_mem _ (List.mem_append_left _ (List.mem_append_left _ (List.mem_append_left _ (List.mem_append_left _ (List.mem_append_left _ (List.mem_append_left _ (List.mem_append_right _ h)))))))) 5 (by decide) (hts (.fieldLink RX10 142 "BinRounds$Bin" "markNumber" "I") (by decide +kernel)) (fun x hx => hx) dX10_state_82 ⟨rfl, rfl, rfl⟩ rfl (fun r_82 => ?_)
        refine x_goto (tgt := 89) B dX10_state_85 (by decide) ?_
        exact w_widen (Nat.le_of_ble_eq_true rfl) (Nat.le_of_ble_eq_true rfl) (vx_ret (co_iret E hr rfl hlk hC hS dX10_state_89 ⟨(by unfold stateC; omega), congrArg (fun z => some (Value.int z)) (congrArg iI (by unfold stateR; rw [if_neg (by omega), if_neg (by omega), if_pos (by omega)]; first | (rw [if_pos (by omega)]; done) | (rw [if_neg (by omega)]; done))), rfl, rfl, trivial⟩))
    · refine x_tswIn (off := 71) (tgt := 90) B dX10_state_19 hsw (by decide) (by decide) rfl (by decide) ?_
      refine x_aload_n B hl dX10_state_90 rfl ?_
      refine x_aload_n B hl dX10_state_91 rfl ?_
      refine co_geti (f := 1) E hC 0 (by decide) cl_0 rfl (fun z h => List.mem_cons_of_mem _ (List.mem_append_left _ (List.mem_append_left _ (List.mem_append_left _ (List.mem_append_left _ (List.mem_append_left _ (List.mem_append_right _ h))))))) 8 (by decide) (hts (.fieldLink RX10 49 "BinRounds" "open" "I") (by decide +kernel)) (fun x hx => hx) dX10_state_92 ⟨rfl, rfl, rfl⟩ rfl (fun r_92 => ?_)
      by_cases hx : sHouse σ b (σ 1 0) < 0
      · refine co_call E hK hC hS hl (κ := 6) (i := b) (by decide) (cl_6 hb1) rfl (c_ownerOn_n l D cy d0 A la σ (b := b) (d := σ 1 0) hb1 (by omega) (hm _) hv hx) (cwV 1 hts0 gX10_state_X0_ownerOn rfl rfl rfl (by decide +kernel) ⟨Nat.le_of_ble_eq_true rfl, Nat.le_of_ble_eq_true rfl⟩) rfl rfl (Nat.le_of_ble_eq_true rfl) dX10_state_95 ⟨Nat.le_of_ble_eq_true rfl, Nat.le_of_ble_eq_true rfl⟩ (fun H locs q_95 hC hS => ?_)
        refine cs_call E hK hC hS hl (c_numberOf_n l D cy d0 A la σ) (va_cwS 1 hts0 gX10_state_X10_numberOf rfl rfl rfl (by decide +kernel) ⟨Nat.le_of_ble_eq_true rfl, Nat.le_of_ble_eq_true rfl⟩) rfl rfl (Nat.le_of_ble_eq_true rfl) dX10_state_98 ⟨Nat.le_of_ble_eq_true rfl, Nat.le_of_ble_eq_true rfl⟩ (fun H locs q_98 hC hS => ?_)
        exact w_widen (Nat.le_of_ble_eq_true rfl) (Nat.le_of_ble_eq_true rfl) (vx_ret (co_iret E hr rfl hlk hC hS dX10_state_101 ⟨(by unfold stateC; omega), congrArg (fun z => some (Value.int z)) (congrArg iI (by unfold stateR; rw [if_neg (by omega), if_neg (by omega), if_neg (by omega), if_pos (by omega)]; first | done | (have := hsl b; omega))), rfl, rfl, trivial⟩))
      · refine co_call E hK hC hS hl (κ := 6) (i := b) (by decide) (cl_6 hb1) rfl (c_ownerOn_r l D cy d0 A la σ (b := b) (d := σ 1 0) hb1 (by omega) (hm _) hv hx) (cwV 1 hts0 gX10_state_X0_ownerOn rfl rfl rfl (by decide +kernel) ⟨Nat.le_of_ble_eq_true rfl, Nat.le_of_ble_eq_true rfl⟩) rfl rfl (Nat.le_of_ble_eq_true rfl) dX10_state_95 ⟨Nat.le_of_ble_eq_true rfl, Nat.le_of_ble_eq_true rfl⟩ (fun H locs q_95 hC hS => ?_)
        refine cs_call E hK hC hS hl (c_numberOf_r l D cy d0 A la σ (h := sHouse σ b (σ 1 0)) (hho b hb1 hx)) (va_cwS 1 hts0 gX10_state_X10_numberOf rfl rfl rfl (by decide +kernel) ⟨Nat.le_of_ble_eq_true rfl, Nat.le_of_ble_eq_true rfl⟩) rfl rfl (Nat.le_of_ble_eq_true rfl) dX10_state_98 ⟨Nat.le_of_ble_eq_true rfl, Nat.le_of_ble_eq_true rfl⟩ (fun H locs q_98 hC hS => ?_)
        exact w_widen (Nat.le_of_ble_eq_true rfl) (Nat.le_of_ble_eq_true rfl) (vx_ret (co_iret E hr rfl hlk hC hS dX10_state_101 ⟨(by unfold stateC; omega), congrArg (fun z => some (Value.int z)) (congrArg iI (by unfold stateR; rw [if_neg (by omega), if_neg (by omega), if_neg (by omega), if_pos (by omega)]; first | done | (have := hsl b; omega))), rfl, rfl, trivial⟩))
    · refine x_tswIn (off := 83) (tgt := 102) B dX10_state_19 hsw (by decide) (by decide) rfl (by decide) ?_
      refine x_aload_n B hl dX10_state_102 rfl ?_
      refine co_geti (f := 15) E hC 6 (by decide) (cl_6 hb1) rfl (fun z h => List.mem_cons_of_mem _ (List.mem_append_left _ (List.mem_append_left _ (List.mem_append_left _ (List.mem_append_left _ (List.mem_append_left _ (List.mem_append_left _ (List.mem_append_right _ h)))))))) 6 (by decide) (hts (.fieldLink RX10 357 "BinRounds$Bin" "wrongs" "I") (by decide +kernel)) (fun x hx => hx) dX10_state_103 ⟨rfl, rfl, rfl⟩ rfl (fun r_103 => ?_)
      exact w_widen (Nat.le_of_ble_eq_true rfl) (Nat.le_of_ble_eq_true rfl) (vx_ret (co_iret E hr rfl hlk hC hS dX10_state_106 ⟨(by unfold stateC; omega), congrArg (fun z => some (Value.int z)) (congrArg iI (by unfold stateR; rw [if_neg (by omega), if_neg (by omega), if_neg (by omega), if_neg (by omega), if_pos (by omega)])), rfl, rfl, trivial⟩))
    · refine x_tswIn (off := 88) (tgt := 107) B dX10_state_19 hsw (by decide) (by decide) rfl (by decide) ?_
      refine x_aload_n B hl dX10_state_107 rfl ?_
      refine co_getR (x := la 11 (5 + 2 * b)) E hC 6 (by decide) (cl_6 hb1) rfl (fun z h => List.mem_cons_of_mem _ (List.mem_append_left _ (List.mem_append_left _ (List.mem_append_left _ (List.mem_append_left _ (List.mem_append_left _ (List.mem_append_left _ (List.mem_append_right _ h)))))))) 2 (by decide) (hts (.fieldLink RX10 125 "BinRounds$Bin" "moves" "Ljava/util/ArrayList;") (by decide +kernel)) (fun x hx => hx) dX10_state_108 rfl rfl ?_
      refine co_call E hK hC hS hl (κ := 11) (i := (5 + 2 * b)) (by decide) (cl_11 (by omega)) rfl (c_size l D cy d0 A la _ (L := (5 + 2 * b)) (n := σ 18 b) (cl_11 (by omega)) (cSz_m hb1.1)) (cwV 0 hts0 gX10_state_Jx4a65c_size_8abf5 rfl rfl rfl (by decide +kernel) ⟨Nat.le_of_ble_eq_true rfl, Nat.le_of_ble_eq_true rfl⟩) rfl rfl (Nat.le_of_ble_eq_true rfl) dX10_state_111 ⟨Nat.le_of_ble_eq_true rfl, Nat.le_of_ble_eq_true rfl⟩ (fun H locs q_111 hC hS => ?_)
      exact w_widen (Nat.le_of_ble_eq_true rfl) (Nat.le_of_ble_eq_true rfl) (vx_ret (co_iret E hr rfl hlk hC hS dX10_state_114 ⟨(by unfold stateC; omega), congrArg (fun z => some (Value.int z)) (congrArg iI (by unfold stateR; rw [if_neg (by omega), if_neg (by omega), if_neg (by omega), if_neg (by omega), if_neg (by omega), if_pos (by omega)])), rfl, rfl, trivial⟩))
    · refine lv_tableOut (tgt := 115) B.1 B.2 dX10_state_19 (by rw [iI_toInt h_wt]; omega) (by decide) ?_
      refine x_aload_n B hl dX10_state_115 rfl ?_
      refine co_getR (x := la 11 (6 + 2 * b)) E hC 6 (by decide) (cl_6 hb1) rfl (fun z h => List.mem_cons_of_mem _ (List.mem_append_left _ (List.mem_append_left _ (List.mem_append_left _ (List.mem_append_left _ (List.mem_append_left _ (List.mem_append_left _ (List.mem_append_right _ h)))))))) 3 (by decide) (hts (.fieldLink RX10 166 "BinRounds$Bin" "parts" "Ljava/util/ArrayList;") (by decide +kernel)) (fun x hx => hx) dX10_state_116 rfl rfl ?_
      refine co_call E hK hC hS hl (κ := 11) (i := (6 + 2 * b)) (by decide) (cl_11 (by omega)) rfl (c_size l D cy d0 A la _ (L := (6 + 2 * b)) (n := σ 22 b) (cl_11 (by omega)) (cSz_p hb1.1)) (cwV 0 hts0 gX10_state_Jx4a65c_size_8abf5 rfl rfl rfl (by decide +kernel) ⟨Nat.le_of_ble_eq_true rfl, Nat.le_of_ble_eq_true rfl⟩) rfl rfl (Nat.le_of_ble_eq_true rfl) dX10_state_119 ⟨Nat.le_of_ble_eq_true rfl, Nat.le_of_ble_eq_true rfl⟩ (fun H locs q_119 hC hS => ?_)
      exact w_widen (Nat.le_of_ble_eq_true rfl) (Nat.le_of_ble_eq_true rfl) (vx_ret (co_iret E hr rfl hlk hC hS dX10_state_122 ⟨(by unfold stateC; omega), congrArg (fun z => some (Value.int z)) (congrArg iI (by unfold stateR; rw [if_neg (by omega), if_neg (by omega), if_neg (by omega), if_neg (by omega), if_neg (by omega), if_neg (by omega)])), rfl, rfl, trivial⟩))
