def cntR (σ : MS) (wt : Int) : Int := if wt = 0 then σ 1 0 else if wt = 1 then σ 5 0 else if wt = 2 then σ 11 0 else if wt = 3 then σ 23 0 else if wt = 4 then σ 27 0 else if wt = 5 then σ 45 0 else if wt = 6 then sSum (σ 50) (σ 11 0).toNat else if wt = 7 then sSum (σ 8) (σ 11 0).toNat else if wt = 8 then sSum (σ 50) (σ 11 0).toNat + sSum (σ 8) (σ 11 0).toNat else if wt = 9 then sSum (σ 10) (σ 11 0).toNat else -1
set_option maxHeartbeats 4000000 in
set_option maxRecDepth 100000 in
theorem c_p_count (l : Launch) (D : va_G) (cy : Nat → ClassId) (d0 : Nat) (A : Nat → Prop) (la : Nat → Int → Nat) (σ : MS) {wt : Int} (h_wt : -2147483648 ≤ wt ∧ wt < 2147483648) (hn5 : 0 ≤ σ 5 0 ∧ σ 5 0 ≤ 1000) (hn11 : 0 ≤ σ 11 0 ∧ σ 11 0 ≤ 1000) (hn23 : 0 ≤ σ 23 0 ∧ σ 23 0 ≤ 1000) (hn27 : 0 ≤ σ 27 0 ∧ σ 27 0 ≤ 1000) (hn45 : 0 ≤ σ 45 0 ∧ σ 45 0 ≤ 600) (hlg : σ 58 0 = 0 ∧ σ 59 0 = 0) : CM l yX10_count wsX10_count ({ frames := 4, cells := 0, slots := 0, locals := 87 } : Room) D cy d0 A [.ref (la 0 0), .int (iI wt)] la σ (some (.long (lI (cntR σ wt)))) (σ) (True) := by
  refine cn_of (cc := cX10_count) (nL := 2) (ret := (some .long)) (by decide) rfl (Nat.le_of_ble_eq_true rfl) ?_
  intro p e s m args below meth c ls E hr hlk hK hC hS hl
  have B := E.1
  have hml := E.2.1
  have hown := E.2.2.1
  have hts0 := E.2.2.2.1
  have hts := E.2.2.2.1
  have hw := hC.2.2.2.2.2.1
  refine x_iload_n B hl dX10_count_0 rfl ?_
  rcases (show wt = 0 ∨ wt = 1 ∨ wt = 2 ∨ wt = 3 ∨ wt = 4 ∨ wt = 5 ∨ wt = 6 ∨ wt = 7 ∨ wt = 8 ∨ wt = 9 ∨ (wt < 0 ∨ 9 < wt) by omega) with hsw | hsw | hsw | hsw | hsw | hsw | hsw | hsw | hsw | hsw | hsw
  · refine x_tswIn (off := 55) (tgt := 56) B dX10_count_1 hsw (by decide) (by decide) rfl (by decide) ?_
    refine x_aload_n B hl dX10_count_56 rfl ?_
    refine co_geti (f := 1) E hC 0 (by decide) cl_0 rfl (fun z h => List.mem_cons_of_mem _ (List.mem_append_left _ (List.mem_append_left _ (List.mem_append_right _ h)))) 8 (by decide) (hts (.fieldLink RX10 49 "BinRounds" "open" "I") (by decide +kernel)) (fun x hx => hx) dX10_count_57 ⟨rfl, rfl, rfl⟩ rfl (fun r_57 => ?_)
    refine x_i2l B dX10_count_60 (by omega) ?_
    exact cm_lret E hr hlk hC hS dX10_count_61 (congrArg lI (by unfold cntR; rw [if_pos (by omega)])) rfl trivial
  · refine x_tswIn (off := 61) (tgt := 62) B dX10_count_1 hsw (by decide) (by decide) rfl (by decide) ?_
    refine x_aload_n B hl dX10_count_62 rfl ?_
    refine co_getR (x := la 11 0) E hC 0 (by decide) cl_0 rfl (fun z h => List.mem_cons_of_mem _ (List.mem_append_left _ (List.mem_append_left _ (List.mem_append_right _ h)))) 0 (by decide) (hts (.fieldLink RX10 10 "BinRounds" "streets" "Ljava/util/ArrayList;") (by decide +kernel)) (fun x hx => hx) dX10_count_63 rfl rfl ?_
    refine co_call E hK hC hS hl (κ := 11) (i := 0) (by decide) (cl_11 (by omega)) rfl (c_size l D cy d0 A la _ (L := 0) (n := σ 5 0) (cl_11 (by omega)) (cSz_0.trans rfl)) (cwV 0 hts0 gX10_count_Jx4a65c_size_8abf5 rfl rfl rfl (by decide +kernel) ⟨Nat.le_of_ble_eq_true rfl, Nat.le_of_ble_eq_true rfl⟩) rfl rfl (Nat.le_of_ble_eq_true rfl) dX10_count_66 ⟨Nat.zero_le _, Nat.zero_le _⟩ (fun H locs q_66 hC hS => ?_)
    refine x_i2l B dX10_count_69 (by omega) ?_
    exact cm_lret E hr hlk hC hS dX10_count_70 (congrArg lI (by unfold cntR; rw [if_neg (by omega), if_pos (by omega)])) rfl trivial
  · refine x_tswIn (off := 70) (tgt := 71) B dX10_count_1 hsw (by decide) (by decide) rfl (by decide) ?_
    refine x_aload_n B hl dX10_count_71 rfl ?_
    refine co_getR (x := la 11 1) E hC 0 (by decide) cl_0 rfl (fun z h => List.mem_cons_of_mem _ (List.mem_append_left _ (List.mem_append_left _ (List.mem_append_right _ h)))) 1 (by decide) (hts (.fieldLink RX10 16 "BinRounds" "houses" "Ljava/util/ArrayList;") (by decide +kernel)) (fun x hx => hx) dX10_count_72 rfl rfl ?_
    refine co_call E hK hC hS hl (κ := 11) (i := 1) (by decide) (cl_11 (by omega)) rfl (c_size l D cy d0 A la _ (L := 1) (n := σ 11 0) (cl_11 (by omega)) (cSz_1.trans rfl)) (cwV 0 hts0 gX10_count_Jx4a65c_size_8abf5 rfl rfl rfl (by decide +kernel) ⟨Nat.le_of_ble_eq_true rfl, Nat.le_of_ble_eq_true rfl⟩) rfl rfl (Nat.le_of_ble_eq_true rfl) dX10_count_75 ⟨Nat.zero_le _, Nat.zero_le _⟩ (fun H locs q_75 hC hS => ?_)
    refine x_i2l B dX10_count_78 (by omega) ?_
    exact cm_lret E hr hlk hC hS dX10_count_79 (congrArg lI (by unfold cntR; rw [if_neg (by omega), if_neg (by omega), if_pos (by omega)])) rfl trivial
  · refine x_tswIn (off := 79) (tgt := 80) B dX10_count_1 hsw (by decide) (by decide) rfl (by decide) ?_
    refine x_aload_n B hl dX10_count_80 rfl ?_
    refine co_getR (x := la 11 2) E hC 0 (by decide) cl_0 rfl (fun z h => List.mem_cons_of_mem _ (List.mem_append_left _ (List.mem_append_left _ (List.mem_append_right _ h)))) 2 (by decide) (hts (.fieldLink RX10 19 "BinRounds" "bins" "Ljava/util/ArrayList;") (by decide +kernel)) (fun x hx => hx) dX10_count_81 rfl rfl ?_
    refine co_call E hK hC hS hl (κ := 11) (i := 2) (by decide) (cl_11 (by omega)) rfl (c_size l D cy d0 A la _ (L := 2) (n := σ 23 0) (cl_11 (by omega)) ((cSz_2 ((rfl).trans hlg.2)).trans rfl)) (cwV 0 hts0 gX10_count_Jx4a65c_size_8abf5 rfl rfl rfl (by decide +kernel) ⟨Nat.le_of_ble_eq_true rfl, Nat.le_of_ble_eq_true rfl⟩) rfl rfl (Nat.le_of_ble_eq_true rfl) dX10_count_84 ⟨Nat.zero_le _, Nat.zero_le _⟩ (fun H locs q_84 hC hS => ?_)
    refine x_i2l B dX10_count_87 (by omega) ?_
    exact cm_lret E hr hlk hC hS dX10_count_88 (congrArg lI (by unfold cntR; rw [if_neg (by omega), if_neg (by omega), if_neg (by omega), if_pos (by omega)])) rfl trivial
  · refine x_tswIn (off := 88) (tgt := 89) B dX10_count_1 hsw (by decide) (by decide) rfl (by decide) ?_
    refine x_aload_n B hl dX10_count_89 rfl ?_
    refine co_getR (x := la 11 3) E hC 0 (by decide) cl_0 rfl (fun z h => List.mem_cons_of_mem _ (List.mem_append_left _ (List.mem_append_left _ (List.mem_append_right _ h)))) 3 (by decide) (hts (.fieldLink RX10 22 "BinRounds" "carts" "Ljava/util/ArrayList;") (by decide +kernel)) (fun x hx => hx) dX10_count_90 rfl rfl ?_
    refine co_call E hK hC hS hl (κ := 11) (i := 3) (by decide) (cl_11 (by omega)) rfl (c_size l D cy d0 A la _ (L := 3) (n := σ 27 0) (cl_11 (by omega)) (cSz_3.trans rfl)) (cwV 0 hts0 gX10_count_Jx4a65c_size_8abf5 rfl rfl rfl (by decide +kernel) ⟨Nat.le_of_ble_eq_true rfl, Nat.le_of_ble_eq_true rfl⟩) rfl rfl (Nat.le_of_ble_eq_true rfl) dX10_count_93 ⟨Nat.zero_le _, Nat.zero_le _⟩ (fun H locs q_93 hC hS => ?_)
    refine x_i2l B dX10_count_96 (by omega) ?_
    exact cm_lret E hr hlk hC hS dX10_count_97 (congrArg lI (by unfold cntR; rw [if_neg (by omega), if_neg (by omega), if_neg (by omega), if_neg (by omega), if_pos (by omega)])) rfl trivial
  · refine x_tswIn (off := 97) (tgt := 98) B dX10_count_1 hsw (by decide) (by decide) rfl (by decide) ?_
    refine x_aload_n B hl dX10_count_98 rfl ?_
    refine co_getR (x := la 11 4) E hC 0 (by decide) cl_0 rfl (fun z h => List.mem_cons_of_mem _ (List.mem_append_left _ (List.mem_append_left _ (List.mem_append_right _ h)))) 4 (by decide) (hts (.fieldLink RX10 25 "BinRounds" "tips" "Ljava/util/ArrayList;") (by decide +kernel)) (fun x hx => hx) dX10_count_99 rfl rfl ?_
    refine co_call E hK hC hS hl (κ := 11) (i := 4) (by decide) (cl_11 (by omega)) rfl (c_size l D cy d0 A la _ (L := 4) (n := σ 45 0) (cl_11 (by omega)) ((cSz_4 ((rfl).trans hlg.1)).trans rfl)) (cwV 0 hts0 gX10_count_Jx4a65c_size_8abf5 rfl rfl rfl (by decide +kernel) ⟨Nat.le_of_ble_eq_true rfl, Nat.le_of_ble_eq_true rfl⟩) rfl rfl (Nat.le_of_ble_eq_true rfl) dX10_count_102 ⟨Nat.zero_le _, Nat.zero_le _⟩ (fun H locs q_102 hC hS => ?_)
    refine x_i2l B dX10_count_105 (by omega) ?_
    exact cm_lret E hr hlk hC hS dX10_count_106 (congrArg lI (by unfold cntR; rw [if_neg (by omega), if_neg (by omega), if_neg (by omega), if_neg (by omega), if_neg (by omega), if_pos (by omega)])) rfl trivial
  · refine x_tswIn (off := 106) (tgt := 107) B dX10_count_1 hsw (by decide) (by decide) rfl (by decide) ?_
    refine x_aload_n B hl dX10_count_107 rfl ?_
    refine co_call E hK hC hS hl (κ := 0) (i := 0) (by decide) cl_0 rfl (c_sumFromTips l D cy d0 A la σ hn11 hn23) (cwV 0 hts0 gX10_count_X10_sumFromTips rfl rfl rfl (by decide +kernel) ⟨Nat.le_of_ble_eq_true rfl, Nat.le_of_ble_eq_true rfl⟩) rfl rfl (Nat.le_of_ble_eq_true rfl) dX10_count_108 ⟨Nat.zero_le _, Nat.zero_le _⟩ (fun H locs q_108 hC hS => ?_)
    exact cm_lret E hr hlk hC hS dX10_count_111 (congrArg lI (by unfold cntR; rw [if_neg (by omega), if_neg (by omega), if_neg (by omega), if_neg (by omega), if_neg (by omega), if_neg (by omega), if_pos (by omega)])) rfl trivial
  · refine x_tswIn (off := 111) (tgt := 112) B dX10_count_1 hsw (by decide) (by decide) rfl (by decide) ?_
    refine x_aload_n B hl dX10_count_112 rfl ?_
    refine co_call E hK hC hS hl (κ := 0) (i := 0) (by decide) cl_0 rfl (c_sumFromBands l D cy d0 A la σ hn11 hn23) (cwV 0 hts0 gX10_count_X10_sumFromBands rfl rfl rfl (by decide +kernel) ⟨Nat.le_of_ble_eq_true rfl, Nat.le_of_ble_eq_true rfl⟩) rfl rfl (Nat.le_of_ble_eq_true rfl) dX10_count_113 ⟨Nat.zero_le _, Nat.zero_le _⟩ (fun H locs q_113 hC hS => ?_)
    exact cm_lret E hr hlk hC hS dX10_count_116 (congrArg lI (by unfold cntR; rw [if_neg (by omega), if_neg (by omega), if_neg (by omega), if_neg (by omega), if_neg (by omega), if_neg (by omega), if_neg (by omega), if_pos (by omega)])) rfl trivial
  · refine x_tswIn (off := 116) (tgt := 117) B dX10_count_1 hsw (by decide) (by decide) rfl (by decide) ?_
    refine x_aload_n B hl dX10_count_117 rfl ?_
    refine co_call E hK hC hS hl (κ := 0) (i := 0) (by decide) cl_0 rfl (c_sumFromTips l D cy d0 A la σ hn11 hn23) (cwV 0 hts0 gX10_count_X10_sumFromTips rfl rfl rfl (by decide +kernel) ⟨Nat.le_of_ble_eq_true rfl, Nat.le_of_ble_eq_true rfl⟩) rfl rfl (Nat.le_of_ble_eq_true rfl) dX10_count_118 ⟨Nat.zero_le _, Nat.zero_le _⟩ (fun H locs q_118 hC hS => ?_)
    refine x_aload_n B hl dX10_count_121 rfl ?_
    refine co_call E hK hC hS hl (κ := 0) (i := 0) (by decide) cl_0 rfl (c_sumFromBands l D cy d0 A la σ hn11 hn23) (cwV 0 hts0 gX10_count_X10_sumFromBands rfl rfl rfl (by decide +kernel) ⟨Nat.le_of_ble_eq_true rfl, Nat.le_of_ble_eq_true rfl⟩) rfl rfl (Nat.le_of_ble_eq_true rfl) dX10_count_122 ⟨Nat.zero_le _, Nat.zero_le _⟩ (fun H locs q_122 hC hS => ?_)
    refine x_ladd B dX10_count_125 ?_
    exact cm_lret E hr hlk hC hS dX10_count_126 (congrArg lI (by unfold cntR; rw [if_neg (by omega), if_neg (by omega), if_neg (by omega), if_neg (by omega), if_neg (by omega), if_neg (by omega), if_neg (by omega), if_neg (by omega), if_pos (by omega)])) rfl trivial
  · refine x_tswIn (off := 126) (tgt := 127) B dX10_count_1 hsw (by decide) (by decide) rfl (by decide) ?_
    refine x_aload_n B hl dX10_count_127 rfl ?_
    refine co_call E hK hC hS hl (κ := 0) (i := 0) (by decide) cl_0 rfl (c_sumPaid l D cy d0 A la σ hn11 hn23) (cwV 0 hts0 gX10_count_X10_sumPaid rfl rfl rfl (by decide +kernel) ⟨Nat.le_of_ble_eq_true rfl, Nat.le_of_ble_eq_true rfl⟩) rfl rfl (Nat.le_of_ble_eq_true rfl) dX10_count_128 ⟨Nat.zero_le _, Nat.zero_le _⟩ (fun H locs q_128 hC hS => ?_)
    exact cm_lret E hr hlk hC hS dX10_count_131 (congrArg lI (by unfold cntR; rw [if_neg (by omega), if_neg (by omega), if_neg (by omega), if_neg (by omega), if_neg (by omega), if_neg (by omega), if_neg (by omega), if_neg (by omega), if_neg (by omega), if_pos (by omega)])) rfl trivial
  · refine lv_tableOut (tgt := 132) B.1 B.2 dX10_count_1 (by rw [iI_toInt h_wt]; omega) (by decide) ?_
    refine lv_ldc2 (v := lI (-1)) B.1 B.2 hown (hts (.constantLong RX10 195 (-1)) (by decide +kernel)) dX10_count_132 ?_
    exact cm_lret E hr hlk hC hS dX10_count_135 (congrArg lI (by unfold cntR; rw [if_neg (by omega), if_neg (by omega), if_neg (by omega), if_neg (by omega), if_neg (by omega), if_neg (by omega), if_neg (by omega), if_neg (by omega), if_neg (by omega), if_neg (by omega)])) rfl trivial
