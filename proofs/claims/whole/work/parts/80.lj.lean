theorem c_bearsU (l : Launch) (D : va_G) (cy : Nat → ClassId) (d0 : Nat) (A : Nat → Prop) (la : Nat → Int → Nat) (σ τ : MS) (h13 : τ 13 = σ 13) (h14 : τ 14 = σ 14) (h23 : τ 23 = σ 23) {b z : Int} (hb : 0 ≤ b ∧ b < σ 23 0) (hz : -2147483648 ≤ z ∧ z < 2147483648) : CM l yX0_bears wsX0_bears ({ frames := 0, cells := 0, slots := 0, locals := 0 } : Room) D cy d0 A [.ref (la 6 b), .int (iI z)] la τ (some (.int (iI (if σ 13 b = 1 ∧ σ 14 b = z then 1 else 0)))) τ True := by
  have h := c_bears l D cy d0 A la τ (b := b) (z := z) (by rw [h23]; exact hb) hz
  rw [h13, h14] at h
  exact h
set_option maxHeartbeats 4000000 in
set_option maxRecDepth 100000 in
theorem c_identify (l : Launch) (D : va_G) (cy : Nat → ClassId) (d0 : Nat) (A : Nat → Prop) (la : Nat → Int → Nat) (σ : MS) {t : Int} (ht : 0 ≤ t ∧ t < σ 45 0) (hn23 : 0 ≤ σ 23 0 ∧ σ 23 0 ≤ 1000) (hlg : σ 59 0 = 0 ∧ σ 59 0 = 0) (h36 : σ 36 t = -1) (h37 : σ 37 t = 0) : CM l yX10_identify wsX10_identify ({ frames := 3, cells := 0, slots := 0, locals := 64 } : Room) D cy d0 A [.ref (la 0 0), .ref (la 10 t)] la σ (none) (up (up σ 36 t (tipB σ (σ 34 t))) 37 t (tipO σ (σ 34 t))) (True) := by
  refine cn_of (cc := cX10_identify) (nL := 4) (ret := none) (by decide) rfl (Nat.le_of_ble_eq_true rfl) ?_
  intro p e s m args below meth c ls E hr hlk hK hC hS hl
  have B := E.1
  have hml := E.2.1
  have hown := E.2.2.1
  have hts0 := E.2.2.2.1
  have hts := E.2.2.2.1
  have hw := hC.2.2.2.2.2.1
  have loop : ∀ (n : Nat) (b : Int) (H : Heap) (locs : List Loc) (ls : Array Slot), 0 ≤ b → b ≤ σ 23 0 → σ 23 0 - b < n → CP D cy d0 A la (up σ 36 t (sFb σ (σ 34 t) b.toNat)) H → va_S A s.heap H locs → lv_has ls 4 [(0, .ref (la 0 0)), (1, .ref (la 10 t)), (2, .int (iI (sBr σ (σ 34 t) b.toNat))), (3, .int (iI b))] → W p l e ({ frames := 3, cells := 0, slots := 0, locals := 64 } : Room) s m args below meth c H locs 0 0 (MQ below (cQ D cy d0 A (fun v' la' τ => v' = (none) ∧ la' = la ∧ τ = (up (up σ 36 t (tipB σ (σ 34 t))) 37 t (tipO σ (σ 34 t))) ∧ (True))) args s 0 0 A) (F0 m 4 ls []) := by
    intro n
    induction n with
    | zero => intro b H locs ls h1 h2 h3; exact absurd h3 (by omega)
    | succ n ih =>
      intro b H locs ls h1 h2 h3 hC hS hl
      have hr9 := sBr_r σ (σ 34 t) b.toNat
      refine x_iload_n B hl dX10_identify_4 rfl ?_
      refine x_aload_n B hl dX10_identify_5 rfl ?_
      refine co_getR (x := la 11 2) E hC 0 (by decide) cl_0 rfl (fun z h => List.mem_cons_of_mem _ (List.mem_append_left _ (List.mem_append_left _ (List.mem_append_left _ (List.mem_append_right _ h))))) 2 (by decide) (hts (.fieldLink RX10 19 "BinRounds" "bins" "Ljava/util/ArrayList;") (by decide +kernel)) (fun x hx => hx) dX10_identify_6 rfl rfl ?_
      refine co_call E hK hC hS hl (κ := 11) (i := 2) (by decide) (cl_up (by decide) (cl_11 (by omega))) rfl (c_size l D cy d0 A la _ (L := 2) (n := σ 23 0) (cl_up (by decide) (cl_11 (by omega))) ((cSz_2 (((up_ne (by decide) rfl)).trans hlg.2)).trans (up_ne (by decide) rfl))) (cwV 0 hts0 gX10_identify_Jx4a65c_size_8abf5 rfl rfl rfl (by decide +kernel) ⟨Nat.le_of_ble_eq_true rfl, Nat.le_of_ble_eq_true rfl⟩) rfl rfl (Nat.le_of_ble_eq_true rfl) dX10_identify_9 ⟨Nat.zero_le _, Nat.zero_le _⟩ (fun H locs q_9 hC hS => ?_)
      refine x_icmp_ge (tgt := 60) B dX10_identify_12 (by decide) (by omega) (by omega) (fun c_12 => ?_) (fun c_12 => ?_)
      · refine x_iload_n B hl dX10_identify_60 rfl ?_
        refine x_iconst B dX10_identify_61 ?_
        refine x_icmp_eq (tgt := 83) B dX10_identify_62 (by decide) (by omega) (by omega) (fun c_62 => ?_) (fun c_62 => ?_)
        · have hb9 : b = σ 23 0 := by omega
          have hs9 : sBear σ (σ 34 t) = sBr σ (σ 34 t) b.toNat := by rw [hb9]; rfl
          exact cm_vret E hr hlk hC hS dX10_identify_83 (by first | (rw [show tipO σ (σ 34 t) = 0 from if_pos (by omega), show tipB σ (σ 34 t) = sFb σ (σ 34 t) b.toNat from (if_pos (by omega)).trans (by rw [hb9])]; exact (up_id (by rw [up_f (by decide)]; exact h37)).symm) | (rw [show tipO σ (σ 34 t) = 1 from (if_neg (by omega)).trans (if_pos (by omega)), show tipB σ (σ 34 t) = -1 from if_neg (by omega), up_up]; done) | (rw [show tipO σ (σ 34 t) = 2 from (if_neg (by omega)).trans (if_neg (by omega)), show tipB σ (σ 34 t) = -1 from if_neg (by omega), up_up]; done)) trivial
        · refine x_aload_n B hl dX10_identify_65 rfl ?_
          refine lv_null B.1 B.2 dX10_identify_66 ?_
          refine co_putB (v := (-1)) E hC hS (cl_up (by decide) (cl_10 ht)) rfl (fun z h => List.mem_cons_of_mem _ (List.mem_append_left _ (List.mem_append_left _ (List.mem_append_right _ h)))) tyX9_ok nmX9 (hts (.fieldLink RX10 211 "BinRounds$Tip" "bin" "LBinRounds$Bin;") (by decide +kernel)) (fun x hx => hx) rfl ⟨_, rfl⟩ (by omega) (if_pos (by decide)) dX10_identify_67 (fun H locs hC hS => ?_)
          refine x_aload_n B hl dX10_identify_70 rfl ?_
          refine x_iload_n B hl dX10_identify_71 rfl ?_
          refine x_if_ne (tgt := 79) B dX10_identify_72 (by decide) (by omega) (fun c_72 => ?_) (fun c_72 => ?_)
          · refine x_iconst B dX10_identify_79 ?_
            refine co_puti (f := 37) E hC hS 10 (by decide) (cl_up (by decide) (cl_up (by decide) (cl_10 ht))) rfl (fun z h => List.mem_cons_of_mem _ (List.mem_append_left _ (List.mem_append_left _ (List.mem_append_right _ h)))) tyX9 tyX9_ok nmX9 5 (by decide) (hts (.fieldLink RX10 276 "BinRounds$Tip" "origin" "I") (by decide +kernel)) (fun x hx => hx) rfl rfl dX10_identify_80 (by decide) ⟨rfl, rfl, rfl, rfl⟩ (by omega) (fun H locs hC hS => ?_)
            have hb9 : b = σ 23 0 := by omega
            have hs9 : sBear σ (σ 34 t) = sBr σ (σ 34 t) b.toNat := by rw [hb9]; rfl
            exact cm_vret E hr hlk hC hS dX10_identify_83 (by first | (rw [show tipO σ (σ 34 t) = 0 from if_pos (by omega), show tipB σ (σ 34 t) = sFb σ (σ 34 t) b.toNat from (if_pos (by omega)).trans (by rw [hb9])]; exact (up_id (by rw [up_f (by decide)]; exact h37)).symm) | (rw [show tipO σ (σ 34 t) = 1 from (if_neg (by omega)).trans (if_pos (by omega)), show tipB σ (σ 34 t) = -1 from if_neg (by omega), up_up]; done) | (rw [show tipO σ (σ 34 t) = 2 from (if_neg (by omega)).trans (if_neg (by omega)), show tipB σ (σ 34 t) = -1 from if_neg (by omega), up_up]; done)) trivial
          · refine x_iconst B dX10_identify_75 ?_
            refine x_goto (tgt := 80) B dX10_identify_76 (by decide) ?_
            refine co_puti (f := 37) E hC hS 10 (by decide) (cl_up (by decide) (cl_up (by decide) (cl_10 ht))) rfl (fun z h => List.mem_cons_of_mem _ (List.mem_append_left _ (List.mem_append_left _ (List.mem_append_right _ h)))) tyX9 tyX9_ok nmX9 5 (by decide) (hts (.fieldLink RX10 276 "BinRounds$Tip" "origin" "I") (by decide +kernel)) (fun x hx => hx) rfl rfl dX10_identify_80 (by decide) ⟨rfl, rfl, rfl, rfl⟩ (by omega) (fun H locs hC hS => ?_)
            have hb9 : b = σ 23 0 := by omega
            have hs9 : sBear σ (σ 34 t) = sBr σ (σ 34 t) b.toNat := by rw [hb9]; rfl
            exact cm_vret E hr hlk hC hS dX10_identify_83 (by first | (rw [show tipO σ (σ 34 t) = 0 from if_pos (by omega), show tipB σ (σ 34 t) = sFb σ (σ 34 t) b.toNat from (if_pos (by omega)).trans (by rw [hb9])]; exact (up_id (by rw [up_f (by decide)]; exact h37)).symm) | (rw [show tipO σ (σ 34 t) = 1 from (if_neg (by omega)).trans (if_pos (by omega)), show tipB σ (σ 34 t) = -1 from if_neg (by omega), up_up]; done) | (rw [show tipO σ (σ 34 t) = 2 from (if_neg (by omega)).trans (if_neg (by omega)), show tipB σ (σ 34 t) = -1 from if_neg (by omega), up_up]; done)) trivial
      · refine x_aload_n B hl dX10_identify_15 rfl ?_
        refine co_getR (x := la 11 2) E hC 0 (by decide) cl_0 rfl (fun z h => List.mem_cons_of_mem _ (List.mem_append_left _ (List.mem_append_left _ (List.mem_append_left _ (List.mem_append_right _ h))))) 2 (by decide) (hts (.fieldLink RX10 19 "BinRounds" "bins" "Ljava/util/ArrayList;") (by decide +kernel)) (fun x hx => hx) dX10_identify_16 rfl rfl ?_
        refine x_iload_n B hl dX10_identify_19 rfl ?_
        refine co_call E hK hC hS hl (κ := 11) (i := 2) (by decide) (cl_up (by decide) (cl_11 (by omega))) rfl (c_get l D cy d0 A la _ (L := 2) (n := σ 23 0) (j := b) (x := la 6 b) (cl_up (by decide) (cl_11 (by omega))) ((cSz_2 (((up_ne (by decide) rfl)).trans hlg.2)).trans (up_ne (by decide) rfl)) (by omega) (by omega) rfl) (cwV 1 hts0 gX10_identify_Jx4a65c_get_915e3 rfl rfl rfl (by decide +kernel) ⟨Nat.le_of_ble_eq_true rfl, Nat.le_of_ble_eq_true rfl⟩) rfl rfl (Nat.le_of_ble_eq_true rfl) dX10_identify_20 ⟨Nat.zero_le _, Nat.zero_le _⟩ (fun H locs q_20 hC hS => ?_)
        refine co_cast E hK hC 6 (by decide) (cl_up (by decide) (cl_6 (by omega))) rfl (by decide +kernel) dX10_identify_23 ?_
        refine x_aload_n B hl dX10_identify_26 rfl ?_
        refine co_geti (f := 34) E hC 10 (by decide) (cl_up (by decide) (cl_10 ht)) rfl (fun z h => List.mem_cons_of_mem _ (List.mem_append_left _ (List.mem_append_left _ (List.mem_append_right _ h)))) 2 (by decide) (hts (.fieldLink RX10 279 "BinRounds$Tip" "markNumber" "I") (by decide +kernel)) (fun x hx => hx) dX10_identify_27 ⟨rfl, rfl, rfl⟩ (up_ne (by decide) rfl) (fun r_27 => ?_)
        refine co_call E hK hC hS hl (κ := 6) (i := b) (by decide) (cl_up (by decide) (cl_6 (by omega))) rfl (c_bearsU l D cy d0 A la σ _ (up_f (by decide)) (up_f (by decide)) (up_f (by decide)) (b := b) (z := σ 34 t) (by omega) (hw.1 34 t rfl)) (cwV 1 hts0 gX10_identify_X0_bears rfl rfl rfl (by decide +kernel) ⟨Nat.le_of_ble_eq_true rfl, Nat.le_of_ble_eq_true rfl⟩) rfl rfl (Nat.le_of_ble_eq_true rfl) dX10_identify_30 ⟨Nat.zero_le _, Nat.zero_le _⟩ (fun H locs q_30 hC hS => ?_)
        refine x_bool (fun b_30 => ?_) (fun b_30 => ?_)
        · refine x_if_eq_f (tgt := 54) B dX10_identify_33 (by decide) (by decide) ?_
          refine x_aload_n B hl dX10_identify_36 rfl ?_
          refine x_aload_n B hl dX10_identify_37 rfl ?_
          refine co_getR (x := la 11 2) E hC 0 (by decide) cl_0 rfl (fun z h => List.mem_cons_of_mem _ (List.mem_append_left _ (List.mem_append_left _ (List.mem_append_left _ (List.mem_append_right _ h))))) 2 (by decide) (hts (.fieldLink RX10 19 "BinRounds" "bins" "Ljava/util/ArrayList;") (by decide +kernel)) (fun x hx => hx) dX10_identify_38 rfl rfl ?_
          refine x_iload_n B hl dX10_identify_41 rfl ?_
          refine co_call E hK hC hS hl (κ := 11) (i := 2) (by decide) (cl_up (by decide) (cl_11 (by omega))) rfl (c_get l D cy d0 A la _ (L := 2) (n := σ 23 0) (j := b) (x := la 6 b) (cl_up (by decide) (cl_11 (by omega))) ((cSz_2 (((up_ne (by decide) rfl)).trans hlg.2)).trans (up_ne (by decide) rfl)) (by omega) (by omega) rfl) (cwV 1 hts0 gX10_identify_Jx4a65c_get_915e3 rfl rfl rfl (by decide +kernel) ⟨Nat.le_of_ble_eq_true rfl, Nat.le_of_ble_eq_true rfl⟩) rfl rfl (Nat.le_of_ble_eq_true rfl) dX10_identify_42 ⟨Nat.zero_le _, Nat.zero_le _⟩ (fun H locs q_42 hC hS => ?_)
          refine co_cast E hK hC 6 (by decide) (cl_up (by decide) (cl_6 (by omega))) rfl (by decide +kernel) dX10_identify_45 ?_
          refine co_putB (v := b) E hC hS (cl_up (by decide) (cl_10 ht)) rfl (fun z h => List.mem_cons_of_mem _ (List.mem_append_left _ (List.mem_append_left _ (List.mem_append_right _ h)))) tyX9_ok nmX9 (hts (.fieldLink RX10 211 "BinRounds$Tip" "bin" "LBinRounds$Bin;") (by decide +kernel)) (fun x hx => hx) rfl ⟨_, rfl⟩ (by omega) (if_neg (by omega)) dX10_identify_48 (fun H locs hC hS => ?_)
          refine x_iinc B hl dX10_identify_51 rfl (by decide) (fun ls hl => ?_)
          refine x_iinc B hl dX10_identify_54 rfl (by decide) (fun ls hl => ?_)
          refine x_goto (tgt := 4) B dX10_identify_57 (by decide) ?_
          exact ih (b + 1) H locs ls (by omega) (by omega) (by omega) ((by first | (rw [sFb_s (by omega), if_pos (by assumption), ← up_up (v := sFb σ (σ 34 t) b.toNat)]; exact hC) | (rw [sFb_s (by omega), if_neg (by assumption)]; exact hC))) hS (lv_key hl [(0, .ref (la 0 0)), (1, .ref (la 10 t)), (2, .int (iI (sBr σ (σ 34 t) (b + 1).toNat))), (3, .int (iI (b + 1)))] (by first | (rw [sBr_s (by omega), if_pos (by assumption)]; rfl) | (rw [sBr_s (by omega), if_neg (by assumption)]; rw [Int.add_zero]; rfl)))
        · refine x_if_eq_t (tgt := 54) B dX10_identify_33 (by decide) (by decide) ?_
          refine x_iinc B hl dX10_identify_54 rfl (by decide) (fun ls hl => ?_)
          refine x_goto (tgt := 4) B dX10_identify_57 (by decide) ?_
          exact ih (b + 1) H locs ls (by omega) (by omega) (by omega) ((by first | (rw [sFb_s (by omega), if_pos (by assumption), ← up_up (v := sFb σ (σ 34 t) b.toNat)]; exact hC) | (rw [sFb_s (by omega), if_neg (by assumption)]; exact hC))) hS (lv_key hl [(0, .ref (la 0 0)), (1, .ref (la 10 t)), (2, .int (iI (sBr σ (σ 34 t) (b + 1).toNat))), (3, .int (iI (b + 1)))] (by first | (rw [sBr_s (by omega), if_pos (by assumption)]; rfl) | (rw [sBr_s (by omega), if_neg (by assumption)]; rw [Int.add_zero]; rfl)))
  refine x_iconst B dX10_identify_0 ?_
  refine x_istore_n B hl dX10_identify_1 (by decide) (fun ls hl => ?_)
  refine x_iconst B dX10_identify_2 ?_
  refine x_istore_n B hl dX10_identify_3 (by decide) (fun ls hl => ?_)
  exact loop 1001 0 _ _ ls (by omega) (by omega) (by omega) ((by rw [show up σ 36 t (sFb σ (σ 34 t) (0 : Int).toNat) = σ from up_id h36]; exact hC)) hS (lv_key hl [(0, .ref (la 0 0)), (1, .ref (la 10 t)), (2, .int (iI (sBr σ (σ 34 t) (0 : Int).toNat))), (3, .int (iI 0))] rfl)
