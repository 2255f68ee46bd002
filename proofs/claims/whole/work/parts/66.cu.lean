set_option maxHeartbeats 4000000 in
set_option maxRecDepth 100000 in
theorem c_p_due (l : Launch) (hlt : l.stackTraces = false) (D : va_G) (cy : Nat → ClassId) (d0 : Nat) (A : Nat → Prop) (la : Nat → Int → Nat) (σ : MS) {b : Int} (h_b : -2147483648 ≤ b ∧ b < 2147483648) (hn5 : 0 ≤ σ 5 0 ∧ σ 5 0 ≤ 1000) (hn11 : 0 ≤ σ 11 0 ∧ σ 11 0 ≤ 1000) (hn23 : 0 ≤ σ 23 0 ∧ σ 23 0 ≤ 1000) (hn27 : 0 ≤ σ 27 0 ∧ σ 27 0 ≤ 1000) (hn45 : 0 ≤ σ 45 0 ∧ σ 45 0 ≤ 600) (hlg : σ 58 0 = 0 ∧ σ 59 0 = 0) (hm : ∀ b, 0 ≤ σ 18 b ∧ σ 18 b ≤ 8) (hv : ∀ j, 0 ≤ σ 16 j) (hop : 0 ≤ σ 1 0 ∧ σ 1 0 ≤ 699) (hho0 : ∀ b, 0 ≤ b → b < σ 23 0 → 0 ≤ sHouse σ b (σ 1 0) ∧ sHouse σ b (σ 1 0) < σ 11 0) (hf4 : ∀ j, 0 ≤ σ 4 j ∧ σ 4 j ≤ 3) (hf3 : ∀ j, 0 ≤ σ 3 j ∧ σ 3 j ≤ 4) (hst6 : ∀ h, 0 ≤ h → h < σ 11 0 → 0 ≤ σ 6 h ∧ σ 6 h < σ 5 0) : CT l yX10_due wsX10_due ({ frames := 8, cells := 16, slots := 256, locals := 124 } : Room) D cy d0 A [.ref (la 0 0), .int (iI b)] la σ ((if oneC b (σ 23 0) = 1 then 1 else 0)) (cPm (some (.int (iI (dueR σ b)))) la (σ) (True)) 16 256 := by
  refine ct_of (cc := cX10_due) (nL := 7) (ret := (some .int)) (by decide) rfl (Nat.le_of_ble_eq_true rfl) ?_
  intro p e s m args below meth c ls E hout hr hlk hK hC hS hl
  have B := E.1
  have hml := E.2.1
  have hown := E.2.2.1
  have hts0 := E.2.2.2.1
  have hts := E.2.2.2.1
  have hw := hC.2.2.2.2.2.1
  have loop : ∀ (n : Nat) (wk : Int) (H : Heap) (locs : List Loc) (ls : Array Slot), 0 ≤ b → b < σ 23 0 → σ 1 0 / 7 ≤ wk → wk ≤ σ 1 0 / 7 + 4 → sDu σ (σ 6 (sHouse σ b (σ 1 0))) (sGrp (σ 12 b)) (σ 1 0) (σ 1 0 / 7) (σ 1 0 / 7 + 4 - wk).toNat = dueR σ b → σ 1 0 / 7 + 4 - wk < n → CP D cy d0 A la σ H → va_S A s.heap H locs → lv_has ls 7 [(0, .ref (la 0 0)), (1, .int (iI b)), (2, .ref (la 6 b)), (3, .ref (la 5 (sHouse σ b (σ 1 0)))), (4, .int (iI (σ 1 0 / 7))), (5, .int (iI wk))] → W p l e ({ frames := 8, cells := 16, slots := 256, locals := 124 } : Room) s m args below meth c H locs 16 256 (vx_MQ below (cQ D cy d0 A (fun v la' τ => (((if oneC b (σ 23 0) = 1 then 1 else 0) : Int)) = 0 ∧ (cPm (some (.int (iI (dueR σ b)))) la (σ) (True)) v la' τ)) (cXX D cy d0 A ((if oneC b (σ 23 0) = 1 then 1 else 0)) la σ) args s 16 256 A) (F0 m 34 ls []) := by
    intro n
    induction n with
    | zero => intro wk H locs ls h1 h2 h3 h4 h5 h6; exact absurd h6 (by omega)
    | succ n ih =>
      intro wk H locs ls h1 h2 h3 h4 h5 h6 hC hS hl
      refine x_iload B hl dX10_due_34 rfl ?_
      refine x_iload B hl dX10_due_36 rfl ?_
      refine x_iconst B dX10_due_38 ?_
      refine x_iadd B dX10_due_39 ?_
      refine x_icmp_gt (tgt := 77) B dX10_due_40 (by decide) (by omega) (by omega) (fun c_40 => ?_) (fun c_40 => ?_)
      · refine x_iconst B dX10_due_77 ?_
        exact w_widen (Nat.le_of_ble_eq_true rfl) (Nat.le_of_ble_eq_true rfl) (vx_ret (co_iret E hr rfl hlk hC hS dX10_due_78 ⟨(by rw [show oneC b (σ 23 0) = 0 from if_neg (by omega)]; rfl), congrArg (fun z => some (Value.int z)) (congrArg iI (by rw [← h5, show (σ 1 0 / 7 + 4 - wk).toNat = 0 by omega]; rfl)), rfl, rfl, (by first | trivial | omega)⟩))
      · refine x_aload_n B hl dX10_due_43 rfl ?_
        refine x_aload_n B hl dX10_due_44 rfl ?_
        refine co_getR (x := la 4 (σ 6 (sHouse σ b (σ 1 0)))) E hC 5 (by decide) (cl_5 (hho0 b (by omega) (by omega))) rfl (fun z h => List.mem_cons_of_mem _ (List.mem_append_left _ (List.mem_append_left _ (List.mem_append_left _ (List.mem_append_left _ (List.mem_append_left _ (List.mem_append_left _ (List.mem_append_right _ h)))))))) 2 (by decide) (hts (.fieldLink RX10 322 "BinRounds$House" "place" "LBinRounds$Street;") (by decide +kernel)) (fun x hx => hx) dX10_due_45 rfl rfl ?_
        refine x_aload_n B hl dX10_due_48 rfl ?_
        refine co_call E hK hC hS hl (κ := 6) (i := b) (by decide) (cl_6 (by omega)) rfl (c_groupOfKind l D cy d0 A la σ (b := b) (by omega)) (cwV 0 hts0 gX10_due_X0_groupOfKind rfl rfl rfl (by decide +kernel) ⟨Nat.le_of_ble_eq_true rfl, Nat.le_of_ble_eq_true rfl⟩) rfl rfl (Nat.le_of_ble_eq_true rfl) dX10_due_49 ⟨Nat.le_of_ble_eq_true rfl, Nat.le_of_ble_eq_true rfl⟩ (fun H locs q_49 hC hS => ?_)
        refine x_iload B hl dX10_due_52 rfl ?_
        refine co_call E hK hC hS hl (κ := 0) (i := 0) (by decide) cl_0 rfl (c_roundDay l D cy d0 A la σ (st := (σ 6 (sHouse σ b (σ 1 0)))) (g := sGrp (σ 12 b)) (wk := wk) (hst6 _ (hho0 b (by omega) (by omega)).1 (hho0 b (by omega) (by omega)).2) (by omega) (by omega) (hf4 _) (hf3 _)) (cwV 3 hts0 gX10_due_X10_roundDay rfl rfl rfl (by decide +kernel) ⟨Nat.le_of_ble_eq_true rfl, Nat.le_of_ble_eq_true rfl⟩) rfl rfl (Nat.le_of_ble_eq_true rfl) dX10_due_54 ⟨Nat.le_of_ble_eq_true rfl, Nat.le_of_ble_eq_true rfl⟩ (fun H locs q_54 hC hS => ?_)
        refine x_istore B hl dX10_due_57 (by decide) (fun ls hl => ?_)
        refine x_iload B hl dX10_due_59 rfl ?_
        refine x_aload_n B hl dX10_due_61 rfl ?_
        refine co_geti (f := 1) E hC 0 (by decide) cl_0 rfl (fun z h => List.mem_cons_of_mem _ (List.mem_append_left _ (List.mem_append_left _ (List.mem_append_left _ (List.mem_append_left _ (List.mem_append_left _ (List.mem_append_left _ (List.mem_append_left _ (List.mem_append_right _ h))))))))) 8 (by decide) (hts (.fieldLink RX10 49 "BinRounds" "open" "I") (by decide +kernel)) (fun x hx => hx) dX10_due_62 ⟨rfl, rfl, rfl⟩ rfl (fun r_62 => ?_)
        refine x_icmp_lt (tgt := 71) B dX10_due_65 (by decide) (by omega) (by omega) (fun c_65 => ?_) (fun c_65 => ?_)
        · refine x_iinc B hl dX10_due_71 rfl (by decide) (fun ls hl => ?_)
          refine x_goto (tgt := 34) B dX10_due_74 (by decide) ?_
          exact ih (wk + 1) H locs ls (by omega) (by omega) (by omega) (by omega) (by rw [← h5, show (σ 1 0 / 7 + 4 - wk).toNat = (σ 1 0 / 7 + 3 - wk + 1).toNat by omega, sDu_s (k := σ 1 0 / 7 + 3 - wk) (by omega), show σ 1 0 / 7 + 3 - (σ 1 0 / 7 + 3 - wk) = wk by omega, if_neg (by omega), show σ 1 0 / 7 + 4 - (wk + 1) = σ 1 0 / 7 + 3 - wk by omega]) (by omega) (hC) hS (lv_key hl [(0, .ref (la 0 0)), (1, .int (iI b)), (2, .ref (la 6 b)), (3, .ref (la 5 (sHouse σ b (σ 1 0)))), (4, .int (iI (σ 1 0 / 7))), (5, .int (iI (wk + 1)))] rfl)
        · refine x_iload B hl dX10_due_68 rfl ?_
          exact w_widen (Nat.le_of_ble_eq_true rfl) (Nat.le_of_ble_eq_true rfl) (vx_ret (co_iret E hr rfl hlk hC hS dX10_due_70 ⟨(by rw [show oneC b (σ 23 0) = 0 from if_neg (by omega)]; rfl), congrArg (fun z => some (Value.int z)) (congrArg iI (by rw [← h5, show (σ 1 0 / 7 + 4 - wk).toNat = (σ 1 0 / 7 + 3 - wk + 1).toNat by omega, sDu_s (k := σ 1 0 / 7 + 3 - wk) (by omega), show σ 1 0 / 7 + 3 - (σ 1 0 / 7 + 3 - wk) = wk by omega, if_pos (by omega)])), rfl, rfl, (by first | trivial | omega)⟩))
  refine x_aload_n B hl dX10_due_0 rfl ?_
  refine x_iload_n B hl dX10_due_1 rfl ?_
  refine ctm_call E hout hlk hK hC hS hl (κ := 0) (i := 0) (by decide) cl_0 rfl (c_binAt l hlt D cy d0 A la _ (z := b) h_b (by omega) hlg) (cwV 1 hts0 gX10_due_X10_binAt rfl rfl rfl (by decide +kernel) ⟨Nat.le_of_ble_eq_true rfl, Nat.le_of_ble_eq_true rfl⟩) rfl rfl (Nat.le_of_ble_eq_true rfl) dX10_due_2 ⟨Nat.le_of_ble_eq_true rfl, Nat.le_of_ble_eq_true rfl⟩ ⟨Nat.le_of_ble_eq_true rfl, Nat.le_of_ble_eq_true rfl⟩ (fun h => ⟨by unfold oneC; omega, rfl⟩) (fun h9_2 H locs hb1 hC hS => ?_)
  refine x_astore_n B hl dX10_due_5 (by decide) (fun ls hl => ?_)
  refine x_aload_n B hl dX10_due_6 rfl ?_
  refine x_aload_n B hl dX10_due_7 rfl ?_
  refine co_geti (f := 1) E hC 0 (by decide) cl_0 rfl (fun z h => List.mem_cons_of_mem _ (List.mem_append_left _ (List.mem_append_left _ (List.mem_append_left _ (List.mem_append_left _ (List.mem_append_left _ (List.mem_append_left _ (List.mem_append_left _ (List.mem_append_right _ h))))))))) 8 (by decide) (hts (.fieldLink RX10 49 "BinRounds" "open" "I") (by decide +kernel)) (fun x hx => hx) dX10_due_8 ⟨rfl, rfl, rfl⟩ rfl (fun r_8 => ?_)
  refine co_call E hK hC hS hl (κ := 6) (i := b) (by decide) (cl_6 (by omega)) rfl (c_ownerOn_r l D cy d0 A la σ (b := b) (d := σ 1 0) hb1 (by omega) (hm _) hv (by have := hho0 b hb1.1 hb1.2; omega)) (cwV 1 hts0 gX10_due_X0_ownerOn rfl rfl rfl (by decide +kernel) ⟨Nat.le_of_ble_eq_true rfl, Nat.le_of_ble_eq_true rfl⟩) rfl rfl (Nat.le_of_ble_eq_true rfl) dX10_due_11 ⟨Nat.le_of_ble_eq_true rfl, Nat.le_of_ble_eq_true rfl⟩ (fun H locs q_11 hC hS => ?_)
  refine x_astore_n B hl dX10_due_14 (by decide) (fun ls hl => ?_)
  refine x_aload_n B hl dX10_due_15 rfl ?_
  refine lv_ifnonnull (tgt := 21) B.1 B.2 dX10_due_16 (by decide) ?_
  refine x_aload_n B hl dX10_due_21 rfl ?_
  refine co_geti (f := 1) E hC 0 (by decide) cl_0 rfl (fun z h => List.mem_cons_of_mem _ (List.mem_append_left _ (List.mem_append_left _ (List.mem_append_left _ (List.mem_append_left _ (List.mem_append_left _ (List.mem_append_left _ (List.mem_append_left _ (List.mem_append_right _ h))))))))) 8 (by decide) (hts (.fieldLink RX10 49 "BinRounds" "open" "I") (by decide +kernel)) (fun x hx => hx) dX10_due_22 ⟨rfl, rfl, rfl⟩ rfl (fun r_22 => ?_)
  refine x_bipush B dX10_due_25 (by decide) ?_
  refine x_idiv B dX10_due_27 (by omega) (by omega) ?_
  refine x_istore B hl dX10_due_28 (by decide) (fun ls hl => ?_)
  refine x_iload B hl dX10_due_30 rfl ?_
  refine x_istore B hl dX10_due_32 (by decide) (fun ls hl => ?_)
  exact w_widen (Nat.le_of_ble_eq_true rfl) (Nat.le_of_ble_eq_true rfl) (loop 6 (σ 1 0 / 7) _ _ ls (by omega) (by omega) (by omega) (by omega) (by rw [show σ 1 0 / 7 + 4 - σ 1 0 / 7 = 4 by omega]; rfl) (by omega) (hC) hS (lv_key hl [(0, .ref (la 0 0)), (1, .int (iI b)), (2, .ref (la 6 b)), (3, .ref (la 5 (sHouse σ b (σ 1 0)))), (4, .int (iI (σ 1 0 / 7))), (5, .int (iI (σ 1 0 / 7)))] rfl))
