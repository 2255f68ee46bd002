set_option maxHeartbeats 4000000 in
set_option maxRecDepth 100000 in
theorem c_middleOf_N (l : Launch) (D : va_G) (cy : Nat → ClassId) (d0 : Nat) (A : Nat → Prop) (la : Nat → Int → Nat) (σ : MS) {b N : Int} (hb : 0 ≤ b ∧ b < σ 23 0) (hN : σ 45 0 - σ 58 0 = N) (hN0 : 0 ≤ N ∧ N ≤ 600 ∧ N ≤ σ 45 0) (hh : ∀ t, 0 ≤ t → t < σ 45 0 → 0 ≤ σ 35 t ∧ σ 35 t ≤ 3000000) (hbn : ∀ t, 0 ≤ t → t < σ 45 0 → ¬ σ 36 t < 0 → 0 ≤ σ 36 t ∧ σ 36 t < σ 23 0) : CN l yX10_middleOf wsX10_middleOf ({ frames := 3, cells := 0, slots := 0, locals := 64 } : Room) D cy d0 A [.ref (la 0 0), .ref (la 6 b)] la σ (fun v' la' τ => v' = some (.int (iI (sMid σ b N.toNat 0 (fun _ => 0)))) ∧ la' = la ∧ (∀ q, q ≠ 55 → q ≠ 56 → τ q = σ q) ∧ 0 ≤ sMid σ b N.toNat 0 (fun _ => 0) ∧ sMid σ b N.toNat 0 (fun _ => 0) ≤ 3000000) 0 0 := by
  refine cn_of (cc := cX10_middleOf) (nL := 4) (ret := (some .int)) (by decide) rfl (Nat.le_of_ble_eq_true rfl) ?_
  intro p e s m args below meth c ls E hr hlk hK hC hS hl
  have B := E.1
  have hml := E.2.1
  have hown := E.2.2.1
  have hts0 := E.2.2.2.1
  have hts := E.2.2.2.1
  have hw := hC.2.2.2.2.2.1
  have loop : ∀ (n : Nat) (t : Int) (τ : MS) (H : Heap) (locs : List Loc) (ls : Array Slot) (hq : ∀ q, q ≠ 55 → q ≠ 56 → τ q = σ q) (hm : sMid σ b (t + 1).toNat (τ 55 0).toNat (τ 56) = sMid σ b N.toNat 0 (fun _ => 0)), -1 ≤ t → t < N → 0 ≤ τ 55 0 ∧ τ 55 0 ≤ 5 → t + 1 < n → CP D cy d0 A la τ H → va_S A s.heap H locs → lv_has ls 4 [(0, .ref (la 0 0)), (1, .ref (la 6 b)), (2, .int (iI t))] → W p l e ({ frames := 3, cells := 0, slots := 0, locals := 64 } : Room) s m args below meth c H locs 0 0 (MQ below (cQ D cy d0 A (fun v' la' τ => v' = some (.int (iI (sMid σ b N.toNat 0 (fun _ => 0)))) ∧ la' = la ∧ (∀ q, q ≠ 55 → q ≠ 56 → τ q = σ q) ∧ 0 ≤ sMid σ b N.toNat 0 (fun _ => 0) ∧ sMid σ b N.toNat 0 (fun _ => 0) ≤ 3000000)) args s 0 0 A) (F0 m 23 ls []) := by
    intro n
    induction n with
    | zero => intro t τ H locs ls hq hm h1 h2 h3 h4; exact absurd h4 (by omega)
    | succ n ih =>
      intro t τ H locs ls hq hm h1 h2 h3 h4 hC hS hl
      refine x_iload_n B hl dX10_middleOf_23 rfl ?_
      refine x_if_lt (tgt := 81) B dX10_middleOf_24 (by decide) (by omega) (fun c_24 => ?_) (fun c_24 => ?_)
      · refine x_aload_n B hl dX10_middleOf_81 rfl ?_
        refine co_getR (x := la 3 0) E hC 0 (by decide) cl_0 rfl (fun z h => List.mem_cons_of_mem _ (List.mem_append_left _ (List.mem_append_left _ (List.mem_append_left _ (List.mem_append_right _ h))))) 7 (by decide) (hts (.fieldLink RX10 45 "BinRounds" "latest" "LBinRounds$Latest;") (by decide +kernel)) (fun x hx => hx) dX10_middleOf_82 rfl rfl ?_
        refine co_call E hK hC hS hl (κ := 3) (i := 0) (by decide) cl_3 rfl (c_lowerMiddle l D cy d0 A la τ rfl (by omega)) (cwV 0 hts0 gX10_middleOf_X4_lowerMiddle rfl rfl rfl (by decide +kernel) ⟨Nat.le_of_ble_eq_true rfl, Nat.le_of_ble_eq_true rfl⟩) rfl rfl (Nat.le_of_ble_eq_true rfl) dX10_middleOf_85 ⟨Nat.zero_le _, Nat.zero_le _⟩ (fun H locs q_85 hC hS => ?_)
        have hx : (if τ 55 0 = 0 then 0 else τ 56 ((τ 55 0 - 1) / 2)) = sMid σ b N.toNat 0 (fun _ => 0) := by
          rw [← hm]
          by_cases h5 : 5 ≤ τ 55 0
          · rw [sMid_5 (by omega), if_neg (by omega), Int.toNat_of_nonneg (by omega)]
          · rw [show (t + 1).toNat = 0 by omega, sMid]
            by_cases h0 : τ 55 0 = 0
            · rw [if_pos h0, if_pos (by omega)]
            · rw [if_neg h0, if_neg (by omega), Int.toNat_of_nonneg (by omega)]
        exact co_iret E hr rfl hlk hC hS dX10_middleOf_88 ⟨by rw [hx], rfl, hq, sMid_v (P := fun z => 0 ≤ z ∧ z ≤ 3000000) ⟨by omega, by omega⟩ _ _ (fun j a b => hh j a (by omega)) (fun j a b => by omega)⟩
      · refine x_aload_n B hl dX10_middleOf_27 rfl ?_
        refine co_getR (x := la 3 0) E hC 0 (by decide) cl_0 rfl (fun z h => List.mem_cons_of_mem _ (List.mem_append_left _ (List.mem_append_left _ (List.mem_append_left _ (List.mem_append_right _ h))))) 7 (by decide) (hts (.fieldLink RX10 45 "BinRounds" "latest" "LBinRounds$Latest;") (by decide +kernel)) (fun x hx => hx) dX10_middleOf_28 rfl rfl ?_
        refine co_call E hK hC hS hl (κ := 3) (i := 0) (by decide) cl_3 rfl (c_isFull l D cy d0 A la _) (cwV 0 hts0 gX10_middleOf_X4_isFull rfl rfl rfl (by decide +kernel) ⟨Nat.le_of_ble_eq_true rfl, Nat.le_of_ble_eq_true rfl⟩) rfl rfl (Nat.le_of_ble_eq_true rfl) dX10_middleOf_31 ⟨Nat.zero_le _, Nat.zero_le _⟩ (fun H locs q_31 hC hS => ?_)
        refine x_bool (fun b_31 => ?_) (fun b_31 => ?_)
        · refine x_if_ne_t (tgt := 81) B dX10_middleOf_34 (by decide) (by decide) ?_
          refine x_aload_n B hl dX10_middleOf_81 rfl ?_
          refine co_getR (x := la 3 0) E hC 0 (by decide) cl_0 rfl (fun z h => List.mem_cons_of_mem _ (List.mem_append_left _ (List.mem_append_left _ (List.mem_append_left _ (List.mem_append_right _ h))))) 7 (by decide) (hts (.fieldLink RX10 45 "BinRounds" "latest" "LBinRounds$Latest;") (by decide +kernel)) (fun x hx => hx) dX10_middleOf_82 rfl rfl ?_
          refine co_call E hK hC hS hl (κ := 3) (i := 0) (by decide) cl_3 rfl (c_lowerMiddle l D cy d0 A la τ rfl (by omega)) (cwV 0 hts0 gX10_middleOf_X4_lowerMiddle rfl rfl rfl (by decide +kernel) ⟨Nat.le_of_ble_eq_true rfl, Nat.le_of_ble_eq_true rfl⟩) rfl rfl (Nat.le_of_ble_eq_true rfl) dX10_middleOf_85 ⟨Nat.zero_le _, Nat.zero_le _⟩ (fun H locs q_85 hC hS => ?_)
          have hx : (if τ 55 0 = 0 then 0 else τ 56 ((τ 55 0 - 1) / 2)) = sMid σ b N.toNat 0 (fun _ => 0) := by
            rw [← hm]
            by_cases h5 : 5 ≤ τ 55 0
            · rw [sMid_5 (by omega), if_neg (by omega), Int.toNat_of_nonneg (by omega)]
            · rw [show (t + 1).toNat = 0 by omega, sMid]
              by_cases h0 : τ 55 0 = 0
              · rw [if_pos h0, if_pos (by omega)]
              · rw [if_neg h0, if_neg (by omega), Int.toNat_of_nonneg (by omega)]
          exact co_iret E hr rfl hlk hC hS dX10_middleOf_88 ⟨by rw [hx], rfl, hq, sMid_v (P := fun z => 0 ≤ z ∧ z ≤ 3000000) ⟨by omega, by omega⟩ _ _ (fun j a b => hh j a (by omega)) (fun j a b => by omega)⟩
        · refine x_if_ne_f (tgt := 81) B dX10_middleOf_34 (by decide) (by decide) ?_
          refine x_aload_n B hl dX10_middleOf_37 rfl ?_
          refine co_getR (x := la 11 4) E hC 0 (by decide) cl_0 rfl (fun z h => List.mem_cons_of_mem _ (List.mem_append_left _ (List.mem_append_left _ (List.mem_append_left _ (List.mem_append_right _ h))))) 4 (by decide) (hts (.fieldLink RX10 25 "BinRounds" "tips" "Ljava/util/ArrayList;") (by decide +kernel)) (fun x hx => hx) dX10_middleOf_38 rfl rfl ?_
          refine x_iload_n B hl dX10_middleOf_41 rfl ?_
          refine co_call E hK hC hS hl (κ := 11) (i := 4) (by decide) (cl_q (cLq_2 hq) (cl_11 (by omega))) rfl (c_get l D cy d0 A la _ (L := 4) (n := N) (j := t) (x := la 10 t) (cl_q (cLq_2 hq) (cl_11 (by omega))) (show _ - _ = _ from (by rw [show _ = σ 45 0 from ((congrFun (hq 45 (by decide) (by decide)) _).trans rfl), show _ = σ 58 0 from ((congrFun (hq 58 (by decide) (by decide)) _).trans rfl)]; exact hN)) (by omega) (by omega) rfl) (cwV 1 hts0 gX10_middleOf_Jx4a65c_get_915e3 rfl rfl rfl (by decide +kernel) ⟨Nat.le_of_ble_eq_true rfl, Nat.le_of_ble_eq_true rfl⟩) rfl rfl (Nat.le_of_ble_eq_true rfl) dX10_middleOf_42 ⟨Nat.zero_le _, Nat.zero_le _⟩ (fun H locs q_42 hC hS => ?_)
          refine co_cast E hK hC 10 (by decide) (cl_q (cLq_2 hq) (cl_10 (by omega))) rfl (by decide +kernel) dX10_middleOf_45 ?_
          refine x_astore_n B hl dX10_middleOf_48 (by decide) (fun ls hl => ?_)
          refine x_aload_n B hl dX10_middleOf_49 rfl ?_
          refine co_getr (r := if σ 36 t < 0 then none else some (la 6 (σ 36 t))) E hC 10 (by decide) (cl_q (cLq_2 hq) (cl_10 (by omega))) rfl (fun z h => List.mem_cons_of_mem _ (List.mem_append_left _ (List.mem_append_left _ (List.mem_append_right _ h)))) 4 (by decide) (hts (.fieldLink RX10 211 "BinRounds$Tip" "bin" "LBinRounds$Bin;") (by decide +kernel)) (fun x hx => hx) dX10_middleOf_50 rfl (congrArg (fun z => if z < 0 then none else some (la 6 z)) ((congrFun (hq 36 (by decide) (by decide)) _).trans rfl)) ?_
          refine x_aload_n B hl dX10_middleOf_53 rfl ?_
          refine lv_acmp_ne (rx := (if (σ 36 t) < 0 then none else some (la 6 (σ 36 t)))) (ry := (some (la 6 b))) (tgt := 75) B.1 B.2 dX10_middleOf_54 (by decide) (fun c_54 => ?_) (fun c_54 => ?_)
          · have k_54 : ¬ (σ 36 t) = b := fun z => c_54 (by rw [z, if_neg (by omega)])
            refine x_iinc B hl dX10_middleOf_75 rfl (by decide) (fun ls hl => ?_)
            refine x_goto (tgt := 23) B dX10_middleOf_78 (by decide) ?_
            first | (exact ih (t + -1) τ1 _ _ ls (fun q a b => (qx.1 q a b).trans (hq q a b)) (by rw [show (t + -1 + 1).toNat = t.toNat by omega, ← hm, sMid_t (by omega) (by omega), if_pos ⟨by omega, by omega⟩, qx.2.1, show (τ 55 0 + 1).toNat = (τ 55 0).toNat + 1 by omega]; exact sMid_c _ _ (fun j a b => qx.2.2 j a)) (by omega) (by omega) (by rw [qx.2.1]; omega) (by omega) hC hS (lv_key hl [(0, .ref (la 0 0)), (1, .ref (la 6 b)), (2, .int (iI (t + -1)))] rfl)) | (exact ih (t + -1) τ _ _ ls hq (by rw [show (t + -1 + 1).toNat = t.toNat by omega, ← hm, sMid_t (by omega) (by omega), if_neg (by omega)]) (by omega) (by omega) h3 (by omega) hC hS (lv_key hl [(0, .ref (la 0 0)), (1, .ref (la 6 b)), (2, .int (iI (t + -1)))] rfl))
          · have k_54 : (σ 36 t) = b := co_eqn hC (fun h9 => (cl_q (cLq_2 hq) (cl_6 (hbn t (by omega) (by omega) h9)))) (cl_q (cLq_2 hq) (cl_6 hb)) c_54
            refine x_aload_n B hl dX10_middleOf_57 rfl ?_
            refine co_geti (f := 38) E hC 10 (by decide) (cl_q (cLq_2 hq) (cl_10 (by omega))) rfl (fun z h => List.mem_cons_of_mem _ (List.mem_append_left _ (List.mem_append_left _ (List.mem_append_right _ h)))) 6 (by decide) (hts (.fieldLink RX10 208 "BinRounds$Tip" "weighing" "I") (by decide +kernel)) (fun x hx => hx) dX10_middleOf_58 ⟨rfl, rfl, rfl⟩ ((congrFun (hq 38 (by decide) (by decide)) _).trans rfl) (fun r_58 => ?_)
            refine x_if_ne (tgt := 75) B dX10_middleOf_61 (by decide) (by omega) (fun c_61 => ?_) (fun c_61 => ?_)
            · refine x_iinc B hl dX10_middleOf_75 rfl (by decide) (fun ls hl => ?_)
              refine x_goto (tgt := 23) B dX10_middleOf_78 (by decide) ?_
              first | (exact ih (t + -1) τ1 _ _ ls (fun q a b => (qx.1 q a b).trans (hq q a b)) (by rw [show (t + -1 + 1).toNat = t.toNat by omega, ← hm, sMid_t (by omega) (by omega), if_pos ⟨by omega, by omega⟩, qx.2.1, show (τ 55 0 + 1).toNat = (τ 55 0).toNat + 1 by omega]; exact sMid_c _ _ (fun j a b => qx.2.2 j a)) (by omega) (by omega) (by rw [qx.2.1]; omega) (by omega) hC hS (lv_key hl [(0, .ref (la 0 0)), (1, .ref (la 6 b)), (2, .int (iI (t + -1)))] rfl)) | (exact ih (t + -1) τ _ _ ls hq (by rw [show (t + -1 + 1).toNat = t.toNat by omega, ← hm, sMid_t (by omega) (by omega), if_neg (by omega)]) (by omega) (by omega) h3 (by omega) hC hS (lv_key hl [(0, .ref (la 0 0)), (1, .ref (la 6 b)), (2, .int (iI (t + -1)))] rfl))
            · refine x_aload_n B hl dX10_middleOf_64 rfl ?_
              refine co_getR (x := la 3 0) E hC 0 (by decide) cl_0 rfl (fun z h => List.mem_cons_of_mem _ (List.mem_append_left _ (List.mem_append_left _ (List.mem_append_left _ (List.mem_append_right _ h))))) 7 (by decide) (hts (.fieldLink RX10 45 "BinRounds" "latest" "LBinRounds$Latest;") (by decide +kernel)) (fun x hx => hx) dX10_middleOf_65 rfl rfl ?_
              refine x_aload_n B hl dX10_middleOf_68 rfl ?_
              refine co_geti (f := 35) E hC 10 (by decide) (cl_q (cLq_2 hq) (cl_10 (by omega))) rfl (fun z h => List.mem_cons_of_mem _ (List.mem_append_left _ (List.mem_append_left _ (List.mem_append_right _ h)))) 3 (by decide) (hts (.fieldLink RX10 219 "BinRounds$Tip" "halves" "I") (by decide +kernel)) (fun x hx => hx) dX10_middleOf_69 ⟨rfl, rfl, rfl⟩ ((congrFun (hq 35 (by decide) (by decide)) _).trans rfl) (fun r_69 => ?_)
              refine co_callX E hK hC hS hl (κ := 3) (i := 0) (by decide) cl_3 rfl (c_insert l D cy d0 A la τ (x := σ 35 t) (by omega) (by omega)) (cwV 1 hts0 gX10_middleOf_X4_insert rfl rfl rfl (by decide +kernel) ⟨Nat.le_of_ble_eq_true rfl, Nat.le_of_ble_eq_true rfl⟩) rfl rfl (Nat.le_of_ble_eq_true rfl) dX10_middleOf_72 ⟨Nat.zero_le _, Nat.zero_le _⟩ (fun H locs τ1 qx hC hS => ?_)
              refine x_iinc B hl dX10_middleOf_75 rfl (by decide) (fun ls hl => ?_)
              refine x_goto (tgt := 23) B dX10_middleOf_78 (by decide) ?_
              first | (exact ih (t + -1) τ1 _ _ ls (fun q a b => (qx.1 q a b).trans (hq q a b)) (by rw [show (t + -1 + 1).toNat = t.toNat by omega, ← hm, sMid_t (by omega) (by omega), if_pos ⟨by omega, by omega⟩, qx.2.1, show (τ 55 0 + 1).toNat = (τ 55 0).toNat + 1 by omega]; exact sMid_c _ _ (fun j a b => qx.2.2 j a)) (by omega) (by omega) (by rw [qx.2.1]; omega) (by omega) hC hS (lv_key hl [(0, .ref (la 0 0)), (1, .ref (la 6 b)), (2, .int (iI (t + -1)))] rfl)) | (exact ih (t + -1) τ _ _ ls hq (by rw [show (t + -1 + 1).toNat = t.toNat by omega, ← hm, sMid_t (by omega) (by omega), if_neg (by omega)]) (by omega) (by omega) h3 (by omega) hC hS (lv_key hl [(0, .ref (la 0 0)), (1, .ref (la 6 b)), (2, .int (iI (t + -1)))] rfl))
  refine x_aload_n B hl dX10_middleOf_0 rfl ?_
  refine co_getR (x := la 3 0) E hC 0 (by decide) cl_0 rfl (fun z h => List.mem_cons_of_mem _ (List.mem_append_left _ (List.mem_append_left _ (List.mem_append_left _ (List.mem_append_right _ h))))) 7 (by decide) (hts (.fieldLink RX10 45 "BinRounds" "latest" "LBinRounds$Latest;") (by decide +kernel)) (fun x hx => hx) dX10_middleOf_1 rfl rfl ?_
  refine co_call E hK hC hS hl (κ := 3) (i := 0) (by decide) cl_3 rfl (c_clear l D cy d0 A la _) (cwV 0 hts0 gX10_middleOf_X4_clear rfl rfl rfl (by decide +kernel) ⟨Nat.le_of_ble_eq_true rfl, Nat.le_of_ble_eq_true rfl⟩) rfl rfl (Nat.le_of_ble_eq_true rfl) dX10_middleOf_4 ⟨Nat.zero_le _, Nat.zero_le _⟩ (fun H locs q_4 hC hS => ?_)
  refine x_aload_n B hl dX10_middleOf_7 rfl ?_
  refine lv_ifnonnull (tgt := 13) B.1 B.2 dX10_middleOf_8 (by decide) ?_
  refine x_aload_n B hl dX10_middleOf_13 rfl ?_
  refine co_getR (x := la 11 4) E hC 0 (by decide) cl_0 rfl (fun z h => List.mem_cons_of_mem _ (List.mem_append_left _ (List.mem_append_left _ (List.mem_append_left _ (List.mem_append_right _ h))))) 4 (by decide) (hts (.fieldLink RX10 25 "BinRounds" "tips" "Ljava/util/ArrayList;") (by decide +kernel)) (fun x hx => hx) dX10_middleOf_14 rfl rfl ?_
  refine co_call E hK hC hS hl (κ := 11) (i := 4) (by decide) (cl_up (by decide) (cl_11 (by omega))) rfl (c_size l D cy d0 A la _ (L := 4) (n := N) (cl_up (by decide) (cl_11 (by omega))) (show _ - _ = _ from (by rw [show _ = σ 45 0 from (up_ne (by decide) rfl), show _ = σ 58 0 from (up_ne (by decide) rfl)]; exact hN))) (cwV 0 hts0 gX10_middleOf_Jx4a65c_size_8abf5 rfl rfl rfl (by decide +kernel) ⟨Nat.le_of_ble_eq_true rfl, Nat.le_of_ble_eq_true rfl⟩) rfl rfl (Nat.le_of_ble_eq_true rfl) dX10_middleOf_17 ⟨Nat.zero_le _, Nat.zero_le _⟩ (fun H locs q_17 hC hS => ?_)
  refine x_iconst B dX10_middleOf_20 ?_
  refine x_isub B dX10_middleOf_21 ?_
  refine x_istore_n B hl dX10_middleOf_22 (by decide) (fun ls hl => ?_)
  exact loop 602 (N - 1) (up σ 55 0 0) _ _ ls (fun q a b => up_f a) (by rw [show N - 1 + 1 = N by omega]; exact sMid_c _ _ (fun j a b => absurd b (by rw [up_s] at b; omega))) (by omega) (by omega) (by rw [up_s]; omega) (by omega) hC hS (lv_key hl [(0, .ref (la 0 0)), (1, .ref (la 6 b)), (2, .int (iI (N - 1)))] rfl)
