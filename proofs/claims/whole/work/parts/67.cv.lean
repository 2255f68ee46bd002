theorem sFs_5 {σ τ : MS} (he : eq5 σ τ) (h g : Int) : sFs τ h g = sFs σ h g := by
  funext b
  unfold sFs
  rw [he 12 (by decide), sHouse_5 he, he 1 (by decide), sMiddle_5 he]
theorem c_middlesAt5 (l : Launch) (D : va_G) (cy : Nat → ClassId) (d0 : Nat) (A : Nat → Prop) (la : Nat → Int → Nat) (σ τ : MS) (he : eq5 σ τ) {h g : Int} (hhh : 0 ≤ h ∧ h < σ 11 0) (hg : 0 ≤ g ∧ g ≤ 2) (hho : ∀ b, 0 ≤ b ∧ b < σ 23 0 → ¬ sHouse σ b (σ 1 0) < 0 → 0 ≤ sHouse σ b (σ 1 0) ∧ sHouse σ b (σ 1 0) < σ 11 0) (hn45 : 0 ≤ σ 45 0 ∧ σ 45 0 ≤ 600) (hn23 : 0 ≤ σ 23 0 ∧ σ 23 0 ≤ 1000) (hlg : σ 58 0 = 0 ∧ σ 59 0 = 0) (hh : ∀ t, 0 ≤ t → t < σ 45 0 → 0 ≤ σ 35 t ∧ σ 35 t ≤ 3000000) (hbn : ∀ t, 0 ≤ t → t < σ 45 0 → ¬ σ 36 t < 0 → 0 ≤ σ 36 t ∧ σ 36 t < σ 23 0) (hm : ∀ b, 0 ≤ σ 18 b ∧ σ 18 b ≤ 8) (hv : ∀ j, 0 ≤ σ 16 j) (hop : 0 ≤ σ 1 0 ∧ σ 1 0 ≤ 699) : CN l yX10_middlesAt wsX10_middlesAt ({ frames := 4, cells := 0, slots := 0, locals := 87 } : Room) D cy d0 A [.ref (la 0 0), .ref (la 5 h), .int (iI g)] la τ (fun v' la' υ => v' = some (.long (lI (sSum (sFs σ h g) (σ 23 0).toNat))) ∧ la' = la ∧ ∀ q, q ≠ 55 → q ≠ 56 → υ q = τ q) 0 0 := by
  have h9 := c_middlesAt l D cy d0 A la τ (h := h) (g := g) (by rw [he 11 (by decide)]; exact hhh) hg (by rw [he 23 (by decide), he 1 (by decide), he 11 (by decide)]; intro b hb; rw [sHouse_5 he]; exact hho b hb) (by rw [he 45 (by decide)]; exact hn45) (by rw [he 23 (by decide)]; exact hn23) (by rw [he 58 (by decide), he 59 (by decide)]; exact hlg) (by rw [he 45 (by decide), he 35 (by decide)]; exact hh) (by rw [he 45 (by decide), he 36 (by decide), he 23 (by decide)]; exact hbn) (by rw [he 18 (by decide)]; exact hm) (by rw [he 16 (by decide)]; exact hv) (by rw [he 1 (by decide)]; exact hop)
  rw [sFs_5 he, he 23 (by decide)] at h9
  exact h9
set_option maxHeartbeats 4000000 in
set_option maxRecDepth 100000 in
theorem c_p_fill (l : Launch) (hlt : l.stackTraces = false) (D : va_G) (cy : Nat → ClassId) (d0 : Nat) (A : Nat → Prop) (la : Nat → Int → Nat) (σ : MS) {q : Int} {st : Int} {g : Int} (h_q : -2147483648 ≤ q ∧ q < 2147483648) (h_st : -2147483648 ≤ st ∧ st < 2147483648) (h_g : -2147483648 ≤ g ∧ g < 2147483648) (hn5 : 0 ≤ σ 5 0 ∧ σ 5 0 ≤ 1000) (hn11 : 0 ≤ σ 11 0 ∧ σ 11 0 ≤ 1000) (hn23 : 0 ≤ σ 23 0 ∧ σ 23 0 ≤ 1000) (hn27 : 0 ≤ σ 27 0 ∧ σ 27 0 ≤ 1000) (hn45 : 0 ≤ σ 45 0 ∧ σ 45 0 ≤ 600) (hlg : σ 58 0 = 0 ∧ σ 59 0 = 0) (ho : sOrd σ) (hh : ∀ t, 0 ≤ t → t < σ 45 0 → 0 ≤ σ 35 t ∧ σ 35 t ≤ 3000000) (hct : ∀ t, 0 ≤ t → t < σ 45 0 → 0 ≤ σ 33 t ∧ σ 33 t < σ 27 0) (hbn : ∀ t, 0 ≤ t → t < σ 45 0 → ¬ σ 36 t < 0 → 0 ≤ σ 36 t ∧ σ 36 t < σ 23 0) (hm : ∀ b, 0 ≤ σ 18 b ∧ σ 18 b ≤ 8) (hv : ∀ j, 0 ≤ σ 16 j) (hop : 0 ≤ σ 1 0 ∧ σ 1 0 ≤ 699) (hho : ∀ b, 0 ≤ b ∧ b < σ 23 0 → ¬ sHouse σ b (σ 1 0) < 0 → 0 ≤ sHouse σ b (σ 1 0) ∧ sHouse σ b (σ 1 0) < σ 11 0) (hst6 : ∀ h, 0 ≤ h → h < σ 11 0 → 0 ≤ σ 6 h ∧ σ 6 h < σ 5 0) (hhA : ∀ j, 0 ≤ σ 35 j ∧ σ 35 j ≤ 3000000) : CT l yX10_fill wsX10_fill ({ frames := 8, cells := 16, slots := 256, locals := 124 } : Room) D cy d0 A [.ref (la 0 0), .int (iI q), .int (iI st), .int (iI g)] la σ ((if fillC σ q st g = 1 then 1 else (if fillC σ q st g = 2 then 2 else 0))) (fun v' la' τ => v' = some (.int (iI (fillR σ q st g))) ∧ la' = la ∧ ∀ q, q ≠ 55 → q ≠ 56 → τ q = σ q) 16 256 := by
  refine ct_of (cc := cX10_fill) (nL := 10) (ret := (some .int)) (by decide) rfl (Nat.le_of_ble_eq_true rfl) ?_
  intro p e s m args below meth c ls E hout hr hlk hK hC hS hl
  have B := E.1
  have hml := E.2.1
  have hown := E.2.2.1
  have hts0 := E.2.2.2.1
  have hts := E.2.2.2.1
  have hw := hC.2.2.2.2.2.1
  have loop : ∀ (n : Nat) (h sm : Int) (τ : MS) (H : Heap) (locs : List Loc) (ls : Array Slot) (hq : ∀ q, q ≠ 55 → q ≠ 56 → τ q = σ q) (hi : sFl σ st g (σ 24 q) (σ 11 0 - h).toNat h (sm) = fillR σ q st g) (hq2 : 0 ≤ q ∧ q < σ 27 0) (hs2 : 0 ≤ st ∧ st < σ 5 0), 0 ≤ g ∧ g ≤ 2 → 0 ≤ h → h ≤ σ 11 0 → 0 ≤ sm → sm ≤ 1800000000 + 3000000000 * h → σ 11 0 - h < n → CP D cy d0 A la τ H → va_S A s.heap H locs → lv_has ls 10 [(0, .ref (la 0 0)), (3, .int (iI g)), (4, .ref (la 9 q)), (5, .ref (la 4 st)), (6, .long (lI (sm))), (8, .int (iI h))] → W p l e ({ frames := 8, cells := 16, slots := 256, locals := 124 } : Room) s m args below meth c H locs 16 256 (vx_MQ below (cQ D cy d0 A (fun v la' τ => (((if fillC σ q st g = 1 then 1 else (if fillC σ q st g = 2 then 2 else 0)) : Int)) = 0 ∧ (fun v' la' τ => v' = some (.int (iI (fillR σ q st g))) ∧ la' = la ∧ ∀ q, q ≠ 55 → q ≠ 56 → τ q = σ q) v la' τ)) (cXX D cy d0 A ((if fillC σ q st g = 1 then 1 else (if fillC σ q st g = 2 then 2 else 0))) la σ) args s 16 256 A) (F0 m 33 ls []) := by
    intro n
    induction n with
    | zero => intro h sm τ H locs ls hq hi hq2 hs2 h1 h2 h3 h4 h5 h6; exact absurd h6 (by omega)
    | succ n ih =>
      intro h sm τ H locs ls hq hi hq2 hs2 h1 h2 h3 h4 h5 h6 hC hS hl
      have hh0 := hhA
      refine x_iload B hl dX10_fill_33 rfl ?_
      refine x_aload_n B hl dX10_fill_35 rfl ?_
      refine co_getR (x := la 11 1) E hC 0 (by decide) cl_0 rfl (fun z h => List.mem_cons_of_mem _ (List.mem_append_left _ (List.mem_append_left _ (List.mem_append_left _ (List.mem_append_left _ (List.mem_append_left _ (List.mem_append_left _ (List.mem_append_left _ (List.mem_append_left _ (List.mem_append_left _ (List.mem_append_right _ h))))))))))) 1 (by decide) (hts (.fieldLink RX10 16 "BinRounds" "houses" "Ljava/util/ArrayList;") (by decide +kernel)) (fun x hx => hx) dX10_fill_36 rfl rfl ?_
      refine co_call E hK hC hS hl (κ := 11) (i := 1) (by decide) (cl_q (cLq_2 hq) (cl_11 (by omega))) rfl (c_size l D cy d0 A la _ (L := 1) (n := σ 11 0) (cl_q (cLq_2 hq) (cl_11 (by omega))) (cSz_1.trans ((congrFun (hq 11 (by decide) (by decide)) _).trans rfl))) (cwV 0 hts0 gX10_fill_Jx4a65c_size_8abf5 rfl rfl rfl (by decide +kernel) ⟨Nat.le_of_ble_eq_true rfl, Nat.le_of_ble_eq_true rfl⟩) rfl rfl (Nat.le_of_ble_eq_true rfl) dX10_fill_39 ⟨Nat.le_of_ble_eq_true rfl, Nat.le_of_ble_eq_true rfl⟩ (fun H locs q_39 hC hS => ?_)
      refine x_icmp_ge (tgt := 105) B dX10_fill_42 (by decide) (by omega) (by omega) (fun c_42 => ?_) (fun c_42 => ?_)
      · refine x_iconst B dX10_fill_105 ?_
        exact w_widen (Nat.le_of_ble_eq_true rfl) (Nat.le_of_ble_eq_true rfl) (vx_ret (co_iret E hr rfl hlk hC hS dX10_fill_106 ⟨(by rw [show fillC σ q st g = 0 by unfold fillC; rw [if_neg (by omega), if_neg (by omega)]]; rfl), congrArg (fun z => some (Value.int (iI z))) (by rw [← hi, show (σ 11 0 - h).toNat = 0 by omega]; rfl), rfl, hq⟩))
      · refine x_aload_n B hl dX10_fill_45 rfl ?_
        refine co_getR (x := la 11 1) E hC 0 (by decide) cl_0 rfl (fun z h => List.mem_cons_of_mem _ (List.mem_append_left _ (List.mem_append_left _ (List.mem_append_left _ (List.mem_append_left _ (List.mem_append_left _ (List.mem_append_left _ (List.mem_append_left _ (List.mem_append_left _ (List.mem_append_left _ (List.mem_append_right _ h))))))))))) 1 (by decide) (hts (.fieldLink RX10 16 "BinRounds" "houses" "Ljava/util/ArrayList;") (by decide +kernel)) (fun x hx => hx) dX10_fill_46 rfl rfl ?_
        refine x_iload B hl dX10_fill_49 rfl ?_
        refine co_call E hK hC hS hl (κ := 11) (i := 1) (by decide) (cl_q (cLq_2 hq) (cl_11 (by omega))) rfl (c_get l D cy d0 A la _ (L := 1) (n := σ 11 0) (j := h) (x := la 5 h) (cl_q (cLq_2 hq) (cl_11 (by omega))) (cSz_1.trans ((congrFun (hq 11 (by decide) (by decide)) _).trans rfl)) (by omega) (by omega) rfl) (cwV 1 hts0 gX10_fill_Jx4a65c_get_915e3 rfl rfl rfl (by decide +kernel) ⟨Nat.le_of_ble_eq_true rfl, Nat.le_of_ble_eq_true rfl⟩) rfl rfl (Nat.le_of_ble_eq_true rfl) dX10_fill_51 ⟨Nat.le_of_ble_eq_true rfl, Nat.le_of_ble_eq_true rfl⟩ (fun H locs q_51 hC hS => ?_)
        refine co_cast E hK hC 5 (by decide) (cl_q (cLq_2 hq) (cl_5 (by omega))) rfl (by decide +kernel) dX10_fill_54 ?_
        refine x_astore B hl dX10_fill_57 (by decide) (fun ls hl => ?_)
        refine x_aload B hl dX10_fill_59 rfl ?_
        refine co_getR (x := la 4 (σ 6 h)) E hC 5 (by decide) (cl_q (cLq_2 hq) (cl_5 (by omega))) rfl (fun z h => List.mem_cons_of_mem _ (List.mem_append_left _ (List.mem_append_left _ (List.mem_append_left _ (List.mem_append_left _ (List.mem_append_left _ (List.mem_append_left _ (List.mem_append_left _ (List.mem_append_left _ (List.mem_append_right _ h)))))))))) 2 (by decide) (hts (.fieldLink RX10 322 "BinRounds$House" "place" "LBinRounds$Street;") (by decide +kernel)) (fun x hx => hx) dX10_fill_61 rfl (congrArg (fun z => some (la 4 z)) (congrFun (hq 6 (by decide) (by decide)) _)) ?_
        refine x_aload B hl dX10_fill_64 rfl ?_
        refine lv_acmp_eq (rx := (some (la 4 (σ 6 h)))) (ry := (some (la 4 st))) (tgt := 72) B.1 B.2 dX10_fill_66 (by decide) (fun c_66 => ?_) (fun c_66 => ?_)
        · have k_66 : (σ 6 h) = st := co_eq hC (by decide) (cl_q (cLq_2 hq) (cl_4 (hst6 h (by omega) (by omega)))) (cl_q (cLq_2 hq) (cl_4 hs2)) c_66
          refine x_lload B hl dX10_fill_72 rfl ?_
          refine x_aload_n B hl dX10_fill_74 rfl ?_
          refine x_aload B hl dX10_fill_75 rfl ?_
          refine x_iload_n B hl dX10_fill_77 rfl ?_
          refine co_callX E hK hC hS hl (κ := 0) (i := 0) (by decide) cl_0 rfl (c_middlesAt5 l D cy d0 A la σ _ (eq5_2 hq) (h := h) (g := g) (by omega) (by omega) hho hn45 hn23 hlg hh hbn hm hv hop) (cwV 2 hts0 gX10_fill_X10_middlesAt rfl rfl rfl (by decide +kernel) ⟨Nat.le_of_ble_eq_true rfl, Nat.le_of_ble_eq_true rfl⟩) rfl rfl (Nat.le_of_ble_eq_true rfl) dX10_fill_78 ⟨Nat.le_of_ble_eq_true rfl, Nat.le_of_ble_eq_true rfl⟩ (fun H locs τ1 qx hC hS => ?_)
          have hS9 := sSum_r (f := sFs σ h g) (M := 3000000) (sFs_r hh0) (σ 23 0).toNat
          refine x_ladd B dX10_fill_81 ?_
          refine x_lstore B hl dX10_fill_82 (by decide) (fun ls hl => ?_)
          refine x_lload B hl dX10_fill_84 rfl ?_
          refine x_aload B hl dX10_fill_86 rfl ?_
          refine co_geti (f := 24) E hC 9 (by decide) (cl_q (cLq_2 (fun q a c => (qx q a c).trans (hq q a c))) (cl_9 hq2)) rfl (fun z h => List.mem_cons_of_mem _ (List.mem_append_left _ (List.mem_append_left _ (List.mem_append_left _ (List.mem_append_left _ (List.mem_append_left _ (List.mem_append_left _ (List.mem_append_left _ (List.mem_append_right _ h))))))))) 1 (by decide) (hts (.fieldLink RX10 330 "BinRounds$Cart" "limit" "I") (by decide +kernel)) (fun x hx => hx) dX10_fill_88 ⟨rfl, rfl, rfl⟩ ((congrFun ((qx 24 (by decide) (by decide)).trans (hq 24 (by decide) (by decide))) _).trans rfl) (fun r_88 => ?_)
          refine x_i2l B dX10_fill_91 (by omega) ?_
          refine x_lcmp_le (tgt := 99) B dX10_fill_92 dX10_fill_93 (by decide) (by omega) (by omega) (fun c_92 => ?_) (fun c_92 => ?_)
          · refine x_iinc B hl dX10_fill_99 rfl (by decide) (fun ls hl => ?_)
            refine x_goto (tgt := 33) B dX10_fill_102 (by decide) ?_
            first | (exact ih (h + 1) (sm + sSum (sFs σ h g) (σ 23 0).toNat) τ1 _ _ ls (fun q a c => (qx q a c).trans (hq q a c)) (by rw [← hi, sFl_s (h := h) (by omega), if_pos k_66, if_neg (by omega)]) hq2 hs2 (by omega) (by omega) (by omega) (by omega) (by omega) (by omega) hC hS (lv_key hl [(0, .ref (la 0 0)), (3, .int (iI g)), (4, .ref (la 9 q)), (5, .ref (la 4 st)), (6, .long (lI (sm + sSum (sFs σ h g) (σ 23 0).toNat))), (8, .int (iI (h + 1)))] rfl)) | (exact ih (h + 1) sm τ _ _ ls hq (by rw [← hi, sFl_s (h := h) (by omega), if_neg k_66]) hq2 hs2 (by omega) (by omega) (by omega) (by omega) (by omega) (by omega) hC hS (lv_key hl [(0, .ref (la 0 0)), (3, .int (iI g)), (4, .ref (la 9 q)), (5, .ref (la 4 st)), (6, .long (lI (sm))), (8, .int (iI (h + 1)))] rfl))
          · refine x_iload B hl dX10_fill_96 rfl ?_
            exact w_widen (Nat.le_of_ble_eq_true rfl) (Nat.le_of_ble_eq_true rfl) (vx_ret (co_iret E hr rfl hlk hC hS dX10_fill_98 ⟨(by rw [show fillC σ q st g = 0 by unfold fillC; rw [if_neg (by omega), if_neg (by omega)]]; rfl), congrArg (fun z => some (Value.int (iI z))) (by rw [← hi, sFl_s (by omega), if_pos k_66, if_pos (by omega)]), rfl, (fun q a c => (qx q a c).trans (hq q a c))⟩))
        · have k_66 : ¬ (σ 6 h) = st := fun z => c_66 (by rw [z])
          refine x_goto (tgt := 99) B dX10_fill_69 (by decide) ?_
          refine x_iinc B hl dX10_fill_99 rfl (by decide) (fun ls hl => ?_)
          refine x_goto (tgt := 33) B dX10_fill_102 (by decide) ?_
          first | (exact ih (h + 1) (sm + sSum (sFs σ h g) (σ 23 0).toNat) τ1 _ _ ls (fun q a c => (qx q a c).trans (hq q a c)) (by rw [← hi, sFl_s (h := h) (by omega), if_pos k_66, if_neg (by omega)]) hq2 hs2 (by omega) (by omega) (by omega) (by omega) (by omega) (by omega) hC hS (lv_key hl [(0, .ref (la 0 0)), (3, .int (iI g)), (4, .ref (la 9 q)), (5, .ref (la 4 st)), (6, .long (lI (sm + sSum (sFs σ h g) (σ 23 0).toNat))), (8, .int (iI (h + 1)))] rfl)) | (exact ih (h + 1) sm τ _ _ ls hq (by rw [← hi, sFl_s (h := h) (by omega), if_neg k_66]) hq2 hs2 (by omega) (by omega) (by omega) (by omega) (by omega) (by omega) hC hS (lv_key hl [(0, .ref (la 0 0)), (3, .int (iI g)), (4, .ref (la 9 q)), (5, .ref (la 4 st)), (6, .long (lI (sm))), (8, .int (iI (h + 1)))] rfl))
  refine x_aload_n B hl dX10_fill_0 rfl ?_
  refine x_iload_n B hl dX10_fill_1 rfl ?_
  refine ctm_call E hout hlk hK hC hS hl (κ := 0) (i := 0) (by decide) cl_0 rfl (c_cartAt l hlt D cy d0 A la _ (z := q) h_q (by omega) (by omega) hlg) (cwV 1 hts0 gX10_fill_X10_cartAt rfl rfl rfl (by decide +kernel) ⟨Nat.le_of_ble_eq_true rfl, Nat.le_of_ble_eq_true rfl⟩) rfl rfl (Nat.le_of_ble_eq_true rfl) dX10_fill_2 ⟨Nat.le_of_ble_eq_true rfl, Nat.le_of_ble_eq_true rfl⟩ ⟨Nat.le_of_ble_eq_true rfl, Nat.le_of_ble_eq_true rfl⟩ (fun h => ⟨by unfold fillC; omega, rfl⟩) (fun h9_2 H locs hq1 hC hS => ?_)
  refine x_astore B hl dX10_fill_5 (by decide) (fun ls hl => ?_)
  refine x_aload_n B hl dX10_fill_7 rfl ?_
  refine x_iload_n B hl dX10_fill_8 rfl ?_
  refine ctm_call E hout hlk hK hC hS hl (κ := 0) (i := 0) (by decide) cl_0 rfl (c_streetAt l hlt D cy d0 A la _ (z := st) h_st (by omega) (by omega) hlg) (cwV 1 hts0 gX10_fill_X10_streetAt rfl rfl rfl (by decide +kernel) ⟨Nat.le_of_ble_eq_true rfl, Nat.le_of_ble_eq_true rfl⟩) rfl rfl (Nat.le_of_ble_eq_true rfl) dX10_fill_9 ⟨Nat.le_of_ble_eq_true rfl, Nat.le_of_ble_eq_true rfl⟩ ⟨Nat.le_of_ble_eq_true rfl, Nat.le_of_ble_eq_true rfl⟩ (fun h => ⟨by unfold fillC; omega, rfl⟩) (fun h9_9 H locs hs1 hC hS => ?_)
  refine x_astore B hl dX10_fill_12 (by decide) (fun ls hl => ?_)
  refine x_iload_n B hl dX10_fill_14 rfl ?_
  refine z_call ⟨B.1, B.2, hml, hown, hts0⟩ hl (c_isGroup l (g := g) h_g) (va_cwS 1 hts0 gX10_fill_X10_isGroup rfl rfl rfl (by decide +kernel) ⟨Nat.le_of_ble_eq_true rfl, Nat.le_of_ble_eq_true rfl⟩) rfl rfl (Nat.le_of_ble_eq_true rfl) dX10_fill_15 ⟨Nat.le_of_ble_eq_true rfl, Nat.le_of_ble_eq_true rfl⟩ (fun q_15 => ?_)
  refine x_bool (fun b_15 => ?_) (fun b_15 => ?_)
  · refine cstm_call E hout hlk hK hC hS hl (c_require l hlt D cy d0 A la _ (z := 1) (Or.inr rfl)) (va_cwS 1 hts0 gX10_fill_X10_require rfl rfl rfl (by decide +kernel) ⟨Nat.le_of_ble_eq_true rfl, Nat.le_of_ble_eq_true rfl⟩) rfl rfl (Nat.le_of_ble_eq_true rfl) dX10_fill_18 ⟨Nat.le_of_ble_eq_true rfl, Nat.le_of_ble_eq_true rfl⟩ ⟨Nat.le_of_ble_eq_true rfl, Nat.le_of_ble_eq_true rfl⟩ (fun h => ⟨by unfold fillC; omega, rfl⟩) (fun h9_18 H locs q_18 hC hS => ?_)
    refine x_aload_n B hl dX10_fill_21 rfl ?_
    refine x_aload B hl dX10_fill_22 rfl ?_
    refine co_call E hK hC hS hl (κ := 0) (i := 0) (by decide) cl_0 rfl (c_halvesToday l D cy d0 A la σ (q := q) hq1 hn45 hn23 hlg ho hh hct) (cwV 1 hts0 gX10_fill_X10_halvesToday rfl rfl rfl (by decide +kernel) ⟨Nat.le_of_ble_eq_true rfl, Nat.le_of_ble_eq_true rfl⟩) rfl rfl (Nat.le_of_ble_eq_true rfl) dX10_fill_24 ⟨Nat.le_of_ble_eq_true rfl, Nat.le_of_ble_eq_true rfl⟩ (fun H locs q_h hC hS => ?_)
    refine x_i2l B dX10_fill_27 (by omega) ?_
    refine x_lstore B hl dX10_fill_28 (by decide) (fun ls hl => ?_)
    refine x_iconst B dX10_fill_30 ?_
    refine x_istore B hl dX10_fill_31 (by decide) (fun ls hl => ?_)
    exact w_widen (Nat.le_of_ble_eq_true rfl) (Nat.le_of_ble_eq_true rfl) (loop 1001 0 (sHalves σ q) σ _ _ ls (fun q _ _ => rfl) (by rw [Int.sub_zero]; rfl) hq1 hs1 (by omega) (by omega) (by omega) (by omega) (by omega) (by omega) hC hS (lv_key hl [(0, .ref (la 0 0)), (3, .int (iI g)), (4, .ref (la 9 q)), (5, .ref (la 4 st)), (6, .long (lI (sHalves σ q))), (8, .int (iI 0))] rfl))
  · refine cstm_call E hout hlk hK hC hS hl (c_require l hlt D cy d0 A la _ (z := 0) (Or.inl rfl)) (va_cwS 1 hts0 gX10_fill_X10_require rfl rfl rfl (by decide +kernel) ⟨Nat.le_of_ble_eq_true rfl, Nat.le_of_ble_eq_true rfl⟩) rfl rfl (Nat.le_of_ble_eq_true rfl) dX10_fill_18 ⟨Nat.le_of_ble_eq_true rfl, Nat.le_of_ble_eq_true rfl⟩ ⟨Nat.le_of_ble_eq_true rfl, Nat.le_of_ble_eq_true rfl⟩ (fun h => ⟨by unfold fillC; omega, rfl⟩) (fun h9_18 H locs q_18 hC hS => ?_)
    refine x_aload_n B hl dX10_fill_21 rfl ?_
    refine x_aload B hl dX10_fill_22 rfl ?_
    refine co_call E hK hC hS hl (κ := 0) (i := 0) (by decide) cl_0 rfl (c_halvesToday l D cy d0 A la σ (q := q) hq1 hn45 hn23 hlg ho hh hct) (cwV 1 hts0 gX10_fill_X10_halvesToday rfl rfl rfl (by decide +kernel) ⟨Nat.le_of_ble_eq_true rfl, Nat.le_of_ble_eq_true rfl⟩) rfl rfl (Nat.le_of_ble_eq_true rfl) dX10_fill_24 ⟨Nat.le_of_ble_eq_true rfl, Nat.le_of_ble_eq_true rfl⟩ (fun H locs q_h hC hS => ?_)
    refine x_i2l B dX10_fill_27 (by omega) ?_
    refine x_lstore B hl dX10_fill_28 (by decide) (fun ls hl => ?_)
    refine x_iconst B dX10_fill_30 ?_
    refine x_istore B hl dX10_fill_31 (by decide) (fun ls hl => ?_)
    exact w_widen (Nat.le_of_ble_eq_true rfl) (Nat.le_of_ble_eq_true rfl) (loop 1001 0 (sHalves σ q) σ _ _ ls (fun q _ _ => rfl) (by rw [Int.sub_zero]; rfl) hq1 hs1 (by omega) (by omega) (by omega) (by omega) (by omega) (by omega) hC hS (lv_key hl [(0, .ref (la 0 0)), (3, .int (iI g)), (4, .ref (la 9 q)), (5, .ref (la 4 st)), (6, .long (lI (sHalves σ q))), (8, .int (iI 0))] rfl))
