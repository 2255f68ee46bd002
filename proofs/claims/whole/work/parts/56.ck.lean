theorem eq5_2 {σ τ : MS} (h : ∀ q, q ≠ 55 → q ≠ 56 → τ q = σ q) : eq5 σ τ := fun f hf => h f (by omega) (by omega)
theorem sMid_q {σ τ : MS} (h35 : τ 35 = σ 35) (h36 : τ 36 = σ 36) (h38 : τ 38 = σ 38) (b : Int) : ∀ (t n : Nat) (r : Int → Int), sMid τ b t n r = sMid σ b t n r
  | 0, n, r => by rw [sMid, sMid]
  | t + 1, n, r => by
    rw [sMid, sMid, h35, h36, h38]
    by_cases h5 : 5 ≤ n
    · rw [if_pos h5, if_pos h5]
    · rw [if_neg h5, if_neg h5, sMid_q h35 h36 h38 b t, sMid_q h35 h36 h38 b t]
theorem sMiddle_5 {σ τ : MS} (h : eq5 σ τ) (b : Int) : sMiddle τ b = sMiddle σ b := by
  unfold sMiddle
  rw [h 45 (by decide)]
  exact sMid_q (h 35 (by decide)) (h 36 (by decide)) (h 38 (by decide)) b _ _ _
theorem c_groupOfKind5 (l : Launch) (D : va_G) (cy : Nat → ClassId) (d0 : Nat) (A : Nat → Prop) (la : Nat → Int → Nat) (σ τ : MS) (he : eq5 σ τ) {b : Int} (hb : 0 ≤ b ∧ b < σ 23 0) : CM l yX0_groupOfKind wsX0_groupOfKind ({ frames := 0, cells := 0, slots := 0, locals := 0 } : Room) D cy d0 A [.ref (la 6 b)] la τ (some (.int (iI (sGrp (σ 12 b))))) τ (0 ≤ sGrp (σ 12 b) ∧ sGrp (σ 12 b) ≤ 2) := by
  have h := c_groupOfKind l D cy d0 A la τ (b := b) (by rw [he 23 (by decide)]; exact hb)
  rw [he 12 (by decide)] at h
  exact h
theorem c_middleOf_r5 (l : Launch) (D : va_G) (cy : Nat → ClassId) (d0 : Nat) (A : Nat → Prop) (la : Nat → Int → Nat) (σ τ : MS) (he : eq5 σ τ) {b : Int} (hb : 0 ≤ b ∧ b < σ 23 0) (hn45 : 0 ≤ σ 45 0 ∧ σ 45 0 ≤ 600) (hn23 : 0 ≤ σ 23 0 ∧ σ 23 0 ≤ 1000) (hlg : σ 58 0 = 0 ∧ σ 59 0 = 0) (hh : ∀ t, 0 ≤ t → t < σ 45 0 → 0 ≤ σ 35 t ∧ σ 35 t ≤ 3000000) (hbn : ∀ t, 0 ≤ t → t < σ 45 0 → ¬ σ 36 t < 0 → 0 ≤ σ 36 t ∧ σ 36 t < σ 23 0) : CN l yX10_middleOf wsX10_middleOf ({ frames := 3, cells := 0, slots := 0, locals := 64 } : Room) D cy d0 A [.ref (la 0 0), .ref (la 6 b)] la τ (fun v' la' υ => v' = some (.int (iI (sMiddle σ b))) ∧ la' = la ∧ (∀ q, q ≠ 55 → q ≠ 56 → υ q = τ q) ∧ 0 ≤ sMiddle σ b ∧ sMiddle σ b ≤ 3000000) 0 0 := by
  have h := c_middleOf_r l D cy d0 A la τ (b := b) (by rw [he 23 (by decide)]; exact hb) (by rw [he 45 (by decide)]; exact hn45) (by rw [he 23 (by decide)]; exact hn23) (by rw [he 58 (by decide), he 59 (by decide)]; exact hlg) (by rw [he 45 (by decide), he 35 (by decide)]; exact hh) (by rw [he 45 (by decide), he 36 (by decide), he 23 (by decide)]; exact hbn)
  rw [sMiddle_5 he] at h
  exact h
set_option maxHeartbeats 4000000 in
set_option maxRecDepth 100000 in
theorem c_middlesAt (l : Launch) (D : va_G) (cy : Nat → ClassId) (d0 : Nat) (A : Nat → Prop) (la : Nat → Int → Nat) (σ : MS) {h g : Int} (hhh : 0 ≤ h ∧ h < σ 11 0) (hg : 0 ≤ g ∧ g ≤ 2) (hho : ∀ b, 0 ≤ b ∧ b < σ 23 0 → ¬ sHouse σ b (σ 1 0) < 0 → 0 ≤ sHouse σ b (σ 1 0) ∧ sHouse σ b (σ 1 0) < σ 11 0) (hn45 : 0 ≤ σ 45 0 ∧ σ 45 0 ≤ 600) (hn23 : 0 ≤ σ 23 0 ∧ σ 23 0 ≤ 1000) (hlg : σ 58 0 = 0 ∧ σ 59 0 = 0) (hh : ∀ t, 0 ≤ t → t < σ 45 0 → 0 ≤ σ 35 t ∧ σ 35 t ≤ 3000000) (hbn : ∀ t, 0 ≤ t → t < σ 45 0 → ¬ σ 36 t < 0 → 0 ≤ σ 36 t ∧ σ 36 t < σ 23 0) (hm : ∀ b, 0 ≤ σ 18 b ∧ σ 18 b ≤ 8) (hv : ∀ j, 0 ≤ σ 16 j) (hop : 0 ≤ σ 1 0 ∧ σ 1 0 ≤ 699) : CN l yX10_middlesAt wsX10_middlesAt ({ frames := 4, cells := 0, slots := 0, locals := 87 } : Room) D cy d0 A [.ref (la 0 0), .ref (la 5 h), .int (iI g)] la σ (fun v' la' τ => v' = some (.long (lI (sSum (sFs σ h g) (σ 23 0).toNat))) ∧ la' = la ∧ ∀ q, q ≠ 55 → q ≠ 56 → τ q = σ q) 0 0 := by
  refine cn_of (cc := cX10_middlesAt) (nL := 7) (ret := (some .long)) (by decide) rfl (Nat.le_of_ble_eq_true rfl) ?_
  intro p e s m args below meth c ls E hr hlk hK hC hS hl
  have B := E.1
  have hml := E.2.1
  have hown := E.2.2.1
  have hts0 := E.2.2.2.1
  have hts := E.2.2.2.1
  have hw := hC.2.2.2.2.2.1
  have loop : ∀ (n : Nat) (b : Int) (τ : MS) (H : Heap) (locs : List Loc) (ls : Array Slot) (hq : ∀ q, q ≠ 55 → q ≠ 56 → τ q = σ q), 0 ≤ b → b ≤ σ 23 0 → σ 23 0 - b < n → CP D cy d0 A la τ H → va_S A s.heap H locs → lv_has ls 7 [(0, .ref (la 0 0)), (1, .ref (la 5 h)), (2, .int (iI g)), (3, .long (lI (sSum (sFs σ h g) b.toNat))), (5, .int (iI b))] → W p l e ({ frames := 4, cells := 0, slots := 0, locals := 87 } : Room) s m args below meth c H locs 0 0 (MQ below (cQ D cy d0 A (fun v' la' τ => v' = some (.long (lI (sSum (sFs σ h g) (σ 23 0).toNat))) ∧ la' = la ∧ ∀ q, q ≠ 55 → q ≠ 56 → τ q = σ q)) args s 0 0 A) (F0 m 5 ls []) := by
    intro n
    induction n with
    | zero => intro b τ H locs ls hq h1 h2 h3; exact absurd h3 (by omega)
    | succ n ih =>
      intro b τ H locs ls hq h1 h2 h3 hC hS hl
      refine x_iload B hl dX10_middlesAt_5 rfl ?_
      refine x_aload_n B hl dX10_middlesAt_7 rfl ?_
      refine co_getR (x := la 11 2) E hC 0 (by decide) cl_0 rfl (fun z h => List.mem_cons_of_mem _ (List.mem_append_left _ (List.mem_append_left _ (List.mem_append_left _ (List.mem_append_left _ (List.mem_append_left _ (List.mem_append_right _ h))))))) 2 (by decide) (hts (.fieldLink RX10 19 "BinRounds" "bins" "Ljava/util/ArrayList;") (by decide +kernel)) (fun x hx => hx) dX10_middlesAt_8 rfl rfl ?_
      refine co_call E hK hC hS hl (κ := 11) (i := 2) (by decide) (cl_q (cLq_2 hq) (cl_11 (by omega))) rfl (c_size l D cy d0 A la _ (L := 2) (n := σ 23 0) (cl_q (cLq_2 hq) (cl_11 (by omega))) ((cSz_2 ((((congrFun (hq 59 (by decide) (by decide)) _).trans rfl)).trans hlg.2)).trans ((congrFun (hq 23 (by decide) (by decide)) _).trans rfl))) (cwV 0 hts0 gX10_middlesAt_Jx4a65c_size_8abf5 rfl rfl rfl (by decide +kernel) ⟨Nat.le_of_ble_eq_true rfl, Nat.le_of_ble_eq_true rfl⟩) rfl rfl (Nat.le_of_ble_eq_true rfl) dX10_middlesAt_11 ⟨Nat.zero_le _, Nat.zero_le _⟩ (fun H locs q_11 hC hS => ?_)
      refine x_icmp_ge (tgt := 69) B dX10_middlesAt_14 (by decide) (by omega) (by omega) (fun c_14 => ?_) (fun c_14 => ?_)
      · refine x_lload_n B hl dX10_middlesAt_69 rfl ?_
        exact co_lret E hr hlk hC hS dX10_middlesAt_70 ⟨by rw [show b = σ 23 0 by omega], rfl, hq⟩
      · refine x_aload_n B hl dX10_middlesAt_17 rfl ?_
        refine co_getR (x := la 11 2) E hC 0 (by decide) cl_0 rfl (fun z h => List.mem_cons_of_mem _ (List.mem_append_left _ (List.mem_append_left _ (List.mem_append_left _ (List.mem_append_left _ (List.mem_append_left _ (List.mem_append_right _ h))))))) 2 (by decide) (hts (.fieldLink RX10 19 "BinRounds" "bins" "Ljava/util/ArrayList;") (by decide +kernel)) (fun x hx => hx) dX10_middlesAt_18 rfl rfl ?_
        refine x_iload B hl dX10_middlesAt_21 rfl ?_
        refine co_call E hK hC hS hl (κ := 11) (i := 2) (by decide) (cl_q (cLq_2 hq) (cl_11 (by omega))) rfl (c_get l D cy d0 A la _ (L := 2) (n := σ 23 0) (j := b) (x := la 6 b) (cl_q (cLq_2 hq) (cl_11 (by omega))) ((cSz_2 ((((congrFun (hq 59 (by decide) (by decide)) _).trans rfl)).trans hlg.2)).trans ((congrFun (hq 23 (by decide) (by decide)) _).trans rfl)) (by omega) (by omega) rfl) (cwV 1 hts0 gX10_middlesAt_Jx4a65c_get_915e3 rfl rfl rfl (by decide +kernel) ⟨Nat.le_of_ble_eq_true rfl, Nat.le_of_ble_eq_true rfl⟩) rfl rfl (Nat.le_of_ble_eq_true rfl) dX10_middlesAt_23 ⟨Nat.zero_le _, Nat.zero_le _⟩ (fun H locs q_23 hC hS => ?_)
        refine co_cast E hK hC 6 (by decide) (cl_q (cLq_2 hq) (cl_6 (by omega))) rfl (by decide +kernel) dX10_middlesAt_26 ?_
        refine x_astore B hl dX10_middlesAt_29 (by decide) (fun ls hl => ?_)
        refine x_aload B hl dX10_middlesAt_31 rfl ?_
        refine co_call E hK hC hS hl (κ := 6) (i := b) (by decide) (cl_q (cLq_2 hq) (cl_6 (by omega))) rfl (c_groupOfKind5 l D cy d0 A la σ _ (eq5_2 hq) (b := b) (by omega)) (cwV 0 hts0 gX10_middlesAt_X0_groupOfKind rfl rfl rfl (by decide +kernel) ⟨Nat.le_of_ble_eq_true rfl, Nat.le_of_ble_eq_true rfl⟩) rfl rfl (Nat.le_of_ble_eq_true rfl) dX10_middlesAt_33 ⟨Nat.zero_le _, Nat.zero_le _⟩ (fun H locs q_33 hC hS => ?_)
        refine x_iload_n B hl dX10_middlesAt_36 rfl ?_
        refine x_icmp_ne (tgt := 63) B dX10_middlesAt_37 (by decide) (by omega) (by omega) (fun c_37 => ?_) (fun c_37 => ?_)
        · refine x_iinc B hl dX10_middlesAt_63 rfl (by decide) (fun ls hl => ?_)
          refine x_goto (tgt := 5) B dX10_middlesAt_66 (by decide) ?_
          first | (exact ih (b + 1) τ1 _ _ ls (fun q a c => (qx.1 q a c).trans (hq q a c)) (by omega) (by omega) (by omega) hC hS (lv_key hl [(0, .ref (la 0 0)), (1, .ref (la 5 h)), (2, .int (iI g)), (3, .long (lI (sSum (sFs σ h g) (b + 1).toNat))), (5, .int (iI (b + 1)))] (by rw [show sSum (sFs σ h g) (b + 1).toNat = sSum (sFs σ h g) b.toNat + sMiddle σ b from (sSum_s (by omega)).trans (congrArg _ (if_pos ⟨by omega, by omega⟩))]; rfl))) | (exact ih (b + 1) τ _ _ ls hq (by omega) (by omega) (by omega) hC hS (lv_key hl [(0, .ref (la 0 0)), (1, .ref (la 5 h)), (2, .int (iI g)), (3, .long (lI (sSum (sFs σ h g) (b + 1).toNat))), (5, .int (iI (b + 1)))] (by rw [show sSum (sFs σ h g) (b + 1).toNat = sSum (sFs σ h g) b.toNat from (sSum_s (by omega)).trans ((congrArg _ (if_neg (by omega))).trans (Int.add_zero _))]; rfl)))
        · refine x_aload B hl dX10_middlesAt_40 rfl ?_
          refine x_aload_n B hl dX10_middlesAt_42 rfl ?_
          refine co_geti (f := 1) E hC 0 (by decide) cl_0 rfl (fun z h => List.mem_cons_of_mem _ (List.mem_append_left _ (List.mem_append_left _ (List.mem_append_left _ (List.mem_append_left _ (List.mem_append_left _ (List.mem_append_right _ h))))))) 8 (by decide) (hts (.fieldLink RX10 49 "BinRounds" "open" "I") (by decide +kernel)) (fun x hx => hx) dX10_middlesAt_43 ⟨rfl, rfl, rfl⟩ ((congrFun (hq 1 (by decide) (by decide)) _).trans rfl) (fun r_43 => ?_)
          by_cases hx : sHouse σ b (σ 1 0) < 0
          · refine co_call E hK hC hS hl (κ := 6) (i := b) (by decide) (cl_q (cLq_2 hq) (cl_6 (by omega))) rfl (c_ownerOn_n5 l D cy d0 A la σ _ (eq5_2 hq) (b := b) (d := σ 1 0) (by omega) (by omega) (hm _) hv hx) (cwV 1 hts0 gX10_middlesAt_X0_ownerOn rfl rfl rfl (by decide +kernel) ⟨Nat.le_of_ble_eq_true rfl, Nat.le_of_ble_eq_true rfl⟩) rfl rfl (Nat.le_of_ble_eq_true rfl) dX10_middlesAt_46 ⟨Nat.zero_le _, Nat.zero_le _⟩ (fun H locs q_46 hC hS => ?_)
            refine x_aload_n B hl dX10_middlesAt_49 rfl ?_
            refine lv_acmp_ne (rx := none) (ry := (some (la 5 h))) (tgt := 63) B.1 B.2 dX10_middlesAt_50 (by decide) (fun c_50 => ?_) (fun c_50 => ?_)
            · refine x_iinc B hl dX10_middlesAt_63 rfl (by decide) (fun ls hl => ?_)
              refine x_goto (tgt := 5) B dX10_middlesAt_66 (by decide) ?_
              first | (exact ih (b + 1) τ1 _ _ ls (fun q a c => (qx.1 q a c).trans (hq q a c)) (by omega) (by omega) (by omega) hC hS (lv_key hl [(0, .ref (la 0 0)), (1, .ref (la 5 h)), (2, .int (iI g)), (3, .long (lI (sSum (sFs σ h g) (b + 1).toNat))), (5, .int (iI (b + 1)))] (by rw [show sSum (sFs σ h g) (b + 1).toNat = sSum (sFs σ h g) b.toNat + sMiddle σ b from (sSum_s (by omega)).trans (congrArg _ (if_pos ⟨by omega, by omega⟩))]; rfl))) | (exact ih (b + 1) τ _ _ ls hq (by omega) (by omega) (by omega) hC hS (lv_key hl [(0, .ref (la 0 0)), (1, .ref (la 5 h)), (2, .int (iI g)), (3, .long (lI (sSum (sFs σ h g) (b + 1).toNat))), (5, .int (iI (b + 1)))] (by rw [show sSum (sFs σ h g) (b + 1).toNat = sSum (sFs σ h g) b.toNat from (sSum_s (by omega)).trans ((congrArg _ (if_neg (by omega))).trans (Int.add_zero _))]; rfl)))
            · cases c_50
          · refine co_call E hK hC hS hl (κ := 6) (i := b) (by decide) (cl_q (cLq_2 hq) (cl_6 (by omega))) rfl (c_ownerOn_r5 l D cy d0 A la σ _ (eq5_2 hq) (b := b) (d := σ 1 0) (by omega) (by omega) (hm _) hv hx) (cwV 1 hts0 gX10_middlesAt_X0_ownerOn rfl rfl rfl (by decide +kernel) ⟨Nat.le_of_ble_eq_true rfl, Nat.le_of_ble_eq_true rfl⟩) rfl rfl (Nat.le_of_ble_eq_true rfl) dX10_middlesAt_46 ⟨Nat.zero_le _, Nat.zero_le _⟩ (fun H locs q_46 hC hS => ?_)
            refine x_aload_n B hl dX10_middlesAt_49 rfl ?_
            refine lv_acmp_ne (rx := (some (la 5 (sHouse σ b (σ 1 0))))) (ry := (some (la 5 h))) (tgt := 63) B.1 B.2 dX10_middlesAt_50 (by decide) (fun c_50 => ?_) (fun c_50 => ?_)
            · have k_50 : ¬ (sHouse σ b (σ 1 0)) = h := fun z => c_50 (by rw [z])
              refine x_iinc B hl dX10_middlesAt_63 rfl (by decide) (fun ls hl => ?_)
              refine x_goto (tgt := 5) B dX10_middlesAt_66 (by decide) ?_
              first | (exact ih (b + 1) τ1 _ _ ls (fun q a c => (qx.1 q a c).trans (hq q a c)) (by omega) (by omega) (by omega) hC hS (lv_key hl [(0, .ref (la 0 0)), (1, .ref (la 5 h)), (2, .int (iI g)), (3, .long (lI (sSum (sFs σ h g) (b + 1).toNat))), (5, .int (iI (b + 1)))] (by rw [show sSum (sFs σ h g) (b + 1).toNat = sSum (sFs σ h g) b.toNat + sMiddle σ b from (sSum_s (by omega)).trans (congrArg _ (if_pos ⟨by omega, by omega⟩))]; rfl))) | (exact ih (b + 1) τ _ _ ls hq (by omega) (by omega) (by omega) hC hS (lv_key hl [(0, .ref (la 0 0)), (1, .ref (la 5 h)), (2, .int (iI g)), (3, .long (lI (sSum (sFs σ h g) (b + 1).toNat))), (5, .int (iI (b + 1)))] (by rw [show sSum (sFs σ h g) (b + 1).toNat = sSum (sFs σ h g) b.toNat from (sSum_s (by omega)).trans ((congrArg _ (if_neg (by omega))).trans (Int.add_zero _))]; rfl)))
            · have k_50 : (sHouse σ b (σ 1 0)) = h := co_eq hC (by decide) (cl_q (cLq_2 hq) (cl_5 (hho b (by omega) hx))) (cl_q (cLq_2 hq) (cl_5 hhh)) c_50
              refine x_lload_n B hl dX10_middlesAt_53 rfl ?_
              refine x_aload_n B hl dX10_middlesAt_54 rfl ?_
              refine x_aload B hl dX10_middlesAt_55 rfl ?_
              refine co_callX E hK hC hS hl (κ := 0) (i := 0) (by decide) cl_0 rfl (c_middleOf_r5 l D cy d0 A la σ _ (eq5_2 hq) (b := b) (by omega) hn45 hn23 hlg hh hbn) (cwV 1 hts0 gX10_middlesAt_X10_middleOf rfl rfl rfl (by decide +kernel) ⟨Nat.le_of_ble_eq_true rfl, Nat.le_of_ble_eq_true rfl⟩) rfl rfl (Nat.le_of_ble_eq_true rfl) dX10_middlesAt_57 ⟨Nat.zero_le _, Nat.zero_le _⟩ (fun H locs τ1 qx hC hS => ?_)
              refine x_i2l B dX10_middlesAt_60 (by omega) ?_
              refine x_ladd B dX10_middlesAt_61 ?_
              refine x_lstore_n B hl dX10_middlesAt_62 (by decide) (fun ls hl => ?_)
              refine x_iinc B hl dX10_middlesAt_63 rfl (by decide) (fun ls hl => ?_)
              refine x_goto (tgt := 5) B dX10_middlesAt_66 (by decide) ?_
              first | (exact ih (b + 1) τ1 _ _ ls (fun q a c => (qx.1 q a c).trans (hq q a c)) (by omega) (by omega) (by omega) hC hS (lv_key hl [(0, .ref (la 0 0)), (1, .ref (la 5 h)), (2, .int (iI g)), (3, .long (lI (sSum (sFs σ h g) (b + 1).toNat))), (5, .int (iI (b + 1)))] (by rw [show sSum (sFs σ h g) (b + 1).toNat = sSum (sFs σ h g) b.toNat + sMiddle σ b from (sSum_s (by omega)).trans (congrArg _ (if_pos ⟨by omega, by omega⟩))]; rfl))) | (exact ih (b + 1) τ _ _ ls hq (by omega) (by omega) (by omega) hC hS (lv_key hl [(0, .ref (la 0 0)), (1, .ref (la 5 h)), (2, .int (iI g)), (3, .long (lI (sSum (sFs σ h g) (b + 1).toNat))), (5, .int (iI (b + 1)))] (by rw [show sSum (sFs σ h g) (b + 1).toNat = sSum (sFs σ h g) b.toNat from (sSum_s (by omega)).trans ((congrArg _ (if_neg (by omega))).trans (Int.add_zero _))]; rfl)))
  refine x_lconst B dX10_middlesAt_0 ?_
  refine x_lstore_n B hl dX10_middlesAt_1 (by decide) (fun ls hl => ?_)
  refine x_iconst B dX10_middlesAt_2 ?_
  refine x_istore B hl dX10_middlesAt_3 (by decide) (fun ls hl => ?_)
  exact loop 1001 0 σ _ _ ls (fun q _ _ => rfl) (by omega) (by omega) (by omega) hC hS (lv_key hl [(0, .ref (la 0 0)), (1, .ref (la 5 h)), (2, .int (iI g)), (3, .long (lI (sSum (sFs σ h g) (0 : Int).toNat))), (5, .int (iI 0))] rfl)
