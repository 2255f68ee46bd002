theorem c_takesBand_0 (l : Launch) (D : va_G) (cy : Nat → ClassId) (d0 : Nat) (A : Nat → Prop) (la : Nat → Int → Nat) (σ : MS) {h : Int} (hh : 0 ≤ h ∧ h < σ 11 0) (h7 : 0 ≤ σ 7 h) (hz : σ 7 h = 0) : CM l yX10_takesBand wsX10_takesBand ({ frames := 0, cells := 0, slots := 0, locals := 0 } : Room) D cy d0 A [.ref (la 5 h)] la σ (some (.int (iI 0))) σ True := by
  have h9 := c_takesBand_r l D cy d0 A la σ hh h7
  rw [if_pos hz, if_pos hz] at h9
  exact h9
theorem c_takesBand_1 (l : Launch) (D : va_G) (cy : Nat → ClassId) (d0 : Nat) (A : Nat → Prop) (la : Nat → Int → Nat) (σ : MS) {h : Int} (hh : 0 ≤ h ∧ h < σ 11 0) (h7 : 0 ≤ σ 7 h) (hz : ¬ σ 7 h = 0) : CM l yX10_takesBand wsX10_takesBand ({ frames := 0, cells := 0, slots := 0, locals := 0 } : Room) D cy d0 A [.ref (la 5 h)] la σ (some (.int (iI 1))) (up σ 7 h (σ 7 h - 1)) True := by
  have h9 := c_takesBand_r l D cy d0 A la σ hh h7
  rw [if_neg hz, if_neg hz] at h9
  exact h9
abbrev tkT (σ : MS) (t b : Int) : Prop := σ 41 t = 1 ∧ 3 ≤ σ 15 b
abbrev tkB (σ : MS) (t b : Int) : Prop := ¬ sHouse σ b (σ 32 t) < 0 ∧ ¬ σ 7 (sHouse σ b (σ 32 t)) = 0
def tkV (σ : MS) (t b : Int) : Int := if σ 12 b = 1 then (if tkT σ t b then 0 else 1) else if σ 12 b = 2 then (if tkT σ t b then 0 else -1) else if σ 12 b = 4 then (if tkB σ t b then -1 else 4) else σ 12 b
def tkS (σ : MS) (t b : Int) : MS := if σ 12 b = 4 ∧ tkB σ t b then up σ 7 (sHouse σ b (σ 32 t)) (σ 7 (sHouse σ b (σ 32 t)) - 1) else σ
theorem c_agrees_c (l : Launch) (D : va_G) (cy : Nat → ClassId) (d0 : Nat) (A : Nat → Prop) (la : Nat → Int → Nat) (σ τ : MS) (he : ∀ f, f ≠ 53 → f ≠ 54 → τ f = σ f) {q : Int} (hq : 0 ≤ q ∧ q < σ 27 0) (hn45 : 0 ≤ σ 45 0 ∧ σ 45 0 ≤ 600) (hn23 : 0 ≤ σ 23 0 ∧ σ 23 0 ≤ 1000) (hlg : σ 58 0 = 0 ∧ σ 59 0 = 0) (ho : sOrd σ) (hh : ∀ t, 0 ≤ t → t < σ 45 0 → 0 ≤ σ 35 t ∧ σ 35 t ≤ 3000000) (hct : ∀ t, 0 ≤ t → t < σ 45 0 → 0 ≤ σ 33 t ∧ σ 33 t < σ 27 0) (htol : 0 ≤ σ 31 0 ∧ σ 31 0 ≤ 1000) (hgt : -1 ≤ σ 26 q ∧ σ 26 q ≤ 1000000) : CM l yX10_agrees wsX10_agrees ({ frames := 5, cells := 0, slots := 0, locals := 108 } : Room) D cy d0 A [.ref (la 0 0), .ref (la 9 q)] la τ (some (.int (iI (if sAgr σ q then 1 else 0)))) τ True := by
  have e1 := he 1 (by decide) (by decide)
  have e23 := he 23 (by decide) (by decide)
  have e26 := he 26 (by decide) (by decide)
  have e27 := he 27 (by decide) (by decide)
  have e31 := he 31 (by decide) (by decide)
  have e32 := he 32 (by decide) (by decide)
  have e33 := he 33 (by decide) (by decide)
  have e35 := he 35 (by decide) (by decide)
  have e45 := he 45 (by decide) (by decide)
  have e58 := he 58 (by decide) (by decide)
  have e59 := he 59 (by decide) (by decide)
  have h9 := c_agrees l D cy d0 A la τ (q := q) (by rw [e27]; exact hq) (by rw [e45]; exact hn45) (by rw [e23]; exact hn23) (by rw [e58, e59]; exact hlg) (by unfold sOrd; rw [e1, e32, e45]; exact ho) (by rw [e35, e45]; exact hh) (by rw [e33, e45, e27]; exact hct) (by rw [e31]; exact htol) (by rw [e26]; exact hgt)
  have hs : sHalves τ q = sHalves σ q := by
    unfold sHalves
    rw [e45]
    exact sHt_c e32 e1 e33 e35 q _
  have ha : sAgr τ q ↔ sAgr σ q := by
    unfold sAgr
    rw [hs, e26, e31]
  have e : (if sAgr τ q then (1 : Int) else 0) = if sAgr σ q then 1 else 0 := by
    by_cases h : sAgr σ q
    · rw [if_pos h, if_pos (ha.mpr h)]
    · rw [if_neg h, if_neg (fun z => h (ha.mp z))]
  rw [e] at h9
  exact h9
set_option maxHeartbeats 4000000 in
set_option maxRecDepth 100000 in
theorem c_payableLater (l : Launch) (D : va_G) (cy : Nat → ClassId) (d0 : Nat) (A : Nat → Prop) (la : Nat → Int → Nat) (σ : MS) {t : Int} (ht : 0 ≤ t ∧ t < σ 45 0) (hn45 : 0 ≤ σ 45 0 ∧ σ 45 0 ≤ 600) (hn23 : 0 ≤ σ 23 0 ∧ σ 23 0 ≤ 1000) (hlg : σ 58 0 = 0 ∧ σ 59 0 = 0) (h39 : ∀ j, 0 ≤ σ 39 j ∧ σ 39 j ≤ 3000000) (h35 : 0 ≤ σ 35 t ∧ σ 35 t ≤ 3000000) (h44 : -1 ≤ σ 44 t ∧ σ 44 t ≤ 1000000) (hct : ∀ t, 0 ≤ t → t < σ 45 0 → 0 ≤ σ 33 t ∧ σ 33 t < σ 27 0) : CM l yX10_payableLater wsX10_payableLater ({ frames := 3, cells := 0, slots := 0, locals := 64 } : Room) D cy d0 A [.ref (la 0 0), .ref (la 10 t)] la σ (some (.int (iI (if 0 ≤ σ 44 t then (if σ 44 t - sOth σ t < σ 35 t then σ 44 t - sOth σ t else σ 35 t) else σ 35 t)))) (σ) (-2147483648 ≤ (if 0 ≤ σ 44 t then (if σ 44 t - sOth σ t < σ 35 t then σ 44 t - sOth σ t else σ 35 t) else σ 35 t) ∧ (if 0 ≤ σ 44 t then (if σ 44 t - sOth σ t < σ 35 t then σ 44 t - sOth σ t else σ 35 t) else σ 35 t) < 2147483648) := by
  refine cn_of (cc := cX10_payableLater) (nL := 5) (ret := (some .int)) (by decide) rfl (Nat.le_of_ble_eq_true rfl) ?_
  intro p e s m args below meth c ls E hr hlk hK hC hS hl
  have B := E.1
  have hml := E.2.1
  have hown := E.2.2.1
  have hts0 := E.2.2.2.1
  have hts := E.2.2.2.1
  have hw := hC.2.2.2.2.2.1
  have hS9 : ∀ n : Nat, 0 ≤ sSum (sOt σ t) n ∧ sSum (sOt σ t) n ≤ 3000000 * n := fun n => sSum_r (f := sOt σ t) (M := 3000000) (fun j => by have h9 := h39 j; unfold sOt; split <;> omega) n
  have loop : ∀ (n : Nat) (u : Int) (H : Heap) (locs : List Loc) (ls : Array Slot), 0 ≤ u → u ≤ σ 45 0 → 0 ≤ σ 44 t → σ 45 0 - u < n → CP D cy d0 A la σ H → va_S A s.heap H locs → lv_has ls 5 [(0, .ref (la 0 0)), (1, .ref (la 10 t)), (2, .int (iI (σ 44 t - sSum (sOt σ t) u.toNat))), (3, .int (iI u))] → W p l e ({ frames := 3, cells := 0, slots := 0, locals := 64 } : Room) s m args below meth c H locs 0 0 (MQ below (cQ D cy d0 A (fun v' la' τ => v' = (some (.int (iI (if 0 ≤ σ 44 t then (if σ 44 t - sOth σ t < σ 35 t then σ 44 t - sOth σ t else σ 35 t) else σ 35 t)))) ∧ la' = la ∧ τ = (σ) ∧ (-2147483648 ≤ (if 0 ≤ σ 44 t then (if σ 44 t - sOth σ t < σ 35 t then σ 44 t - sOth σ t else σ 35 t) else σ 35 t) ∧ (if 0 ≤ σ 44 t then (if σ 44 t - sOth σ t < σ 35 t then σ 44 t - sOth σ t else σ 35 t) else σ 35 t) < 2147483648))) args s 0 0 A) (F0 m 20 ls []) := by
    intro n
    induction n with
    | zero => intro u H locs ls h1 h2 h3 h4; exact absurd h4 (by omega)
    | succ n ih =>
      intro u H locs ls h1 h2 h3 h4 hC hS hl
      have hs9 := hS9 u.toNat
      refine x_iload_n B hl dX10_payableLater_20 rfl ?_
      refine x_aload_n B hl dX10_payableLater_21 rfl ?_
      refine co_getR (x := la 11 4) E hC 0 (by decide) cl_0 rfl (fun z h => List.mem_cons_of_mem _ (List.mem_append_left _ (List.mem_append_right _ h))) 4 (by decide) (hts (.fieldLink RX10 25 "BinRounds" "tips" "Ljava/util/ArrayList;") (by decide +kernel)) (fun x hx => hx) dX10_payableLater_22 rfl rfl ?_
      refine co_call E hK hC hS hl (κ := 11) (i := 4) (by decide) (cl_11 (by omega)) rfl (c_size l D cy d0 A la _ (L := 4) (n := σ 45 0) (cl_11 (by omega)) ((cSz_4 ((rfl).trans hlg.1)).trans rfl)) (cwV 0 hts0 gX10_payableLater_Jx4a65c_size_8abf5 rfl rfl rfl (by decide +kernel) ⟨Nat.le_of_ble_eq_true rfl, Nat.le_of_ble_eq_true rfl⟩) rfl rfl (Nat.le_of_ble_eq_true rfl) dX10_payableLater_25 ⟨Nat.zero_le _, Nat.zero_le _⟩ (fun H locs q_25 hC hS => ?_)
      refine x_icmp_ge (tgt := 88) B dX10_payableLater_28 (by decide) (by omega) (by omega) (fun c_28 => ?_) (fun c_28 => ?_)
      · refine x_aload_n B hl dX10_payableLater_88 rfl ?_
        refine co_geti (f := 35) E hC 10 (by decide) (cl_10 ht) rfl (fun z h => List.mem_cons_of_mem _ (List.mem_append_left _ (List.mem_append_left _ (List.mem_append_right _ h)))) 3 (by decide) (hts (.fieldLink RX10 219 "BinRounds$Tip" "halves" "I") (by decide +kernel)) (fun x hx => hx) dX10_payableLater_89 ⟨rfl, rfl, rfl⟩ rfl (fun r_89 => ?_)
        refine x_iload_n B hl dX10_payableLater_92 rfl ?_
        refine x_mmin (z := (if σ 44 t - sSum (sOt σ t) u.toNat < σ 35 t then σ 44 t - sSum (sOt σ t) u.toNat else σ 35 t)) E hl (by decide +kernel) (by decide +kernel) (by decide +kernel) (by decide +kernel) (Nat.le_of_ble_eq_true rfl) (Nat.le_of_ble_eq_true rfl) (Nat.zero_le _) (Nat.zero_le _) (by omega) (by omega) dX10_payableLater_93 rfl ?_
        have hx : sSum (sOt σ t) u.toNat = sOth σ t := by rw [show u = σ 45 0 by omega]; rfl
        rw [hx]
        exact cm_iret E hr rfl hlk hC hS dX10_payableLater_96 (by rw [if_pos (show 0 ≤ σ 44 t from h3)]) rfl (by rw [if_pos (show 0 ≤ σ 44 t from h3)]; have h8 : 0 ≤ sOth σ t ∧ sOth σ t ≤ 3000000 * ((σ 45 0).toNat : Int) := hS9 _; omega)
      · refine x_aload_n B hl dX10_payableLater_31 rfl ?_
        refine co_getR (x := la 11 4) E hC 0 (by decide) cl_0 rfl (fun z h => List.mem_cons_of_mem _ (List.mem_append_left _ (List.mem_append_right _ h))) 4 (by decide) (hts (.fieldLink RX10 25 "BinRounds" "tips" "Ljava/util/ArrayList;") (by decide +kernel)) (fun x hx => hx) dX10_payableLater_32 rfl rfl ?_
        refine x_iload_n B hl dX10_payableLater_35 rfl ?_
        refine co_call E hK hC hS hl (κ := 11) (i := 4) (by decide) (cl_11 (by omega)) rfl (c_get l D cy d0 A la _ (L := 4) (n := σ 45 0) (j := u) (x := la 10 u) (cl_11 (by omega)) ((cSz_4 ((rfl).trans hlg.1)).trans rfl) (by omega) (by omega) rfl) (cwV 1 hts0 gX10_payableLater_Jx4a65c_get_915e3 rfl rfl rfl (by decide +kernel) ⟨Nat.le_of_ble_eq_true rfl, Nat.le_of_ble_eq_true rfl⟩) rfl rfl (Nat.le_of_ble_eq_true rfl) dX10_payableLater_36 ⟨Nat.zero_le _, Nat.zero_le _⟩ (fun H locs q_36 hC hS => ?_)
        refine co_cast E hK hC 10 (by decide) (cl_10 (by omega)) rfl (by decide +kernel) dX10_payableLater_39 ?_
        refine x_astore B hl dX10_payableLater_42 (by decide) (fun ls hl => ?_)
        refine x_aload B hl dX10_payableLater_44 rfl ?_
        refine x_aload_n B hl dX10_payableLater_46 rfl ?_
        refine lv_acmp_eq (rx := (some (la 10 u))) (ry := (some (la 10 t))) (tgt := 82) B.1 B.2 dX10_payableLater_47 (by decide) (fun c_47 => ?_) (fun c_47 => ?_)
        · have k_47 : u = t := co_eq hC (by decide) (cl_10 (by omega)) (cl_10 ht) c_47
          refine x_iinc B hl dX10_payableLater_82 rfl (by decide) (fun ls hl => ?_)
          refine x_goto (tgt := 20) B dX10_payableLater_85 (by decide) ?_
          exact ih (u + 1) H locs ls (by omega) (by omega) (by omega) (by omega) (hC) hS (lv_key hl [(0, .ref (la 0 0)), (1, .ref (la 10 t)), (2, .int (iI (σ 44 t - sSum (sOt σ t) (u + 1).toNat))), (3, .int (iI (u + 1)))] (by first | (rw [show sSum (sOt σ t) (u + 1).toNat = sSum (sOt σ t) u.toNat + σ 39 u from (sSum_s (by omega)).trans (congrArg _ (if_pos ⟨by omega, by omega, by omega⟩)), ← Int.sub_sub]; rfl) | (rw [show sSum (sOt σ t) (u + 1).toNat = sSum (sOt σ t) u.toNat from (sSum_s (by omega)).trans ((congrArg _ (if_neg (by omega))).trans (Int.add_zero _))]; rfl)))
        · have k_47 : ¬ u = t := fun z => c_47 (by rw [z])
          refine x_aload B hl dX10_payableLater_50 rfl ?_
          refine co_getR (x := la 9 (σ 33 u)) E hC 10 (by decide) (cl_10 (by omega)) rfl (fun z h => List.mem_cons_of_mem _ (List.mem_append_left _ (List.mem_append_left _ (List.mem_append_right _ h)))) 1 (by decide) (hts (.fieldLink RX10 253 "BinRounds$Tip" "carrier" "LBinRounds$Cart;") (by decide +kernel)) (fun x hx => hx) dX10_payableLater_52 rfl rfl ?_
          refine x_aload_n B hl dX10_payableLater_55 rfl ?_
          refine co_getR (x := la 9 (σ 33 t)) E hC 10 (by decide) (cl_10 ht) rfl (fun z h => List.mem_cons_of_mem _ (List.mem_append_left _ (List.mem_append_left _ (List.mem_append_right _ h)))) 1 (by decide) (hts (.fieldLink RX10 253 "BinRounds$Tip" "carrier" "LBinRounds$Cart;") (by decide +kernel)) (fun x hx => hx) dX10_payableLater_56 rfl rfl ?_
          refine lv_acmp_ne (rx := (some (la 9 (σ 33 u)))) (ry := (some (la 9 (σ 33 t)))) (tgt := 82) B.1 B.2 dX10_payableLater_59 (by decide) (fun c_59 => ?_) (fun c_59 => ?_)
          · have k_59 : ¬ (σ 33 u) = (σ 33 t) := fun z => c_59 (by rw [z])
            refine x_iinc B hl dX10_payableLater_82 rfl (by decide) (fun ls hl => ?_)
            refine x_goto (tgt := 20) B dX10_payableLater_85 (by decide) ?_
            exact ih (u + 1) H locs ls (by omega) (by omega) (by omega) (by omega) (hC) hS (lv_key hl [(0, .ref (la 0 0)), (1, .ref (la 10 t)), (2, .int (iI (σ 44 t - sSum (sOt σ t) (u + 1).toNat))), (3, .int (iI (u + 1)))] (by first | (rw [show sSum (sOt σ t) (u + 1).toNat = sSum (sOt σ t) u.toNat + σ 39 u from (sSum_s (by omega)).trans (congrArg _ (if_pos ⟨by omega, by omega, by omega⟩)), ← Int.sub_sub]; rfl) | (rw [show sSum (sOt σ t) (u + 1).toNat = sSum (sOt σ t) u.toNat from (sSum_s (by omega)).trans ((congrArg _ (if_neg (by omega))).trans (Int.add_zero _))]; rfl)))
          · have k_59 : (σ 33 u) = (σ 33 t) := co_eq hC (by decide) (cl_9 (hct u (by omega) (by omega))) (cl_9 (hct t ht.1 ht.2)) c_59
            refine x_aload B hl dX10_payableLater_62 rfl ?_
            refine co_geti (f := 32) E hC 10 (by decide) (cl_10 (by omega)) rfl (fun z h => List.mem_cons_of_mem _ (List.mem_append_left _ (List.mem_append_left _ (List.mem_append_right _ h)))) 0 (by decide) (hts (.fieldLink RX10 229 "BinRounds$Tip" "day" "I") (by decide +kernel)) (fun x hx => hx) dX10_payableLater_64 ⟨rfl, rfl, rfl⟩ rfl (fun r_64 => ?_)
            refine x_aload_n B hl dX10_payableLater_67 rfl ?_
            refine co_geti (f := 32) E hC 10 (by decide) (cl_10 ht) rfl (fun z h => List.mem_cons_of_mem _ (List.mem_append_left _ (List.mem_append_left _ (List.mem_append_right _ h)))) 0 (by decide) (hts (.fieldLink RX10 229 "BinRounds$Tip" "day" "I") (by decide +kernel)) (fun x hx => hx) dX10_payableLater_68 ⟨rfl, rfl, rfl⟩ rfl (fun r_68 => ?_)
            refine x_icmp_ne (tgt := 82) B dX10_payableLater_71 (by decide) (by omega) (by omega) (fun c_71 => ?_) (fun c_71 => ?_)
            · refine x_iinc B hl dX10_payableLater_82 rfl (by decide) (fun ls hl => ?_)
              refine x_goto (tgt := 20) B dX10_payableLater_85 (by decide) ?_
              exact ih (u + 1) H locs ls (by omega) (by omega) (by omega) (by omega) (hC) hS (lv_key hl [(0, .ref (la 0 0)), (1, .ref (la 10 t)), (2, .int (iI (σ 44 t - sSum (sOt σ t) (u + 1).toNat))), (3, .int (iI (u + 1)))] (by first | (rw [show sSum (sOt σ t) (u + 1).toNat = sSum (sOt σ t) u.toNat + σ 39 u from (sSum_s (by omega)).trans (congrArg _ (if_pos ⟨by omega, by omega, by omega⟩)), ← Int.sub_sub]; rfl) | (rw [show sSum (sOt σ t) (u + 1).toNat = sSum (sOt σ t) u.toNat from (sSum_s (by omega)).trans ((congrArg _ (if_neg (by omega))).trans (Int.add_zero _))]; rfl)))
            · refine x_iload_n B hl dX10_payableLater_74 rfl ?_
              refine x_aload B hl dX10_payableLater_75 rfl ?_
              refine co_geti (f := 39) E hC 10 (by decide) (cl_10 (by omega)) rfl (fun z h => List.mem_cons_of_mem _ (List.mem_append_left _ (List.mem_append_left _ (List.mem_append_right _ h)))) 7 (by decide) (hts (.fieldLink RX10 260 "BinRounds$Tip" "paid" "I") (by decide +kernel)) (fun x hx => hx) dX10_payableLater_77 ⟨rfl, rfl, rfl⟩ rfl (fun r_77 => ?_)
              refine x_isub B dX10_payableLater_80 ?_
              refine x_istore_n B hl dX10_payableLater_81 (by decide) (fun ls hl => ?_)
              refine x_iinc B hl dX10_payableLater_82 rfl (by decide) (fun ls hl => ?_)
              refine x_goto (tgt := 20) B dX10_payableLater_85 (by decide) ?_
              exact ih (u + 1) H locs ls (by omega) (by omega) (by omega) (by omega) (hC) hS (lv_key hl [(0, .ref (la 0 0)), (1, .ref (la 10 t)), (2, .int (iI (σ 44 t - sSum (sOt σ t) (u + 1).toNat))), (3, .int (iI (u + 1)))] (by first | (rw [show sSum (sOt σ t) (u + 1).toNat = sSum (sOt σ t) u.toNat + σ 39 u from (sSum_s (by omega)).trans (congrArg _ (if_pos ⟨by omega, by omega, by omega⟩)), ← Int.sub_sub]; rfl) | (rw [show sSum (sOt σ t) (u + 1).toNat = sSum (sOt σ t) u.toNat from (sSum_s (by omega)).trans ((congrArg _ (if_neg (by omega))).trans (Int.add_zero _))]; rfl)))
  refine x_aload_n B hl dX10_payableLater_0 rfl ?_
  refine co_geti (f := 44) E hC 10 (by decide) (cl_10 ht) rfl (fun z h => List.mem_cons_of_mem _ (List.mem_append_left _ (List.mem_append_left _ (List.mem_append_right _ h)))) 8 (by decide) (hts (.fieldLink RX10 266 "BinRounds$Tip" "cap" "I") (by decide +kernel)) (fun x hx => hx) dX10_payableLater_1 ⟨rfl, rfl, rfl⟩ rfl (fun r_1 => ?_)
  refine x_iconst B dX10_payableLater_4 ?_
  refine x_icmp_ne (tgt := 13) B dX10_payableLater_5 (by decide) (by omega) (by omega) (fun c_5 => ?_) (fun c_5 => ?_)
  · have hcap : 0 ≤ σ 44 t := by omega
    refine x_aload_n B hl dX10_payableLater_13 rfl ?_
    refine co_geti (f := 44) E hC 10 (by decide) (cl_10 ht) rfl (fun z h => List.mem_cons_of_mem _ (List.mem_append_left _ (List.mem_append_left _ (List.mem_append_right _ h)))) 8 (by decide) (hts (.fieldLink RX10 266 "BinRounds$Tip" "cap" "I") (by decide +kernel)) (fun x hx => hx) dX10_payableLater_14 ⟨rfl, rfl, rfl⟩ rfl (fun r_14 => ?_)
    refine x_istore_n B hl dX10_payableLater_17 (by decide) (fun ls hl => ?_)
    refine x_iconst B dX10_payableLater_18 ?_
    refine x_istore_n B hl dX10_payableLater_19 (by decide) (fun ls hl => ?_)
    exact loop 601 0 _ _ ls (by omega) (by omega) (by omega) (by omega) (hC) hS (lv_key hl [(0, .ref (la 0 0)), (1, .ref (la 10 t)), (2, .int (iI (σ 44 t - sSum (sOt σ t) (0 : Int).toNat))), (3, .int (iI 0))] (by rw [show sSum (sOt σ t) (0 : Int).toNat = 0 from rfl, Int.sub_zero]; rfl))
  · refine x_aload_n B hl dX10_payableLater_8 rfl ?_
    refine co_geti (f := 35) E hC 10 (by decide) (cl_10 ht) rfl (fun z h => List.mem_cons_of_mem _ (List.mem_append_left _ (List.mem_append_left _ (List.mem_append_right _ h)))) 3 (by decide) (hts (.fieldLink RX10 219 "BinRounds$Tip" "halves" "I") (by decide +kernel)) (fun x hx => hx) dX10_payableLater_9 ⟨rfl, rfl, rfl⟩ rfl (fun r_9 => ?_)
    exact cm_iret E hr rfl hlk hC hS dX10_payableLater_12 (by rw [if_neg (by omega)]) rfl (by rw [if_neg (by omega)]; omega)
set_option maxHeartbeats 4000000 in
set_option maxRecDepth 100000 in
theorem c_readGates (l : Launch) (D : va_G) (cy : Nat → ClassId) (d0 : Nat) (A : Nat → Prop) (la : Nat → Int → Nat) (σ : MS)  (hn27 : 0 ≤ σ 27 0 ∧ σ 27 0 ≤ 1000) (hn45 : 0 ≤ σ 45 0 ∧ σ 45 0 ≤ 600) (hn23 : 0 ≤ σ 23 0 ∧ σ 23 0 ≤ 1000) (hlg : σ 58 0 = 0 ∧ σ 59 0 = 0) (ho : sOrd σ) (hh : ∀ t, 0 ≤ t → t < σ 45 0 → 0 ≤ σ 35 t ∧ σ 35 t ≤ 3000000) (hct : ∀ t, 0 ≤ t → t < σ 45 0 → 0 ≤ σ 33 t ∧ σ 33 t < σ 27 0) (htol : 0 ≤ σ 31 0 ∧ σ 31 0 ≤ 1000) (hgt : ∀ q, -1 ≤ σ 26 q ∧ σ 26 q ≤ 1000000) : CM l yX10_readGates wsX10_readGates ({ frames := 6, cells := 0, slots := 0, locals := 131 } : Room) D cy d0 A [.ref (la 0 0)] la σ (none) (rGt σ (σ 27 0).toNat) (True) := by
  refine cn_of (cc := cX10_readGates) (nL := 3) (ret := none) (by decide) rfl (Nat.le_of_ble_eq_true rfl) ?_
  intro p e s m args below meth c ls E hr hlk hK hC hS hl
  have B := E.1
  have hml := E.2.1
  have hown := E.2.2.1
  have hts0 := E.2.2.2.1
  have hts := E.2.2.2.1
  have hw := hC.2.2.2.2.2.1
  have loop : ∀ (n : Nat) (k : Int) (H : Heap) (locs : List Loc) (ls : Array Slot), 0 ≤ k → k ≤ σ 27 0 → σ 27 0 - k < n → CP D cy d0 A la (rGt σ k.toNat) H → va_S A s.heap H locs → lv_has ls 3 [(0, .ref (la 0 0)), (1, .int (iI k))] → W p l e ({ frames := 6, cells := 0, slots := 0, locals := 131 } : Room) s m args below meth c H locs 0 0 (MQ below (cQ D cy d0 A (fun v' la' τ => v' = (none) ∧ la' = la ∧ τ = (rGt σ (σ 27 0).toNat) ∧ (True))) args s 0 0 A) (F0 m 2 ls []) := by
    intro n
    induction n with
    | zero => intro k H locs ls h1 h2 h3; exact absurd h3 (by omega)
    | succ n ih =>
      intro k H locs ls h1 h2 h3 hC hS hl
      refine x_iload_n B hl dX10_readGates_2 rfl ?_
      refine x_aload_n B hl dX10_readGates_3 rfl ?_
      refine co_getR (x := la 11 3) E hC 0 (by decide) cl_0 rfl (fun z h => List.mem_cons_of_mem _ (List.mem_append_left _ (List.mem_append_left _ (List.mem_append_left _ (List.mem_append_right _ h))))) 3 (by decide) (hts (.fieldLink RX10 22 "BinRounds" "carts" "Ljava/util/ArrayList;") (by decide +kernel)) (fun x hx => hx) dX10_readGates_4 rfl rfl ?_
      refine co_call E hK hC hS hl (κ := 11) (i := 3) (by decide) (cl_q (rGt_q k.toNat) (cl_11 (by omega))) rfl (c_size l D cy d0 A la _ (L := 3) (n := σ 27 0) (cl_q (rGt_q k.toNat) (cl_11 (by omega))) (cSz_3.trans ((congrFun (rGt_f (by decide) (by decide) k.toNat) _).trans rfl))) (cwV 0 hts0 gX10_readGates_Jx4a65c_size_8abf5 rfl rfl rfl (by decide +kernel) ⟨Nat.le_of_ble_eq_true rfl, Nat.le_of_ble_eq_true rfl⟩) rfl rfl (Nat.le_of_ble_eq_true rfl) dX10_readGates_7 ⟨Nat.zero_le _, Nat.zero_le _⟩ (fun H locs q_7 hC hS => ?_)
      refine x_icmp_ge (tgt := 56) B dX10_readGates_10 (by decide) (by omega) (by omega) (fun c_10 => ?_) (fun c_10 => ?_)
      · exact cm_vret E hr hlk hC hS dX10_readGates_56 (by rw [show k = σ 27 0 by omega]) trivial
      · refine x_aload_n B hl dX10_readGates_13 rfl ?_
        refine co_getR (x := la 11 3) E hC 0 (by decide) cl_0 rfl (fun z h => List.mem_cons_of_mem _ (List.mem_append_left _ (List.mem_append_left _ (List.mem_append_left _ (List.mem_append_right _ h))))) 3 (by decide) (hts (.fieldLink RX10 22 "BinRounds" "carts" "Ljava/util/ArrayList;") (by decide +kernel)) (fun x hx => hx) dX10_readGates_14 rfl rfl ?_
        refine x_iload_n B hl dX10_readGates_17 rfl ?_
        refine co_call E hK hC hS hl (κ := 11) (i := 3) (by decide) (cl_q (rGt_q k.toNat) (cl_11 (by omega))) rfl (c_get l D cy d0 A la _ (L := 3) (n := σ 27 0) (j := k) (x := la 9 k) (cl_q (rGt_q k.toNat) (cl_11 (by omega))) (cSz_3.trans ((congrFun (rGt_f (by decide) (by decide) k.toNat) _).trans rfl)) (by omega) (by omega) rfl) (cwV 1 hts0 gX10_readGates_Jx4a65c_get_915e3 rfl rfl rfl (by decide +kernel) ⟨Nat.le_of_ble_eq_true rfl, Nat.le_of_ble_eq_true rfl⟩) rfl rfl (Nat.le_of_ble_eq_true rfl) dX10_readGates_18 ⟨Nat.zero_le _, Nat.zero_le _⟩ (fun H locs q_18 hC hS => ?_)
        refine co_cast E hK hC 9 (by decide) (cl_q (rGt_q k.toNat) (cl_9 (by omega))) rfl (by decide +kernel) dX10_readGates_21 ?_
        refine x_astore_n B hl dX10_readGates_24 (by decide) (fun ls hl => ?_)
        refine x_aload_n B hl dX10_readGates_25 rfl ?_
        refine x_aload_n B hl dX10_readGates_26 rfl ?_
        refine x_aload_n B hl dX10_readGates_27 rfl ?_
        refine co_call E hK hC hS hl (κ := 0) (i := 0) (by decide) cl_0 rfl (c_agrees_c l D cy d0 A la σ _ (fun f a b => rGt_f a b k.toNat) (q := k) (by omega) hn45 hn23 hlg ho hh hct htol (hgt k)) (cwV 1 hts0 gX10_readGates_X10_agrees rfl rfl rfl (by decide +kernel) ⟨Nat.le_of_ble_eq_true rfl, Nat.le_of_ble_eq_true rfl⟩) rfl rfl (Nat.le_of_ble_eq_true rfl) dX10_readGates_28 ⟨Nat.zero_le _, Nat.zero_le _⟩ (fun H locs q_28 hC hS => ?_)
        refine x_bool (fun b_28 => ?_) (fun b_28 => ?_)
        · refine x_if_ne_t (tgt := 38) B dX10_readGates_31 (by decide) (by decide) ?_
          refine x_iconst B dX10_readGates_38 ?_
          refine co_putb (f := 53) E hC hS 9 (by decide) (cl_q (rGt_q k.toNat) (cl_9 (by omega))) rfl (fun z h => List.mem_cons_of_mem _ (List.mem_append_left _ (List.mem_append_left _ (List.mem_append_right _ h)))) tyX2 tyX2_ok nmX2 4 (by decide) (hts (.fieldLink RX10 422 "BinRounds$Cart" "isCapped" "Z") (by decide +kernel)) (fun x hx => hx) rfl rfl dX10_readGates_39 (by decide) ⟨rfl, rfl, rfl, rfl⟩ (by omega) (fun H locs hC hS => ?_)
          refine x_aload_n B hl dX10_readGates_42 rfl ?_
          refine x_aload_n B hl dX10_readGates_43 rfl ?_
          refine co_geti (f := 26) E hC 9 (by decide) (cl_up (by decide) (cl_q (rGt_q k.toNat) (cl_9 (by omega)))) rfl (fun z h => List.mem_cons_of_mem _ (List.mem_append_left _ (List.mem_append_left _ (List.mem_append_right _ h)))) 3 (by decide) (hts (.fieldLink RX10 240 "BinRounds$Cart" "gateHalves" "I") (by decide +kernel)) (fun x hx => hx) dX10_readGates_44 ⟨rfl, rfl, rfl⟩ (up_ne (by decide) ((congrFun (rGt_f (by decide) (by decide) k.toNat) _).trans rfl)) (fun r_44 => ?_)
          refine co_puti (f := 54) E hC hS 9 (by decide) (cl_up (by decide) (cl_q (rGt_q k.toNat) (cl_9 (by omega)))) rfl (fun z h => List.mem_cons_of_mem _ (List.mem_append_left _ (List.mem_append_left _ (List.mem_append_right _ h)))) tyX2 tyX2_ok nmX2 5 (by decide) (hts (.fieldLink RX10 425 "BinRounds$Cart" "left" "I") (by decide +kernel)) (fun x hx => hx) rfl rfl dX10_readGates_47 (by decide) ⟨rfl, rfl, rfl, rfl⟩ (by omega) (fun H locs hC hS => ?_)
          refine x_iinc B hl dX10_readGates_50 rfl (by decide) (fun ls hl => ?_)
          refine x_goto (tgt := 2) B dX10_readGates_53 (by decide) ?_
          exact ih (k + 1) H locs ls (by omega) (by omega) (by omega) ((by rw [rGt_s (by omega)]; first | (rw [if_pos b_28]; exact hC) | (rw [if_neg b_28]; exact hC))) hS (lv_key hl [(0, .ref (la 0 0)), (1, .int (iI (k + 1)))] rfl)
        · refine x_if_ne_f (tgt := 38) B dX10_readGates_31 (by decide) (by decide) ?_
          refine x_iconst B dX10_readGates_34 ?_
          refine x_goto (tgt := 39) B dX10_readGates_35 (by decide) ?_
          refine co_putb (f := 53) E hC hS 9 (by decide) (cl_q (rGt_q k.toNat) (cl_9 (by omega))) rfl (fun z h => List.mem_cons_of_mem _ (List.mem_append_left _ (List.mem_append_left _ (List.mem_append_right _ h)))) tyX2 tyX2_ok nmX2 4 (by decide) (hts (.fieldLink RX10 422 "BinRounds$Cart" "isCapped" "Z") (by decide +kernel)) (fun x hx => hx) rfl rfl dX10_readGates_39 (by decide) ⟨rfl, rfl, rfl, rfl⟩ (by omega) (fun H locs hC hS => ?_)
          refine x_aload_n B hl dX10_readGates_42 rfl ?_
          refine x_aload_n B hl dX10_readGates_43 rfl ?_
          refine co_geti (f := 26) E hC 9 (by decide) (cl_up (by decide) (cl_q (rGt_q k.toNat) (cl_9 (by omega)))) rfl (fun z h => List.mem_cons_of_mem _ (List.mem_append_left _ (List.mem_append_left _ (List.mem_append_right _ h)))) 3 (by decide) (hts (.fieldLink RX10 240 "BinRounds$Cart" "gateHalves" "I") (by decide +kernel)) (fun x hx => hx) dX10_readGates_44 ⟨rfl, rfl, rfl⟩ (up_ne (by decide) ((congrFun (rGt_f (by decide) (by decide) k.toNat) _).trans rfl)) (fun r_44 => ?_)
          refine co_puti (f := 54) E hC hS 9 (by decide) (cl_up (by decide) (cl_q (rGt_q k.toNat) (cl_9 (by omega)))) rfl (fun z h => List.mem_cons_of_mem _ (List.mem_append_left _ (List.mem_append_left _ (List.mem_append_right _ h)))) tyX2 tyX2_ok nmX2 5 (by decide) (hts (.fieldLink RX10 425 "BinRounds$Cart" "left" "I") (by decide +kernel)) (fun x hx => hx) rfl rfl dX10_readGates_47 (by decide) ⟨rfl, rfl, rfl, rfl⟩ (by omega) (fun H locs hC hS => ?_)
          refine x_iinc B hl dX10_readGates_50 rfl (by decide) (fun ls hl => ?_)
          refine x_goto (tgt := 2) B dX10_readGates_53 (by decide) ?_
          exact ih (k + 1) H locs ls (by omega) (by omega) (by omega) ((by rw [rGt_s (by omega)]; first | (rw [if_pos b_28]; exact hC) | (rw [if_neg b_28]; exact hC))) hS (lv_key hl [(0, .ref (la 0 0)), (1, .int (iI (k + 1)))] rfl)
  refine x_iconst B dX10_readGates_0 ?_
  refine x_istore_n B hl dX10_readGates_1 (by decide) (fun ls hl => ?_)
  exact loop 1001 0 _ _ ls (by omega) (by omega) (by omega) (hC) hS (lv_key hl [(0, .ref (la 0 0)), (1, .int (iI 0))] rfl)
set_option maxHeartbeats 4000000 in
set_option maxRecDepth 100000 in
theorem c_tableKind (l : Launch) (D : va_G) (cy : Nat → ClassId) (d0 : Nat) (A : Nat → Prop) (la : Nat → Int → Nat) (σ : MS) {t b : Int} (ht : 0 ≤ t ∧ t < σ 45 0) (hb : 0 ≤ b ∧ b < σ 23 0) (hho : ¬ sHouse σ b (σ 32 t) < 0 → 0 ≤ sHouse σ b (σ 32 t) ∧ sHouse σ b (σ 32 t) < σ 11 0) (h7 : ∀ j, 0 ≤ σ 7 j) (hk : 0 ≤ σ 12 b ∧ σ 12 b ≤ 4) (hd : 0 ≤ σ 32 t ∧ σ 32 t ≤ 699) (hm : ∀ b, 0 ≤ σ 18 b ∧ σ 18 b ≤ 8) (hv : ∀ j, 0 ≤ σ 16 j) : CM l yX10_tableKind wsX10_tableKind ({ frames := 4, cells := 0, slots := 0, locals := 86 } : Room) D cy d0 A [.ref (la 0 0), .ref (la 10 t), .ref (la 6 b)] la σ (some (.int (iI (tkV σ t b)))) (tkS σ t b) (-1 ≤ tkV σ t b ∧ tkV σ t b ≤ 4) := by
  refine cn_of (cc := cX10_tableKind) (nL := 4) (ret := (some .int)) (by decide) rfl (Nat.le_of_ble_eq_true rfl) ?_
  intro p e s m args below meth c ls E hr hlk hK hC hS hl
  have B := E.1
  have hml := E.2.1
  have hown := E.2.2.1
  have hts0 := E.2.2.2.1
  have hts := E.2.2.2.1
  have hw := hC.2.2.2.2.2.1
  refine x_aload_n B hl dX10_tableKind_0 rfl ?_
  refine co_getb (f := 41) E hC 10 (by decide) (cl_10 ht) rfl (fun z h => List.mem_cons_of_mem _ (List.mem_append_left _ (List.mem_append_left _ (List.mem_append_left _ (List.mem_append_left _ (List.mem_append_right _ h)))))) 10 (by decide) (hts (.fieldLink RX10 235 "BinRounds$Tip" "isWrong" "Z") (by decide +kernel)) (fun x hx => hx) dX10_tableKind_1 ⟨rfl, rfl, rfl⟩ rfl (fun r_1 => ?_)
  refine x_if_eq (tgt := 19) B dX10_tableKind_4 (by decide) (by omega) (fun c_4 => ?_) (fun c_4 => ?_)
  · refine x_iconst B dX10_tableKind_19 ?_
    refine x_istore_n B hl dX10_tableKind_20 (by decide) (fun ls hl => ?_)
    refine x_aload_n B hl dX10_tableKind_21 rfl ?_
    refine co_geti (f := 12) E hC 6 (by decide) (cl_6 hb) rfl (fun z h => List.mem_cons_of_mem _ (List.mem_append_left _ (List.mem_append_left _ (List.mem_append_left _ (List.mem_append_right _ h))))) 1 (by decide) (hts (.fieldLink RX10 158 "BinRounds$Bin" "kind" "I") (by decide +kernel)) (fun x hx => hx) dX10_tableKind_22 ⟨rfl, rfl, rfl⟩ rfl (fun r_22 => ?_)
    rcases (show σ 12 b = 1 ∨ σ 12 b = 2 ∨ σ 12 b = 3 ∨ σ 12 b = 4 ∨ (σ 12 b < 1 ∨ 4 < σ 12 b) by omega) with hsw | hsw | hsw | hsw | hsw
    · refine x_tswIn (off := 31) (tgt := 56) B dX10_tableKind_25 hsw (by decide) (by decide) rfl (by decide) ?_
      refine x_iload_n B hl dX10_tableKind_56 rfl ?_
      refine x_if_eq_t (tgt := 64) B dX10_tableKind_57 (by decide) (by decide) ?_
      refine x_iconst B dX10_tableKind_64 ?_
      have hv9 : tkV σ t b = (1) := by unfold tkV tkB tkT; omega
      exact cm_iret E hr rfl hlk hC hS dX10_tableKind_65 (by rw [hv9]) (by unfold tkS tkB; first | (rw [if_neg (by omega)]; done) | (rw [if_pos (by omega)]; done)) (by rw [hv9]; omega)
    · refine x_tswIn (off := 41) (tgt := 66) B dX10_tableKind_25 hsw (by decide) (by decide) rfl (by decide) ?_
      refine x_iload_n B hl dX10_tableKind_66 rfl ?_
      refine x_if_eq_t (tgt := 74) B dX10_tableKind_67 (by decide) (by decide) ?_
      refine x_iconst B dX10_tableKind_74 ?_
      have hv9 : tkV σ t b = (-1) := by unfold tkV tkB tkT; omega
      exact cm_iret E hr rfl hlk hC hS dX10_tableKind_75 (by rw [hv9]) (by unfold tkS tkB; first | (rw [if_neg (by omega)]; done) | (rw [if_pos (by omega)]; done)) (by rw [hv9]; omega)
    · refine x_tswIn (off := 71) (tgt := 96) B dX10_tableKind_25 hsw (by decide) (by decide) rfl (by decide) ?_
      refine x_aload_n B hl dX10_tableKind_96 rfl ?_
      refine co_geti (f := 12) E hC 6 (by decide) (cl_6 hb) rfl (fun z h => List.mem_cons_of_mem _ (List.mem_append_left _ (List.mem_append_left _ (List.mem_append_left _ (List.mem_append_right _ h))))) 1 (by decide) (hts (.fieldLink RX10 158 "BinRounds$Bin" "kind" "I") (by decide +kernel)) (fun x hx => hx) dX10_tableKind_97 ⟨rfl, rfl, rfl⟩ rfl (fun r_97 => ?_)
      have hv9 : tkV σ t b = (σ 12 b) := by unfold tkV tkB tkT; omega
      exact cm_iret E hr rfl hlk hC hS dX10_tableKind_100 (by rw [hv9]) (by unfold tkS tkB; first | (rw [if_neg (by omega)]; done) | (rw [if_pos (by omega)]; done)) (by rw [hv9]; omega)
    · refine x_tswIn (off := 51) (tgt := 76) B dX10_tableKind_25 hsw (by decide) (by decide) rfl (by decide) ?_
      refine x_aload_n B hl dX10_tableKind_76 rfl ?_
      refine x_aload_n B hl dX10_tableKind_77 rfl ?_
      refine co_geti (f := 32) E hC 10 (by decide) (cl_10 ht) rfl (fun z h => List.mem_cons_of_mem _ (List.mem_append_left _ (List.mem_append_left _ (List.mem_append_left _ (List.mem_append_left _ (List.mem_append_right _ h)))))) 0 (by decide) (hts (.fieldLink RX10 229 "BinRounds$Tip" "day" "I") (by decide +kernel)) (fun x hx => hx) dX10_tableKind_78 ⟨rfl, rfl, rfl⟩ rfl (fun r_78 => ?_)
      by_cases hx : sHouse σ b (σ 32 t) < 0
      · refine co_call E hK hC hS hl (κ := 6) (i := b) (by decide) (cl_6 hb) rfl (c_ownerOn_n l D cy d0 A la σ (b := b) (d := σ 32 t) hb (by omega) (hm _) hv hx) (cwV 1 hts0 gX10_tableKind_X0_ownerOn rfl rfl rfl (by decide +kernel) ⟨Nat.le_of_ble_eq_true rfl, Nat.le_of_ble_eq_true rfl⟩) rfl rfl (Nat.le_of_ble_eq_true rfl) dX10_tableKind_81 ⟨Nat.zero_le _, Nat.zero_le _⟩ (fun H locs q_81 hC hS => ?_)
        refine cs_call E hK hC hS hl (c_takesBand_n l D cy d0 A la σ) (va_cwS 1 hts0 gX10_tableKind_X10_takesBand rfl rfl rfl (by decide +kernel) ⟨Nat.le_of_ble_eq_true rfl, Nat.le_of_ble_eq_true rfl⟩) rfl rfl (Nat.le_of_ble_eq_true rfl) dX10_tableKind_84 ⟨Nat.zero_le _, Nat.zero_le _⟩ (fun H locs q_84 hC hS => ?_)
        refine x_if_eq_t (tgt := 94) B dX10_tableKind_87 (by decide) (by decide) ?_
        refine x_iconst B dX10_tableKind_94 ?_
        have hv9 : tkV σ t b = (4) := by unfold tkV tkB tkT; omega
        exact cm_iret E hr rfl hlk hC hS dX10_tableKind_95 (by rw [hv9]) (by unfold tkS tkB; first | (rw [if_neg (by omega)]; done) | (rw [if_pos (by omega)]; done)) (by rw [hv9]; omega)
      · refine co_call E hK hC hS hl (κ := 6) (i := b) (by decide) (cl_6 hb) rfl (c_ownerOn_r l D cy d0 A la σ (b := b) (d := σ 32 t) hb (by omega) (hm _) hv hx) (cwV 1 hts0 gX10_tableKind_X0_ownerOn rfl rfl rfl (by decide +kernel) ⟨Nat.le_of_ble_eq_true rfl, Nat.le_of_ble_eq_true rfl⟩) rfl rfl (Nat.le_of_ble_eq_true rfl) dX10_tableKind_81 ⟨Nat.zero_le _, Nat.zero_le _⟩ (fun H locs q_81 hC hS => ?_)
        by_cases hz : σ 7 (sHouse σ b (σ 32 t)) = 0
        · refine cs_call E hK hC hS hl (c_takesBand_0 l D cy d0 A la σ (hho hx) (h7 _) hz) (va_cwS 1 hts0 gX10_tableKind_X10_takesBand rfl rfl rfl (by decide +kernel) ⟨Nat.le_of_ble_eq_true rfl, Nat.le_of_ble_eq_true rfl⟩) rfl rfl (Nat.le_of_ble_eq_true rfl) dX10_tableKind_84 ⟨Nat.zero_le _, Nat.zero_le _⟩ (fun H locs q_84 hC hS => ?_)
          refine x_if_eq_t (tgt := 94) B dX10_tableKind_87 (by decide) (by decide) ?_
          refine x_iconst B dX10_tableKind_94 ?_
          have hv9 : tkV σ t b = (4) := by unfold tkV tkB tkT; omega
          exact cm_iret E hr rfl hlk hC hS dX10_tableKind_95 (by rw [hv9]) (by unfold tkS tkB; first | (rw [if_neg (by omega)]; done) | (rw [if_pos (by omega)]; done)) (by rw [hv9]; omega)
        · refine cs_call E hK hC hS hl (c_takesBand_1 l D cy d0 A la σ (hho hx) (h7 _) hz) (va_cwS 1 hts0 gX10_tableKind_X10_takesBand rfl rfl rfl (by decide +kernel) ⟨Nat.le_of_ble_eq_true rfl, Nat.le_of_ble_eq_true rfl⟩) rfl rfl (Nat.le_of_ble_eq_true rfl) dX10_tableKind_84 ⟨Nat.zero_le _, Nat.zero_le _⟩ (fun H locs q_84 hC hS => ?_)
          refine x_if_eq_f (tgt := 94) B dX10_tableKind_87 (by decide) (by decide) ?_
          refine x_iconst B dX10_tableKind_90 ?_
          refine x_goto (tgt := 95) B dX10_tableKind_91 (by decide) ?_
          have hv9 : tkV σ t b = (-1) := by unfold tkV tkB tkT; omega
          exact cm_iret E hr rfl hlk hC hS dX10_tableKind_95 (by rw [hv9]) (by unfold tkS tkB; first | (rw [if_neg (by omega)]; done) | (rw [if_pos (by omega)]; done)) (by rw [hv9]; omega)
    · refine lv_tableOut (tgt := 96) B.1 B.2 dX10_tableKind_25 (by rw [iI_toInt r_22]; omega) (by decide) ?_
      refine x_aload_n B hl dX10_tableKind_96 rfl ?_
      refine co_geti (f := 12) E hC 6 (by decide) (cl_6 hb) rfl (fun z h => List.mem_cons_of_mem _ (List.mem_append_left _ (List.mem_append_left _ (List.mem_append_left _ (List.mem_append_right _ h))))) 1 (by decide) (hts (.fieldLink RX10 158 "BinRounds$Bin" "kind" "I") (by decide +kernel)) (fun x hx => hx) dX10_tableKind_97 ⟨rfl, rfl, rfl⟩ rfl (fun r_97 => ?_)
      have hv9 : tkV σ t b = (σ 12 b) := by unfold tkV tkB tkT; omega
      exact cm_iret E hr rfl hlk hC hS dX10_tableKind_100 (by rw [hv9]) (by unfold tkS tkB; first | (rw [if_neg (by omega)]; done) | (rw [if_pos (by omega)]; done)) (by rw [hv9]; omega)
  · refine x_aload_n B hl dX10_tableKind_7 rfl ?_
    refine co_geti (f := 15) E hC 6 (by decide) (cl_6 hb) rfl (fun z h => List.mem_cons_of_mem _ (List.mem_append_left _ (List.mem_append_left _ (List.mem_append_left _ (List.mem_append_right _ h))))) 6 (by decide) (hts (.fieldLink RX10 357 "BinRounds$Bin" "wrongs" "I") (by decide +kernel)) (fun x hx => hx) dX10_tableKind_8 ⟨rfl, rfl, rfl⟩ rfl (fun r_8 => ?_)
    refine x_iconst B dX10_tableKind_11 ?_
    refine x_icmp_lt (tgt := 19) B dX10_tableKind_12 (by decide) (by omega) (by omega) (fun c_12 => ?_) (fun c_12 => ?_)
    · refine x_iconst B dX10_tableKind_19 ?_
      refine x_istore_n B hl dX10_tableKind_20 (by decide) (fun ls hl => ?_)
      refine x_aload_n B hl dX10_tableKind_21 rfl ?_
      refine co_geti (f := 12) E hC 6 (by decide) (cl_6 hb) rfl (fun z h => List.mem_cons_of_mem _ (List.mem_append_left _ (List.mem_append_left _ (List.mem_append_left _ (List.mem_append_right _ h))))) 1 (by decide) (hts (.fieldLink RX10 158 "BinRounds$Bin" "kind" "I") (by decide +kernel)) (fun x hx => hx) dX10_tableKind_22 ⟨rfl, rfl, rfl⟩ rfl (fun r_22 => ?_)
      rcases (show σ 12 b = 1 ∨ σ 12 b = 2 ∨ σ 12 b = 3 ∨ σ 12 b = 4 ∨ (σ 12 b < 1 ∨ 4 < σ 12 b) by omega) with hsw | hsw | hsw | hsw | hsw
      · refine x_tswIn (off := 31) (tgt := 56) B dX10_tableKind_25 hsw (by decide) (by decide) rfl (by decide) ?_
        refine x_iload_n B hl dX10_tableKind_56 rfl ?_
        refine x_if_eq_t (tgt := 64) B dX10_tableKind_57 (by decide) (by decide) ?_
        refine x_iconst B dX10_tableKind_64 ?_
        have hv9 : tkV σ t b = (1) := by unfold tkV tkB tkT; omega
        exact cm_iret E hr rfl hlk hC hS dX10_tableKind_65 (by rw [hv9]) (by unfold tkS tkB; first | (rw [if_neg (by omega)]; done) | (rw [if_pos (by omega)]; done)) (by rw [hv9]; omega)
      · refine x_tswIn (off := 41) (tgt := 66) B dX10_tableKind_25 hsw (by decide) (by decide) rfl (by decide) ?_
        refine x_iload_n B hl dX10_tableKind_66 rfl ?_
        refine x_if_eq_t (tgt := 74) B dX10_tableKind_67 (by decide) (by decide) ?_
        refine x_iconst B dX10_tableKind_74 ?_
        have hv9 : tkV σ t b = (-1) := by unfold tkV tkB tkT; omega
        exact cm_iret E hr rfl hlk hC hS dX10_tableKind_75 (by rw [hv9]) (by unfold tkS tkB; first | (rw [if_neg (by omega)]; done) | (rw [if_pos (by omega)]; done)) (by rw [hv9]; omega)
      · refine x_tswIn (off := 71) (tgt := 96) B dX10_tableKind_25 hsw (by decide) (by decide) rfl (by decide) ?_
        refine x_aload_n B hl dX10_tableKind_96 rfl ?_
        refine co_geti (f := 12) E hC 6 (by decide) (cl_6 hb) rfl (fun z h => List.mem_cons_of_mem _ (List.mem_append_left _ (List.mem_append_left _ (List.mem_append_left _ (List.mem_append_right _ h))))) 1 (by decide) (hts (.fieldLink RX10 158 "BinRounds$Bin" "kind" "I") (by decide +kernel)) (fun x hx => hx) dX10_tableKind_97 ⟨rfl, rfl, rfl⟩ rfl (fun r_97 => ?_)
        have hv9 : tkV σ t b = (σ 12 b) := by unfold tkV tkB tkT; omega
        exact cm_iret E hr rfl hlk hC hS dX10_tableKind_100 (by rw [hv9]) (by unfold tkS tkB; first | (rw [if_neg (by omega)]; done) | (rw [if_pos (by omega)]; done)) (by rw [hv9]; omega)
      · refine x_tswIn (off := 51) (tgt := 76) B dX10_tableKind_25 hsw (by decide) (by decide) rfl (by decide) ?_
        refine x_aload_n B hl dX10_tableKind_76 rfl ?_
        refine x_aload_n B hl dX10_tableKind_77 rfl ?_
        refine co_geti (f := 32) E hC 10 (by decide) (cl_10 ht) rfl (fun z h => List.mem_cons_of_mem _ (List.mem_append_left _ (List.mem_append_left _ (List.mem_append_left _ (List.mem_append_left _ (List.mem_append_right _ h)))))) 0 (by decide) (hts (.fieldLink RX10 229 "BinRounds$Tip" "day" "I") (by decide +kernel)) (fun x hx => hx) dX10_tableKind_78 ⟨rfl, rfl, rfl⟩ rfl (fun r_78 => ?_)
        by_cases hx : sHouse σ b (σ 32 t) < 0
        · refine co_call E hK hC hS hl (κ := 6) (i := b) (by decide) (cl_6 hb) rfl (c_ownerOn_n l D cy d0 A la σ (b := b) (d := σ 32 t) hb (by omega) (hm _) hv hx) (cwV 1 hts0 gX10_tableKind_X0_ownerOn rfl rfl rfl (by decide +kernel) ⟨Nat.le_of_ble_eq_true rfl, Nat.le_of_ble_eq_true rfl⟩) rfl rfl (Nat.le_of_ble_eq_true rfl) dX10_tableKind_81 ⟨Nat.zero_le _, Nat.zero_le _⟩ (fun H locs q_81 hC hS => ?_)
          refine cs_call E hK hC hS hl (c_takesBand_n l D cy d0 A la σ) (va_cwS 1 hts0 gX10_tableKind_X10_takesBand rfl rfl rfl (by decide +kernel) ⟨Nat.le_of_ble_eq_true rfl, Nat.le_of_ble_eq_true rfl⟩) rfl rfl (Nat.le_of_ble_eq_true rfl) dX10_tableKind_84 ⟨Nat.zero_le _, Nat.zero_le _⟩ (fun H locs q_84 hC hS => ?_)
          refine x_if_eq_t (tgt := 94) B dX10_tableKind_87 (by decide) (by decide) ?_
          refine x_iconst B dX10_tableKind_94 ?_
          have hv9 : tkV σ t b = (4) := by unfold tkV tkB tkT; omega
          exact cm_iret E hr rfl hlk hC hS dX10_tableKind_95 (by rw [hv9]) (by unfold tkS tkB; first | (rw [if_neg (by omega)]; done) | (rw [if_pos (by omega)]; done)) (by rw [hv9]; omega)
        · refine co_call E hK hC hS hl (κ := 6) (i := b) (by decide) (cl_6 hb) rfl (c_ownerOn_r l D cy d0 A la σ (b := b) (d := σ 32 t) hb (by omega) (hm _) hv hx) (cwV 1 hts0 gX10_tableKind_X0_ownerOn rfl rfl rfl (by decide +kernel) ⟨Nat.le_of_ble_eq_true rfl, Nat.le_of_ble_eq_true rfl⟩) rfl rfl (Nat.le_of_ble_eq_true rfl) dX10_tableKind_81 ⟨Nat.zero_le _, Nat.zero_le _⟩ (fun H locs q_81 hC hS => ?_)
          by_cases hz : σ 7 (sHouse σ b (σ 32 t)) = 0
          · refine cs_call E hK hC hS hl (c_takesBand_0 l D cy d0 A la σ (hho hx) (h7 _) hz) (va_cwS 1 hts0 gX10_tableKind_X10_takesBand rfl rfl rfl (by decide +kernel) ⟨Nat.le_of_ble_eq_true rfl, Nat.le_of_ble_eq_true rfl⟩) rfl rfl (Nat.le_of_ble_eq_true rfl) dX10_tableKind_84 ⟨Nat.zero_le _, Nat.zero_le _⟩ (fun H locs q_84 hC hS => ?_)
            refine x_if_eq_t (tgt := 94) B dX10_tableKind_87 (by decide) (by decide) ?_
            refine x_iconst B dX10_tableKind_94 ?_
            have hv9 : tkV σ t b = (4) := by unfold tkV tkB tkT; omega
            exact cm_iret E hr rfl hlk hC hS dX10_tableKind_95 (by rw [hv9]) (by unfold tkS tkB; first | (rw [if_neg (by omega)]; done) | (rw [if_pos (by omega)]; done)) (by rw [hv9]; omega)
          · refine cs_call E hK hC hS hl (c_takesBand_1 l D cy d0 A la σ (hho hx) (h7 _) hz) (va_cwS 1 hts0 gX10_tableKind_X10_takesBand rfl rfl rfl (by decide +kernel) ⟨Nat.le_of_ble_eq_true rfl, Nat.le_of_ble_eq_true rfl⟩) rfl rfl (Nat.le_of_ble_eq_true rfl) dX10_tableKind_84 ⟨Nat.zero_le _, Nat.zero_le _⟩ (fun H locs q_84 hC hS => ?_)
            refine x_if_eq_f (tgt := 94) B dX10_tableKind_87 (by decide) (by decide) ?_
            refine x_iconst B dX10_tableKind_90 ?_
            refine x_goto (tgt := 95) B dX10_tableKind_91 (by decide) ?_
            have hv9 : tkV σ t b = (-1) := by unfold tkV tkB tkT; omega
            exact cm_iret E hr rfl hlk hC hS dX10_tableKind_95 (by rw [hv9]) (by unfold tkS tkB; first | (rw [if_neg (by omega)]; done) | (rw [if_pos (by omega)]; done)) (by rw [hv9]; omega)
      · refine lv_tableOut (tgt := 96) B.1 B.2 dX10_tableKind_25 (by rw [iI_toInt r_22]; omega) (by decide) ?_
        refine x_aload_n B hl dX10_tableKind_96 rfl ?_
        refine co_geti (f := 12) E hC 6 (by decide) (cl_6 hb) rfl (fun z h => List.mem_cons_of_mem _ (List.mem_append_left _ (List.mem_append_left _ (List.mem_append_left _ (List.mem_append_right _ h))))) 1 (by decide) (hts (.fieldLink RX10 158 "BinRounds$Bin" "kind" "I") (by decide +kernel)) (fun x hx => hx) dX10_tableKind_97 ⟨rfl, rfl, rfl⟩ rfl (fun r_97 => ?_)
        have hv9 : tkV σ t b = (σ 12 b) := by unfold tkV tkB tkT; omega
        exact cm_iret E hr rfl hlk hC hS dX10_tableKind_100 (by rw [hv9]) (by unfold tkS tkB; first | (rw [if_neg (by omega)]; done) | (rw [if_pos (by omega)]; done)) (by rw [hv9]; omega)
    · refine x_iconst B dX10_tableKind_15 ?_
      refine x_goto (tgt := 20) B dX10_tableKind_16 (by decide) ?_
      refine x_istore_n B hl dX10_tableKind_20 (by decide) (fun ls hl => ?_)
      refine x_aload_n B hl dX10_tableKind_21 rfl ?_
      refine co_geti (f := 12) E hC 6 (by decide) (cl_6 hb) rfl (fun z h => List.mem_cons_of_mem _ (List.mem_append_left _ (List.mem_append_left _ (List.mem_append_left _ (List.mem_append_right _ h))))) 1 (by decide) (hts (.fieldLink RX10 158 "BinRounds$Bin" "kind" "I") (by decide +kernel)) (fun x hx => hx) dX10_tableKind_22 ⟨rfl, rfl, rfl⟩ rfl (fun r_22 => ?_)
      rcases (show σ 12 b = 1 ∨ σ 12 b = 2 ∨ σ 12 b = 3 ∨ σ 12 b = 4 ∨ (σ 12 b < 1 ∨ 4 < σ 12 b) by omega) with hsw | hsw | hsw | hsw | hsw
      · refine x_tswIn (off := 31) (tgt := 56) B dX10_tableKind_25 hsw (by decide) (by decide) rfl (by decide) ?_
        refine x_iload_n B hl dX10_tableKind_56 rfl ?_
        refine x_if_eq_f (tgt := 64) B dX10_tableKind_57 (by decide) (by decide) ?_
        refine x_iconst B dX10_tableKind_60 ?_
        refine x_goto (tgt := 65) B dX10_tableKind_61 (by decide) ?_
        have hv9 : tkV σ t b = (0) := by unfold tkV tkB tkT; omega
        exact cm_iret E hr rfl hlk hC hS dX10_tableKind_65 (by rw [hv9]) (by unfold tkS tkB; first | (rw [if_neg (by omega)]; done) | (rw [if_pos (by omega)]; done)) (by rw [hv9]; omega)
      · refine x_tswIn (off := 41) (tgt := 66) B dX10_tableKind_25 hsw (by decide) (by decide) rfl (by decide) ?_
        refine x_iload_n B hl dX10_tableKind_66 rfl ?_
        refine x_if_eq_f (tgt := 74) B dX10_tableKind_67 (by decide) (by decide) ?_
        refine x_iconst B dX10_tableKind_70 ?_
        refine x_goto (tgt := 75) B dX10_tableKind_71 (by decide) ?_
        have hv9 : tkV σ t b = (0) := by unfold tkV tkB tkT; omega
        exact cm_iret E hr rfl hlk hC hS dX10_tableKind_75 (by rw [hv9]) (by unfold tkS tkB; first | (rw [if_neg (by omega)]; done) | (rw [if_pos (by omega)]; done)) (by rw [hv9]; omega)
      · refine x_tswIn (off := 71) (tgt := 96) B dX10_tableKind_25 hsw (by decide) (by decide) rfl (by decide) ?_
        refine x_aload_n B hl dX10_tableKind_96 rfl ?_
        refine co_geti (f := 12) E hC 6 (by decide) (cl_6 hb) rfl (fun z h => List.mem_cons_of_mem _ (List.mem_append_left _ (List.mem_append_left _ (List.mem_append_left _ (List.mem_append_right _ h))))) 1 (by decide) (hts (.fieldLink RX10 158 "BinRounds$Bin" "kind" "I") (by decide +kernel)) (fun x hx => hx) dX10_tableKind_97 ⟨rfl, rfl, rfl⟩ rfl (fun r_97 => ?_)
        have hv9 : tkV σ t b = (σ 12 b) := by unfold tkV tkB tkT; omega
        exact cm_iret E hr rfl hlk hC hS dX10_tableKind_100 (by rw [hv9]) (by unfold tkS tkB; first | (rw [if_neg (by omega)]; done) | (rw [if_pos (by omega)]; done)) (by rw [hv9]; omega)
      · refine x_tswIn (off := 51) (tgt := 76) B dX10_tableKind_25 hsw (by decide) (by decide) rfl (by decide) ?_
        refine x_aload_n B hl dX10_tableKind_76 rfl ?_
        refine x_aload_n B hl dX10_tableKind_77 rfl ?_
        refine co_geti (f := 32) E hC 10 (by decide) (cl_10 ht) rfl (fun z h => List.mem_cons_of_mem _ (List.mem_append_left _ (List.mem_append_left _ (List.mem_append_left _ (List.mem_append_left _ (List.mem_append_right _ h)))))) 0 (by decide) (hts (.fieldLink RX10 229 "BinRounds$Tip" "day" "I") (by decide +kernel)) (fun x hx => hx) dX10_tableKind_78 ⟨rfl, rfl, rfl⟩ rfl (fun r_78 => ?_)
        by_cases hx : sHouse σ b (σ 32 t) < 0
        · refine co_call E hK hC hS hl (κ := 6) (i := b) (by decide) (cl_6 hb) rfl (c_ownerOn_n l D cy d0 A la σ (b := b) (d := σ 32 t) hb (by omega) (hm _) hv hx) (cwV 1 hts0 gX10_tableKind_X0_ownerOn rfl rfl rfl (by decide +kernel) ⟨Nat.le_of_ble_eq_true rfl, Nat.le_of_ble_eq_true rfl⟩) rfl rfl (Nat.le_of_ble_eq_true rfl) dX10_tableKind_81 ⟨Nat.zero_le _, Nat.zero_le _⟩ (fun H locs q_81 hC hS => ?_)
          refine cs_call E hK hC hS hl (c_takesBand_n l D cy d0 A la σ) (va_cwS 1 hts0 gX10_tableKind_X10_takesBand rfl rfl rfl (by decide +kernel) ⟨Nat.le_of_ble_eq_true rfl, Nat.le_of_ble_eq_true rfl⟩) rfl rfl (Nat.le_of_ble_eq_true rfl) dX10_tableKind_84 ⟨Nat.zero_le _, Nat.zero_le _⟩ (fun H locs q_84 hC hS => ?_)
          refine x_if_eq_t (tgt := 94) B dX10_tableKind_87 (by decide) (by decide) ?_
          refine x_iconst B dX10_tableKind_94 ?_
          have hv9 : tkV σ t b = (4) := by unfold tkV tkB tkT; omega
          exact cm_iret E hr rfl hlk hC hS dX10_tableKind_95 (by rw [hv9]) (by unfold tkS tkB; first | (rw [if_neg (by omega)]; done) | (rw [if_pos (by omega)]; done)) (by rw [hv9]; omega)
        · refine co_call E hK hC hS hl (κ := 6) (i := b) (by decide) (cl_6 hb) rfl (c_ownerOn_r l D cy d0 A la σ (b := b) (d := σ 32 t) hb (by omega) (hm _) hv hx) (cwV 1 hts0 gX10_tableKind_X0_ownerOn rfl rfl rfl (by decide +kernel) ⟨Nat.le_of_ble_eq_true rfl, Nat.le_of_ble_eq_true rfl⟩) rfl rfl (Nat.le_of_ble_eq_true rfl) dX10_tableKind_81 ⟨Nat.zero_le _, Nat.zero_le _⟩ (fun H locs q_81 hC hS => ?_)
          by_cases hz : σ 7 (sHouse σ b (σ 32 t)) = 0
          · refine cs_call E hK hC hS hl (c_takesBand_0 l D cy d0 A la σ (hho hx) (h7 _) hz) (va_cwS 1 hts0 gX10_tableKind_X10_takesBand rfl rfl rfl (by decide +kernel) ⟨Nat.le_of_ble_eq_true rfl, Nat.le_of_ble_eq_true rfl⟩) rfl rfl (Nat.le_of_ble_eq_true rfl) dX10_tableKind_84 ⟨Nat.zero_le _, Nat.zero_le _⟩ (fun H locs q_84 hC hS => ?_)
            refine x_if_eq_t (tgt := 94) B dX10_tableKind_87 (by decide) (by decide) ?_
            refine x_iconst B dX10_tableKind_94 ?_
            have hv9 : tkV σ t b = (4) := by unfold tkV tkB tkT; omega
            exact cm_iret E hr rfl hlk hC hS dX10_tableKind_95 (by rw [hv9]) (by unfold tkS tkB; first | (rw [if_neg (by omega)]; done) | (rw [if_pos (by omega)]; done)) (by rw [hv9]; omega)
          · refine cs_call E hK hC hS hl (c_takesBand_1 l D cy d0 A la σ (hho hx) (h7 _) hz) (va_cwS 1 hts0 gX10_tableKind_X10_takesBand rfl rfl rfl (by decide +kernel) ⟨Nat.le_of_ble_eq_true rfl, Nat.le_of_ble_eq_true rfl⟩) rfl rfl (Nat.le_of_ble_eq_true rfl) dX10_tableKind_84 ⟨Nat.zero_le _, Nat.zero_le _⟩ (fun H locs q_84 hC hS => ?_)
            refine x_if_eq_f (tgt := 94) B dX10_tableKind_87 (by decide) (by decide) ?_
            refine x_iconst B dX10_tableKind_90 ?_
            refine x_goto (tgt := 95) B dX10_tableKind_91 (by decide) ?_
            have hv9 : tkV σ t b = (-1) := by unfold tkV tkB tkT; omega
            exact cm_iret E hr rfl hlk hC hS dX10_tableKind_95 (by rw [hv9]) (by unfold tkS tkB; first | (rw [if_neg (by omega)]; done) | (rw [if_pos (by omega)]; done)) (by rw [hv9]; omega)
      · refine lv_tableOut (tgt := 96) B.1 B.2 dX10_tableKind_25 (by rw [iI_toInt r_22]; omega) (by decide) ?_
        refine x_aload_n B hl dX10_tableKind_96 rfl ?_
        refine co_geti (f := 12) E hC 6 (by decide) (cl_6 hb) rfl (fun z h => List.mem_cons_of_mem _ (List.mem_append_left _ (List.mem_append_left _ (List.mem_append_left _ (List.mem_append_right _ h))))) 1 (by decide) (hts (.fieldLink RX10 158 "BinRounds$Bin" "kind" "I") (by decide +kernel)) (fun x hx => hx) dX10_tableKind_97 ⟨rfl, rfl, rfl⟩ rfl (fun r_97 => ?_)
        have hv9 : tkV σ t b = (σ 12 b) := by unfold tkV tkB tkT; omega
        exact cm_iret E hr rfl hlk hC hS dX10_tableKind_100 (by rw [hv9]) (by unfold tkS tkB; first | (rw [if_neg (by omega)]; done) | (rw [if_pos (by omega)]; done)) (by rw [hv9]; omega)
