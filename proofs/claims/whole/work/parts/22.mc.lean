set_option maxHeartbeats 4000000 in
set_option maxRecDepth 100000 in
theorem m_middleOf (l : Launch) (D : va_G) (cy : Nat → ClassId) (o : Nat) (ad : Nat → Nat) (σ : MS) {b : Int} (hb : -2147483648 ≤ b ∧ b < 2147483648) (hn : 0 ≤ σ 45 0 ∧ σ 45 0 ≤ 600) (hh : ∀ t, 0 ≤ t → t < σ 45 0 → 0 ≤ σ 35 t ∧ σ 35 t ≤ 3000000) : MX l yX11_middleOf wsX11_middleOf ({ frames := 0, cells := 0, slots := 0, locals := 0 } : Room) D cy o ad [.int (iI b)] σ (some (.int (iI (sMiddle σ b)))) (fun τ => (∀ q, q ≠ 46 → τ q = σ q) ∧ 0 ≤ sMiddle σ b ∧ sMiddle σ b ≤ 3000000) := by
  refine mx_of (cc := cX11_middleOf) (nL := 5) (ret := (some .int)) (by decide) rfl rfl (fun w h => List.mem_cons_of_mem _ (List.mem_append_right _ h)) (Nat.le_of_ble_eq_true rfl) ⟨rfl, rfl⟩ ?_
  intro p e s m args below meth c ls E hr hlk hM hS hl
  have B := E.1
  have hml := E.2.1
  have hown := E.2.2.1
  have hts0 := E.2.2.2.1
  have hts := E.2.2.2.1
  have hw := hM.2.2.2
  have hMid := sMiddle_r (σ := σ) (b := b) (M := 3000000) (by omega) hh
  have inner : ∀ (fuel : Nat) (n t k : Int) (r : Int → Int) (τ : MS) (H : Heap) (locs : List Loc) (hM : MP D cy o ad τ H) (hS : va_S (mA o ad) s.heap H locs) (ls : Array Slot), (∀ q, q ≠ 46 → τ q = σ q) → 0 ≤ n → n < 5 → 0 ≤ t → t < 600 → 0 ≤ k → k ≤ n → (∀ j, τ 46 j = if k < j ∧ j ≤ n then r (j - 1) else r j) → insP r (σ 35 t) n.toNat = insP r (σ 35 t) k.toNat → k < fuel → lv_has ls 5 [(0, .ref o), (1, .int (iI b)), (2, .int (iI n)), (3, .int (iI t)), (4, .int (iI k))] → (∀ (τ : MS) (H : Heap) (locs : List Loc) (hM : MP D cy o ad τ H) (hS : va_S (mA o ad) s.heap H locs) (ls : Array Slot), (∀ q, q ≠ 46 → τ q = σ q) → (∀ j, 0 ≤ j → τ 46 j = insR r n.toNat (σ 35 t) j) → lv_has ls 5 [(0, .ref o), (1, .int (iI b)), (2, .int (iI n)), (3, .int (iI t))] → W p l e ({ frames := 0, cells := 0, slots := 0, locals := 0 } : Room) s m args below meth c H locs 0 0 (MQ below (mQX D cy o ad (some (.int (iI (sMiddle σ b)))) (fun τ => (∀ q, q ≠ 46 → τ q = σ q) ∧ 0 ≤ sMiddle σ b ∧ sMiddle σ b ≤ 3000000)) args s 0 0 (mA o ad)) (F0 m 101 ls [])) → W p l e ({ frames := 0, cells := 0, slots := 0, locals := 0 } : Room) s m args below meth c H locs 0 0 (MQ below (mQX D cy o ad (some (.int (iI (sMiddle σ b)))) (fun τ => (∀ q, q ≠ 46 → τ q = σ q) ∧ 0 ≤ sMiddle σ b ∧ sMiddle σ b ≤ 3000000)) args s 0 0 (mA o ad)) (F0 m 43 ls []) := by
    intro fuel
    induction fuel with
    | zero => intro n t k r τ H locs hM hS ls hτ h1 h2 h3 h4 h5 h6 h7 h8 h9; exact absurd h9 (by omega)
    | succ fuel ih =>
      intro n t k r τ H locs hM hS ls hτ h1 h2 h3 h4 h5 h6 h7 h8 h9 hl kk
      refine x_iload B hl dX11_middleOf_43 rfl ?_
      refine x_if_le (tgt := 88) B dX11_middleOf_45 (by decide) (by omega) (fun c_45 => ?_) (fun c_45 => ?_)
      · refine x_aload_n B hl dX11_middleOf_88 rfl ?_
        refine mo_geta E hM 46 0 rfl (hts (.fieldLink RX11 123 "BinRoundsModel" "row" "[I") (by decide +kernel)) rfl dX11_middleOf_89 ?_
        refine x_iload B hl dX11_middleOf_92 rfl ?_
        refine x_aload_n B hl dX11_middleOf_94 rfl ?_
        refine mo_geta E hM 35 0 rfl (hts (.fieldLink RX11 93 "BinRoundsModel" "halves" "[I") (by decide +kernel)) rfl dX11_middleOf_95 ?_
        refine x_iload_n B hl dX11_middleOf_98 rfl ?_
        refine mo_ld (k := 35) E hM rfl (by have h9 : mLn 35 = 600 := rfl; omega) (by decide) dX11_middleOf_99 (congrFun (hτ 35 (by decide)) _) (fun r_99 => ?_)
        refine mo_st (k := 46) E hM hS rfl (by have h9 : mLn 46 = 5 := rfl; omega) (by decide) (by omega) dX11_middleOf_100 (fun H locs hM hS => ?_)
        refine kk _ _ _ hM hS ls (fun q hq => by rw [up_f hq]; exact hτ q hq) (fun j hj => ?_) (lv_key hl [(0, .ref o), (1, .int (iI b)), (2, .int (iI n)), (3, .int (iI t))] rfl)
        have e1 := h7 (k - 1)
        rw [if_neg (by omega)] at e1
        rw [← insR_end ⟨h5, h6⟩ h7 h8 (by omega) j hj]
        by_cases hj : j = k
        · subst hj; rw [up_s, if_pos rfl]
        · rw [up_o hj, if_neg hj]
      · refine x_aload_n B hl dX11_middleOf_48 rfl ?_
        refine mo_geta E hM 46 0 rfl (hts (.fieldLink RX11 123 "BinRoundsModel" "row" "[I") (by decide +kernel)) rfl dX11_middleOf_49 ?_
        refine x_iload B hl dX11_middleOf_52 rfl ?_
        refine x_iconst B dX11_middleOf_54 ?_
        refine x_isub B dX11_middleOf_55 ?_
        refine mo_ld (k := 46) E hM rfl (by have h9 : mLn 46 = 5 := rfl; omega) (by decide) dX11_middleOf_56 rfl (fun r_56 => ?_)
        refine x_aload_n B hl dX11_middleOf_57 rfl ?_
        refine mo_geta E hM 35 0 rfl (hts (.fieldLink RX11 93 "BinRoundsModel" "halves" "[I") (by decide +kernel)) rfl dX11_middleOf_58 ?_
        refine x_iload_n B hl dX11_middleOf_61 rfl ?_
        refine mo_ld (k := 35) E hM rfl (by have h9 : mLn 35 = 600 := rfl; omega) (by decide) dX11_middleOf_62 (congrFun (hτ 35 (by decide)) _) (fun r_62 => ?_)
        refine x_icmp_le (tgt := 88) B dX11_middleOf_63 (by decide) (by omega) (by omega) (fun c_63 => ?_) (fun c_63 => ?_)
        · refine x_aload_n B hl dX11_middleOf_88 rfl ?_
          refine mo_geta E hM 46 0 rfl (hts (.fieldLink RX11 123 "BinRoundsModel" "row" "[I") (by decide +kernel)) rfl dX11_middleOf_89 ?_
          refine x_iload B hl dX11_middleOf_92 rfl ?_
          refine x_aload_n B hl dX11_middleOf_94 rfl ?_
          refine mo_geta E hM 35 0 rfl (hts (.fieldLink RX11 93 "BinRoundsModel" "halves" "[I") (by decide +kernel)) rfl dX11_middleOf_95 ?_
          refine x_iload_n B hl dX11_middleOf_98 rfl ?_
          refine mo_ld (k := 35) E hM rfl (by have h9 : mLn 35 = 600 := rfl; omega) (by decide) dX11_middleOf_99 (congrFun (hτ 35 (by decide)) _) (fun r_99 => ?_)
          refine mo_st (k := 46) E hM hS rfl (by have h9 : mLn 46 = 5 := rfl; omega) (by decide) (by omega) dX11_middleOf_100 (fun H locs hM hS => ?_)
          refine kk _ _ _ hM hS ls (fun q hq => by rw [up_f hq]; exact hτ q hq) (fun j hj => ?_) (lv_key hl [(0, .ref o), (1, .int (iI b)), (2, .int (iI n)), (3, .int (iI t))] rfl)
          have e1 := h7 (k - 1)
          rw [if_neg (by omega)] at e1
          rw [← insR_end ⟨h5, h6⟩ h7 h8 (by omega) j hj]
          by_cases hj : j = k
          · subst hj; rw [up_s, if_pos rfl]
          · rw [up_o hj, if_neg hj]
        · refine x_aload_n B hl dX11_middleOf_66 rfl ?_
          refine mo_geta E hM 46 0 rfl (hts (.fieldLink RX11 123 "BinRoundsModel" "row" "[I") (by decide +kernel)) rfl dX11_middleOf_67 ?_
          refine x_iload B hl dX11_middleOf_70 rfl ?_
          refine x_aload_n B hl dX11_middleOf_72 rfl ?_
          refine mo_geta E hM 46 0 rfl (hts (.fieldLink RX11 123 "BinRoundsModel" "row" "[I") (by decide +kernel)) rfl dX11_middleOf_73 ?_
          refine x_iload B hl dX11_middleOf_76 rfl ?_
          refine x_iconst B dX11_middleOf_78 ?_
          refine x_isub B dX11_middleOf_79 ?_
          refine mo_ld (k := 46) E hM rfl (by have h9 : mLn 46 = 5 := rfl; omega) (by decide) dX11_middleOf_80 rfl (fun r_80 => ?_)
          refine mo_st (k := 46) E hM hS rfl (by have h9 : mLn 46 = 5 := rfl; omega) (by decide) (by omega) dX11_middleOf_81 (fun H locs hM hS => ?_)
          refine x_iinc B hl dX11_middleOf_82 rfl (by decide) (fun ls hl => ?_)
          refine x_goto (tgt := 43) B dX11_middleOf_85 (by decide) ?_
          refine ih n t (k - 1) r _ _ _ hM hS ls (fun q hq => by rw [up_f hq]; exact hτ q hq) h1 h2 h3 h4 (by omega) (by omega) (fun j => ?_) ?_ (by omega) (lv_key hl [(0, .ref o), (1, .int (iI b)), (2, .int (iI n)), (3, .int (iI t)), (4, .int (iI (k + -1)))] rfl) kk
          · have e1 := h7 (k - 1)
            rw [if_neg (by omega)] at e1
            by_cases hj : j = k
            · subst hj; rw [up_s, e1, if_pos (by omega)]
            · rw [up_o hj, h7 j]
              by_cases hj2 : k < j ∧ j ≤ n
              · rw [if_pos hj2, if_pos (by omega)]
              · rw [if_neg hj2, if_neg (by omega)]
          · have e1 := h7 (k - 1)
            rw [if_neg (by omega)] at e1
            rw [h8, insP_s (by omega) (by omega)]
  have outer : ∀ (fuel : Nat) (n t : Int) (τ : MS) (H : Heap) (locs : List Loc) (hM : MP D cy o ad τ H) (hS : va_S (mA o ad) s.heap H locs) (ls : Array Slot), (∀ q, q ≠ 46 → τ q = σ q) → 0 ≤ n → n ≤ 5 → -1 ≤ t → t < σ 45 0 → sMid σ b (t + 1).toNat n.toNat (τ 46) = sMiddle σ b → t + 1 < fuel → lv_has ls 5 [(0, .ref o), (1, .int (iI b)), (2, .int (iI n)), (3, .int (iI t))] → W p l e ({ frames := 0, cells := 0, slots := 0, locals := 0 } : Room) s m args below meth c H locs 0 0 (MQ below (mQX D cy o ad (some (.int (iI (sMiddle σ b)))) (fun τ => (∀ q, q ≠ 46 → τ q = σ q) ∧ 0 ≤ sMiddle σ b ∧ sMiddle σ b ≤ 3000000)) args s 0 0 (mA o ad)) (F0 m 9 ls []) := by
    intro fuel
    induction fuel with
    | zero => intro n t τ H locs hM hS ls hτ h1 h2 h3 h4 h5 h6; exact absurd h6 (by omega)
    | succ fuel ih =>
      intro n t τ H locs hM hS ls hτ h1 h2 h3 h4 h5 h6 hl
      refine x_iload_n B hl dX11_middleOf_9 rfl ?_
      refine x_if_lt (tgt := 110) B dX11_middleOf_10 (by decide) (by omega) (fun c_10 => ?_) (fun c_10 => ?_)
      · refine x_iload_n B hl dX11_middleOf_110 rfl ?_
        refine x_if_ne (tgt := 118) B dX11_middleOf_111 (by decide) (by omega) (fun c_111 => ?_) (fun c_111 => ?_)
        · refine x_aload_n B hl dX11_middleOf_118 rfl ?_
          refine mo_geta E hM 46 0 rfl (hts (.fieldLink RX11 123 "BinRoundsModel" "row" "[I") (by decide +kernel)) rfl dX11_middleOf_119 ?_
          refine x_iload_n B hl dX11_middleOf_122 rfl ?_
          refine x_iconst B dX11_middleOf_123 ?_
          refine x_isub B dX11_middleOf_124 ?_
          refine x_iconst B dX11_middleOf_125 ?_
          refine x_idiv B dX11_middleOf_126 (by omega) (by omega) ?_
          refine mo_ld (k := 46) E hM rfl (by have h9 : mLn 46 = 5 := rfl; omega) (by decide) dX11_middleOf_127 rfl (fun r_127 => ?_)
          exact mo_iretx E hr rfl hlk hM hS dX11_middleOf_128 (by rw [← h5]; congr 1; first | (rw [sMid_5 (by omega), Int.toNat_of_nonneg h1]; done) | (rw [show (t + 1).toNat = 0 by omega, sMid, if_neg (by omega), Int.toNat_of_nonneg h1]; done)) ⟨hτ, hMid⟩
        · refine x_iconst B dX11_middleOf_114 ?_
          refine x_goto (tgt := 128) B dX11_middleOf_115 (by decide) ?_
          exact mo_iretx E hr rfl hlk hM hS dX11_middleOf_128 (by rw [← h5]; congr 1; first | (rw [show n = 0 by omega, show t = -1 by omega]; rfl) | (exfalso; omega)) ⟨hτ, by first | omega | (have e9 := hMid; omega)⟩
      · refine x_iload_n B hl dX11_middleOf_13 rfl ?_
        refine x_iconst B dX11_middleOf_14 ?_
        refine x_icmp_ge (tgt := 110) B dX11_middleOf_15 (by decide) (by omega) (by omega) (fun c_15 => ?_) (fun c_15 => ?_)
        · refine x_iload_n B hl dX11_middleOf_110 rfl ?_
          refine x_if_ne (tgt := 118) B dX11_middleOf_111 (by decide) (by omega) (fun c_111 => ?_) (fun c_111 => ?_)
          · refine x_aload_n B hl dX11_middleOf_118 rfl ?_
            refine mo_geta E hM 46 0 rfl (hts (.fieldLink RX11 123 "BinRoundsModel" "row" "[I") (by decide +kernel)) rfl dX11_middleOf_119 ?_
            refine x_iload_n B hl dX11_middleOf_122 rfl ?_
            refine x_iconst B dX11_middleOf_123 ?_
            refine x_isub B dX11_middleOf_124 ?_
            refine x_iconst B dX11_middleOf_125 ?_
            refine x_idiv B dX11_middleOf_126 (by omega) (by omega) ?_
            refine mo_ld (k := 46) E hM rfl (by have h9 : mLn 46 = 5 := rfl; omega) (by decide) dX11_middleOf_127 rfl (fun r_127 => ?_)
            exact mo_iretx E hr rfl hlk hM hS dX11_middleOf_128 (by rw [← h5]; congr 1; first | (rw [sMid_5 (by omega), Int.toNat_of_nonneg h1]; done) | (rw [show (t + 1).toNat = 0 by omega, sMid, if_neg (by omega), Int.toNat_of_nonneg h1]; done)) ⟨hτ, hMid⟩
          · refine x_iconst B dX11_middleOf_114 ?_
            refine x_goto (tgt := 128) B dX11_middleOf_115 (by decide) ?_
            exact mo_iretx E hr rfl hlk hM hS dX11_middleOf_128 (by rw [← h5]; congr 1; first | (rw [show n = 0 by omega, show t = -1 by omega]; rfl) | (exfalso; omega)) ⟨hτ, by first | omega | (have e9 := hMid; omega)⟩
        · refine x_aload_n B hl dX11_middleOf_18 rfl ?_
          refine mo_geta E hM 36 0 rfl (hts (.fieldLink RX11 96 "BinRoundsModel" "binOf" "[I") (by decide +kernel)) rfl dX11_middleOf_19 ?_
          refine x_iload_n B hl dX11_middleOf_22 rfl ?_
          refine mo_ld (k := 36) E hM rfl (by have h9 : mLn 36 = 600 := rfl; omega) (by decide) dX11_middleOf_23 (congrFun (hτ 36 (by decide)) _) (fun r_23 => ?_)
          refine x_iload_n B hl dX11_middleOf_24 rfl ?_
          refine x_icmp_ne (tgt := 104) B dX11_middleOf_25 (by decide) (by omega) (by omega) (fun c_25 => ?_) (fun c_25 => ?_)
          · refine x_iinc B hl dX11_middleOf_104 rfl (by decide) (fun ls hl => ?_)
            refine x_goto (tgt := 9) B dX11_middleOf_107 (by decide) ?_
            refine ih n (t - 1) _ _ _ hM hS ls hτ h1 h2 (by omega) (by omega) ?_ (by omega) (lv_key hl [(0, .ref o), (1, .int (iI b)), (2, .int (iI n)), (3, .int (iI (t + -1)))] rfl)
            rw [show t - 1 + 1 = t by omega, ← h5, sMid_t (t := t) (by omega) (by omega), if_neg (by omega)]
          · refine x_aload_n B hl dX11_middleOf_28 rfl ?_
            refine mo_geta E hM 38 0 rfl (hts (.fieldLink RX11 102 "BinRoundsModel" "weighedSo" "[I") (by decide +kernel)) rfl dX11_middleOf_29 ?_
            refine x_iload_n B hl dX11_middleOf_32 rfl ?_
            refine mo_ld (k := 38) E hM rfl (by have h9 : mLn 38 = 600 := rfl; omega) (by decide) dX11_middleOf_33 (congrFun (hτ 38 (by decide)) _) (fun r_33 => ?_)
            refine x_if_eq (tgt := 40) B dX11_middleOf_34 (by decide) (by omega) (fun c_34 => ?_) (fun c_34 => ?_)
            · refine x_iload_n B hl dX11_middleOf_40 rfl ?_
              refine x_istore B hl dX11_middleOf_41 (by decide) (fun ls hl => ?_)
              refine inner (fuel := 6) n t n (τ 46) τ _ _ hM hS ls hτ h1 (by omega) (by omega) (by omega) h1 (by omega) (fun j => by rw [if_neg (by omega)]) rfl (by omega) (lv_key hl [(0, .ref o), (1, .int (iI b)), (2, .int (iI n)), (3, .int (iI t)), (4, .int (iI n))] rfl) (fun τ1 H locs hM hS ls hτ1 hr1 hl => ?_)
              refine x_iinc B hl dX11_middleOf_101 rfl (by decide) (fun ls hl => ?_)
              refine x_iinc B hl dX11_middleOf_104 rfl (by decide) (fun ls hl => ?_)
              refine x_goto (tgt := 9) B dX11_middleOf_107 (by decide) ?_
              refine ih (n + 1) (t - 1) _ _ _ hM hS ls hτ1 (by omega) (by omega) (by omega) (by omega) ?_ (by omega) (lv_key hl [(0, .ref o), (1, .int (iI b)), (2, .int (iI (n + 1))), (3, .int (iI (t + -1)))] rfl)
              rw [show t - 1 + 1 = t by omega, ← h5, sMid_t (t := t) (by omega) (by omega), if_pos (by omega), show (n + 1).toNat = n.toNat + 1 by omega]
              exact sMid_c _ _ (fun j h1 h2 => hr1 j h1)
            · refine x_goto (tgt := 104) B dX11_middleOf_37 (by decide) ?_
              refine x_iinc B hl dX11_middleOf_104 rfl (by decide) (fun ls hl => ?_)
              refine x_goto (tgt := 9) B dX11_middleOf_107 (by decide) ?_
              refine ih n (t - 1) _ _ _ hM hS ls hτ h1 h2 (by omega) (by omega) ?_ (by omega) (lv_key hl [(0, .ref o), (1, .int (iI b)), (2, .int (iI n)), (3, .int (iI (t + -1)))] rfl)
              rw [show t - 1 + 1 = t by omega, ← h5, sMid_t (t := t) (by omega) (by omega), if_neg (by omega)]
  refine x_iconst B dX11_middleOf_0 ?_
  refine x_istore_n B hl dX11_middleOf_1 (by decide) (fun ls hl => ?_)
  refine x_aload_n B hl dX11_middleOf_2 rfl ?_
  refine mo_gets E hM 45 rfl (hts (.fieldLink RX11 145 "BinRoundsModel" "tips" "I") (by decide +kernel)) rfl dX11_middleOf_3 rfl (fun r_3 => ?_)
  refine x_iconst B dX11_middleOf_6 ?_
  refine x_isub B dX11_middleOf_7 ?_
  refine x_istore_n B hl dX11_middleOf_8 (by decide) (fun ls hl => ?_)
  refine outer 602 0 (σ 45 0 - 1) σ _ _ hM hS ls (fun _ _ => rfl) (by omega) (by omega) (by omega) (by omega) ?_ (by omega) (lv_key hl [(0, .ref o), (1, .int (iI b)), (2, .int (iI 0)), (3, .int (iI (σ 45 0 - 1)))] rfl)
  rw [show σ 45 0 - 1 + 1 = σ 45 0 by omega]
  exact sMid_c _ _ (fun j h1 h2 => absurd h2 (by omega))
