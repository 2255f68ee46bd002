set_option maxHeartbeats 4000000 in
set_option maxRecDepth 100000 in
theorem m_p_count (l : Launch) (D : va_G) (cy : Nat → ClassId) (o : Nat) (ad : Nat → Nat) (σ : MS) {w : Int} {n : Int} (I : sInv n σ) (h_w : -2147483648 ≤ w ∧ w < 2147483648)  : MX l yX11_count wsX11_count ({ frames := 6, cells := 0, slots := 0, locals := 145 } : Room) D cy o ad [.int (iI w)] σ (some (.long (lI (if (0 : Int) = 0 then countR σ w else 0)))) (fun τ => pEnd ((0 : Int)) (σ) σ τ) := by
  refine mx_of (cc := cX11_count) (nL := 5) (ret := (some .long)) (by decide) rfl rfl (fun w h => List.mem_cons_of_mem _ (List.mem_append_right _ h)) (Nat.le_of_ble_eq_true rfl) ⟨rfl, rfl⟩ ?_
  intro p e s m args below meth c ls E hr hlk hM hS hl
  have B := E.1
  have hml := E.2.1
  have hown := E.2.2.1
  have hts0 := E.2.2.2.1
  have hts := E.2.2.2.1
  have hw := hM.2.2.2
  have I0 := I
  obtain ⟨hn9, hOp, hnS, hnH, hnB, hnC, hnT, hPr, hTol, v3, v4, v6, v7, v12, v15, v16, v17, v18, v19, v20, v21, v22, v24, v25, v26, v28, v29, v32, v33, v35, v36, v37, v38, v39, v42, v43, v44, v40, vm⟩ := I
  refine x_aload_n B hl dX11_count_0 rfl ?_
  refine x_iconst B dX11_count_1 ?_
  refine mo_put E hM hS 0 rfl (hts (.fieldLink RX11 129 "BinRoundsModel" "thrown" "I") (by decide +kernel)) rfl rfl (by decide +kernel) (by omega) dX11_count_2 (fun H locs hM hS => ?_)
  refine x_iload_n B hl dX11_count_5 rfl ?_
  rcases (show w = 0 ∨ w = 1 ∨ w = 2 ∨ w = 3 ∨ w = 4 ∨ w = 5 ∨ w = 6 ∨ w = 7 ∨ w = 8 ∨ w = 9 ∨ (w < 0 ∨ 9 < w) by omega) with hsw | hsw | hsw | hsw | hsw | hsw | hsw | hsw | hsw | hsw | hsw
  · refine x_tswIn (off := 54) (tgt := 60) B dX11_count_6 hsw (by decide) (by decide) rfl (by decide) ?_
    refine x_aload_n B hl dX11_count_60 rfl ?_
    refine mo_gets E hM 1 rfl (hts (.fieldLink RX11 152 "BinRoundsModel" "open" "I") (by decide +kernel)) rfl dX11_count_61 (up_ne (by decide) rfl) (fun r_61 => ?_)
    refine x_i2l B dX11_count_64 (by omega) ?_
    first | (have hc : (0 : Int) = 1 := (by omega); exact mo_lretx E hr hlk hM hS dX11_count_65 (by first | (rw [if_neg (by rw [hc]; decide)]; done) | (rw [if_neg (by rw [hc]; decide)]; rfl)) (pE hc (by decide))) | (have hc : (0 : Int) = 2 := (by omega); exact mo_lretx E hr hlk hM hS dX11_count_65 (by first | (rw [if_neg (by rw [hc]; decide)]; done) | (rw [if_neg (by rw [hc]; decide)]; rfl)) (pE hc (by decide))) | (have hc : (0 : Int) = 3 := (by omega); exact mo_lretx E hr hlk hM hS dX11_count_65 (by first | (rw [if_neg (by rw [hc]; decide)]; done) | (rw [if_neg (by rw [hc]; decide)]; rfl)) (pE hc (by decide))) | (have hc : (0 : Int) = 0 := (by omega); exact mo_lretx E hr hlk hM hS dX11_count_65 (by first | (rw [if_pos hc]; done) | (rw [if_pos hc]; first | (rw [hsw]; rfl) | (unfold countR; rw [if_neg (by omega), if_neg (by omega), if_neg (by omega), if_neg (by omega), if_neg (by omega), if_neg (by omega), if_neg (by omega), if_neg (by omega), if_neg (by omega), if_neg (by omega)]))) (pO hc (by first | rfl | (simp only [up_rd]; rfl) | simp [up_rd]) (by first | exact sEq.z | exact sEq.rf)))
  · refine x_tswIn (off := 60) (tgt := 66) B dX11_count_6 hsw (by decide) (by decide) rfl (by decide) ?_
    refine x_aload_n B hl dX11_count_66 rfl ?_
    refine mo_gets E hM 5 rfl (hts (.fieldLink RX11 133 "BinRoundsModel" "streets" "I") (by decide +kernel)) rfl dX11_count_67 (up_ne (by decide) rfl) (fun r_67 => ?_)
    refine x_i2l B dX11_count_70 (by omega) ?_
    first | (have hc : (0 : Int) = 1 := (by omega); exact mo_lretx E hr hlk hM hS dX11_count_71 (by first | (rw [if_neg (by rw [hc]; decide)]; done) | (rw [if_neg (by rw [hc]; decide)]; rfl)) (pE hc (by decide))) | (have hc : (0 : Int) = 2 := (by omega); exact mo_lretx E hr hlk hM hS dX11_count_71 (by first | (rw [if_neg (by rw [hc]; decide)]; done) | (rw [if_neg (by rw [hc]; decide)]; rfl)) (pE hc (by decide))) | (have hc : (0 : Int) = 3 := (by omega); exact mo_lretx E hr hlk hM hS dX11_count_71 (by first | (rw [if_neg (by rw [hc]; decide)]; done) | (rw [if_neg (by rw [hc]; decide)]; rfl)) (pE hc (by decide))) | (have hc : (0 : Int) = 0 := (by omega); exact mo_lretx E hr hlk hM hS dX11_count_71 (by first | (rw [if_pos hc]; done) | (rw [if_pos hc]; first | (rw [hsw]; rfl) | (unfold countR; rw [if_neg (by omega), if_neg (by omega), if_neg (by omega), if_neg (by omega), if_neg (by omega), if_neg (by omega), if_neg (by omega), if_neg (by omega), if_neg (by omega), if_neg (by omega)]))) (pO hc (by first | rfl | (simp only [up_rd]; rfl) | simp [up_rd]) (by first | exact sEq.z | exact sEq.rf)))
  · refine x_tswIn (off := 66) (tgt := 72) B dX11_count_6 hsw (by decide) (by decide) rfl (by decide) ?_
    refine x_aload_n B hl dX11_count_72 rfl ?_
    refine mo_gets E hM 11 rfl (hts (.fieldLink RX11 136 "BinRoundsModel" "houses" "I") (by decide +kernel)) rfl dX11_count_73 (up_ne (by decide) rfl) (fun r_73 => ?_)
    refine x_i2l B dX11_count_76 (by omega) ?_
    first | (have hc : (0 : Int) = 1 := (by omega); exact mo_lretx E hr hlk hM hS dX11_count_77 (by first | (rw [if_neg (by rw [hc]; decide)]; done) | (rw [if_neg (by rw [hc]; decide)]; rfl)) (pE hc (by decide))) | (have hc : (0 : Int) = 2 := (by omega); exact mo_lretx E hr hlk hM hS dX11_count_77 (by first | (rw [if_neg (by rw [hc]; decide)]; done) | (rw [if_neg (by rw [hc]; decide)]; rfl)) (pE hc (by decide))) | (have hc : (0 : Int) = 3 := (by omega); exact mo_lretx E hr hlk hM hS dX11_count_77 (by first | (rw [if_neg (by rw [hc]; decide)]; done) | (rw [if_neg (by rw [hc]; decide)]; rfl)) (pE hc (by decide))) | (have hc : (0 : Int) = 0 := (by omega); exact mo_lretx E hr hlk hM hS dX11_count_77 (by first | (rw [if_pos hc]; done) | (rw [if_pos hc]; first | (rw [hsw]; rfl) | (unfold countR; rw [if_neg (by omega), if_neg (by omega), if_neg (by omega), if_neg (by omega), if_neg (by omega), if_neg (by omega), if_neg (by omega), if_neg (by omega), if_neg (by omega), if_neg (by omega)]))) (pO hc (by first | rfl | (simp only [up_rd]; rfl) | simp [up_rd]) (by first | exact sEq.z | exact sEq.rf)))
  · refine x_tswIn (off := 72) (tgt := 78) B dX11_count_6 hsw (by decide) (by decide) rfl (by decide) ?_
    refine x_aload_n B hl dX11_count_78 rfl ?_
    refine mo_gets E hM 23 rfl (hts (.fieldLink RX11 139 "BinRoundsModel" "bins" "I") (by decide +kernel)) rfl dX11_count_79 (up_ne (by decide) rfl) (fun r_79 => ?_)
    refine x_i2l B dX11_count_82 (by omega) ?_
    first | (have hc : (0 : Int) = 1 := (by omega); exact mo_lretx E hr hlk hM hS dX11_count_83 (by first | (rw [if_neg (by rw [hc]; decide)]; done) | (rw [if_neg (by rw [hc]; decide)]; rfl)) (pE hc (by decide))) | (have hc : (0 : Int) = 2 := (by omega); exact mo_lretx E hr hlk hM hS dX11_count_83 (by first | (rw [if_neg (by rw [hc]; decide)]; done) | (rw [if_neg (by rw [hc]; decide)]; rfl)) (pE hc (by decide))) | (have hc : (0 : Int) = 3 := (by omega); exact mo_lretx E hr hlk hM hS dX11_count_83 (by first | (rw [if_neg (by rw [hc]; decide)]; done) | (rw [if_neg (by rw [hc]; decide)]; rfl)) (pE hc (by decide))) | (have hc : (0 : Int) = 0 := (by omega); exact mo_lretx E hr hlk hM hS dX11_count_83 (by first | (rw [if_pos hc]; done) | (rw [if_pos hc]; first | (rw [hsw]; rfl) | (unfold countR; rw [if_neg (by omega), if_neg (by omega), if_neg (by omega), if_neg (by omega), if_neg (by omega), if_neg (by omega), if_neg (by omega), if_neg (by omega), if_neg (by omega), if_neg (by omega)]))) (pO hc (by first | rfl | (simp only [up_rd]; rfl) | simp [up_rd]) (by first | exact sEq.z | exact sEq.rf)))
  · refine x_tswIn (off := 78) (tgt := 84) B dX11_count_6 hsw (by decide) (by decide) rfl (by decide) ?_
    refine x_aload_n B hl dX11_count_84 rfl ?_
    refine mo_gets E hM 27 rfl (hts (.fieldLink RX11 142 "BinRoundsModel" "carts" "I") (by decide +kernel)) rfl dX11_count_85 (up_ne (by decide) rfl) (fun r_85 => ?_)
    refine x_i2l B dX11_count_88 (by omega) ?_
    first | (have hc : (0 : Int) = 1 := (by omega); exact mo_lretx E hr hlk hM hS dX11_count_89 (by first | (rw [if_neg (by rw [hc]; decide)]; done) | (rw [if_neg (by rw [hc]; decide)]; rfl)) (pE hc (by decide))) | (have hc : (0 : Int) = 2 := (by omega); exact mo_lretx E hr hlk hM hS dX11_count_89 (by first | (rw [if_neg (by rw [hc]; decide)]; done) | (rw [if_neg (by rw [hc]; decide)]; rfl)) (pE hc (by decide))) | (have hc : (0 : Int) = 3 := (by omega); exact mo_lretx E hr hlk hM hS dX11_count_89 (by first | (rw [if_neg (by rw [hc]; decide)]; done) | (rw [if_neg (by rw [hc]; decide)]; rfl)) (pE hc (by decide))) | (have hc : (0 : Int) = 0 := (by omega); exact mo_lretx E hr hlk hM hS dX11_count_89 (by first | (rw [if_pos hc]; done) | (rw [if_pos hc]; first | (rw [hsw]; rfl) | (unfold countR; rw [if_neg (by omega), if_neg (by omega), if_neg (by omega), if_neg (by omega), if_neg (by omega), if_neg (by omega), if_neg (by omega), if_neg (by omega), if_neg (by omega), if_neg (by omega)]))) (pO hc (by first | rfl | (simp only [up_rd]; rfl) | simp [up_rd]) (by first | exact sEq.z | exact sEq.rf)))
  · refine x_tswIn (off := 84) (tgt := 90) B dX11_count_6 hsw (by decide) (by decide) rfl (by decide) ?_
    refine x_aload_n B hl dX11_count_90 rfl ?_
    refine mo_gets E hM 45 rfl (hts (.fieldLink RX11 145 "BinRoundsModel" "tips" "I") (by decide +kernel)) rfl dX11_count_91 (up_ne (by decide) rfl) (fun r_91 => ?_)
    refine x_i2l B dX11_count_94 (by omega) ?_
    first | (have hc : (0 : Int) = 1 := (by omega); exact mo_lretx E hr hlk hM hS dX11_count_95 (by first | (rw [if_neg (by rw [hc]; decide)]; done) | (rw [if_neg (by rw [hc]; decide)]; rfl)) (pE hc (by decide))) | (have hc : (0 : Int) = 2 := (by omega); exact mo_lretx E hr hlk hM hS dX11_count_95 (by first | (rw [if_neg (by rw [hc]; decide)]; done) | (rw [if_neg (by rw [hc]; decide)]; rfl)) (pE hc (by decide))) | (have hc : (0 : Int) = 3 := (by omega); exact mo_lretx E hr hlk hM hS dX11_count_95 (by first | (rw [if_neg (by rw [hc]; decide)]; done) | (rw [if_neg (by rw [hc]; decide)]; rfl)) (pE hc (by decide))) | (have hc : (0 : Int) = 0 := (by omega); exact mo_lretx E hr hlk hM hS dX11_count_95 (by first | (rw [if_pos hc]; done) | (rw [if_pos hc]; first | (rw [hsw]; rfl) | (unfold countR; rw [if_neg (by omega), if_neg (by omega), if_neg (by omega), if_neg (by omega), if_neg (by omega), if_neg (by omega), if_neg (by omega), if_neg (by omega), if_neg (by omega), if_neg (by omega)]))) (pO hc (by first | rfl | (simp only [up_rd]; rfl) | simp [up_rd]) (by first | exact sEq.z | exact sEq.rf)))
  · refine x_tswIn (off := 90) (tgt := 96) B dX11_count_6 hsw (by decide) (by decide) rfl (by decide) ?_
    have l6 : ∀ (n : Nat) (i : Int) (H : Heap) (locs : List Loc) (hM : MP D cy o ad (up σ 0 0 0) H) (hS : va_S (mA o ad) s.heap H locs) (ls : Array Slot), 0 ≤ i → i ≤ σ 45 0 → σ 45 0 - i < n → lv_has ls 5 [(0, .ref o), (2, .long (lI (sSum (sChg σ) i.toNat))), (4, .int (iI (i)))] → W p l e ({ frames := 6, cells := 0, slots := 0, locals := 145 } : Room) s m args below meth c H locs 0 0 (MQ below (mQX D cy o ad (some (.long (lI (if (0 : Int) = 0 then countR σ w else 0)))) (fun τ => pEnd ((0 : Int)) (σ) σ τ)) args s 0 0 (mA o ad)) (F0 m 101 ls []) := by
      intro n
      induction n with
      | zero => intro i H locs hM hS ls h1 h2 h3; exact absurd h3 (by omega)
      | succ n ih =>
        intro i H locs hM hS ls h1 h2 h3 hl
        refine x_iload B hl dX11_count_101 rfl ?_
        refine x_aload_n B hl dX11_count_103 rfl ?_
        refine mo_gets E hM 45 rfl (hts (.fieldLink RX11 145 "BinRoundsModel" "tips" "I") (by decide +kernel)) rfl dX11_count_104 (up_ne (by decide) rfl) (fun r_104 => ?_)
        refine x_icmp_ge (tgt := 125) B dX11_count_107 (by decide) (by omega) (by omega) (fun c_107 => ?_) (fun c_107 => ?_)
        · refine x_lload_n B hl dX11_count_125 rfl ?_
          exact mo_lretx E hr hlk hM hS dX11_count_126 (by rw [if_pos rfl, hsw, show i = σ 45 0 by omega]; rfl) (pO (C := (0 : Int)) (by rfl) up_s sEq.z)
        · refine x_lload_n B hl dX11_count_110 rfl ?_
          refine x_aload_n B hl dX11_count_111 rfl ?_
          refine x_iload B hl dX11_count_112 rfl ?_
          refine mo_call E hM hS hl (m_chargeOfc l D cy o ad _ σ sEq.z I0 (by omega)) (cwV 1 hts0 gX11_count_X11_chargeOf rfl rfl rfl (by decide +kernel) ⟨Nat.le_of_ble_eq_true rfl, Nat.le_of_ble_eq_true rfl⟩) rfl rfl (Nat.le_of_ble_eq_true rfl) dX11_count_114 ⟨Nat.zero_le _, Nat.zero_le _⟩ (fun H locs q_c hM hS => ?_)
          refine x_ladd B dX11_count_117 ?_
          refine x_lstore_n B hl dX11_count_118 (by decide) (fun ls hl => ?_)
          refine x_iinc B hl dX11_count_119 rfl (by decide) (fun ls hl => ?_)
          refine x_goto (tgt := 101) B dX11_count_122 (by decide) ?_
          exact ih (i + 1) _ _ hM hS ls (by omega) (by omega) (by omega) (lv_key hl [(0, .ref o), (2, .long (lI (sSum (sChg σ) (i + 1).toNat))), (4, .int (iI (i + 1)))] (by rw [sSum_s (by omega)]; rfl))
    refine x_lconst B dX11_count_96 ?_
    refine x_lstore_n B hl dX11_count_97 (by decide) (fun ls hl => ?_)
    refine x_iconst B dX11_count_98 ?_
    refine x_istore B hl dX11_count_99 (by decide) (fun ls hl => ?_)
    exact l6 700 0 _ _ hM hS ls (by omega) (by omega) (by omega) (lv_key hl [(0, .ref o), (2, .long (lI (sSum (sChg σ) (0 : Int).toNat))), (4, .int (iI (0)))] rfl)
  · refine x_tswIn (off := 121) (tgt := 127) B dX11_count_6 hsw (by decide) (by decide) rfl (by decide) ?_
    have l7 : ∀ (n : Nat) (i : Int) (H : Heap) (locs : List Loc) (hM : MP D cy o ad (up σ 0 0 0) H) (hS : va_S (mA o ad) s.heap H locs) (ls : Array Slot), 0 ≤ i → i ≤ σ 11 0 → σ 11 0 - i < n → lv_has ls 5 [(0, .ref o), (2, .long (lI (sSum (σ 8) i.toNat))), (4, .int (iI (i)))] → W p l e ({ frames := 6, cells := 0, slots := 0, locals := 145 } : Room) s m args below meth c H locs 0 0 (MQ below (mQX D cy o ad (some (.long (lI (if (0 : Int) = 0 then countR σ w else 0)))) (fun τ => pEnd ((0 : Int)) (σ) σ τ)) args s 0 0 (mA o ad)) (F0 m 132 ls []) := by
      intro n
      induction n with
      | zero => intro i H locs hM hS ls h1 h2 h3; exact absurd h3 (by omega)
      | succ n ih =>
        intro i H locs hM hS ls h1 h2 h3 hl
        refine x_iload B hl dX11_count_132 rfl ?_
        refine x_aload_n B hl dX11_count_134 rfl ?_
        refine mo_gets E hM 11 rfl (hts (.fieldLink RX11 136 "BinRoundsModel" "houses" "I") (by decide +kernel)) rfl dX11_count_135 (up_ne (by decide) rfl) (fun r_135 => ?_)
        refine x_icmp_ge (tgt := 157) B dX11_count_138 (by decide) (by omega) (by omega) (fun c_138 => ?_) (fun c_138 => ?_)
        · refine x_lload_n B hl dX11_count_157 rfl ?_
          exact mo_lretx E hr hlk hM hS dX11_count_158 (by rw [if_pos rfl, hsw, show i = σ 11 0 by omega]; rfl) (pO (C := (0 : Int)) (by rfl) up_s sEq.z)
        · refine x_lload_n B hl dX11_count_141 rfl ?_
          refine x_aload_n B hl dX11_count_142 rfl ?_
          refine mo_geta E hM 8 2 rfl (hts (.fieldLink RX11 26 "BinRoundsModel" "bandCost" "[J") (by decide +kernel)) rfl dX11_count_143 ?_
          refine x_iload B hl dX11_count_146 rfl ?_
          refine mo_lld (k := 8) E hM rfl (by have h9 : mLn 8 = 60 := rfl; omega) (by decide) dX11_count_148 (up_ne (by decide) rfl) (fun r_148 => ?_)
          refine x_ladd B dX11_count_149 ?_
          refine x_lstore_n B hl dX11_count_150 (by decide) (fun ls hl => ?_)
          refine x_iinc B hl dX11_count_151 rfl (by decide) (fun ls hl => ?_)
          refine x_goto (tgt := 132) B dX11_count_154 (by decide) ?_
          exact ih (i + 1) _ _ hM hS ls (by omega) (by omega) (by omega) (lv_key hl [(0, .ref o), (2, .long (lI (sSum (σ 8) (i + 1).toNat))), (4, .int (iI (i + 1)))] (by rw [sSum_s (by omega)]; rfl))
    refine x_lconst B dX11_count_127 ?_
    refine x_lstore_n B hl dX11_count_128 (by decide) (fun ls hl => ?_)
    refine x_iconst B dX11_count_129 ?_
    refine x_istore B hl dX11_count_130 (by decide) (fun ls hl => ?_)
    exact l7 700 0 _ _ hM hS ls (by omega) (by omega) (by omega) (lv_key hl [(0, .ref o), (2, .long (lI (sSum (σ 8) (0 : Int).toNat))), (4, .int (iI (0)))] rfl)
  · refine x_tswIn (off := 153) (tgt := 159) B dX11_count_6 hsw (by decide) (by decide) rfl (by decide) ?_
    have l8 : ∀ (n : Nat) (i : Int) (H : Heap) (locs : List Loc) (hM : MP D cy o ad (up σ 0 0 0) H) (hS : va_S (mA o ad) s.heap H locs) (ls : Array Slot), 0 ≤ i → i ≤ σ 11 0 → σ 11 0 - i < n → lv_has ls 5 [(0, .ref o), (2, .long (lI (sSum (sChd σ) i.toNat))), (4, .int (iI (i)))] → W p l e ({ frames := 6, cells := 0, slots := 0, locals := 145 } : Room) s m args below meth c H locs 0 0 (MQ below (mQX D cy o ad (some (.long (lI (if (0 : Int) = 0 then countR σ w else 0)))) (fun τ => pEnd ((0 : Int)) (σ) σ τ)) args s 0 0 (mA o ad)) (F0 m 164 ls []) := by
      intro n
      induction n with
      | zero => intro i H locs hM hS ls h1 h2 h3; exact absurd h3 (by omega)
      | succ n ih =>
        intro i H locs hM hS ls h1 h2 h3 hl
        refine x_iload B hl dX11_count_164 rfl ?_
        refine x_aload_n B hl dX11_count_166 rfl ?_
        refine mo_gets E hM 11 rfl (hts (.fieldLink RX11 136 "BinRoundsModel" "houses" "I") (by decide +kernel)) rfl dX11_count_167 (up_ne (by decide) rfl) (fun r_167 => ?_)
        refine x_icmp_ge (tgt := 188) B dX11_count_170 (by decide) (by omega) (by omega) (fun c_170 => ?_) (fun c_170 => ?_)
        · refine x_lload_n B hl dX11_count_188 rfl ?_
          exact mo_lretx E hr hlk hM hS dX11_count_189 (by rw [if_pos rfl, hsw, show i = σ 11 0 by omega]; rfl) (pO (C := (0 : Int)) (by rfl) up_s sEq.z)
        · refine x_lload_n B hl dX11_count_173 rfl ?_
          refine x_aload_n B hl dX11_count_174 rfl ?_
          refine x_iload B hl dX11_count_175 rfl ?_
          refine mo_call E hM hS hl (m_chargedToc l D cy o ad _ σ sEq.z I0 (by omega)) (cwV 1 hts0 gX11_count_X11_chargedTo rfl rfl rfl (by decide +kernel) ⟨Nat.le_of_ble_eq_true rfl, Nat.le_of_ble_eq_true rfl⟩) rfl rfl (Nat.le_of_ble_eq_true rfl) dX11_count_177 ⟨Nat.zero_le _, Nat.zero_le _⟩ (fun H locs q_c hM hS => ?_)
          refine x_ladd B dX11_count_180 ?_
          refine x_lstore_n B hl dX11_count_181 (by decide) (fun ls hl => ?_)
          refine x_iinc B hl dX11_count_182 rfl (by decide) (fun ls hl => ?_)
          refine x_goto (tgt := 164) B dX11_count_185 (by decide) ?_
          exact ih (i + 1) _ _ hM hS ls (by omega) (by omega) (by omega) (lv_key hl [(0, .ref o), (2, .long (lI (sSum (sChd σ) (i + 1).toNat))), (4, .int (iI (i + 1)))] (by rw [sSum_s (by omega)]; rfl))
    refine x_lconst B dX11_count_159 ?_
    refine x_lstore_n B hl dX11_count_160 (by decide) (fun ls hl => ?_)
    refine x_iconst B dX11_count_161 ?_
    refine x_istore B hl dX11_count_162 (by decide) (fun ls hl => ?_)
    exact l8 700 0 _ _ hM hS ls (by omega) (by omega) (by omega) (lv_key hl [(0, .ref o), (2, .long (lI (sSum (sChd σ) (0 : Int).toNat))), (4, .int (iI (0)))] rfl)
  · refine x_tswIn (off := 184) (tgt := 190) B dX11_count_6 hsw (by decide) (by decide) rfl (by decide) ?_
    have l9 : ∀ (n : Nat) (i : Int) (H : Heap) (locs : List Loc) (hM : MP D cy o ad (up σ 0 0 0) H) (hS : va_S (mA o ad) s.heap H locs) (ls : Array Slot), 0 ≤ i → i ≤ σ 11 0 → σ 11 0 - i < n → lv_has ls 5 [(0, .ref o), (2, .long (lI (sSum (σ 10) i.toNat))), (4, .int (iI (i)))] → W p l e ({ frames := 6, cells := 0, slots := 0, locals := 145 } : Room) s m args below meth c H locs 0 0 (MQ below (mQX D cy o ad (some (.long (lI (if (0 : Int) = 0 then countR σ w else 0)))) (fun τ => pEnd ((0 : Int)) (σ) σ τ)) args s 0 0 (mA o ad)) (F0 m 195 ls []) := by
      intro n
      induction n with
      | zero => intro i H locs hM hS ls h1 h2 h3; exact absurd h3 (by omega)
      | succ n ih =>
        intro i H locs hM hS ls h1 h2 h3 hl
        refine x_iload B hl dX11_count_195 rfl ?_
        refine x_aload_n B hl dX11_count_197 rfl ?_
        refine mo_gets E hM 11 rfl (hts (.fieldLink RX11 136 "BinRoundsModel" "houses" "I") (by decide +kernel)) rfl dX11_count_198 (up_ne (by decide) rfl) (fun r_198 => ?_)
        refine x_icmp_ge (tgt := 220) B dX11_count_201 (by decide) (by omega) (by omega) (fun c_201 => ?_) (fun c_201 => ?_)
        · refine x_lload_n B hl dX11_count_220 rfl ?_
          exact mo_lretx E hr hlk hM hS dX11_count_221 (by rw [if_pos rfl, hsw, show i = σ 11 0 by omega]; rfl) (pO (C := (0 : Int)) (by rfl) up_s sEq.z)
        · refine x_lload_n B hl dX11_count_204 rfl ?_
          refine x_aload_n B hl dX11_count_205 rfl ?_
          refine mo_geta E hM 10 2 rfl (hts (.fieldLink RX11 33 "BinRoundsModel" "paidBy" "[J") (by decide +kernel)) rfl dX11_count_206 ?_
          refine x_iload B hl dX11_count_209 rfl ?_
          refine mo_lld (k := 10) E hM rfl (by have h9 : mLn 10 = 60 := rfl; omega) (by decide) dX11_count_211 (up_ne (by decide) rfl) (fun r_211 => ?_)
          refine x_ladd B dX11_count_212 ?_
          refine x_lstore_n B hl dX11_count_213 (by decide) (fun ls hl => ?_)
          refine x_iinc B hl dX11_count_214 rfl (by decide) (fun ls hl => ?_)
          refine x_goto (tgt := 195) B dX11_count_217 (by decide) ?_
          exact ih (i + 1) _ _ hM hS ls (by omega) (by omega) (by omega) (lv_key hl [(0, .ref o), (2, .long (lI (sSum (σ 10) (i + 1).toNat))), (4, .int (iI (i + 1)))] (by rw [sSum_s (by omega)]; rfl))
    refine x_lconst B dX11_count_190 ?_
    refine x_lstore_n B hl dX11_count_191 (by decide) (fun ls hl => ?_)
    refine x_iconst B dX11_count_192 ?_
    refine x_istore B hl dX11_count_193 (by decide) (fun ls hl => ?_)
    exact l9 700 0 _ _ hM hS ls (by omega) (by omega) (by omega) (lv_key hl [(0, .ref o), (2, .long (lI (sSum (σ 10) (0 : Int).toNat))), (4, .int (iI (0)))] rfl)
  · refine lv_tableOut (tgt := 222) B.1 B.2 dX11_count_6 (by rw [iI_toInt h_w]; omega) (by decide) ?_
    refine lv_ldc2 (v := lI (-1)) B.1 B.2 hown (hts (.constantLong RX11 226 (-1)) (by decide +kernel)) dX11_count_222 ?_
    first | (have hc : (0 : Int) = 1 := (by omega); exact mo_lretx E hr hlk hM hS dX11_count_225 (by first | (rw [if_neg (by rw [hc]; decide)]; done) | (rw [if_neg (by rw [hc]; decide)]; rfl)) (pE hc (by decide))) | (have hc : (0 : Int) = 2 := (by omega); exact mo_lretx E hr hlk hM hS dX11_count_225 (by first | (rw [if_neg (by rw [hc]; decide)]; done) | (rw [if_neg (by rw [hc]; decide)]; rfl)) (pE hc (by decide))) | (have hc : (0 : Int) = 3 := (by omega); exact mo_lretx E hr hlk hM hS dX11_count_225 (by first | (rw [if_neg (by rw [hc]; decide)]; done) | (rw [if_neg (by rw [hc]; decide)]; rfl)) (pE hc (by decide))) | (have hc : (0 : Int) = 0 := (by omega); exact mo_lretx E hr hlk hM hS dX11_count_225 (by first | (rw [if_pos hc]; done) | (rw [if_pos hc]; first | (rw [hsw]; rfl) | (unfold countR; rw [if_neg (by omega), if_neg (by omega), if_neg (by omega), if_neg (by omega), if_neg (by omega), if_neg (by omega), if_neg (by omega), if_neg (by omega), if_neg (by omega), if_neg (by omega)]))) (pO hc (by first | rfl | (simp only [up_rd]; rfl) | simp [up_rd]) (by first | exact sEq.z | exact sEq.rf)))
set_option maxHeartbeats 4000000 in
set_option maxRecDepth 100000 in
theorem m_p_about (l : Launch) (D : va_G) (cy : Nat → ClassId) (o : Nat) (ad : Nat → Nat) (σ : MS) {h w : Int} {n : Int} (I : sInv n σ) (h_h : -2147483648 ≤ h ∧ h < 2147483648) (h_w : -2147483648 ≤ w ∧ w < 2147483648)  : MX l yX11_about wsX11_about ({ frames := 1, cells := 0, slots := 0, locals := 24 } : Room) D cy o ad [.int (iI h), .int (iI w)] σ (some (.int (iI (if aboutC σ h w = 0 then aboutR σ h w else 0)))) (fun τ => pEnd (aboutC σ h w) (σ) σ τ) := by
  refine mx_of (cc := cX11_about) (nL := 5) (ret := (some .int)) (by decide) rfl rfl (fun w h => List.mem_cons_of_mem _ (List.mem_append_right _ h)) (Nat.le_of_ble_eq_true rfl) ⟨rfl, rfl⟩ ?_
  intro p e s m args below meth c ls E hr hlk hM hS hl
  have B := E.1
  have hml := E.2.1
  have hown := E.2.2.1
  have hts0 := E.2.2.2.1
  have hts := E.2.2.2.1
  have hw := hM.2.2.2
  have I0 := I
  obtain ⟨hn9, hOp, hnS, hnH, hnB, hnC, hnT, hPr, hTol, v3, v4, v6, v7, v12, v15, v16, v17, v18, v19, v20, v21, v22, v24, v25, v26, v28, v29, v32, v33, v35, v36, v37, v38, v39, v42, v43, v44, v40, vm⟩ := I
  refine x_aload_n B hl dX11_about_0 rfl ?_
  refine x_iconst B dX11_about_1 ?_
  refine mo_put E hM hS 0 rfl (hts (.fieldLink RX11 129 "BinRoundsModel" "thrown" "I") (by decide +kernel)) rfl rfl (by decide +kernel) (by omega) dX11_about_2 (fun H locs hM hS => ?_)
  refine x_aload_n B hl dX11_about_5 rfl ?_
  refine x_aload_n B hl dX11_about_6 rfl ?_
  refine x_iload_n B hl dX11_about_7 rfl ?_
  refine mo_call E hM hS hl (m_noHousek l D cy o ad _ (up_ne (by decide) rfl) (by omega)) (cwV 1 hts0 gX11_about_X11_noHouse rfl rfl rfl (by decide +kernel) ⟨Nat.le_of_ble_eq_true rfl, Nat.le_of_ble_eq_true rfl⟩) rfl rfl (Nat.le_of_ble_eq_true rfl) dX11_about_8 ⟨Nat.zero_le _, Nat.zero_le _⟩ (fun H locs q_8 hM hS => ?_)
  refine x_bool (fun b_8 => ?_) (fun b_8 => ?_)
  · refine x_iconst B dX11_about_11 ?_
    refine mo_call E hM hS hl (m_throwsIf_1 l D cy o ad _ _ (by decide)) (cwV 2 hts0 gX11_about_X11_throwsIf rfl rfl rfl (by decide +kernel) ⟨Nat.le_of_ble_eq_true rfl, Nat.le_of_ble_eq_true rfl⟩) rfl rfl (Nat.le_of_ble_eq_true rfl) dX11_about_12 ⟨Nat.zero_le _, Nat.zero_le _⟩ (fun H locs q_t hM hS => ?_)
    refine x_if_eq_f (tgt := 20) B dX11_about_15 (by decide) (by decide) ?_
    refine x_iconst B dX11_about_18 ?_
    first | (have hc : aboutC σ h w = 1 := (by first | rfl | (unfold aboutC; omega)); exact mo_iretx E hr rfl hlk hM hS dX11_about_19 (by first | (rw [if_neg (by rw [hc]; decide)]; done) | (rw [if_neg (by rw [hc]; decide)]; rfl)) (pE hc (by decide))) | (have hc : aboutC σ h w = 2 := (by first | rfl | (unfold aboutC; omega)); exact mo_iretx E hr rfl hlk hM hS dX11_about_19 (by first | (rw [if_neg (by rw [hc]; decide)]; done) | (rw [if_neg (by rw [hc]; decide)]; rfl)) (pE hc (by decide))) | (have hc : aboutC σ h w = 3 := (by first | rfl | (unfold aboutC; omega)); exact mo_iretx E hr rfl hlk hM hS dX11_about_19 (by first | (rw [if_neg (by rw [hc]; decide)]; done) | (rw [if_neg (by rw [hc]; decide)]; rfl)) (pE hc (by decide))) | (have hc : aboutC σ h w = 0 := (by first | rfl | (unfold aboutC; omega)); exact mo_iretx E hr rfl hlk hM hS dX11_about_19 (by first | (rw [if_pos hc]; done) | (rw [if_pos hc]; rw [hsw]; rfl)) (pO hc (by first | rfl | (simp only [up_rd]; rfl) | simp [up_rd]) (by first | exact sEq.z | exact sEq.rf)))
  · refine x_iconst B dX11_about_11 ?_
    refine mo_call E hM hS hl (m_throwsIf_0 l D cy o ad _ _ (by decide)) (cwV 2 hts0 gX11_about_X11_throwsIf rfl rfl rfl (by decide +kernel) ⟨Nat.le_of_ble_eq_true rfl, Nat.le_of_ble_eq_true rfl⟩) rfl rfl (Nat.le_of_ble_eq_true rfl) dX11_about_12 ⟨Nat.zero_le _, Nat.zero_le _⟩ (fun H locs q_t hM hS => ?_)
    refine x_if_eq_t (tgt := 20) B dX11_about_15 (by decide) (by decide) ?_
    refine x_iload_n B hl dX11_about_20 rfl ?_
    rcases (show w = 0 ∨ w = 1 ∨ w = 2 ∨ (w < 0 ∨ 2 < w) by omega) with hsw | hsw | hsw | hsw
    · refine x_tswIn (off := 27) (tgt := 48) B dX11_about_21 hsw (by decide) (by decide) rfl (by decide) ?_
      refine x_aload_n B hl dX11_about_48 rfl ?_
      refine mo_geta E hM 6 0 rfl (hts (.fieldLink RX11 20 "BinRoundsModel" "streetOf" "[I") (by decide +kernel)) rfl dX11_about_49 ?_
      refine x_iload_n B hl dX11_about_52 rfl ?_
      refine mo_ld (k := 6) E hM rfl (by have h9 : mLn 6 = 60 := rfl; omega) (by decide) dX11_about_53 (up_ne (by decide) rfl) (fun r_53 => ?_)
      first | (have hc : aboutC σ h w = 1 := (by first | rfl | (unfold aboutC; omega)); exact mo_iretx E hr rfl hlk hM hS dX11_about_54 (by first | (rw [if_neg (by rw [hc]; decide)]; done) | (rw [if_neg (by rw [hc]; decide)]; rfl)) (pE hc (by decide))) | (have hc : aboutC σ h w = 2 := (by first | rfl | (unfold aboutC; omega)); exact mo_iretx E hr rfl hlk hM hS dX11_about_54 (by first | (rw [if_neg (by rw [hc]; decide)]; done) | (rw [if_neg (by rw [hc]; decide)]; rfl)) (pE hc (by decide))) | (have hc : aboutC σ h w = 3 := (by first | rfl | (unfold aboutC; omega)); exact mo_iretx E hr rfl hlk hM hS dX11_about_54 (by first | (rw [if_neg (by rw [hc]; decide)]; done) | (rw [if_neg (by rw [hc]; decide)]; rfl)) (pE hc (by decide))) | (have hc : aboutC σ h w = 0 := (by first | rfl | (unfold aboutC; omega)); exact mo_iretx E hr rfl hlk hM hS dX11_about_54 (by first | (rw [if_pos hc]; done) | (rw [if_pos hc]; rw [hsw]; rfl)) (pO hc (by first | rfl | (simp only [up_rd]; rfl) | simp [up_rd]) (by first | exact sEq.z | exact sEq.rf)))
    · refine x_tswIn (off := 34) (tgt := 55) B dX11_about_21 hsw (by decide) (by decide) rfl (by decide) ?_
      refine x_aload_n B hl dX11_about_55 rfl ?_
      refine mo_geta E hM 7 0 rfl (hts (.fieldLink RX11 23 "BinRoundsModel" "bands" "[I") (by decide +kernel)) rfl dX11_about_56 ?_
      refine x_iload_n B hl dX11_about_59 rfl ?_
      refine mo_ld (k := 7) E hM rfl (by have h9 : mLn 7 = 60 := rfl; omega) (by decide) dX11_about_60 (up_ne (by decide) rfl) (fun r_60 => ?_)
      first | (have hc : aboutC σ h w = 1 := (by first | rfl | (unfold aboutC; omega)); exact mo_iretx E hr rfl hlk hM hS dX11_about_61 (by first | (rw [if_neg (by rw [hc]; decide)]; done) | (rw [if_neg (by rw [hc]; decide)]; rfl)) (pE hc (by decide))) | (have hc : aboutC σ h w = 2 := (by first | rfl | (unfold aboutC; omega)); exact mo_iretx E hr rfl hlk hM hS dX11_about_61 (by first | (rw [if_neg (by rw [hc]; decide)]; done) | (rw [if_neg (by rw [hc]; decide)]; rfl)) (pE hc (by decide))) | (have hc : aboutC σ h w = 3 := (by first | rfl | (unfold aboutC; omega)); exact mo_iretx E hr rfl hlk hM hS dX11_about_61 (by first | (rw [if_neg (by rw [hc]; decide)]; done) | (rw [if_neg (by rw [hc]; decide)]; rfl)) (pE hc (by decide))) | (have hc : aboutC σ h w = 0 := (by first | rfl | (unfold aboutC; omega)); exact mo_iretx E hr rfl hlk hM hS dX11_about_61 (by first | (rw [if_pos hc]; done) | (rw [if_pos hc]; rw [hsw]; rfl)) (pO hc (by first | rfl | (simp only [up_rd]; rfl) | simp [up_rd]) (by first | exact sEq.z | exact sEq.rf)))
    · refine x_tswIn (off := 41) (tgt := 62) B dX11_about_21 hsw (by decide) (by decide) rfl (by decide) ?_
      have lb : ∀ (n : Nat) (i : Int) (H : Heap) (locs : List Loc) (hM : MP D cy o ad (up σ 0 0 0) H) (hS : va_S (mA o ad) s.heap H locs) (ls : Array Slot), 0 ≤ i → i ≤ σ 23 0 → σ 23 0 - i < n → lv_has ls 5 [(0, .ref o), (1, .int (iI h)), (3, .int (iI (sSum (fun b => if sHouse σ b (σ 1 0) = h then 1 else 0) i.toNat))), (4, .int (iI (i)))] → W p l e ({ frames := 1, cells := 0, slots := 0, locals := 24 } : Room) s m args below meth c H locs 0 0 (MQ below (mQX D cy o ad (some (.int (iI (if aboutC σ h w = 0 then aboutR σ h w else 0)))) (fun τ => pEnd (aboutC σ h w) (σ) σ τ)) args s 0 0 (mA o ad)) (F0 m 67 ls []) := by
        intro n
        induction n with
        | zero => intro i H locs hM hS ls h1 h2 h3; exact absurd h3 (by omega)
        | succ n ih =>
          intro i H locs hM hS ls h1 h2 h3 hl
          refine x_iload B hl dX11_about_67 rfl ?_
          refine x_aload_n B hl dX11_about_69 rfl ?_
          refine mo_gets E hM 23 rfl (hts (.fieldLink RX11 139 "BinRoundsModel" "bins" "I") (by decide +kernel)) rfl dX11_about_70 (up_ne (by decide) rfl) (fun r_70 => ?_)
          refine x_icmp_ge (tgt := 107) B dX11_about_73 (by decide) (by omega) (by omega) (fun c_73 => ?_) (fun c_73 => ?_)
          · refine x_iload_n B hl dX11_about_107 rfl ?_
            exact mo_iretx E hr rfl hlk hM hS dX11_about_108 (by rw [if_pos (show aboutC σ h w = 0 by unfold aboutC; omega), hsw, show i = σ 23 0 by omega]; rfl) (pO (C := aboutC σ h w) (by unfold aboutC; omega) up_s sEq.z)
          · refine x_iload_n B hl dX11_about_76 rfl ?_
            refine x_aload_n B hl dX11_about_77 rfl ?_
            refine x_iload B hl dX11_about_78 rfl ?_
            refine x_aload_n B hl dX11_about_80 rfl ?_
            refine mo_gets E hM 1 rfl (hts (.fieldLink RX11 152 "BinRoundsModel" "open" "I") (by decide +kernel)) rfl dX11_about_81 (up_ne (by decide) rfl) (fun r_81 => ?_)
            refine mo_call E hM hS hl (m_houseOfs l D cy o ad _ σ sEq.z I0 (by omega) (by omega)) (cwV 2 hts0 gX11_about_X11_houseOf rfl rfl rfl (by decide +kernel) ⟨Nat.le_of_ble_eq_true rfl, Nat.le_of_ble_eq_true rfl⟩) rfl rfl (Nat.le_of_ble_eq_true rfl) dX11_about_84 ⟨Nat.zero_le _, Nat.zero_le _⟩ (fun H locs q_s hM hS => ?_)
            refine x_iload_n B hl dX11_about_87 rfl ?_
            refine x_icmp_ne (tgt := 95) B dX11_about_88 (by decide) (by omega) (by omega) (fun c_88 => ?_) (fun c_88 => ?_)
            · refine x_iconst B dX11_about_95 ?_
              refine z_call ⟨B.1, B.2, hml, hown, hts0⟩ hl (m_one_0 l) (va_cwS 1 hts0 gX11_about_X11_one rfl rfl rfl (by decide +kernel) ⟨Nat.le_of_ble_eq_true rfl, Nat.le_of_ble_eq_true rfl⟩) rfl rfl (Nat.le_of_ble_eq_true rfl) dX11_about_96 ⟨Nat.zero_le _, Nat.zero_le _⟩ (fun q_96 => ?_)
              refine x_iadd B dX11_about_99 ?_
              refine x_istore_n B hl dX11_about_100 (by decide) (fun ls hl => ?_)
              refine x_iinc B hl dX11_about_101 rfl (by decide) (fun ls hl => ?_)
              refine x_goto (tgt := 67) B dX11_about_104 (by decide) ?_
              exact ih (i + 1) _ _ hM hS ls (by omega) (by omega) (by omega) (lv_key hl [(0, .ref o), (1, .int (iI h)), (3, .int (iI (sSum (fun b => if sHouse σ b (σ 1 0) = h then 1 else 0) (i + 1).toNat))), (4, .int (iI (i + 1)))] (by rw [sSum_s (by omega)]; first | (rw [if_pos (by omega)]; rfl) | (rw [if_neg (by omega)]; rfl)))
            · refine x_iconst B dX11_about_91 ?_
              refine x_goto (tgt := 96) B dX11_about_92 (by decide) ?_
              refine z_call ⟨B.1, B.2, hml, hown, hts0⟩ hl (m_one_1 l) (va_cwS 1 hts0 gX11_about_X11_one rfl rfl rfl (by decide +kernel) ⟨Nat.le_of_ble_eq_true rfl, Nat.le_of_ble_eq_true rfl⟩) rfl rfl (Nat.le_of_ble_eq_true rfl) dX11_about_96 ⟨Nat.zero_le _, Nat.zero_le _⟩ (fun q_96 => ?_)
              refine x_iadd B dX11_about_99 ?_
              refine x_istore_n B hl dX11_about_100 (by decide) (fun ls hl => ?_)
              refine x_iinc B hl dX11_about_101 rfl (by decide) (fun ls hl => ?_)
              refine x_goto (tgt := 67) B dX11_about_104 (by decide) ?_
              exact ih (i + 1) _ _ hM hS ls (by omega) (by omega) (by omega) (lv_key hl [(0, .ref o), (1, .int (iI h)), (3, .int (iI (sSum (fun b => if sHouse σ b (σ 1 0) = h then 1 else 0) (i + 1).toNat))), (4, .int (iI (i + 1)))] (by rw [sSum_s (by omega)]; first | (rw [if_pos (by omega)]; rfl) | (rw [if_neg (by omega)]; rfl)))
      refine x_iconst B dX11_about_62 ?_
      refine x_istore_n B hl dX11_about_63 (by decide) (fun ls hl => ?_)
      refine x_iconst B dX11_about_64 ?_
      refine x_istore B hl dX11_about_65 (by decide) (fun ls hl => ?_)
      exact lb 121 0 _ _ hM hS ls (by omega) (by omega) (by omega) (lv_key hl [(0, .ref o), (1, .int (iI h)), (3, .int (iI (sSum (fun b => if sHouse σ b (σ 1 0) = h then 1 else 0) (0 : Int).toNat))), (4, .int (iI (0)))] rfl)
    · refine lv_tableOut (tgt := 109) B.1 B.2 dX11_about_21 (by rw [iI_toInt h_w]; omega) (by decide) ?_
      refine x_aload_n B hl dX11_about_109 rfl ?_
      refine x_iconst B dX11_about_110 ?_
      refine mo_put E hM hS 0 rfl (hts (.fieldLink RX11 129 "BinRoundsModel" "thrown" "I") (by decide +kernel)) rfl rfl (by decide +kernel) (by omega) dX11_about_111 (fun H locs hM hS => ?_)
      refine x_iconst B dX11_about_114 ?_
      first | (have hc : aboutC σ h w = 1 := (by first | rfl | (unfold aboutC; omega)); exact mo_iretx E hr rfl hlk hM hS dX11_about_115 (by first | (rw [if_neg (by rw [hc]; decide)]; done) | (rw [if_neg (by rw [hc]; decide)]; rfl)) (pE hc (by decide))) | (have hc : aboutC σ h w = 2 := (by first | rfl | (unfold aboutC; omega)); exact mo_iretx E hr rfl hlk hM hS dX11_about_115 (by first | (rw [if_neg (by rw [hc]; decide)]; done) | (rw [if_neg (by rw [hc]; decide)]; rfl)) (pE hc (by decide))) | (have hc : aboutC σ h w = 3 := (by first | rfl | (unfold aboutC; omega)); exact mo_iretx E hr rfl hlk hM hS dX11_about_115 (by first | (rw [if_neg (by rw [hc]; decide)]; done) | (rw [if_neg (by rw [hc]; decide)]; rfl)) (pE hc (by decide))) | (have hc : aboutC σ h w = 0 := (by first | rfl | (unfold aboutC; omega)); exact mo_iretx E hr rfl hlk hM hS dX11_about_115 (by first | (rw [if_pos hc]; done) | (rw [if_pos hc]; rw [hsw]; rfl)) (pO hc (by first | rfl | (simp only [up_rd]; rfl) | simp [up_rd]) (by first | exact sEq.z | exact sEq.rf)))
set_option maxHeartbeats 4000000 in
set_option maxRecDepth 100000 in
theorem m_p_middle (l : Launch) (D : va_G) (cy : Nat → ClassId) (o : Nat) (ad : Nat → Nat) (σ : MS) {b : Int} {n : Int} (I : sInv n σ) (h_b : -2147483648 ≤ b ∧ b < 2147483648)  : MX l yX11_middle wsX11_middle ({ frames := 1, cells := 0, slots := 0, locals := 24 } : Room) D cy o ad [.int (iI b)] σ (some (.int (iI (if oneC b (σ 23 0) = 0 then sMiddle σ b else 0)))) (fun τ => pEnd (oneC b (σ 23 0)) (σ) σ τ) := by
  refine mx_of (cc := cX11_middle) (nL := 2) (ret := (some .int)) (by decide) rfl rfl (fun w h => List.mem_cons_of_mem _ (List.mem_append_right _ h)) (Nat.le_of_ble_eq_true rfl) ⟨rfl, rfl⟩ ?_
  intro p e s m args below meth c ls E hr hlk hM hS hl
  have B := E.1
  have hml := E.2.1
  have hown := E.2.2.1
  have hts0 := E.2.2.2.1
  have hts := E.2.2.2.1
  have hw := hM.2.2.2
  have I0 := I
  obtain ⟨hn9, hOp, hnS, hnH, hnB, hnC, hnT, hPr, hTol, v3, v4, v6, v7, v12, v15, v16, v17, v18, v19, v20, v21, v22, v24, v25, v26, v28, v29, v32, v33, v35, v36, v37, v38, v39, v42, v43, v44, v40, vm⟩ := I
  refine x_aload_n B hl dX11_middle_0 rfl ?_
  refine x_iconst B dX11_middle_1 ?_
  refine mo_put E hM hS 0 rfl (hts (.fieldLink RX11 129 "BinRoundsModel" "thrown" "I") (by decide +kernel)) rfl rfl (by decide +kernel) (by omega) dX11_middle_2 (fun H locs hM hS => ?_)
  refine x_aload_n B hl dX11_middle_5 rfl ?_
  refine x_aload_n B hl dX11_middle_6 rfl ?_
  refine x_iload_n B hl dX11_middle_7 rfl ?_
  refine mo_call E hM hS hl (m_noBink l D cy o ad _ (up_ne (by decide) rfl) (by omega)) (cwV 1 hts0 gX11_middle_X11_noBin rfl rfl rfl (by decide +kernel) ⟨Nat.le_of_ble_eq_true rfl, Nat.le_of_ble_eq_true rfl⟩) rfl rfl (Nat.le_of_ble_eq_true rfl) dX11_middle_8 ⟨Nat.zero_le _, Nat.zero_le _⟩ (fun H locs q_8 hM hS => ?_)
  refine x_bool (fun b_8 => ?_) (fun b_8 => ?_)
  · refine x_iconst B dX11_middle_11 ?_
    refine mo_call E hM hS hl (m_throwsIf_1 l D cy o ad _ _ (by decide)) (cwV 2 hts0 gX11_middle_X11_throwsIf rfl rfl rfl (by decide +kernel) ⟨Nat.le_of_ble_eq_true rfl, Nat.le_of_ble_eq_true rfl⟩) rfl rfl (Nat.le_of_ble_eq_true rfl) dX11_middle_12 ⟨Nat.zero_le _, Nat.zero_le _⟩ (fun H locs q_t hM hS => ?_)
    refine x_if_eq_f (tgt := 22) B dX11_middle_15 (by decide) (by decide) ?_
    refine x_iconst B dX11_middle_18 ?_
    refine x_goto (tgt := 27) B dX11_middle_19 (by decide) ?_
    first | (have hc : oneC b (σ 23 0) = 1 := (by first | rfl | (unfold oneC; omega)); exact mo_iretx E hr rfl hlk hM hS dX11_middle_27 (by first | (rw [if_neg (by rw [hc]; decide)]; done) | (rw [if_neg (by rw [hc]; decide)]; rfl)) (pE hc (by decide))) | (have hc : oneC b (σ 23 0) = 2 := (by first | rfl | (unfold oneC; omega)); exact mo_iretx E hr rfl hlk hM hS dX11_middle_27 (by first | (rw [if_neg (by rw [hc]; decide)]; done) | (rw [if_neg (by rw [hc]; decide)]; rfl)) (pE hc (by decide))) | (have hc : oneC b (σ 23 0) = 3 := (by first | rfl | (unfold oneC; omega)); exact mo_iretx E hr rfl hlk hM hS dX11_middle_27 (by first | (rw [if_neg (by rw [hc]; decide)]; done) | (rw [if_neg (by rw [hc]; decide)]; rfl)) (pE hc (by decide))) | (have hc : oneC b (σ 23 0) = 0 := (by first | rfl | (unfold oneC; omega)); exact mo_iretx E hr rfl hlk hM hS dX11_middle_27 (by first | (rw [if_pos hc]; done) | (rw [if_pos hc]; rfl) | (rw [if_pos hc]; congr 1; omega) | (rw [if_pos hc]; congr 1; unfold sMiddle; omega)) (pO hc (by rw [q_m.1 0 (by decide)]; exact up_s) (fun k a b c => (q_m.1 k b).trans (up_f a))))
  · refine x_iconst B dX11_middle_11 ?_
    refine mo_call E hM hS hl (m_throwsIf_0 l D cy o ad _ _ (by decide)) (cwV 2 hts0 gX11_middle_X11_throwsIf rfl rfl rfl (by decide +kernel) ⟨Nat.le_of_ble_eq_true rfl, Nat.le_of_ble_eq_true rfl⟩) rfl rfl (Nat.le_of_ble_eq_true rfl) dX11_middle_12 ⟨Nat.zero_le _, Nat.zero_le _⟩ (fun H locs q_t hM hS => ?_)
    refine x_if_eq_t (tgt := 22) B dX11_middle_15 (by decide) (by decide) ?_
    refine x_aload_n B hl dX11_middle_22 rfl ?_
    refine x_iload_n B hl dX11_middle_23 rfl ?_
    refine mo_callx E hM hS hl (m_middleOfc l D cy o ad _ σ sEq.z (by omega) hnT (fun t _ _ => v35 t)) (cwV 1 hts0 gX11_middle_X11_middleOf rfl rfl rfl (by decide +kernel) ⟨Nat.le_of_ble_eq_true rfl, Nat.le_of_ble_eq_true rfl⟩) rfl rfl (Nat.le_of_ble_eq_true rfl) dX11_middle_24 ⟨Nat.zero_le _, Nat.zero_le _⟩ (fun H locs τ1 q_m hM hS => ?_)
    first | (have hc : oneC b (σ 23 0) = 1 := (by first | rfl | (unfold oneC; omega)); exact mo_iretx E hr rfl hlk hM hS dX11_middle_27 (by first | (rw [if_neg (by rw [hc]; decide)]; done) | (rw [if_neg (by rw [hc]; decide)]; rfl)) (pE hc (by decide))) | (have hc : oneC b (σ 23 0) = 2 := (by first | rfl | (unfold oneC; omega)); exact mo_iretx E hr rfl hlk hM hS dX11_middle_27 (by first | (rw [if_neg (by rw [hc]; decide)]; done) | (rw [if_neg (by rw [hc]; decide)]; rfl)) (pE hc (by decide))) | (have hc : oneC b (σ 23 0) = 3 := (by first | rfl | (unfold oneC; omega)); exact mo_iretx E hr rfl hlk hM hS dX11_middle_27 (by first | (rw [if_neg (by rw [hc]; decide)]; done) | (rw [if_neg (by rw [hc]; decide)]; rfl)) (pE hc (by decide))) | (have hc : oneC b (σ 23 0) = 0 := (by first | rfl | (unfold oneC; omega)); exact mo_iretx E hr rfl hlk hM hS dX11_middle_27 (by first | (rw [if_pos hc]; done) | (rw [if_pos hc]; rfl) | (rw [if_pos hc]; congr 1; omega) | (rw [if_pos hc]; congr 1; unfold sMiddle; omega)) (pO hc (by rw [q_m.1 0 (by decide)]; exact up_s) (fun k a b c => (q_m.1 k b).trans (up_f a))))
set_option maxHeartbeats 4000000 in
set_option maxRecDepth 100000 in
theorem m_p_due (l : Launch) (D : va_G) (cy : Nat → ClassId) (o : Nat) (ad : Nat → Nat) (σ : MS) {b : Int} {n : Int} (I : sInv n σ) (h_b : -2147483648 ≤ b ∧ b < 2147483648)  : MX l yX11_due wsX11_due ({ frames := 2, cells := 0, slots := 0, locals := 50 } : Room) D cy o ad [.int (iI b)] σ (some (.int (iI (if oneC b (σ 23 0) = 0 then dueR σ b else 0)))) (fun τ => pEnd (oneC b (σ 23 0)) (σ) σ τ) := by
  refine mx_of (cc := cX11_due) (nL := 6) (ret := (some .int)) (by decide) rfl rfl (fun w h => List.mem_cons_of_mem _ (List.mem_append_right _ h)) (Nat.le_of_ble_eq_true rfl) ⟨rfl, rfl⟩ ?_
  intro p e s m args below meth c ls E hr hlk hM hS hl
  have B := E.1
  have hml := E.2.1
  have hown := E.2.2.1
  have hts0 := E.2.2.2.1
  have hts := E.2.2.2.1
  have hw := hM.2.2.2
  have I0 := I
  obtain ⟨hn9, hOp, hnS, hnH, hnB, hnC, hnT, hPr, hTol, v3, v4, v6, v7, v12, v15, v16, v17, v18, v19, v20, v21, v22, v24, v25, v26, v28, v29, v32, v33, v35, v36, v37, v38, v39, v42, v43, v44, v40, vm⟩ := I
  refine x_aload_n B hl dX11_due_0 rfl ?_
  refine x_iconst B dX11_due_1 ?_
  refine mo_put E hM hS 0 rfl (hts (.fieldLink RX11 129 "BinRoundsModel" "thrown" "I") (by decide +kernel)) rfl rfl (by decide +kernel) (by omega) dX11_due_2 (fun H locs hM hS => ?_)
  refine x_aload_n B hl dX11_due_5 rfl ?_
  refine x_aload_n B hl dX11_due_6 rfl ?_
  refine x_iload_n B hl dX11_due_7 rfl ?_
  refine mo_call E hM hS hl (m_noBink l D cy o ad _ (up_ne (by decide) rfl) (by omega)) (cwV 1 hts0 gX11_due_X11_noBin rfl rfl rfl (by decide +kernel) ⟨Nat.le_of_ble_eq_true rfl, Nat.le_of_ble_eq_true rfl⟩) rfl rfl (Nat.le_of_ble_eq_true rfl) dX11_due_8 ⟨Nat.zero_le _, Nat.zero_le _⟩ (fun H locs q_8 hM hS => ?_)
  refine x_bool (fun b_8 => ?_) (fun b_8 => ?_)
  · refine x_iconst B dX11_due_11 ?_
    refine mo_call E hM hS hl (m_throwsIf_1 l D cy o ad _ _ (by decide)) (cwV 2 hts0 gX11_due_X11_throwsIf rfl rfl rfl (by decide +kernel) ⟨Nat.le_of_ble_eq_true rfl, Nat.le_of_ble_eq_true rfl⟩) rfl rfl (Nat.le_of_ble_eq_true rfl) dX11_due_12 ⟨Nat.zero_le _, Nat.zero_le _⟩ (fun H locs q_t hM hS => ?_)
    refine x_if_eq_f (tgt := 20) B dX11_due_15 (by decide) (by decide) ?_
    refine x_iconst B dX11_due_18 ?_
    first | (have hc : oneC b (σ 23 0) = 1 := (by first | rfl | (unfold oneC; omega)); exact mo_iretx E hr rfl hlk hM hS dX11_due_19 (by first | (rw [if_neg (by rw [hc]; decide)]; done) | (rw [if_neg (by rw [hc]; decide)]; rfl)) (pE hc (by decide))) | (have hc : oneC b (σ 23 0) = 2 := (by first | rfl | (unfold oneC; omega)); exact mo_iretx E hr rfl hlk hM hS dX11_due_19 (by first | (rw [if_neg (by rw [hc]; decide)]; done) | (rw [if_neg (by rw [hc]; decide)]; rfl)) (pE hc (by decide))) | (have hc : oneC b (σ 23 0) = 3 := (by first | rfl | (unfold oneC; omega)); exact mo_iretx E hr rfl hlk hM hS dX11_due_19 (by first | (rw [if_neg (by rw [hc]; decide)]; done) | (rw [if_neg (by rw [hc]; decide)]; rfl)) (pE hc (by decide))) | (have hc : oneC b (σ 23 0) = 0 := (by first | rfl | (unfold oneC; omega)); exact mo_iretx E hr rfl hlk hM hS dX11_due_19 (by first | (rw [if_pos hc]; done) | (rw [if_pos hc]; rfl) | (rw [if_pos hc]; congr 1; omega) | (rw [if_pos hc]; congr 1; unfold dueR; omega)) (pO hc (by first | rfl | (simp only [up_rd]; rfl) | simp [up_rd]) (by first | exact sEq.z | exact sEq.rf)))
  · refine x_iconst B dX11_due_11 ?_
    refine mo_call E hM hS hl (m_throwsIf_0 l D cy o ad _ _ (by decide)) (cwV 2 hts0 gX11_due_X11_throwsIf rfl rfl rfl (by decide +kernel) ⟨Nat.le_of_ble_eq_true rfl, Nat.le_of_ble_eq_true rfl⟩) rfl rfl (Nat.le_of_ble_eq_true rfl) dX11_due_12 ⟨Nat.zero_le _, Nat.zero_le _⟩ (fun H locs q_t hM hS => ?_)
    refine x_if_eq_t (tgt := 20) B dX11_due_15 (by decide) (by decide) ?_
    refine x_aload_n B hl dX11_due_20 rfl ?_
    refine mo_geta E hM 6 0 rfl (hts (.fieldLink RX11 20 "BinRoundsModel" "streetOf" "[I") (by decide +kernel)) rfl dX11_due_21 ?_
    refine x_aload_n B hl dX11_due_24 rfl ?_
    refine x_iload_n B hl dX11_due_25 rfl ?_
    refine x_aload_n B hl dX11_due_26 rfl ?_
    refine mo_gets E hM 1 rfl (hts (.fieldLink RX11 152 "BinRoundsModel" "open" "I") (by decide +kernel)) rfl dX11_due_27 (up_ne (by decide) rfl) (fun r_27 => ?_)
    refine mo_call E hM hS hl (m_houseOfs l D cy o ad _ σ sEq.z I0 (by omega) (by omega)) (cwV 2 hts0 gX11_due_X11_houseOf rfl rfl rfl (by decide +kernel) ⟨Nat.le_of_ble_eq_true rfl, Nat.le_of_ble_eq_true rfl⟩) rfl rfl (Nat.le_of_ble_eq_true rfl) dX11_due_30 ⟨Nat.zero_le _, Nat.zero_le _⟩ (fun H locs q_s hM hS => ?_)
    have hg0 := sHouse_0 (vm b (by omega) (by omega)).1 (vm b (by omega) (by omega)).2 (fun j => (v16 j).1)
    refine mo_ld (k := 6) E hM rfl (by have h9 : mLn 6 = 60 := rfl; omega) (by decide) dX11_due_33 (up_ne (by decide) rfl) (fun r_33 => ?_)
    have v6h := v6 (sHouse σ b (σ 1 0))
    refine x_istore_n B hl dX11_due_34 (by decide) (fun ls hl => ?_)
    have hgr : 0 ≤ sGrp (σ 12 b) ∧ sGrp (σ 12 b) < 3 := by unfold sGrp; split <;> (try split) <;> omega
    have lp : ∀ (n : Nat) (k : Int) (H : Heap) (locs : List Loc) (hM : MP D cy o ad (up σ 0 0 0) H) (hS : va_S (mA o ad) s.heap H locs) (ls : Array Slot), 0 ≤ k → k ≤ 4 → 4 - k < n → lv_has ls 6 [(0, .ref o), (1, .int (iI b)), (2, .int (iI (σ 6 (sHouse σ b (σ 1 0))))), (3, .int (iI (sDu σ (σ 6 (sHouse σ b (σ 1 0))) (sGrp (σ 12 b)) (σ 1 0) (σ 1 0 / 7) k.toNat))), (4, .int (iI (σ 1 0 / 7 + 3 - k)))] → W p l e ({ frames := 2, cells := 0, slots := 0, locals := 50 } : Room) s m args below meth c H locs 0 0 (MQ below (mQX D cy o ad (some (.int (iI (if oneC b (σ 23 0) = 0 then dueR σ b else 0)))) (fun τ => pEnd (oneC b (σ 23 0)) (σ) σ τ)) args s 0 0 (mA o ad)) (F0 m 48 ls []) := by
      intro n
      induction n with
      | zero => intro k H locs hM hS ls h1 h2 h3; exact absurd h3 (by omega)
      | succ n ih =>
        intro k H locs hM hS ls h1 h2 h3 hl
        have v6h := v6 (sHouse σ b (σ 1 0))
        have v12b := v12 b
        have v1 := hOp
        refine x_iload B hl dX11_due_48 rfl ?_
        refine x_aload_n B hl dX11_due_50 rfl ?_
        refine mo_gets E hM 1 rfl (hts (.fieldLink RX11 152 "BinRoundsModel" "open" "I") (by decide +kernel)) rfl dX11_due_51 (up_ne (by decide) rfl) (fun r_51 => ?_)
        refine x_bipush B dX11_due_54 (by decide) ?_
        refine x_idiv B dX11_due_56 (by omega) (by omega) ?_
        refine x_icmp_lt (tgt := 96) B dX11_due_57 (by decide) (by omega) (by omega) (fun c_57 => ?_) (fun c_57 => ?_)
        · refine x_iload_n B hl dX11_due_96 rfl ?_
          have hk4 : k = 4 := by omega
          rw [hk4] at hl
          exact mo_iretx E hr rfl hlk hM hS dX11_due_97 (by rw [if_pos (show oneC b (σ 23 0) = 0 by unfold oneC; omega), hk4]; rfl) (pO (C := oneC b (σ 23 0)) (by unfold oneC; omega) up_s sEq.z)
        · refine x_aload_n B hl dX11_due_60 rfl ?_
          refine x_iload_n B hl dX11_due_61 rfl ?_
          refine x_aload_n B hl dX11_due_62 rfl ?_
          refine mo_geta E hM 12 0 rfl (hts (.fieldLink RX11 36 "BinRoundsModel" "kind" "[I") (by decide +kernel)) rfl dX11_due_63 ?_
          refine x_iload_n B hl dX11_due_66 rfl ?_
          refine mo_ld (k := 12) E hM rfl (by have h9 : mLn 12 = 120 := rfl; omega) (by decide) dX11_due_67 (up_ne (by decide) rfl) (fun r_67 => ?_)
          refine z_call ⟨B.1, B.2, hml, hown, hts0⟩ hl (m_group l (by omega)) (va_cwS 1 hts0 gX11_due_X11_group rfl rfl rfl (by decide +kernel) ⟨Nat.le_of_ble_eq_true rfl, Nat.le_of_ble_eq_true rfl⟩) rfl rfl (Nat.le_of_ble_eq_true rfl) dX11_due_68 ⟨Nat.zero_le _, Nat.zero_le _⟩ (fun q_g => ?_)
          refine x_iload B hl dX11_due_71 rfl ?_
          refine mo_call E hM hS hl (m_dayOfc l D cy o ad _ σ sEq.z I0 (by omega) (by omega) (by omega)) (cwV 3 hts0 gX11_due_X11_dayOf rfl rfl rfl (by decide +kernel) ⟨Nat.le_of_ble_eq_true rfl, Nat.le_of_ble_eq_true rfl⟩) rfl rfl (Nat.le_of_ble_eq_true rfl) dX11_due_73 ⟨Nat.zero_le _, Nat.zero_le _⟩ (fun H locs q_d hM hS => ?_)
          refine x_istore B hl dX11_due_76 (by decide) (fun ls hl => ?_)
          refine x_iload B hl dX11_due_78 rfl ?_
          refine x_aload_n B hl dX11_due_80 rfl ?_
          refine mo_gets E hM 1 rfl (hts (.fieldLink RX11 152 "BinRoundsModel" "open" "I") (by decide +kernel)) rfl dX11_due_81 (up_ne (by decide) rfl) (fun r_81 => ?_)
          refine x_icmp_lt (tgt := 90) B dX11_due_84 (by decide) (by omega) (by omega) (fun c_84 => ?_) (fun c_84 => ?_)
          · refine x_iinc B hl dX11_due_90 rfl (by decide) (fun ls hl => ?_)
            refine x_goto (tgt := 48) B dX11_due_93 (by decide) ?_
            exact ih (k + 1) _ _ hM hS ls (by omega) (by omega) (by omega) (lv_key hl [(0, .ref o), (1, .int (iI b)), (2, .int (iI (σ 6 (sHouse σ b (σ 1 0))))), (3, .int (iI (sDu σ (σ 6 (sHouse σ b (σ 1 0))) (sGrp (σ 12 b)) (σ 1 0) (σ 1 0 / 7) (k + 1).toNat))), (4, .int (iI (σ 1 0 / 7 + 3 - (k + 1))))] (by rw [show σ 1 0 / 7 + 3 - (k + 1) = σ 1 0 / 7 + 3 - k + -1 by omega]; first | (rw [sDu_s (by omega), if_pos (by omega)]; rfl) | (rw [sDu_s (by omega), if_neg (by omega)]; rfl)))
          · refine x_iload B hl dX11_due_87 rfl ?_
            refine x_istore_n B hl dX11_due_89 (by decide) (fun ls hl => ?_)
            refine x_iinc B hl dX11_due_90 rfl (by decide) (fun ls hl => ?_)
            refine x_goto (tgt := 48) B dX11_due_93 (by decide) ?_
            exact ih (k + 1) _ _ hM hS ls (by omega) (by omega) (by omega) (lv_key hl [(0, .ref o), (1, .int (iI b)), (2, .int (iI (σ 6 (sHouse σ b (σ 1 0))))), (3, .int (iI (sDu σ (σ 6 (sHouse σ b (σ 1 0))) (sGrp (σ 12 b)) (σ 1 0) (σ 1 0 / 7) (k + 1).toNat))), (4, .int (iI (σ 1 0 / 7 + 3 - (k + 1))))] (by rw [show σ 1 0 / 7 + 3 - (k + 1) = σ 1 0 / 7 + 3 - k + -1 by omega]; first | (rw [sDu_s (by omega), if_pos (by omega)]; rfl) | (rw [sDu_s (by omega), if_neg (by omega)]; rfl)))
    refine x_iconst B dX11_due_35 ?_
    refine x_istore_n B hl dX11_due_36 (by decide) (fun ls hl => ?_)
    refine x_aload_n B hl dX11_due_37 rfl ?_
    refine mo_gets E hM 1 rfl (hts (.fieldLink RX11 152 "BinRoundsModel" "open" "I") (by decide +kernel)) rfl dX11_due_38 (up_ne (by decide) rfl) (fun r_38 => ?_)
    refine x_bipush B dX11_due_41 (by decide) ?_
    refine x_idiv B dX11_due_43 (by omega) (by omega) ?_
    refine x_iconst B dX11_due_44 ?_
    refine x_iadd B dX11_due_45 ?_
    refine x_istore B hl dX11_due_46 (by decide) (fun ls hl => ?_)
    exact lp 5 0 _ _ hM hS ls (by omega) (by omega) (by omega) (lv_key hl [(0, .ref o), (1, .int (iI b)), (2, .int (iI (σ 6 (sHouse σ b (σ 1 0))))), (3, .int (iI (sDu σ (σ 6 (sHouse σ b (σ 1 0))) (sGrp (σ 12 b)) (σ 1 0) (σ 1 0 / 7) (0 : Int).toNat))), (4, .int (iI (σ 1 0 / 7 + 3 - 0)))] (by rw [show σ 1 0 / 7 + 3 - 0 = σ 1 0 / 7 + 3 by omega]; rfl))
