set_option maxHeartbeats 4000000 in
set_option maxRecDepth 100000 in
theorem m_p_fill (l : Launch) (D : va_G) (cy : Nat → ClassId) (o : Nat) (ad : Nat → Nat) (σ : MS) {q st g : Int} {n : Int} (I : sInv n σ) (h_q : -2147483648 ≤ q ∧ q < 2147483648) (h_st : -2147483648 ≤ st ∧ st < 2147483648) (h_g : -2147483648 ≤ g ∧ g < 2147483648)  : MX l yX11_fill wsX11_fill ({ frames := 1, cells := 0, slots := 0, locals := 25 } : Room) D cy o ad [.int (iI q), .int (iI st), .int (iI g)] σ (some (.int (iI (if fillC σ q st g = 0 then fillR σ q st g else 0)))) (fun τ => pEnd (fillC σ q st g) (σ) σ τ) := by
  refine mx_of (cc := cX11_fill) (nL := 9) (ret := (some .int)) (by decide) rfl rfl (fun w h => List.mem_cons_of_mem _ (List.mem_append_right _ h)) (Nat.le_of_ble_eq_true rfl) ⟨rfl, rfl⟩ ?_
  intro p e s m args below meth c ls E hr hlk hM hS hl
  have B := E.1
  have hml := E.2.1
  have hown := E.2.2.1
  have hts0 := E.2.2.2.1
  have hts := E.2.2.2.1
  have hw := hM.2.2.2
  have I0 := I
  obtain ⟨hn9, hOp, hnS, hnH, hnB, hnC, hnT, hPr, hTol, v3, v4, v6, v7, v12, v15, v16, v17, v18, v19, v20, v21, v22, v24, v25, v26, v28, v29, v32, v33, v35, v36, v37, v38, v39, v42, v43, v44, v40, vm⟩ := I
  refine x_aload_n B hl dX11_fill_0 rfl ?_
  refine x_iconst B dX11_fill_1 ?_
  refine mo_put E hM hS 0 rfl (hts (.fieldLink RX11 129 "BinRoundsModel" "thrown" "I") (by decide +kernel)) rfl rfl (by decide +kernel) (by omega) dX11_fill_2 (fun H locs hM hS => ?_)
  refine x_aload_n B hl dX11_fill_5 rfl ?_
  refine x_aload_n B hl dX11_fill_6 rfl ?_
  refine x_iload_n B hl dX11_fill_7 rfl ?_
  refine mo_call E hM hS hl (m_noCartk l D cy o ad _ (up_ne (by decide) rfl) (by omega)) (cwV 1 hts0 gX11_fill_X11_noCart rfl rfl rfl (by decide +kernel) ⟨Nat.le_of_ble_eq_true rfl, Nat.le_of_ble_eq_true rfl⟩) rfl rfl (Nat.le_of_ble_eq_true rfl) dX11_fill_8 ⟨Nat.zero_le _, Nat.zero_le _⟩ (fun H locs q_8 hM hS => ?_)
  refine x_bool (fun b_8 => ?_) (fun b_8 => ?_)
  · refine x_if_ne_t (tgt := 22) B dX11_fill_11 (by decide) (by decide) ?_
    refine x_iconst B dX11_fill_22 ?_
    refine x_goto (tgt := 27) B dX11_fill_23 (by decide) ?_
    refine x_iconst B dX11_fill_27 ?_
    refine mo_call E hM hS hl (m_throwsIf_1 l D cy o ad _ _ (by decide)) (cwV 2 hts0 gX11_fill_X11_throwsIf rfl rfl rfl (by decide +kernel) ⟨Nat.le_of_ble_eq_true rfl, Nat.le_of_ble_eq_true rfl⟩) rfl rfl (Nat.le_of_ble_eq_true rfl) dX11_fill_28 ⟨Nat.zero_le _, Nat.zero_le _⟩ (fun H locs q_t hM hS => ?_)
    refine x_if_ne_t (tgt := 59) B dX11_fill_31 (by decide) (by decide) ?_
    refine x_iconst B dX11_fill_59 ?_
    first | (have hc : fillC σ q st g = 1 := (by first | rfl | (unfold fillC; omega)); exact mo_iretx E hr rfl hlk hM hS dX11_fill_60 (by first | (rw [if_neg (by rw [hc]; decide)]; done) | (rw [if_neg (by rw [hc]; decide)]; rfl)) (pE hc (by decide))) | (have hc : fillC σ q st g = 2 := (by first | rfl | (unfold fillC; omega)); exact mo_iretx E hr rfl hlk hM hS dX11_fill_60 (by first | (rw [if_neg (by rw [hc]; decide)]; done) | (rw [if_neg (by rw [hc]; decide)]; rfl)) (pE hc (by decide))) | (have hc : fillC σ q st g = 3 := (by first | rfl | (unfold fillC; omega)); exact mo_iretx E hr rfl hlk hM hS dX11_fill_60 (by first | (rw [if_neg (by rw [hc]; decide)]; done) | (rw [if_neg (by rw [hc]; decide)]; rfl)) (pE hc (by decide))) | (have hc : fillC σ q st g = 0 := (by first | rfl | (unfold fillC; omega)); exact mo_iretx E hr rfl hlk hM hS dX11_fill_60 (by first | (rw [if_pos hc]; done) | (rw [if_pos hc]; rfl) | (rw [if_pos hc]; congr 1; omega) | (rw [if_pos hc]; congr 1; unfold fillR; omega)) (pO hc (by first | rfl | (simp only [up_rd]; rfl) | simp [up_rd]) (by first | exact sEq.z | exact sEq.rf)))
  · refine x_if_ne_f (tgt := 22) B dX11_fill_11 (by decide) (by decide) ?_
    refine x_aload_n B hl dX11_fill_14 rfl ?_
    refine x_iload_n B hl dX11_fill_15 rfl ?_
    refine mo_call E hM hS hl (m_noStreetk l D cy o ad _ (up_ne (by decide) rfl) (by omega)) (cwV 1 hts0 gX11_fill_X11_noStreet rfl rfl rfl (by decide +kernel) ⟨Nat.le_of_ble_eq_true rfl, Nat.le_of_ble_eq_true rfl⟩) rfl rfl (Nat.le_of_ble_eq_true rfl) dX11_fill_16 ⟨Nat.zero_le _, Nat.zero_le _⟩ (fun H locs q_16 hM hS => ?_)
    refine x_bool (fun b_16 => ?_) (fun b_16 => ?_)
    · refine x_if_eq_f (tgt := 26) B dX11_fill_19 (by decide) (by decide) ?_
      refine x_iconst B dX11_fill_22 ?_
      refine x_goto (tgt := 27) B dX11_fill_23 (by decide) ?_
      refine x_iconst B dX11_fill_27 ?_
      refine mo_call E hM hS hl (m_throwsIf_1 l D cy o ad _ _ (by decide)) (cwV 2 hts0 gX11_fill_X11_throwsIf rfl rfl rfl (by decide +kernel) ⟨Nat.le_of_ble_eq_true rfl, Nat.le_of_ble_eq_true rfl⟩) rfl rfl (Nat.le_of_ble_eq_true rfl) dX11_fill_28 ⟨Nat.zero_le _, Nat.zero_le _⟩ (fun H locs q_t hM hS => ?_)
      refine x_if_ne_t (tgt := 59) B dX11_fill_31 (by decide) (by decide) ?_
      refine x_iconst B dX11_fill_59 ?_
      first | (have hc : fillC σ q st g = 1 := (by first | rfl | (unfold fillC; omega)); exact mo_iretx E hr rfl hlk hM hS dX11_fill_60 (by first | (rw [if_neg (by rw [hc]; decide)]; done) | (rw [if_neg (by rw [hc]; decide)]; rfl)) (pE hc (by decide))) | (have hc : fillC σ q st g = 2 := (by first | rfl | (unfold fillC; omega)); exact mo_iretx E hr rfl hlk hM hS dX11_fill_60 (by first | (rw [if_neg (by rw [hc]; decide)]; done) | (rw [if_neg (by rw [hc]; decide)]; rfl)) (pE hc (by decide))) | (have hc : fillC σ q st g = 3 := (by first | rfl | (unfold fillC; omega)); exact mo_iretx E hr rfl hlk hM hS dX11_fill_60 (by first | (rw [if_neg (by rw [hc]; decide)]; done) | (rw [if_neg (by rw [hc]; decide)]; rfl)) (pE hc (by decide))) | (have hc : fillC σ q st g = 0 := (by first | rfl | (unfold fillC; omega)); exact mo_iretx E hr rfl hlk hM hS dX11_fill_60 (by first | (rw [if_pos hc]; done) | (rw [if_pos hc]; rfl) | (rw [if_pos hc]; congr 1; omega) | (rw [if_pos hc]; congr 1; unfold fillR; omega)) (pO hc (by first | rfl | (simp only [up_rd]; rfl) | simp [up_rd]) (by first | exact sEq.z | exact sEq.rf)))
    · refine x_if_eq_t (tgt := 26) B dX11_fill_19 (by decide) (by decide) ?_
      refine x_iconst B dX11_fill_26 ?_
      refine x_iconst B dX11_fill_27 ?_
      refine mo_call E hM hS hl (m_throwsIf_0 l D cy o ad _ _ (by decide)) (cwV 2 hts0 gX11_fill_X11_throwsIf rfl rfl rfl (by decide +kernel) ⟨Nat.le_of_ble_eq_true rfl, Nat.le_of_ble_eq_true rfl⟩) rfl rfl (Nat.le_of_ble_eq_true rfl) dX11_fill_28 ⟨Nat.zero_le _, Nat.zero_le _⟩ (fun H locs q_t hM hS => ?_)
      refine x_if_ne_f (tgt := 59) B dX11_fill_31 (by decide) (by decide) ?_
      refine x_aload_n B hl dX11_fill_34 rfl ?_
      refine x_iload_n B hl dX11_fill_35 rfl ?_
      refine x_i2l B dX11_fill_36 (by omega) ?_
      refine x_lconst B dX11_fill_37 ?_
      refine lv_ldc2 (v := lI 2) B.1 B.2 hown (hts (.constantLong RX11 193 (2)) (by decide +kernel)) dX11_fill_38 ?_
      refine z_call ⟨B.1, B.2, hml, hown, hts0⟩ hl (m_in l (by omega) (by omega) (by omega)) (va_cwS 3 hts0 gX11_fill_X11_in rfl rfl rfl (by decide +kernel) ⟨Nat.le_of_ble_eq_true rfl, Nat.le_of_ble_eq_true rfl⟩) rfl rfl (Nat.le_of_ble_eq_true rfl) dX11_fill_41 ⟨Nat.zero_le _, Nat.zero_le _⟩ (fun q_41 => ?_)
      refine x_bool (fun b_41 => ?_) (fun b_41 => ?_)
      · refine x_if_ne_t (tgt := 51) B dX11_fill_44 (by decide) (by decide) ?_
        refine x_iconst B dX11_fill_51 ?_
        refine x_iconst B dX11_fill_52 ?_
        refine mo_call E hM hS hl (m_throwsIf_0 l D cy o ad _ _ (by decide)) (cwV 2 hts0 gX11_fill_X11_throwsIf rfl rfl rfl (by decide +kernel) ⟨Nat.le_of_ble_eq_true rfl, Nat.le_of_ble_eq_true rfl⟩) rfl rfl (Nat.le_of_ble_eq_true rfl) dX11_fill_53 ⟨Nat.zero_le _, Nat.zero_le _⟩ (fun H locs q_t hM hS => ?_)
        refine x_if_eq_t (tgt := 61) B dX11_fill_56 (by decide) (by decide) ?_
        have inner : ∀ (n9 : Nat) (b i S : Int) (τ : MS) (H : Heap) (locs : List Loc) (hM : MP D cy o ad τ H) (hS : va_S (mA o ad) s.heap H locs) (ls : Array Slot), (∀ k, k ≠ 0 → k ≠ 46 → τ k = σ k) → τ 0 0 = 0 → 0 ≤ b → b ≤ σ 23 0 → 0 ≤ i → i < σ 11 0 → 0 ≤ S → S ≤ 1800000000 + 360000000 * i → σ 23 0 - b < n9 → lv_has ls 9 [(0, .ref o), (1, .int (iI q)), (2, .int (iI st)), (3, .int (iI g)), (4, .long (lI (S + sSum (sFs σ i g) (b).toNat))), (6, .int (iI (-1))), (7, .int (iI (i))), (8, .int (iI (b)))] → (∀ (τ : MS) (H : Heap) (locs : List Loc) (hM : MP D cy o ad τ H) (hS : va_S (mA o ad) s.heap H locs) (ls : Array Slot), (∀ k, k ≠ 0 → k ≠ 46 → τ k = σ k) → τ 0 0 = 0 → lv_has ls 9 [(0, .ref o), (1, .int (iI q)), (2, .int (iI st)), (3, .int (iI g)), (4, .long (lI (S + sSum (sFs σ i g) (σ 23 0).toNat))), (6, .int (iI (-1))), (7, .int (iI i))] → W p l e ({ frames := 1, cells := 0, slots := 0, locals := 25 } : Room) s m args below meth c H locs 0 0 (MQ below (mQX D cy o ad (some (.int (iI (if fillC σ q st g = 0 then fillR σ q st g else 0)))) (fun τ => pEnd (fillC σ q st g) (σ) σ τ)) args s 0 0 (mA o ad)) (F0 m 166 ls [])) → W p l e ({ frames := 1, cells := 0, slots := 0, locals := 25 } : Room) s m args below meth c H locs 0 0 (MQ below (mQX D cy o ad (some (.int (iI (if fillC σ q st g = 0 then fillR σ q st g else 0)))) (fun τ => pEnd (fillC σ q st g) (σ) σ τ)) args s 0 0 (mA o ad)) (F0 m 106 ls []) := by
          intro n9
          induction n9 with
          | zero => intro b i S τ H locs hM hS ls hτ h00 h1 h2 h3 h4 h5 h6 h7; exact absurd h7 (by omega)
          | succ n9 ih =>
            intro b i S τ H locs hM hS ls hτ h00 h1 h2 h3 h4 h5 h6 h7 hl kk
            have v12b := v12 b
            have hgr : 0 ≤ sGrp (σ 12 b) ∧ sGrp (σ 12 b) < 3 := by unfold sGrp; split <;> (try split) <;> omega
            have hs9 := sSum_r (sFs_r (h := i) (g := g) v35) b.toNat
            refine x_iload B hl dX11_fill_106 rfl ?_
            refine x_aload_n B hl dX11_fill_108 rfl ?_
            refine mo_gets E hM 23 rfl (hts (.fieldLink RX11 139 "BinRoundsModel" "bins" "I") (by decide +kernel)) rfl dX11_fill_109 (congrFun (hτ 23 (by decide) (by decide)) _) (fun r_109 => ?_)
            refine x_icmp_ge (tgt := 166) B dX11_fill_112 (by decide) (by omega) (by omega) (fun c_112 => ?_) (fun c_112 => ?_)
            · exact kk _ _ _ hM hS ls hτ h00 (lv_key hl [(0, .ref o), (1, .int (iI q)), (2, .int (iI st)), (3, .int (iI g)), (4, .long (lI (S + sSum (sFs σ i g) (σ 23 0).toNat))), (6, .int (iI (-1))), (7, .int (iI i))] (by rw [show b = σ 23 0 by omega]; rfl))
            · refine x_lload B hl dX11_fill_115 rfl ?_
              refine x_aload_n B hl dX11_fill_117 rfl ?_
              refine mo_geta E hM 12 0 rfl (hts (.fieldLink RX11 36 "BinRoundsModel" "kind" "[I") (by decide +kernel)) rfl dX11_fill_118 ?_
              refine x_iload B hl dX11_fill_121 rfl ?_
              refine mo_ld (k := 12) E hM rfl (by have h9 : mLn 12 = 120 := rfl; omega) (by decide) dX11_fill_123 (congrFun (hτ 12 (by decide) (by decide)) _) (fun r_123 => ?_)
              refine z_call ⟨B.1, B.2, hml, hown, hts0⟩ hl (m_group l (by omega)) (va_cwS 1 hts0 gX11_fill_X11_group rfl rfl rfl (by decide +kernel) ⟨Nat.le_of_ble_eq_true rfl, Nat.le_of_ble_eq_true rfl⟩) rfl rfl (Nat.le_of_ble_eq_true rfl) dX11_fill_124 ⟨Nat.zero_le _, Nat.zero_le _⟩ (fun q_g => ?_)
              refine x_iload_n B hl dX11_fill_127 rfl ?_
              refine x_icmp_ne (tgt := 156) B dX11_fill_128 (by decide) (by omega) (by omega) (fun c_128 => ?_) (fun c_128 => ?_)
              · refine x_lconst B dX11_fill_156 ?_
                refine x_ladd B dX11_fill_157 ?_
                refine x_lstore B hl dX11_fill_158 (by decide) (fun ls hl => ?_)
                refine x_iinc B hl dX11_fill_160 rfl (by decide) (fun ls hl => ?_)
                refine x_goto (tgt := 106) B dX11_fill_163 (by decide) ?_
                first | exact ih (b + 1) i S _ _ _ hM hS ls hτ h00 (by omega) (by omega) (by omega) (by omega) (by omega) (by omega) (by omega) (lv_key hl [(0, .ref o), (1, .int (iI q)), (2, .int (iI st)), (3, .int (iI g)), (4, .long (lI (S + sSum (sFs σ i g) (b + 1).toNat))), (6, .int (iI (-1))), (7, .int (iI (i))), (8, .int (iI (b + 1)))] (by rw [sSum_s (by omega), sFs, if_neg (by omega), show S + (sSum (sFs σ i g) b.toNat + 0) = S + sSum (sFs σ i g) b.toNat + 0 by omega]; rfl)) kk | exact ih (b + 1) i S _ _ _ hM hS ls (fun k a b => (q_m.1 k b).trans (hτ k a b)) (by rw [q_m.1 0 (by decide)]; exact h00) (by omega) (by omega) (by omega) (by omega) (by omega) (by omega) (by omega) (lv_key hl [(0, .ref o), (1, .int (iI q)), (2, .int (iI st)), (3, .int (iI g)), (4, .long (lI (S + sSum (sFs σ i g) (b + 1).toNat))), (6, .int (iI (-1))), (7, .int (iI (i))), (8, .int (iI (b + 1)))] (by rw [sSum_s (by omega), show sFs σ i g b = sMiddle σ b from if_pos (by omega), ← Int.add_assoc]; rfl)) kk
              · refine x_aload_n B hl dX11_fill_131 rfl ?_
                refine x_iload B hl dX11_fill_132 rfl ?_
                refine x_aload_n B hl dX11_fill_134 rfl ?_
                refine mo_gets E hM 1 rfl (hts (.fieldLink RX11 152 "BinRoundsModel" "open" "I") (by decide +kernel)) rfl dX11_fill_135 (congrFun (hτ 1 (by decide) (by decide)) _) (fun r_135 => ?_)
                refine mo_call E hM hS hl (m_houseOfs l D cy o ad _ σ (fun k a b _ => hτ k a b) I0 (by omega) (by omega)) (cwV 2 hts0 gX11_fill_X11_houseOf rfl rfl rfl (by decide +kernel) ⟨Nat.le_of_ble_eq_true rfl, Nat.le_of_ble_eq_true rfl⟩) rfl rfl (Nat.le_of_ble_eq_true rfl) dX11_fill_138 ⟨Nat.zero_le _, Nat.zero_le _⟩ (fun H locs q_s hM hS => ?_)
                refine x_iload B hl dX11_fill_141 rfl ?_
                refine x_icmp_ne (tgt := 156) B dX11_fill_143 (by decide) (by omega) (by omega) (fun c_143 => ?_) (fun c_143 => ?_)
                · refine x_lconst B dX11_fill_156 ?_
                  refine x_ladd B dX11_fill_157 ?_
                  refine x_lstore B hl dX11_fill_158 (by decide) (fun ls hl => ?_)
                  refine x_iinc B hl dX11_fill_160 rfl (by decide) (fun ls hl => ?_)
                  refine x_goto (tgt := 106) B dX11_fill_163 (by decide) ?_
                  first | exact ih (b + 1) i S _ _ _ hM hS ls hτ h00 (by omega) (by omega) (by omega) (by omega) (by omega) (by omega) (by omega) (lv_key hl [(0, .ref o), (1, .int (iI q)), (2, .int (iI st)), (3, .int (iI g)), (4, .long (lI (S + sSum (sFs σ i g) (b + 1).toNat))), (6, .int (iI (-1))), (7, .int (iI (i))), (8, .int (iI (b + 1)))] (by rw [sSum_s (by omega), sFs, if_neg (by omega), show S + (sSum (sFs σ i g) b.toNat + 0) = S + sSum (sFs σ i g) b.toNat + 0 by omega]; rfl)) kk | exact ih (b + 1) i S _ _ _ hM hS ls (fun k a b => (q_m.1 k b).trans (hτ k a b)) (by rw [q_m.1 0 (by decide)]; exact h00) (by omega) (by omega) (by omega) (by omega) (by omega) (by omega) (by omega) (lv_key hl [(0, .ref o), (1, .int (iI q)), (2, .int (iI st)), (3, .int (iI g)), (4, .long (lI (S + sSum (sFs σ i g) (b + 1).toNat))), (6, .int (iI (-1))), (7, .int (iI (i))), (8, .int (iI (b + 1)))] (by rw [sSum_s (by omega), show sFs σ i g b = sMiddle σ b from if_pos (by omega), ← Int.add_assoc]; rfl)) kk
                · refine x_aload_n B hl dX11_fill_146 rfl ?_
                  refine x_iload B hl dX11_fill_147 rfl ?_
                  refine mo_callx E hM hS hl (m_middleOfc l D cy o ad _ σ (fun k a b _ => hτ k a b) (by omega) hnT (fun t _ _ => v35 t)) (cwV 1 hts0 gX11_fill_X11_middleOf rfl rfl rfl (by decide +kernel) ⟨Nat.le_of_ble_eq_true rfl, Nat.le_of_ble_eq_true rfl⟩) rfl rfl (Nat.le_of_ble_eq_true rfl) dX11_fill_149 ⟨Nat.zero_le _, Nat.zero_le _⟩ (fun H locs τ1 q_m hM hS => ?_)
                  refine x_i2l B dX11_fill_152 (by omega) ?_
                  refine x_goto (tgt := 157) B dX11_fill_153 (by decide) ?_
                  refine x_ladd B dX11_fill_157 ?_
                  refine x_lstore B hl dX11_fill_158 (by decide) (fun ls hl => ?_)
                  refine x_iinc B hl dX11_fill_160 rfl (by decide) (fun ls hl => ?_)
                  refine x_goto (tgt := 106) B dX11_fill_163 (by decide) ?_
                  first | exact ih (b + 1) i S _ _ _ hM hS ls hτ h00 (by omega) (by omega) (by omega) (by omega) (by omega) (by omega) (by omega) (lv_key hl [(0, .ref o), (1, .int (iI q)), (2, .int (iI st)), (3, .int (iI g)), (4, .long (lI (S + sSum (sFs σ i g) (b + 1).toNat))), (6, .int (iI (-1))), (7, .int (iI (i))), (8, .int (iI (b + 1)))] (by rw [sSum_s (by omega), sFs, if_neg (by omega), show S + (sSum (sFs σ i g) b.toNat + 0) = S + sSum (sFs σ i g) b.toNat + 0 by omega]; rfl)) kk | exact ih (b + 1) i S _ _ _ hM hS ls (fun k a b => (q_m.1 k b).trans (hτ k a b)) (by rw [q_m.1 0 (by decide)]; exact h00) (by omega) (by omega) (by omega) (by omega) (by omega) (by omega) (by omega) (lv_key hl [(0, .ref o), (1, .int (iI q)), (2, .int (iI st)), (3, .int (iI g)), (4, .long (lI (S + sSum (sFs σ i g) (b + 1).toNat))), (6, .int (iI (-1))), (7, .int (iI (i))), (8, .int (iI (b + 1)))] (by rw [sSum_s (by omega), show sFs σ i g b = sMiddle σ b from if_pos (by omega), ← Int.add_assoc]; rfl)) kk
        have outer : ∀ (n9 : Nat) (i f S : Int) (τ : MS) (H : Heap) (locs : List Loc) (hM : MP D cy o ad τ H) (hS : va_S (mA o ad) s.heap H locs) (ls : Array Slot), (∀ k, k ≠ 0 → k ≠ 46 → τ k = σ k) → τ 0 0 = 0 → 0 ≤ i → i ≤ σ 11 0 → 0 ≤ S → S ≤ 1800000000 + 360000000 * i → (f = -1 ∧ sFl σ st g (σ 24 q) (σ 11 0 - i).toNat (i) (S) = fillR σ q st g ∨ 0 ≤ f ∧ f ≤ 60 ∧ f = fillR σ q st g) → σ 11 0 - i < n9 → lv_has ls 9 [(0, .ref o), (1, .int (iI q)), (2, .int (iI st)), (3, .int (iI g)), (4, .long (lI (S))), (6, .int (iI (f))), (7, .int (iI (i)))] → W p l e ({ frames := 1, cells := 0, slots := 0, locals := 25 } : Room) s m args below meth c H locs 0 0 (MQ below (mQX D cy o ad (some (.int (iI (if fillC σ q st g = 0 then fillR σ q st g else 0)))) (fun τ => pEnd (fillC σ q st g) (σ) σ τ)) args s 0 0 (mA o ad)) (F0 m 75 ls []) := by
          intro n9
          induction n9 with
          | zero => intro i f S τ H locs hM hS ls hτ h00 h1 h2 h3 h4 h5 h6; exact absurd h6 (by omega)
          | succ n9 ih =>
            intro i f S τ H locs hM hS ls hτ h00 h1 h2 h3 h4 h5 h6 hl
            have v24q := v24 q
            refine x_iload B hl dX11_fill_75 rfl ?_
            refine x_aload_n B hl dX11_fill_77 rfl ?_
            refine mo_gets E hM 11 rfl (hts (.fieldLink RX11 136 "BinRoundsModel" "houses" "I") (by decide +kernel)) rfl dX11_fill_78 (congrFun (hτ 11 (by decide) (by decide)) _) (fun r_78 => ?_)
            refine x_icmp_ge (tgt := 189) B dX11_fill_81 (by decide) (by omega) (by omega) (fun c_81 => ?_) (fun c_81 => ?_)
            · refine x_iload B hl dX11_fill_189 rfl ?_
              have hv : f = fillR σ q st g := by
                rcases h5 with h5 | h5
                · first | (exfalso; omega) | (rw [← h5.2, h5.1, show i = σ 11 0 by omega, Int.sub_self]; rfl)
                · exact h5.2.2
              have hc : fillC σ q st g = 0 := (by unfold fillC; omega)
              exact mo_iretx E hr rfl hlk hM hS dX11_fill_191 (by rw [if_pos hc, hv]) (pO hc h00 (fun k a b _ => hτ k a b))
            · refine x_iload B hl dX11_fill_84 rfl ?_
              refine x_if_ge (tgt := 189) B dX11_fill_86 (by decide) (by omega) (fun c_86 => ?_) (fun c_86 => ?_)
              · refine x_iload B hl dX11_fill_189 rfl ?_
                have hv : f = fillR σ q st g := by
                  rcases h5 with h5 | h5
                  · first | (exfalso; omega) | (rw [← h5.2, h5.1, show i = σ 11 0 by omega, Int.sub_self]; rfl)
                  · exact h5.2.2
                have hc : fillC σ q st g = 0 := (by unfold fillC; omega)
                exact mo_iretx E hr rfl hlk hM hS dX11_fill_191 (by rw [if_pos hc, hv]) (pO hc h00 (fun k a b _ => hτ k a b))
              · refine x_aload_n B hl dX11_fill_89 rfl ?_
                refine mo_geta E hM 6 0 rfl (hts (.fieldLink RX11 20 "BinRoundsModel" "streetOf" "[I") (by decide +kernel)) rfl dX11_fill_90 ?_
                refine x_iload B hl dX11_fill_93 rfl ?_
                refine mo_ld (k := 6) E hM rfl (by have h9 : mLn 6 = 60 := rfl; omega) (by decide) dX11_fill_95 (congrFun (hτ 6 (by decide) (by decide)) _) (fun r_95 => ?_)
                refine x_iload_n B hl dX11_fill_96 rfl ?_
                refine x_icmp_eq (tgt := 103) B dX11_fill_97 (by decide) (by omega) (by omega) (fun c_97 => ?_) (fun c_97 => ?_)
                · have hf1 : f = -1 := by omega
                  have h5v : sFl σ st g (σ 24 q) (σ 11 0 - i).toNat (i) (S) = fillR σ q st g := by rcases h5 with h5 | h5 <;> omega
                  rw [sFl_s (by omega), if_pos (by omega)] at h5v
                  rw [hf1] at hl
                  refine x_iconst B dX11_fill_103 ?_
                  refine x_istore B hl dX11_fill_104 (by decide) (fun ls hl => ?_)
                  refine inner 122 0 i S _ _ _ hM hS ls hτ h00 (by omega) (by omega) (by omega) (by omega) (by omega) (by omega) (by omega) (lv_key hl [(0, .ref o), (1, .int (iI q)), (2, .int (iI st)), (3, .int (iI g)), (4, .long (lI (S + sSum (sFs σ i g) (0 : Int).toNat))), (6, .int (iI (-1))), (7, .int (iI (i))), (8, .int (iI (0)))] (by rw [show S + sSum (sFs σ i g) (0 : Int).toNat = S by show S + 0 = S; omega]; rfl)) (fun τ H locs hM hS ls hτ h00 hl => ?_)
                  have hs9 := sSum_r (sFs_r (h := i) (g := g) v35) (σ 23 0).toNat
                  refine x_lload B hl dX11_fill_166 rfl ?_
                  refine x_aload_n B hl dX11_fill_168 rfl ?_
                  refine mo_geta E hM 24 0 rfl (hts (.fieldLink RX11 69 "BinRoundsModel" "limits" "[I") (by decide +kernel)) rfl dX11_fill_169 ?_
                  refine x_iload_n B hl dX11_fill_172 rfl ?_
                  refine mo_ld (k := 24) E hM rfl (by have h9 : mLn 24 = 5 := rfl; omega) (by decide) dX11_fill_173 (congrFun (hτ 24 (by decide) (by decide)) _) (fun r_173 => ?_)
                  refine x_i2l B dX11_fill_174 (by omega) ?_
                  refine x_lcmp_le (tgt := 183) B dX11_fill_175 dX11_fill_176 (by decide) (by omega) (by omega) (fun c_175 => ?_) (fun c_175 => ?_)
                  · refine x_iinc B hl dX11_fill_183 rfl (by decide) (fun ls hl => ?_)
                    refine x_goto (tgt := 75) B dX11_fill_186 (by decide) ?_
                    first | exact ih (i + 1) i (S + sSum (sFs σ i g) (σ 23 0).toNat) _ _ _ hM hS ls hτ h00 (by omega) (by omega) (by omega) (by omega) (Or.inr ⟨h1, by omega, by rw [← h5v, if_pos (by omega)]⟩) (by omega) (lv_key hl [(0, .ref o), (1, .int (iI q)), (2, .int (iI st)), (3, .int (iI g)), (4, .long (lI (S + sSum (sFs σ i g) (σ 23 0).toNat))), (6, .int (iI (i))), (7, .int (iI (i + 1)))] rfl) | exact ih (i + 1) (-1) (S + sSum (sFs σ i g) (σ 23 0).toNat) _ _ _ hM hS ls hτ h00 (by omega) (by omega) (by omega) (by omega) (Or.inl ⟨rfl, by rw [← h5v, if_neg (by omega)]⟩) (by omega) (lv_key hl [(0, .ref o), (1, .int (iI q)), (2, .int (iI st)), (3, .int (iI g)), (4, .long (lI (S + sSum (sFs σ i g) (σ 23 0).toNat))), (6, .int (iI (-1))), (7, .int (iI (i + 1)))] rfl)
                  · refine x_iload B hl dX11_fill_179 rfl ?_
                    refine x_istore B hl dX11_fill_181 (by decide) (fun ls hl => ?_)
                    refine x_iinc B hl dX11_fill_183 rfl (by decide) (fun ls hl => ?_)
                    refine x_goto (tgt := 75) B dX11_fill_186 (by decide) ?_
                    first | exact ih (i + 1) i (S + sSum (sFs σ i g) (σ 23 0).toNat) _ _ _ hM hS ls hτ h00 (by omega) (by omega) (by omega) (by omega) (Or.inr ⟨h1, by omega, by rw [← h5v, if_pos (by omega)]⟩) (by omega) (lv_key hl [(0, .ref o), (1, .int (iI q)), (2, .int (iI st)), (3, .int (iI g)), (4, .long (lI (S + sSum (sFs σ i g) (σ 23 0).toNat))), (6, .int (iI (i))), (7, .int (iI (i + 1)))] rfl) | exact ih (i + 1) (-1) (S + sSum (sFs σ i g) (σ 23 0).toNat) _ _ _ hM hS ls hτ h00 (by omega) (by omega) (by omega) (by omega) (Or.inl ⟨rfl, by rw [← h5v, if_neg (by omega)]⟩) (by omega) (lv_key hl [(0, .ref o), (1, .int (iI q)), (2, .int (iI st)), (3, .int (iI g)), (4, .long (lI (S + sSum (sFs σ i g) (σ 23 0).toNat))), (6, .int (iI (-1))), (7, .int (iI (i + 1)))] rfl)
                · refine x_goto (tgt := 183) B dX11_fill_100 (by decide) ?_
                  refine x_iinc B hl dX11_fill_183 rfl (by decide) (fun ls hl => ?_)
                  refine x_goto (tgt := 75) B dX11_fill_186 (by decide) ?_
                  refine ih (i + 1) f S _ _ _ hM hS ls hτ h00 (by omega) (by omega) (by omega) (by omega) ?_ (by omega) (lv_key hl [(0, .ref o), (1, .int (iI q)), (2, .int (iI st)), (3, .int (iI g)), (4, .long (lI (S))), (6, .int (iI (f))), (7, .int (iI (i + 1)))] rfl)
                  rcases h5 with h5 | h5
                  · refine Or.inl ⟨h5.1, ?_⟩
                    rw [← h5.2, sFl_s (h := i) (by omega), if_neg (by omega)]
                  · exact Or.inr h5
        refine x_aload_n B hl dX11_fill_61 rfl ?_
        refine x_iload_n B hl dX11_fill_62 rfl ?_
        refine mo_call E hM hS hl (m_halvesTodayc l D cy o ad _ σ sEq.z I0 (by omega)) (cwV 1 hts0 gX11_fill_X11_halvesToday rfl rfl rfl (by decide +kernel) ⟨Nat.le_of_ble_eq_true rfl, Nat.le_of_ble_eq_true rfl⟩) rfl rfl (Nat.le_of_ble_eq_true rfl) dX11_fill_63 ⟨Nat.zero_le _, Nat.zero_le _⟩ (fun H locs q_h hM hS => ?_)
        refine x_i2l B dX11_fill_66 (by omega) ?_
        refine x_lstore B hl dX11_fill_67 (by decide) (fun ls hl => ?_)
        refine x_iconst B dX11_fill_69 ?_
        refine x_istore B hl dX11_fill_70 (by decide) (fun ls hl => ?_)
        refine x_iconst B dX11_fill_72 ?_
        refine x_istore B hl dX11_fill_73 (by decide) (fun ls hl => ?_)
        exact outer 62 0 (-1) (sHalves σ q) _ _ _ hM hS ls (fun k a _ => up_f a) up_s (by omega) (by omega) (by omega) (by omega) (Or.inl ⟨rfl, by unfold fillR; rw [Int.sub_zero]⟩) (by omega) (lv_key hl [(0, .ref o), (1, .int (iI q)), (2, .int (iI st)), (3, .int (iI g)), (4, .long (lI (sHalves σ q))), (6, .int (iI (-1))), (7, .int (iI (0)))] rfl)
      · refine x_if_ne_f (tgt := 51) B dX11_fill_44 (by decide) (by decide) ?_
        refine x_iconst B dX11_fill_47 ?_
        refine x_goto (tgt := 52) B dX11_fill_48 (by decide) ?_
        refine x_iconst B dX11_fill_52 ?_
        refine mo_call E hM hS hl (m_throwsIf_1 l D cy o ad _ _ (by decide)) (cwV 2 hts0 gX11_fill_X11_throwsIf rfl rfl rfl (by decide +kernel) ⟨Nat.le_of_ble_eq_true rfl, Nat.le_of_ble_eq_true rfl⟩) rfl rfl (Nat.le_of_ble_eq_true rfl) dX11_fill_53 ⟨Nat.zero_le _, Nat.zero_le _⟩ (fun H locs q_t hM hS => ?_)
        refine x_if_eq_f (tgt := 61) B dX11_fill_56 (by decide) (by decide) ?_
        refine x_iconst B dX11_fill_59 ?_
        first | (have hc : fillC σ q st g = 1 := (by first | rfl | (unfold fillC; omega)); exact mo_iretx E hr rfl hlk hM hS dX11_fill_60 (by first | (rw [if_neg (by rw [hc]; decide)]; done) | (rw [if_neg (by rw [hc]; decide)]; rfl)) (pE hc (by decide))) | (have hc : fillC σ q st g = 2 := (by first | rfl | (unfold fillC; omega)); exact mo_iretx E hr rfl hlk hM hS dX11_fill_60 (by first | (rw [if_neg (by rw [hc]; decide)]; done) | (rw [if_neg (by rw [hc]; decide)]; rfl)) (pE hc (by decide))) | (have hc : fillC σ q st g = 3 := (by first | rfl | (unfold fillC; omega)); exact mo_iretx E hr rfl hlk hM hS dX11_fill_60 (by first | (rw [if_neg (by rw [hc]; decide)]; done) | (rw [if_neg (by rw [hc]; decide)]; rfl)) (pE hc (by decide))) | (have hc : fillC σ q st g = 0 := (by first | rfl | (unfold fillC; omega)); exact mo_iretx E hr rfl hlk hM hS dX11_fill_60 (by first | (rw [if_pos hc]; done) | (rw [if_pos hc]; rfl) | (rw [if_pos hc]; congr 1; omega) | (rw [if_pos hc]; congr 1; unfold fillR; omega)) (pO hc (by first | rfl | (simp only [up_rd]; rfl) | simp [up_rd]) (by first | exact sEq.z | exact sEq.rf)))
