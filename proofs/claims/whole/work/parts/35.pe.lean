set_option maxHeartbeats 4000000 in
set_option maxRecDepth 100000 in
theorem m_p_claim (l : Launch) (D : va_G) (cy : Nat → ClassId) (o : Nat) (ad : Nat → Nat) (σ : MS) {t b : Int} {n : Int} (I : sInv n σ) (h_t : -2147483648 ≤ t ∧ t < 2147483648) (h_b : -2147483648 ≤ b ∧ b < 2147483648)  : MX l yX11_claim wsX11_claim ({ frames := 4, cells := 0, slots := 0, locals := 90 } : Room) D cy o ad [.int (iI t), .int (iI b)] σ (some (.long (lI (if claimC σ t b = 0 then sChg (claimS σ t b) t else 0)))) (fun τ => pEnd (claimC σ t b) (claimS σ t b) σ τ) := by
  refine mx_of (cc := cX11_claim) (nL := 3) (ret := (some .long)) (by decide) rfl rfl (fun w h => List.mem_cons_of_mem _ (List.mem_append_right _ h)) (Nat.le_of_ble_eq_true rfl) ⟨rfl, rfl⟩ ?_
  intro p e s m args below meth c ls E hr hlk hM hS hl
  have B := E.1
  have hml := E.2.1
  have hown := E.2.2.1
  have hts0 := E.2.2.2.1
  have hts := E.2.2.2.1
  have hw := hM.2.2.2
  have I0 := I
  obtain ⟨hn9, hOp, hnS, hnH, hnB, hnC, hnT, hPr, hTol, v3, v4, v6, v7, v12, v15, v16, v17, v18, v19, v20, v21, v22, v24, v25, v26, v28, v29, v32, v33, v35, v36, v37, v38, v39, v42, v43, v44, v40, vm⟩ := I
  refine x_aload_n B hl dX11_claim_0 rfl ?_
  refine x_iconst B dX11_claim_1 ?_
  refine mo_put E hM hS 0 rfl (hts (.fieldLink RX11 129 "BinRoundsModel" "thrown" "I") (by decide +kernel)) rfl rfl (by decide +kernel) (by omega) dX11_claim_2 (fun H locs hM hS => ?_)
  refine x_aload_n B hl dX11_claim_5 rfl ?_
  refine x_aload_n B hl dX11_claim_6 rfl ?_
  refine x_iload_n B hl dX11_claim_7 rfl ?_
  refine mo_call E hM hS hl (m_noTipk l D cy o ad _ (up_ne (by decide) rfl) (by omega)) (cwV 1 hts0 gX11_claim_X11_noTip rfl rfl rfl (by decide +kernel) ⟨Nat.le_of_ble_eq_true rfl, Nat.le_of_ble_eq_true rfl⟩) rfl rfl (Nat.le_of_ble_eq_true rfl) dX11_claim_8 ⟨Nat.zero_le _, Nat.zero_le _⟩ (fun H locs q_8 hM hS => ?_)
  refine x_bool (fun b_8 => ?_) (fun b_8 => ?_)
  · refine x_if_ne_t (tgt := 22) B dX11_claim_11 (by decide) (by decide) ?_
    refine x_iconst B dX11_claim_22 ?_
    refine x_goto (tgt := 27) B dX11_claim_23 (by decide) ?_
    refine x_iconst B dX11_claim_27 ?_
    refine mo_call E hM hS hl (m_throwsIf_1 l D cy o ad _ _ (by decide)) (cwV 2 hts0 gX11_claim_X11_throwsIf rfl rfl rfl (by decide +kernel) ⟨Nat.le_of_ble_eq_true rfl, Nat.le_of_ble_eq_true rfl⟩) rfl rfl (Nat.le_of_ble_eq_true rfl) dX11_claim_28 ⟨Nat.zero_le _, Nat.zero_le _⟩ (fun H locs q_t hM hS => ?_)
    refine x_if_ne_t (tgt := 107) B dX11_claim_31 (by decide) (by decide) ?_
    refine x_lconst B dX11_claim_107 ?_
    first | (have hc : claimC σ t b = 1 := (by first | rfl | (unfold claimC; omega)); exact mo_lretx E hr hlk hM hS dX11_claim_108 (by first | (rw [if_neg (by rw [hc]; decide)]; done) | (rw [if_neg (by rw [hc]; decide)]; rfl)) (pE hc (by decide))) | (have hc : claimC σ t b = 2 := (by first | rfl | (unfold claimC; omega)); exact mo_lretx E hr hlk hM hS dX11_claim_108 (by first | (rw [if_neg (by rw [hc]; decide)]; done) | (rw [if_neg (by rw [hc]; decide)]; rfl)) (pE hc (by decide))) | (have hc : claimC σ t b = 3 := (by first | rfl | (unfold claimC; omega)); exact mo_lretx E hr hlk hM hS dX11_claim_108 (by first | (rw [if_neg (by rw [hc]; decide)]; done) | (rw [if_neg (by rw [hc]; decide)]; rfl)) (pE hc (by decide))) | (have hc : claimC σ t b = 0 := (by first | rfl | (unfold claimC; omega)); exact mo_lretx E hr hlk hM hS dX11_claim_108 (by first | (rw [if_pos hc]; done) | (rw [if_pos hc]; exact congrArg lI (sChg_e (sCh_e (sEq.u (sEq.u sEq.z)) t) t))) (pO hc (by rw [sCh_f rfl]; rfl) (sCh_e (sEq.u (sEq.u sEq.z)) t)))
  · refine x_if_ne_f (tgt := 22) B dX11_claim_11 (by decide) (by decide) ?_
    refine x_aload_n B hl dX11_claim_14 rfl ?_
    refine x_iload_n B hl dX11_claim_15 rfl ?_
    refine mo_call E hM hS hl (m_noBink l D cy o ad _ (up_ne (by decide) rfl) (by omega)) (cwV 1 hts0 gX11_claim_X11_noBin rfl rfl rfl (by decide +kernel) ⟨Nat.le_of_ble_eq_true rfl, Nat.le_of_ble_eq_true rfl⟩) rfl rfl (Nat.le_of_ble_eq_true rfl) dX11_claim_16 ⟨Nat.zero_le _, Nat.zero_le _⟩ (fun H locs q_16 hM hS => ?_)
    refine x_bool (fun b_16 => ?_) (fun b_16 => ?_)
    · refine x_if_eq_f (tgt := 26) B dX11_claim_19 (by decide) (by decide) ?_
      refine x_iconst B dX11_claim_22 ?_
      refine x_goto (tgt := 27) B dX11_claim_23 (by decide) ?_
      refine x_iconst B dX11_claim_27 ?_
      refine mo_call E hM hS hl (m_throwsIf_1 l D cy o ad _ _ (by decide)) (cwV 2 hts0 gX11_claim_X11_throwsIf rfl rfl rfl (by decide +kernel) ⟨Nat.le_of_ble_eq_true rfl, Nat.le_of_ble_eq_true rfl⟩) rfl rfl (Nat.le_of_ble_eq_true rfl) dX11_claim_28 ⟨Nat.zero_le _, Nat.zero_le _⟩ (fun H locs q_t hM hS => ?_)
      refine x_if_ne_t (tgt := 107) B dX11_claim_31 (by decide) (by decide) ?_
      refine x_lconst B dX11_claim_107 ?_
      first | (have hc : claimC σ t b = 1 := (by first | rfl | (unfold claimC; omega)); exact mo_lretx E hr hlk hM hS dX11_claim_108 (by first | (rw [if_neg (by rw [hc]; decide)]; done) | (rw [if_neg (by rw [hc]; decide)]; rfl)) (pE hc (by decide))) | (have hc : claimC σ t b = 2 := (by first | rfl | (unfold claimC; omega)); exact mo_lretx E hr hlk hM hS dX11_claim_108 (by first | (rw [if_neg (by rw [hc]; decide)]; done) | (rw [if_neg (by rw [hc]; decide)]; rfl)) (pE hc (by decide))) | (have hc : claimC σ t b = 3 := (by first | rfl | (unfold claimC; omega)); exact mo_lretx E hr hlk hM hS dX11_claim_108 (by first | (rw [if_neg (by rw [hc]; decide)]; done) | (rw [if_neg (by rw [hc]; decide)]; rfl)) (pE hc (by decide))) | (have hc : claimC σ t b = 0 := (by first | rfl | (unfold claimC; omega)); exact mo_lretx E hr hlk hM hS dX11_claim_108 (by first | (rw [if_pos hc]; done) | (rw [if_pos hc]; exact congrArg lI (sChg_e (sCh_e (sEq.u (sEq.u sEq.z)) t) t))) (pO hc (by rw [sCh_f rfl]; rfl) (sCh_e (sEq.u (sEq.u sEq.z)) t)))
    · refine x_if_eq_t (tgt := 26) B dX11_claim_19 (by decide) (by decide) ?_
      refine x_iconst B dX11_claim_26 ?_
      refine x_iconst B dX11_claim_27 ?_
      refine mo_call E hM hS hl (m_throwsIf_0 l D cy o ad _ _ (by decide)) (cwV 2 hts0 gX11_claim_X11_throwsIf rfl rfl rfl (by decide +kernel) ⟨Nat.le_of_ble_eq_true rfl, Nat.le_of_ble_eq_true rfl⟩) rfl rfl (Nat.le_of_ble_eq_true rfl) dX11_claim_28 ⟨Nat.zero_le _, Nat.zero_le _⟩ (fun H locs q_t hM hS => ?_)
      refine x_if_ne_f (tgt := 107) B dX11_claim_31 (by decide) (by decide) ?_
      refine x_aload_n B hl dX11_claim_34 rfl ?_
      refine x_aload_n B hl dX11_claim_35 rfl ?_
      refine mo_geta E hM 37 0 rfl (hts (.fieldLink RX11 99 "BinRoundsModel" "cameSo" "[I") (by decide +kernel)) rfl dX11_claim_36 ?_
      refine x_iload_n B hl dX11_claim_39 rfl ?_
      refine mo_ld (k := 37) E hM rfl (by have h9 : mLn 37 = 600 := rfl; omega) (by decide) dX11_claim_40 (up_ne (by decide) rfl) (fun r_40 => ?_)
      refine x_iconst B dX11_claim_41 ?_
      refine x_icmp_ne (tgt := 58) B dX11_claim_42 (by decide) (by omega) (by omega) (fun c_42 => ?_) (fun c_42 => ?_)
      · refine x_iconst B dX11_claim_58 ?_
        refine x_goto (tgt := 63) B dX11_claim_59 (by decide) ?_
        refine x_iconst B dX11_claim_63 ?_
        refine mo_call E hM hS hl (m_throwsIf_1 l D cy o ad _ _ (by decide)) (cwV 2 hts0 gX11_claim_X11_throwsIf rfl rfl rfl (by decide +kernel) ⟨Nat.le_of_ble_eq_true rfl, Nat.le_of_ble_eq_true rfl⟩) rfl rfl (Nat.le_of_ble_eq_true rfl) dX11_claim_64 ⟨Nat.zero_le _, Nat.zero_le _⟩ (fun H locs q_t hM hS => ?_)
        refine x_if_ne_t (tgt := 107) B dX11_claim_67 (by decide) (by decide) ?_
        refine x_lconst B dX11_claim_107 ?_
        first | (have hc : claimC σ t b = 1 := (by first | rfl | (unfold claimC; omega)); exact mo_lretx E hr hlk hM hS dX11_claim_108 (by first | (rw [if_neg (by rw [hc]; decide)]; done) | (rw [if_neg (by rw [hc]; decide)]; rfl)) (pE hc (by decide))) | (have hc : claimC σ t b = 2 := (by first | rfl | (unfold claimC; omega)); exact mo_lretx E hr hlk hM hS dX11_claim_108 (by first | (rw [if_neg (by rw [hc]; decide)]; done) | (rw [if_neg (by rw [hc]; decide)]; rfl)) (pE hc (by decide))) | (have hc : claimC σ t b = 3 := (by first | rfl | (unfold claimC; omega)); exact mo_lretx E hr hlk hM hS dX11_claim_108 (by first | (rw [if_neg (by rw [hc]; decide)]; done) | (rw [if_neg (by rw [hc]; decide)]; rfl)) (pE hc (by decide))) | (have hc : claimC σ t b = 0 := (by first | rfl | (unfold claimC; omega)); exact mo_lretx E hr hlk hM hS dX11_claim_108 (by first | (rw [if_pos hc]; done) | (rw [if_pos hc]; exact congrArg lI (sChg_e (sCh_e (sEq.u (sEq.u sEq.z)) t) t))) (pO hc (by rw [sCh_f rfl]; rfl) (sCh_e (sEq.u (sEq.u sEq.z)) t)))
      · refine x_aload_n B hl dX11_claim_45 rfl ?_
        refine mo_geta E hM 32 0 rfl (hts (.fieldLink RX11 84 "BinRoundsModel" "dayOf" "[I") (by decide +kernel)) rfl dX11_claim_46 ?_
        refine x_iload_n B hl dX11_claim_49 rfl ?_
        refine mo_ld (k := 32) E hM rfl (by have h9 : mLn 32 = 600 := rfl; omega) (by decide) dX11_claim_50 (up_ne (by decide) rfl) (fun r_50 => ?_)
        refine x_aload_n B hl dX11_claim_51 rfl ?_
        refine mo_gets E hM 1 rfl (hts (.fieldLink RX11 152 "BinRoundsModel" "open" "I") (by decide +kernel)) rfl dX11_claim_52 (up_ne (by decide) rfl) (fun r_52 => ?_)
        refine x_icmp_ne (tgt := 62) B dX11_claim_55 (by decide) (by omega) (by omega) (fun c_55 => ?_) (fun c_55 => ?_)
        · refine x_iconst B dX11_claim_62 ?_
          refine x_iconst B dX11_claim_63 ?_
          refine mo_call E hM hS hl (m_throwsIf_0 l D cy o ad _ _ (by decide)) (cwV 2 hts0 gX11_claim_X11_throwsIf rfl rfl rfl (by decide +kernel) ⟨Nat.le_of_ble_eq_true rfl, Nat.le_of_ble_eq_true rfl⟩) rfl rfl (Nat.le_of_ble_eq_true rfl) dX11_claim_64 ⟨Nat.zero_le _, Nat.zero_le _⟩ (fun H locs q_t hM hS => ?_)
          refine x_if_ne_f (tgt := 107) B dX11_claim_67 (by decide) (by decide) ?_
          refine x_aload_n B hl dX11_claim_70 rfl ?_
          refine x_aload_n B hl dX11_claim_71 rfl ?_
          refine mo_geta E hM 13 1 rfl (hts (.fieldLink RX11 39 "BinRoundsModel" "bears" "[Z") (by decide +kernel)) rfl dX11_claim_72 ?_
          refine x_iload_n B hl dX11_claim_75 rfl ?_
          refine mo_zld (k := 13) E hM rfl (by have h9 : mLn 13 = 120 := rfl; omega) (by decide) dX11_claim_76 (up_ne (by decide) rfl) (fun r_76 => ?_)
          refine x_if_eq (tgt := 95) B dX11_claim_77 (by decide) (by omega) (fun c_77 => ?_) (fun c_77 => ?_)
          · refine x_iconst B dX11_claim_95 ?_
            refine x_goto (tgt := 100) B dX11_claim_96 (by decide) ?_
            refine x_iconst B dX11_claim_100 ?_
            refine mo_call E hM hS hl (m_throwsIf_1 l D cy o ad _ _ (by decide)) (cwV 2 hts0 gX11_claim_X11_throwsIf rfl rfl rfl (by decide +kernel) ⟨Nat.le_of_ble_eq_true rfl, Nat.le_of_ble_eq_true rfl⟩) rfl rfl (Nat.le_of_ble_eq_true rfl) dX11_claim_101 ⟨Nat.zero_le _, Nat.zero_le _⟩ (fun H locs q_t hM hS => ?_)
            refine x_if_eq_f (tgt := 109) B dX11_claim_104 (by decide) (by decide) ?_
            refine x_lconst B dX11_claim_107 ?_
            first | (have hc : claimC σ t b = 1 := (by first | rfl | (unfold claimC; omega)); exact mo_lretx E hr hlk hM hS dX11_claim_108 (by first | (rw [if_neg (by rw [hc]; decide)]; done) | (rw [if_neg (by rw [hc]; decide)]; rfl)) (pE hc (by decide))) | (have hc : claimC σ t b = 2 := (by first | rfl | (unfold claimC; omega)); exact mo_lretx E hr hlk hM hS dX11_claim_108 (by first | (rw [if_neg (by rw [hc]; decide)]; done) | (rw [if_neg (by rw [hc]; decide)]; rfl)) (pE hc (by decide))) | (have hc : claimC σ t b = 3 := (by first | rfl | (unfold claimC; omega)); exact mo_lretx E hr hlk hM hS dX11_claim_108 (by first | (rw [if_neg (by rw [hc]; decide)]; done) | (rw [if_neg (by rw [hc]; decide)]; rfl)) (pE hc (by decide))) | (have hc : claimC σ t b = 0 := (by first | rfl | (unfold claimC; omega)); exact mo_lretx E hr hlk hM hS dX11_claim_108 (by first | (rw [if_pos hc]; done) | (rw [if_pos hc]; exact congrArg lI (sChg_e (sCh_e (sEq.u (sEq.u sEq.z)) t) t))) (pO hc (by rw [sCh_f rfl]; rfl) (sCh_e (sEq.u (sEq.u sEq.z)) t)))
          · refine x_aload_n B hl dX11_claim_80 rfl ?_
            refine mo_geta E hM 14 0 rfl (hts (.fieldLink RX11 42 "BinRoundsModel" "markOf" "[I") (by decide +kernel)) rfl dX11_claim_81 ?_
            refine x_iload_n B hl dX11_claim_84 rfl ?_
            refine mo_ld (k := 14) E hM rfl (by have h9 : mLn 14 = 120 := rfl; omega) (by decide) dX11_claim_85 (up_ne (by decide) rfl) (fun r_85 => ?_)
            refine x_aload_n B hl dX11_claim_86 rfl ?_
            refine mo_geta E hM 34 0 rfl (hts (.fieldLink RX11 90 "BinRoundsModel" "tipMark" "[I") (by decide +kernel)) rfl dX11_claim_87 ?_
            refine x_iload_n B hl dX11_claim_90 rfl ?_
            refine mo_ld (k := 34) E hM rfl (by have h9 : mLn 34 = 600 := rfl; omega) (by decide) dX11_claim_91 (up_ne (by decide) rfl) (fun r_91 => ?_)
            refine x_icmp_eq (tgt := 99) B dX11_claim_92 (by decide) (by omega) (by omega) (fun c_92 => ?_) (fun c_92 => ?_)
            · refine x_iconst B dX11_claim_99 ?_
              refine x_iconst B dX11_claim_100 ?_
              refine mo_call E hM hS hl (m_throwsIf_0 l D cy o ad _ _ (by decide)) (cwV 2 hts0 gX11_claim_X11_throwsIf rfl rfl rfl (by decide +kernel) ⟨Nat.le_of_ble_eq_true rfl, Nat.le_of_ble_eq_true rfl⟩) rfl rfl (Nat.le_of_ble_eq_true rfl) dX11_claim_101 ⟨Nat.zero_le _, Nat.zero_le _⟩ (fun H locs q_t hM hS => ?_)
              refine x_if_eq_t (tgt := 109) B dX11_claim_104 (by decide) (by decide) ?_
              refine x_aload_n B hl dX11_claim_109 rfl ?_
              refine mo_geta E hM 37 0 rfl (hts (.fieldLink RX11 99 "BinRoundsModel" "cameSo" "[I") (by decide +kernel)) rfl dX11_claim_110 ?_
              refine x_iload_n B hl dX11_claim_113 rfl ?_
              refine x_iconst B dX11_claim_114 ?_
              refine mo_st (k := 37) E hM hS rfl (by have h9 : mLn 37 = 600 := rfl; omega) (by decide) (by omega) dX11_claim_115 (fun H locs hM hS => ?_)
              refine x_aload_n B hl dX11_claim_116 rfl ?_
              refine mo_geta E hM 36 0 rfl (hts (.fieldLink RX11 96 "BinRoundsModel" "binOf" "[I") (by decide +kernel)) rfl dX11_claim_117 ?_
              refine x_iload_n B hl dX11_claim_120 rfl ?_
              refine x_iload_n B hl dX11_claim_121 rfl ?_
              refine mo_st (k := 36) E hM hS rfl (by have h9 : mLn 36 = 600 := rfl; omega) (by decide) (by omega) dX11_claim_122 (fun H locs hM hS => ?_)
              refine x_aload_n B hl dX11_claim_123 rfl ?_
              refine x_iload_n B hl dX11_claim_124 rfl ?_
              refine mo_call E hM hS hl (m_charges l D cy o ad _ (by omega) (by rw [up_s]; omega) (by rw [up_s]; exact v12 _) (by rw [up_s]; exact v18 _) v16 (fun j => by have h9 := v15 j; show 0 ≤ σ 15 j ∧ σ 15 j ≤ 1000000000; omega)) (cwV 1 hts0 gX11_claim_X11_charges rfl rfl rfl (by decide +kernel) ⟨Nat.le_of_ble_eq_true rfl, Nat.le_of_ble_eq_true rfl⟩) rfl rfl (Nat.le_of_ble_eq_true rfl) dX11_claim_125 ⟨Nat.zero_le _, Nat.zero_le _⟩ (fun H locs q_ch hM hS => ?_)
              refine x_aload_n B hl dX11_claim_128 rfl ?_
              refine x_iload_n B hl dX11_claim_129 rfl ?_
              refine mo_call E hM hS hl (m_chargeOf l D cy o ad _ (by omega) (fun _ => by rw [sCh_f rfl, up_s]; omega) (fun _ => by rw [sCh_f rfl]; exact v22 _) (fun _ => by rw [sCh_f rfl]; exact v18 _) (by rw [sCh_f rfl]; exact hnH) (by rw [sCh_f rfl]; exact v20)) (cwV 1 hts0 gX11_claim_X11_chargeOf rfl rfl rfl (by decide +kernel) ⟨Nat.le_of_ble_eq_true rfl, Nat.le_of_ble_eq_true rfl⟩) rfl rfl (Nat.le_of_ble_eq_true rfl) dX11_claim_130 ⟨Nat.zero_le _, Nat.zero_le _⟩ (fun H locs q_co hM hS => ?_)
              first | (have hc : claimC σ t b = 1 := (by first | rfl | (unfold claimC; omega)); exact mo_lretx E hr hlk hM hS dX11_claim_133 (by first | (rw [if_neg (by rw [hc]; decide)]; done) | (rw [if_neg (by rw [hc]; decide)]; rfl)) (pE hc (by decide))) | (have hc : claimC σ t b = 2 := (by first | rfl | (unfold claimC; omega)); exact mo_lretx E hr hlk hM hS dX11_claim_133 (by first | (rw [if_neg (by rw [hc]; decide)]; done) | (rw [if_neg (by rw [hc]; decide)]; rfl)) (pE hc (by decide))) | (have hc : claimC σ t b = 3 := (by first | rfl | (unfold claimC; omega)); exact mo_lretx E hr hlk hM hS dX11_claim_133 (by first | (rw [if_neg (by rw [hc]; decide)]; done) | (rw [if_neg (by rw [hc]; decide)]; rfl)) (pE hc (by decide))) | (have hc : claimC σ t b = 0 := (by first | rfl | (unfold claimC; omega)); exact mo_lretx E hr hlk hM hS dX11_claim_133 (by first | (rw [if_pos hc]; done) | (rw [if_pos hc]; exact congrArg lI (sChg_e (sCh_e (sEq.u (sEq.u sEq.z)) t) t))) (pO hc (by rw [sCh_f rfl]; rfl) (sCh_e (sEq.u (sEq.u sEq.z)) t)))
            · refine x_iconst B dX11_claim_95 ?_
              refine x_goto (tgt := 100) B dX11_claim_96 (by decide) ?_
              refine x_iconst B dX11_claim_100 ?_
              refine mo_call E hM hS hl (m_throwsIf_1 l D cy o ad _ _ (by decide)) (cwV 2 hts0 gX11_claim_X11_throwsIf rfl rfl rfl (by decide +kernel) ⟨Nat.le_of_ble_eq_true rfl, Nat.le_of_ble_eq_true rfl⟩) rfl rfl (Nat.le_of_ble_eq_true rfl) dX11_claim_101 ⟨Nat.zero_le _, Nat.zero_le _⟩ (fun H locs q_t hM hS => ?_)
              refine x_if_eq_f (tgt := 109) B dX11_claim_104 (by decide) (by decide) ?_
              refine x_lconst B dX11_claim_107 ?_
              first | (have hc : claimC σ t b = 1 := (by first | rfl | (unfold claimC; omega)); exact mo_lretx E hr hlk hM hS dX11_claim_108 (by first | (rw [if_neg (by rw [hc]; decide)]; done) | (rw [if_neg (by rw [hc]; decide)]; rfl)) (pE hc (by decide))) | (have hc : claimC σ t b = 2 := (by first | rfl | (unfold claimC; omega)); exact mo_lretx E hr hlk hM hS dX11_claim_108 (by first | (rw [if_neg (by rw [hc]; decide)]; done) | (rw [if_neg (by rw [hc]; decide)]; rfl)) (pE hc (by decide))) | (have hc : claimC σ t b = 3 := (by first | rfl | (unfold claimC; omega)); exact mo_lretx E hr hlk hM hS dX11_claim_108 (by first | (rw [if_neg (by rw [hc]; decide)]; done) | (rw [if_neg (by rw [hc]; decide)]; rfl)) (pE hc (by decide))) | (have hc : claimC σ t b = 0 := (by first | rfl | (unfold claimC; omega)); exact mo_lretx E hr hlk hM hS dX11_claim_108 (by first | (rw [if_pos hc]; done) | (rw [if_pos hc]; exact congrArg lI (sChg_e (sCh_e (sEq.u (sEq.u sEq.z)) t) t))) (pO hc (by rw [sCh_f rfl]; rfl) (sCh_e (sEq.u (sEq.u sEq.z)) t)))
        · refine x_iconst B dX11_claim_58 ?_
          refine x_goto (tgt := 63) B dX11_claim_59 (by decide) ?_
          refine x_iconst B dX11_claim_63 ?_
          refine mo_call E hM hS hl (m_throwsIf_1 l D cy o ad _ _ (by decide)) (cwV 2 hts0 gX11_claim_X11_throwsIf rfl rfl rfl (by decide +kernel) ⟨Nat.le_of_ble_eq_true rfl, Nat.le_of_ble_eq_true rfl⟩) rfl rfl (Nat.le_of_ble_eq_true rfl) dX11_claim_64 ⟨Nat.zero_le _, Nat.zero_le _⟩ (fun H locs q_t hM hS => ?_)
          refine x_if_ne_t (tgt := 107) B dX11_claim_67 (by decide) (by decide) ?_
          refine x_lconst B dX11_claim_107 ?_
          first | (have hc : claimC σ t b = 1 := (by first | rfl | (unfold claimC; omega)); exact mo_lretx E hr hlk hM hS dX11_claim_108 (by first | (rw [if_neg (by rw [hc]; decide)]; done) | (rw [if_neg (by rw [hc]; decide)]; rfl)) (pE hc (by decide))) | (have hc : claimC σ t b = 2 := (by first | rfl | (unfold claimC; omega)); exact mo_lretx E hr hlk hM hS dX11_claim_108 (by first | (rw [if_neg (by rw [hc]; decide)]; done) | (rw [if_neg (by rw [hc]; decide)]; rfl)) (pE hc (by decide))) | (have hc : claimC σ t b = 3 := (by first | rfl | (unfold claimC; omega)); exact mo_lretx E hr hlk hM hS dX11_claim_108 (by first | (rw [if_neg (by rw [hc]; decide)]; done) | (rw [if_neg (by rw [hc]; decide)]; rfl)) (pE hc (by decide))) | (have hc : claimC σ t b = 0 := (by first | rfl | (unfold claimC; omega)); exact mo_lretx E hr hlk hM hS dX11_claim_108 (by first | (rw [if_pos hc]; done) | (rw [if_pos hc]; exact congrArg lI (sChg_e (sCh_e (sEq.u (sEq.u sEq.z)) t) t))) (pO hc (by rw [sCh_f rfl]; rfl) (sCh_e (sEq.u (sEq.u sEq.z)) t)))
