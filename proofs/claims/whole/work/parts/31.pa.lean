theorem m_noStreetk (l : Launch) (D : va_G) (cy : Nat → ClassId) (o : Nat) (ad : Nat → Nat) (σ : MS) {z k : Int} (hk : σ 5 0 = k) (hz : -2147483648 ≤ z ∧ z < 2147483648) : MM l yX11_noStreet wsX11_noStreet ({ frames := 0, cells := 0, slots := 0, locals := 0 } : Room) D cy o ad [.int (iI z)] σ (some (.int (iI (if z < 0 ∨ k ≤ z then 1 else 0)))) σ True := by
  subst hk
  exact m_noStreet l D cy o ad σ hz
theorem m_noHousek (l : Launch) (D : va_G) (cy : Nat → ClassId) (o : Nat) (ad : Nat → Nat) (σ : MS) {z k : Int} (hk : σ 11 0 = k) (hz : -2147483648 ≤ z ∧ z < 2147483648) : MM l yX11_noHouse wsX11_noHouse ({ frames := 0, cells := 0, slots := 0, locals := 0 } : Room) D cy o ad [.int (iI z)] σ (some (.int (iI (if z < 0 ∨ k ≤ z then 1 else 0)))) σ True := by
  subst hk
  exact m_noHouse l D cy o ad σ hz
theorem m_noBink (l : Launch) (D : va_G) (cy : Nat → ClassId) (o : Nat) (ad : Nat → Nat) (σ : MS) {z k : Int} (hk : σ 23 0 = k) (hz : -2147483648 ≤ z ∧ z < 2147483648) : MM l yX11_noBin wsX11_noBin ({ frames := 0, cells := 0, slots := 0, locals := 0 } : Room) D cy o ad [.int (iI z)] σ (some (.int (iI (if z < 0 ∨ k ≤ z then 1 else 0)))) σ True := by
  subst hk
  exact m_noBin l D cy o ad σ hz
theorem m_noCartk (l : Launch) (D : va_G) (cy : Nat → ClassId) (o : Nat) (ad : Nat → Nat) (σ : MS) {z k : Int} (hk : σ 27 0 = k) (hz : -2147483648 ≤ z ∧ z < 2147483648) : MM l yX11_noCart wsX11_noCart ({ frames := 0, cells := 0, slots := 0, locals := 0 } : Room) D cy o ad [.int (iI z)] σ (some (.int (iI (if z < 0 ∨ k ≤ z then 1 else 0)))) σ True := by
  subst hk
  exact m_noCart l D cy o ad σ hz
theorem m_noTipk (l : Launch) (D : va_G) (cy : Nat → ClassId) (o : Nat) (ad : Nat → Nat) (σ : MS) {z k : Int} (hk : σ 45 0 = k) (hz : -2147483648 ≤ z ∧ z < 2147483648) : MM l yX11_noTip wsX11_noTip ({ frames := 0, cells := 0, slots := 0, locals := 0 } : Room) D cy o ad [.int (iI z)] σ (some (.int (iI (if z < 0 ∨ k ≤ z then 1 else 0)))) σ True := by
  subst hk
  exact m_noTip l D cy o ad σ hz
set_option maxHeartbeats 4000000 in
set_option maxRecDepth 100000 in
theorem m_p_street (l : Launch) (D : va_G) (cy : Nat → ClassId) (o : Nat) (ad : Nat → Nat) (σ : MS) {n : Int} (I : sInv n σ)   : MX l yX11_street wsX11_street ({ frames := 1, cells := 0, slots := 0, locals := 22 } : Room) D cy o ad [] σ (some (.int (iI (if streetC σ = 0 then σ 5 0 else 0)))) (fun τ => pEnd (streetC σ) (streetS σ) σ τ) := by
  refine mx_of (cc := cX11_street) (nL := 1) (ret := (some .int)) (by decide) rfl rfl (fun w h => List.mem_cons_of_mem _ (List.mem_append_right _ h)) (Nat.le_of_ble_eq_true rfl) ⟨rfl, rfl⟩ ?_
  intro p e s m args below meth c ls E hr hlk hM hS hl
  have B := E.1
  have hml := E.2.1
  have hown := E.2.2.1
  have hts0 := E.2.2.2.1
  have hts := E.2.2.2.1
  have hw := hM.2.2.2
  have I0 := I
  obtain ⟨hn9, hOp, hnS, hnH, hnB, hnC, hnT, hPr, hTol, v3, v4, v6, v7, v12, v15, v16, v17, v18, v19, v20, v21, v22, v24, v25, v26, v28, v29, v32, v33, v35, v36, v37, v38, v39, v42, v43, v44, v40, vm⟩ := I
  refine x_aload_n B hl dX11_street_0 rfl ?_
  refine x_iconst B dX11_street_1 ?_
  refine mo_put E hM hS 0 rfl (hts (.fieldLink RX11 129 "BinRoundsModel" "thrown" "I") (by decide +kernel)) rfl rfl (by decide +kernel) (by omega) dX11_street_2 (fun H locs hM hS => ?_)
  refine x_aload_n B hl dX11_street_5 rfl ?_
  refine x_aload_n B hl dX11_street_6 rfl ?_
  refine mo_gets E hM 5 rfl (hts (.fieldLink RX11 133 "BinRoundsModel" "streets" "I") (by decide +kernel)) rfl dX11_street_7 (up_ne (by decide) rfl) (fun r_7 => ?_)
  refine x_bipush B dX11_street_10 (by decide) ?_
  refine x_icmp_ne (tgt := 19) B dX11_street_12 (by decide) (by omega) (by omega) (fun c_12 => ?_) (fun c_12 => ?_)
  · refine x_iconst B dX11_street_19 ?_
    refine x_iconst B dX11_street_20 ?_
    refine mo_call E hM hS hl (m_throwsIf_0 l D cy o ad _ _ (by decide)) (cwV 2 hts0 gX11_street_X11_throwsIf rfl rfl rfl (by decide +kernel) ⟨Nat.le_of_ble_eq_true rfl, Nat.le_of_ble_eq_true rfl⟩) rfl rfl (Nat.le_of_ble_eq_true rfl) dX11_street_21 ⟨Nat.zero_le _, Nat.zero_le _⟩ (fun H locs q_t hM hS => ?_)
    refine x_if_eq_t (tgt := 29) B dX11_street_24 (by decide) (by decide) ?_
    refine x_aload_n B hl dX11_street_29 rfl ?_
    refine x_dup B dX11_street_30 rfl ?_
    refine mo_gets E hM 5 rfl (hts (.fieldLink RX11 133 "BinRoundsModel" "streets" "I") (by decide +kernel)) rfl dX11_street_31 (up_ne (by decide) rfl) (fun r_31 => ?_)
    refine x_iconst B dX11_street_34 ?_
    refine x_iadd B dX11_street_35 ?_
    refine mo_put E hM hS 5 rfl (hts (.fieldLink RX11 133 "BinRoundsModel" "streets" "I") (by decide +kernel)) rfl rfl (by decide +kernel) (by omega) dX11_street_36 (fun H locs hM hS => ?_)
    refine x_aload_n B hl dX11_street_39 rfl ?_
    refine mo_gets E hM 5 rfl (hts (.fieldLink RX11 133 "BinRoundsModel" "streets" "I") (by decide +kernel)) rfl dX11_street_40 up_s (fun r_40 => ?_)
    refine x_iconst B dX11_street_43 ?_
    refine x_isub B dX11_street_44 ?_
    first | (have hc : streetC σ = 1 := (by first | rfl | (unfold streetC; omega)); exact mo_iretx E hr rfl hlk hM hS dX11_street_45 (by first | (rw [if_neg (by rw [hc]; decide)]; done) | (rw [if_neg (by rw [hc]; decide)]; rfl)) (pE hc (by decide))) | (have hc : streetC σ = 2 := (by first | rfl | (unfold streetC; omega)); exact mo_iretx E hr rfl hlk hM hS dX11_street_45 (by first | (rw [if_neg (by rw [hc]; decide)]; done) | (rw [if_neg (by rw [hc]; decide)]; rfl)) (pE hc (by decide))) | (have hc : streetC σ = 3 := (by first | rfl | (unfold streetC; omega)); exact mo_iretx E hr rfl hlk hM hS dX11_street_45 (by first | (rw [if_neg (by rw [hc]; decide)]; done) | (rw [if_neg (by rw [hc]; decide)]; rfl)) (pE hc (by decide))) | (have hc : streetC σ = 0 := (by first | rfl | (unfold streetC; omega)); exact mo_iretx E hr rfl hlk hM hS dX11_street_45 (by first | (rw [if_pos hc]; done) | (rw [if_pos hc]; rfl) | (rw [if_pos hc]; congr 1; omega)) (pO hc (by first | rfl | (simp only [up_rd]; rfl) | simp [up_rd]) (by first | exact (sEq.u sEq.z) | exact sEq.rf)))
  · refine x_iconst B dX11_street_15 ?_
    refine x_goto (tgt := 20) B dX11_street_16 (by decide) ?_
    refine x_iconst B dX11_street_20 ?_
    refine mo_call E hM hS hl (m_throwsIf_1 l D cy o ad _ _ (by decide)) (cwV 2 hts0 gX11_street_X11_throwsIf rfl rfl rfl (by decide +kernel) ⟨Nat.le_of_ble_eq_true rfl, Nat.le_of_ble_eq_true rfl⟩) rfl rfl (Nat.le_of_ble_eq_true rfl) dX11_street_21 ⟨Nat.zero_le _, Nat.zero_le _⟩ (fun H locs q_t hM hS => ?_)
    refine x_if_eq_f (tgt := 29) B dX11_street_24 (by decide) (by decide) ?_
    refine x_iconst B dX11_street_27 ?_
    first | (have hc : streetC σ = 1 := (by first | rfl | (unfold streetC; omega)); exact mo_iretx E hr rfl hlk hM hS dX11_street_28 (by first | (rw [if_neg (by rw [hc]; decide)]; done) | (rw [if_neg (by rw [hc]; decide)]; rfl)) (pE hc (by decide))) | (have hc : streetC σ = 2 := (by first | rfl | (unfold streetC; omega)); exact mo_iretx E hr rfl hlk hM hS dX11_street_28 (by first | (rw [if_neg (by rw [hc]; decide)]; done) | (rw [if_neg (by rw [hc]; decide)]; rfl)) (pE hc (by decide))) | (have hc : streetC σ = 3 := (by first | rfl | (unfold streetC; omega)); exact mo_iretx E hr rfl hlk hM hS dX11_street_28 (by first | (rw [if_neg (by rw [hc]; decide)]; done) | (rw [if_neg (by rw [hc]; decide)]; rfl)) (pE hc (by decide))) | (have hc : streetC σ = 0 := (by first | rfl | (unfold streetC; omega)); exact mo_iretx E hr rfl hlk hM hS dX11_street_28 (by first | (rw [if_pos hc]; done) | (rw [if_pos hc]; rfl) | (rw [if_pos hc]; congr 1; omega)) (pO hc (by first | rfl | (simp only [up_rd]; rfl) | simp [up_rd]) (by first | exact (sEq.u sEq.z) | exact sEq.rf)))
set_option maxHeartbeats 4000000 in
set_option maxRecDepth 100000 in
theorem m_p_round (l : Launch) (D : va_G) (cy : Nat → ClassId) (o : Nat) (ad : Nat → Nat) (σ : MS) {st g wd wk : Int} {n : Int} (I : sInv n σ) (h_st : -2147483648 ≤ st ∧ st < 2147483648) (h_g : -2147483648 ≤ g ∧ g < 2147483648) (h_wd : -2147483648 ≤ wd ∧ wd < 2147483648) (h_wk : -2147483648 ≤ wk ∧ wk < 2147483648)  : MX l yX11_round wsX11_round ({ frames := 1, cells := 0, slots := 0, locals := 25 } : Room) D cy o ad [.int (iI st), .int (iI g), .int (iI wd), .int (iI wk)] σ (none) (fun τ => pEnd (roundC σ st g wd wk) (roundS σ st g wd wk) σ τ) := by
  refine mx_of (cc := cX11_round) (nL := 5) (ret := none) (by decide) rfl rfl (fun w h => List.mem_cons_of_mem _ (List.mem_append_right _ h)) (Nat.le_of_ble_eq_true rfl) ⟨rfl, rfl⟩ ?_
  intro p e s m args below meth c ls E hr hlk hM hS hl
  have B := E.1
  have hml := E.2.1
  have hown := E.2.2.1
  have hts0 := E.2.2.2.1
  have hts := E.2.2.2.1
  have hw := hM.2.2.2
  have I0 := I
  obtain ⟨hn9, hOp, hnS, hnH, hnB, hnC, hnT, hPr, hTol, v3, v4, v6, v7, v12, v15, v16, v17, v18, v19, v20, v21, v22, v24, v25, v26, v28, v29, v32, v33, v35, v36, v37, v38, v39, v42, v43, v44, v40, vm⟩ := I
  refine x_aload_n B hl dX11_round_0 rfl ?_
  refine x_iconst B dX11_round_1 ?_
  refine mo_put E hM hS 0 rfl (hts (.fieldLink RX11 129 "BinRoundsModel" "thrown" "I") (by decide +kernel)) rfl rfl (by decide +kernel) (by omega) dX11_round_2 (fun H locs hM hS => ?_)
  refine x_aload_n B hl dX11_round_5 rfl ?_
  refine x_aload_n B hl dX11_round_6 rfl ?_
  refine x_iload_n B hl dX11_round_7 rfl ?_
  refine mo_call E hM hS hl (m_noStreetk l D cy o ad _ (up_ne (by decide) rfl) (by omega)) (cwV 1 hts0 gX11_round_X11_noStreet rfl rfl rfl (by decide +kernel) ⟨Nat.le_of_ble_eq_true rfl, Nat.le_of_ble_eq_true rfl⟩) rfl rfl (Nat.le_of_ble_eq_true rfl) dX11_round_8 ⟨Nat.zero_le _, Nat.zero_le _⟩ (fun H locs q_8 hM hS => ?_)
  refine x_bool (fun b_8 => ?_) (fun b_8 => ?_)
  · refine x_iconst B dX11_round_11 ?_
    refine mo_call E hM hS hl (m_throwsIf_1 l D cy o ad _ _ (by decide)) (cwV 2 hts0 gX11_round_X11_throwsIf rfl rfl rfl (by decide +kernel) ⟨Nat.le_of_ble_eq_true rfl, Nat.le_of_ble_eq_true rfl⟩) rfl rfl (Nat.le_of_ble_eq_true rfl) dX11_round_12 ⟨Nat.zero_le _, Nat.zero_le _⟩ (fun H locs q_t hM hS => ?_)
    refine x_if_ne_t (tgt := 68) B dX11_round_15 (by decide) (by decide) ?_
    first | (have hc : roundC σ st g wd wk = 1 := (by first | rfl | (unfold roundC; omega)); exact mo_vretx E hr hlk hM hS dX11_round_68 (pE hc (by decide))) | (have hc : roundC σ st g wd wk = 2 := (by first | rfl | (unfold roundC; omega)); exact mo_vretx E hr hlk hM hS dX11_round_68 (pE hc (by decide))) | (have hc : roundC σ st g wd wk = 3 := (by first | rfl | (unfold roundC; omega)); exact mo_vretx E hr hlk hM hS dX11_round_68 (pE hc (by decide))) | (have hc : roundC σ st g wd wk = 0 := (by first | rfl | (unfold roundC; omega)); exact mo_vretx E hr hlk hM hS dX11_round_68 (pO hc (by first | rfl | (simp only [up_rd]; rfl) | simp [up_rd]) (by first | exact (sEq.u (sEq.u sEq.z)) | exact sEq.rf)))
  · refine x_iconst B dX11_round_11 ?_
    refine mo_call E hM hS hl (m_throwsIf_0 l D cy o ad _ _ (by decide)) (cwV 2 hts0 gX11_round_X11_throwsIf rfl rfl rfl (by decide +kernel) ⟨Nat.le_of_ble_eq_true rfl, Nat.le_of_ble_eq_true rfl⟩) rfl rfl (Nat.le_of_ble_eq_true rfl) dX11_round_12 ⟨Nat.zero_le _, Nat.zero_le _⟩ (fun H locs q_t hM hS => ?_)
    refine x_if_ne_f (tgt := 68) B dX11_round_15 (by decide) (by decide) ?_
    refine x_aload_n B hl dX11_round_18 rfl ?_
    refine x_iload_n B hl dX11_round_19 rfl ?_
    refine x_i2l B dX11_round_20 (by omega) ?_
    refine x_lconst B dX11_round_21 ?_
    refine lv_ldc2 (v := lI 2) B.1 B.2 hown (hts (.constantLong RX11 193 (2)) (by decide +kernel)) dX11_round_22 ?_
    refine z_call ⟨B.1, B.2, hml, hown, hts0⟩ hl (m_in l (by omega) (by omega) (by omega)) (va_cwS 3 hts0 gX11_round_X11_in rfl rfl rfl (by decide +kernel) ⟨Nat.le_of_ble_eq_true rfl, Nat.le_of_ble_eq_true rfl⟩) rfl rfl (Nat.le_of_ble_eq_true rfl) dX11_round_25 ⟨Nat.zero_le _, Nat.zero_le _⟩ (fun q_25 => ?_)
    refine x_bool (fun b_25 => ?_) (fun b_25 => ?_)
    · refine x_if_eq_f (tgt := 56) B dX11_round_28 (by decide) (by decide) ?_
      refine x_iload_n B hl dX11_round_31 rfl ?_
      refine x_i2l B dX11_round_32 (by omega) ?_
      refine x_lconst B dX11_round_33 ?_
      refine lv_ldc2 (v := lI 4) B.1 B.2 hown (hts (.constantLong RX11 199 (4)) (by decide +kernel)) dX11_round_34 ?_
      refine z_call ⟨B.1, B.2, hml, hown, hts0⟩ hl (m_in l (by omega) (by omega) (by omega)) (va_cwS 3 hts0 gX11_round_X11_in rfl rfl rfl (by decide +kernel) ⟨Nat.le_of_ble_eq_true rfl, Nat.le_of_ble_eq_true rfl⟩) rfl rfl (Nat.le_of_ble_eq_true rfl) dX11_round_37 ⟨Nat.zero_le _, Nat.zero_le _⟩ (fun q_37 => ?_)
      refine x_bool (fun b_37 => ?_) (fun b_37 => ?_)
      · refine x_if_eq_f (tgt := 56) B dX11_round_40 (by decide) (by decide) ?_
        refine x_iload B hl dX11_round_43 rfl ?_
        refine x_i2l B dX11_round_45 (by omega) ?_
        refine x_lconst B dX11_round_46 ?_
        refine lv_ldc2 (v := lI 3) B.1 B.2 hown (hts (.constantLong RX11 201 (3)) (by decide +kernel)) dX11_round_47 ?_
        refine z_call ⟨B.1, B.2, hml, hown, hts0⟩ hl (m_in l (by omega) (by omega) (by omega)) (va_cwS 3 hts0 gX11_round_X11_in rfl rfl rfl (by decide +kernel) ⟨Nat.le_of_ble_eq_true rfl, Nat.le_of_ble_eq_true rfl⟩) rfl rfl (Nat.le_of_ble_eq_true rfl) dX11_round_50 ⟨Nat.zero_le _, Nat.zero_le _⟩ (fun q_50 => ?_)
        refine x_bool (fun b_50 => ?_) (fun b_50 => ?_)
        · refine x_if_ne_t (tgt := 60) B dX11_round_53 (by decide) (by decide) ?_
          refine x_iconst B dX11_round_60 ?_
          refine x_iconst B dX11_round_61 ?_
          refine mo_call E hM hS hl (m_throwsIf_0 l D cy o ad _ _ (by decide)) (cwV 2 hts0 gX11_round_X11_throwsIf rfl rfl rfl (by decide +kernel) ⟨Nat.le_of_ble_eq_true rfl, Nat.le_of_ble_eq_true rfl⟩) rfl rfl (Nat.le_of_ble_eq_true rfl) dX11_round_62 ⟨Nat.zero_le _, Nat.zero_le _⟩ (fun H locs q_t hM hS => ?_)
          refine x_if_eq_t (tgt := 69) B dX11_round_65 (by decide) (by decide) ?_
          refine x_aload_n B hl dX11_round_69 rfl ?_
          refine mo_geta E hM 3 0 rfl (hts (.fieldLink RX11 13 "BinRoundsModel" "weekdays" "[I") (by decide +kernel)) rfl dX11_round_70 ?_
          refine x_iconst B dX11_round_73 ?_
          refine x_iload_n B hl dX11_round_74 rfl ?_
          refine x_imul B dX11_round_75 ?_
          refine x_iload_n B hl dX11_round_76 rfl ?_
          refine x_iadd B dX11_round_77 ?_
          refine x_iload_n B hl dX11_round_78 rfl ?_
          refine mo_st (k := 3) E hM hS rfl (by have h9 : mLn 3 = 30 := rfl; omega) (by decide) (by omega) dX11_round_79 (fun H locs hM hS => ?_)
          refine x_aload_n B hl dX11_round_80 rfl ?_
          refine mo_geta E hM 4 0 rfl (hts (.fieldLink RX11 17 "BinRoundsModel" "weeksOf" "[I") (by decide +kernel)) rfl dX11_round_81 ?_
          refine x_iconst B dX11_round_84 ?_
          refine x_iload_n B hl dX11_round_85 rfl ?_
          refine x_imul B dX11_round_86 ?_
          refine x_iload_n B hl dX11_round_87 rfl ?_
          refine x_iadd B dX11_round_88 ?_
          refine x_iload B hl dX11_round_89 rfl ?_
          refine mo_st (k := 4) E hM hS rfl (by have h9 : mLn 4 = 30 := rfl; omega) (by decide) (by omega) dX11_round_91 (fun H locs hM hS => ?_)
          first | (have hc : roundC σ st g wd wk = 1 := (by first | rfl | (unfold roundC; omega)); exact mo_vretx E hr hlk hM hS dX11_round_92 (pE hc (by decide))) | (have hc : roundC σ st g wd wk = 2 := (by first | rfl | (unfold roundC; omega)); exact mo_vretx E hr hlk hM hS dX11_round_92 (pE hc (by decide))) | (have hc : roundC σ st g wd wk = 3 := (by first | rfl | (unfold roundC; omega)); exact mo_vretx E hr hlk hM hS dX11_round_92 (pE hc (by decide))) | (have hc : roundC σ st g wd wk = 0 := (by first | rfl | (unfold roundC; omega)); exact mo_vretx E hr hlk hM hS dX11_round_92 (pO hc (by first | rfl | (simp only [up_rd]; rfl) | simp [up_rd]) (by first | exact (sEq.u (sEq.u sEq.z)) | exact sEq.rf)))
        · refine x_if_ne_f (tgt := 60) B dX11_round_53 (by decide) (by decide) ?_
          refine x_iconst B dX11_round_56 ?_
          refine x_goto (tgt := 61) B dX11_round_57 (by decide) ?_
          refine x_iconst B dX11_round_61 ?_
          refine mo_call E hM hS hl (m_throwsIf_1 l D cy o ad _ _ (by decide)) (cwV 2 hts0 gX11_round_X11_throwsIf rfl rfl rfl (by decide +kernel) ⟨Nat.le_of_ble_eq_true rfl, Nat.le_of_ble_eq_true rfl⟩) rfl rfl (Nat.le_of_ble_eq_true rfl) dX11_round_62 ⟨Nat.zero_le _, Nat.zero_le _⟩ (fun H locs q_t hM hS => ?_)
          refine x_if_eq_f (tgt := 69) B dX11_round_65 (by decide) (by decide) ?_
          first | (have hc : roundC σ st g wd wk = 1 := (by first | rfl | (unfold roundC; omega)); exact mo_vretx E hr hlk hM hS dX11_round_68 (pE hc (by decide))) | (have hc : roundC σ st g wd wk = 2 := (by first | rfl | (unfold roundC; omega)); exact mo_vretx E hr hlk hM hS dX11_round_68 (pE hc (by decide))) | (have hc : roundC σ st g wd wk = 3 := (by first | rfl | (unfold roundC; omega)); exact mo_vretx E hr hlk hM hS dX11_round_68 (pE hc (by decide))) | (have hc : roundC σ st g wd wk = 0 := (by first | rfl | (unfold roundC; omega)); exact mo_vretx E hr hlk hM hS dX11_round_68 (pO hc (by first | rfl | (simp only [up_rd]; rfl) | simp [up_rd]) (by first | exact (sEq.u (sEq.u sEq.z)) | exact sEq.rf)))
      · refine x_if_eq_t (tgt := 56) B dX11_round_40 (by decide) (by decide) ?_
        refine x_iconst B dX11_round_56 ?_
        refine x_goto (tgt := 61) B dX11_round_57 (by decide) ?_
        refine x_iconst B dX11_round_61 ?_
        refine mo_call E hM hS hl (m_throwsIf_1 l D cy o ad _ _ (by decide)) (cwV 2 hts0 gX11_round_X11_throwsIf rfl rfl rfl (by decide +kernel) ⟨Nat.le_of_ble_eq_true rfl, Nat.le_of_ble_eq_true rfl⟩) rfl rfl (Nat.le_of_ble_eq_true rfl) dX11_round_62 ⟨Nat.zero_le _, Nat.zero_le _⟩ (fun H locs q_t hM hS => ?_)
        refine x_if_eq_f (tgt := 69) B dX11_round_65 (by decide) (by decide) ?_
        first | (have hc : roundC σ st g wd wk = 1 := (by first | rfl | (unfold roundC; omega)); exact mo_vretx E hr hlk hM hS dX11_round_68 (pE hc (by decide))) | (have hc : roundC σ st g wd wk = 2 := (by first | rfl | (unfold roundC; omega)); exact mo_vretx E hr hlk hM hS dX11_round_68 (pE hc (by decide))) | (have hc : roundC σ st g wd wk = 3 := (by first | rfl | (unfold roundC; omega)); exact mo_vretx E hr hlk hM hS dX11_round_68 (pE hc (by decide))) | (have hc : roundC σ st g wd wk = 0 := (by first | rfl | (unfold roundC; omega)); exact mo_vretx E hr hlk hM hS dX11_round_68 (pO hc (by first | rfl | (simp only [up_rd]; rfl) | simp [up_rd]) (by first | exact (sEq.u (sEq.u sEq.z)) | exact sEq.rf)))
    · refine x_if_eq_t (tgt := 56) B dX11_round_28 (by decide) (by decide) ?_
      refine x_iconst B dX11_round_56 ?_
      refine x_goto (tgt := 61) B dX11_round_57 (by decide) ?_
      refine x_iconst B dX11_round_61 ?_
      refine mo_call E hM hS hl (m_throwsIf_1 l D cy o ad _ _ (by decide)) (cwV 2 hts0 gX11_round_X11_throwsIf rfl rfl rfl (by decide +kernel) ⟨Nat.le_of_ble_eq_true rfl, Nat.le_of_ble_eq_true rfl⟩) rfl rfl (Nat.le_of_ble_eq_true rfl) dX11_round_62 ⟨Nat.zero_le _, Nat.zero_le _⟩ (fun H locs q_t hM hS => ?_)
      refine x_if_eq_f (tgt := 69) B dX11_round_65 (by decide) (by decide) ?_
      first | (have hc : roundC σ st g wd wk = 1 := (by first | rfl | (unfold roundC; omega)); exact mo_vretx E hr hlk hM hS dX11_round_68 (pE hc (by decide))) | (have hc : roundC σ st g wd wk = 2 := (by first | rfl | (unfold roundC; omega)); exact mo_vretx E hr hlk hM hS dX11_round_68 (pE hc (by decide))) | (have hc : roundC σ st g wd wk = 3 := (by first | rfl | (unfold roundC; omega)); exact mo_vretx E hr hlk hM hS dX11_round_68 (pE hc (by decide))) | (have hc : roundC σ st g wd wk = 0 := (by first | rfl | (unfold roundC; omega)); exact mo_vretx E hr hlk hM hS dX11_round_68 (pO hc (by first | rfl | (simp only [up_rd]; rfl) | simp [up_rd]) (by first | exact (sEq.u (sEq.u sEq.z)) | exact sEq.rf)))
set_option maxHeartbeats 4000000 in
set_option maxRecDepth 100000 in
theorem m_p_holiday (l : Launch) (D : va_G) (cy : Nat → ClassId) (o : Nat) (ad : Nat → Nat) (σ : MS) {d on : Int} {n : Int} (I : sInv n σ) (h_d : -2147483648 ≤ d ∧ d < 2147483648) (h_on : on = 0 ∨ on = 1)  : MX l yX11_holiday wsX11_holiday ({ frames := 1, cells := 0, slots := 0, locals := 25 } : Room) D cy o ad [.int (iI d), .int (iI on)] σ (some (.int (iI (if holidayC σ d = 0 then holidayR σ d on else 0)))) (fun τ => pEnd (holidayC σ d) (holidayS σ d on) σ τ) := by
  refine mx_of (cc := cX11_holiday) (nL := 4) (ret := (some .boolean)) (by decide) rfl rfl (fun w h => List.mem_cons_of_mem _ (List.mem_append_right _ h)) (Nat.le_of_ble_eq_true rfl) ⟨rfl, rfl⟩ ?_
  intro p e s m args below meth c ls E hr hlk hM hS hl
  have B := E.1
  have hml := E.2.1
  have hown := E.2.2.1
  have hts0 := E.2.2.2.1
  have hts := E.2.2.2.1
  have hw := hM.2.2.2
  have I0 := I
  obtain ⟨hn9, hOp, hnS, hnH, hnB, hnC, hnT, hPr, hTol, v3, v4, v6, v7, v12, v15, v16, v17, v18, v19, v20, v21, v22, v24, v25, v26, v28, v29, v32, v33, v35, v36, v37, v38, v39, v42, v43, v44, v40, vm⟩ := I
  refine x_aload_n B hl dX11_holiday_0 rfl ?_
  refine x_iconst B dX11_holiday_1 ?_
  refine mo_put E hM hS 0 rfl (hts (.fieldLink RX11 129 "BinRoundsModel" "thrown" "I") (by decide +kernel)) rfl rfl (by decide +kernel) (by omega) dX11_holiday_2 (fun H locs hM hS => ?_)
  refine x_aload_n B hl dX11_holiday_5 rfl ?_
  refine x_iload_n B hl dX11_holiday_6 rfl ?_
  refine x_i2l B dX11_holiday_7 (by omega) ?_
  refine x_aload_n B hl dX11_holiday_8 rfl ?_
  refine mo_gets E hM 1 rfl (hts (.fieldLink RX11 152 "BinRoundsModel" "open" "I") (by decide +kernel)) rfl dX11_holiday_9 (up_ne (by decide) rfl) (fun r_9 => ?_)
  refine x_i2l B dX11_holiday_12 (by omega) ?_
  refine lv_ldc2 (v := lI 699) B.1 B.2 hown (hts (.constantLong RX11 203 (699)) (by decide +kernel)) dX11_holiday_13 ?_
  refine z_call ⟨B.1, B.2, hml, hown, hts0⟩ hl (m_in l (by omega) (by omega) (by omega)) (va_cwS 3 hts0 gX11_holiday_X11_in rfl rfl rfl (by decide +kernel) ⟨Nat.le_of_ble_eq_true rfl, Nat.le_of_ble_eq_true rfl⟩) rfl rfl (Nat.le_of_ble_eq_true rfl) dX11_holiday_16 ⟨Nat.zero_le _, Nat.zero_le _⟩ (fun q_16 => ?_)
  refine x_bool (fun b_16 => ?_) (fun b_16 => ?_)
  · refine x_if_ne_t (tgt := 26) B dX11_holiday_19 (by decide) (by decide) ?_
    refine x_iconst B dX11_holiday_26 ?_
    refine x_iconst B dX11_holiday_27 ?_
    refine mo_call E hM hS hl (m_throwsIf_0 l D cy o ad _ _ (by decide)) (cwV 2 hts0 gX11_holiday_X11_throwsIf rfl rfl rfl (by decide +kernel) ⟨Nat.le_of_ble_eq_true rfl, Nat.le_of_ble_eq_true rfl⟩) rfl rfl (Nat.le_of_ble_eq_true rfl) dX11_holiday_28 ⟨Nat.zero_le _, Nat.zero_le _⟩ (fun H locs q_t hM hS => ?_)
    refine x_if_eq_t (tgt := 36) B dX11_holiday_31 (by decide) (by decide) ?_
    refine x_aload_n B hl dX11_holiday_36 rfl ?_
    refine mo_geta E hM 2 1 rfl (hts (.fieldLink RX11 9 "BinRoundsModel" "holidays" "[Z") (by decide +kernel)) rfl dX11_holiday_37 ?_
    refine x_iload_n B hl dX11_holiday_40 rfl ?_
    refine mo_zld (k := 2) E hM rfl (by have h9 : mLn 2 = 700 := rfl; omega) (by decide) dX11_holiday_41 (up_ne (by decide) rfl) (fun r_41 => ?_)
    refine x_istore_n B hl dX11_holiday_42 (by decide) (fun ls hl => ?_)
    refine x_aload_n B hl dX11_holiday_43 rfl ?_
    refine mo_geta E hM 2 1 rfl (hts (.fieldLink RX11 9 "BinRoundsModel" "holidays" "[Z") (by decide +kernel)) rfl dX11_holiday_44 ?_
    refine x_iload_n B hl dX11_holiday_47 rfl ?_
    refine x_iload_n B hl dX11_holiday_48 rfl ?_
    refine mo_zst (k := 2) E hM hS rfl (by have h9 : mLn 2 = 700 := rfl; omega) (by decide) (by omega) dX11_holiday_49 (fun H locs hM hS => ?_)
    refine x_iload_n B hl dX11_holiday_50 rfl ?_
    refine x_iload_n B hl dX11_holiday_51 rfl ?_
    refine x_icmp_eq (tgt := 59) B dX11_holiday_52 (by decide) (by omega) (by omega) (fun c_52 => ?_) (fun c_52 => ?_)
    · refine x_iconst B dX11_holiday_59 ?_
      first | (have hc : holidayC σ d = 1 := (by first | rfl | (unfold holidayC; omega)); exact mo_iretx E hr (by first | rfl | exact nar_b (by assumption)) hlk hM hS dX11_holiday_60 (by first | (rw [if_neg (by rw [hc]; decide)]; done) | (rw [if_neg (by rw [hc]; decide)]; rfl)) (pE hc (by decide))) | (have hc : holidayC σ d = 2 := (by first | rfl | (unfold holidayC; omega)); exact mo_iretx E hr (by first | rfl | exact nar_b (by assumption)) hlk hM hS dX11_holiday_60 (by first | (rw [if_neg (by rw [hc]; decide)]; done) | (rw [if_neg (by rw [hc]; decide)]; rfl)) (pE hc (by decide))) | (have hc : holidayC σ d = 3 := (by first | rfl | (unfold holidayC; omega)); exact mo_iretx E hr (by first | rfl | exact nar_b (by assumption)) hlk hM hS dX11_holiday_60 (by first | (rw [if_neg (by rw [hc]; decide)]; done) | (rw [if_neg (by rw [hc]; decide)]; rfl)) (pE hc (by decide))) | (have hc : holidayC σ d = 0 := (by first | rfl | (unfold holidayC; omega)); exact mo_iretx E hr (by first | rfl | exact nar_b (by assumption)) hlk hM hS dX11_holiday_60 (by first | (rw [if_pos hc]; done) | (rw [if_pos hc]; rfl) | (rw [if_pos hc]; congr 1; omega) | (rw [if_pos hc]; congr 1; unfold holidayR; omega)) (pO hc (by first | rfl | (simp only [up_rd]; rfl) | simp [up_rd]) (by first | exact (sEq.u sEq.z) | exact sEq.rf)))
    · refine x_iconst B dX11_holiday_55 ?_
      refine x_goto (tgt := 60) B dX11_holiday_56 (by decide) ?_
      first | (have hc : holidayC σ d = 1 := (by first | rfl | (unfold holidayC; omega)); exact mo_iretx E hr (by first | rfl | exact nar_b (by assumption)) hlk hM hS dX11_holiday_60 (by first | (rw [if_neg (by rw [hc]; decide)]; done) | (rw [if_neg (by rw [hc]; decide)]; rfl)) (pE hc (by decide))) | (have hc : holidayC σ d = 2 := (by first | rfl | (unfold holidayC; omega)); exact mo_iretx E hr (by first | rfl | exact nar_b (by assumption)) hlk hM hS dX11_holiday_60 (by first | (rw [if_neg (by rw [hc]; decide)]; done) | (rw [if_neg (by rw [hc]; decide)]; rfl)) (pE hc (by decide))) | (have hc : holidayC σ d = 3 := (by first | rfl | (unfold holidayC; omega)); exact mo_iretx E hr (by first | rfl | exact nar_b (by assumption)) hlk hM hS dX11_holiday_60 (by first | (rw [if_neg (by rw [hc]; decide)]; done) | (rw [if_neg (by rw [hc]; decide)]; rfl)) (pE hc (by decide))) | (have hc : holidayC σ d = 0 := (by first | rfl | (unfold holidayC; omega)); exact mo_iretx E hr (by first | rfl | exact nar_b (by assumption)) hlk hM hS dX11_holiday_60 (by first | (rw [if_pos hc]; done) | (rw [if_pos hc]; rfl) | (rw [if_pos hc]; congr 1; omega) | (rw [if_pos hc]; congr 1; unfold holidayR; omega)) (pO hc (by first | rfl | (simp only [up_rd]; rfl) | simp [up_rd]) (by first | exact (sEq.u sEq.z) | exact sEq.rf)))
  · refine x_if_ne_f (tgt := 26) B dX11_holiday_19 (by decide) (by decide) ?_
    refine x_iconst B dX11_holiday_22 ?_
    refine x_goto (tgt := 27) B dX11_holiday_23 (by decide) ?_
    refine x_iconst B dX11_holiday_27 ?_
    refine mo_call E hM hS hl (m_throwsIf_1 l D cy o ad _ _ (by decide)) (cwV 2 hts0 gX11_holiday_X11_throwsIf rfl rfl rfl (by decide +kernel) ⟨Nat.le_of_ble_eq_true rfl, Nat.le_of_ble_eq_true rfl⟩) rfl rfl (Nat.le_of_ble_eq_true rfl) dX11_holiday_28 ⟨Nat.zero_le _, Nat.zero_le _⟩ (fun H locs q_t hM hS => ?_)
    refine x_if_eq_f (tgt := 36) B dX11_holiday_31 (by decide) (by decide) ?_
    refine x_iconst B dX11_holiday_34 ?_
    first | (have hc : holidayC σ d = 1 := (by first | rfl | (unfold holidayC; omega)); exact mo_iretx E hr (by first | rfl | exact nar_b (by assumption)) hlk hM hS dX11_holiday_35 (by first | (rw [if_neg (by rw [hc]; decide)]; done) | (rw [if_neg (by rw [hc]; decide)]; rfl)) (pE hc (by decide))) | (have hc : holidayC σ d = 2 := (by first | rfl | (unfold holidayC; omega)); exact mo_iretx E hr (by first | rfl | exact nar_b (by assumption)) hlk hM hS dX11_holiday_35 (by first | (rw [if_neg (by rw [hc]; decide)]; done) | (rw [if_neg (by rw [hc]; decide)]; rfl)) (pE hc (by decide))) | (have hc : holidayC σ d = 3 := (by first | rfl | (unfold holidayC; omega)); exact mo_iretx E hr (by first | rfl | exact nar_b (by assumption)) hlk hM hS dX11_holiday_35 (by first | (rw [if_neg (by rw [hc]; decide)]; done) | (rw [if_neg (by rw [hc]; decide)]; rfl)) (pE hc (by decide))) | (have hc : holidayC σ d = 0 := (by first | rfl | (unfold holidayC; omega)); exact mo_iretx E hr (by first | rfl | exact nar_b (by assumption)) hlk hM hS dX11_holiday_35 (by first | (rw [if_pos hc]; done) | (rw [if_pos hc]; rfl) | (rw [if_pos hc]; congr 1; omega) | (rw [if_pos hc]; congr 1; unfold holidayR; omega)) (pO hc (by first | rfl | (simp only [up_rd]; rfl) | simp [up_rd]) (by first | exact (sEq.u sEq.z) | exact sEq.rf)))
set_option maxHeartbeats 4000000 in
set_option maxRecDepth 100000 in
theorem m_p_when (l : Launch) (D : va_G) (cy : Nat → ClassId) (o : Nat) (ad : Nat → Nat) (σ : MS) {st g wk : Int} {n : Int} (I : sInv n σ) (h_st : -2147483648 ≤ st ∧ st < 2147483648) (h_g : -2147483648 ≤ g ∧ g < 2147483648) (h_wk : -2147483648 ≤ wk ∧ wk < 2147483648)  : MX l yX11_when wsX11_when ({ frames := 2, cells := 0, slots := 0, locals := 50 } : Room) D cy o ad [.int (iI st), .int (iI g), .int (iI wk)] σ (some (.int (iI (if whenC σ st g wk = 0 then sDay σ st g wk else 0)))) (fun τ => pEnd (whenC σ st g wk) (σ) σ τ) := by
  refine mx_of (cc := cX11_when) (nL := 4) (ret := (some .int)) (by decide) rfl rfl (fun w h => List.mem_cons_of_mem _ (List.mem_append_right _ h)) (Nat.le_of_ble_eq_true rfl) ⟨rfl, rfl⟩ ?_
  intro p e s m args below meth c ls E hr hlk hM hS hl
  have B := E.1
  have hml := E.2.1
  have hown := E.2.2.1
  have hts0 := E.2.2.2.1
  have hts := E.2.2.2.1
  have hw := hM.2.2.2
  have I0 := I
  obtain ⟨hn9, hOp, hnS, hnH, hnB, hnC, hnT, hPr, hTol, v3, v4, v6, v7, v12, v15, v16, v17, v18, v19, v20, v21, v22, v24, v25, v26, v28, v29, v32, v33, v35, v36, v37, v38, v39, v42, v43, v44, v40, vm⟩ := I
  refine x_aload_n B hl dX11_when_0 rfl ?_
  refine x_iconst B dX11_when_1 ?_
  refine mo_put E hM hS 0 rfl (hts (.fieldLink RX11 129 "BinRoundsModel" "thrown" "I") (by decide +kernel)) rfl rfl (by decide +kernel) (by omega) dX11_when_2 (fun H locs hM hS => ?_)
  refine x_aload_n B hl dX11_when_5 rfl ?_
  refine x_aload_n B hl dX11_when_6 rfl ?_
  refine x_iload_n B hl dX11_when_7 rfl ?_
  refine mo_call E hM hS hl (m_noStreetk l D cy o ad _ (up_ne (by decide) rfl) (by omega)) (cwV 1 hts0 gX11_when_X11_noStreet rfl rfl rfl (by decide +kernel) ⟨Nat.le_of_ble_eq_true rfl, Nat.le_of_ble_eq_true rfl⟩) rfl rfl (Nat.le_of_ble_eq_true rfl) dX11_when_8 ⟨Nat.zero_le _, Nat.zero_le _⟩ (fun H locs q_8 hM hS => ?_)
  refine x_bool (fun b_8 => ?_) (fun b_8 => ?_)
  · refine x_iconst B dX11_when_11 ?_
    refine mo_call E hM hS hl (m_throwsIf_1 l D cy o ad _ _ (by decide)) (cwV 2 hts0 gX11_when_X11_throwsIf rfl rfl rfl (by decide +kernel) ⟨Nat.le_of_ble_eq_true rfl, Nat.le_of_ble_eq_true rfl⟩) rfl rfl (Nat.le_of_ble_eq_true rfl) dX11_when_12 ⟨Nat.zero_le _, Nat.zero_le _⟩ (fun H locs q_t hM hS => ?_)
    refine x_if_ne_t (tgt := 55) B dX11_when_15 (by decide) (by decide) ?_
    refine x_iconst B dX11_when_55 ?_
    first | (have hc : whenC σ st g wk = 1 := (by first | rfl | (unfold whenC; omega)); exact mo_iretx E hr rfl hlk hM hS dX11_when_56 (by first | (rw [if_neg (by rw [hc]; decide)]; done) | (rw [if_neg (by rw [hc]; decide)]; rfl)) (pE hc (by decide))) | (have hc : whenC σ st g wk = 2 := (by first | rfl | (unfold whenC; omega)); exact mo_iretx E hr rfl hlk hM hS dX11_when_56 (by first | (rw [if_neg (by rw [hc]; decide)]; done) | (rw [if_neg (by rw [hc]; decide)]; rfl)) (pE hc (by decide))) | (have hc : whenC σ st g wk = 3 := (by first | rfl | (unfold whenC; omega)); exact mo_iretx E hr rfl hlk hM hS dX11_when_56 (by first | (rw [if_neg (by rw [hc]; decide)]; done) | (rw [if_neg (by rw [hc]; decide)]; rfl)) (pE hc (by decide))) | (have hc : whenC σ st g wk = 0 := (by first | rfl | (unfold whenC; omega)); exact mo_iretx E hr rfl hlk hM hS dX11_when_56 (by first | (rw [if_pos hc]; done) | (rw [if_pos hc]; rfl) | (rw [if_pos hc]; congr 1; omega) | (rw [if_pos hc]; congr 1; unfold sDay; omega)) (pO hc (by first | rfl | (simp only [up_rd]; rfl) | simp [up_rd]) (by first | exact sEq.z | exact sEq.rf)))
  · refine x_iconst B dX11_when_11 ?_
    refine mo_call E hM hS hl (m_throwsIf_0 l D cy o ad _ _ (by decide)) (cwV 2 hts0 gX11_when_X11_throwsIf rfl rfl rfl (by decide +kernel) ⟨Nat.le_of_ble_eq_true rfl, Nat.le_of_ble_eq_true rfl⟩) rfl rfl (Nat.le_of_ble_eq_true rfl) dX11_when_12 ⟨Nat.zero_le _, Nat.zero_le _⟩ (fun H locs q_t hM hS => ?_)
    refine x_if_ne_f (tgt := 55) B dX11_when_15 (by decide) (by decide) ?_
    refine x_aload_n B hl dX11_when_18 rfl ?_
    refine x_iload_n B hl dX11_when_19 rfl ?_
    refine x_i2l B dX11_when_20 (by omega) ?_
    refine x_lconst B dX11_when_21 ?_
    refine lv_ldc2 (v := lI 2) B.1 B.2 hown (hts (.constantLong RX11 193 (2)) (by decide +kernel)) dX11_when_22 ?_
    refine z_call ⟨B.1, B.2, hml, hown, hts0⟩ hl (m_in l (by omega) (by omega) (by omega)) (va_cwS 3 hts0 gX11_when_X11_in rfl rfl rfl (by decide +kernel) ⟨Nat.le_of_ble_eq_true rfl, Nat.le_of_ble_eq_true rfl⟩) rfl rfl (Nat.le_of_ble_eq_true rfl) dX11_when_25 ⟨Nat.zero_le _, Nat.zero_le _⟩ (fun q_25 => ?_)
    refine x_bool (fun b_25 => ?_) (fun b_25 => ?_)
    · refine x_if_eq_f (tgt := 43) B dX11_when_28 (by decide) (by decide) ?_
      refine x_iload_n B hl dX11_when_31 rfl ?_
      refine x_i2l B dX11_when_32 (by omega) ?_
      refine x_lconst B dX11_when_33 ?_
      refine lv_ldc2 (v := lI 99) B.1 B.2 hown (hts (.constantLong RX11 205 (99)) (by decide +kernel)) dX11_when_34 ?_
      refine z_call ⟨B.1, B.2, hml, hown, hts0⟩ hl (m_in l (by omega) (by omega) (by omega)) (va_cwS 3 hts0 gX11_when_X11_in rfl rfl rfl (by decide +kernel) ⟨Nat.le_of_ble_eq_true rfl, Nat.le_of_ble_eq_true rfl⟩) rfl rfl (Nat.le_of_ble_eq_true rfl) dX11_when_37 ⟨Nat.zero_le _, Nat.zero_le _⟩ (fun q_37 => ?_)
      refine x_bool (fun b_37 => ?_) (fun b_37 => ?_)
      · refine x_if_ne_t (tgt := 47) B dX11_when_40 (by decide) (by decide) ?_
        refine x_iconst B dX11_when_47 ?_
        refine x_iconst B dX11_when_48 ?_
        refine mo_call E hM hS hl (m_throwsIf_0 l D cy o ad _ _ (by decide)) (cwV 2 hts0 gX11_when_X11_throwsIf rfl rfl rfl (by decide +kernel) ⟨Nat.le_of_ble_eq_true rfl, Nat.le_of_ble_eq_true rfl⟩) rfl rfl (Nat.le_of_ble_eq_true rfl) dX11_when_49 ⟨Nat.zero_le _, Nat.zero_le _⟩ (fun H locs q_t hM hS => ?_)
        refine x_if_eq_t (tgt := 57) B dX11_when_52 (by decide) (by decide) ?_
        refine x_aload_n B hl dX11_when_57 rfl ?_
        refine x_iload_n B hl dX11_when_58 rfl ?_
        refine x_iload_n B hl dX11_when_59 rfl ?_
        refine x_iload_n B hl dX11_when_60 rfl ?_
        refine mo_call E hM hS hl (m_dayOf l D cy o ad _ (by omega) (by omega) (by omega) (v4 _)) (cwV 3 hts0 gX11_when_X11_dayOf rfl rfl rfl (by decide +kernel) ⟨Nat.le_of_ble_eq_true rfl, Nat.le_of_ble_eq_true rfl⟩) rfl rfl (Nat.le_of_ble_eq_true rfl) dX11_when_61 ⟨Nat.zero_le _, Nat.zero_le _⟩ (fun H locs q_d hM hS => ?_)
        first | (have hc : whenC σ st g wk = 1 := (by first | rfl | (unfold whenC; omega)); exact mo_iretx E hr rfl hlk hM hS dX11_when_64 (by first | (rw [if_neg (by rw [hc]; decide)]; done) | (rw [if_neg (by rw [hc]; decide)]; rfl)) (pE hc (by decide))) | (have hc : whenC σ st g wk = 2 := (by first | rfl | (unfold whenC; omega)); exact mo_iretx E hr rfl hlk hM hS dX11_when_64 (by first | (rw [if_neg (by rw [hc]; decide)]; done) | (rw [if_neg (by rw [hc]; decide)]; rfl)) (pE hc (by decide))) | (have hc : whenC σ st g wk = 3 := (by first | rfl | (unfold whenC; omega)); exact mo_iretx E hr rfl hlk hM hS dX11_when_64 (by first | (rw [if_neg (by rw [hc]; decide)]; done) | (rw [if_neg (by rw [hc]; decide)]; rfl)) (pE hc (by decide))) | (have hc : whenC σ st g wk = 0 := (by first | rfl | (unfold whenC; omega)); exact mo_iretx E hr rfl hlk hM hS dX11_when_64 (by first | (rw [if_pos hc]; done) | (rw [if_pos hc]; rfl) | (rw [if_pos hc]; congr 1; omega) | (rw [if_pos hc]; congr 1; unfold sDay; omega)) (pO hc (by first | rfl | (simp only [up_rd]; rfl) | simp [up_rd]) (by first | exact sEq.z | exact sEq.rf)))
      · refine x_if_ne_f (tgt := 47) B dX11_when_40 (by decide) (by decide) ?_
        refine x_iconst B dX11_when_43 ?_
        refine x_goto (tgt := 48) B dX11_when_44 (by decide) ?_
        refine x_iconst B dX11_when_48 ?_
        refine mo_call E hM hS hl (m_throwsIf_1 l D cy o ad _ _ (by decide)) (cwV 2 hts0 gX11_when_X11_throwsIf rfl rfl rfl (by decide +kernel) ⟨Nat.le_of_ble_eq_true rfl, Nat.le_of_ble_eq_true rfl⟩) rfl rfl (Nat.le_of_ble_eq_true rfl) dX11_when_49 ⟨Nat.zero_le _, Nat.zero_le _⟩ (fun H locs q_t hM hS => ?_)
        refine x_if_eq_f (tgt := 57) B dX11_when_52 (by decide) (by decide) ?_
        refine x_iconst B dX11_when_55 ?_
        first | (have hc : whenC σ st g wk = 1 := (by first | rfl | (unfold whenC; omega)); exact mo_iretx E hr rfl hlk hM hS dX11_when_56 (by first | (rw [if_neg (by rw [hc]; decide)]; done) | (rw [if_neg (by rw [hc]; decide)]; rfl)) (pE hc (by decide))) | (have hc : whenC σ st g wk = 2 := (by first | rfl | (unfold whenC; omega)); exact mo_iretx E hr rfl hlk hM hS dX11_when_56 (by first | (rw [if_neg (by rw [hc]; decide)]; done) | (rw [if_neg (by rw [hc]; decide)]; rfl)) (pE hc (by decide))) | (have hc : whenC σ st g wk = 3 := (by first | rfl | (unfold whenC; omega)); exact mo_iretx E hr rfl hlk hM hS dX11_when_56 (by first | (rw [if_neg (by rw [hc]; decide)]; done) | (rw [if_neg (by rw [hc]; decide)]; rfl)) (pE hc (by decide))) | (have hc : whenC σ st g wk = 0 := (by first | rfl | (unfold whenC; omega)); exact mo_iretx E hr rfl hlk hM hS dX11_when_56 (by first | (rw [if_pos hc]; done) | (rw [if_pos hc]; rfl) | (rw [if_pos hc]; congr 1; omega) | (rw [if_pos hc]; congr 1; unfold sDay; omega)) (pO hc (by first | rfl | (simp only [up_rd]; rfl) | simp [up_rd]) (by first | exact sEq.z | exact sEq.rf)))
    · refine x_if_eq_t (tgt := 43) B dX11_when_28 (by decide) (by decide) ?_
      refine x_iconst B dX11_when_43 ?_
      refine x_goto (tgt := 48) B dX11_when_44 (by decide) ?_
      refine x_iconst B dX11_when_48 ?_
      refine mo_call E hM hS hl (m_throwsIf_1 l D cy o ad _ _ (by decide)) (cwV 2 hts0 gX11_when_X11_throwsIf rfl rfl rfl (by decide +kernel) ⟨Nat.le_of_ble_eq_true rfl, Nat.le_of_ble_eq_true rfl⟩) rfl rfl (Nat.le_of_ble_eq_true rfl) dX11_when_49 ⟨Nat.zero_le _, Nat.zero_le _⟩ (fun H locs q_t hM hS => ?_)
      refine x_if_eq_f (tgt := 57) B dX11_when_52 (by decide) (by decide) ?_
      refine x_iconst B dX11_when_55 ?_
      first | (have hc : whenC σ st g wk = 1 := (by first | rfl | (unfold whenC; omega)); exact mo_iretx E hr rfl hlk hM hS dX11_when_56 (by first | (rw [if_neg (by rw [hc]; decide)]; done) | (rw [if_neg (by rw [hc]; decide)]; rfl)) (pE hc (by decide))) | (have hc : whenC σ st g wk = 2 := (by first | rfl | (unfold whenC; omega)); exact mo_iretx E hr rfl hlk hM hS dX11_when_56 (by first | (rw [if_neg (by rw [hc]; decide)]; done) | (rw [if_neg (by rw [hc]; decide)]; rfl)) (pE hc (by decide))) | (have hc : whenC σ st g wk = 3 := (by first | rfl | (unfold whenC; omega)); exact mo_iretx E hr rfl hlk hM hS dX11_when_56 (by first | (rw [if_neg (by rw [hc]; decide)]; done) | (rw [if_neg (by rw [hc]; decide)]; rfl)) (pE hc (by decide))) | (have hc : whenC σ st g wk = 0 := (by first | rfl | (unfold whenC; omega)); exact mo_iretx E hr rfl hlk hM hS dX11_when_56 (by first | (rw [if_pos hc]; done) | (rw [if_pos hc]; rfl) | (rw [if_pos hc]; congr 1; omega) | (rw [if_pos hc]; congr 1; unfold sDay; omega)) (pO hc (by first | rfl | (simp only [up_rd]; rfl) | simp [up_rd]) (by first | exact sEq.z | exact sEq.rf)))
set_option maxHeartbeats 4000000 in
set_option maxRecDepth 100000 in
theorem m_p_house (l : Launch) (D : va_G) (cy : Nat → ClassId) (o : Nat) (ad : Nat → Nat) (σ : MS) {st : Int} {n : Int} (I : sInv n σ) (h_st : -2147483648 ≤ st ∧ st < 2147483648)  : MX l yX11_house wsX11_house ({ frames := 1, cells := 0, slots := 0, locals := 22 } : Room) D cy o ad [.int (iI st)] σ (some (.int (iI (if houseC σ st = 0 then σ 11 0 else 0)))) (fun τ => pEnd (houseC σ st) (houseS σ st) σ τ) := by
  refine mx_of (cc := cX11_house) (nL := 2) (ret := (some .int)) (by decide) rfl rfl (fun w h => List.mem_cons_of_mem _ (List.mem_append_right _ h)) (Nat.le_of_ble_eq_true rfl) ⟨rfl, rfl⟩ ?_
  intro p e s m args below meth c ls E hr hlk hM hS hl
  have B := E.1
  have hml := E.2.1
  have hown := E.2.2.1
  have hts0 := E.2.2.2.1
  have hts := E.2.2.2.1
  have hw := hM.2.2.2
  have I0 := I
  obtain ⟨hn9, hOp, hnS, hnH, hnB, hnC, hnT, hPr, hTol, v3, v4, v6, v7, v12, v15, v16, v17, v18, v19, v20, v21, v22, v24, v25, v26, v28, v29, v32, v33, v35, v36, v37, v38, v39, v42, v43, v44, v40, vm⟩ := I
  refine x_aload_n B hl dX11_house_0 rfl ?_
  refine x_iconst B dX11_house_1 ?_
  refine mo_put E hM hS 0 rfl (hts (.fieldLink RX11 129 "BinRoundsModel" "thrown" "I") (by decide +kernel)) rfl rfl (by decide +kernel) (by omega) dX11_house_2 (fun H locs hM hS => ?_)
  refine x_aload_n B hl dX11_house_5 rfl ?_
  refine x_aload_n B hl dX11_house_6 rfl ?_
  refine x_iload_n B hl dX11_house_7 rfl ?_
  refine mo_call E hM hS hl (m_noStreetk l D cy o ad _ (up_ne (by decide) rfl) (by omega)) (cwV 1 hts0 gX11_house_X11_noStreet rfl rfl rfl (by decide +kernel) ⟨Nat.le_of_ble_eq_true rfl, Nat.le_of_ble_eq_true rfl⟩) rfl rfl (Nat.le_of_ble_eq_true rfl) dX11_house_8 ⟨Nat.zero_le _, Nat.zero_le _⟩ (fun H locs q_8 hM hS => ?_)
  refine x_bool (fun b_8 => ?_) (fun b_8 => ?_)
  · refine x_iconst B dX11_house_11 ?_
    refine mo_call E hM hS hl (m_throwsIf_1 l D cy o ad _ _ (by decide)) (cwV 2 hts0 gX11_house_X11_throwsIf rfl rfl rfl (by decide +kernel) ⟨Nat.le_of_ble_eq_true rfl, Nat.le_of_ble_eq_true rfl⟩) rfl rfl (Nat.le_of_ble_eq_true rfl) dX11_house_12 ⟨Nat.zero_le _, Nat.zero_le _⟩ (fun H locs q_t hM hS => ?_)
    refine x_if_ne_t (tgt := 40) B dX11_house_15 (by decide) (by decide) ?_
    refine x_iconst B dX11_house_40 ?_
    first | (have hc : houseC σ st = 1 := (by first | rfl | (unfold houseC; omega)); exact mo_iretx E hr rfl hlk hM hS dX11_house_41 (by first | (rw [if_neg (by rw [hc]; decide)]; done) | (rw [if_neg (by rw [hc]; decide)]; rfl)) (pE hc (by decide))) | (have hc : houseC σ st = 2 := (by first | rfl | (unfold houseC; omega)); exact mo_iretx E hr rfl hlk hM hS dX11_house_41 (by first | (rw [if_neg (by rw [hc]; decide)]; done) | (rw [if_neg (by rw [hc]; decide)]; rfl)) (pE hc (by decide))) | (have hc : houseC σ st = 3 := (by first | rfl | (unfold houseC; omega)); exact mo_iretx E hr rfl hlk hM hS dX11_house_41 (by first | (rw [if_neg (by rw [hc]; decide)]; done) | (rw [if_neg (by rw [hc]; decide)]; rfl)) (pE hc (by decide))) | (have hc : houseC σ st = 0 := (by first | rfl | (unfold houseC; omega)); exact mo_iretx E hr rfl hlk hM hS dX11_house_41 (by first | (rw [if_pos hc]; done) | (rw [if_pos hc]; rfl) | (rw [if_pos hc]; congr 1; omega)) (pO hc (by first | rfl | (simp only [up_rd]; rfl) | simp [up_rd]) (by first | exact (sEq.u (sEq.u sEq.z)) | exact sEq.rf)))
  · refine x_iconst B dX11_house_11 ?_
    refine mo_call E hM hS hl (m_throwsIf_0 l D cy o ad _ _ (by decide)) (cwV 2 hts0 gX11_house_X11_throwsIf rfl rfl rfl (by decide +kernel) ⟨Nat.le_of_ble_eq_true rfl, Nat.le_of_ble_eq_true rfl⟩) rfl rfl (Nat.le_of_ble_eq_true rfl) dX11_house_12 ⟨Nat.zero_le _, Nat.zero_le _⟩ (fun H locs q_t hM hS => ?_)
    refine x_if_ne_f (tgt := 40) B dX11_house_15 (by decide) (by decide) ?_
    refine x_aload_n B hl dX11_house_18 rfl ?_
    refine x_aload_n B hl dX11_house_19 rfl ?_
    refine mo_gets E hM 11 rfl (hts (.fieldLink RX11 136 "BinRoundsModel" "houses" "I") (by decide +kernel)) rfl dX11_house_20 (up_ne (by decide) rfl) (fun r_20 => ?_)
    refine x_bipush B dX11_house_23 (by decide) ?_
    refine x_icmp_ne (tgt := 32) B dX11_house_25 (by decide) (by omega) (by omega) (fun c_25 => ?_) (fun c_25 => ?_)
    · refine x_iconst B dX11_house_32 ?_
      refine x_iconst B dX11_house_33 ?_
      refine mo_call E hM hS hl (m_throwsIf_0 l D cy o ad _ _ (by decide)) (cwV 2 hts0 gX11_house_X11_throwsIf rfl rfl rfl (by decide +kernel) ⟨Nat.le_of_ble_eq_true rfl, Nat.le_of_ble_eq_true rfl⟩) rfl rfl (Nat.le_of_ble_eq_true rfl) dX11_house_34 ⟨Nat.zero_le _, Nat.zero_le _⟩ (fun H locs q_t hM hS => ?_)
      refine x_if_eq_t (tgt := 42) B dX11_house_37 (by decide) (by decide) ?_
      refine x_aload_n B hl dX11_house_42 rfl ?_
      refine mo_geta E hM 6 0 rfl (hts (.fieldLink RX11 20 "BinRoundsModel" "streetOf" "[I") (by decide +kernel)) rfl dX11_house_43 ?_
      refine x_aload_n B hl dX11_house_46 rfl ?_
      refine mo_gets E hM 11 rfl (hts (.fieldLink RX11 136 "BinRoundsModel" "houses" "I") (by decide +kernel)) rfl dX11_house_47 (up_ne (by decide) rfl) (fun r_47 => ?_)
      refine x_iload_n B hl dX11_house_50 rfl ?_
      refine mo_st (k := 6) E hM hS rfl (by have h9 : mLn 6 = 60 := rfl; omega) (by decide) (by omega) dX11_house_51 (fun H locs hM hS => ?_)
      refine x_aload_n B hl dX11_house_52 rfl ?_
      refine x_dup B dX11_house_53 rfl ?_
      refine mo_gets E hM 11 rfl (hts (.fieldLink RX11 136 "BinRoundsModel" "houses" "I") (by decide +kernel)) rfl dX11_house_54 (up_ne (by decide) (up_ne (by decide) rfl)) (fun r_54 => ?_)
      refine x_iconst B dX11_house_57 ?_
      refine x_iadd B dX11_house_58 ?_
      refine mo_put E hM hS 11 rfl (hts (.fieldLink RX11 136 "BinRoundsModel" "houses" "I") (by decide +kernel)) rfl rfl (by decide +kernel) (by omega) dX11_house_59 (fun H locs hM hS => ?_)
      refine x_aload_n B hl dX11_house_62 rfl ?_
      refine mo_gets E hM 11 rfl (hts (.fieldLink RX11 136 "BinRoundsModel" "houses" "I") (by decide +kernel)) rfl dX11_house_63 up_s (fun r_63 => ?_)
      refine x_iconst B dX11_house_66 ?_
      refine x_isub B dX11_house_67 ?_
      first | (have hc : houseC σ st = 1 := (by first | rfl | (unfold houseC; omega)); exact mo_iretx E hr rfl hlk hM hS dX11_house_68 (by first | (rw [if_neg (by rw [hc]; decide)]; done) | (rw [if_neg (by rw [hc]; decide)]; rfl)) (pE hc (by decide))) | (have hc : houseC σ st = 2 := (by first | rfl | (unfold houseC; omega)); exact mo_iretx E hr rfl hlk hM hS dX11_house_68 (by first | (rw [if_neg (by rw [hc]; decide)]; done) | (rw [if_neg (by rw [hc]; decide)]; rfl)) (pE hc (by decide))) | (have hc : houseC σ st = 3 := (by first | rfl | (unfold houseC; omega)); exact mo_iretx E hr rfl hlk hM hS dX11_house_68 (by first | (rw [if_neg (by rw [hc]; decide)]; done) | (rw [if_neg (by rw [hc]; decide)]; rfl)) (pE hc (by decide))) | (have hc : houseC σ st = 0 := (by first | rfl | (unfold houseC; omega)); exact mo_iretx E hr rfl hlk hM hS dX11_house_68 (by first | (rw [if_pos hc]; done) | (rw [if_pos hc]; rfl) | (rw [if_pos hc]; congr 1; omega)) (pO hc (by first | rfl | (simp only [up_rd]; rfl) | simp [up_rd]) (by first | exact (sEq.u (sEq.u sEq.z)) | exact sEq.rf)))
    · refine x_iconst B dX11_house_28 ?_
      refine x_goto (tgt := 33) B dX11_house_29 (by decide) ?_
      refine x_iconst B dX11_house_33 ?_
      refine mo_call E hM hS hl (m_throwsIf_1 l D cy o ad _ _ (by decide)) (cwV 2 hts0 gX11_house_X11_throwsIf rfl rfl rfl (by decide +kernel) ⟨Nat.le_of_ble_eq_true rfl, Nat.le_of_ble_eq_true rfl⟩) rfl rfl (Nat.le_of_ble_eq_true rfl) dX11_house_34 ⟨Nat.zero_le _, Nat.zero_le _⟩ (fun H locs q_t hM hS => ?_)
      refine x_if_eq_f (tgt := 42) B dX11_house_37 (by decide) (by decide) ?_
      refine x_iconst B dX11_house_40 ?_
      first | (have hc : houseC σ st = 1 := (by first | rfl | (unfold houseC; omega)); exact mo_iretx E hr rfl hlk hM hS dX11_house_41 (by first | (rw [if_neg (by rw [hc]; decide)]; done) | (rw [if_neg (by rw [hc]; decide)]; rfl)) (pE hc (by decide))) | (have hc : houseC σ st = 2 := (by first | rfl | (unfold houseC; omega)); exact mo_iretx E hr rfl hlk hM hS dX11_house_41 (by first | (rw [if_neg (by rw [hc]; decide)]; done) | (rw [if_neg (by rw [hc]; decide)]; rfl)) (pE hc (by decide))) | (have hc : houseC σ st = 3 := (by first | rfl | (unfold houseC; omega)); exact mo_iretx E hr rfl hlk hM hS dX11_house_41 (by first | (rw [if_neg (by rw [hc]; decide)]; done) | (rw [if_neg (by rw [hc]; decide)]; rfl)) (pE hc (by decide))) | (have hc : houseC σ st = 0 := (by first | rfl | (unfold houseC; omega)); exact mo_iretx E hr rfl hlk hM hS dX11_house_41 (by first | (rw [if_pos hc]; done) | (rw [if_pos hc]; rfl) | (rw [if_pos hc]; congr 1; omega)) (pO hc (by first | rfl | (simp only [up_rd]; rfl) | simp [up_rd]) (by first | exact (sEq.u (sEq.u sEq.z)) | exact sEq.rf)))
set_option maxHeartbeats 4000000 in
set_option maxRecDepth 100000 in
theorem m_p_bin (l : Launch) (D : va_G) (cy : Nat → ClassId) (o : Nat) (ad : Nat → Nat) (σ : MS) {k h mk : Int} {n : Int} (I : sInv n σ) (h_k : -2147483648 ≤ k ∧ k < 2147483648) (h_h : -2147483648 ≤ h ∧ h < 2147483648) (h_mk : -2147483648 ≤ mk ∧ mk < 2147483648)  : MX l yX11_bin wsX11_bin ({ frames := 1, cells := 0, slots := 0, locals := 25 } : Room) D cy o ad [.int (iI k), .int (iI h), .int (iI mk)] σ (some (.int (iI (if binC σ k h = 0 then σ 23 0 else 0)))) (fun τ => pEnd (binC σ k h) (binS σ k h mk) σ τ) := by
  refine mx_of (cc := cX11_bin) (nL := 4) (ret := (some .int)) (by decide) rfl rfl (fun w h => List.mem_cons_of_mem _ (List.mem_append_right _ h)) (Nat.le_of_ble_eq_true rfl) ⟨rfl, rfl⟩ ?_
  intro p e s m args below meth c ls E hr hlk hM hS hl
  have B := E.1
  have hml := E.2.1
  have hown := E.2.2.1
  have hts0 := E.2.2.2.1
  have hts := E.2.2.2.1
  have hw := hM.2.2.2
  have I0 := I
  obtain ⟨hn9, hOp, hnS, hnH, hnB, hnC, hnT, hPr, hTol, v3, v4, v6, v7, v12, v15, v16, v17, v18, v19, v20, v21, v22, v24, v25, v26, v28, v29, v32, v33, v35, v36, v37, v38, v39, v42, v43, v44, v40, vm⟩ := I
  refine x_aload_n B hl dX11_bin_0 rfl ?_
  refine x_iconst B dX11_bin_1 ?_
  refine mo_put E hM hS 0 rfl (hts (.fieldLink RX11 129 "BinRoundsModel" "thrown" "I") (by decide +kernel)) rfl rfl (by decide +kernel) (by omega) dX11_bin_2 (fun H locs hM hS => ?_)
  refine x_aload_n B hl dX11_bin_5 rfl ?_
  refine x_aload_n B hl dX11_bin_6 rfl ?_
  refine x_iload_n B hl dX11_bin_7 rfl ?_
  refine mo_call E hM hS hl (m_noHousek l D cy o ad _ (up_ne (by decide) rfl) (by omega)) (cwV 1 hts0 gX11_bin_X11_noHouse rfl rfl rfl (by decide +kernel) ⟨Nat.le_of_ble_eq_true rfl, Nat.le_of_ble_eq_true rfl⟩) rfl rfl (Nat.le_of_ble_eq_true rfl) dX11_bin_8 ⟨Nat.zero_le _, Nat.zero_le _⟩ (fun H locs q_8 hM hS => ?_)
  refine x_bool (fun b_8 => ?_) (fun b_8 => ?_)
  · refine x_iconst B dX11_bin_11 ?_
    refine mo_call E hM hS hl (m_throwsIf_1 l D cy o ad _ _ (by decide)) (cwV 2 hts0 gX11_bin_X11_throwsIf rfl rfl rfl (by decide +kernel) ⟨Nat.le_of_ble_eq_true rfl, Nat.le_of_ble_eq_true rfl⟩) rfl rfl (Nat.le_of_ble_eq_true rfl) dX11_bin_12 ⟨Nat.zero_le _, Nat.zero_le _⟩ (fun H locs q_t hM hS => ?_)
    refine x_if_ne_t (tgt := 65) B dX11_bin_15 (by decide) (by decide) ?_
    refine x_iconst B dX11_bin_65 ?_
    first | (have hc : binC σ k h = 1 := (by first | rfl | (unfold binC; omega)); exact mo_iretx E hr rfl hlk hM hS dX11_bin_66 (by first | (rw [if_neg (by rw [hc]; decide)]; done) | (rw [if_neg (by rw [hc]; decide)]; rfl)) (pE hc (by decide))) | (have hc : binC σ k h = 2 := (by first | rfl | (unfold binC; omega)); exact mo_iretx E hr rfl hlk hM hS dX11_bin_66 (by first | (rw [if_neg (by rw [hc]; decide)]; done) | (rw [if_neg (by rw [hc]; decide)]; rfl)) (pE hc (by decide))) | (have hc : binC σ k h = 3 := (by first | rfl | (unfold binC; omega)); exact mo_iretx E hr rfl hlk hM hS dX11_bin_66 (by first | (rw [if_neg (by rw [hc]; decide)]; done) | (rw [if_neg (by rw [hc]; decide)]; rfl)) (pE hc (by decide))) | (have hc : binC σ k h = 0 := (by first | rfl | (unfold binC; omega)); exact mo_iretx E hr rfl hlk hM hS dX11_bin_66 (by first | (rw [if_pos hc]; done) | (rw [if_pos hc]; rfl) | (rw [if_pos hc]; congr 1; omega)) (pO hc (by first | rfl | (simp only [up_rd]; rfl) | simp [up_rd]) (by first | exact (sEq.u (sEq.u (sEq.u (sEq.u (sEq.u (sEq.u (sEq.u sEq.z))))))) | exact sEq.rf)))
  · refine x_iconst B dX11_bin_11 ?_
    refine mo_call E hM hS hl (m_throwsIf_0 l D cy o ad _ _ (by decide)) (cwV 2 hts0 gX11_bin_X11_throwsIf rfl rfl rfl (by decide +kernel) ⟨Nat.le_of_ble_eq_true rfl, Nat.le_of_ble_eq_true rfl⟩) rfl rfl (Nat.le_of_ble_eq_true rfl) dX11_bin_12 ⟨Nat.zero_le _, Nat.zero_le _⟩ (fun H locs q_t hM hS => ?_)
    refine x_if_ne_f (tgt := 65) B dX11_bin_15 (by decide) (by decide) ?_
    refine x_aload_n B hl dX11_bin_18 rfl ?_
    refine x_iload_n B hl dX11_bin_19 rfl ?_
    refine x_i2l B dX11_bin_20 (by omega) ?_
    refine x_lconst B dX11_bin_21 ?_
    refine lv_ldc2 (v := lI 4) B.1 B.2 hown (hts (.constantLong RX11 199 (4)) (by decide +kernel)) dX11_bin_22 ?_
    refine z_call ⟨B.1, B.2, hml, hown, hts0⟩ hl (m_in l (by omega) (by omega) (by omega)) (va_cwS 3 hts0 gX11_bin_X11_in rfl rfl rfl (by decide +kernel) ⟨Nat.le_of_ble_eq_true rfl, Nat.le_of_ble_eq_true rfl⟩) rfl rfl (Nat.le_of_ble_eq_true rfl) dX11_bin_25 ⟨Nat.zero_le _, Nat.zero_le _⟩ (fun q_25 => ?_)
    refine x_bool (fun b_25 => ?_) (fun b_25 => ?_)
    · refine x_if_ne_t (tgt := 35) B dX11_bin_28 (by decide) (by decide) ?_
      refine x_iconst B dX11_bin_35 ?_
      refine x_iconst B dX11_bin_36 ?_
      refine mo_call E hM hS hl (m_throwsIf_0 l D cy o ad _ _ (by decide)) (cwV 2 hts0 gX11_bin_X11_throwsIf rfl rfl rfl (by decide +kernel) ⟨Nat.le_of_ble_eq_true rfl, Nat.le_of_ble_eq_true rfl⟩) rfl rfl (Nat.le_of_ble_eq_true rfl) dX11_bin_37 ⟨Nat.zero_le _, Nat.zero_le _⟩ (fun H locs q_t hM hS => ?_)
      refine x_if_ne_f (tgt := 65) B dX11_bin_40 (by decide) (by decide) ?_
      refine x_aload_n B hl dX11_bin_43 rfl ?_
      refine x_aload_n B hl dX11_bin_44 rfl ?_
      refine mo_gets E hM 23 rfl (hts (.fieldLink RX11 139 "BinRoundsModel" "bins" "I") (by decide +kernel)) rfl dX11_bin_45 (up_ne (by decide) rfl) (fun r_45 => ?_)
      refine x_bipush B dX11_bin_48 (by decide) ?_
      refine x_icmp_ne (tgt := 57) B dX11_bin_50 (by decide) (by omega) (by omega) (fun c_50 => ?_) (fun c_50 => ?_)
      · refine x_iconst B dX11_bin_57 ?_
        refine x_iconst B dX11_bin_58 ?_
        refine mo_call E hM hS hl (m_throwsIf_0 l D cy o ad _ _ (by decide)) (cwV 2 hts0 gX11_bin_X11_throwsIf rfl rfl rfl (by decide +kernel) ⟨Nat.le_of_ble_eq_true rfl, Nat.le_of_ble_eq_true rfl⟩) rfl rfl (Nat.le_of_ble_eq_true rfl) dX11_bin_59 ⟨Nat.zero_le _, Nat.zero_le _⟩ (fun H locs q_t hM hS => ?_)
        refine x_if_eq_t (tgt := 67) B dX11_bin_62 (by decide) (by decide) ?_
        refine x_aload_n B hl dX11_bin_67 rfl ?_
        refine mo_geta E hM 12 0 rfl (hts (.fieldLink RX11 36 "BinRoundsModel" "kind" "[I") (by decide +kernel)) rfl dX11_bin_68 ?_
        refine x_aload_n B hl dX11_bin_71 rfl ?_
        refine mo_gets E hM 23 rfl (hts (.fieldLink RX11 139 "BinRoundsModel" "bins" "I") (by decide +kernel)) rfl dX11_bin_72 (up_ne (by decide) rfl) (fun r_72 => ?_)
        refine x_iload_n B hl dX11_bin_75 rfl ?_
        refine mo_st (k := 12) E hM hS rfl (by have h9 : mLn 12 = 120 := rfl; omega) (by decide) (by omega) dX11_bin_76 (fun H locs hM hS => ?_)
        refine x_aload_n B hl dX11_bin_77 rfl ?_
        refine mo_geta E hM 13 1 rfl (hts (.fieldLink RX11 39 "BinRoundsModel" "bears" "[Z") (by decide +kernel)) rfl dX11_bin_78 ?_
        refine x_aload_n B hl dX11_bin_81 rfl ?_
        refine mo_gets E hM 23 rfl (hts (.fieldLink RX11 139 "BinRoundsModel" "bins" "I") (by decide +kernel)) rfl dX11_bin_82 (up_ne (by decide) (up_ne (by decide) rfl)) (fun r_82 => ?_)
        refine x_iconst B dX11_bin_85 ?_
        refine mo_zst (k := 13) E hM hS rfl (by have h9 : mLn 13 = 120 := rfl; omega) (by decide) (by omega) dX11_bin_86 (fun H locs hM hS => ?_)
        refine x_aload_n B hl dX11_bin_87 rfl ?_
        refine mo_geta E hM 14 0 rfl (hts (.fieldLink RX11 42 "BinRoundsModel" "markOf" "[I") (by decide +kernel)) rfl dX11_bin_88 ?_
        refine x_aload_n B hl dX11_bin_91 rfl ?_
        refine mo_gets E hM 23 rfl (hts (.fieldLink RX11 139 "BinRoundsModel" "bins" "I") (by decide +kernel)) rfl dX11_bin_92 (up_ne (by decide) (up_ne (by decide) (up_ne (by decide) rfl))) (fun r_92 => ?_)
        refine x_iload_n B hl dX11_bin_95 rfl ?_
        refine mo_st (k := 14) E hM hS rfl (by have h9 : mLn 14 = 120 := rfl; omega) (by decide) (by omega) dX11_bin_96 (fun H locs hM hS => ?_)
        refine x_aload_n B hl dX11_bin_97 rfl ?_
        refine mo_geta E hM 16 0 rfl (hts (.fieldLink RX11 48 "BinRoundsModel" "moveHouse" "[I") (by decide +kernel)) rfl dX11_bin_98 ?_
        refine x_bipush B dX11_bin_101 (by decide) ?_
        refine x_aload_n B hl dX11_bin_103 rfl ?_
        refine mo_gets E hM 23 rfl (hts (.fieldLink RX11 139 "BinRoundsModel" "bins" "I") (by decide +kernel)) rfl dX11_bin_104 (up_ne (by decide) (up_ne (by decide) (up_ne (by decide) (up_ne (by decide) rfl)))) (fun r_104 => ?_)
        refine x_imul B dX11_bin_107 ?_
        refine x_iload_n B hl dX11_bin_108 rfl ?_
        refine mo_st (k := 16) E hM hS rfl (by have h9 : mLn 16 = 960 := rfl; omega) (by decide) (by omega) dX11_bin_109 (fun H locs hM hS => ?_)
        refine x_aload_n B hl dX11_bin_110 rfl ?_
        refine mo_geta E hM 17 0 rfl (hts (.fieldLink RX11 51 "BinRoundsModel" "moveDay" "[I") (by decide +kernel)) rfl dX11_bin_111 ?_
        refine x_bipush B dX11_bin_114 (by decide) ?_
        refine x_aload_n B hl dX11_bin_116 rfl ?_
        refine mo_gets E hM 23 rfl (hts (.fieldLink RX11 139 "BinRoundsModel" "bins" "I") (by decide +kernel)) rfl dX11_bin_117 (up_ne (by decide) (up_ne (by decide) (up_ne (by decide) (up_ne (by decide) (up_ne (by decide) rfl))))) (fun r_117 => ?_)
        refine x_imul B dX11_bin_120 ?_
        refine x_aload_n B hl dX11_bin_121 rfl ?_
        refine mo_gets E hM 1 rfl (hts (.fieldLink RX11 152 "BinRoundsModel" "open" "I") (by decide +kernel)) rfl dX11_bin_122 (up_ne (by decide) (up_ne (by decide) (up_ne (by decide) (up_ne (by decide) (up_ne (by decide) rfl))))) (fun r_122 => ?_)
        refine mo_st (k := 17) E hM hS rfl (by have h9 : mLn 17 = 960 := rfl; omega) (by decide) (by omega) dX11_bin_125 (fun H locs hM hS => ?_)
        refine x_aload_n B hl dX11_bin_126 rfl ?_
        refine mo_geta E hM 18 0 rfl (hts (.fieldLink RX11 54 "BinRoundsModel" "moves" "[I") (by decide +kernel)) rfl dX11_bin_127 ?_
        refine x_aload_n B hl dX11_bin_130 rfl ?_
        refine mo_gets E hM 23 rfl (hts (.fieldLink RX11 139 "BinRoundsModel" "bins" "I") (by decide +kernel)) rfl dX11_bin_131 (up_ne (by decide) (up_ne (by decide) (up_ne (by decide) (up_ne (by decide) (up_ne (by decide) (up_ne (by decide) rfl)))))) (fun r_131 => ?_)
        refine x_iconst B dX11_bin_134 ?_
        refine mo_st (k := 18) E hM hS rfl (by have h9 : mLn 18 = 120 := rfl; omega) (by decide) (by omega) dX11_bin_135 (fun H locs hM hS => ?_)
        refine x_aload_n B hl dX11_bin_136 rfl ?_
        refine x_dup B dX11_bin_137 rfl ?_
        refine mo_gets E hM 23 rfl (hts (.fieldLink RX11 139 "BinRoundsModel" "bins" "I") (by decide +kernel)) rfl dX11_bin_138 (up_ne (by decide) (up_ne (by decide) (up_ne (by decide) (up_ne (by decide) (up_ne (by decide) (up_ne (by decide) (up_ne (by decide) rfl))))))) (fun r_138 => ?_)
        refine x_iconst B dX11_bin_141 ?_
        refine x_iadd B dX11_bin_142 ?_
        refine mo_put E hM hS 23 rfl (hts (.fieldLink RX11 139 "BinRoundsModel" "bins" "I") (by decide +kernel)) rfl rfl (by decide +kernel) (by omega) dX11_bin_143 (fun H locs hM hS => ?_)
        refine x_aload_n B hl dX11_bin_146 rfl ?_
        refine mo_gets E hM 23 rfl (hts (.fieldLink RX11 139 "BinRoundsModel" "bins" "I") (by decide +kernel)) rfl dX11_bin_147 up_s (fun r_147 => ?_)
        refine x_iconst B dX11_bin_150 ?_
        refine x_isub B dX11_bin_151 ?_
        first | (have hc : binC σ k h = 1 := (by first | rfl | (unfold binC; omega)); exact mo_iretx E hr rfl hlk hM hS dX11_bin_152 (by first | (rw [if_neg (by rw [hc]; decide)]; done) | (rw [if_neg (by rw [hc]; decide)]; rfl)) (pE hc (by decide))) | (have hc : binC σ k h = 2 := (by first | rfl | (unfold binC; omega)); exact mo_iretx E hr rfl hlk hM hS dX11_bin_152 (by first | (rw [if_neg (by rw [hc]; decide)]; done) | (rw [if_neg (by rw [hc]; decide)]; rfl)) (pE hc (by decide))) | (have hc : binC σ k h = 3 := (by first | rfl | (unfold binC; omega)); exact mo_iretx E hr rfl hlk hM hS dX11_bin_152 (by first | (rw [if_neg (by rw [hc]; decide)]; done) | (rw [if_neg (by rw [hc]; decide)]; rfl)) (pE hc (by decide))) | (have hc : binC σ k h = 0 := (by first | rfl | (unfold binC; omega)); exact mo_iretx E hr rfl hlk hM hS dX11_bin_152 (by first | (rw [if_pos hc]; done) | (rw [if_pos hc]; rfl) | (rw [if_pos hc]; congr 1; omega)) (pO hc (by first | rfl | (simp only [up_rd]; rfl) | simp [up_rd]) (by first | exact (sEq.u (sEq.u (sEq.u (sEq.u (sEq.u (sEq.u (sEq.u sEq.z))))))) | exact sEq.rf)))
      · refine x_iconst B dX11_bin_53 ?_
        refine x_goto (tgt := 58) B dX11_bin_54 (by decide) ?_
        refine x_iconst B dX11_bin_58 ?_
        refine mo_call E hM hS hl (m_throwsIf_1 l D cy o ad _ _ (by decide)) (cwV 2 hts0 gX11_bin_X11_throwsIf rfl rfl rfl (by decide +kernel) ⟨Nat.le_of_ble_eq_true rfl, Nat.le_of_ble_eq_true rfl⟩) rfl rfl (Nat.le_of_ble_eq_true rfl) dX11_bin_59 ⟨Nat.zero_le _, Nat.zero_le _⟩ (fun H locs q_t hM hS => ?_)
        refine x_if_eq_f (tgt := 67) B dX11_bin_62 (by decide) (by decide) ?_
        refine x_iconst B dX11_bin_65 ?_
        first | (have hc : binC σ k h = 1 := (by first | rfl | (unfold binC; omega)); exact mo_iretx E hr rfl hlk hM hS dX11_bin_66 (by first | (rw [if_neg (by rw [hc]; decide)]; done) | (rw [if_neg (by rw [hc]; decide)]; rfl)) (pE hc (by decide))) | (have hc : binC σ k h = 2 := (by first | rfl | (unfold binC; omega)); exact mo_iretx E hr rfl hlk hM hS dX11_bin_66 (by first | (rw [if_neg (by rw [hc]; decide)]; done) | (rw [if_neg (by rw [hc]; decide)]; rfl)) (pE hc (by decide))) | (have hc : binC σ k h = 3 := (by first | rfl | (unfold binC; omega)); exact mo_iretx E hr rfl hlk hM hS dX11_bin_66 (by first | (rw [if_neg (by rw [hc]; decide)]; done) | (rw [if_neg (by rw [hc]; decide)]; rfl)) (pE hc (by decide))) | (have hc : binC σ k h = 0 := (by first | rfl | (unfold binC; omega)); exact mo_iretx E hr rfl hlk hM hS dX11_bin_66 (by first | (rw [if_pos hc]; done) | (rw [if_pos hc]; rfl) | (rw [if_pos hc]; congr 1; omega)) (pO hc (by first | rfl | (simp only [up_rd]; rfl) | simp [up_rd]) (by first | exact (sEq.u (sEq.u (sEq.u (sEq.u (sEq.u (sEq.u (sEq.u sEq.z))))))) | exact sEq.rf)))
    · refine x_if_ne_f (tgt := 35) B dX11_bin_28 (by decide) (by decide) ?_
      refine x_iconst B dX11_bin_31 ?_
      refine x_goto (tgt := 36) B dX11_bin_32 (by decide) ?_
      refine x_iconst B dX11_bin_36 ?_
      refine mo_call E hM hS hl (m_throwsIf_1 l D cy o ad _ _ (by decide)) (cwV 2 hts0 gX11_bin_X11_throwsIf rfl rfl rfl (by decide +kernel) ⟨Nat.le_of_ble_eq_true rfl, Nat.le_of_ble_eq_true rfl⟩) rfl rfl (Nat.le_of_ble_eq_true rfl) dX11_bin_37 ⟨Nat.zero_le _, Nat.zero_le _⟩ (fun H locs q_t hM hS => ?_)
      refine x_if_ne_t (tgt := 65) B dX11_bin_40 (by decide) (by decide) ?_
      refine x_iconst B dX11_bin_65 ?_
      first | (have hc : binC σ k h = 1 := (by first | rfl | (unfold binC; omega)); exact mo_iretx E hr rfl hlk hM hS dX11_bin_66 (by first | (rw [if_neg (by rw [hc]; decide)]; done) | (rw [if_neg (by rw [hc]; decide)]; rfl)) (pE hc (by decide))) | (have hc : binC σ k h = 2 := (by first | rfl | (unfold binC; omega)); exact mo_iretx E hr rfl hlk hM hS dX11_bin_66 (by first | (rw [if_neg (by rw [hc]; decide)]; done) | (rw [if_neg (by rw [hc]; decide)]; rfl)) (pE hc (by decide))) | (have hc : binC σ k h = 3 := (by first | rfl | (unfold binC; omega)); exact mo_iretx E hr rfl hlk hM hS dX11_bin_66 (by first | (rw [if_neg (by rw [hc]; decide)]; done) | (rw [if_neg (by rw [hc]; decide)]; rfl)) (pE hc (by decide))) | (have hc : binC σ k h = 0 := (by first | rfl | (unfold binC; omega)); exact mo_iretx E hr rfl hlk hM hS dX11_bin_66 (by first | (rw [if_pos hc]; done) | (rw [if_pos hc]; rfl) | (rw [if_pos hc]; congr 1; omega)) (pO hc (by first | rfl | (simp only [up_rd]; rfl) | simp [up_rd]) (by first | exact (sEq.u (sEq.u (sEq.u (sEq.u (sEq.u (sEq.u (sEq.u sEq.z))))))) | exact sEq.rf)))
