theorem m_one_z (l : Launch) {z : Int} (hz : z = 0 ∨ z = 1) : MZ l yX11_one wsX11_one ({ frames := 0, cells := 0, slots := 0, locals := 0 } : Room) [.int (iI z)] (some (.int (iI z))) True := by
  rcases hz with rfl | rfl
  · exact m_one_0 l
  · exact m_one_1 l
theorem m_middleOfc (l : Launch) (D : va_G) (cy : Nat → ClassId) (o : Nat) (ad : Nat → Nat) (τ σ : MS) (hτ : sEq τ σ) {b : Int} (hb : -2147483648 ≤ b ∧ b < 2147483648) (hn : 0 ≤ σ 45 0 ∧ σ 45 0 ≤ 600) (hh : ∀ t, 0 ≤ t → t < σ 45 0 → 0 ≤ σ 35 t ∧ σ 35 t ≤ 3000000) : MX l yX11_middleOf wsX11_middleOf ({ frames := 0, cells := 0, slots := 0, locals := 0 } : Room) D cy o ad [.int (iI b)] τ (some (.int (iI (sMiddle σ b)))) (fun υ => (∀ q, q ≠ 46 → υ q = τ q) ∧ 0 ≤ sMiddle σ b ∧ sMiddle σ b ≤ 3000000) := by
  rw [← sMiddle_e hτ]
  exact m_middleOf l D cy o ad τ hb (by rw [hτ.at 45 rfl]; exact hn) (by rw [hτ.at 45 rfl, hτ.at 35 rfl]; exact hh)
theorem m_bearersc (l : Launch) (D : va_G) (cy : Nat → ClassId) (o : Nat) (ad : Nat → Nat) (τ σ : MS) (hτ : sEq τ σ) {mk : Int} (hmk : -2147483648 ≤ mk ∧ mk < 2147483648) (hn : 0 ≤ σ 23 0 ∧ σ 23 0 ≤ 120) : MM l yX11_bearers wsX11_bearers ({ frames := 0, cells := 0, slots := 0, locals := 0 } : Room) D cy o ad [.int (iI mk)] τ (some (.int (iI (sBear σ mk)))) τ (0 ≤ sBear σ mk ∧ sBear σ mk ≤ 120) := by
  rw [← sBear_e hτ]
  exact m_bearers l D cy o ad τ hmk (by rw [hτ.at 23 rfl]; exact hn)
set_option maxHeartbeats 4000000 in
set_option maxRecDepth 100000 in
theorem m_p_mark (l : Launch) (D : va_G) (cy : Nat → ClassId) (o : Nat) (ad : Nat → Nat) (σ : MS) {b mk : Int} {n : Int} (I : sInv n σ) (h_b : -2147483648 ≤ b ∧ b < 2147483648) (h_mk : -2147483648 ≤ mk ∧ mk < 2147483648)  : MX l yX11_mark wsX11_mark ({ frames := 1, cells := 0, slots := 0, locals := 23 } : Room) D cy o ad [.int (iI b), .int (iI mk)] σ (some (.int (iI (if markC σ b = 0 then sBear (markS σ b mk) mk else 0)))) (fun τ => pEnd (markC σ b) (markS σ b mk) σ τ) := by
  refine mx_of (cc := cX11_mark) (nL := 3) (ret := (some .int)) (by decide) rfl rfl (fun w h => List.mem_cons_of_mem _ (List.mem_append_right _ h)) (Nat.le_of_ble_eq_true rfl) ⟨rfl, rfl⟩ ?_
  intro p e s m args below meth c ls E hr hlk hM hS hl
  have B := E.1
  have hml := E.2.1
  have hown := E.2.2.1
  have hts0 := E.2.2.2.1
  have hts := E.2.2.2.1
  have hw := hM.2.2.2
  have I0 := I
  obtain ⟨hn9, hOp, hnS, hnH, hnB, hnC, hnT, hPr, hTol, v3, v4, v6, v7, v12, v15, v16, v17, v18, v19, v20, v21, v22, v24, v25, v26, v28, v29, v32, v33, v35, v36, v37, v38, v39, v42, v43, v44, v40, vm⟩ := I
  refine x_aload_n B hl dX11_mark_0 rfl ?_
  refine x_iconst B dX11_mark_1 ?_
  refine mo_put E hM hS 0 rfl (hts (.fieldLink RX11 129 "BinRoundsModel" "thrown" "I") (by decide +kernel)) rfl rfl (by decide +kernel) (by omega) dX11_mark_2 (fun H locs hM hS => ?_)
  refine x_aload_n B hl dX11_mark_5 rfl ?_
  refine x_aload_n B hl dX11_mark_6 rfl ?_
  refine x_iload_n B hl dX11_mark_7 rfl ?_
  refine mo_call E hM hS hl (m_noBink l D cy o ad _ (up_ne (by decide) rfl) (by omega)) (cwV 1 hts0 gX11_mark_X11_noBin rfl rfl rfl (by decide +kernel) ⟨Nat.le_of_ble_eq_true rfl, Nat.le_of_ble_eq_true rfl⟩) rfl rfl (Nat.le_of_ble_eq_true rfl) dX11_mark_8 ⟨Nat.zero_le _, Nat.zero_le _⟩ (fun H locs q_8 hM hS => ?_)
  refine x_bool (fun b_8 => ?_) (fun b_8 => ?_)
  · refine x_iconst B dX11_mark_11 ?_
    refine mo_call E hM hS hl (m_throwsIf_1 l D cy o ad _ _ (by decide)) (cwV 2 hts0 gX11_mark_X11_throwsIf rfl rfl rfl (by decide +kernel) ⟨Nat.le_of_ble_eq_true rfl, Nat.le_of_ble_eq_true rfl⟩) rfl rfl (Nat.le_of_ble_eq_true rfl) dX11_mark_12 ⟨Nat.zero_le _, Nat.zero_le _⟩ (fun H locs q_t hM hS => ?_)
    refine x_if_eq_f (tgt := 20) B dX11_mark_15 (by decide) (by decide) ?_
    refine x_iconst B dX11_mark_18 ?_
    first | (have hc : markC σ b = 1 := (by first | rfl | (unfold markC; omega)); exact mo_iretx E hr rfl hlk hM hS dX11_mark_19 (by first | (rw [if_neg (by rw [hc]; decide)]; done) | (rw [if_neg (by rw [hc]; decide)]; rfl)) (pE hc (by decide))) | (have hc : markC σ b = 2 := (by first | rfl | (unfold markC; omega)); exact mo_iretx E hr rfl hlk hM hS dX11_mark_19 (by first | (rw [if_neg (by rw [hc]; decide)]; done) | (rw [if_neg (by rw [hc]; decide)]; rfl)) (pE hc (by decide))) | (have hc : markC σ b = 3 := (by first | rfl | (unfold markC; omega)); exact mo_iretx E hr rfl hlk hM hS dX11_mark_19 (by first | (rw [if_neg (by rw [hc]; decide)]; done) | (rw [if_neg (by rw [hc]; decide)]; rfl)) (pE hc (by decide))) | (have hc : markC σ b = 0 := (by first | rfl | (unfold markC; omega)); exact mo_iretx E hr rfl hlk hM hS dX11_mark_19 (by first | (rw [if_pos hc]; done) | (rw [if_pos hc]; rfl) | (rw [if_pos hc]; congr 1; omega) | (rw [if_pos hc]; congr 1; unfold sBear; omega)) (pO hc (by first | rfl | (simp only [up_rd]; rfl) | simp [up_rd]) (by first | exact (sEq.u (sEq.u sEq.z)) | exact sEq.rf)))
  · refine x_iconst B dX11_mark_11 ?_
    refine mo_call E hM hS hl (m_throwsIf_0 l D cy o ad _ _ (by decide)) (cwV 2 hts0 gX11_mark_X11_throwsIf rfl rfl rfl (by decide +kernel) ⟨Nat.le_of_ble_eq_true rfl, Nat.le_of_ble_eq_true rfl⟩) rfl rfl (Nat.le_of_ble_eq_true rfl) dX11_mark_12 ⟨Nat.zero_le _, Nat.zero_le _⟩ (fun H locs q_t hM hS => ?_)
    refine x_if_eq_t (tgt := 20) B dX11_mark_15 (by decide) (by decide) ?_
    refine x_aload_n B hl dX11_mark_20 rfl ?_
    refine mo_geta E hM 13 1 rfl (hts (.fieldLink RX11 39 "BinRoundsModel" "bears" "[Z") (by decide +kernel)) rfl dX11_mark_21 ?_
    refine x_iload_n B hl dX11_mark_24 rfl ?_
    refine x_iconst B dX11_mark_25 ?_
    refine mo_zst (k := 13) E hM hS rfl (by have h9 : mLn 13 = 120 := rfl; omega) (by decide) (by omega) dX11_mark_26 (fun H locs hM hS => ?_)
    refine x_aload_n B hl dX11_mark_27 rfl ?_
    refine mo_geta E hM 14 0 rfl (hts (.fieldLink RX11 42 "BinRoundsModel" "markOf" "[I") (by decide +kernel)) rfl dX11_mark_28 ?_
    refine x_iload_n B hl dX11_mark_31 rfl ?_
    refine x_iload_n B hl dX11_mark_32 rfl ?_
    refine mo_st (k := 14) E hM hS rfl (by have h9 : mLn 14 = 120 := rfl; omega) (by decide) (by omega) dX11_mark_33 (fun H locs hM hS => ?_)
    refine x_aload_n B hl dX11_mark_34 rfl ?_
    refine x_iload_n B hl dX11_mark_35 rfl ?_
    refine mo_call E hM hS hl (m_bearersc l D cy o ad _ (markS σ b mk) (sEq.u (sEq.u sEq.z)) (by omega) hnB) (cwV 1 hts0 gX11_mark_X11_bearers rfl rfl rfl (by decide +kernel) ⟨Nat.le_of_ble_eq_true rfl, Nat.le_of_ble_eq_true rfl⟩) rfl rfl (Nat.le_of_ble_eq_true rfl) dX11_mark_36 ⟨Nat.zero_le _, Nat.zero_le _⟩ (fun H locs q_b hM hS => ?_)
    first | (have hc : markC σ b = 1 := (by first | rfl | (unfold markC; omega)); exact mo_iretx E hr rfl hlk hM hS dX11_mark_39 (by first | (rw [if_neg (by rw [hc]; decide)]; done) | (rw [if_neg (by rw [hc]; decide)]; rfl)) (pE hc (by decide))) | (have hc : markC σ b = 2 := (by first | rfl | (unfold markC; omega)); exact mo_iretx E hr rfl hlk hM hS dX11_mark_39 (by first | (rw [if_neg (by rw [hc]; decide)]; done) | (rw [if_neg (by rw [hc]; decide)]; rfl)) (pE hc (by decide))) | (have hc : markC σ b = 3 := (by first | rfl | (unfold markC; omega)); exact mo_iretx E hr rfl hlk hM hS dX11_mark_39 (by first | (rw [if_neg (by rw [hc]; decide)]; done) | (rw [if_neg (by rw [hc]; decide)]; rfl)) (pE hc (by decide))) | (have hc : markC σ b = 0 := (by first | rfl | (unfold markC; omega)); exact mo_iretx E hr rfl hlk hM hS dX11_mark_39 (by first | (rw [if_pos hc]; done) | (rw [if_pos hc]; rfl) | (rw [if_pos hc]; congr 1; omega) | (rw [if_pos hc]; congr 1; unfold sBear; omega)) (pO hc (by first | rfl | (simp only [up_rd]; rfl) | simp [up_rd]) (by first | exact (sEq.u (sEq.u sEq.z)) | exact sEq.rf)))
set_option maxHeartbeats 4000000 in
set_option maxRecDepth 100000 in
theorem m_p_lost (l : Launch) (D : va_G) (cy : Nat → ClassId) (o : Nat) (ad : Nat → Nat) (σ : MS) {b : Int} {n : Int} (I : sInv n σ) (h_b : -2147483648 ≤ b ∧ b < 2147483648)  : MX l yX11_lost wsX11_lost ({ frames := 1, cells := 0, slots := 0, locals := 22 } : Room) D cy o ad [.int (iI b)] σ (some (.int (iI (if markC σ b = 0 then σ 13 b else 0)))) (fun τ => pEnd (markC σ b) (lostS σ b) σ τ) := by
  refine mx_of (cc := cX11_lost) (nL := 3) (ret := (some .boolean)) (by decide) rfl rfl (fun w h => List.mem_cons_of_mem _ (List.mem_append_right _ h)) (Nat.le_of_ble_eq_true rfl) ⟨rfl, rfl⟩ ?_
  intro p e s m args below meth c ls E hr hlk hM hS hl
  have B := E.1
  have hml := E.2.1
  have hown := E.2.2.1
  have hts0 := E.2.2.2.1
  have hts := E.2.2.2.1
  have hw := hM.2.2.2
  have I0 := I
  obtain ⟨hn9, hOp, hnS, hnH, hnB, hnC, hnT, hPr, hTol, v3, v4, v6, v7, v12, v15, v16, v17, v18, v19, v20, v21, v22, v24, v25, v26, v28, v29, v32, v33, v35, v36, v37, v38, v39, v42, v43, v44, v40, vm⟩ := I
  refine x_aload_n B hl dX11_lost_0 rfl ?_
  refine x_iconst B dX11_lost_1 ?_
  refine mo_put E hM hS 0 rfl (hts (.fieldLink RX11 129 "BinRoundsModel" "thrown" "I") (by decide +kernel)) rfl rfl (by decide +kernel) (by omega) dX11_lost_2 (fun H locs hM hS => ?_)
  refine x_aload_n B hl dX11_lost_5 rfl ?_
  refine x_aload_n B hl dX11_lost_6 rfl ?_
  refine x_iload_n B hl dX11_lost_7 rfl ?_
  refine mo_call E hM hS hl (m_noBink l D cy o ad _ (up_ne (by decide) rfl) (by omega)) (cwV 1 hts0 gX11_lost_X11_noBin rfl rfl rfl (by decide +kernel) ⟨Nat.le_of_ble_eq_true rfl, Nat.le_of_ble_eq_true rfl⟩) rfl rfl (Nat.le_of_ble_eq_true rfl) dX11_lost_8 ⟨Nat.zero_le _, Nat.zero_le _⟩ (fun H locs q_8 hM hS => ?_)
  refine x_bool (fun b_8 => ?_) (fun b_8 => ?_)
  · refine x_iconst B dX11_lost_11 ?_
    refine mo_call E hM hS hl (m_throwsIf_1 l D cy o ad _ _ (by decide)) (cwV 2 hts0 gX11_lost_X11_throwsIf rfl rfl rfl (by decide +kernel) ⟨Nat.le_of_ble_eq_true rfl, Nat.le_of_ble_eq_true rfl⟩) rfl rfl (Nat.le_of_ble_eq_true rfl) dX11_lost_12 ⟨Nat.zero_le _, Nat.zero_le _⟩ (fun H locs q_t hM hS => ?_)
    refine x_if_eq_f (tgt := 20) B dX11_lost_15 (by decide) (by decide) ?_
    refine x_iconst B dX11_lost_18 ?_
    first | (have hc : markC σ b = 1 := (by first | rfl | (unfold markC; omega)); exact mo_iretx E hr (by first | rfl | exact nar_b (by assumption)) hlk hM hS dX11_lost_19 (by first | (rw [if_neg (by rw [hc]; decide)]; done) | (rw [if_neg (by rw [hc]; decide)]; rfl)) (pE hc (by decide))) | (have hc : markC σ b = 2 := (by first | rfl | (unfold markC; omega)); exact mo_iretx E hr (by first | rfl | exact nar_b (by assumption)) hlk hM hS dX11_lost_19 (by first | (rw [if_neg (by rw [hc]; decide)]; done) | (rw [if_neg (by rw [hc]; decide)]; rfl)) (pE hc (by decide))) | (have hc : markC σ b = 3 := (by first | rfl | (unfold markC; omega)); exact mo_iretx E hr (by first | rfl | exact nar_b (by assumption)) hlk hM hS dX11_lost_19 (by first | (rw [if_neg (by rw [hc]; decide)]; done) | (rw [if_neg (by rw [hc]; decide)]; rfl)) (pE hc (by decide))) | (have hc : markC σ b = 0 := (by first | rfl | (unfold markC; omega)); exact mo_iretx E hr (by first | rfl | exact nar_b (by assumption)) hlk hM hS dX11_lost_19 (by first | (rw [if_pos hc]; done) | (rw [if_pos hc]; rfl) | (rw [if_pos hc]; congr 1; omega)) (pO hc (by first | rfl | (simp only [up_rd]; rfl) | simp [up_rd]) (by first | exact (sEq.u sEq.z) | exact sEq.rf)))
  · refine x_iconst B dX11_lost_11 ?_
    refine mo_call E hM hS hl (m_throwsIf_0 l D cy o ad _ _ (by decide)) (cwV 2 hts0 gX11_lost_X11_throwsIf rfl rfl rfl (by decide +kernel) ⟨Nat.le_of_ble_eq_true rfl, Nat.le_of_ble_eq_true rfl⟩) rfl rfl (Nat.le_of_ble_eq_true rfl) dX11_lost_12 ⟨Nat.zero_le _, Nat.zero_le _⟩ (fun H locs q_t hM hS => ?_)
    refine x_if_eq_t (tgt := 20) B dX11_lost_15 (by decide) (by decide) ?_
    refine x_aload_n B hl dX11_lost_20 rfl ?_
    refine mo_geta E hM 13 1 rfl (hts (.fieldLink RX11 39 "BinRoundsModel" "bears" "[Z") (by decide +kernel)) rfl dX11_lost_21 ?_
    refine x_iload_n B hl dX11_lost_24 rfl ?_
    refine mo_zld (k := 13) E hM rfl (by have h9 : mLn 13 = 120 := rfl; omega) (by decide) dX11_lost_25 (up_ne (by decide) rfl) (fun r_25 => ?_)
    refine x_istore_n B hl dX11_lost_26 (by decide) (fun ls hl => ?_)
    refine x_aload_n B hl dX11_lost_27 rfl ?_
    refine mo_geta E hM 13 1 rfl (hts (.fieldLink RX11 39 "BinRoundsModel" "bears" "[Z") (by decide +kernel)) rfl dX11_lost_28 ?_
    refine x_iload_n B hl dX11_lost_31 rfl ?_
    refine x_iconst B dX11_lost_32 ?_
    refine mo_zst (k := 13) E hM hS rfl (by have h9 : mLn 13 = 120 := rfl; omega) (by decide) (by omega) dX11_lost_33 (fun H locs hM hS => ?_)
    refine x_iload_n B hl dX11_lost_34 rfl ?_
    first | (have hc : markC σ b = 1 := (by first | rfl | (unfold markC; omega)); exact mo_iretx E hr (by first | rfl | exact nar_b (by assumption)) hlk hM hS dX11_lost_35 (by first | (rw [if_neg (by rw [hc]; decide)]; done) | (rw [if_neg (by rw [hc]; decide)]; rfl)) (pE hc (by decide))) | (have hc : markC σ b = 2 := (by first | rfl | (unfold markC; omega)); exact mo_iretx E hr (by first | rfl | exact nar_b (by assumption)) hlk hM hS dX11_lost_35 (by first | (rw [if_neg (by rw [hc]; decide)]; done) | (rw [if_neg (by rw [hc]; decide)]; rfl)) (pE hc (by decide))) | (have hc : markC σ b = 3 := (by first | rfl | (unfold markC; omega)); exact mo_iretx E hr (by first | rfl | exact nar_b (by assumption)) hlk hM hS dX11_lost_35 (by first | (rw [if_neg (by rw [hc]; decide)]; done) | (rw [if_neg (by rw [hc]; decide)]; rfl)) (pE hc (by decide))) | (have hc : markC σ b = 0 := (by first | rfl | (unfold markC; omega)); exact mo_iretx E hr (by first | rfl | exact nar_b (by assumption)) hlk hM hS dX11_lost_35 (by first | (rw [if_pos hc]; done) | (rw [if_pos hc]; rfl) | (rw [if_pos hc]; congr 1; omega)) (pO hc (by first | rfl | (simp only [up_rd]; rfl) | simp [up_rd]) (by first | exact (sEq.u sEq.z) | exact sEq.rf)))
set_option maxHeartbeats 4000000 in
set_option maxRecDepth 100000 in
theorem m_p_move (l : Launch) (D : va_G) (cy : Nat → ClassId) (o : Nat) (ad : Nat → Nat) (σ : MS) {b h d : Int} {n : Int} (I : sInv n σ) (h_b : -2147483648 ≤ b ∧ b < 2147483648) (h_h : -2147483648 ≤ h ∧ h < 2147483648) (h_d : -2147483648 ≤ d ∧ d < 2147483648)  : MX l yX11_move wsX11_move ({ frames := 1, cells := 0, slots := 0, locals := 25 } : Room) D cy o ad [.int (iI b), .int (iI h), .int (iI d)] σ (some (.int (iI (if moveC σ b h d = 0 then (σ 18 b + 1) else 0)))) (fun τ => pEnd (moveC σ b h d) (moveS σ b h d) σ τ) := by
  refine mx_of (cc := cX11_move) (nL := 5) (ret := (some .int)) (by decide) rfl rfl (fun w h => List.mem_cons_of_mem _ (List.mem_append_right _ h)) (Nat.le_of_ble_eq_true rfl) ⟨rfl, rfl⟩ ?_
  intro p e s m args below meth c ls E hr hlk hM hS hl
  have B := E.1
  have hml := E.2.1
  have hown := E.2.2.1
  have hts0 := E.2.2.2.1
  have hts := E.2.2.2.1
  have hw := hM.2.2.2
  have I0 := I
  obtain ⟨hn9, hOp, hnS, hnH, hnB, hnC, hnT, hPr, hTol, v3, v4, v6, v7, v12, v15, v16, v17, v18, v19, v20, v21, v22, v24, v25, v26, v28, v29, v32, v33, v35, v36, v37, v38, v39, v42, v43, v44, v40, vm⟩ := I
  have vmb := vm b
  have v18b := v18 b
  have v17b := v17 (8 * b + σ 18 b - 1)
  refine x_aload_n B hl dX11_move_0 rfl ?_
  refine x_iconst B dX11_move_1 ?_
  refine mo_put E hM hS 0 rfl (hts (.fieldLink RX11 129 "BinRoundsModel" "thrown" "I") (by decide +kernel)) rfl rfl (by decide +kernel) (by omega) dX11_move_2 (fun H locs hM hS => ?_)
  refine x_aload_n B hl dX11_move_5 rfl ?_
  refine x_aload_n B hl dX11_move_6 rfl ?_
  refine x_iload_n B hl dX11_move_7 rfl ?_
  refine mo_call E hM hS hl (m_noBink l D cy o ad _ (up_ne (by decide) rfl) (by omega)) (cwV 1 hts0 gX11_move_X11_noBin rfl rfl rfl (by decide +kernel) ⟨Nat.le_of_ble_eq_true rfl, Nat.le_of_ble_eq_true rfl⟩) rfl rfl (Nat.le_of_ble_eq_true rfl) dX11_move_8 ⟨Nat.zero_le _, Nat.zero_le _⟩ (fun H locs q_8 hM hS => ?_)
  refine x_bool (fun b_8 => ?_) (fun b_8 => ?_)
  · refine x_if_ne_t (tgt := 22) B dX11_move_11 (by decide) (by decide) ?_
    refine x_iconst B dX11_move_22 ?_
    refine x_goto (tgt := 27) B dX11_move_23 (by decide) ?_
    refine x_iconst B dX11_move_27 ?_
    refine mo_call E hM hS hl (m_throwsIf_1 l D cy o ad _ _ (by decide)) (cwV 2 hts0 gX11_move_X11_throwsIf rfl rfl rfl (by decide +kernel) ⟨Nat.le_of_ble_eq_true rfl, Nat.le_of_ble_eq_true rfl⟩) rfl rfl (Nat.le_of_ble_eq_true rfl) dX11_move_28 ⟨Nat.zero_le _, Nat.zero_le _⟩ (fun H locs q_t hM hS => ?_)
    refine x_if_eq_f (tgt := 36) B dX11_move_31 (by decide) (by decide) ?_
    refine x_iconst B dX11_move_34 ?_
    first | (have hc : moveC σ b h d = 1 := (by first | rfl | (unfold moveC; omega)); exact mo_iretx E hr rfl hlk hM hS dX11_move_35 (by first | (rw [if_neg (by rw [hc]; decide)]; done) | (rw [if_neg (by rw [hc]; decide)]; rfl)) (pE hc (by decide))) | (have hc : moveC σ b h d = 2 := (by first | rfl | (unfold moveC; omega)); exact mo_iretx E hr rfl hlk hM hS dX11_move_35 (by first | (rw [if_neg (by rw [hc]; decide)]; done) | (rw [if_neg (by rw [hc]; decide)]; rfl)) (pE hc (by decide))) | (have hc : moveC σ b h d = 3 := (by first | rfl | (unfold moveC; omega)); exact mo_iretx E hr rfl hlk hM hS dX11_move_35 (by first | (rw [if_neg (by rw [hc]; decide)]; done) | (rw [if_neg (by rw [hc]; decide)]; rfl)) (pE hc (by decide))) | (have hc : moveC σ b h d = 0 := (by first | rfl | (unfold moveC; omega)); exact mo_iretx E hr rfl hlk hM hS dX11_move_35 (by first | (rw [if_pos hc]; done) | (rw [if_pos hc]; rfl) | (rw [if_pos hc]; congr 1; omega)) (pO hc (by first | rfl | (simp only [up_rd]; rfl) | simp [up_rd]) (by first | exact (sEq.u (sEq.u (sEq.u sEq.z))) | exact sEq.rf)))
  · refine x_if_ne_f (tgt := 22) B dX11_move_11 (by decide) (by decide) ?_
    refine x_aload_n B hl dX11_move_14 rfl ?_
    refine x_iload_n B hl dX11_move_15 rfl ?_
    refine mo_call E hM hS hl (m_noHousek l D cy o ad _ (up_ne (by decide) rfl) (by omega)) (cwV 1 hts0 gX11_move_X11_noHouse rfl rfl rfl (by decide +kernel) ⟨Nat.le_of_ble_eq_true rfl, Nat.le_of_ble_eq_true rfl⟩) rfl rfl (Nat.le_of_ble_eq_true rfl) dX11_move_16 ⟨Nat.zero_le _, Nat.zero_le _⟩ (fun H locs q_16 hM hS => ?_)
    refine x_bool (fun b_16 => ?_) (fun b_16 => ?_)
    · refine x_if_eq_f (tgt := 26) B dX11_move_19 (by decide) (by decide) ?_
      refine x_iconst B dX11_move_22 ?_
      refine x_goto (tgt := 27) B dX11_move_23 (by decide) ?_
      refine x_iconst B dX11_move_27 ?_
      refine mo_call E hM hS hl (m_throwsIf_1 l D cy o ad _ _ (by decide)) (cwV 2 hts0 gX11_move_X11_throwsIf rfl rfl rfl (by decide +kernel) ⟨Nat.le_of_ble_eq_true rfl, Nat.le_of_ble_eq_true rfl⟩) rfl rfl (Nat.le_of_ble_eq_true rfl) dX11_move_28 ⟨Nat.zero_le _, Nat.zero_le _⟩ (fun H locs q_t hM hS => ?_)
      refine x_if_eq_f (tgt := 36) B dX11_move_31 (by decide) (by decide) ?_
      refine x_iconst B dX11_move_34 ?_
      first | (have hc : moveC σ b h d = 1 := (by first | rfl | (unfold moveC; omega)); exact mo_iretx E hr rfl hlk hM hS dX11_move_35 (by first | (rw [if_neg (by rw [hc]; decide)]; done) | (rw [if_neg (by rw [hc]; decide)]; rfl)) (pE hc (by decide))) | (have hc : moveC σ b h d = 2 := (by first | rfl | (unfold moveC; omega)); exact mo_iretx E hr rfl hlk hM hS dX11_move_35 (by first | (rw [if_neg (by rw [hc]; decide)]; done) | (rw [if_neg (by rw [hc]; decide)]; rfl)) (pE hc (by decide))) | (have hc : moveC σ b h d = 3 := (by first | rfl | (unfold moveC; omega)); exact mo_iretx E hr rfl hlk hM hS dX11_move_35 (by first | (rw [if_neg (by rw [hc]; decide)]; done) | (rw [if_neg (by rw [hc]; decide)]; rfl)) (pE hc (by decide))) | (have hc : moveC σ b h d = 0 := (by first | rfl | (unfold moveC; omega)); exact mo_iretx E hr rfl hlk hM hS dX11_move_35 (by first | (rw [if_pos hc]; done) | (rw [if_pos hc]; rfl) | (rw [if_pos hc]; congr 1; omega)) (pO hc (by first | rfl | (simp only [up_rd]; rfl) | simp [up_rd]) (by first | exact (sEq.u (sEq.u (sEq.u sEq.z))) | exact sEq.rf)))
    · refine x_if_eq_t (tgt := 26) B dX11_move_19 (by decide) (by decide) ?_
      refine x_iconst B dX11_move_26 ?_
      refine x_iconst B dX11_move_27 ?_
      refine mo_call E hM hS hl (m_throwsIf_0 l D cy o ad _ _ (by decide)) (cwV 2 hts0 gX11_move_X11_throwsIf rfl rfl rfl (by decide +kernel) ⟨Nat.le_of_ble_eq_true rfl, Nat.le_of_ble_eq_true rfl⟩) rfl rfl (Nat.le_of_ble_eq_true rfl) dX11_move_28 ⟨Nat.zero_le _, Nat.zero_le _⟩ (fun H locs q_t hM hS => ?_)
      refine x_if_eq_t (tgt := 36) B dX11_move_31 (by decide) (by decide) ?_
      refine x_aload_n B hl dX11_move_36 rfl ?_
      refine mo_geta E hM 18 0 rfl (hts (.fieldLink RX11 54 "BinRoundsModel" "moves" "[I") (by decide +kernel)) rfl dX11_move_37 ?_
      refine x_iload_n B hl dX11_move_40 rfl ?_
      refine mo_ld (k := 18) E hM rfl (by have h9 : mLn 18 = 120 := rfl; omega) (by decide) dX11_move_41 (up_ne (by decide) rfl) (fun r_41 => ?_)
      refine x_istore B hl dX11_move_42 (by decide) (fun ls hl => ?_)
      refine x_aload_n B hl dX11_move_44 rfl ?_
      refine x_iload_n B hl dX11_move_45 rfl ?_
      refine x_i2l B dX11_move_46 (by omega) ?_
      refine x_aload_n B hl dX11_move_47 rfl ?_
      refine mo_gets E hM 1 rfl (hts (.fieldLink RX11 152 "BinRoundsModel" "open" "I") (by decide +kernel)) rfl dX11_move_48 (up_ne (by decide) rfl) (fun r_48 => ?_)
      refine x_i2l B dX11_move_51 (by omega) ?_
      refine lv_ldc2 (v := lI 699) B.1 B.2 hown (hts (.constantLong RX11 203 (699)) (by decide +kernel)) dX11_move_52 ?_
      refine z_call ⟨B.1, B.2, hml, hown, hts0⟩ hl (m_in l (by omega) (by omega) (by omega)) (va_cwS 3 hts0 gX11_move_X11_in rfl rfl rfl (by decide +kernel) ⟨Nat.le_of_ble_eq_true rfl, Nat.le_of_ble_eq_true rfl⟩) rfl rfl (Nat.le_of_ble_eq_true rfl) dX11_move_55 ⟨Nat.zero_le _, Nat.zero_le _⟩ (fun q_55 => ?_)
      refine x_bool (fun b_55 => ?_) (fun b_55 => ?_)
      · refine x_if_eq_f (tgt := 79) B dX11_move_58 (by decide) (by decide) ?_
        refine x_iload_n B hl dX11_move_61 rfl ?_
        refine x_aload_n B hl dX11_move_62 rfl ?_
        refine mo_geta E hM 17 0 rfl (hts (.fieldLink RX11 51 "BinRoundsModel" "moveDay" "[I") (by decide +kernel)) rfl dX11_move_63 ?_
        refine x_bipush B dX11_move_66 (by decide) ?_
        refine x_iload_n B hl dX11_move_68 rfl ?_
        refine x_imul B dX11_move_69 ?_
        refine x_iload B hl dX11_move_70 rfl ?_
        refine x_iadd B dX11_move_72 ?_
        refine x_iconst B dX11_move_73 ?_
        refine x_isub B dX11_move_74 ?_
        refine mo_ld (k := 17) E hM rfl (by have h9 : mLn 17 = 960 := rfl; omega) (by decide) dX11_move_75 (up_ne (by decide) rfl) (fun r_75 => ?_)
        refine x_icmp_ge (tgt := 83) B dX11_move_76 (by decide) (by omega) (by omega) (fun c_76 => ?_) (fun c_76 => ?_)
        · refine x_iconst B dX11_move_83 ?_
          refine x_iconst B dX11_move_84 ?_
          refine mo_call E hM hS hl (m_throwsIf_0 l D cy o ad _ _ (by decide)) (cwV 2 hts0 gX11_move_X11_throwsIf rfl rfl rfl (by decide +kernel) ⟨Nat.le_of_ble_eq_true rfl, Nat.le_of_ble_eq_true rfl⟩) rfl rfl (Nat.le_of_ble_eq_true rfl) dX11_move_85 ⟨Nat.zero_le _, Nat.zero_le _⟩ (fun H locs q_t hM hS => ?_)
          refine x_if_ne_f (tgt := 111) B dX11_move_88 (by decide) (by decide) ?_
          refine x_aload_n B hl dX11_move_91 rfl ?_
          refine x_iload B hl dX11_move_92 rfl ?_
          refine x_bipush B dX11_move_94 (by decide) ?_
          refine x_icmp_ne (tgt := 103) B dX11_move_96 (by decide) (by omega) (by omega) (fun c_96 => ?_) (fun c_96 => ?_)
          · refine x_iconst B dX11_move_103 ?_
            refine x_iconst B dX11_move_104 ?_
            refine mo_call E hM hS hl (m_throwsIf_0 l D cy o ad _ _ (by decide)) (cwV 2 hts0 gX11_move_X11_throwsIf rfl rfl rfl (by decide +kernel) ⟨Nat.le_of_ble_eq_true rfl, Nat.le_of_ble_eq_true rfl⟩) rfl rfl (Nat.le_of_ble_eq_true rfl) dX11_move_105 ⟨Nat.zero_le _, Nat.zero_le _⟩ (fun H locs q_t hM hS => ?_)
            refine x_if_eq_t (tgt := 113) B dX11_move_108 (by decide) (by decide) ?_
            refine x_aload_n B hl dX11_move_113 rfl ?_
            refine mo_geta E hM 16 0 rfl (hts (.fieldLink RX11 48 "BinRoundsModel" "moveHouse" "[I") (by decide +kernel)) rfl dX11_move_114 ?_
            refine x_bipush B dX11_move_117 (by decide) ?_
            refine x_iload_n B hl dX11_move_119 rfl ?_
            refine x_imul B dX11_move_120 ?_
            refine x_iload B hl dX11_move_121 rfl ?_
            refine x_iadd B dX11_move_123 ?_
            refine x_iload_n B hl dX11_move_124 rfl ?_
            refine mo_st (k := 16) E hM hS rfl (by have h9 : mLn 16 = 960 := rfl; omega) (by decide) (by omega) dX11_move_125 (fun H locs hM hS => ?_)
            refine x_aload_n B hl dX11_move_126 rfl ?_
            refine mo_geta E hM 17 0 rfl (hts (.fieldLink RX11 51 "BinRoundsModel" "moveDay" "[I") (by decide +kernel)) rfl dX11_move_127 ?_
            refine x_bipush B dX11_move_130 (by decide) ?_
            refine x_iload_n B hl dX11_move_132 rfl ?_
            refine x_imul B dX11_move_133 ?_
            refine x_iload B hl dX11_move_134 rfl ?_
            refine x_iadd B dX11_move_136 ?_
            refine x_iload_n B hl dX11_move_137 rfl ?_
            refine mo_st (k := 17) E hM hS rfl (by have h9 : mLn 17 = 960 := rfl; omega) (by decide) (by omega) dX11_move_138 (fun H locs hM hS => ?_)
            refine x_aload_n B hl dX11_move_139 rfl ?_
            refine mo_geta E hM 18 0 rfl (hts (.fieldLink RX11 54 "BinRoundsModel" "moves" "[I") (by decide +kernel)) rfl dX11_move_140 ?_
            refine x_iload_n B hl dX11_move_143 rfl ?_
            refine lv_dup2_11 B.1 B.2 dX11_move_144 rfl rfl ?_
            refine mo_ld (k := 18) E hM rfl (by have h9 : mLn 18 = 120 := rfl; omega) (by decide) dX11_move_145 (up_ne (by decide) (up_ne (by decide) (up_ne (by decide) rfl))) (fun r_145 => ?_)
            refine x_iconst B dX11_move_146 ?_
            refine x_iadd B dX11_move_147 ?_
            refine mo_st (k := 18) E hM hS rfl (by have h9 : mLn 18 = 120 := rfl; omega) (by decide) (by omega) dX11_move_148 (fun H locs hM hS => ?_)
            refine x_aload_n B hl dX11_move_149 rfl ?_
            refine mo_geta E hM 18 0 rfl (hts (.fieldLink RX11 54 "BinRoundsModel" "moves" "[I") (by decide +kernel)) rfl dX11_move_150 ?_
            refine x_iload_n B hl dX11_move_153 rfl ?_
            refine mo_ld (k := 18) E hM rfl (by have h9 : mLn 18 = 120 := rfl; omega) (by decide) dX11_move_154 up_s (fun r_154 => ?_)
            first | (have hc : moveC σ b h d = 1 := (by first | rfl | (unfold moveC; omega)); exact mo_iretx E hr rfl hlk hM hS dX11_move_155 (by first | (rw [if_neg (by rw [hc]; decide)]; done) | (rw [if_neg (by rw [hc]; decide)]; rfl)) (pE hc (by decide))) | (have hc : moveC σ b h d = 2 := (by first | rfl | (unfold moveC; omega)); exact mo_iretx E hr rfl hlk hM hS dX11_move_155 (by first | (rw [if_neg (by rw [hc]; decide)]; done) | (rw [if_neg (by rw [hc]; decide)]; rfl)) (pE hc (by decide))) | (have hc : moveC σ b h d = 3 := (by first | rfl | (unfold moveC; omega)); exact mo_iretx E hr rfl hlk hM hS dX11_move_155 (by first | (rw [if_neg (by rw [hc]; decide)]; done) | (rw [if_neg (by rw [hc]; decide)]; rfl)) (pE hc (by decide))) | (have hc : moveC σ b h d = 0 := (by first | rfl | (unfold moveC; omega)); exact mo_iretx E hr rfl hlk hM hS dX11_move_155 (by first | (rw [if_pos hc]; done) | (rw [if_pos hc]; rfl) | (rw [if_pos hc]; congr 1; omega)) (pO hc (by first | rfl | (simp only [up_rd]; rfl) | simp [up_rd]) (by first | exact (sEq.u (sEq.u (sEq.u sEq.z))) | exact sEq.rf)))
          · refine x_iconst B dX11_move_99 ?_
            refine x_goto (tgt := 104) B dX11_move_100 (by decide) ?_
            refine x_iconst B dX11_move_104 ?_
            refine mo_call E hM hS hl (m_throwsIf_1 l D cy o ad _ _ (by decide)) (cwV 2 hts0 gX11_move_X11_throwsIf rfl rfl rfl (by decide +kernel) ⟨Nat.le_of_ble_eq_true rfl, Nat.le_of_ble_eq_true rfl⟩) rfl rfl (Nat.le_of_ble_eq_true rfl) dX11_move_105 ⟨Nat.zero_le _, Nat.zero_le _⟩ (fun H locs q_t hM hS => ?_)
            refine x_if_eq_f (tgt := 113) B dX11_move_108 (by decide) (by decide) ?_
            refine x_iconst B dX11_move_111 ?_
            first | (have hc : moveC σ b h d = 1 := (by first | rfl | (unfold moveC; omega)); exact mo_iretx E hr rfl hlk hM hS dX11_move_112 (by first | (rw [if_neg (by rw [hc]; decide)]; done) | (rw [if_neg (by rw [hc]; decide)]; rfl)) (pE hc (by decide))) | (have hc : moveC σ b h d = 2 := (by first | rfl | (unfold moveC; omega)); exact mo_iretx E hr rfl hlk hM hS dX11_move_112 (by first | (rw [if_neg (by rw [hc]; decide)]; done) | (rw [if_neg (by rw [hc]; decide)]; rfl)) (pE hc (by decide))) | (have hc : moveC σ b h d = 3 := (by first | rfl | (unfold moveC; omega)); exact mo_iretx E hr rfl hlk hM hS dX11_move_112 (by first | (rw [if_neg (by rw [hc]; decide)]; done) | (rw [if_neg (by rw [hc]; decide)]; rfl)) (pE hc (by decide))) | (have hc : moveC σ b h d = 0 := (by first | rfl | (unfold moveC; omega)); exact mo_iretx E hr rfl hlk hM hS dX11_move_112 (by first | (rw [if_pos hc]; done) | (rw [if_pos hc]; rfl) | (rw [if_pos hc]; congr 1; omega)) (pO hc (by first | rfl | (simp only [up_rd]; rfl) | simp [up_rd]) (by first | exact (sEq.u (sEq.u (sEq.u sEq.z))) | exact sEq.rf)))
        · refine x_iconst B dX11_move_79 ?_
          refine x_goto (tgt := 84) B dX11_move_80 (by decide) ?_
          refine x_iconst B dX11_move_84 ?_
          refine mo_call E hM hS hl (m_throwsIf_1 l D cy o ad _ _ (by decide)) (cwV 2 hts0 gX11_move_X11_throwsIf rfl rfl rfl (by decide +kernel) ⟨Nat.le_of_ble_eq_true rfl, Nat.le_of_ble_eq_true rfl⟩) rfl rfl (Nat.le_of_ble_eq_true rfl) dX11_move_85 ⟨Nat.zero_le _, Nat.zero_le _⟩ (fun H locs q_t hM hS => ?_)
          refine x_if_ne_t (tgt := 111) B dX11_move_88 (by decide) (by decide) ?_
          refine x_iconst B dX11_move_111 ?_
          first | (have hc : moveC σ b h d = 1 := (by first | rfl | (unfold moveC; omega)); exact mo_iretx E hr rfl hlk hM hS dX11_move_112 (by first | (rw [if_neg (by rw [hc]; decide)]; done) | (rw [if_neg (by rw [hc]; decide)]; rfl)) (pE hc (by decide))) | (have hc : moveC σ b h d = 2 := (by first | rfl | (unfold moveC; omega)); exact mo_iretx E hr rfl hlk hM hS dX11_move_112 (by first | (rw [if_neg (by rw [hc]; decide)]; done) | (rw [if_neg (by rw [hc]; decide)]; rfl)) (pE hc (by decide))) | (have hc : moveC σ b h d = 3 := (by first | rfl | (unfold moveC; omega)); exact mo_iretx E hr rfl hlk hM hS dX11_move_112 (by first | (rw [if_neg (by rw [hc]; decide)]; done) | (rw [if_neg (by rw [hc]; decide)]; rfl)) (pE hc (by decide))) | (have hc : moveC σ b h d = 0 := (by first | rfl | (unfold moveC; omega)); exact mo_iretx E hr rfl hlk hM hS dX11_move_112 (by first | (rw [if_pos hc]; done) | (rw [if_pos hc]; rfl) | (rw [if_pos hc]; congr 1; omega)) (pO hc (by first | rfl | (simp only [up_rd]; rfl) | simp [up_rd]) (by first | exact (sEq.u (sEq.u (sEq.u sEq.z))) | exact sEq.rf)))
      · refine x_if_eq_t (tgt := 79) B dX11_move_58 (by decide) (by decide) ?_
        refine x_iconst B dX11_move_79 ?_
        refine x_goto (tgt := 84) B dX11_move_80 (by decide) ?_
        refine x_iconst B dX11_move_84 ?_
        refine mo_call E hM hS hl (m_throwsIf_1 l D cy o ad _ _ (by decide)) (cwV 2 hts0 gX11_move_X11_throwsIf rfl rfl rfl (by decide +kernel) ⟨Nat.le_of_ble_eq_true rfl, Nat.le_of_ble_eq_true rfl⟩) rfl rfl (Nat.le_of_ble_eq_true rfl) dX11_move_85 ⟨Nat.zero_le _, Nat.zero_le _⟩ (fun H locs q_t hM hS => ?_)
        refine x_if_ne_t (tgt := 111) B dX11_move_88 (by decide) (by decide) ?_
        refine x_iconst B dX11_move_111 ?_
        first | (have hc : moveC σ b h d = 1 := (by first | rfl | (unfold moveC; omega)); exact mo_iretx E hr rfl hlk hM hS dX11_move_112 (by first | (rw [if_neg (by rw [hc]; decide)]; done) | (rw [if_neg (by rw [hc]; decide)]; rfl)) (pE hc (by decide))) | (have hc : moveC σ b h d = 2 := (by first | rfl | (unfold moveC; omega)); exact mo_iretx E hr rfl hlk hM hS dX11_move_112 (by first | (rw [if_neg (by rw [hc]; decide)]; done) | (rw [if_neg (by rw [hc]; decide)]; rfl)) (pE hc (by decide))) | (have hc : moveC σ b h d = 3 := (by first | rfl | (unfold moveC; omega)); exact mo_iretx E hr rfl hlk hM hS dX11_move_112 (by first | (rw [if_neg (by rw [hc]; decide)]; done) | (rw [if_neg (by rw [hc]; decide)]; rfl)) (pE hc (by decide))) | (have hc : moveC σ b h d = 0 := (by first | rfl | (unfold moveC; omega)); exact mo_iretx E hr rfl hlk hM hS dX11_move_112 (by first | (rw [if_pos hc]; done) | (rw [if_pos hc]; rfl) | (rw [if_pos hc]; congr 1; omega)) (pO hc (by first | rfl | (simp only [up_rd]; rfl) | simp [up_rd]) (by first | exact (sEq.u (sEq.u (sEq.u sEq.z))) | exact sEq.rf)))
set_option maxHeartbeats 4000000 in
set_option maxRecDepth 100000 in
theorem m_p_part (l : Launch) (D : va_G) (cy : Nat → ClassId) (o : Nat) (ad : Nat → Nat) (σ : MS) {b h w d : Int} {n : Int} (I : sInv n σ) (h_b : -2147483648 ≤ b ∧ b < 2147483648) (h_h : -2147483648 ≤ h ∧ h < 2147483648) (h_w : -2147483648 ≤ w ∧ w < 2147483648) (h_d : -2147483648 ≤ d ∧ d < 2147483648)  : MX l yX11_part wsX11_part ({ frames := 1, cells := 0, slots := 0, locals := 25 } : Room) D cy o ad [.int (iI b), .int (iI h), .int (iI w), .int (iI d)] σ (some (.int (iI (if partC σ b h w d = 0 then (σ 22 b + 1) else 0)))) (fun τ => pEnd (partC σ b h w d) (partS σ b h w d) σ τ) := by
  refine mx_of (cc := cX11_part) (nL := 7) (ret := (some .int)) (by decide) rfl rfl (fun w h => List.mem_cons_of_mem _ (List.mem_append_right _ h)) (Nat.le_of_ble_eq_true rfl) ⟨rfl, rfl⟩ ?_
  intro p e s m args below meth c ls E hr hlk hM hS hl
  have B := E.1
  have hml := E.2.1
  have hown := E.2.2.1
  have hts0 := E.2.2.2.1
  have hts := E.2.2.2.1
  have hw := hM.2.2.2
  have I0 := I
  obtain ⟨hn9, hOp, hnS, hnH, hnB, hnC, hnT, hPr, hTol, v3, v4, v6, v7, v12, v15, v16, v17, v18, v19, v20, v21, v22, v24, v25, v26, v28, v29, v32, v33, v35, v36, v37, v38, v39, v42, v43, v44, v40, vm⟩ := I
  have v22b := v22 b
  have v21b := v21 (20 * b + σ 22 b - 1)
  refine x_aload_n B hl dX11_part_0 rfl ?_
  refine x_iconst B dX11_part_1 ?_
  refine mo_put E hM hS 0 rfl (hts (.fieldLink RX11 129 "BinRoundsModel" "thrown" "I") (by decide +kernel)) rfl rfl (by decide +kernel) (by omega) dX11_part_2 (fun H locs hM hS => ?_)
  refine x_aload_n B hl dX11_part_5 rfl ?_
  refine x_aload_n B hl dX11_part_6 rfl ?_
  refine x_iload_n B hl dX11_part_7 rfl ?_
  refine mo_call E hM hS hl (m_noBink l D cy o ad _ (up_ne (by decide) rfl) (by omega)) (cwV 1 hts0 gX11_part_X11_noBin rfl rfl rfl (by decide +kernel) ⟨Nat.le_of_ble_eq_true rfl, Nat.le_of_ble_eq_true rfl⟩) rfl rfl (Nat.le_of_ble_eq_true rfl) dX11_part_8 ⟨Nat.zero_le _, Nat.zero_le _⟩ (fun H locs q_8 hM hS => ?_)
  refine x_bool (fun b_8 => ?_) (fun b_8 => ?_)
  · refine x_if_ne_t (tgt := 22) B dX11_part_11 (by decide) (by decide) ?_
    refine x_iconst B dX11_part_22 ?_
    refine x_goto (tgt := 27) B dX11_part_23 (by decide) ?_
    refine x_iconst B dX11_part_27 ?_
    refine mo_call E hM hS hl (m_throwsIf_1 l D cy o ad _ _ (by decide)) (cwV 2 hts0 gX11_part_X11_throwsIf rfl rfl rfl (by decide +kernel) ⟨Nat.le_of_ble_eq_true rfl, Nat.le_of_ble_eq_true rfl⟩) rfl rfl (Nat.le_of_ble_eq_true rfl) dX11_part_28 ⟨Nat.zero_le _, Nat.zero_le _⟩ (fun H locs q_t hM hS => ?_)
    refine x_if_eq_f (tgt := 36) B dX11_part_31 (by decide) (by decide) ?_
    refine x_iconst B dX11_part_34 ?_
    first | (have hc : partC σ b h w d = 1 := (by first | rfl | (unfold partC; omega)); exact mo_iretx E hr rfl hlk hM hS dX11_part_35 (by first | (rw [if_neg (by rw [hc]; decide)]; done) | (rw [if_neg (by rw [hc]; decide)]; rfl)) (pE hc (by decide))) | (have hc : partC σ b h w d = 2 := (by first | rfl | (unfold partC; omega)); exact mo_iretx E hr rfl hlk hM hS dX11_part_35 (by first | (rw [if_neg (by rw [hc]; decide)]; done) | (rw [if_neg (by rw [hc]; decide)]; rfl)) (pE hc (by decide))) | (have hc : partC σ b h w d = 3 := (by first | rfl | (unfold partC; omega)); exact mo_iretx E hr rfl hlk hM hS dX11_part_35 (by first | (rw [if_neg (by rw [hc]; decide)]; done) | (rw [if_neg (by rw [hc]; decide)]; rfl)) (pE hc (by decide))) | (have hc : partC σ b h w d = 0 := (by first | rfl | (unfold partC; omega)); exact mo_iretx E hr rfl hlk hM hS dX11_part_35 (by first | (rw [if_pos hc]; done) | (rw [if_pos hc]; rfl) | (rw [if_pos hc]; congr 1; omega)) (pO hc (by first | rfl | (simp only [up_rd]; rfl) | simp [up_rd]) (by first | exact (sEq.u (sEq.u (sEq.u (sEq.u sEq.z)))) | exact sEq.rf)))
  · refine x_if_ne_f (tgt := 22) B dX11_part_11 (by decide) (by decide) ?_
    refine x_aload_n B hl dX11_part_14 rfl ?_
    refine x_iload_n B hl dX11_part_15 rfl ?_
    refine mo_call E hM hS hl (m_noHousek l D cy o ad _ (up_ne (by decide) rfl) (by omega)) (cwV 1 hts0 gX11_part_X11_noHouse rfl rfl rfl (by decide +kernel) ⟨Nat.le_of_ble_eq_true rfl, Nat.le_of_ble_eq_true rfl⟩) rfl rfl (Nat.le_of_ble_eq_true rfl) dX11_part_16 ⟨Nat.zero_le _, Nat.zero_le _⟩ (fun H locs q_16 hM hS => ?_)
    refine x_bool (fun b_16 => ?_) (fun b_16 => ?_)
    · refine x_if_eq_f (tgt := 26) B dX11_part_19 (by decide) (by decide) ?_
      refine x_iconst B dX11_part_22 ?_
      refine x_goto (tgt := 27) B dX11_part_23 (by decide) ?_
      refine x_iconst B dX11_part_27 ?_
      refine mo_call E hM hS hl (m_throwsIf_1 l D cy o ad _ _ (by decide)) (cwV 2 hts0 gX11_part_X11_throwsIf rfl rfl rfl (by decide +kernel) ⟨Nat.le_of_ble_eq_true rfl, Nat.le_of_ble_eq_true rfl⟩) rfl rfl (Nat.le_of_ble_eq_true rfl) dX11_part_28 ⟨Nat.zero_le _, Nat.zero_le _⟩ (fun H locs q_t hM hS => ?_)
      refine x_if_eq_f (tgt := 36) B dX11_part_31 (by decide) (by decide) ?_
      refine x_iconst B dX11_part_34 ?_
      first | (have hc : partC σ b h w d = 1 := (by first | rfl | (unfold partC; omega)); exact mo_iretx E hr rfl hlk hM hS dX11_part_35 (by first | (rw [if_neg (by rw [hc]; decide)]; done) | (rw [if_neg (by rw [hc]; decide)]; rfl)) (pE hc (by decide))) | (have hc : partC σ b h w d = 2 := (by first | rfl | (unfold partC; omega)); exact mo_iretx E hr rfl hlk hM hS dX11_part_35 (by first | (rw [if_neg (by rw [hc]; decide)]; done) | (rw [if_neg (by rw [hc]; decide)]; rfl)) (pE hc (by decide))) | (have hc : partC σ b h w d = 3 := (by first | rfl | (unfold partC; omega)); exact mo_iretx E hr rfl hlk hM hS dX11_part_35 (by first | (rw [if_neg (by rw [hc]; decide)]; done) | (rw [if_neg (by rw [hc]; decide)]; rfl)) (pE hc (by decide))) | (have hc : partC σ b h w d = 0 := (by first | rfl | (unfold partC; omega)); exact mo_iretx E hr rfl hlk hM hS dX11_part_35 (by first | (rw [if_pos hc]; done) | (rw [if_pos hc]; rfl) | (rw [if_pos hc]; congr 1; omega)) (pO hc (by first | rfl | (simp only [up_rd]; rfl) | simp [up_rd]) (by first | exact (sEq.u (sEq.u (sEq.u (sEq.u sEq.z)))) | exact sEq.rf)))
    · refine x_if_eq_t (tgt := 26) B dX11_part_19 (by decide) (by decide) ?_
      refine x_iconst B dX11_part_26 ?_
      refine x_iconst B dX11_part_27 ?_
      refine mo_call E hM hS hl (m_throwsIf_0 l D cy o ad _ _ (by decide)) (cwV 2 hts0 gX11_part_X11_throwsIf rfl rfl rfl (by decide +kernel) ⟨Nat.le_of_ble_eq_true rfl, Nat.le_of_ble_eq_true rfl⟩) rfl rfl (Nat.le_of_ble_eq_true rfl) dX11_part_28 ⟨Nat.zero_le _, Nat.zero_le _⟩ (fun H locs q_t hM hS => ?_)
      refine x_if_eq_t (tgt := 36) B dX11_part_31 (by decide) (by decide) ?_
      refine x_aload_n B hl dX11_part_36 rfl ?_
      refine mo_geta E hM 22 0 rfl (hts (.fieldLink RX11 66 "BinRoundsModel" "parts" "[I") (by decide +kernel)) rfl dX11_part_37 ?_
      refine x_iload_n B hl dX11_part_40 rfl ?_
      refine mo_ld (k := 22) E hM rfl (by have h9 : mLn 22 = 120 := rfl; omega) (by decide) dX11_part_41 (up_ne (by decide) rfl) (fun r_41 => ?_)
      refine x_istore B hl dX11_part_42 (by decide) (fun ls hl => ?_)
      refine x_aload_n B hl dX11_part_44 rfl ?_
      refine mo_geta E hM 12 0 rfl (hts (.fieldLink RX11 36 "BinRoundsModel" "kind" "[I") (by decide +kernel)) rfl dX11_part_45 ?_
      refine x_iload_n B hl dX11_part_48 rfl ?_
      refine mo_ld (k := 12) E hM rfl (by have h9 : mLn 12 = 120 := rfl; omega) (by decide) dX11_part_49 (up_ne (by decide) rfl) (fun r_49 => ?_)
      refine x_iconst B dX11_part_50 ?_
      refine x_icmp_ne (tgt := 111) B dX11_part_51 (by decide) (by omega) (by omega) (fun c_51 => ?_) (fun c_51 => ?_)
      · refine x_iconst B dX11_part_111 ?_
        refine x_istore B hl dX11_part_112 (by decide) (fun ls hl => ?_)
        refine x_aload_n B hl dX11_part_114 rfl ?_
        refine x_iload B hl dX11_part_115 rfl ?_
        refine x_if_ne_f (tgt := 124) B dX11_part_117 (by decide) (by decide) ?_
        refine x_iconst B dX11_part_120 ?_
        refine x_goto (tgt := 125) B dX11_part_121 (by decide) ?_
        refine x_iconst B dX11_part_125 ?_
        refine mo_call E hM hS hl (m_throwsIf_1 l D cy o ad _ _ (by decide)) (cwV 2 hts0 gX11_part_X11_throwsIf rfl rfl rfl (by decide +kernel) ⟨Nat.le_of_ble_eq_true rfl, Nat.le_of_ble_eq_true rfl⟩) rfl rfl (Nat.le_of_ble_eq_true rfl) dX11_part_126 ⟨Nat.zero_le _, Nat.zero_le _⟩ (fun H locs q_t hM hS => ?_)
        refine x_if_ne_t (tgt := 152) B dX11_part_129 (by decide) (by decide) ?_
        refine x_iconst B dX11_part_152 ?_
        first | (have hc : partC σ b h w d = 1 := (by first | rfl | (unfold partC; omega)); exact mo_iretx E hr rfl hlk hM hS dX11_part_153 (by first | (rw [if_neg (by rw [hc]; decide)]; done) | (rw [if_neg (by rw [hc]; decide)]; rfl)) (pE hc (by decide))) | (have hc : partC σ b h w d = 2 := (by first | rfl | (unfold partC; omega)); exact mo_iretx E hr rfl hlk hM hS dX11_part_153 (by first | (rw [if_neg (by rw [hc]; decide)]; done) | (rw [if_neg (by rw [hc]; decide)]; rfl)) (pE hc (by decide))) | (have hc : partC σ b h w d = 3 := (by first | rfl | (unfold partC; omega)); exact mo_iretx E hr rfl hlk hM hS dX11_part_153 (by first | (rw [if_neg (by rw [hc]; decide)]; done) | (rw [if_neg (by rw [hc]; decide)]; rfl)) (pE hc (by decide))) | (have hc : partC σ b h w d = 0 := (by first | rfl | (unfold partC; omega)); exact mo_iretx E hr rfl hlk hM hS dX11_part_153 (by first | (rw [if_pos hc]; done) | (rw [if_pos hc]; rfl) | (rw [if_pos hc]; congr 1; omega)) (pO hc (by first | rfl | (simp only [up_rd]; rfl) | simp [up_rd]) (by first | exact (sEq.u (sEq.u (sEq.u (sEq.u sEq.z)))) | exact sEq.rf)))
      · refine x_iload_n B hl dX11_part_54 rfl ?_
        refine x_i2l B dX11_part_55 (by omega) ?_
        refine x_lconst B dX11_part_56 ?_
        refine lv_ldc2 (v := lI 1000) B.1 B.2 hown (hts (.constantLong RX11 159 (1000)) (by decide +kernel)) dX11_part_57 ?_
        refine z_call ⟨B.1, B.2, hml, hown, hts0⟩ hl (m_in l (by omega) (by omega) (by omega)) (va_cwS 3 hts0 gX11_part_X11_in rfl rfl rfl (by decide +kernel) ⟨Nat.le_of_ble_eq_true rfl, Nat.le_of_ble_eq_true rfl⟩) rfl rfl (Nat.le_of_ble_eq_true rfl) dX11_part_60 ⟨Nat.zero_le _, Nat.zero_le _⟩ (fun q_60 => ?_)
        refine x_bool (fun b_60 => ?_) (fun b_60 => ?_)
        · refine x_if_eq_f (tgt := 111) B dX11_part_63 (by decide) (by decide) ?_
          refine x_iload B hl dX11_part_66 rfl ?_
          refine x_i2l B dX11_part_68 (by omega) ?_
          refine x_aload_n B hl dX11_part_69 rfl ?_
          refine mo_gets E hM 1 rfl (hts (.fieldLink RX11 152 "BinRoundsModel" "open" "I") (by decide +kernel)) rfl dX11_part_70 (up_ne (by decide) rfl) (fun r_70 => ?_)
          refine x_i2l B dX11_part_73 (by omega) ?_
          refine lv_ldc2 (v := lI 699) B.1 B.2 hown (hts (.constantLong RX11 203 (699)) (by decide +kernel)) dX11_part_74 ?_
          refine z_call ⟨B.1, B.2, hml, hown, hts0⟩ hl (m_in l (by omega) (by omega) (by omega)) (va_cwS 3 hts0 gX11_part_X11_in rfl rfl rfl (by decide +kernel) ⟨Nat.le_of_ble_eq_true rfl, Nat.le_of_ble_eq_true rfl⟩) rfl rfl (Nat.le_of_ble_eq_true rfl) dX11_part_77 ⟨Nat.zero_le _, Nat.zero_le _⟩ (fun q_77 => ?_)
          refine x_bool (fun b_77 => ?_) (fun b_77 => ?_)
          · refine x_if_eq_f (tgt := 111) B dX11_part_80 (by decide) (by decide) ?_
            refine x_iload B hl dX11_part_83 rfl ?_
            refine x_if_eq (tgt := 107) B dX11_part_85 (by decide) (by omega) (fun c_85 => ?_) (fun c_85 => ?_)
            · refine x_iconst B dX11_part_107 ?_
              refine x_goto (tgt := 112) B dX11_part_108 (by decide) ?_
              refine x_istore B hl dX11_part_112 (by decide) (fun ls hl => ?_)
              refine x_aload_n B hl dX11_part_114 rfl ?_
              refine x_iload B hl dX11_part_115 rfl ?_
              refine x_if_ne_t (tgt := 124) B dX11_part_117 (by decide) (by decide) ?_
              refine x_iconst B dX11_part_124 ?_
              refine x_iconst B dX11_part_125 ?_
              refine mo_call E hM hS hl (m_throwsIf_0 l D cy o ad _ _ (by decide)) (cwV 2 hts0 gX11_part_X11_throwsIf rfl rfl rfl (by decide +kernel) ⟨Nat.le_of_ble_eq_true rfl, Nat.le_of_ble_eq_true rfl⟩) rfl rfl (Nat.le_of_ble_eq_true rfl) dX11_part_126 ⟨Nat.zero_le _, Nat.zero_le _⟩ (fun H locs q_t hM hS => ?_)
              refine x_if_ne_f (tgt := 152) B dX11_part_129 (by decide) (by decide) ?_
              refine x_aload_n B hl dX11_part_132 rfl ?_
              refine x_iload B hl dX11_part_133 rfl ?_
              refine x_bipush B dX11_part_135 (by decide) ?_
              refine x_icmp_ne (tgt := 144) B dX11_part_137 (by decide) (by omega) (by omega) (fun c_137 => ?_) (fun c_137 => ?_)
              · refine x_iconst B dX11_part_144 ?_
                refine x_iconst B dX11_part_145 ?_
                refine mo_call E hM hS hl (m_throwsIf_0 l D cy o ad _ _ (by decide)) (cwV 2 hts0 gX11_part_X11_throwsIf rfl rfl rfl (by decide +kernel) ⟨Nat.le_of_ble_eq_true rfl, Nat.le_of_ble_eq_true rfl⟩) rfl rfl (Nat.le_of_ble_eq_true rfl) dX11_part_146 ⟨Nat.zero_le _, Nat.zero_le _⟩ (fun H locs q_t hM hS => ?_)
                refine x_if_eq_t (tgt := 154) B dX11_part_149 (by decide) (by decide) ?_
                refine x_aload_n B hl dX11_part_154 rfl ?_
                refine mo_geta E hM 19 0 rfl (hts (.fieldLink RX11 57 "BinRoundsModel" "partHouse" "[I") (by decide +kernel)) rfl dX11_part_155 ?_
                refine x_bipush B dX11_part_158 (by decide) ?_
                refine x_iload_n B hl dX11_part_160 rfl ?_
                refine x_imul B dX11_part_161 ?_
                refine x_iload B hl dX11_part_162 rfl ?_
                refine x_iadd B dX11_part_164 ?_
                refine x_iload_n B hl dX11_part_165 rfl ?_
                refine mo_st (k := 19) E hM hS rfl (by have h9 : mLn 19 = 2400 := rfl; omega) (by decide) (by omega) dX11_part_166 (fun H locs hM hS => ?_)
                refine x_aload_n B hl dX11_part_167 rfl ?_
                refine mo_geta E hM 20 0 rfl (hts (.fieldLink RX11 60 "BinRoundsModel" "partWeight" "[I") (by decide +kernel)) rfl dX11_part_168 ?_
                refine x_bipush B dX11_part_171 (by decide) ?_
                refine x_iload_n B hl dX11_part_173 rfl ?_
                refine x_imul B dX11_part_174 ?_
                refine x_iload B hl dX11_part_175 rfl ?_
                refine x_iadd B dX11_part_177 ?_
                refine x_iload_n B hl dX11_part_178 rfl ?_
                refine mo_st (k := 20) E hM hS rfl (by have h9 : mLn 20 = 2400 := rfl; omega) (by decide) (by omega) dX11_part_179 (fun H locs hM hS => ?_)
                refine x_aload_n B hl dX11_part_180 rfl ?_
                refine mo_geta E hM 21 0 rfl (hts (.fieldLink RX11 63 "BinRoundsModel" "partDay" "[I") (by decide +kernel)) rfl dX11_part_181 ?_
                refine x_bipush B dX11_part_184 (by decide) ?_
                refine x_iload_n B hl dX11_part_186 rfl ?_
                refine x_imul B dX11_part_187 ?_
                refine x_iload B hl dX11_part_188 rfl ?_
                refine x_iadd B dX11_part_190 ?_
                refine x_iload B hl dX11_part_191 rfl ?_
                refine mo_st (k := 21) E hM hS rfl (by have h9 : mLn 21 = 2400 := rfl; omega) (by decide) (by omega) dX11_part_193 (fun H locs hM hS => ?_)
                refine x_aload_n B hl dX11_part_194 rfl ?_
                refine mo_geta E hM 22 0 rfl (hts (.fieldLink RX11 66 "BinRoundsModel" "parts" "[I") (by decide +kernel)) rfl dX11_part_195 ?_
                refine x_iload_n B hl dX11_part_198 rfl ?_
                refine lv_dup2_11 B.1 B.2 dX11_part_199 rfl rfl ?_
                refine mo_ld (k := 22) E hM rfl (by have h9 : mLn 22 = 120 := rfl; omega) (by decide) dX11_part_200 (up_ne (by decide) (up_ne (by decide) (up_ne (by decide) (up_ne (by decide) rfl)))) (fun r_200 => ?_)
                refine x_iconst B dX11_part_201 ?_
                refine x_iadd B dX11_part_202 ?_
                refine mo_st (k := 22) E hM hS rfl (by have h9 : mLn 22 = 120 := rfl; omega) (by decide) (by omega) dX11_part_203 (fun H locs hM hS => ?_)
                refine x_aload_n B hl dX11_part_204 rfl ?_
                refine mo_geta E hM 22 0 rfl (hts (.fieldLink RX11 66 "BinRoundsModel" "parts" "[I") (by decide +kernel)) rfl dX11_part_205 ?_
                refine x_iload_n B hl dX11_part_208 rfl ?_
                refine mo_ld (k := 22) E hM rfl (by have h9 : mLn 22 = 120 := rfl; omega) (by decide) dX11_part_209 up_s (fun r_209 => ?_)
                first | (have hc : partC σ b h w d = 1 := (by first | rfl | (unfold partC; omega)); exact mo_iretx E hr rfl hlk hM hS dX11_part_210 (by first | (rw [if_neg (by rw [hc]; decide)]; done) | (rw [if_neg (by rw [hc]; decide)]; rfl)) (pE hc (by decide))) | (have hc : partC σ b h w d = 2 := (by first | rfl | (unfold partC; omega)); exact mo_iretx E hr rfl hlk hM hS dX11_part_210 (by first | (rw [if_neg (by rw [hc]; decide)]; done) | (rw [if_neg (by rw [hc]; decide)]; rfl)) (pE hc (by decide))) | (have hc : partC σ b h w d = 3 := (by first | rfl | (unfold partC; omega)); exact mo_iretx E hr rfl hlk hM hS dX11_part_210 (by first | (rw [if_neg (by rw [hc]; decide)]; done) | (rw [if_neg (by rw [hc]; decide)]; rfl)) (pE hc (by decide))) | (have hc : partC σ b h w d = 0 := (by first | rfl | (unfold partC; omega)); exact mo_iretx E hr rfl hlk hM hS dX11_part_210 (by first | (rw [if_pos hc]; done) | (rw [if_pos hc]; rfl) | (rw [if_pos hc]; congr 1; omega)) (pO hc (by first | rfl | (simp only [up_rd]; rfl) | simp [up_rd]) (by first | exact (sEq.u (sEq.u (sEq.u (sEq.u sEq.z)))) | exact sEq.rf)))
              · refine x_iconst B dX11_part_140 ?_
                refine x_goto (tgt := 145) B dX11_part_141 (by decide) ?_
                refine x_iconst B dX11_part_145 ?_
                refine mo_call E hM hS hl (m_throwsIf_1 l D cy o ad _ _ (by decide)) (cwV 2 hts0 gX11_part_X11_throwsIf rfl rfl rfl (by decide +kernel) ⟨Nat.le_of_ble_eq_true rfl, Nat.le_of_ble_eq_true rfl⟩) rfl rfl (Nat.le_of_ble_eq_true rfl) dX11_part_146 ⟨Nat.zero_le _, Nat.zero_le _⟩ (fun H locs q_t hM hS => ?_)
                refine x_if_eq_f (tgt := 154) B dX11_part_149 (by decide) (by decide) ?_
                refine x_iconst B dX11_part_152 ?_
                first | (have hc : partC σ b h w d = 1 := (by first | rfl | (unfold partC; omega)); exact mo_iretx E hr rfl hlk hM hS dX11_part_153 (by first | (rw [if_neg (by rw [hc]; decide)]; done) | (rw [if_neg (by rw [hc]; decide)]; rfl)) (pE hc (by decide))) | (have hc : partC σ b h w d = 2 := (by first | rfl | (unfold partC; omega)); exact mo_iretx E hr rfl hlk hM hS dX11_part_153 (by first | (rw [if_neg (by rw [hc]; decide)]; done) | (rw [if_neg (by rw [hc]; decide)]; rfl)) (pE hc (by decide))) | (have hc : partC σ b h w d = 3 := (by first | rfl | (unfold partC; omega)); exact mo_iretx E hr rfl hlk hM hS dX11_part_153 (by first | (rw [if_neg (by rw [hc]; decide)]; done) | (rw [if_neg (by rw [hc]; decide)]; rfl)) (pE hc (by decide))) | (have hc : partC σ b h w d = 0 := (by first | rfl | (unfold partC; omega)); exact mo_iretx E hr rfl hlk hM hS dX11_part_153 (by first | (rw [if_pos hc]; done) | (rw [if_pos hc]; rfl) | (rw [if_pos hc]; congr 1; omega)) (pO hc (by first | rfl | (simp only [up_rd]; rfl) | simp [up_rd]) (by first | exact (sEq.u (sEq.u (sEq.u (sEq.u sEq.z)))) | exact sEq.rf)))
            · refine x_iload B hl dX11_part_88 rfl ?_
              refine x_aload_n B hl dX11_part_90 rfl ?_
              refine mo_geta E hM 21 0 rfl (hts (.fieldLink RX11 63 "BinRoundsModel" "partDay" "[I") (by decide +kernel)) rfl dX11_part_91 ?_
              refine x_bipush B dX11_part_94 (by decide) ?_
              refine x_iload_n B hl dX11_part_96 rfl ?_
              refine x_imul B dX11_part_97 ?_
              refine x_iload B hl dX11_part_98 rfl ?_
              refine x_iadd B dX11_part_100 ?_
              refine x_iconst B dX11_part_101 ?_
              refine x_isub B dX11_part_102 ?_
              refine mo_ld (k := 21) E hM rfl (by have h9 : mLn 21 = 2400 := rfl; omega) (by decide) dX11_part_103 (up_ne (by decide) rfl) (fun r_103 => ?_)
              refine x_icmp_lt (tgt := 111) B dX11_part_104 (by decide) (by omega) (by omega) (fun c_104 => ?_) (fun c_104 => ?_)
              · refine x_iconst B dX11_part_111 ?_
                refine x_istore B hl dX11_part_112 (by decide) (fun ls hl => ?_)
                refine x_aload_n B hl dX11_part_114 rfl ?_
                refine x_iload B hl dX11_part_115 rfl ?_
                refine x_if_ne_f (tgt := 124) B dX11_part_117 (by decide) (by decide) ?_
                refine x_iconst B dX11_part_120 ?_
                refine x_goto (tgt := 125) B dX11_part_121 (by decide) ?_
                refine x_iconst B dX11_part_125 ?_
                refine mo_call E hM hS hl (m_throwsIf_1 l D cy o ad _ _ (by decide)) (cwV 2 hts0 gX11_part_X11_throwsIf rfl rfl rfl (by decide +kernel) ⟨Nat.le_of_ble_eq_true rfl, Nat.le_of_ble_eq_true rfl⟩) rfl rfl (Nat.le_of_ble_eq_true rfl) dX11_part_126 ⟨Nat.zero_le _, Nat.zero_le _⟩ (fun H locs q_t hM hS => ?_)
                refine x_if_ne_t (tgt := 152) B dX11_part_129 (by decide) (by decide) ?_
                refine x_iconst B dX11_part_152 ?_
                first | (have hc : partC σ b h w d = 1 := (by first | rfl | (unfold partC; omega)); exact mo_iretx E hr rfl hlk hM hS dX11_part_153 (by first | (rw [if_neg (by rw [hc]; decide)]; done) | (rw [if_neg (by rw [hc]; decide)]; rfl)) (pE hc (by decide))) | (have hc : partC σ b h w d = 2 := (by first | rfl | (unfold partC; omega)); exact mo_iretx E hr rfl hlk hM hS dX11_part_153 (by first | (rw [if_neg (by rw [hc]; decide)]; done) | (rw [if_neg (by rw [hc]; decide)]; rfl)) (pE hc (by decide))) | (have hc : partC σ b h w d = 3 := (by first | rfl | (unfold partC; omega)); exact mo_iretx E hr rfl hlk hM hS dX11_part_153 (by first | (rw [if_neg (by rw [hc]; decide)]; done) | (rw [if_neg (by rw [hc]; decide)]; rfl)) (pE hc (by decide))) | (have hc : partC σ b h w d = 0 := (by first | rfl | (unfold partC; omega)); exact mo_iretx E hr rfl hlk hM hS dX11_part_153 (by first | (rw [if_pos hc]; done) | (rw [if_pos hc]; rfl) | (rw [if_pos hc]; congr 1; omega)) (pO hc (by first | rfl | (simp only [up_rd]; rfl) | simp [up_rd]) (by first | exact (sEq.u (sEq.u (sEq.u (sEq.u sEq.z)))) | exact sEq.rf)))
              · refine x_iconst B dX11_part_107 ?_
                refine x_goto (tgt := 112) B dX11_part_108 (by decide) ?_
                refine x_istore B hl dX11_part_112 (by decide) (fun ls hl => ?_)
                refine x_aload_n B hl dX11_part_114 rfl ?_
                refine x_iload B hl dX11_part_115 rfl ?_
                refine x_if_ne_t (tgt := 124) B dX11_part_117 (by decide) (by decide) ?_
                refine x_iconst B dX11_part_124 ?_
                refine x_iconst B dX11_part_125 ?_
                refine mo_call E hM hS hl (m_throwsIf_0 l D cy o ad _ _ (by decide)) (cwV 2 hts0 gX11_part_X11_throwsIf rfl rfl rfl (by decide +kernel) ⟨Nat.le_of_ble_eq_true rfl, Nat.le_of_ble_eq_true rfl⟩) rfl rfl (Nat.le_of_ble_eq_true rfl) dX11_part_126 ⟨Nat.zero_le _, Nat.zero_le _⟩ (fun H locs q_t hM hS => ?_)
                refine x_if_ne_f (tgt := 152) B dX11_part_129 (by decide) (by decide) ?_
                refine x_aload_n B hl dX11_part_132 rfl ?_
                refine x_iload B hl dX11_part_133 rfl ?_
                refine x_bipush B dX11_part_135 (by decide) ?_
                refine x_icmp_ne (tgt := 144) B dX11_part_137 (by decide) (by omega) (by omega) (fun c_137 => ?_) (fun c_137 => ?_)
                · refine x_iconst B dX11_part_144 ?_
                  refine x_iconst B dX11_part_145 ?_
                  refine mo_call E hM hS hl (m_throwsIf_0 l D cy o ad _ _ (by decide)) (cwV 2 hts0 gX11_part_X11_throwsIf rfl rfl rfl (by decide +kernel) ⟨Nat.le_of_ble_eq_true rfl, Nat.le_of_ble_eq_true rfl⟩) rfl rfl (Nat.le_of_ble_eq_true rfl) dX11_part_146 ⟨Nat.zero_le _, Nat.zero_le _⟩ (fun H locs q_t hM hS => ?_)
                  refine x_if_eq_t (tgt := 154) B dX11_part_149 (by decide) (by decide) ?_
                  refine x_aload_n B hl dX11_part_154 rfl ?_
                  refine mo_geta E hM 19 0 rfl (hts (.fieldLink RX11 57 "BinRoundsModel" "partHouse" "[I") (by decide +kernel)) rfl dX11_part_155 ?_
                  refine x_bipush B dX11_part_158 (by decide) ?_
                  refine x_iload_n B hl dX11_part_160 rfl ?_
                  refine x_imul B dX11_part_161 ?_
                  refine x_iload B hl dX11_part_162 rfl ?_
                  refine x_iadd B dX11_part_164 ?_
                  refine x_iload_n B hl dX11_part_165 rfl ?_
                  refine mo_st (k := 19) E hM hS rfl (by have h9 : mLn 19 = 2400 := rfl; omega) (by decide) (by omega) dX11_part_166 (fun H locs hM hS => ?_)
                  refine x_aload_n B hl dX11_part_167 rfl ?_
                  refine mo_geta E hM 20 0 rfl (hts (.fieldLink RX11 60 "BinRoundsModel" "partWeight" "[I") (by decide +kernel)) rfl dX11_part_168 ?_
                  refine x_bipush B dX11_part_171 (by decide) ?_
                  refine x_iload_n B hl dX11_part_173 rfl ?_
                  refine x_imul B dX11_part_174 ?_
                  refine x_iload B hl dX11_part_175 rfl ?_
                  refine x_iadd B dX11_part_177 ?_
                  refine x_iload_n B hl dX11_part_178 rfl ?_
                  refine mo_st (k := 20) E hM hS rfl (by have h9 : mLn 20 = 2400 := rfl; omega) (by decide) (by omega) dX11_part_179 (fun H locs hM hS => ?_)
                  refine x_aload_n B hl dX11_part_180 rfl ?_
                  refine mo_geta E hM 21 0 rfl (hts (.fieldLink RX11 63 "BinRoundsModel" "partDay" "[I") (by decide +kernel)) rfl dX11_part_181 ?_
                  refine x_bipush B dX11_part_184 (by decide) ?_
                  refine x_iload_n B hl dX11_part_186 rfl ?_
                  refine x_imul B dX11_part_187 ?_
                  refine x_iload B hl dX11_part_188 rfl ?_
                  refine x_iadd B dX11_part_190 ?_
                  refine x_iload B hl dX11_part_191 rfl ?_
                  refine mo_st (k := 21) E hM hS rfl (by have h9 : mLn 21 = 2400 := rfl; omega) (by decide) (by omega) dX11_part_193 (fun H locs hM hS => ?_)
                  refine x_aload_n B hl dX11_part_194 rfl ?_
                  refine mo_geta E hM 22 0 rfl (hts (.fieldLink RX11 66 "BinRoundsModel" "parts" "[I") (by decide +kernel)) rfl dX11_part_195 ?_
                  refine x_iload_n B hl dX11_part_198 rfl ?_
                  refine lv_dup2_11 B.1 B.2 dX11_part_199 rfl rfl ?_
                  refine mo_ld (k := 22) E hM rfl (by have h9 : mLn 22 = 120 := rfl; omega) (by decide) dX11_part_200 (up_ne (by decide) (up_ne (by decide) (up_ne (by decide) (up_ne (by decide) rfl)))) (fun r_200 => ?_)
                  refine x_iconst B dX11_part_201 ?_
                  refine x_iadd B dX11_part_202 ?_
                  refine mo_st (k := 22) E hM hS rfl (by have h9 : mLn 22 = 120 := rfl; omega) (by decide) (by omega) dX11_part_203 (fun H locs hM hS => ?_)
                  refine x_aload_n B hl dX11_part_204 rfl ?_
                  refine mo_geta E hM 22 0 rfl (hts (.fieldLink RX11 66 "BinRoundsModel" "parts" "[I") (by decide +kernel)) rfl dX11_part_205 ?_
                  refine x_iload_n B hl dX11_part_208 rfl ?_
                  refine mo_ld (k := 22) E hM rfl (by have h9 : mLn 22 = 120 := rfl; omega) (by decide) dX11_part_209 up_s (fun r_209 => ?_)
                  first | (have hc : partC σ b h w d = 1 := (by first | rfl | (unfold partC; omega)); exact mo_iretx E hr rfl hlk hM hS dX11_part_210 (by first | (rw [if_neg (by rw [hc]; decide)]; done) | (rw [if_neg (by rw [hc]; decide)]; rfl)) (pE hc (by decide))) | (have hc : partC σ b h w d = 2 := (by first | rfl | (unfold partC; omega)); exact mo_iretx E hr rfl hlk hM hS dX11_part_210 (by first | (rw [if_neg (by rw [hc]; decide)]; done) | (rw [if_neg (by rw [hc]; decide)]; rfl)) (pE hc (by decide))) | (have hc : partC σ b h w d = 3 := (by first | rfl | (unfold partC; omega)); exact mo_iretx E hr rfl hlk hM hS dX11_part_210 (by first | (rw [if_neg (by rw [hc]; decide)]; done) | (rw [if_neg (by rw [hc]; decide)]; rfl)) (pE hc (by decide))) | (have hc : partC σ b h w d = 0 := (by first | rfl | (unfold partC; omega)); exact mo_iretx E hr rfl hlk hM hS dX11_part_210 (by first | (rw [if_pos hc]; done) | (rw [if_pos hc]; rfl) | (rw [if_pos hc]; congr 1; omega)) (pO hc (by first | rfl | (simp only [up_rd]; rfl) | simp [up_rd]) (by first | exact (sEq.u (sEq.u (sEq.u (sEq.u sEq.z)))) | exact sEq.rf)))
                · refine x_iconst B dX11_part_140 ?_
                  refine x_goto (tgt := 145) B dX11_part_141 (by decide) ?_
                  refine x_iconst B dX11_part_145 ?_
                  refine mo_call E hM hS hl (m_throwsIf_1 l D cy o ad _ _ (by decide)) (cwV 2 hts0 gX11_part_X11_throwsIf rfl rfl rfl (by decide +kernel) ⟨Nat.le_of_ble_eq_true rfl, Nat.le_of_ble_eq_true rfl⟩) rfl rfl (Nat.le_of_ble_eq_true rfl) dX11_part_146 ⟨Nat.zero_le _, Nat.zero_le _⟩ (fun H locs q_t hM hS => ?_)
                  refine x_if_eq_f (tgt := 154) B dX11_part_149 (by decide) (by decide) ?_
                  refine x_iconst B dX11_part_152 ?_
                  first | (have hc : partC σ b h w d = 1 := (by first | rfl | (unfold partC; omega)); exact mo_iretx E hr rfl hlk hM hS dX11_part_153 (by first | (rw [if_neg (by rw [hc]; decide)]; done) | (rw [if_neg (by rw [hc]; decide)]; rfl)) (pE hc (by decide))) | (have hc : partC σ b h w d = 2 := (by first | rfl | (unfold partC; omega)); exact mo_iretx E hr rfl hlk hM hS dX11_part_153 (by first | (rw [if_neg (by rw [hc]; decide)]; done) | (rw [if_neg (by rw [hc]; decide)]; rfl)) (pE hc (by decide))) | (have hc : partC σ b h w d = 3 := (by first | rfl | (unfold partC; omega)); exact mo_iretx E hr rfl hlk hM hS dX11_part_153 (by first | (rw [if_neg (by rw [hc]; decide)]; done) | (rw [if_neg (by rw [hc]; decide)]; rfl)) (pE hc (by decide))) | (have hc : partC σ b h w d = 0 := (by first | rfl | (unfold partC; omega)); exact mo_iretx E hr rfl hlk hM hS dX11_part_153 (by first | (rw [if_pos hc]; done) | (rw [if_pos hc]; rfl) | (rw [if_pos hc]; congr 1; omega)) (pO hc (by first | rfl | (simp only [up_rd]; rfl) | simp [up_rd]) (by first | exact (sEq.u (sEq.u (sEq.u (sEq.u sEq.z)))) | exact sEq.rf)))
          · refine x_if_eq_t (tgt := 111) B dX11_part_80 (by decide) (by decide) ?_
            refine x_iconst B dX11_part_111 ?_
            refine x_istore B hl dX11_part_112 (by decide) (fun ls hl => ?_)
            refine x_aload_n B hl dX11_part_114 rfl ?_
            refine x_iload B hl dX11_part_115 rfl ?_
            refine x_if_ne_f (tgt := 124) B dX11_part_117 (by decide) (by decide) ?_
            refine x_iconst B dX11_part_120 ?_
            refine x_goto (tgt := 125) B dX11_part_121 (by decide) ?_
            refine x_iconst B dX11_part_125 ?_
            refine mo_call E hM hS hl (m_throwsIf_1 l D cy o ad _ _ (by decide)) (cwV 2 hts0 gX11_part_X11_throwsIf rfl rfl rfl (by decide +kernel) ⟨Nat.le_of_ble_eq_true rfl, Nat.le_of_ble_eq_true rfl⟩) rfl rfl (Nat.le_of_ble_eq_true rfl) dX11_part_126 ⟨Nat.zero_le _, Nat.zero_le _⟩ (fun H locs q_t hM hS => ?_)
            refine x_if_ne_t (tgt := 152) B dX11_part_129 (by decide) (by decide) ?_
            refine x_iconst B dX11_part_152 ?_
            first | (have hc : partC σ b h w d = 1 := (by first | rfl | (unfold partC; omega)); exact mo_iretx E hr rfl hlk hM hS dX11_part_153 (by first | (rw [if_neg (by rw [hc]; decide)]; done) | (rw [if_neg (by rw [hc]; decide)]; rfl)) (pE hc (by decide))) | (have hc : partC σ b h w d = 2 := (by first | rfl | (unfold partC; omega)); exact mo_iretx E hr rfl hlk hM hS dX11_part_153 (by first | (rw [if_neg (by rw [hc]; decide)]; done) | (rw [if_neg (by rw [hc]; decide)]; rfl)) (pE hc (by decide))) | (have hc : partC σ b h w d = 3 := (by first | rfl | (unfold partC; omega)); exact mo_iretx E hr rfl hlk hM hS dX11_part_153 (by first | (rw [if_neg (by rw [hc]; decide)]; done) | (rw [if_neg (by rw [hc]; decide)]; rfl)) (pE hc (by decide))) | (have hc : partC σ b h w d = 0 := (by first | rfl | (unfold partC; omega)); exact mo_iretx E hr rfl hlk hM hS dX11_part_153 (by first | (rw [if_pos hc]; done) | (rw [if_pos hc]; rfl) | (rw [if_pos hc]; congr 1; omega)) (pO hc (by first | rfl | (simp only [up_rd]; rfl) | simp [up_rd]) (by first | exact (sEq.u (sEq.u (sEq.u (sEq.u sEq.z)))) | exact sEq.rf)))
        · refine x_if_eq_t (tgt := 111) B dX11_part_63 (by decide) (by decide) ?_
          refine x_iconst B dX11_part_111 ?_
          refine x_istore B hl dX11_part_112 (by decide) (fun ls hl => ?_)
          refine x_aload_n B hl dX11_part_114 rfl ?_
          refine x_iload B hl dX11_part_115 rfl ?_
          refine x_if_ne_f (tgt := 124) B dX11_part_117 (by decide) (by decide) ?_
          refine x_iconst B dX11_part_120 ?_
          refine x_goto (tgt := 125) B dX11_part_121 (by decide) ?_
          refine x_iconst B dX11_part_125 ?_
          refine mo_call E hM hS hl (m_throwsIf_1 l D cy o ad _ _ (by decide)) (cwV 2 hts0 gX11_part_X11_throwsIf rfl rfl rfl (by decide +kernel) ⟨Nat.le_of_ble_eq_true rfl, Nat.le_of_ble_eq_true rfl⟩) rfl rfl (Nat.le_of_ble_eq_true rfl) dX11_part_126 ⟨Nat.zero_le _, Nat.zero_le _⟩ (fun H locs q_t hM hS => ?_)
          refine x_if_ne_t (tgt := 152) B dX11_part_129 (by decide) (by decide) ?_
          refine x_iconst B dX11_part_152 ?_
          first | (have hc : partC σ b h w d = 1 := (by first | rfl | (unfold partC; omega)); exact mo_iretx E hr rfl hlk hM hS dX11_part_153 (by first | (rw [if_neg (by rw [hc]; decide)]; done) | (rw [if_neg (by rw [hc]; decide)]; rfl)) (pE hc (by decide))) | (have hc : partC σ b h w d = 2 := (by first | rfl | (unfold partC; omega)); exact mo_iretx E hr rfl hlk hM hS dX11_part_153 (by first | (rw [if_neg (by rw [hc]; decide)]; done) | (rw [if_neg (by rw [hc]; decide)]; rfl)) (pE hc (by decide))) | (have hc : partC σ b h w d = 3 := (by first | rfl | (unfold partC; omega)); exact mo_iretx E hr rfl hlk hM hS dX11_part_153 (by first | (rw [if_neg (by rw [hc]; decide)]; done) | (rw [if_neg (by rw [hc]; decide)]; rfl)) (pE hc (by decide))) | (have hc : partC σ b h w d = 0 := (by first | rfl | (unfold partC; omega)); exact mo_iretx E hr rfl hlk hM hS dX11_part_153 (by first | (rw [if_pos hc]; done) | (rw [if_pos hc]; rfl) | (rw [if_pos hc]; congr 1; omega)) (pO hc (by first | rfl | (simp only [up_rd]; rfl) | simp [up_rd]) (by first | exact (sEq.u (sEq.u (sEq.u (sEq.u sEq.z)))) | exact sEq.rf)))
set_option maxHeartbeats 4000000 in
set_option maxRecDepth 100000 in
theorem m_p_cart (l : Launch) (D : va_G) (cy : Nat → ClassId) (o : Nat) (ad : Nat → Nat) (σ : MS) {lim : Int} {n : Int} (I : sInv n σ) (h_lim : -2147483648 ≤ lim ∧ lim < 2147483648)  : MX l yX11_cart wsX11_cart ({ frames := 1, cells := 0, slots := 0, locals := 25 } : Room) D cy o ad [.int (iI lim)] σ (some (.int (iI (if cartC σ lim = 0 then σ 27 0 else 0)))) (fun τ => pEnd (cartC σ lim) (cartS σ lim) σ τ) := by
  refine mx_of (cc := cX11_cart) (nL := 2) (ret := (some .int)) (by decide) rfl rfl (fun w h => List.mem_cons_of_mem _ (List.mem_append_right _ h)) (Nat.le_of_ble_eq_true rfl) ⟨rfl, rfl⟩ ?_
  intro p e s m args below meth c ls E hr hlk hM hS hl
  have B := E.1
  have hml := E.2.1
  have hown := E.2.2.1
  have hts0 := E.2.2.2.1
  have hts := E.2.2.2.1
  have hw := hM.2.2.2
  have I0 := I
  obtain ⟨hn9, hOp, hnS, hnH, hnB, hnC, hnT, hPr, hTol, v3, v4, v6, v7, v12, v15, v16, v17, v18, v19, v20, v21, v22, v24, v25, v26, v28, v29, v32, v33, v35, v36, v37, v38, v39, v42, v43, v44, v40, vm⟩ := I
  refine x_aload_n B hl dX11_cart_0 rfl ?_
  refine x_iconst B dX11_cart_1 ?_
  refine mo_put E hM hS 0 rfl (hts (.fieldLink RX11 129 "BinRoundsModel" "thrown" "I") (by decide +kernel)) rfl rfl (by decide +kernel) (by omega) dX11_cart_2 (fun H locs hM hS => ?_)
  refine x_aload_n B hl dX11_cart_5 rfl ?_
  refine x_iload_n B hl dX11_cart_6 rfl ?_
  refine x_i2l B dX11_cart_7 (by omega) ?_
  refine x_lconst B dX11_cart_8 ?_
  refine lv_ldc2 (v := lI 100000) B.1 B.2 hown (hts (.constantLong RX11 218 (100000)) (by decide +kernel)) dX11_cart_9 ?_
  refine z_call ⟨B.1, B.2, hml, hown, hts0⟩ hl (m_in l (by omega) (by omega) (by omega)) (va_cwS 3 hts0 gX11_cart_X11_in rfl rfl rfl (by decide +kernel) ⟨Nat.le_of_ble_eq_true rfl, Nat.le_of_ble_eq_true rfl⟩) rfl rfl (Nat.le_of_ble_eq_true rfl) dX11_cart_12 ⟨Nat.zero_le _, Nat.zero_le _⟩ (fun q_12 => ?_)
  refine x_bool (fun b_12 => ?_) (fun b_12 => ?_)
  · refine x_if_ne_t (tgt := 22) B dX11_cart_15 (by decide) (by decide) ?_
    refine x_iconst B dX11_cart_22 ?_
    refine x_iconst B dX11_cart_23 ?_
    refine mo_call E hM hS hl (m_throwsIf_0 l D cy o ad _ _ (by decide)) (cwV 2 hts0 gX11_cart_X11_throwsIf rfl rfl rfl (by decide +kernel) ⟨Nat.le_of_ble_eq_true rfl, Nat.le_of_ble_eq_true rfl⟩) rfl rfl (Nat.le_of_ble_eq_true rfl) dX11_cart_24 ⟨Nat.zero_le _, Nat.zero_le _⟩ (fun H locs q_t hM hS => ?_)
    refine x_if_ne_f (tgt := 51) B dX11_cart_27 (by decide) (by decide) ?_
    refine x_aload_n B hl dX11_cart_30 rfl ?_
    refine x_aload_n B hl dX11_cart_31 rfl ?_
    refine mo_gets E hM 27 rfl (hts (.fieldLink RX11 142 "BinRoundsModel" "carts" "I") (by decide +kernel)) rfl dX11_cart_32 (up_ne (by decide) rfl) (fun r_32 => ?_)
    refine x_iconst B dX11_cart_35 ?_
    refine x_icmp_ne (tgt := 43) B dX11_cart_36 (by decide) (by omega) (by omega) (fun c_36 => ?_) (fun c_36 => ?_)
    · refine x_iconst B dX11_cart_43 ?_
      refine x_iconst B dX11_cart_44 ?_
      refine mo_call E hM hS hl (m_throwsIf_0 l D cy o ad _ _ (by decide)) (cwV 2 hts0 gX11_cart_X11_throwsIf rfl rfl rfl (by decide +kernel) ⟨Nat.le_of_ble_eq_true rfl, Nat.le_of_ble_eq_true rfl⟩) rfl rfl (Nat.le_of_ble_eq_true rfl) dX11_cart_45 ⟨Nat.zero_le _, Nat.zero_le _⟩ (fun H locs q_t hM hS => ?_)
      refine x_if_eq_t (tgt := 53) B dX11_cart_48 (by decide) (by decide) ?_
      refine x_aload_n B hl dX11_cart_53 rfl ?_
      refine mo_geta E hM 24 0 rfl (hts (.fieldLink RX11 69 "BinRoundsModel" "limits" "[I") (by decide +kernel)) rfl dX11_cart_54 ?_
      refine x_aload_n B hl dX11_cart_57 rfl ?_
      refine mo_gets E hM 27 rfl (hts (.fieldLink RX11 142 "BinRoundsModel" "carts" "I") (by decide +kernel)) rfl dX11_cart_58 (up_ne (by decide) rfl) (fun r_58 => ?_)
      refine x_iload_n B hl dX11_cart_61 rfl ?_
      refine mo_st (k := 24) E hM hS rfl (by have h9 : mLn 24 = 5 := rfl; omega) (by decide) (by omega) dX11_cart_62 (fun H locs hM hS => ?_)
      refine x_aload_n B hl dX11_cart_63 rfl ?_
      refine mo_geta E hM 26 0 rfl (hts (.fieldLink RX11 75 "BinRoundsModel" "gates" "[I") (by decide +kernel)) rfl dX11_cart_64 ?_
      refine x_aload_n B hl dX11_cart_67 rfl ?_
      refine mo_gets E hM 27 rfl (hts (.fieldLink RX11 142 "BinRoundsModel" "carts" "I") (by decide +kernel)) rfl dX11_cart_68 (up_ne (by decide) (up_ne (by decide) rfl)) (fun r_68 => ?_)
      refine x_iconst B dX11_cart_71 ?_
      refine mo_st (k := 26) E hM hS rfl (by have h9 : mLn 26 = 5 := rfl; omega) (by decide) (by omega) dX11_cart_72 (fun H locs hM hS => ?_)
      refine x_aload_n B hl dX11_cart_73 rfl ?_
      refine x_dup B dX11_cart_74 rfl ?_
      refine mo_gets E hM 27 rfl (hts (.fieldLink RX11 142 "BinRoundsModel" "carts" "I") (by decide +kernel)) rfl dX11_cart_75 (up_ne (by decide) (up_ne (by decide) (up_ne (by decide) rfl))) (fun r_75 => ?_)
      refine x_iconst B dX11_cart_78 ?_
      refine x_iadd B dX11_cart_79 ?_
      refine mo_put E hM hS 27 rfl (hts (.fieldLink RX11 142 "BinRoundsModel" "carts" "I") (by decide +kernel)) rfl rfl (by decide +kernel) (by omega) dX11_cart_80 (fun H locs hM hS => ?_)
      refine x_aload_n B hl dX11_cart_83 rfl ?_
      refine mo_gets E hM 27 rfl (hts (.fieldLink RX11 142 "BinRoundsModel" "carts" "I") (by decide +kernel)) rfl dX11_cart_84 up_s (fun r_84 => ?_)
      refine x_iconst B dX11_cart_87 ?_
      refine x_isub B dX11_cart_88 ?_
      first | (have hc : cartC σ lim = 1 := (by first | rfl | (unfold cartC; omega)); exact mo_iretx E hr rfl hlk hM hS dX11_cart_89 (by first | (rw [if_neg (by rw [hc]; decide)]; done) | (rw [if_neg (by rw [hc]; decide)]; rfl)) (pE hc (by decide))) | (have hc : cartC σ lim = 2 := (by first | rfl | (unfold cartC; omega)); exact mo_iretx E hr rfl hlk hM hS dX11_cart_89 (by first | (rw [if_neg (by rw [hc]; decide)]; done) | (rw [if_neg (by rw [hc]; decide)]; rfl)) (pE hc (by decide))) | (have hc : cartC σ lim = 3 := (by first | rfl | (unfold cartC; omega)); exact mo_iretx E hr rfl hlk hM hS dX11_cart_89 (by first | (rw [if_neg (by rw [hc]; decide)]; done) | (rw [if_neg (by rw [hc]; decide)]; rfl)) (pE hc (by decide))) | (have hc : cartC σ lim = 0 := (by first | rfl | (unfold cartC; omega)); exact mo_iretx E hr rfl hlk hM hS dX11_cart_89 (by first | (rw [if_pos hc]; done) | (rw [if_pos hc]; rfl) | (rw [if_pos hc]; congr 1; omega)) (pO hc (by first | rfl | (simp only [up_rd]; rfl) | simp [up_rd]) (by first | exact (sEq.u (sEq.u (sEq.u sEq.z))) | exact sEq.rf)))
    · refine x_iconst B dX11_cart_39 ?_
      refine x_goto (tgt := 44) B dX11_cart_40 (by decide) ?_
      refine x_iconst B dX11_cart_44 ?_
      refine mo_call E hM hS hl (m_throwsIf_1 l D cy o ad _ _ (by decide)) (cwV 2 hts0 gX11_cart_X11_throwsIf rfl rfl rfl (by decide +kernel) ⟨Nat.le_of_ble_eq_true rfl, Nat.le_of_ble_eq_true rfl⟩) rfl rfl (Nat.le_of_ble_eq_true rfl) dX11_cart_45 ⟨Nat.zero_le _, Nat.zero_le _⟩ (fun H locs q_t hM hS => ?_)
      refine x_if_eq_f (tgt := 53) B dX11_cart_48 (by decide) (by decide) ?_
      refine x_iconst B dX11_cart_51 ?_
      first | (have hc : cartC σ lim = 1 := (by first | rfl | (unfold cartC; omega)); exact mo_iretx E hr rfl hlk hM hS dX11_cart_52 (by first | (rw [if_neg (by rw [hc]; decide)]; done) | (rw [if_neg (by rw [hc]; decide)]; rfl)) (pE hc (by decide))) | (have hc : cartC σ lim = 2 := (by first | rfl | (unfold cartC; omega)); exact mo_iretx E hr rfl hlk hM hS dX11_cart_52 (by first | (rw [if_neg (by rw [hc]; decide)]; done) | (rw [if_neg (by rw [hc]; decide)]; rfl)) (pE hc (by decide))) | (have hc : cartC σ lim = 3 := (by first | rfl | (unfold cartC; omega)); exact mo_iretx E hr rfl hlk hM hS dX11_cart_52 (by first | (rw [if_neg (by rw [hc]; decide)]; done) | (rw [if_neg (by rw [hc]; decide)]; rfl)) (pE hc (by decide))) | (have hc : cartC σ lim = 0 := (by first | rfl | (unfold cartC; omega)); exact mo_iretx E hr rfl hlk hM hS dX11_cart_52 (by first | (rw [if_pos hc]; done) | (rw [if_pos hc]; rfl) | (rw [if_pos hc]; congr 1; omega)) (pO hc (by first | rfl | (simp only [up_rd]; rfl) | simp [up_rd]) (by first | exact (sEq.u (sEq.u (sEq.u sEq.z))) | exact sEq.rf)))
  · refine x_if_ne_f (tgt := 22) B dX11_cart_15 (by decide) (by decide) ?_
    refine x_iconst B dX11_cart_18 ?_
    refine x_goto (tgt := 23) B dX11_cart_19 (by decide) ?_
    refine x_iconst B dX11_cart_23 ?_
    refine mo_call E hM hS hl (m_throwsIf_1 l D cy o ad _ _ (by decide)) (cwV 2 hts0 gX11_cart_X11_throwsIf rfl rfl rfl (by decide +kernel) ⟨Nat.le_of_ble_eq_true rfl, Nat.le_of_ble_eq_true rfl⟩) rfl rfl (Nat.le_of_ble_eq_true rfl) dX11_cart_24 ⟨Nat.zero_le _, Nat.zero_le _⟩ (fun H locs q_t hM hS => ?_)
    refine x_if_ne_t (tgt := 51) B dX11_cart_27 (by decide) (by decide) ?_
    refine x_iconst B dX11_cart_51 ?_
    first | (have hc : cartC σ lim = 1 := (by first | rfl | (unfold cartC; omega)); exact mo_iretx E hr rfl hlk hM hS dX11_cart_52 (by first | (rw [if_neg (by rw [hc]; decide)]; done) | (rw [if_neg (by rw [hc]; decide)]; rfl)) (pE hc (by decide))) | (have hc : cartC σ lim = 2 := (by first | rfl | (unfold cartC; omega)); exact mo_iretx E hr rfl hlk hM hS dX11_cart_52 (by first | (rw [if_neg (by rw [hc]; decide)]; done) | (rw [if_neg (by rw [hc]; decide)]; rfl)) (pE hc (by decide))) | (have hc : cartC σ lim = 3 := (by first | rfl | (unfold cartC; omega)); exact mo_iretx E hr rfl hlk hM hS dX11_cart_52 (by first | (rw [if_neg (by rw [hc]; decide)]; done) | (rw [if_neg (by rw [hc]; decide)]; rfl)) (pE hc (by decide))) | (have hc : cartC σ lim = 0 := (by first | rfl | (unfold cartC; omega)); exact mo_iretx E hr rfl hlk hM hS dX11_cart_52 (by first | (rw [if_pos hc]; done) | (rw [if_pos hc]; rfl) | (rw [if_pos hc]; congr 1; omega)) (pO hc (by first | rfl | (simp only [up_rd]; rfl) | simp [up_rd]) (by first | exact (sEq.u (sEq.u (sEq.u sEq.z))) | exact sEq.rf)))
set_option maxHeartbeats 4000000 in
set_option maxRecDepth 100000 in
theorem m_p_table (l : Launch) (D : va_G) (cy : Nat → ClassId) (o : Nat) (ad : Nat → Nat) (σ : MS) {k lf rt : Int} {n : Int} (I : sInv n σ) (h_k : -2147483648 ≤ k ∧ k < 2147483648) (h_lf : -2147483648 ≤ lf ∧ lf < 2147483648) (h_rt : -2147483648 ≤ rt ∧ rt < 2147483648)  : MX l yX11_table wsX11_table ({ frames := 1, cells := 0, slots := 0, locals := 25 } : Room) D cy o ad [.int (iI k), .int (iI lf), .int (iI rt)] σ (none) (fun τ => pEnd (tableC k lf rt) (tableS σ k lf rt) σ τ) := by
  refine mx_of (cc := cX11_table) (nL := 4) (ret := none) (by decide) rfl rfl (fun w h => List.mem_cons_of_mem _ (List.mem_append_right _ h)) (Nat.le_of_ble_eq_true rfl) ⟨rfl, rfl⟩ ?_
  intro p e s m args below meth c ls E hr hlk hM hS hl
  have B := E.1
  have hml := E.2.1
  have hown := E.2.2.1
  have hts0 := E.2.2.2.1
  have hts := E.2.2.2.1
  have hw := hM.2.2.2
  have I0 := I
  obtain ⟨hn9, hOp, hnS, hnH, hnB, hnC, hnT, hPr, hTol, v3, v4, v6, v7, v12, v15, v16, v17, v18, v19, v20, v21, v22, v24, v25, v26, v28, v29, v32, v33, v35, v36, v37, v38, v39, v42, v43, v44, v40, vm⟩ := I
  refine x_aload_n B hl dX11_table_0 rfl ?_
  refine x_iconst B dX11_table_1 ?_
  refine mo_put E hM hS 0 rfl (hts (.fieldLink RX11 129 "BinRoundsModel" "thrown" "I") (by decide +kernel)) rfl rfl (by decide +kernel) (by omega) dX11_table_2 (fun H locs hM hS => ?_)
  refine x_aload_n B hl dX11_table_5 rfl ?_
  refine x_iload_n B hl dX11_table_6 rfl ?_
  refine x_i2l B dX11_table_7 (by omega) ?_
  refine x_lconst B dX11_table_8 ?_
  refine lv_ldc2 (v := lI 4) B.1 B.2 hown (hts (.constantLong RX11 199 (4)) (by decide +kernel)) dX11_table_9 ?_
  refine z_call ⟨B.1, B.2, hml, hown, hts0⟩ hl (m_in l (by omega) (by omega) (by omega)) (va_cwS 3 hts0 gX11_table_X11_in rfl rfl rfl (by decide +kernel) ⟨Nat.le_of_ble_eq_true rfl, Nat.le_of_ble_eq_true rfl⟩) rfl rfl (Nat.le_of_ble_eq_true rfl) dX11_table_12 ⟨Nat.zero_le _, Nat.zero_le _⟩ (fun q_12 => ?_)
  refine x_bool (fun b_12 => ?_) (fun b_12 => ?_)
  · refine x_if_eq_f (tgt := 47) B dX11_table_15 (by decide) (by decide) ?_
    refine x_iload_n B hl dX11_table_18 rfl ?_
    refine x_iconst B dX11_table_19 ?_
    refine x_icmp_eq (tgt := 47) B dX11_table_20 (by decide) (by omega) (by omega) (fun c_20 => ?_) (fun c_20 => ?_)
    · refine x_iconst B dX11_table_47 ?_
      refine x_goto (tgt := 52) B dX11_table_48 (by decide) ?_
      refine x_iconst B dX11_table_52 ?_
      refine mo_call E hM hS hl (m_throwsIf_1 l D cy o ad _ _ (by decide)) (cwV 2 hts0 gX11_table_X11_throwsIf rfl rfl rfl (by decide +kernel) ⟨Nat.le_of_ble_eq_true rfl, Nat.le_of_ble_eq_true rfl⟩) rfl rfl (Nat.le_of_ble_eq_true rfl) dX11_table_53 ⟨Nat.zero_le _, Nat.zero_le _⟩ (fun H locs q_t hM hS => ?_)
      refine x_if_eq_f (tgt := 60) B dX11_table_56 (by decide) (by decide) ?_
      first | (have hc : tableC k lf rt = 1 := (by first | rfl | (unfold tableC; omega)); exact mo_vretx E hr hlk hM hS dX11_table_59 (pE hc (by decide))) | (have hc : tableC k lf rt = 2 := (by first | rfl | (unfold tableC; omega)); exact mo_vretx E hr hlk hM hS dX11_table_59 (pE hc (by decide))) | (have hc : tableC k lf rt = 3 := (by first | rfl | (unfold tableC; omega)); exact mo_vretx E hr hlk hM hS dX11_table_59 (pE hc (by decide))) | (have hc : tableC k lf rt = 0 := (by first | rfl | (unfold tableC; omega)); exact mo_vretx E hr hlk hM hS dX11_table_59 (pO hc (by first | rfl | (simp only [up_rd]; rfl) | simp [up_rd]) (by first | exact (sEq.u (sEq.u sEq.z)) | exact sEq.rf)))
    · refine x_iload_n B hl dX11_table_23 rfl ?_
      refine x_i2l B dX11_table_24 (by omega) ?_
      refine x_lconst B dX11_table_25 ?_
      refine lv_ldc2 (v := lI 100000) B.1 B.2 hown (hts (.constantLong RX11 218 (100000)) (by decide +kernel)) dX11_table_26 ?_
      refine z_call ⟨B.1, B.2, hml, hown, hts0⟩ hl (m_in l (by omega) (by omega) (by omega)) (va_cwS 3 hts0 gX11_table_X11_in rfl rfl rfl (by decide +kernel) ⟨Nat.le_of_ble_eq_true rfl, Nat.le_of_ble_eq_true rfl⟩) rfl rfl (Nat.le_of_ble_eq_true rfl) dX11_table_29 ⟨Nat.zero_le _, Nat.zero_le _⟩ (fun q_29 => ?_)
      refine x_bool (fun b_29 => ?_) (fun b_29 => ?_)
      · refine x_if_eq_f (tgt := 47) B dX11_table_32 (by decide) (by decide) ?_
        refine x_iload_n B hl dX11_table_35 rfl ?_
        refine x_i2l B dX11_table_36 (by omega) ?_
        refine x_lconst B dX11_table_37 ?_
        refine lv_ldc2 (v := lI 100000) B.1 B.2 hown (hts (.constantLong RX11 218 (100000)) (by decide +kernel)) dX11_table_38 ?_
        refine z_call ⟨B.1, B.2, hml, hown, hts0⟩ hl (m_in l (by omega) (by omega) (by omega)) (va_cwS 3 hts0 gX11_table_X11_in rfl rfl rfl (by decide +kernel) ⟨Nat.le_of_ble_eq_true rfl, Nat.le_of_ble_eq_true rfl⟩) rfl rfl (Nat.le_of_ble_eq_true rfl) dX11_table_41 ⟨Nat.zero_le _, Nat.zero_le _⟩ (fun q_41 => ?_)
        refine x_bool (fun b_41 => ?_) (fun b_41 => ?_)
        · refine x_if_ne_t (tgt := 51) B dX11_table_44 (by decide) (by decide) ?_
          refine x_iconst B dX11_table_51 ?_
          refine x_iconst B dX11_table_52 ?_
          refine mo_call E hM hS hl (m_throwsIf_0 l D cy o ad _ _ (by decide)) (cwV 2 hts0 gX11_table_X11_throwsIf rfl rfl rfl (by decide +kernel) ⟨Nat.le_of_ble_eq_true rfl, Nat.le_of_ble_eq_true rfl⟩) rfl rfl (Nat.le_of_ble_eq_true rfl) dX11_table_53 ⟨Nat.zero_le _, Nat.zero_le _⟩ (fun H locs q_t hM hS => ?_)
          refine x_if_eq_t (tgt := 60) B dX11_table_56 (by decide) (by decide) ?_
          refine x_aload_n B hl dX11_table_60 rfl ?_
          refine mo_geta E hM 28 0 rfl (hts (.fieldLink RX11 78 "BinRoundsModel" "lifts" "[I") (by decide +kernel)) rfl dX11_table_61 ?_
          refine x_iload_n B hl dX11_table_64 rfl ?_
          refine x_iload_n B hl dX11_table_65 rfl ?_
          refine mo_st (k := 28) E hM hS rfl (by have h9 : mLn 28 = 5 := rfl; omega) (by decide) (by omega) dX11_table_66 (fun H locs hM hS => ?_)
          refine x_aload_n B hl dX11_table_67 rfl ?_
          refine mo_geta E hM 29 0 rfl (hts (.fieldLink RX11 81 "BinRoundsModel" "rates" "[I") (by decide +kernel)) rfl dX11_table_68 ?_
          refine x_iload_n B hl dX11_table_71 rfl ?_
          refine x_iload_n B hl dX11_table_72 rfl ?_
          refine mo_st (k := 29) E hM hS rfl (by have h9 : mLn 29 = 5 := rfl; omega) (by decide) (by omega) dX11_table_73 (fun H locs hM hS => ?_)
          first | (have hc : tableC k lf rt = 1 := (by first | rfl | (unfold tableC; omega)); exact mo_vretx E hr hlk hM hS dX11_table_74 (pE hc (by decide))) | (have hc : tableC k lf rt = 2 := (by first | rfl | (unfold tableC; omega)); exact mo_vretx E hr hlk hM hS dX11_table_74 (pE hc (by decide))) | (have hc : tableC k lf rt = 3 := (by first | rfl | (unfold tableC; omega)); exact mo_vretx E hr hlk hM hS dX11_table_74 (pE hc (by decide))) | (have hc : tableC k lf rt = 0 := (by first | rfl | (unfold tableC; omega)); exact mo_vretx E hr hlk hM hS dX11_table_74 (pO hc (by first | rfl | (simp only [up_rd]; rfl) | simp [up_rd]) (by first | exact (sEq.u (sEq.u sEq.z)) | exact sEq.rf)))
        · refine x_if_ne_f (tgt := 51) B dX11_table_44 (by decide) (by decide) ?_
          refine x_iconst B dX11_table_47 ?_
          refine x_goto (tgt := 52) B dX11_table_48 (by decide) ?_
          refine x_iconst B dX11_table_52 ?_
          refine mo_call E hM hS hl (m_throwsIf_1 l D cy o ad _ _ (by decide)) (cwV 2 hts0 gX11_table_X11_throwsIf rfl rfl rfl (by decide +kernel) ⟨Nat.le_of_ble_eq_true rfl, Nat.le_of_ble_eq_true rfl⟩) rfl rfl (Nat.le_of_ble_eq_true rfl) dX11_table_53 ⟨Nat.zero_le _, Nat.zero_le _⟩ (fun H locs q_t hM hS => ?_)
          refine x_if_eq_f (tgt := 60) B dX11_table_56 (by decide) (by decide) ?_
          first | (have hc : tableC k lf rt = 1 := (by first | rfl | (unfold tableC; omega)); exact mo_vretx E hr hlk hM hS dX11_table_59 (pE hc (by decide))) | (have hc : tableC k lf rt = 2 := (by first | rfl | (unfold tableC; omega)); exact mo_vretx E hr hlk hM hS dX11_table_59 (pE hc (by decide))) | (have hc : tableC k lf rt = 3 := (by first | rfl | (unfold tableC; omega)); exact mo_vretx E hr hlk hM hS dX11_table_59 (pE hc (by decide))) | (have hc : tableC k lf rt = 0 := (by first | rfl | (unfold tableC; omega)); exact mo_vretx E hr hlk hM hS dX11_table_59 (pO hc (by first | rfl | (simp only [up_rd]; rfl) | simp [up_rd]) (by first | exact (sEq.u (sEq.u sEq.z)) | exact sEq.rf)))
      · refine x_if_eq_t (tgt := 47) B dX11_table_32 (by decide) (by decide) ?_
        refine x_iconst B dX11_table_47 ?_
        refine x_goto (tgt := 52) B dX11_table_48 (by decide) ?_
        refine x_iconst B dX11_table_52 ?_
        refine mo_call E hM hS hl (m_throwsIf_1 l D cy o ad _ _ (by decide)) (cwV 2 hts0 gX11_table_X11_throwsIf rfl rfl rfl (by decide +kernel) ⟨Nat.le_of_ble_eq_true rfl, Nat.le_of_ble_eq_true rfl⟩) rfl rfl (Nat.le_of_ble_eq_true rfl) dX11_table_53 ⟨Nat.zero_le _, Nat.zero_le _⟩ (fun H locs q_t hM hS => ?_)
        refine x_if_eq_f (tgt := 60) B dX11_table_56 (by decide) (by decide) ?_
        first | (have hc : tableC k lf rt = 1 := (by first | rfl | (unfold tableC; omega)); exact mo_vretx E hr hlk hM hS dX11_table_59 (pE hc (by decide))) | (have hc : tableC k lf rt = 2 := (by first | rfl | (unfold tableC; omega)); exact mo_vretx E hr hlk hM hS dX11_table_59 (pE hc (by decide))) | (have hc : tableC k lf rt = 3 := (by first | rfl | (unfold tableC; omega)); exact mo_vretx E hr hlk hM hS dX11_table_59 (pE hc (by decide))) | (have hc : tableC k lf rt = 0 := (by first | rfl | (unfold tableC; omega)); exact mo_vretx E hr hlk hM hS dX11_table_59 (pO hc (by first | rfl | (simp only [up_rd]; rfl) | simp [up_rd]) (by first | exact (sEq.u (sEq.u sEq.z)) | exact sEq.rf)))
  · refine x_if_eq_t (tgt := 47) B dX11_table_15 (by decide) (by decide) ?_
    refine x_iconst B dX11_table_47 ?_
    refine x_goto (tgt := 52) B dX11_table_48 (by decide) ?_
    refine x_iconst B dX11_table_52 ?_
    refine mo_call E hM hS hl (m_throwsIf_1 l D cy o ad _ _ (by decide)) (cwV 2 hts0 gX11_table_X11_throwsIf rfl rfl rfl (by decide +kernel) ⟨Nat.le_of_ble_eq_true rfl, Nat.le_of_ble_eq_true rfl⟩) rfl rfl (Nat.le_of_ble_eq_true rfl) dX11_table_53 ⟨Nat.zero_le _, Nat.zero_le _⟩ (fun H locs q_t hM hS => ?_)
    refine x_if_eq_f (tgt := 60) B dX11_table_56 (by decide) (by decide) ?_
    first | (have hc : tableC k lf rt = 1 := (by first | rfl | (unfold tableC; omega)); exact mo_vretx E hr hlk hM hS dX11_table_59 (pE hc (by decide))) | (have hc : tableC k lf rt = 2 := (by first | rfl | (unfold tableC; omega)); exact mo_vretx E hr hlk hM hS dX11_table_59 (pE hc (by decide))) | (have hc : tableC k lf rt = 3 := (by first | rfl | (unfold tableC; omega)); exact mo_vretx E hr hlk hM hS dX11_table_59 (pE hc (by decide))) | (have hc : tableC k lf rt = 0 := (by first | rfl | (unfold tableC; omega)); exact mo_vretx E hr hlk hM hS dX11_table_59 (pO hc (by first | rfl | (simp only [up_rd]; rfl) | simp [up_rd]) (by first | exact (sEq.u (sEq.u sEq.z)) | exact sEq.rf)))
set_option maxHeartbeats 4000000 in
set_option maxRecDepth 100000 in
theorem m_p_terms (l : Launch) (D : va_G) (cy : Nat → ClassId) (o : Nat) (ad : Nat → Nat) (σ : MS) {pr tl : Int} {n : Int} (I : sInv n σ) (h_pr : -2147483648 ≤ pr ∧ pr < 2147483648) (h_tl : -2147483648 ≤ tl ∧ tl < 2147483648)  : MX l yX11_terms wsX11_terms ({ frames := 1, cells := 0, slots := 0, locals := 25 } : Room) D cy o ad [.int (iI pr), .int (iI tl)] σ (none) (fun τ => pEnd (termsC pr tl) (termsS σ pr tl) σ τ) := by
  refine mx_of (cc := cX11_terms) (nL := 3) (ret := none) (by decide) rfl rfl (fun w h => List.mem_cons_of_mem _ (List.mem_append_right _ h)) (Nat.le_of_ble_eq_true rfl) ⟨rfl, rfl⟩ ?_
  intro p e s m args below meth c ls E hr hlk hM hS hl
  have B := E.1
  have hml := E.2.1
  have hown := E.2.2.1
  have hts0 := E.2.2.2.1
  have hts := E.2.2.2.1
  have hw := hM.2.2.2
  have I0 := I
  obtain ⟨hn9, hOp, hnS, hnH, hnB, hnC, hnT, hPr, hTol, v3, v4, v6, v7, v12, v15, v16, v17, v18, v19, v20, v21, v22, v24, v25, v26, v28, v29, v32, v33, v35, v36, v37, v38, v39, v42, v43, v44, v40, vm⟩ := I
  refine x_aload_n B hl dX11_terms_0 rfl ?_
  refine x_iconst B dX11_terms_1 ?_
  refine mo_put E hM hS 0 rfl (hts (.fieldLink RX11 129 "BinRoundsModel" "thrown" "I") (by decide +kernel)) rfl rfl (by decide +kernel) (by omega) dX11_terms_2 (fun H locs hM hS => ?_)
  refine x_aload_n B hl dX11_terms_5 rfl ?_
  refine x_iload_n B hl dX11_terms_6 rfl ?_
  refine x_i2l B dX11_terms_7 (by omega) ?_
  refine x_lconst B dX11_terms_8 ?_
  refine lv_ldc2 (v := lI 100000) B.1 B.2 hown (hts (.constantLong RX11 218 (100000)) (by decide +kernel)) dX11_terms_9 ?_
  refine z_call ⟨B.1, B.2, hml, hown, hts0⟩ hl (m_in l (by omega) (by omega) (by omega)) (va_cwS 3 hts0 gX11_terms_X11_in rfl rfl rfl (by decide +kernel) ⟨Nat.le_of_ble_eq_true rfl, Nat.le_of_ble_eq_true rfl⟩) rfl rfl (Nat.le_of_ble_eq_true rfl) dX11_terms_12 ⟨Nat.zero_le _, Nat.zero_le _⟩ (fun q_12 => ?_)
  refine x_bool (fun b_12 => ?_) (fun b_12 => ?_)
  · refine x_if_eq_f (tgt := 30) B dX11_terms_15 (by decide) (by decide) ?_
    refine x_iload_n B hl dX11_terms_18 rfl ?_
    refine x_i2l B dX11_terms_19 (by omega) ?_
    refine x_lconst B dX11_terms_20 ?_
    refine lv_ldc2 (v := lI 1000) B.1 B.2 hown (hts (.constantLong RX11 159 (1000)) (by decide +kernel)) dX11_terms_21 ?_
    refine z_call ⟨B.1, B.2, hml, hown, hts0⟩ hl (m_in l (by omega) (by omega) (by omega)) (va_cwS 3 hts0 gX11_terms_X11_in rfl rfl rfl (by decide +kernel) ⟨Nat.le_of_ble_eq_true rfl, Nat.le_of_ble_eq_true rfl⟩) rfl rfl (Nat.le_of_ble_eq_true rfl) dX11_terms_24 ⟨Nat.zero_le _, Nat.zero_le _⟩ (fun q_24 => ?_)
    refine x_bool (fun b_24 => ?_) (fun b_24 => ?_)
    · refine x_if_ne_t (tgt := 34) B dX11_terms_27 (by decide) (by decide) ?_
      refine x_iconst B dX11_terms_34 ?_
      refine x_iconst B dX11_terms_35 ?_
      refine mo_call E hM hS hl (m_throwsIf_0 l D cy o ad _ _ (by decide)) (cwV 2 hts0 gX11_terms_X11_throwsIf rfl rfl rfl (by decide +kernel) ⟨Nat.le_of_ble_eq_true rfl, Nat.le_of_ble_eq_true rfl⟩) rfl rfl (Nat.le_of_ble_eq_true rfl) dX11_terms_36 ⟨Nat.zero_le _, Nat.zero_le _⟩ (fun H locs q_t hM hS => ?_)
      refine x_if_eq_t (tgt := 43) B dX11_terms_39 (by decide) (by decide) ?_
      refine x_aload_n B hl dX11_terms_43 rfl ?_
      refine x_iload_n B hl dX11_terms_44 rfl ?_
      refine mo_put E hM hS 30 rfl (hts (.fieldLink RX11 220 "BinRoundsModel" "price" "I") (by decide +kernel)) rfl rfl (by decide +kernel) (by omega) dX11_terms_45 (fun H locs hM hS => ?_)
      refine x_aload_n B hl dX11_terms_48 rfl ?_
      refine x_iload_n B hl dX11_terms_49 rfl ?_
      refine mo_put E hM hS 31 rfl (hts (.fieldLink RX11 161 "BinRoundsModel" "tolerance" "I") (by decide +kernel)) rfl rfl (by decide +kernel) (by omega) dX11_terms_50 (fun H locs hM hS => ?_)
      first | (have hc : termsC pr tl = 1 := (by first | rfl | (unfold termsC; omega)); exact mo_vretx E hr hlk hM hS dX11_terms_53 (pE hc (by decide))) | (have hc : termsC pr tl = 2 := (by first | rfl | (unfold termsC; omega)); exact mo_vretx E hr hlk hM hS dX11_terms_53 (pE hc (by decide))) | (have hc : termsC pr tl = 3 := (by first | rfl | (unfold termsC; omega)); exact mo_vretx E hr hlk hM hS dX11_terms_53 (pE hc (by decide))) | (have hc : termsC pr tl = 0 := (by first | rfl | (unfold termsC; omega)); exact mo_vretx E hr hlk hM hS dX11_terms_53 (pO hc (by first | rfl | (simp only [up_rd]; rfl) | simp [up_rd]) (by first | exact (sEq.u (sEq.u sEq.z)) | exact sEq.rf)))
    · refine x_if_ne_f (tgt := 34) B dX11_terms_27 (by decide) (by decide) ?_
      refine x_iconst B dX11_terms_30 ?_
      refine x_goto (tgt := 35) B dX11_terms_31 (by decide) ?_
      refine x_iconst B dX11_terms_35 ?_
      refine mo_call E hM hS hl (m_throwsIf_1 l D cy o ad _ _ (by decide)) (cwV 2 hts0 gX11_terms_X11_throwsIf rfl rfl rfl (by decide +kernel) ⟨Nat.le_of_ble_eq_true rfl, Nat.le_of_ble_eq_true rfl⟩) rfl rfl (Nat.le_of_ble_eq_true rfl) dX11_terms_36 ⟨Nat.zero_le _, Nat.zero_le _⟩ (fun H locs q_t hM hS => ?_)
      refine x_if_eq_f (tgt := 43) B dX11_terms_39 (by decide) (by decide) ?_
      first | (have hc : termsC pr tl = 1 := (by first | rfl | (unfold termsC; omega)); exact mo_vretx E hr hlk hM hS dX11_terms_42 (pE hc (by decide))) | (have hc : termsC pr tl = 2 := (by first | rfl | (unfold termsC; omega)); exact mo_vretx E hr hlk hM hS dX11_terms_42 (pE hc (by decide))) | (have hc : termsC pr tl = 3 := (by first | rfl | (unfold termsC; omega)); exact mo_vretx E hr hlk hM hS dX11_terms_42 (pE hc (by decide))) | (have hc : termsC pr tl = 0 := (by first | rfl | (unfold termsC; omega)); exact mo_vretx E hr hlk hM hS dX11_terms_42 (pO hc (by first | rfl | (simp only [up_rd]; rfl) | simp [up_rd]) (by first | exact (sEq.u (sEq.u sEq.z)) | exact sEq.rf)))
  · refine x_if_eq_t (tgt := 30) B dX11_terms_15 (by decide) (by decide) ?_
    refine x_iconst B dX11_terms_30 ?_
    refine x_goto (tgt := 35) B dX11_terms_31 (by decide) ?_
    refine x_iconst B dX11_terms_35 ?_
    refine mo_call E hM hS hl (m_throwsIf_1 l D cy o ad _ _ (by decide)) (cwV 2 hts0 gX11_terms_X11_throwsIf rfl rfl rfl (by decide +kernel) ⟨Nat.le_of_ble_eq_true rfl, Nat.le_of_ble_eq_true rfl⟩) rfl rfl (Nat.le_of_ble_eq_true rfl) dX11_terms_36 ⟨Nat.zero_le _, Nat.zero_le _⟩ (fun H locs q_t hM hS => ?_)
    refine x_if_eq_f (tgt := 43) B dX11_terms_39 (by decide) (by decide) ?_
    first | (have hc : termsC pr tl = 1 := (by first | rfl | (unfold termsC; omega)); exact mo_vretx E hr hlk hM hS dX11_terms_42 (pE hc (by decide))) | (have hc : termsC pr tl = 2 := (by first | rfl | (unfold termsC; omega)); exact mo_vretx E hr hlk hM hS dX11_terms_42 (pE hc (by decide))) | (have hc : termsC pr tl = 3 := (by first | rfl | (unfold termsC; omega)); exact mo_vretx E hr hlk hM hS dX11_terms_42 (pE hc (by decide))) | (have hc : termsC pr tl = 0 := (by first | rfl | (unfold termsC; omega)); exact mo_vretx E hr hlk hM hS dX11_terms_42 (pO hc (by first | rfl | (simp only [up_rd]; rfl) | simp [up_rd]) (by first | exact (sEq.u (sEq.u sEq.z)) | exact sEq.rf)))
set_option maxHeartbeats 4000000 in
set_option maxRecDepth 100000 in
theorem m_p_band (l : Launch) (D : va_G) (cy : Nat → ClassId) (o : Nat) (ad : Nat → Nat) (σ : MS) {h x : Int} {n : Int} (I : sInv n σ) (h_h : -2147483648 ≤ h ∧ h < 2147483648) (h_x : -2147483648 ≤ x ∧ x < 2147483648)  : MX l yX11_band wsX11_band ({ frames := 1, cells := 0, slots := 0, locals := 25 } : Room) D cy o ad [.int (iI h), .int (iI x)] σ (some (.int (iI (if bandC σ h x = 0 then (σ 7 h + x) else 0)))) (fun τ => pEnd (bandC σ h x) (bandS σ h x) σ τ) := by
  refine mx_of (cc := cX11_band) (nL := 3) (ret := (some .int)) (by decide) rfl rfl (fun w h => List.mem_cons_of_mem _ (List.mem_append_right _ h)) (Nat.le_of_ble_eq_true rfl) ⟨rfl, rfl⟩ ?_
  intro p e s m args below meth c ls E hr hlk hM hS hl
  have B := E.1
  have hml := E.2.1
  have hown := E.2.2.1
  have hts0 := E.2.2.2.1
  have hts := E.2.2.2.1
  have hw := hM.2.2.2
  have I0 := I
  obtain ⟨hn9, hOp, hnS, hnH, hnB, hnC, hnT, hPr, hTol, v3, v4, v6, v7, v12, v15, v16, v17, v18, v19, v20, v21, v22, v24, v25, v26, v28, v29, v32, v33, v35, v36, v37, v38, v39, v42, v43, v44, v40, vm⟩ := I
  have v7h := v7 h
  refine x_aload_n B hl dX11_band_0 rfl ?_
  refine x_iconst B dX11_band_1 ?_
  refine mo_put E hM hS 0 rfl (hts (.fieldLink RX11 129 "BinRoundsModel" "thrown" "I") (by decide +kernel)) rfl rfl (by decide +kernel) (by omega) dX11_band_2 (fun H locs hM hS => ?_)
  refine x_aload_n B hl dX11_band_5 rfl ?_
  refine x_aload_n B hl dX11_band_6 rfl ?_
  refine x_iload_n B hl dX11_band_7 rfl ?_
  refine mo_call E hM hS hl (m_noHousek l D cy o ad _ (up_ne (by decide) rfl) (by omega)) (cwV 1 hts0 gX11_band_X11_noHouse rfl rfl rfl (by decide +kernel) ⟨Nat.le_of_ble_eq_true rfl, Nat.le_of_ble_eq_true rfl⟩) rfl rfl (Nat.le_of_ble_eq_true rfl) dX11_band_8 ⟨Nat.zero_le _, Nat.zero_le _⟩ (fun H locs q_8 hM hS => ?_)
  refine x_bool (fun b_8 => ?_) (fun b_8 => ?_)
  · refine x_iconst B dX11_band_11 ?_
    refine mo_call E hM hS hl (m_throwsIf_1 l D cy o ad _ _ (by decide)) (cwV 2 hts0 gX11_band_X11_throwsIf rfl rfl rfl (by decide +kernel) ⟨Nat.le_of_ble_eq_true rfl, Nat.le_of_ble_eq_true rfl⟩) rfl rfl (Nat.le_of_ble_eq_true rfl) dX11_band_12 ⟨Nat.zero_le _, Nat.zero_le _⟩ (fun H locs q_t hM hS => ?_)
    refine x_if_ne_t (tgt := 43) B dX11_band_15 (by decide) (by decide) ?_
    refine x_iconst B dX11_band_43 ?_
    first | (have hc : bandC σ h x = 1 := (by first | rfl | (unfold bandC; omega)); exact mo_iretx E hr rfl hlk hM hS dX11_band_44 (by first | (rw [if_neg (by rw [hc]; decide)]; done) | (rw [if_neg (by rw [hc]; decide)]; rfl)) (pE hc (by decide))) | (have hc : bandC σ h x = 2 := (by first | rfl | (unfold bandC; omega)); exact mo_iretx E hr rfl hlk hM hS dX11_band_44 (by first | (rw [if_neg (by rw [hc]; decide)]; done) | (rw [if_neg (by rw [hc]; decide)]; rfl)) (pE hc (by decide))) | (have hc : bandC σ h x = 3 := (by first | rfl | (unfold bandC; omega)); exact mo_iretx E hr rfl hlk hM hS dX11_band_44 (by first | (rw [if_neg (by rw [hc]; decide)]; done) | (rw [if_neg (by rw [hc]; decide)]; rfl)) (pE hc (by decide))) | (have hc : bandC σ h x = 0 := (by first | rfl | (unfold bandC; omega)); exact mo_iretx E hr rfl hlk hM hS dX11_band_44 (by first | (rw [if_pos hc]; done) | (rw [if_pos hc]; rfl) | (rw [if_pos hc]; congr 1; omega)) (pO hc (by first | rfl | (simp only [up_rd]; rfl) | simp [up_rd]) (by first | exact (sEq.u (sEq.u sEq.z)) | exact sEq.rf)))
  · refine x_iconst B dX11_band_11 ?_
    refine mo_call E hM hS hl (m_throwsIf_0 l D cy o ad _ _ (by decide)) (cwV 2 hts0 gX11_band_X11_throwsIf rfl rfl rfl (by decide +kernel) ⟨Nat.le_of_ble_eq_true rfl, Nat.le_of_ble_eq_true rfl⟩) rfl rfl (Nat.le_of_ble_eq_true rfl) dX11_band_12 ⟨Nat.zero_le _, Nat.zero_le _⟩ (fun H locs q_t hM hS => ?_)
    refine x_if_ne_f (tgt := 43) B dX11_band_15 (by decide) (by decide) ?_
    refine x_aload_n B hl dX11_band_18 rfl ?_
    refine x_iload_n B hl dX11_band_19 rfl ?_
    refine x_i2l B dX11_band_20 (by omega) ?_
    refine x_lconst B dX11_band_21 ?_
    refine lv_ldc2 (v := lI 1000) B.1 B.2 hown (hts (.constantLong RX11 159 (1000)) (by decide +kernel)) dX11_band_22 ?_
    refine z_call ⟨B.1, B.2, hml, hown, hts0⟩ hl (m_in l (by omega) (by omega) (by omega)) (va_cwS 3 hts0 gX11_band_X11_in rfl rfl rfl (by decide +kernel) ⟨Nat.le_of_ble_eq_true rfl, Nat.le_of_ble_eq_true rfl⟩) rfl rfl (Nat.le_of_ble_eq_true rfl) dX11_band_25 ⟨Nat.zero_le _, Nat.zero_le _⟩ (fun q_25 => ?_)
    refine x_bool (fun b_25 => ?_) (fun b_25 => ?_)
    · refine x_if_ne_t (tgt := 35) B dX11_band_28 (by decide) (by decide) ?_
      refine x_iconst B dX11_band_35 ?_
      refine x_iconst B dX11_band_36 ?_
      refine mo_call E hM hS hl (m_throwsIf_0 l D cy o ad _ _ (by decide)) (cwV 2 hts0 gX11_band_X11_throwsIf rfl rfl rfl (by decide +kernel) ⟨Nat.le_of_ble_eq_true rfl, Nat.le_of_ble_eq_true rfl⟩) rfl rfl (Nat.le_of_ble_eq_true rfl) dX11_band_37 ⟨Nat.zero_le _, Nat.zero_le _⟩ (fun H locs q_t hM hS => ?_)
      refine x_if_eq_t (tgt := 45) B dX11_band_40 (by decide) (by decide) ?_
      refine x_aload_n B hl dX11_band_45 rfl ?_
      refine mo_geta E hM 7 0 rfl (hts (.fieldLink RX11 23 "BinRoundsModel" "bands" "[I") (by decide +kernel)) rfl dX11_band_46 ?_
      refine x_iload_n B hl dX11_band_49 rfl ?_
      refine lv_dup2_11 B.1 B.2 dX11_band_50 rfl rfl ?_
      refine mo_ld (k := 7) E hM rfl (by have h9 : mLn 7 = 60 := rfl; omega) (by decide) dX11_band_51 (up_ne (by decide) rfl) (fun r_51 => ?_)
      refine x_iload_n B hl dX11_band_52 rfl ?_
      refine x_iadd B dX11_band_53 ?_
      refine mo_st (k := 7) E hM hS rfl (by have h9 : mLn 7 = 60 := rfl; omega) (by decide) (by omega) dX11_band_54 (fun H locs hM hS => ?_)
      refine x_aload_n B hl dX11_band_55 rfl ?_
      refine mo_geta E hM 8 2 rfl (hts (.fieldLink RX11 26 "BinRoundsModel" "bandCost" "[J") (by decide +kernel)) rfl dX11_band_56 ?_
      refine x_iload_n B hl dX11_band_59 rfl ?_
      refine lv_dup2_11 B.1 B.2 dX11_band_60 rfl rfl ?_
      refine mo_lld (k := 8) E hM rfl (by have h9 : mLn 8 = 60 := rfl; omega) (by decide) dX11_band_61 (up_ne (by decide) (up_ne (by decide) rfl)) (fun r_61 => ?_)
      refine x_iload_n B hl dX11_band_62 rfl ?_
      refine x_i2l B dX11_band_63 (by omega) ?_
      refine x_aload_n B hl dX11_band_64 rfl ?_
      refine mo_gets E hM 30 rfl (hts (.fieldLink RX11 220 "BinRoundsModel" "price" "I") (by decide +kernel)) rfl dX11_band_65 (up_ne (by decide) (up_ne (by decide) rfl)) (fun r_65 => ?_)
      refine x_i2l B dX11_band_68 (by omega) ?_
      refine x_lmul B dX11_band_69 ?_
      refine x_ladd B dX11_band_70 ?_
      refine mo_lst (k := 8) E hM hS rfl (by have h9 : mLn 8 = 60 := rfl; omega) (by decide) (by omega) dX11_band_71 (fun H locs hM hS => ?_)
      refine x_aload_n B hl dX11_band_72 rfl ?_
      refine mo_geta E hM 7 0 rfl (hts (.fieldLink RX11 23 "BinRoundsModel" "bands" "[I") (by decide +kernel)) rfl dX11_band_73 ?_
      refine x_iload_n B hl dX11_band_76 rfl ?_
      refine mo_ld (k := 7) E hM rfl (by have h9 : mLn 7 = 60 := rfl; omega) (by decide) dX11_band_77 (up_ne (by decide) up_s) (fun r_77 => ?_)
      first | (have hc : bandC σ h x = 1 := (by first | rfl | (unfold bandC; omega)); exact mo_iretx E hr rfl hlk hM hS dX11_band_78 (by first | (rw [if_neg (by rw [hc]; decide)]; done) | (rw [if_neg (by rw [hc]; decide)]; rfl)) (pE hc (by decide))) | (have hc : bandC σ h x = 2 := (by first | rfl | (unfold bandC; omega)); exact mo_iretx E hr rfl hlk hM hS dX11_band_78 (by first | (rw [if_neg (by rw [hc]; decide)]; done) | (rw [if_neg (by rw [hc]; decide)]; rfl)) (pE hc (by decide))) | (have hc : bandC σ h x = 3 := (by first | rfl | (unfold bandC; omega)); exact mo_iretx E hr rfl hlk hM hS dX11_band_78 (by first | (rw [if_neg (by rw [hc]; decide)]; done) | (rw [if_neg (by rw [hc]; decide)]; rfl)) (pE hc (by decide))) | (have hc : bandC σ h x = 0 := (by first | rfl | (unfold bandC; omega)); exact mo_iretx E hr rfl hlk hM hS dX11_band_78 (by first | (rw [if_pos hc]; done) | (rw [if_pos hc]; rfl) | (rw [if_pos hc]; congr 1; omega)) (pO hc (by first | rfl | (simp only [up_rd]; rfl) | simp [up_rd]) (by first | exact (sEq.u (sEq.u sEq.z)) | exact sEq.rf)))
    · refine x_if_ne_f (tgt := 35) B dX11_band_28 (by decide) (by decide) ?_
      refine x_iconst B dX11_band_31 ?_
      refine x_goto (tgt := 36) B dX11_band_32 (by decide) ?_
      refine x_iconst B dX11_band_36 ?_
      refine mo_call E hM hS hl (m_throwsIf_1 l D cy o ad _ _ (by decide)) (cwV 2 hts0 gX11_band_X11_throwsIf rfl rfl rfl (by decide +kernel) ⟨Nat.le_of_ble_eq_true rfl, Nat.le_of_ble_eq_true rfl⟩) rfl rfl (Nat.le_of_ble_eq_true rfl) dX11_band_37 ⟨Nat.zero_le _, Nat.zero_le _⟩ (fun H locs q_t hM hS => ?_)
      refine x_if_eq_f (tgt := 45) B dX11_band_40 (by decide) (by decide) ?_
      refine x_iconst B dX11_band_43 ?_
      first | (have hc : bandC σ h x = 1 := (by first | rfl | (unfold bandC; omega)); exact mo_iretx E hr rfl hlk hM hS dX11_band_44 (by first | (rw [if_neg (by rw [hc]; decide)]; done) | (rw [if_neg (by rw [hc]; decide)]; rfl)) (pE hc (by decide))) | (have hc : bandC σ h x = 2 := (by first | rfl | (unfold bandC; omega)); exact mo_iretx E hr rfl hlk hM hS dX11_band_44 (by first | (rw [if_neg (by rw [hc]; decide)]; done) | (rw [if_neg (by rw [hc]; decide)]; rfl)) (pE hc (by decide))) | (have hc : bandC σ h x = 3 := (by first | rfl | (unfold bandC; omega)); exact mo_iretx E hr rfl hlk hM hS dX11_band_44 (by first | (rw [if_neg (by rw [hc]; decide)]; done) | (rw [if_neg (by rw [hc]; decide)]; rfl)) (pE hc (by decide))) | (have hc : bandC σ h x = 0 := (by first | rfl | (unfold bandC; omega)); exact mo_iretx E hr rfl hlk hM hS dX11_band_44 (by first | (rw [if_pos hc]; done) | (rw [if_pos hc]; rfl) | (rw [if_pos hc]; congr 1; omega)) (pO hc (by first | rfl | (simp only [up_rd]; rfl) | simp [up_rd]) (by first | exact (sEq.u (sEq.u sEq.z)) | exact sEq.rf)))
set_option maxHeartbeats 4000000 in
set_option maxRecDepth 100000 in
theorem m_p_wrong (l : Launch) (D : va_G) (cy : Nat → ClassId) (o : Nat) (ad : Nat → Nat) (σ : MS) {t : Int} {n : Int} (I : sInv n σ) (h_t : -2147483648 ≤ t ∧ t < 2147483648)  : MX l yX11_wrong wsX11_wrong ({ frames := 1, cells := 0, slots := 0, locals := 22 } : Room) D cy o ad [.int (iI t)] σ (some (.int (iI (if wrongC σ t = 0 then wrongR σ t else 0)))) (fun τ => pEnd (wrongC σ t) (wrongS σ t) σ τ) := by
  refine mx_of (cc := cX11_wrong) (nL := 4) (ret := (some .boolean)) (by decide) rfl rfl (fun w h => List.mem_cons_of_mem _ (List.mem_append_right _ h)) (Nat.le_of_ble_eq_true rfl) ⟨rfl, rfl⟩ ?_
  intro p e s m args below meth c ls E hr hlk hM hS hl
  have B := E.1
  have hml := E.2.1
  have hown := E.2.2.1
  have hts0 := E.2.2.2.1
  have hts := E.2.2.2.1
  have hw := hM.2.2.2
  have I0 := I
  obtain ⟨hn9, hOp, hnS, hnH, hnB, hnC, hnT, hPr, hTol, v3, v4, v6, v7, v12, v15, v16, v17, v18, v19, v20, v21, v22, v24, v25, v26, v28, v29, v32, v33, v35, v36, v37, v38, v39, v42, v43, v44, v40, vm⟩ := I
  have v36t := v36 t
  have v12t := v12 (σ 36 t)
  refine x_aload_n B hl dX11_wrong_0 rfl ?_
  refine x_iconst B dX11_wrong_1 ?_
  refine mo_put E hM hS 0 rfl (hts (.fieldLink RX11 129 "BinRoundsModel" "thrown" "I") (by decide +kernel)) rfl rfl (by decide +kernel) (by omega) dX11_wrong_2 (fun H locs hM hS => ?_)
  refine x_aload_n B hl dX11_wrong_5 rfl ?_
  refine x_aload_n B hl dX11_wrong_6 rfl ?_
  refine x_iload_n B hl dX11_wrong_7 rfl ?_
  refine mo_call E hM hS hl (m_noTipk l D cy o ad _ (up_ne (by decide) rfl) (by omega)) (cwV 1 hts0 gX11_wrong_X11_noTip rfl rfl rfl (by decide +kernel) ⟨Nat.le_of_ble_eq_true rfl, Nat.le_of_ble_eq_true rfl⟩) rfl rfl (Nat.le_of_ble_eq_true rfl) dX11_wrong_8 ⟨Nat.zero_le _, Nat.zero_le _⟩ (fun H locs q_8 hM hS => ?_)
  refine x_bool (fun b_8 => ?_) (fun b_8 => ?_)
  · refine x_iconst B dX11_wrong_11 ?_
    refine mo_call E hM hS hl (m_throwsIf_1 l D cy o ad _ _ (by decide)) (cwV 2 hts0 gX11_wrong_X11_throwsIf rfl rfl rfl (by decide +kernel) ⟨Nat.le_of_ble_eq_true rfl, Nat.le_of_ble_eq_true rfl⟩) rfl rfl (Nat.le_of_ble_eq_true rfl) dX11_wrong_12 ⟨Nat.zero_le _, Nat.zero_le _⟩ (fun H locs q_t hM hS => ?_)
    refine x_if_ne_t (tgt := 44) B dX11_wrong_15 (by decide) (by decide) ?_
    refine x_iconst B dX11_wrong_44 ?_
    first | (have hc : wrongC σ t = 1 := (by first | rfl | (unfold wrongC; omega)); exact mo_iretx E hr (by first | rfl | exact nar_b (by assumption)) hlk hM hS dX11_wrong_45 (by first | (rw [if_neg (by rw [hc]; decide)]; done) | (rw [if_neg (by rw [hc]; decide)]; rfl)) (pE hc (by decide))) | (have hc : wrongC σ t = 2 := (by first | rfl | (unfold wrongC; omega)); exact mo_iretx E hr (by first | rfl | exact nar_b (by assumption)) hlk hM hS dX11_wrong_45 (by first | (rw [if_neg (by rw [hc]; decide)]; done) | (rw [if_neg (by rw [hc]; decide)]; rfl)) (pE hc (by decide))) | (have hc : wrongC σ t = 3 := (by first | rfl | (unfold wrongC; omega)); exact mo_iretx E hr (by first | rfl | exact nar_b (by assumption)) hlk hM hS dX11_wrong_45 (by first | (rw [if_neg (by rw [hc]; decide)]; done) | (rw [if_neg (by rw [hc]; decide)]; rfl)) (pE hc (by decide))) | (have hc : wrongC σ t = 0 := (by first | rfl | (unfold wrongC; omega)); exact mo_iretx E hr (by first | rfl | exact nar_b (by assumption)) hlk hM hS dX11_wrong_45 (by first | (rw [if_pos hc]; done) | (rw [if_pos hc]; rfl) | (rw [if_pos hc]; congr 1; omega) | (rw [if_pos hc]; congr 1; unfold wrongR; omega)) (pO hc (by first | rfl | (simp only [up_rd]; rfl) | simp [up_rd]) (by first | exact (sEq.u sEq.z) | exact sEq.rf)))
  · refine x_iconst B dX11_wrong_11 ?_
    refine mo_call E hM hS hl (m_throwsIf_0 l D cy o ad _ _ (by decide)) (cwV 2 hts0 gX11_wrong_X11_throwsIf rfl rfl rfl (by decide +kernel) ⟨Nat.le_of_ble_eq_true rfl, Nat.le_of_ble_eq_true rfl⟩) rfl rfl (Nat.le_of_ble_eq_true rfl) dX11_wrong_12 ⟨Nat.zero_le _, Nat.zero_le _⟩ (fun H locs q_t hM hS => ?_)
    refine x_if_ne_f (tgt := 44) B dX11_wrong_15 (by decide) (by decide) ?_
    refine x_aload_n B hl dX11_wrong_18 rfl ?_
    refine x_aload_n B hl dX11_wrong_19 rfl ?_
    refine mo_geta E hM 32 0 rfl (hts (.fieldLink RX11 84 "BinRoundsModel" "dayOf" "[I") (by decide +kernel)) rfl dX11_wrong_20 ?_
    refine x_iload_n B hl dX11_wrong_23 rfl ?_
    refine mo_ld (k := 32) E hM rfl (by have h9 : mLn 32 = 600 := rfl; omega) (by decide) dX11_wrong_24 (up_ne (by decide) rfl) (fun r_24 => ?_)
    refine x_aload_n B hl dX11_wrong_25 rfl ?_
    refine mo_gets E hM 1 rfl (hts (.fieldLink RX11 152 "BinRoundsModel" "open" "I") (by decide +kernel)) rfl dX11_wrong_26 (up_ne (by decide) rfl) (fun r_26 => ?_)
    refine x_icmp_eq (tgt := 36) B dX11_wrong_29 (by decide) (by omega) (by omega) (fun c_29 => ?_) (fun c_29 => ?_)
    · refine x_iconst B dX11_wrong_36 ?_
      refine x_iconst B dX11_wrong_37 ?_
      refine mo_call E hM hS hl (m_throwsIf_0 l D cy o ad _ _ (by decide)) (cwV 2 hts0 gX11_wrong_X11_throwsIf rfl rfl rfl (by decide +kernel) ⟨Nat.le_of_ble_eq_true rfl, Nat.le_of_ble_eq_true rfl⟩) rfl rfl (Nat.le_of_ble_eq_true rfl) dX11_wrong_38 ⟨Nat.zero_le _, Nat.zero_le _⟩ (fun H locs q_t hM hS => ?_)
      refine x_if_eq_t (tgt := 46) B dX11_wrong_41 (by decide) (by decide) ?_
      refine x_aload_n B hl dX11_wrong_46 rfl ?_
      refine mo_geta E hM 36 0 rfl (hts (.fieldLink RX11 96 "BinRoundsModel" "binOf" "[I") (by decide +kernel)) rfl dX11_wrong_47 ?_
      refine x_iload_n B hl dX11_wrong_50 rfl ?_
      refine mo_ld (k := 36) E hM rfl (by have h9 : mLn 36 = 600 := rfl; omega) (by decide) dX11_wrong_51 (up_ne (by decide) rfl) (fun r_51 => ?_)
      refine x_istore_n B hl dX11_wrong_52 (by decide) (fun ls hl => ?_)
      refine x_aload_n B hl dX11_wrong_53 rfl ?_
      refine x_iload_n B hl dX11_wrong_54 rfl ?_
      refine x_if_lt (tgt := 78) B dX11_wrong_55 (by decide) (by omega) (fun c_55 => ?_) (fun c_55 => ?_)
      · refine x_iconst B dX11_wrong_78 ?_
        refine x_goto (tgt := 83) B dX11_wrong_79 (by decide) ?_
        refine x_iconst B dX11_wrong_83 ?_
        refine mo_call E hM hS hl (m_throwsIf_1 l D cy o ad _ _ (by decide)) (cwV 2 hts0 gX11_wrong_X11_throwsIf rfl rfl rfl (by decide +kernel) ⟨Nat.le_of_ble_eq_true rfl, Nat.le_of_ble_eq_true rfl⟩) rfl rfl (Nat.le_of_ble_eq_true rfl) dX11_wrong_84 ⟨Nat.zero_le _, Nat.zero_le _⟩ (fun H locs q_t hM hS => ?_)
        refine x_if_eq_f (tgt := 92) B dX11_wrong_87 (by decide) (by decide) ?_
        refine x_iconst B dX11_wrong_90 ?_
        first | (have hc : wrongC σ t = 1 := (by first | rfl | (unfold wrongC; omega)); exact mo_iretx E hr (by first | rfl | exact nar_b (by assumption)) hlk hM hS dX11_wrong_91 (by first | (rw [if_neg (by rw [hc]; decide)]; done) | (rw [if_neg (by rw [hc]; decide)]; rfl)) (pE hc (by decide))) | (have hc : wrongC σ t = 2 := (by first | rfl | (unfold wrongC; omega)); exact mo_iretx E hr (by first | rfl | exact nar_b (by assumption)) hlk hM hS dX11_wrong_91 (by first | (rw [if_neg (by rw [hc]; decide)]; done) | (rw [if_neg (by rw [hc]; decide)]; rfl)) (pE hc (by decide))) | (have hc : wrongC σ t = 3 := (by first | rfl | (unfold wrongC; omega)); exact mo_iretx E hr (by first | rfl | exact nar_b (by assumption)) hlk hM hS dX11_wrong_91 (by first | (rw [if_neg (by rw [hc]; decide)]; done) | (rw [if_neg (by rw [hc]; decide)]; rfl)) (pE hc (by decide))) | (have hc : wrongC σ t = 0 := (by first | rfl | (unfold wrongC; omega)); exact mo_iretx E hr (by first | rfl | exact nar_b (by assumption)) hlk hM hS dX11_wrong_91 (by first | (rw [if_pos hc]; done) | (rw [if_pos hc]; rfl) | (rw [if_pos hc]; congr 1; omega) | (rw [if_pos hc]; congr 1; unfold wrongR; omega)) (pO hc (by first | rfl | (simp only [up_rd]; rfl) | simp [up_rd]) (by first | exact (sEq.u sEq.z) | exact sEq.rf)))
      · refine x_aload_n B hl dX11_wrong_58 rfl ?_
        refine mo_geta E hM 12 0 rfl (hts (.fieldLink RX11 36 "BinRoundsModel" "kind" "[I") (by decide +kernel)) rfl dX11_wrong_59 ?_
        refine x_iload_n B hl dX11_wrong_62 rfl ?_
        refine mo_ld (k := 12) E hM rfl (by have h9 : mLn 12 = 120 := rfl; omega) (by decide) dX11_wrong_63 (up_ne (by decide) rfl) (fun r_63 => ?_)
        refine x_iconst B dX11_wrong_64 ?_
        refine x_icmp_eq (tgt := 82) B dX11_wrong_65 (by decide) (by omega) (by omega) (fun c_65 => ?_) (fun c_65 => ?_)
        · refine x_iconst B dX11_wrong_82 ?_
          refine x_iconst B dX11_wrong_83 ?_
          refine mo_call E hM hS hl (m_throwsIf_0 l D cy o ad _ _ (by decide)) (cwV 2 hts0 gX11_wrong_X11_throwsIf rfl rfl rfl (by decide +kernel) ⟨Nat.le_of_ble_eq_true rfl, Nat.le_of_ble_eq_true rfl⟩) rfl rfl (Nat.le_of_ble_eq_true rfl) dX11_wrong_84 ⟨Nat.zero_le _, Nat.zero_le _⟩ (fun H locs q_t hM hS => ?_)
          refine x_if_eq_t (tgt := 92) B dX11_wrong_87 (by decide) (by decide) ?_
          refine x_aload_n B hl dX11_wrong_92 rfl ?_
          refine mo_geta E hM 41 1 rfl (hts (.fieldLink RX11 111 "BinRoundsModel" "toldWrong" "[Z") (by decide +kernel)) rfl dX11_wrong_93 ?_
          refine x_iload_n B hl dX11_wrong_96 rfl ?_
          refine mo_zld (k := 41) E hM rfl (by have h9 : mLn 41 = 600 := rfl; omega) (by decide) dX11_wrong_97 (up_ne (by decide) rfl) (fun r_97 => ?_)
          refine x_istore_n B hl dX11_wrong_98 (by decide) (fun ls hl => ?_)
          refine x_aload_n B hl dX11_wrong_99 rfl ?_
          refine mo_geta E hM 41 1 rfl (hts (.fieldLink RX11 111 "BinRoundsModel" "toldWrong" "[Z") (by decide +kernel)) rfl dX11_wrong_100 ?_
          refine x_iload_n B hl dX11_wrong_103 rfl ?_
          refine x_iconst B dX11_wrong_104 ?_
          refine mo_zst (k := 41) E hM hS rfl (by have h9 : mLn 41 = 600 := rfl; omega) (by decide) (by omega) dX11_wrong_105 (fun H locs hM hS => ?_)
          refine x_iload_n B hl dX11_wrong_106 rfl ?_
          refine x_if_ne (tgt := 114) B dX11_wrong_107 (by decide) (by omega) (fun c_107 => ?_) (fun c_107 => ?_)
          · refine x_iconst B dX11_wrong_114 ?_
            first | (have hc : wrongC σ t = 1 := (by first | rfl | (unfold wrongC; omega)); exact mo_iretx E hr (by first | rfl | exact nar_b (by assumption)) hlk hM hS dX11_wrong_115 (by first | (rw [if_neg (by rw [hc]; decide)]; done) | (rw [if_neg (by rw [hc]; decide)]; rfl)) (pE hc (by decide))) | (have hc : wrongC σ t = 2 := (by first | rfl | (unfold wrongC; omega)); exact mo_iretx E hr (by first | rfl | exact nar_b (by assumption)) hlk hM hS dX11_wrong_115 (by first | (rw [if_neg (by rw [hc]; decide)]; done) | (rw [if_neg (by rw [hc]; decide)]; rfl)) (pE hc (by decide))) | (have hc : wrongC σ t = 3 := (by first | rfl | (unfold wrongC; omega)); exact mo_iretx E hr (by first | rfl | exact nar_b (by assumption)) hlk hM hS dX11_wrong_115 (by first | (rw [if_neg (by rw [hc]; decide)]; done) | (rw [if_neg (by rw [hc]; decide)]; rfl)) (pE hc (by decide))) | (have hc : wrongC σ t = 0 := (by first | rfl | (unfold wrongC; omega)); exact mo_iretx E hr (by first | rfl | exact nar_b (by assumption)) hlk hM hS dX11_wrong_115 (by first | (rw [if_pos hc]; done) | (rw [if_pos hc]; rfl) | (rw [if_pos hc]; congr 1; omega) | (rw [if_pos hc]; congr 1; unfold wrongR; omega)) (pO hc (by first | rfl | (simp only [up_rd]; rfl) | simp [up_rd]) (by first | exact (sEq.u sEq.z) | exact sEq.rf)))
          · refine x_iconst B dX11_wrong_110 ?_
            refine x_goto (tgt := 115) B dX11_wrong_111 (by decide) ?_
            first | (have hc : wrongC σ t = 1 := (by first | rfl | (unfold wrongC; omega)); exact mo_iretx E hr (by first | rfl | exact nar_b (by assumption)) hlk hM hS dX11_wrong_115 (by first | (rw [if_neg (by rw [hc]; decide)]; done) | (rw [if_neg (by rw [hc]; decide)]; rfl)) (pE hc (by decide))) | (have hc : wrongC σ t = 2 := (by first | rfl | (unfold wrongC; omega)); exact mo_iretx E hr (by first | rfl | exact nar_b (by assumption)) hlk hM hS dX11_wrong_115 (by first | (rw [if_neg (by rw [hc]; decide)]; done) | (rw [if_neg (by rw [hc]; decide)]; rfl)) (pE hc (by decide))) | (have hc : wrongC σ t = 3 := (by first | rfl | (unfold wrongC; omega)); exact mo_iretx E hr (by first | rfl | exact nar_b (by assumption)) hlk hM hS dX11_wrong_115 (by first | (rw [if_neg (by rw [hc]; decide)]; done) | (rw [if_neg (by rw [hc]; decide)]; rfl)) (pE hc (by decide))) | (have hc : wrongC σ t = 0 := (by first | rfl | (unfold wrongC; omega)); exact mo_iretx E hr (by first | rfl | exact nar_b (by assumption)) hlk hM hS dX11_wrong_115 (by first | (rw [if_pos hc]; done) | (rw [if_pos hc]; rfl) | (rw [if_pos hc]; congr 1; omega) | (rw [if_pos hc]; congr 1; unfold wrongR; omega)) (pO hc (by first | rfl | (simp only [up_rd]; rfl) | simp [up_rd]) (by first | exact (sEq.u sEq.z) | exact sEq.rf)))
        · refine x_aload_n B hl dX11_wrong_68 rfl ?_
          refine mo_geta E hM 12 0 rfl (hts (.fieldLink RX11 36 "BinRoundsModel" "kind" "[I") (by decide +kernel)) rfl dX11_wrong_69 ?_
          refine x_iload_n B hl dX11_wrong_72 rfl ?_
          refine mo_ld (k := 12) E hM rfl (by have h9 : mLn 12 = 120 := rfl; omega) (by decide) dX11_wrong_73 (up_ne (by decide) rfl) (fun r_73 => ?_)
          refine x_iconst B dX11_wrong_74 ?_
          refine x_icmp_eq (tgt := 82) B dX11_wrong_75 (by decide) (by omega) (by omega) (fun c_75 => ?_) (fun c_75 => ?_)
          · refine x_iconst B dX11_wrong_82 ?_
            refine x_iconst B dX11_wrong_83 ?_
            refine mo_call E hM hS hl (m_throwsIf_0 l D cy o ad _ _ (by decide)) (cwV 2 hts0 gX11_wrong_X11_throwsIf rfl rfl rfl (by decide +kernel) ⟨Nat.le_of_ble_eq_true rfl, Nat.le_of_ble_eq_true rfl⟩) rfl rfl (Nat.le_of_ble_eq_true rfl) dX11_wrong_84 ⟨Nat.zero_le _, Nat.zero_le _⟩ (fun H locs q_t hM hS => ?_)
            refine x_if_eq_t (tgt := 92) B dX11_wrong_87 (by decide) (by decide) ?_
            refine x_aload_n B hl dX11_wrong_92 rfl ?_
            refine mo_geta E hM 41 1 rfl (hts (.fieldLink RX11 111 "BinRoundsModel" "toldWrong" "[Z") (by decide +kernel)) rfl dX11_wrong_93 ?_
            refine x_iload_n B hl dX11_wrong_96 rfl ?_
            refine mo_zld (k := 41) E hM rfl (by have h9 : mLn 41 = 600 := rfl; omega) (by decide) dX11_wrong_97 (up_ne (by decide) rfl) (fun r_97 => ?_)
            refine x_istore_n B hl dX11_wrong_98 (by decide) (fun ls hl => ?_)
            refine x_aload_n B hl dX11_wrong_99 rfl ?_
            refine mo_geta E hM 41 1 rfl (hts (.fieldLink RX11 111 "BinRoundsModel" "toldWrong" "[Z") (by decide +kernel)) rfl dX11_wrong_100 ?_
            refine x_iload_n B hl dX11_wrong_103 rfl ?_
            refine x_iconst B dX11_wrong_104 ?_
            refine mo_zst (k := 41) E hM hS rfl (by have h9 : mLn 41 = 600 := rfl; omega) (by decide) (by omega) dX11_wrong_105 (fun H locs hM hS => ?_)
            refine x_iload_n B hl dX11_wrong_106 rfl ?_
            refine x_if_ne (tgt := 114) B dX11_wrong_107 (by decide) (by omega) (fun c_107 => ?_) (fun c_107 => ?_)
            · refine x_iconst B dX11_wrong_114 ?_
              first | (have hc : wrongC σ t = 1 := (by first | rfl | (unfold wrongC; omega)); exact mo_iretx E hr (by first | rfl | exact nar_b (by assumption)) hlk hM hS dX11_wrong_115 (by first | (rw [if_neg (by rw [hc]; decide)]; done) | (rw [if_neg (by rw [hc]; decide)]; rfl)) (pE hc (by decide))) | (have hc : wrongC σ t = 2 := (by first | rfl | (unfold wrongC; omega)); exact mo_iretx E hr (by first | rfl | exact nar_b (by assumption)) hlk hM hS dX11_wrong_115 (by first | (rw [if_neg (by rw [hc]; decide)]; done) | (rw [if_neg (by rw [hc]; decide)]; rfl)) (pE hc (by decide))) | (have hc : wrongC σ t = 3 := (by first | rfl | (unfold wrongC; omega)); exact mo_iretx E hr (by first | rfl | exact nar_b (by assumption)) hlk hM hS dX11_wrong_115 (by first | (rw [if_neg (by rw [hc]; decide)]; done) | (rw [if_neg (by rw [hc]; decide)]; rfl)) (pE hc (by decide))) | (have hc : wrongC σ t = 0 := (by first | rfl | (unfold wrongC; omega)); exact mo_iretx E hr (by first | rfl | exact nar_b (by assumption)) hlk hM hS dX11_wrong_115 (by first | (rw [if_pos hc]; done) | (rw [if_pos hc]; rfl) | (rw [if_pos hc]; congr 1; omega) | (rw [if_pos hc]; congr 1; unfold wrongR; omega)) (pO hc (by first | rfl | (simp only [up_rd]; rfl) | simp [up_rd]) (by first | exact (sEq.u sEq.z) | exact sEq.rf)))
            · refine x_iconst B dX11_wrong_110 ?_
              refine x_goto (tgt := 115) B dX11_wrong_111 (by decide) ?_
              first | (have hc : wrongC σ t = 1 := (by first | rfl | (unfold wrongC; omega)); exact mo_iretx E hr (by first | rfl | exact nar_b (by assumption)) hlk hM hS dX11_wrong_115 (by first | (rw [if_neg (by rw [hc]; decide)]; done) | (rw [if_neg (by rw [hc]; decide)]; rfl)) (pE hc (by decide))) | (have hc : wrongC σ t = 2 := (by first | rfl | (unfold wrongC; omega)); exact mo_iretx E hr (by first | rfl | exact nar_b (by assumption)) hlk hM hS dX11_wrong_115 (by first | (rw [if_neg (by rw [hc]; decide)]; done) | (rw [if_neg (by rw [hc]; decide)]; rfl)) (pE hc (by decide))) | (have hc : wrongC σ t = 3 := (by first | rfl | (unfold wrongC; omega)); exact mo_iretx E hr (by first | rfl | exact nar_b (by assumption)) hlk hM hS dX11_wrong_115 (by first | (rw [if_neg (by rw [hc]; decide)]; done) | (rw [if_neg (by rw [hc]; decide)]; rfl)) (pE hc (by decide))) | (have hc : wrongC σ t = 0 := (by first | rfl | (unfold wrongC; omega)); exact mo_iretx E hr (by first | rfl | exact nar_b (by assumption)) hlk hM hS dX11_wrong_115 (by first | (rw [if_pos hc]; done) | (rw [if_pos hc]; rfl) | (rw [if_pos hc]; congr 1; omega) | (rw [if_pos hc]; congr 1; unfold wrongR; omega)) (pO hc (by first | rfl | (simp only [up_rd]; rfl) | simp [up_rd]) (by first | exact (sEq.u sEq.z) | exact sEq.rf)))
          · refine x_iconst B dX11_wrong_78 ?_
            refine x_goto (tgt := 83) B dX11_wrong_79 (by decide) ?_
            refine x_iconst B dX11_wrong_83 ?_
            refine mo_call E hM hS hl (m_throwsIf_1 l D cy o ad _ _ (by decide)) (cwV 2 hts0 gX11_wrong_X11_throwsIf rfl rfl rfl (by decide +kernel) ⟨Nat.le_of_ble_eq_true rfl, Nat.le_of_ble_eq_true rfl⟩) rfl rfl (Nat.le_of_ble_eq_true rfl) dX11_wrong_84 ⟨Nat.zero_le _, Nat.zero_le _⟩ (fun H locs q_t hM hS => ?_)
            refine x_if_eq_f (tgt := 92) B dX11_wrong_87 (by decide) (by decide) ?_
            refine x_iconst B dX11_wrong_90 ?_
            first | (have hc : wrongC σ t = 1 := (by first | rfl | (unfold wrongC; omega)); exact mo_iretx E hr (by first | rfl | exact nar_b (by assumption)) hlk hM hS dX11_wrong_91 (by first | (rw [if_neg (by rw [hc]; decide)]; done) | (rw [if_neg (by rw [hc]; decide)]; rfl)) (pE hc (by decide))) | (have hc : wrongC σ t = 2 := (by first | rfl | (unfold wrongC; omega)); exact mo_iretx E hr (by first | rfl | exact nar_b (by assumption)) hlk hM hS dX11_wrong_91 (by first | (rw [if_neg (by rw [hc]; decide)]; done) | (rw [if_neg (by rw [hc]; decide)]; rfl)) (pE hc (by decide))) | (have hc : wrongC σ t = 3 := (by first | rfl | (unfold wrongC; omega)); exact mo_iretx E hr (by first | rfl | exact nar_b (by assumption)) hlk hM hS dX11_wrong_91 (by first | (rw [if_neg (by rw [hc]; decide)]; done) | (rw [if_neg (by rw [hc]; decide)]; rfl)) (pE hc (by decide))) | (have hc : wrongC σ t = 0 := (by first | rfl | (unfold wrongC; omega)); exact mo_iretx E hr (by first | rfl | exact nar_b (by assumption)) hlk hM hS dX11_wrong_91 (by first | (rw [if_pos hc]; done) | (rw [if_pos hc]; rfl) | (rw [if_pos hc]; congr 1; omega) | (rw [if_pos hc]; congr 1; unfold wrongR; omega)) (pO hc (by first | rfl | (simp only [up_rd]; rfl) | simp [up_rd]) (by first | exact (sEq.u sEq.z) | exact sEq.rf)))
    · refine x_iconst B dX11_wrong_32 ?_
      refine x_goto (tgt := 37) B dX11_wrong_33 (by decide) ?_
      refine x_iconst B dX11_wrong_37 ?_
      refine mo_call E hM hS hl (m_throwsIf_1 l D cy o ad _ _ (by decide)) (cwV 2 hts0 gX11_wrong_X11_throwsIf rfl rfl rfl (by decide +kernel) ⟨Nat.le_of_ble_eq_true rfl, Nat.le_of_ble_eq_true rfl⟩) rfl rfl (Nat.le_of_ble_eq_true rfl) dX11_wrong_38 ⟨Nat.zero_le _, Nat.zero_le _⟩ (fun H locs q_t hM hS => ?_)
      refine x_if_eq_f (tgt := 46) B dX11_wrong_41 (by decide) (by decide) ?_
      refine x_iconst B dX11_wrong_44 ?_
      first | (have hc : wrongC σ t = 1 := (by first | rfl | (unfold wrongC; omega)); exact mo_iretx E hr (by first | rfl | exact nar_b (by assumption)) hlk hM hS dX11_wrong_45 (by first | (rw [if_neg (by rw [hc]; decide)]; done) | (rw [if_neg (by rw [hc]; decide)]; rfl)) (pE hc (by decide))) | (have hc : wrongC σ t = 2 := (by first | rfl | (unfold wrongC; omega)); exact mo_iretx E hr (by first | rfl | exact nar_b (by assumption)) hlk hM hS dX11_wrong_45 (by first | (rw [if_neg (by rw [hc]; decide)]; done) | (rw [if_neg (by rw [hc]; decide)]; rfl)) (pE hc (by decide))) | (have hc : wrongC σ t = 3 := (by first | rfl | (unfold wrongC; omega)); exact mo_iretx E hr (by first | rfl | exact nar_b (by assumption)) hlk hM hS dX11_wrong_45 (by first | (rw [if_neg (by rw [hc]; decide)]; done) | (rw [if_neg (by rw [hc]; decide)]; rfl)) (pE hc (by decide))) | (have hc : wrongC σ t = 0 := (by first | rfl | (unfold wrongC; omega)); exact mo_iretx E hr (by first | rfl | exact nar_b (by assumption)) hlk hM hS dX11_wrong_45 (by first | (rw [if_pos hc]; done) | (rw [if_pos hc]; rfl) | (rw [if_pos hc]; congr 1; omega) | (rw [if_pos hc]; congr 1; unfold wrongR; omega)) (pO hc (by first | rfl | (simp only [up_rd]; rfl) | simp [up_rd]) (by first | exact (sEq.u sEq.z) | exact sEq.rf)))
set_option maxHeartbeats 4000000 in
set_option maxRecDepth 100000 in
theorem m_p_gate (l : Launch) (D : va_G) (cy : Nat → ClassId) (o : Nat) (ad : Nat → Nat) (σ : MS) {q h : Int} {n : Int} (I : sInv n σ) (h_q : -2147483648 ≤ q ∧ q < 2147483648) (h_h : -2147483648 ≤ h ∧ h < 2147483648)  : MX l yX11_gate wsX11_gate ({ frames := 1, cells := 0, slots := 0, locals := 25 } : Room) D cy o ad [.int (iI q), .int (iI h)] σ (none) (fun τ => pEnd (gateC σ q h) (gateS σ q h) σ τ) := by
  refine mx_of (cc := cX11_gate) (nL := 3) (ret := none) (by decide) rfl rfl (fun w h => List.mem_cons_of_mem _ (List.mem_append_right _ h)) (Nat.le_of_ble_eq_true rfl) ⟨rfl, rfl⟩ ?_
  intro p e s m args below meth c ls E hr hlk hM hS hl
  have B := E.1
  have hml := E.2.1
  have hown := E.2.2.1
  have hts0 := E.2.2.2.1
  have hts := E.2.2.2.1
  have hw := hM.2.2.2
  have I0 := I
  obtain ⟨hn9, hOp, hnS, hnH, hnB, hnC, hnT, hPr, hTol, v3, v4, v6, v7, v12, v15, v16, v17, v18, v19, v20, v21, v22, v24, v25, v26, v28, v29, v32, v33, v35, v36, v37, v38, v39, v42, v43, v44, v40, vm⟩ := I
  refine x_aload_n B hl dX11_gate_0 rfl ?_
  refine x_iconst B dX11_gate_1 ?_
  refine mo_put E hM hS 0 rfl (hts (.fieldLink RX11 129 "BinRoundsModel" "thrown" "I") (by decide +kernel)) rfl rfl (by decide +kernel) (by omega) dX11_gate_2 (fun H locs hM hS => ?_)
  refine x_aload_n B hl dX11_gate_5 rfl ?_
  refine x_aload_n B hl dX11_gate_6 rfl ?_
  refine x_iload_n B hl dX11_gate_7 rfl ?_
  refine mo_call E hM hS hl (m_noCartk l D cy o ad _ (up_ne (by decide) rfl) (by omega)) (cwV 1 hts0 gX11_gate_X11_noCart rfl rfl rfl (by decide +kernel) ⟨Nat.le_of_ble_eq_true rfl, Nat.le_of_ble_eq_true rfl⟩) rfl rfl (Nat.le_of_ble_eq_true rfl) dX11_gate_8 ⟨Nat.zero_le _, Nat.zero_le _⟩ (fun H locs q_8 hM hS => ?_)
  refine x_bool (fun b_8 => ?_) (fun b_8 => ?_)
  · refine x_iconst B dX11_gate_11 ?_
    refine mo_call E hM hS hl (m_throwsIf_1 l D cy o ad _ _ (by decide)) (cwV 2 hts0 gX11_gate_X11_throwsIf rfl rfl rfl (by decide +kernel) ⟨Nat.le_of_ble_eq_true rfl, Nat.le_of_ble_eq_true rfl⟩) rfl rfl (Nat.le_of_ble_eq_true rfl) dX11_gate_12 ⟨Nat.zero_le _, Nat.zero_le _⟩ (fun H locs q_t hM hS => ?_)
    refine x_if_ne_t (tgt := 43) B dX11_gate_15 (by decide) (by decide) ?_
    first | (have hc : gateC σ q h = 1 := (by first | rfl | (unfold gateC; omega)); exact mo_vretx E hr hlk hM hS dX11_gate_43 (pE hc (by decide))) | (have hc : gateC σ q h = 2 := (by first | rfl | (unfold gateC; omega)); exact mo_vretx E hr hlk hM hS dX11_gate_43 (pE hc (by decide))) | (have hc : gateC σ q h = 3 := (by first | rfl | (unfold gateC; omega)); exact mo_vretx E hr hlk hM hS dX11_gate_43 (pE hc (by decide))) | (have hc : gateC σ q h = 0 := (by first | rfl | (unfold gateC; omega)); exact mo_vretx E hr hlk hM hS dX11_gate_43 (pO hc (by first | rfl | (simp only [up_rd]; rfl) | simp [up_rd]) (by first | exact (sEq.u sEq.z) | exact sEq.rf)))
  · refine x_iconst B dX11_gate_11 ?_
    refine mo_call E hM hS hl (m_throwsIf_0 l D cy o ad _ _ (by decide)) (cwV 2 hts0 gX11_gate_X11_throwsIf rfl rfl rfl (by decide +kernel) ⟨Nat.le_of_ble_eq_true rfl, Nat.le_of_ble_eq_true rfl⟩) rfl rfl (Nat.le_of_ble_eq_true rfl) dX11_gate_12 ⟨Nat.zero_le _, Nat.zero_le _⟩ (fun H locs q_t hM hS => ?_)
    refine x_if_ne_f (tgt := 43) B dX11_gate_15 (by decide) (by decide) ?_
    refine x_aload_n B hl dX11_gate_18 rfl ?_
    refine x_iload_n B hl dX11_gate_19 rfl ?_
    refine x_i2l B dX11_gate_20 (by omega) ?_
    refine x_lconst B dX11_gate_21 ?_
    refine lv_ldc2 (v := lI 1000000) B.1 B.2 hown (hts (.constantLong RX11 236 (1000000)) (by decide +kernel)) dX11_gate_22 ?_
    refine z_call ⟨B.1, B.2, hml, hown, hts0⟩ hl (m_in l (by omega) (by omega) (by omega)) (va_cwS 3 hts0 gX11_gate_X11_in rfl rfl rfl (by decide +kernel) ⟨Nat.le_of_ble_eq_true rfl, Nat.le_of_ble_eq_true rfl⟩) rfl rfl (Nat.le_of_ble_eq_true rfl) dX11_gate_25 ⟨Nat.zero_le _, Nat.zero_le _⟩ (fun q_25 => ?_)
    refine x_bool (fun b_25 => ?_) (fun b_25 => ?_)
    · refine x_if_ne_t (tgt := 35) B dX11_gate_28 (by decide) (by decide) ?_
      refine x_iconst B dX11_gate_35 ?_
      refine x_iconst B dX11_gate_36 ?_
      refine mo_call E hM hS hl (m_throwsIf_0 l D cy o ad _ _ (by decide)) (cwV 2 hts0 gX11_gate_X11_throwsIf rfl rfl rfl (by decide +kernel) ⟨Nat.le_of_ble_eq_true rfl, Nat.le_of_ble_eq_true rfl⟩) rfl rfl (Nat.le_of_ble_eq_true rfl) dX11_gate_37 ⟨Nat.zero_le _, Nat.zero_le _⟩ (fun H locs q_t hM hS => ?_)
      refine x_if_eq_t (tgt := 44) B dX11_gate_40 (by decide) (by decide) ?_
      refine x_aload_n B hl dX11_gate_44 rfl ?_
      refine mo_geta E hM 26 0 rfl (hts (.fieldLink RX11 75 "BinRoundsModel" "gates" "[I") (by decide +kernel)) rfl dX11_gate_45 ?_
      refine x_iload_n B hl dX11_gate_48 rfl ?_
      refine x_iload_n B hl dX11_gate_49 rfl ?_
      refine mo_st (k := 26) E hM hS rfl (by have h9 : mLn 26 = 5 := rfl; omega) (by decide) (by omega) dX11_gate_50 (fun H locs hM hS => ?_)
      first | (have hc : gateC σ q h = 1 := (by first | rfl | (unfold gateC; omega)); exact mo_vretx E hr hlk hM hS dX11_gate_51 (pE hc (by decide))) | (have hc : gateC σ q h = 2 := (by first | rfl | (unfold gateC; omega)); exact mo_vretx E hr hlk hM hS dX11_gate_51 (pE hc (by decide))) | (have hc : gateC σ q h = 3 := (by first | rfl | (unfold gateC; omega)); exact mo_vretx E hr hlk hM hS dX11_gate_51 (pE hc (by decide))) | (have hc : gateC σ q h = 0 := (by first | rfl | (unfold gateC; omega)); exact mo_vretx E hr hlk hM hS dX11_gate_51 (pO hc (by first | rfl | (simp only [up_rd]; rfl) | simp [up_rd]) (by first | exact (sEq.u sEq.z) | exact sEq.rf)))
    · refine x_if_ne_f (tgt := 35) B dX11_gate_28 (by decide) (by decide) ?_
      refine x_iconst B dX11_gate_31 ?_
      refine x_goto (tgt := 36) B dX11_gate_32 (by decide) ?_
      refine x_iconst B dX11_gate_36 ?_
      refine mo_call E hM hS hl (m_throwsIf_1 l D cy o ad _ _ (by decide)) (cwV 2 hts0 gX11_gate_X11_throwsIf rfl rfl rfl (by decide +kernel) ⟨Nat.le_of_ble_eq_true rfl, Nat.le_of_ble_eq_true rfl⟩) rfl rfl (Nat.le_of_ble_eq_true rfl) dX11_gate_37 ⟨Nat.zero_le _, Nat.zero_le _⟩ (fun H locs q_t hM hS => ?_)
      refine x_if_eq_f (tgt := 44) B dX11_gate_40 (by decide) (by decide) ?_
      first | (have hc : gateC σ q h = 1 := (by first | rfl | (unfold gateC; omega)); exact mo_vretx E hr hlk hM hS dX11_gate_43 (pE hc (by decide))) | (have hc : gateC σ q h = 2 := (by first | rfl | (unfold gateC; omega)); exact mo_vretx E hr hlk hM hS dX11_gate_43 (pE hc (by decide))) | (have hc : gateC σ q h = 3 := (by first | rfl | (unfold gateC; omega)); exact mo_vretx E hr hlk hM hS dX11_gate_43 (pE hc (by decide))) | (have hc : gateC σ q h = 0 := (by first | rfl | (unfold gateC; omega)); exact mo_vretx E hr hlk hM hS dX11_gate_43 (pO hc (by first | rfl | (simp only [up_rd]; rfl) | simp [up_rd]) (by first | exact (sEq.u sEq.z) | exact sEq.rf)))
