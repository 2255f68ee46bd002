theorem m_chargeOfc (l : Launch) (D : va_G) (cy : Nat → ClassId) (o : Nat) (ad : Nat → Nat) (τ σ : MS) (hτ : sEq τ σ) {n t : Int} (I : sInv n σ) (ht : 0 ≤ t ∧ t < 600) : MM l yX11_chargeOf wsX11_chargeOf ({ frames := 3, cells := 0, slots := 0, locals := 69 } : Room) D cy o ad [.int (iI t)] τ (some (.long (lI (sChg σ t)))) τ True := by
  obtain ⟨hn9, hOp, hnS, hnH, hnB, hnC, hnT, hPr, hTol, v3, v4, v6, v7, v12, v15, v16, v17, v18, v19, v20, v21, v22, v24, v25, v26, v28, v29, v32, v33, v35, v36, v37, v38, v39, v42, v43, v44, v40, vm⟩ := I
  rw [← sChg_e hτ]
  exact m_chargeOf l D cy o ad τ ht (by rw [hτ.at 40 rfl, hτ.at 36 rfl]; exact fun q => ⟨v40 _ q, (v36 _).2⟩) (by rw [hτ.at 40 rfl, hτ.at 22 rfl, hτ.at 36 rfl]; exact fun _ => v22 _) (by rw [hτ.at 40 rfl, hτ.at 18 rfl, hτ.at 36 rfl]; exact fun _ => v18 _) (by rw [hτ.at 11 rfl]; exact hnH) (by rw [hτ.at 20 rfl]; exact v20)
theorem m_shareOfc (l : Launch) (D : va_G) (cy : Nat → ClassId) (o : Nat) (ad : Nat → Nat) (τ σ : MS) (hτ : sEq τ σ) {n t h : Int} (I : sInv n σ) (ht : 0 ≤ t ∧ t < 600) (hh : 0 ≤ h ∧ h < 60) : MM l yX11_shareOf wsX11_shareOf ({ frames := 4, cells := 0, slots := 0, locals := 90 } : Room) D cy o ad [.int (iI t), .int (iI h)] τ (some (.long (lI (sShr σ t h)))) τ True := by
  obtain ⟨hn9, hOp, hnS, hnH, hnB, hnC, hnT, hPr, hTol, v3, v4, v6, v7, v12, v15, v16, v17, v18, v19, v20, v21, v22, v24, v25, v26, v28, v29, v32, v33, v35, v36, v37, v38, v39, v42, v43, v44, v40, vm⟩ := I
  rw [← sShr_e hτ]
  exact m_shareOf l D cy o ad τ ht (by rw [hτ.at 40 rfl, hτ.at 36 rfl]; exact fun q => ⟨v40 _ q, (v36 _).2⟩) (by rw [hτ.at 22 rfl]; exact v22) (by rw [hτ.at 18 rfl]; exact v18) (by rw [hτ.at 11 rfl]; exact hnH) (by rw [hτ.at 20 rfl]; exact v20) (by rw [hτ.at 42 rfl]; exact v42) (by rw [hτ.at 43 rfl]; exact v43) (by rw [hτ.at 39 rfl]; exact v39) hh
theorem m_chargedToc (l : Launch) (D : va_G) (cy : Nat → ClassId) (o : Nat) (ad : Nat → Nat) (τ σ : MS) (hτ : sEq τ σ) {n h : Int} (I : sInv n σ) (hh : 0 ≤ h ∧ h < 60) : MM l yX11_chargedTo wsX11_chargedTo ({ frames := 5, cells := 0, slots := 0, locals := 121 } : Room) D cy o ad [.int (iI h)] τ (some (.long (lI (sChd σ h)))) τ True := by
  obtain ⟨hn9, hOp, hnS, hnH, hnB, hnC, hnT, hPr, hTol, v3, v4, v6, v7, v12, v15, v16, v17, v18, v19, v20, v21, v22, v24, v25, v26, v28, v29, v32, v33, v35, v36, v37, v38, v39, v42, v43, v44, v40, vm⟩ := I
  rw [← sChd_e hτ]
  exact m_chargedTo l D cy o ad τ (by rw [hτ.at 45 rfl]; exact hnT) (by rw [hτ.at 40 rfl, hτ.at 36 rfl]; exact fun _ q => ⟨v40 _ q, (v36 _).2⟩) (by rw [hτ.at 22 rfl]; exact v22) (by rw [hτ.at 18 rfl]; exact v18) (by rw [hτ.at 11 rfl]; exact hnH) (by rw [hτ.at 20 rfl]; exact v20) (by rw [hτ.at 42 rfl]; exact v42) (by rw [hτ.at 43 rfl]; exact v43) (by rw [hτ.at 39 rfl]; exact v39) hh
theorem m_halvesTodayc (l : Launch) (D : va_G) (cy : Nat → ClassId) (o : Nat) (ad : Nat → Nat) (τ σ : MS) (hτ : sEq τ σ) {n q : Int} (I : sInv n σ) (hq : -2147483648 ≤ q ∧ q < 2147483648) : MM l yX11_halvesToday wsX11_halvesToday ({ frames := 0, cells := 0, slots := 0, locals := 0 } : Room) D cy o ad [.int (iI q)] τ (some (.int (iI (sHalves σ q)))) τ (0 ≤ sHalves σ q ∧ sHalves σ q ≤ 1800000000) := by
  obtain ⟨hn9, hOp, hnS, hnH, hnB, hnC, hnT, hPr, hTol, v3, v4, v6, v7, v12, v15, v16, v17, v18, v19, v20, v21, v22, v24, v25, v26, v28, v29, v32, v33, v35, v36, v37, v38, v39, v42, v43, v44, v40, vm⟩ := I
  rw [← sHalves_e hτ]
  exact m_halvesToday l D cy o ad τ hq (by rw [hτ.at 45 rfl]; exact hnT) (by rw [hτ.at 45 rfl, hτ.at 35 rfl]; exact fun t _ _ => v35 t)
theorem m_agreesc (l : Launch) (D : va_G) (cy : Nat → ClassId) (o : Nat) (ad : Nat → Nat) (τ σ : MS) (hτ : sEq τ σ) {n q : Int} (I : sInv n σ) (hq : 0 ≤ q ∧ q < 5) : MM l yX11_agrees wsX11_agrees ({ frames := 1, cells := 0, slots := 0, locals := 23 } : Room) D cy o ad [.int (iI q)] τ (some (.int (iI (if sAgr σ q then 1 else 0)))) τ True := by
  obtain ⟨hn9, hOp, hnS, hnH, hnB, hnC, hnT, hPr, hTol, v3, v4, v6, v7, v12, v15, v16, v17, v18, v19, v20, v21, v22, v24, v25, v26, v28, v29, v32, v33, v35, v36, v37, v38, v39, v42, v43, v44, v40, vm⟩ := I
  have e : (if sAgr σ q then (1 : Int) else 0) = if sAgr τ q then 1 else 0 := by
    by_cases h : sAgr σ q
    · rw [if_pos h, if_pos ((sAgr_e hτ q).mpr h)]
    · rw [if_neg h, if_neg (fun z => h ((sAgr_e hτ q).mp z))]
  rw [e]
  exact m_agrees l D cy o ad τ hq (by rw [hτ.at 31 rfl]; exact hTol) (by rw [hτ.at 26 rfl]; exact v26 q) (by rw [hτ.at 45 rfl]; exact hnT) (by rw [hτ.at 45 rfl, hτ.at 35 rfl]; exact fun t _ _ => v35 t)
theorem m_dayOfc (l : Launch) (D : va_G) (cy : Nat → ClassId) (o : Nat) (ad : Nat → Nat) (τ σ : MS) (hτ : sEq τ σ) {n st g wk : Int} (I : sInv n σ) (hst : 0 ≤ st ∧ st < 10) (hg : 0 ≤ g ∧ g < 3) (hwk : 0 ≤ wk ∧ wk ≤ 110) : MM l yX11_dayOf wsX11_dayOf ({ frames := 1, cells := 0, slots := 0, locals := 21 } : Room) D cy o ad [.int (iI st), .int (iI g), .int (iI wk)] τ (some (.int (iI (sDay σ st g wk)))) τ (-2 ≤ sDay σ st g wk ∧ sDay σ st g wk ≤ 800) := by
  obtain ⟨hn9, hOp, hnS, hnH, hnB, hnC, hnT, hPr, hTol, v3, v4, v6, v7, v12, v15, v16, v17, v18, v19, v20, v21, v22, v24, v25, v26, v28, v29, v32, v33, v35, v36, v37, v38, v39, v42, v43, v44, v40, vm⟩ := I
  rw [← sDay_e hτ]
  exact m_dayOf l D cy o ad τ hst hg hwk (by rw [hτ.at 4 rfl]; exact v4 _)
theorem m_houseOfs (l : Launch) (D : va_G) (cy : Nat → ClassId) (o : Nat) (ad : Nat → Nat) (τ σ : MS) (hτ : sEq τ σ) {n b d : Int} (I : sInv n σ) (hb : 0 ≤ b ∧ b < 120) (hd : -2147483648 ≤ d ∧ d < 2147483648) : MM l yX11_houseOf wsX11_houseOf ({ frames := 0, cells := 0, slots := 0, locals := 0 } : Room) D cy o ad [.int (iI b), .int (iI d)] τ (some (.int (iI (sHouse σ b d)))) τ (-1 ≤ sHouse σ b d ∧ sHouse σ b d < 60) := by
  obtain ⟨hn9, hOp, hnS, hnH, hnB, hnC, hnT, hPr, hTol, v3, v4, v6, v7, v12, v15, v16, v17, v18, v19, v20, v21, v22, v24, v25, v26, v28, v29, v32, v33, v35, v36, v37, v38, v39, v42, v43, v44, v40, vm⟩ := I
  have h9 := sHouse_p v16 b d
  have := m_houseOfc l D cy o ad τ σ (hτ.at 16 rfl) (hτ.at 17 rfl) (hτ.at 18 rfl) hb hd (v18 b)
  rw [show (-1 ≤ sHouse σ b d ∧ sHouse σ b d < 60) = (-2147483648 ≤ sHouse σ b d ∧ sHouse σ b d < 2147483648) by apply propext; omega]
  exact this
set_option maxHeartbeats 4000000 in
set_option maxRecDepth 100000 in
theorem m_p_charge (l : Launch) (D : va_G) (cy : Nat → ClassId) (o : Nat) (ad : Nat → Nat) (σ : MS) {t : Int} {n : Int} (I : sInv n σ) (h_t : -2147483648 ≤ t ∧ t < 2147483648)  : MX l yX11_charge wsX11_charge ({ frames := 4, cells := 0, slots := 0, locals := 90 } : Room) D cy o ad [.int (iI t)] σ (some (.long (lI (if oneC t (σ 45 0) = 0 then sChg σ t else 0)))) (fun τ => pEnd (oneC t (σ 45 0)) (σ) σ τ) := by
  refine mx_of (cc := cX11_charge) (nL := 2) (ret := (some .long)) (by decide) rfl rfl (fun w h => List.mem_cons_of_mem _ (List.mem_append_right _ h)) (Nat.le_of_ble_eq_true rfl) ⟨rfl, rfl⟩ ?_
  intro p e s m args below meth c ls E hr hlk hM hS hl
  have B := E.1
  have hml := E.2.1
  have hown := E.2.2.1
  have hts0 := E.2.2.2.1
  have hts := E.2.2.2.1
  have hw := hM.2.2.2
  have I0 := I
  obtain ⟨hn9, hOp, hnS, hnH, hnB, hnC, hnT, hPr, hTol, v3, v4, v6, v7, v12, v15, v16, v17, v18, v19, v20, v21, v22, v24, v25, v26, v28, v29, v32, v33, v35, v36, v37, v38, v39, v42, v43, v44, v40, vm⟩ := I
  refine x_aload_n B hl dX11_charge_0 rfl ?_
  refine x_iconst B dX11_charge_1 ?_
  refine mo_put E hM hS 0 rfl (hts (.fieldLink RX11 129 "BinRoundsModel" "thrown" "I") (by decide +kernel)) rfl rfl (by decide +kernel) (by omega) dX11_charge_2 (fun H locs hM hS => ?_)
  refine x_aload_n B hl dX11_charge_5 rfl ?_
  refine x_aload_n B hl dX11_charge_6 rfl ?_
  refine x_iload_n B hl dX11_charge_7 rfl ?_
  refine mo_call E hM hS hl (m_noTipk l D cy o ad _ (up_ne (by decide) rfl) (by omega)) (cwV 1 hts0 gX11_charge_X11_noTip rfl rfl rfl (by decide +kernel) ⟨Nat.le_of_ble_eq_true rfl, Nat.le_of_ble_eq_true rfl⟩) rfl rfl (Nat.le_of_ble_eq_true rfl) dX11_charge_8 ⟨Nat.zero_le _, Nat.zero_le _⟩ (fun H locs q_8 hM hS => ?_)
  refine x_bool (fun b_8 => ?_) (fun b_8 => ?_)
  · refine x_iconst B dX11_charge_11 ?_
    refine mo_call E hM hS hl (m_throwsIf_1 l D cy o ad _ _ (by decide)) (cwV 2 hts0 gX11_charge_X11_throwsIf rfl rfl rfl (by decide +kernel) ⟨Nat.le_of_ble_eq_true rfl, Nat.le_of_ble_eq_true rfl⟩) rfl rfl (Nat.le_of_ble_eq_true rfl) dX11_charge_12 ⟨Nat.zero_le _, Nat.zero_le _⟩ (fun H locs q_t hM hS => ?_)
    refine x_if_eq_f (tgt := 22) B dX11_charge_15 (by decide) (by decide) ?_
    refine x_lconst B dX11_charge_18 ?_
    refine x_goto (tgt := 27) B dX11_charge_19 (by decide) ?_
    first | (have hc : oneC t (σ 45 0) = 1 := (by first | rfl | (unfold oneC; omega)); exact mo_lretx E hr hlk hM hS dX11_charge_27 (by first | (rw [if_neg (by rw [hc]; decide)]; done) | (rw [if_neg (by rw [hc]; decide)]; rfl)) (pE hc (by decide))) | (have hc : oneC t (σ 45 0) = 2 := (by first | rfl | (unfold oneC; omega)); exact mo_lretx E hr hlk hM hS dX11_charge_27 (by first | (rw [if_neg (by rw [hc]; decide)]; done) | (rw [if_neg (by rw [hc]; decide)]; rfl)) (pE hc (by decide))) | (have hc : oneC t (σ 45 0) = 3 := (by first | rfl | (unfold oneC; omega)); exact mo_lretx E hr hlk hM hS dX11_charge_27 (by first | (rw [if_neg (by rw [hc]; decide)]; done) | (rw [if_neg (by rw [hc]; decide)]; rfl)) (pE hc (by decide))) | (have hc : oneC t (σ 45 0) = 0 := (by first | rfl | (unfold oneC; omega)); exact mo_lretx E hr hlk hM hS dX11_charge_27 (by first | (rw [if_pos hc]; done) | (rw [if_pos hc]; rfl) | (rw [if_pos hc]; congr 1; omega) | (rw [if_pos hc]; congr 1; unfold sChg; omega)) (pO hc (by first | rfl | (simp only [up_rd]; rfl) | simp [up_rd]) (by first | exact sEq.z | exact sEq.rf)))
  · refine x_iconst B dX11_charge_11 ?_
    refine mo_call E hM hS hl (m_throwsIf_0 l D cy o ad _ _ (by decide)) (cwV 2 hts0 gX11_charge_X11_throwsIf rfl rfl rfl (by decide +kernel) ⟨Nat.le_of_ble_eq_true rfl, Nat.le_of_ble_eq_true rfl⟩) rfl rfl (Nat.le_of_ble_eq_true rfl) dX11_charge_12 ⟨Nat.zero_le _, Nat.zero_le _⟩ (fun H locs q_t hM hS => ?_)
    refine x_if_eq_t (tgt := 22) B dX11_charge_15 (by decide) (by decide) ?_
    refine x_aload_n B hl dX11_charge_22 rfl ?_
    refine x_iload_n B hl dX11_charge_23 rfl ?_
    refine mo_call E hM hS hl (m_chargeOfc l D cy o ad _ σ sEq.z I0 (by omega)) (cwV 1 hts0 gX11_charge_X11_chargeOf rfl rfl rfl (by decide +kernel) ⟨Nat.le_of_ble_eq_true rfl, Nat.le_of_ble_eq_true rfl⟩) rfl rfl (Nat.le_of_ble_eq_true rfl) dX11_charge_24 ⟨Nat.zero_le _, Nat.zero_le _⟩ (fun H locs q_c hM hS => ?_)
    first | (have hc : oneC t (σ 45 0) = 1 := (by first | rfl | (unfold oneC; omega)); exact mo_lretx E hr hlk hM hS dX11_charge_27 (by first | (rw [if_neg (by rw [hc]; decide)]; done) | (rw [if_neg (by rw [hc]; decide)]; rfl)) (pE hc (by decide))) | (have hc : oneC t (σ 45 0) = 2 := (by first | rfl | (unfold oneC; omega)); exact mo_lretx E hr hlk hM hS dX11_charge_27 (by first | (rw [if_neg (by rw [hc]; decide)]; done) | (rw [if_neg (by rw [hc]; decide)]; rfl)) (pE hc (by decide))) | (have hc : oneC t (σ 45 0) = 3 := (by first | rfl | (unfold oneC; omega)); exact mo_lretx E hr hlk hM hS dX11_charge_27 (by first | (rw [if_neg (by rw [hc]; decide)]; done) | (rw [if_neg (by rw [hc]; decide)]; rfl)) (pE hc (by decide))) | (have hc : oneC t (σ 45 0) = 0 := (by first | rfl | (unfold oneC; omega)); exact mo_lretx E hr hlk hM hS dX11_charge_27 (by first | (rw [if_pos hc]; done) | (rw [if_pos hc]; rfl) | (rw [if_pos hc]; congr 1; omega) | (rw [if_pos hc]; congr 1; unfold sChg; omega)) (pO hc (by first | rfl | (simp only [up_rd]; rfl) | simp [up_rd]) (by first | exact sEq.z | exact sEq.rf)))
set_option maxHeartbeats 4000000 in
set_option maxRecDepth 100000 in
theorem m_p_share (l : Launch) (D : va_G) (cy : Nat → ClassId) (o : Nat) (ad : Nat → Nat) (σ : MS) {t h : Int} {n : Int} (I : sInv n σ) (h_t : -2147483648 ≤ t ∧ t < 2147483648) (h_h : -2147483648 ≤ h ∧ h < 2147483648)  : MX l yX11_share wsX11_share ({ frames := 5, cells := 0, slots := 0, locals := 121 } : Room) D cy o ad [.int (iI t), .int (iI h)] σ (some (.long (lI (if shareC σ t h = 0 then sShr σ t h else 0)))) (fun τ => pEnd (shareC σ t h) (σ) σ τ) := by
  refine mx_of (cc := cX11_share) (nL := 3) (ret := (some .long)) (by decide) rfl rfl (fun w h => List.mem_cons_of_mem _ (List.mem_append_right _ h)) (Nat.le_of_ble_eq_true rfl) ⟨rfl, rfl⟩ ?_
  intro p e s m args below meth c ls E hr hlk hM hS hl
  have B := E.1
  have hml := E.2.1
  have hown := E.2.2.1
  have hts0 := E.2.2.2.1
  have hts := E.2.2.2.1
  have hw := hM.2.2.2
  have I0 := I
  obtain ⟨hn9, hOp, hnS, hnH, hnB, hnC, hnT, hPr, hTol, v3, v4, v6, v7, v12, v15, v16, v17, v18, v19, v20, v21, v22, v24, v25, v26, v28, v29, v32, v33, v35, v36, v37, v38, v39, v42, v43, v44, v40, vm⟩ := I
  refine x_aload_n B hl dX11_share_0 rfl ?_
  refine x_iconst B dX11_share_1 ?_
  refine mo_put E hM hS 0 rfl (hts (.fieldLink RX11 129 "BinRoundsModel" "thrown" "I") (by decide +kernel)) rfl rfl (by decide +kernel) (by omega) dX11_share_2 (fun H locs hM hS => ?_)
  refine x_aload_n B hl dX11_share_5 rfl ?_
  refine x_aload_n B hl dX11_share_6 rfl ?_
  refine x_iload_n B hl dX11_share_7 rfl ?_
  refine mo_call E hM hS hl (m_noTipk l D cy o ad _ (up_ne (by decide) rfl) (by omega)) (cwV 1 hts0 gX11_share_X11_noTip rfl rfl rfl (by decide +kernel) ⟨Nat.le_of_ble_eq_true rfl, Nat.le_of_ble_eq_true rfl⟩) rfl rfl (Nat.le_of_ble_eq_true rfl) dX11_share_8 ⟨Nat.zero_le _, Nat.zero_le _⟩ (fun H locs q_8 hM hS => ?_)
  refine x_bool (fun b_8 => ?_) (fun b_8 => ?_)
  · refine x_if_ne_t (tgt := 22) B dX11_share_11 (by decide) (by decide) ?_
    refine x_iconst B dX11_share_22 ?_
    refine x_goto (tgt := 27) B dX11_share_23 (by decide) ?_
    refine x_iconst B dX11_share_27 ?_
    refine mo_call E hM hS hl (m_throwsIf_1 l D cy o ad _ _ (by decide)) (cwV 2 hts0 gX11_share_X11_throwsIf rfl rfl rfl (by decide +kernel) ⟨Nat.le_of_ble_eq_true rfl, Nat.le_of_ble_eq_true rfl⟩) rfl rfl (Nat.le_of_ble_eq_true rfl) dX11_share_28 ⟨Nat.zero_le _, Nat.zero_le _⟩ (fun H locs q_t hM hS => ?_)
    refine x_if_eq_f (tgt := 38) B dX11_share_31 (by decide) (by decide) ?_
    refine x_lconst B dX11_share_34 ?_
    refine x_goto (tgt := 44) B dX11_share_35 (by decide) ?_
    first | (have hc : shareC σ t h = 1 := (by first | rfl | (unfold shareC; omega)); exact mo_lretx E hr hlk hM hS dX11_share_44 (by first | (rw [if_neg (by rw [hc]; decide)]; done) | (rw [if_neg (by rw [hc]; decide)]; rfl)) (pE hc (by decide))) | (have hc : shareC σ t h = 2 := (by first | rfl | (unfold shareC; omega)); exact mo_lretx E hr hlk hM hS dX11_share_44 (by first | (rw [if_neg (by rw [hc]; decide)]; done) | (rw [if_neg (by rw [hc]; decide)]; rfl)) (pE hc (by decide))) | (have hc : shareC σ t h = 3 := (by first | rfl | (unfold shareC; omega)); exact mo_lretx E hr hlk hM hS dX11_share_44 (by first | (rw [if_neg (by rw [hc]; decide)]; done) | (rw [if_neg (by rw [hc]; decide)]; rfl)) (pE hc (by decide))) | (have hc : shareC σ t h = 0 := (by first | rfl | (unfold shareC; omega)); exact mo_lretx E hr hlk hM hS dX11_share_44 (by first | (rw [if_pos hc]; done) | (rw [if_pos hc]; rfl) | (rw [if_pos hc]; congr 1; omega) | (rw [if_pos hc]; congr 1; unfold sShr; omega)) (pO hc (by first | rfl | (simp only [up_rd]; rfl) | simp [up_rd]) (by first | exact sEq.z | exact sEq.rf)))
  · refine x_if_ne_f (tgt := 22) B dX11_share_11 (by decide) (by decide) ?_
    refine x_aload_n B hl dX11_share_14 rfl ?_
    refine x_iload_n B hl dX11_share_15 rfl ?_
    refine mo_call E hM hS hl (m_noHousek l D cy o ad _ (up_ne (by decide) rfl) (by omega)) (cwV 1 hts0 gX11_share_X11_noHouse rfl rfl rfl (by decide +kernel) ⟨Nat.le_of_ble_eq_true rfl, Nat.le_of_ble_eq_true rfl⟩) rfl rfl (Nat.le_of_ble_eq_true rfl) dX11_share_16 ⟨Nat.zero_le _, Nat.zero_le _⟩ (fun H locs q_16 hM hS => ?_)
    refine x_bool (fun b_16 => ?_) (fun b_16 => ?_)
    · refine x_if_eq_f (tgt := 26) B dX11_share_19 (by decide) (by decide) ?_
      refine x_iconst B dX11_share_22 ?_
      refine x_goto (tgt := 27) B dX11_share_23 (by decide) ?_
      refine x_iconst B dX11_share_27 ?_
      refine mo_call E hM hS hl (m_throwsIf_1 l D cy o ad _ _ (by decide)) (cwV 2 hts0 gX11_share_X11_throwsIf rfl rfl rfl (by decide +kernel) ⟨Nat.le_of_ble_eq_true rfl, Nat.le_of_ble_eq_true rfl⟩) rfl rfl (Nat.le_of_ble_eq_true rfl) dX11_share_28 ⟨Nat.zero_le _, Nat.zero_le _⟩ (fun H locs q_t hM hS => ?_)
      refine x_if_eq_f (tgt := 38) B dX11_share_31 (by decide) (by decide) ?_
      refine x_lconst B dX11_share_34 ?_
      refine x_goto (tgt := 44) B dX11_share_35 (by decide) ?_
      first | (have hc : shareC σ t h = 1 := (by first | rfl | (unfold shareC; omega)); exact mo_lretx E hr hlk hM hS dX11_share_44 (by first | (rw [if_neg (by rw [hc]; decide)]; done) | (rw [if_neg (by rw [hc]; decide)]; rfl)) (pE hc (by decide))) | (have hc : shareC σ t h = 2 := (by first | rfl | (unfold shareC; omega)); exact mo_lretx E hr hlk hM hS dX11_share_44 (by first | (rw [if_neg (by rw [hc]; decide)]; done) | (rw [if_neg (by rw [hc]; decide)]; rfl)) (pE hc (by decide))) | (have hc : shareC σ t h = 3 := (by first | rfl | (unfold shareC; omega)); exact mo_lretx E hr hlk hM hS dX11_share_44 (by first | (rw [if_neg (by rw [hc]; decide)]; done) | (rw [if_neg (by rw [hc]; decide)]; rfl)) (pE hc (by decide))) | (have hc : shareC σ t h = 0 := (by first | rfl | (unfold shareC; omega)); exact mo_lretx E hr hlk hM hS dX11_share_44 (by first | (rw [if_pos hc]; done) | (rw [if_pos hc]; rfl) | (rw [if_pos hc]; congr 1; omega) | (rw [if_pos hc]; congr 1; unfold sShr; omega)) (pO hc (by first | rfl | (simp only [up_rd]; rfl) | simp [up_rd]) (by first | exact sEq.z | exact sEq.rf)))
    · refine x_if_eq_t (tgt := 26) B dX11_share_19 (by decide) (by decide) ?_
      refine x_iconst B dX11_share_26 ?_
      refine x_iconst B dX11_share_27 ?_
      refine mo_call E hM hS hl (m_throwsIf_0 l D cy o ad _ _ (by decide)) (cwV 2 hts0 gX11_share_X11_throwsIf rfl rfl rfl (by decide +kernel) ⟨Nat.le_of_ble_eq_true rfl, Nat.le_of_ble_eq_true rfl⟩) rfl rfl (Nat.le_of_ble_eq_true rfl) dX11_share_28 ⟨Nat.zero_le _, Nat.zero_le _⟩ (fun H locs q_t hM hS => ?_)
      refine x_if_eq_t (tgt := 38) B dX11_share_31 (by decide) (by decide) ?_
      refine x_aload_n B hl dX11_share_38 rfl ?_
      refine x_iload_n B hl dX11_share_39 rfl ?_
      refine x_iload_n B hl dX11_share_40 rfl ?_
      refine mo_call E hM hS hl (m_shareOfc l D cy o ad _ σ sEq.z I0 (by omega) (by omega)) (cwV 2 hts0 gX11_share_X11_shareOf rfl rfl rfl (by decide +kernel) ⟨Nat.le_of_ble_eq_true rfl, Nat.le_of_ble_eq_true rfl⟩) rfl rfl (Nat.le_of_ble_eq_true rfl) dX11_share_41 ⟨Nat.zero_le _, Nat.zero_le _⟩ (fun H locs q_c hM hS => ?_)
      first | (have hc : shareC σ t h = 1 := (by first | rfl | (unfold shareC; omega)); exact mo_lretx E hr hlk hM hS dX11_share_44 (by first | (rw [if_neg (by rw [hc]; decide)]; done) | (rw [if_neg (by rw [hc]; decide)]; rfl)) (pE hc (by decide))) | (have hc : shareC σ t h = 2 := (by first | rfl | (unfold shareC; omega)); exact mo_lretx E hr hlk hM hS dX11_share_44 (by first | (rw [if_neg (by rw [hc]; decide)]; done) | (rw [if_neg (by rw [hc]; decide)]; rfl)) (pE hc (by decide))) | (have hc : shareC σ t h = 3 := (by first | rfl | (unfold shareC; omega)); exact mo_lretx E hr hlk hM hS dX11_share_44 (by first | (rw [if_neg (by rw [hc]; decide)]; done) | (rw [if_neg (by rw [hc]; decide)]; rfl)) (pE hc (by decide))) | (have hc : shareC σ t h = 0 := (by first | rfl | (unfold shareC; omega)); exact mo_lretx E hr hlk hM hS dX11_share_44 (by first | (rw [if_pos hc]; done) | (rw [if_pos hc]; rfl) | (rw [if_pos hc]; congr 1; omega) | (rw [if_pos hc]; congr 1; unfold sShr; omega)) (pO hc (by first | rfl | (simp only [up_rd]; rfl) | simp [up_rd]) (by first | exact sEq.z | exact sEq.rf)))
set_option maxHeartbeats 4000000 in
set_option maxRecDepth 100000 in
theorem m_p_charged (l : Launch) (D : va_G) (cy : Nat → ClassId) (o : Nat) (ad : Nat → Nat) (σ : MS) {h : Int} {n : Int} (I : sInv n σ) (h_h : -2147483648 ≤ h ∧ h < 2147483648)  : MX l yX11_charged wsX11_charged ({ frames := 6, cells := 0, slots := 0, locals := 145 } : Room) D cy o ad [.int (iI h)] σ (some (.long (lI (if oneC h (σ 11 0) = 0 then sChd σ h else 0)))) (fun τ => pEnd (oneC h (σ 11 0)) (σ) σ τ) := by
  refine mx_of (cc := cX11_charged) (nL := 2) (ret := (some .long)) (by decide) rfl rfl (fun w h => List.mem_cons_of_mem _ (List.mem_append_right _ h)) (Nat.le_of_ble_eq_true rfl) ⟨rfl, rfl⟩ ?_
  intro p e s m args below meth c ls E hr hlk hM hS hl
  have B := E.1
  have hml := E.2.1
  have hown := E.2.2.1
  have hts0 := E.2.2.2.1
  have hts := E.2.2.2.1
  have hw := hM.2.2.2
  have I0 := I
  obtain ⟨hn9, hOp, hnS, hnH, hnB, hnC, hnT, hPr, hTol, v3, v4, v6, v7, v12, v15, v16, v17, v18, v19, v20, v21, v22, v24, v25, v26, v28, v29, v32, v33, v35, v36, v37, v38, v39, v42, v43, v44, v40, vm⟩ := I
  refine x_aload_n B hl dX11_charged_0 rfl ?_
  refine x_iconst B dX11_charged_1 ?_
  refine mo_put E hM hS 0 rfl (hts (.fieldLink RX11 129 "BinRoundsModel" "thrown" "I") (by decide +kernel)) rfl rfl (by decide +kernel) (by omega) dX11_charged_2 (fun H locs hM hS => ?_)
  refine x_aload_n B hl dX11_charged_5 rfl ?_
  refine x_aload_n B hl dX11_charged_6 rfl ?_
  refine x_iload_n B hl dX11_charged_7 rfl ?_
  refine mo_call E hM hS hl (m_noHousek l D cy o ad _ (up_ne (by decide) rfl) (by omega)) (cwV 1 hts0 gX11_charged_X11_noHouse rfl rfl rfl (by decide +kernel) ⟨Nat.le_of_ble_eq_true rfl, Nat.le_of_ble_eq_true rfl⟩) rfl rfl (Nat.le_of_ble_eq_true rfl) dX11_charged_8 ⟨Nat.zero_le _, Nat.zero_le _⟩ (fun H locs q_8 hM hS => ?_)
  refine x_bool (fun b_8 => ?_) (fun b_8 => ?_)
  · refine x_iconst B dX11_charged_11 ?_
    refine mo_call E hM hS hl (m_throwsIf_1 l D cy o ad _ _ (by decide)) (cwV 2 hts0 gX11_charged_X11_throwsIf rfl rfl rfl (by decide +kernel) ⟨Nat.le_of_ble_eq_true rfl, Nat.le_of_ble_eq_true rfl⟩) rfl rfl (Nat.le_of_ble_eq_true rfl) dX11_charged_12 ⟨Nat.zero_le _, Nat.zero_le _⟩ (fun H locs q_t hM hS => ?_)
    refine x_if_eq_f (tgt := 22) B dX11_charged_15 (by decide) (by decide) ?_
    refine x_lconst B dX11_charged_18 ?_
    refine x_goto (tgt := 27) B dX11_charged_19 (by decide) ?_
    first | (have hc : oneC h (σ 11 0) = 1 := (by first | rfl | (unfold oneC; omega)); exact mo_lretx E hr hlk hM hS dX11_charged_27 (by first | (rw [if_neg (by rw [hc]; decide)]; done) | (rw [if_neg (by rw [hc]; decide)]; rfl)) (pE hc (by decide))) | (have hc : oneC h (σ 11 0) = 2 := (by first | rfl | (unfold oneC; omega)); exact mo_lretx E hr hlk hM hS dX11_charged_27 (by first | (rw [if_neg (by rw [hc]; decide)]; done) | (rw [if_neg (by rw [hc]; decide)]; rfl)) (pE hc (by decide))) | (have hc : oneC h (σ 11 0) = 3 := (by first | rfl | (unfold oneC; omega)); exact mo_lretx E hr hlk hM hS dX11_charged_27 (by first | (rw [if_neg (by rw [hc]; decide)]; done) | (rw [if_neg (by rw [hc]; decide)]; rfl)) (pE hc (by decide))) | (have hc : oneC h (σ 11 0) = 0 := (by first | rfl | (unfold oneC; omega)); exact mo_lretx E hr hlk hM hS dX11_charged_27 (by first | (rw [if_pos hc]; done) | (rw [if_pos hc]; rfl) | (rw [if_pos hc]; congr 1; omega) | (rw [if_pos hc]; congr 1; unfold sChd; omega)) (pO hc (by first | rfl | (simp only [up_rd]; rfl) | simp [up_rd]) (by first | exact sEq.z | exact sEq.rf)))
  · refine x_iconst B dX11_charged_11 ?_
    refine mo_call E hM hS hl (m_throwsIf_0 l D cy o ad _ _ (by decide)) (cwV 2 hts0 gX11_charged_X11_throwsIf rfl rfl rfl (by decide +kernel) ⟨Nat.le_of_ble_eq_true rfl, Nat.le_of_ble_eq_true rfl⟩) rfl rfl (Nat.le_of_ble_eq_true rfl) dX11_charged_12 ⟨Nat.zero_le _, Nat.zero_le _⟩ (fun H locs q_t hM hS => ?_)
    refine x_if_eq_t (tgt := 22) B dX11_charged_15 (by decide) (by decide) ?_
    refine x_aload_n B hl dX11_charged_22 rfl ?_
    refine x_iload_n B hl dX11_charged_23 rfl ?_
    refine mo_call E hM hS hl (m_chargedToc l D cy o ad _ σ sEq.z I0 (by omega)) (cwV 1 hts0 gX11_charged_X11_chargedTo rfl rfl rfl (by decide +kernel) ⟨Nat.le_of_ble_eq_true rfl, Nat.le_of_ble_eq_true rfl⟩) rfl rfl (Nat.le_of_ble_eq_true rfl) dX11_charged_24 ⟨Nat.zero_le _, Nat.zero_le _⟩ (fun H locs q_c hM hS => ?_)
    first | (have hc : oneC h (σ 11 0) = 1 := (by first | rfl | (unfold oneC; omega)); exact mo_lretx E hr hlk hM hS dX11_charged_27 (by first | (rw [if_neg (by rw [hc]; decide)]; done) | (rw [if_neg (by rw [hc]; decide)]; rfl)) (pE hc (by decide))) | (have hc : oneC h (σ 11 0) = 2 := (by first | rfl | (unfold oneC; omega)); exact mo_lretx E hr hlk hM hS dX11_charged_27 (by first | (rw [if_neg (by rw [hc]; decide)]; done) | (rw [if_neg (by rw [hc]; decide)]; rfl)) (pE hc (by decide))) | (have hc : oneC h (σ 11 0) = 3 := (by first | rfl | (unfold oneC; omega)); exact mo_lretx E hr hlk hM hS dX11_charged_27 (by first | (rw [if_neg (by rw [hc]; decide)]; done) | (rw [if_neg (by rw [hc]; decide)]; rfl)) (pE hc (by decide))) | (have hc : oneC h (σ 11 0) = 0 := (by first | rfl | (unfold oneC; omega)); exact mo_lretx E hr hlk hM hS dX11_charged_27 (by first | (rw [if_pos hc]; done) | (rw [if_pos hc]; rfl) | (rw [if_pos hc]; congr 1; omega) | (rw [if_pos hc]; congr 1; unfold sChd; omega)) (pO hc (by first | rfl | (simp only [up_rd]; rfl) | simp [up_rd]) (by first | exact sEq.z | exact sEq.rf)))
set_option maxHeartbeats 4000000 in
set_option maxRecDepth 100000 in
theorem m_p_bill (l : Launch) (D : va_G) (cy : Nat → ClassId) (o : Nat) (ad : Nat → Nat) (σ : MS) {h : Int} {n : Int} (I : sInv n σ) (h_h : -2147483648 ≤ h ∧ h < 2147483648)  : MX l yX11_bill wsX11_bill ({ frames := 6, cells := 0, slots := 0, locals := 145 } : Room) D cy o ad [.int (iI h)] σ (some (.long (lI (if oneC h (σ 11 0) = 0 then (sChd σ h - σ 9 h) else 0)))) (fun τ => pEnd (oneC h (σ 11 0)) (billS σ h) σ τ) := by
  refine mx_of (cc := cX11_bill) (nL := 4) (ret := (some .long)) (by decide) rfl rfl (fun w h => List.mem_cons_of_mem _ (List.mem_append_right _ h)) (Nat.le_of_ble_eq_true rfl) ⟨rfl, rfl⟩ ?_
  intro p e s m args below meth c ls E hr hlk hM hS hl
  have B := E.1
  have hml := E.2.1
  have hown := E.2.2.1
  have hts0 := E.2.2.2.1
  have hts := E.2.2.2.1
  have hw := hM.2.2.2
  have I0 := I
  obtain ⟨hn9, hOp, hnS, hnH, hnB, hnC, hnT, hPr, hTol, v3, v4, v6, v7, v12, v15, v16, v17, v18, v19, v20, v21, v22, v24, v25, v26, v28, v29, v32, v33, v35, v36, v37, v38, v39, v42, v43, v44, v40, vm⟩ := I
  refine x_aload_n B hl dX11_bill_0 rfl ?_
  refine x_iconst B dX11_bill_1 ?_
  refine mo_put E hM hS 0 rfl (hts (.fieldLink RX11 129 "BinRoundsModel" "thrown" "I") (by decide +kernel)) rfl rfl (by decide +kernel) (by omega) dX11_bill_2 (fun H locs hM hS => ?_)
  refine x_aload_n B hl dX11_bill_5 rfl ?_
  refine x_aload_n B hl dX11_bill_6 rfl ?_
  refine x_iload_n B hl dX11_bill_7 rfl ?_
  refine mo_call E hM hS hl (m_noHousek l D cy o ad _ (up_ne (by decide) rfl) (by omega)) (cwV 1 hts0 gX11_bill_X11_noHouse rfl rfl rfl (by decide +kernel) ⟨Nat.le_of_ble_eq_true rfl, Nat.le_of_ble_eq_true rfl⟩) rfl rfl (Nat.le_of_ble_eq_true rfl) dX11_bill_8 ⟨Nat.zero_le _, Nat.zero_le _⟩ (fun H locs q_8 hM hS => ?_)
  refine x_bool (fun b_8 => ?_) (fun b_8 => ?_)
  · refine x_iconst B dX11_bill_11 ?_
    refine mo_call E hM hS hl (m_throwsIf_1 l D cy o ad _ _ (by decide)) (cwV 2 hts0 gX11_bill_X11_throwsIf rfl rfl rfl (by decide +kernel) ⟨Nat.le_of_ble_eq_true rfl, Nat.le_of_ble_eq_true rfl⟩) rfl rfl (Nat.le_of_ble_eq_true rfl) dX11_bill_12 ⟨Nat.zero_le _, Nat.zero_le _⟩ (fun H locs q_t hM hS => ?_)
    refine x_if_eq_f (tgt := 20) B dX11_bill_15 (by decide) (by decide) ?_
    refine x_lconst B dX11_bill_18 ?_
    first | (have hc : oneC h (σ 11 0) = 1 := (by first | rfl | (unfold oneC; omega)); exact mo_lretx E hr hlk hM hS dX11_bill_19 (by first | (rw [if_neg (by rw [hc]; decide)]; done) | (rw [if_neg (by rw [hc]; decide)]; rfl)) (pE hc (by decide))) | (have hc : oneC h (σ 11 0) = 2 := (by first | rfl | (unfold oneC; omega)); exact mo_lretx E hr hlk hM hS dX11_bill_19 (by first | (rw [if_neg (by rw [hc]; decide)]; done) | (rw [if_neg (by rw [hc]; decide)]; rfl)) (pE hc (by decide))) | (have hc : oneC h (σ 11 0) = 3 := (by first | rfl | (unfold oneC; omega)); exact mo_lretx E hr hlk hM hS dX11_bill_19 (by first | (rw [if_neg (by rw [hc]; decide)]; done) | (rw [if_neg (by rw [hc]; decide)]; rfl)) (pE hc (by decide))) | (have hc : oneC h (σ 11 0) = 0 := (by first | rfl | (unfold oneC; omega)); exact mo_lretx E hr hlk hM hS dX11_bill_19 (by first | (rw [if_pos hc]; done) | (rw [if_pos hc]; rfl) | (rw [if_pos hc]; congr 1; omega) | (rw [if_pos hc]; congr 1; unfold sChd; omega)) (pO hc (by first | rfl | (simp only [up_rd]; rfl) | simp [up_rd]) (by first | exact (sEq.u sEq.z) | exact sEq.rf)))
  · refine x_iconst B dX11_bill_11 ?_
    refine mo_call E hM hS hl (m_throwsIf_0 l D cy o ad _ _ (by decide)) (cwV 2 hts0 gX11_bill_X11_throwsIf rfl rfl rfl (by decide +kernel) ⟨Nat.le_of_ble_eq_true rfl, Nat.le_of_ble_eq_true rfl⟩) rfl rfl (Nat.le_of_ble_eq_true rfl) dX11_bill_12 ⟨Nat.zero_le _, Nat.zero_le _⟩ (fun H locs q_t hM hS => ?_)
    refine x_if_eq_t (tgt := 20) B dX11_bill_15 (by decide) (by decide) ?_
    refine x_aload_n B hl dX11_bill_20 rfl ?_
    refine x_iload_n B hl dX11_bill_21 rfl ?_
    refine mo_call E hM hS hl (m_chargedToc l D cy o ad _ σ sEq.z I0 (by omega)) (cwV 1 hts0 gX11_bill_X11_chargedTo rfl rfl rfl (by decide +kernel) ⟨Nat.le_of_ble_eq_true rfl, Nat.le_of_ble_eq_true rfl⟩) rfl rfl (Nat.le_of_ble_eq_true rfl) dX11_bill_22 ⟨Nat.zero_le _, Nat.zero_le _⟩ (fun H locs q_c hM hS => ?_)
    refine x_aload_n B hl dX11_bill_25 rfl ?_
    refine mo_geta E hM 9 2 rfl (hts (.fieldLink RX11 30 "BinRoundsModel" "billed" "[J") (by decide +kernel)) rfl dX11_bill_26 ?_
    refine x_iload_n B hl dX11_bill_29 rfl ?_
    refine mo_lld (k := 9) E hM rfl (by have h9 : mLn 9 = 60 := rfl; omega) (by decide) dX11_bill_30 (up_ne (by decide) rfl) (fun r_30 => ?_)
    refine x_lsub B dX11_bill_31 ?_
    refine x_lstore_n B hl dX11_bill_32 (by decide) (fun ls hl => ?_)
    refine x_aload_n B hl dX11_bill_33 rfl ?_
    refine mo_geta E hM 9 2 rfl (hts (.fieldLink RX11 30 "BinRoundsModel" "billed" "[J") (by decide +kernel)) rfl dX11_bill_34 ?_
    refine x_iload_n B hl dX11_bill_37 rfl ?_
    refine lv_dup2_11 B.1 B.2 dX11_bill_38 rfl rfl ?_
    refine mo_lld (k := 9) E hM rfl (by have h9 : mLn 9 = 60 := rfl; omega) (by decide) dX11_bill_39 (up_ne (by decide) rfl) (fun r_39 => ?_)
    refine x_lload_n B hl dX11_bill_40 rfl ?_
    refine x_ladd B dX11_bill_41 ?_
    refine mo_lst (k := 9) E hM hS rfl (by have h9 : mLn 9 = 60 := rfl; omega) (by decide) (by omega) dX11_bill_42 (fun H locs hM hS => ?_)
    refine x_lload_n B hl dX11_bill_43 rfl ?_
    first | (have hc : oneC h (σ 11 0) = 1 := (by first | rfl | (unfold oneC; omega)); exact mo_lretx E hr hlk hM hS dX11_bill_44 (by first | (rw [if_neg (by rw [hc]; decide)]; done) | (rw [if_neg (by rw [hc]; decide)]; rfl)) (pE hc (by decide))) | (have hc : oneC h (σ 11 0) = 2 := (by first | rfl | (unfold oneC; omega)); exact mo_lretx E hr hlk hM hS dX11_bill_44 (by first | (rw [if_neg (by rw [hc]; decide)]; done) | (rw [if_neg (by rw [hc]; decide)]; rfl)) (pE hc (by decide))) | (have hc : oneC h (σ 11 0) = 3 := (by first | rfl | (unfold oneC; omega)); exact mo_lretx E hr hlk hM hS dX11_bill_44 (by first | (rw [if_neg (by rw [hc]; decide)]; done) | (rw [if_neg (by rw [hc]; decide)]; rfl)) (pE hc (by decide))) | (have hc : oneC h (σ 11 0) = 0 := (by first | rfl | (unfold oneC; omega)); exact mo_lretx E hr hlk hM hS dX11_bill_44 (by first | (rw [if_pos hc]; done) | (rw [if_pos hc]; rfl) | (rw [if_pos hc]; congr 1; omega) | (rw [if_pos hc]; congr 1; unfold sChd; omega)) (pO hc (by first | rfl | (simp only [up_rd]; rfl) | simp [up_rd]) (by first | exact (sEq.u sEq.z) | exact sEq.rf)))
set_option maxHeartbeats 4000000 in
set_option maxRecDepth 100000 in
theorem m_p_pay (l : Launch) (D : va_G) (cy : Nat → ClassId) (o : Nat) (ad : Nat → Nat) (σ : MS) {h x : Int} {n : Int} (I : sInv n σ) (h_h : -2147483648 ≤ h ∧ h < 2147483648) (h_x : -9223372036854775808 ≤ x ∧ x < 9223372036854775808)  : MX l yX11_pay wsX11_pay ({ frames := 1, cells := 0, slots := 0, locals := 25 } : Room) D cy o ad [.int (iI h), .long (lI x)] σ (some (.long (lI (if payC σ h x = 0 then (σ 9 h - (σ 10 h + x)) else 0)))) (fun τ => pEnd (payC σ h x) (payS σ h x) σ τ) := by
  refine mx_of (cc := cX11_pay) (nL := 4) (ret := (some .long)) (by decide) rfl rfl (fun w h => List.mem_cons_of_mem _ (List.mem_append_right _ h)) (Nat.le_of_ble_eq_true rfl) ⟨rfl, rfl⟩ ?_
  intro p e s m args below meth c ls E hr hlk hM hS hl
  have B := E.1
  have hml := E.2.1
  have hown := E.2.2.1
  have hts0 := E.2.2.2.1
  have hts := E.2.2.2.1
  have hw := hM.2.2.2
  have I0 := I
  obtain ⟨hn9, hOp, hnS, hnH, hnB, hnC, hnT, hPr, hTol, v3, v4, v6, v7, v12, v15, v16, v17, v18, v19, v20, v21, v22, v24, v25, v26, v28, v29, v32, v33, v35, v36, v37, v38, v39, v42, v43, v44, v40, vm⟩ := I
  refine x_aload_n B hl dX11_pay_0 rfl ?_
  refine x_iconst B dX11_pay_1 ?_
  refine mo_put E hM hS 0 rfl (hts (.fieldLink RX11 129 "BinRoundsModel" "thrown" "I") (by decide +kernel)) rfl rfl (by decide +kernel) (by omega) dX11_pay_2 (fun H locs hM hS => ?_)
  refine x_aload_n B hl dX11_pay_5 rfl ?_
  refine x_aload_n B hl dX11_pay_6 rfl ?_
  refine x_iload_n B hl dX11_pay_7 rfl ?_
  refine mo_call E hM hS hl (m_noHousek l D cy o ad _ (up_ne (by decide) rfl) (by omega)) (cwV 1 hts0 gX11_pay_X11_noHouse rfl rfl rfl (by decide +kernel) ⟨Nat.le_of_ble_eq_true rfl, Nat.le_of_ble_eq_true rfl⟩) rfl rfl (Nat.le_of_ble_eq_true rfl) dX11_pay_8 ⟨Nat.zero_le _, Nat.zero_le _⟩ (fun H locs q_8 hM hS => ?_)
  refine x_bool (fun b_8 => ?_) (fun b_8 => ?_)
  · refine x_iconst B dX11_pay_11 ?_
    refine mo_call E hM hS hl (m_throwsIf_1 l D cy o ad _ _ (by decide)) (cwV 2 hts0 gX11_pay_X11_throwsIf rfl rfl rfl (by decide +kernel) ⟨Nat.le_of_ble_eq_true rfl, Nat.le_of_ble_eq_true rfl⟩) rfl rfl (Nat.le_of_ble_eq_true rfl) dX11_pay_12 ⟨Nat.zero_le _, Nat.zero_le _⟩ (fun H locs q_t hM hS => ?_)
    refine x_if_ne_t (tgt := 42) B dX11_pay_15 (by decide) (by decide) ?_
    refine x_lconst B dX11_pay_42 ?_
    first | (have hc : payC σ h x = 1 := (by first | rfl | (unfold payC; omega)); exact mo_lretx E hr hlk hM hS dX11_pay_43 (by first | (rw [if_neg (by rw [hc]; decide)]; done) | (rw [if_neg (by rw [hc]; decide)]; rfl)) (pE hc (by decide))) | (have hc : payC σ h x = 2 := (by first | rfl | (unfold payC; omega)); exact mo_lretx E hr hlk hM hS dX11_pay_43 (by first | (rw [if_neg (by rw [hc]; decide)]; done) | (rw [if_neg (by rw [hc]; decide)]; rfl)) (pE hc (by decide))) | (have hc : payC σ h x = 3 := (by first | rfl | (unfold payC; omega)); exact mo_lretx E hr hlk hM hS dX11_pay_43 (by first | (rw [if_neg (by rw [hc]; decide)]; done) | (rw [if_neg (by rw [hc]; decide)]; rfl)) (pE hc (by decide))) | (have hc : payC σ h x = 0 := (by first | rfl | (unfold payC; omega)); exact mo_lretx E hr hlk hM hS dX11_pay_43 (by first | (rw [if_pos hc]; done) | (rw [if_pos hc]; rfl) | (rw [if_pos hc]; congr 1; omega)) (pO hc (by first | rfl | (simp only [up_rd]; rfl) | simp [up_rd]) (by first | exact (sEq.u sEq.z) | exact sEq.rf)))
  · refine x_iconst B dX11_pay_11 ?_
    refine mo_call E hM hS hl (m_throwsIf_0 l D cy o ad _ _ (by decide)) (cwV 2 hts0 gX11_pay_X11_throwsIf rfl rfl rfl (by decide +kernel) ⟨Nat.le_of_ble_eq_true rfl, Nat.le_of_ble_eq_true rfl⟩) rfl rfl (Nat.le_of_ble_eq_true rfl) dX11_pay_12 ⟨Nat.zero_le _, Nat.zero_le _⟩ (fun H locs q_t hM hS => ?_)
    refine x_if_ne_f (tgt := 42) B dX11_pay_15 (by decide) (by decide) ?_
    refine x_aload_n B hl dX11_pay_18 rfl ?_
    refine x_lload_n B hl dX11_pay_19 rfl ?_
    refine x_lconst B dX11_pay_20 ?_
    refine lv_ldc2 (v := lI 1000000000) B.1 B.2 hown (hts (.constantLong RX11 252 (1000000000)) (by decide +kernel)) dX11_pay_21 ?_
    refine z_call ⟨B.1, B.2, hml, hown, hts0⟩ hl (m_in l (by omega) (by omega) (by omega)) (va_cwS 3 hts0 gX11_pay_X11_in rfl rfl rfl (by decide +kernel) ⟨Nat.le_of_ble_eq_true rfl, Nat.le_of_ble_eq_true rfl⟩) rfl rfl (Nat.le_of_ble_eq_true rfl) dX11_pay_24 ⟨Nat.zero_le _, Nat.zero_le _⟩ (fun q_24 => ?_)
    refine x_bool (fun b_24 => ?_) (fun b_24 => ?_)
    · refine x_if_ne_t (tgt := 34) B dX11_pay_27 (by decide) (by decide) ?_
      refine x_iconst B dX11_pay_34 ?_
      refine x_iconst B dX11_pay_35 ?_
      refine mo_call E hM hS hl (m_throwsIf_0 l D cy o ad _ _ (by decide)) (cwV 2 hts0 gX11_pay_X11_throwsIf rfl rfl rfl (by decide +kernel) ⟨Nat.le_of_ble_eq_true rfl, Nat.le_of_ble_eq_true rfl⟩) rfl rfl (Nat.le_of_ble_eq_true rfl) dX11_pay_36 ⟨Nat.zero_le _, Nat.zero_le _⟩ (fun H locs q_t hM hS => ?_)
      refine x_if_eq_t (tgt := 44) B dX11_pay_39 (by decide) (by decide) ?_
      refine x_aload_n B hl dX11_pay_44 rfl ?_
      refine mo_geta E hM 10 2 rfl (hts (.fieldLink RX11 33 "BinRoundsModel" "paidBy" "[J") (by decide +kernel)) rfl dX11_pay_45 ?_
      refine x_iload_n B hl dX11_pay_48 rfl ?_
      refine lv_dup2_11 B.1 B.2 dX11_pay_49 rfl rfl ?_
      refine mo_lld (k := 10) E hM rfl (by have h9 : mLn 10 = 60 := rfl; omega) (by decide) dX11_pay_50 (up_ne (by decide) rfl) (fun r_50 => ?_)
      refine x_lload_n B hl dX11_pay_51 rfl ?_
      refine x_ladd B dX11_pay_52 ?_
      refine mo_lst (k := 10) E hM hS rfl (by have h9 : mLn 10 = 60 := rfl; omega) (by decide) (by omega) dX11_pay_53 (fun H locs hM hS => ?_)
      refine x_aload_n B hl dX11_pay_54 rfl ?_
      refine mo_geta E hM 9 2 rfl (hts (.fieldLink RX11 30 "BinRoundsModel" "billed" "[J") (by decide +kernel)) rfl dX11_pay_55 ?_
      refine x_iload_n B hl dX11_pay_58 rfl ?_
      refine mo_lld (k := 9) E hM rfl (by have h9 : mLn 9 = 60 := rfl; omega) (by decide) dX11_pay_59 (up_ne (by decide) (up_ne (by decide) rfl)) (fun r_59 => ?_)
      refine x_aload_n B hl dX11_pay_60 rfl ?_
      refine mo_geta E hM 10 2 rfl (hts (.fieldLink RX11 33 "BinRoundsModel" "paidBy" "[J") (by decide +kernel)) rfl dX11_pay_61 ?_
      refine x_iload_n B hl dX11_pay_64 rfl ?_
      refine mo_lld (k := 10) E hM rfl (by have h9 : mLn 10 = 60 := rfl; omega) (by decide) dX11_pay_65 up_s (fun r_65 => ?_)
      refine x_lsub B dX11_pay_66 ?_
      first | (have hc : payC σ h x = 1 := (by first | rfl | (unfold payC; omega)); exact mo_lretx E hr hlk hM hS dX11_pay_67 (by first | (rw [if_neg (by rw [hc]; decide)]; done) | (rw [if_neg (by rw [hc]; decide)]; rfl)) (pE hc (by decide))) | (have hc : payC σ h x = 2 := (by first | rfl | (unfold payC; omega)); exact mo_lretx E hr hlk hM hS dX11_pay_67 (by first | (rw [if_neg (by rw [hc]; decide)]; done) | (rw [if_neg (by rw [hc]; decide)]; rfl)) (pE hc (by decide))) | (have hc : payC σ h x = 3 := (by first | rfl | (unfold payC; omega)); exact mo_lretx E hr hlk hM hS dX11_pay_67 (by first | (rw [if_neg (by rw [hc]; decide)]; done) | (rw [if_neg (by rw [hc]; decide)]; rfl)) (pE hc (by decide))) | (have hc : payC σ h x = 0 := (by first | rfl | (unfold payC; omega)); exact mo_lretx E hr hlk hM hS dX11_pay_67 (by first | (rw [if_pos hc]; done) | (rw [if_pos hc]; rfl) | (rw [if_pos hc]; congr 1; omega)) (pO hc (by first | rfl | (simp only [up_rd]; rfl) | simp [up_rd]) (by first | exact (sEq.u sEq.z) | exact sEq.rf)))
    · refine x_if_ne_f (tgt := 34) B dX11_pay_27 (by decide) (by decide) ?_
      refine x_iconst B dX11_pay_30 ?_
      refine x_goto (tgt := 35) B dX11_pay_31 (by decide) ?_
      refine x_iconst B dX11_pay_35 ?_
      refine mo_call E hM hS hl (m_throwsIf_1 l D cy o ad _ _ (by decide)) (cwV 2 hts0 gX11_pay_X11_throwsIf rfl rfl rfl (by decide +kernel) ⟨Nat.le_of_ble_eq_true rfl, Nat.le_of_ble_eq_true rfl⟩) rfl rfl (Nat.le_of_ble_eq_true rfl) dX11_pay_36 ⟨Nat.zero_le _, Nat.zero_le _⟩ (fun H locs q_t hM hS => ?_)
      refine x_if_eq_f (tgt := 44) B dX11_pay_39 (by decide) (by decide) ?_
      refine x_lconst B dX11_pay_42 ?_
      first | (have hc : payC σ h x = 1 := (by first | rfl | (unfold payC; omega)); exact mo_lretx E hr hlk hM hS dX11_pay_43 (by first | (rw [if_neg (by rw [hc]; decide)]; done) | (rw [if_neg (by rw [hc]; decide)]; rfl)) (pE hc (by decide))) | (have hc : payC σ h x = 2 := (by first | rfl | (unfold payC; omega)); exact mo_lretx E hr hlk hM hS dX11_pay_43 (by first | (rw [if_neg (by rw [hc]; decide)]; done) | (rw [if_neg (by rw [hc]; decide)]; rfl)) (pE hc (by decide))) | (have hc : payC σ h x = 3 := (by first | rfl | (unfold payC; omega)); exact mo_lretx E hr hlk hM hS dX11_pay_43 (by first | (rw [if_neg (by rw [hc]; decide)]; done) | (rw [if_neg (by rw [hc]; decide)]; rfl)) (pE hc (by decide))) | (have hc : payC σ h x = 0 := (by first | rfl | (unfold payC; omega)); exact mo_lretx E hr hlk hM hS dX11_pay_43 (by first | (rw [if_pos hc]; done) | (rw [if_pos hc]; rfl) | (rw [if_pos hc]; congr 1; omega)) (pO hc (by first | rfl | (simp only [up_rd]; rfl) | simp [up_rd]) (by first | exact (sEq.u sEq.z) | exact sEq.rf)))
set_option maxHeartbeats 4000000 in
set_option maxRecDepth 100000 in
theorem m_p_look (l : Launch) (D : va_G) (cy : Nat → ClassId) (o : Nat) (ad : Nat → Nat) (σ : MS) {t w : Int} {n : Int} (I : sInv n σ) (h_t : -2147483648 ≤ t ∧ t < 2147483648) (h_w : -2147483648 ≤ w ∧ w < 2147483648)  : MX l yX11_look wsX11_look ({ frames := 1, cells := 0, slots := 0, locals := 22 } : Room) D cy o ad [.int (iI t), .int (iI w)] σ (some (.int (iI (if lookC σ t w = 0 then lookR σ t w else 0)))) (fun τ => pEnd (lookC σ t w) (σ) σ τ) := by
  refine mx_of (cc := cX11_look) (nL := 3) (ret := (some .int)) (by decide) rfl rfl (fun w h => List.mem_cons_of_mem _ (List.mem_append_right _ h)) (Nat.le_of_ble_eq_true rfl) ⟨rfl, rfl⟩ ?_
  intro p e s m args below meth c ls E hr hlk hM hS hl
  have B := E.1
  have hml := E.2.1
  have hown := E.2.2.1
  have hts0 := E.2.2.2.1
  have hts := E.2.2.2.1
  have hw := hM.2.2.2
  have I0 := I
  obtain ⟨hn9, hOp, hnS, hnH, hnB, hnC, hnT, hPr, hTol, v3, v4, v6, v7, v12, v15, v16, v17, v18, v19, v20, v21, v22, v24, v25, v26, v28, v29, v32, v33, v35, v36, v37, v38, v39, v42, v43, v44, v40, vm⟩ := I
  refine x_aload_n B hl dX11_look_0 rfl ?_
  refine x_iconst B dX11_look_1 ?_
  refine mo_put E hM hS 0 rfl (hts (.fieldLink RX11 129 "BinRoundsModel" "thrown" "I") (by decide +kernel)) rfl rfl (by decide +kernel) (by omega) dX11_look_2 (fun H locs hM hS => ?_)
  refine x_aload_n B hl dX11_look_5 rfl ?_
  refine x_aload_n B hl dX11_look_6 rfl ?_
  refine x_iload_n B hl dX11_look_7 rfl ?_
  refine mo_call E hM hS hl (m_noTipk l D cy o ad _ (up_ne (by decide) rfl) (by omega)) (cwV 1 hts0 gX11_look_X11_noTip rfl rfl rfl (by decide +kernel) ⟨Nat.le_of_ble_eq_true rfl, Nat.le_of_ble_eq_true rfl⟩) rfl rfl (Nat.le_of_ble_eq_true rfl) dX11_look_8 ⟨Nat.zero_le _, Nat.zero_le _⟩ (fun H locs q_8 hM hS => ?_)
  refine x_bool (fun b_8 => ?_) (fun b_8 => ?_)
  · refine x_iconst B dX11_look_11 ?_
    refine mo_call E hM hS hl (m_throwsIf_1 l D cy o ad _ _ (by decide)) (cwV 2 hts0 gX11_look_X11_throwsIf rfl rfl rfl (by decide +kernel) ⟨Nat.le_of_ble_eq_true rfl, Nat.le_of_ble_eq_true rfl⟩) rfl rfl (Nat.le_of_ble_eq_true rfl) dX11_look_12 ⟨Nat.zero_le _, Nat.zero_le _⟩ (fun H locs q_t hM hS => ?_)
    refine x_if_eq_f (tgt := 20) B dX11_look_15 (by decide) (by decide) ?_
    refine x_iconst B dX11_look_18 ?_
    first | (have hc : lookC σ t w = 1 := (by first | rfl | (unfold lookC; omega)); exact mo_iretx E hr rfl hlk hM hS dX11_look_19 (by first | (rw [if_neg (by rw [hc]; decide)]; done) | (rw [if_neg (by rw [hc]; decide)]; rfl)) (pE hc (by decide))) | (have hc : lookC σ t w = 2 := (by first | rfl | (unfold lookC; omega)); exact mo_iretx E hr rfl hlk hM hS dX11_look_19 (by first | (rw [if_neg (by rw [hc]; decide)]; done) | (rw [if_neg (by rw [hc]; decide)]; rfl)) (pE hc (by decide))) | (have hc : lookC σ t w = 3 := (by first | rfl | (unfold lookC; omega)); exact mo_iretx E hr rfl hlk hM hS dX11_look_19 (by first | (rw [if_neg (by rw [hc]; decide)]; done) | (rw [if_neg (by rw [hc]; decide)]; rfl)) (pE hc (by decide))) | (have hc : lookC σ t w = 0 := (by first | rfl | (unfold lookC; omega)); exact mo_iretx E hr rfl hlk hM hS dX11_look_19 (by first | (rw [if_pos hc]; done) | (rw [if_pos hc]; rw [hsw]; rfl)) (pO hc (by first | rfl | (simp only [up_rd]; rfl) | simp [up_rd]) (by first | exact sEq.z | exact sEq.rf)))
  · refine x_iconst B dX11_look_11 ?_
    refine mo_call E hM hS hl (m_throwsIf_0 l D cy o ad _ _ (by decide)) (cwV 2 hts0 gX11_look_X11_throwsIf rfl rfl rfl (by decide +kernel) ⟨Nat.le_of_ble_eq_true rfl, Nat.le_of_ble_eq_true rfl⟩) rfl rfl (Nat.le_of_ble_eq_true rfl) dX11_look_12 ⟨Nat.zero_le _, Nat.zero_le _⟩ (fun H locs q_t hM hS => ?_)
    refine x_if_eq_t (tgt := 20) B dX11_look_15 (by decide) (by decide) ?_
    refine x_iload_n B hl dX11_look_20 rfl ?_
    rcases (show w = 0 ∨ w = 1 ∨ w = 2 ∨ w = 3 ∨ w = 4 ∨ w = 5 ∨ w = 6 ∨ w = 7 ∨ w = 8 ∨ w = 9 ∨ (w < 0 ∨ 9 < w) by omega) with hsw | hsw | hsw | hsw | hsw | hsw | hsw | hsw | hsw | hsw | hsw
    · refine x_tswIn (off := 55) (tgt := 76) B dX11_look_21 hsw (by decide) (by decide) rfl (by decide) ?_
      refine x_aload_n B hl dX11_look_76 rfl ?_
      refine mo_geta E hM 32 0 rfl (hts (.fieldLink RX11 84 "BinRoundsModel" "dayOf" "[I") (by decide +kernel)) rfl dX11_look_77 ?_
      refine x_iload_n B hl dX11_look_80 rfl ?_
      refine mo_ld (k := 32) E hM rfl (by have h9 : mLn 32 = 600 := rfl; omega) (by decide) dX11_look_81 (up_ne (by decide) rfl) (fun r_81 => ?_)
      first | (have hc : lookC σ t w = 1 := (by first | rfl | (unfold lookC; omega)); exact mo_iretx E hr rfl hlk hM hS dX11_look_82 (by first | (rw [if_neg (by rw [hc]; decide)]; done) | (rw [if_neg (by rw [hc]; decide)]; rfl)) (pE hc (by decide))) | (have hc : lookC σ t w = 2 := (by first | rfl | (unfold lookC; omega)); exact mo_iretx E hr rfl hlk hM hS dX11_look_82 (by first | (rw [if_neg (by rw [hc]; decide)]; done) | (rw [if_neg (by rw [hc]; decide)]; rfl)) (pE hc (by decide))) | (have hc : lookC σ t w = 3 := (by first | rfl | (unfold lookC; omega)); exact mo_iretx E hr rfl hlk hM hS dX11_look_82 (by first | (rw [if_neg (by rw [hc]; decide)]; done) | (rw [if_neg (by rw [hc]; decide)]; rfl)) (pE hc (by decide))) | (have hc : lookC σ t w = 0 := (by first | rfl | (unfold lookC; omega)); exact mo_iretx E hr rfl hlk hM hS dX11_look_82 (by first | (rw [if_pos hc]; done) | (rw [if_pos hc]; rw [hsw]; rfl)) (pO hc (by first | rfl | (simp only [up_rd]; rfl) | simp [up_rd]) (by first | exact sEq.z | exact sEq.rf)))
    · refine x_tswIn (off := 62) (tgt := 83) B dX11_look_21 hsw (by decide) (by decide) rfl (by decide) ?_
      refine x_aload_n B hl dX11_look_83 rfl ?_
      refine mo_geta E hM 33 0 rfl (hts (.fieldLink RX11 87 "BinRoundsModel" "cartOf" "[I") (by decide +kernel)) rfl dX11_look_84 ?_
      refine x_iload_n B hl dX11_look_87 rfl ?_
      refine mo_ld (k := 33) E hM rfl (by have h9 : mLn 33 = 600 := rfl; omega) (by decide) dX11_look_88 (up_ne (by decide) rfl) (fun r_88 => ?_)
      first | (have hc : lookC σ t w = 1 := (by first | rfl | (unfold lookC; omega)); exact mo_iretx E hr rfl hlk hM hS dX11_look_89 (by first | (rw [if_neg (by rw [hc]; decide)]; done) | (rw [if_neg (by rw [hc]; decide)]; rfl)) (pE hc (by decide))) | (have hc : lookC σ t w = 2 := (by first | rfl | (unfold lookC; omega)); exact mo_iretx E hr rfl hlk hM hS dX11_look_89 (by first | (rw [if_neg (by rw [hc]; decide)]; done) | (rw [if_neg (by rw [hc]; decide)]; rfl)) (pE hc (by decide))) | (have hc : lookC σ t w = 3 := (by first | rfl | (unfold lookC; omega)); exact mo_iretx E hr rfl hlk hM hS dX11_look_89 (by first | (rw [if_neg (by rw [hc]; decide)]; done) | (rw [if_neg (by rw [hc]; decide)]; rfl)) (pE hc (by decide))) | (have hc : lookC σ t w = 0 := (by first | rfl | (unfold lookC; omega)); exact mo_iretx E hr rfl hlk hM hS dX11_look_89 (by first | (rw [if_pos hc]; done) | (rw [if_pos hc]; rw [hsw]; rfl)) (pO hc (by first | rfl | (simp only [up_rd]; rfl) | simp [up_rd]) (by first | exact sEq.z | exact sEq.rf)))
    · refine x_tswIn (off := 69) (tgt := 90) B dX11_look_21 hsw (by decide) (by decide) rfl (by decide) ?_
      refine x_aload_n B hl dX11_look_90 rfl ?_
      refine mo_geta E hM 34 0 rfl (hts (.fieldLink RX11 90 "BinRoundsModel" "tipMark" "[I") (by decide +kernel)) rfl dX11_look_91 ?_
      refine x_iload_n B hl dX11_look_94 rfl ?_
      refine mo_ld (k := 34) E hM rfl (by have h9 : mLn 34 = 600 := rfl; omega) (by decide) dX11_look_95 (up_ne (by decide) rfl) (fun r_95 => ?_)
      first | (have hc : lookC σ t w = 1 := (by first | rfl | (unfold lookC; omega)); exact mo_iretx E hr rfl hlk hM hS dX11_look_96 (by first | (rw [if_neg (by rw [hc]; decide)]; done) | (rw [if_neg (by rw [hc]; decide)]; rfl)) (pE hc (by decide))) | (have hc : lookC σ t w = 2 := (by first | rfl | (unfold lookC; omega)); exact mo_iretx E hr rfl hlk hM hS dX11_look_96 (by first | (rw [if_neg (by rw [hc]; decide)]; done) | (rw [if_neg (by rw [hc]; decide)]; rfl)) (pE hc (by decide))) | (have hc : lookC σ t w = 3 := (by first | rfl | (unfold lookC; omega)); exact mo_iretx E hr rfl hlk hM hS dX11_look_96 (by first | (rw [if_neg (by rw [hc]; decide)]; done) | (rw [if_neg (by rw [hc]; decide)]; rfl)) (pE hc (by decide))) | (have hc : lookC σ t w = 0 := (by first | rfl | (unfold lookC; omega)); exact mo_iretx E hr rfl hlk hM hS dX11_look_96 (by first | (rw [if_pos hc]; done) | (rw [if_pos hc]; rw [hsw]; rfl)) (pO hc (by first | rfl | (simp only [up_rd]; rfl) | simp [up_rd]) (by first | exact sEq.z | exact sEq.rf)))
    · refine x_tswIn (off := 76) (tgt := 97) B dX11_look_21 hsw (by decide) (by decide) rfl (by decide) ?_
      refine x_aload_n B hl dX11_look_97 rfl ?_
      refine mo_geta E hM 35 0 rfl (hts (.fieldLink RX11 93 "BinRoundsModel" "halves" "[I") (by decide +kernel)) rfl dX11_look_98 ?_
      refine x_iload_n B hl dX11_look_101 rfl ?_
      refine mo_ld (k := 35) E hM rfl (by have h9 : mLn 35 = 600 := rfl; omega) (by decide) dX11_look_102 (up_ne (by decide) rfl) (fun r_102 => ?_)
      first | (have hc : lookC σ t w = 1 := (by first | rfl | (unfold lookC; omega)); exact mo_iretx E hr rfl hlk hM hS dX11_look_103 (by first | (rw [if_neg (by rw [hc]; decide)]; done) | (rw [if_neg (by rw [hc]; decide)]; rfl)) (pE hc (by decide))) | (have hc : lookC σ t w = 2 := (by first | rfl | (unfold lookC; omega)); exact mo_iretx E hr rfl hlk hM hS dX11_look_103 (by first | (rw [if_neg (by rw [hc]; decide)]; done) | (rw [if_neg (by rw [hc]; decide)]; rfl)) (pE hc (by decide))) | (have hc : lookC σ t w = 3 := (by first | rfl | (unfold lookC; omega)); exact mo_iretx E hr rfl hlk hM hS dX11_look_103 (by first | (rw [if_neg (by rw [hc]; decide)]; done) | (rw [if_neg (by rw [hc]; decide)]; rfl)) (pE hc (by decide))) | (have hc : lookC σ t w = 0 := (by first | rfl | (unfold lookC; omega)); exact mo_iretx E hr rfl hlk hM hS dX11_look_103 (by first | (rw [if_pos hc]; done) | (rw [if_pos hc]; rw [hsw]; rfl)) (pO hc (by first | rfl | (simp only [up_rd]; rfl) | simp [up_rd]) (by first | exact sEq.z | exact sEq.rf)))
    · refine x_tswIn (off := 83) (tgt := 104) B dX11_look_21 hsw (by decide) (by decide) rfl (by decide) ?_
      refine x_aload_n B hl dX11_look_104 rfl ?_
      refine mo_geta E hM 36 0 rfl (hts (.fieldLink RX11 96 "BinRoundsModel" "binOf" "[I") (by decide +kernel)) rfl dX11_look_105 ?_
      refine x_iload_n B hl dX11_look_108 rfl ?_
      refine mo_ld (k := 36) E hM rfl (by have h9 : mLn 36 = 600 := rfl; omega) (by decide) dX11_look_109 (up_ne (by decide) rfl) (fun r_109 => ?_)
      first | (have hc : lookC σ t w = 1 := (by first | rfl | (unfold lookC; omega)); exact mo_iretx E hr rfl hlk hM hS dX11_look_110 (by first | (rw [if_neg (by rw [hc]; decide)]; done) | (rw [if_neg (by rw [hc]; decide)]; rfl)) (pE hc (by decide))) | (have hc : lookC σ t w = 2 := (by first | rfl | (unfold lookC; omega)); exact mo_iretx E hr rfl hlk hM hS dX11_look_110 (by first | (rw [if_neg (by rw [hc]; decide)]; done) | (rw [if_neg (by rw [hc]; decide)]; rfl)) (pE hc (by decide))) | (have hc : lookC σ t w = 3 := (by first | rfl | (unfold lookC; omega)); exact mo_iretx E hr rfl hlk hM hS dX11_look_110 (by first | (rw [if_neg (by rw [hc]; decide)]; done) | (rw [if_neg (by rw [hc]; decide)]; rfl)) (pE hc (by decide))) | (have hc : lookC σ t w = 0 := (by first | rfl | (unfold lookC; omega)); exact mo_iretx E hr rfl hlk hM hS dX11_look_110 (by first | (rw [if_pos hc]; done) | (rw [if_pos hc]; rw [hsw]; rfl)) (pO hc (by first | rfl | (simp only [up_rd]; rfl) | simp [up_rd]) (by first | exact sEq.z | exact sEq.rf)))
    · refine x_tswIn (off := 90) (tgt := 111) B dX11_look_21 hsw (by decide) (by decide) rfl (by decide) ?_
      refine x_aload_n B hl dX11_look_111 rfl ?_
      refine mo_geta E hM 37 0 rfl (hts (.fieldLink RX11 99 "BinRoundsModel" "cameSo" "[I") (by decide +kernel)) rfl dX11_look_112 ?_
      refine x_iload_n B hl dX11_look_115 rfl ?_
      refine mo_ld (k := 37) E hM rfl (by have h9 : mLn 37 = 600 := rfl; omega) (by decide) dX11_look_116 (up_ne (by decide) rfl) (fun r_116 => ?_)
      first | (have hc : lookC σ t w = 1 := (by first | rfl | (unfold lookC; omega)); exact mo_iretx E hr rfl hlk hM hS dX11_look_117 (by first | (rw [if_neg (by rw [hc]; decide)]; done) | (rw [if_neg (by rw [hc]; decide)]; rfl)) (pE hc (by decide))) | (have hc : lookC σ t w = 2 := (by first | rfl | (unfold lookC; omega)); exact mo_iretx E hr rfl hlk hM hS dX11_look_117 (by first | (rw [if_neg (by rw [hc]; decide)]; done) | (rw [if_neg (by rw [hc]; decide)]; rfl)) (pE hc (by decide))) | (have hc : lookC σ t w = 3 := (by first | rfl | (unfold lookC; omega)); exact mo_iretx E hr rfl hlk hM hS dX11_look_117 (by first | (rw [if_neg (by rw [hc]; decide)]; done) | (rw [if_neg (by rw [hc]; decide)]; rfl)) (pE hc (by decide))) | (have hc : lookC σ t w = 0 := (by first | rfl | (unfold lookC; omega)); exact mo_iretx E hr rfl hlk hM hS dX11_look_117 (by first | (rw [if_pos hc]; done) | (rw [if_pos hc]; rw [hsw]; rfl)) (pO hc (by first | rfl | (simp only [up_rd]; rfl) | simp [up_rd]) (by first | exact sEq.z | exact sEq.rf)))
    · refine x_tswIn (off := 97) (tgt := 118) B dX11_look_21 hsw (by decide) (by decide) rfl (by decide) ?_
      refine x_aload_n B hl dX11_look_118 rfl ?_
      refine mo_geta E hM 38 0 rfl (hts (.fieldLink RX11 102 "BinRoundsModel" "weighedSo" "[I") (by decide +kernel)) rfl dX11_look_119 ?_
      refine x_iload_n B hl dX11_look_122 rfl ?_
      refine mo_ld (k := 38) E hM rfl (by have h9 : mLn 38 = 600 := rfl; omega) (by decide) dX11_look_123 (up_ne (by decide) rfl) (fun r_123 => ?_)
      first | (have hc : lookC σ t w = 1 := (by first | rfl | (unfold lookC; omega)); exact mo_iretx E hr rfl hlk hM hS dX11_look_124 (by first | (rw [if_neg (by rw [hc]; decide)]; done) | (rw [if_neg (by rw [hc]; decide)]; rfl)) (pE hc (by decide))) | (have hc : lookC σ t w = 2 := (by first | rfl | (unfold lookC; omega)); exact mo_iretx E hr rfl hlk hM hS dX11_look_124 (by first | (rw [if_neg (by rw [hc]; decide)]; done) | (rw [if_neg (by rw [hc]; decide)]; rfl)) (pE hc (by decide))) | (have hc : lookC σ t w = 3 := (by first | rfl | (unfold lookC; omega)); exact mo_iretx E hr rfl hlk hM hS dX11_look_124 (by first | (rw [if_neg (by rw [hc]; decide)]; done) | (rw [if_neg (by rw [hc]; decide)]; rfl)) (pE hc (by decide))) | (have hc : lookC σ t w = 0 := (by first | rfl | (unfold lookC; omega)); exact mo_iretx E hr rfl hlk hM hS dX11_look_124 (by first | (rw [if_pos hc]; done) | (rw [if_pos hc]; rw [hsw]; rfl)) (pO hc (by first | rfl | (simp only [up_rd]; rfl) | simp [up_rd]) (by first | exact sEq.z | exact sEq.rf)))
    · refine x_tswIn (off := 104) (tgt := 125) B dX11_look_21 hsw (by decide) (by decide) rfl (by decide) ?_
      refine x_aload_n B hl dX11_look_125 rfl ?_
      refine mo_geta E hM 39 0 rfl (hts (.fieldLink RX11 105 "BinRoundsModel" "paidHalves" "[I") (by decide +kernel)) rfl dX11_look_126 ?_
      refine x_iload_n B hl dX11_look_129 rfl ?_
      refine mo_ld (k := 39) E hM rfl (by have h9 : mLn 39 = 600 := rfl; omega) (by decide) dX11_look_130 (up_ne (by decide) rfl) (fun r_130 => ?_)
      first | (have hc : lookC σ t w = 1 := (by first | rfl | (unfold lookC; omega)); exact mo_iretx E hr rfl hlk hM hS dX11_look_131 (by first | (rw [if_neg (by rw [hc]; decide)]; done) | (rw [if_neg (by rw [hc]; decide)]; rfl)) (pE hc (by decide))) | (have hc : lookC σ t w = 2 := (by first | rfl | (unfold lookC; omega)); exact mo_iretx E hr rfl hlk hM hS dX11_look_131 (by first | (rw [if_neg (by rw [hc]; decide)]; done) | (rw [if_neg (by rw [hc]; decide)]; rfl)) (pE hc (by decide))) | (have hc : lookC σ t w = 3 := (by first | rfl | (unfold lookC; omega)); exact mo_iretx E hr rfl hlk hM hS dX11_look_131 (by first | (rw [if_neg (by rw [hc]; decide)]; done) | (rw [if_neg (by rw [hc]; decide)]; rfl)) (pE hc (by decide))) | (have hc : lookC σ t w = 0 := (by first | rfl | (unfold lookC; omega)); exact mo_iretx E hr rfl hlk hM hS dX11_look_131 (by first | (rw [if_pos hc]; done) | (rw [if_pos hc]; rw [hsw]; rfl)) (pO hc (by first | rfl | (simp only [up_rd]; rfl) | simp [up_rd]) (by first | exact sEq.z | exact sEq.rf)))
    · refine x_tswIn (off := 111) (tgt := 132) B dX11_look_21 hsw (by decide) (by decide) rfl (by decide) ?_
      refine x_aload_n B hl dX11_look_132 rfl ?_
      refine mo_geta E hM 40 1 rfl (hts (.fieldLink RX11 108 "BinRoundsModel" "isCharged" "[Z") (by decide +kernel)) rfl dX11_look_133 ?_
      refine x_iload_n B hl dX11_look_136 rfl ?_
      refine mo_zld (k := 40) E hM rfl (by have h9 : mLn 40 = 600 := rfl; omega) (by decide) dX11_look_137 (up_ne (by decide) rfl) (fun r_137 => ?_)
      refine z_call ⟨B.1, B.2, hml, hown, hts0⟩ hl (m_one_z l (by first | assumption | omega)) (va_cwS 1 hts0 gX11_look_X11_one rfl rfl rfl (by decide +kernel) ⟨Nat.le_of_ble_eq_true rfl, Nat.le_of_ble_eq_true rfl⟩) rfl rfl (Nat.le_of_ble_eq_true rfl) dX11_look_138 ⟨Nat.zero_le _, Nat.zero_le _⟩ (fun q_138 => ?_)
      first | (have hc : lookC σ t w = 1 := (by first | rfl | (unfold lookC; omega)); exact mo_iretx E hr rfl hlk hM hS dX11_look_141 (by first | (rw [if_neg (by rw [hc]; decide)]; done) | (rw [if_neg (by rw [hc]; decide)]; rfl)) (pE hc (by decide))) | (have hc : lookC σ t w = 2 := (by first | rfl | (unfold lookC; omega)); exact mo_iretx E hr rfl hlk hM hS dX11_look_141 (by first | (rw [if_neg (by rw [hc]; decide)]; done) | (rw [if_neg (by rw [hc]; decide)]; rfl)) (pE hc (by decide))) | (have hc : lookC σ t w = 3 := (by first | rfl | (unfold lookC; omega)); exact mo_iretx E hr rfl hlk hM hS dX11_look_141 (by first | (rw [if_neg (by rw [hc]; decide)]; done) | (rw [if_neg (by rw [hc]; decide)]; rfl)) (pE hc (by decide))) | (have hc : lookC σ t w = 0 := (by first | rfl | (unfold lookC; omega)); exact mo_iretx E hr rfl hlk hM hS dX11_look_141 (by first | (rw [if_pos hc]; done) | (rw [if_pos hc]; rw [hsw]; rfl)) (pO hc (by first | rfl | (simp only [up_rd]; rfl) | simp [up_rd]) (by first | exact sEq.z | exact sEq.rf)))
    · refine x_tswIn (off := 121) (tgt := 142) B dX11_look_21 hsw (by decide) (by decide) rfl (by decide) ?_
      refine x_aload_n B hl dX11_look_142 rfl ?_
      refine mo_geta E hM 41 1 rfl (hts (.fieldLink RX11 111 "BinRoundsModel" "toldWrong" "[Z") (by decide +kernel)) rfl dX11_look_143 ?_
      refine x_iload_n B hl dX11_look_146 rfl ?_
      refine mo_zld (k := 41) E hM rfl (by have h9 : mLn 41 = 600 := rfl; omega) (by decide) dX11_look_147 (up_ne (by decide) rfl) (fun r_147 => ?_)
      refine z_call ⟨B.1, B.2, hml, hown, hts0⟩ hl (m_one_z l (by first | assumption | omega)) (va_cwS 1 hts0 gX11_look_X11_one rfl rfl rfl (by decide +kernel) ⟨Nat.le_of_ble_eq_true rfl, Nat.le_of_ble_eq_true rfl⟩) rfl rfl (Nat.le_of_ble_eq_true rfl) dX11_look_148 ⟨Nat.zero_le _, Nat.zero_le _⟩ (fun q_148 => ?_)
      first | (have hc : lookC σ t w = 1 := (by first | rfl | (unfold lookC; omega)); exact mo_iretx E hr rfl hlk hM hS dX11_look_151 (by first | (rw [if_neg (by rw [hc]; decide)]; done) | (rw [if_neg (by rw [hc]; decide)]; rfl)) (pE hc (by decide))) | (have hc : lookC σ t w = 2 := (by first | rfl | (unfold lookC; omega)); exact mo_iretx E hr rfl hlk hM hS dX11_look_151 (by first | (rw [if_neg (by rw [hc]; decide)]; done) | (rw [if_neg (by rw [hc]; decide)]; rfl)) (pE hc (by decide))) | (have hc : lookC σ t w = 3 := (by first | rfl | (unfold lookC; omega)); exact mo_iretx E hr rfl hlk hM hS dX11_look_151 (by first | (rw [if_neg (by rw [hc]; decide)]; done) | (rw [if_neg (by rw [hc]; decide)]; rfl)) (pE hc (by decide))) | (have hc : lookC σ t w = 0 := (by first | rfl | (unfold lookC; omega)); exact mo_iretx E hr rfl hlk hM hS dX11_look_151 (by first | (rw [if_pos hc]; done) | (rw [if_pos hc]; rw [hsw]; rfl)) (pO hc (by first | rfl | (simp only [up_rd]; rfl) | simp [up_rd]) (by first | exact sEq.z | exact sEq.rf)))
    · refine lv_tableOut (tgt := 152) B.1 B.2 dX11_look_21 (by rw [iI_toInt h_w]; omega) (by decide) ?_
      refine x_aload_n B hl dX11_look_152 rfl ?_
      refine x_iconst B dX11_look_153 ?_
      refine mo_put E hM hS 0 rfl (hts (.fieldLink RX11 129 "BinRoundsModel" "thrown" "I") (by decide +kernel)) rfl rfl (by decide +kernel) (by omega) dX11_look_154 (fun H locs hM hS => ?_)
      refine x_iconst B dX11_look_157 ?_
      first | (have hc : lookC σ t w = 1 := (by first | rfl | (unfold lookC; omega)); exact mo_iretx E hr rfl hlk hM hS dX11_look_158 (by first | (rw [if_neg (by rw [hc]; decide)]; done) | (rw [if_neg (by rw [hc]; decide)]; rfl)) (pE hc (by decide))) | (have hc : lookC σ t w = 2 := (by first | rfl | (unfold lookC; omega)); exact mo_iretx E hr rfl hlk hM hS dX11_look_158 (by first | (rw [if_neg (by rw [hc]; decide)]; done) | (rw [if_neg (by rw [hc]; decide)]; rfl)) (pE hc (by decide))) | (have hc : lookC σ t w = 3 := (by first | rfl | (unfold lookC; omega)); exact mo_iretx E hr rfl hlk hM hS dX11_look_158 (by first | (rw [if_neg (by rw [hc]; decide)]; done) | (rw [if_neg (by rw [hc]; decide)]; rfl)) (pE hc (by decide))) | (have hc : lookC σ t w = 0 := (by first | rfl | (unfold lookC; omega)); exact mo_iretx E hr rfl hlk hM hS dX11_look_158 (by first | (rw [if_pos hc]; done) | (rw [if_pos hc]; rw [hsw]; rfl)) (pO hc (by first | rfl | (simp only [up_rd]; rfl) | simp [up_rd]) (by first | exact sEq.z | exact sEq.rf)))
set_option maxHeartbeats 4000000 in
set_option maxRecDepth 100000 in
theorem m_p_load (l : Launch) (D : va_G) (cy : Nat → ClassId) (o : Nat) (ad : Nat → Nat) (σ : MS) {q w : Int} {n : Int} (I : sInv n σ) (h_q : -2147483648 ≤ q ∧ q < 2147483648) (h_w : -2147483648 ≤ w ∧ w < 2147483648)  : MX l yX11_load wsX11_load ({ frames := 2, cells := 0, slots := 0, locals := 46 } : Room) D cy o ad [.int (iI q), .int (iI w)] σ (some (.int (iI (if loadC σ q w = 0 then loadR σ q w else 0)))) (fun τ => pEnd (loadC σ q w) (σ) σ τ) := by
  refine mx_of (cc := cX11_load) (nL := 3) (ret := (some .int)) (by decide) rfl rfl (fun w h => List.mem_cons_of_mem _ (List.mem_append_right _ h)) (Nat.le_of_ble_eq_true rfl) ⟨rfl, rfl⟩ ?_
  intro p e s m args below meth c ls E hr hlk hM hS hl
  have B := E.1
  have hml := E.2.1
  have hown := E.2.2.1
  have hts0 := E.2.2.2.1
  have hts := E.2.2.2.1
  have hw := hM.2.2.2
  have I0 := I
  obtain ⟨hn9, hOp, hnS, hnH, hnB, hnC, hnT, hPr, hTol, v3, v4, v6, v7, v12, v15, v16, v17, v18, v19, v20, v21, v22, v24, v25, v26, v28, v29, v32, v33, v35, v36, v37, v38, v39, v42, v43, v44, v40, vm⟩ := I
  refine x_aload_n B hl dX11_load_0 rfl ?_
  refine x_iconst B dX11_load_1 ?_
  refine mo_put E hM hS 0 rfl (hts (.fieldLink RX11 129 "BinRoundsModel" "thrown" "I") (by decide +kernel)) rfl rfl (by decide +kernel) (by omega) dX11_load_2 (fun H locs hM hS => ?_)
  refine x_aload_n B hl dX11_load_5 rfl ?_
  refine x_aload_n B hl dX11_load_6 rfl ?_
  refine x_iload_n B hl dX11_load_7 rfl ?_
  refine mo_call E hM hS hl (m_noCartk l D cy o ad _ (up_ne (by decide) rfl) (by omega)) (cwV 1 hts0 gX11_load_X11_noCart rfl rfl rfl (by decide +kernel) ⟨Nat.le_of_ble_eq_true rfl, Nat.le_of_ble_eq_true rfl⟩) rfl rfl (Nat.le_of_ble_eq_true rfl) dX11_load_8 ⟨Nat.zero_le _, Nat.zero_le _⟩ (fun H locs q_8 hM hS => ?_)
  refine x_bool (fun b_8 => ?_) (fun b_8 => ?_)
  · refine x_iconst B dX11_load_11 ?_
    refine mo_call E hM hS hl (m_throwsIf_1 l D cy o ad _ _ (by decide)) (cwV 2 hts0 gX11_load_X11_throwsIf rfl rfl rfl (by decide +kernel) ⟨Nat.le_of_ble_eq_true rfl, Nat.le_of_ble_eq_true rfl⟩) rfl rfl (Nat.le_of_ble_eq_true rfl) dX11_load_12 ⟨Nat.zero_le _, Nat.zero_le _⟩ (fun H locs q_t hM hS => ?_)
    refine x_if_eq_f (tgt := 20) B dX11_load_15 (by decide) (by decide) ?_
    refine x_iconst B dX11_load_18 ?_
    first | (have hc : loadC σ q w = 1 := (by first | rfl | (unfold loadC; omega)); exact mo_iretx E hr rfl hlk hM hS dX11_load_19 (by first | (rw [if_neg (by rw [hc]; decide)]; done) | (rw [if_neg (by rw [hc]; decide)]; rfl)) (pE hc (by decide))) | (have hc : loadC σ q w = 2 := (by first | rfl | (unfold loadC; omega)); exact mo_iretx E hr rfl hlk hM hS dX11_load_19 (by first | (rw [if_neg (by rw [hc]; decide)]; done) | (rw [if_neg (by rw [hc]; decide)]; rfl)) (pE hc (by decide))) | (have hc : loadC σ q w = 3 := (by first | rfl | (unfold loadC; omega)); exact mo_iretx E hr rfl hlk hM hS dX11_load_19 (by first | (rw [if_neg (by rw [hc]; decide)]; done) | (rw [if_neg (by rw [hc]; decide)]; rfl)) (pE hc (by decide))) | (have hc : loadC σ q w = 0 := (by first | rfl | (unfold loadC; omega)); exact mo_iretx E hr rfl hlk hM hS dX11_load_19 (by first | (rw [if_pos hc]; done) | (rw [if_pos hc]; rw [hsw]; first | rfl | (show _ = iI (if sAgr σ q then 1 else 0); first | (rw [if_pos (by assumption)]; done) | (rw [if_neg (by assumption)]; done)))) (pO hc (by first | rfl | (simp only [up_rd]; rfl) | simp [up_rd]) (by first | exact sEq.z | exact sEq.rf)))
  · refine x_iconst B dX11_load_11 ?_
    refine mo_call E hM hS hl (m_throwsIf_0 l D cy o ad _ _ (by decide)) (cwV 2 hts0 gX11_load_X11_throwsIf rfl rfl rfl (by decide +kernel) ⟨Nat.le_of_ble_eq_true rfl, Nat.le_of_ble_eq_true rfl⟩) rfl rfl (Nat.le_of_ble_eq_true rfl) dX11_load_12 ⟨Nat.zero_le _, Nat.zero_le _⟩ (fun H locs q_t hM hS => ?_)
    refine x_if_eq_t (tgt := 20) B dX11_load_15 (by decide) (by decide) ?_
    refine x_iload_n B hl dX11_load_20 rfl ?_
    rcases (show w = 0 ∨ w = 1 ∨ w = 2 ∨ w = 3 ∨ w = 4 ∨ (w < 0 ∨ 4 < w) by omega) with hsw | hsw | hsw | hsw | hsw | hsw
    · refine x_tswIn (off := 35) (tgt := 56) B dX11_load_21 hsw (by decide) (by decide) rfl (by decide) ?_
      refine x_aload_n B hl dX11_load_56 rfl ?_
      refine mo_geta E hM 25 0 rfl (hts (.fieldLink RX11 72 "BinRoundsModel" "carry" "[I") (by decide +kernel)) rfl dX11_load_57 ?_
      refine x_iload_n B hl dX11_load_60 rfl ?_
      refine mo_ld (k := 25) E hM rfl (by have h9 : mLn 25 = 5 := rfl; omega) (by decide) dX11_load_61 (up_ne (by decide) rfl) (fun r_61 => ?_)
      first | (have hc : loadC σ q w = 1 := (by first | rfl | (unfold loadC; omega)); exact mo_iretx E hr rfl hlk hM hS dX11_load_62 (by first | (rw [if_neg (by rw [hc]; decide)]; done) | (rw [if_neg (by rw [hc]; decide)]; rfl)) (pE hc (by decide))) | (have hc : loadC σ q w = 2 := (by first | rfl | (unfold loadC; omega)); exact mo_iretx E hr rfl hlk hM hS dX11_load_62 (by first | (rw [if_neg (by rw [hc]; decide)]; done) | (rw [if_neg (by rw [hc]; decide)]; rfl)) (pE hc (by decide))) | (have hc : loadC σ q w = 3 := (by first | rfl | (unfold loadC; omega)); exact mo_iretx E hr rfl hlk hM hS dX11_load_62 (by first | (rw [if_neg (by rw [hc]; decide)]; done) | (rw [if_neg (by rw [hc]; decide)]; rfl)) (pE hc (by decide))) | (have hc : loadC σ q w = 0 := (by first | rfl | (unfold loadC; omega)); exact mo_iretx E hr rfl hlk hM hS dX11_load_62 (by first | (rw [if_pos hc]; done) | (rw [if_pos hc]; rw [hsw]; first | rfl | (show _ = iI (if sAgr σ q then 1 else 0); first | (rw [if_pos (by assumption)]; done) | (rw [if_neg (by assumption)]; done)))) (pO hc (by first | rfl | (simp only [up_rd]; rfl) | simp [up_rd]) (by first | exact sEq.z | exact sEq.rf)))
    · refine x_tswIn (off := 42) (tgt := 63) B dX11_load_21 hsw (by decide) (by decide) rfl (by decide) ?_
      refine x_aload_n B hl dX11_load_63 rfl ?_
      refine x_iload_n B hl dX11_load_64 rfl ?_
      refine mo_call E hM hS hl (m_halvesTodayc l D cy o ad _ σ sEq.z I0 (by omega)) (cwV 1 hts0 gX11_load_X11_halvesToday rfl rfl rfl (by decide +kernel) ⟨Nat.le_of_ble_eq_true rfl, Nat.le_of_ble_eq_true rfl⟩) rfl rfl (Nat.le_of_ble_eq_true rfl) dX11_load_65 ⟨Nat.zero_le _, Nat.zero_le _⟩ (fun H locs q_h hM hS => ?_)
      first | (have hc : loadC σ q w = 1 := (by first | rfl | (unfold loadC; omega)); exact mo_iretx E hr rfl hlk hM hS dX11_load_68 (by first | (rw [if_neg (by rw [hc]; decide)]; done) | (rw [if_neg (by rw [hc]; decide)]; rfl)) (pE hc (by decide))) | (have hc : loadC σ q w = 2 := (by first | rfl | (unfold loadC; omega)); exact mo_iretx E hr rfl hlk hM hS dX11_load_68 (by first | (rw [if_neg (by rw [hc]; decide)]; done) | (rw [if_neg (by rw [hc]; decide)]; rfl)) (pE hc (by decide))) | (have hc : loadC σ q w = 3 := (by first | rfl | (unfold loadC; omega)); exact mo_iretx E hr rfl hlk hM hS dX11_load_68 (by first | (rw [if_neg (by rw [hc]; decide)]; done) | (rw [if_neg (by rw [hc]; decide)]; rfl)) (pE hc (by decide))) | (have hc : loadC σ q w = 0 := (by first | rfl | (unfold loadC; omega)); exact mo_iretx E hr rfl hlk hM hS dX11_load_68 (by first | (rw [if_pos hc]; done) | (rw [if_pos hc]; rw [hsw]; first | rfl | (show _ = iI (if sAgr σ q then 1 else 0); first | (rw [if_pos (by assumption)]; done) | (rw [if_neg (by assumption)]; done)))) (pO hc (by first | rfl | (simp only [up_rd]; rfl) | simp [up_rd]) (by first | exact sEq.z | exact sEq.rf)))
    · refine x_tswIn (off := 48) (tgt := 69) B dX11_load_21 hsw (by decide) (by decide) rfl (by decide) ?_
      refine x_aload_n B hl dX11_load_69 rfl ?_
      refine mo_geta E hM 26 0 rfl (hts (.fieldLink RX11 75 "BinRoundsModel" "gates" "[I") (by decide +kernel)) rfl dX11_load_70 ?_
      refine x_iload_n B hl dX11_load_73 rfl ?_
      refine mo_ld (k := 26) E hM rfl (by have h9 : mLn 26 = 5 := rfl; omega) (by decide) dX11_load_74 (up_ne (by decide) rfl) (fun r_74 => ?_)
      first | (have hc : loadC σ q w = 1 := (by first | rfl | (unfold loadC; omega)); exact mo_iretx E hr rfl hlk hM hS dX11_load_75 (by first | (rw [if_neg (by rw [hc]; decide)]; done) | (rw [if_neg (by rw [hc]; decide)]; rfl)) (pE hc (by decide))) | (have hc : loadC σ q w = 2 := (by first | rfl | (unfold loadC; omega)); exact mo_iretx E hr rfl hlk hM hS dX11_load_75 (by first | (rw [if_neg (by rw [hc]; decide)]; done) | (rw [if_neg (by rw [hc]; decide)]; rfl)) (pE hc (by decide))) | (have hc : loadC σ q w = 3 := (by first | rfl | (unfold loadC; omega)); exact mo_iretx E hr rfl hlk hM hS dX11_load_75 (by first | (rw [if_neg (by rw [hc]; decide)]; done) | (rw [if_neg (by rw [hc]; decide)]; rfl)) (pE hc (by decide))) | (have hc : loadC σ q w = 0 := (by first | rfl | (unfold loadC; omega)); exact mo_iretx E hr rfl hlk hM hS dX11_load_75 (by first | (rw [if_pos hc]; done) | (rw [if_pos hc]; rw [hsw]; first | rfl | (show _ = iI (if sAgr σ q then 1 else 0); first | (rw [if_pos (by assumption)]; done) | (rw [if_neg (by assumption)]; done)))) (pO hc (by first | rfl | (simp only [up_rd]; rfl) | simp [up_rd]) (by first | exact sEq.z | exact sEq.rf)))
    · refine x_tswIn (off := 55) (tgt := 76) B dX11_load_21 hsw (by decide) (by decide) rfl (by decide) ?_
      refine x_aload_n B hl dX11_load_76 rfl ?_
      refine x_iload_n B hl dX11_load_77 rfl ?_
      refine mo_call E hM hS hl (m_agreesc l D cy o ad _ σ sEq.z I0 (by omega)) (cwV 1 hts0 gX11_load_X11_agrees rfl rfl rfl (by decide +kernel) ⟨Nat.le_of_ble_eq_true rfl, Nat.le_of_ble_eq_true rfl⟩) rfl rfl (Nat.le_of_ble_eq_true rfl) dX11_load_78 ⟨Nat.zero_le _, Nat.zero_le _⟩ (fun H locs q_78 hM hS => ?_)
      refine x_bool (fun b_78 => ?_) (fun b_78 => ?_)
      · refine z_call ⟨B.1, B.2, hml, hown, hts0⟩ hl (m_one_1 l) (va_cwS 1 hts0 gX11_load_X11_one rfl rfl rfl (by decide +kernel) ⟨Nat.le_of_ble_eq_true rfl, Nat.le_of_ble_eq_true rfl⟩) rfl rfl (Nat.le_of_ble_eq_true rfl) dX11_load_81 ⟨Nat.zero_le _, Nat.zero_le _⟩ (fun q_81 => ?_)
        first | (have hc : loadC σ q w = 1 := (by first | rfl | (unfold loadC; omega)); exact mo_iretx E hr rfl hlk hM hS dX11_load_84 (by first | (rw [if_neg (by rw [hc]; decide)]; done) | (rw [if_neg (by rw [hc]; decide)]; rfl)) (pE hc (by decide))) | (have hc : loadC σ q w = 2 := (by first | rfl | (unfold loadC; omega)); exact mo_iretx E hr rfl hlk hM hS dX11_load_84 (by first | (rw [if_neg (by rw [hc]; decide)]; done) | (rw [if_neg (by rw [hc]; decide)]; rfl)) (pE hc (by decide))) | (have hc : loadC σ q w = 3 := (by first | rfl | (unfold loadC; omega)); exact mo_iretx E hr rfl hlk hM hS dX11_load_84 (by first | (rw [if_neg (by rw [hc]; decide)]; done) | (rw [if_neg (by rw [hc]; decide)]; rfl)) (pE hc (by decide))) | (have hc : loadC σ q w = 0 := (by first | rfl | (unfold loadC; omega)); exact mo_iretx E hr rfl hlk hM hS dX11_load_84 (by first | (rw [if_pos hc]; done) | (rw [if_pos hc]; rw [hsw]; first | rfl | (show _ = iI (if sAgr σ q then 1 else 0); first | (rw [if_pos (by assumption)]; done) | (rw [if_neg (by assumption)]; done)))) (pO hc (by first | rfl | (simp only [up_rd]; rfl) | simp [up_rd]) (by first | exact sEq.z | exact sEq.rf)))
      · refine z_call ⟨B.1, B.2, hml, hown, hts0⟩ hl (m_one_0 l) (va_cwS 1 hts0 gX11_load_X11_one rfl rfl rfl (by decide +kernel) ⟨Nat.le_of_ble_eq_true rfl, Nat.le_of_ble_eq_true rfl⟩) rfl rfl (Nat.le_of_ble_eq_true rfl) dX11_load_81 ⟨Nat.zero_le _, Nat.zero_le _⟩ (fun q_81 => ?_)
        first | (have hc : loadC σ q w = 1 := (by first | rfl | (unfold loadC; omega)); exact mo_iretx E hr rfl hlk hM hS dX11_load_84 (by first | (rw [if_neg (by rw [hc]; decide)]; done) | (rw [if_neg (by rw [hc]; decide)]; rfl)) (pE hc (by decide))) | (have hc : loadC σ q w = 2 := (by first | rfl | (unfold loadC; omega)); exact mo_iretx E hr rfl hlk hM hS dX11_load_84 (by first | (rw [if_neg (by rw [hc]; decide)]; done) | (rw [if_neg (by rw [hc]; decide)]; rfl)) (pE hc (by decide))) | (have hc : loadC σ q w = 3 := (by first | rfl | (unfold loadC; omega)); exact mo_iretx E hr rfl hlk hM hS dX11_load_84 (by first | (rw [if_neg (by rw [hc]; decide)]; done) | (rw [if_neg (by rw [hc]; decide)]; rfl)) (pE hc (by decide))) | (have hc : loadC σ q w = 0 := (by first | rfl | (unfold loadC; omega)); exact mo_iretx E hr rfl hlk hM hS dX11_load_84 (by first | (rw [if_pos hc]; done) | (rw [if_pos hc]; rw [hsw]; first | rfl | (show _ = iI (if sAgr σ q then 1 else 0); first | (rw [if_pos (by assumption)]; done) | (rw [if_neg (by assumption)]; done)))) (pO hc (by first | rfl | (simp only [up_rd]; rfl) | simp [up_rd]) (by first | exact sEq.z | exact sEq.rf)))
    · refine x_tswIn (off := 64) (tgt := 85) B dX11_load_21 hsw (by decide) (by decide) rfl (by decide) ?_
      refine x_aload_n B hl dX11_load_85 rfl ?_
      refine mo_geta E hM 24 0 rfl (hts (.fieldLink RX11 69 "BinRoundsModel" "limits" "[I") (by decide +kernel)) rfl dX11_load_86 ?_
      refine x_iload_n B hl dX11_load_89 rfl ?_
      refine mo_ld (k := 24) E hM rfl (by have h9 : mLn 24 = 5 := rfl; omega) (by decide) dX11_load_90 (up_ne (by decide) rfl) (fun r_90 => ?_)
      first | (have hc : loadC σ q w = 1 := (by first | rfl | (unfold loadC; omega)); exact mo_iretx E hr rfl hlk hM hS dX11_load_91 (by first | (rw [if_neg (by rw [hc]; decide)]; done) | (rw [if_neg (by rw [hc]; decide)]; rfl)) (pE hc (by decide))) | (have hc : loadC σ q w = 2 := (by first | rfl | (unfold loadC; omega)); exact mo_iretx E hr rfl hlk hM hS dX11_load_91 (by first | (rw [if_neg (by rw [hc]; decide)]; done) | (rw [if_neg (by rw [hc]; decide)]; rfl)) (pE hc (by decide))) | (have hc : loadC σ q w = 3 := (by first | rfl | (unfold loadC; omega)); exact mo_iretx E hr rfl hlk hM hS dX11_load_91 (by first | (rw [if_neg (by rw [hc]; decide)]; done) | (rw [if_neg (by rw [hc]; decide)]; rfl)) (pE hc (by decide))) | (have hc : loadC σ q w = 0 := (by first | rfl | (unfold loadC; omega)); exact mo_iretx E hr rfl hlk hM hS dX11_load_91 (by first | (rw [if_pos hc]; done) | (rw [if_pos hc]; rw [hsw]; first | rfl | (show _ = iI (if sAgr σ q then 1 else 0); first | (rw [if_pos (by assumption)]; done) | (rw [if_neg (by assumption)]; done)))) (pO hc (by first | rfl | (simp only [up_rd]; rfl) | simp [up_rd]) (by first | exact sEq.z | exact sEq.rf)))
    · refine lv_tableOut (tgt := 92) B.1 B.2 dX11_load_21 (by rw [iI_toInt h_w]; omega) (by decide) ?_
      refine x_aload_n B hl dX11_load_92 rfl ?_
      refine x_iconst B dX11_load_93 ?_
      refine mo_put E hM hS 0 rfl (hts (.fieldLink RX11 129 "BinRoundsModel" "thrown" "I") (by decide +kernel)) rfl rfl (by decide +kernel) (by omega) dX11_load_94 (fun H locs hM hS => ?_)
      refine x_iconst B dX11_load_97 ?_
      first | (have hc : loadC σ q w = 1 := (by first | rfl | (unfold loadC; omega)); exact mo_iretx E hr rfl hlk hM hS dX11_load_98 (by first | (rw [if_neg (by rw [hc]; decide)]; done) | (rw [if_neg (by rw [hc]; decide)]; rfl)) (pE hc (by decide))) | (have hc : loadC σ q w = 2 := (by first | rfl | (unfold loadC; omega)); exact mo_iretx E hr rfl hlk hM hS dX11_load_98 (by first | (rw [if_neg (by rw [hc]; decide)]; done) | (rw [if_neg (by rw [hc]; decide)]; rfl)) (pE hc (by decide))) | (have hc : loadC σ q w = 3 := (by first | rfl | (unfold loadC; omega)); exact mo_iretx E hr rfl hlk hM hS dX11_load_98 (by first | (rw [if_neg (by rw [hc]; decide)]; done) | (rw [if_neg (by rw [hc]; decide)]; rfl)) (pE hc (by decide))) | (have hc : loadC σ q w = 0 := (by first | rfl | (unfold loadC; omega)); exact mo_iretx E hr rfl hlk hM hS dX11_load_98 (by first | (rw [if_pos hc]; done) | (rw [if_pos hc]; rw [hsw]; first | rfl | (show _ = iI (if sAgr σ q then 1 else 0); first | (rw [if_pos (by assumption)]; done) | (rw [if_neg (by assumption)]; done)))) (pO hc (by first | rfl | (simp only [up_rd]; rfl) | simp [up_rd]) (by first | exact sEq.z | exact sEq.rf)))
set_option maxHeartbeats 4000000 in
set_option maxRecDepth 100000 in
theorem m_p_state (l : Launch) (D : va_G) (cy : Nat → ClassId) (o : Nat) (ad : Nat → Nat) (σ : MS) {b w : Int} {n : Int} (I : sInv n σ) (h_b : -2147483648 ≤ b ∧ b < 2147483648) (h_w : -2147483648 ≤ w ∧ w < 2147483648)  : MX l yX11_state wsX11_state ({ frames := 1, cells := 0, slots := 0, locals := 24 } : Room) D cy o ad [.int (iI b), .int (iI w)] σ (some (.int (iI (if stateC σ b w = 0 then stateR σ b w else 0)))) (fun τ => pEnd (stateC σ b w) (σ) σ τ) := by
  refine mx_of (cc := cX11_state) (nL := 3) (ret := (some .int)) (by decide) rfl rfl (fun w h => List.mem_cons_of_mem _ (List.mem_append_right _ h)) (Nat.le_of_ble_eq_true rfl) ⟨rfl, rfl⟩ ?_
  intro p e s m args below meth c ls E hr hlk hM hS hl
  have B := E.1
  have hml := E.2.1
  have hown := E.2.2.1
  have hts0 := E.2.2.2.1
  have hts := E.2.2.2.1
  have hw := hM.2.2.2
  have I0 := I
  obtain ⟨hn9, hOp, hnS, hnH, hnB, hnC, hnT, hPr, hTol, v3, v4, v6, v7, v12, v15, v16, v17, v18, v19, v20, v21, v22, v24, v25, v26, v28, v29, v32, v33, v35, v36, v37, v38, v39, v42, v43, v44, v40, vm⟩ := I
  refine x_aload_n B hl dX11_state_0 rfl ?_
  refine x_iconst B dX11_state_1 ?_
  refine mo_put E hM hS 0 rfl (hts (.fieldLink RX11 129 "BinRoundsModel" "thrown" "I") (by decide +kernel)) rfl rfl (by decide +kernel) (by omega) dX11_state_2 (fun H locs hM hS => ?_)
  refine x_aload_n B hl dX11_state_5 rfl ?_
  refine x_aload_n B hl dX11_state_6 rfl ?_
  refine x_iload_n B hl dX11_state_7 rfl ?_
  refine mo_call E hM hS hl (m_noBink l D cy o ad _ (up_ne (by decide) rfl) (by omega)) (cwV 1 hts0 gX11_state_X11_noBin rfl rfl rfl (by decide +kernel) ⟨Nat.le_of_ble_eq_true rfl, Nat.le_of_ble_eq_true rfl⟩) rfl rfl (Nat.le_of_ble_eq_true rfl) dX11_state_8 ⟨Nat.zero_le _, Nat.zero_le _⟩ (fun H locs q_8 hM hS => ?_)
  refine x_bool (fun b_8 => ?_) (fun b_8 => ?_)
  · refine x_iconst B dX11_state_11 ?_
    refine mo_call E hM hS hl (m_throwsIf_1 l D cy o ad _ _ (by decide)) (cwV 2 hts0 gX11_state_X11_throwsIf rfl rfl rfl (by decide +kernel) ⟨Nat.le_of_ble_eq_true rfl, Nat.le_of_ble_eq_true rfl⟩) rfl rfl (Nat.le_of_ble_eq_true rfl) dX11_state_12 ⟨Nat.zero_le _, Nat.zero_le _⟩ (fun H locs q_t hM hS => ?_)
    refine x_if_eq_f (tgt := 20) B dX11_state_15 (by decide) (by decide) ?_
    refine x_iconst B dX11_state_18 ?_
    first | (have hc : stateC σ b w = 1 := (by first | rfl | (unfold stateC; omega)); exact mo_iretx E hr rfl hlk hM hS dX11_state_19 (by first | (rw [if_neg (by rw [hc]; decide)]; done) | (rw [if_neg (by rw [hc]; decide)]; rfl)) (pE hc (by decide))) | (have hc : stateC σ b w = 2 := (by first | rfl | (unfold stateC; omega)); exact mo_iretx E hr rfl hlk hM hS dX11_state_19 (by first | (rw [if_neg (by rw [hc]; decide)]; done) | (rw [if_neg (by rw [hc]; decide)]; rfl)) (pE hc (by decide))) | (have hc : stateC σ b w = 3 := (by first | rfl | (unfold stateC; omega)); exact mo_iretx E hr rfl hlk hM hS dX11_state_19 (by first | (rw [if_neg (by rw [hc]; decide)]; done) | (rw [if_neg (by rw [hc]; decide)]; rfl)) (pE hc (by decide))) | (have hc : stateC σ b w = 0 := (by first | rfl | (unfold stateC; omega)); exact mo_iretx E hr rfl hlk hM hS dX11_state_19 (by first | (rw [if_pos hc]; done) | (rw [if_pos hc]; rw [hsw]; first | rfl | (show _ = iI (if σ 13 b = 1 then σ 14 b else 0); first | (rw [if_pos (by omega)]; done) | (rw [if_neg (by omega)]; done)))) (pO hc (by first | rfl | (simp only [up_rd]; rfl) | simp [up_rd]) (by first | exact sEq.z | exact sEq.rf)))
  · refine x_iconst B dX11_state_11 ?_
    refine mo_call E hM hS hl (m_throwsIf_0 l D cy o ad _ _ (by decide)) (cwV 2 hts0 gX11_state_X11_throwsIf rfl rfl rfl (by decide +kernel) ⟨Nat.le_of_ble_eq_true rfl, Nat.le_of_ble_eq_true rfl⟩) rfl rfl (Nat.le_of_ble_eq_true rfl) dX11_state_12 ⟨Nat.zero_le _, Nat.zero_le _⟩ (fun H locs q_t hM hS => ?_)
    refine x_if_eq_t (tgt := 20) B dX11_state_15 (by decide) (by decide) ?_
    refine x_iload_n B hl dX11_state_20 rfl ?_
    rcases (show w = 0 ∨ w = 1 ∨ w = 2 ∨ w = 3 ∨ w = 4 ∨ w = 5 ∨ w = 6 ∨ (w < 0 ∨ 6 < w) by omega) with hsw | hsw | hsw | hsw | hsw | hsw | hsw | hsw
    · refine x_tswIn (off := 43) (tgt := 64) B dX11_state_21 hsw (by decide) (by decide) rfl (by decide) ?_
      refine x_aload_n B hl dX11_state_64 rfl ?_
      refine mo_geta E hM 12 0 rfl (hts (.fieldLink RX11 36 "BinRoundsModel" "kind" "[I") (by decide +kernel)) rfl dX11_state_65 ?_
      refine x_iload_n B hl dX11_state_68 rfl ?_
      refine mo_ld (k := 12) E hM rfl (by have h9 : mLn 12 = 120 := rfl; omega) (by decide) dX11_state_69 (up_ne (by decide) rfl) (fun r_69 => ?_)
      first | (have hc : stateC σ b w = 1 := (by first | rfl | (unfold stateC; omega)); exact mo_iretx E hr rfl hlk hM hS dX11_state_70 (by first | (rw [if_neg (by rw [hc]; decide)]; done) | (rw [if_neg (by rw [hc]; decide)]; rfl)) (pE hc (by decide))) | (have hc : stateC σ b w = 2 := (by first | rfl | (unfold stateC; omega)); exact mo_iretx E hr rfl hlk hM hS dX11_state_70 (by first | (rw [if_neg (by rw [hc]; decide)]; done) | (rw [if_neg (by rw [hc]; decide)]; rfl)) (pE hc (by decide))) | (have hc : stateC σ b w = 3 := (by first | rfl | (unfold stateC; omega)); exact mo_iretx E hr rfl hlk hM hS dX11_state_70 (by first | (rw [if_neg (by rw [hc]; decide)]; done) | (rw [if_neg (by rw [hc]; decide)]; rfl)) (pE hc (by decide))) | (have hc : stateC σ b w = 0 := (by first | rfl | (unfold stateC; omega)); exact mo_iretx E hr rfl hlk hM hS dX11_state_70 (by first | (rw [if_pos hc]; done) | (rw [if_pos hc]; rw [hsw]; first | rfl | (show _ = iI (if σ 13 b = 1 then σ 14 b else 0); first | (rw [if_pos (by omega)]; done) | (rw [if_neg (by omega)]; done)))) (pO hc (by first | rfl | (simp only [up_rd]; rfl) | simp [up_rd]) (by first | exact sEq.z | exact sEq.rf)))
    · refine x_tswIn (off := 50) (tgt := 71) B dX11_state_21 hsw (by decide) (by decide) rfl (by decide) ?_
      refine x_aload_n B hl dX11_state_71 rfl ?_
      refine mo_geta E hM 13 1 rfl (hts (.fieldLink RX11 39 "BinRoundsModel" "bears" "[Z") (by decide +kernel)) rfl dX11_state_72 ?_
      refine x_iload_n B hl dX11_state_75 rfl ?_
      refine mo_zld (k := 13) E hM rfl (by have h9 : mLn 13 = 120 := rfl; omega) (by decide) dX11_state_76 (up_ne (by decide) rfl) (fun r_76 => ?_)
      refine z_call ⟨B.1, B.2, hml, hown, hts0⟩ hl (m_one_z l (by first | assumption | omega)) (va_cwS 1 hts0 gX11_state_X11_one rfl rfl rfl (by decide +kernel) ⟨Nat.le_of_ble_eq_true rfl, Nat.le_of_ble_eq_true rfl⟩) rfl rfl (Nat.le_of_ble_eq_true rfl) dX11_state_77 ⟨Nat.zero_le _, Nat.zero_le _⟩ (fun q_77 => ?_)
      first | (have hc : stateC σ b w = 1 := (by first | rfl | (unfold stateC; omega)); exact mo_iretx E hr rfl hlk hM hS dX11_state_80 (by first | (rw [if_neg (by rw [hc]; decide)]; done) | (rw [if_neg (by rw [hc]; decide)]; rfl)) (pE hc (by decide))) | (have hc : stateC σ b w = 2 := (by first | rfl | (unfold stateC; omega)); exact mo_iretx E hr rfl hlk hM hS dX11_state_80 (by first | (rw [if_neg (by rw [hc]; decide)]; done) | (rw [if_neg (by rw [hc]; decide)]; rfl)) (pE hc (by decide))) | (have hc : stateC σ b w = 3 := (by first | rfl | (unfold stateC; omega)); exact mo_iretx E hr rfl hlk hM hS dX11_state_80 (by first | (rw [if_neg (by rw [hc]; decide)]; done) | (rw [if_neg (by rw [hc]; decide)]; rfl)) (pE hc (by decide))) | (have hc : stateC σ b w = 0 := (by first | rfl | (unfold stateC; omega)); exact mo_iretx E hr rfl hlk hM hS dX11_state_80 (by first | (rw [if_pos hc]; done) | (rw [if_pos hc]; rw [hsw]; first | rfl | (show _ = iI (if σ 13 b = 1 then σ 14 b else 0); first | (rw [if_pos (by omega)]; done) | (rw [if_neg (by omega)]; done)))) (pO hc (by first | rfl | (simp only [up_rd]; rfl) | simp [up_rd]) (by first | exact sEq.z | exact sEq.rf)))
    · refine x_tswIn (off := 60) (tgt := 81) B dX11_state_21 hsw (by decide) (by decide) rfl (by decide) ?_
      refine x_aload_n B hl dX11_state_81 rfl ?_
      refine mo_geta E hM 13 1 rfl (hts (.fieldLink RX11 39 "BinRoundsModel" "bears" "[Z") (by decide +kernel)) rfl dX11_state_82 ?_
      refine x_iload_n B hl dX11_state_85 rfl ?_
      refine mo_zld (k := 13) E hM rfl (by have h9 : mLn 13 = 120 := rfl; omega) (by decide) dX11_state_86 (up_ne (by decide) rfl) (fun r_86 => ?_)
      refine x_if_eq (tgt := 99) B dX11_state_87 (by decide) (by omega) (fun c_87 => ?_) (fun c_87 => ?_)
      · refine x_iconst B dX11_state_99 ?_
        first | (have hc : stateC σ b w = 1 := (by first | rfl | (unfold stateC; omega)); exact mo_iretx E hr rfl hlk hM hS dX11_state_100 (by first | (rw [if_neg (by rw [hc]; decide)]; done) | (rw [if_neg (by rw [hc]; decide)]; rfl)) (pE hc (by decide))) | (have hc : stateC σ b w = 2 := (by first | rfl | (unfold stateC; omega)); exact mo_iretx E hr rfl hlk hM hS dX11_state_100 (by first | (rw [if_neg (by rw [hc]; decide)]; done) | (rw [if_neg (by rw [hc]; decide)]; rfl)) (pE hc (by decide))) | (have hc : stateC σ b w = 3 := (by first | rfl | (unfold stateC; omega)); exact mo_iretx E hr rfl hlk hM hS dX11_state_100 (by first | (rw [if_neg (by rw [hc]; decide)]; done) | (rw [if_neg (by rw [hc]; decide)]; rfl)) (pE hc (by decide))) | (have hc : stateC σ b w = 0 := (by first | rfl | (unfold stateC; omega)); exact mo_iretx E hr rfl hlk hM hS dX11_state_100 (by first | (rw [if_pos hc]; done) | (rw [if_pos hc]; rw [hsw]; first | rfl | (show _ = iI (if σ 13 b = 1 then σ 14 b else 0); first | (rw [if_pos (by omega)]; done) | (rw [if_neg (by omega)]; done)))) (pO hc (by first | rfl | (simp only [up_rd]; rfl) | simp [up_rd]) (by first | exact sEq.z | exact sEq.rf)))
      · refine x_aload_n B hl dX11_state_90 rfl ?_
        refine mo_geta E hM 14 0 rfl (hts (.fieldLink RX11 42 "BinRoundsModel" "markOf" "[I") (by decide +kernel)) rfl dX11_state_91 ?_
        refine x_iload_n B hl dX11_state_94 rfl ?_
        refine mo_ld (k := 14) E hM rfl (by have h9 : mLn 14 = 120 := rfl; omega) (by decide) dX11_state_95 (up_ne (by decide) rfl) (fun r_95 => ?_)
        refine x_goto (tgt := 100) B dX11_state_96 (by decide) ?_
        first | (have hc : stateC σ b w = 1 := (by first | rfl | (unfold stateC; omega)); exact mo_iretx E hr rfl hlk hM hS dX11_state_100 (by first | (rw [if_neg (by rw [hc]; decide)]; done) | (rw [if_neg (by rw [hc]; decide)]; rfl)) (pE hc (by decide))) | (have hc : stateC σ b w = 2 := (by first | rfl | (unfold stateC; omega)); exact mo_iretx E hr rfl hlk hM hS dX11_state_100 (by first | (rw [if_neg (by rw [hc]; decide)]; done) | (rw [if_neg (by rw [hc]; decide)]; rfl)) (pE hc (by decide))) | (have hc : stateC σ b w = 3 := (by first | rfl | (unfold stateC; omega)); exact mo_iretx E hr rfl hlk hM hS dX11_state_100 (by first | (rw [if_neg (by rw [hc]; decide)]; done) | (rw [if_neg (by rw [hc]; decide)]; rfl)) (pE hc (by decide))) | (have hc : stateC σ b w = 0 := (by first | rfl | (unfold stateC; omega)); exact mo_iretx E hr rfl hlk hM hS dX11_state_100 (by first | (rw [if_pos hc]; done) | (rw [if_pos hc]; rw [hsw]; first | rfl | (show _ = iI (if σ 13 b = 1 then σ 14 b else 0); first | (rw [if_pos (by omega)]; done) | (rw [if_neg (by omega)]; done)))) (pO hc (by first | rfl | (simp only [up_rd]; rfl) | simp [up_rd]) (by first | exact sEq.z | exact sEq.rf)))
    · refine x_tswIn (off := 80) (tgt := 101) B dX11_state_21 hsw (by decide) (by decide) rfl (by decide) ?_
      refine x_aload_n B hl dX11_state_101 rfl ?_
      refine x_iload_n B hl dX11_state_102 rfl ?_
      refine x_aload_n B hl dX11_state_103 rfl ?_
      refine mo_gets E hM 1 rfl (hts (.fieldLink RX11 152 "BinRoundsModel" "open" "I") (by decide +kernel)) rfl dX11_state_104 (up_ne (by decide) rfl) (fun r_104 => ?_)
      refine mo_call E hM hS hl (m_houseOfs l D cy o ad _ σ sEq.z I0 (by omega) (by omega)) (cwV 2 hts0 gX11_state_X11_houseOf rfl rfl rfl (by decide +kernel) ⟨Nat.le_of_ble_eq_true rfl, Nat.le_of_ble_eq_true rfl⟩) rfl rfl (Nat.le_of_ble_eq_true rfl) dX11_state_107 ⟨Nat.zero_le _, Nat.zero_le _⟩ (fun H locs q_s hM hS => ?_)
      first | (have hc : stateC σ b w = 1 := (by first | rfl | (unfold stateC; omega)); exact mo_iretx E hr rfl hlk hM hS dX11_state_110 (by first | (rw [if_neg (by rw [hc]; decide)]; done) | (rw [if_neg (by rw [hc]; decide)]; rfl)) (pE hc (by decide))) | (have hc : stateC σ b w = 2 := (by first | rfl | (unfold stateC; omega)); exact mo_iretx E hr rfl hlk hM hS dX11_state_110 (by first | (rw [if_neg (by rw [hc]; decide)]; done) | (rw [if_neg (by rw [hc]; decide)]; rfl)) (pE hc (by decide))) | (have hc : stateC σ b w = 3 := (by first | rfl | (unfold stateC; omega)); exact mo_iretx E hr rfl hlk hM hS dX11_state_110 (by first | (rw [if_neg (by rw [hc]; decide)]; done) | (rw [if_neg (by rw [hc]; decide)]; rfl)) (pE hc (by decide))) | (have hc : stateC σ b w = 0 := (by first | rfl | (unfold stateC; omega)); exact mo_iretx E hr rfl hlk hM hS dX11_state_110 (by first | (rw [if_pos hc]; done) | (rw [if_pos hc]; rw [hsw]; first | rfl | (show _ = iI (if σ 13 b = 1 then σ 14 b else 0); first | (rw [if_pos (by omega)]; done) | (rw [if_neg (by omega)]; done)))) (pO hc (by first | rfl | (simp only [up_rd]; rfl) | simp [up_rd]) (by first | exact sEq.z | exact sEq.rf)))
    · refine x_tswIn (off := 90) (tgt := 111) B dX11_state_21 hsw (by decide) (by decide) rfl (by decide) ?_
      refine x_aload_n B hl dX11_state_111 rfl ?_
      refine mo_geta E hM 15 0 rfl (hts (.fieldLink RX11 45 "BinRoundsModel" "wrongs" "[I") (by decide +kernel)) rfl dX11_state_112 ?_
      refine x_iload_n B hl dX11_state_115 rfl ?_
      refine mo_ld (k := 15) E hM rfl (by have h9 : mLn 15 = 120 := rfl; omega) (by decide) dX11_state_116 (up_ne (by decide) rfl) (fun r_116 => ?_)
      first | (have hc : stateC σ b w = 1 := (by first | rfl | (unfold stateC; omega)); exact mo_iretx E hr rfl hlk hM hS dX11_state_117 (by first | (rw [if_neg (by rw [hc]; decide)]; done) | (rw [if_neg (by rw [hc]; decide)]; rfl)) (pE hc (by decide))) | (have hc : stateC σ b w = 2 := (by first | rfl | (unfold stateC; omega)); exact mo_iretx E hr rfl hlk hM hS dX11_state_117 (by first | (rw [if_neg (by rw [hc]; decide)]; done) | (rw [if_neg (by rw [hc]; decide)]; rfl)) (pE hc (by decide))) | (have hc : stateC σ b w = 3 := (by first | rfl | (unfold stateC; omega)); exact mo_iretx E hr rfl hlk hM hS dX11_state_117 (by first | (rw [if_neg (by rw [hc]; decide)]; done) | (rw [if_neg (by rw [hc]; decide)]; rfl)) (pE hc (by decide))) | (have hc : stateC σ b w = 0 := (by first | rfl | (unfold stateC; omega)); exact mo_iretx E hr rfl hlk hM hS dX11_state_117 (by first | (rw [if_pos hc]; done) | (rw [if_pos hc]; rw [hsw]; first | rfl | (show _ = iI (if σ 13 b = 1 then σ 14 b else 0); first | (rw [if_pos (by omega)]; done) | (rw [if_neg (by omega)]; done)))) (pO hc (by first | rfl | (simp only [up_rd]; rfl) | simp [up_rd]) (by first | exact sEq.z | exact sEq.rf)))
    · refine x_tswIn (off := 97) (tgt := 118) B dX11_state_21 hsw (by decide) (by decide) rfl (by decide) ?_
      refine x_aload_n B hl dX11_state_118 rfl ?_
      refine mo_geta E hM 18 0 rfl (hts (.fieldLink RX11 54 "BinRoundsModel" "moves" "[I") (by decide +kernel)) rfl dX11_state_119 ?_
      refine x_iload_n B hl dX11_state_122 rfl ?_
      refine mo_ld (k := 18) E hM rfl (by have h9 : mLn 18 = 120 := rfl; omega) (by decide) dX11_state_123 (up_ne (by decide) rfl) (fun r_123 => ?_)
      first | (have hc : stateC σ b w = 1 := (by first | rfl | (unfold stateC; omega)); exact mo_iretx E hr rfl hlk hM hS dX11_state_124 (by first | (rw [if_neg (by rw [hc]; decide)]; done) | (rw [if_neg (by rw [hc]; decide)]; rfl)) (pE hc (by decide))) | (have hc : stateC σ b w = 2 := (by first | rfl | (unfold stateC; omega)); exact mo_iretx E hr rfl hlk hM hS dX11_state_124 (by first | (rw [if_neg (by rw [hc]; decide)]; done) | (rw [if_neg (by rw [hc]; decide)]; rfl)) (pE hc (by decide))) | (have hc : stateC σ b w = 3 := (by first | rfl | (unfold stateC; omega)); exact mo_iretx E hr rfl hlk hM hS dX11_state_124 (by first | (rw [if_neg (by rw [hc]; decide)]; done) | (rw [if_neg (by rw [hc]; decide)]; rfl)) (pE hc (by decide))) | (have hc : stateC σ b w = 0 := (by first | rfl | (unfold stateC; omega)); exact mo_iretx E hr rfl hlk hM hS dX11_state_124 (by first | (rw [if_pos hc]; done) | (rw [if_pos hc]; rw [hsw]; first | rfl | (show _ = iI (if σ 13 b = 1 then σ 14 b else 0); first | (rw [if_pos (by omega)]; done) | (rw [if_neg (by omega)]; done)))) (pO hc (by first | rfl | (simp only [up_rd]; rfl) | simp [up_rd]) (by first | exact sEq.z | exact sEq.rf)))
    · refine x_tswIn (off := 104) (tgt := 125) B dX11_state_21 hsw (by decide) (by decide) rfl (by decide) ?_
      refine x_aload_n B hl dX11_state_125 rfl ?_
      refine mo_geta E hM 22 0 rfl (hts (.fieldLink RX11 66 "BinRoundsModel" "parts" "[I") (by decide +kernel)) rfl dX11_state_126 ?_
      refine x_iload_n B hl dX11_state_129 rfl ?_
      refine mo_ld (k := 22) E hM rfl (by have h9 : mLn 22 = 120 := rfl; omega) (by decide) dX11_state_130 (up_ne (by decide) rfl) (fun r_130 => ?_)
      first | (have hc : stateC σ b w = 1 := (by first | rfl | (unfold stateC; omega)); exact mo_iretx E hr rfl hlk hM hS dX11_state_131 (by first | (rw [if_neg (by rw [hc]; decide)]; done) | (rw [if_neg (by rw [hc]; decide)]; rfl)) (pE hc (by decide))) | (have hc : stateC σ b w = 2 := (by first | rfl | (unfold stateC; omega)); exact mo_iretx E hr rfl hlk hM hS dX11_state_131 (by first | (rw [if_neg (by rw [hc]; decide)]; done) | (rw [if_neg (by rw [hc]; decide)]; rfl)) (pE hc (by decide))) | (have hc : stateC σ b w = 3 := (by first | rfl | (unfold stateC; omega)); exact mo_iretx E hr rfl hlk hM hS dX11_state_131 (by first | (rw [if_neg (by rw [hc]; decide)]; done) | (rw [if_neg (by rw [hc]; decide)]; rfl)) (pE hc (by decide))) | (have hc : stateC σ b w = 0 := (by first | rfl | (unfold stateC; omega)); exact mo_iretx E hr rfl hlk hM hS dX11_state_131 (by first | (rw [if_pos hc]; done) | (rw [if_pos hc]; rw [hsw]; first | rfl | (show _ = iI (if σ 13 b = 1 then σ 14 b else 0); first | (rw [if_pos (by omega)]; done) | (rw [if_neg (by omega)]; done)))) (pO hc (by first | rfl | (simp only [up_rd]; rfl) | simp [up_rd]) (by first | exact sEq.z | exact sEq.rf)))
    · refine lv_tableOut (tgt := 132) B.1 B.2 dX11_state_21 (by rw [iI_toInt h_w]; omega) (by decide) ?_
      refine x_aload_n B hl dX11_state_132 rfl ?_
      refine x_iconst B dX11_state_133 ?_
      refine mo_put E hM hS 0 rfl (hts (.fieldLink RX11 129 "BinRoundsModel" "thrown" "I") (by decide +kernel)) rfl rfl (by decide +kernel) (by omega) dX11_state_134 (fun H locs hM hS => ?_)
      refine x_iconst B dX11_state_137 ?_
      first | (have hc : stateC σ b w = 1 := (by first | rfl | (unfold stateC; omega)); exact mo_iretx E hr rfl hlk hM hS dX11_state_138 (by first | (rw [if_neg (by rw [hc]; decide)]; done) | (rw [if_neg (by rw [hc]; decide)]; rfl)) (pE hc (by decide))) | (have hc : stateC σ b w = 2 := (by first | rfl | (unfold stateC; omega)); exact mo_iretx E hr rfl hlk hM hS dX11_state_138 (by first | (rw [if_neg (by rw [hc]; decide)]; done) | (rw [if_neg (by rw [hc]; decide)]; rfl)) (pE hc (by decide))) | (have hc : stateC σ b w = 3 := (by first | rfl | (unfold stateC; omega)); exact mo_iretx E hr rfl hlk hM hS dX11_state_138 (by first | (rw [if_neg (by rw [hc]; decide)]; done) | (rw [if_neg (by rw [hc]; decide)]; rfl)) (pE hc (by decide))) | (have hc : stateC σ b w = 0 := (by first | rfl | (unfold stateC; omega)); exact mo_iretx E hr rfl hlk hM hS dX11_state_138 (by first | (rw [if_pos hc]; done) | (rw [if_pos hc]; rw [hsw]; first | rfl | (show _ = iI (if σ 13 b = 1 then σ 14 b else 0); first | (rw [if_pos (by omega)]; done) | (rw [if_neg (by omega)]; done)))) (pO hc (by first | rfl | (simp only [up_rd]; rfl) | simp [up_rd]) (by first | exact sEq.z | exact sEq.rf)))
