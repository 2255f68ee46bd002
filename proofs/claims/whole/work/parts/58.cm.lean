set_option maxHeartbeats 4000000 in
set_option maxRecDepth 100000 in
theorem c_p_charge (l : Launch) (hlt : l.stackTraces = false) (D : va_G) (cy : Nat → ClassId) (d0 : Nat) (A : Nat → Prop) (la : Nat → Int → Nat) (σ : MS) {t : Int} (h_t : -2147483648 ≤ t ∧ t < 2147483648) (hn5 : 0 ≤ σ 5 0 ∧ σ 5 0 ≤ 1000) (hn11 : 0 ≤ σ 11 0 ∧ σ 11 0 ≤ 1000) (hn23 : 0 ≤ σ 23 0 ∧ σ 23 0 ≤ 1000) (hn27 : 0 ≤ σ 27 0 ∧ σ 27 0 ≤ 1000) (hn45 : 0 ≤ σ 45 0 ∧ σ 45 0 ≤ 600) (hlg : σ 58 0 = 0 ∧ σ 59 0 = 0) (hn11b : σ 11 0 ≤ 60) (hcb : σ 40 t = 1 → 0 ≤ σ 36 t) (hbnA : 0 ≤ t → t < σ 45 0 → ¬ σ 36 t < 0 → 0 ≤ σ 36 t ∧ σ 36 t < σ 23 0) (h42 : 0 ≤ σ 42 t ∧ σ 42 t ≤ 100000) (h43 : 0 ≤ σ 43 t ∧ σ 43 t ≤ 100000) (h39 : 0 ≤ σ 39 t ∧ σ 39 t ≤ 3000000) (hd : 0 ≤ σ 32 t ∧ σ 32 t ≤ 699) (hm : ∀ b, 0 ≤ σ 18 b ∧ σ 18 b ≤ 8) (hv : ∀ j, 0 ≤ σ 16 j) (hho : ¬ sHouse σ (σ 36 t) (σ 32 t) < 0 → 0 ≤ sHouse σ (σ 36 t) (σ 32 t) ∧ sHouse σ (σ 36 t) (σ 32 t) < σ 11 0) (hm22 : ∀ b, 0 ≤ σ 22 b ∧ σ 22 b ≤ 20) (hpw : ∀ j, 0 ≤ σ 20 j ∧ σ 20 j ≤ 1000) (hv19A : 0 ≤ t → t < σ 45 0 → ¬ σ 36 t < 0 → ∀ j, 0 ≤ σ 19 j ∧ σ 19 j < σ 11 0) : CT l yX10_charge wsX10_charge ({ frames := 8, cells := 16, slots := 256, locals := 141 } : Room) D cy d0 A [.ref (la 0 0), .int (iI t)] la σ ((if oneC t (σ 45 0) = 1 then 1 else 0)) (fun v' la' τ => v' = some (.long (lI (sChg σ t))) ∧ la' = la ∧ ∀ q, q ≠ 51 → q ≠ 52 → τ q = σ q) 16 256 := by
  refine ct_of (cc := cX10_charge) (nL := 3) (ret := (some .long)) (by decide) rfl (Nat.le_of_ble_eq_true rfl) ?_
  intro p e s m args below meth c ls E hout hr hlk hK hC hS hl
  have B := E.1
  have hml := E.2.1
  have hown := E.2.2.1
  have hts0 := E.2.2.2.1
  have hts := E.2.2.2.1
  have hw := hC.2.2.2.2.2.1
  refine x_aload_n B hl dX10_charge_0 rfl ?_
  refine x_iload_n B hl dX10_charge_1 rfl ?_
  refine ctm_call E hout hlk hK hC hS hl (κ := 0) (i := 0) (by decide) cl_0 rfl (c_tipAt l hlt D cy d0 A la _ (z := t) h_t (by omega) (by omega) hlg) (cwV 1 hts0 gX10_charge_X10_tipAt rfl rfl rfl (by decide +kernel) ⟨Nat.le_of_ble_eq_true rfl, Nat.le_of_ble_eq_true rfl⟩) rfl rfl (Nat.le_of_ble_eq_true rfl) dX10_charge_2 ⟨Nat.le_of_ble_eq_true rfl, Nat.le_of_ble_eq_true rfl⟩ ⟨Nat.le_of_ble_eq_true rfl, Nat.le_of_ble_eq_true rfl⟩ (fun h => ⟨by unfold oneC; omega, rfl⟩) (fun h9_2 H locs ht1 hC hS => ?_)
  refine x_astore_n B hl dX10_charge_5 (by decide) (fun ls hl => ?_)
  refine x_aload_n B hl dX10_charge_6 rfl ?_
  refine x_aload_n B hl dX10_charge_7 rfl ?_
  refine co_callX E hK hC hS hl (κ := 0) (i := 0) (by decide) cl_0 rfl (c_splitCharge l D cy d0 A la σ ht1 hn45 (by omega) hn23 hcb (hbnA ht1.1 ht1.2) h42 h43 h39 hd hm hv hho hm22 hpw (hv19A ht1.1 ht1.2)) (cwV 1 hts0 gX10_charge_X10_splitCharge rfl rfl rfl (by decide +kernel) ⟨Nat.le_of_ble_eq_true rfl, Nat.le_of_ble_eq_true rfl⟩) rfl rfl (Nat.le_of_ble_eq_true rfl) dX10_charge_8 ⟨Nat.le_of_ble_eq_true rfl, Nat.le_of_ble_eq_true rfl⟩ (fun H locs τ1 qx hC hS => ?_)
  exact w_widen (Nat.le_of_ble_eq_true rfl) (Nat.le_of_ble_eq_true rfl) (vx_ret (co_lret E hr hlk hC hS dX10_charge_11 ⟨(by unfold oneC; omega), rfl, rfl, qx.1⟩))
set_option maxHeartbeats 4000000 in
set_option maxRecDepth 100000 in
theorem c_p_share (l : Launch) (hlt : l.stackTraces = false) (D : va_G) (cy : Nat → ClassId) (d0 : Nat) (A : Nat → Prop) (la : Nat → Int → Nat) (σ : MS) {t : Int} {h : Int} (h_t : -2147483648 ≤ t ∧ t < 2147483648) (h_h : -2147483648 ≤ h ∧ h < 2147483648) (hn5 : 0 ≤ σ 5 0 ∧ σ 5 0 ≤ 1000) (hn11 : 0 ≤ σ 11 0 ∧ σ 11 0 ≤ 1000) (hn23 : 0 ≤ σ 23 0 ∧ σ 23 0 ≤ 1000) (hn27 : 0 ≤ σ 27 0 ∧ σ 27 0 ≤ 1000) (hn45 : 0 ≤ σ 45 0 ∧ σ 45 0 ≤ 600) (hlg : σ 58 0 = 0 ∧ σ 59 0 = 0) (hn11b : σ 11 0 ≤ 60) (hcb : σ 40 t = 1 → 0 ≤ σ 36 t) (hbnA : 0 ≤ t → t < σ 45 0 → ¬ σ 36 t < 0 → 0 ≤ σ 36 t ∧ σ 36 t < σ 23 0) (h42 : 0 ≤ σ 42 t ∧ σ 42 t ≤ 100000) (h43 : 0 ≤ σ 43 t ∧ σ 43 t ≤ 100000) (h39 : 0 ≤ σ 39 t ∧ σ 39 t ≤ 3000000) (hd : 0 ≤ σ 32 t ∧ σ 32 t ≤ 699) (hm : ∀ b, 0 ≤ σ 18 b ∧ σ 18 b ≤ 8) (hv : ∀ j, 0 ≤ σ 16 j) (hho : ¬ sHouse σ (σ 36 t) (σ 32 t) < 0 → 0 ≤ sHouse σ (σ 36 t) (σ 32 t) ∧ sHouse σ (σ 36 t) (σ 32 t) < σ 11 0) (hm22 : ∀ b, 0 ≤ σ 22 b ∧ σ 22 b ≤ 20) (hpw : ∀ j, 0 ≤ σ 20 j ∧ σ 20 j ≤ 1000) (hv19A : 0 ≤ t → t < σ 45 0 → ¬ σ 36 t < 0 → ∀ j, 0 ≤ σ 19 j ∧ σ 19 j < σ 11 0) : CT l yX10_share wsX10_share ({ frames := 8, cells := 16, slots := 256, locals := 141 } : Room) D cy d0 A [.ref (la 0 0), .int (iI t), .int (iI h)] la σ ((if shareC σ t h = 1 then 1 else 0)) (fun v' la' τ => v' = some (.long (lI (sShr σ t h))) ∧ la' = la ∧ ∀ q, q ≠ 51 → q ≠ 52 → τ q = σ q) 16 256 := by
  refine ct_of (cc := cX10_share) (nL := 5) (ret := (some .long)) (by decide) rfl (Nat.le_of_ble_eq_true rfl) ?_
  intro p e s m args below meth c ls E hout hr hlk hK hC hS hl
  have B := E.1
  have hml := E.2.1
  have hown := E.2.2.1
  have hts0 := E.2.2.2.1
  have hts := E.2.2.2.1
  have hw := hC.2.2.2.2.2.1
  refine x_aload_n B hl dX10_share_0 rfl ?_
  refine x_iload_n B hl dX10_share_1 rfl ?_
  refine ctm_call E hout hlk hK hC hS hl (κ := 0) (i := 0) (by decide) cl_0 rfl (c_tipAt l hlt D cy d0 A la _ (z := t) h_t (by omega) (by omega) hlg) (cwV 1 hts0 gX10_share_X10_tipAt rfl rfl rfl (by decide +kernel) ⟨Nat.le_of_ble_eq_true rfl, Nat.le_of_ble_eq_true rfl⟩) rfl rfl (Nat.le_of_ble_eq_true rfl) dX10_share_2 ⟨Nat.le_of_ble_eq_true rfl, Nat.le_of_ble_eq_true rfl⟩ ⟨Nat.le_of_ble_eq_true rfl, Nat.le_of_ble_eq_true rfl⟩ (fun h => ⟨by unfold shareC; omega, rfl⟩) (fun h9_2 H locs ht1 hC hS => ?_)
  refine x_astore_n B hl dX10_share_5 (by decide) (fun ls hl => ?_)
  refine x_aload_n B hl dX10_share_6 rfl ?_
  refine x_iload_n B hl dX10_share_7 rfl ?_
  refine ctm_call E hout hlk hK hC hS hl (κ := 0) (i := 0) (by decide) cl_0 rfl (c_houseAt l hlt D cy d0 A la _ (z := h) h_h (by omega) (by omega) hlg) (cwV 1 hts0 gX10_share_X10_houseAt rfl rfl rfl (by decide +kernel) ⟨Nat.le_of_ble_eq_true rfl, Nat.le_of_ble_eq_true rfl⟩) rfl rfl (Nat.le_of_ble_eq_true rfl) dX10_share_8 ⟨Nat.le_of_ble_eq_true rfl, Nat.le_of_ble_eq_true rfl⟩ ⟨Nat.le_of_ble_eq_true rfl, Nat.le_of_ble_eq_true rfl⟩ (fun h => ⟨by unfold shareC; omega, rfl⟩) (fun h9_8 H locs hh1 hC hS => ?_)
  refine x_astore B hl dX10_share_11 (by decide) (fun ls hl => ?_)
  refine x_aload_n B hl dX10_share_13 rfl ?_
  refine x_aload_n B hl dX10_share_14 rfl ?_
  refine co_callX E hK hC hS hl (κ := 0) (i := 0) (by decide) cl_0 rfl (c_splitCharge l D cy d0 A la σ ht1 hn45 (by omega) hn23 hcb (hbnA ht1.1 ht1.2) h42 h43 h39 hd hm hv hho hm22 hpw (hv19A ht1.1 ht1.2)) (cwV 1 hts0 gX10_share_X10_splitCharge rfl rfl rfl (by decide +kernel) ⟨Nat.le_of_ble_eq_true rfl, Nat.le_of_ble_eq_true rfl⟩) rfl rfl (Nat.le_of_ble_eq_true rfl) dX10_share_15 ⟨Nat.le_of_ble_eq_true rfl, Nat.le_of_ble_eq_true rfl⟩ (fun H locs τ1 qx hC hS => ?_)
  refine lv_pop2_2 B.1 B.2 dX10_share_18 rfl ?_
  refine x_aload B hl dX10_share_19 rfl ?_
  refine co_getl (f := 52) E hC 5 (by decide) (cl_q (cLq_w qx.1) (cl_5 hh1)) rfl (fun z h => List.mem_cons_of_mem _ (List.mem_append_left _ (List.mem_append_left _ (List.mem_append_left _ (List.mem_append_left _ (List.mem_append_left _ (List.mem_append_left _ (List.mem_append_left _ (List.mem_append_right _ h))))))))) 9 (by decide) (hts (.fieldLink RX10 303 "BinRounds$House" "part" "J") (by decide +kernel)) (fun x hx => hx) dX10_share_21 ⟨rfl, rfl⟩ (qx.2 h hh1.1 hh1.2) ?_
  exact w_widen (Nat.le_of_ble_eq_true rfl) (Nat.le_of_ble_eq_true rfl) (vx_ret (co_lret E hr hlk hC hS dX10_share_24 ⟨(by unfold shareC; omega), rfl, rfl, qx.1⟩))
set_option maxHeartbeats 4000000 in
set_option maxRecDepth 100000 in
theorem c_p_middle (l : Launch) (hlt : l.stackTraces = false) (D : va_G) (cy : Nat → ClassId) (d0 : Nat) (A : Nat → Prop) (la : Nat → Int → Nat) (σ : MS) {b : Int} (h_b : -2147483648 ≤ b ∧ b < 2147483648) (hn5 : 0 ≤ σ 5 0 ∧ σ 5 0 ≤ 1000) (hn11 : 0 ≤ σ 11 0 ∧ σ 11 0 ≤ 1000) (hn23 : 0 ≤ σ 23 0 ∧ σ 23 0 ≤ 1000) (hn27 : 0 ≤ σ 27 0 ∧ σ 27 0 ≤ 1000) (hn45 : 0 ≤ σ 45 0 ∧ σ 45 0 ≤ 600) (hlg : σ 58 0 = 0 ∧ σ 59 0 = 0) (hh : ∀ t, 0 ≤ t → t < σ 45 0 → 0 ≤ σ 35 t ∧ σ 35 t ≤ 3000000) (hbn : ∀ t, 0 ≤ t → t < σ 45 0 → ¬ σ 36 t < 0 → 0 ≤ σ 36 t ∧ σ 36 t < σ 23 0) : CT l yX10_middle wsX10_middle ({ frames := 8, cells := 16, slots := 256, locals := 124 } : Room) D cy d0 A [.ref (la 0 0), .int (iI b)] la σ ((if oneC b (σ 23 0) = 1 then 1 else 0)) (fun v' la' τ => v' = some (.int (iI (sMiddle σ b))) ∧ la' = la ∧ ∀ q, q ≠ 55 → q ≠ 56 → τ q = σ q) 16 256 := by
  refine ct_of (cc := cX10_middle) (nL := 2) (ret := (some .int)) (by decide) rfl (Nat.le_of_ble_eq_true rfl) ?_
  intro p e s m args below meth c ls E hout hr hlk hK hC hS hl
  have B := E.1
  have hml := E.2.1
  have hown := E.2.2.1
  have hts0 := E.2.2.2.1
  have hts := E.2.2.2.1
  have hw := hC.2.2.2.2.2.1
  refine x_aload_n B hl dX10_middle_0 rfl ?_
  refine x_aload_n B hl dX10_middle_1 rfl ?_
  refine x_iload_n B hl dX10_middle_2 rfl ?_
  refine ctm_call E hout hlk hK hC hS hl (κ := 0) (i := 0) (by decide) cl_0 rfl (c_binAt l hlt D cy d0 A la _ (z := b) h_b (by omega) hlg) (cwV 1 hts0 gX10_middle_X10_binAt rfl rfl rfl (by decide +kernel) ⟨Nat.le_of_ble_eq_true rfl, Nat.le_of_ble_eq_true rfl⟩) rfl rfl (Nat.le_of_ble_eq_true rfl) dX10_middle_3 ⟨Nat.le_of_ble_eq_true rfl, Nat.le_of_ble_eq_true rfl⟩ ⟨Nat.le_of_ble_eq_true rfl, Nat.le_of_ble_eq_true rfl⟩ (fun h => ⟨by unfold oneC; omega, rfl⟩) (fun h9_3 H locs hb1 hC hS => ?_)
  refine co_callX E hK hC hS hl (κ := 0) (i := 0) (by decide) cl_0 rfl (c_middleOf_r5 l D cy d0 A la σ σ (fun _ _ => rfl) (b := b) hb1 hn45 hn23 hlg hh hbn) (cwV 1 hts0 gX10_middle_X10_middleOf rfl rfl rfl (by decide +kernel) ⟨Nat.le_of_ble_eq_true rfl, Nat.le_of_ble_eq_true rfl⟩) rfl rfl (Nat.le_of_ble_eq_true rfl) dX10_middle_6 ⟨Nat.le_of_ble_eq_true rfl, Nat.le_of_ble_eq_true rfl⟩ (fun H locs τ1 qx hC hS => ?_)
  exact w_widen (Nat.le_of_ble_eq_true rfl) (Nat.le_of_ble_eq_true rfl) (vx_ret (co_iret E hr rfl hlk hC hS dX10_middle_9 ⟨(by unfold oneC; omega), rfl, rfl, qx.1⟩))
