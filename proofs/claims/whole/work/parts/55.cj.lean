theorem sW1_f {σ : MS} {t : Int} {f : Nat} (h : f ≠ 15) : sW1 σ t f = σ f := by
  unfold sW1
  split
  · exact up_f h
  · rfl
theorem tkS_f {σ : MS} {t b : Int} {f : Nat} (h : f ≠ 7) : tkS σ t b f = σ f := by
  unfold tkS
  split
  · exact up_f h
  · rfl
theorem tk_ch {σ : MS} {t : Int} (h0 : ∀ j, 0 ≤ σ 7 j) (hk : 0 ≤ σ 12 (σ 36 t) ∧ σ 12 (σ 36 t) ≤ 4) (hwr : σ 41 t = 1 → σ 12 (σ 36 t) = 1 ∨ σ 12 (σ 36 t) = 2) : sFin (tkS (sW1 σ t) t (σ 36 t)) t (tkV (sW1 σ t) t (σ 36 t)) = sCh σ t := by
  obtain ⟨ω, hω⟩ : ∃ z, z = sW1 σ t := ⟨_, rfl⟩
  have e7 : ω 7 = σ 7 := by rw [hω]; exact sW1_f (by decide)
  have e12 : ω 12 = σ 12 := by rw [hω]; exact sW1_f (by decide)
  have e32 : ω 32 = σ 32 := by rw [hω]; exact sW1_f (by decide)
  have e36 : ω 36 = σ 36 := by rw [hω]; exact sW1_f (by decide)
  have e41 : ω 41 = σ 41 := by rw [hω]; exact sW1_f (by decide)
  have hq := h0 (sHouse ω (σ 36 t) (σ 32 t))
  unfold sCh sChB
  rw [← hω, e12, e36, e32, e7]
  by_cases h4 : σ 12 (σ 36 t) = 4
  · rw [if_pos h4]
    by_cases hb : 0 ≤ sHouse ω (σ 36 t) (σ 32 t) ∧ 0 < σ 7 (sHouse ω (σ 36 t) (σ 32 t))
    · rw [if_pos hb]
      have hB : tkB ω t (σ 36 t) := by unfold tkB; rw [e32, e7]; omega
      have hv : tkV ω t (σ 36 t) = -1 := by unfold tkV; rw [e12, if_neg (by omega), if_neg (by omega), if_pos h4, if_pos hB]
      have hs : tkS ω t (σ 36 t) = up ω 7 (sHouse ω (σ 36 t) (σ 32 t)) (σ 7 (sHouse ω (σ 36 t) (σ 32 t)) - 1) := by unfold tkS; rw [e12, if_pos ⟨h4, hB⟩, e32, e7]
      rw [hv, hs]
    · rw [if_neg hb]
      have hB : ¬ tkB ω t (σ 36 t) := by unfold tkB; rw [e32, e7]; omega
      have hv : tkV ω t (σ 36 t) = 4 := by unfold tkV; rw [e12, if_neg (by omega), if_neg (by omega), if_pos h4, if_neg hB]
      have hs : tkS ω t (σ 36 t) = ω := by unfold tkS; rw [if_neg (fun z => hB z.2)]
      rw [hv, hs]
  · rw [if_neg h4]
    have hs : tkS ω t (σ 36 t) = ω := by unfold tkS; rw [e12, if_neg (fun z => h4 z.1)]
    rw [hs]
    by_cases hT : tkT ω t (σ 36 t)
    · have hT2 : σ 41 t = 1 ∧ 2 < ω 15 (σ 36 t) := by unfold tkT at hT; rw [e41] at hT; omega
      rw [if_pos hT2, if_pos rfl]
      have hv : tkV ω t (σ 36 t) = 0 := by
        unfold tkV
        rw [e12]
        rcases hwr hT2.1 with h | h
        · rw [if_pos h, if_pos hT]
        · rw [if_neg (by omega), if_pos h, if_pos hT]
      rw [hv]
    · have hT2 : ¬ (σ 41 t = 1 ∧ 2 < ω 15 (σ 36 t)) := by unfold tkT at hT; rw [e41] at hT; omega
      rw [if_neg hT2, if_neg (show ¬ (0 : Int) = 1 by decide)]
      by_cases h2 : σ 12 (σ 36 t) = 2
      · have hv : tkV ω t (σ 36 t) = -1 := by unfold tkV; rw [e12, if_neg (by omega), if_pos h2, if_neg hT]
        rw [hv, if_pos h2]
      · have hv : tkV ω t (σ 36 t) = σ 12 (σ 36 t) := by
          unfold tkV
          rw [e12]
          by_cases h1 : σ 12 (σ 36 t) = 1
          · rw [if_pos h1, if_neg hT, h1]
          · rw [if_neg h1, if_neg h2, if_neg h4]
        rw [hv, if_neg h2]
theorem sCh_43 {σ : MS} {t : Int} (h28 : ∀ j, 0 ≤ σ 28 j ∧ σ 28 j ≤ 100000) (h29 : ∀ j, 0 ≤ σ 29 j ∧ σ 29 j ≤ 100000) (h0 : ∀ j, 0 ≤ σ 7 j) (hk : 0 ≤ σ 12 (σ 36 t) ∧ σ 12 (σ 36 t) ≤ 4) (hwr : σ 41 t = 1 → σ 12 (σ 36 t) = 1 ∨ σ 12 (σ 36 t) = 2) : (0 ≤ sCh σ t 42 t ∧ sCh σ t 42 t ≤ 100000) ∧ 0 ≤ sCh σ t 43 t ∧ sCh σ t 43 t ≤ 100000 := by
  rw [← tk_ch h0 hk hwr]
  have e28 : tkS (sW1 σ t) t (σ 36 t) 28 = σ 28 := by rw [tkS_f (by decide), sW1_f (by decide)]
  have e29 : tkS (sW1 σ t) t (σ 36 t) 29 = σ 29 := by rw [tkS_f (by decide), sW1_f (by decide)]
  have g8 := h28 (tkV (sW1 σ t) t (σ 36 t))
  have g9 := h29 (tkV (sW1 σ t) t (σ 36 t))
  unfold sFin
  rw [up_ne (k' := 42) (by decide) (up_ne (k' := 42) (by decide) up_s), up_ne (k' := 43) (by decide) up_s, e28, e29]
  constructor <;> split <;> omega
set_option maxHeartbeats 4000000 in
set_option maxRecDepth 100000 in
theorem c_chargeTip (l : Launch) (D : va_G) (cy : Nat → ClassId) (d0 : Nat) (A : Nat → Prop) (la : Nat → Int → Nat) (σ : MS) {t : Int} (ht : 0 ≤ t ∧ t < σ 45 0) (hn45 : 0 ≤ σ 45 0 ∧ σ 45 0 ≤ 600) (hn11 : 0 ≤ σ 11 0 ∧ σ 11 0 ≤ 60) (hn23 : 0 ≤ σ 23 0 ∧ σ 23 0 ≤ 1000) (hbn : ¬ σ 36 t < 0 → 0 ≤ σ 36 t ∧ σ 36 t < σ 23 0) (h39 : 0 ≤ σ 39 t ∧ σ 39 t ≤ 3000000) (hd : 0 ≤ σ 32 t ∧ σ 32 t ≤ 699) (hm : ∀ b, 0 ≤ σ 18 b ∧ σ 18 b ≤ 8) (hv : ∀ j, 0 ≤ σ 16 j) (hho : ¬ sHouse σ (σ 36 t) (σ 32 t) < 0 → 0 ≤ sHouse σ (σ 36 t) (σ 32 t) ∧ sHouse σ (σ 36 t) (σ 32 t) < σ 11 0) (hm22 : ∀ b, 0 ≤ σ 22 b ∧ σ 22 b ≤ 20) (hpw : ∀ j, 0 ≤ σ 20 j ∧ σ 20 j ≤ 1000) (hnl : ¬ σ 36 t < 0) (hv19 : ∀ j, 0 ≤ σ 19 j ∧ σ 19 j < σ 11 0) (h7 : ∀ j, 0 ≤ σ 7 j) (hk : 0 ≤ σ 12 (σ 36 t) ∧ σ 12 (σ 36 t) ≤ 4) (hwr : σ 41 t = 1 → σ 12 (σ 36 t) = 1 ∨ σ 12 (σ 36 t) = 2) (h28 : ∀ j, 0 ≤ σ 28 j ∧ σ 28 j ≤ 100000) (h29 : ∀ j, 0 ≤ σ 29 j ∧ σ 29 j ≤ 100000) (h15 : ∀ j, 0 ≤ σ 15 j ∧ σ 15 j ≤ 1000000) : CN l yX10_chargeTip wsX10_chargeTip ({ frames := 7, cells := 0, slots := 0, locals := 165 } : Room) D cy d0 A [.ref (la 0 0), .ref (la 10 t), .ref (la 6 (σ 36 t))] la σ (fun v' la' τ => v' = none ∧ la' = la ∧ (∀ q, q ≠ 50 → q ≠ 51 → q ≠ 52 → τ q = sCh σ t q) ∧ ∀ h, 0 ≤ h → h < σ 11 0 → τ 50 h = σ 50 h + sShr (sCh σ t) t h) 0 0 := by
  refine cn_of (cc := cX10_chargeTip) (nL := 4) (ret := none) (by decide) rfl (Nat.le_of_ble_eq_true rfl) ?_
  intro p e s m args below meth c ls E hr hlk hK hC hS hl
  have B := E.1
  have hml := E.2.1
  have hown := E.2.2.1
  have hts0 := E.2.2.2.1
  have hts := E.2.2.2.1
  have hw := hC.2.2.2.2.2.1
  obtain ⟨ω, hωe⟩ : ∃ z, z = sW1 σ t := ⟨_, rfl⟩
  have hω : ∀ f, f ≠ 15 → ω f = σ f := fun f h => by rw [hωe]; exact sW1_f h
  have hωq : cLq σ ω := ⟨hω _ (by decide), hω _ (by decide), hω _ (by decide), hω _ (by decide), hω _ (by decide), hω _ (by decide), hω _ (by decide)⟩
  obtain ⟨π, hπe⟩ : ∃ z, z = tkS ω t (σ 36 t) := ⟨_, rfl⟩
  obtain ⟨kd, hkd⟩ : ∃ z, z = tkV ω t (σ 36 t) := ⟨_, rfl⟩
  have hπ : ∀ f, f ≠ 15 → f ≠ 7 → π f = σ f := fun f h1 h2 => by rw [hπe, tkS_f h2]; exact hω f h1
  have hπq : cLq σ π := ⟨hπ _ (by decide) (by decide), hπ _ (by decide) (by decide), hπ _ (by decide) (by decide), hπ _ (by decide) (by decide), hπ _ (by decide) (by decide), hπ _ (by decide) (by decide), hπ _ (by decide) (by decide)⟩
  have hH : sHouse ω (σ 36 t) (σ 32 t) = sHouse σ (σ 36 t) (σ 32 t) := sHouse_c (hω 16 (by decide)) (hω 17 (by decide)) (hω 18 (by decide)) _ _
  have htk := c_tableKind l D cy d0 A la ω (t := t) (b := σ 36 t) (by rw [hω 45 (by decide)]; exact ht) (by rw [hω 23 (by decide)]; exact hbn hnl) (by rw [hω 32 (by decide), hH, hω 11 (by decide)]; exact hho) (by rw [hω 7 (by decide)]; exact h7) (by rw [hω 12 (by decide)]; exact hk) (by rw [hω 32 (by decide)]; exact hd) (by rw [hω 18 (by decide)]; exact hm) (by rw [hω 16 (by decide)]; exact hv)
  rw [← hπe, ← hkd] at htk
  have hfin : sFin π t kd = sCh σ t := by rw [hπe, hkd, hωe]; exact tk_ch h7 hk hwr
  have h43 := sCh_43 (σ := σ) (t := t) h28 h29 h7 hk hwr
  have hC9 : ∀ f : Nat, (f != 42 && f != 43 && f != 40 && f != 15 && f != 7) = true → sCh σ t f = σ f := fun f h => sCh_f h
  have hHc : sHouse (sCh σ t) (σ 36 t) (σ 32 t) = sHouse σ (σ 36 t) (σ 32 t) := sHouse_c (hC9 16 rfl) (hC9 17 rfl) (hC9 18 rfl) _ _
  have hadd := c_addShares l D cy d0 A la (sCh σ t) (t := t) (sg := 1) (by rw [hC9 45 rfl]; exact ht) (by rw [hC9 45 rfl]; exact hn45) (by rw [hC9 11 rfl]; exact hn11) (by rw [hC9 23 rfl]; exact hn23) (fun _ => by rw [hC9 36 rfl]; omega) (by rw [hC9 36 rfl, hC9 23 rfl]; exact hbn) h43.1 h43.2 (by rw [hC9 39 rfl]; exact h39) (by rw [hC9 32 rfl]; exact hd) (by rw [hC9 18 rfl]; exact hm) (by rw [hC9 16 rfl]; exact hv) (by rw [hC9 36 rfl, hC9 32 rfl, hHc, hC9 11 rfl]; exact hho) (by rw [hC9 22 rfl]; exact hm22) (by rw [hC9 20 rfl]; exact hpw) (by rw [hC9 36 rfl, hC9 19 rfl, hC9 11 rfl]; exact fun _ => hv19) (by decide)
  have tail : ∀ (H : Heap) (locs : List Loc) (ls : Array Slot), CP D cy d0 A la ω H → va_S A s.heap H locs → lv_has ls 4 (lv_args 0 [.ref (la 0 0), .ref (la 10 t), .ref (la 6 (σ 36 t))]) → W p l e ({ frames := 7, cells := 0, slots := 0, locals := 165 } : Room) s m args below meth c H locs 0 0 (MQ below (cQ D cy d0 A (fun v' la' τ => v' = none ∧ la' = la ∧ (∀ q, q ≠ 50 → q ≠ 51 → q ≠ 52 → τ q = sCh σ t q) ∧ ∀ h, 0 ≤ h → h < σ 11 0 → τ 50 h = σ 50 h + sShr (sCh σ t) t h)) args s 0 0 A) (F0 m 17 ls []) := by
    intro H locs ls hC hS hl
    refine x_aload_n B hl dX10_chargeTip_17 rfl ?_
    refine x_aload_n B hl dX10_chargeTip_18 rfl ?_
    refine x_aload_n B hl dX10_chargeTip_19 rfl ?_
    refine co_call E hK hC hS hl (κ := 0) (i := 0) (by decide) cl_0 rfl htk (cwV 2 hts0 gX10_chargeTip_X10_tableKind rfl rfl rfl (by decide +kernel) ⟨Nat.le_of_ble_eq_true rfl, Nat.le_of_ble_eq_true rfl⟩) rfl rfl (Nat.le_of_ble_eq_true rfl) dX10_chargeTip_20 ⟨Nat.zero_le _, Nat.zero_le _⟩ (fun H locs hk9 hC hS => ?_)
    refine x_istore_n B hl dX10_chargeTip_23 (by decide) (fun ls hl => ?_)
    refine x_aload_n B hl dX10_chargeTip_24 rfl ?_
    refine x_aload_n B hl dX10_chargeTip_25 rfl ?_
    refine co_getR (x := la 2 0) E hC 0 (by decide) cl_0 rfl (fun z h => List.mem_cons_of_mem _ (List.mem_append_left _ (List.mem_append_left _ (List.mem_append_left _ (List.mem_append_left _ (List.mem_append_left _ (List.mem_append_right _ h))))))) 6 (by decide) (hts (.fieldLink RX10 38 "BinRounds" "tables" "LBinRounds$Tables;") (by decide +kernel)) (fun x hx => hx) dX10_chargeTip_26 rfl rfl ?_
    refine x_iload_n B hl dX10_chargeTip_29 rfl ?_
    refine co_call E hK hC hS hl (κ := 2) (i := 0) (by decide) cl_2 rfl (c_liftOf l D cy d0 A la _ (k := kd) (by omega)) (cwV 1 hts0 gX10_chargeTip_X8_liftOf rfl rfl rfl (by decide +kernel) ⟨Nat.le_of_ble_eq_true rfl, Nat.le_of_ble_eq_true rfl⟩) rfl rfl (Nat.le_of_ble_eq_true rfl) dX10_chargeTip_30 ⟨Nat.zero_le _, Nat.zero_le _⟩ (fun H locs q_30 hC hS => ?_)
    refine co_puti (f := 42) E hC hS 10 (by decide) (cl_q hπq (cl_10 ht)) rfl (fun z h => List.mem_cons_of_mem _ (List.mem_append_left _ (List.mem_append_left _ (List.mem_append_left _ (List.mem_append_left _ (List.mem_append_left _ (List.mem_append_left _ (List.mem_append_left _ (List.mem_append_right _ h))))))))) tyX9 tyX9_ok nmX9 11 (by decide) (hts (.fieldLink RX10 438 "BinRounds$Tip" "lift" "I") (by decide +kernel)) (fun x hx => hx) rfl rfl dX10_chargeTip_33 (by decide) ⟨rfl, rfl, rfl, rfl⟩ (by omega) (fun H locs hC hS => ?_)
    refine x_aload_n B hl dX10_chargeTip_36 rfl ?_
    refine x_aload_n B hl dX10_chargeTip_37 rfl ?_
    refine co_getR (x := la 2 0) E hC 0 (by decide) cl_0 rfl (fun z h => List.mem_cons_of_mem _ (List.mem_append_left _ (List.mem_append_left _ (List.mem_append_left _ (List.mem_append_left _ (List.mem_append_left _ (List.mem_append_right _ h))))))) 6 (by decide) (hts (.fieldLink RX10 38 "BinRounds" "tables" "LBinRounds$Tables;") (by decide +kernel)) (fun x hx => hx) dX10_chargeTip_38 rfl rfl ?_
    refine x_iload_n B hl dX10_chargeTip_41 rfl ?_
    refine co_call E hK hC hS hl (κ := 2) (i := 0) (by decide) cl_2 rfl (c_rateOf l D cy d0 A la _ (k := kd) (by omega)) (cwV 1 hts0 gX10_chargeTip_X8_rateOf rfl rfl rfl (by decide +kernel) ⟨Nat.le_of_ble_eq_true rfl, Nat.le_of_ble_eq_true rfl⟩) rfl rfl (Nat.le_of_ble_eq_true rfl) dX10_chargeTip_42 ⟨Nat.zero_le _, Nat.zero_le _⟩ (fun H locs q_42 hC hS => ?_)
    refine co_puti (f := 43) E hC hS 10 (by decide) (cl_up (by decide) (cl_q hπq (cl_10 ht))) rfl (fun z h => List.mem_cons_of_mem _ (List.mem_append_left _ (List.mem_append_left _ (List.mem_append_left _ (List.mem_append_left _ (List.mem_append_left _ (List.mem_append_left _ (List.mem_append_left _ (List.mem_append_right _ h))))))))) tyX9 tyX9_ok nmX9 12 (by decide) (hts (.fieldLink RX10 444 "BinRounds$Tip" "rate" "I") (by decide +kernel)) (fun x hx => hx) rfl rfl dX10_chargeTip_45 (by decide) ⟨rfl, rfl, rfl, rfl⟩ (by omega) (fun H locs hC hS => ?_)
    refine x_aload_n B hl dX10_chargeTip_48 rfl ?_
    refine x_iconst B dX10_chargeTip_49 ?_
    refine co_putb (f := 40) E hC hS 10 (by decide) (cl_up (by decide) (cl_up (by decide) (cl_q hπq (cl_10 ht)))) rfl (fun z h => List.mem_cons_of_mem _ (List.mem_append_left _ (List.mem_append_left _ (List.mem_append_left _ (List.mem_append_left _ (List.mem_append_left _ (List.mem_append_left _ (List.mem_append_left _ (List.mem_append_right _ h))))))))) tyX9 tyX9_ok nmX9 9 (by decide) (hts (.fieldLink RX10 300 "BinRounds$Tip" "isCharged" "Z") (by decide +kernel)) (fun x hx => hx) rfl rfl dX10_chargeTip_50 (by decide) ⟨rfl, rfl, rfl, rfl⟩ (by omega) (fun H locs hC hS => ?_)
    have hst : up (up (up π 42 t (if kd < 0 then 0 else π 28 kd)) 43 t (if kd < 0 then 0 else π 29 kd)) 40 t 1 = sCh σ t := hfin
    replace hC : CP D cy d0 A la (sCh σ t) H := by rw [← hst]; exact hC
    refine x_aload_n B hl dX10_chargeTip_53 rfl ?_
    refine x_aload_n B hl dX10_chargeTip_54 rfl ?_
    refine x_iconst B dX10_chargeTip_55 ?_
    refine co_callX E hK hC hS hl (κ := 0) (i := 0) (by decide) cl_0 rfl hadd (cwV 2 hts0 gX10_chargeTip_X10_addShares rfl rfl rfl (by decide +kernel) ⟨Nat.le_of_ble_eq_true rfl, Nat.le_of_ble_eq_true rfl⟩) rfl rfl (Nat.le_of_ble_eq_true rfl) dX10_chargeTip_56 ⟨Nat.zero_le _, Nat.zero_le _⟩ (fun H locs τ1 qx hC hS => ?_)
    exact co_vret E hr hlk hC hS dX10_chargeTip_59 ⟨rfl, rfl, qx.1, fun h a b => by rw [qx.2 h a (by rw [hC9 11 rfl]; exact b), hC9 50 rfl, Int.one_mul]⟩
  refine x_aload_n B hl dX10_chargeTip_0 rfl ?_
  refine co_getb (f := 41) E hC 10 (by decide) (cl_10 ht) rfl (fun z h => List.mem_cons_of_mem _ (List.mem_append_left _ (List.mem_append_left _ (List.mem_append_left _ (List.mem_append_left _ (List.mem_append_left _ (List.mem_append_left _ (List.mem_append_left _ (List.mem_append_right _ h))))))))) 10 (by decide) (hts (.fieldLink RX10 235 "BinRounds$Tip" "isWrong" "Z") (by decide +kernel)) (fun x hx => hx) dX10_chargeTip_1 ⟨rfl, rfl, rfl⟩ rfl (fun r_1 => ?_)
  refine x_if_eq (tgt := 17) B dX10_chargeTip_4 (by decide) (by omega) (fun c_4 => ?_) (fun c_4 => ?_)
  · exact tail _ _ ls (by rw [hωe]; unfold sW1; first | (rw [if_pos (by omega)]; exact hC) | (rw [if_neg (by omega)]; exact hC)) hS hl
  · have h15q := h15 (σ 36 t)
    refine x_aload_n B hl dX10_chargeTip_7 rfl ?_
    refine x_dup B dX10_chargeTip_8 rfl ?_
    refine co_geti (f := 15) E hC 6 (by decide) (cl_6 (hbn hnl)) rfl (fun z h => List.mem_cons_of_mem _ (List.mem_append_left _ (List.mem_append_left _ (List.mem_append_left _ (List.mem_append_left _ (List.mem_append_left _ (List.mem_append_left _ (List.mem_append_right _ h)))))))) 6 (by decide) (hts (.fieldLink RX10 357 "BinRounds$Bin" "wrongs" "I") (by decide +kernel)) (fun x hx => hx) dX10_chargeTip_9 ⟨rfl, rfl, rfl⟩ rfl (fun r_9 => ?_)
    refine x_iconst B dX10_chargeTip_12 ?_
    refine x_iadd B dX10_chargeTip_13 ?_
    refine co_puti (f := 15) E hC hS 6 (by decide) (cl_6 (hbn hnl)) rfl (fun z h => List.mem_cons_of_mem _ (List.mem_append_left _ (List.mem_append_left _ (List.mem_append_left _ (List.mem_append_left _ (List.mem_append_left _ (List.mem_append_left _ (List.mem_append_right _ h)))))))) tyX0 tyX0_ok nmX0 6 (by decide) (hts (.fieldLink RX10 357 "BinRounds$Bin" "wrongs" "I") (by decide +kernel)) (fun x hx => hx) rfl rfl dX10_chargeTip_14 (by decide) ⟨rfl, rfl, rfl, rfl⟩ (by omega) (fun H locs hC hS => ?_)
    exact tail _ _ ls (by rw [hωe]; unfold sW1; first | (rw [if_pos (by omega)]; exact hC) | (rw [if_neg (by omega)]; exact hC)) hS hl
