theorem m_middleOfz (l : Launch) (D : va_G) (cy : Nat → ClassId) (o : Nat) (ad : Nat → Nat) (τ σ : MS) (h45 : τ 45 0 = σ 45 0) (ha : ∀ j : Int, 0 ≤ j → j < σ 45 0 → τ 35 j = σ 35 j ∧ τ 36 j = σ 36 j ∧ τ 38 j = σ 38 j) {b : Int} (hb : -2147483648 ≤ b ∧ b < 2147483648) (hn : 0 ≤ σ 45 0 ∧ σ 45 0 ≤ 600) (hh : ∀ t, 0 ≤ t → t < σ 45 0 → 0 ≤ σ 35 t ∧ σ 35 t ≤ 3000000) : MX l yX11_middleOf wsX11_middleOf ({ frames := 0, cells := 0, slots := 0, locals := 0 } : Room) D cy o ad [.int (iI b)] τ (some (.int (iI (sMiddle σ b)))) (fun υ => (∀ q, q ≠ 46 → υ q = τ q) ∧ 0 ≤ sMiddle σ b ∧ sMiddle σ b ≤ 3000000) := by
  have e : sMiddle τ b = sMiddle σ b := by
    unfold sMiddle
    rw [h45]
    exact sMid_a _ _ _ (fun j h1 h2 => ha j h1 (by omega))
  rw [← e]
  exact m_middleOf l D cy o ad τ hb (by rw [h45]; exact hn) (fun t h1 h2 => by rw [h45] at h2; rw [(ha t h1 h2).1]; exact hh t h1 h2)
set_option maxHeartbeats 4000000 in
set_option maxRecDepth 100000 in
theorem m_p_tip (l : Launch) (D : va_G) (cy : Nat → ClassId) (o : Nat) (ad : Nat → Nat) (σ : MS) {q mk g : Int} {n : Int} (I : sInv n σ) (h_q : -2147483648 ≤ q ∧ q < 2147483648) (h_mk : -2147483648 ≤ mk ∧ mk < 2147483648) (h_g : -2147483648 ≤ g ∧ g < 2147483648)  : MX l yX11_tip wsX11_tip ({ frames := 1, cells := 0, slots := 0, locals := 25 } : Room) D cy o ad [.int (iI q), .int (iI mk), .int (iI g)] σ (some (.int (iI (if tipC σ q g = 0 then σ 45 0 else 0)))) (fun τ => pEnd (tipC σ q g) (tipS σ q mk g) σ τ) := by
  refine mx_of (cc := cX11_tip) (nL := 7) (ret := (some .int)) (by decide) rfl rfl (fun w h => List.mem_cons_of_mem _ (List.mem_append_right _ h)) (Nat.le_of_ble_eq_true rfl) ⟨rfl, rfl⟩ ?_
  intro p e s m args below meth c ls E hr hlk hM hS hl
  have B := E.1
  have hml := E.2.1
  have hown := E.2.2.1
  have hts0 := E.2.2.2.1
  have hts := E.2.2.2.1
  have hw := hM.2.2.2
  have I0 := I
  obtain ⟨hn9, hOp, hnS, hnH, hnB, hnC, hnT, hPr, hTol, v3, v4, v6, v7, v12, v15, v16, v17, v18, v19, v20, v21, v22, v24, v25, v26, v28, v29, v32, v33, v35, v36, v37, v38, v39, v42, v43, v44, v40, vm⟩ := I
  refine x_aload_n B hl dX11_tip_0 rfl ?_
  refine x_iconst B dX11_tip_1 ?_
  refine mo_put E hM hS 0 rfl (hts (.fieldLink RX11 129 "BinRoundsModel" "thrown" "I") (by decide +kernel)) rfl rfl (by decide +kernel) (by omega) dX11_tip_2 (fun H locs hM hS => ?_)
  refine x_aload_n B hl dX11_tip_5 rfl ?_
  refine x_aload_n B hl dX11_tip_6 rfl ?_
  refine x_iload_n B hl dX11_tip_7 rfl ?_
  refine mo_call E hM hS hl (m_noCartk l D cy o ad _ (up_ne (by decide) rfl) (by omega)) (cwV 1 hts0 gX11_tip_X11_noCart rfl rfl rfl (by decide +kernel) ⟨Nat.le_of_ble_eq_true rfl, Nat.le_of_ble_eq_true rfl⟩) rfl rfl (Nat.le_of_ble_eq_true rfl) dX11_tip_8 ⟨Nat.zero_le _, Nat.zero_le _⟩ (fun H locs q_8 hM hS => ?_)
  refine x_bool (fun b_8 => ?_) (fun b_8 => ?_)
  · refine x_iconst B dX11_tip_11 ?_
    refine mo_call E hM hS hl (m_throwsIf_1 l D cy o ad _ _ (by decide)) (cwV 2 hts0 gX11_tip_X11_throwsIf rfl rfl rfl (by decide +kernel) ⟨Nat.le_of_ble_eq_true rfl, Nat.le_of_ble_eq_true rfl⟩) rfl rfl (Nat.le_of_ble_eq_true rfl) dX11_tip_12 ⟨Nat.zero_le _, Nat.zero_le _⟩ (fun H locs q_t hM hS => ?_)
    refine x_if_ne_t (tgt := 68) B dX11_tip_15 (by decide) (by decide) ?_
    refine x_iconst B dX11_tip_68 ?_
    first | (have hc : tipC σ q g = 1 := (by first | rfl | (unfold tipC; omega)); exact mo_iretx E hr rfl hlk hM hS dX11_tip_69 (by first | (rw [if_neg (by rw [hc]; decide)]; done) | (rw [if_neg (by rw [hc]; decide)]; rfl)) (pE hc (by decide))) | (have hc : tipC σ q g = 2 := (by first | rfl | (unfold tipC; omega)); exact mo_iretx E hr rfl hlk hM hS dX11_tip_69 (by first | (rw [if_neg (by rw [hc]; decide)]; done) | (rw [if_neg (by rw [hc]; decide)]; rfl)) (pE hc (by decide))) | (have hc : tipC σ q g = 3 := (by first | rfl | (unfold tipC; omega)); exact mo_iretx E hr rfl hlk hM hS dX11_tip_69 (by first | (rw [if_neg (by rw [hc]; decide)]; done) | (rw [if_neg (by rw [hc]; decide)]; rfl)) (pE hc (by decide))) | (have hc : tipC σ q g = 0 := (by first | rfl | (unfold tipC; omega)); exact mo_iretx E hr rfl hlk hM hS dX11_tip_69 (by first | (rw [if_pos hc]; done) | (rw [if_pos hc]; rfl) | (rw [if_pos hc]; congr 1; omega)) (pO hc (by first | rfl | (simp only [up_rd]; rfl) | simp [up_rd]) (by first | exact (sEq.u (sEq.u (sEq.u sEq.z))) | exact sEq.rf)))
  · refine x_iconst B dX11_tip_11 ?_
    refine mo_call E hM hS hl (m_throwsIf_0 l D cy o ad _ _ (by decide)) (cwV 2 hts0 gX11_tip_X11_throwsIf rfl rfl rfl (by decide +kernel) ⟨Nat.le_of_ble_eq_true rfl, Nat.le_of_ble_eq_true rfl⟩) rfl rfl (Nat.le_of_ble_eq_true rfl) dX11_tip_12 ⟨Nat.zero_le _, Nat.zero_le _⟩ (fun H locs q_t hM hS => ?_)
    refine x_if_ne_f (tgt := 68) B dX11_tip_15 (by decide) (by decide) ?_
    refine x_aload_n B hl dX11_tip_18 rfl ?_
    refine x_iload_n B hl dX11_tip_19 rfl ?_
    refine x_i2l B dX11_tip_20 (by omega) ?_
    refine lv_ldc2 (v := lI (-1)) B.1 B.2 hown (hts (.constantLong RX11 226 (-1)) (by decide +kernel)) dX11_tip_21 ?_
    refine lv_ldc2 (v := lI 200000) B.1 B.2 hown (hts (.constantLong RX11 228 (200000)) (by decide +kernel)) dX11_tip_24 ?_
    refine z_call ⟨B.1, B.2, hml, hown, hts0⟩ hl (m_in l (by omega) (by omega) (by omega)) (va_cwS 3 hts0 gX11_tip_X11_in rfl rfl rfl (by decide +kernel) ⟨Nat.le_of_ble_eq_true rfl, Nat.le_of_ble_eq_true rfl⟩) rfl rfl (Nat.le_of_ble_eq_true rfl) dX11_tip_27 ⟨Nat.zero_le _, Nat.zero_le _⟩ (fun q_27 => ?_)
    refine x_bool (fun b_27 => ?_) (fun b_27 => ?_)
    · refine x_if_ne_t (tgt := 37) B dX11_tip_30 (by decide) (by decide) ?_
      refine x_iconst B dX11_tip_37 ?_
      refine x_iconst B dX11_tip_38 ?_
      refine mo_call E hM hS hl (m_throwsIf_0 l D cy o ad _ _ (by decide)) (cwV 2 hts0 gX11_tip_X11_throwsIf rfl rfl rfl (by decide +kernel) ⟨Nat.le_of_ble_eq_true rfl, Nat.le_of_ble_eq_true rfl⟩) rfl rfl (Nat.le_of_ble_eq_true rfl) dX11_tip_39 ⟨Nat.zero_le _, Nat.zero_le _⟩ (fun H locs q_t hM hS => ?_)
      refine x_if_ne_f (tgt := 68) B dX11_tip_42 (by decide) (by decide) ?_
      refine x_aload_n B hl dX11_tip_45 rfl ?_
      refine x_aload_n B hl dX11_tip_46 rfl ?_
      refine mo_gets E hM 45 rfl (hts (.fieldLink RX11 145 "BinRoundsModel" "tips" "I") (by decide +kernel)) rfl dX11_tip_47 (up_ne (by decide) rfl) (fun r_47 => ?_)
      refine x_sipush B dX11_tip_50 (by decide) ?_
      refine x_icmp_ne (tgt := 60) B dX11_tip_53 (by decide) (by omega) (by omega) (fun c_53 => ?_) (fun c_53 => ?_)
      · refine x_iconst B dX11_tip_60 ?_
        refine x_iconst B dX11_tip_61 ?_
        refine mo_call E hM hS hl (m_throwsIf_0 l D cy o ad _ _ (by decide)) (cwV 2 hts0 gX11_tip_X11_throwsIf rfl rfl rfl (by decide +kernel) ⟨Nat.le_of_ble_eq_true rfl, Nat.le_of_ble_eq_true rfl⟩) rfl rfl (Nat.le_of_ble_eq_true rfl) dX11_tip_62 ⟨Nat.zero_le _, Nat.zero_le _⟩ (fun H locs q_t hM hS => ?_)
        refine x_if_eq_t (tgt := 70) B dX11_tip_65 (by decide) (by decide) ?_
        refine x_aload_n B hl dX11_tip_70 rfl ?_
        refine mo_gets E hM 45 rfl (hts (.fieldLink RX11 145 "BinRoundsModel" "tips" "I") (by decide +kernel)) rfl dX11_tip_71 (up_ne (by decide) rfl) (fun r_71 => ?_)
        refine x_istore B hl dX11_tip_74 (by decide) (fun ls hl => ?_)
        refine x_aload_n B hl dX11_tip_76 rfl ?_
        refine x_iload_n B hl dX11_tip_77 rfl ?_
        refine mo_call E hM hS hl (m_bearersc l D cy o ad _ σ sEq.z (by omega) hnB) (cwV 1 hts0 gX11_tip_X11_bearers rfl rfl rfl (by decide +kernel) ⟨Nat.le_of_ble_eq_true rfl, Nat.le_of_ble_eq_true rfl⟩) rfl rfl (Nat.le_of_ble_eq_true rfl) dX11_tip_78 ⟨Nat.zero_le _, Nat.zero_le _⟩ (fun H locs q_b hM hS => ?_)
        refine x_istore B hl dX11_tip_81 (by decide) (fun ls hl => ?_)
        have rest : ∀ (H : Heap) (locs : List Loc) (hM : MP D cy o ad (up (up (up (up (up (up σ 0 0 0) 32 (σ 45 0) (σ 1 0)) 33 (σ 45 0) q) 34 (σ 45 0) mk) 37 (σ 45 0) (tipO σ mk)) 36 (σ 45 0) (tipB σ mk)) H) (hS : va_S (mA o ad) s.heap H locs) (ls : Array Slot), lv_has ls 7 [(0, .ref o), (1, .int (iI q)), (2, .int (iI mk)), (3, .int (iI g)), (4, .int (iI (σ 45 0)))] → W p l e ({ frames := 1, cells := 0, slots := 0, locals := 25 } : Room) s m args below meth c H locs 0 0 (MQ below (mQX D cy o ad (some (.int (iI (if tipC σ q g = 0 then σ 45 0 else 0)))) (fun τ => pEnd (tipC σ q g) (tipS σ q mk g) σ τ)) args s 0 0 (mA o ad)) (F0 m 199 ls []) := by
          intro H locs hM hS ls hl
          have hbr9 := sFb_r σ mk (σ 23 0).toNat
          have htB : -1 ≤ tipB σ mk ∧ tipB σ mk < 120 := by unfold tipB; split <;> (try split at hbr9) <;> omega
          have v25q := v25 q
          refine x_aload_n B hl dX11_tip_199 rfl ?_
          refine mo_geta E hM 44 0 rfl (hts (.fieldLink RX11 120 "BinRoundsModel" "gateOf" "[I") (by decide +kernel)) rfl dX11_tip_200 ?_
          refine x_iload B hl dX11_tip_203 rfl ?_
          refine x_iconst B dX11_tip_205 ?_
          refine mo_st (k := 44) E hM hS rfl (by have h9 : mLn 44 = 600 := rfl; omega) (by decide) (by omega) dX11_tip_206 (fun H locs hM hS => ?_)
          refine x_iload_n B hl dX11_tip_207 rfl ?_
          refine x_if_ge (tgt := 254) B dX11_tip_208 (by decide) (by omega) (fun c_208 => ?_) (fun c_208 => ?_)
          · refine x_aload_n B hl dX11_tip_254 rfl ?_
            refine mo_geta E hM 38 0 rfl (hts (.fieldLink RX11 102 "BinRoundsModel" "weighedSo" "[I") (by decide +kernel)) rfl dX11_tip_255 ?_
            refine x_iload B hl dX11_tip_258 rfl ?_
            refine x_iconst B dX11_tip_260 ?_
            refine mo_st (k := 38) E hM hS rfl (by have h9 : mLn 38 = 600 := rfl; omega) (by decide) (by omega) dX11_tip_261 (fun H locs hM hS => ?_)
            refine x_aload_n B hl dX11_tip_262 rfl ?_
            refine mo_geta E hM 35 0 rfl (hts (.fieldLink RX11 93 "BinRoundsModel" "halves" "[I") (by decide +kernel)) rfl dX11_tip_263 ?_
            refine x_iload B hl dX11_tip_266 rfl ?_
            refine x_iload_n B hl dX11_tip_268 rfl ?_
            refine x_aload_n B hl dX11_tip_269 rfl ?_
            refine mo_geta E hM 25 0 rfl (hts (.fieldLink RX11 72 "BinRoundsModel" "carry" "[I") (by decide +kernel)) rfl dX11_tip_270 ?_
            refine x_iload_n B hl dX11_tip_273 rfl ?_
            refine mo_ld (k := 25) E hM rfl (by have h9 : mLn 25 = 5 := rfl; omega) (by decide) dX11_tip_274 (up_ne (by decide) (up_ne (by decide) (up_ne (by decide) (up_ne (by decide) (up_ne (by decide) (up_ne (by decide) (up_ne (by decide) (up_ne (by decide) rfl)))))))) (fun r_274 => ?_)
            refine x_iadd B dX11_tip_275 ?_
            refine x_sipush B dX11_tip_276 (by decide) ?_
            refine x_idiv B dX11_tip_279 (by omega) (by omega) ?_
            refine mo_st (k := 35) E hM hS rfl (by have h9 : mLn 35 = 600 := rfl; omega) (by decide) (by omega) dX11_tip_280 (fun H locs hM hS => ?_)
            refine x_aload_n B hl dX11_tip_281 rfl ?_
            refine mo_geta E hM 25 0 rfl (hts (.fieldLink RX11 72 "BinRoundsModel" "carry" "[I") (by decide +kernel)) rfl dX11_tip_282 ?_
            refine x_iload_n B hl dX11_tip_285 rfl ?_
            refine x_iload_n B hl dX11_tip_286 rfl ?_
            refine x_aload_n B hl dX11_tip_287 rfl ?_
            refine mo_geta E hM 25 0 rfl (hts (.fieldLink RX11 72 "BinRoundsModel" "carry" "[I") (by decide +kernel)) rfl dX11_tip_288 ?_
            refine x_iload_n B hl dX11_tip_291 rfl ?_
            refine mo_ld (k := 25) E hM rfl (by have h9 : mLn 25 = 5 := rfl; omega) (by decide) dX11_tip_292 (up_ne (by decide) (up_ne (by decide) (up_ne (by decide) (up_ne (by decide) (up_ne (by decide) (up_ne (by decide) (up_ne (by decide) (up_ne (by decide) (up_ne (by decide) rfl))))))))) (fun r_292 => ?_)
            refine x_iadd B dX11_tip_293 ?_
            refine x_sipush B dX11_tip_294 (by decide) ?_
            refine x_irem B dX11_tip_297 (by omega) (by omega) ?_
            refine mo_st (k := 25) E hM hS rfl (by have h9 : mLn 25 = 5 := rfl; omega) (by decide) (by omega) dX11_tip_298 (fun H locs hM hS => ?_)
            refine x_aload_n B hl dX11_tip_299 rfl ?_
            refine x_dup B dX11_tip_300 rfl ?_
            refine mo_gets E hM 45 rfl (hts (.fieldLink RX11 145 "BinRoundsModel" "tips" "I") (by decide +kernel)) rfl dX11_tip_301 (up_ne (by decide) (up_ne (by decide) (up_ne (by decide) (up_ne (by decide) (up_ne (by decide) (up_ne (by decide) (up_ne (by decide) (up_ne (by decide) (up_ne (by decide) (up_ne (by decide) rfl)))))))))) (fun r_301 => ?_)
            refine x_iconst B dX11_tip_304 ?_
            refine x_iadd B dX11_tip_305 ?_
            refine mo_put E hM hS 45 rfl (hts (.fieldLink RX11 145 "BinRoundsModel" "tips" "I") (by decide +kernel)) rfl rfl (by decide +kernel) (by omega) dX11_tip_306 (fun H locs hM hS => ?_)
            refine x_iload B hl dX11_tip_309 rfl ?_
            first | (have hc : tipC σ q g = 0 := (by unfold tipC; omega); exact mo_iretx E hr rfl hlk hM hS dX11_tip_311 (by rw [if_pos hc]) (pO hc (by first | rfl | (show τ1 0 0 = 0; rw [q_m.1 0 (by decide)]; rfl)) (by unfold tipS; rw [if_pos (by omega), if_pos (by omega)]; exact sEq.u (sEq.u (sEq.u (sEq.u (sEq.u (sEq.u (sEq.u (sEq.u (sEq.u sEq.z))))))))))) | (have hc : tipC σ q g = 0 := (by unfold tipC; omega); exact mo_iretx E hr rfl hlk hM hS dX11_tip_311 (by rw [if_pos hc]) (pO hc (by first | rfl | (show τ1 0 0 = 0; rw [q_m.1 0 (by decide)]; rfl)) (by unfold tipS; rw [if_pos (by omega), if_neg (by omega)]; refine sEq.u (sEq.u (sEq.tr (fun k a b c => q_m.1 k b) ?_)); exact sEq.u (sEq.u (sEq.u (sEq.u (sEq.u (sEq.u (sEq.u sEq.z))))))))) | (have hc : tipC σ q g = 0 := (by unfold tipC; omega); exact mo_iretx E hr rfl hlk hM hS dX11_tip_311 (by rw [if_pos hc]) (pO hc (by first | rfl | (show τ1 0 0 = 0; rw [q_m.1 0 (by decide)]; rfl)) (by unfold tipS; rw [if_neg (by omega)]; exact sEq.u (sEq.u (sEq.u (sEq.u (sEq.u (sEq.u (sEq.u (sEq.u (sEq.u (sEq.u sEq.z))))))))))))
          · refine x_aload_n B hl dX11_tip_211 rfl ?_
            refine mo_geta E hM 38 0 rfl (hts (.fieldLink RX11 102 "BinRoundsModel" "weighedSo" "[I") (by decide +kernel)) rfl dX11_tip_212 ?_
            refine x_iload B hl dX11_tip_215 rfl ?_
            refine x_iconst B dX11_tip_217 ?_
            refine mo_st (k := 38) E hM hS rfl (by have h9 : mLn 38 = 600 := rfl; omega) (by decide) (by omega) dX11_tip_218 (fun H locs hM hS => ?_)
            refine x_aload_n B hl dX11_tip_219 rfl ?_
            refine mo_geta E hM 35 0 rfl (hts (.fieldLink RX11 93 "BinRoundsModel" "halves" "[I") (by decide +kernel)) rfl dX11_tip_220 ?_
            refine x_iload B hl dX11_tip_223 rfl ?_
            refine x_aload_n B hl dX11_tip_225 rfl ?_
            refine mo_geta E hM 36 0 rfl (hts (.fieldLink RX11 96 "BinRoundsModel" "binOf" "[I") (by decide +kernel)) rfl dX11_tip_226 ?_
            refine x_iload B hl dX11_tip_229 rfl ?_
            refine mo_ld (k := 36) E hM rfl (by have h9 : mLn 36 = 600 := rfl; omega) (by decide) dX11_tip_231 (up_ne (by decide) (up_ne (by decide) up_s)) (fun r_231 => ?_)
            refine x_if_ge (tgt := 239) B dX11_tip_232 (by decide) (by omega) (fun c_232 => ?_) (fun c_232 => ?_)
            · refine x_aload_n B hl dX11_tip_239 rfl ?_
              refine x_aload_n B hl dX11_tip_240 rfl ?_
              refine mo_geta E hM 36 0 rfl (hts (.fieldLink RX11 96 "BinRoundsModel" "binOf" "[I") (by decide +kernel)) rfl dX11_tip_241 ?_
              refine x_iload B hl dX11_tip_244 rfl ?_
              refine mo_ld (k := 36) E hM rfl (by have h9 : mLn 36 = 600 := rfl; omega) (by decide) dX11_tip_246 (up_ne (by decide) (up_ne (by decide) up_s)) (fun r_246 => ?_)
              refine mo_callx E hM hS hl (m_middleOfz l D cy o ad (up (up (up (up (up (up (up (up σ 0 0 0) 32 (σ 45 0) (σ 1 0)) 33 (σ 45 0) q) 34 (σ 45 0) mk) 37 (σ 45 0) (tipO σ mk)) 36 (σ 45 0) (tipB σ mk)) 44 (σ 45 0) (-1)) 38 (σ 45 0) 1) σ rfl (fun j h1 h2 => ⟨rfl, up_ne (by decide) (up_ne (by decide) (up_o (by omega))), up_o (by omega)⟩) (by omega) hnT (fun t _ _ => v35 t)) (cwV 1 hts0 gX11_tip_X11_middleOf rfl rfl rfl (by decide +kernel) ⟨Nat.le_of_ble_eq_true rfl, Nat.le_of_ble_eq_true rfl⟩) rfl rfl (Nat.le_of_ble_eq_true rfl) dX11_tip_247 ⟨Nat.zero_le _, Nat.zero_le _⟩ (fun H locs τ1 q_m hM hS => ?_)
              refine mo_st (k := 35) E hM hS rfl (by have h9 : mLn 35 = 600 := rfl; omega) (by decide) (by omega) dX11_tip_250 (fun H locs hM hS => ?_)
              refine x_goto (tgt := 299) B dX11_tip_251 (by decide) ?_
              refine x_aload_n B hl dX11_tip_299 rfl ?_
              refine x_dup B dX11_tip_300 rfl ?_
              refine mo_gets E hM 45 rfl (hts (.fieldLink RX11 145 "BinRoundsModel" "tips" "I") (by decide +kernel)) rfl dX11_tip_301 (up_ne (by decide) ((congrFun (q_m.1 45 (by decide)) _).trans (up_ne (by decide) (up_ne (by decide) (up_ne (by decide) (up_ne (by decide) (up_ne (by decide) (up_ne (by decide) (up_ne (by decide) (up_ne (by decide) rfl)))))))))) (fun r_301 => ?_)
              refine x_iconst B dX11_tip_304 ?_
              refine x_iadd B dX11_tip_305 ?_
              refine mo_put E hM hS 45 rfl (hts (.fieldLink RX11 145 "BinRoundsModel" "tips" "I") (by decide +kernel)) rfl rfl (by decide +kernel) (by omega) dX11_tip_306 (fun H locs hM hS => ?_)
              refine x_iload B hl dX11_tip_309 rfl ?_
              first | (have hc : tipC σ q g = 0 := (by unfold tipC; omega); exact mo_iretx E hr rfl hlk hM hS dX11_tip_311 (by rw [if_pos hc]) (pO hc (by first | rfl | (show τ1 0 0 = 0; rw [q_m.1 0 (by decide)]; rfl)) (by unfold tipS; rw [if_pos (by omega), if_pos (by omega)]; exact sEq.u (sEq.u (sEq.u (sEq.u (sEq.u (sEq.u (sEq.u (sEq.u (sEq.u sEq.z))))))))))) | (have hc : tipC σ q g = 0 := (by unfold tipC; omega); exact mo_iretx E hr rfl hlk hM hS dX11_tip_311 (by rw [if_pos hc]) (pO hc (by first | rfl | (show τ1 0 0 = 0; rw [q_m.1 0 (by decide)]; rfl)) (by unfold tipS; rw [if_pos (by omega), if_neg (by omega)]; refine sEq.u (sEq.u (sEq.tr (fun k a b c => q_m.1 k b) ?_)); exact sEq.u (sEq.u (sEq.u (sEq.u (sEq.u (sEq.u (sEq.u sEq.z))))))))) | (have hc : tipC σ q g = 0 := (by unfold tipC; omega); exact mo_iretx E hr rfl hlk hM hS dX11_tip_311 (by rw [if_pos hc]) (pO hc (by first | rfl | (show τ1 0 0 = 0; rw [q_m.1 0 (by decide)]; rfl)) (by unfold tipS; rw [if_neg (by omega)]; exact sEq.u (sEq.u (sEq.u (sEq.u (sEq.u (sEq.u (sEq.u (sEq.u (sEq.u (sEq.u sEq.z))))))))))))
            · refine x_iconst B dX11_tip_235 ?_
              refine x_goto (tgt := 250) B dX11_tip_236 (by decide) ?_
              refine mo_st (k := 35) E hM hS rfl (by have h9 : mLn 35 = 600 := rfl; omega) (by decide) (by omega) dX11_tip_250 (fun H locs hM hS => ?_)
              refine x_goto (tgt := 299) B dX11_tip_251 (by decide) ?_
              refine x_aload_n B hl dX11_tip_299 rfl ?_
              refine x_dup B dX11_tip_300 rfl ?_
              refine mo_gets E hM 45 rfl (hts (.fieldLink RX11 145 "BinRoundsModel" "tips" "I") (by decide +kernel)) rfl dX11_tip_301 (up_ne (by decide) (up_ne (by decide) (up_ne (by decide) (up_ne (by decide) (up_ne (by decide) (up_ne (by decide) (up_ne (by decide) (up_ne (by decide) (up_ne (by decide) rfl))))))))) (fun r_301 => ?_)
              refine x_iconst B dX11_tip_304 ?_
              refine x_iadd B dX11_tip_305 ?_
              refine mo_put E hM hS 45 rfl (hts (.fieldLink RX11 145 "BinRoundsModel" "tips" "I") (by decide +kernel)) rfl rfl (by decide +kernel) (by omega) dX11_tip_306 (fun H locs hM hS => ?_)
              refine x_iload B hl dX11_tip_309 rfl ?_
              first | (have hc : tipC σ q g = 0 := (by unfold tipC; omega); exact mo_iretx E hr rfl hlk hM hS dX11_tip_311 (by rw [if_pos hc]) (pO hc (by first | rfl | (show τ1 0 0 = 0; rw [q_m.1 0 (by decide)]; rfl)) (by unfold tipS; rw [if_pos (by omega), if_pos (by omega)]; exact sEq.u (sEq.u (sEq.u (sEq.u (sEq.u (sEq.u (sEq.u (sEq.u (sEq.u sEq.z))))))))))) | (have hc : tipC σ q g = 0 := (by unfold tipC; omega); exact mo_iretx E hr rfl hlk hM hS dX11_tip_311 (by rw [if_pos hc]) (pO hc (by first | rfl | (show τ1 0 0 = 0; rw [q_m.1 0 (by decide)]; rfl)) (by unfold tipS; rw [if_pos (by omega), if_neg (by omega)]; refine sEq.u (sEq.u (sEq.tr (fun k a b c => q_m.1 k b) ?_)); exact sEq.u (sEq.u (sEq.u (sEq.u (sEq.u (sEq.u (sEq.u sEq.z))))))))) | (have hc : tipC σ q g = 0 := (by unfold tipC; omega); exact mo_iretx E hr rfl hlk hM hS dX11_tip_311 (by rw [if_pos hc]) (pO hc (by first | rfl | (show τ1 0 0 = 0; rw [q_m.1 0 (by decide)]; rfl)) (by unfold tipS; rw [if_neg (by omega)]; exact sEq.u (sEq.u (sEq.u (sEq.u (sEq.u (sEq.u (sEq.u (sEq.u (sEq.u (sEq.u sEq.z))))))))))))
        have fnd : ∀ (n9 : Nat) (i : Int) (H : Heap) (locs : List Loc) (hM : MP D cy o ad (up (up (up (up (up (up σ 0 0 0) 32 (σ 45 0) (σ 1 0)) 33 (σ 45 0) q) 34 (σ 45 0) mk) 37 (σ 45 0) (tipO σ mk)) 36 (σ 45 0) (sFb σ mk i.toNat)) H) (hS : va_S (mA o ad) s.heap H locs) (ls : Array Slot), 0 ≤ i → i ≤ σ 23 0 → (sBear σ mk = 1 ∨ i = 0) → σ 23 0 - i < n9 → lv_has ls 7 [(0, .ref o), (1, .int (iI q)), (2, .int (iI mk)), (3, .int (iI g)), (4, .int (iI (σ 45 0))), (5, .int (iI (sBear σ mk))), (6, .int (iI (i)))] → (∀ (H : Heap) (locs : List Loc) (hM : MP D cy o ad (up (up (up (up (up (up σ 0 0 0) 32 (σ 45 0) (σ 1 0)) 33 (σ 45 0) q) 34 (σ 45 0) mk) 37 (σ 45 0) (tipO σ mk)) 36 (σ 45 0) (tipB σ mk)) H) (hS : va_S (mA o ad) s.heap H locs) (ls : Array Slot), lv_has ls 7 [(0, .ref o), (1, .int (iI q)), (2, .int (iI mk)), (3, .int (iI g)), (4, .int (iI (σ 45 0)))] → W p l e ({ frames := 1, cells := 0, slots := 0, locals := 25 } : Room) s m args below meth c H locs 0 0 (MQ below (mQX D cy o ad (some (.int (iI (if tipC σ q g = 0 then σ 45 0 else 0)))) (fun τ => pEnd (tipC σ q g) (tipS σ q mk g) σ τ)) args s 0 0 (mA o ad)) (F0 m 199 ls [])) → W p l e ({ frames := 1, cells := 0, slots := 0, locals := 25 } : Room) s m args below meth c H locs 0 0 (MQ below (mQX D cy o ad (some (.int (iI (if tipC σ q g = 0 then σ 45 0 else 0)))) (fun τ => pEnd (tipC σ q g) (tipS σ q mk g) σ τ)) args s 0 0 (mA o ad)) (F0 m 148 ls []) := by
          intro n9
          induction n9 with
          | zero => intro i H locs hM hS ls h1 h2 h3 h4; exact absurd h4 (by omega)
          | succ n9 ih =>
            intro i H locs hM hS ls h1 h2 h3 h4 hl kk
            refine x_iload B hl dX11_tip_148 rfl ?_
            refine x_aload_n B hl dX11_tip_150 rfl ?_
            refine mo_gets E hM 23 rfl (hts (.fieldLink RX11 139 "BinRoundsModel" "bins" "I") (by decide +kernel)) rfl dX11_tip_151 (up_ne (by decide) (up_ne (by decide) (up_ne (by decide) (up_ne (by decide) (up_ne (by decide) (up_ne (by decide) rfl)))))) (fun r_151 => ?_)
            refine x_icmp_ge (tgt := 199) B dX11_tip_154 (by decide) (by omega) (by omega) (fun c_154 => ?_) (fun c_154 => ?_)
            · refine kk _ _ ?_ hS ls (lv_key hl [(0, .ref o), (1, .int (iI q)), (2, .int (iI mk)), (3, .int (iI g)), (4, .int (iI (σ 45 0)))] rfl)
              have e9 : tipB σ mk = sFb σ mk i.toNat := by
                unfold tipB
                by_cases hb1 : sBear σ mk = 1
                · rw [if_pos hb1, show i = σ 23 0 by omega]
                · rw [if_neg hb1, show i = 0 by omega]; rfl
              rw [e9]; exact hM
            · refine x_iload B hl dX11_tip_157 rfl ?_
              refine x_iconst B dX11_tip_159 ?_
              refine x_icmp_ne (tgt := 199) B dX11_tip_160 (by decide) (by omega) (by omega) (fun c_160 => ?_) (fun c_160 => ?_)
              · refine kk _ _ ?_ hS ls (lv_key hl [(0, .ref o), (1, .int (iI q)), (2, .int (iI mk)), (3, .int (iI g)), (4, .int (iI (σ 45 0)))] rfl)
                have e9 : tipB σ mk = sFb σ mk i.toNat := by
                  unfold tipB
                  by_cases hb1 : sBear σ mk = 1
                  · rw [if_pos hb1, show i = σ 23 0 by omega]
                  · rw [if_neg hb1, show i = 0 by omega]; rfl
                rw [e9]; exact hM
              · refine x_aload_n B hl dX11_tip_163 rfl ?_
                refine mo_geta E hM 13 1 rfl (hts (.fieldLink RX11 39 "BinRoundsModel" "bears" "[Z") (by decide +kernel)) rfl dX11_tip_164 ?_
                refine x_iload B hl dX11_tip_167 rfl ?_
                refine mo_zld (k := 13) E hM rfl (by have h9 : mLn 13 = 120 := rfl; omega) (by decide) dX11_tip_169 (up_ne (by decide) (up_ne (by decide) (up_ne (by decide) (up_ne (by decide) (up_ne (by decide) (up_ne (by decide) rfl)))))) (fun r_169 => ?_)
                refine x_if_eq (tgt := 193) B dX11_tip_170 (by decide) (by omega) (fun c_170 => ?_) (fun c_170 => ?_)
                · refine x_iinc B hl dX11_tip_193 rfl (by decide) (fun ls hl => ?_)
                  refine x_goto (tgt := 148) B dX11_tip_196 (by decide) ?_
                  refine ih (i + 1) _ _ ?_ hS ls (by omega) (by omega) (by omega) (by omega) (lv_key hl [(0, .ref o), (1, .int (iI q)), (2, .int (iI mk)), (3, .int (iI g)), (4, .int (iI (σ 45 0))), (5, .int (iI (sBear σ mk))), (6, .int (iI (i + 1)))] rfl) kk
                  first | (rw [sFb_s (by omega), if_neg (by omega)]; exact hM) | (rw [sFb_s (by omega), if_pos (by omega), ← up_up (v := sFb σ mk i.toNat)]; exact hM)
                · refine x_aload_n B hl dX11_tip_173 rfl ?_
                  refine mo_geta E hM 14 0 rfl (hts (.fieldLink RX11 42 "BinRoundsModel" "markOf" "[I") (by decide +kernel)) rfl dX11_tip_174 ?_
                  refine x_iload B hl dX11_tip_177 rfl ?_
                  refine mo_ld (k := 14) E hM rfl (by have h9 : mLn 14 = 120 := rfl; omega) (by decide) dX11_tip_179 (up_ne (by decide) (up_ne (by decide) (up_ne (by decide) (up_ne (by decide) (up_ne (by decide) (up_ne (by decide) rfl)))))) (fun r_179 => ?_)
                  refine x_iload_n B hl dX11_tip_180 rfl ?_
                  refine x_icmp_ne (tgt := 193) B dX11_tip_181 (by decide) (by omega) (by omega) (fun c_181 => ?_) (fun c_181 => ?_)
                  · refine x_iinc B hl dX11_tip_193 rfl (by decide) (fun ls hl => ?_)
                    refine x_goto (tgt := 148) B dX11_tip_196 (by decide) ?_
                    refine ih (i + 1) _ _ ?_ hS ls (by omega) (by omega) (by omega) (by omega) (lv_key hl [(0, .ref o), (1, .int (iI q)), (2, .int (iI mk)), (3, .int (iI g)), (4, .int (iI (σ 45 0))), (5, .int (iI (sBear σ mk))), (6, .int (iI (i + 1)))] rfl) kk
                    first | (rw [sFb_s (by omega), if_neg (by omega)]; exact hM) | (rw [sFb_s (by omega), if_pos (by omega), ← up_up (v := sFb σ mk i.toNat)]; exact hM)
                  · refine x_aload_n B hl dX11_tip_184 rfl ?_
                    refine mo_geta E hM 36 0 rfl (hts (.fieldLink RX11 96 "BinRoundsModel" "binOf" "[I") (by decide +kernel)) rfl dX11_tip_185 ?_
                    refine x_iload B hl dX11_tip_188 rfl ?_
                    refine x_iload B hl dX11_tip_190 rfl ?_
                    refine mo_st (k := 36) E hM hS rfl (by have h9 : mLn 36 = 600 := rfl; omega) (by decide) (by omega) dX11_tip_192 (fun H locs hM hS => ?_)
                    refine x_iinc B hl dX11_tip_193 rfl (by decide) (fun ls hl => ?_)
                    refine x_goto (tgt := 148) B dX11_tip_196 (by decide) ?_
                    refine ih (i + 1) _ _ ?_ hS ls (by omega) (by omega) (by omega) (by omega) (lv_key hl [(0, .ref o), (1, .int (iI q)), (2, .int (iI mk)), (3, .int (iI g)), (4, .int (iI (σ 45 0))), (5, .int (iI (sBear σ mk))), (6, .int (iI (i + 1)))] rfl) kk
                    first | (rw [sFb_s (by omega), if_neg (by omega)]; exact hM) | (rw [sFb_s (by omega), if_pos (by omega), ← up_up (v := sFb σ mk i.toNat)]; exact hM)
        refine x_aload_n B hl dX11_tip_83 rfl ?_
        refine mo_geta E hM 32 0 rfl (hts (.fieldLink RX11 84 "BinRoundsModel" "dayOf" "[I") (by decide +kernel)) rfl dX11_tip_84 ?_
        refine x_iload B hl dX11_tip_87 rfl ?_
        refine x_aload_n B hl dX11_tip_89 rfl ?_
        refine mo_gets E hM 1 rfl (hts (.fieldLink RX11 152 "BinRoundsModel" "open" "I") (by decide +kernel)) rfl dX11_tip_90 (up_ne (by decide) rfl) (fun r_90 => ?_)
        refine mo_st (k := 32) E hM hS rfl (by have h9 : mLn 32 = 600 := rfl; omega) (by decide) (by omega) dX11_tip_93 (fun H locs hM hS => ?_)
        refine x_aload_n B hl dX11_tip_94 rfl ?_
        refine mo_geta E hM 33 0 rfl (hts (.fieldLink RX11 87 "BinRoundsModel" "cartOf" "[I") (by decide +kernel)) rfl dX11_tip_95 ?_
        refine x_iload B hl dX11_tip_98 rfl ?_
        refine x_iload_n B hl dX11_tip_100 rfl ?_
        refine mo_st (k := 33) E hM hS rfl (by have h9 : mLn 33 = 600 := rfl; omega) (by decide) (by omega) dX11_tip_101 (fun H locs hM hS => ?_)
        refine x_aload_n B hl dX11_tip_102 rfl ?_
        refine mo_geta E hM 34 0 rfl (hts (.fieldLink RX11 90 "BinRoundsModel" "tipMark" "[I") (by decide +kernel)) rfl dX11_tip_103 ?_
        refine x_iload B hl dX11_tip_106 rfl ?_
        refine x_iload_n B hl dX11_tip_108 rfl ?_
        refine mo_st (k := 34) E hM hS rfl (by have h9 : mLn 34 = 600 := rfl; omega) (by decide) (by omega) dX11_tip_109 (fun H locs hM hS => ?_)
        refine x_aload_n B hl dX11_tip_110 rfl ?_
        refine mo_geta E hM 37 0 rfl (hts (.fieldLink RX11 99 "BinRoundsModel" "cameSo" "[I") (by decide +kernel)) rfl dX11_tip_111 ?_
        refine x_iload B hl dX11_tip_114 rfl ?_
        refine x_iload B hl dX11_tip_116 rfl ?_
        refine x_iconst B dX11_tip_118 ?_
        refine x_icmp_ne (tgt := 126) B dX11_tip_119 (by decide) (by omega) (by omega) (fun c_119 => ?_) (fun c_119 => ?_)
        · refine x_iload B hl dX11_tip_126 rfl ?_
          refine x_if_ne (tgt := 135) B dX11_tip_128 (by decide) (by omega) (fun c_128 => ?_) (fun c_128 => ?_)
          · have htO : tipO σ mk = 2 := by unfold tipO; rw [if_neg (by omega), if_neg (by omega)]
            refine x_iconst B dX11_tip_135 ?_
            refine mo_st (k := 37) E hM hS rfl (by have h9 : mLn 37 = 600 := rfl; omega) (by decide) (by omega) dX11_tip_136 (fun H locs hM hS => ?_)
            refine x_aload_n B hl dX11_tip_137 rfl ?_
            refine mo_geta E hM 36 0 rfl (hts (.fieldLink RX11 96 "BinRoundsModel" "binOf" "[I") (by decide +kernel)) rfl dX11_tip_138 ?_
            refine x_iload B hl dX11_tip_141 rfl ?_
            refine x_iconst B dX11_tip_143 ?_
            refine mo_st (k := 36) E hM hS rfl (by have h9 : mLn 36 = 600 := rfl; omega) (by decide) (by omega) dX11_tip_144 (fun H locs hM hS => ?_)
            refine x_iconst B dX11_tip_145 ?_
            refine x_istore B hl dX11_tip_146 (by decide) (fun ls hl => ?_)
            refine fnd 122 0 _ _ ?_ hS ls (by omega) (by omega) (by omega) (by omega) (lv_key hl [(0, .ref o), (1, .int (iI q)), (2, .int (iI mk)), (3, .int (iI g)), (4, .int (iI (σ 45 0))), (5, .int (iI (sBear σ mk))), (6, .int (iI (0)))] rfl) rest
            · rw [show tipO σ mk = _ from htO]; exact hM
          · have htO : tipO σ mk = 1 := by unfold tipO; rw [if_neg (by omega), if_pos (by omega)]
            refine x_iconst B dX11_tip_131 ?_
            refine x_goto (tgt := 136) B dX11_tip_132 (by decide) ?_
            refine mo_st (k := 37) E hM hS rfl (by have h9 : mLn 37 = 600 := rfl; omega) (by decide) (by omega) dX11_tip_136 (fun H locs hM hS => ?_)
            refine x_aload_n B hl dX11_tip_137 rfl ?_
            refine mo_geta E hM 36 0 rfl (hts (.fieldLink RX11 96 "BinRoundsModel" "binOf" "[I") (by decide +kernel)) rfl dX11_tip_138 ?_
            refine x_iload B hl dX11_tip_141 rfl ?_
            refine x_iconst B dX11_tip_143 ?_
            refine mo_st (k := 36) E hM hS rfl (by have h9 : mLn 36 = 600 := rfl; omega) (by decide) (by omega) dX11_tip_144 (fun H locs hM hS => ?_)
            refine x_iconst B dX11_tip_145 ?_
            refine x_istore B hl dX11_tip_146 (by decide) (fun ls hl => ?_)
            refine fnd 122 0 _ _ ?_ hS ls (by omega) (by omega) (by omega) (by omega) (lv_key hl [(0, .ref o), (1, .int (iI q)), (2, .int (iI mk)), (3, .int (iI g)), (4, .int (iI (σ 45 0))), (5, .int (iI (sBear σ mk))), (6, .int (iI (0)))] rfl) rest
            · rw [show tipO σ mk = _ from htO]; exact hM
        · have htO : tipO σ mk = 0 := by unfold tipO; rw [if_pos (by omega)]
          refine x_iconst B dX11_tip_122 ?_
          refine x_goto (tgt := 136) B dX11_tip_123 (by decide) ?_
          refine mo_st (k := 37) E hM hS rfl (by have h9 : mLn 37 = 600 := rfl; omega) (by decide) (by omega) dX11_tip_136 (fun H locs hM hS => ?_)
          refine x_aload_n B hl dX11_tip_137 rfl ?_
          refine mo_geta E hM 36 0 rfl (hts (.fieldLink RX11 96 "BinRoundsModel" "binOf" "[I") (by decide +kernel)) rfl dX11_tip_138 ?_
          refine x_iload B hl dX11_tip_141 rfl ?_
          refine x_iconst B dX11_tip_143 ?_
          refine mo_st (k := 36) E hM hS rfl (by have h9 : mLn 36 = 600 := rfl; omega) (by decide) (by omega) dX11_tip_144 (fun H locs hM hS => ?_)
          refine x_iconst B dX11_tip_145 ?_
          refine x_istore B hl dX11_tip_146 (by decide) (fun ls hl => ?_)
          refine fnd 122 0 _ _ ?_ hS ls (by omega) (by omega) (by omega) (by omega) (lv_key hl [(0, .ref o), (1, .int (iI q)), (2, .int (iI mk)), (3, .int (iI g)), (4, .int (iI (σ 45 0))), (5, .int (iI (sBear σ mk))), (6, .int (iI (0)))] rfl) rest
          · rw [show tipO σ mk = _ from htO]; exact hM
      · refine x_iconst B dX11_tip_56 ?_
        refine x_goto (tgt := 61) B dX11_tip_57 (by decide) ?_
        refine x_iconst B dX11_tip_61 ?_
        refine mo_call E hM hS hl (m_throwsIf_1 l D cy o ad _ _ (by decide)) (cwV 2 hts0 gX11_tip_X11_throwsIf rfl rfl rfl (by decide +kernel) ⟨Nat.le_of_ble_eq_true rfl, Nat.le_of_ble_eq_true rfl⟩) rfl rfl (Nat.le_of_ble_eq_true rfl) dX11_tip_62 ⟨Nat.zero_le _, Nat.zero_le _⟩ (fun H locs q_t hM hS => ?_)
        refine x_if_eq_f (tgt := 70) B dX11_tip_65 (by decide) (by decide) ?_
        refine x_iconst B dX11_tip_68 ?_
        first | (have hc : tipC σ q g = 1 := (by first | rfl | (unfold tipC; omega)); exact mo_iretx E hr rfl hlk hM hS dX11_tip_69 (by first | (rw [if_neg (by rw [hc]; decide)]; done) | (rw [if_neg (by rw [hc]; decide)]; rfl)) (pE hc (by decide))) | (have hc : tipC σ q g = 2 := (by first | rfl | (unfold tipC; omega)); exact mo_iretx E hr rfl hlk hM hS dX11_tip_69 (by first | (rw [if_neg (by rw [hc]; decide)]; done) | (rw [if_neg (by rw [hc]; decide)]; rfl)) (pE hc (by decide))) | (have hc : tipC σ q g = 3 := (by first | rfl | (unfold tipC; omega)); exact mo_iretx E hr rfl hlk hM hS dX11_tip_69 (by first | (rw [if_neg (by rw [hc]; decide)]; done) | (rw [if_neg (by rw [hc]; decide)]; rfl)) (pE hc (by decide))) | (have hc : tipC σ q g = 0 := (by first | rfl | (unfold tipC; omega)); exact mo_iretx E hr rfl hlk hM hS dX11_tip_69 (by first | (rw [if_pos hc]; done) | (rw [if_pos hc]; rfl) | (rw [if_pos hc]; congr 1; omega)) (pO hc (by first | rfl | (simp only [up_rd]; rfl) | simp [up_rd]) (by first | exact (sEq.u (sEq.u (sEq.u sEq.z))) | exact sEq.rf)))
    · refine x_if_ne_f (tgt := 37) B dX11_tip_30 (by decide) (by decide) ?_
      refine x_iconst B dX11_tip_33 ?_
      refine x_goto (tgt := 38) B dX11_tip_34 (by decide) ?_
      refine x_iconst B dX11_tip_38 ?_
      refine mo_call E hM hS hl (m_throwsIf_1 l D cy o ad _ _ (by decide)) (cwV 2 hts0 gX11_tip_X11_throwsIf rfl rfl rfl (by decide +kernel) ⟨Nat.le_of_ble_eq_true rfl, Nat.le_of_ble_eq_true rfl⟩) rfl rfl (Nat.le_of_ble_eq_true rfl) dX11_tip_39 ⟨Nat.zero_le _, Nat.zero_le _⟩ (fun H locs q_t hM hS => ?_)
      refine x_if_ne_t (tgt := 68) B dX11_tip_42 (by decide) (by decide) ?_
      refine x_iconst B dX11_tip_68 ?_
      first | (have hc : tipC σ q g = 1 := (by first | rfl | (unfold tipC; omega)); exact mo_iretx E hr rfl hlk hM hS dX11_tip_69 (by first | (rw [if_neg (by rw [hc]; decide)]; done) | (rw [if_neg (by rw [hc]; decide)]; rfl)) (pE hc (by decide))) | (have hc : tipC σ q g = 2 := (by first | rfl | (unfold tipC; omega)); exact mo_iretx E hr rfl hlk hM hS dX11_tip_69 (by first | (rw [if_neg (by rw [hc]; decide)]; done) | (rw [if_neg (by rw [hc]; decide)]; rfl)) (pE hc (by decide))) | (have hc : tipC σ q g = 3 := (by first | rfl | (unfold tipC; omega)); exact mo_iretx E hr rfl hlk hM hS dX11_tip_69 (by first | (rw [if_neg (by rw [hc]; decide)]; done) | (rw [if_neg (by rw [hc]; decide)]; rfl)) (pE hc (by decide))) | (have hc : tipC σ q g = 0 := (by first | rfl | (unfold tipC; omega)); exact mo_iretx E hr rfl hlk hM hS dX11_tip_69 (by first | (rw [if_pos hc]; done) | (rw [if_pos hc]; rfl) | (rw [if_pos hc]; congr 1; omega)) (pO hc (by first | rfl | (simp only [up_rd]; rfl) | simp [up_rd]) (by first | exact (sEq.u (sEq.u (sEq.u sEq.z))) | exact sEq.rf)))
