set_option maxHeartbeats 4000000 in
set_option maxRecDepth 100000 in
theorem m_p_weigh (l : Launch) (D : va_G) (cy : Nat → ClassId) (o : Nat) (ad : Nat → Nat) (σ : MS) {t g : Int} {n : Int} (I : sInv n σ) (h_t : -2147483648 ≤ t ∧ t < 2147483648) (h_g : -2147483648 ≤ g ∧ g < 2147483648)  : MX l yX11_weigh wsX11_weigh ({ frames := 1, cells := 0, slots := 0, locals := 25 } : Room) D cy o ad [.int (iI t), .int (iI g)] σ (some (.int (iI (if weighC σ t g = 0 then (g / 500) else 0)))) (fun τ => pEnd (weighC σ t g) (weighS σ t g) σ τ) := by
  refine mx_of (cc := cX11_weigh) (nL := 6) (ret := (some .int)) (by decide) rfl rfl (fun w h => List.mem_cons_of_mem _ (List.mem_append_right _ h)) (Nat.le_of_ble_eq_true rfl) ⟨rfl, rfl⟩ ?_
  intro p e s m args below meth c ls E hr hlk hM hS hl
  have B := E.1
  have hml := E.2.1
  have hown := E.2.2.1
  have hts0 := E.2.2.2.1
  have hts := E.2.2.2.1
  have hw := hM.2.2.2
  have I0 := I
  obtain ⟨hn9, hOp, hnS, hnH, hnB, hnC, hnT, hPr, hTol, v3, v4, v6, v7, v12, v15, v16, v17, v18, v19, v20, v21, v22, v24, v25, v26, v28, v29, v32, v33, v35, v36, v37, v38, v39, v42, v43, v44, v40, vm⟩ := I
  refine x_aload_n B hl dX11_weigh_0 rfl ?_
  refine x_iconst B dX11_weigh_1 ?_
  refine mo_put E hM hS 0 rfl (hts (.fieldLink RX11 129 "BinRoundsModel" "thrown" "I") (by decide +kernel)) rfl rfl (by decide +kernel) (by omega) dX11_weigh_2 (fun H locs hM hS => ?_)
  refine x_aload_n B hl dX11_weigh_5 rfl ?_
  refine x_aload_n B hl dX11_weigh_6 rfl ?_
  refine x_iload_n B hl dX11_weigh_7 rfl ?_
  refine mo_call E hM hS hl (m_noTipk l D cy o ad _ (up_ne (by decide) rfl) (by omega)) (cwV 1 hts0 gX11_weigh_X11_noTip rfl rfl rfl (by decide +kernel) ⟨Nat.le_of_ble_eq_true rfl, Nat.le_of_ble_eq_true rfl⟩) rfl rfl (Nat.le_of_ble_eq_true rfl) dX11_weigh_8 ⟨Nat.zero_le _, Nat.zero_le _⟩ (fun H locs q_8 hM hS => ?_)
  refine x_bool (fun b_8 => ?_) (fun b_8 => ?_)
  · refine x_iconst B dX11_weigh_11 ?_
    refine mo_call E hM hS hl (m_throwsIf_1 l D cy o ad _ _ (by decide)) (cwV 2 hts0 gX11_weigh_X11_throwsIf rfl rfl rfl (by decide +kernel) ⟨Nat.le_of_ble_eq_true rfl, Nat.le_of_ble_eq_true rfl⟩) rfl rfl (Nat.le_of_ble_eq_true rfl) dX11_weigh_12 ⟨Nat.zero_le _, Nat.zero_le _⟩ (fun H locs q_t hM hS => ?_)
    refine x_if_ne_t (tgt := 66) B dX11_weigh_15 (by decide) (by decide) ?_
    refine x_iconst B dX11_weigh_66 ?_
    first | (have hc : weighC σ t g = 1 := (by first | rfl | (unfold weighC; omega)); exact mo_iretx E hr rfl hlk hM hS dX11_weigh_67 (by first | (rw [if_neg (by rw [hc]; decide)]; done) | (rw [if_neg (by rw [hc]; decide)]; rfl)) (pE hc (by decide))) | (have hc : weighC σ t g = 2 := (by first | rfl | (unfold weighC; omega)); exact mo_iretx E hr rfl hlk hM hS dX11_weigh_67 (by first | (rw [if_neg (by rw [hc]; decide)]; done) | (rw [if_neg (by rw [hc]; decide)]; rfl)) (pE hc (by decide))) | (have hc : weighC σ t g = 3 := (by first | rfl | (unfold weighC; omega)); exact mo_iretx E hr rfl hlk hM hS dX11_weigh_67 (by first | (rw [if_neg (by rw [hc]; decide)]; done) | (rw [if_neg (by rw [hc]; decide)]; rfl)) (pE hc (by decide))) | (have hc : weighC σ t g = 0 := (by first | rfl | (unfold weighC; omega)); exact mo_iretx E hr rfl hlk hM hS dX11_weigh_67 (by first | (rw [if_pos hc]; done) | (rw [if_pos hc]; rfl) | (rw [if_pos hc]; congr 1; omega) | (rw [if_pos hc]; congr 1; unfold g; omega)) (pO hc (by first | rfl | (simp only [up_rd]; rfl) | simp [up_rd]) (by first | exact (sEq.u (sEq.u (sEq.u sEq.z))) | exact sEq.rf)))
  · refine x_iconst B dX11_weigh_11 ?_
    refine mo_call E hM hS hl (m_throwsIf_0 l D cy o ad _ _ (by decide)) (cwV 2 hts0 gX11_weigh_X11_throwsIf rfl rfl rfl (by decide +kernel) ⟨Nat.le_of_ble_eq_true rfl, Nat.le_of_ble_eq_true rfl⟩) rfl rfl (Nat.le_of_ble_eq_true rfl) dX11_weigh_12 ⟨Nat.zero_le _, Nat.zero_le _⟩ (fun H locs q_t hM hS => ?_)
    refine x_if_ne_f (tgt := 66) B dX11_weigh_15 (by decide) (by decide) ?_
    refine x_aload_n B hl dX11_weigh_18 rfl ?_
    refine x_aload_n B hl dX11_weigh_19 rfl ?_
    refine mo_geta E hM 38 0 rfl (hts (.fieldLink RX11 102 "BinRoundsModel" "weighedSo" "[I") (by decide +kernel)) rfl dX11_weigh_20 ?_
    refine x_iload_n B hl dX11_weigh_23 rfl ?_
    refine mo_ld (k := 38) E hM rfl (by have h9 : mLn 38 = 600 := rfl; omega) (by decide) dX11_weigh_24 (up_ne (by decide) rfl) (fun r_24 => ?_)
    refine x_iconst B dX11_weigh_25 ?_
    refine x_icmp_eq (tgt := 33) B dX11_weigh_26 (by decide) (by omega) (by omega) (fun c_26 => ?_) (fun c_26 => ?_)
    · refine x_iconst B dX11_weigh_33 ?_
      refine x_iconst B dX11_weigh_34 ?_
      refine mo_call E hM hS hl (m_throwsIf_0 l D cy o ad _ _ (by decide)) (cwV 2 hts0 gX11_weigh_X11_throwsIf rfl rfl rfl (by decide +kernel) ⟨Nat.le_of_ble_eq_true rfl, Nat.le_of_ble_eq_true rfl⟩) rfl rfl (Nat.le_of_ble_eq_true rfl) dX11_weigh_35 ⟨Nat.zero_le _, Nat.zero_le _⟩ (fun H locs q_t hM hS => ?_)
      refine x_if_ne_f (tgt := 66) B dX11_weigh_38 (by decide) (by decide) ?_
      refine x_aload_n B hl dX11_weigh_41 rfl ?_
      refine x_iload_n B hl dX11_weigh_42 rfl ?_
      refine x_i2l B dX11_weigh_43 (by omega) ?_
      refine x_lconst B dX11_weigh_44 ?_
      refine lv_ldc2 (v := lI 200000) B.1 B.2 hown (hts (.constantLong RX11 228 (200000)) (by decide +kernel)) dX11_weigh_45 ?_
      refine z_call ⟨B.1, B.2, hml, hown, hts0⟩ hl (m_in l (by omega) (by omega) (by omega)) (va_cwS 3 hts0 gX11_weigh_X11_in rfl rfl rfl (by decide +kernel) ⟨Nat.le_of_ble_eq_true rfl, Nat.le_of_ble_eq_true rfl⟩) rfl rfl (Nat.le_of_ble_eq_true rfl) dX11_weigh_48 ⟨Nat.zero_le _, Nat.zero_le _⟩ (fun q_48 => ?_)
      refine x_bool (fun b_48 => ?_) (fun b_48 => ?_)
      · refine x_if_ne_t (tgt := 58) B dX11_weigh_51 (by decide) (by decide) ?_
        refine x_iconst B dX11_weigh_58 ?_
        refine x_iconst B dX11_weigh_59 ?_
        refine mo_call E hM hS hl (m_throwsIf_0 l D cy o ad _ _ (by decide)) (cwV 2 hts0 gX11_weigh_X11_throwsIf rfl rfl rfl (by decide +kernel) ⟨Nat.le_of_ble_eq_true rfl, Nat.le_of_ble_eq_true rfl⟩) rfl rfl (Nat.le_of_ble_eq_true rfl) dX11_weigh_60 ⟨Nat.zero_le _, Nat.zero_le _⟩ (fun H locs q_t hM hS => ?_)
        refine x_if_eq_t (tgt := 68) B dX11_weigh_63 (by decide) (by decide) ?_
        have v33t := v33 t
        have v25c := v25 (σ 33 t)
        have v44t := v44 t
        have hso := sSum_r (f := sOt σ t) (M := 3000000) (fun j => by have h9 := v39 j; unfold sOt; split <;> omega) (σ 45 0).toNat
        refine x_aload_n B hl dX11_weigh_68 rfl ?_
        refine mo_geta E hM 38 0 rfl (hts (.fieldLink RX11 102 "BinRoundsModel" "weighedSo" "[I") (by decide +kernel)) rfl dX11_weigh_69 ?_
        refine x_iload_n B hl dX11_weigh_72 rfl ?_
        refine x_iconst B dX11_weigh_73 ?_
        refine mo_st (k := 38) E hM hS rfl (by have h9 : mLn 38 = 600 := rfl; omega) (by decide) (by omega) dX11_weigh_74 (fun H locs hM hS => ?_)
        refine x_aload_n B hl dX11_weigh_75 rfl ?_
        refine mo_geta E hM 35 0 rfl (hts (.fieldLink RX11 93 "BinRoundsModel" "halves" "[I") (by decide +kernel)) rfl dX11_weigh_76 ?_
        refine x_iload_n B hl dX11_weigh_79 rfl ?_
        refine x_iload_n B hl dX11_weigh_80 rfl ?_
        refine x_sipush B dX11_weigh_81 (by decide) ?_
        refine x_idiv B dX11_weigh_84 (by omega) (by omega) ?_
        refine mo_st (k := 35) E hM hS rfl (by have h9 : mLn 35 = 600 := rfl; omega) (by decide) (by omega) dX11_weigh_85 (fun H locs hM hS => ?_)
        refine x_aload_n B hl dX11_weigh_86 rfl ?_
        refine mo_geta E hM 25 0 rfl (hts (.fieldLink RX11 72 "BinRoundsModel" "carry" "[I") (by decide +kernel)) rfl dX11_weigh_87 ?_
        refine x_aload_n B hl dX11_weigh_90 rfl ?_
        refine mo_geta E hM 33 0 rfl (hts (.fieldLink RX11 87 "BinRoundsModel" "cartOf" "[I") (by decide +kernel)) rfl dX11_weigh_91 ?_
        refine x_iload_n B hl dX11_weigh_94 rfl ?_
        refine mo_ld (k := 33) E hM rfl (by have h9 : mLn 33 = 600 := rfl; omega) (by decide) dX11_weigh_95 (up_ne (by decide) (up_ne (by decide) (up_ne (by decide) rfl))) (fun r_95 => ?_)
        refine lv_dup2_11 B.1 B.2 dX11_weigh_96 rfl rfl ?_
        refine mo_ld (k := 25) E hM rfl (by have h9 : mLn 25 = 5 := rfl; omega) (by decide) dX11_weigh_97 (up_ne (by decide) (up_ne (by decide) (up_ne (by decide) rfl))) (fun r_97 => ?_)
        refine x_iload_n B hl dX11_weigh_98 rfl ?_
        refine x_sipush B dX11_weigh_99 (by decide) ?_
        refine x_irem B dX11_weigh_102 (by omega) (by omega) ?_
        refine x_iadd B dX11_weigh_103 ?_
        refine mo_st (k := 25) E hM hS rfl (by have h9 : mLn 25 = 5 := rfl; omega) (by decide) (by omega) dX11_weigh_104 (fun H locs hM hS => ?_)
        refine x_aload_n B hl dX11_weigh_105 rfl ?_
        refine mo_geta E hM 32 0 rfl (hts (.fieldLink RX11 84 "BinRoundsModel" "dayOf" "[I") (by decide +kernel)) rfl dX11_weigh_106 ?_
        refine x_iload_n B hl dX11_weigh_109 rfl ?_
        refine mo_ld (k := 32) E hM rfl (by have h9 : mLn 32 = 600 := rfl; omega) (by decide) dX11_weigh_110 (up_ne (by decide) (up_ne (by decide) (up_ne (by decide) (up_ne (by decide) rfl)))) (fun r_110 => ?_)
        refine x_aload_n B hl dX11_weigh_111 rfl ?_
        refine mo_gets E hM 1 rfl (hts (.fieldLink RX11 152 "BinRoundsModel" "open" "I") (by decide +kernel)) rfl dX11_weigh_112 (up_ne (by decide) (up_ne (by decide) (up_ne (by decide) (up_ne (by decide) rfl)))) (fun r_112 => ?_)
        refine x_icmp_ne (tgt := 125) B dX11_weigh_115 (by decide) (by omega) (by omega) (fun c_115 => ?_) (fun c_115 => ?_)
        · refine x_aload_n B hl dX11_weigh_125 rfl ?_
          refine mo_geta E hM 35 0 rfl (hts (.fieldLink RX11 93 "BinRoundsModel" "halves" "[I") (by decide +kernel)) rfl dX11_weigh_126 ?_
          refine x_iload_n B hl dX11_weigh_129 rfl ?_
          refine mo_ld (k := 35) E hM rfl (by have h9 : mLn 35 = 600 := rfl; omega) (by decide) dX11_weigh_130 (up_ne (by decide) up_s) (fun r_130 => ?_)
          refine x_istore_n B hl dX11_weigh_131 (by decide) (fun ls hl => ?_)
          refine x_aload_n B hl dX11_weigh_132 rfl ?_
          refine mo_geta E hM 44 0 rfl (hts (.fieldLink RX11 120 "BinRoundsModel" "gateOf" "[I") (by decide +kernel)) rfl dX11_weigh_133 ?_
          refine x_iload_n B hl dX11_weigh_136 rfl ?_
          refine mo_ld (k := 44) E hM rfl (by have h9 : mLn 44 = 600 := rfl; omega) (by decide) dX11_weigh_137 (up_ne (by decide) (up_ne (by decide) (up_ne (by decide) (up_ne (by decide) rfl)))) (fun r_137 => ?_)
          refine x_if_lt (tgt := 243) B dX11_weigh_138 (by decide) (by omega) (fun c_138 => ?_) (fun c_138 => ?_)
          · refine x_aload_n B hl dX11_weigh_243 rfl ?_
            refine mo_geta E hM 39 0 rfl (hts (.fieldLink RX11 105 "BinRoundsModel" "paidHalves" "[I") (by decide +kernel)) rfl dX11_weigh_244 ?_
            refine x_iload_n B hl dX11_weigh_247 rfl ?_
            refine x_iload_n B hl dX11_weigh_248 rfl ?_
            refine mo_st (k := 39) E hM hS rfl (by have h9 : mLn 39 = 600 := rfl; omega) (by decide) (by omega) dX11_weigh_249 (fun H locs hM hS => ?_)
            refine x_aload_n B hl dX11_weigh_250 rfl ?_
            refine mo_geta E hM 35 0 rfl (hts (.fieldLink RX11 93 "BinRoundsModel" "halves" "[I") (by decide +kernel)) rfl dX11_weigh_251 ?_
            refine x_iload_n B hl dX11_weigh_254 rfl ?_
            refine mo_ld (k := 35) E hM rfl (by have h9 : mLn 35 = 600 := rfl; omega) (by decide) dX11_weigh_255 (up_ne (by decide) (up_ne (by decide) up_s)) (fun r_255 => ?_)
            (have hc : weighC σ t g = 0 := (by unfold weighC; omega); exact mo_iretx E hr rfl hlk hM hS dX11_weigh_256 (by rw [if_pos hc]) (pO hc (by rfl) (by unfold weighS; rw [if_neg (by omega)]; rw [show weighP σ t g = _ from by first | exact hwp | (unfold weighP; rw [if_neg (by omega)])]; exact sEq.u (sEq.u (sEq.u (sEq.u sEq.z))))))
          · have oth : ∀ (n : Nat) (i : Int) (H : Heap) (locs : List Loc) (hM : MP D cy o ad (up (up (up (up σ 0 0 0) 38 t 2) 35 t (g / 500)) 25 (σ 33 t) (σ 25 (σ 33 t) + g % 500)) H) (hS : va_S (mA o ad) s.heap H locs) (ls : Array Slot), 0 ≤ i → i ≤ σ 45 0 → σ 45 0 - i < n → lv_has ls 6 [(0, .ref o), (1, .int (iI t)), (2, .int (iI g)), (3, .int (iI (g / 500))), (4, .int (iI (sSum (sOt σ t) i.toNat))), (5, .int (iI (i)))] → W p l e ({ frames := 1, cells := 0, slots := 0, locals := 25 } : Room) s m args below meth c H locs 0 0 (MQ below (mQX D cy o ad (some (.int (iI (if weighC σ t g = 0 then (g / 500) else 0)))) (fun τ => pEnd (weighC σ t g) (weighS σ t g) σ τ)) args s 0 0 (mA o ad)) (F0 m 147 ls []) := by
              intro n
              induction n with
              | zero => intro i H locs hM hS ls h1 h2 h3; exact absurd h3 (by omega)
              | succ n ih =>
                intro i H locs hM hS ls h1 h2 h3 hl
                refine x_iload B hl dX11_weigh_147 rfl ?_
                refine x_aload_n B hl dX11_weigh_149 rfl ?_
                refine mo_gets E hM 45 rfl (hts (.fieldLink RX11 145 "BinRoundsModel" "tips" "I") (by decide +kernel)) rfl dX11_weigh_150 (up_ne (by decide) (up_ne (by decide) (up_ne (by decide) (up_ne (by decide) rfl)))) (fun r_150 => ?_)
                refine x_icmp_ge (tgt := 216) B dX11_weigh_153 (by decide) (by omega) (by omega) (fun c_153 => ?_) (fun c_153 => ?_)
                · have hin : i = σ 45 0 := by omega
                  rw [hin] at hl
                  refine x_aload_n B hl dX11_weigh_216 rfl ?_
                  refine mo_geta E hM 44 0 rfl (hts (.fieldLink RX11 120 "BinRoundsModel" "gateOf" "[I") (by decide +kernel)) rfl dX11_weigh_217 ?_
                  refine x_iload_n B hl dX11_weigh_220 rfl ?_
                  refine mo_ld (k := 44) E hM rfl (by have h9 : mLn 44 = 600 := rfl; omega) (by decide) dX11_weigh_221 (up_ne (by decide) (up_ne (by decide) (up_ne (by decide) (up_ne (by decide) rfl)))) (fun r_221 => ?_)
                  refine x_iload B hl dX11_weigh_222 rfl ?_
                  refine x_isub B dX11_weigh_224 ?_
                  refine x_iload_n B hl dX11_weigh_225 rfl ?_
                  refine x_icmp_ge (tgt := 241) B dX11_weigh_226 (by decide) (by omega) (by omega) (fun c_226 => ?_) (fun c_226 => ?_)
                  · have hwp : weighP σ t g = g / 500 := by
                      unfold weighP
                      rw [if_pos (by omega), if_neg (by show ¬ (σ 44 t - sOth σ t < g / 500); exact Int.not_lt.mpr c_226)]
                    refine x_iload_n B hl dX11_weigh_241 rfl ?_
                    refine x_istore_n B hl dX11_weigh_242 (by decide) (fun ls hl => ?_)
                    refine x_aload_n B hl dX11_weigh_243 rfl ?_
                    refine mo_geta E hM 39 0 rfl (hts (.fieldLink RX11 105 "BinRoundsModel" "paidHalves" "[I") (by decide +kernel)) rfl dX11_weigh_244 ?_
                    refine x_iload_n B hl dX11_weigh_247 rfl ?_
                    refine x_iload_n B hl dX11_weigh_248 rfl ?_
                    refine mo_st (k := 39) E hM hS rfl (by have h9 : mLn 39 = 600 := rfl; omega) (by decide) (by omega) dX11_weigh_249 (fun H locs hM hS => ?_)
                    refine x_aload_n B hl dX11_weigh_250 rfl ?_
                    refine mo_geta E hM 35 0 rfl (hts (.fieldLink RX11 93 "BinRoundsModel" "halves" "[I") (by decide +kernel)) rfl dX11_weigh_251 ?_
                    refine x_iload_n B hl dX11_weigh_254 rfl ?_
                    refine mo_ld (k := 35) E hM rfl (by have h9 : mLn 35 = 600 := rfl; omega) (by decide) dX11_weigh_255 (up_ne (by decide) (up_ne (by decide) up_s)) (fun r_255 => ?_)
                    (have hc : weighC σ t g = 0 := (by unfold weighC; omega); exact mo_iretx E hr rfl hlk hM hS dX11_weigh_256 (by rw [if_pos hc]) (pO hc (by rfl) (by unfold weighS; rw [if_neg (by omega)]; rw [show weighP σ t g = _ from by first | exact hwp | (unfold weighP; rw [if_neg (by omega)])]; exact sEq.u (sEq.u (sEq.u (sEq.u sEq.z))))))
                  · have hwp : weighP σ t g = σ 44 t - sOth σ t := by
                      unfold weighP
                      rw [if_pos (by omega), if_pos (by show σ 44 t - sOth σ t < g / 500; exact c_226)]
                    refine x_aload_n B hl dX11_weigh_229 rfl ?_
                    refine mo_geta E hM 44 0 rfl (hts (.fieldLink RX11 120 "BinRoundsModel" "gateOf" "[I") (by decide +kernel)) rfl dX11_weigh_230 ?_
                    refine x_iload_n B hl dX11_weigh_233 rfl ?_
                    refine mo_ld (k := 44) E hM rfl (by have h9 : mLn 44 = 600 := rfl; omega) (by decide) dX11_weigh_234 (up_ne (by decide) (up_ne (by decide) (up_ne (by decide) (up_ne (by decide) rfl)))) (fun r_234 => ?_)
                    refine x_iload B hl dX11_weigh_235 rfl ?_
                    refine x_isub B dX11_weigh_237 ?_
                    refine x_goto (tgt := 242) B dX11_weigh_238 (by decide) ?_
                    refine x_istore_n B hl dX11_weigh_242 (by decide) (fun ls hl => ?_)
                    refine x_aload_n B hl dX11_weigh_243 rfl ?_
                    refine mo_geta E hM 39 0 rfl (hts (.fieldLink RX11 105 "BinRoundsModel" "paidHalves" "[I") (by decide +kernel)) rfl dX11_weigh_244 ?_
                    refine x_iload_n B hl dX11_weigh_247 rfl ?_
                    refine x_iload_n B hl dX11_weigh_248 rfl ?_
                    refine mo_st (k := 39) E hM hS rfl (by have h9 : mLn 39 = 600 := rfl; omega) (by decide) (by omega) dX11_weigh_249 (fun H locs hM hS => ?_)
                    refine x_aload_n B hl dX11_weigh_250 rfl ?_
                    refine mo_geta E hM 35 0 rfl (hts (.fieldLink RX11 93 "BinRoundsModel" "halves" "[I") (by decide +kernel)) rfl dX11_weigh_251 ?_
                    refine x_iload_n B hl dX11_weigh_254 rfl ?_
                    refine mo_ld (k := 35) E hM rfl (by have h9 : mLn 35 = 600 := rfl; omega) (by decide) dX11_weigh_255 (up_ne (by decide) (up_ne (by decide) up_s)) (fun r_255 => ?_)
                    (have hc : weighC σ t g = 0 := (by unfold weighC; omega); exact mo_iretx E hr rfl hlk hM hS dX11_weigh_256 (by rw [if_pos hc]) (pO hc (by rfl) (by unfold weighS; rw [if_neg (by omega)]; rw [show weighP σ t g = _ from by first | exact hwp | (unfold weighP; rw [if_neg (by omega)])]; exact sEq.u (sEq.u (sEq.u (sEq.u sEq.z))))))
                · have hs9 := sSum_r (f := sOt σ t) (M := 3000000) (fun j => by have h9 := v39 j; unfold sOt; split <;> omega) i.toNat
                  refine x_iload B hl dX11_weigh_156 rfl ?_
                  refine x_iload B hl dX11_weigh_158 rfl ?_
                  refine x_iload_n B hl dX11_weigh_160 rfl ?_
                  refine x_icmp_eq (tgt := 206) B dX11_weigh_161 (by decide) (by omega) (by omega) (fun c_161 => ?_) (fun c_161 => ?_)
                  · refine x_iconst B dX11_weigh_206 ?_
                    refine x_iadd B dX11_weigh_207 ?_
                    refine x_istore B hl dX11_weigh_208 (by decide) (fun ls hl => ?_)
                    refine x_iinc B hl dX11_weigh_210 rfl (by decide) (fun ls hl => ?_)
                    refine x_goto (tgt := 147) B dX11_weigh_213 (by decide) ?_
                    exact ih (i + 1) _ _ hM hS ls (by omega) (by omega) (by omega) (lv_key hl [(0, .ref o), (1, .int (iI t)), (2, .int (iI g)), (3, .int (iI (g / 500))), (4, .int (iI (sSum (sOt σ t) (i + 1).toNat))), (5, .int (iI (i + 1)))] (by rw [sSum_s (by omega)]; unfold sOt; first | (rw [if_pos (by omega)]; rfl) | (rw [if_neg (by omega)]; rfl)))
                  · refine x_aload_n B hl dX11_weigh_164 rfl ?_
                    refine mo_geta E hM 32 0 rfl (hts (.fieldLink RX11 84 "BinRoundsModel" "dayOf" "[I") (by decide +kernel)) rfl dX11_weigh_165 ?_
                    refine x_iload B hl dX11_weigh_168 rfl ?_
                    refine mo_ld (k := 32) E hM rfl (by have h9 : mLn 32 = 600 := rfl; omega) (by decide) dX11_weigh_170 (up_ne (by decide) (up_ne (by decide) (up_ne (by decide) (up_ne (by decide) rfl)))) (fun r_170 => ?_)
                    refine x_aload_n B hl dX11_weigh_171 rfl ?_
                    refine mo_geta E hM 32 0 rfl (hts (.fieldLink RX11 84 "BinRoundsModel" "dayOf" "[I") (by decide +kernel)) rfl dX11_weigh_172 ?_
                    refine x_iload_n B hl dX11_weigh_175 rfl ?_
                    refine mo_ld (k := 32) E hM rfl (by have h9 : mLn 32 = 600 := rfl; omega) (by decide) dX11_weigh_176 (up_ne (by decide) (up_ne (by decide) (up_ne (by decide) (up_ne (by decide) rfl)))) (fun r_176 => ?_)
                    refine x_icmp_ne (tgt := 206) B dX11_weigh_177 (by decide) (by omega) (by omega) (fun c_177 => ?_) (fun c_177 => ?_)
                    · refine x_iconst B dX11_weigh_206 ?_
                      refine x_iadd B dX11_weigh_207 ?_
                      refine x_istore B hl dX11_weigh_208 (by decide) (fun ls hl => ?_)
                      refine x_iinc B hl dX11_weigh_210 rfl (by decide) (fun ls hl => ?_)
                      refine x_goto (tgt := 147) B dX11_weigh_213 (by decide) ?_
                      exact ih (i + 1) _ _ hM hS ls (by omega) (by omega) (by omega) (lv_key hl [(0, .ref o), (1, .int (iI t)), (2, .int (iI g)), (3, .int (iI (g / 500))), (4, .int (iI (sSum (sOt σ t) (i + 1).toNat))), (5, .int (iI (i + 1)))] (by rw [sSum_s (by omega)]; unfold sOt; first | (rw [if_pos (by omega)]; rfl) | (rw [if_neg (by omega)]; rfl)))
                    · refine x_aload_n B hl dX11_weigh_180 rfl ?_
                      refine mo_geta E hM 33 0 rfl (hts (.fieldLink RX11 87 "BinRoundsModel" "cartOf" "[I") (by decide +kernel)) rfl dX11_weigh_181 ?_
                      refine x_iload B hl dX11_weigh_184 rfl ?_
                      refine mo_ld (k := 33) E hM rfl (by have h9 : mLn 33 = 600 := rfl; omega) (by decide) dX11_weigh_186 (up_ne (by decide) (up_ne (by decide) (up_ne (by decide) (up_ne (by decide) rfl)))) (fun r_186 => ?_)
                      refine x_aload_n B hl dX11_weigh_187 rfl ?_
                      refine mo_geta E hM 33 0 rfl (hts (.fieldLink RX11 87 "BinRoundsModel" "cartOf" "[I") (by decide +kernel)) rfl dX11_weigh_188 ?_
                      refine x_iload_n B hl dX11_weigh_191 rfl ?_
                      refine mo_ld (k := 33) E hM rfl (by have h9 : mLn 33 = 600 := rfl; omega) (by decide) dX11_weigh_192 (up_ne (by decide) (up_ne (by decide) (up_ne (by decide) (up_ne (by decide) rfl)))) (fun r_192 => ?_)
                      refine x_icmp_ne (tgt := 206) B dX11_weigh_193 (by decide) (by omega) (by omega) (fun c_193 => ?_) (fun c_193 => ?_)
                      · refine x_iconst B dX11_weigh_206 ?_
                        refine x_iadd B dX11_weigh_207 ?_
                        refine x_istore B hl dX11_weigh_208 (by decide) (fun ls hl => ?_)
                        refine x_iinc B hl dX11_weigh_210 rfl (by decide) (fun ls hl => ?_)
                        refine x_goto (tgt := 147) B dX11_weigh_213 (by decide) ?_
                        exact ih (i + 1) _ _ hM hS ls (by omega) (by omega) (by omega) (lv_key hl [(0, .ref o), (1, .int (iI t)), (2, .int (iI g)), (3, .int (iI (g / 500))), (4, .int (iI (sSum (sOt σ t) (i + 1).toNat))), (5, .int (iI (i + 1)))] (by rw [sSum_s (by omega)]; unfold sOt; first | (rw [if_pos (by omega)]; rfl) | (rw [if_neg (by omega)]; rfl)))
                      · refine x_aload_n B hl dX11_weigh_196 rfl ?_
                        refine mo_geta E hM 39 0 rfl (hts (.fieldLink RX11 105 "BinRoundsModel" "paidHalves" "[I") (by decide +kernel)) rfl dX11_weigh_197 ?_
                        refine x_iload B hl dX11_weigh_200 rfl ?_
                        refine mo_ld (k := 39) E hM rfl (by have h9 : mLn 39 = 600 := rfl; omega) (by decide) dX11_weigh_202 (up_ne (by decide) (up_ne (by decide) (up_ne (by decide) (up_ne (by decide) rfl)))) (fun r_202 => ?_)
                        refine x_goto (tgt := 207) B dX11_weigh_203 (by decide) ?_
                        refine x_iadd B dX11_weigh_207 ?_
                        refine x_istore B hl dX11_weigh_208 (by decide) (fun ls hl => ?_)
                        refine x_iinc B hl dX11_weigh_210 rfl (by decide) (fun ls hl => ?_)
                        refine x_goto (tgt := 147) B dX11_weigh_213 (by decide) ?_
                        exact ih (i + 1) _ _ hM hS ls (by omega) (by omega) (by omega) (lv_key hl [(0, .ref o), (1, .int (iI t)), (2, .int (iI g)), (3, .int (iI (g / 500))), (4, .int (iI (sSum (sOt σ t) (i + 1).toNat))), (5, .int (iI (i + 1)))] (by rw [sSum_s (by omega)]; unfold sOt; first | (rw [if_pos (by omega)]; rfl) | (rw [if_neg (by omega)]; rfl)))
            refine x_iconst B dX11_weigh_141 ?_
            refine x_istore B hl dX11_weigh_142 (by decide) (fun ls hl => ?_)
            refine x_iconst B dX11_weigh_144 ?_
            refine x_istore B hl dX11_weigh_145 (by decide) (fun ls hl => ?_)
            exact oth 601 0 _ _ hM hS ls (by omega) (by omega) (by omega) (lv_key hl [(0, .ref o), (1, .int (iI t)), (2, .int (iI g)), (3, .int (iI (g / 500))), (4, .int (iI (sSum (sOt σ t) (0 : Int).toNat))), (5, .int (iI (0)))] rfl)
        · refine x_aload_n B hl dX11_weigh_118 rfl ?_
          refine mo_geta E hM 35 0 rfl (hts (.fieldLink RX11 93 "BinRoundsModel" "halves" "[I") (by decide +kernel)) rfl dX11_weigh_119 ?_
          refine x_iload_n B hl dX11_weigh_122 rfl ?_
          refine mo_ld (k := 35) E hM rfl (by have h9 : mLn 35 = 600 := rfl; omega) (by decide) dX11_weigh_123 (up_ne (by decide) up_s) (fun r_123 => ?_)
          (have hc : weighC σ t g = 0 := (by unfold weighC; omega); exact mo_iretx E hr rfl hlk hM hS dX11_weigh_124 (by rw [if_pos hc]) (pO hc (by rfl) (by unfold weighS; rw [if_pos (by omega)]; exact sEq.u (sEq.u (sEq.u sEq.z)))))
      · refine x_if_ne_f (tgt := 58) B dX11_weigh_51 (by decide) (by decide) ?_
        refine x_iconst B dX11_weigh_54 ?_
        refine x_goto (tgt := 59) B dX11_weigh_55 (by decide) ?_
        refine x_iconst B dX11_weigh_59 ?_
        refine mo_call E hM hS hl (m_throwsIf_1 l D cy o ad _ _ (by decide)) (cwV 2 hts0 gX11_weigh_X11_throwsIf rfl rfl rfl (by decide +kernel) ⟨Nat.le_of_ble_eq_true rfl, Nat.le_of_ble_eq_true rfl⟩) rfl rfl (Nat.le_of_ble_eq_true rfl) dX11_weigh_60 ⟨Nat.zero_le _, Nat.zero_le _⟩ (fun H locs q_t hM hS => ?_)
        refine x_if_eq_f (tgt := 68) B dX11_weigh_63 (by decide) (by decide) ?_
        refine x_iconst B dX11_weigh_66 ?_
        first | (have hc : weighC σ t g = 1 := (by first | rfl | (unfold weighC; omega)); exact mo_iretx E hr rfl hlk hM hS dX11_weigh_67 (by first | (rw [if_neg (by rw [hc]; decide)]; done) | (rw [if_neg (by rw [hc]; decide)]; rfl)) (pE hc (by decide))) | (have hc : weighC σ t g = 2 := (by first | rfl | (unfold weighC; omega)); exact mo_iretx E hr rfl hlk hM hS dX11_weigh_67 (by first | (rw [if_neg (by rw [hc]; decide)]; done) | (rw [if_neg (by rw [hc]; decide)]; rfl)) (pE hc (by decide))) | (have hc : weighC σ t g = 3 := (by first | rfl | (unfold weighC; omega)); exact mo_iretx E hr rfl hlk hM hS dX11_weigh_67 (by first | (rw [if_neg (by rw [hc]; decide)]; done) | (rw [if_neg (by rw [hc]; decide)]; rfl)) (pE hc (by decide))) | (have hc : weighC σ t g = 0 := (by first | rfl | (unfold weighC; omega)); exact mo_iretx E hr rfl hlk hM hS dX11_weigh_67 (by first | (rw [if_pos hc]; done) | (rw [if_pos hc]; rfl) | (rw [if_pos hc]; congr 1; omega) | (rw [if_pos hc]; congr 1; unfold g; omega)) (pO hc (by first | rfl | (simp only [up_rd]; rfl) | simp [up_rd]) (by first | exact (sEq.u (sEq.u (sEq.u sEq.z))) | exact sEq.rf)))
    · refine x_iconst B dX11_weigh_29 ?_
      refine x_goto (tgt := 34) B dX11_weigh_30 (by decide) ?_
      refine x_iconst B dX11_weigh_34 ?_
      refine mo_call E hM hS hl (m_throwsIf_1 l D cy o ad _ _ (by decide)) (cwV 2 hts0 gX11_weigh_X11_throwsIf rfl rfl rfl (by decide +kernel) ⟨Nat.le_of_ble_eq_true rfl, Nat.le_of_ble_eq_true rfl⟩) rfl rfl (Nat.le_of_ble_eq_true rfl) dX11_weigh_35 ⟨Nat.zero_le _, Nat.zero_le _⟩ (fun H locs q_t hM hS => ?_)
      refine x_if_ne_t (tgt := 66) B dX11_weigh_38 (by decide) (by decide) ?_
      refine x_iconst B dX11_weigh_66 ?_
      first | (have hc : weighC σ t g = 1 := (by first | rfl | (unfold weighC; omega)); exact mo_iretx E hr rfl hlk hM hS dX11_weigh_67 (by first | (rw [if_neg (by rw [hc]; decide)]; done) | (rw [if_neg (by rw [hc]; decide)]; rfl)) (pE hc (by decide))) | (have hc : weighC σ t g = 2 := (by first | rfl | (unfold weighC; omega)); exact mo_iretx E hr rfl hlk hM hS dX11_weigh_67 (by first | (rw [if_neg (by rw [hc]; decide)]; done) | (rw [if_neg (by rw [hc]; decide)]; rfl)) (pE hc (by decide))) | (have hc : weighC σ t g = 3 := (by first | rfl | (unfold weighC; omega)); exact mo_iretx E hr rfl hlk hM hS dX11_weigh_67 (by first | (rw [if_neg (by rw [hc]; decide)]; done) | (rw [if_neg (by rw [hc]; decide)]; rfl)) (pE hc (by decide))) | (have hc : weighC σ t g = 0 := (by first | rfl | (unfold weighC; omega)); exact mo_iretx E hr rfl hlk hM hS dX11_weigh_67 (by first | (rw [if_pos hc]; done) | (rw [if_pos hc]; rfl) | (rw [if_pos hc]; congr 1; omega) | (rw [if_pos hc]; congr 1; unfold g; omega)) (pO hc (by first | rfl | (simp only [up_rd]; rfl) | simp [up_rd]) (by first | exact (sEq.u (sEq.u (sEq.u sEq.z))) | exact sEq.rf)))
