set_option maxHeartbeats 4000000 in
set_option maxRecDepth 100000 in
theorem m_shareOf (l : Launch) (D : va_G) (cy : Nat → ClassId) (o : Nat) (ad : Nat → Nat) (σ : MS) {t h : Int} (ht : 0 ≤ t ∧ t < 600) (hb : σ 40 t = 1 → 0 ≤ σ 36 t ∧ σ 36 t < 120) (hm : ∀ j, 0 ≤ σ 22 j ∧ σ 22 j ≤ 20) (hm8 : ∀ j, 0 ≤ σ 18 j ∧ σ 18 j ≤ 8) (hn : 0 ≤ σ 11 0 ∧ σ 11 0 ≤ 60) (hpw : ∀ j, 0 ≤ σ 20 j ∧ σ 20 j ≤ 1000) (hlf : ∀ j, 0 ≤ σ 42 j ∧ σ 42 j ≤ 100000) (hrt : ∀ j, 0 ≤ σ 43 j ∧ σ 43 j ≤ 100000) (hpd : ∀ j, 0 ≤ σ 39 j ∧ σ 39 j ≤ 3000000) (hh : 0 ≤ h ∧ h < 60) : MM l yX11_shareOf wsX11_shareOf ({ frames := 4, cells := 0, slots := 0, locals := 90 } : Room) D cy o ad [.int (iI t), .int (iI h)] σ (some (.long (lI (sShr σ t h)))) (σ) (True) := by
  refine mm_of (cc := cX11_shareOf) (nL := 12) (ret := (some .long)) (by decide) rfl rfl (fun w h => List.mem_cons_of_mem _ (List.mem_append_right _ h)) (Nat.le_of_ble_eq_true rfl) ⟨rfl, rfl⟩ ?_
  intro p e s m args below meth c ls E hr hlk hM hS hl
  have B := E.1
  have hml := E.2.1
  have hown := E.2.2.1
  have hts0 := E.2.2.2.1
  have hts := E.2.2.2.1
  have hw := hM.2.2.2
  have hcr := sChg_r (σ := σ) (t := t) (hlf t) (hrt t) (hpd t)
  refine x_aload_n B hl dX11_shareOf_0 rfl ?_
  refine mo_geta E hM 40 1 rfl (hts (.fieldLink RX11 108 "BinRoundsModel" "isCharged" "[Z") (by decide +kernel)) rfl dX11_shareOf_1 ?_
  refine x_iload_n B hl dX11_shareOf_4 rfl ?_
  refine mo_zld (k := 40) E hM rfl (by have h9 : mLn 40 = 600 := rfl; omega) (by decide) dX11_shareOf_5 rfl (fun r_5 => ?_)
  refine x_if_ne (tgt := 11) B dX11_shareOf_6 (by decide) (by omega) (fun c_6 => ?_) (fun c_6 => ?_)
  · refine x_aload_n B hl dX11_shareOf_11 rfl ?_
    refine x_iload_n B hl dX11_shareOf_12 rfl ?_
    refine mo_call E hM hS hl (m_chargeOf l D cy o ad _ ht hb (fun _ => hm _) (fun _ => hm8 _) hn hpw) (cwV 1 hts0 gX11_shareOf_X11_chargeOf rfl rfl rfl (by decide +kernel) ⟨Nat.le_of_ble_eq_true rfl, Nat.le_of_ble_eq_true rfl⟩) rfl rfl (Nat.le_of_ble_eq_true rfl) dX11_shareOf_13 ⟨Nat.zero_le _, Nat.zero_le _⟩ (fun H locs q_13 hM hS => ?_)
    refine x_lstore_n B hl dX11_shareOf_16 (by decide) (fun ls hl => ?_)
    refine x_aload_n B hl dX11_shareOf_17 rfl ?_
    refine mo_geta E hM 36 0 rfl (hts (.fieldLink RX11 96 "BinRoundsModel" "binOf" "[I") (by decide +kernel)) rfl dX11_shareOf_18 ?_
    refine x_iload_n B hl dX11_shareOf_21 rfl ?_
    refine mo_ld (k := 36) E hM rfl (by have h9 : mLn 36 = 600 := rfl; omega) (by decide) dX11_shareOf_22 rfl (fun r_22 => ?_)
    refine x_istore B hl dX11_shareOf_23 (by decide) (fun ls hl => ?_)
    refine x_aload_n B hl dX11_shareOf_25 rfl ?_
    refine mo_geta E hM 12 0 rfl (hts (.fieldLink RX11 36 "BinRoundsModel" "kind" "[I") (by decide +kernel)) rfl dX11_shareOf_26 ?_
    refine x_iload B hl dX11_shareOf_29 rfl ?_
    refine mo_ld (k := 12) E hM rfl (by have h9 : mLn 12 = 120 := rfl; omega) (by decide) dX11_shareOf_31 rfl (fun r_31 => ?_)
    refine x_iconst B dX11_shareOf_32 ?_
    refine x_icmp_eq (tgt := 58) B dX11_shareOf_33 (by decide) (by omega) (by omega) (fun c_33 => ?_) (fun c_33 => ?_)
    · refine x_aload_n B hl dX11_shareOf_58 rfl ?_
      refine x_iload_n B hl dX11_shareOf_59 rfl ?_
      refine mo_call E hM hS hl (m_allWeights l D cy o ad _ ht (hb (by omega)) (hm _) hn hpw) (cwV 1 hts0 gX11_shareOf_X11_allWeights rfl rfl rfl (by decide +kernel) ⟨Nat.le_of_ble_eq_true rfl, Nat.le_of_ble_eq_true rfl⟩) rfl rfl (Nat.le_of_ble_eq_true rfl) dX11_shareOf_60 ⟨Nat.zero_le _, Nat.zero_le _⟩ (fun H locs q_60 hM hS => ?_)
      refine x_i2l B dX11_shareOf_63 (by omega) ?_
      refine x_lstore B hl dX11_shareOf_64 (by decide) (fun ls hl => ?_)
      refine x_lload B hl dX11_shareOf_66 rfl ?_
      refine x_lconst B dX11_shareOf_68 ?_
      refine x_lcmp_ne (tgt := 75) B dX11_shareOf_69 dX11_shareOf_70 (by decide) (by omega) (by omega) (fun c_69 => ?_) (fun c_69 => ?_)
      · have hk3 : σ 12 (σ 36 t) = 3 := by omega
        have hA : 0 < sAll σ t ∧ sAll σ t ≤ 60000 := by omega
        have ahead : ∀ (n : Nat) (i : Int) (H : Heap) (locs : List Loc) (hM : MP D cy o ad σ H) (hS : va_S (mA o ad) s.heap H locs) (ls : Array Slot), 0 ≤ i → i ≤ h → h - i < n → lv_has ls 12 [(0, .ref o), (1, .int (iI t)), (2, .int (iI h)), (3, .long (lI (sChg σ t))), (5, .int (iI (σ 36 t))), (6, .long (lI (sAll σ t))), (8, .long (lI (sLf σ t (sChg σ t) (sAll σ t) (σ 11 0).toNat))), (10, .int (iI (sAh σ t i.toNat))), (11, .int (iI i))] → W p l e ({ frames := 4, cells := 0, slots := 0, locals := 90 } : Room) s m args below meth c H locs 0 0 (MQ below (mQ D cy o ad (some (.long (lI (sShr σ t h)))) (σ) (True)) args s 0 0 (mA o ad)) (F0 m 127 ls []) := by
          intro n
          induction n with
          | zero => intro i H locs hM hS ls h1 h2 h3; exact absurd h3 (by omega)
          | succ n ih =>
            intro i H locs hM hS ls h1 h2 h3 hl
            refine x_iload B hl dX11_shareOf_127 rfl ?_
            refine x_iload_n B hl dX11_shareOf_129 rfl ?_
            refine x_icmp_ge (tgt := 166) B dX11_shareOf_130 (by decide) (by omega) (by omega) (fun c_130 => ?_) (fun c_130 => ?_)
            · have hih : i = h := by omega
              rw [hih] at hl
              have e5 := hw.1 32 t (by decide)
              refine x_aload_n B hl dX11_shareOf_166 rfl ?_
              refine x_iload B hl dX11_shareOf_167 rfl ?_
              refine x_iload_n B hl dX11_shareOf_169 rfl ?_
              refine x_aload_n B hl dX11_shareOf_170 rfl ?_
              refine mo_geta E hM 32 0 rfl (hts (.fieldLink RX11 84 "BinRoundsModel" "dayOf" "[I") (by decide +kernel)) rfl dX11_shareOf_171 ?_
              refine x_iload_n B hl dX11_shareOf_174 rfl ?_
              refine mo_ld (k := 32) E hM rfl (by have h9 : mLn 32 = 600 := rfl; omega) (by decide) dX11_shareOf_175 rfl (fun r_175 => ?_)
              refine mo_call E hM hS hl (m_weightOf l D cy o ad _ (hb (by omega)) (by omega) (by omega) (hm _)) (cwV 3 hts0 gX11_shareOf_X11_weightOf rfl rfl rfl (by decide +kernel) ⟨Nat.le_of_ble_eq_true rfl, Nat.le_of_ble_eq_true rfl⟩) rfl rfl (Nat.le_of_ble_eq_true rfl) dX11_shareOf_176 ⟨Nat.zero_le _, Nat.zero_le _⟩ (fun H locs q_176 hM hS => ?_)
              refine x_istore B hl dX11_shareOf_179 (by decide) (fun ls hl => ?_)
              have e1 := sWt_p hpw (σ 36 t) h (σ 32 t) (σ 22 (σ 36 t)).toNat
              have e2 := cw_r hcr e1
              refine x_lload_n B hl dX11_shareOf_181 rfl ?_
              refine x_iload B hl dX11_shareOf_182 rfl ?_
              refine x_i2l B dX11_shareOf_184 (by omega) ?_
              refine x_lmul B dX11_shareOf_185 ?_
              refine x_lload B hl dX11_shareOf_186 rfl ?_
              refine x_ldiv B dX11_shareOf_188 ⟨e2.1, Int.lt_of_le_of_lt e2.2 (by decide)⟩ (by omega) ?_
              refine x_iload B hl dX11_shareOf_189 rfl ?_
              refine x_if_le (tgt := 207) B dX11_shareOf_191 (by decide) (by omega) (fun c_191 => ?_) (fun c_191 => ?_)
              · refine x_lconst B dX11_shareOf_207 ?_
                refine x_ladd B dX11_shareOf_208 ?_
                refine mo_lret E hr hlk hM hS dX11_shareOf_209 (congrArg lI ?_) rfl trivial
                rw [sShr_w (by omega) hk3 (by omega)]
                first | (rw [if_pos (by omega)]; done) | (rw [if_neg (by omega)]; done) | (rw [if_pos (by omega)]; rfl) | (rw [if_neg (by omega)]; rfl)
              · have e3 := sLf_r (t := t) hcr hA.1 hpw (σ 11 0).toNat
                have e4 := sAh_r σ t h.toNat
                refine x_iload B hl dX11_shareOf_194 rfl ?_
                refine x_i2l B dX11_shareOf_196 (by omega) ?_
                refine x_lload B hl dX11_shareOf_197 rfl ?_
                refine x_lcmp_ge (tgt := 207) B dX11_shareOf_199 dX11_shareOf_200 (by decide) (by omega) (by omega) (fun c_199 => ?_) (fun c_199 => ?_)
                · refine x_lconst B dX11_shareOf_207 ?_
                  refine x_ladd B dX11_shareOf_208 ?_
                  refine mo_lret E hr hlk hM hS dX11_shareOf_209 (congrArg lI ?_) rfl trivial
                  rw [sShr_w (by omega) hk3 (by omega)]
                  first | (rw [if_pos (by omega)]; done) | (rw [if_neg (by omega)]; done) | (rw [if_pos (by omega)]; rfl) | (rw [if_neg (by omega)]; rfl)
                · refine x_lconst B dX11_shareOf_203 ?_
                  refine x_goto (tgt := 208) B dX11_shareOf_204 (by decide) ?_
                  refine x_ladd B dX11_shareOf_208 ?_
                  refine mo_lret E hr hlk hM hS dX11_shareOf_209 (congrArg lI ?_) rfl trivial
                  rw [sShr_w (by omega) hk3 (by omega)]
                  first | (rw [if_pos (by omega)]; done) | (rw [if_neg (by omega)]; done) | (rw [if_pos (by omega)]; rfl) | (rw [if_neg (by omega)]; rfl)
            · have e1 := sAh_r σ t i.toNat
              have e5 := hw.1 32 t (by decide)
              refine x_iload B hl dX11_shareOf_133 rfl ?_
              refine x_aload_n B hl dX11_shareOf_135 rfl ?_
              refine x_iload B hl dX11_shareOf_136 rfl ?_
              refine x_iload B hl dX11_shareOf_138 rfl ?_
              refine x_aload_n B hl dX11_shareOf_140 rfl ?_
              refine mo_geta E hM 32 0 rfl (hts (.fieldLink RX11 84 "BinRoundsModel" "dayOf" "[I") (by decide +kernel)) rfl dX11_shareOf_141 ?_
              refine x_iload_n B hl dX11_shareOf_144 rfl ?_
              refine mo_ld (k := 32) E hM rfl (by have h9 : mLn 32 = 600 := rfl; omega) (by decide) dX11_shareOf_145 rfl (fun r_145 => ?_)
              refine mo_call E hM hS hl (m_weightOf l D cy o ad _ (hb (by omega)) (by omega) (by omega) (hm _)) (cwV 3 hts0 gX11_shareOf_X11_weightOf rfl rfl rfl (by decide +kernel) ⟨Nat.le_of_ble_eq_true rfl, Nat.le_of_ble_eq_true rfl⟩) rfl rfl (Nat.le_of_ble_eq_true rfl) dX11_shareOf_146 ⟨Nat.zero_le _, Nat.zero_le _⟩ (fun H locs q_146 hM hS => ?_)
              refine x_if_le (tgt := 156) B dX11_shareOf_149 (by decide) (by omega) (fun c_149 => ?_) (fun c_149 => ?_)
              · refine x_iconst B dX11_shareOf_156 ?_
                refine x_iadd B dX11_shareOf_157 ?_
                refine x_istore B hl dX11_shareOf_158 (by decide) (fun ls hl => ?_)
                refine x_iinc B hl dX11_shareOf_160 rfl (by decide) (fun ls hl => ?_)
                refine x_goto (tgt := 127) B dX11_shareOf_163 (by decide) ?_
                exact ih (i + 1) _ _ hM hS ls (by omega) (by omega) (by omega) (lv_key hl [(0, .ref o), (1, .int (iI t)), (2, .int (iI h)), (3, .long (lI (sChg σ t))), (5, .int (iI (σ 36 t))), (6, .long (lI (sAll σ t))), (8, .long (lI (sLf σ t (sChg σ t) (sAll σ t) (σ 11 0).toNat))), (10, .int (iI (sAh σ t (i + 1).toNat))), (11, .int (iI (i + 1)))] (by first | (rw [sAh_s (by omega), if_pos (by assumption)]; rfl) | (rw [sAh_s (by omega), if_neg (by omega)]; rfl)))
              · refine x_iconst B dX11_shareOf_152 ?_
                refine x_goto (tgt := 157) B dX11_shareOf_153 (by decide) ?_
                refine x_iadd B dX11_shareOf_157 ?_
                refine x_istore B hl dX11_shareOf_158 (by decide) (fun ls hl => ?_)
                refine x_iinc B hl dX11_shareOf_160 rfl (by decide) (fun ls hl => ?_)
                refine x_goto (tgt := 127) B dX11_shareOf_163 (by decide) ?_
                exact ih (i + 1) _ _ hM hS ls (by omega) (by omega) (by omega) (lv_key hl [(0, .ref o), (1, .int (iI t)), (2, .int (iI h)), (3, .long (lI (sChg σ t))), (5, .int (iI (σ 36 t))), (6, .long (lI (sAll σ t))), (8, .long (lI (sLf σ t (sChg σ t) (sAll σ t) (σ 11 0).toNat))), (10, .int (iI (sAh σ t (i + 1).toNat))), (11, .int (iI (i + 1)))] (by first | (rw [sAh_s (by omega), if_pos (by assumption)]; rfl) | (rw [sAh_s (by omega), if_neg (by omega)]; rfl)))
        have lft : ∀ (n : Nat) (i : Int) (H : Heap) (locs : List Loc) (hM : MP D cy o ad σ H) (hS : va_S (mA o ad) s.heap H locs) (ls : Array Slot), 0 ≤ i → i ≤ σ 11 0 → σ 11 0 - i < n → lv_has ls 12 [(0, .ref o), (1, .int (iI t)), (2, .int (iI h)), (3, .long (lI (sChg σ t))), (5, .int (iI (σ 36 t))), (6, .long (lI (sAll σ t))), (8, .long (lI (sLf σ t (sChg σ t) (sAll σ t) i.toNat))), (10, .int (iI (i)))] → W p l e ({ frames := 4, cells := 0, slots := 0, locals := 90 } : Room) s m args below meth c H locs 0 0 (MQ below (mQ D cy o ad (some (.long (lI (sShr σ t h)))) (σ) (True)) args s 0 0 (mA o ad)) (F0 m 81 ls []) := by
          intro n
          induction n with
          | zero => intro i H locs hM hS ls h1 h2 h3; exact absurd h3 (by omega)
          | succ n ih =>
            intro i H locs hM hS ls h1 h2 h3 hl
            refine x_iload B hl dX11_shareOf_81 rfl ?_
            refine x_aload_n B hl dX11_shareOf_83 rfl ?_
            refine mo_gets E hM 11 rfl (hts (.fieldLink RX11 136 "BinRoundsModel" "houses" "I") (by decide +kernel)) rfl dX11_shareOf_84 rfl (fun r_84 => ?_)
            refine x_icmp_ge (tgt := 121) B dX11_shareOf_87 (by decide) (by omega) (by omega) (fun c_87 => ?_) (fun c_87 => ?_)
            · have hin9 : i = σ 11 0 := by omega
              rw [hin9] at hl
              refine x_iconst B dX11_shareOf_121 ?_
              refine x_istore B hl dX11_shareOf_122 (by decide) (fun ls hl => ?_)
              refine x_iconst B dX11_shareOf_124 ?_
              refine x_istore B hl dX11_shareOf_125 (by decide) (fun ls hl => ?_)
              exact ahead 61 0 _ _ hM hS ls (by omega) (by omega) (by omega) (lv_key hl [(0, .ref o), (1, .int (iI t)), (2, .int (iI h)), (3, .long (lI (sChg σ t))), (5, .int (iI (σ 36 t))), (6, .long (lI (sAll σ t))), (8, .long (lI (sLf σ t (sChg σ t) (sAll σ t) (σ 11 0).toNat))), (10, .int (iI (sAh σ t (0 : Int).toNat))), (11, .int (iI 0))] rfl)
            · have e1 := sWt_p hpw (σ 36 t) i (σ 32 t) (σ 22 (σ 36 t)).toNat
              have e2 := cw_r hcr e1
              have e5 := hw.1 32 t (by decide)
              refine x_lload B hl dX11_shareOf_90 rfl ?_
              refine x_lload_n B hl dX11_shareOf_92 rfl ?_
              refine x_aload_n B hl dX11_shareOf_93 rfl ?_
              refine x_iload B hl dX11_shareOf_94 rfl ?_
              refine x_iload B hl dX11_shareOf_96 rfl ?_
              refine x_aload_n B hl dX11_shareOf_98 rfl ?_
              refine mo_geta E hM 32 0 rfl (hts (.fieldLink RX11 84 "BinRoundsModel" "dayOf" "[I") (by decide +kernel)) rfl dX11_shareOf_99 ?_
              refine x_iload_n B hl dX11_shareOf_102 rfl ?_
              refine mo_ld (k := 32) E hM rfl (by have h9 : mLn 32 = 600 := rfl; omega) (by decide) dX11_shareOf_103 rfl (fun r_103 => ?_)
              refine mo_call E hM hS hl (m_weightOf l D cy o ad _ (hb (by omega)) (by omega) (by omega) (hm _)) (cwV 3 hts0 gX11_shareOf_X11_weightOf rfl rfl rfl (by decide +kernel) ⟨Nat.le_of_ble_eq_true rfl, Nat.le_of_ble_eq_true rfl⟩) rfl rfl (Nat.le_of_ble_eq_true rfl) dX11_shareOf_104 ⟨Nat.zero_le _, Nat.zero_le _⟩ (fun H locs q_104 hM hS => ?_)
              refine x_i2l B dX11_shareOf_107 (by omega) ?_
              refine x_lmul B dX11_shareOf_108 ?_
              refine x_lload B hl dX11_shareOf_109 rfl ?_
              refine x_ldiv B dX11_shareOf_111 ⟨e2.1, Int.lt_of_le_of_lt e2.2 (by decide)⟩ (by omega) ?_
              refine x_lsub B dX11_shareOf_112 ?_
              refine x_lstore B hl dX11_shareOf_113 (by decide) (fun ls hl => ?_)
              refine x_iinc B hl dX11_shareOf_115 rfl (by decide) (fun ls hl => ?_)
              refine x_goto (tgt := 81) B dX11_shareOf_118 (by decide) ?_
              exact ih (i + 1) _ _ hM hS ls (by omega) (by omega) (by omega) (lv_key hl [(0, .ref o), (1, .int (iI t)), (2, .int (iI h)), (3, .long (lI (sChg σ t))), (5, .int (iI (σ 36 t))), (6, .long (lI (sAll σ t))), (8, .long (lI (sLf σ t (sChg σ t) (sAll σ t) (i + 1).toNat))), (10, .int (iI (i + 1)))] (by rw [sLf_s (by omega)]; rfl))
        refine x_lload_n B hl dX11_shareOf_75 rfl ?_
        refine x_lstore B hl dX11_shareOf_76 (by decide) (fun ls hl => ?_)
        refine x_iconst B dX11_shareOf_78 ?_
        refine x_istore B hl dX11_shareOf_79 (by decide) (fun ls hl => ?_)
        exact lft 61 0 _ _ hM hS ls (by omega) (by omega) (by omega) (lv_key hl [(0, .ref o), (1, .int (iI t)), (2, .int (iI h)), (3, .long (lI (sChg σ t))), (5, .int (iI (σ 36 t))), (6, .long (lI (sAll σ t))), (8, .long (lI (sLf σ t (sChg σ t) (sAll σ t) (0 : Int).toNat))), (10, .int (iI (0)))] rfl)
      · refine x_lconst B dX11_shareOf_73 ?_
        refine mo_lret E hr hlk hM hS dX11_shareOf_74 (congrArg lI ?_) rfl trivial
        first | (exact (sShr_0 (by omega)).symm) | (exact (sShr_o (by omega) (by omega) (by omega)).symm) | (exact (sShr_n (by omega) (by omega) (by omega)).symm) | (exact (sShr_z (by omega) (by omega) (by omega)).symm)
    · refine x_aload_n B hl dX11_shareOf_36 rfl ?_
      refine x_iload B hl dX11_shareOf_37 rfl ?_
      refine x_aload_n B hl dX11_shareOf_39 rfl ?_
      refine mo_geta E hM 32 0 rfl (hts (.fieldLink RX11 84 "BinRoundsModel" "dayOf" "[I") (by decide +kernel)) rfl dX11_shareOf_40 ?_
      refine x_iload_n B hl dX11_shareOf_43 rfl ?_
      refine mo_ld (k := 32) E hM rfl (by have h9 : mLn 32 = 600 := rfl; omega) (by decide) dX11_shareOf_44 rfl (fun r_44 => ?_)
      refine mo_call E hM hS hl (m_houseOf l D cy o ad _ (hb (by omega)) (by omega) (hm8 _)) (cwV 2 hts0 gX11_shareOf_X11_houseOf rfl rfl rfl (by decide +kernel) ⟨Nat.le_of_ble_eq_true rfl, Nat.le_of_ble_eq_true rfl⟩) rfl rfl (Nat.le_of_ble_eq_true rfl) dX11_shareOf_45 ⟨Nat.zero_le _, Nat.zero_le _⟩ (fun H locs q_45 hM hS => ?_)
      refine x_iload_n B hl dX11_shareOf_48 rfl ?_
      refine x_icmp_ne (tgt := 56) B dX11_shareOf_49 (by decide) (by omega) (by omega) (fun c_49 => ?_) (fun c_49 => ?_)
      · refine x_lconst B dX11_shareOf_56 ?_
        refine mo_lret E hr hlk hM hS dX11_shareOf_57 (congrArg lI ?_) rfl trivial
        first | (exact (sShr_0 (by omega)).symm) | (exact (sShr_o (by omega) (by omega) (by omega)).symm) | (exact (sShr_n (by omega) (by omega) (by omega)).symm) | (exact (sShr_z (by omega) (by omega) (by omega)).symm)
      · refine x_lload_n B hl dX11_shareOf_52 rfl ?_
        refine x_goto (tgt := 57) B dX11_shareOf_53 (by decide) ?_
        refine mo_lret E hr hlk hM hS dX11_shareOf_57 (congrArg lI ?_) rfl trivial
        first | (exact (sShr_0 (by omega)).symm) | (exact (sShr_o (by omega) (by omega) (by omega)).symm) | (exact (sShr_n (by omega) (by omega) (by omega)).symm) | (exact (sShr_z (by omega) (by omega) (by omega)).symm)
  · refine x_lconst B dX11_shareOf_9 ?_
    refine mo_lret E hr hlk hM hS dX11_shareOf_10 (congrArg lI ?_) rfl trivial
    first | (exact (sShr_0 (by omega)).symm) | (exact (sShr_o (by omega) (by omega) (by omega)).symm) | (exact (sShr_n (by omega) (by omega) (by omega)).symm) | (exact (sShr_z (by omega) (by omega) (by omega)).symm)
set_option maxHeartbeats 4000000 in
set_option maxRecDepth 100000 in
theorem m_chargedTo (l : Launch) (D : va_G) (cy : Nat → ClassId) (o : Nat) (ad : Nat → Nat) (σ : MS) {h : Int} (hnt : 0 ≤ σ 45 0 ∧ σ 45 0 ≤ 600) (hb : ∀ t, σ 40 t = 1 → 0 ≤ σ 36 t ∧ σ 36 t < 120) (hm : ∀ j, 0 ≤ σ 22 j ∧ σ 22 j ≤ 20) (hm8 : ∀ j, 0 ≤ σ 18 j ∧ σ 18 j ≤ 8) (hn : 0 ≤ σ 11 0 ∧ σ 11 0 ≤ 60) (hpw : ∀ j, 0 ≤ σ 20 j ∧ σ 20 j ≤ 1000) (hlf : ∀ j, 0 ≤ σ 42 j ∧ σ 42 j ≤ 100000) (hrt : ∀ j, 0 ≤ σ 43 j ∧ σ 43 j ≤ 100000) (hpd : ∀ j, 0 ≤ σ 39 j ∧ σ 39 j ≤ 3000000) (hh : 0 ≤ h ∧ h < 60) : MM l yX11_chargedTo wsX11_chargedTo ({ frames := 5, cells := 0, slots := 0, locals := 121 } : Room) D cy o ad [.int (iI h)] σ (some (.long (lI (sChd σ h)))) (σ) (True) := by
  refine mm_of (cc := cX11_chargedTo) (nL := 5) (ret := (some .long)) (by decide) rfl rfl (fun w h => List.mem_cons_of_mem _ (List.mem_append_right _ h)) (Nat.le_of_ble_eq_true rfl) ⟨rfl, rfl⟩ ?_
  intro p e s m args below meth c ls E hr hlk hM hS hl
  have B := E.1
  have hml := E.2.1
  have hown := E.2.2.1
  have hts0 := E.2.2.2.1
  have hts := E.2.2.2.1
  have hw := hM.2.2.2
  have loop : ∀ (n : Nat) (t : Int) (H : Heap) (locs : List Loc) (hM : MP D cy o ad σ H) (hS : va_S (mA o ad) s.heap H locs) (ls : Array Slot), 0 ≤ t → t ≤ σ 45 0 → σ 45 0 - t < n → lv_has ls 5 [(0, .ref o), (1, .int (iI h)), (2, .long (lI (sCt σ h t.toNat))), (4, .int (iI (t)))] → W p l e ({ frames := 5, cells := 0, slots := 0, locals := 121 } : Room) s m args below meth c H locs 0 0 (MQ below (mQ D cy o ad (some (.long (lI (sChd σ h)))) (σ) (True)) args s 0 0 (mA o ad)) (F0 m 10 ls []) := by
    intro n
    induction n with
    | zero => intro t H locs hM hS ls h1 h2 h3; exact absurd h3 (by omega)
    | succ n ih =>
      intro t H locs hM hS ls h1 h2 h3 hl
      refine x_iload B hl dX11_chargedTo_10 rfl ?_
      refine x_aload_n B hl dX11_chargedTo_12 rfl ?_
      refine mo_gets E hM 45 rfl (hts (.fieldLink RX11 145 "BinRoundsModel" "tips" "I") (by decide +kernel)) rfl dX11_chargedTo_13 rfl (fun r_13 => ?_)
      refine x_icmp_ge (tgt := 35) B dX11_chargedTo_16 (by decide) (by omega) (by omega) (fun c_16 => ?_) (fun c_16 => ?_)
      · refine x_lload_n B hl dX11_chargedTo_35 rfl ?_
        exact mo_lret E hr hlk hM hS dX11_chargedTo_36 (by rw [show t = σ 45 0 by omega]; rfl) rfl trivial
      · refine x_lload_n B hl dX11_chargedTo_19 rfl ?_
        refine x_aload_n B hl dX11_chargedTo_20 rfl ?_
        refine x_iload B hl dX11_chargedTo_21 rfl ?_
        refine x_iload_n B hl dX11_chargedTo_23 rfl ?_
        refine mo_call E hM hS hl (m_shareOf l D cy o ad _ (by omega) (hb _) hm hm8 hn hpw hlf hrt hpd hh) (cwV 2 hts0 gX11_chargedTo_X11_shareOf rfl rfl rfl (by decide +kernel) ⟨Nat.le_of_ble_eq_true rfl, Nat.le_of_ble_eq_true rfl⟩) rfl rfl (Nat.le_of_ble_eq_true rfl) dX11_chargedTo_24 ⟨Nat.zero_le _, Nat.zero_le _⟩ (fun H locs q_24 hM hS => ?_)
        refine x_ladd B dX11_chargedTo_27 ?_
        refine x_lstore_n B hl dX11_chargedTo_28 (by decide) (fun ls hl => ?_)
        refine x_iinc B hl dX11_chargedTo_29 rfl (by decide) (fun ls hl => ?_)
        refine x_goto (tgt := 10) B dX11_chargedTo_32 (by decide) ?_
        exact ih (t + 1) _ _ hM hS ls (by omega) (by omega) (by omega) (lv_key hl [(0, .ref o), (1, .int (iI h)), (2, .long (lI (sCt σ h (t + 1).toNat))), (4, .int (iI (t + 1)))] (by rw [sCt_s (by omega)]; rfl))
  refine x_aload_n B hl dX11_chargedTo_0 rfl ?_
  refine mo_geta E hM 8 2 rfl (hts (.fieldLink RX11 26 "BinRoundsModel" "bandCost" "[J") (by decide +kernel)) rfl dX11_chargedTo_1 ?_
  refine x_iload_n B hl dX11_chargedTo_4 rfl ?_
  refine mo_lld (k := 8) E hM rfl (by have h9 : mLn 8 = 60 := rfl; omega) (by decide) dX11_chargedTo_5 rfl (fun r_5 => ?_)
  refine x_lstore_n B hl dX11_chargedTo_6 (by decide) (fun ls hl => ?_)
  refine x_iconst B dX11_chargedTo_7 ?_
  refine x_istore B hl dX11_chargedTo_8 (by decide) (fun ls hl => ?_)
  exact loop 601 0 _ _ hM hS ls (by omega) (by omega) (by omega) (lv_key hl [(0, .ref o), (1, .int (iI h)), (2, .long (lI (sCt σ h (0 : Int).toNat))), (4, .int (iI (0)))] rfl)
