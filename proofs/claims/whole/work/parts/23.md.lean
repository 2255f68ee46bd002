theorem m_houseOfc (l : Launch) (D : va_G) (cy : Nat → ClassId) (o : Nat) (ad : Nat → Nat) (τ σ : MS) {b d : Int} (e1 : τ 16 = σ 16) (e2 : τ 17 = σ 17) (e3 : τ 18 = σ 18) (hb : 0 ≤ b ∧ b < 120) (hd : -2147483648 ≤ d ∧ d < 2147483648) (hm : 0 ≤ σ 18 b ∧ σ 18 b ≤ 8) : MM l yX11_houseOf wsX11_houseOf ({ frames := 0, cells := 0, slots := 0, locals := 0 } : Room) D cy o ad [.int (iI b), .int (iI d)] τ (some (.int (iI (sHouse σ b d)))) τ (-2147483648 ≤ sHouse σ b d ∧ sHouse σ b d < 2147483648) := by
  rw [← sHouse_c e1 e2 e3]
  exact m_houseOf l D cy o ad τ hb hd (by rw [e3]; exact hm)
set_option maxHeartbeats 4000000 in
set_option maxRecDepth 100000 in
theorem m_charges (l : Launch) (D : va_G) (cy : Nat → ClassId) (o : Nat) (ad : Nat → Nat) (σ : MS) {t : Int} (ht : 0 ≤ t ∧ t < 600) (hb : 0 ≤ σ 36 t ∧ σ 36 t < 120) (hk : 0 ≤ σ 12 (σ 36 t) ∧ σ 12 (σ 36 t) ≤ 4) (hm8 : 0 ≤ σ 18 (σ 36 t) ∧ σ 18 (σ 36 t) ≤ 8) (hmh : ∀ j, 0 ≤ σ 16 j ∧ σ 16 j < 60) (hwr : ∀ j, 0 ≤ σ 15 j ∧ σ 15 j ≤ 1000000000) : MM l yX11_charges wsX11_charges ({ frames := 1, cells := 0, slots := 0, locals := 24 } : Room) D cy o ad [.int (iI t)] σ (none) (sCh σ t) (True) := by
  refine mm_of (cc := cX11_charges) (nL := 6) (ret := none) (by decide) rfl rfl (fun w h => List.mem_cons_of_mem _ (List.mem_append_right _ h)) (Nat.le_of_ble_eq_true rfl) ⟨rfl, rfl⟩ ?_
  intro p e s m args below meth c ls E hr hlk hM hS hl
  have B := E.1
  have hml := E.2.1
  have hown := E.2.2.1
  have hts0 := E.2.2.2.1
  have hts := E.2.2.2.1
  have hw := hM.2.2.2
  refine x_aload_n B hl dX11_charges_0 rfl ?_
  refine mo_geta E hM 36 0 rfl (hts (.fieldLink RX11 96 "BinRoundsModel" "binOf" "[I") (by decide +kernel)) rfl dX11_charges_1 ?_
  refine x_iload_n B hl dX11_charges_4 rfl ?_
  refine mo_ld (k := 36) E hM rfl (by have h9 : mLn 36 = 600 := rfl; omega) (by decide) dX11_charges_5 rfl (fun r_5 => ?_)
  refine x_istore_n B hl dX11_charges_6 (by decide) (fun ls hl => ?_)
  refine x_aload_n B hl dX11_charges_7 rfl ?_
  refine mo_geta E hM 41 1 rfl (hts (.fieldLink RX11 111 "BinRoundsModel" "toldWrong" "[Z") (by decide +kernel)) rfl dX11_charges_8 ?_
  refine x_iload_n B hl dX11_charges_11 rfl ?_
  refine mo_zld (k := 41) E hM rfl (by have h9 : mLn 41 = 600 := rfl; omega) (by decide) dX11_charges_12 rfl (fun r_12 => ?_)
  refine x_if_eq (tgt := 26) B dX11_charges_13 (by decide) (by omega) (fun c_13 => ?_) (fun c_13 => ?_)
  · refine x_aload_n B hl dX11_charges_26 rfl ?_
    refine mo_geta E hM 41 1 rfl (hts (.fieldLink RX11 111 "BinRoundsModel" "toldWrong" "[Z") (by decide +kernel)) rfl dX11_charges_27 ?_
    refine x_iload_n B hl dX11_charges_30 rfl ?_
    refine mo_zld (k := 41) E hM rfl (by have h9 : mLn 41 = 600 := rfl; omega) (by decide) dX11_charges_31 rfl (fun r_31 => ?_)
    refine x_if_eq (tgt := 49) B dX11_charges_32 (by decide) (by omega) (fun c_32 => ?_) (fun c_32 => ?_)
    · refine x_iconst B dX11_charges_49 ?_
      refine x_istore_n B hl dX11_charges_50 (by decide) (fun ls hl => ?_)
      refine x_aload_n B hl dX11_charges_51 rfl ?_
      refine mo_geta E hM 12 0 rfl (hts (.fieldLink RX11 36 "BinRoundsModel" "kind" "[I") (by decide +kernel)) rfl dX11_charges_52 ?_
      refine x_iload_n B hl dX11_charges_55 rfl ?_
      refine mo_ld (k := 12) E hM rfl (by have h9 : mLn 12 = 120 := rfl; omega) (by decide) dX11_charges_56 rfl (fun r_56 => ?_)
      refine x_istore B hl dX11_charges_57 (by decide) (fun ls hl => ?_)
      refine x_iload B hl dX11_charges_59 rfl ?_
      refine x_iconst B dX11_charges_61 ?_
      refine x_icmp_ne (tgt := 110) B dX11_charges_62 (by decide) (by omega) (by omega) (fun c_62 => ?_) (fun c_62 => ?_)
      · refine x_iload_n B hl dX11_charges_110 rfl ?_
        refine x_if_eq_t (tgt := 120) B dX11_charges_111 (by decide) (by decide) ?_
        refine x_iload B hl dX11_charges_120 rfl ?_
        refine x_iconst B dX11_charges_122 ?_
        refine x_icmp_ne (tgt := 129) B dX11_charges_123 (by decide) (by omega) (by omega) (fun c_123 => ?_) (fun c_123 => ?_)
        · refine x_aload_n B hl dX11_charges_129 rfl ?_
          refine mo_geta E hM 42 0 rfl (hts (.fieldLink RX11 114 "BinRoundsModel" "lift" "[I") (by decide +kernel)) rfl dX11_charges_130 ?_
          refine x_iload_n B hl dX11_charges_133 rfl ?_
          refine x_iload B hl dX11_charges_134 rfl ?_
          refine x_if_ge (tgt := 143) B dX11_charges_136 (by decide) (by omega) (fun c_136 => ?_) (fun c_136 => ?_)
          · refine x_aload_n B hl dX11_charges_143 rfl ?_
            refine mo_geta E hM 28 0 rfl (hts (.fieldLink RX11 78 "BinRoundsModel" "lifts" "[I") (by decide +kernel)) rfl dX11_charges_144 ?_
            refine x_iload B hl dX11_charges_147 rfl ?_
            refine mo_ld (k := 28) E hM rfl (by have h9 : mLn 28 = 5 := rfl; omega) (by decide) dX11_charges_149 rfl (fun r_149 => ?_)
            refine mo_st (k := 42) E hM hS rfl (by have h9 : mLn 42 = 600 := rfl; omega) (by decide) (by omega) dX11_charges_150 (fun H locs hM hS => ?_)
            refine x_aload_n B hl dX11_charges_151 rfl ?_
            refine mo_geta E hM 43 0 rfl (hts (.fieldLink RX11 117 "BinRoundsModel" "rate" "[I") (by decide +kernel)) rfl dX11_charges_152 ?_
            refine x_iload_n B hl dX11_charges_155 rfl ?_
            refine x_iload B hl dX11_charges_156 rfl ?_
            refine x_if_ge (tgt := 165) B dX11_charges_158 (by decide) (by omega) (fun c_158 => ?_) (fun c_158 => ?_)
            · refine x_aload_n B hl dX11_charges_165 rfl ?_
              refine mo_geta E hM 29 0 rfl (hts (.fieldLink RX11 81 "BinRoundsModel" "rates" "[I") (by decide +kernel)) rfl dX11_charges_166 ?_
              refine x_iload B hl dX11_charges_169 rfl ?_
              refine mo_ld (k := 29) E hM rfl (by have h9 : mLn 29 = 5 := rfl; omega) (by decide) dX11_charges_171 (up_ne (by decide) rfl) (fun r_171 => ?_)
              refine mo_st (k := 43) E hM hS rfl (by have h9 : mLn 43 = 600 := rfl; omega) (by decide) (by omega) dX11_charges_172 (fun H locs hM hS => ?_)
              refine x_aload_n B hl dX11_charges_173 rfl ?_
              refine mo_geta E hM 40 1 rfl (hts (.fieldLink RX11 108 "BinRoundsModel" "isCharged" "[Z") (by decide +kernel)) rfl dX11_charges_174 ?_
              refine x_iload_n B hl dX11_charges_177 rfl ?_
              refine x_iconst B dX11_charges_178 ?_
              refine mo_zst (k := 40) E hM hS rfl (by have h9 : mLn 40 = 600 := rfl; omega) (by decide) (by omega) dX11_charges_179 (fun H locs hM hS => ?_)
              refine mo_vret E hr hlk hM hS dX11_charges_180 ?_ trivial
              first | (exfalso; omega) | (rw [sCh_w1 (by omega)]; first | (exact (sChB_a (H := sHouse σ (σ 36 t) (σ 32 t)) sHouse_15 (by show σ 12 (σ 36 t) = 4; omega) (by omega) (by show 0 < σ 7 _; omega)).symm) | (exact (sChB_b (H := sHouse σ (σ 36 t) (σ 32 t)) sHouse_15 (by show σ 12 (σ 36 t) = 4; omega) (by show ¬ (0 ≤ sHouse σ (σ 36 t) (σ 32 t) ∧ 0 < σ 7 (sHouse σ (σ 36 t) (σ 32 t))); omega)).symm) | (exact (sChB_c (by show ¬ σ 12 (σ 36 t) = 4; omega) (if_pos (by omega))).symm) | (exact (sChB_d (by show σ 12 (σ 36 t) = 2; omega) (by rw [if_neg (by omega)]; decide)).symm) | (exact (sChB_e (by show ¬ σ 12 (σ 36 t) = 4; omega) (by show ¬ σ 12 (σ 36 t) = 2; omega) (by rw [if_neg (by omega)]; decide) (by show 0 ≤ σ 12 (σ 36 t); omega)).symm)) | (rw [sCh_w0 (by omega)]; first | (exact (sChB_a rfl (by omega) (by omega) (by omega)).symm) | (exact (sChB_b rfl (by omega) (by omega)).symm) | (exact (sChB_d (by omega) (by decide)).symm) | (exact (sChB_e (by omega) (by omega) (by decide) (by omega)).symm))
            · refine x_iconst B dX11_charges_161 ?_
              refine x_goto (tgt := 172) B dX11_charges_162 (by decide) ?_
              refine mo_st (k := 43) E hM hS rfl (by have h9 : mLn 43 = 600 := rfl; omega) (by decide) (by omega) dX11_charges_172 (fun H locs hM hS => ?_)
              refine x_aload_n B hl dX11_charges_173 rfl ?_
              refine mo_geta E hM 40 1 rfl (hts (.fieldLink RX11 108 "BinRoundsModel" "isCharged" "[Z") (by decide +kernel)) rfl dX11_charges_174 ?_
              refine x_iload_n B hl dX11_charges_177 rfl ?_
              refine x_iconst B dX11_charges_178 ?_
              refine mo_zst (k := 40) E hM hS rfl (by have h9 : mLn 40 = 600 := rfl; omega) (by decide) (by omega) dX11_charges_179 (fun H locs hM hS => ?_)
              refine mo_vret E hr hlk hM hS dX11_charges_180 ?_ trivial
              first | (exfalso; omega) | (rw [sCh_w1 (by omega)]; first | (exact (sChB_a (H := sHouse σ (σ 36 t) (σ 32 t)) sHouse_15 (by show σ 12 (σ 36 t) = 4; omega) (by omega) (by show 0 < σ 7 _; omega)).symm) | (exact (sChB_b (H := sHouse σ (σ 36 t) (σ 32 t)) sHouse_15 (by show σ 12 (σ 36 t) = 4; omega) (by show ¬ (0 ≤ sHouse σ (σ 36 t) (σ 32 t) ∧ 0 < σ 7 (sHouse σ (σ 36 t) (σ 32 t))); omega)).symm) | (exact (sChB_c (by show ¬ σ 12 (σ 36 t) = 4; omega) (if_pos (by omega))).symm) | (exact (sChB_d (by show σ 12 (σ 36 t) = 2; omega) (by rw [if_neg (by omega)]; decide)).symm) | (exact (sChB_e (by show ¬ σ 12 (σ 36 t) = 4; omega) (by show ¬ σ 12 (σ 36 t) = 2; omega) (by rw [if_neg (by omega)]; decide) (by show 0 ≤ σ 12 (σ 36 t); omega)).symm)) | (rw [sCh_w0 (by omega)]; first | (exact (sChB_a rfl (by omega) (by omega) (by omega)).symm) | (exact (sChB_b rfl (by omega) (by omega)).symm) | (exact (sChB_d (by omega) (by decide)).symm) | (exact (sChB_e (by omega) (by omega) (by decide) (by omega)).symm))
          · refine x_iconst B dX11_charges_139 ?_
            refine x_goto (tgt := 150) B dX11_charges_140 (by decide) ?_
            refine mo_st (k := 42) E hM hS rfl (by have h9 : mLn 42 = 600 := rfl; omega) (by decide) (by omega) dX11_charges_150 (fun H locs hM hS => ?_)
            refine x_aload_n B hl dX11_charges_151 rfl ?_
            refine mo_geta E hM 43 0 rfl (hts (.fieldLink RX11 117 "BinRoundsModel" "rate" "[I") (by decide +kernel)) rfl dX11_charges_152 ?_
            refine x_iload_n B hl dX11_charges_155 rfl ?_
            refine x_iload B hl dX11_charges_156 rfl ?_
            refine x_if_ge (tgt := 165) B dX11_charges_158 (by decide) (by omega) (fun c_158 => ?_) (fun c_158 => ?_)
            · refine x_aload_n B hl dX11_charges_165 rfl ?_
              refine mo_geta E hM 29 0 rfl (hts (.fieldLink RX11 81 "BinRoundsModel" "rates" "[I") (by decide +kernel)) rfl dX11_charges_166 ?_
              refine x_iload B hl dX11_charges_169 rfl ?_
              refine mo_ld (k := 29) E hM rfl (by have h9 : mLn 29 = 5 := rfl; omega) (by decide) dX11_charges_171 (up_ne (by decide) rfl) (fun r_171 => ?_)
              refine mo_st (k := 43) E hM hS rfl (by have h9 : mLn 43 = 600 := rfl; omega) (by decide) (by omega) dX11_charges_172 (fun H locs hM hS => ?_)
              refine x_aload_n B hl dX11_charges_173 rfl ?_
              refine mo_geta E hM 40 1 rfl (hts (.fieldLink RX11 108 "BinRoundsModel" "isCharged" "[Z") (by decide +kernel)) rfl dX11_charges_174 ?_
              refine x_iload_n B hl dX11_charges_177 rfl ?_
              refine x_iconst B dX11_charges_178 ?_
              refine mo_zst (k := 40) E hM hS rfl (by have h9 : mLn 40 = 600 := rfl; omega) (by decide) (by omega) dX11_charges_179 (fun H locs hM hS => ?_)
              refine mo_vret E hr hlk hM hS dX11_charges_180 ?_ trivial
              first | (exfalso; omega) | (rw [sCh_w1 (by omega)]; first | (exact (sChB_a (H := sHouse σ (σ 36 t) (σ 32 t)) sHouse_15 (by show σ 12 (σ 36 t) = 4; omega) (by omega) (by show 0 < σ 7 _; omega)).symm) | (exact (sChB_b (H := sHouse σ (σ 36 t) (σ 32 t)) sHouse_15 (by show σ 12 (σ 36 t) = 4; omega) (by show ¬ (0 ≤ sHouse σ (σ 36 t) (σ 32 t) ∧ 0 < σ 7 (sHouse σ (σ 36 t) (σ 32 t))); omega)).symm) | (exact (sChB_c (by show ¬ σ 12 (σ 36 t) = 4; omega) (if_pos (by omega))).symm) | (exact (sChB_d (by show σ 12 (σ 36 t) = 2; omega) (by rw [if_neg (by omega)]; decide)).symm) | (exact (sChB_e (by show ¬ σ 12 (σ 36 t) = 4; omega) (by show ¬ σ 12 (σ 36 t) = 2; omega) (by rw [if_neg (by omega)]; decide) (by show 0 ≤ σ 12 (σ 36 t); omega)).symm)) | (rw [sCh_w0 (by omega)]; first | (exact (sChB_a rfl (by omega) (by omega) (by omega)).symm) | (exact (sChB_b rfl (by omega) (by omega)).symm) | (exact (sChB_d (by omega) (by decide)).symm) | (exact (sChB_e (by omega) (by omega) (by decide) (by omega)).symm))
            · refine x_iconst B dX11_charges_161 ?_
              refine x_goto (tgt := 172) B dX11_charges_162 (by decide) ?_
              refine mo_st (k := 43) E hM hS rfl (by have h9 : mLn 43 = 600 := rfl; omega) (by decide) (by omega) dX11_charges_172 (fun H locs hM hS => ?_)
              refine x_aload_n B hl dX11_charges_173 rfl ?_
              refine mo_geta E hM 40 1 rfl (hts (.fieldLink RX11 108 "BinRoundsModel" "isCharged" "[Z") (by decide +kernel)) rfl dX11_charges_174 ?_
              refine x_iload_n B hl dX11_charges_177 rfl ?_
              refine x_iconst B dX11_charges_178 ?_
              refine mo_zst (k := 40) E hM hS rfl (by have h9 : mLn 40 = 600 := rfl; omega) (by decide) (by omega) dX11_charges_179 (fun H locs hM hS => ?_)
              refine mo_vret E hr hlk hM hS dX11_charges_180 ?_ trivial
              first | (exfalso; omega) | (rw [sCh_w1 (by omega)]; first | (exact (sChB_a (H := sHouse σ (σ 36 t) (σ 32 t)) sHouse_15 (by show σ 12 (σ 36 t) = 4; omega) (by omega) (by show 0 < σ 7 _; omega)).symm) | (exact (sChB_b (H := sHouse σ (σ 36 t) (σ 32 t)) sHouse_15 (by show σ 12 (σ 36 t) = 4; omega) (by show ¬ (0 ≤ sHouse σ (σ 36 t) (σ 32 t) ∧ 0 < σ 7 (sHouse σ (σ 36 t) (σ 32 t))); omega)).symm) | (exact (sChB_c (by show ¬ σ 12 (σ 36 t) = 4; omega) (if_pos (by omega))).symm) | (exact (sChB_d (by show σ 12 (σ 36 t) = 2; omega) (by rw [if_neg (by omega)]; decide)).symm) | (exact (sChB_e (by show ¬ σ 12 (σ 36 t) = 4; omega) (by show ¬ σ 12 (σ 36 t) = 2; omega) (by rw [if_neg (by omega)]; decide) (by show 0 ≤ σ 12 (σ 36 t); omega)).symm)) | (rw [sCh_w0 (by omega)]; first | (exact (sChB_a rfl (by omega) (by omega) (by omega)).symm) | (exact (sChB_b rfl (by omega) (by omega)).symm) | (exact (sChB_d (by omega) (by decide)).symm) | (exact (sChB_e (by omega) (by omega) (by decide) (by omega)).symm))
        · refine x_iconst B dX11_charges_126 ?_
          refine x_istore B hl dX11_charges_127 (by decide) (fun ls hl => ?_)
          refine x_aload_n B hl dX11_charges_129 rfl ?_
          refine mo_geta E hM 42 0 rfl (hts (.fieldLink RX11 114 "BinRoundsModel" "lift" "[I") (by decide +kernel)) rfl dX11_charges_130 ?_
          refine x_iload_n B hl dX11_charges_133 rfl ?_
          refine x_iload B hl dX11_charges_134 rfl ?_
          refine x_if_ge_f (tgt := 143) B dX11_charges_136 (by decide) (by decide) ?_
          refine x_iconst B dX11_charges_139 ?_
          refine x_goto (tgt := 150) B dX11_charges_140 (by decide) ?_
          refine mo_st (k := 42) E hM hS rfl (by have h9 : mLn 42 = 600 := rfl; omega) (by decide) (by omega) dX11_charges_150 (fun H locs hM hS => ?_)
          refine x_aload_n B hl dX11_charges_151 rfl ?_
          refine mo_geta E hM 43 0 rfl (hts (.fieldLink RX11 117 "BinRoundsModel" "rate" "[I") (by decide +kernel)) rfl dX11_charges_152 ?_
          refine x_iload_n B hl dX11_charges_155 rfl ?_
          refine x_iload B hl dX11_charges_156 rfl ?_
          refine x_if_ge_f (tgt := 165) B dX11_charges_158 (by decide) (by decide) ?_
          refine x_iconst B dX11_charges_161 ?_
          refine x_goto (tgt := 172) B dX11_charges_162 (by decide) ?_
          refine mo_st (k := 43) E hM hS rfl (by have h9 : mLn 43 = 600 := rfl; omega) (by decide) (by omega) dX11_charges_172 (fun H locs hM hS => ?_)
          refine x_aload_n B hl dX11_charges_173 rfl ?_
          refine mo_geta E hM 40 1 rfl (hts (.fieldLink RX11 108 "BinRoundsModel" "isCharged" "[Z") (by decide +kernel)) rfl dX11_charges_174 ?_
          refine x_iload_n B hl dX11_charges_177 rfl ?_
          refine x_iconst B dX11_charges_178 ?_
          refine mo_zst (k := 40) E hM hS rfl (by have h9 : mLn 40 = 600 := rfl; omega) (by decide) (by omega) dX11_charges_179 (fun H locs hM hS => ?_)
          refine mo_vret E hr hlk hM hS dX11_charges_180 ?_ trivial
          first | (exfalso; omega) | (rw [sCh_w1 (by omega)]; first | (exact (sChB_a (H := sHouse σ (σ 36 t) (σ 32 t)) sHouse_15 (by show σ 12 (σ 36 t) = 4; omega) (by omega) (by show 0 < σ 7 _; omega)).symm) | (exact (sChB_b (H := sHouse σ (σ 36 t) (σ 32 t)) sHouse_15 (by show σ 12 (σ 36 t) = 4; omega) (by show ¬ (0 ≤ sHouse σ (σ 36 t) (σ 32 t) ∧ 0 < σ 7 (sHouse σ (σ 36 t) (σ 32 t))); omega)).symm) | (exact (sChB_c (by show ¬ σ 12 (σ 36 t) = 4; omega) (if_pos (by omega))).symm) | (exact (sChB_d (by show σ 12 (σ 36 t) = 2; omega) (by rw [if_neg (by omega)]; decide)).symm) | (exact (sChB_e (by show ¬ σ 12 (σ 36 t) = 4; omega) (by show ¬ σ 12 (σ 36 t) = 2; omega) (by rw [if_neg (by omega)]; decide) (by show 0 ≤ σ 12 (σ 36 t); omega)).symm)) | (rw [sCh_w0 (by omega)]; first | (exact (sChB_a rfl (by omega) (by omega) (by omega)).symm) | (exact (sChB_b rfl (by omega) (by omega)).symm) | (exact (sChB_d (by omega) (by decide)).symm) | (exact (sChB_e (by omega) (by omega) (by decide) (by omega)).symm))
      · refine x_aload_n B hl dX11_charges_65 rfl ?_
        refine x_iload_n B hl dX11_charges_66 rfl ?_
        refine x_aload_n B hl dX11_charges_67 rfl ?_
        refine mo_geta E hM 32 0 rfl (hts (.fieldLink RX11 84 "BinRoundsModel" "dayOf" "[I") (by decide +kernel)) rfl dX11_charges_68 ?_
        refine x_iload_n B hl dX11_charges_71 rfl ?_
        refine mo_ld (k := 32) E hM rfl (by have h9 : mLn 32 = 600 := rfl; omega) (by decide) dX11_charges_72 rfl (fun r_72 => ?_)
        refine mo_call E hM hS hl (m_houseOfc l D cy o ad _ σ rfl rfl rfl hb (by omega) hm8) (cwV 2 hts0 gX11_charges_X11_houseOf rfl rfl rfl (by decide +kernel) ⟨Nat.le_of_ble_eq_true rfl, Nat.le_of_ble_eq_true rfl⟩) rfl rfl (Nat.le_of_ble_eq_true rfl) dX11_charges_73 ⟨Nat.zero_le _, Nat.zero_le _⟩ (fun H locs q_73 hM hS => ?_)
        have hh9 := sHouse_p hmh (σ 36 t) (σ 32 t)
        refine x_istore B hl dX11_charges_76 (by decide) (fun ls hl => ?_)
        refine x_iload B hl dX11_charges_78 rfl ?_
        refine x_if_lt (tgt := 107) B dX11_charges_80 (by decide) (by omega) (fun c_80 => ?_) (fun c_80 => ?_)
        · refine x_goto (tgt := 129) B dX11_charges_107 (by decide) ?_
          refine x_aload_n B hl dX11_charges_129 rfl ?_
          refine mo_geta E hM 42 0 rfl (hts (.fieldLink RX11 114 "BinRoundsModel" "lift" "[I") (by decide +kernel)) rfl dX11_charges_130 ?_
          refine x_iload_n B hl dX11_charges_133 rfl ?_
          refine x_iload B hl dX11_charges_134 rfl ?_
          refine x_if_ge (tgt := 143) B dX11_charges_136 (by decide) (by omega) (fun c_136 => ?_) (fun c_136 => ?_)
          · refine x_aload_n B hl dX11_charges_143 rfl ?_
            refine mo_geta E hM 28 0 rfl (hts (.fieldLink RX11 78 "BinRoundsModel" "lifts" "[I") (by decide +kernel)) rfl dX11_charges_144 ?_
            refine x_iload B hl dX11_charges_147 rfl ?_
            refine mo_ld (k := 28) E hM rfl (by have h9 : mLn 28 = 5 := rfl; omega) (by decide) dX11_charges_149 rfl (fun r_149 => ?_)
            refine mo_st (k := 42) E hM hS rfl (by have h9 : mLn 42 = 600 := rfl; omega) (by decide) (by omega) dX11_charges_150 (fun H locs hM hS => ?_)
            refine x_aload_n B hl dX11_charges_151 rfl ?_
            refine mo_geta E hM 43 0 rfl (hts (.fieldLink RX11 117 "BinRoundsModel" "rate" "[I") (by decide +kernel)) rfl dX11_charges_152 ?_
            refine x_iload_n B hl dX11_charges_155 rfl ?_
            refine x_iload B hl dX11_charges_156 rfl ?_
            refine x_if_ge (tgt := 165) B dX11_charges_158 (by decide) (by omega) (fun c_158 => ?_) (fun c_158 => ?_)
            · refine x_aload_n B hl dX11_charges_165 rfl ?_
              refine mo_geta E hM 29 0 rfl (hts (.fieldLink RX11 81 "BinRoundsModel" "rates" "[I") (by decide +kernel)) rfl dX11_charges_166 ?_
              refine x_iload B hl dX11_charges_169 rfl ?_
              refine mo_ld (k := 29) E hM rfl (by have h9 : mLn 29 = 5 := rfl; omega) (by decide) dX11_charges_171 (up_ne (by decide) rfl) (fun r_171 => ?_)
              refine mo_st (k := 43) E hM hS rfl (by have h9 : mLn 43 = 600 := rfl; omega) (by decide) (by omega) dX11_charges_172 (fun H locs hM hS => ?_)
              refine x_aload_n B hl dX11_charges_173 rfl ?_
              refine mo_geta E hM 40 1 rfl (hts (.fieldLink RX11 108 "BinRoundsModel" "isCharged" "[Z") (by decide +kernel)) rfl dX11_charges_174 ?_
              refine x_iload_n B hl dX11_charges_177 rfl ?_
              refine x_iconst B dX11_charges_178 ?_
              refine mo_zst (k := 40) E hM hS rfl (by have h9 : mLn 40 = 600 := rfl; omega) (by decide) (by omega) dX11_charges_179 (fun H locs hM hS => ?_)
              refine mo_vret E hr hlk hM hS dX11_charges_180 ?_ trivial
              first | (exfalso; omega) | (rw [sCh_w1 (by omega)]; first | (exact (sChB_a (H := sHouse σ (σ 36 t) (σ 32 t)) sHouse_15 (by show σ 12 (σ 36 t) = 4; omega) (by omega) (by show 0 < σ 7 _; omega)).symm) | (exact (sChB_b (H := sHouse σ (σ 36 t) (σ 32 t)) sHouse_15 (by show σ 12 (σ 36 t) = 4; omega) (by show ¬ (0 ≤ sHouse σ (σ 36 t) (σ 32 t) ∧ 0 < σ 7 (sHouse σ (σ 36 t) (σ 32 t))); omega)).symm) | (exact (sChB_c (by show ¬ σ 12 (σ 36 t) = 4; omega) (if_pos (by omega))).symm) | (exact (sChB_d (by show σ 12 (σ 36 t) = 2; omega) (by rw [if_neg (by omega)]; decide)).symm) | (exact (sChB_e (by show ¬ σ 12 (σ 36 t) = 4; omega) (by show ¬ σ 12 (σ 36 t) = 2; omega) (by rw [if_neg (by omega)]; decide) (by show 0 ≤ σ 12 (σ 36 t); omega)).symm)) | (rw [sCh_w0 (by omega)]; first | (exact (sChB_a rfl (by omega) (by omega) (by omega)).symm) | (exact (sChB_b rfl (by omega) (by omega)).symm) | (exact (sChB_d (by omega) (by decide)).symm) | (exact (sChB_e (by omega) (by omega) (by decide) (by omega)).symm))
            · refine x_iconst B dX11_charges_161 ?_
              refine x_goto (tgt := 172) B dX11_charges_162 (by decide) ?_
              refine mo_st (k := 43) E hM hS rfl (by have h9 : mLn 43 = 600 := rfl; omega) (by decide) (by omega) dX11_charges_172 (fun H locs hM hS => ?_)
              refine x_aload_n B hl dX11_charges_173 rfl ?_
              refine mo_geta E hM 40 1 rfl (hts (.fieldLink RX11 108 "BinRoundsModel" "isCharged" "[Z") (by decide +kernel)) rfl dX11_charges_174 ?_
              refine x_iload_n B hl dX11_charges_177 rfl ?_
              refine x_iconst B dX11_charges_178 ?_
              refine mo_zst (k := 40) E hM hS rfl (by have h9 : mLn 40 = 600 := rfl; omega) (by decide) (by omega) dX11_charges_179 (fun H locs hM hS => ?_)
              refine mo_vret E hr hlk hM hS dX11_charges_180 ?_ trivial
              first | (exfalso; omega) | (rw [sCh_w1 (by omega)]; first | (exact (sChB_a (H := sHouse σ (σ 36 t) (σ 32 t)) sHouse_15 (by show σ 12 (σ 36 t) = 4; omega) (by omega) (by show 0 < σ 7 _; omega)).symm) | (exact (sChB_b (H := sHouse σ (σ 36 t) (σ 32 t)) sHouse_15 (by show σ 12 (σ 36 t) = 4; omega) (by show ¬ (0 ≤ sHouse σ (σ 36 t) (σ 32 t) ∧ 0 < σ 7 (sHouse σ (σ 36 t) (σ 32 t))); omega)).symm) | (exact (sChB_c (by show ¬ σ 12 (σ 36 t) = 4; omega) (if_pos (by omega))).symm) | (exact (sChB_d (by show σ 12 (σ 36 t) = 2; omega) (by rw [if_neg (by omega)]; decide)).symm) | (exact (sChB_e (by show ¬ σ 12 (σ 36 t) = 4; omega) (by show ¬ σ 12 (σ 36 t) = 2; omega) (by rw [if_neg (by omega)]; decide) (by show 0 ≤ σ 12 (σ 36 t); omega)).symm)) | (rw [sCh_w0 (by omega)]; first | (exact (sChB_a rfl (by omega) (by omega) (by omega)).symm) | (exact (sChB_b rfl (by omega) (by omega)).symm) | (exact (sChB_d (by omega) (by decide)).symm) | (exact (sChB_e (by omega) (by omega) (by decide) (by omega)).symm))
          · refine x_iconst B dX11_charges_139 ?_
            refine x_goto (tgt := 150) B dX11_charges_140 (by decide) ?_
            refine mo_st (k := 42) E hM hS rfl (by have h9 : mLn 42 = 600 := rfl; omega) (by decide) (by omega) dX11_charges_150 (fun H locs hM hS => ?_)
            refine x_aload_n B hl dX11_charges_151 rfl ?_
            refine mo_geta E hM 43 0 rfl (hts (.fieldLink RX11 117 "BinRoundsModel" "rate" "[I") (by decide +kernel)) rfl dX11_charges_152 ?_
            refine x_iload_n B hl dX11_charges_155 rfl ?_
            refine x_iload B hl dX11_charges_156 rfl ?_
            refine x_if_ge (tgt := 165) B dX11_charges_158 (by decide) (by omega) (fun c_158 => ?_) (fun c_158 => ?_)
            · refine x_aload_n B hl dX11_charges_165 rfl ?_
              refine mo_geta E hM 29 0 rfl (hts (.fieldLink RX11 81 "BinRoundsModel" "rates" "[I") (by decide +kernel)) rfl dX11_charges_166 ?_
              refine x_iload B hl dX11_charges_169 rfl ?_
              refine mo_ld (k := 29) E hM rfl (by have h9 : mLn 29 = 5 := rfl; omega) (by decide) dX11_charges_171 (up_ne (by decide) rfl) (fun r_171 => ?_)
              refine mo_st (k := 43) E hM hS rfl (by have h9 : mLn 43 = 600 := rfl; omega) (by decide) (by omega) dX11_charges_172 (fun H locs hM hS => ?_)
              refine x_aload_n B hl dX11_charges_173 rfl ?_
              refine mo_geta E hM 40 1 rfl (hts (.fieldLink RX11 108 "BinRoundsModel" "isCharged" "[Z") (by decide +kernel)) rfl dX11_charges_174 ?_
              refine x_iload_n B hl dX11_charges_177 rfl ?_
              refine x_iconst B dX11_charges_178 ?_
              refine mo_zst (k := 40) E hM hS rfl (by have h9 : mLn 40 = 600 := rfl; omega) (by decide) (by omega) dX11_charges_179 (fun H locs hM hS => ?_)
              refine mo_vret E hr hlk hM hS dX11_charges_180 ?_ trivial
              first | (exfalso; omega) | (rw [sCh_w1 (by omega)]; first | (exact (sChB_a (H := sHouse σ (σ 36 t) (σ 32 t)) sHouse_15 (by show σ 12 (σ 36 t) = 4; omega) (by omega) (by show 0 < σ 7 _; omega)).symm) | (exact (sChB_b (H := sHouse σ (σ 36 t) (σ 32 t)) sHouse_15 (by show σ 12 (σ 36 t) = 4; omega) (by show ¬ (0 ≤ sHouse σ (σ 36 t) (σ 32 t) ∧ 0 < σ 7 (sHouse σ (σ 36 t) (σ 32 t))); omega)).symm) | (exact (sChB_c (by show ¬ σ 12 (σ 36 t) = 4; omega) (if_pos (by omega))).symm) | (exact (sChB_d (by show σ 12 (σ 36 t) = 2; omega) (by rw [if_neg (by omega)]; decide)).symm) | (exact (sChB_e (by show ¬ σ 12 (σ 36 t) = 4; omega) (by show ¬ σ 12 (σ 36 t) = 2; omega) (by rw [if_neg (by omega)]; decide) (by show 0 ≤ σ 12 (σ 36 t); omega)).symm)) | (rw [sCh_w0 (by omega)]; first | (exact (sChB_a rfl (by omega) (by omega) (by omega)).symm) | (exact (sChB_b rfl (by omega) (by omega)).symm) | (exact (sChB_d (by omega) (by decide)).symm) | (exact (sChB_e (by omega) (by omega) (by decide) (by omega)).symm))
            · refine x_iconst B dX11_charges_161 ?_
              refine x_goto (tgt := 172) B dX11_charges_162 (by decide) ?_
              refine mo_st (k := 43) E hM hS rfl (by have h9 : mLn 43 = 600 := rfl; omega) (by decide) (by omega) dX11_charges_172 (fun H locs hM hS => ?_)
              refine x_aload_n B hl dX11_charges_173 rfl ?_
              refine mo_geta E hM 40 1 rfl (hts (.fieldLink RX11 108 "BinRoundsModel" "isCharged" "[Z") (by decide +kernel)) rfl dX11_charges_174 ?_
              refine x_iload_n B hl dX11_charges_177 rfl ?_
              refine x_iconst B dX11_charges_178 ?_
              refine mo_zst (k := 40) E hM hS rfl (by have h9 : mLn 40 = 600 := rfl; omega) (by decide) (by omega) dX11_charges_179 (fun H locs hM hS => ?_)
              refine mo_vret E hr hlk hM hS dX11_charges_180 ?_ trivial
              first | (exfalso; omega) | (rw [sCh_w1 (by omega)]; first | (exact (sChB_a (H := sHouse σ (σ 36 t) (σ 32 t)) sHouse_15 (by show σ 12 (σ 36 t) = 4; omega) (by omega) (by show 0 < σ 7 _; omega)).symm) | (exact (sChB_b (H := sHouse σ (σ 36 t) (σ 32 t)) sHouse_15 (by show σ 12 (σ 36 t) = 4; omega) (by show ¬ (0 ≤ sHouse σ (σ 36 t) (σ 32 t) ∧ 0 < σ 7 (sHouse σ (σ 36 t) (σ 32 t))); omega)).symm) | (exact (sChB_c (by show ¬ σ 12 (σ 36 t) = 4; omega) (if_pos (by omega))).symm) | (exact (sChB_d (by show σ 12 (σ 36 t) = 2; omega) (by rw [if_neg (by omega)]; decide)).symm) | (exact (sChB_e (by show ¬ σ 12 (σ 36 t) = 4; omega) (by show ¬ σ 12 (σ 36 t) = 2; omega) (by rw [if_neg (by omega)]; decide) (by show 0 ≤ σ 12 (σ 36 t); omega)).symm)) | (rw [sCh_w0 (by omega)]; first | (exact (sChB_a rfl (by omega) (by omega) (by omega)).symm) | (exact (sChB_b rfl (by omega) (by omega)).symm) | (exact (sChB_d (by omega) (by decide)).symm) | (exact (sChB_e (by omega) (by omega) (by decide) (by omega)).symm))
        · refine x_aload_n B hl dX11_charges_83 rfl ?_
          refine mo_geta E hM 7 0 rfl (hts (.fieldLink RX11 23 "BinRoundsModel" "bands" "[I") (by decide +kernel)) rfl dX11_charges_84 ?_
          refine x_iload B hl dX11_charges_87 rfl ?_
          refine mo_ld (k := 7) E hM rfl (by have h9 : mLn 7 = 60 := rfl; omega) (by decide) dX11_charges_89 rfl (fun r_89 => ?_)
          refine x_if_le (tgt := 107) B dX11_charges_90 (by decide) (by omega) (fun c_90 => ?_) (fun c_90 => ?_)
          · refine x_goto (tgt := 129) B dX11_charges_107 (by decide) ?_
            refine x_aload_n B hl dX11_charges_129 rfl ?_
            refine mo_geta E hM 42 0 rfl (hts (.fieldLink RX11 114 "BinRoundsModel" "lift" "[I") (by decide +kernel)) rfl dX11_charges_130 ?_
            refine x_iload_n B hl dX11_charges_133 rfl ?_
            refine x_iload B hl dX11_charges_134 rfl ?_
            refine x_if_ge (tgt := 143) B dX11_charges_136 (by decide) (by omega) (fun c_136 => ?_) (fun c_136 => ?_)
            · refine x_aload_n B hl dX11_charges_143 rfl ?_
              refine mo_geta E hM 28 0 rfl (hts (.fieldLink RX11 78 "BinRoundsModel" "lifts" "[I") (by decide +kernel)) rfl dX11_charges_144 ?_
              refine x_iload B hl dX11_charges_147 rfl ?_
              refine mo_ld (k := 28) E hM rfl (by have h9 : mLn 28 = 5 := rfl; omega) (by decide) dX11_charges_149 rfl (fun r_149 => ?_)
              refine mo_st (k := 42) E hM hS rfl (by have h9 : mLn 42 = 600 := rfl; omega) (by decide) (by omega) dX11_charges_150 (fun H locs hM hS => ?_)
              refine x_aload_n B hl dX11_charges_151 rfl ?_
              refine mo_geta E hM 43 0 rfl (hts (.fieldLink RX11 117 "BinRoundsModel" "rate" "[I") (by decide +kernel)) rfl dX11_charges_152 ?_
              refine x_iload_n B hl dX11_charges_155 rfl ?_
              refine x_iload B hl dX11_charges_156 rfl ?_
              refine x_if_ge (tgt := 165) B dX11_charges_158 (by decide) (by omega) (fun c_158 => ?_) (fun c_158 => ?_)
              · refine x_aload_n B hl dX11_charges_165 rfl ?_
                refine mo_geta E hM 29 0 rfl (hts (.fieldLink RX11 81 "BinRoundsModel" "rates" "[I") (by decide +kernel)) rfl dX11_charges_166 ?_
                refine x_iload B hl dX11_charges_169 rfl ?_
                refine mo_ld (k := 29) E hM rfl (by have h9 : mLn 29 = 5 := rfl; omega) (by decide) dX11_charges_171 (up_ne (by decide) rfl) (fun r_171 => ?_)
                refine mo_st (k := 43) E hM hS rfl (by have h9 : mLn 43 = 600 := rfl; omega) (by decide) (by omega) dX11_charges_172 (fun H locs hM hS => ?_)
                refine x_aload_n B hl dX11_charges_173 rfl ?_
                refine mo_geta E hM 40 1 rfl (hts (.fieldLink RX11 108 "BinRoundsModel" "isCharged" "[Z") (by decide +kernel)) rfl dX11_charges_174 ?_
                refine x_iload_n B hl dX11_charges_177 rfl ?_
                refine x_iconst B dX11_charges_178 ?_
                refine mo_zst (k := 40) E hM hS rfl (by have h9 : mLn 40 = 600 := rfl; omega) (by decide) (by omega) dX11_charges_179 (fun H locs hM hS => ?_)
                refine mo_vret E hr hlk hM hS dX11_charges_180 ?_ trivial
                first | (exfalso; omega) | (rw [sCh_w1 (by omega)]; first | (exact (sChB_a (H := sHouse σ (σ 36 t) (σ 32 t)) sHouse_15 (by show σ 12 (σ 36 t) = 4; omega) (by omega) (by show 0 < σ 7 _; omega)).symm) | (exact (sChB_b (H := sHouse σ (σ 36 t) (σ 32 t)) sHouse_15 (by show σ 12 (σ 36 t) = 4; omega) (by show ¬ (0 ≤ sHouse σ (σ 36 t) (σ 32 t) ∧ 0 < σ 7 (sHouse σ (σ 36 t) (σ 32 t))); omega)).symm) | (exact (sChB_c (by show ¬ σ 12 (σ 36 t) = 4; omega) (if_pos (by omega))).symm) | (exact (sChB_d (by show σ 12 (σ 36 t) = 2; omega) (by rw [if_neg (by omega)]; decide)).symm) | (exact (sChB_e (by show ¬ σ 12 (σ 36 t) = 4; omega) (by show ¬ σ 12 (σ 36 t) = 2; omega) (by rw [if_neg (by omega)]; decide) (by show 0 ≤ σ 12 (σ 36 t); omega)).symm)) | (rw [sCh_w0 (by omega)]; first | (exact (sChB_a rfl (by omega) (by omega) (by omega)).symm) | (exact (sChB_b rfl (by omega) (by omega)).symm) | (exact (sChB_d (by omega) (by decide)).symm) | (exact (sChB_e (by omega) (by omega) (by decide) (by omega)).symm))
              · refine x_iconst B dX11_charges_161 ?_
                refine x_goto (tgt := 172) B dX11_charges_162 (by decide) ?_
                refine mo_st (k := 43) E hM hS rfl (by have h9 : mLn 43 = 600 := rfl; omega) (by decide) (by omega) dX11_charges_172 (fun H locs hM hS => ?_)
                refine x_aload_n B hl dX11_charges_173 rfl ?_
                refine mo_geta E hM 40 1 rfl (hts (.fieldLink RX11 108 "BinRoundsModel" "isCharged" "[Z") (by decide +kernel)) rfl dX11_charges_174 ?_
                refine x_iload_n B hl dX11_charges_177 rfl ?_
                refine x_iconst B dX11_charges_178 ?_
                refine mo_zst (k := 40) E hM hS rfl (by have h9 : mLn 40 = 600 := rfl; omega) (by decide) (by omega) dX11_charges_179 (fun H locs hM hS => ?_)
                refine mo_vret E hr hlk hM hS dX11_charges_180 ?_ trivial
                first | (exfalso; omega) | (rw [sCh_w1 (by omega)]; first | (exact (sChB_a (H := sHouse σ (σ 36 t) (σ 32 t)) sHouse_15 (by show σ 12 (σ 36 t) = 4; omega) (by omega) (by show 0 < σ 7 _; omega)).symm) | (exact (sChB_b (H := sHouse σ (σ 36 t) (σ 32 t)) sHouse_15 (by show σ 12 (σ 36 t) = 4; omega) (by show ¬ (0 ≤ sHouse σ (σ 36 t) (σ 32 t) ∧ 0 < σ 7 (sHouse σ (σ 36 t) (σ 32 t))); omega)).symm) | (exact (sChB_c (by show ¬ σ 12 (σ 36 t) = 4; omega) (if_pos (by omega))).symm) | (exact (sChB_d (by show σ 12 (σ 36 t) = 2; omega) (by rw [if_neg (by omega)]; decide)).symm) | (exact (sChB_e (by show ¬ σ 12 (σ 36 t) = 4; omega) (by show ¬ σ 12 (σ 36 t) = 2; omega) (by rw [if_neg (by omega)]; decide) (by show 0 ≤ σ 12 (σ 36 t); omega)).symm)) | (rw [sCh_w0 (by omega)]; first | (exact (sChB_a rfl (by omega) (by omega) (by omega)).symm) | (exact (sChB_b rfl (by omega) (by omega)).symm) | (exact (sChB_d (by omega) (by decide)).symm) | (exact (sChB_e (by omega) (by omega) (by decide) (by omega)).symm))
            · refine x_iconst B dX11_charges_139 ?_
              refine x_goto (tgt := 150) B dX11_charges_140 (by decide) ?_
              refine mo_st (k := 42) E hM hS rfl (by have h9 : mLn 42 = 600 := rfl; omega) (by decide) (by omega) dX11_charges_150 (fun H locs hM hS => ?_)
              refine x_aload_n B hl dX11_charges_151 rfl ?_
              refine mo_geta E hM 43 0 rfl (hts (.fieldLink RX11 117 "BinRoundsModel" "rate" "[I") (by decide +kernel)) rfl dX11_charges_152 ?_
              refine x_iload_n B hl dX11_charges_155 rfl ?_
              refine x_iload B hl dX11_charges_156 rfl ?_
              refine x_if_ge (tgt := 165) B dX11_charges_158 (by decide) (by omega) (fun c_158 => ?_) (fun c_158 => ?_)
              · refine x_aload_n B hl dX11_charges_165 rfl ?_
                refine mo_geta E hM 29 0 rfl (hts (.fieldLink RX11 81 "BinRoundsModel" "rates" "[I") (by decide +kernel)) rfl dX11_charges_166 ?_
                refine x_iload B hl dX11_charges_169 rfl ?_
                refine mo_ld (k := 29) E hM rfl (by have h9 : mLn 29 = 5 := rfl; omega) (by decide) dX11_charges_171 (up_ne (by decide) rfl) (fun r_171 => ?_)
                refine mo_st (k := 43) E hM hS rfl (by have h9 : mLn 43 = 600 := rfl; omega) (by decide) (by omega) dX11_charges_172 (fun H locs hM hS => ?_)
                refine x_aload_n B hl dX11_charges_173 rfl ?_
                refine mo_geta E hM 40 1 rfl (hts (.fieldLink RX11 108 "BinRoundsModel" "isCharged" "[Z") (by decide +kernel)) rfl dX11_charges_174 ?_
                refine x_iload_n B hl dX11_charges_177 rfl ?_
                refine x_iconst B dX11_charges_178 ?_
                refine mo_zst (k := 40) E hM hS rfl (by have h9 : mLn 40 = 600 := rfl; omega) (by decide) (by omega) dX11_charges_179 (fun H locs hM hS => ?_)
                refine mo_vret E hr hlk hM hS dX11_charges_180 ?_ trivial
                first | (exfalso; omega) | (rw [sCh_w1 (by omega)]; first | (exact (sChB_a (H := sHouse σ (σ 36 t) (σ 32 t)) sHouse_15 (by show σ 12 (σ 36 t) = 4; omega) (by omega) (by show 0 < σ 7 _; omega)).symm) | (exact (sChB_b (H := sHouse σ (σ 36 t) (σ 32 t)) sHouse_15 (by show σ 12 (σ 36 t) = 4; omega) (by show ¬ (0 ≤ sHouse σ (σ 36 t) (σ 32 t) ∧ 0 < σ 7 (sHouse σ (σ 36 t) (σ 32 t))); omega)).symm) | (exact (sChB_c (by show ¬ σ 12 (σ 36 t) = 4; omega) (if_pos (by omega))).symm) | (exact (sChB_d (by show σ 12 (σ 36 t) = 2; omega) (by rw [if_neg (by omega)]; decide)).symm) | (exact (sChB_e (by show ¬ σ 12 (σ 36 t) = 4; omega) (by show ¬ σ 12 (σ 36 t) = 2; omega) (by rw [if_neg (by omega)]; decide) (by show 0 ≤ σ 12 (σ 36 t); omega)).symm)) | (rw [sCh_w0 (by omega)]; first | (exact (sChB_a rfl (by omega) (by omega) (by omega)).symm) | (exact (sChB_b rfl (by omega) (by omega)).symm) | (exact (sChB_d (by omega) (by decide)).symm) | (exact (sChB_e (by omega) (by omega) (by decide) (by omega)).symm))
              · refine x_iconst B dX11_charges_161 ?_
                refine x_goto (tgt := 172) B dX11_charges_162 (by decide) ?_
                refine mo_st (k := 43) E hM hS rfl (by have h9 : mLn 43 = 600 := rfl; omega) (by decide) (by omega) dX11_charges_172 (fun H locs hM hS => ?_)
                refine x_aload_n B hl dX11_charges_173 rfl ?_
                refine mo_geta E hM 40 1 rfl (hts (.fieldLink RX11 108 "BinRoundsModel" "isCharged" "[Z") (by decide +kernel)) rfl dX11_charges_174 ?_
                refine x_iload_n B hl dX11_charges_177 rfl ?_
                refine x_iconst B dX11_charges_178 ?_
                refine mo_zst (k := 40) E hM hS rfl (by have h9 : mLn 40 = 600 := rfl; omega) (by decide) (by omega) dX11_charges_179 (fun H locs hM hS => ?_)
                refine mo_vret E hr hlk hM hS dX11_charges_180 ?_ trivial
                first | (exfalso; omega) | (rw [sCh_w1 (by omega)]; first | (exact (sChB_a (H := sHouse σ (σ 36 t) (σ 32 t)) sHouse_15 (by show σ 12 (σ 36 t) = 4; omega) (by omega) (by show 0 < σ 7 _; omega)).symm) | (exact (sChB_b (H := sHouse σ (σ 36 t) (σ 32 t)) sHouse_15 (by show σ 12 (σ 36 t) = 4; omega) (by show ¬ (0 ≤ sHouse σ (σ 36 t) (σ 32 t) ∧ 0 < σ 7 (sHouse σ (σ 36 t) (σ 32 t))); omega)).symm) | (exact (sChB_c (by show ¬ σ 12 (σ 36 t) = 4; omega) (if_pos (by omega))).symm) | (exact (sChB_d (by show σ 12 (σ 36 t) = 2; omega) (by rw [if_neg (by omega)]; decide)).symm) | (exact (sChB_e (by show ¬ σ 12 (σ 36 t) = 4; omega) (by show ¬ σ 12 (σ 36 t) = 2; omega) (by rw [if_neg (by omega)]; decide) (by show 0 ≤ σ 12 (σ 36 t); omega)).symm)) | (rw [sCh_w0 (by omega)]; first | (exact (sChB_a rfl (by omega) (by omega) (by omega)).symm) | (exact (sChB_b rfl (by omega) (by omega)).symm) | (exact (sChB_d (by omega) (by decide)).symm) | (exact (sChB_e (by omega) (by omega) (by decide) (by omega)).symm))
          · refine x_aload_n B hl dX11_charges_93 rfl ?_
            refine mo_geta E hM 7 0 rfl (hts (.fieldLink RX11 23 "BinRoundsModel" "bands" "[I") (by decide +kernel)) rfl dX11_charges_94 ?_
            refine x_iload B hl dX11_charges_97 rfl ?_
            refine lv_dup2_11 B.1 B.2 dX11_charges_99 rfl rfl ?_
            refine mo_ld (k := 7) E hM rfl (by have h9 : mLn 7 = 60 := rfl; omega) (by decide) dX11_charges_100 rfl (fun r_100 => ?_)
            refine x_iconst B dX11_charges_101 ?_
            refine x_isub B dX11_charges_102 ?_
            refine mo_st (k := 7) E hM hS rfl (by have h9 : mLn 7 = 60 := rfl; omega) (by decide) (by omega) dX11_charges_103 (fun H locs hM hS => ?_)
            refine x_iconst B dX11_charges_104 ?_
            refine x_istore B hl dX11_charges_105 (by decide) (fun ls hl => ?_)
            refine x_goto (tgt := 129) B dX11_charges_107 (by decide) ?_
            refine x_aload_n B hl dX11_charges_129 rfl ?_
            refine mo_geta E hM 42 0 rfl (hts (.fieldLink RX11 114 "BinRoundsModel" "lift" "[I") (by decide +kernel)) rfl dX11_charges_130 ?_
            refine x_iload_n B hl dX11_charges_133 rfl ?_
            refine x_iload B hl dX11_charges_134 rfl ?_
            refine x_if_ge_f (tgt := 143) B dX11_charges_136 (by decide) (by decide) ?_
            refine x_iconst B dX11_charges_139 ?_
            refine x_goto (tgt := 150) B dX11_charges_140 (by decide) ?_
            refine mo_st (k := 42) E hM hS rfl (by have h9 : mLn 42 = 600 := rfl; omega) (by decide) (by omega) dX11_charges_150 (fun H locs hM hS => ?_)
            refine x_aload_n B hl dX11_charges_151 rfl ?_
            refine mo_geta E hM 43 0 rfl (hts (.fieldLink RX11 117 "BinRoundsModel" "rate" "[I") (by decide +kernel)) rfl dX11_charges_152 ?_
            refine x_iload_n B hl dX11_charges_155 rfl ?_
            refine x_iload B hl dX11_charges_156 rfl ?_
            refine x_if_ge_f (tgt := 165) B dX11_charges_158 (by decide) (by decide) ?_
            refine x_iconst B dX11_charges_161 ?_
            refine x_goto (tgt := 172) B dX11_charges_162 (by decide) ?_
            refine mo_st (k := 43) E hM hS rfl (by have h9 : mLn 43 = 600 := rfl; omega) (by decide) (by omega) dX11_charges_172 (fun H locs hM hS => ?_)
            refine x_aload_n B hl dX11_charges_173 rfl ?_
            refine mo_geta E hM 40 1 rfl (hts (.fieldLink RX11 108 "BinRoundsModel" "isCharged" "[Z") (by decide +kernel)) rfl dX11_charges_174 ?_
            refine x_iload_n B hl dX11_charges_177 rfl ?_
            refine x_iconst B dX11_charges_178 ?_
            refine mo_zst (k := 40) E hM hS rfl (by have h9 : mLn 40 = 600 := rfl; omega) (by decide) (by omega) dX11_charges_179 (fun H locs hM hS => ?_)
            refine mo_vret E hr hlk hM hS dX11_charges_180 ?_ trivial
            first | (exfalso; omega) | (rw [sCh_w1 (by omega)]; first | (exact (sChB_a (H := sHouse σ (σ 36 t) (σ 32 t)) sHouse_15 (by show σ 12 (σ 36 t) = 4; omega) (by omega) (by show 0 < σ 7 _; omega)).symm) | (exact (sChB_b (H := sHouse σ (σ 36 t) (σ 32 t)) sHouse_15 (by show σ 12 (σ 36 t) = 4; omega) (by show ¬ (0 ≤ sHouse σ (σ 36 t) (σ 32 t) ∧ 0 < σ 7 (sHouse σ (σ 36 t) (σ 32 t))); omega)).symm) | (exact (sChB_c (by show ¬ σ 12 (σ 36 t) = 4; omega) (if_pos (by omega))).symm) | (exact (sChB_d (by show σ 12 (σ 36 t) = 2; omega) (by rw [if_neg (by omega)]; decide)).symm) | (exact (sChB_e (by show ¬ σ 12 (σ 36 t) = 4; omega) (by show ¬ σ 12 (σ 36 t) = 2; omega) (by rw [if_neg (by omega)]; decide) (by show 0 ≤ σ 12 (σ 36 t); omega)).symm)) | (rw [sCh_w0 (by omega)]; first | (exact (sChB_a rfl (by omega) (by omega) (by omega)).symm) | (exact (sChB_b rfl (by omega) (by omega)).symm) | (exact (sChB_d (by omega) (by decide)).symm) | (exact (sChB_e (by omega) (by omega) (by decide) (by omega)).symm))
    · refine x_aload_n B hl dX11_charges_35 rfl ?_
      refine mo_geta E hM 15 0 rfl (hts (.fieldLink RX11 45 "BinRoundsModel" "wrongs" "[I") (by decide +kernel)) rfl dX11_charges_36 ?_
      refine x_iload_n B hl dX11_charges_39 rfl ?_
      refine mo_ld (k := 15) E hM rfl (by have h9 : mLn 15 = 120 := rfl; omega) (by decide) dX11_charges_40 rfl (fun r_40 => ?_)
      refine x_iconst B dX11_charges_41 ?_
      refine x_icmp_le (tgt := 49) B dX11_charges_42 (by decide) (by omega) (by omega) (fun c_42 => ?_) (fun c_42 => ?_)
      · refine x_iconst B dX11_charges_49 ?_
        refine x_istore_n B hl dX11_charges_50 (by decide) (fun ls hl => ?_)
        refine x_aload_n B hl dX11_charges_51 rfl ?_
        refine mo_geta E hM 12 0 rfl (hts (.fieldLink RX11 36 "BinRoundsModel" "kind" "[I") (by decide +kernel)) rfl dX11_charges_52 ?_
        refine x_iload_n B hl dX11_charges_55 rfl ?_
        refine mo_ld (k := 12) E hM rfl (by have h9 : mLn 12 = 120 := rfl; omega) (by decide) dX11_charges_56 rfl (fun r_56 => ?_)
        refine x_istore B hl dX11_charges_57 (by decide) (fun ls hl => ?_)
        refine x_iload B hl dX11_charges_59 rfl ?_
        refine x_iconst B dX11_charges_61 ?_
        refine x_icmp_ne (tgt := 110) B dX11_charges_62 (by decide) (by omega) (by omega) (fun c_62 => ?_) (fun c_62 => ?_)
        · refine x_iload_n B hl dX11_charges_110 rfl ?_
          refine x_if_eq_t (tgt := 120) B dX11_charges_111 (by decide) (by decide) ?_
          refine x_iload B hl dX11_charges_120 rfl ?_
          refine x_iconst B dX11_charges_122 ?_
          refine x_icmp_ne (tgt := 129) B dX11_charges_123 (by decide) (by omega) (by omega) (fun c_123 => ?_) (fun c_123 => ?_)
          · refine x_aload_n B hl dX11_charges_129 rfl ?_
            refine mo_geta E hM 42 0 rfl (hts (.fieldLink RX11 114 "BinRoundsModel" "lift" "[I") (by decide +kernel)) rfl dX11_charges_130 ?_
            refine x_iload_n B hl dX11_charges_133 rfl ?_
            refine x_iload B hl dX11_charges_134 rfl ?_
            refine x_if_ge (tgt := 143) B dX11_charges_136 (by decide) (by omega) (fun c_136 => ?_) (fun c_136 => ?_)
            · refine x_aload_n B hl dX11_charges_143 rfl ?_
              refine mo_geta E hM 28 0 rfl (hts (.fieldLink RX11 78 "BinRoundsModel" "lifts" "[I") (by decide +kernel)) rfl dX11_charges_144 ?_
              refine x_iload B hl dX11_charges_147 rfl ?_
              refine mo_ld (k := 28) E hM rfl (by have h9 : mLn 28 = 5 := rfl; omega) (by decide) dX11_charges_149 rfl (fun r_149 => ?_)
              refine mo_st (k := 42) E hM hS rfl (by have h9 : mLn 42 = 600 := rfl; omega) (by decide) (by omega) dX11_charges_150 (fun H locs hM hS => ?_)
              refine x_aload_n B hl dX11_charges_151 rfl ?_
              refine mo_geta E hM 43 0 rfl (hts (.fieldLink RX11 117 "BinRoundsModel" "rate" "[I") (by decide +kernel)) rfl dX11_charges_152 ?_
              refine x_iload_n B hl dX11_charges_155 rfl ?_
              refine x_iload B hl dX11_charges_156 rfl ?_
              refine x_if_ge (tgt := 165) B dX11_charges_158 (by decide) (by omega) (fun c_158 => ?_) (fun c_158 => ?_)
              · refine x_aload_n B hl dX11_charges_165 rfl ?_
                refine mo_geta E hM 29 0 rfl (hts (.fieldLink RX11 81 "BinRoundsModel" "rates" "[I") (by decide +kernel)) rfl dX11_charges_166 ?_
                refine x_iload B hl dX11_charges_169 rfl ?_
                refine mo_ld (k := 29) E hM rfl (by have h9 : mLn 29 = 5 := rfl; omega) (by decide) dX11_charges_171 (up_ne (by decide) rfl) (fun r_171 => ?_)
                refine mo_st (k := 43) E hM hS rfl (by have h9 : mLn 43 = 600 := rfl; omega) (by decide) (by omega) dX11_charges_172 (fun H locs hM hS => ?_)
                refine x_aload_n B hl dX11_charges_173 rfl ?_
                refine mo_geta E hM 40 1 rfl (hts (.fieldLink RX11 108 "BinRoundsModel" "isCharged" "[Z") (by decide +kernel)) rfl dX11_charges_174 ?_
                refine x_iload_n B hl dX11_charges_177 rfl ?_
                refine x_iconst B dX11_charges_178 ?_
                refine mo_zst (k := 40) E hM hS rfl (by have h9 : mLn 40 = 600 := rfl; omega) (by decide) (by omega) dX11_charges_179 (fun H locs hM hS => ?_)
                refine mo_vret E hr hlk hM hS dX11_charges_180 ?_ trivial
                first | (exfalso; omega) | (rw [sCh_w1 (by omega)]; first | (exact (sChB_a (H := sHouse σ (σ 36 t) (σ 32 t)) sHouse_15 (by show σ 12 (σ 36 t) = 4; omega) (by omega) (by show 0 < σ 7 _; omega)).symm) | (exact (sChB_b (H := sHouse σ (σ 36 t) (σ 32 t)) sHouse_15 (by show σ 12 (σ 36 t) = 4; omega) (by show ¬ (0 ≤ sHouse σ (σ 36 t) (σ 32 t) ∧ 0 < σ 7 (sHouse σ (σ 36 t) (σ 32 t))); omega)).symm) | (exact (sChB_c (by show ¬ σ 12 (σ 36 t) = 4; omega) (if_pos (by omega))).symm) | (exact (sChB_d (by show σ 12 (σ 36 t) = 2; omega) (by rw [if_neg (by omega)]; decide)).symm) | (exact (sChB_e (by show ¬ σ 12 (σ 36 t) = 4; omega) (by show ¬ σ 12 (σ 36 t) = 2; omega) (by rw [if_neg (by omega)]; decide) (by show 0 ≤ σ 12 (σ 36 t); omega)).symm)) | (rw [sCh_w0 (by omega)]; first | (exact (sChB_a rfl (by omega) (by omega) (by omega)).symm) | (exact (sChB_b rfl (by omega) (by omega)).symm) | (exact (sChB_d (by omega) (by decide)).symm) | (exact (sChB_e (by omega) (by omega) (by decide) (by omega)).symm))
              · refine x_iconst B dX11_charges_161 ?_
                refine x_goto (tgt := 172) B dX11_charges_162 (by decide) ?_
                refine mo_st (k := 43) E hM hS rfl (by have h9 : mLn 43 = 600 := rfl; omega) (by decide) (by omega) dX11_charges_172 (fun H locs hM hS => ?_)
                refine x_aload_n B hl dX11_charges_173 rfl ?_
                refine mo_geta E hM 40 1 rfl (hts (.fieldLink RX11 108 "BinRoundsModel" "isCharged" "[Z") (by decide +kernel)) rfl dX11_charges_174 ?_
                refine x_iload_n B hl dX11_charges_177 rfl ?_
                refine x_iconst B dX11_charges_178 ?_
                refine mo_zst (k := 40) E hM hS rfl (by have h9 : mLn 40 = 600 := rfl; omega) (by decide) (by omega) dX11_charges_179 (fun H locs hM hS => ?_)
                refine mo_vret E hr hlk hM hS dX11_charges_180 ?_ trivial
                first | (exfalso; omega) | (rw [sCh_w1 (by omega)]; first | (exact (sChB_a (H := sHouse σ (σ 36 t) (σ 32 t)) sHouse_15 (by show σ 12 (σ 36 t) = 4; omega) (by omega) (by show 0 < σ 7 _; omega)).symm) | (exact (sChB_b (H := sHouse σ (σ 36 t) (σ 32 t)) sHouse_15 (by show σ 12 (σ 36 t) = 4; omega) (by show ¬ (0 ≤ sHouse σ (σ 36 t) (σ 32 t) ∧ 0 < σ 7 (sHouse σ (σ 36 t) (σ 32 t))); omega)).symm) | (exact (sChB_c (by show ¬ σ 12 (σ 36 t) = 4; omega) (if_pos (by omega))).symm) | (exact (sChB_d (by show σ 12 (σ 36 t) = 2; omega) (by rw [if_neg (by omega)]; decide)).symm) | (exact (sChB_e (by show ¬ σ 12 (σ 36 t) = 4; omega) (by show ¬ σ 12 (σ 36 t) = 2; omega) (by rw [if_neg (by omega)]; decide) (by show 0 ≤ σ 12 (σ 36 t); omega)).symm)) | (rw [sCh_w0 (by omega)]; first | (exact (sChB_a rfl (by omega) (by omega) (by omega)).symm) | (exact (sChB_b rfl (by omega) (by omega)).symm) | (exact (sChB_d (by omega) (by decide)).symm) | (exact (sChB_e (by omega) (by omega) (by decide) (by omega)).symm))
            · refine x_iconst B dX11_charges_139 ?_
              refine x_goto (tgt := 150) B dX11_charges_140 (by decide) ?_
              refine mo_st (k := 42) E hM hS rfl (by have h9 : mLn 42 = 600 := rfl; omega) (by decide) (by omega) dX11_charges_150 (fun H locs hM hS => ?_)
              refine x_aload_n B hl dX11_charges_151 rfl ?_
              refine mo_geta E hM 43 0 rfl (hts (.fieldLink RX11 117 "BinRoundsModel" "rate" "[I") (by decide +kernel)) rfl dX11_charges_152 ?_
              refine x_iload_n B hl dX11_charges_155 rfl ?_
              refine x_iload B hl dX11_charges_156 rfl ?_
              refine x_if_ge (tgt := 165) B dX11_charges_158 (by decide) (by omega) (fun c_158 => ?_) (fun c_158 => ?_)
              · refine x_aload_n B hl dX11_charges_165 rfl ?_
                refine mo_geta E hM 29 0 rfl (hts (.fieldLink RX11 81 "BinRoundsModel" "rates" "[I") (by decide +kernel)) rfl dX11_charges_166 ?_
                refine x_iload B hl dX11_charges_169 rfl ?_
                refine mo_ld (k := 29) E hM rfl (by have h9 : mLn 29 = 5 := rfl; omega) (by decide) dX11_charges_171 (up_ne (by decide) rfl) (fun r_171 => ?_)
                refine mo_st (k := 43) E hM hS rfl (by have h9 : mLn 43 = 600 := rfl; omega) (by decide) (by omega) dX11_charges_172 (fun H locs hM hS => ?_)
                refine x_aload_n B hl dX11_charges_173 rfl ?_
                refine mo_geta E hM 40 1 rfl (hts (.fieldLink RX11 108 "BinRoundsModel" "isCharged" "[Z") (by decide +kernel)) rfl dX11_charges_174 ?_
                refine x_iload_n B hl dX11_charges_177 rfl ?_
                refine x_iconst B dX11_charges_178 ?_
                refine mo_zst (k := 40) E hM hS rfl (by have h9 : mLn 40 = 600 := rfl; omega) (by decide) (by omega) dX11_charges_179 (fun H locs hM hS => ?_)
                refine mo_vret E hr hlk hM hS dX11_charges_180 ?_ trivial
                first | (exfalso; omega) | (rw [sCh_w1 (by omega)]; first | (exact (sChB_a (H := sHouse σ (σ 36 t) (σ 32 t)) sHouse_15 (by show σ 12 (σ 36 t) = 4; omega) (by omega) (by show 0 < σ 7 _; omega)).symm) | (exact (sChB_b (H := sHouse σ (σ 36 t) (σ 32 t)) sHouse_15 (by show σ 12 (σ 36 t) = 4; omega) (by show ¬ (0 ≤ sHouse σ (σ 36 t) (σ 32 t) ∧ 0 < σ 7 (sHouse σ (σ 36 t) (σ 32 t))); omega)).symm) | (exact (sChB_c (by show ¬ σ 12 (σ 36 t) = 4; omega) (if_pos (by omega))).symm) | (exact (sChB_d (by show σ 12 (σ 36 t) = 2; omega) (by rw [if_neg (by omega)]; decide)).symm) | (exact (sChB_e (by show ¬ σ 12 (σ 36 t) = 4; omega) (by show ¬ σ 12 (σ 36 t) = 2; omega) (by rw [if_neg (by omega)]; decide) (by show 0 ≤ σ 12 (σ 36 t); omega)).symm)) | (rw [sCh_w0 (by omega)]; first | (exact (sChB_a rfl (by omega) (by omega) (by omega)).symm) | (exact (sChB_b rfl (by omega) (by omega)).symm) | (exact (sChB_d (by omega) (by decide)).symm) | (exact (sChB_e (by omega) (by omega) (by decide) (by omega)).symm))
              · refine x_iconst B dX11_charges_161 ?_
                refine x_goto (tgt := 172) B dX11_charges_162 (by decide) ?_
                refine mo_st (k := 43) E hM hS rfl (by have h9 : mLn 43 = 600 := rfl; omega) (by decide) (by omega) dX11_charges_172 (fun H locs hM hS => ?_)
                refine x_aload_n B hl dX11_charges_173 rfl ?_
                refine mo_geta E hM 40 1 rfl (hts (.fieldLink RX11 108 "BinRoundsModel" "isCharged" "[Z") (by decide +kernel)) rfl dX11_charges_174 ?_
                refine x_iload_n B hl dX11_charges_177 rfl ?_
                refine x_iconst B dX11_charges_178 ?_
                refine mo_zst (k := 40) E hM hS rfl (by have h9 : mLn 40 = 600 := rfl; omega) (by decide) (by omega) dX11_charges_179 (fun H locs hM hS => ?_)
                refine mo_vret E hr hlk hM hS dX11_charges_180 ?_ trivial
                first | (exfalso; omega) | (rw [sCh_w1 (by omega)]; first | (exact (sChB_a (H := sHouse σ (σ 36 t) (σ 32 t)) sHouse_15 (by show σ 12 (σ 36 t) = 4; omega) (by omega) (by show 0 < σ 7 _; omega)).symm) | (exact (sChB_b (H := sHouse σ (σ 36 t) (σ 32 t)) sHouse_15 (by show σ 12 (σ 36 t) = 4; omega) (by show ¬ (0 ≤ sHouse σ (σ 36 t) (σ 32 t) ∧ 0 < σ 7 (sHouse σ (σ 36 t) (σ 32 t))); omega)).symm) | (exact (sChB_c (by show ¬ σ 12 (σ 36 t) = 4; omega) (if_pos (by omega))).symm) | (exact (sChB_d (by show σ 12 (σ 36 t) = 2; omega) (by rw [if_neg (by omega)]; decide)).symm) | (exact (sChB_e (by show ¬ σ 12 (σ 36 t) = 4; omega) (by show ¬ σ 12 (σ 36 t) = 2; omega) (by rw [if_neg (by omega)]; decide) (by show 0 ≤ σ 12 (σ 36 t); omega)).symm)) | (rw [sCh_w0 (by omega)]; first | (exact (sChB_a rfl (by omega) (by omega) (by omega)).symm) | (exact (sChB_b rfl (by omega) (by omega)).symm) | (exact (sChB_d (by omega) (by decide)).symm) | (exact (sChB_e (by omega) (by omega) (by decide) (by omega)).symm))
          · refine x_iconst B dX11_charges_126 ?_
            refine x_istore B hl dX11_charges_127 (by decide) (fun ls hl => ?_)
            refine x_aload_n B hl dX11_charges_129 rfl ?_
            refine mo_geta E hM 42 0 rfl (hts (.fieldLink RX11 114 "BinRoundsModel" "lift" "[I") (by decide +kernel)) rfl dX11_charges_130 ?_
            refine x_iload_n B hl dX11_charges_133 rfl ?_
            refine x_iload B hl dX11_charges_134 rfl ?_
            refine x_if_ge_f (tgt := 143) B dX11_charges_136 (by decide) (by decide) ?_
            refine x_iconst B dX11_charges_139 ?_
            refine x_goto (tgt := 150) B dX11_charges_140 (by decide) ?_
            refine mo_st (k := 42) E hM hS rfl (by have h9 : mLn 42 = 600 := rfl; omega) (by decide) (by omega) dX11_charges_150 (fun H locs hM hS => ?_)
            refine x_aload_n B hl dX11_charges_151 rfl ?_
            refine mo_geta E hM 43 0 rfl (hts (.fieldLink RX11 117 "BinRoundsModel" "rate" "[I") (by decide +kernel)) rfl dX11_charges_152 ?_
            refine x_iload_n B hl dX11_charges_155 rfl ?_
            refine x_iload B hl dX11_charges_156 rfl ?_
            refine x_if_ge_f (tgt := 165) B dX11_charges_158 (by decide) (by decide) ?_
            refine x_iconst B dX11_charges_161 ?_
            refine x_goto (tgt := 172) B dX11_charges_162 (by decide) ?_
            refine mo_st (k := 43) E hM hS rfl (by have h9 : mLn 43 = 600 := rfl; omega) (by decide) (by omega) dX11_charges_172 (fun H locs hM hS => ?_)
            refine x_aload_n B hl dX11_charges_173 rfl ?_
            refine mo_geta E hM 40 1 rfl (hts (.fieldLink RX11 108 "BinRoundsModel" "isCharged" "[Z") (by decide +kernel)) rfl dX11_charges_174 ?_
            refine x_iload_n B hl dX11_charges_177 rfl ?_
            refine x_iconst B dX11_charges_178 ?_
            refine mo_zst (k := 40) E hM hS rfl (by have h9 : mLn 40 = 600 := rfl; omega) (by decide) (by omega) dX11_charges_179 (fun H locs hM hS => ?_)
            refine mo_vret E hr hlk hM hS dX11_charges_180 ?_ trivial
            first | (exfalso; omega) | (rw [sCh_w1 (by omega)]; first | (exact (sChB_a (H := sHouse σ (σ 36 t) (σ 32 t)) sHouse_15 (by show σ 12 (σ 36 t) = 4; omega) (by omega) (by show 0 < σ 7 _; omega)).symm) | (exact (sChB_b (H := sHouse σ (σ 36 t) (σ 32 t)) sHouse_15 (by show σ 12 (σ 36 t) = 4; omega) (by show ¬ (0 ≤ sHouse σ (σ 36 t) (σ 32 t) ∧ 0 < σ 7 (sHouse σ (σ 36 t) (σ 32 t))); omega)).symm) | (exact (sChB_c (by show ¬ σ 12 (σ 36 t) = 4; omega) (if_pos (by omega))).symm) | (exact (sChB_d (by show σ 12 (σ 36 t) = 2; omega) (by rw [if_neg (by omega)]; decide)).symm) | (exact (sChB_e (by show ¬ σ 12 (σ 36 t) = 4; omega) (by show ¬ σ 12 (σ 36 t) = 2; omega) (by rw [if_neg (by omega)]; decide) (by show 0 ≤ σ 12 (σ 36 t); omega)).symm)) | (rw [sCh_w0 (by omega)]; first | (exact (sChB_a rfl (by omega) (by omega) (by omega)).symm) | (exact (sChB_b rfl (by omega) (by omega)).symm) | (exact (sChB_d (by omega) (by decide)).symm) | (exact (sChB_e (by omega) (by omega) (by decide) (by omega)).symm))
        · refine x_aload_n B hl dX11_charges_65 rfl ?_
          refine x_iload_n B hl dX11_charges_66 rfl ?_
          refine x_aload_n B hl dX11_charges_67 rfl ?_
          refine mo_geta E hM 32 0 rfl (hts (.fieldLink RX11 84 "BinRoundsModel" "dayOf" "[I") (by decide +kernel)) rfl dX11_charges_68 ?_
          refine x_iload_n B hl dX11_charges_71 rfl ?_
          refine mo_ld (k := 32) E hM rfl (by have h9 : mLn 32 = 600 := rfl; omega) (by decide) dX11_charges_72 rfl (fun r_72 => ?_)
          refine mo_call E hM hS hl (m_houseOfc l D cy o ad _ σ rfl rfl rfl hb (by omega) hm8) (cwV 2 hts0 gX11_charges_X11_houseOf rfl rfl rfl (by decide +kernel) ⟨Nat.le_of_ble_eq_true rfl, Nat.le_of_ble_eq_true rfl⟩) rfl rfl (Nat.le_of_ble_eq_true rfl) dX11_charges_73 ⟨Nat.zero_le _, Nat.zero_le _⟩ (fun H locs q_73 hM hS => ?_)
          have hh9 := sHouse_p hmh (σ 36 t) (σ 32 t)
          refine x_istore B hl dX11_charges_76 (by decide) (fun ls hl => ?_)
          refine x_iload B hl dX11_charges_78 rfl ?_
          refine x_if_lt (tgt := 107) B dX11_charges_80 (by decide) (by omega) (fun c_80 => ?_) (fun c_80 => ?_)
          · refine x_goto (tgt := 129) B dX11_charges_107 (by decide) ?_
            refine x_aload_n B hl dX11_charges_129 rfl ?_
            refine mo_geta E hM 42 0 rfl (hts (.fieldLink RX11 114 "BinRoundsModel" "lift" "[I") (by decide +kernel)) rfl dX11_charges_130 ?_
            refine x_iload_n B hl dX11_charges_133 rfl ?_
            refine x_iload B hl dX11_charges_134 rfl ?_
            refine x_if_ge (tgt := 143) B dX11_charges_136 (by decide) (by omega) (fun c_136 => ?_) (fun c_136 => ?_)
            · refine x_aload_n B hl dX11_charges_143 rfl ?_
              refine mo_geta E hM 28 0 rfl (hts (.fieldLink RX11 78 "BinRoundsModel" "lifts" "[I") (by decide +kernel)) rfl dX11_charges_144 ?_
              refine x_iload B hl dX11_charges_147 rfl ?_
              refine mo_ld (k := 28) E hM rfl (by have h9 : mLn 28 = 5 := rfl; omega) (by decide) dX11_charges_149 rfl (fun r_149 => ?_)
              refine mo_st (k := 42) E hM hS rfl (by have h9 : mLn 42 = 600 := rfl; omega) (by decide) (by omega) dX11_charges_150 (fun H locs hM hS => ?_)
              refine x_aload_n B hl dX11_charges_151 rfl ?_
              refine mo_geta E hM 43 0 rfl (hts (.fieldLink RX11 117 "BinRoundsModel" "rate" "[I") (by decide +kernel)) rfl dX11_charges_152 ?_
              refine x_iload_n B hl dX11_charges_155 rfl ?_
              refine x_iload B hl dX11_charges_156 rfl ?_
              refine x_if_ge (tgt := 165) B dX11_charges_158 (by decide) (by omega) (fun c_158 => ?_) (fun c_158 => ?_)
              · refine x_aload_n B hl dX11_charges_165 rfl ?_
                refine mo_geta E hM 29 0 rfl (hts (.fieldLink RX11 81 "BinRoundsModel" "rates" "[I") (by decide +kernel)) rfl dX11_charges_166 ?_
                refine x_iload B hl dX11_charges_169 rfl ?_
                refine mo_ld (k := 29) E hM rfl (by have h9 : mLn 29 = 5 := rfl; omega) (by decide) dX11_charges_171 (up_ne (by decide) rfl) (fun r_171 => ?_)
                refine mo_st (k := 43) E hM hS rfl (by have h9 : mLn 43 = 600 := rfl; omega) (by decide) (by omega) dX11_charges_172 (fun H locs hM hS => ?_)
                refine x_aload_n B hl dX11_charges_173 rfl ?_
                refine mo_geta E hM 40 1 rfl (hts (.fieldLink RX11 108 "BinRoundsModel" "isCharged" "[Z") (by decide +kernel)) rfl dX11_charges_174 ?_
                refine x_iload_n B hl dX11_charges_177 rfl ?_
                refine x_iconst B dX11_charges_178 ?_
                refine mo_zst (k := 40) E hM hS rfl (by have h9 : mLn 40 = 600 := rfl; omega) (by decide) (by omega) dX11_charges_179 (fun H locs hM hS => ?_)
                refine mo_vret E hr hlk hM hS dX11_charges_180 ?_ trivial
                first | (exfalso; omega) | (rw [sCh_w1 (by omega)]; first | (exact (sChB_a (H := sHouse σ (σ 36 t) (σ 32 t)) sHouse_15 (by show σ 12 (σ 36 t) = 4; omega) (by omega) (by show 0 < σ 7 _; omega)).symm) | (exact (sChB_b (H := sHouse σ (σ 36 t) (σ 32 t)) sHouse_15 (by show σ 12 (σ 36 t) = 4; omega) (by show ¬ (0 ≤ sHouse σ (σ 36 t) (σ 32 t) ∧ 0 < σ 7 (sHouse σ (σ 36 t) (σ 32 t))); omega)).symm) | (exact (sChB_c (by show ¬ σ 12 (σ 36 t) = 4; omega) (if_pos (by omega))).symm) | (exact (sChB_d (by show σ 12 (σ 36 t) = 2; omega) (by rw [if_neg (by omega)]; decide)).symm) | (exact (sChB_e (by show ¬ σ 12 (σ 36 t) = 4; omega) (by show ¬ σ 12 (σ 36 t) = 2; omega) (by rw [if_neg (by omega)]; decide) (by show 0 ≤ σ 12 (σ 36 t); omega)).symm)) | (rw [sCh_w0 (by omega)]; first | (exact (sChB_a rfl (by omega) (by omega) (by omega)).symm) | (exact (sChB_b rfl (by omega) (by omega)).symm) | (exact (sChB_d (by omega) (by decide)).symm) | (exact (sChB_e (by omega) (by omega) (by decide) (by omega)).symm))
              · refine x_iconst B dX11_charges_161 ?_
                refine x_goto (tgt := 172) B dX11_charges_162 (by decide) ?_
                refine mo_st (k := 43) E hM hS rfl (by have h9 : mLn 43 = 600 := rfl; omega) (by decide) (by omega) dX11_charges_172 (fun H locs hM hS => ?_)
                refine x_aload_n B hl dX11_charges_173 rfl ?_
                refine mo_geta E hM 40 1 rfl (hts (.fieldLink RX11 108 "BinRoundsModel" "isCharged" "[Z") (by decide +kernel)) rfl dX11_charges_174 ?_
                refine x_iload_n B hl dX11_charges_177 rfl ?_
                refine x_iconst B dX11_charges_178 ?_
                refine mo_zst (k := 40) E hM hS rfl (by have h9 : mLn 40 = 600 := rfl; omega) (by decide) (by omega) dX11_charges_179 (fun H locs hM hS => ?_)
                refine mo_vret E hr hlk hM hS dX11_charges_180 ?_ trivial
                first | (exfalso; omega) | (rw [sCh_w1 (by omega)]; first | (exact (sChB_a (H := sHouse σ (σ 36 t) (σ 32 t)) sHouse_15 (by show σ 12 (σ 36 t) = 4; omega) (by omega) (by show 0 < σ 7 _; omega)).symm) | (exact (sChB_b (H := sHouse σ (σ 36 t) (σ 32 t)) sHouse_15 (by show σ 12 (σ 36 t) = 4; omega) (by show ¬ (0 ≤ sHouse σ (σ 36 t) (σ 32 t) ∧ 0 < σ 7 (sHouse σ (σ 36 t) (σ 32 t))); omega)).symm) | (exact (sChB_c (by show ¬ σ 12 (σ 36 t) = 4; omega) (if_pos (by omega))).symm) | (exact (sChB_d (by show σ 12 (σ 36 t) = 2; omega) (by rw [if_neg (by omega)]; decide)).symm) | (exact (sChB_e (by show ¬ σ 12 (σ 36 t) = 4; omega) (by show ¬ σ 12 (σ 36 t) = 2; omega) (by rw [if_neg (by omega)]; decide) (by show 0 ≤ σ 12 (σ 36 t); omega)).symm)) | (rw [sCh_w0 (by omega)]; first | (exact (sChB_a rfl (by omega) (by omega) (by omega)).symm) | (exact (sChB_b rfl (by omega) (by omega)).symm) | (exact (sChB_d (by omega) (by decide)).symm) | (exact (sChB_e (by omega) (by omega) (by decide) (by omega)).symm))
            · refine x_iconst B dX11_charges_139 ?_
              refine x_goto (tgt := 150) B dX11_charges_140 (by decide) ?_
              refine mo_st (k := 42) E hM hS rfl (by have h9 : mLn 42 = 600 := rfl; omega) (by decide) (by omega) dX11_charges_150 (fun H locs hM hS => ?_)
              refine x_aload_n B hl dX11_charges_151 rfl ?_
              refine mo_geta E hM 43 0 rfl (hts (.fieldLink RX11 117 "BinRoundsModel" "rate" "[I") (by decide +kernel)) rfl dX11_charges_152 ?_
              refine x_iload_n B hl dX11_charges_155 rfl ?_
              refine x_iload B hl dX11_charges_156 rfl ?_
              refine x_if_ge (tgt := 165) B dX11_charges_158 (by decide) (by omega) (fun c_158 => ?_) (fun c_158 => ?_)
              · refine x_aload_n B hl dX11_charges_165 rfl ?_
                refine mo_geta E hM 29 0 rfl (hts (.fieldLink RX11 81 "BinRoundsModel" "rates" "[I") (by decide +kernel)) rfl dX11_charges_166 ?_
                refine x_iload B hl dX11_charges_169 rfl ?_
                refine mo_ld (k := 29) E hM rfl (by have h9 : mLn 29 = 5 := rfl; omega) (by decide) dX11_charges_171 (up_ne (by decide) rfl) (fun r_171 => ?_)
                refine mo_st (k := 43) E hM hS rfl (by have h9 : mLn 43 = 600 := rfl; omega) (by decide) (by omega) dX11_charges_172 (fun H locs hM hS => ?_)
                refine x_aload_n B hl dX11_charges_173 rfl ?_
                refine mo_geta E hM 40 1 rfl (hts (.fieldLink RX11 108 "BinRoundsModel" "isCharged" "[Z") (by decide +kernel)) rfl dX11_charges_174 ?_
                refine x_iload_n B hl dX11_charges_177 rfl ?_
                refine x_iconst B dX11_charges_178 ?_
                refine mo_zst (k := 40) E hM hS rfl (by have h9 : mLn 40 = 600 := rfl; omega) (by decide) (by omega) dX11_charges_179 (fun H locs hM hS => ?_)
                refine mo_vret E hr hlk hM hS dX11_charges_180 ?_ trivial
                first | (exfalso; omega) | (rw [sCh_w1 (by omega)]; first | (exact (sChB_a (H := sHouse σ (σ 36 t) (σ 32 t)) sHouse_15 (by show σ 12 (σ 36 t) = 4; omega) (by omega) (by show 0 < σ 7 _; omega)).symm) | (exact (sChB_b (H := sHouse σ (σ 36 t) (σ 32 t)) sHouse_15 (by show σ 12 (σ 36 t) = 4; omega) (by show ¬ (0 ≤ sHouse σ (σ 36 t) (σ 32 t) ∧ 0 < σ 7 (sHouse σ (σ 36 t) (σ 32 t))); omega)).symm) | (exact (sChB_c (by show ¬ σ 12 (σ 36 t) = 4; omega) (if_pos (by omega))).symm) | (exact (sChB_d (by show σ 12 (σ 36 t) = 2; omega) (by rw [if_neg (by omega)]; decide)).symm) | (exact (sChB_e (by show ¬ σ 12 (σ 36 t) = 4; omega) (by show ¬ σ 12 (σ 36 t) = 2; omega) (by rw [if_neg (by omega)]; decide) (by show 0 ≤ σ 12 (σ 36 t); omega)).symm)) | (rw [sCh_w0 (by omega)]; first | (exact (sChB_a rfl (by omega) (by omega) (by omega)).symm) | (exact (sChB_b rfl (by omega) (by omega)).symm) | (exact (sChB_d (by omega) (by decide)).symm) | (exact (sChB_e (by omega) (by omega) (by decide) (by omega)).symm))
              · refine x_iconst B dX11_charges_161 ?_
                refine x_goto (tgt := 172) B dX11_charges_162 (by decide) ?_
                refine mo_st (k := 43) E hM hS rfl (by have h9 : mLn 43 = 600 := rfl; omega) (by decide) (by omega) dX11_charges_172 (fun H locs hM hS => ?_)
                refine x_aload_n B hl dX11_charges_173 rfl ?_
                refine mo_geta E hM 40 1 rfl (hts (.fieldLink RX11 108 "BinRoundsModel" "isCharged" "[Z") (by decide +kernel)) rfl dX11_charges_174 ?_
                refine x_iload_n B hl dX11_charges_177 rfl ?_
                refine x_iconst B dX11_charges_178 ?_
                refine mo_zst (k := 40) E hM hS rfl (by have h9 : mLn 40 = 600 := rfl; omega) (by decide) (by omega) dX11_charges_179 (fun H locs hM hS => ?_)
                refine mo_vret E hr hlk hM hS dX11_charges_180 ?_ trivial
                first | (exfalso; omega) | (rw [sCh_w1 (by omega)]; first | (exact (sChB_a (H := sHouse σ (σ 36 t) (σ 32 t)) sHouse_15 (by show σ 12 (σ 36 t) = 4; omega) (by omega) (by show 0 < σ 7 _; omega)).symm) | (exact (sChB_b (H := sHouse σ (σ 36 t) (σ 32 t)) sHouse_15 (by show σ 12 (σ 36 t) = 4; omega) (by show ¬ (0 ≤ sHouse σ (σ 36 t) (σ 32 t) ∧ 0 < σ 7 (sHouse σ (σ 36 t) (σ 32 t))); omega)).symm) | (exact (sChB_c (by show ¬ σ 12 (σ 36 t) = 4; omega) (if_pos (by omega))).symm) | (exact (sChB_d (by show σ 12 (σ 36 t) = 2; omega) (by rw [if_neg (by omega)]; decide)).symm) | (exact (sChB_e (by show ¬ σ 12 (σ 36 t) = 4; omega) (by show ¬ σ 12 (σ 36 t) = 2; omega) (by rw [if_neg (by omega)]; decide) (by show 0 ≤ σ 12 (σ 36 t); omega)).symm)) | (rw [sCh_w0 (by omega)]; first | (exact (sChB_a rfl (by omega) (by omega) (by omega)).symm) | (exact (sChB_b rfl (by omega) (by omega)).symm) | (exact (sChB_d (by omega) (by decide)).symm) | (exact (sChB_e (by omega) (by omega) (by decide) (by omega)).symm))
          · refine x_aload_n B hl dX11_charges_83 rfl ?_
            refine mo_geta E hM 7 0 rfl (hts (.fieldLink RX11 23 "BinRoundsModel" "bands" "[I") (by decide +kernel)) rfl dX11_charges_84 ?_
            refine x_iload B hl dX11_charges_87 rfl ?_
            refine mo_ld (k := 7) E hM rfl (by have h9 : mLn 7 = 60 := rfl; omega) (by decide) dX11_charges_89 rfl (fun r_89 => ?_)
            refine x_if_le (tgt := 107) B dX11_charges_90 (by decide) (by omega) (fun c_90 => ?_) (fun c_90 => ?_)
            · refine x_goto (tgt := 129) B dX11_charges_107 (by decide) ?_
              refine x_aload_n B hl dX11_charges_129 rfl ?_
              refine mo_geta E hM 42 0 rfl (hts (.fieldLink RX11 114 "BinRoundsModel" "lift" "[I") (by decide +kernel)) rfl dX11_charges_130 ?_
              refine x_iload_n B hl dX11_charges_133 rfl ?_
              refine x_iload B hl dX11_charges_134 rfl ?_
              refine x_if_ge (tgt := 143) B dX11_charges_136 (by decide) (by omega) (fun c_136 => ?_) (fun c_136 => ?_)
              · refine x_aload_n B hl dX11_charges_143 rfl ?_
                refine mo_geta E hM 28 0 rfl (hts (.fieldLink RX11 78 "BinRoundsModel" "lifts" "[I") (by decide +kernel)) rfl dX11_charges_144 ?_
                refine x_iload B hl dX11_charges_147 rfl ?_
                refine mo_ld (k := 28) E hM rfl (by have h9 : mLn 28 = 5 := rfl; omega) (by decide) dX11_charges_149 rfl (fun r_149 => ?_)
                refine mo_st (k := 42) E hM hS rfl (by have h9 : mLn 42 = 600 := rfl; omega) (by decide) (by omega) dX11_charges_150 (fun H locs hM hS => ?_)
                refine x_aload_n B hl dX11_charges_151 rfl ?_
                refine mo_geta E hM 43 0 rfl (hts (.fieldLink RX11 117 "BinRoundsModel" "rate" "[I") (by decide +kernel)) rfl dX11_charges_152 ?_
                refine x_iload_n B hl dX11_charges_155 rfl ?_
                refine x_iload B hl dX11_charges_156 rfl ?_
                refine x_if_ge (tgt := 165) B dX11_charges_158 (by decide) (by omega) (fun c_158 => ?_) (fun c_158 => ?_)
                · refine x_aload_n B hl dX11_charges_165 rfl ?_
                  refine mo_geta E hM 29 0 rfl (hts (.fieldLink RX11 81 "BinRoundsModel" "rates" "[I") (by decide +kernel)) rfl dX11_charges_166 ?_
                  refine x_iload B hl dX11_charges_169 rfl ?_
                  refine mo_ld (k := 29) E hM rfl (by have h9 : mLn 29 = 5 := rfl; omega) (by decide) dX11_charges_171 (up_ne (by decide) rfl) (fun r_171 => ?_)
                  refine mo_st (k := 43) E hM hS rfl (by have h9 : mLn 43 = 600 := rfl; omega) (by decide) (by omega) dX11_charges_172 (fun H locs hM hS => ?_)
                  refine x_aload_n B hl dX11_charges_173 rfl ?_
                  refine mo_geta E hM 40 1 rfl (hts (.fieldLink RX11 108 "BinRoundsModel" "isCharged" "[Z") (by decide +kernel)) rfl dX11_charges_174 ?_
                  refine x_iload_n B hl dX11_charges_177 rfl ?_
                  refine x_iconst B dX11_charges_178 ?_
                  refine mo_zst (k := 40) E hM hS rfl (by have h9 : mLn 40 = 600 := rfl; omega) (by decide) (by omega) dX11_charges_179 (fun H locs hM hS => ?_)
                  refine mo_vret E hr hlk hM hS dX11_charges_180 ?_ trivial
                  first | (exfalso; omega) | (rw [sCh_w1 (by omega)]; first | (exact (sChB_a (H := sHouse σ (σ 36 t) (σ 32 t)) sHouse_15 (by show σ 12 (σ 36 t) = 4; omega) (by omega) (by show 0 < σ 7 _; omega)).symm) | (exact (sChB_b (H := sHouse σ (σ 36 t) (σ 32 t)) sHouse_15 (by show σ 12 (σ 36 t) = 4; omega) (by show ¬ (0 ≤ sHouse σ (σ 36 t) (σ 32 t) ∧ 0 < σ 7 (sHouse σ (σ 36 t) (σ 32 t))); omega)).symm) | (exact (sChB_c (by show ¬ σ 12 (σ 36 t) = 4; omega) (if_pos (by omega))).symm) | (exact (sChB_d (by show σ 12 (σ 36 t) = 2; omega) (by rw [if_neg (by omega)]; decide)).symm) | (exact (sChB_e (by show ¬ σ 12 (σ 36 t) = 4; omega) (by show ¬ σ 12 (σ 36 t) = 2; omega) (by rw [if_neg (by omega)]; decide) (by show 0 ≤ σ 12 (σ 36 t); omega)).symm)) | (rw [sCh_w0 (by omega)]; first | (exact (sChB_a rfl (by omega) (by omega) (by omega)).symm) | (exact (sChB_b rfl (by omega) (by omega)).symm) | (exact (sChB_d (by omega) (by decide)).symm) | (exact (sChB_e (by omega) (by omega) (by decide) (by omega)).symm))
                · refine x_iconst B dX11_charges_161 ?_
                  refine x_goto (tgt := 172) B dX11_charges_162 (by decide) ?_
                  refine mo_st (k := 43) E hM hS rfl (by have h9 : mLn 43 = 600 := rfl; omega) (by decide) (by omega) dX11_charges_172 (fun H locs hM hS => ?_)
                  refine x_aload_n B hl dX11_charges_173 rfl ?_
                  refine mo_geta E hM 40 1 rfl (hts (.fieldLink RX11 108 "BinRoundsModel" "isCharged" "[Z") (by decide +kernel)) rfl dX11_charges_174 ?_
                  refine x_iload_n B hl dX11_charges_177 rfl ?_
                  refine x_iconst B dX11_charges_178 ?_
                  refine mo_zst (k := 40) E hM hS rfl (by have h9 : mLn 40 = 600 := rfl; omega) (by decide) (by omega) dX11_charges_179 (fun H locs hM hS => ?_)
                  refine mo_vret E hr hlk hM hS dX11_charges_180 ?_ trivial
                  first | (exfalso; omega) | (rw [sCh_w1 (by omega)]; first | (exact (sChB_a (H := sHouse σ (σ 36 t) (σ 32 t)) sHouse_15 (by show σ 12 (σ 36 t) = 4; omega) (by omega) (by show 0 < σ 7 _; omega)).symm) | (exact (sChB_b (H := sHouse σ (σ 36 t) (σ 32 t)) sHouse_15 (by show σ 12 (σ 36 t) = 4; omega) (by show ¬ (0 ≤ sHouse σ (σ 36 t) (σ 32 t) ∧ 0 < σ 7 (sHouse σ (σ 36 t) (σ 32 t))); omega)).symm) | (exact (sChB_c (by show ¬ σ 12 (σ 36 t) = 4; omega) (if_pos (by omega))).symm) | (exact (sChB_d (by show σ 12 (σ 36 t) = 2; omega) (by rw [if_neg (by omega)]; decide)).symm) | (exact (sChB_e (by show ¬ σ 12 (σ 36 t) = 4; omega) (by show ¬ σ 12 (σ 36 t) = 2; omega) (by rw [if_neg (by omega)]; decide) (by show 0 ≤ σ 12 (σ 36 t); omega)).symm)) | (rw [sCh_w0 (by omega)]; first | (exact (sChB_a rfl (by omega) (by omega) (by omega)).symm) | (exact (sChB_b rfl (by omega) (by omega)).symm) | (exact (sChB_d (by omega) (by decide)).symm) | (exact (sChB_e (by omega) (by omega) (by decide) (by omega)).symm))
              · refine x_iconst B dX11_charges_139 ?_
                refine x_goto (tgt := 150) B dX11_charges_140 (by decide) ?_
                refine mo_st (k := 42) E hM hS rfl (by have h9 : mLn 42 = 600 := rfl; omega) (by decide) (by omega) dX11_charges_150 (fun H locs hM hS => ?_)
                refine x_aload_n B hl dX11_charges_151 rfl ?_
                refine mo_geta E hM 43 0 rfl (hts (.fieldLink RX11 117 "BinRoundsModel" "rate" "[I") (by decide +kernel)) rfl dX11_charges_152 ?_
                refine x_iload_n B hl dX11_charges_155 rfl ?_
                refine x_iload B hl dX11_charges_156 rfl ?_
                refine x_if_ge (tgt := 165) B dX11_charges_158 (by decide) (by omega) (fun c_158 => ?_) (fun c_158 => ?_)
                · refine x_aload_n B hl dX11_charges_165 rfl ?_
                  refine mo_geta E hM 29 0 rfl (hts (.fieldLink RX11 81 "BinRoundsModel" "rates" "[I") (by decide +kernel)) rfl dX11_charges_166 ?_
                  refine x_iload B hl dX11_charges_169 rfl ?_
                  refine mo_ld (k := 29) E hM rfl (by have h9 : mLn 29 = 5 := rfl; omega) (by decide) dX11_charges_171 (up_ne (by decide) rfl) (fun r_171 => ?_)
                  refine mo_st (k := 43) E hM hS rfl (by have h9 : mLn 43 = 600 := rfl; omega) (by decide) (by omega) dX11_charges_172 (fun H locs hM hS => ?_)
                  refine x_aload_n B hl dX11_charges_173 rfl ?_
                  refine mo_geta E hM 40 1 rfl (hts (.fieldLink RX11 108 "BinRoundsModel" "isCharged" "[Z") (by decide +kernel)) rfl dX11_charges_174 ?_
                  refine x_iload_n B hl dX11_charges_177 rfl ?_
                  refine x_iconst B dX11_charges_178 ?_
                  refine mo_zst (k := 40) E hM hS rfl (by have h9 : mLn 40 = 600 := rfl; omega) (by decide) (by omega) dX11_charges_179 (fun H locs hM hS => ?_)
                  refine mo_vret E hr hlk hM hS dX11_charges_180 ?_ trivial
                  first | (exfalso; omega) | (rw [sCh_w1 (by omega)]; first | (exact (sChB_a (H := sHouse σ (σ 36 t) (σ 32 t)) sHouse_15 (by show σ 12 (σ 36 t) = 4; omega) (by omega) (by show 0 < σ 7 _; omega)).symm) | (exact (sChB_b (H := sHouse σ (σ 36 t) (σ 32 t)) sHouse_15 (by show σ 12 (σ 36 t) = 4; omega) (by show ¬ (0 ≤ sHouse σ (σ 36 t) (σ 32 t) ∧ 0 < σ 7 (sHouse σ (σ 36 t) (σ 32 t))); omega)).symm) | (exact (sChB_c (by show ¬ σ 12 (σ 36 t) = 4; omega) (if_pos (by omega))).symm) | (exact (sChB_d (by show σ 12 (σ 36 t) = 2; omega) (by rw [if_neg (by omega)]; decide)).symm) | (exact (sChB_e (by show ¬ σ 12 (σ 36 t) = 4; omega) (by show ¬ σ 12 (σ 36 t) = 2; omega) (by rw [if_neg (by omega)]; decide) (by show 0 ≤ σ 12 (σ 36 t); omega)).symm)) | (rw [sCh_w0 (by omega)]; first | (exact (sChB_a rfl (by omega) (by omega) (by omega)).symm) | (exact (sChB_b rfl (by omega) (by omega)).symm) | (exact (sChB_d (by omega) (by decide)).symm) | (exact (sChB_e (by omega) (by omega) (by decide) (by omega)).symm))
                · refine x_iconst B dX11_charges_161 ?_
                  refine x_goto (tgt := 172) B dX11_charges_162 (by decide) ?_
                  refine mo_st (k := 43) E hM hS rfl (by have h9 : mLn 43 = 600 := rfl; omega) (by decide) (by omega) dX11_charges_172 (fun H locs hM hS => ?_)
                  refine x_aload_n B hl dX11_charges_173 rfl ?_
                  refine mo_geta E hM 40 1 rfl (hts (.fieldLink RX11 108 "BinRoundsModel" "isCharged" "[Z") (by decide +kernel)) rfl dX11_charges_174 ?_
                  refine x_iload_n B hl dX11_charges_177 rfl ?_
                  refine x_iconst B dX11_charges_178 ?_
                  refine mo_zst (k := 40) E hM hS rfl (by have h9 : mLn 40 = 600 := rfl; omega) (by decide) (by omega) dX11_charges_179 (fun H locs hM hS => ?_)
                  refine mo_vret E hr hlk hM hS dX11_charges_180 ?_ trivial
                  first | (exfalso; omega) | (rw [sCh_w1 (by omega)]; first | (exact (sChB_a (H := sHouse σ (σ 36 t) (σ 32 t)) sHouse_15 (by show σ 12 (σ 36 t) = 4; omega) (by omega) (by show 0 < σ 7 _; omega)).symm) | (exact (sChB_b (H := sHouse σ (σ 36 t) (σ 32 t)) sHouse_15 (by show σ 12 (σ 36 t) = 4; omega) (by show ¬ (0 ≤ sHouse σ (σ 36 t) (σ 32 t) ∧ 0 < σ 7 (sHouse σ (σ 36 t) (σ 32 t))); omega)).symm) | (exact (sChB_c (by show ¬ σ 12 (σ 36 t) = 4; omega) (if_pos (by omega))).symm) | (exact (sChB_d (by show σ 12 (σ 36 t) = 2; omega) (by rw [if_neg (by omega)]; decide)).symm) | (exact (sChB_e (by show ¬ σ 12 (σ 36 t) = 4; omega) (by show ¬ σ 12 (σ 36 t) = 2; omega) (by rw [if_neg (by omega)]; decide) (by show 0 ≤ σ 12 (σ 36 t); omega)).symm)) | (rw [sCh_w0 (by omega)]; first | (exact (sChB_a rfl (by omega) (by omega) (by omega)).symm) | (exact (sChB_b rfl (by omega) (by omega)).symm) | (exact (sChB_d (by omega) (by decide)).symm) | (exact (sChB_e (by omega) (by omega) (by decide) (by omega)).symm))
            · refine x_aload_n B hl dX11_charges_93 rfl ?_
              refine mo_geta E hM 7 0 rfl (hts (.fieldLink RX11 23 "BinRoundsModel" "bands" "[I") (by decide +kernel)) rfl dX11_charges_94 ?_
              refine x_iload B hl dX11_charges_97 rfl ?_
              refine lv_dup2_11 B.1 B.2 dX11_charges_99 rfl rfl ?_
              refine mo_ld (k := 7) E hM rfl (by have h9 : mLn 7 = 60 := rfl; omega) (by decide) dX11_charges_100 rfl (fun r_100 => ?_)
              refine x_iconst B dX11_charges_101 ?_
              refine x_isub B dX11_charges_102 ?_
              refine mo_st (k := 7) E hM hS rfl (by have h9 : mLn 7 = 60 := rfl; omega) (by decide) (by omega) dX11_charges_103 (fun H locs hM hS => ?_)
              refine x_iconst B dX11_charges_104 ?_
              refine x_istore B hl dX11_charges_105 (by decide) (fun ls hl => ?_)
              refine x_goto (tgt := 129) B dX11_charges_107 (by decide) ?_
              refine x_aload_n B hl dX11_charges_129 rfl ?_
              refine mo_geta E hM 42 0 rfl (hts (.fieldLink RX11 114 "BinRoundsModel" "lift" "[I") (by decide +kernel)) rfl dX11_charges_130 ?_
              refine x_iload_n B hl dX11_charges_133 rfl ?_
              refine x_iload B hl dX11_charges_134 rfl ?_
              refine x_if_ge_f (tgt := 143) B dX11_charges_136 (by decide) (by decide) ?_
              refine x_iconst B dX11_charges_139 ?_
              refine x_goto (tgt := 150) B dX11_charges_140 (by decide) ?_
              refine mo_st (k := 42) E hM hS rfl (by have h9 : mLn 42 = 600 := rfl; omega) (by decide) (by omega) dX11_charges_150 (fun H locs hM hS => ?_)
              refine x_aload_n B hl dX11_charges_151 rfl ?_
              refine mo_geta E hM 43 0 rfl (hts (.fieldLink RX11 117 "BinRoundsModel" "rate" "[I") (by decide +kernel)) rfl dX11_charges_152 ?_
              refine x_iload_n B hl dX11_charges_155 rfl ?_
              refine x_iload B hl dX11_charges_156 rfl ?_
              refine x_if_ge_f (tgt := 165) B dX11_charges_158 (by decide) (by decide) ?_
              refine x_iconst B dX11_charges_161 ?_
              refine x_goto (tgt := 172) B dX11_charges_162 (by decide) ?_
              refine mo_st (k := 43) E hM hS rfl (by have h9 : mLn 43 = 600 := rfl; omega) (by decide) (by omega) dX11_charges_172 (fun H locs hM hS => ?_)
              refine x_aload_n B hl dX11_charges_173 rfl ?_
              refine mo_geta E hM 40 1 rfl (hts (.fieldLink RX11 108 "BinRoundsModel" "isCharged" "[Z") (by decide +kernel)) rfl dX11_charges_174 ?_
              refine x_iload_n B hl dX11_charges_177 rfl ?_
              refine x_iconst B dX11_charges_178 ?_
              refine mo_zst (k := 40) E hM hS rfl (by have h9 : mLn 40 = 600 := rfl; omega) (by decide) (by omega) dX11_charges_179 (fun H locs hM hS => ?_)
              refine mo_vret E hr hlk hM hS dX11_charges_180 ?_ trivial
              first | (exfalso; omega) | (rw [sCh_w1 (by omega)]; first | (exact (sChB_a (H := sHouse σ (σ 36 t) (σ 32 t)) sHouse_15 (by show σ 12 (σ 36 t) = 4; omega) (by omega) (by show 0 < σ 7 _; omega)).symm) | (exact (sChB_b (H := sHouse σ (σ 36 t) (σ 32 t)) sHouse_15 (by show σ 12 (σ 36 t) = 4; omega) (by show ¬ (0 ≤ sHouse σ (σ 36 t) (σ 32 t) ∧ 0 < σ 7 (sHouse σ (σ 36 t) (σ 32 t))); omega)).symm) | (exact (sChB_c (by show ¬ σ 12 (σ 36 t) = 4; omega) (if_pos (by omega))).symm) | (exact (sChB_d (by show σ 12 (σ 36 t) = 2; omega) (by rw [if_neg (by omega)]; decide)).symm) | (exact (sChB_e (by show ¬ σ 12 (σ 36 t) = 4; omega) (by show ¬ σ 12 (σ 36 t) = 2; omega) (by rw [if_neg (by omega)]; decide) (by show 0 ≤ σ 12 (σ 36 t); omega)).symm)) | (rw [sCh_w0 (by omega)]; first | (exact (sChB_a rfl (by omega) (by omega) (by omega)).symm) | (exact (sChB_b rfl (by omega) (by omega)).symm) | (exact (sChB_d (by omega) (by decide)).symm) | (exact (sChB_e (by omega) (by omega) (by decide) (by omega)).symm))
      · refine x_iconst B dX11_charges_45 ?_
        refine x_goto (tgt := 50) B dX11_charges_46 (by decide) ?_
        refine x_istore_n B hl dX11_charges_50 (by decide) (fun ls hl => ?_)
        refine x_aload_n B hl dX11_charges_51 rfl ?_
        refine mo_geta E hM 12 0 rfl (hts (.fieldLink RX11 36 "BinRoundsModel" "kind" "[I") (by decide +kernel)) rfl dX11_charges_52 ?_
        refine x_iload_n B hl dX11_charges_55 rfl ?_
        refine mo_ld (k := 12) E hM rfl (by have h9 : mLn 12 = 120 := rfl; omega) (by decide) dX11_charges_56 rfl (fun r_56 => ?_)
        refine x_istore B hl dX11_charges_57 (by decide) (fun ls hl => ?_)
        refine x_iload B hl dX11_charges_59 rfl ?_
        refine x_iconst B dX11_charges_61 ?_
        refine x_icmp_ne (tgt := 110) B dX11_charges_62 (by decide) (by omega) (by omega) (fun c_62 => ?_) (fun c_62 => ?_)
        · refine x_iload_n B hl dX11_charges_110 rfl ?_
          refine x_if_eq_f (tgt := 120) B dX11_charges_111 (by decide) (by decide) ?_
          refine x_iconst B dX11_charges_114 ?_
          refine x_istore B hl dX11_charges_115 (by decide) (fun ls hl => ?_)
          refine x_goto (tgt := 129) B dX11_charges_117 (by decide) ?_
          refine x_aload_n B hl dX11_charges_129 rfl ?_
          refine mo_geta E hM 42 0 rfl (hts (.fieldLink RX11 114 "BinRoundsModel" "lift" "[I") (by decide +kernel)) rfl dX11_charges_130 ?_
          refine x_iload_n B hl dX11_charges_133 rfl ?_
          refine x_iload B hl dX11_charges_134 rfl ?_
          refine x_if_ge_t (tgt := 143) B dX11_charges_136 (by decide) (by decide) ?_
          refine x_aload_n B hl dX11_charges_143 rfl ?_
          refine mo_geta E hM 28 0 rfl (hts (.fieldLink RX11 78 "BinRoundsModel" "lifts" "[I") (by decide +kernel)) rfl dX11_charges_144 ?_
          refine x_iload B hl dX11_charges_147 rfl ?_
          refine mo_ld (k := 28) E hM rfl (by have h9 : mLn 28 = 5 := rfl; omega) (by decide) dX11_charges_149 rfl (fun r_149 => ?_)
          refine mo_st (k := 42) E hM hS rfl (by have h9 : mLn 42 = 600 := rfl; omega) (by decide) (by omega) dX11_charges_150 (fun H locs hM hS => ?_)
          refine x_aload_n B hl dX11_charges_151 rfl ?_
          refine mo_geta E hM 43 0 rfl (hts (.fieldLink RX11 117 "BinRoundsModel" "rate" "[I") (by decide +kernel)) rfl dX11_charges_152 ?_
          refine x_iload_n B hl dX11_charges_155 rfl ?_
          refine x_iload B hl dX11_charges_156 rfl ?_
          refine x_if_ge_t (tgt := 165) B dX11_charges_158 (by decide) (by decide) ?_
          refine x_aload_n B hl dX11_charges_165 rfl ?_
          refine mo_geta E hM 29 0 rfl (hts (.fieldLink RX11 81 "BinRoundsModel" "rates" "[I") (by decide +kernel)) rfl dX11_charges_166 ?_
          refine x_iload B hl dX11_charges_169 rfl ?_
          refine mo_ld (k := 29) E hM rfl (by have h9 : mLn 29 = 5 := rfl; omega) (by decide) dX11_charges_171 (up_ne (by decide) rfl) (fun r_171 => ?_)
          refine mo_st (k := 43) E hM hS rfl (by have h9 : mLn 43 = 600 := rfl; omega) (by decide) (by omega) dX11_charges_172 (fun H locs hM hS => ?_)
          refine x_aload_n B hl dX11_charges_173 rfl ?_
          refine mo_geta E hM 40 1 rfl (hts (.fieldLink RX11 108 "BinRoundsModel" "isCharged" "[Z") (by decide +kernel)) rfl dX11_charges_174 ?_
          refine x_iload_n B hl dX11_charges_177 rfl ?_
          refine x_iconst B dX11_charges_178 ?_
          refine mo_zst (k := 40) E hM hS rfl (by have h9 : mLn 40 = 600 := rfl; omega) (by decide) (by omega) dX11_charges_179 (fun H locs hM hS => ?_)
          refine mo_vret E hr hlk hM hS dX11_charges_180 ?_ trivial
          first | (exfalso; omega) | (rw [sCh_w1 (by omega)]; first | (exact (sChB_a (H := sHouse σ (σ 36 t) (σ 32 t)) sHouse_15 (by show σ 12 (σ 36 t) = 4; omega) (by omega) (by show 0 < σ 7 _; omega)).symm) | (exact (sChB_b (H := sHouse σ (σ 36 t) (σ 32 t)) sHouse_15 (by show σ 12 (σ 36 t) = 4; omega) (by show ¬ (0 ≤ sHouse σ (σ 36 t) (σ 32 t) ∧ 0 < σ 7 (sHouse σ (σ 36 t) (σ 32 t))); omega)).symm) | (exact (sChB_c (by show ¬ σ 12 (σ 36 t) = 4; omega) (if_pos (by omega))).symm) | (exact (sChB_d (by show σ 12 (σ 36 t) = 2; omega) (by rw [if_neg (by omega)]; decide)).symm) | (exact (sChB_e (by show ¬ σ 12 (σ 36 t) = 4; omega) (by show ¬ σ 12 (σ 36 t) = 2; omega) (by rw [if_neg (by omega)]; decide) (by show 0 ≤ σ 12 (σ 36 t); omega)).symm)) | (rw [sCh_w0 (by omega)]; first | (exact (sChB_a rfl (by omega) (by omega) (by omega)).symm) | (exact (sChB_b rfl (by omega) (by omega)).symm) | (exact (sChB_d (by omega) (by decide)).symm) | (exact (sChB_e (by omega) (by omega) (by decide) (by omega)).symm))
        · refine x_aload_n B hl dX11_charges_65 rfl ?_
          refine x_iload_n B hl dX11_charges_66 rfl ?_
          refine x_aload_n B hl dX11_charges_67 rfl ?_
          refine mo_geta E hM 32 0 rfl (hts (.fieldLink RX11 84 "BinRoundsModel" "dayOf" "[I") (by decide +kernel)) rfl dX11_charges_68 ?_
          refine x_iload_n B hl dX11_charges_71 rfl ?_
          refine mo_ld (k := 32) E hM rfl (by have h9 : mLn 32 = 600 := rfl; omega) (by decide) dX11_charges_72 rfl (fun r_72 => ?_)
          refine mo_call E hM hS hl (m_houseOfc l D cy o ad _ σ rfl rfl rfl hb (by omega) hm8) (cwV 2 hts0 gX11_charges_X11_houseOf rfl rfl rfl (by decide +kernel) ⟨Nat.le_of_ble_eq_true rfl, Nat.le_of_ble_eq_true rfl⟩) rfl rfl (Nat.le_of_ble_eq_true rfl) dX11_charges_73 ⟨Nat.zero_le _, Nat.zero_le _⟩ (fun H locs q_73 hM hS => ?_)
          have hh9 := sHouse_p hmh (σ 36 t) (σ 32 t)
          refine x_istore B hl dX11_charges_76 (by decide) (fun ls hl => ?_)
          refine x_iload B hl dX11_charges_78 rfl ?_
          refine x_if_lt (tgt := 107) B dX11_charges_80 (by decide) (by omega) (fun c_80 => ?_) (fun c_80 => ?_)
          · refine x_goto (tgt := 129) B dX11_charges_107 (by decide) ?_
            refine x_aload_n B hl dX11_charges_129 rfl ?_
            refine mo_geta E hM 42 0 rfl (hts (.fieldLink RX11 114 "BinRoundsModel" "lift" "[I") (by decide +kernel)) rfl dX11_charges_130 ?_
            refine x_iload_n B hl dX11_charges_133 rfl ?_
            refine x_iload B hl dX11_charges_134 rfl ?_
            refine x_if_ge (tgt := 143) B dX11_charges_136 (by decide) (by omega) (fun c_136 => ?_) (fun c_136 => ?_)
            · refine x_aload_n B hl dX11_charges_143 rfl ?_
              refine mo_geta E hM 28 0 rfl (hts (.fieldLink RX11 78 "BinRoundsModel" "lifts" "[I") (by decide +kernel)) rfl dX11_charges_144 ?_
              refine x_iload B hl dX11_charges_147 rfl ?_
              refine mo_ld (k := 28) E hM rfl (by have h9 : mLn 28 = 5 := rfl; omega) (by decide) dX11_charges_149 rfl (fun r_149 => ?_)
              refine mo_st (k := 42) E hM hS rfl (by have h9 : mLn 42 = 600 := rfl; omega) (by decide) (by omega) dX11_charges_150 (fun H locs hM hS => ?_)
              refine x_aload_n B hl dX11_charges_151 rfl ?_
              refine mo_geta E hM 43 0 rfl (hts (.fieldLink RX11 117 "BinRoundsModel" "rate" "[I") (by decide +kernel)) rfl dX11_charges_152 ?_
              refine x_iload_n B hl dX11_charges_155 rfl ?_
              refine x_iload B hl dX11_charges_156 rfl ?_
              refine x_if_ge (tgt := 165) B dX11_charges_158 (by decide) (by omega) (fun c_158 => ?_) (fun c_158 => ?_)
              · refine x_aload_n B hl dX11_charges_165 rfl ?_
                refine mo_geta E hM 29 0 rfl (hts (.fieldLink RX11 81 "BinRoundsModel" "rates" "[I") (by decide +kernel)) rfl dX11_charges_166 ?_
                refine x_iload B hl dX11_charges_169 rfl ?_
                refine mo_ld (k := 29) E hM rfl (by have h9 : mLn 29 = 5 := rfl; omega) (by decide) dX11_charges_171 (up_ne (by decide) rfl) (fun r_171 => ?_)
                refine mo_st (k := 43) E hM hS rfl (by have h9 : mLn 43 = 600 := rfl; omega) (by decide) (by omega) dX11_charges_172 (fun H locs hM hS => ?_)
                refine x_aload_n B hl dX11_charges_173 rfl ?_
                refine mo_geta E hM 40 1 rfl (hts (.fieldLink RX11 108 "BinRoundsModel" "isCharged" "[Z") (by decide +kernel)) rfl dX11_charges_174 ?_
                refine x_iload_n B hl dX11_charges_177 rfl ?_
                refine x_iconst B dX11_charges_178 ?_
                refine mo_zst (k := 40) E hM hS rfl (by have h9 : mLn 40 = 600 := rfl; omega) (by decide) (by omega) dX11_charges_179 (fun H locs hM hS => ?_)
                refine mo_vret E hr hlk hM hS dX11_charges_180 ?_ trivial
                first | (exfalso; omega) | (rw [sCh_w1 (by omega)]; first | (exact (sChB_a (H := sHouse σ (σ 36 t) (σ 32 t)) sHouse_15 (by show σ 12 (σ 36 t) = 4; omega) (by omega) (by show 0 < σ 7 _; omega)).symm) | (exact (sChB_b (H := sHouse σ (σ 36 t) (σ 32 t)) sHouse_15 (by show σ 12 (σ 36 t) = 4; omega) (by show ¬ (0 ≤ sHouse σ (σ 36 t) (σ 32 t) ∧ 0 < σ 7 (sHouse σ (σ 36 t) (σ 32 t))); omega)).symm) | (exact (sChB_c (by show ¬ σ 12 (σ 36 t) = 4; omega) (if_pos (by omega))).symm) | (exact (sChB_d (by show σ 12 (σ 36 t) = 2; omega) (by rw [if_neg (by omega)]; decide)).symm) | (exact (sChB_e (by show ¬ σ 12 (σ 36 t) = 4; omega) (by show ¬ σ 12 (σ 36 t) = 2; omega) (by rw [if_neg (by omega)]; decide) (by show 0 ≤ σ 12 (σ 36 t); omega)).symm)) | (rw [sCh_w0 (by omega)]; first | (exact (sChB_a rfl (by omega) (by omega) (by omega)).symm) | (exact (sChB_b rfl (by omega) (by omega)).symm) | (exact (sChB_d (by omega) (by decide)).symm) | (exact (sChB_e (by omega) (by omega) (by decide) (by omega)).symm))
              · refine x_iconst B dX11_charges_161 ?_
                refine x_goto (tgt := 172) B dX11_charges_162 (by decide) ?_
                refine mo_st (k := 43) E hM hS rfl (by have h9 : mLn 43 = 600 := rfl; omega) (by decide) (by omega) dX11_charges_172 (fun H locs hM hS => ?_)
                refine x_aload_n B hl dX11_charges_173 rfl ?_
                refine mo_geta E hM 40 1 rfl (hts (.fieldLink RX11 108 "BinRoundsModel" "isCharged" "[Z") (by decide +kernel)) rfl dX11_charges_174 ?_
                refine x_iload_n B hl dX11_charges_177 rfl ?_
                refine x_iconst B dX11_charges_178 ?_
                refine mo_zst (k := 40) E hM hS rfl (by have h9 : mLn 40 = 600 := rfl; omega) (by decide) (by omega) dX11_charges_179 (fun H locs hM hS => ?_)
                refine mo_vret E hr hlk hM hS dX11_charges_180 ?_ trivial
                first | (exfalso; omega) | (rw [sCh_w1 (by omega)]; first | (exact (sChB_a (H := sHouse σ (σ 36 t) (σ 32 t)) sHouse_15 (by show σ 12 (σ 36 t) = 4; omega) (by omega) (by show 0 < σ 7 _; omega)).symm) | (exact (sChB_b (H := sHouse σ (σ 36 t) (σ 32 t)) sHouse_15 (by show σ 12 (σ 36 t) = 4; omega) (by show ¬ (0 ≤ sHouse σ (σ 36 t) (σ 32 t) ∧ 0 < σ 7 (sHouse σ (σ 36 t) (σ 32 t))); omega)).symm) | (exact (sChB_c (by show ¬ σ 12 (σ 36 t) = 4; omega) (if_pos (by omega))).symm) | (exact (sChB_d (by show σ 12 (σ 36 t) = 2; omega) (by rw [if_neg (by omega)]; decide)).symm) | (exact (sChB_e (by show ¬ σ 12 (σ 36 t) = 4; omega) (by show ¬ σ 12 (σ 36 t) = 2; omega) (by rw [if_neg (by omega)]; decide) (by show 0 ≤ σ 12 (σ 36 t); omega)).symm)) | (rw [sCh_w0 (by omega)]; first | (exact (sChB_a rfl (by omega) (by omega) (by omega)).symm) | (exact (sChB_b rfl (by omega) (by omega)).symm) | (exact (sChB_d (by omega) (by decide)).symm) | (exact (sChB_e (by omega) (by omega) (by decide) (by omega)).symm))
            · refine x_iconst B dX11_charges_139 ?_
              refine x_goto (tgt := 150) B dX11_charges_140 (by decide) ?_
              refine mo_st (k := 42) E hM hS rfl (by have h9 : mLn 42 = 600 := rfl; omega) (by decide) (by omega) dX11_charges_150 (fun H locs hM hS => ?_)
              refine x_aload_n B hl dX11_charges_151 rfl ?_
              refine mo_geta E hM 43 0 rfl (hts (.fieldLink RX11 117 "BinRoundsModel" "rate" "[I") (by decide +kernel)) rfl dX11_charges_152 ?_
              refine x_iload_n B hl dX11_charges_155 rfl ?_
              refine x_iload B hl dX11_charges_156 rfl ?_
              refine x_if_ge (tgt := 165) B dX11_charges_158 (by decide) (by omega) (fun c_158 => ?_) (fun c_158 => ?_)
              · refine x_aload_n B hl dX11_charges_165 rfl ?_
                refine mo_geta E hM 29 0 rfl (hts (.fieldLink RX11 81 "BinRoundsModel" "rates" "[I") (by decide +kernel)) rfl dX11_charges_166 ?_
                refine x_iload B hl dX11_charges_169 rfl ?_
                refine mo_ld (k := 29) E hM rfl (by have h9 : mLn 29 = 5 := rfl; omega) (by decide) dX11_charges_171 (up_ne (by decide) rfl) (fun r_171 => ?_)
                refine mo_st (k := 43) E hM hS rfl (by have h9 : mLn 43 = 600 := rfl; omega) (by decide) (by omega) dX11_charges_172 (fun H locs hM hS => ?_)
                refine x_aload_n B hl dX11_charges_173 rfl ?_
                refine mo_geta E hM 40 1 rfl (hts (.fieldLink RX11 108 "BinRoundsModel" "isCharged" "[Z") (by decide +kernel)) rfl dX11_charges_174 ?_
                refine x_iload_n B hl dX11_charges_177 rfl ?_
                refine x_iconst B dX11_charges_178 ?_
                refine mo_zst (k := 40) E hM hS rfl (by have h9 : mLn 40 = 600 := rfl; omega) (by decide) (by omega) dX11_charges_179 (fun H locs hM hS => ?_)
                refine mo_vret E hr hlk hM hS dX11_charges_180 ?_ trivial
                first | (exfalso; omega) | (rw [sCh_w1 (by omega)]; first | (exact (sChB_a (H := sHouse σ (σ 36 t) (σ 32 t)) sHouse_15 (by show σ 12 (σ 36 t) = 4; omega) (by omega) (by show 0 < σ 7 _; omega)).symm) | (exact (sChB_b (H := sHouse σ (σ 36 t) (σ 32 t)) sHouse_15 (by show σ 12 (σ 36 t) = 4; omega) (by show ¬ (0 ≤ sHouse σ (σ 36 t) (σ 32 t) ∧ 0 < σ 7 (sHouse σ (σ 36 t) (σ 32 t))); omega)).symm) | (exact (sChB_c (by show ¬ σ 12 (σ 36 t) = 4; omega) (if_pos (by omega))).symm) | (exact (sChB_d (by show σ 12 (σ 36 t) = 2; omega) (by rw [if_neg (by omega)]; decide)).symm) | (exact (sChB_e (by show ¬ σ 12 (σ 36 t) = 4; omega) (by show ¬ σ 12 (σ 36 t) = 2; omega) (by rw [if_neg (by omega)]; decide) (by show 0 ≤ σ 12 (σ 36 t); omega)).symm)) | (rw [sCh_w0 (by omega)]; first | (exact (sChB_a rfl (by omega) (by omega) (by omega)).symm) | (exact (sChB_b rfl (by omega) (by omega)).symm) | (exact (sChB_d (by omega) (by decide)).symm) | (exact (sChB_e (by omega) (by omega) (by decide) (by omega)).symm))
              · refine x_iconst B dX11_charges_161 ?_
                refine x_goto (tgt := 172) B dX11_charges_162 (by decide) ?_
                refine mo_st (k := 43) E hM hS rfl (by have h9 : mLn 43 = 600 := rfl; omega) (by decide) (by omega) dX11_charges_172 (fun H locs hM hS => ?_)
                refine x_aload_n B hl dX11_charges_173 rfl ?_
                refine mo_geta E hM 40 1 rfl (hts (.fieldLink RX11 108 "BinRoundsModel" "isCharged" "[Z") (by decide +kernel)) rfl dX11_charges_174 ?_
                refine x_iload_n B hl dX11_charges_177 rfl ?_
                refine x_iconst B dX11_charges_178 ?_
                refine mo_zst (k := 40) E hM hS rfl (by have h9 : mLn 40 = 600 := rfl; omega) (by decide) (by omega) dX11_charges_179 (fun H locs hM hS => ?_)
                refine mo_vret E hr hlk hM hS dX11_charges_180 ?_ trivial
                first | (exfalso; omega) | (rw [sCh_w1 (by omega)]; first | (exact (sChB_a (H := sHouse σ (σ 36 t) (σ 32 t)) sHouse_15 (by show σ 12 (σ 36 t) = 4; omega) (by omega) (by show 0 < σ 7 _; omega)).symm) | (exact (sChB_b (H := sHouse σ (σ 36 t) (σ 32 t)) sHouse_15 (by show σ 12 (σ 36 t) = 4; omega) (by show ¬ (0 ≤ sHouse σ (σ 36 t) (σ 32 t) ∧ 0 < σ 7 (sHouse σ (σ 36 t) (σ 32 t))); omega)).symm) | (exact (sChB_c (by show ¬ σ 12 (σ 36 t) = 4; omega) (if_pos (by omega))).symm) | (exact (sChB_d (by show σ 12 (σ 36 t) = 2; omega) (by rw [if_neg (by omega)]; decide)).symm) | (exact (sChB_e (by show ¬ σ 12 (σ 36 t) = 4; omega) (by show ¬ σ 12 (σ 36 t) = 2; omega) (by rw [if_neg (by omega)]; decide) (by show 0 ≤ σ 12 (σ 36 t); omega)).symm)) | (rw [sCh_w0 (by omega)]; first | (exact (sChB_a rfl (by omega) (by omega) (by omega)).symm) | (exact (sChB_b rfl (by omega) (by omega)).symm) | (exact (sChB_d (by omega) (by decide)).symm) | (exact (sChB_e (by omega) (by omega) (by decide) (by omega)).symm))
          · refine x_aload_n B hl dX11_charges_83 rfl ?_
            refine mo_geta E hM 7 0 rfl (hts (.fieldLink RX11 23 "BinRoundsModel" "bands" "[I") (by decide +kernel)) rfl dX11_charges_84 ?_
            refine x_iload B hl dX11_charges_87 rfl ?_
            refine mo_ld (k := 7) E hM rfl (by have h9 : mLn 7 = 60 := rfl; omega) (by decide) dX11_charges_89 rfl (fun r_89 => ?_)
            refine x_if_le (tgt := 107) B dX11_charges_90 (by decide) (by omega) (fun c_90 => ?_) (fun c_90 => ?_)
            · refine x_goto (tgt := 129) B dX11_charges_107 (by decide) ?_
              refine x_aload_n B hl dX11_charges_129 rfl ?_
              refine mo_geta E hM 42 0 rfl (hts (.fieldLink RX11 114 "BinRoundsModel" "lift" "[I") (by decide +kernel)) rfl dX11_charges_130 ?_
              refine x_iload_n B hl dX11_charges_133 rfl ?_
              refine x_iload B hl dX11_charges_134 rfl ?_
              refine x_if_ge (tgt := 143) B dX11_charges_136 (by decide) (by omega) (fun c_136 => ?_) (fun c_136 => ?_)
              · refine x_aload_n B hl dX11_charges_143 rfl ?_
                refine mo_geta E hM 28 0 rfl (hts (.fieldLink RX11 78 "BinRoundsModel" "lifts" "[I") (by decide +kernel)) rfl dX11_charges_144 ?_
                refine x_iload B hl dX11_charges_147 rfl ?_
                refine mo_ld (k := 28) E hM rfl (by have h9 : mLn 28 = 5 := rfl; omega) (by decide) dX11_charges_149 rfl (fun r_149 => ?_)
                refine mo_st (k := 42) E hM hS rfl (by have h9 : mLn 42 = 600 := rfl; omega) (by decide) (by omega) dX11_charges_150 (fun H locs hM hS => ?_)
                refine x_aload_n B hl dX11_charges_151 rfl ?_
                refine mo_geta E hM 43 0 rfl (hts (.fieldLink RX11 117 "BinRoundsModel" "rate" "[I") (by decide +kernel)) rfl dX11_charges_152 ?_
                refine x_iload_n B hl dX11_charges_155 rfl ?_
                refine x_iload B hl dX11_charges_156 rfl ?_
                refine x_if_ge (tgt := 165) B dX11_charges_158 (by decide) (by omega) (fun c_158 => ?_) (fun c_158 => ?_)
                · refine x_aload_n B hl dX11_charges_165 rfl ?_
                  refine mo_geta E hM 29 0 rfl (hts (.fieldLink RX11 81 "BinRoundsModel" "rates" "[I") (by decide +kernel)) rfl dX11_charges_166 ?_
                  refine x_iload B hl dX11_charges_169 rfl ?_
                  refine mo_ld (k := 29) E hM rfl (by have h9 : mLn 29 = 5 := rfl; omega) (by decide) dX11_charges_171 (up_ne (by decide) rfl) (fun r_171 => ?_)
                  refine mo_st (k := 43) E hM hS rfl (by have h9 : mLn 43 = 600 := rfl; omega) (by decide) (by omega) dX11_charges_172 (fun H locs hM hS => ?_)
                  refine x_aload_n B hl dX11_charges_173 rfl ?_
                  refine mo_geta E hM 40 1 rfl (hts (.fieldLink RX11 108 "BinRoundsModel" "isCharged" "[Z") (by decide +kernel)) rfl dX11_charges_174 ?_
                  refine x_iload_n B hl dX11_charges_177 rfl ?_
                  refine x_iconst B dX11_charges_178 ?_
                  refine mo_zst (k := 40) E hM hS rfl (by have h9 : mLn 40 = 600 := rfl; omega) (by decide) (by omega) dX11_charges_179 (fun H locs hM hS => ?_)
                  refine mo_vret E hr hlk hM hS dX11_charges_180 ?_ trivial
                  first | (exfalso; omega) | (rw [sCh_w1 (by omega)]; first | (exact (sChB_a (H := sHouse σ (σ 36 t) (σ 32 t)) sHouse_15 (by show σ 12 (σ 36 t) = 4; omega) (by omega) (by show 0 < σ 7 _; omega)).symm) | (exact (sChB_b (H := sHouse σ (σ 36 t) (σ 32 t)) sHouse_15 (by show σ 12 (σ 36 t) = 4; omega) (by show ¬ (0 ≤ sHouse σ (σ 36 t) (σ 32 t) ∧ 0 < σ 7 (sHouse σ (σ 36 t) (σ 32 t))); omega)).symm) | (exact (sChB_c (by show ¬ σ 12 (σ 36 t) = 4; omega) (if_pos (by omega))).symm) | (exact (sChB_d (by show σ 12 (σ 36 t) = 2; omega) (by rw [if_neg (by omega)]; decide)).symm) | (exact (sChB_e (by show ¬ σ 12 (σ 36 t) = 4; omega) (by show ¬ σ 12 (σ 36 t) = 2; omega) (by rw [if_neg (by omega)]; decide) (by show 0 ≤ σ 12 (σ 36 t); omega)).symm)) | (rw [sCh_w0 (by omega)]; first | (exact (sChB_a rfl (by omega) (by omega) (by omega)).symm) | (exact (sChB_b rfl (by omega) (by omega)).symm) | (exact (sChB_d (by omega) (by decide)).symm) | (exact (sChB_e (by omega) (by omega) (by decide) (by omega)).symm))
                · refine x_iconst B dX11_charges_161 ?_
                  refine x_goto (tgt := 172) B dX11_charges_162 (by decide) ?_
                  refine mo_st (k := 43) E hM hS rfl (by have h9 : mLn 43 = 600 := rfl; omega) (by decide) (by omega) dX11_charges_172 (fun H locs hM hS => ?_)
                  refine x_aload_n B hl dX11_charges_173 rfl ?_
                  refine mo_geta E hM 40 1 rfl (hts (.fieldLink RX11 108 "BinRoundsModel" "isCharged" "[Z") (by decide +kernel)) rfl dX11_charges_174 ?_
                  refine x_iload_n B hl dX11_charges_177 rfl ?_
                  refine x_iconst B dX11_charges_178 ?_
                  refine mo_zst (k := 40) E hM hS rfl (by have h9 : mLn 40 = 600 := rfl; omega) (by decide) (by omega) dX11_charges_179 (fun H locs hM hS => ?_)
                  refine mo_vret E hr hlk hM hS dX11_charges_180 ?_ trivial
                  first | (exfalso; omega) | (rw [sCh_w1 (by omega)]; first | (exact (sChB_a (H := sHouse σ (σ 36 t) (σ 32 t)) sHouse_15 (by show σ 12 (σ 36 t) = 4; omega) (by omega) (by show 0 < σ 7 _; omega)).symm) | (exact (sChB_b (H := sHouse σ (σ 36 t) (σ 32 t)) sHouse_15 (by show σ 12 (σ 36 t) = 4; omega) (by show ¬ (0 ≤ sHouse σ (σ 36 t) (σ 32 t) ∧ 0 < σ 7 (sHouse σ (σ 36 t) (σ 32 t))); omega)).symm) | (exact (sChB_c (by show ¬ σ 12 (σ 36 t) = 4; omega) (if_pos (by omega))).symm) | (exact (sChB_d (by show σ 12 (σ 36 t) = 2; omega) (by rw [if_neg (by omega)]; decide)).symm) | (exact (sChB_e (by show ¬ σ 12 (σ 36 t) = 4; omega) (by show ¬ σ 12 (σ 36 t) = 2; omega) (by rw [if_neg (by omega)]; decide) (by show 0 ≤ σ 12 (σ 36 t); omega)).symm)) | (rw [sCh_w0 (by omega)]; first | (exact (sChB_a rfl (by omega) (by omega) (by omega)).symm) | (exact (sChB_b rfl (by omega) (by omega)).symm) | (exact (sChB_d (by omega) (by decide)).symm) | (exact (sChB_e (by omega) (by omega) (by decide) (by omega)).symm))
              · refine x_iconst B dX11_charges_139 ?_
                refine x_goto (tgt := 150) B dX11_charges_140 (by decide) ?_
                refine mo_st (k := 42) E hM hS rfl (by have h9 : mLn 42 = 600 := rfl; omega) (by decide) (by omega) dX11_charges_150 (fun H locs hM hS => ?_)
                refine x_aload_n B hl dX11_charges_151 rfl ?_
                refine mo_geta E hM 43 0 rfl (hts (.fieldLink RX11 117 "BinRoundsModel" "rate" "[I") (by decide +kernel)) rfl dX11_charges_152 ?_
                refine x_iload_n B hl dX11_charges_155 rfl ?_
                refine x_iload B hl dX11_charges_156 rfl ?_
                refine x_if_ge (tgt := 165) B dX11_charges_158 (by decide) (by omega) (fun c_158 => ?_) (fun c_158 => ?_)
                · refine x_aload_n B hl dX11_charges_165 rfl ?_
                  refine mo_geta E hM 29 0 rfl (hts (.fieldLink RX11 81 "BinRoundsModel" "rates" "[I") (by decide +kernel)) rfl dX11_charges_166 ?_
                  refine x_iload B hl dX11_charges_169 rfl ?_
                  refine mo_ld (k := 29) E hM rfl (by have h9 : mLn 29 = 5 := rfl; omega) (by decide) dX11_charges_171 (up_ne (by decide) rfl) (fun r_171 => ?_)
                  refine mo_st (k := 43) E hM hS rfl (by have h9 : mLn 43 = 600 := rfl; omega) (by decide) (by omega) dX11_charges_172 (fun H locs hM hS => ?_)
                  refine x_aload_n B hl dX11_charges_173 rfl ?_
                  refine mo_geta E hM 40 1 rfl (hts (.fieldLink RX11 108 "BinRoundsModel" "isCharged" "[Z") (by decide +kernel)) rfl dX11_charges_174 ?_
                  refine x_iload_n B hl dX11_charges_177 rfl ?_
                  refine x_iconst B dX11_charges_178 ?_
                  refine mo_zst (k := 40) E hM hS rfl (by have h9 : mLn 40 = 600 := rfl; omega) (by decide) (by omega) dX11_charges_179 (fun H locs hM hS => ?_)
                  refine mo_vret E hr hlk hM hS dX11_charges_180 ?_ trivial
                  first | (exfalso; omega) | (rw [sCh_w1 (by omega)]; first | (exact (sChB_a (H := sHouse σ (σ 36 t) (σ 32 t)) sHouse_15 (by show σ 12 (σ 36 t) = 4; omega) (by omega) (by show 0 < σ 7 _; omega)).symm) | (exact (sChB_b (H := sHouse σ (σ 36 t) (σ 32 t)) sHouse_15 (by show σ 12 (σ 36 t) = 4; omega) (by show ¬ (0 ≤ sHouse σ (σ 36 t) (σ 32 t) ∧ 0 < σ 7 (sHouse σ (σ 36 t) (σ 32 t))); omega)).symm) | (exact (sChB_c (by show ¬ σ 12 (σ 36 t) = 4; omega) (if_pos (by omega))).symm) | (exact (sChB_d (by show σ 12 (σ 36 t) = 2; omega) (by rw [if_neg (by omega)]; decide)).symm) | (exact (sChB_e (by show ¬ σ 12 (σ 36 t) = 4; omega) (by show ¬ σ 12 (σ 36 t) = 2; omega) (by rw [if_neg (by omega)]; decide) (by show 0 ≤ σ 12 (σ 36 t); omega)).symm)) | (rw [sCh_w0 (by omega)]; first | (exact (sChB_a rfl (by omega) (by omega) (by omega)).symm) | (exact (sChB_b rfl (by omega) (by omega)).symm) | (exact (sChB_d (by omega) (by decide)).symm) | (exact (sChB_e (by omega) (by omega) (by decide) (by omega)).symm))
                · refine x_iconst B dX11_charges_161 ?_
                  refine x_goto (tgt := 172) B dX11_charges_162 (by decide) ?_
                  refine mo_st (k := 43) E hM hS rfl (by have h9 : mLn 43 = 600 := rfl; omega) (by decide) (by omega) dX11_charges_172 (fun H locs hM hS => ?_)
                  refine x_aload_n B hl dX11_charges_173 rfl ?_
                  refine mo_geta E hM 40 1 rfl (hts (.fieldLink RX11 108 "BinRoundsModel" "isCharged" "[Z") (by decide +kernel)) rfl dX11_charges_174 ?_
                  refine x_iload_n B hl dX11_charges_177 rfl ?_
                  refine x_iconst B dX11_charges_178 ?_
                  refine mo_zst (k := 40) E hM hS rfl (by have h9 : mLn 40 = 600 := rfl; omega) (by decide) (by omega) dX11_charges_179 (fun H locs hM hS => ?_)
                  refine mo_vret E hr hlk hM hS dX11_charges_180 ?_ trivial
                  first | (exfalso; omega) | (rw [sCh_w1 (by omega)]; first | (exact (sChB_a (H := sHouse σ (σ 36 t) (σ 32 t)) sHouse_15 (by show σ 12 (σ 36 t) = 4; omega) (by omega) (by show 0 < σ 7 _; omega)).symm) | (exact (sChB_b (H := sHouse σ (σ 36 t) (σ 32 t)) sHouse_15 (by show σ 12 (σ 36 t) = 4; omega) (by show ¬ (0 ≤ sHouse σ (σ 36 t) (σ 32 t) ∧ 0 < σ 7 (sHouse σ (σ 36 t) (σ 32 t))); omega)).symm) | (exact (sChB_c (by show ¬ σ 12 (σ 36 t) = 4; omega) (if_pos (by omega))).symm) | (exact (sChB_d (by show σ 12 (σ 36 t) = 2; omega) (by rw [if_neg (by omega)]; decide)).symm) | (exact (sChB_e (by show ¬ σ 12 (σ 36 t) = 4; omega) (by show ¬ σ 12 (σ 36 t) = 2; omega) (by rw [if_neg (by omega)]; decide) (by show 0 ≤ σ 12 (σ 36 t); omega)).symm)) | (rw [sCh_w0 (by omega)]; first | (exact (sChB_a rfl (by omega) (by omega) (by omega)).symm) | (exact (sChB_b rfl (by omega) (by omega)).symm) | (exact (sChB_d (by omega) (by decide)).symm) | (exact (sChB_e (by omega) (by omega) (by decide) (by omega)).symm))
            · refine x_aload_n B hl dX11_charges_93 rfl ?_
              refine mo_geta E hM 7 0 rfl (hts (.fieldLink RX11 23 "BinRoundsModel" "bands" "[I") (by decide +kernel)) rfl dX11_charges_94 ?_
              refine x_iload B hl dX11_charges_97 rfl ?_
              refine lv_dup2_11 B.1 B.2 dX11_charges_99 rfl rfl ?_
              refine mo_ld (k := 7) E hM rfl (by have h9 : mLn 7 = 60 := rfl; omega) (by decide) dX11_charges_100 rfl (fun r_100 => ?_)
              refine x_iconst B dX11_charges_101 ?_
              refine x_isub B dX11_charges_102 ?_
              refine mo_st (k := 7) E hM hS rfl (by have h9 : mLn 7 = 60 := rfl; omega) (by decide) (by omega) dX11_charges_103 (fun H locs hM hS => ?_)
              refine x_iconst B dX11_charges_104 ?_
              refine x_istore B hl dX11_charges_105 (by decide) (fun ls hl => ?_)
              refine x_goto (tgt := 129) B dX11_charges_107 (by decide) ?_
              refine x_aload_n B hl dX11_charges_129 rfl ?_
              refine mo_geta E hM 42 0 rfl (hts (.fieldLink RX11 114 "BinRoundsModel" "lift" "[I") (by decide +kernel)) rfl dX11_charges_130 ?_
              refine x_iload_n B hl dX11_charges_133 rfl ?_
              refine x_iload B hl dX11_charges_134 rfl ?_
              refine x_if_ge_f (tgt := 143) B dX11_charges_136 (by decide) (by decide) ?_
              refine x_iconst B dX11_charges_139 ?_
              refine x_goto (tgt := 150) B dX11_charges_140 (by decide) ?_
              refine mo_st (k := 42) E hM hS rfl (by have h9 : mLn 42 = 600 := rfl; omega) (by decide) (by omega) dX11_charges_150 (fun H locs hM hS => ?_)
              refine x_aload_n B hl dX11_charges_151 rfl ?_
              refine mo_geta E hM 43 0 rfl (hts (.fieldLink RX11 117 "BinRoundsModel" "rate" "[I") (by decide +kernel)) rfl dX11_charges_152 ?_
              refine x_iload_n B hl dX11_charges_155 rfl ?_
              refine x_iload B hl dX11_charges_156 rfl ?_
              refine x_if_ge_f (tgt := 165) B dX11_charges_158 (by decide) (by decide) ?_
              refine x_iconst B dX11_charges_161 ?_
              refine x_goto (tgt := 172) B dX11_charges_162 (by decide) ?_
              refine mo_st (k := 43) E hM hS rfl (by have h9 : mLn 43 = 600 := rfl; omega) (by decide) (by omega) dX11_charges_172 (fun H locs hM hS => ?_)
              refine x_aload_n B hl dX11_charges_173 rfl ?_
              refine mo_geta E hM 40 1 rfl (hts (.fieldLink RX11 108 "BinRoundsModel" "isCharged" "[Z") (by decide +kernel)) rfl dX11_charges_174 ?_
              refine x_iload_n B hl dX11_charges_177 rfl ?_
              refine x_iconst B dX11_charges_178 ?_
              refine mo_zst (k := 40) E hM hS rfl (by have h9 : mLn 40 = 600 := rfl; omega) (by decide) (by omega) dX11_charges_179 (fun H locs hM hS => ?_)
              refine mo_vret E hr hlk hM hS dX11_charges_180 ?_ trivial
              first | (exfalso; omega) | (rw [sCh_w1 (by omega)]; first | (exact (sChB_a (H := sHouse σ (σ 36 t) (σ 32 t)) sHouse_15 (by show σ 12 (σ 36 t) = 4; omega) (by omega) (by show 0 < σ 7 _; omega)).symm) | (exact (sChB_b (H := sHouse σ (σ 36 t) (σ 32 t)) sHouse_15 (by show σ 12 (σ 36 t) = 4; omega) (by show ¬ (0 ≤ sHouse σ (σ 36 t) (σ 32 t) ∧ 0 < σ 7 (sHouse σ (σ 36 t) (σ 32 t))); omega)).symm) | (exact (sChB_c (by show ¬ σ 12 (σ 36 t) = 4; omega) (if_pos (by omega))).symm) | (exact (sChB_d (by show σ 12 (σ 36 t) = 2; omega) (by rw [if_neg (by omega)]; decide)).symm) | (exact (sChB_e (by show ¬ σ 12 (σ 36 t) = 4; omega) (by show ¬ σ 12 (σ 36 t) = 2; omega) (by rw [if_neg (by omega)]; decide) (by show 0 ≤ σ 12 (σ 36 t); omega)).symm)) | (rw [sCh_w0 (by omega)]; first | (exact (sChB_a rfl (by omega) (by omega) (by omega)).symm) | (exact (sChB_b rfl (by omega) (by omega)).symm) | (exact (sChB_d (by omega) (by decide)).symm) | (exact (sChB_e (by omega) (by omega) (by decide) (by omega)).symm))
  · have w1 : σ 41 t = 1 := by omega
    have w2 := hwr (σ 36 t)
    refine x_aload_n B hl dX11_charges_16 rfl ?_
    refine mo_geta E hM 15 0 rfl (hts (.fieldLink RX11 45 "BinRoundsModel" "wrongs" "[I") (by decide +kernel)) rfl dX11_charges_17 ?_
    refine x_iload_n B hl dX11_charges_20 rfl ?_
    refine lv_dup2_11 B.1 B.2 dX11_charges_21 rfl rfl ?_
    refine mo_ld (k := 15) E hM rfl (by have h9 : mLn 15 = 120 := rfl; omega) (by decide) dX11_charges_22 rfl (fun r_22 => ?_)
    refine x_iconst B dX11_charges_23 ?_
    refine x_iadd B dX11_charges_24 ?_
    refine mo_st (k := 15) E hM hS rfl (by have h9 : mLn 15 = 120 := rfl; omega) (by decide) (by omega) dX11_charges_25 (fun H locs hM hS => ?_)
    refine x_aload_n B hl dX11_charges_26 rfl ?_
    refine mo_geta E hM 41 1 rfl (hts (.fieldLink RX11 111 "BinRoundsModel" "toldWrong" "[Z") (by decide +kernel)) rfl dX11_charges_27 ?_
    refine x_iload_n B hl dX11_charges_30 rfl ?_
    refine mo_zld (k := 41) E hM rfl (by have h9 : mLn 41 = 600 := rfl; omega) (by decide) dX11_charges_31 (up_ne (by decide) rfl) (fun r_31 => ?_)
    refine x_if_eq (tgt := 49) B dX11_charges_32 (by decide) (by omega) (fun c_32 => ?_) (fun c_32 => ?_)
    · refine x_iconst B dX11_charges_49 ?_
      refine x_istore_n B hl dX11_charges_50 (by decide) (fun ls hl => ?_)
      refine x_aload_n B hl dX11_charges_51 rfl ?_
      refine mo_geta E hM 12 0 rfl (hts (.fieldLink RX11 36 "BinRoundsModel" "kind" "[I") (by decide +kernel)) rfl dX11_charges_52 ?_
      refine x_iload_n B hl dX11_charges_55 rfl ?_
      refine mo_ld (k := 12) E hM rfl (by have h9 : mLn 12 = 120 := rfl; omega) (by decide) dX11_charges_56 (up_ne (by decide) rfl) (fun r_56 => ?_)
      refine x_istore B hl dX11_charges_57 (by decide) (fun ls hl => ?_)
      refine x_iload B hl dX11_charges_59 rfl ?_
      refine x_iconst B dX11_charges_61 ?_
      refine x_icmp_ne (tgt := 110) B dX11_charges_62 (by decide) (by omega) (by omega) (fun c_62 => ?_) (fun c_62 => ?_)
      · refine x_iload_n B hl dX11_charges_110 rfl ?_
        refine x_if_eq_t (tgt := 120) B dX11_charges_111 (by decide) (by decide) ?_
        refine x_iload B hl dX11_charges_120 rfl ?_
        refine x_iconst B dX11_charges_122 ?_
        refine x_icmp_ne (tgt := 129) B dX11_charges_123 (by decide) (by omega) (by omega) (fun c_123 => ?_) (fun c_123 => ?_)
        · refine x_aload_n B hl dX11_charges_129 rfl ?_
          refine mo_geta E hM 42 0 rfl (hts (.fieldLink RX11 114 "BinRoundsModel" "lift" "[I") (by decide +kernel)) rfl dX11_charges_130 ?_
          refine x_iload_n B hl dX11_charges_133 rfl ?_
          refine x_iload B hl dX11_charges_134 rfl ?_
          refine x_if_ge (tgt := 143) B dX11_charges_136 (by decide) (by omega) (fun c_136 => ?_) (fun c_136 => ?_)
          · refine x_aload_n B hl dX11_charges_143 rfl ?_
            refine mo_geta E hM 28 0 rfl (hts (.fieldLink RX11 78 "BinRoundsModel" "lifts" "[I") (by decide +kernel)) rfl dX11_charges_144 ?_
            refine x_iload B hl dX11_charges_147 rfl ?_
            refine mo_ld (k := 28) E hM rfl (by have h9 : mLn 28 = 5 := rfl; omega) (by decide) dX11_charges_149 (up_ne (by decide) rfl) (fun r_149 => ?_)
            refine mo_st (k := 42) E hM hS rfl (by have h9 : mLn 42 = 600 := rfl; omega) (by decide) (by omega) dX11_charges_150 (fun H locs hM hS => ?_)
            refine x_aload_n B hl dX11_charges_151 rfl ?_
            refine mo_geta E hM 43 0 rfl (hts (.fieldLink RX11 117 "BinRoundsModel" "rate" "[I") (by decide +kernel)) rfl dX11_charges_152 ?_
            refine x_iload_n B hl dX11_charges_155 rfl ?_
            refine x_iload B hl dX11_charges_156 rfl ?_
            refine x_if_ge (tgt := 165) B dX11_charges_158 (by decide) (by omega) (fun c_158 => ?_) (fun c_158 => ?_)
            · refine x_aload_n B hl dX11_charges_165 rfl ?_
              refine mo_geta E hM 29 0 rfl (hts (.fieldLink RX11 81 "BinRoundsModel" "rates" "[I") (by decide +kernel)) rfl dX11_charges_166 ?_
              refine x_iload B hl dX11_charges_169 rfl ?_
              refine mo_ld (k := 29) E hM rfl (by have h9 : mLn 29 = 5 := rfl; omega) (by decide) dX11_charges_171 (up_ne (by decide) (up_ne (by decide) rfl)) (fun r_171 => ?_)
              refine mo_st (k := 43) E hM hS rfl (by have h9 : mLn 43 = 600 := rfl; omega) (by decide) (by omega) dX11_charges_172 (fun H locs hM hS => ?_)
              refine x_aload_n B hl dX11_charges_173 rfl ?_
              refine mo_geta E hM 40 1 rfl (hts (.fieldLink RX11 108 "BinRoundsModel" "isCharged" "[Z") (by decide +kernel)) rfl dX11_charges_174 ?_
              refine x_iload_n B hl dX11_charges_177 rfl ?_
              refine x_iconst B dX11_charges_178 ?_
              refine mo_zst (k := 40) E hM hS rfl (by have h9 : mLn 40 = 600 := rfl; omega) (by decide) (by omega) dX11_charges_179 (fun H locs hM hS => ?_)
              refine mo_vret E hr hlk hM hS dX11_charges_180 ?_ trivial
              first | (exfalso; omega) | (rw [sCh_w1 (by omega)]; first | (exact (sChB_a (H := sHouse σ (σ 36 t) (σ 32 t)) sHouse_15 (by show σ 12 (σ 36 t) = 4; omega) (by omega) (by show 0 < σ 7 _; omega)).symm) | (exact (sChB_b (H := sHouse σ (σ 36 t) (σ 32 t)) sHouse_15 (by show σ 12 (σ 36 t) = 4; omega) (by show ¬ (0 ≤ sHouse σ (σ 36 t) (σ 32 t) ∧ 0 < σ 7 (sHouse σ (σ 36 t) (σ 32 t))); omega)).symm) | (exact (sChB_c (by show ¬ σ 12 (σ 36 t) = 4; omega) (if_pos (by omega))).symm) | (exact (sChB_d (by show σ 12 (σ 36 t) = 2; omega) (by rw [if_neg (by omega)]; decide)).symm) | (exact (sChB_e (by show ¬ σ 12 (σ 36 t) = 4; omega) (by show ¬ σ 12 (σ 36 t) = 2; omega) (by rw [if_neg (by omega)]; decide) (by show 0 ≤ σ 12 (σ 36 t); omega)).symm)) | (rw [sCh_w0 (by omega)]; first | (exact (sChB_a rfl (by omega) (by omega) (by omega)).symm) | (exact (sChB_b rfl (by omega) (by omega)).symm) | (exact (sChB_d (by omega) (by decide)).symm) | (exact (sChB_e (by omega) (by omega) (by decide) (by omega)).symm))
            · refine x_iconst B dX11_charges_161 ?_
              refine x_goto (tgt := 172) B dX11_charges_162 (by decide) ?_
              refine mo_st (k := 43) E hM hS rfl (by have h9 : mLn 43 = 600 := rfl; omega) (by decide) (by omega) dX11_charges_172 (fun H locs hM hS => ?_)
              refine x_aload_n B hl dX11_charges_173 rfl ?_
              refine mo_geta E hM 40 1 rfl (hts (.fieldLink RX11 108 "BinRoundsModel" "isCharged" "[Z") (by decide +kernel)) rfl dX11_charges_174 ?_
              refine x_iload_n B hl dX11_charges_177 rfl ?_
              refine x_iconst B dX11_charges_178 ?_
              refine mo_zst (k := 40) E hM hS rfl (by have h9 : mLn 40 = 600 := rfl; omega) (by decide) (by omega) dX11_charges_179 (fun H locs hM hS => ?_)
              refine mo_vret E hr hlk hM hS dX11_charges_180 ?_ trivial
              first | (exfalso; omega) | (rw [sCh_w1 (by omega)]; first | (exact (sChB_a (H := sHouse σ (σ 36 t) (σ 32 t)) sHouse_15 (by show σ 12 (σ 36 t) = 4; omega) (by omega) (by show 0 < σ 7 _; omega)).symm) | (exact (sChB_b (H := sHouse σ (σ 36 t) (σ 32 t)) sHouse_15 (by show σ 12 (σ 36 t) = 4; omega) (by show ¬ (0 ≤ sHouse σ (σ 36 t) (σ 32 t) ∧ 0 < σ 7 (sHouse σ (σ 36 t) (σ 32 t))); omega)).symm) | (exact (sChB_c (by show ¬ σ 12 (σ 36 t) = 4; omega) (if_pos (by omega))).symm) | (exact (sChB_d (by show σ 12 (σ 36 t) = 2; omega) (by rw [if_neg (by omega)]; decide)).symm) | (exact (sChB_e (by show ¬ σ 12 (σ 36 t) = 4; omega) (by show ¬ σ 12 (σ 36 t) = 2; omega) (by rw [if_neg (by omega)]; decide) (by show 0 ≤ σ 12 (σ 36 t); omega)).symm)) | (rw [sCh_w0 (by omega)]; first | (exact (sChB_a rfl (by omega) (by omega) (by omega)).symm) | (exact (sChB_b rfl (by omega) (by omega)).symm) | (exact (sChB_d (by omega) (by decide)).symm) | (exact (sChB_e (by omega) (by omega) (by decide) (by omega)).symm))
          · refine x_iconst B dX11_charges_139 ?_
            refine x_goto (tgt := 150) B dX11_charges_140 (by decide) ?_
            refine mo_st (k := 42) E hM hS rfl (by have h9 : mLn 42 = 600 := rfl; omega) (by decide) (by omega) dX11_charges_150 (fun H locs hM hS => ?_)
            refine x_aload_n B hl dX11_charges_151 rfl ?_
            refine mo_geta E hM 43 0 rfl (hts (.fieldLink RX11 117 "BinRoundsModel" "rate" "[I") (by decide +kernel)) rfl dX11_charges_152 ?_
            refine x_iload_n B hl dX11_charges_155 rfl ?_
            refine x_iload B hl dX11_charges_156 rfl ?_
            refine x_if_ge (tgt := 165) B dX11_charges_158 (by decide) (by omega) (fun c_158 => ?_) (fun c_158 => ?_)
            · refine x_aload_n B hl dX11_charges_165 rfl ?_
              refine mo_geta E hM 29 0 rfl (hts (.fieldLink RX11 81 "BinRoundsModel" "rates" "[I") (by decide +kernel)) rfl dX11_charges_166 ?_
              refine x_iload B hl dX11_charges_169 rfl ?_
              refine mo_ld (k := 29) E hM rfl (by have h9 : mLn 29 = 5 := rfl; omega) (by decide) dX11_charges_171 (up_ne (by decide) (up_ne (by decide) rfl)) (fun r_171 => ?_)
              refine mo_st (k := 43) E hM hS rfl (by have h9 : mLn 43 = 600 := rfl; omega) (by decide) (by omega) dX11_charges_172 (fun H locs hM hS => ?_)
              refine x_aload_n B hl dX11_charges_173 rfl ?_
              refine mo_geta E hM 40 1 rfl (hts (.fieldLink RX11 108 "BinRoundsModel" "isCharged" "[Z") (by decide +kernel)) rfl dX11_charges_174 ?_
              refine x_iload_n B hl dX11_charges_177 rfl ?_
              refine x_iconst B dX11_charges_178 ?_
              refine mo_zst (k := 40) E hM hS rfl (by have h9 : mLn 40 = 600 := rfl; omega) (by decide) (by omega) dX11_charges_179 (fun H locs hM hS => ?_)
              refine mo_vret E hr hlk hM hS dX11_charges_180 ?_ trivial
              first | (exfalso; omega) | (rw [sCh_w1 (by omega)]; first | (exact (sChB_a (H := sHouse σ (σ 36 t) (σ 32 t)) sHouse_15 (by show σ 12 (σ 36 t) = 4; omega) (by omega) (by show 0 < σ 7 _; omega)).symm) | (exact (sChB_b (H := sHouse σ (σ 36 t) (σ 32 t)) sHouse_15 (by show σ 12 (σ 36 t) = 4; omega) (by show ¬ (0 ≤ sHouse σ (σ 36 t) (σ 32 t) ∧ 0 < σ 7 (sHouse σ (σ 36 t) (σ 32 t))); omega)).symm) | (exact (sChB_c (by show ¬ σ 12 (σ 36 t) = 4; omega) (if_pos (by omega))).symm) | (exact (sChB_d (by show σ 12 (σ 36 t) = 2; omega) (by rw [if_neg (by omega)]; decide)).symm) | (exact (sChB_e (by show ¬ σ 12 (σ 36 t) = 4; omega) (by show ¬ σ 12 (σ 36 t) = 2; omega) (by rw [if_neg (by omega)]; decide) (by show 0 ≤ σ 12 (σ 36 t); omega)).symm)) | (rw [sCh_w0 (by omega)]; first | (exact (sChB_a rfl (by omega) (by omega) (by omega)).symm) | (exact (sChB_b rfl (by omega) (by omega)).symm) | (exact (sChB_d (by omega) (by decide)).symm) | (exact (sChB_e (by omega) (by omega) (by decide) (by omega)).symm))
            · refine x_iconst B dX11_charges_161 ?_
              refine x_goto (tgt := 172) B dX11_charges_162 (by decide) ?_
              refine mo_st (k := 43) E hM hS rfl (by have h9 : mLn 43 = 600 := rfl; omega) (by decide) (by omega) dX11_charges_172 (fun H locs hM hS => ?_)
              refine x_aload_n B hl dX11_charges_173 rfl ?_
              refine mo_geta E hM 40 1 rfl (hts (.fieldLink RX11 108 "BinRoundsModel" "isCharged" "[Z") (by decide +kernel)) rfl dX11_charges_174 ?_
              refine x_iload_n B hl dX11_charges_177 rfl ?_
              refine x_iconst B dX11_charges_178 ?_
              refine mo_zst (k := 40) E hM hS rfl (by have h9 : mLn 40 = 600 := rfl; omega) (by decide) (by omega) dX11_charges_179 (fun H locs hM hS => ?_)
              refine mo_vret E hr hlk hM hS dX11_charges_180 ?_ trivial
              first | (exfalso; omega) | (rw [sCh_w1 (by omega)]; first | (exact (sChB_a (H := sHouse σ (σ 36 t) (σ 32 t)) sHouse_15 (by show σ 12 (σ 36 t) = 4; omega) (by omega) (by show 0 < σ 7 _; omega)).symm) | (exact (sChB_b (H := sHouse σ (σ 36 t) (σ 32 t)) sHouse_15 (by show σ 12 (σ 36 t) = 4; omega) (by show ¬ (0 ≤ sHouse σ (σ 36 t) (σ 32 t) ∧ 0 < σ 7 (sHouse σ (σ 36 t) (σ 32 t))); omega)).symm) | (exact (sChB_c (by show ¬ σ 12 (σ 36 t) = 4; omega) (if_pos (by omega))).symm) | (exact (sChB_d (by show σ 12 (σ 36 t) = 2; omega) (by rw [if_neg (by omega)]; decide)).symm) | (exact (sChB_e (by show ¬ σ 12 (σ 36 t) = 4; omega) (by show ¬ σ 12 (σ 36 t) = 2; omega) (by rw [if_neg (by omega)]; decide) (by show 0 ≤ σ 12 (σ 36 t); omega)).symm)) | (rw [sCh_w0 (by omega)]; first | (exact (sChB_a rfl (by omega) (by omega) (by omega)).symm) | (exact (sChB_b rfl (by omega) (by omega)).symm) | (exact (sChB_d (by omega) (by decide)).symm) | (exact (sChB_e (by omega) (by omega) (by decide) (by omega)).symm))
        · refine x_iconst B dX11_charges_126 ?_
          refine x_istore B hl dX11_charges_127 (by decide) (fun ls hl => ?_)
          refine x_aload_n B hl dX11_charges_129 rfl ?_
          refine mo_geta E hM 42 0 rfl (hts (.fieldLink RX11 114 "BinRoundsModel" "lift" "[I") (by decide +kernel)) rfl dX11_charges_130 ?_
          refine x_iload_n B hl dX11_charges_133 rfl ?_
          refine x_iload B hl dX11_charges_134 rfl ?_
          refine x_if_ge_f (tgt := 143) B dX11_charges_136 (by decide) (by decide) ?_
          refine x_iconst B dX11_charges_139 ?_
          refine x_goto (tgt := 150) B dX11_charges_140 (by decide) ?_
          refine mo_st (k := 42) E hM hS rfl (by have h9 : mLn 42 = 600 := rfl; omega) (by decide) (by omega) dX11_charges_150 (fun H locs hM hS => ?_)
          refine x_aload_n B hl dX11_charges_151 rfl ?_
          refine mo_geta E hM 43 0 rfl (hts (.fieldLink RX11 117 "BinRoundsModel" "rate" "[I") (by decide +kernel)) rfl dX11_charges_152 ?_
          refine x_iload_n B hl dX11_charges_155 rfl ?_
          refine x_iload B hl dX11_charges_156 rfl ?_
          refine x_if_ge_f (tgt := 165) B dX11_charges_158 (by decide) (by decide) ?_
          refine x_iconst B dX11_charges_161 ?_
          refine x_goto (tgt := 172) B dX11_charges_162 (by decide) ?_
          refine mo_st (k := 43) E hM hS rfl (by have h9 : mLn 43 = 600 := rfl; omega) (by decide) (by omega) dX11_charges_172 (fun H locs hM hS => ?_)
          refine x_aload_n B hl dX11_charges_173 rfl ?_
          refine mo_geta E hM 40 1 rfl (hts (.fieldLink RX11 108 "BinRoundsModel" "isCharged" "[Z") (by decide +kernel)) rfl dX11_charges_174 ?_
          refine x_iload_n B hl dX11_charges_177 rfl ?_
          refine x_iconst B dX11_charges_178 ?_
          refine mo_zst (k := 40) E hM hS rfl (by have h9 : mLn 40 = 600 := rfl; omega) (by decide) (by omega) dX11_charges_179 (fun H locs hM hS => ?_)
          refine mo_vret E hr hlk hM hS dX11_charges_180 ?_ trivial
          first | (exfalso; omega) | (rw [sCh_w1 (by omega)]; first | (exact (sChB_a (H := sHouse σ (σ 36 t) (σ 32 t)) sHouse_15 (by show σ 12 (σ 36 t) = 4; omega) (by omega) (by show 0 < σ 7 _; omega)).symm) | (exact (sChB_b (H := sHouse σ (σ 36 t) (σ 32 t)) sHouse_15 (by show σ 12 (σ 36 t) = 4; omega) (by show ¬ (0 ≤ sHouse σ (σ 36 t) (σ 32 t) ∧ 0 < σ 7 (sHouse σ (σ 36 t) (σ 32 t))); omega)).symm) | (exact (sChB_c (by show ¬ σ 12 (σ 36 t) = 4; omega) (if_pos (by omega))).symm) | (exact (sChB_d (by show σ 12 (σ 36 t) = 2; omega) (by rw [if_neg (by omega)]; decide)).symm) | (exact (sChB_e (by show ¬ σ 12 (σ 36 t) = 4; omega) (by show ¬ σ 12 (σ 36 t) = 2; omega) (by rw [if_neg (by omega)]; decide) (by show 0 ≤ σ 12 (σ 36 t); omega)).symm)) | (rw [sCh_w0 (by omega)]; first | (exact (sChB_a rfl (by omega) (by omega) (by omega)).symm) | (exact (sChB_b rfl (by omega) (by omega)).symm) | (exact (sChB_d (by omega) (by decide)).symm) | (exact (sChB_e (by omega) (by omega) (by decide) (by omega)).symm))
      · refine x_aload_n B hl dX11_charges_65 rfl ?_
        refine x_iload_n B hl dX11_charges_66 rfl ?_
        refine x_aload_n B hl dX11_charges_67 rfl ?_
        refine mo_geta E hM 32 0 rfl (hts (.fieldLink RX11 84 "BinRoundsModel" "dayOf" "[I") (by decide +kernel)) rfl dX11_charges_68 ?_
        refine x_iload_n B hl dX11_charges_71 rfl ?_
        refine mo_ld (k := 32) E hM rfl (by have h9 : mLn 32 = 600 := rfl; omega) (by decide) dX11_charges_72 (up_ne (by decide) rfl) (fun r_72 => ?_)
        refine mo_call E hM hS hl (m_houseOfc l D cy o ad _ σ (up_f (by decide)) (up_f (by decide)) (up_f (by decide)) hb (by omega) hm8) (cwV 2 hts0 gX11_charges_X11_houseOf rfl rfl rfl (by decide +kernel) ⟨Nat.le_of_ble_eq_true rfl, Nat.le_of_ble_eq_true rfl⟩) rfl rfl (Nat.le_of_ble_eq_true rfl) dX11_charges_73 ⟨Nat.zero_le _, Nat.zero_le _⟩ (fun H locs q_73 hM hS => ?_)
        have hh9 := sHouse_p hmh (σ 36 t) (σ 32 t)
        refine x_istore B hl dX11_charges_76 (by decide) (fun ls hl => ?_)
        refine x_iload B hl dX11_charges_78 rfl ?_
        refine x_if_lt (tgt := 107) B dX11_charges_80 (by decide) (by omega) (fun c_80 => ?_) (fun c_80 => ?_)
        · refine x_goto (tgt := 129) B dX11_charges_107 (by decide) ?_
          refine x_aload_n B hl dX11_charges_129 rfl ?_
          refine mo_geta E hM 42 0 rfl (hts (.fieldLink RX11 114 "BinRoundsModel" "lift" "[I") (by decide +kernel)) rfl dX11_charges_130 ?_
          refine x_iload_n B hl dX11_charges_133 rfl ?_
          refine x_iload B hl dX11_charges_134 rfl ?_
          refine x_if_ge (tgt := 143) B dX11_charges_136 (by decide) (by omega) (fun c_136 => ?_) (fun c_136 => ?_)
          · refine x_aload_n B hl dX11_charges_143 rfl ?_
            refine mo_geta E hM 28 0 rfl (hts (.fieldLink RX11 78 "BinRoundsModel" "lifts" "[I") (by decide +kernel)) rfl dX11_charges_144 ?_
            refine x_iload B hl dX11_charges_147 rfl ?_
            refine mo_ld (k := 28) E hM rfl (by have h9 : mLn 28 = 5 := rfl; omega) (by decide) dX11_charges_149 (up_ne (by decide) rfl) (fun r_149 => ?_)
            refine mo_st (k := 42) E hM hS rfl (by have h9 : mLn 42 = 600 := rfl; omega) (by decide) (by omega) dX11_charges_150 (fun H locs hM hS => ?_)
            refine x_aload_n B hl dX11_charges_151 rfl ?_
            refine mo_geta E hM 43 0 rfl (hts (.fieldLink RX11 117 "BinRoundsModel" "rate" "[I") (by decide +kernel)) rfl dX11_charges_152 ?_
            refine x_iload_n B hl dX11_charges_155 rfl ?_
            refine x_iload B hl dX11_charges_156 rfl ?_
            refine x_if_ge (tgt := 165) B dX11_charges_158 (by decide) (by omega) (fun c_158 => ?_) (fun c_158 => ?_)
            · refine x_aload_n B hl dX11_charges_165 rfl ?_
              refine mo_geta E hM 29 0 rfl (hts (.fieldLink RX11 81 "BinRoundsModel" "rates" "[I") (by decide +kernel)) rfl dX11_charges_166 ?_
              refine x_iload B hl dX11_charges_169 rfl ?_
              refine mo_ld (k := 29) E hM rfl (by have h9 : mLn 29 = 5 := rfl; omega) (by decide) dX11_charges_171 (up_ne (by decide) (up_ne (by decide) rfl)) (fun r_171 => ?_)
              refine mo_st (k := 43) E hM hS rfl (by have h9 : mLn 43 = 600 := rfl; omega) (by decide) (by omega) dX11_charges_172 (fun H locs hM hS => ?_)
              refine x_aload_n B hl dX11_charges_173 rfl ?_
              refine mo_geta E hM 40 1 rfl (hts (.fieldLink RX11 108 "BinRoundsModel" "isCharged" "[Z") (by decide +kernel)) rfl dX11_charges_174 ?_
              refine x_iload_n B hl dX11_charges_177 rfl ?_
              refine x_iconst B dX11_charges_178 ?_
              refine mo_zst (k := 40) E hM hS rfl (by have h9 : mLn 40 = 600 := rfl; omega) (by decide) (by omega) dX11_charges_179 (fun H locs hM hS => ?_)
              refine mo_vret E hr hlk hM hS dX11_charges_180 ?_ trivial
              first | (exfalso; omega) | (rw [sCh_w1 (by omega)]; first | (exact (sChB_a (H := sHouse σ (σ 36 t) (σ 32 t)) sHouse_15 (by show σ 12 (σ 36 t) = 4; omega) (by omega) (by show 0 < σ 7 _; omega)).symm) | (exact (sChB_b (H := sHouse σ (σ 36 t) (σ 32 t)) sHouse_15 (by show σ 12 (σ 36 t) = 4; omega) (by show ¬ (0 ≤ sHouse σ (σ 36 t) (σ 32 t) ∧ 0 < σ 7 (sHouse σ (σ 36 t) (σ 32 t))); omega)).symm) | (exact (sChB_c (by show ¬ σ 12 (σ 36 t) = 4; omega) (if_pos (by omega))).symm) | (exact (sChB_d (by show σ 12 (σ 36 t) = 2; omega) (by rw [if_neg (by omega)]; decide)).symm) | (exact (sChB_e (by show ¬ σ 12 (σ 36 t) = 4; omega) (by show ¬ σ 12 (σ 36 t) = 2; omega) (by rw [if_neg (by omega)]; decide) (by show 0 ≤ σ 12 (σ 36 t); omega)).symm)) | (rw [sCh_w0 (by omega)]; first | (exact (sChB_a rfl (by omega) (by omega) (by omega)).symm) | (exact (sChB_b rfl (by omega) (by omega)).symm) | (exact (sChB_d (by omega) (by decide)).symm) | (exact (sChB_e (by omega) (by omega) (by decide) (by omega)).symm))
            · refine x_iconst B dX11_charges_161 ?_
              refine x_goto (tgt := 172) B dX11_charges_162 (by decide) ?_
              refine mo_st (k := 43) E hM hS rfl (by have h9 : mLn 43 = 600 := rfl; omega) (by decide) (by omega) dX11_charges_172 (fun H locs hM hS => ?_)
              refine x_aload_n B hl dX11_charges_173 rfl ?_
              refine mo_geta E hM 40 1 rfl (hts (.fieldLink RX11 108 "BinRoundsModel" "isCharged" "[Z") (by decide +kernel)) rfl dX11_charges_174 ?_
              refine x_iload_n B hl dX11_charges_177 rfl ?_
              refine x_iconst B dX11_charges_178 ?_
              refine mo_zst (k := 40) E hM hS rfl (by have h9 : mLn 40 = 600 := rfl; omega) (by decide) (by omega) dX11_charges_179 (fun H locs hM hS => ?_)
              refine mo_vret E hr hlk hM hS dX11_charges_180 ?_ trivial
              first | (exfalso; omega) | (rw [sCh_w1 (by omega)]; first | (exact (sChB_a (H := sHouse σ (σ 36 t) (σ 32 t)) sHouse_15 (by show σ 12 (σ 36 t) = 4; omega) (by omega) (by show 0 < σ 7 _; omega)).symm) | (exact (sChB_b (H := sHouse σ (σ 36 t) (σ 32 t)) sHouse_15 (by show σ 12 (σ 36 t) = 4; omega) (by show ¬ (0 ≤ sHouse σ (σ 36 t) (σ 32 t) ∧ 0 < σ 7 (sHouse σ (σ 36 t) (σ 32 t))); omega)).symm) | (exact (sChB_c (by show ¬ σ 12 (σ 36 t) = 4; omega) (if_pos (by omega))).symm) | (exact (sChB_d (by show σ 12 (σ 36 t) = 2; omega) (by rw [if_neg (by omega)]; decide)).symm) | (exact (sChB_e (by show ¬ σ 12 (σ 36 t) = 4; omega) (by show ¬ σ 12 (σ 36 t) = 2; omega) (by rw [if_neg (by omega)]; decide) (by show 0 ≤ σ 12 (σ 36 t); omega)).symm)) | (rw [sCh_w0 (by omega)]; first | (exact (sChB_a rfl (by omega) (by omega) (by omega)).symm) | (exact (sChB_b rfl (by omega) (by omega)).symm) | (exact (sChB_d (by omega) (by decide)).symm) | (exact (sChB_e (by omega) (by omega) (by decide) (by omega)).symm))
          · refine x_iconst B dX11_charges_139 ?_
            refine x_goto (tgt := 150) B dX11_charges_140 (by decide) ?_
            refine mo_st (k := 42) E hM hS rfl (by have h9 : mLn 42 = 600 := rfl; omega) (by decide) (by omega) dX11_charges_150 (fun H locs hM hS => ?_)
            refine x_aload_n B hl dX11_charges_151 rfl ?_
            refine mo_geta E hM 43 0 rfl (hts (.fieldLink RX11 117 "BinRoundsModel" "rate" "[I") (by decide +kernel)) rfl dX11_charges_152 ?_
            refine x_iload_n B hl dX11_charges_155 rfl ?_
            refine x_iload B hl dX11_charges_156 rfl ?_
            refine x_if_ge (tgt := 165) B dX11_charges_158 (by decide) (by omega) (fun c_158 => ?_) (fun c_158 => ?_)
            · refine x_aload_n B hl dX11_charges_165 rfl ?_
              refine mo_geta E hM 29 0 rfl (hts (.fieldLink RX11 81 "BinRoundsModel" "rates" "[I") (by decide +kernel)) rfl dX11_charges_166 ?_
              refine x_iload B hl dX11_charges_169 rfl ?_
              refine mo_ld (k := 29) E hM rfl (by have h9 : mLn 29 = 5 := rfl; omega) (by decide) dX11_charges_171 (up_ne (by decide) (up_ne (by decide) rfl)) (fun r_171 => ?_)
              refine mo_st (k := 43) E hM hS rfl (by have h9 : mLn 43 = 600 := rfl; omega) (by decide) (by omega) dX11_charges_172 (fun H locs hM hS => ?_)
              refine x_aload_n B hl dX11_charges_173 rfl ?_
              refine mo_geta E hM 40 1 rfl (hts (.fieldLink RX11 108 "BinRoundsModel" "isCharged" "[Z") (by decide +kernel)) rfl dX11_charges_174 ?_
              refine x_iload_n B hl dX11_charges_177 rfl ?_
              refine x_iconst B dX11_charges_178 ?_
              refine mo_zst (k := 40) E hM hS rfl (by have h9 : mLn 40 = 600 := rfl; omega) (by decide) (by omega) dX11_charges_179 (fun H locs hM hS => ?_)
              refine mo_vret E hr hlk hM hS dX11_charges_180 ?_ trivial
              first | (exfalso; omega) | (rw [sCh_w1 (by omega)]; first | (exact (sChB_a (H := sHouse σ (σ 36 t) (σ 32 t)) sHouse_15 (by show σ 12 (σ 36 t) = 4; omega) (by omega) (by show 0 < σ 7 _; omega)).symm) | (exact (sChB_b (H := sHouse σ (σ 36 t) (σ 32 t)) sHouse_15 (by show σ 12 (σ 36 t) = 4; omega) (by show ¬ (0 ≤ sHouse σ (σ 36 t) (σ 32 t) ∧ 0 < σ 7 (sHouse σ (σ 36 t) (σ 32 t))); omega)).symm) | (exact (sChB_c (by show ¬ σ 12 (σ 36 t) = 4; omega) (if_pos (by omega))).symm) | (exact (sChB_d (by show σ 12 (σ 36 t) = 2; omega) (by rw [if_neg (by omega)]; decide)).symm) | (exact (sChB_e (by show ¬ σ 12 (σ 36 t) = 4; omega) (by show ¬ σ 12 (σ 36 t) = 2; omega) (by rw [if_neg (by omega)]; decide) (by show 0 ≤ σ 12 (σ 36 t); omega)).symm)) | (rw [sCh_w0 (by omega)]; first | (exact (sChB_a rfl (by omega) (by omega) (by omega)).symm) | (exact (sChB_b rfl (by omega) (by omega)).symm) | (exact (sChB_d (by omega) (by decide)).symm) | (exact (sChB_e (by omega) (by omega) (by decide) (by omega)).symm))
            · refine x_iconst B dX11_charges_161 ?_
              refine x_goto (tgt := 172) B dX11_charges_162 (by decide) ?_
              refine mo_st (k := 43) E hM hS rfl (by have h9 : mLn 43 = 600 := rfl; omega) (by decide) (by omega) dX11_charges_172 (fun H locs hM hS => ?_)
              refine x_aload_n B hl dX11_charges_173 rfl ?_
              refine mo_geta E hM 40 1 rfl (hts (.fieldLink RX11 108 "BinRoundsModel" "isCharged" "[Z") (by decide +kernel)) rfl dX11_charges_174 ?_
              refine x_iload_n B hl dX11_charges_177 rfl ?_
              refine x_iconst B dX11_charges_178 ?_
              refine mo_zst (k := 40) E hM hS rfl (by have h9 : mLn 40 = 600 := rfl; omega) (by decide) (by omega) dX11_charges_179 (fun H locs hM hS => ?_)
              refine mo_vret E hr hlk hM hS dX11_charges_180 ?_ trivial
              first | (exfalso; omega) | (rw [sCh_w1 (by omega)]; first | (exact (sChB_a (H := sHouse σ (σ 36 t) (σ 32 t)) sHouse_15 (by show σ 12 (σ 36 t) = 4; omega) (by omega) (by show 0 < σ 7 _; omega)).symm) | (exact (sChB_b (H := sHouse σ (σ 36 t) (σ 32 t)) sHouse_15 (by show σ 12 (σ 36 t) = 4; omega) (by show ¬ (0 ≤ sHouse σ (σ 36 t) (σ 32 t) ∧ 0 < σ 7 (sHouse σ (σ 36 t) (σ 32 t))); omega)).symm) | (exact (sChB_c (by show ¬ σ 12 (σ 36 t) = 4; omega) (if_pos (by omega))).symm) | (exact (sChB_d (by show σ 12 (σ 36 t) = 2; omega) (by rw [if_neg (by omega)]; decide)).symm) | (exact (sChB_e (by show ¬ σ 12 (σ 36 t) = 4; omega) (by show ¬ σ 12 (σ 36 t) = 2; omega) (by rw [if_neg (by omega)]; decide) (by show 0 ≤ σ 12 (σ 36 t); omega)).symm)) | (rw [sCh_w0 (by omega)]; first | (exact (sChB_a rfl (by omega) (by omega) (by omega)).symm) | (exact (sChB_b rfl (by omega) (by omega)).symm) | (exact (sChB_d (by omega) (by decide)).symm) | (exact (sChB_e (by omega) (by omega) (by decide) (by omega)).symm))
        · refine x_aload_n B hl dX11_charges_83 rfl ?_
          refine mo_geta E hM 7 0 rfl (hts (.fieldLink RX11 23 "BinRoundsModel" "bands" "[I") (by decide +kernel)) rfl dX11_charges_84 ?_
          refine x_iload B hl dX11_charges_87 rfl ?_
          refine mo_ld (k := 7) E hM rfl (by have h9 : mLn 7 = 60 := rfl; omega) (by decide) dX11_charges_89 (up_ne (by decide) rfl) (fun r_89 => ?_)
          refine x_if_le (tgt := 107) B dX11_charges_90 (by decide) (by omega) (fun c_90 => ?_) (fun c_90 => ?_)
          · refine x_goto (tgt := 129) B dX11_charges_107 (by decide) ?_
            refine x_aload_n B hl dX11_charges_129 rfl ?_
            refine mo_geta E hM 42 0 rfl (hts (.fieldLink RX11 114 "BinRoundsModel" "lift" "[I") (by decide +kernel)) rfl dX11_charges_130 ?_
            refine x_iload_n B hl dX11_charges_133 rfl ?_
            refine x_iload B hl dX11_charges_134 rfl ?_
            refine x_if_ge (tgt := 143) B dX11_charges_136 (by decide) (by omega) (fun c_136 => ?_) (fun c_136 => ?_)
            · refine x_aload_n B hl dX11_charges_143 rfl ?_
              refine mo_geta E hM 28 0 rfl (hts (.fieldLink RX11 78 "BinRoundsModel" "lifts" "[I") (by decide +kernel)) rfl dX11_charges_144 ?_
              refine x_iload B hl dX11_charges_147 rfl ?_
              refine mo_ld (k := 28) E hM rfl (by have h9 : mLn 28 = 5 := rfl; omega) (by decide) dX11_charges_149 (up_ne (by decide) rfl) (fun r_149 => ?_)
              refine mo_st (k := 42) E hM hS rfl (by have h9 : mLn 42 = 600 := rfl; omega) (by decide) (by omega) dX11_charges_150 (fun H locs hM hS => ?_)
              refine x_aload_n B hl dX11_charges_151 rfl ?_
              refine mo_geta E hM 43 0 rfl (hts (.fieldLink RX11 117 "BinRoundsModel" "rate" "[I") (by decide +kernel)) rfl dX11_charges_152 ?_
              refine x_iload_n B hl dX11_charges_155 rfl ?_
              refine x_iload B hl dX11_charges_156 rfl ?_
              refine x_if_ge (tgt := 165) B dX11_charges_158 (by decide) (by omega) (fun c_158 => ?_) (fun c_158 => ?_)
              · refine x_aload_n B hl dX11_charges_165 rfl ?_
                refine mo_geta E hM 29 0 rfl (hts (.fieldLink RX11 81 "BinRoundsModel" "rates" "[I") (by decide +kernel)) rfl dX11_charges_166 ?_
                refine x_iload B hl dX11_charges_169 rfl ?_
                refine mo_ld (k := 29) E hM rfl (by have h9 : mLn 29 = 5 := rfl; omega) (by decide) dX11_charges_171 (up_ne (by decide) (up_ne (by decide) rfl)) (fun r_171 => ?_)
                refine mo_st (k := 43) E hM hS rfl (by have h9 : mLn 43 = 600 := rfl; omega) (by decide) (by omega) dX11_charges_172 (fun H locs hM hS => ?_)
                refine x_aload_n B hl dX11_charges_173 rfl ?_
                refine mo_geta E hM 40 1 rfl (hts (.fieldLink RX11 108 "BinRoundsModel" "isCharged" "[Z") (by decide +kernel)) rfl dX11_charges_174 ?_
                refine x_iload_n B hl dX11_charges_177 rfl ?_
                refine x_iconst B dX11_charges_178 ?_
                refine mo_zst (k := 40) E hM hS rfl (by have h9 : mLn 40 = 600 := rfl; omega) (by decide) (by omega) dX11_charges_179 (fun H locs hM hS => ?_)
                refine mo_vret E hr hlk hM hS dX11_charges_180 ?_ trivial
                first | (exfalso; omega) | (rw [sCh_w1 (by omega)]; first | (exact (sChB_a (H := sHouse σ (σ 36 t) (σ 32 t)) sHouse_15 (by show σ 12 (σ 36 t) = 4; omega) (by omega) (by show 0 < σ 7 _; omega)).symm) | (exact (sChB_b (H := sHouse σ (σ 36 t) (σ 32 t)) sHouse_15 (by show σ 12 (σ 36 t) = 4; omega) (by show ¬ (0 ≤ sHouse σ (σ 36 t) (σ 32 t) ∧ 0 < σ 7 (sHouse σ (σ 36 t) (σ 32 t))); omega)).symm) | (exact (sChB_c (by show ¬ σ 12 (σ 36 t) = 4; omega) (if_pos (by omega))).symm) | (exact (sChB_d (by show σ 12 (σ 36 t) = 2; omega) (by rw [if_neg (by omega)]; decide)).symm) | (exact (sChB_e (by show ¬ σ 12 (σ 36 t) = 4; omega) (by show ¬ σ 12 (σ 36 t) = 2; omega) (by rw [if_neg (by omega)]; decide) (by show 0 ≤ σ 12 (σ 36 t); omega)).symm)) | (rw [sCh_w0 (by omega)]; first | (exact (sChB_a rfl (by omega) (by omega) (by omega)).symm) | (exact (sChB_b rfl (by omega) (by omega)).symm) | (exact (sChB_d (by omega) (by decide)).symm) | (exact (sChB_e (by omega) (by omega) (by decide) (by omega)).symm))
              · refine x_iconst B dX11_charges_161 ?_
                refine x_goto (tgt := 172) B dX11_charges_162 (by decide) ?_
                refine mo_st (k := 43) E hM hS rfl (by have h9 : mLn 43 = 600 := rfl; omega) (by decide) (by omega) dX11_charges_172 (fun H locs hM hS => ?_)
                refine x_aload_n B hl dX11_charges_173 rfl ?_
                refine mo_geta E hM 40 1 rfl (hts (.fieldLink RX11 108 "BinRoundsModel" "isCharged" "[Z") (by decide +kernel)) rfl dX11_charges_174 ?_
                refine x_iload_n B hl dX11_charges_177 rfl ?_
                refine x_iconst B dX11_charges_178 ?_
                refine mo_zst (k := 40) E hM hS rfl (by have h9 : mLn 40 = 600 := rfl; omega) (by decide) (by omega) dX11_charges_179 (fun H locs hM hS => ?_)
                refine mo_vret E hr hlk hM hS dX11_charges_180 ?_ trivial
                first | (exfalso; omega) | (rw [sCh_w1 (by omega)]; first | (exact (sChB_a (H := sHouse σ (σ 36 t) (σ 32 t)) sHouse_15 (by show σ 12 (σ 36 t) = 4; omega) (by omega) (by show 0 < σ 7 _; omega)).symm) | (exact (sChB_b (H := sHouse σ (σ 36 t) (σ 32 t)) sHouse_15 (by show σ 12 (σ 36 t) = 4; omega) (by show ¬ (0 ≤ sHouse σ (σ 36 t) (σ 32 t) ∧ 0 < σ 7 (sHouse σ (σ 36 t) (σ 32 t))); omega)).symm) | (exact (sChB_c (by show ¬ σ 12 (σ 36 t) = 4; omega) (if_pos (by omega))).symm) | (exact (sChB_d (by show σ 12 (σ 36 t) = 2; omega) (by rw [if_neg (by omega)]; decide)).symm) | (exact (sChB_e (by show ¬ σ 12 (σ 36 t) = 4; omega) (by show ¬ σ 12 (σ 36 t) = 2; omega) (by rw [if_neg (by omega)]; decide) (by show 0 ≤ σ 12 (σ 36 t); omega)).symm)) | (rw [sCh_w0 (by omega)]; first | (exact (sChB_a rfl (by omega) (by omega) (by omega)).symm) | (exact (sChB_b rfl (by omega) (by omega)).symm) | (exact (sChB_d (by omega) (by decide)).symm) | (exact (sChB_e (by omega) (by omega) (by decide) (by omega)).symm))
            · refine x_iconst B dX11_charges_139 ?_
              refine x_goto (tgt := 150) B dX11_charges_140 (by decide) ?_
              refine mo_st (k := 42) E hM hS rfl (by have h9 : mLn 42 = 600 := rfl; omega) (by decide) (by omega) dX11_charges_150 (fun H locs hM hS => ?_)
              refine x_aload_n B hl dX11_charges_151 rfl ?_
              refine mo_geta E hM 43 0 rfl (hts (.fieldLink RX11 117 "BinRoundsModel" "rate" "[I") (by decide +kernel)) rfl dX11_charges_152 ?_
              refine x_iload_n B hl dX11_charges_155 rfl ?_
              refine x_iload B hl dX11_charges_156 rfl ?_
              refine x_if_ge (tgt := 165) B dX11_charges_158 (by decide) (by omega) (fun c_158 => ?_) (fun c_158 => ?_)
              · refine x_aload_n B hl dX11_charges_165 rfl ?_
                refine mo_geta E hM 29 0 rfl (hts (.fieldLink RX11 81 "BinRoundsModel" "rates" "[I") (by decide +kernel)) rfl dX11_charges_166 ?_
                refine x_iload B hl dX11_charges_169 rfl ?_
                refine mo_ld (k := 29) E hM rfl (by have h9 : mLn 29 = 5 := rfl; omega) (by decide) dX11_charges_171 (up_ne (by decide) (up_ne (by decide) rfl)) (fun r_171 => ?_)
                refine mo_st (k := 43) E hM hS rfl (by have h9 : mLn 43 = 600 := rfl; omega) (by decide) (by omega) dX11_charges_172 (fun H locs hM hS => ?_)
                refine x_aload_n B hl dX11_charges_173 rfl ?_
                refine mo_geta E hM 40 1 rfl (hts (.fieldLink RX11 108 "BinRoundsModel" "isCharged" "[Z") (by decide +kernel)) rfl dX11_charges_174 ?_
                refine x_iload_n B hl dX11_charges_177 rfl ?_
                refine x_iconst B dX11_charges_178 ?_
                refine mo_zst (k := 40) E hM hS rfl (by have h9 : mLn 40 = 600 := rfl; omega) (by decide) (by omega) dX11_charges_179 (fun H locs hM hS => ?_)
                refine mo_vret E hr hlk hM hS dX11_charges_180 ?_ trivial
                first | (exfalso; omega) | (rw [sCh_w1 (by omega)]; first | (exact (sChB_a (H := sHouse σ (σ 36 t) (σ 32 t)) sHouse_15 (by show σ 12 (σ 36 t) = 4; omega) (by omega) (by show 0 < σ 7 _; omega)).symm) | (exact (sChB_b (H := sHouse σ (σ 36 t) (σ 32 t)) sHouse_15 (by show σ 12 (σ 36 t) = 4; omega) (by show ¬ (0 ≤ sHouse σ (σ 36 t) (σ 32 t) ∧ 0 < σ 7 (sHouse σ (σ 36 t) (σ 32 t))); omega)).symm) | (exact (sChB_c (by show ¬ σ 12 (σ 36 t) = 4; omega) (if_pos (by omega))).symm) | (exact (sChB_d (by show σ 12 (σ 36 t) = 2; omega) (by rw [if_neg (by omega)]; decide)).symm) | (exact (sChB_e (by show ¬ σ 12 (σ 36 t) = 4; omega) (by show ¬ σ 12 (σ 36 t) = 2; omega) (by rw [if_neg (by omega)]; decide) (by show 0 ≤ σ 12 (σ 36 t); omega)).symm)) | (rw [sCh_w0 (by omega)]; first | (exact (sChB_a rfl (by omega) (by omega) (by omega)).symm) | (exact (sChB_b rfl (by omega) (by omega)).symm) | (exact (sChB_d (by omega) (by decide)).symm) | (exact (sChB_e (by omega) (by omega) (by decide) (by omega)).symm))
              · refine x_iconst B dX11_charges_161 ?_
                refine x_goto (tgt := 172) B dX11_charges_162 (by decide) ?_
                refine mo_st (k := 43) E hM hS rfl (by have h9 : mLn 43 = 600 := rfl; omega) (by decide) (by omega) dX11_charges_172 (fun H locs hM hS => ?_)
                refine x_aload_n B hl dX11_charges_173 rfl ?_
                refine mo_geta E hM 40 1 rfl (hts (.fieldLink RX11 108 "BinRoundsModel" "isCharged" "[Z") (by decide +kernel)) rfl dX11_charges_174 ?_
                refine x_iload_n B hl dX11_charges_177 rfl ?_
                refine x_iconst B dX11_charges_178 ?_
                refine mo_zst (k := 40) E hM hS rfl (by have h9 : mLn 40 = 600 := rfl; omega) (by decide) (by omega) dX11_charges_179 (fun H locs hM hS => ?_)
                refine mo_vret E hr hlk hM hS dX11_charges_180 ?_ trivial
                first | (exfalso; omega) | (rw [sCh_w1 (by omega)]; first | (exact (sChB_a (H := sHouse σ (σ 36 t) (σ 32 t)) sHouse_15 (by show σ 12 (σ 36 t) = 4; omega) (by omega) (by show 0 < σ 7 _; omega)).symm) | (exact (sChB_b (H := sHouse σ (σ 36 t) (σ 32 t)) sHouse_15 (by show σ 12 (σ 36 t) = 4; omega) (by show ¬ (0 ≤ sHouse σ (σ 36 t) (σ 32 t) ∧ 0 < σ 7 (sHouse σ (σ 36 t) (σ 32 t))); omega)).symm) | (exact (sChB_c (by show ¬ σ 12 (σ 36 t) = 4; omega) (if_pos (by omega))).symm) | (exact (sChB_d (by show σ 12 (σ 36 t) = 2; omega) (by rw [if_neg (by omega)]; decide)).symm) | (exact (sChB_e (by show ¬ σ 12 (σ 36 t) = 4; omega) (by show ¬ σ 12 (σ 36 t) = 2; omega) (by rw [if_neg (by omega)]; decide) (by show 0 ≤ σ 12 (σ 36 t); omega)).symm)) | (rw [sCh_w0 (by omega)]; first | (exact (sChB_a rfl (by omega) (by omega) (by omega)).symm) | (exact (sChB_b rfl (by omega) (by omega)).symm) | (exact (sChB_d (by omega) (by decide)).symm) | (exact (sChB_e (by omega) (by omega) (by decide) (by omega)).symm))
          · refine x_aload_n B hl dX11_charges_93 rfl ?_
            refine mo_geta E hM 7 0 rfl (hts (.fieldLink RX11 23 "BinRoundsModel" "bands" "[I") (by decide +kernel)) rfl dX11_charges_94 ?_
            refine x_iload B hl dX11_charges_97 rfl ?_
            refine lv_dup2_11 B.1 B.2 dX11_charges_99 rfl rfl ?_
            refine mo_ld (k := 7) E hM rfl (by have h9 : mLn 7 = 60 := rfl; omega) (by decide) dX11_charges_100 (up_ne (by decide) rfl) (fun r_100 => ?_)
            refine x_iconst B dX11_charges_101 ?_
            refine x_isub B dX11_charges_102 ?_
            refine mo_st (k := 7) E hM hS rfl (by have h9 : mLn 7 = 60 := rfl; omega) (by decide) (by omega) dX11_charges_103 (fun H locs hM hS => ?_)
            refine x_iconst B dX11_charges_104 ?_
            refine x_istore B hl dX11_charges_105 (by decide) (fun ls hl => ?_)
            refine x_goto (tgt := 129) B dX11_charges_107 (by decide) ?_
            refine x_aload_n B hl dX11_charges_129 rfl ?_
            refine mo_geta E hM 42 0 rfl (hts (.fieldLink RX11 114 "BinRoundsModel" "lift" "[I") (by decide +kernel)) rfl dX11_charges_130 ?_
            refine x_iload_n B hl dX11_charges_133 rfl ?_
            refine x_iload B hl dX11_charges_134 rfl ?_
            refine x_if_ge_f (tgt := 143) B dX11_charges_136 (by decide) (by decide) ?_
            refine x_iconst B dX11_charges_139 ?_
            refine x_goto (tgt := 150) B dX11_charges_140 (by decide) ?_
            refine mo_st (k := 42) E hM hS rfl (by have h9 : mLn 42 = 600 := rfl; omega) (by decide) (by omega) dX11_charges_150 (fun H locs hM hS => ?_)
            refine x_aload_n B hl dX11_charges_151 rfl ?_
            refine mo_geta E hM 43 0 rfl (hts (.fieldLink RX11 117 "BinRoundsModel" "rate" "[I") (by decide +kernel)) rfl dX11_charges_152 ?_
            refine x_iload_n B hl dX11_charges_155 rfl ?_
            refine x_iload B hl dX11_charges_156 rfl ?_
            refine x_if_ge_f (tgt := 165) B dX11_charges_158 (by decide) (by decide) ?_
            refine x_iconst B dX11_charges_161 ?_
            refine x_goto (tgt := 172) B dX11_charges_162 (by decide) ?_
            refine mo_st (k := 43) E hM hS rfl (by have h9 : mLn 43 = 600 := rfl; omega) (by decide) (by omega) dX11_charges_172 (fun H locs hM hS => ?_)
            refine x_aload_n B hl dX11_charges_173 rfl ?_
            refine mo_geta E hM 40 1 rfl (hts (.fieldLink RX11 108 "BinRoundsModel" "isCharged" "[Z") (by decide +kernel)) rfl dX11_charges_174 ?_
            refine x_iload_n B hl dX11_charges_177 rfl ?_
            refine x_iconst B dX11_charges_178 ?_
            refine mo_zst (k := 40) E hM hS rfl (by have h9 : mLn 40 = 600 := rfl; omega) (by decide) (by omega) dX11_charges_179 (fun H locs hM hS => ?_)
            refine mo_vret E hr hlk hM hS dX11_charges_180 ?_ trivial
            first | (exfalso; omega) | (rw [sCh_w1 (by omega)]; first | (exact (sChB_a (H := sHouse σ (σ 36 t) (σ 32 t)) sHouse_15 (by show σ 12 (σ 36 t) = 4; omega) (by omega) (by show 0 < σ 7 _; omega)).symm) | (exact (sChB_b (H := sHouse σ (σ 36 t) (σ 32 t)) sHouse_15 (by show σ 12 (σ 36 t) = 4; omega) (by show ¬ (0 ≤ sHouse σ (σ 36 t) (σ 32 t) ∧ 0 < σ 7 (sHouse σ (σ 36 t) (σ 32 t))); omega)).symm) | (exact (sChB_c (by show ¬ σ 12 (σ 36 t) = 4; omega) (if_pos (by omega))).symm) | (exact (sChB_d (by show σ 12 (σ 36 t) = 2; omega) (by rw [if_neg (by omega)]; decide)).symm) | (exact (sChB_e (by show ¬ σ 12 (σ 36 t) = 4; omega) (by show ¬ σ 12 (σ 36 t) = 2; omega) (by rw [if_neg (by omega)]; decide) (by show 0 ≤ σ 12 (σ 36 t); omega)).symm)) | (rw [sCh_w0 (by omega)]; first | (exact (sChB_a rfl (by omega) (by omega) (by omega)).symm) | (exact (sChB_b rfl (by omega) (by omega)).symm) | (exact (sChB_d (by omega) (by decide)).symm) | (exact (sChB_e (by omega) (by omega) (by decide) (by omega)).symm))
    · refine x_aload_n B hl dX11_charges_35 rfl ?_
      refine mo_geta E hM 15 0 rfl (hts (.fieldLink RX11 45 "BinRoundsModel" "wrongs" "[I") (by decide +kernel)) rfl dX11_charges_36 ?_
      refine x_iload_n B hl dX11_charges_39 rfl ?_
      refine mo_ld (k := 15) E hM rfl (by have h9 : mLn 15 = 120 := rfl; omega) (by decide) dX11_charges_40 up_s (fun r_40 => ?_)
      refine x_iconst B dX11_charges_41 ?_
      refine x_icmp_le (tgt := 49) B dX11_charges_42 (by decide) (by omega) (by omega) (fun c_42 => ?_) (fun c_42 => ?_)
      · refine x_iconst B dX11_charges_49 ?_
        refine x_istore_n B hl dX11_charges_50 (by decide) (fun ls hl => ?_)
        refine x_aload_n B hl dX11_charges_51 rfl ?_
        refine mo_geta E hM 12 0 rfl (hts (.fieldLink RX11 36 "BinRoundsModel" "kind" "[I") (by decide +kernel)) rfl dX11_charges_52 ?_
        refine x_iload_n B hl dX11_charges_55 rfl ?_
        refine mo_ld (k := 12) E hM rfl (by have h9 : mLn 12 = 120 := rfl; omega) (by decide) dX11_charges_56 (up_ne (by decide) rfl) (fun r_56 => ?_)
        refine x_istore B hl dX11_charges_57 (by decide) (fun ls hl => ?_)
        refine x_iload B hl dX11_charges_59 rfl ?_
        refine x_iconst B dX11_charges_61 ?_
        refine x_icmp_ne (tgt := 110) B dX11_charges_62 (by decide) (by omega) (by omega) (fun c_62 => ?_) (fun c_62 => ?_)
        · refine x_iload_n B hl dX11_charges_110 rfl ?_
          refine x_if_eq_t (tgt := 120) B dX11_charges_111 (by decide) (by decide) ?_
          refine x_iload B hl dX11_charges_120 rfl ?_
          refine x_iconst B dX11_charges_122 ?_
          refine x_icmp_ne (tgt := 129) B dX11_charges_123 (by decide) (by omega) (by omega) (fun c_123 => ?_) (fun c_123 => ?_)
          · refine x_aload_n B hl dX11_charges_129 rfl ?_
            refine mo_geta E hM 42 0 rfl (hts (.fieldLink RX11 114 "BinRoundsModel" "lift" "[I") (by decide +kernel)) rfl dX11_charges_130 ?_
            refine x_iload_n B hl dX11_charges_133 rfl ?_
            refine x_iload B hl dX11_charges_134 rfl ?_
            refine x_if_ge (tgt := 143) B dX11_charges_136 (by decide) (by omega) (fun c_136 => ?_) (fun c_136 => ?_)
            · refine x_aload_n B hl dX11_charges_143 rfl ?_
              refine mo_geta E hM 28 0 rfl (hts (.fieldLink RX11 78 "BinRoundsModel" "lifts" "[I") (by decide +kernel)) rfl dX11_charges_144 ?_
              refine x_iload B hl dX11_charges_147 rfl ?_
              refine mo_ld (k := 28) E hM rfl (by have h9 : mLn 28 = 5 := rfl; omega) (by decide) dX11_charges_149 (up_ne (by decide) rfl) (fun r_149 => ?_)
              refine mo_st (k := 42) E hM hS rfl (by have h9 : mLn 42 = 600 := rfl; omega) (by decide) (by omega) dX11_charges_150 (fun H locs hM hS => ?_)
              refine x_aload_n B hl dX11_charges_151 rfl ?_
              refine mo_geta E hM 43 0 rfl (hts (.fieldLink RX11 117 "BinRoundsModel" "rate" "[I") (by decide +kernel)) rfl dX11_charges_152 ?_
              refine x_iload_n B hl dX11_charges_155 rfl ?_
              refine x_iload B hl dX11_charges_156 rfl ?_
              refine x_if_ge (tgt := 165) B dX11_charges_158 (by decide) (by omega) (fun c_158 => ?_) (fun c_158 => ?_)
              · refine x_aload_n B hl dX11_charges_165 rfl ?_
                refine mo_geta E hM 29 0 rfl (hts (.fieldLink RX11 81 "BinRoundsModel" "rates" "[I") (by decide +kernel)) rfl dX11_charges_166 ?_
                refine x_iload B hl dX11_charges_169 rfl ?_
                refine mo_ld (k := 29) E hM rfl (by have h9 : mLn 29 = 5 := rfl; omega) (by decide) dX11_charges_171 (up_ne (by decide) (up_ne (by decide) rfl)) (fun r_171 => ?_)
                refine mo_st (k := 43) E hM hS rfl (by have h9 : mLn 43 = 600 := rfl; omega) (by decide) (by omega) dX11_charges_172 (fun H locs hM hS => ?_)
                refine x_aload_n B hl dX11_charges_173 rfl ?_
                refine mo_geta E hM 40 1 rfl (hts (.fieldLink RX11 108 "BinRoundsModel" "isCharged" "[Z") (by decide +kernel)) rfl dX11_charges_174 ?_
                refine x_iload_n B hl dX11_charges_177 rfl ?_
                refine x_iconst B dX11_charges_178 ?_
                refine mo_zst (k := 40) E hM hS rfl (by have h9 : mLn 40 = 600 := rfl; omega) (by decide) (by omega) dX11_charges_179 (fun H locs hM hS => ?_)
                refine mo_vret E hr hlk hM hS dX11_charges_180 ?_ trivial
                first | (exfalso; omega) | (rw [sCh_w1 (by omega)]; first | (exact (sChB_a (H := sHouse σ (σ 36 t) (σ 32 t)) sHouse_15 (by show σ 12 (σ 36 t) = 4; omega) (by omega) (by show 0 < σ 7 _; omega)).symm) | (exact (sChB_b (H := sHouse σ (σ 36 t) (σ 32 t)) sHouse_15 (by show σ 12 (σ 36 t) = 4; omega) (by show ¬ (0 ≤ sHouse σ (σ 36 t) (σ 32 t) ∧ 0 < σ 7 (sHouse σ (σ 36 t) (σ 32 t))); omega)).symm) | (exact (sChB_c (by show ¬ σ 12 (σ 36 t) = 4; omega) (if_pos (by omega))).symm) | (exact (sChB_d (by show σ 12 (σ 36 t) = 2; omega) (by rw [if_neg (by omega)]; decide)).symm) | (exact (sChB_e (by show ¬ σ 12 (σ 36 t) = 4; omega) (by show ¬ σ 12 (σ 36 t) = 2; omega) (by rw [if_neg (by omega)]; decide) (by show 0 ≤ σ 12 (σ 36 t); omega)).symm)) | (rw [sCh_w0 (by omega)]; first | (exact (sChB_a rfl (by omega) (by omega) (by omega)).symm) | (exact (sChB_b rfl (by omega) (by omega)).symm) | (exact (sChB_d (by omega) (by decide)).symm) | (exact (sChB_e (by omega) (by omega) (by decide) (by omega)).symm))
              · refine x_iconst B dX11_charges_161 ?_
                refine x_goto (tgt := 172) B dX11_charges_162 (by decide) ?_
                refine mo_st (k := 43) E hM hS rfl (by have h9 : mLn 43 = 600 := rfl; omega) (by decide) (by omega) dX11_charges_172 (fun H locs hM hS => ?_)
                refine x_aload_n B hl dX11_charges_173 rfl ?_
                refine mo_geta E hM 40 1 rfl (hts (.fieldLink RX11 108 "BinRoundsModel" "isCharged" "[Z") (by decide +kernel)) rfl dX11_charges_174 ?_
                refine x_iload_n B hl dX11_charges_177 rfl ?_
                refine x_iconst B dX11_charges_178 ?_
                refine mo_zst (k := 40) E hM hS rfl (by have h9 : mLn 40 = 600 := rfl; omega) (by decide) (by omega) dX11_charges_179 (fun H locs hM hS => ?_)
                refine mo_vret E hr hlk hM hS dX11_charges_180 ?_ trivial
                first | (exfalso; omega) | (rw [sCh_w1 (by omega)]; first | (exact (sChB_a (H := sHouse σ (σ 36 t) (σ 32 t)) sHouse_15 (by show σ 12 (σ 36 t) = 4; omega) (by omega) (by show 0 < σ 7 _; omega)).symm) | (exact (sChB_b (H := sHouse σ (σ 36 t) (σ 32 t)) sHouse_15 (by show σ 12 (σ 36 t) = 4; omega) (by show ¬ (0 ≤ sHouse σ (σ 36 t) (σ 32 t) ∧ 0 < σ 7 (sHouse σ (σ 36 t) (σ 32 t))); omega)).symm) | (exact (sChB_c (by show ¬ σ 12 (σ 36 t) = 4; omega) (if_pos (by omega))).symm) | (exact (sChB_d (by show σ 12 (σ 36 t) = 2; omega) (by rw [if_neg (by omega)]; decide)).symm) | (exact (sChB_e (by show ¬ σ 12 (σ 36 t) = 4; omega) (by show ¬ σ 12 (σ 36 t) = 2; omega) (by rw [if_neg (by omega)]; decide) (by show 0 ≤ σ 12 (σ 36 t); omega)).symm)) | (rw [sCh_w0 (by omega)]; first | (exact (sChB_a rfl (by omega) (by omega) (by omega)).symm) | (exact (sChB_b rfl (by omega) (by omega)).symm) | (exact (sChB_d (by omega) (by decide)).symm) | (exact (sChB_e (by omega) (by omega) (by decide) (by omega)).symm))
            · refine x_iconst B dX11_charges_139 ?_
              refine x_goto (tgt := 150) B dX11_charges_140 (by decide) ?_
              refine mo_st (k := 42) E hM hS rfl (by have h9 : mLn 42 = 600 := rfl; omega) (by decide) (by omega) dX11_charges_150 (fun H locs hM hS => ?_)
              refine x_aload_n B hl dX11_charges_151 rfl ?_
              refine mo_geta E hM 43 0 rfl (hts (.fieldLink RX11 117 "BinRoundsModel" "rate" "[I") (by decide +kernel)) rfl dX11_charges_152 ?_
              refine x_iload_n B hl dX11_charges_155 rfl ?_
              refine x_iload B hl dX11_charges_156 rfl ?_
              refine x_if_ge (tgt := 165) B dX11_charges_158 (by decide) (by omega) (fun c_158 => ?_) (fun c_158 => ?_)
              · refine x_aload_n B hl dX11_charges_165 rfl ?_
                refine mo_geta E hM 29 0 rfl (hts (.fieldLink RX11 81 "BinRoundsModel" "rates" "[I") (by decide +kernel)) rfl dX11_charges_166 ?_
                refine x_iload B hl dX11_charges_169 rfl ?_
                refine mo_ld (k := 29) E hM rfl (by have h9 : mLn 29 = 5 := rfl; omega) (by decide) dX11_charges_171 (up_ne (by decide) (up_ne (by decide) rfl)) (fun r_171 => ?_)
                refine mo_st (k := 43) E hM hS rfl (by have h9 : mLn 43 = 600 := rfl; omega) (by decide) (by omega) dX11_charges_172 (fun H locs hM hS => ?_)
                refine x_aload_n B hl dX11_charges_173 rfl ?_
                refine mo_geta E hM 40 1 rfl (hts (.fieldLink RX11 108 "BinRoundsModel" "isCharged" "[Z") (by decide +kernel)) rfl dX11_charges_174 ?_
                refine x_iload_n B hl dX11_charges_177 rfl ?_
                refine x_iconst B dX11_charges_178 ?_
                refine mo_zst (k := 40) E hM hS rfl (by have h9 : mLn 40 = 600 := rfl; omega) (by decide) (by omega) dX11_charges_179 (fun H locs hM hS => ?_)
                refine mo_vret E hr hlk hM hS dX11_charges_180 ?_ trivial
                first | (exfalso; omega) | (rw [sCh_w1 (by omega)]; first | (exact (sChB_a (H := sHouse σ (σ 36 t) (σ 32 t)) sHouse_15 (by show σ 12 (σ 36 t) = 4; omega) (by omega) (by show 0 < σ 7 _; omega)).symm) | (exact (sChB_b (H := sHouse σ (σ 36 t) (σ 32 t)) sHouse_15 (by show σ 12 (σ 36 t) = 4; omega) (by show ¬ (0 ≤ sHouse σ (σ 36 t) (σ 32 t) ∧ 0 < σ 7 (sHouse σ (σ 36 t) (σ 32 t))); omega)).symm) | (exact (sChB_c (by show ¬ σ 12 (σ 36 t) = 4; omega) (if_pos (by omega))).symm) | (exact (sChB_d (by show σ 12 (σ 36 t) = 2; omega) (by rw [if_neg (by omega)]; decide)).symm) | (exact (sChB_e (by show ¬ σ 12 (σ 36 t) = 4; omega) (by show ¬ σ 12 (σ 36 t) = 2; omega) (by rw [if_neg (by omega)]; decide) (by show 0 ≤ σ 12 (σ 36 t); omega)).symm)) | (rw [sCh_w0 (by omega)]; first | (exact (sChB_a rfl (by omega) (by omega) (by omega)).symm) | (exact (sChB_b rfl (by omega) (by omega)).symm) | (exact (sChB_d (by omega) (by decide)).symm) | (exact (sChB_e (by omega) (by omega) (by decide) (by omega)).symm))
              · refine x_iconst B dX11_charges_161 ?_
                refine x_goto (tgt := 172) B dX11_charges_162 (by decide) ?_
                refine mo_st (k := 43) E hM hS rfl (by have h9 : mLn 43 = 600 := rfl; omega) (by decide) (by omega) dX11_charges_172 (fun H locs hM hS => ?_)
                refine x_aload_n B hl dX11_charges_173 rfl ?_
                refine mo_geta E hM 40 1 rfl (hts (.fieldLink RX11 108 "BinRoundsModel" "isCharged" "[Z") (by decide +kernel)) rfl dX11_charges_174 ?_
                refine x_iload_n B hl dX11_charges_177 rfl ?_
                refine x_iconst B dX11_charges_178 ?_
                refine mo_zst (k := 40) E hM hS rfl (by have h9 : mLn 40 = 600 := rfl; omega) (by decide) (by omega) dX11_charges_179 (fun H locs hM hS => ?_)
                refine mo_vret E hr hlk hM hS dX11_charges_180 ?_ trivial
                first | (exfalso; omega) | (rw [sCh_w1 (by omega)]; first | (exact (sChB_a (H := sHouse σ (σ 36 t) (σ 32 t)) sHouse_15 (by show σ 12 (σ 36 t) = 4; omega) (by omega) (by show 0 < σ 7 _; omega)).symm) | (exact (sChB_b (H := sHouse σ (σ 36 t) (σ 32 t)) sHouse_15 (by show σ 12 (σ 36 t) = 4; omega) (by show ¬ (0 ≤ sHouse σ (σ 36 t) (σ 32 t) ∧ 0 < σ 7 (sHouse σ (σ 36 t) (σ 32 t))); omega)).symm) | (exact (sChB_c (by show ¬ σ 12 (σ 36 t) = 4; omega) (if_pos (by omega))).symm) | (exact (sChB_d (by show σ 12 (σ 36 t) = 2; omega) (by rw [if_neg (by omega)]; decide)).symm) | (exact (sChB_e (by show ¬ σ 12 (σ 36 t) = 4; omega) (by show ¬ σ 12 (σ 36 t) = 2; omega) (by rw [if_neg (by omega)]; decide) (by show 0 ≤ σ 12 (σ 36 t); omega)).symm)) | (rw [sCh_w0 (by omega)]; first | (exact (sChB_a rfl (by omega) (by omega) (by omega)).symm) | (exact (sChB_b rfl (by omega) (by omega)).symm) | (exact (sChB_d (by omega) (by decide)).symm) | (exact (sChB_e (by omega) (by omega) (by decide) (by omega)).symm))
          · refine x_iconst B dX11_charges_126 ?_
            refine x_istore B hl dX11_charges_127 (by decide) (fun ls hl => ?_)
            refine x_aload_n B hl dX11_charges_129 rfl ?_
            refine mo_geta E hM 42 0 rfl (hts (.fieldLink RX11 114 "BinRoundsModel" "lift" "[I") (by decide +kernel)) rfl dX11_charges_130 ?_
            refine x_iload_n B hl dX11_charges_133 rfl ?_
            refine x_iload B hl dX11_charges_134 rfl ?_
            refine x_if_ge_f (tgt := 143) B dX11_charges_136 (by decide) (by decide) ?_
            refine x_iconst B dX11_charges_139 ?_
            refine x_goto (tgt := 150) B dX11_charges_140 (by decide) ?_
            refine mo_st (k := 42) E hM hS rfl (by have h9 : mLn 42 = 600 := rfl; omega) (by decide) (by omega) dX11_charges_150 (fun H locs hM hS => ?_)
            refine x_aload_n B hl dX11_charges_151 rfl ?_
            refine mo_geta E hM 43 0 rfl (hts (.fieldLink RX11 117 "BinRoundsModel" "rate" "[I") (by decide +kernel)) rfl dX11_charges_152 ?_
            refine x_iload_n B hl dX11_charges_155 rfl ?_
            refine x_iload B hl dX11_charges_156 rfl ?_
            refine x_if_ge_f (tgt := 165) B dX11_charges_158 (by decide) (by decide) ?_
            refine x_iconst B dX11_charges_161 ?_
            refine x_goto (tgt := 172) B dX11_charges_162 (by decide) ?_
            refine mo_st (k := 43) E hM hS rfl (by have h9 : mLn 43 = 600 := rfl; omega) (by decide) (by omega) dX11_charges_172 (fun H locs hM hS => ?_)
            refine x_aload_n B hl dX11_charges_173 rfl ?_
            refine mo_geta E hM 40 1 rfl (hts (.fieldLink RX11 108 "BinRoundsModel" "isCharged" "[Z") (by decide +kernel)) rfl dX11_charges_174 ?_
            refine x_iload_n B hl dX11_charges_177 rfl ?_
            refine x_iconst B dX11_charges_178 ?_
            refine mo_zst (k := 40) E hM hS rfl (by have h9 : mLn 40 = 600 := rfl; omega) (by decide) (by omega) dX11_charges_179 (fun H locs hM hS => ?_)
            refine mo_vret E hr hlk hM hS dX11_charges_180 ?_ trivial
            first | (exfalso; omega) | (rw [sCh_w1 (by omega)]; first | (exact (sChB_a (H := sHouse σ (σ 36 t) (σ 32 t)) sHouse_15 (by show σ 12 (σ 36 t) = 4; omega) (by omega) (by show 0 < σ 7 _; omega)).symm) | (exact (sChB_b (H := sHouse σ (σ 36 t) (σ 32 t)) sHouse_15 (by show σ 12 (σ 36 t) = 4; omega) (by show ¬ (0 ≤ sHouse σ (σ 36 t) (σ 32 t) ∧ 0 < σ 7 (sHouse σ (σ 36 t) (σ 32 t))); omega)).symm) | (exact (sChB_c (by show ¬ σ 12 (σ 36 t) = 4; omega) (if_pos (by omega))).symm) | (exact (sChB_d (by show σ 12 (σ 36 t) = 2; omega) (by rw [if_neg (by omega)]; decide)).symm) | (exact (sChB_e (by show ¬ σ 12 (σ 36 t) = 4; omega) (by show ¬ σ 12 (σ 36 t) = 2; omega) (by rw [if_neg (by omega)]; decide) (by show 0 ≤ σ 12 (σ 36 t); omega)).symm)) | (rw [sCh_w0 (by omega)]; first | (exact (sChB_a rfl (by omega) (by omega) (by omega)).symm) | (exact (sChB_b rfl (by omega) (by omega)).symm) | (exact (sChB_d (by omega) (by decide)).symm) | (exact (sChB_e (by omega) (by omega) (by decide) (by omega)).symm))
        · refine x_aload_n B hl dX11_charges_65 rfl ?_
          refine x_iload_n B hl dX11_charges_66 rfl ?_
          refine x_aload_n B hl dX11_charges_67 rfl ?_
          refine mo_geta E hM 32 0 rfl (hts (.fieldLink RX11 84 "BinRoundsModel" "dayOf" "[I") (by decide +kernel)) rfl dX11_charges_68 ?_
          refine x_iload_n B hl dX11_charges_71 rfl ?_
          refine mo_ld (k := 32) E hM rfl (by have h9 : mLn 32 = 600 := rfl; omega) (by decide) dX11_charges_72 (up_ne (by decide) rfl) (fun r_72 => ?_)
          refine mo_call E hM hS hl (m_houseOfc l D cy o ad _ σ (up_f (by decide)) (up_f (by decide)) (up_f (by decide)) hb (by omega) hm8) (cwV 2 hts0 gX11_charges_X11_houseOf rfl rfl rfl (by decide +kernel) ⟨Nat.le_of_ble_eq_true rfl, Nat.le_of_ble_eq_true rfl⟩) rfl rfl (Nat.le_of_ble_eq_true rfl) dX11_charges_73 ⟨Nat.zero_le _, Nat.zero_le _⟩ (fun H locs q_73 hM hS => ?_)
          have hh9 := sHouse_p hmh (σ 36 t) (σ 32 t)
          refine x_istore B hl dX11_charges_76 (by decide) (fun ls hl => ?_)
          refine x_iload B hl dX11_charges_78 rfl ?_
          refine x_if_lt (tgt := 107) B dX11_charges_80 (by decide) (by omega) (fun c_80 => ?_) (fun c_80 => ?_)
          · refine x_goto (tgt := 129) B dX11_charges_107 (by decide) ?_
            refine x_aload_n B hl dX11_charges_129 rfl ?_
            refine mo_geta E hM 42 0 rfl (hts (.fieldLink RX11 114 "BinRoundsModel" "lift" "[I") (by decide +kernel)) rfl dX11_charges_130 ?_
            refine x_iload_n B hl dX11_charges_133 rfl ?_
            refine x_iload B hl dX11_charges_134 rfl ?_
            refine x_if_ge (tgt := 143) B dX11_charges_136 (by decide) (by omega) (fun c_136 => ?_) (fun c_136 => ?_)
            · refine x_aload_n B hl dX11_charges_143 rfl ?_
              refine mo_geta E hM 28 0 rfl (hts (.fieldLink RX11 78 "BinRoundsModel" "lifts" "[I") (by decide +kernel)) rfl dX11_charges_144 ?_
              refine x_iload B hl dX11_charges_147 rfl ?_
              refine mo_ld (k := 28) E hM rfl (by have h9 : mLn 28 = 5 := rfl; omega) (by decide) dX11_charges_149 (up_ne (by decide) rfl) (fun r_149 => ?_)
              refine mo_st (k := 42) E hM hS rfl (by have h9 : mLn 42 = 600 := rfl; omega) (by decide) (by omega) dX11_charges_150 (fun H locs hM hS => ?_)
              refine x_aload_n B hl dX11_charges_151 rfl ?_
              refine mo_geta E hM 43 0 rfl (hts (.fieldLink RX11 117 "BinRoundsModel" "rate" "[I") (by decide +kernel)) rfl dX11_charges_152 ?_
              refine x_iload_n B hl dX11_charges_155 rfl ?_
              refine x_iload B hl dX11_charges_156 rfl ?_
              refine x_if_ge (tgt := 165) B dX11_charges_158 (by decide) (by omega) (fun c_158 => ?_) (fun c_158 => ?_)
              · refine x_aload_n B hl dX11_charges_165 rfl ?_
                refine mo_geta E hM 29 0 rfl (hts (.fieldLink RX11 81 "BinRoundsModel" "rates" "[I") (by decide +kernel)) rfl dX11_charges_166 ?_
                refine x_iload B hl dX11_charges_169 rfl ?_
                refine mo_ld (k := 29) E hM rfl (by have h9 : mLn 29 = 5 := rfl; omega) (by decide) dX11_charges_171 (up_ne (by decide) (up_ne (by decide) rfl)) (fun r_171 => ?_)
                refine mo_st (k := 43) E hM hS rfl (by have h9 : mLn 43 = 600 := rfl; omega) (by decide) (by omega) dX11_charges_172 (fun H locs hM hS => ?_)
                refine x_aload_n B hl dX11_charges_173 rfl ?_
                refine mo_geta E hM 40 1 rfl (hts (.fieldLink RX11 108 "BinRoundsModel" "isCharged" "[Z") (by decide +kernel)) rfl dX11_charges_174 ?_
                refine x_iload_n B hl dX11_charges_177 rfl ?_
                refine x_iconst B dX11_charges_178 ?_
                refine mo_zst (k := 40) E hM hS rfl (by have h9 : mLn 40 = 600 := rfl; omega) (by decide) (by omega) dX11_charges_179 (fun H locs hM hS => ?_)
                refine mo_vret E hr hlk hM hS dX11_charges_180 ?_ trivial
                first | (exfalso; omega) | (rw [sCh_w1 (by omega)]; first | (exact (sChB_a (H := sHouse σ (σ 36 t) (σ 32 t)) sHouse_15 (by show σ 12 (σ 36 t) = 4; omega) (by omega) (by show 0 < σ 7 _; omega)).symm) | (exact (sChB_b (H := sHouse σ (σ 36 t) (σ 32 t)) sHouse_15 (by show σ 12 (σ 36 t) = 4; omega) (by show ¬ (0 ≤ sHouse σ (σ 36 t) (σ 32 t) ∧ 0 < σ 7 (sHouse σ (σ 36 t) (σ 32 t))); omega)).symm) | (exact (sChB_c (by show ¬ σ 12 (σ 36 t) = 4; omega) (if_pos (by omega))).symm) | (exact (sChB_d (by show σ 12 (σ 36 t) = 2; omega) (by rw [if_neg (by omega)]; decide)).symm) | (exact (sChB_e (by show ¬ σ 12 (σ 36 t) = 4; omega) (by show ¬ σ 12 (σ 36 t) = 2; omega) (by rw [if_neg (by omega)]; decide) (by show 0 ≤ σ 12 (σ 36 t); omega)).symm)) | (rw [sCh_w0 (by omega)]; first | (exact (sChB_a rfl (by omega) (by omega) (by omega)).symm) | (exact (sChB_b rfl (by omega) (by omega)).symm) | (exact (sChB_d (by omega) (by decide)).symm) | (exact (sChB_e (by omega) (by omega) (by decide) (by omega)).symm))
              · refine x_iconst B dX11_charges_161 ?_
                refine x_goto (tgt := 172) B dX11_charges_162 (by decide) ?_
                refine mo_st (k := 43) E hM hS rfl (by have h9 : mLn 43 = 600 := rfl; omega) (by decide) (by omega) dX11_charges_172 (fun H locs hM hS => ?_)
                refine x_aload_n B hl dX11_charges_173 rfl ?_
                refine mo_geta E hM 40 1 rfl (hts (.fieldLink RX11 108 "BinRoundsModel" "isCharged" "[Z") (by decide +kernel)) rfl dX11_charges_174 ?_
                refine x_iload_n B hl dX11_charges_177 rfl ?_
                refine x_iconst B dX11_charges_178 ?_
                refine mo_zst (k := 40) E hM hS rfl (by have h9 : mLn 40 = 600 := rfl; omega) (by decide) (by omega) dX11_charges_179 (fun H locs hM hS => ?_)
                refine mo_vret E hr hlk hM hS dX11_charges_180 ?_ trivial
                first | (exfalso; omega) | (rw [sCh_w1 (by omega)]; first | (exact (sChB_a (H := sHouse σ (σ 36 t) (σ 32 t)) sHouse_15 (by show σ 12 (σ 36 t) = 4; omega) (by omega) (by show 0 < σ 7 _; omega)).symm) | (exact (sChB_b (H := sHouse σ (σ 36 t) (σ 32 t)) sHouse_15 (by show σ 12 (σ 36 t) = 4; omega) (by show ¬ (0 ≤ sHouse σ (σ 36 t) (σ 32 t) ∧ 0 < σ 7 (sHouse σ (σ 36 t) (σ 32 t))); omega)).symm) | (exact (sChB_c (by show ¬ σ 12 (σ 36 t) = 4; omega) (if_pos (by omega))).symm) | (exact (sChB_d (by show σ 12 (σ 36 t) = 2; omega) (by rw [if_neg (by omega)]; decide)).symm) | (exact (sChB_e (by show ¬ σ 12 (σ 36 t) = 4; omega) (by show ¬ σ 12 (σ 36 t) = 2; omega) (by rw [if_neg (by omega)]; decide) (by show 0 ≤ σ 12 (σ 36 t); omega)).symm)) | (rw [sCh_w0 (by omega)]; first | (exact (sChB_a rfl (by omega) (by omega) (by omega)).symm) | (exact (sChB_b rfl (by omega) (by omega)).symm) | (exact (sChB_d (by omega) (by decide)).symm) | (exact (sChB_e (by omega) (by omega) (by decide) (by omega)).symm))
            · refine x_iconst B dX11_charges_139 ?_
              refine x_goto (tgt := 150) B dX11_charges_140 (by decide) ?_
              refine mo_st (k := 42) E hM hS rfl (by have h9 : mLn 42 = 600 := rfl; omega) (by decide) (by omega) dX11_charges_150 (fun H locs hM hS => ?_)
              refine x_aload_n B hl dX11_charges_151 rfl ?_
              refine mo_geta E hM 43 0 rfl (hts (.fieldLink RX11 117 "BinRoundsModel" "rate" "[I") (by decide +kernel)) rfl dX11_charges_152 ?_
              refine x_iload_n B hl dX11_charges_155 rfl ?_
              refine x_iload B hl dX11_charges_156 rfl ?_
              refine x_if_ge (tgt := 165) B dX11_charges_158 (by decide) (by omega) (fun c_158 => ?_) (fun c_158 => ?_)
              · refine x_aload_n B hl dX11_charges_165 rfl ?_
                refine mo_geta E hM 29 0 rfl (hts (.fieldLink RX11 81 "BinRoundsModel" "rates" "[I") (by decide +kernel)) rfl dX11_charges_166 ?_
                refine x_iload B hl dX11_charges_169 rfl ?_
                refine mo_ld (k := 29) E hM rfl (by have h9 : mLn 29 = 5 := rfl; omega) (by decide) dX11_charges_171 (up_ne (by decide) (up_ne (by decide) rfl)) (fun r_171 => ?_)
                refine mo_st (k := 43) E hM hS rfl (by have h9 : mLn 43 = 600 := rfl; omega) (by decide) (by omega) dX11_charges_172 (fun H locs hM hS => ?_)
                refine x_aload_n B hl dX11_charges_173 rfl ?_
                refine mo_geta E hM 40 1 rfl (hts (.fieldLink RX11 108 "BinRoundsModel" "isCharged" "[Z") (by decide +kernel)) rfl dX11_charges_174 ?_
                refine x_iload_n B hl dX11_charges_177 rfl ?_
                refine x_iconst B dX11_charges_178 ?_
                refine mo_zst (k := 40) E hM hS rfl (by have h9 : mLn 40 = 600 := rfl; omega) (by decide) (by omega) dX11_charges_179 (fun H locs hM hS => ?_)
                refine mo_vret E hr hlk hM hS dX11_charges_180 ?_ trivial
                first | (exfalso; omega) | (rw [sCh_w1 (by omega)]; first | (exact (sChB_a (H := sHouse σ (σ 36 t) (σ 32 t)) sHouse_15 (by show σ 12 (σ 36 t) = 4; omega) (by omega) (by show 0 < σ 7 _; omega)).symm) | (exact (sChB_b (H := sHouse σ (σ 36 t) (σ 32 t)) sHouse_15 (by show σ 12 (σ 36 t) = 4; omega) (by show ¬ (0 ≤ sHouse σ (σ 36 t) (σ 32 t) ∧ 0 < σ 7 (sHouse σ (σ 36 t) (σ 32 t))); omega)).symm) | (exact (sChB_c (by show ¬ σ 12 (σ 36 t) = 4; omega) (if_pos (by omega))).symm) | (exact (sChB_d (by show σ 12 (σ 36 t) = 2; omega) (by rw [if_neg (by omega)]; decide)).symm) | (exact (sChB_e (by show ¬ σ 12 (σ 36 t) = 4; omega) (by show ¬ σ 12 (σ 36 t) = 2; omega) (by rw [if_neg (by omega)]; decide) (by show 0 ≤ σ 12 (σ 36 t); omega)).symm)) | (rw [sCh_w0 (by omega)]; first | (exact (sChB_a rfl (by omega) (by omega) (by omega)).symm) | (exact (sChB_b rfl (by omega) (by omega)).symm) | (exact (sChB_d (by omega) (by decide)).symm) | (exact (sChB_e (by omega) (by omega) (by decide) (by omega)).symm))
              · refine x_iconst B dX11_charges_161 ?_
                refine x_goto (tgt := 172) B dX11_charges_162 (by decide) ?_
                refine mo_st (k := 43) E hM hS rfl (by have h9 : mLn 43 = 600 := rfl; omega) (by decide) (by omega) dX11_charges_172 (fun H locs hM hS => ?_)
                refine x_aload_n B hl dX11_charges_173 rfl ?_
                refine mo_geta E hM 40 1 rfl (hts (.fieldLink RX11 108 "BinRoundsModel" "isCharged" "[Z") (by decide +kernel)) rfl dX11_charges_174 ?_
                refine x_iload_n B hl dX11_charges_177 rfl ?_
                refine x_iconst B dX11_charges_178 ?_
                refine mo_zst (k := 40) E hM hS rfl (by have h9 : mLn 40 = 600 := rfl; omega) (by decide) (by omega) dX11_charges_179 (fun H locs hM hS => ?_)
                refine mo_vret E hr hlk hM hS dX11_charges_180 ?_ trivial
                first | (exfalso; omega) | (rw [sCh_w1 (by omega)]; first | (exact (sChB_a (H := sHouse σ (σ 36 t) (σ 32 t)) sHouse_15 (by show σ 12 (σ 36 t) = 4; omega) (by omega) (by show 0 < σ 7 _; omega)).symm) | (exact (sChB_b (H := sHouse σ (σ 36 t) (σ 32 t)) sHouse_15 (by show σ 12 (σ 36 t) = 4; omega) (by show ¬ (0 ≤ sHouse σ (σ 36 t) (σ 32 t) ∧ 0 < σ 7 (sHouse σ (σ 36 t) (σ 32 t))); omega)).symm) | (exact (sChB_c (by show ¬ σ 12 (σ 36 t) = 4; omega) (if_pos (by omega))).symm) | (exact (sChB_d (by show σ 12 (σ 36 t) = 2; omega) (by rw [if_neg (by omega)]; decide)).symm) | (exact (sChB_e (by show ¬ σ 12 (σ 36 t) = 4; omega) (by show ¬ σ 12 (σ 36 t) = 2; omega) (by rw [if_neg (by omega)]; decide) (by show 0 ≤ σ 12 (σ 36 t); omega)).symm)) | (rw [sCh_w0 (by omega)]; first | (exact (sChB_a rfl (by omega) (by omega) (by omega)).symm) | (exact (sChB_b rfl (by omega) (by omega)).symm) | (exact (sChB_d (by omega) (by decide)).symm) | (exact (sChB_e (by omega) (by omega) (by decide) (by omega)).symm))
          · refine x_aload_n B hl dX11_charges_83 rfl ?_
            refine mo_geta E hM 7 0 rfl (hts (.fieldLink RX11 23 "BinRoundsModel" "bands" "[I") (by decide +kernel)) rfl dX11_charges_84 ?_
            refine x_iload B hl dX11_charges_87 rfl ?_
            refine mo_ld (k := 7) E hM rfl (by have h9 : mLn 7 = 60 := rfl; omega) (by decide) dX11_charges_89 (up_ne (by decide) rfl) (fun r_89 => ?_)
            refine x_if_le (tgt := 107) B dX11_charges_90 (by decide) (by omega) (fun c_90 => ?_) (fun c_90 => ?_)
            · refine x_goto (tgt := 129) B dX11_charges_107 (by decide) ?_
              refine x_aload_n B hl dX11_charges_129 rfl ?_
              refine mo_geta E hM 42 0 rfl (hts (.fieldLink RX11 114 "BinRoundsModel" "lift" "[I") (by decide +kernel)) rfl dX11_charges_130 ?_
              refine x_iload_n B hl dX11_charges_133 rfl ?_
              refine x_iload B hl dX11_charges_134 rfl ?_
              refine x_if_ge (tgt := 143) B dX11_charges_136 (by decide) (by omega) (fun c_136 => ?_) (fun c_136 => ?_)
              · refine x_aload_n B hl dX11_charges_143 rfl ?_
                refine mo_geta E hM 28 0 rfl (hts (.fieldLink RX11 78 "BinRoundsModel" "lifts" "[I") (by decide +kernel)) rfl dX11_charges_144 ?_
                refine x_iload B hl dX11_charges_147 rfl ?_
                refine mo_ld (k := 28) E hM rfl (by have h9 : mLn 28 = 5 := rfl; omega) (by decide) dX11_charges_149 (up_ne (by decide) rfl) (fun r_149 => ?_)
                refine mo_st (k := 42) E hM hS rfl (by have h9 : mLn 42 = 600 := rfl; omega) (by decide) (by omega) dX11_charges_150 (fun H locs hM hS => ?_)
                refine x_aload_n B hl dX11_charges_151 rfl ?_
                refine mo_geta E hM 43 0 rfl (hts (.fieldLink RX11 117 "BinRoundsModel" "rate" "[I") (by decide +kernel)) rfl dX11_charges_152 ?_
                refine x_iload_n B hl dX11_charges_155 rfl ?_
                refine x_iload B hl dX11_charges_156 rfl ?_
                refine x_if_ge (tgt := 165) B dX11_charges_158 (by decide) (by omega) (fun c_158 => ?_) (fun c_158 => ?_)
                · refine x_aload_n B hl dX11_charges_165 rfl ?_
                  refine mo_geta E hM 29 0 rfl (hts (.fieldLink RX11 81 "BinRoundsModel" "rates" "[I") (by decide +kernel)) rfl dX11_charges_166 ?_
                  refine x_iload B hl dX11_charges_169 rfl ?_
                  refine mo_ld (k := 29) E hM rfl (by have h9 : mLn 29 = 5 := rfl; omega) (by decide) dX11_charges_171 (up_ne (by decide) (up_ne (by decide) rfl)) (fun r_171 => ?_)
                  refine mo_st (k := 43) E hM hS rfl (by have h9 : mLn 43 = 600 := rfl; omega) (by decide) (by omega) dX11_charges_172 (fun H locs hM hS => ?_)
                  refine x_aload_n B hl dX11_charges_173 rfl ?_
                  refine mo_geta E hM 40 1 rfl (hts (.fieldLink RX11 108 "BinRoundsModel" "isCharged" "[Z") (by decide +kernel)) rfl dX11_charges_174 ?_
                  refine x_iload_n B hl dX11_charges_177 rfl ?_
                  refine x_iconst B dX11_charges_178 ?_
                  refine mo_zst (k := 40) E hM hS rfl (by have h9 : mLn 40 = 600 := rfl; omega) (by decide) (by omega) dX11_charges_179 (fun H locs hM hS => ?_)
                  refine mo_vret E hr hlk hM hS dX11_charges_180 ?_ trivial
                  first | (exfalso; omega) | (rw [sCh_w1 (by omega)]; first | (exact (sChB_a (H := sHouse σ (σ 36 t) (σ 32 t)) sHouse_15 (by show σ 12 (σ 36 t) = 4; omega) (by omega) (by show 0 < σ 7 _; omega)).symm) | (exact (sChB_b (H := sHouse σ (σ 36 t) (σ 32 t)) sHouse_15 (by show σ 12 (σ 36 t) = 4; omega) (by show ¬ (0 ≤ sHouse σ (σ 36 t) (σ 32 t) ∧ 0 < σ 7 (sHouse σ (σ 36 t) (σ 32 t))); omega)).symm) | (exact (sChB_c (by show ¬ σ 12 (σ 36 t) = 4; omega) (if_pos (by omega))).symm) | (exact (sChB_d (by show σ 12 (σ 36 t) = 2; omega) (by rw [if_neg (by omega)]; decide)).symm) | (exact (sChB_e (by show ¬ σ 12 (σ 36 t) = 4; omega) (by show ¬ σ 12 (σ 36 t) = 2; omega) (by rw [if_neg (by omega)]; decide) (by show 0 ≤ σ 12 (σ 36 t); omega)).symm)) | (rw [sCh_w0 (by omega)]; first | (exact (sChB_a rfl (by omega) (by omega) (by omega)).symm) | (exact (sChB_b rfl (by omega) (by omega)).symm) | (exact (sChB_d (by omega) (by decide)).symm) | (exact (sChB_e (by omega) (by omega) (by decide) (by omega)).symm))
                · refine x_iconst B dX11_charges_161 ?_
                  refine x_goto (tgt := 172) B dX11_charges_162 (by decide) ?_
                  refine mo_st (k := 43) E hM hS rfl (by have h9 : mLn 43 = 600 := rfl; omega) (by decide) (by omega) dX11_charges_172 (fun H locs hM hS => ?_)
                  refine x_aload_n B hl dX11_charges_173 rfl ?_
                  refine mo_geta E hM 40 1 rfl (hts (.fieldLink RX11 108 "BinRoundsModel" "isCharged" "[Z") (by decide +kernel)) rfl dX11_charges_174 ?_
                  refine x_iload_n B hl dX11_charges_177 rfl ?_
                  refine x_iconst B dX11_charges_178 ?_
                  refine mo_zst (k := 40) E hM hS rfl (by have h9 : mLn 40 = 600 := rfl; omega) (by decide) (by omega) dX11_charges_179 (fun H locs hM hS => ?_)
                  refine mo_vret E hr hlk hM hS dX11_charges_180 ?_ trivial
                  first | (exfalso; omega) | (rw [sCh_w1 (by omega)]; first | (exact (sChB_a (H := sHouse σ (σ 36 t) (σ 32 t)) sHouse_15 (by show σ 12 (σ 36 t) = 4; omega) (by omega) (by show 0 < σ 7 _; omega)).symm) | (exact (sChB_b (H := sHouse σ (σ 36 t) (σ 32 t)) sHouse_15 (by show σ 12 (σ 36 t) = 4; omega) (by show ¬ (0 ≤ sHouse σ (σ 36 t) (σ 32 t) ∧ 0 < σ 7 (sHouse σ (σ 36 t) (σ 32 t))); omega)).symm) | (exact (sChB_c (by show ¬ σ 12 (σ 36 t) = 4; omega) (if_pos (by omega))).symm) | (exact (sChB_d (by show σ 12 (σ 36 t) = 2; omega) (by rw [if_neg (by omega)]; decide)).symm) | (exact (sChB_e (by show ¬ σ 12 (σ 36 t) = 4; omega) (by show ¬ σ 12 (σ 36 t) = 2; omega) (by rw [if_neg (by omega)]; decide) (by show 0 ≤ σ 12 (σ 36 t); omega)).symm)) | (rw [sCh_w0 (by omega)]; first | (exact (sChB_a rfl (by omega) (by omega) (by omega)).symm) | (exact (sChB_b rfl (by omega) (by omega)).symm) | (exact (sChB_d (by omega) (by decide)).symm) | (exact (sChB_e (by omega) (by omega) (by decide) (by omega)).symm))
              · refine x_iconst B dX11_charges_139 ?_
                refine x_goto (tgt := 150) B dX11_charges_140 (by decide) ?_
                refine mo_st (k := 42) E hM hS rfl (by have h9 : mLn 42 = 600 := rfl; omega) (by decide) (by omega) dX11_charges_150 (fun H locs hM hS => ?_)
                refine x_aload_n B hl dX11_charges_151 rfl ?_
                refine mo_geta E hM 43 0 rfl (hts (.fieldLink RX11 117 "BinRoundsModel" "rate" "[I") (by decide +kernel)) rfl dX11_charges_152 ?_
                refine x_iload_n B hl dX11_charges_155 rfl ?_
                refine x_iload B hl dX11_charges_156 rfl ?_
                refine x_if_ge (tgt := 165) B dX11_charges_158 (by decide) (by omega) (fun c_158 => ?_) (fun c_158 => ?_)
                · refine x_aload_n B hl dX11_charges_165 rfl ?_
                  refine mo_geta E hM 29 0 rfl (hts (.fieldLink RX11 81 "BinRoundsModel" "rates" "[I") (by decide +kernel)) rfl dX11_charges_166 ?_
                  refine x_iload B hl dX11_charges_169 rfl ?_
                  refine mo_ld (k := 29) E hM rfl (by have h9 : mLn 29 = 5 := rfl; omega) (by decide) dX11_charges_171 (up_ne (by decide) (up_ne (by decide) rfl)) (fun r_171 => ?_)
                  refine mo_st (k := 43) E hM hS rfl (by have h9 : mLn 43 = 600 := rfl; omega) (by decide) (by omega) dX11_charges_172 (fun H locs hM hS => ?_)
                  refine x_aload_n B hl dX11_charges_173 rfl ?_
                  refine mo_geta E hM 40 1 rfl (hts (.fieldLink RX11 108 "BinRoundsModel" "isCharged" "[Z") (by decide +kernel)) rfl dX11_charges_174 ?_
                  refine x_iload_n B hl dX11_charges_177 rfl ?_
                  refine x_iconst B dX11_charges_178 ?_
                  refine mo_zst (k := 40) E hM hS rfl (by have h9 : mLn 40 = 600 := rfl; omega) (by decide) (by omega) dX11_charges_179 (fun H locs hM hS => ?_)
                  refine mo_vret E hr hlk hM hS dX11_charges_180 ?_ trivial
                  first | (exfalso; omega) | (rw [sCh_w1 (by omega)]; first | (exact (sChB_a (H := sHouse σ (σ 36 t) (σ 32 t)) sHouse_15 (by show σ 12 (σ 36 t) = 4; omega) (by omega) (by show 0 < σ 7 _; omega)).symm) | (exact (sChB_b (H := sHouse σ (σ 36 t) (σ 32 t)) sHouse_15 (by show σ 12 (σ 36 t) = 4; omega) (by show ¬ (0 ≤ sHouse σ (σ 36 t) (σ 32 t) ∧ 0 < σ 7 (sHouse σ (σ 36 t) (σ 32 t))); omega)).symm) | (exact (sChB_c (by show ¬ σ 12 (σ 36 t) = 4; omega) (if_pos (by omega))).symm) | (exact (sChB_d (by show σ 12 (σ 36 t) = 2; omega) (by rw [if_neg (by omega)]; decide)).symm) | (exact (sChB_e (by show ¬ σ 12 (σ 36 t) = 4; omega) (by show ¬ σ 12 (σ 36 t) = 2; omega) (by rw [if_neg (by omega)]; decide) (by show 0 ≤ σ 12 (σ 36 t); omega)).symm)) | (rw [sCh_w0 (by omega)]; first | (exact (sChB_a rfl (by omega) (by omega) (by omega)).symm) | (exact (sChB_b rfl (by omega) (by omega)).symm) | (exact (sChB_d (by omega) (by decide)).symm) | (exact (sChB_e (by omega) (by omega) (by decide) (by omega)).symm))
                · refine x_iconst B dX11_charges_161 ?_
                  refine x_goto (tgt := 172) B dX11_charges_162 (by decide) ?_
                  refine mo_st (k := 43) E hM hS rfl (by have h9 : mLn 43 = 600 := rfl; omega) (by decide) (by omega) dX11_charges_172 (fun H locs hM hS => ?_)
                  refine x_aload_n B hl dX11_charges_173 rfl ?_
                  refine mo_geta E hM 40 1 rfl (hts (.fieldLink RX11 108 "BinRoundsModel" "isCharged" "[Z") (by decide +kernel)) rfl dX11_charges_174 ?_
                  refine x_iload_n B hl dX11_charges_177 rfl ?_
                  refine x_iconst B dX11_charges_178 ?_
                  refine mo_zst (k := 40) E hM hS rfl (by have h9 : mLn 40 = 600 := rfl; omega) (by decide) (by omega) dX11_charges_179 (fun H locs hM hS => ?_)
                  refine mo_vret E hr hlk hM hS dX11_charges_180 ?_ trivial
                  first | (exfalso; omega) | (rw [sCh_w1 (by omega)]; first | (exact (sChB_a (H := sHouse σ (σ 36 t) (σ 32 t)) sHouse_15 (by show σ 12 (σ 36 t) = 4; omega) (by omega) (by show 0 < σ 7 _; omega)).symm) | (exact (sChB_b (H := sHouse σ (σ 36 t) (σ 32 t)) sHouse_15 (by show σ 12 (σ 36 t) = 4; omega) (by show ¬ (0 ≤ sHouse σ (σ 36 t) (σ 32 t) ∧ 0 < σ 7 (sHouse σ (σ 36 t) (σ 32 t))); omega)).symm) | (exact (sChB_c (by show ¬ σ 12 (σ 36 t) = 4; omega) (if_pos (by omega))).symm) | (exact (sChB_d (by show σ 12 (σ 36 t) = 2; omega) (by rw [if_neg (by omega)]; decide)).symm) | (exact (sChB_e (by show ¬ σ 12 (σ 36 t) = 4; omega) (by show ¬ σ 12 (σ 36 t) = 2; omega) (by rw [if_neg (by omega)]; decide) (by show 0 ≤ σ 12 (σ 36 t); omega)).symm)) | (rw [sCh_w0 (by omega)]; first | (exact (sChB_a rfl (by omega) (by omega) (by omega)).symm) | (exact (sChB_b rfl (by omega) (by omega)).symm) | (exact (sChB_d (by omega) (by decide)).symm) | (exact (sChB_e (by omega) (by omega) (by decide) (by omega)).symm))
            · refine x_aload_n B hl dX11_charges_93 rfl ?_
              refine mo_geta E hM 7 0 rfl (hts (.fieldLink RX11 23 "BinRoundsModel" "bands" "[I") (by decide +kernel)) rfl dX11_charges_94 ?_
              refine x_iload B hl dX11_charges_97 rfl ?_
              refine lv_dup2_11 B.1 B.2 dX11_charges_99 rfl rfl ?_
              refine mo_ld (k := 7) E hM rfl (by have h9 : mLn 7 = 60 := rfl; omega) (by decide) dX11_charges_100 (up_ne (by decide) rfl) (fun r_100 => ?_)
              refine x_iconst B dX11_charges_101 ?_
              refine x_isub B dX11_charges_102 ?_
              refine mo_st (k := 7) E hM hS rfl (by have h9 : mLn 7 = 60 := rfl; omega) (by decide) (by omega) dX11_charges_103 (fun H locs hM hS => ?_)
              refine x_iconst B dX11_charges_104 ?_
              refine x_istore B hl dX11_charges_105 (by decide) (fun ls hl => ?_)
              refine x_goto (tgt := 129) B dX11_charges_107 (by decide) ?_
              refine x_aload_n B hl dX11_charges_129 rfl ?_
              refine mo_geta E hM 42 0 rfl (hts (.fieldLink RX11 114 "BinRoundsModel" "lift" "[I") (by decide +kernel)) rfl dX11_charges_130 ?_
              refine x_iload_n B hl dX11_charges_133 rfl ?_
              refine x_iload B hl dX11_charges_134 rfl ?_
              refine x_if_ge_f (tgt := 143) B dX11_charges_136 (by decide) (by decide) ?_
              refine x_iconst B dX11_charges_139 ?_
              refine x_goto (tgt := 150) B dX11_charges_140 (by decide) ?_
              refine mo_st (k := 42) E hM hS rfl (by have h9 : mLn 42 = 600 := rfl; omega) (by decide) (by omega) dX11_charges_150 (fun H locs hM hS => ?_)
              refine x_aload_n B hl dX11_charges_151 rfl ?_
              refine mo_geta E hM 43 0 rfl (hts (.fieldLink RX11 117 "BinRoundsModel" "rate" "[I") (by decide +kernel)) rfl dX11_charges_152 ?_
              refine x_iload_n B hl dX11_charges_155 rfl ?_
              refine x_iload B hl dX11_charges_156 rfl ?_
              refine x_if_ge_f (tgt := 165) B dX11_charges_158 (by decide) (by decide) ?_
              refine x_iconst B dX11_charges_161 ?_
              refine x_goto (tgt := 172) B dX11_charges_162 (by decide) ?_
              refine mo_st (k := 43) E hM hS rfl (by have h9 : mLn 43 = 600 := rfl; omega) (by decide) (by omega) dX11_charges_172 (fun H locs hM hS => ?_)
              refine x_aload_n B hl dX11_charges_173 rfl ?_
              refine mo_geta E hM 40 1 rfl (hts (.fieldLink RX11 108 "BinRoundsModel" "isCharged" "[Z") (by decide +kernel)) rfl dX11_charges_174 ?_
              refine x_iload_n B hl dX11_charges_177 rfl ?_
              refine x_iconst B dX11_charges_178 ?_
              refine mo_zst (k := 40) E hM hS rfl (by have h9 : mLn 40 = 600 := rfl; omega) (by decide) (by omega) dX11_charges_179 (fun H locs hM hS => ?_)
              refine mo_vret E hr hlk hM hS dX11_charges_180 ?_ trivial
              first | (exfalso; omega) | (rw [sCh_w1 (by omega)]; first | (exact (sChB_a (H := sHouse σ (σ 36 t) (σ 32 t)) sHouse_15 (by show σ 12 (σ 36 t) = 4; omega) (by omega) (by show 0 < σ 7 _; omega)).symm) | (exact (sChB_b (H := sHouse σ (σ 36 t) (σ 32 t)) sHouse_15 (by show σ 12 (σ 36 t) = 4; omega) (by show ¬ (0 ≤ sHouse σ (σ 36 t) (σ 32 t) ∧ 0 < σ 7 (sHouse σ (σ 36 t) (σ 32 t))); omega)).symm) | (exact (sChB_c (by show ¬ σ 12 (σ 36 t) = 4; omega) (if_pos (by omega))).symm) | (exact (sChB_d (by show σ 12 (σ 36 t) = 2; omega) (by rw [if_neg (by omega)]; decide)).symm) | (exact (sChB_e (by show ¬ σ 12 (σ 36 t) = 4; omega) (by show ¬ σ 12 (σ 36 t) = 2; omega) (by rw [if_neg (by omega)]; decide) (by show 0 ≤ σ 12 (σ 36 t); omega)).symm)) | (rw [sCh_w0 (by omega)]; first | (exact (sChB_a rfl (by omega) (by omega) (by omega)).symm) | (exact (sChB_b rfl (by omega) (by omega)).symm) | (exact (sChB_d (by omega) (by decide)).symm) | (exact (sChB_e (by omega) (by omega) (by decide) (by omega)).symm))
      · refine x_iconst B dX11_charges_45 ?_
        refine x_goto (tgt := 50) B dX11_charges_46 (by decide) ?_
        refine x_istore_n B hl dX11_charges_50 (by decide) (fun ls hl => ?_)
        refine x_aload_n B hl dX11_charges_51 rfl ?_
        refine mo_geta E hM 12 0 rfl (hts (.fieldLink RX11 36 "BinRoundsModel" "kind" "[I") (by decide +kernel)) rfl dX11_charges_52 ?_
        refine x_iload_n B hl dX11_charges_55 rfl ?_
        refine mo_ld (k := 12) E hM rfl (by have h9 : mLn 12 = 120 := rfl; omega) (by decide) dX11_charges_56 (up_ne (by decide) rfl) (fun r_56 => ?_)
        refine x_istore B hl dX11_charges_57 (by decide) (fun ls hl => ?_)
        refine x_iload B hl dX11_charges_59 rfl ?_
        refine x_iconst B dX11_charges_61 ?_
        refine x_icmp_ne (tgt := 110) B dX11_charges_62 (by decide) (by omega) (by omega) (fun c_62 => ?_) (fun c_62 => ?_)
        · refine x_iload_n B hl dX11_charges_110 rfl ?_
          refine x_if_eq_f (tgt := 120) B dX11_charges_111 (by decide) (by decide) ?_
          refine x_iconst B dX11_charges_114 ?_
          refine x_istore B hl dX11_charges_115 (by decide) (fun ls hl => ?_)
          refine x_goto (tgt := 129) B dX11_charges_117 (by decide) ?_
          refine x_aload_n B hl dX11_charges_129 rfl ?_
          refine mo_geta E hM 42 0 rfl (hts (.fieldLink RX11 114 "BinRoundsModel" "lift" "[I") (by decide +kernel)) rfl dX11_charges_130 ?_
          refine x_iload_n B hl dX11_charges_133 rfl ?_
          refine x_iload B hl dX11_charges_134 rfl ?_
          refine x_if_ge_t (tgt := 143) B dX11_charges_136 (by decide) (by decide) ?_
          refine x_aload_n B hl dX11_charges_143 rfl ?_
          refine mo_geta E hM 28 0 rfl (hts (.fieldLink RX11 78 "BinRoundsModel" "lifts" "[I") (by decide +kernel)) rfl dX11_charges_144 ?_
          refine x_iload B hl dX11_charges_147 rfl ?_
          refine mo_ld (k := 28) E hM rfl (by have h9 : mLn 28 = 5 := rfl; omega) (by decide) dX11_charges_149 (up_ne (by decide) rfl) (fun r_149 => ?_)
          refine mo_st (k := 42) E hM hS rfl (by have h9 : mLn 42 = 600 := rfl; omega) (by decide) (by omega) dX11_charges_150 (fun H locs hM hS => ?_)
          refine x_aload_n B hl dX11_charges_151 rfl ?_
          refine mo_geta E hM 43 0 rfl (hts (.fieldLink RX11 117 "BinRoundsModel" "rate" "[I") (by decide +kernel)) rfl dX11_charges_152 ?_
          refine x_iload_n B hl dX11_charges_155 rfl ?_
          refine x_iload B hl dX11_charges_156 rfl ?_
          refine x_if_ge_t (tgt := 165) B dX11_charges_158 (by decide) (by decide) ?_
          refine x_aload_n B hl dX11_charges_165 rfl ?_
          refine mo_geta E hM 29 0 rfl (hts (.fieldLink RX11 81 "BinRoundsModel" "rates" "[I") (by decide +kernel)) rfl dX11_charges_166 ?_
          refine x_iload B hl dX11_charges_169 rfl ?_
          refine mo_ld (k := 29) E hM rfl (by have h9 : mLn 29 = 5 := rfl; omega) (by decide) dX11_charges_171 (up_ne (by decide) (up_ne (by decide) rfl)) (fun r_171 => ?_)
          refine mo_st (k := 43) E hM hS rfl (by have h9 : mLn 43 = 600 := rfl; omega) (by decide) (by omega) dX11_charges_172 (fun H locs hM hS => ?_)
          refine x_aload_n B hl dX11_charges_173 rfl ?_
          refine mo_geta E hM 40 1 rfl (hts (.fieldLink RX11 108 "BinRoundsModel" "isCharged" "[Z") (by decide +kernel)) rfl dX11_charges_174 ?_
          refine x_iload_n B hl dX11_charges_177 rfl ?_
          refine x_iconst B dX11_charges_178 ?_
          refine mo_zst (k := 40) E hM hS rfl (by have h9 : mLn 40 = 600 := rfl; omega) (by decide) (by omega) dX11_charges_179 (fun H locs hM hS => ?_)
          refine mo_vret E hr hlk hM hS dX11_charges_180 ?_ trivial
          first | (exfalso; omega) | (rw [sCh_w1 (by omega)]; first | (exact (sChB_a (H := sHouse σ (σ 36 t) (σ 32 t)) sHouse_15 (by show σ 12 (σ 36 t) = 4; omega) (by omega) (by show 0 < σ 7 _; omega)).symm) | (exact (sChB_b (H := sHouse σ (σ 36 t) (σ 32 t)) sHouse_15 (by show σ 12 (σ 36 t) = 4; omega) (by show ¬ (0 ≤ sHouse σ (σ 36 t) (σ 32 t) ∧ 0 < σ 7 (sHouse σ (σ 36 t) (σ 32 t))); omega)).symm) | (exact (sChB_c (by show ¬ σ 12 (σ 36 t) = 4; omega) (if_pos (by omega))).symm) | (exact (sChB_d (by show σ 12 (σ 36 t) = 2; omega) (by rw [if_neg (by omega)]; decide)).symm) | (exact (sChB_e (by show ¬ σ 12 (σ 36 t) = 4; omega) (by show ¬ σ 12 (σ 36 t) = 2; omega) (by rw [if_neg (by omega)]; decide) (by show 0 ≤ σ 12 (σ 36 t); omega)).symm)) | (rw [sCh_w0 (by omega)]; first | (exact (sChB_a rfl (by omega) (by omega) (by omega)).symm) | (exact (sChB_b rfl (by omega) (by omega)).symm) | (exact (sChB_d (by omega) (by decide)).symm) | (exact (sChB_e (by omega) (by omega) (by decide) (by omega)).symm))
        · refine x_aload_n B hl dX11_charges_65 rfl ?_
          refine x_iload_n B hl dX11_charges_66 rfl ?_
          refine x_aload_n B hl dX11_charges_67 rfl ?_
          refine mo_geta E hM 32 0 rfl (hts (.fieldLink RX11 84 "BinRoundsModel" "dayOf" "[I") (by decide +kernel)) rfl dX11_charges_68 ?_
          refine x_iload_n B hl dX11_charges_71 rfl ?_
          refine mo_ld (k := 32) E hM rfl (by have h9 : mLn 32 = 600 := rfl; omega) (by decide) dX11_charges_72 (up_ne (by decide) rfl) (fun r_72 => ?_)
          refine mo_call E hM hS hl (m_houseOfc l D cy o ad _ σ (up_f (by decide)) (up_f (by decide)) (up_f (by decide)) hb (by omega) hm8) (cwV 2 hts0 gX11_charges_X11_houseOf rfl rfl rfl (by decide +kernel) ⟨Nat.le_of_ble_eq_true rfl, Nat.le_of_ble_eq_true rfl⟩) rfl rfl (Nat.le_of_ble_eq_true rfl) dX11_charges_73 ⟨Nat.zero_le _, Nat.zero_le _⟩ (fun H locs q_73 hM hS => ?_)
          have hh9 := sHouse_p hmh (σ 36 t) (σ 32 t)
          refine x_istore B hl dX11_charges_76 (by decide) (fun ls hl => ?_)
          refine x_iload B hl dX11_charges_78 rfl ?_
          refine x_if_lt (tgt := 107) B dX11_charges_80 (by decide) (by omega) (fun c_80 => ?_) (fun c_80 => ?_)
          · refine x_goto (tgt := 129) B dX11_charges_107 (by decide) ?_
            refine x_aload_n B hl dX11_charges_129 rfl ?_
            refine mo_geta E hM 42 0 rfl (hts (.fieldLink RX11 114 "BinRoundsModel" "lift" "[I") (by decide +kernel)) rfl dX11_charges_130 ?_
            refine x_iload_n B hl dX11_charges_133 rfl ?_
            refine x_iload B hl dX11_charges_134 rfl ?_
            refine x_if_ge (tgt := 143) B dX11_charges_136 (by decide) (by omega) (fun c_136 => ?_) (fun c_136 => ?_)
            · refine x_aload_n B hl dX11_charges_143 rfl ?_
              refine mo_geta E hM 28 0 rfl (hts (.fieldLink RX11 78 "BinRoundsModel" "lifts" "[I") (by decide +kernel)) rfl dX11_charges_144 ?_
              refine x_iload B hl dX11_charges_147 rfl ?_
              refine mo_ld (k := 28) E hM rfl (by have h9 : mLn 28 = 5 := rfl; omega) (by decide) dX11_charges_149 (up_ne (by decide) rfl) (fun r_149 => ?_)
              refine mo_st (k := 42) E hM hS rfl (by have h9 : mLn 42 = 600 := rfl; omega) (by decide) (by omega) dX11_charges_150 (fun H locs hM hS => ?_)
              refine x_aload_n B hl dX11_charges_151 rfl ?_
              refine mo_geta E hM 43 0 rfl (hts (.fieldLink RX11 117 "BinRoundsModel" "rate" "[I") (by decide +kernel)) rfl dX11_charges_152 ?_
              refine x_iload_n B hl dX11_charges_155 rfl ?_
              refine x_iload B hl dX11_charges_156 rfl ?_
              refine x_if_ge (tgt := 165) B dX11_charges_158 (by decide) (by omega) (fun c_158 => ?_) (fun c_158 => ?_)
              · refine x_aload_n B hl dX11_charges_165 rfl ?_
                refine mo_geta E hM 29 0 rfl (hts (.fieldLink RX11 81 "BinRoundsModel" "rates" "[I") (by decide +kernel)) rfl dX11_charges_166 ?_
                refine x_iload B hl dX11_charges_169 rfl ?_
                refine mo_ld (k := 29) E hM rfl (by have h9 : mLn 29 = 5 := rfl; omega) (by decide) dX11_charges_171 (up_ne (by decide) (up_ne (by decide) rfl)) (fun r_171 => ?_)
                refine mo_st (k := 43) E hM hS rfl (by have h9 : mLn 43 = 600 := rfl; omega) (by decide) (by omega) dX11_charges_172 (fun H locs hM hS => ?_)
                refine x_aload_n B hl dX11_charges_173 rfl ?_
                refine mo_geta E hM 40 1 rfl (hts (.fieldLink RX11 108 "BinRoundsModel" "isCharged" "[Z") (by decide +kernel)) rfl dX11_charges_174 ?_
                refine x_iload_n B hl dX11_charges_177 rfl ?_
                refine x_iconst B dX11_charges_178 ?_
                refine mo_zst (k := 40) E hM hS rfl (by have h9 : mLn 40 = 600 := rfl; omega) (by decide) (by omega) dX11_charges_179 (fun H locs hM hS => ?_)
                refine mo_vret E hr hlk hM hS dX11_charges_180 ?_ trivial
                first | (exfalso; omega) | (rw [sCh_w1 (by omega)]; first | (exact (sChB_a (H := sHouse σ (σ 36 t) (σ 32 t)) sHouse_15 (by show σ 12 (σ 36 t) = 4; omega) (by omega) (by show 0 < σ 7 _; omega)).symm) | (exact (sChB_b (H := sHouse σ (σ 36 t) (σ 32 t)) sHouse_15 (by show σ 12 (σ 36 t) = 4; omega) (by show ¬ (0 ≤ sHouse σ (σ 36 t) (σ 32 t) ∧ 0 < σ 7 (sHouse σ (σ 36 t) (σ 32 t))); omega)).symm) | (exact (sChB_c (by show ¬ σ 12 (σ 36 t) = 4; omega) (if_pos (by omega))).symm) | (exact (sChB_d (by show σ 12 (σ 36 t) = 2; omega) (by rw [if_neg (by omega)]; decide)).symm) | (exact (sChB_e (by show ¬ σ 12 (σ 36 t) = 4; omega) (by show ¬ σ 12 (σ 36 t) = 2; omega) (by rw [if_neg (by omega)]; decide) (by show 0 ≤ σ 12 (σ 36 t); omega)).symm)) | (rw [sCh_w0 (by omega)]; first | (exact (sChB_a rfl (by omega) (by omega) (by omega)).symm) | (exact (sChB_b rfl (by omega) (by omega)).symm) | (exact (sChB_d (by omega) (by decide)).symm) | (exact (sChB_e (by omega) (by omega) (by decide) (by omega)).symm))
              · refine x_iconst B dX11_charges_161 ?_
                refine x_goto (tgt := 172) B dX11_charges_162 (by decide) ?_
                refine mo_st (k := 43) E hM hS rfl (by have h9 : mLn 43 = 600 := rfl; omega) (by decide) (by omega) dX11_charges_172 (fun H locs hM hS => ?_)
                refine x_aload_n B hl dX11_charges_173 rfl ?_
                refine mo_geta E hM 40 1 rfl (hts (.fieldLink RX11 108 "BinRoundsModel" "isCharged" "[Z") (by decide +kernel)) rfl dX11_charges_174 ?_
                refine x_iload_n B hl dX11_charges_177 rfl ?_
                refine x_iconst B dX11_charges_178 ?_
                refine mo_zst (k := 40) E hM hS rfl (by have h9 : mLn 40 = 600 := rfl; omega) (by decide) (by omega) dX11_charges_179 (fun H locs hM hS => ?_)
                refine mo_vret E hr hlk hM hS dX11_charges_180 ?_ trivial
                first | (exfalso; omega) | (rw [sCh_w1 (by omega)]; first | (exact (sChB_a (H := sHouse σ (σ 36 t) (σ 32 t)) sHouse_15 (by show σ 12 (σ 36 t) = 4; omega) (by omega) (by show 0 < σ 7 _; omega)).symm) | (exact (sChB_b (H := sHouse σ (σ 36 t) (σ 32 t)) sHouse_15 (by show σ 12 (σ 36 t) = 4; omega) (by show ¬ (0 ≤ sHouse σ (σ 36 t) (σ 32 t) ∧ 0 < σ 7 (sHouse σ (σ 36 t) (σ 32 t))); omega)).symm) | (exact (sChB_c (by show ¬ σ 12 (σ 36 t) = 4; omega) (if_pos (by omega))).symm) | (exact (sChB_d (by show σ 12 (σ 36 t) = 2; omega) (by rw [if_neg (by omega)]; decide)).symm) | (exact (sChB_e (by show ¬ σ 12 (σ 36 t) = 4; omega) (by show ¬ σ 12 (σ 36 t) = 2; omega) (by rw [if_neg (by omega)]; decide) (by show 0 ≤ σ 12 (σ 36 t); omega)).symm)) | (rw [sCh_w0 (by omega)]; first | (exact (sChB_a rfl (by omega) (by omega) (by omega)).symm) | (exact (sChB_b rfl (by omega) (by omega)).symm) | (exact (sChB_d (by omega) (by decide)).symm) | (exact (sChB_e (by omega) (by omega) (by decide) (by omega)).symm))
            · refine x_iconst B dX11_charges_139 ?_
              refine x_goto (tgt := 150) B dX11_charges_140 (by decide) ?_
              refine mo_st (k := 42) E hM hS rfl (by have h9 : mLn 42 = 600 := rfl; omega) (by decide) (by omega) dX11_charges_150 (fun H locs hM hS => ?_)
              refine x_aload_n B hl dX11_charges_151 rfl ?_
              refine mo_geta E hM 43 0 rfl (hts (.fieldLink RX11 117 "BinRoundsModel" "rate" "[I") (by decide +kernel)) rfl dX11_charges_152 ?_
              refine x_iload_n B hl dX11_charges_155 rfl ?_
              refine x_iload B hl dX11_charges_156 rfl ?_
              refine x_if_ge (tgt := 165) B dX11_charges_158 (by decide) (by omega) (fun c_158 => ?_) (fun c_158 => ?_)
              · refine x_aload_n B hl dX11_charges_165 rfl ?_
                refine mo_geta E hM 29 0 rfl (hts (.fieldLink RX11 81 "BinRoundsModel" "rates" "[I") (by decide +kernel)) rfl dX11_charges_166 ?_
                refine x_iload B hl dX11_charges_169 rfl ?_
                refine mo_ld (k := 29) E hM rfl (by have h9 : mLn 29 = 5 := rfl; omega) (by decide) dX11_charges_171 (up_ne (by decide) (up_ne (by decide) rfl)) (fun r_171 => ?_)
                refine mo_st (k := 43) E hM hS rfl (by have h9 : mLn 43 = 600 := rfl; omega) (by decide) (by omega) dX11_charges_172 (fun H locs hM hS => ?_)
                refine x_aload_n B hl dX11_charges_173 rfl ?_
                refine mo_geta E hM 40 1 rfl (hts (.fieldLink RX11 108 "BinRoundsModel" "isCharged" "[Z") (by decide +kernel)) rfl dX11_charges_174 ?_
                refine x_iload_n B hl dX11_charges_177 rfl ?_
                refine x_iconst B dX11_charges_178 ?_
                refine mo_zst (k := 40) E hM hS rfl (by have h9 : mLn 40 = 600 := rfl; omega) (by decide) (by omega) dX11_charges_179 (fun H locs hM hS => ?_)
                refine mo_vret E hr hlk hM hS dX11_charges_180 ?_ trivial
                first | (exfalso; omega) | (rw [sCh_w1 (by omega)]; first | (exact (sChB_a (H := sHouse σ (σ 36 t) (σ 32 t)) sHouse_15 (by show σ 12 (σ 36 t) = 4; omega) (by omega) (by show 0 < σ 7 _; omega)).symm) | (exact (sChB_b (H := sHouse σ (σ 36 t) (σ 32 t)) sHouse_15 (by show σ 12 (σ 36 t) = 4; omega) (by show ¬ (0 ≤ sHouse σ (σ 36 t) (σ 32 t) ∧ 0 < σ 7 (sHouse σ (σ 36 t) (σ 32 t))); omega)).symm) | (exact (sChB_c (by show ¬ σ 12 (σ 36 t) = 4; omega) (if_pos (by omega))).symm) | (exact (sChB_d (by show σ 12 (σ 36 t) = 2; omega) (by rw [if_neg (by omega)]; decide)).symm) | (exact (sChB_e (by show ¬ σ 12 (σ 36 t) = 4; omega) (by show ¬ σ 12 (σ 36 t) = 2; omega) (by rw [if_neg (by omega)]; decide) (by show 0 ≤ σ 12 (σ 36 t); omega)).symm)) | (rw [sCh_w0 (by omega)]; first | (exact (sChB_a rfl (by omega) (by omega) (by omega)).symm) | (exact (sChB_b rfl (by omega) (by omega)).symm) | (exact (sChB_d (by omega) (by decide)).symm) | (exact (sChB_e (by omega) (by omega) (by decide) (by omega)).symm))
              · refine x_iconst B dX11_charges_161 ?_
                refine x_goto (tgt := 172) B dX11_charges_162 (by decide) ?_
                refine mo_st (k := 43) E hM hS rfl (by have h9 : mLn 43 = 600 := rfl; omega) (by decide) (by omega) dX11_charges_172 (fun H locs hM hS => ?_)
                refine x_aload_n B hl dX11_charges_173 rfl ?_
                refine mo_geta E hM 40 1 rfl (hts (.fieldLink RX11 108 "BinRoundsModel" "isCharged" "[Z") (by decide +kernel)) rfl dX11_charges_174 ?_
                refine x_iload_n B hl dX11_charges_177 rfl ?_
                refine x_iconst B dX11_charges_178 ?_
                refine mo_zst (k := 40) E hM hS rfl (by have h9 : mLn 40 = 600 := rfl; omega) (by decide) (by omega) dX11_charges_179 (fun H locs hM hS => ?_)
                refine mo_vret E hr hlk hM hS dX11_charges_180 ?_ trivial
                first | (exfalso; omega) | (rw [sCh_w1 (by omega)]; first | (exact (sChB_a (H := sHouse σ (σ 36 t) (σ 32 t)) sHouse_15 (by show σ 12 (σ 36 t) = 4; omega) (by omega) (by show 0 < σ 7 _; omega)).symm) | (exact (sChB_b (H := sHouse σ (σ 36 t) (σ 32 t)) sHouse_15 (by show σ 12 (σ 36 t) = 4; omega) (by show ¬ (0 ≤ sHouse σ (σ 36 t) (σ 32 t) ∧ 0 < σ 7 (sHouse σ (σ 36 t) (σ 32 t))); omega)).symm) | (exact (sChB_c (by show ¬ σ 12 (σ 36 t) = 4; omega) (if_pos (by omega))).symm) | (exact (sChB_d (by show σ 12 (σ 36 t) = 2; omega) (by rw [if_neg (by omega)]; decide)).symm) | (exact (sChB_e (by show ¬ σ 12 (σ 36 t) = 4; omega) (by show ¬ σ 12 (σ 36 t) = 2; omega) (by rw [if_neg (by omega)]; decide) (by show 0 ≤ σ 12 (σ 36 t); omega)).symm)) | (rw [sCh_w0 (by omega)]; first | (exact (sChB_a rfl (by omega) (by omega) (by omega)).symm) | (exact (sChB_b rfl (by omega) (by omega)).symm) | (exact (sChB_d (by omega) (by decide)).symm) | (exact (sChB_e (by omega) (by omega) (by decide) (by omega)).symm))
          · refine x_aload_n B hl dX11_charges_83 rfl ?_
            refine mo_geta E hM 7 0 rfl (hts (.fieldLink RX11 23 "BinRoundsModel" "bands" "[I") (by decide +kernel)) rfl dX11_charges_84 ?_
            refine x_iload B hl dX11_charges_87 rfl ?_
            refine mo_ld (k := 7) E hM rfl (by have h9 : mLn 7 = 60 := rfl; omega) (by decide) dX11_charges_89 (up_ne (by decide) rfl) (fun r_89 => ?_)
            refine x_if_le (tgt := 107) B dX11_charges_90 (by decide) (by omega) (fun c_90 => ?_) (fun c_90 => ?_)
            · refine x_goto (tgt := 129) B dX11_charges_107 (by decide) ?_
              refine x_aload_n B hl dX11_charges_129 rfl ?_
              refine mo_geta E hM 42 0 rfl (hts (.fieldLink RX11 114 "BinRoundsModel" "lift" "[I") (by decide +kernel)) rfl dX11_charges_130 ?_
              refine x_iload_n B hl dX11_charges_133 rfl ?_
              refine x_iload B hl dX11_charges_134 rfl ?_
              refine x_if_ge (tgt := 143) B dX11_charges_136 (by decide) (by omega) (fun c_136 => ?_) (fun c_136 => ?_)
              · refine x_aload_n B hl dX11_charges_143 rfl ?_
                refine mo_geta E hM 28 0 rfl (hts (.fieldLink RX11 78 "BinRoundsModel" "lifts" "[I") (by decide +kernel)) rfl dX11_charges_144 ?_
                refine x_iload B hl dX11_charges_147 rfl ?_
                refine mo_ld (k := 28) E hM rfl (by have h9 : mLn 28 = 5 := rfl; omega) (by decide) dX11_charges_149 (up_ne (by decide) rfl) (fun r_149 => ?_)
                refine mo_st (k := 42) E hM hS rfl (by have h9 : mLn 42 = 600 := rfl; omega) (by decide) (by omega) dX11_charges_150 (fun H locs hM hS => ?_)
                refine x_aload_n B hl dX11_charges_151 rfl ?_
                refine mo_geta E hM 43 0 rfl (hts (.fieldLink RX11 117 "BinRoundsModel" "rate" "[I") (by decide +kernel)) rfl dX11_charges_152 ?_
                refine x_iload_n B hl dX11_charges_155 rfl ?_
                refine x_iload B hl dX11_charges_156 rfl ?_
                refine x_if_ge (tgt := 165) B dX11_charges_158 (by decide) (by omega) (fun c_158 => ?_) (fun c_158 => ?_)
                · refine x_aload_n B hl dX11_charges_165 rfl ?_
                  refine mo_geta E hM 29 0 rfl (hts (.fieldLink RX11 81 "BinRoundsModel" "rates" "[I") (by decide +kernel)) rfl dX11_charges_166 ?_
                  refine x_iload B hl dX11_charges_169 rfl ?_
                  refine mo_ld (k := 29) E hM rfl (by have h9 : mLn 29 = 5 := rfl; omega) (by decide) dX11_charges_171 (up_ne (by decide) (up_ne (by decide) rfl)) (fun r_171 => ?_)
                  refine mo_st (k := 43) E hM hS rfl (by have h9 : mLn 43 = 600 := rfl; omega) (by decide) (by omega) dX11_charges_172 (fun H locs hM hS => ?_)
                  refine x_aload_n B hl dX11_charges_173 rfl ?_
                  refine mo_geta E hM 40 1 rfl (hts (.fieldLink RX11 108 "BinRoundsModel" "isCharged" "[Z") (by decide +kernel)) rfl dX11_charges_174 ?_
                  refine x_iload_n B hl dX11_charges_177 rfl ?_
                  refine x_iconst B dX11_charges_178 ?_
                  refine mo_zst (k := 40) E hM hS rfl (by have h9 : mLn 40 = 600 := rfl; omega) (by decide) (by omega) dX11_charges_179 (fun H locs hM hS => ?_)
                  refine mo_vret E hr hlk hM hS dX11_charges_180 ?_ trivial
                  first | (exfalso; omega) | (rw [sCh_w1 (by omega)]; first | (exact (sChB_a (H := sHouse σ (σ 36 t) (σ 32 t)) sHouse_15 (by show σ 12 (σ 36 t) = 4; omega) (by omega) (by show 0 < σ 7 _; omega)).symm) | (exact (sChB_b (H := sHouse σ (σ 36 t) (σ 32 t)) sHouse_15 (by show σ 12 (σ 36 t) = 4; omega) (by show ¬ (0 ≤ sHouse σ (σ 36 t) (σ 32 t) ∧ 0 < σ 7 (sHouse σ (σ 36 t) (σ 32 t))); omega)).symm) | (exact (sChB_c (by show ¬ σ 12 (σ 36 t) = 4; omega) (if_pos (by omega))).symm) | (exact (sChB_d (by show σ 12 (σ 36 t) = 2; omega) (by rw [if_neg (by omega)]; decide)).symm) | (exact (sChB_e (by show ¬ σ 12 (σ 36 t) = 4; omega) (by show ¬ σ 12 (σ 36 t) = 2; omega) (by rw [if_neg (by omega)]; decide) (by show 0 ≤ σ 12 (σ 36 t); omega)).symm)) | (rw [sCh_w0 (by omega)]; first | (exact (sChB_a rfl (by omega) (by omega) (by omega)).symm) | (exact (sChB_b rfl (by omega) (by omega)).symm) | (exact (sChB_d (by omega) (by decide)).symm) | (exact (sChB_e (by omega) (by omega) (by decide) (by omega)).symm))
                · refine x_iconst B dX11_charges_161 ?_
                  refine x_goto (tgt := 172) B dX11_charges_162 (by decide) ?_
                  refine mo_st (k := 43) E hM hS rfl (by have h9 : mLn 43 = 600 := rfl; omega) (by decide) (by omega) dX11_charges_172 (fun H locs hM hS => ?_)
                  refine x_aload_n B hl dX11_charges_173 rfl ?_
                  refine mo_geta E hM 40 1 rfl (hts (.fieldLink RX11 108 "BinRoundsModel" "isCharged" "[Z") (by decide +kernel)) rfl dX11_charges_174 ?_
                  refine x_iload_n B hl dX11_charges_177 rfl ?_
                  refine x_iconst B dX11_charges_178 ?_
                  refine mo_zst (k := 40) E hM hS rfl (by have h9 : mLn 40 = 600 := rfl; omega) (by decide) (by omega) dX11_charges_179 (fun H locs hM hS => ?_)
                  refine mo_vret E hr hlk hM hS dX11_charges_180 ?_ trivial
                  first | (exfalso; omega) | (rw [sCh_w1 (by omega)]; first | (exact (sChB_a (H := sHouse σ (σ 36 t) (σ 32 t)) sHouse_15 (by show σ 12 (σ 36 t) = 4; omega) (by omega) (by show 0 < σ 7 _; omega)).symm) | (exact (sChB_b (H := sHouse σ (σ 36 t) (σ 32 t)) sHouse_15 (by show σ 12 (σ 36 t) = 4; omega) (by show ¬ (0 ≤ sHouse σ (σ 36 t) (σ 32 t) ∧ 0 < σ 7 (sHouse σ (σ 36 t) (σ 32 t))); omega)).symm) | (exact (sChB_c (by show ¬ σ 12 (σ 36 t) = 4; omega) (if_pos (by omega))).symm) | (exact (sChB_d (by show σ 12 (σ 36 t) = 2; omega) (by rw [if_neg (by omega)]; decide)).symm) | (exact (sChB_e (by show ¬ σ 12 (σ 36 t) = 4; omega) (by show ¬ σ 12 (σ 36 t) = 2; omega) (by rw [if_neg (by omega)]; decide) (by show 0 ≤ σ 12 (σ 36 t); omega)).symm)) | (rw [sCh_w0 (by omega)]; first | (exact (sChB_a rfl (by omega) (by omega) (by omega)).symm) | (exact (sChB_b rfl (by omega) (by omega)).symm) | (exact (sChB_d (by omega) (by decide)).symm) | (exact (sChB_e (by omega) (by omega) (by decide) (by omega)).symm))
              · refine x_iconst B dX11_charges_139 ?_
                refine x_goto (tgt := 150) B dX11_charges_140 (by decide) ?_
                refine mo_st (k := 42) E hM hS rfl (by have h9 : mLn 42 = 600 := rfl; omega) (by decide) (by omega) dX11_charges_150 (fun H locs hM hS => ?_)
                refine x_aload_n B hl dX11_charges_151 rfl ?_
                refine mo_geta E hM 43 0 rfl (hts (.fieldLink RX11 117 "BinRoundsModel" "rate" "[I") (by decide +kernel)) rfl dX11_charges_152 ?_
                refine x_iload_n B hl dX11_charges_155 rfl ?_
                refine x_iload B hl dX11_charges_156 rfl ?_
                refine x_if_ge (tgt := 165) B dX11_charges_158 (by decide) (by omega) (fun c_158 => ?_) (fun c_158 => ?_)
                · refine x_aload_n B hl dX11_charges_165 rfl ?_
                  refine mo_geta E hM 29 0 rfl (hts (.fieldLink RX11 81 "BinRoundsModel" "rates" "[I") (by decide +kernel)) rfl dX11_charges_166 ?_
                  refine x_iload B hl dX11_charges_169 rfl ?_
                  refine mo_ld (k := 29) E hM rfl (by have h9 : mLn 29 = 5 := rfl; omega) (by decide) dX11_charges_171 (up_ne (by decide) (up_ne (by decide) rfl)) (fun r_171 => ?_)
                  refine mo_st (k := 43) E hM hS rfl (by have h9 : mLn 43 = 600 := rfl; omega) (by decide) (by omega) dX11_charges_172 (fun H locs hM hS => ?_)
                  refine x_aload_n B hl dX11_charges_173 rfl ?_
                  refine mo_geta E hM 40 1 rfl (hts (.fieldLink RX11 108 "BinRoundsModel" "isCharged" "[Z") (by decide +kernel)) rfl dX11_charges_174 ?_
                  refine x_iload_n B hl dX11_charges_177 rfl ?_
                  refine x_iconst B dX11_charges_178 ?_
                  refine mo_zst (k := 40) E hM hS rfl (by have h9 : mLn 40 = 600 := rfl; omega) (by decide) (by omega) dX11_charges_179 (fun H locs hM hS => ?_)
                  refine mo_vret E hr hlk hM hS dX11_charges_180 ?_ trivial
                  first | (exfalso; omega) | (rw [sCh_w1 (by omega)]; first | (exact (sChB_a (H := sHouse σ (σ 36 t) (σ 32 t)) sHouse_15 (by show σ 12 (σ 36 t) = 4; omega) (by omega) (by show 0 < σ 7 _; omega)).symm) | (exact (sChB_b (H := sHouse σ (σ 36 t) (σ 32 t)) sHouse_15 (by show σ 12 (σ 36 t) = 4; omega) (by show ¬ (0 ≤ sHouse σ (σ 36 t) (σ 32 t) ∧ 0 < σ 7 (sHouse σ (σ 36 t) (σ 32 t))); omega)).symm) | (exact (sChB_c (by show ¬ σ 12 (σ 36 t) = 4; omega) (if_pos (by omega))).symm) | (exact (sChB_d (by show σ 12 (σ 36 t) = 2; omega) (by rw [if_neg (by omega)]; decide)).symm) | (exact (sChB_e (by show ¬ σ 12 (σ 36 t) = 4; omega) (by show ¬ σ 12 (σ 36 t) = 2; omega) (by rw [if_neg (by omega)]; decide) (by show 0 ≤ σ 12 (σ 36 t); omega)).symm)) | (rw [sCh_w0 (by omega)]; first | (exact (sChB_a rfl (by omega) (by omega) (by omega)).symm) | (exact (sChB_b rfl (by omega) (by omega)).symm) | (exact (sChB_d (by omega) (by decide)).symm) | (exact (sChB_e (by omega) (by omega) (by decide) (by omega)).symm))
                · refine x_iconst B dX11_charges_161 ?_
                  refine x_goto (tgt := 172) B dX11_charges_162 (by decide) ?_
                  refine mo_st (k := 43) E hM hS rfl (by have h9 : mLn 43 = 600 := rfl; omega) (by decide) (by omega) dX11_charges_172 (fun H locs hM hS => ?_)
                  refine x_aload_n B hl dX11_charges_173 rfl ?_
                  refine mo_geta E hM 40 1 rfl (hts (.fieldLink RX11 108 "BinRoundsModel" "isCharged" "[Z") (by decide +kernel)) rfl dX11_charges_174 ?_
                  refine x_iload_n B hl dX11_charges_177 rfl ?_
                  refine x_iconst B dX11_charges_178 ?_
                  refine mo_zst (k := 40) E hM hS rfl (by have h9 : mLn 40 = 600 := rfl; omega) (by decide) (by omega) dX11_charges_179 (fun H locs hM hS => ?_)
                  refine mo_vret E hr hlk hM hS dX11_charges_180 ?_ trivial
                  first | (exfalso; omega) | (rw [sCh_w1 (by omega)]; first | (exact (sChB_a (H := sHouse σ (σ 36 t) (σ 32 t)) sHouse_15 (by show σ 12 (σ 36 t) = 4; omega) (by omega) (by show 0 < σ 7 _; omega)).symm) | (exact (sChB_b (H := sHouse σ (σ 36 t) (σ 32 t)) sHouse_15 (by show σ 12 (σ 36 t) = 4; omega) (by show ¬ (0 ≤ sHouse σ (σ 36 t) (σ 32 t) ∧ 0 < σ 7 (sHouse σ (σ 36 t) (σ 32 t))); omega)).symm) | (exact (sChB_c (by show ¬ σ 12 (σ 36 t) = 4; omega) (if_pos (by omega))).symm) | (exact (sChB_d (by show σ 12 (σ 36 t) = 2; omega) (by rw [if_neg (by omega)]; decide)).symm) | (exact (sChB_e (by show ¬ σ 12 (σ 36 t) = 4; omega) (by show ¬ σ 12 (σ 36 t) = 2; omega) (by rw [if_neg (by omega)]; decide) (by show 0 ≤ σ 12 (σ 36 t); omega)).symm)) | (rw [sCh_w0 (by omega)]; first | (exact (sChB_a rfl (by omega) (by omega) (by omega)).symm) | (exact (sChB_b rfl (by omega) (by omega)).symm) | (exact (sChB_d (by omega) (by decide)).symm) | (exact (sChB_e (by omega) (by omega) (by decide) (by omega)).symm))
            · refine x_aload_n B hl dX11_charges_93 rfl ?_
              refine mo_geta E hM 7 0 rfl (hts (.fieldLink RX11 23 "BinRoundsModel" "bands" "[I") (by decide +kernel)) rfl dX11_charges_94 ?_
              refine x_iload B hl dX11_charges_97 rfl ?_
              refine lv_dup2_11 B.1 B.2 dX11_charges_99 rfl rfl ?_
              refine mo_ld (k := 7) E hM rfl (by have h9 : mLn 7 = 60 := rfl; omega) (by decide) dX11_charges_100 (up_ne (by decide) rfl) (fun r_100 => ?_)
              refine x_iconst B dX11_charges_101 ?_
              refine x_isub B dX11_charges_102 ?_
              refine mo_st (k := 7) E hM hS rfl (by have h9 : mLn 7 = 60 := rfl; omega) (by decide) (by omega) dX11_charges_103 (fun H locs hM hS => ?_)
              refine x_iconst B dX11_charges_104 ?_
              refine x_istore B hl dX11_charges_105 (by decide) (fun ls hl => ?_)
              refine x_goto (tgt := 129) B dX11_charges_107 (by decide) ?_
              refine x_aload_n B hl dX11_charges_129 rfl ?_
              refine mo_geta E hM 42 0 rfl (hts (.fieldLink RX11 114 "BinRoundsModel" "lift" "[I") (by decide +kernel)) rfl dX11_charges_130 ?_
              refine x_iload_n B hl dX11_charges_133 rfl ?_
              refine x_iload B hl dX11_charges_134 rfl ?_
              refine x_if_ge_f (tgt := 143) B dX11_charges_136 (by decide) (by decide) ?_
              refine x_iconst B dX11_charges_139 ?_
              refine x_goto (tgt := 150) B dX11_charges_140 (by decide) ?_
              refine mo_st (k := 42) E hM hS rfl (by have h9 : mLn 42 = 600 := rfl; omega) (by decide) (by omega) dX11_charges_150 (fun H locs hM hS => ?_)
              refine x_aload_n B hl dX11_charges_151 rfl ?_
              refine mo_geta E hM 43 0 rfl (hts (.fieldLink RX11 117 "BinRoundsModel" "rate" "[I") (by decide +kernel)) rfl dX11_charges_152 ?_
              refine x_iload_n B hl dX11_charges_155 rfl ?_
              refine x_iload B hl dX11_charges_156 rfl ?_
              refine x_if_ge_f (tgt := 165) B dX11_charges_158 (by decide) (by decide) ?_
              refine x_iconst B dX11_charges_161 ?_
              refine x_goto (tgt := 172) B dX11_charges_162 (by decide) ?_
              refine mo_st (k := 43) E hM hS rfl (by have h9 : mLn 43 = 600 := rfl; omega) (by decide) (by omega) dX11_charges_172 (fun H locs hM hS => ?_)
              refine x_aload_n B hl dX11_charges_173 rfl ?_
              refine mo_geta E hM 40 1 rfl (hts (.fieldLink RX11 108 "BinRoundsModel" "isCharged" "[Z") (by decide +kernel)) rfl dX11_charges_174 ?_
              refine x_iload_n B hl dX11_charges_177 rfl ?_
              refine x_iconst B dX11_charges_178 ?_
              refine mo_zst (k := 40) E hM hS rfl (by have h9 : mLn 40 = 600 := rfl; omega) (by decide) (by omega) dX11_charges_179 (fun H locs hM hS => ?_)
              refine mo_vret E hr hlk hM hS dX11_charges_180 ?_ trivial
              first | (exfalso; omega) | (rw [sCh_w1 (by omega)]; first | (exact (sChB_a (H := sHouse σ (σ 36 t) (σ 32 t)) sHouse_15 (by show σ 12 (σ 36 t) = 4; omega) (by omega) (by show 0 < σ 7 _; omega)).symm) | (exact (sChB_b (H := sHouse σ (σ 36 t) (σ 32 t)) sHouse_15 (by show σ 12 (σ 36 t) = 4; omega) (by show ¬ (0 ≤ sHouse σ (σ 36 t) (σ 32 t) ∧ 0 < σ 7 (sHouse σ (σ 36 t) (σ 32 t))); omega)).symm) | (exact (sChB_c (by show ¬ σ 12 (σ 36 t) = 4; omega) (if_pos (by omega))).symm) | (exact (sChB_d (by show σ 12 (σ 36 t) = 2; omega) (by rw [if_neg (by omega)]; decide)).symm) | (exact (sChB_e (by show ¬ σ 12 (σ 36 t) = 4; omega) (by show ¬ σ 12 (σ 36 t) = 2; omega) (by rw [if_neg (by omega)]; decide) (by show 0 ≤ σ 12 (σ 36 t); omega)).symm)) | (rw [sCh_w0 (by omega)]; first | (exact (sChB_a rfl (by omega) (by omega) (by omega)).symm) | (exact (sChB_b rfl (by omega) (by omega)).symm) | (exact (sChB_d (by omega) (by decide)).symm) | (exact (sChB_e (by omega) (by omega) (by decide) (by omega)).symm))
