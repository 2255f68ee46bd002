set_option maxHeartbeats 4000000 in
set_option maxRecDepth 100000 in
theorem m_dayOf (l : Launch) (D : va_G) (cy : Nat → ClassId) (o : Nat) (ad : Nat → Nat) (σ : MS) {st g wk : Int} (hst : 0 ≤ st ∧ st < 10) (hg : 0 ≤ g ∧ g < 3) (hwk : 0 ≤ wk ∧ wk ≤ 110) (hwe : 0 ≤ σ 4 (3 * st + g) ∧ σ 4 (3 * st + g) ≤ 3) : MM l yX11_dayOf wsX11_dayOf ({ frames := 1, cells := 0, slots := 0, locals := 21 } : Room) D cy o ad [.int (iI st), .int (iI g), .int (iI wk)] σ (some (.int (iI (sDay σ st g wk)))) (σ) (-2 ≤ sDay σ st g wk ∧ sDay σ st g wk ≤ 800) := by
  refine mm_of (cc := cX11_dayOf) (nL := 10) (ret := (some .int)) (by decide) rfl rfl (fun w h => List.mem_cons_of_mem _ (List.mem_append_right _ h)) (Nat.le_of_ble_eq_true rfl) ⟨rfl, rfl⟩ ?_
  intro p e s m args below meth c ls E hr hlk hM hS hl
  have B := E.1
  have hml := E.2.1
  have hown := E.2.2.1
  have hts0 := E.2.2.2.1
  have hts := E.2.2.2.1
  have hw := hM.2.2.2
  have r3 := hw.1 3 (3 * st + g) (by decide)
  refine x_aload_n B hl dX11_dayOf_0 rfl ?_
  refine mo_geta E hM 4 0 rfl (hts (.fieldLink RX11 17 "BinRoundsModel" "weeksOf" "[I") (by decide +kernel)) rfl dX11_dayOf_1 ?_
  refine x_iconst B dX11_dayOf_4 ?_
  refine x_iload_n B hl dX11_dayOf_5 rfl ?_
  refine x_imul B dX11_dayOf_6 ?_
  refine x_iload_n B hl dX11_dayOf_7 rfl ?_
  refine x_iadd B dX11_dayOf_8 ?_
  refine mo_ld (k := 4) E hM rfl (by have h9 : mLn 4 = 30 := rfl; omega) (by decide) dX11_dayOf_9 rfl (fun r_9 => ?_)
  refine x_istore B hl dX11_dayOf_10 (by decide) (fun ls hl => ?_)
  refine x_iload_n B hl dX11_dayOf_12 rfl ?_
  refine x_iconst B dX11_dayOf_13 ?_
  refine x_irem B dX11_dayOf_14 (by omega) (by omega) ?_
  refine x_iconst B dX11_dayOf_15 ?_
  refine x_icmp_ne (tgt := 26) B dX11_dayOf_16 (by decide) (by omega) (by omega) (fun c_16 => ?_) (fun c_16 => ?_)
  · refine x_iload B hl dX11_dayOf_26 rfl ?_
    refine x_iconst B dX11_dayOf_28 ?_
    refine x_iand2 B dX11_dayOf_29 (by omega) ?_
    refine x_if_ne (tgt := 35) B dX11_dayOf_30 (by decide) (by omega) (fun c_30 => ?_) (fun c_30 => ?_)
    · have hz : ¬ (if wk % 2 = 1 then σ 4 (3 * st + g) % 2 else σ 4 (3 * st + g) / 2 * 2) = 0 := by omega
      have inner : ∀ (n : Nat) (j k fnd : Int) (H : Heap) (locs : List Loc) (hM : MP D cy o ad σ H) (hS : va_S (mA o ad) s.heap H locs) (ls : Array Slot), 0 ≤ j → j ≤ k → k ≤ 5 → k - j < n → lv_has ls 10 [(0, .ref o), (1, .int (iI st)), (2, .int (iI g)), (3, .int (iI wk)), (5, .int (iI (σ 3 (3 * st + g)))), (6, .int (iI fnd)), (7, .int (iI k)), (8, .int (iI (sBef σ (7 * wk) j.toNat))), (9, .int (iI j))] → (∀ (H : Heap) (locs : List Loc) (hM : MP D cy o ad σ H) (hS : va_S (mA o ad) s.heap H locs) (ls : Array Slot), lv_has ls 10 [(0, .ref o), (1, .int (iI st)), (2, .int (iI g)), (3, .int (iI wk)), (5, .int (iI (σ 3 (3 * st + g)))), (6, .int (iI fnd)), (7, .int (iI k)), (8, .int (iI (sBef σ (7 * wk) k.toNat))), (9, .int (iI k))] → W p l e ({ frames := 1, cells := 0, slots := 0, locals := 21 } : Room) s m args below meth c H locs 0 0 (MQ below (mQ D cy o ad (some (.int (iI (sDay σ st g wk)))) (σ) (-2 ≤ sDay σ st g wk ∧ sDay σ st g wk ≤ 800)) args s 0 0 (mA o ad)) (F0 m 102 ls [])) → W p l e ({ frames := 1, cells := 0, slots := 0, locals := 21 } : Room) s m args below meth c H locs 0 0 (MQ below (mQ D cy o ad (some (.int (iI (sDay σ st g wk)))) (σ) (-2 ≤ sDay σ st g wk ∧ sDay σ st g wk ≤ 800)) args s 0 0 (mA o ad)) (F0 m 65 ls []) := by
        intro n
        induction n with
        | zero => intro j k fnd H locs hM hS ls h1 h2 h3 h4; exact absurd h4 (by omega)
        | succ n ih =>
          intro j k fnd H locs hM hS ls h1 h2 h3 h4 hl kk
          refine x_iload B hl dX11_dayOf_65 rfl ?_
          refine x_iload B hl dX11_dayOf_67 rfl ?_
          refine x_icmp_ge (tgt := 102) B dX11_dayOf_69 (by decide) (by omega) (by omega) (fun c_69 => ?_) (fun c_69 => ?_)
          · exact kk _ _ hM hS ls (lv_key hl [(0, .ref o), (1, .int (iI st)), (2, .int (iI g)), (3, .int (iI wk)), (5, .int (iI (σ 3 (3 * st + g)))), (6, .int (iI fnd)), (7, .int (iI k)), (8, .int (iI (sBef σ (7 * wk) k.toNat))), (9, .int (iI k))] (by rw [show j = k by omega]; rfl))
          · refine x_iload B hl dX11_dayOf_72 rfl ?_
            refine x_aload_n B hl dX11_dayOf_74 rfl ?_
            refine x_bipush B dX11_dayOf_75 (by decide) ?_
            refine x_iload_n B hl dX11_dayOf_77 rfl ?_
            refine x_imul B dX11_dayOf_78 ?_
            refine x_iload B hl dX11_dayOf_79 rfl ?_
            refine x_iadd B dX11_dayOf_81 ?_
            refine mo_call E hM hS hl (m_isHoliday l D cy o ad _ (by omega)) (cwV 1 hts0 gX11_dayOf_X11_isHoliday rfl rfl rfl (by decide +kernel) ⟨Nat.le_of_ble_eq_true rfl, Nat.le_of_ble_eq_true rfl⟩) rfl rfl (Nat.le_of_ble_eq_true rfl) dX11_dayOf_82 ⟨Nat.zero_le _, Nat.zero_le _⟩ (fun H locs q_82 hM hS => ?_)
            refine x_bool (fun b_82 => ?_) (fun b_82 => ?_)
            · refine x_if_eq_f (tgt := 92) B dX11_dayOf_85 (by decide) (by decide) ?_
              refine x_iconst B dX11_dayOf_88 ?_
              refine x_goto (tgt := 93) B dX11_dayOf_89 (by decide) ?_
              refine x_iadd B dX11_dayOf_93 ?_
              refine x_istore B hl dX11_dayOf_94 (by decide) (fun ls hl => ?_)
              refine x_iinc B hl dX11_dayOf_96 rfl (by decide) (fun ls hl => ?_)
              refine x_goto (tgt := 65) B dX11_dayOf_99 (by decide) ?_
              exact ih (j + 1) k fnd _ _ hM hS ls (by omega) (by omega) (by omega) (by omega) (lv_key hl [(0, .ref o), (1, .int (iI st)), (2, .int (iI g)), (3, .int (iI wk)), (5, .int (iI (σ 3 (3 * st + g)))), (6, .int (iI fnd)), (7, .int (iI k)), (8, .int (iI (sBef σ (7 * wk) (j + 1).toNat))), (9, .int (iI (j + 1)))] (by first | (rw [sBef_s (by omega), if_pos (by first | assumption | omega)]; rfl) | (rw [sBef_s (by omega), if_neg (by first | assumption | omega)]; rfl))) kk
            · refine x_if_eq_t (tgt := 92) B dX11_dayOf_85 (by decide) (by decide) ?_
              refine x_iconst B dX11_dayOf_92 ?_
              refine x_iadd B dX11_dayOf_93 ?_
              refine x_istore B hl dX11_dayOf_94 (by decide) (fun ls hl => ?_)
              refine x_iinc B hl dX11_dayOf_96 rfl (by decide) (fun ls hl => ?_)
              refine x_goto (tgt := 65) B dX11_dayOf_99 (by decide) ?_
              exact ih (j + 1) k fnd _ _ hM hS ls (by omega) (by omega) (by omega) (by omega) (lv_key hl [(0, .ref o), (1, .int (iI st)), (2, .int (iI g)), (3, .int (iI wk)), (5, .int (iI (σ 3 (3 * st + g)))), (6, .int (iI fnd)), (7, .int (iI k)), (8, .int (iI (sBef σ (7 * wk) (j + 1).toNat))), (9, .int (iI (j + 1)))] (by first | (rw [sBef_s (by omega), if_pos (by first | assumption | omega)]; rfl) | (rw [sBef_s (by omega), if_neg (by first | assumption | omega)]; rfl))) kk
      have outer : ∀ (n : Nat) (k : Int) (H : Heap) (locs : List Loc) (hM : MP D cy o ad σ H) (hS : va_S (mA o ad) s.heap H locs) (ls : Array Slot), -1 ≤ k → k ≤ 5 → k + 1 < n → lv_has ls 10 [(0, .ref o), (1, .int (iI st)), (2, .int (iI g)), (3, .int (iI wk)), (5, .int (iI (σ 3 (3 * st + g)))), (6, .int (iI (sFnd σ (7 * wk) (σ 3 (3 * st + g)) (5 - k).toNat))), (7, .int (iI k))] → W p l e ({ frames := 1, cells := 0, slots := 0, locals := 21 } : Room) s m args below meth c H locs 0 0 (MQ below (mQ D cy o ad (some (.int (iI (sDay σ st g wk)))) (σ) (-2 ≤ sDay σ st g wk ∧ sDay σ st g wk ≤ 800)) args s 0 0 (mA o ad)) (F0 m 54 ls []) := by
        intro n
        induction n with
        | zero => intro k H locs hM hS ls h1 h2 h3; exact absurd h3 (by omega)
        | succ n ih =>
          intro k H locs hM hS ls h1 h2 h3 hl
          refine x_iload B hl dX11_dayOf_54 rfl ?_
          refine x_if_lt (tgt := 138) B dX11_dayOf_56 (by decide) (by omega) (fun c_56 => ?_) (fun c_56 => ?_)
          · refine x_iload B hl dX11_dayOf_138 rfl ?_
            exact mo_iret E hr rfl hlk hM hS dX11_dayOf_140 (by rw [show k = -1 by omega]; rw [sDay, if_neg hz]; rfl) rfl (sDay_r hwk)
          · refine x_iconst B dX11_dayOf_59 ?_
            refine x_istore B hl dX11_dayOf_60 (by decide) (fun ls hl => ?_)
            refine x_iconst B dX11_dayOf_62 ?_
            refine x_istore B hl dX11_dayOf_63 (by decide) (fun ls hl => ?_)
            refine inner 6 0 k _ _ _ hM hS ls (by omega) (by omega) (by omega) (by omega) (lv_key hl [(0, .ref o), (1, .int (iI st)), (2, .int (iI g)), (3, .int (iI wk)), (5, .int (iI (σ 3 (3 * st + g)))), (6, .int (iI (sFnd σ (7 * wk) (σ 3 (3 * st + g)) (5 - k).toNat))), (7, .int (iI k)), (8, .int (iI (sBef σ (7 * wk) (0 : Int).toNat))), (9, .int (iI 0))] rfl) (fun H locs hM hS ls hl => ?_)
            have b9 := sBef_r σ (7 * wk) k.toNat
            refine x_aload_n B hl dX11_dayOf_102 rfl ?_
            refine x_bipush B dX11_dayOf_103 (by decide) ?_
            refine x_iload_n B hl dX11_dayOf_105 rfl ?_
            refine x_imul B dX11_dayOf_106 ?_
            refine x_iload B hl dX11_dayOf_107 rfl ?_
            refine x_iadd B dX11_dayOf_109 ?_
            refine mo_call E hM hS hl (m_isHoliday l D cy o ad _ (by omega)) (cwV 1 hts0 gX11_dayOf_X11_isHoliday rfl rfl rfl (by decide +kernel) ⟨Nat.le_of_ble_eq_true rfl, Nat.le_of_ble_eq_true rfl⟩) rfl rfl (Nat.le_of_ble_eq_true rfl) dX11_dayOf_110 ⟨Nat.zero_le _, Nat.zero_le _⟩ (fun H locs q_110 hM hS => ?_)
            refine x_bool (fun b_110 => ?_) (fun b_110 => ?_)
            · refine x_if_ne_t (tgt := 132) B dX11_dayOf_113 (by decide) (by decide) ?_
              refine x_iinc B hl dX11_dayOf_132 rfl (by decide) (fun ls hl => ?_)
              refine x_goto (tgt := 54) B dX11_dayOf_135 (by decide) ?_
              exact ih (k - 1) _ _ hM hS ls (by omega) (by omega) (by omega) (lv_key hl [(0, .ref o), (1, .int (iI st)), (2, .int (iI g)), (3, .int (iI wk)), (5, .int (iI (σ 3 (3 * st + g)))), (6, .int (iI (sFnd σ (7 * wk) (σ 3 (3 * st + g)) (5 - (k - 1)).toNat))), (7, .int (iI (k + -1)))] (by first | (rw [sFnd_s (by omega), if_pos (by first | exact ⟨by assumption, by omega⟩ | omega)]; rfl) | (rw [sFnd_s (by omega), if_neg (by rintro ⟨q1, q2⟩; first | exact q1 (by assumption) | omega)]; rfl)))
            · refine x_if_ne_f (tgt := 132) B dX11_dayOf_113 (by decide) (by decide) ?_
              refine x_iload B hl dX11_dayOf_116 rfl ?_
              refine x_iload B hl dX11_dayOf_118 rfl ?_
              refine x_icmp_ne (tgt := 132) B dX11_dayOf_120 (by decide) (by omega) (by omega) (fun c_120 => ?_) (fun c_120 => ?_)
              · refine x_iinc B hl dX11_dayOf_132 rfl (by decide) (fun ls hl => ?_)
                refine x_goto (tgt := 54) B dX11_dayOf_135 (by decide) ?_
                exact ih (k - 1) _ _ hM hS ls (by omega) (by omega) (by omega) (lv_key hl [(0, .ref o), (1, .int (iI st)), (2, .int (iI g)), (3, .int (iI wk)), (5, .int (iI (σ 3 (3 * st + g)))), (6, .int (iI (sFnd σ (7 * wk) (σ 3 (3 * st + g)) (5 - (k - 1)).toNat))), (7, .int (iI (k + -1)))] (by first | (rw [sFnd_s (by omega), if_pos (by first | exact ⟨by assumption, by omega⟩ | omega)]; rfl) | (rw [sFnd_s (by omega), if_neg (by rintro ⟨q1, q2⟩; first | exact q1 (by assumption) | omega)]; rfl)))
              · refine x_bipush B dX11_dayOf_123 (by decide) ?_
                refine x_iload_n B hl dX11_dayOf_125 rfl ?_
                refine x_imul B dX11_dayOf_126 ?_
                refine x_iload B hl dX11_dayOf_127 rfl ?_
                refine x_iadd B dX11_dayOf_129 ?_
                refine x_istore B hl dX11_dayOf_130 (by decide) (fun ls hl => ?_)
                refine x_iinc B hl dX11_dayOf_132 rfl (by decide) (fun ls hl => ?_)
                refine x_goto (tgt := 54) B dX11_dayOf_135 (by decide) ?_
                exact ih (k - 1) _ _ hM hS ls (by omega) (by omega) (by omega) (lv_key hl [(0, .ref o), (1, .int (iI st)), (2, .int (iI g)), (3, .int (iI wk)), (5, .int (iI (σ 3 (3 * st + g)))), (6, .int (iI (sFnd σ (7 * wk) (σ 3 (3 * st + g)) (5 - (k - 1)).toNat))), (7, .int (iI (k + -1)))] (by first | (rw [sFnd_s (by omega), if_pos (by first | exact ⟨by assumption, by omega⟩ | omega)]; rfl) | (rw [sFnd_s (by omega), if_neg (by rintro ⟨q1, q2⟩; first | exact q1 (by assumption) | omega)]; rfl)))
      refine x_aload_n B hl dX11_dayOf_35 rfl ?_
      refine mo_geta E hM 3 0 rfl (hts (.fieldLink RX11 13 "BinRoundsModel" "weekdays" "[I") (by decide +kernel)) rfl dX11_dayOf_36 ?_
      refine x_iconst B dX11_dayOf_39 ?_
      refine x_iload_n B hl dX11_dayOf_40 rfl ?_
      refine x_imul B dX11_dayOf_41 ?_
      refine x_iload_n B hl dX11_dayOf_42 rfl ?_
      refine x_iadd B dX11_dayOf_43 ?_
      refine mo_ld (k := 3) E hM rfl (by have h9 : mLn 3 = 30 := rfl; omega) (by decide) dX11_dayOf_44 rfl (fun r_44 => ?_)
      refine x_istore B hl dX11_dayOf_45 (by decide) (fun ls hl => ?_)
      refine x_bipush B dX11_dayOf_47 (by decide) ?_
      refine x_istore B hl dX11_dayOf_49 (by decide) (fun ls hl => ?_)
      refine x_iconst B dX11_dayOf_51 ?_
      refine x_istore B hl dX11_dayOf_52 (by decide) (fun ls hl => ?_)
      exact outer 7 5 _ _ hM hS ls (by omega) (by omega) (by omega) (lv_key hl [(0, .ref o), (1, .int (iI st)), (2, .int (iI g)), (3, .int (iI wk)), (5, .int (iI (σ 3 (3 * st + g)))), (6, .int (iI (sFnd σ (7 * wk) (σ 3 (3 * st + g)) (5 - (5 : Int)).toNat))), (7, .int (iI 5))] rfl)
    · have hz : (if wk % 2 = 1 then σ 4 (3 * st + g) % 2 else σ 4 (3 * st + g) / 2 * 2) = 0 := by omega
      refine x_iconst B dX11_dayOf_33 ?_
      exact mo_iret E hr rfl hlk hM hS dX11_dayOf_34 (by rw [sDay, if_pos hz]) rfl (sDay_r hwk)
  · refine x_iload B hl dX11_dayOf_19 rfl ?_
    refine x_iconst B dX11_dayOf_21 ?_
    refine x_iand1 B dX11_dayOf_22 (by omega) ?_
    refine x_goto (tgt := 30) B dX11_dayOf_23 (by decide) ?_
    refine x_if_ne (tgt := 35) B dX11_dayOf_30 (by decide) (by omega) (fun c_30 => ?_) (fun c_30 => ?_)
    · have hz : ¬ (if wk % 2 = 1 then σ 4 (3 * st + g) % 2 else σ 4 (3 * st + g) / 2 * 2) = 0 := by omega
      have inner : ∀ (n : Nat) (j k fnd : Int) (H : Heap) (locs : List Loc) (hM : MP D cy o ad σ H) (hS : va_S (mA o ad) s.heap H locs) (ls : Array Slot), 0 ≤ j → j ≤ k → k ≤ 5 → k - j < n → lv_has ls 10 [(0, .ref o), (1, .int (iI st)), (2, .int (iI g)), (3, .int (iI wk)), (5, .int (iI (σ 3 (3 * st + g)))), (6, .int (iI fnd)), (7, .int (iI k)), (8, .int (iI (sBef σ (7 * wk) j.toNat))), (9, .int (iI j))] → (∀ (H : Heap) (locs : List Loc) (hM : MP D cy o ad σ H) (hS : va_S (mA o ad) s.heap H locs) (ls : Array Slot), lv_has ls 10 [(0, .ref o), (1, .int (iI st)), (2, .int (iI g)), (3, .int (iI wk)), (5, .int (iI (σ 3 (3 * st + g)))), (6, .int (iI fnd)), (7, .int (iI k)), (8, .int (iI (sBef σ (7 * wk) k.toNat))), (9, .int (iI k))] → W p l e ({ frames := 1, cells := 0, slots := 0, locals := 21 } : Room) s m args below meth c H locs 0 0 (MQ below (mQ D cy o ad (some (.int (iI (sDay σ st g wk)))) (σ) (-2 ≤ sDay σ st g wk ∧ sDay σ st g wk ≤ 800)) args s 0 0 (mA o ad)) (F0 m 102 ls [])) → W p l e ({ frames := 1, cells := 0, slots := 0, locals := 21 } : Room) s m args below meth c H locs 0 0 (MQ below (mQ D cy o ad (some (.int (iI (sDay σ st g wk)))) (σ) (-2 ≤ sDay σ st g wk ∧ sDay σ st g wk ≤ 800)) args s 0 0 (mA o ad)) (F0 m 65 ls []) := by
        intro n
        induction n with
        | zero => intro j k fnd H locs hM hS ls h1 h2 h3 h4; exact absurd h4 (by omega)
        | succ n ih =>
          intro j k fnd H locs hM hS ls h1 h2 h3 h4 hl kk
          refine x_iload B hl dX11_dayOf_65 rfl ?_
          refine x_iload B hl dX11_dayOf_67 rfl ?_
          refine x_icmp_ge (tgt := 102) B dX11_dayOf_69 (by decide) (by omega) (by omega) (fun c_69 => ?_) (fun c_69 => ?_)
          · exact kk _ _ hM hS ls (lv_key hl [(0, .ref o), (1, .int (iI st)), (2, .int (iI g)), (3, .int (iI wk)), (5, .int (iI (σ 3 (3 * st + g)))), (6, .int (iI fnd)), (7, .int (iI k)), (8, .int (iI (sBef σ (7 * wk) k.toNat))), (9, .int (iI k))] (by rw [show j = k by omega]; rfl))
          · refine x_iload B hl dX11_dayOf_72 rfl ?_
            refine x_aload_n B hl dX11_dayOf_74 rfl ?_
            refine x_bipush B dX11_dayOf_75 (by decide) ?_
            refine x_iload_n B hl dX11_dayOf_77 rfl ?_
            refine x_imul B dX11_dayOf_78 ?_
            refine x_iload B hl dX11_dayOf_79 rfl ?_
            refine x_iadd B dX11_dayOf_81 ?_
            refine mo_call E hM hS hl (m_isHoliday l D cy o ad _ (by omega)) (cwV 1 hts0 gX11_dayOf_X11_isHoliday rfl rfl rfl (by decide +kernel) ⟨Nat.le_of_ble_eq_true rfl, Nat.le_of_ble_eq_true rfl⟩) rfl rfl (Nat.le_of_ble_eq_true rfl) dX11_dayOf_82 ⟨Nat.zero_le _, Nat.zero_le _⟩ (fun H locs q_82 hM hS => ?_)
            refine x_bool (fun b_82 => ?_) (fun b_82 => ?_)
            · refine x_if_eq_f (tgt := 92) B dX11_dayOf_85 (by decide) (by decide) ?_
              refine x_iconst B dX11_dayOf_88 ?_
              refine x_goto (tgt := 93) B dX11_dayOf_89 (by decide) ?_
              refine x_iadd B dX11_dayOf_93 ?_
              refine x_istore B hl dX11_dayOf_94 (by decide) (fun ls hl => ?_)
              refine x_iinc B hl dX11_dayOf_96 rfl (by decide) (fun ls hl => ?_)
              refine x_goto (tgt := 65) B dX11_dayOf_99 (by decide) ?_
              exact ih (j + 1) k fnd _ _ hM hS ls (by omega) (by omega) (by omega) (by omega) (lv_key hl [(0, .ref o), (1, .int (iI st)), (2, .int (iI g)), (3, .int (iI wk)), (5, .int (iI (σ 3 (3 * st + g)))), (6, .int (iI fnd)), (7, .int (iI k)), (8, .int (iI (sBef σ (7 * wk) (j + 1).toNat))), (9, .int (iI (j + 1)))] (by first | (rw [sBef_s (by omega), if_pos (by first | assumption | omega)]; rfl) | (rw [sBef_s (by omega), if_neg (by first | assumption | omega)]; rfl))) kk
            · refine x_if_eq_t (tgt := 92) B dX11_dayOf_85 (by decide) (by decide) ?_
              refine x_iconst B dX11_dayOf_92 ?_
              refine x_iadd B dX11_dayOf_93 ?_
              refine x_istore B hl dX11_dayOf_94 (by decide) (fun ls hl => ?_)
              refine x_iinc B hl dX11_dayOf_96 rfl (by decide) (fun ls hl => ?_)
              refine x_goto (tgt := 65) B dX11_dayOf_99 (by decide) ?_
              exact ih (j + 1) k fnd _ _ hM hS ls (by omega) (by omega) (by omega) (by omega) (lv_key hl [(0, .ref o), (1, .int (iI st)), (2, .int (iI g)), (3, .int (iI wk)), (5, .int (iI (σ 3 (3 * st + g)))), (6, .int (iI fnd)), (7, .int (iI k)), (8, .int (iI (sBef σ (7 * wk) (j + 1).toNat))), (9, .int (iI (j + 1)))] (by first | (rw [sBef_s (by omega), if_pos (by first | assumption | omega)]; rfl) | (rw [sBef_s (by omega), if_neg (by first | assumption | omega)]; rfl))) kk
      have outer : ∀ (n : Nat) (k : Int) (H : Heap) (locs : List Loc) (hM : MP D cy o ad σ H) (hS : va_S (mA o ad) s.heap H locs) (ls : Array Slot), -1 ≤ k → k ≤ 5 → k + 1 < n → lv_has ls 10 [(0, .ref o), (1, .int (iI st)), (2, .int (iI g)), (3, .int (iI wk)), (5, .int (iI (σ 3 (3 * st + g)))), (6, .int (iI (sFnd σ (7 * wk) (σ 3 (3 * st + g)) (5 - k).toNat))), (7, .int (iI k))] → W p l e ({ frames := 1, cells := 0, slots := 0, locals := 21 } : Room) s m args below meth c H locs 0 0 (MQ below (mQ D cy o ad (some (.int (iI (sDay σ st g wk)))) (σ) (-2 ≤ sDay σ st g wk ∧ sDay σ st g wk ≤ 800)) args s 0 0 (mA o ad)) (F0 m 54 ls []) := by
        intro n
        induction n with
        | zero => intro k H locs hM hS ls h1 h2 h3; exact absurd h3 (by omega)
        | succ n ih =>
          intro k H locs hM hS ls h1 h2 h3 hl
          refine x_iload B hl dX11_dayOf_54 rfl ?_
          refine x_if_lt (tgt := 138) B dX11_dayOf_56 (by decide) (by omega) (fun c_56 => ?_) (fun c_56 => ?_)
          · refine x_iload B hl dX11_dayOf_138 rfl ?_
            exact mo_iret E hr rfl hlk hM hS dX11_dayOf_140 (by rw [show k = -1 by omega]; rw [sDay, if_neg hz]; rfl) rfl (sDay_r hwk)
          · refine x_iconst B dX11_dayOf_59 ?_
            refine x_istore B hl dX11_dayOf_60 (by decide) (fun ls hl => ?_)
            refine x_iconst B dX11_dayOf_62 ?_
            refine x_istore B hl dX11_dayOf_63 (by decide) (fun ls hl => ?_)
            refine inner 6 0 k _ _ _ hM hS ls (by omega) (by omega) (by omega) (by omega) (lv_key hl [(0, .ref o), (1, .int (iI st)), (2, .int (iI g)), (3, .int (iI wk)), (5, .int (iI (σ 3 (3 * st + g)))), (6, .int (iI (sFnd σ (7 * wk) (σ 3 (3 * st + g)) (5 - k).toNat))), (7, .int (iI k)), (8, .int (iI (sBef σ (7 * wk) (0 : Int).toNat))), (9, .int (iI 0))] rfl) (fun H locs hM hS ls hl => ?_)
            have b9 := sBef_r σ (7 * wk) k.toNat
            refine x_aload_n B hl dX11_dayOf_102 rfl ?_
            refine x_bipush B dX11_dayOf_103 (by decide) ?_
            refine x_iload_n B hl dX11_dayOf_105 rfl ?_
            refine x_imul B dX11_dayOf_106 ?_
            refine x_iload B hl dX11_dayOf_107 rfl ?_
            refine x_iadd B dX11_dayOf_109 ?_
            refine mo_call E hM hS hl (m_isHoliday l D cy o ad _ (by omega)) (cwV 1 hts0 gX11_dayOf_X11_isHoliday rfl rfl rfl (by decide +kernel) ⟨Nat.le_of_ble_eq_true rfl, Nat.le_of_ble_eq_true rfl⟩) rfl rfl (Nat.le_of_ble_eq_true rfl) dX11_dayOf_110 ⟨Nat.zero_le _, Nat.zero_le _⟩ (fun H locs q_110 hM hS => ?_)
            refine x_bool (fun b_110 => ?_) (fun b_110 => ?_)
            · refine x_if_ne_t (tgt := 132) B dX11_dayOf_113 (by decide) (by decide) ?_
              refine x_iinc B hl dX11_dayOf_132 rfl (by decide) (fun ls hl => ?_)
              refine x_goto (tgt := 54) B dX11_dayOf_135 (by decide) ?_
              exact ih (k - 1) _ _ hM hS ls (by omega) (by omega) (by omega) (lv_key hl [(0, .ref o), (1, .int (iI st)), (2, .int (iI g)), (3, .int (iI wk)), (5, .int (iI (σ 3 (3 * st + g)))), (6, .int (iI (sFnd σ (7 * wk) (σ 3 (3 * st + g)) (5 - (k - 1)).toNat))), (7, .int (iI (k + -1)))] (by first | (rw [sFnd_s (by omega), if_pos (by first | exact ⟨by assumption, by omega⟩ | omega)]; rfl) | (rw [sFnd_s (by omega), if_neg (by rintro ⟨q1, q2⟩; first | exact q1 (by assumption) | omega)]; rfl)))
            · refine x_if_ne_f (tgt := 132) B dX11_dayOf_113 (by decide) (by decide) ?_
              refine x_iload B hl dX11_dayOf_116 rfl ?_
              refine x_iload B hl dX11_dayOf_118 rfl ?_
              refine x_icmp_ne (tgt := 132) B dX11_dayOf_120 (by decide) (by omega) (by omega) (fun c_120 => ?_) (fun c_120 => ?_)
              · refine x_iinc B hl dX11_dayOf_132 rfl (by decide) (fun ls hl => ?_)
                refine x_goto (tgt := 54) B dX11_dayOf_135 (by decide) ?_
                exact ih (k - 1) _ _ hM hS ls (by omega) (by omega) (by omega) (lv_key hl [(0, .ref o), (1, .int (iI st)), (2, .int (iI g)), (3, .int (iI wk)), (5, .int (iI (σ 3 (3 * st + g)))), (6, .int (iI (sFnd σ (7 * wk) (σ 3 (3 * st + g)) (5 - (k - 1)).toNat))), (7, .int (iI (k + -1)))] (by first | (rw [sFnd_s (by omega), if_pos (by first | exact ⟨by assumption, by omega⟩ | omega)]; rfl) | (rw [sFnd_s (by omega), if_neg (by rintro ⟨q1, q2⟩; first | exact q1 (by assumption) | omega)]; rfl)))
              · refine x_bipush B dX11_dayOf_123 (by decide) ?_
                refine x_iload_n B hl dX11_dayOf_125 rfl ?_
                refine x_imul B dX11_dayOf_126 ?_
                refine x_iload B hl dX11_dayOf_127 rfl ?_
                refine x_iadd B dX11_dayOf_129 ?_
                refine x_istore B hl dX11_dayOf_130 (by decide) (fun ls hl => ?_)
                refine x_iinc B hl dX11_dayOf_132 rfl (by decide) (fun ls hl => ?_)
                refine x_goto (tgt := 54) B dX11_dayOf_135 (by decide) ?_
                exact ih (k - 1) _ _ hM hS ls (by omega) (by omega) (by omega) (lv_key hl [(0, .ref o), (1, .int (iI st)), (2, .int (iI g)), (3, .int (iI wk)), (5, .int (iI (σ 3 (3 * st + g)))), (6, .int (iI (sFnd σ (7 * wk) (σ 3 (3 * st + g)) (5 - (k - 1)).toNat))), (7, .int (iI (k + -1)))] (by first | (rw [sFnd_s (by omega), if_pos (by first | exact ⟨by assumption, by omega⟩ | omega)]; rfl) | (rw [sFnd_s (by omega), if_neg (by rintro ⟨q1, q2⟩; first | exact q1 (by assumption) | omega)]; rfl)))
      refine x_aload_n B hl dX11_dayOf_35 rfl ?_
      refine mo_geta E hM 3 0 rfl (hts (.fieldLink RX11 13 "BinRoundsModel" "weekdays" "[I") (by decide +kernel)) rfl dX11_dayOf_36 ?_
      refine x_iconst B dX11_dayOf_39 ?_
      refine x_iload_n B hl dX11_dayOf_40 rfl ?_
      refine x_imul B dX11_dayOf_41 ?_
      refine x_iload_n B hl dX11_dayOf_42 rfl ?_
      refine x_iadd B dX11_dayOf_43 ?_
      refine mo_ld (k := 3) E hM rfl (by have h9 : mLn 3 = 30 := rfl; omega) (by decide) dX11_dayOf_44 rfl (fun r_44 => ?_)
      refine x_istore B hl dX11_dayOf_45 (by decide) (fun ls hl => ?_)
      refine x_bipush B dX11_dayOf_47 (by decide) ?_
      refine x_istore B hl dX11_dayOf_49 (by decide) (fun ls hl => ?_)
      refine x_iconst B dX11_dayOf_51 ?_
      refine x_istore B hl dX11_dayOf_52 (by decide) (fun ls hl => ?_)
      exact outer 7 5 _ _ hM hS ls (by omega) (by omega) (by omega) (lv_key hl [(0, .ref o), (1, .int (iI st)), (2, .int (iI g)), (3, .int (iI wk)), (5, .int (iI (σ 3 (3 * st + g)))), (6, .int (iI (sFnd σ (7 * wk) (σ 3 (3 * st + g)) (5 - (5 : Int)).toNat))), (7, .int (iI 5))] rfl)
    · have hz : (if wk % 2 = 1 then σ 4 (3 * st + g) % 2 else σ 4 (3 * st + g) / 2 * 2) = 0 := by omega
      refine x_iconst B dX11_dayOf_33 ?_
      exact mo_iret E hr rfl hlk hM hS dX11_dayOf_34 (by rw [sDay, if_pos hz]) rfl (sDay_r hwk)
set_option maxHeartbeats 4000000 in
set_option maxRecDepth 100000 in
theorem m_chargeOf (l : Launch) (D : va_G) (cy : Nat → ClassId) (o : Nat) (ad : Nat → Nat) (σ : MS) {t : Int} (ht : 0 ≤ t ∧ t < 600) (hb : σ 40 t = 1 → 0 ≤ σ 36 t ∧ σ 36 t < 120) (hm : σ 40 t = 1 → 0 ≤ σ 22 (σ 36 t) ∧ σ 22 (σ 36 t) ≤ 20) (hm8 : σ 40 t = 1 → 0 ≤ σ 18 (σ 36 t) ∧ σ 18 (σ 36 t) ≤ 8) (hn : 0 ≤ σ 11 0 ∧ σ 11 0 ≤ 60) (hpw : ∀ j, 0 ≤ σ 20 j ∧ σ 20 j ≤ 1000) : MM l yX11_chargeOf wsX11_chargeOf ({ frames := 3, cells := 0, slots := 0, locals := 69 } : Room) D cy o ad [.int (iI t)] σ (some (.long (lI (sChg σ t)))) (σ) (True) := by
  refine mm_of (cc := cX11_chargeOf) (nL := 2) (ret := (some .long)) (by decide) rfl rfl (fun w h => List.mem_cons_of_mem _ (List.mem_append_right _ h)) (Nat.le_of_ble_eq_true rfl) ⟨rfl, rfl⟩ ?_
  intro p e s m args below meth c ls E hr hlk hM hS hl
  have B := E.1
  have hml := E.2.1
  have hown := E.2.2.1
  have hts0 := E.2.2.2.1
  have hts := E.2.2.2.1
  have hw := hM.2.2.2
  refine x_aload_n B hl dX11_chargeOf_0 rfl ?_
  refine mo_geta E hM 40 1 rfl (hts (.fieldLink RX11 108 "BinRoundsModel" "isCharged" "[Z") (by decide +kernel)) rfl dX11_chargeOf_1 ?_
  refine x_iload_n B hl dX11_chargeOf_4 rfl ?_
  refine mo_zld (k := 40) E hM rfl (by have h9 : mLn 40 = 600 := rfl; omega) (by decide) dX11_chargeOf_5 rfl (fun r_5 => ?_)
  refine x_if_eq (tgt := 17) B dX11_chargeOf_6 (by decide) (by omega) (fun c_6 => ?_) (fun c_6 => ?_)
  · refine x_lconst B dX11_chargeOf_17 ?_
    refine x_goto (tgt := 44) B dX11_chargeOf_18 (by decide) ?_
    exact mo_lret E hr hlk hM hS dX11_chargeOf_44 (congrArg lI (by first | exact (sChg_0 (by omega)).symm | exact (sChg_n (by assumption)).symm | exact (sChg_c (by omega) (by assumption)).symm)) rfl trivial
  · refine x_aload_n B hl dX11_chargeOf_9 rfl ?_
    refine x_iload_n B hl dX11_chargeOf_10 rfl ?_
    refine mo_call E hM hS hl (m_isNobodys l D cy o ad _ ht (hb (by omega)) (hm (by omega)) (hm8 (by omega)) hn hpw) (cwV 1 hts0 gX11_chargeOf_X11_isNobodys rfl rfl rfl (by decide +kernel) ⟨Nat.le_of_ble_eq_true rfl, Nat.le_of_ble_eq_true rfl⟩) rfl rfl (Nat.le_of_ble_eq_true rfl) dX11_chargeOf_11 ⟨Nat.zero_le _, Nat.zero_le _⟩ (fun H locs q_11 hM hS => ?_)
    refine x_bool (fun b_11 => ?_) (fun b_11 => ?_)
    · refine x_if_eq_f (tgt := 21) B dX11_chargeOf_14 (by decide) (by decide) ?_
      refine x_lconst B dX11_chargeOf_17 ?_
      refine x_goto (tgt := 44) B dX11_chargeOf_18 (by decide) ?_
      exact mo_lret E hr hlk hM hS dX11_chargeOf_44 (congrArg lI (by first | exact (sChg_0 (by omega)).symm | exact (sChg_n (by assumption)).symm | exact (sChg_c (by omega) (by assumption)).symm)) rfl trivial
    · refine x_if_eq_t (tgt := 21) B dX11_chargeOf_14 (by decide) (by decide) ?_
      refine x_aload_n B hl dX11_chargeOf_21 rfl ?_
      refine mo_geta E hM 42 0 rfl (hts (.fieldLink RX11 114 "BinRoundsModel" "lift" "[I") (by decide +kernel)) rfl dX11_chargeOf_22 ?_
      refine x_iload_n B hl dX11_chargeOf_25 rfl ?_
      refine mo_ld (k := 42) E hM rfl (by have h9 : mLn 42 = 600 := rfl; omega) (by decide) dX11_chargeOf_26 rfl (fun r_26 => ?_)
      refine x_i2l B dX11_chargeOf_27 (by omega) ?_
      refine x_aload_n B hl dX11_chargeOf_28 rfl ?_
      refine mo_geta E hM 43 0 rfl (hts (.fieldLink RX11 117 "BinRoundsModel" "rate" "[I") (by decide +kernel)) rfl dX11_chargeOf_29 ?_
      refine x_iload_n B hl dX11_chargeOf_32 rfl ?_
      refine mo_ld (k := 43) E hM rfl (by have h9 : mLn 43 = 600 := rfl; omega) (by decide) dX11_chargeOf_33 rfl (fun r_33 => ?_)
      refine x_i2l B dX11_chargeOf_34 (by omega) ?_
      refine x_aload_n B hl dX11_chargeOf_35 rfl ?_
      refine mo_geta E hM 39 0 rfl (hts (.fieldLink RX11 105 "BinRoundsModel" "paidHalves" "[I") (by decide +kernel)) rfl dX11_chargeOf_36 ?_
      refine x_iload_n B hl dX11_chargeOf_39 rfl ?_
      refine mo_ld (k := 39) E hM rfl (by have h9 : mLn 39 = 600 := rfl; omega) (by decide) dX11_chargeOf_40 rfl (fun r_40 => ?_)
      refine x_i2l B dX11_chargeOf_41 (by omega) ?_
      refine x_lmul B dX11_chargeOf_42 ?_
      refine x_ladd B dX11_chargeOf_43 ?_
      exact mo_lret E hr hlk hM hS dX11_chargeOf_44 (congrArg lI (by first | exact (sChg_0 (by omega)).symm | exact (sChg_n (by assumption)).symm | exact (sChg_c (by omega) (by assumption)).symm)) rfl trivial
