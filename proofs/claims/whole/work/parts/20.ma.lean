set_option maxHeartbeats 4000000 in
set_option maxRecDepth 100000 in
theorem m_thrown (l : Launch) (D : va_G) (cy : Nat → ClassId) (o : Nat) (ad : Nat → Nat) (σ : MS)   : MM l yX11_thrown wsX11_thrown ({ frames := 0, cells := 0, slots := 0, locals := 0 } : Room) D cy o ad [] σ (some (.int (iI (σ 0 0)))) (σ) (-2147483648 ≤ σ 0 0 ∧ σ 0 0 < 2147483648) := by
  refine mm_of (cc := cX11_thrown) (nL := 1) (ret := (some .int)) (by decide) rfl rfl (fun w h => List.mem_cons_of_mem _ (List.mem_append_right _ h)) (Nat.le_of_ble_eq_true rfl) ⟨rfl, rfl⟩ ?_
  intro p e s m args below meth c ls E hr hlk hM hS hl
  have B := E.1
  have hml := E.2.1
  have hown := E.2.2.1
  have hts0 := E.2.2.2.1
  have hts := E.2.2.2.1
  have hw := hM.2.2.2
  refine x_aload_n B hl dX11_thrown_0 rfl ?_
  refine mo_gets E hM 0 rfl (hts (.fieldLink RX11 129 "BinRoundsModel" "thrown" "I") (by decide +kernel)) rfl dX11_thrown_1 rfl (fun r_1 => ?_)
  exact mo_iret E hr rfl hlk hM hS dX11_thrown_4 (by first | rfl | (rw [if_pos (by omega)]) | (rw [if_neg (by omega)]) | (rw [if_neg (by omega), if_pos (by omega)]) | (rw [if_neg (by omega), if_neg (by omega)])) rfl (by first | trivial | omega)
set_option maxHeartbeats 4000000 in
set_option maxRecDepth 100000 in
theorem m_throwsIf_1 (l : Launch) (D : va_G) (cy : Nat → ClassId) (o : Nat) (ad : Nat → Nat) (σ : MS) (z : Int) (hz : -2147483648 ≤ z ∧ z < 2147483648) : MM l yX11_throwsIf wsX11_throwsIf ({ frames := 0, cells := 0, slots := 0, locals := 0 } : Room) D cy o ad [.int (iI 1), .int (iI z)] σ (some (.int (iI 1))) (up σ 0 0 z) (True) := by
  refine mm_of (cc := cX11_throwsIf) (nL := 3) (ret := (some .boolean)) (by decide) rfl rfl (fun w h => List.mem_cons_of_mem _ (List.mem_append_right _ h)) (Nat.le_of_ble_eq_true rfl) ⟨rfl, rfl⟩ ?_
  intro p e s m args below meth c ls E hr hlk hM hS hl
  have B := E.1
  have hml := E.2.1
  have hown := E.2.2.1
  have hts0 := E.2.2.2.1
  have hts := E.2.2.2.1
  have hw := hM.2.2.2
  refine x_iload_n B hl dX11_throwsIf_0 rfl ?_
  refine x_if_eq_f (tgt := 9) B dX11_throwsIf_1 (by decide) (by decide) ?_
  refine x_aload_n B hl dX11_throwsIf_4 rfl ?_
  refine x_iload_n B hl dX11_throwsIf_5 rfl ?_
  refine mo_put E hM hS 0 rfl (hts (.fieldLink RX11 129 "BinRoundsModel" "thrown" "I") (by decide +kernel)) rfl rfl (by decide +kernel) (by omega) dX11_throwsIf_6 (fun H locs hM hS => ?_)
  refine x_iload_n B hl dX11_throwsIf_9 rfl ?_
  exact mo_iret E hr rfl hlk hM hS dX11_throwsIf_10 rfl rfl trivial
set_option maxHeartbeats 4000000 in
set_option maxRecDepth 100000 in
theorem m_throwsIf_0 (l : Launch) (D : va_G) (cy : Nat → ClassId) (o : Nat) (ad : Nat → Nat) (σ : MS) (z : Int) (hz : -2147483648 ≤ z ∧ z < 2147483648) : MM l yX11_throwsIf wsX11_throwsIf ({ frames := 0, cells := 0, slots := 0, locals := 0 } : Room) D cy o ad [.int (iI 0), .int (iI z)] σ (some (.int (iI 0))) (σ) (True) := by
  refine mm_of (cc := cX11_throwsIf) (nL := 3) (ret := (some .boolean)) (by decide) rfl rfl (fun w h => List.mem_cons_of_mem _ (List.mem_append_right _ h)) (Nat.le_of_ble_eq_true rfl) ⟨rfl, rfl⟩ ?_
  intro p e s m args below meth c ls E hr hlk hM hS hl
  have B := E.1
  have hml := E.2.1
  have hown := E.2.2.1
  have hts0 := E.2.2.2.1
  have hts := E.2.2.2.1
  have hw := hM.2.2.2
  refine x_iload_n B hl dX11_throwsIf_0 rfl ?_
  refine x_if_eq_t (tgt := 9) B dX11_throwsIf_1 (by decide) (by decide) ?_
  refine x_iload_n B hl dX11_throwsIf_9 rfl ?_
  exact mo_iret E hr rfl hlk hM hS dX11_throwsIf_10 rfl rfl trivial
set_option maxHeartbeats 4000000 in
set_option maxRecDepth 100000 in
theorem m_noStreet (l : Launch) (D : va_G) (cy : Nat → ClassId) (o : Nat) (ad : Nat → Nat) (σ : MS) {z : Int} (hz : -2147483648 ≤ z ∧ z < 2147483648) : MM l yX11_noStreet wsX11_noStreet ({ frames := 0, cells := 0, slots := 0, locals := 0 } : Room) D cy o ad [.int (iI z)] σ (some (.int (iI (if z < 0 ∨ σ 5 0 ≤ z then 1 else 0)))) (σ) (True) := by
  refine mm_of (cc := cX11_noStreet) (nL := 2) (ret := (some .boolean)) (by decide) rfl rfl (fun w h => List.mem_cons_of_mem _ (List.mem_append_right _ h)) (Nat.le_of_ble_eq_true rfl) ⟨rfl, rfl⟩ ?_
  intro p e s m args below meth c ls E hr hlk hM hS hl
  have B := E.1
  have hml := E.2.1
  have hown := E.2.2.1
  have hts0 := E.2.2.2.1
  have hts := E.2.2.2.1
  have hw := hM.2.2.2
  refine x_iload_n B hl dX11_noStreet_0 rfl ?_
  refine x_if_lt (tgt := 12) B dX11_noStreet_1 (by decide) (by omega) (fun c_1 => ?_) (fun c_1 => ?_)
  · refine x_iconst B dX11_noStreet_12 ?_
    refine x_goto (tgt := 17) B dX11_noStreet_13 (by decide) ?_
    exact mo_iret E hr rfl hlk hM hS dX11_noStreet_17 (by first | rfl | (rw [if_pos (by omega)]) | (rw [if_neg (by omega)]) | (rw [if_neg (by omega), if_pos (by omega)]) | (rw [if_neg (by omega), if_neg (by omega)])) rfl (by first | trivial | omega)
  · refine x_iload_n B hl dX11_noStreet_4 rfl ?_
    refine x_aload_n B hl dX11_noStreet_5 rfl ?_
    refine mo_gets E hM 5 rfl (hts (.fieldLink RX11 133 "BinRoundsModel" "streets" "I") (by decide +kernel)) rfl dX11_noStreet_6 rfl (fun r_6 => ?_)
    refine x_icmp_lt (tgt := 16) B dX11_noStreet_9 (by decide) (by omega) (by omega) (fun c_9 => ?_) (fun c_9 => ?_)
    · refine x_iconst B dX11_noStreet_16 ?_
      exact mo_iret E hr rfl hlk hM hS dX11_noStreet_17 (by first | rfl | (rw [if_pos (by omega)]) | (rw [if_neg (by omega)]) | (rw [if_neg (by omega), if_pos (by omega)]) | (rw [if_neg (by omega), if_neg (by omega)])) rfl (by first | trivial | omega)
    · refine x_iconst B dX11_noStreet_12 ?_
      refine x_goto (tgt := 17) B dX11_noStreet_13 (by decide) ?_
      exact mo_iret E hr rfl hlk hM hS dX11_noStreet_17 (by first | rfl | (rw [if_pos (by omega)]) | (rw [if_neg (by omega)]) | (rw [if_neg (by omega), if_pos (by omega)]) | (rw [if_neg (by omega), if_neg (by omega)])) rfl (by first | trivial | omega)
set_option maxHeartbeats 4000000 in
set_option maxRecDepth 100000 in
theorem m_noHouse (l : Launch) (D : va_G) (cy : Nat → ClassId) (o : Nat) (ad : Nat → Nat) (σ : MS) {z : Int} (hz : -2147483648 ≤ z ∧ z < 2147483648) : MM l yX11_noHouse wsX11_noHouse ({ frames := 0, cells := 0, slots := 0, locals := 0 } : Room) D cy o ad [.int (iI z)] σ (some (.int (iI (if z < 0 ∨ σ 11 0 ≤ z then 1 else 0)))) (σ) (True) := by
  refine mm_of (cc := cX11_noHouse) (nL := 2) (ret := (some .boolean)) (by decide) rfl rfl (fun w h => List.mem_cons_of_mem _ (List.mem_append_right _ h)) (Nat.le_of_ble_eq_true rfl) ⟨rfl, rfl⟩ ?_
  intro p e s m args below meth c ls E hr hlk hM hS hl
  have B := E.1
  have hml := E.2.1
  have hown := E.2.2.1
  have hts0 := E.2.2.2.1
  have hts := E.2.2.2.1
  have hw := hM.2.2.2
  refine x_iload_n B hl dX11_noHouse_0 rfl ?_
  refine x_if_lt (tgt := 12) B dX11_noHouse_1 (by decide) (by omega) (fun c_1 => ?_) (fun c_1 => ?_)
  · refine x_iconst B dX11_noHouse_12 ?_
    refine x_goto (tgt := 17) B dX11_noHouse_13 (by decide) ?_
    exact mo_iret E hr rfl hlk hM hS dX11_noHouse_17 (by first | rfl | (rw [if_pos (by omega)]) | (rw [if_neg (by omega)]) | (rw [if_neg (by omega), if_pos (by omega)]) | (rw [if_neg (by omega), if_neg (by omega)])) rfl (by first | trivial | omega)
  · refine x_iload_n B hl dX11_noHouse_4 rfl ?_
    refine x_aload_n B hl dX11_noHouse_5 rfl ?_
    refine mo_gets E hM 11 rfl (hts (.fieldLink RX11 136 "BinRoundsModel" "houses" "I") (by decide +kernel)) rfl dX11_noHouse_6 rfl (fun r_6 => ?_)
    refine x_icmp_lt (tgt := 16) B dX11_noHouse_9 (by decide) (by omega) (by omega) (fun c_9 => ?_) (fun c_9 => ?_)
    · refine x_iconst B dX11_noHouse_16 ?_
      exact mo_iret E hr rfl hlk hM hS dX11_noHouse_17 (by first | rfl | (rw [if_pos (by omega)]) | (rw [if_neg (by omega)]) | (rw [if_neg (by omega), if_pos (by omega)]) | (rw [if_neg (by omega), if_neg (by omega)])) rfl (by first | trivial | omega)
    · refine x_iconst B dX11_noHouse_12 ?_
      refine x_goto (tgt := 17) B dX11_noHouse_13 (by decide) ?_
      exact mo_iret E hr rfl hlk hM hS dX11_noHouse_17 (by first | rfl | (rw [if_pos (by omega)]) | (rw [if_neg (by omega)]) | (rw [if_neg (by omega), if_pos (by omega)]) | (rw [if_neg (by omega), if_neg (by omega)])) rfl (by first | trivial | omega)
set_option maxHeartbeats 4000000 in
set_option maxRecDepth 100000 in
theorem m_noBin (l : Launch) (D : va_G) (cy : Nat → ClassId) (o : Nat) (ad : Nat → Nat) (σ : MS) {z : Int} (hz : -2147483648 ≤ z ∧ z < 2147483648) : MM l yX11_noBin wsX11_noBin ({ frames := 0, cells := 0, slots := 0, locals := 0 } : Room) D cy o ad [.int (iI z)] σ (some (.int (iI (if z < 0 ∨ σ 23 0 ≤ z then 1 else 0)))) (σ) (True) := by
  refine mm_of (cc := cX11_noBin) (nL := 2) (ret := (some .boolean)) (by decide) rfl rfl (fun w h => List.mem_cons_of_mem _ (List.mem_append_right _ h)) (Nat.le_of_ble_eq_true rfl) ⟨rfl, rfl⟩ ?_
  intro p e s m args below meth c ls E hr hlk hM hS hl
  have B := E.1
  have hml := E.2.1
  have hown := E.2.2.1
  have hts0 := E.2.2.2.1
  have hts := E.2.2.2.1
  have hw := hM.2.2.2
  refine x_iload_n B hl dX11_noBin_0 rfl ?_
  refine x_if_lt (tgt := 12) B dX11_noBin_1 (by decide) (by omega) (fun c_1 => ?_) (fun c_1 => ?_)
  · refine x_iconst B dX11_noBin_12 ?_
    refine x_goto (tgt := 17) B dX11_noBin_13 (by decide) ?_
    exact mo_iret E hr rfl hlk hM hS dX11_noBin_17 (by first | rfl | (rw [if_pos (by omega)]) | (rw [if_neg (by omega)]) | (rw [if_neg (by omega), if_pos (by omega)]) | (rw [if_neg (by omega), if_neg (by omega)])) rfl (by first | trivial | omega)
  · refine x_iload_n B hl dX11_noBin_4 rfl ?_
    refine x_aload_n B hl dX11_noBin_5 rfl ?_
    refine mo_gets E hM 23 rfl (hts (.fieldLink RX11 139 "BinRoundsModel" "bins" "I") (by decide +kernel)) rfl dX11_noBin_6 rfl (fun r_6 => ?_)
    refine x_icmp_lt (tgt := 16) B dX11_noBin_9 (by decide) (by omega) (by omega) (fun c_9 => ?_) (fun c_9 => ?_)
    · refine x_iconst B dX11_noBin_16 ?_
      exact mo_iret E hr rfl hlk hM hS dX11_noBin_17 (by first | rfl | (rw [if_pos (by omega)]) | (rw [if_neg (by omega)]) | (rw [if_neg (by omega), if_pos (by omega)]) | (rw [if_neg (by omega), if_neg (by omega)])) rfl (by first | trivial | omega)
    · refine x_iconst B dX11_noBin_12 ?_
      refine x_goto (tgt := 17) B dX11_noBin_13 (by decide) ?_
      exact mo_iret E hr rfl hlk hM hS dX11_noBin_17 (by first | rfl | (rw [if_pos (by omega)]) | (rw [if_neg (by omega)]) | (rw [if_neg (by omega), if_pos (by omega)]) | (rw [if_neg (by omega), if_neg (by omega)])) rfl (by first | trivial | omega)
set_option maxHeartbeats 4000000 in
set_option maxRecDepth 100000 in
theorem m_noCart (l : Launch) (D : va_G) (cy : Nat → ClassId) (o : Nat) (ad : Nat → Nat) (σ : MS) {z : Int} (hz : -2147483648 ≤ z ∧ z < 2147483648) : MM l yX11_noCart wsX11_noCart ({ frames := 0, cells := 0, slots := 0, locals := 0 } : Room) D cy o ad [.int (iI z)] σ (some (.int (iI (if z < 0 ∨ σ 27 0 ≤ z then 1 else 0)))) (σ) (True) := by
  refine mm_of (cc := cX11_noCart) (nL := 2) (ret := (some .boolean)) (by decide) rfl rfl (fun w h => List.mem_cons_of_mem _ (List.mem_append_right _ h)) (Nat.le_of_ble_eq_true rfl) ⟨rfl, rfl⟩ ?_
  intro p e s m args below meth c ls E hr hlk hM hS hl
  have B := E.1
  have hml := E.2.1
  have hown := E.2.2.1
  have hts0 := E.2.2.2.1
  have hts := E.2.2.2.1
  have hw := hM.2.2.2
  refine x_iload_n B hl dX11_noCart_0 rfl ?_
  refine x_if_lt (tgt := 12) B dX11_noCart_1 (by decide) (by omega) (fun c_1 => ?_) (fun c_1 => ?_)
  · refine x_iconst B dX11_noCart_12 ?_
    refine x_goto (tgt := 17) B dX11_noCart_13 (by decide) ?_
    exact mo_iret E hr rfl hlk hM hS dX11_noCart_17 (by first | rfl | (rw [if_pos (by omega)]) | (rw [if_neg (by omega)]) | (rw [if_neg (by omega), if_pos (by omega)]) | (rw [if_neg (by omega), if_neg (by omega)])) rfl (by first | trivial | omega)
  · refine x_iload_n B hl dX11_noCart_4 rfl ?_
    refine x_aload_n B hl dX11_noCart_5 rfl ?_
    refine mo_gets E hM 27 rfl (hts (.fieldLink RX11 142 "BinRoundsModel" "carts" "I") (by decide +kernel)) rfl dX11_noCart_6 rfl (fun r_6 => ?_)
    refine x_icmp_lt (tgt := 16) B dX11_noCart_9 (by decide) (by omega) (by omega) (fun c_9 => ?_) (fun c_9 => ?_)
    · refine x_iconst B dX11_noCart_16 ?_
      exact mo_iret E hr rfl hlk hM hS dX11_noCart_17 (by first | rfl | (rw [if_pos (by omega)]) | (rw [if_neg (by omega)]) | (rw [if_neg (by omega), if_pos (by omega)]) | (rw [if_neg (by omega), if_neg (by omega)])) rfl (by first | trivial | omega)
    · refine x_iconst B dX11_noCart_12 ?_
      refine x_goto (tgt := 17) B dX11_noCart_13 (by decide) ?_
      exact mo_iret E hr rfl hlk hM hS dX11_noCart_17 (by first | rfl | (rw [if_pos (by omega)]) | (rw [if_neg (by omega)]) | (rw [if_neg (by omega), if_pos (by omega)]) | (rw [if_neg (by omega), if_neg (by omega)])) rfl (by first | trivial | omega)
set_option maxHeartbeats 4000000 in
set_option maxRecDepth 100000 in
theorem m_noTip (l : Launch) (D : va_G) (cy : Nat → ClassId) (o : Nat) (ad : Nat → Nat) (σ : MS) {z : Int} (hz : -2147483648 ≤ z ∧ z < 2147483648) : MM l yX11_noTip wsX11_noTip ({ frames := 0, cells := 0, slots := 0, locals := 0 } : Room) D cy o ad [.int (iI z)] σ (some (.int (iI (if z < 0 ∨ σ 45 0 ≤ z then 1 else 0)))) (σ) (True) := by
  refine mm_of (cc := cX11_noTip) (nL := 2) (ret := (some .boolean)) (by decide) rfl rfl (fun w h => List.mem_cons_of_mem _ (List.mem_append_right _ h)) (Nat.le_of_ble_eq_true rfl) ⟨rfl, rfl⟩ ?_
  intro p e s m args below meth c ls E hr hlk hM hS hl
  have B := E.1
  have hml := E.2.1
  have hown := E.2.2.1
  have hts0 := E.2.2.2.1
  have hts := E.2.2.2.1
  have hw := hM.2.2.2
  refine x_iload_n B hl dX11_noTip_0 rfl ?_
  refine x_if_lt (tgt := 12) B dX11_noTip_1 (by decide) (by omega) (fun c_1 => ?_) (fun c_1 => ?_)
  · refine x_iconst B dX11_noTip_12 ?_
    refine x_goto (tgt := 17) B dX11_noTip_13 (by decide) ?_
    exact mo_iret E hr rfl hlk hM hS dX11_noTip_17 (by first | rfl | (rw [if_pos (by omega)]) | (rw [if_neg (by omega)]) | (rw [if_neg (by omega), if_pos (by omega)]) | (rw [if_neg (by omega), if_neg (by omega)])) rfl (by first | trivial | omega)
  · refine x_iload_n B hl dX11_noTip_4 rfl ?_
    refine x_aload_n B hl dX11_noTip_5 rfl ?_
    refine mo_gets E hM 45 rfl (hts (.fieldLink RX11 145 "BinRoundsModel" "tips" "I") (by decide +kernel)) rfl dX11_noTip_6 rfl (fun r_6 => ?_)
    refine x_icmp_lt (tgt := 16) B dX11_noTip_9 (by decide) (by omega) (by omega) (fun c_9 => ?_) (fun c_9 => ?_)
    · refine x_iconst B dX11_noTip_16 ?_
      exact mo_iret E hr rfl hlk hM hS dX11_noTip_17 (by first | rfl | (rw [if_pos (by omega)]) | (rw [if_neg (by omega)]) | (rw [if_neg (by omega), if_pos (by omega)]) | (rw [if_neg (by omega), if_neg (by omega)])) rfl (by first | trivial | omega)
    · refine x_iconst B dX11_noTip_12 ?_
      refine x_goto (tgt := 17) B dX11_noTip_13 (by decide) ?_
      exact mo_iret E hr rfl hlk hM hS dX11_noTip_17 (by first | rfl | (rw [if_pos (by omega)]) | (rw [if_neg (by omega)]) | (rw [if_neg (by omega), if_pos (by omega)]) | (rw [if_neg (by omega), if_neg (by omega)])) rfl (by first | trivial | omega)
set_option maxHeartbeats 4000000 in
set_option maxRecDepth 100000 in
theorem m_in (l : Launch) {v a b : Int} (hv : -9223372036854775808 ≤ v ∧ v < 9223372036854775808) (ha : -9223372036854775808 ≤ a ∧ a < 9223372036854775808) (hb : -9223372036854775808 ≤ b ∧ b < 9223372036854775808) : MZ l yX11_in wsX11_in ({ frames := 0, cells := 0, slots := 0, locals := 0 } : Room) [.long (lI v), .long (lI a), .long (lI b)] (some (.int (iI (if a ≤ v ∧ v ≤ b then 1 else 0)))) (True) := by
  refine mz_of (cc := cX11_in) (nL := 6) (ret := (some .boolean)) (by decide) rfl (Nat.le_of_ble_eq_true rfl) ?_
  intro p e s m args below meth c ls S hr hlk hl
  have B : xB p c cX11_in := ⟨S.1, S.2.1⟩
  have hml := S.2.2.1
  have hown := S.2.2.2.1
  have hts0 := S.2.2.2.2
  have hts := S.2.2.2.2
  refine x_lload_n B hl dX11_in_0 rfl ?_
  refine x_lload_n B hl dX11_in_1 rfl ?_
  refine x_lcmp_lt (tgt := 17) B dX11_in_2 dX11_in_3 (by decide) (by omega) (by omega) (fun c_2 => ?_) (fun c_2 => ?_)
  · refine x_iconst B dX11_in_17 ?_
    exact z_iret (av := []) B hr rfl hlk dX11_in_18 (by first | rfl | (rw [if_pos (by omega)]) | (rw [if_neg (by omega)]) | (rw [if_neg (by omega), if_pos (by omega)]) | (rw [if_neg (by omega), if_neg (by omega)])) (by first | trivial | omega)
  · refine x_lload_n B hl dX11_in_6 rfl ?_
    refine x_lload B hl dX11_in_7 rfl ?_
    refine x_lcmp_gt (tgt := 17) B dX11_in_9 dX11_in_10 (by decide) (by omega) (by omega) (fun c_9 => ?_) (fun c_9 => ?_)
    · refine x_iconst B dX11_in_17 ?_
      exact z_iret (av := []) B hr rfl hlk dX11_in_18 (by first | rfl | (rw [if_pos (by omega)]) | (rw [if_neg (by omega)]) | (rw [if_neg (by omega), if_pos (by omega)]) | (rw [if_neg (by omega), if_neg (by omega)])) (by first | trivial | omega)
    · refine x_iconst B dX11_in_13 ?_
      refine x_goto (tgt := 18) B dX11_in_14 (by decide) ?_
      exact z_iret (av := []) B hr rfl hlk dX11_in_18 (by first | rfl | (rw [if_pos (by omega)]) | (rw [if_neg (by omega)]) | (rw [if_neg (by omega), if_pos (by omega)]) | (rw [if_neg (by omega), if_neg (by omega)])) (by first | trivial | omega)
set_option maxHeartbeats 4000000 in
set_option maxRecDepth 100000 in
theorem m_isHoliday (l : Launch) (D : va_G) (cy : Nat → ClassId) (o : Nat) (ad : Nat → Nat) (σ : MS) {z : Int} (hz : 0 ≤ z ∧ z < 2147483648) : MM l yX11_isHoliday wsX11_isHoliday ({ frames := 0, cells := 0, slots := 0, locals := 0 } : Room) D cy o ad [.int (iI z)] σ (some (.int (iI (if pHol σ z then 1 else 0)))) (σ) (True) := by
  refine mm_of (cc := cX11_isHoliday) (nL := 2) (ret := (some .boolean)) (by decide) rfl rfl (fun w h => List.mem_cons_of_mem _ (List.mem_append_right _ h)) (Nat.le_of_ble_eq_true rfl) ⟨rfl, rfl⟩ ?_
  intro p e s m args below meth c ls E hr hlk hM hS hl
  have B := E.1
  have hml := E.2.1
  have hown := E.2.2.1
  have hts0 := E.2.2.2.1
  have hts := E.2.2.2.1
  have hw := hM.2.2.2
  refine x_iload_n B hl dX11_isHoliday_0 rfl ?_
  refine x_sipush B dX11_isHoliday_1 (by decide) ?_
  refine x_icmp_ge (tgt := 20) B dX11_isHoliday_4 (by decide) (by omega) (by omega) (fun c_4 => ?_) (fun c_4 => ?_)
  · refine x_iconst B dX11_isHoliday_20 ?_
    exact mo_iret E hr rfl hlk hM hS dX11_isHoliday_21 (by first | rfl | (rw [if_pos (by omega)]) | (rw [if_neg (by omega)]) | (rw [if_neg (by omega), if_pos (by omega)]) | (rw [if_neg (by omega), if_neg (by omega)])) rfl (by first | trivial | omega)
  · refine x_aload_n B hl dX11_isHoliday_7 rfl ?_
    refine mo_geta E hM 2 1 rfl (hts (.fieldLink RX11 9 "BinRoundsModel" "holidays" "[Z") (by decide +kernel)) rfl dX11_isHoliday_8 ?_
    refine x_iload_n B hl dX11_isHoliday_11 rfl ?_
    refine mo_zld (k := 2) E hM rfl (by have h9 : mLn 2 = 700 := rfl; omega) (by decide) dX11_isHoliday_12 rfl (fun r_12 => ?_)
    refine x_if_eq (tgt := 20) B dX11_isHoliday_13 (by decide) (by omega) (fun c_13 => ?_) (fun c_13 => ?_)
    · refine x_iconst B dX11_isHoliday_20 ?_
      exact mo_iret E hr rfl hlk hM hS dX11_isHoliday_21 (by first | rfl | (rw [if_pos (by omega)]) | (rw [if_neg (by omega)]) | (rw [if_neg (by omega), if_pos (by omega)]) | (rw [if_neg (by omega), if_neg (by omega)])) rfl (by first | trivial | omega)
    · refine x_iconst B dX11_isHoliday_16 ?_
      refine x_goto (tgt := 21) B dX11_isHoliday_17 (by decide) ?_
      exact mo_iret E hr rfl hlk hM hS dX11_isHoliday_21 (by first | rfl | (rw [if_pos (by omega)]) | (rw [if_neg (by omega)]) | (rw [if_neg (by omega), if_pos (by omega)]) | (rw [if_neg (by omega), if_neg (by omega)])) rfl (by first | trivial | omega)
set_option maxHeartbeats 4000000 in
set_option maxRecDepth 100000 in
theorem m_group (l : Launch) {k : Int} (hk : -2147483648 ≤ k ∧ k < 2147483648) : MZ l yX11_group wsX11_group ({ frames := 0, cells := 0, slots := 0, locals := 0 } : Room) [.int (iI k)] (some (.int (iI (sGrp k)))) (True) := by
  refine mz_of (cc := cX11_group) (nL := 1) (ret := (some .int)) (by decide) rfl (Nat.le_of_ble_eq_true rfl) ?_
  intro p e s m args below meth c ls S hr hlk hl
  have B : xB p c cX11_group := ⟨S.1, S.2.1⟩
  have hml := S.2.2.1
  have hown := S.2.2.2.1
  have hts0 := S.2.2.2.2
  have hts := S.2.2.2.2
  refine x_iload_n B hl dX11_group_0 rfl ?_
  refine x_iconst B dX11_group_1 ?_
  refine x_icmp_ne (tgt := 9) B dX11_group_2 (by decide) (by omega) (by omega) (fun c_2 => ?_) (fun c_2 => ?_)
  · refine x_iload_n B hl dX11_group_9 rfl ?_
    refine x_iconst B dX11_group_10 ?_
    refine x_icmp_ne (tgt := 18) B dX11_group_11 (by decide) (by omega) (by omega) (fun c_11 => ?_) (fun c_11 => ?_)
    · refine x_iconst B dX11_group_18 ?_
      exact z_iret (av := []) B hr rfl hlk dX11_group_19 (by unfold sGrp; first | (rw [if_pos (by omega)]) | (rw [if_neg (by omega), if_pos (by omega)]) | (rw [if_neg (by omega), if_neg (by omega)])) (by first | trivial | omega)
    · refine x_iconst B dX11_group_14 ?_
      refine x_goto (tgt := 19) B dX11_group_15 (by decide) ?_
      exact z_iret (av := []) B hr rfl hlk dX11_group_19 (by unfold sGrp; first | (rw [if_pos (by omega)]) | (rw [if_neg (by omega), if_pos (by omega)]) | (rw [if_neg (by omega), if_neg (by omega)])) (by first | trivial | omega)
  · refine x_iconst B dX11_group_5 ?_
    refine x_goto (tgt := 19) B dX11_group_6 (by decide) ?_
    exact z_iret (av := []) B hr rfl hlk dX11_group_19 (by unfold sGrp; first | (rw [if_pos (by omega)]) | (rw [if_neg (by omega), if_pos (by omega)]) | (rw [if_neg (by omega), if_neg (by omega)])) (by first | trivial | omega)
set_option maxHeartbeats 4000000 in
set_option maxRecDepth 100000 in
theorem m_one_1 (l : Launch)   : MZ l yX11_one wsX11_one ({ frames := 0, cells := 0, slots := 0, locals := 0 } : Room) [.int (iI 1)] (some (.int (iI 1))) (True) := by
  refine mz_of (cc := cX11_one) (nL := 1) (ret := (some .int)) (by decide) rfl (Nat.le_of_ble_eq_true rfl) ?_
  intro p e s m args below meth c ls S hr hlk hl
  have B : xB p c cX11_one := ⟨S.1, S.2.1⟩
  have hml := S.2.2.1
  have hown := S.2.2.2.1
  have hts0 := S.2.2.2.2
  have hts := S.2.2.2.2
  refine x_iload_n B hl dX11_one_0 rfl ?_
  refine x_if_eq_f (tgt := 8) B dX11_one_1 (by decide) (by decide) ?_
  refine x_iconst B dX11_one_4 ?_
  refine x_goto (tgt := 9) B dX11_one_5 (by decide) ?_
  exact z_iret (av := []) B hr rfl hlk dX11_one_9 rfl trivial
set_option maxHeartbeats 4000000 in
set_option maxRecDepth 100000 in
theorem m_one_0 (l : Launch)   : MZ l yX11_one wsX11_one ({ frames := 0, cells := 0, slots := 0, locals := 0 } : Room) [.int (iI 0)] (some (.int (iI 0))) (True) := by
  refine mz_of (cc := cX11_one) (nL := 1) (ret := (some .int)) (by decide) rfl (Nat.le_of_ble_eq_true rfl) ?_
  intro p e s m args below meth c ls S hr hlk hl
  have B : xB p c cX11_one := ⟨S.1, S.2.1⟩
  have hml := S.2.2.1
  have hown := S.2.2.2.1
  have hts0 := S.2.2.2.2
  have hts := S.2.2.2.2
  refine x_iload_n B hl dX11_one_0 rfl ?_
  refine x_if_eq_t (tgt := 8) B dX11_one_1 (by decide) (by decide) ?_
  refine x_iconst B dX11_one_8 ?_
  exact z_iret (av := []) B hr rfl hlk dX11_one_9 rfl trivial
set_option maxHeartbeats 4000000 in
set_option maxRecDepth 100000 in
theorem m_houseOf (l : Launch) (D : va_G) (cy : Nat → ClassId) (o : Nat) (ad : Nat → Nat) (σ : MS) {b d : Int} (hb : 0 ≤ b ∧ b < 120) (hd : -2147483648 ≤ d ∧ d < 2147483648) (hm : 0 ≤ σ 18 b ∧ σ 18 b ≤ 8) : MM l yX11_houseOf wsX11_houseOf ({ frames := 0, cells := 0, slots := 0, locals := 0 } : Room) D cy o ad [.int (iI b), .int (iI d)] σ (some (.int (iI (sHouse σ b d)))) (σ) (-2147483648 ≤ sHouse σ b d ∧ sHouse σ b d < 2147483648) := by
  refine mm_of (cc := cX11_houseOf) (nL := 5) (ret := (some .int)) (by decide) rfl rfl (fun w h => List.mem_cons_of_mem _ (List.mem_append_right _ h)) (Nat.le_of_ble_eq_true rfl) ⟨rfl, rfl⟩ ?_
  intro p e s m args below meth c ls E hr hlk hM hS hl
  have B := E.1
  have hml := E.2.1
  have hown := E.2.2.1
  have hts0 := E.2.2.2.1
  have hts := E.2.2.2.1
  have hw := hM.2.2.2
  have loop : ∀ (n : Nat) (k : Int) (ls : Array Slot), 0 ≤ k → k ≤ σ 18 b → σ 18 b - k < n → lv_has ls 5 [(0, .ref o), (1, .int (iI b)), (2, .int (iI d)), (3, .int (iI (sHo σ b d k.toNat))), (4, .int (iI k))] → W p l e ({ frames := 0, cells := 0, slots := 0, locals := 0 } : Room) s m args below meth c s.heap [] 0 0 (MQ below (mQ D cy o ad (some (.int (iI (sHouse σ b d)))) (σ) (-2147483648 ≤ sHouse σ b d ∧ sHouse σ b d < 2147483648)) args s 0 0 (mA o ad)) (F0 m 5 ls []) := by
    intro n
    induction n with
    | zero => intro k ls h1 h2 h3; exact absurd h3 (by omega)
    | succ n ih =>
      intro k ls h1 h2 h3 hl
      refine x_iload B hl dX11_houseOf_5 rfl ?_
      refine x_aload_n B hl dX11_houseOf_7 rfl ?_
      refine mo_geta E hM 18 0 rfl (hts (.fieldLink RX11 54 "BinRoundsModel" "moves" "[I") (by decide +kernel)) rfl dX11_houseOf_8 ?_
      refine x_iload_n B hl dX11_houseOf_11 rfl ?_
      refine mo_ld (k := 18) E hM rfl (by have h9 : mLn 18 = 120 := rfl; omega) (by decide) dX11_houseOf_12 rfl (fun r_12 => ?_)
      refine x_icmp_ge (tgt := 51) B dX11_houseOf_13 (by decide) (by omega) (by omega) (fun c_13 => ?_) (fun c_13 => ?_)
      · refine x_iload_n B hl dX11_houseOf_51 rfl ?_
        exact mo_iret E hr rfl hlk hM hS dX11_houseOf_52 (by rw [show k = σ 18 b by omega]; rfl) rfl (sHo_r hw b d _)
      · refine x_aload_n B hl dX11_houseOf_16 rfl ?_
        refine mo_geta E hM 17 0 rfl (hts (.fieldLink RX11 51 "BinRoundsModel" "moveDay" "[I") (by decide +kernel)) rfl dX11_houseOf_17 ?_
        refine x_bipush B dX11_houseOf_20 (by decide) ?_
        refine x_iload_n B hl dX11_houseOf_22 rfl ?_
        refine x_imul B dX11_houseOf_23 ?_
        refine x_iload B hl dX11_houseOf_24 rfl ?_
        refine x_iadd B dX11_houseOf_26 ?_
        refine mo_ld (k := 17) E hM rfl (by have h9 : mLn 17 = 960 := rfl; omega) (by decide) dX11_houseOf_27 rfl (fun r_27 => ?_)
        refine x_iload_n B hl dX11_houseOf_28 rfl ?_
        refine x_icmp_gt (tgt := 45) B dX11_houseOf_29 (by decide) (by omega) (by omega) (fun c_29 => ?_) (fun c_29 => ?_)
        · refine x_iinc B hl dX11_houseOf_45 rfl (by decide) (fun ls hl => ?_)
          refine x_goto (tgt := 5) B dX11_houseOf_48 (by decide) ?_
          exact ih (k + 1) ls (by omega) (by omega) (by omega) (lv_key hl [(0, .ref o), (1, .int (iI b)), (2, .int (iI d)), (3, .int (iI (sHo σ b d (k + 1).toNat))), (4, .int (iI (k + 1)))] (by first | (rw [sHo_s (by omega), if_pos (by omega)]; rfl) | (rw [sHo_s (by omega), if_neg (by omega)]; rfl)))
        · refine x_aload_n B hl dX11_houseOf_32 rfl ?_
          refine mo_geta E hM 16 0 rfl (hts (.fieldLink RX11 48 "BinRoundsModel" "moveHouse" "[I") (by decide +kernel)) rfl dX11_houseOf_33 ?_
          refine x_bipush B dX11_houseOf_36 (by decide) ?_
          refine x_iload_n B hl dX11_houseOf_38 rfl ?_
          refine x_imul B dX11_houseOf_39 ?_
          refine x_iload B hl dX11_houseOf_40 rfl ?_
          refine x_iadd B dX11_houseOf_42 ?_
          refine mo_ld (k := 16) E hM rfl (by have h9 : mLn 16 = 960 := rfl; omega) (by decide) dX11_houseOf_43 rfl (fun r_43 => ?_)
          refine x_istore_n B hl dX11_houseOf_44 (by decide) (fun ls hl => ?_)
          refine x_iinc B hl dX11_houseOf_45 rfl (by decide) (fun ls hl => ?_)
          refine x_goto (tgt := 5) B dX11_houseOf_48 (by decide) ?_
          exact ih (k + 1) ls (by omega) (by omega) (by omega) (lv_key hl [(0, .ref o), (1, .int (iI b)), (2, .int (iI d)), (3, .int (iI (sHo σ b d (k + 1).toNat))), (4, .int (iI (k + 1)))] (by first | (rw [sHo_s (by omega), if_pos (by omega)]; rfl) | (rw [sHo_s (by omega), if_neg (by omega)]; rfl)))
  refine x_iconst B dX11_houseOf_0 ?_
  refine x_istore_n B hl dX11_houseOf_1 (by decide) (fun ls hl => ?_)
  refine x_iconst B dX11_houseOf_2 ?_
  refine x_istore B hl dX11_houseOf_3 (by decide) (fun ls hl => ?_)
  exact loop 9 0 ls (by omega) (by omega) (by omega) (lv_key hl [(0, .ref o), (1, .int (iI b)), (2, .int (iI d)), (3, .int (iI (sHo σ b d (0 : Int).toNat))), (4, .int (iI 0))] rfl)
set_option maxHeartbeats 4000000 in
set_option maxRecDepth 100000 in
theorem m_weightOf (l : Launch) (D : va_G) (cy : Nat → ClassId) (o : Nat) (ad : Nat → Nat) (σ : MS) {b h d : Int} (hb : 0 ≤ b ∧ b < 120) (hh : -2147483648 ≤ h ∧ h < 2147483648) (hd : -2147483648 ≤ d ∧ d < 2147483648) (hm : 0 ≤ σ 22 b ∧ σ 22 b ≤ 20) : MM l yX11_weightOf wsX11_weightOf ({ frames := 0, cells := 0, slots := 0, locals := 0 } : Room) D cy o ad [.int (iI b), .int (iI h), .int (iI d)] σ (some (.int (iI (sWeight σ b h d)))) (σ) (-2147483648 ≤ sWeight σ b h d ∧ sWeight σ b h d < 2147483648) := by
  refine mm_of (cc := cX11_weightOf) (nL := 6) (ret := (some .int)) (by decide) rfl rfl (fun w h => List.mem_cons_of_mem _ (List.mem_append_right _ h)) (Nat.le_of_ble_eq_true rfl) ⟨rfl, rfl⟩ ?_
  intro p e s m args below meth c ls E hr hlk hM hS hl
  have B := E.1
  have hml := E.2.1
  have hown := E.2.2.1
  have hts0 := E.2.2.2.1
  have hts := E.2.2.2.1
  have hw := hM.2.2.2
  have loop : ∀ (n : Nat) (k : Int) (ls : Array Slot), 0 ≤ k → k ≤ σ 22 b → σ 22 b - k < n → lv_has ls 6 [(0, .ref o), (1, .int (iI b)), (2, .int (iI h)), (3, .int (iI d)), (4, .int (iI (sWt σ b h d k.toNat))), (5, .int (iI k))] → W p l e ({ frames := 0, cells := 0, slots := 0, locals := 0 } : Room) s m args below meth c s.heap [] 0 0 (MQ below (mQ D cy o ad (some (.int (iI (sWeight σ b h d)))) (σ) (-2147483648 ≤ sWeight σ b h d ∧ sWeight σ b h d < 2147483648)) args s 0 0 (mA o ad)) (F0 m 6 ls []) := by
    intro n
    induction n with
    | zero => intro k ls h1 h2 h3; exact absurd h3 (by omega)
    | succ n ih =>
      intro k ls h1 h2 h3 hl
      refine x_iload B hl dX11_weightOf_6 rfl ?_
      refine x_aload_n B hl dX11_weightOf_8 rfl ?_
      refine mo_geta E hM 22 0 rfl (hts (.fieldLink RX11 66 "BinRoundsModel" "parts" "[I") (by decide +kernel)) rfl dX11_weightOf_9 ?_
      refine x_iload_n B hl dX11_weightOf_12 rfl ?_
      refine mo_ld (k := 22) E hM rfl (by have h9 : mLn 22 = 120 := rfl; omega) (by decide) dX11_weightOf_13 rfl (fun r_13 => ?_)
      refine x_icmp_ge (tgt := 69) B dX11_weightOf_14 (by decide) (by omega) (by omega) (fun c_14 => ?_) (fun c_14 => ?_)
      · refine x_iload B hl dX11_weightOf_69 rfl ?_
        exact mo_iret E hr rfl hlk hM hS dX11_weightOf_71 (by rw [show k = σ 22 b by omega]; rfl) rfl (sWt_r hw b h d _)
      · refine x_aload_n B hl dX11_weightOf_17 rfl ?_
        refine mo_geta E hM 19 0 rfl (hts (.fieldLink RX11 57 "BinRoundsModel" "partHouse" "[I") (by decide +kernel)) rfl dX11_weightOf_18 ?_
        refine x_bipush B dX11_weightOf_21 (by decide) ?_
        refine x_iload_n B hl dX11_weightOf_23 rfl ?_
        refine x_imul B dX11_weightOf_24 ?_
        refine x_iload B hl dX11_weightOf_25 rfl ?_
        refine x_iadd B dX11_weightOf_27 ?_
        refine mo_ld (k := 19) E hM rfl (by have h9 : mLn 19 = 2400 := rfl; omega) (by decide) dX11_weightOf_28 rfl (fun r_28 => ?_)
        refine x_iload_n B hl dX11_weightOf_29 rfl ?_
        refine x_icmp_ne (tgt := 63) B dX11_weightOf_30 (by decide) (by omega) (by omega) (fun c_30 => ?_) (fun c_30 => ?_)
        · refine x_iinc B hl dX11_weightOf_63 rfl (by decide) (fun ls hl => ?_)
          refine x_goto (tgt := 6) B dX11_weightOf_66 (by decide) ?_
          exact ih (k + 1) ls (by omega) (by omega) (by omega) (lv_key hl [(0, .ref o), (1, .int (iI b)), (2, .int (iI h)), (3, .int (iI d)), (4, .int (iI (sWt σ b h d (k + 1).toNat))), (5, .int (iI (k + 1)))] (by first | (rw [sWt_s (by omega), if_pos (by omega)]; rfl) | (rw [sWt_s (by omega), if_neg (by omega)]; rfl)))
        · refine x_aload_n B hl dX11_weightOf_33 rfl ?_
          refine mo_geta E hM 21 0 rfl (hts (.fieldLink RX11 63 "BinRoundsModel" "partDay" "[I") (by decide +kernel)) rfl dX11_weightOf_34 ?_
          refine x_bipush B dX11_weightOf_37 (by decide) ?_
          refine x_iload_n B hl dX11_weightOf_39 rfl ?_
          refine x_imul B dX11_weightOf_40 ?_
          refine x_iload B hl dX11_weightOf_41 rfl ?_
          refine x_iadd B dX11_weightOf_43 ?_
          refine mo_ld (k := 21) E hM rfl (by have h9 : mLn 21 = 2400 := rfl; omega) (by decide) dX11_weightOf_44 rfl (fun r_44 => ?_)
          refine x_iload_n B hl dX11_weightOf_45 rfl ?_
          refine x_icmp_gt (tgt := 63) B dX11_weightOf_46 (by decide) (by omega) (by omega) (fun c_46 => ?_) (fun c_46 => ?_)
          · refine x_iinc B hl dX11_weightOf_63 rfl (by decide) (fun ls hl => ?_)
            refine x_goto (tgt := 6) B dX11_weightOf_66 (by decide) ?_
            exact ih (k + 1) ls (by omega) (by omega) (by omega) (lv_key hl [(0, .ref o), (1, .int (iI b)), (2, .int (iI h)), (3, .int (iI d)), (4, .int (iI (sWt σ b h d (k + 1).toNat))), (5, .int (iI (k + 1)))] (by first | (rw [sWt_s (by omega), if_pos (by omega)]; rfl) | (rw [sWt_s (by omega), if_neg (by omega)]; rfl)))
          · refine x_aload_n B hl dX11_weightOf_49 rfl ?_
            refine mo_geta E hM 20 0 rfl (hts (.fieldLink RX11 60 "BinRoundsModel" "partWeight" "[I") (by decide +kernel)) rfl dX11_weightOf_50 ?_
            refine x_bipush B dX11_weightOf_53 (by decide) ?_
            refine x_iload_n B hl dX11_weightOf_55 rfl ?_
            refine x_imul B dX11_weightOf_56 ?_
            refine x_iload B hl dX11_weightOf_57 rfl ?_
            refine x_iadd B dX11_weightOf_59 ?_
            refine mo_ld (k := 20) E hM rfl (by have h9 : mLn 20 = 2400 := rfl; omega) (by decide) dX11_weightOf_60 rfl (fun r_60 => ?_)
            refine x_istore B hl dX11_weightOf_61 (by decide) (fun ls hl => ?_)
            refine x_iinc B hl dX11_weightOf_63 rfl (by decide) (fun ls hl => ?_)
            refine x_goto (tgt := 6) B dX11_weightOf_66 (by decide) ?_
            exact ih (k + 1) ls (by omega) (by omega) (by omega) (lv_key hl [(0, .ref o), (1, .int (iI b)), (2, .int (iI h)), (3, .int (iI d)), (4, .int (iI (sWt σ b h d (k + 1).toNat))), (5, .int (iI (k + 1)))] (by first | (rw [sWt_s (by omega), if_pos (by omega)]; rfl) | (rw [sWt_s (by omega), if_neg (by omega)]; rfl)))
  refine x_iconst B dX11_weightOf_0 ?_
  refine x_istore B hl dX11_weightOf_1 (by decide) (fun ls hl => ?_)
  refine x_iconst B dX11_weightOf_3 ?_
  refine x_istore B hl dX11_weightOf_4 (by decide) (fun ls hl => ?_)
  exact loop 21 0 ls (by omega) (by omega) (by omega) (lv_key hl [(0, .ref o), (1, .int (iI b)), (2, .int (iI h)), (3, .int (iI d)), (4, .int (iI (sWt σ b h d (0 : Int).toNat))), (5, .int (iI 0))] rfl)
set_option maxHeartbeats 4000000 in
set_option maxRecDepth 100000 in
theorem m_bearers (l : Launch) (D : va_G) (cy : Nat → ClassId) (o : Nat) (ad : Nat → Nat) (σ : MS) {mk : Int} (hmk : -2147483648 ≤ mk ∧ mk < 2147483648) (hn : 0 ≤ σ 23 0 ∧ σ 23 0 ≤ 120) : MM l yX11_bearers wsX11_bearers ({ frames := 0, cells := 0, slots := 0, locals := 0 } : Room) D cy o ad [.int (iI mk)] σ (some (.int (iI (sBear σ mk)))) (σ) (0 ≤ sBear σ mk ∧ sBear σ mk ≤ 120) := by
  refine mm_of (cc := cX11_bearers) (nL := 4) (ret := (some .int)) (by decide) rfl rfl (fun w h => List.mem_cons_of_mem _ (List.mem_append_right _ h)) (Nat.le_of_ble_eq_true rfl) ⟨rfl, rfl⟩ ?_
  intro p e s m args below meth c ls E hr hlk hM hS hl
  have B := E.1
  have hml := E.2.1
  have hown := E.2.2.1
  have hts0 := E.2.2.2.1
  have hts := E.2.2.2.1
  have hw := hM.2.2.2
  have loop : ∀ (n : Nat) (b : Int) (ls : Array Slot), 0 ≤ b → b ≤ σ 23 0 → σ 23 0 - b < n → lv_has ls 4 [(0, .ref o), (1, .int (iI mk)), (2, .int (iI (sBr σ mk b.toNat))), (3, .int (iI b))] → W p l e ({ frames := 0, cells := 0, slots := 0, locals := 0 } : Room) s m args below meth c s.heap [] 0 0 (MQ below (mQ D cy o ad (some (.int (iI (sBear σ mk)))) (σ) (0 ≤ sBear σ mk ∧ sBear σ mk ≤ 120)) args s 0 0 (mA o ad)) (F0 m 4 ls []) := by
    intro n
    induction n with
    | zero => intro b ls h1 h2 h3; exact absurd h3 (by omega)
    | succ n ih =>
      intro b ls h1 h2 h3 hl
      refine x_iload_n B hl dX11_bearers_4 rfl ?_
      refine x_aload_n B hl dX11_bearers_5 rfl ?_
      refine mo_gets E hM 23 rfl (hts (.fieldLink RX11 139 "BinRoundsModel" "bins" "I") (by decide +kernel)) rfl dX11_bearers_6 rfl (fun r_6 => ?_)
      refine x_icmp_ge (tgt := 45) B dX11_bearers_9 (by decide) (by omega) (by omega) (fun c_9 => ?_) (fun c_9 => ?_)
      · refine x_iload_n B hl dX11_bearers_45 rfl ?_
        exact mo_iret E hr rfl hlk hM hS dX11_bearers_46 (by rw [show b = σ 23 0 by omega]; rfl) rfl (by have := sBr_r σ mk (σ 23 0).toNat; unfold sBear; omega)
      · refine x_iload_n B hl dX11_bearers_12 rfl ?_
        refine x_aload_n B hl dX11_bearers_13 rfl ?_
        refine mo_geta E hM 13 1 rfl (hts (.fieldLink RX11 39 "BinRoundsModel" "bears" "[Z") (by decide +kernel)) rfl dX11_bearers_14 ?_
        refine x_iload_n B hl dX11_bearers_17 rfl ?_
        refine mo_zld (k := 13) E hM rfl (by have h9 : mLn 13 = 120 := rfl; omega) (by decide) dX11_bearers_18 rfl (fun r_18 => ?_)
        refine x_if_eq (tgt := 36) B dX11_bearers_19 (by decide) (by omega) (fun c_19 => ?_) (fun c_19 => ?_)
        · refine x_iconst B dX11_bearers_36 ?_
          refine x_iadd B dX11_bearers_37 ?_
          refine x_istore_n B hl dX11_bearers_38 (by decide) (fun ls hl => ?_)
          refine x_iinc B hl dX11_bearers_39 rfl (by decide) (fun ls hl => ?_)
          refine x_goto (tgt := 4) B dX11_bearers_42 (by decide) ?_
          exact ih (b + 1) ls (by omega) (by omega) (by omega) (lv_key hl [(0, .ref o), (1, .int (iI mk)), (2, .int (iI (sBr σ mk (b + 1).toNat))), (3, .int (iI (b + 1)))] (by first | (rw [sBr_s (by omega), if_pos (by omega)]; rfl) | (rw [sBr_s (by omega), if_neg (by omega)]; rfl)))
        · refine x_aload_n B hl dX11_bearers_22 rfl ?_
          refine mo_geta E hM 14 0 rfl (hts (.fieldLink RX11 42 "BinRoundsModel" "markOf" "[I") (by decide +kernel)) rfl dX11_bearers_23 ?_
          refine x_iload_n B hl dX11_bearers_26 rfl ?_
          refine mo_ld (k := 14) E hM rfl (by have h9 : mLn 14 = 120 := rfl; omega) (by decide) dX11_bearers_27 rfl (fun r_27 => ?_)
          refine x_iload_n B hl dX11_bearers_28 rfl ?_
          refine x_icmp_ne (tgt := 36) B dX11_bearers_29 (by decide) (by omega) (by omega) (fun c_29 => ?_) (fun c_29 => ?_)
          · refine x_iconst B dX11_bearers_36 ?_
            refine x_iadd B dX11_bearers_37 ?_
            refine x_istore_n B hl dX11_bearers_38 (by decide) (fun ls hl => ?_)
            refine x_iinc B hl dX11_bearers_39 rfl (by decide) (fun ls hl => ?_)
            refine x_goto (tgt := 4) B dX11_bearers_42 (by decide) ?_
            exact ih (b + 1) ls (by omega) (by omega) (by omega) (lv_key hl [(0, .ref o), (1, .int (iI mk)), (2, .int (iI (sBr σ mk (b + 1).toNat))), (3, .int (iI (b + 1)))] (by first | (rw [sBr_s (by omega), if_pos (by omega)]; rfl) | (rw [sBr_s (by omega), if_neg (by omega)]; rfl)))
          · refine x_iconst B dX11_bearers_32 ?_
            refine x_goto (tgt := 37) B dX11_bearers_33 (by decide) ?_
            refine x_iadd B dX11_bearers_37 ?_
            refine x_istore_n B hl dX11_bearers_38 (by decide) (fun ls hl => ?_)
            refine x_iinc B hl dX11_bearers_39 rfl (by decide) (fun ls hl => ?_)
            refine x_goto (tgt := 4) B dX11_bearers_42 (by decide) ?_
            exact ih (b + 1) ls (by omega) (by omega) (by omega) (lv_key hl [(0, .ref o), (1, .int (iI mk)), (2, .int (iI (sBr σ mk (b + 1).toNat))), (3, .int (iI (b + 1)))] (by first | (rw [sBr_s (by omega), if_pos (by omega)]; rfl) | (rw [sBr_s (by omega), if_neg (by omega)]; rfl)))
  refine x_iconst B dX11_bearers_0 ?_
  refine x_istore_n B hl dX11_bearers_1 (by decide) (fun ls hl => ?_)
  refine x_iconst B dX11_bearers_2 ?_
  refine x_istore_n B hl dX11_bearers_3 (by decide) (fun ls hl => ?_)
  exact loop 121 0 ls (by omega) (by omega) (by omega) (lv_key hl [(0, .ref o), (1, .int (iI mk)), (2, .int (iI (sBr σ mk (0 : Int).toNat))), (3, .int (iI 0))] rfl)
set_option maxHeartbeats 4000000 in
set_option maxRecDepth 100000 in
theorem m_halvesToday (l : Launch) (D : va_G) (cy : Nat → ClassId) (o : Nat) (ad : Nat → Nat) (σ : MS) {q : Int} (hq : -2147483648 ≤ q ∧ q < 2147483648) (hn : 0 ≤ σ 45 0 ∧ σ 45 0 ≤ 600) (hh : ∀ t, 0 ≤ t → t < σ 45 0 → 0 ≤ σ 35 t ∧ σ 35 t ≤ 3000000) : MM l yX11_halvesToday wsX11_halvesToday ({ frames := 0, cells := 0, slots := 0, locals := 0 } : Room) D cy o ad [.int (iI q)] σ (some (.int (iI (sHalves σ q)))) (σ) (0 ≤ sHalves σ q ∧ sHalves σ q ≤ 1800000000) := by
  refine mm_of (cc := cX11_halvesToday) (nL := 4) (ret := (some .int)) (by decide) rfl rfl (fun w h => List.mem_cons_of_mem _ (List.mem_append_right _ h)) (Nat.le_of_ble_eq_true rfl) ⟨rfl, rfl⟩ ?_
  intro p e s m args below meth c ls E hr hlk hM hS hl
  have B := E.1
  have hml := E.2.1
  have hown := E.2.2.1
  have hts0 := E.2.2.2.1
  have hts := E.2.2.2.1
  have hw := hM.2.2.2
  have loop : ∀ (n : Nat) (t : Int) (ls : Array Slot), 0 ≤ t → t ≤ σ 45 0 → σ 45 0 - t < n → lv_has ls 4 [(0, .ref o), (1, .int (iI q)), (2, .int (iI (sHt σ q t.toNat))), (3, .int (iI t))] → W p l e ({ frames := 0, cells := 0, slots := 0, locals := 0 } : Room) s m args below meth c s.heap [] 0 0 (MQ below (mQ D cy o ad (some (.int (iI (sHalves σ q)))) (σ) (0 ≤ sHalves σ q ∧ sHalves σ q ≤ 1800000000)) args s 0 0 (mA o ad)) (F0 m 4 ls []) := by
    intro n
    induction n with
    | zero => intro t ls h1 h2 h3; exact absurd h3 (by omega)
    | succ n ih =>
      intro t ls h1 h2 h3 hl
      refine x_iload_n B hl dX11_halvesToday_4 rfl ?_
      refine x_aload_n B hl dX11_halvesToday_5 rfl ?_
      refine mo_gets E hM 45 rfl (hts (.fieldLink RX11 145 "BinRoundsModel" "tips" "I") (by decide +kernel)) rfl dX11_halvesToday_6 rfl (fun r_6 => ?_)
      refine x_icmp_ge (tgt := 54) B dX11_halvesToday_9 (by decide) (by omega) (by omega) (fun c_9 => ?_) (fun c_9 => ?_)
      · refine x_iload_n B hl dX11_halvesToday_54 rfl ?_
        exact mo_iret E hr rfl hlk hM hS dX11_halvesToday_55 (by rw [show t = σ 45 0 by omega]; rfl) rfl (sHt_r hh q (by omega) (by omega))
      · refine x_iload_n B hl dX11_halvesToday_12 rfl ?_
        refine x_aload_n B hl dX11_halvesToday_13 rfl ?_
        refine mo_geta E hM 32 0 rfl (hts (.fieldLink RX11 84 "BinRoundsModel" "dayOf" "[I") (by decide +kernel)) rfl dX11_halvesToday_14 ?_
        refine x_iload_n B hl dX11_halvesToday_17 rfl ?_
        refine mo_ld (k := 32) E hM rfl (by have h9 : mLn 32 = 600 := rfl; omega) (by decide) dX11_halvesToday_18 rfl (fun r_18 => ?_)
        refine x_aload_n B hl dX11_halvesToday_19 rfl ?_
        refine mo_gets E hM 1 rfl (hts (.fieldLink RX11 152 "BinRoundsModel" "open" "I") (by decide +kernel)) rfl dX11_halvesToday_20 rfl (fun r_20 => ?_)
        refine x_icmp_ne (tgt := 45) B dX11_halvesToday_23 (by decide) (by omega) (by omega) (fun c_23 => ?_) (fun c_23 => ?_)
        · refine x_iconst B dX11_halvesToday_45 ?_
          refine x_iadd B dX11_halvesToday_46 ?_
          refine x_istore_n B hl dX11_halvesToday_47 (by decide) (fun ls hl => ?_)
          refine x_iinc B hl dX11_halvesToday_48 rfl (by decide) (fun ls hl => ?_)
          refine x_goto (tgt := 4) B dX11_halvesToday_51 (by decide) ?_
          exact ih (t + 1) ls (by omega) (by omega) (by omega) (lv_key hl [(0, .ref o), (1, .int (iI q)), (2, .int (iI (sHt σ q (t + 1).toNat))), (3, .int (iI (t + 1)))] (by first | (rw [sHt_s (by omega), if_pos (by omega)]; rfl) | (rw [sHt_s (by omega), if_neg (by omega)]; rfl)))
        · refine x_aload_n B hl dX11_halvesToday_26 rfl ?_
          refine mo_geta E hM 33 0 rfl (hts (.fieldLink RX11 87 "BinRoundsModel" "cartOf" "[I") (by decide +kernel)) rfl dX11_halvesToday_27 ?_
          refine x_iload_n B hl dX11_halvesToday_30 rfl ?_
          refine mo_ld (k := 33) E hM rfl (by have h9 : mLn 33 = 600 := rfl; omega) (by decide) dX11_halvesToday_31 rfl (fun r_31 => ?_)
          refine x_iload_n B hl dX11_halvesToday_32 rfl ?_
          refine x_icmp_ne (tgt := 45) B dX11_halvesToday_33 (by decide) (by omega) (by omega) (fun c_33 => ?_) (fun c_33 => ?_)
          · refine x_iconst B dX11_halvesToday_45 ?_
            refine x_iadd B dX11_halvesToday_46 ?_
            refine x_istore_n B hl dX11_halvesToday_47 (by decide) (fun ls hl => ?_)
            refine x_iinc B hl dX11_halvesToday_48 rfl (by decide) (fun ls hl => ?_)
            refine x_goto (tgt := 4) B dX11_halvesToday_51 (by decide) ?_
            exact ih (t + 1) ls (by omega) (by omega) (by omega) (lv_key hl [(0, .ref o), (1, .int (iI q)), (2, .int (iI (sHt σ q (t + 1).toNat))), (3, .int (iI (t + 1)))] (by first | (rw [sHt_s (by omega), if_pos (by omega)]; rfl) | (rw [sHt_s (by omega), if_neg (by omega)]; rfl)))
          · refine x_aload_n B hl dX11_halvesToday_36 rfl ?_
            refine mo_geta E hM 35 0 rfl (hts (.fieldLink RX11 93 "BinRoundsModel" "halves" "[I") (by decide +kernel)) rfl dX11_halvesToday_37 ?_
            refine x_iload_n B hl dX11_halvesToday_40 rfl ?_
            refine mo_ld (k := 35) E hM rfl (by have h9 : mLn 35 = 600 := rfl; omega) (by decide) dX11_halvesToday_41 rfl (fun r_41 => ?_)
            refine x_goto (tgt := 46) B dX11_halvesToday_42 (by decide) ?_
            refine x_iadd B dX11_halvesToday_46 ?_
            refine x_istore_n B hl dX11_halvesToday_47 (by decide) (fun ls hl => ?_)
            refine x_iinc B hl dX11_halvesToday_48 rfl (by decide) (fun ls hl => ?_)
            refine x_goto (tgt := 4) B dX11_halvesToday_51 (by decide) ?_
            exact ih (t + 1) ls (by omega) (by omega) (by omega) (lv_key hl [(0, .ref o), (1, .int (iI q)), (2, .int (iI (sHt σ q (t + 1).toNat))), (3, .int (iI (t + 1)))] (by first | (rw [sHt_s (by omega), if_pos (by omega)]; rfl) | (rw [sHt_s (by omega), if_neg (by omega)]; rfl)))
  refine x_iconst B dX11_halvesToday_0 ?_
  refine x_istore_n B hl dX11_halvesToday_1 (by decide) (fun ls hl => ?_)
  refine x_iconst B dX11_halvesToday_2 ?_
  refine x_istore_n B hl dX11_halvesToday_3 (by decide) (fun ls hl => ?_)
  exact loop 601 0 ls (by omega) (by omega) (by omega) (lv_key hl [(0, .ref o), (1, .int (iI q)), (2, .int (iI (sHt σ q (0 : Int).toNat))), (3, .int (iI 0))] rfl)
set_option maxHeartbeats 4000000 in
set_option maxRecDepth 100000 in
theorem m_agrees (l : Launch) (D : va_G) (cy : Nat → ClassId) (o : Nat) (ad : Nat → Nat) (σ : MS) {q : Int} (hq : 0 ≤ q ∧ q < 5) (htol : 0 ≤ σ 31 0 ∧ σ 31 0 ≤ 1000) (hg : -1 ≤ σ 26 q ∧ σ 26 q ≤ 1000000) (hn : 0 ≤ σ 45 0 ∧ σ 45 0 ≤ 600) (hh : ∀ t, 0 ≤ t → t < σ 45 0 → 0 ≤ σ 35 t ∧ σ 35 t ≤ 3000000) : MM l yX11_agrees wsX11_agrees ({ frames := 1, cells := 0, slots := 0, locals := 23 } : Room) D cy o ad [.int (iI q)] σ (some (.int (iI (if sAgr σ q then 1 else 0)))) (σ) (True) := by
  refine mm_of (cc := cX11_agrees) (nL := 4) (ret := (some .boolean)) (by decide) rfl rfl (fun w h => List.mem_cons_of_mem _ (List.mem_append_right _ h)) (Nat.le_of_ble_eq_true rfl) ⟨rfl, rfl⟩ ?_
  intro p e s m args below meth c ls E hr hlk hM hS hl
  have B := E.1
  have hml := E.2.1
  have hown := E.2.2.1
  have hts0 := E.2.2.2.1
  have hts := E.2.2.2.1
  have hw := hM.2.2.2
  refine x_aload_n B hl dX11_agrees_0 rfl ?_
  refine mo_geta E hM 26 0 rfl (hts (.fieldLink RX11 75 "BinRoundsModel" "gates" "[I") (by decide +kernel)) rfl dX11_agrees_1 ?_
  refine x_iload_n B hl dX11_agrees_4 rfl ?_
  refine mo_ld (k := 26) E hM rfl (by have h9 : mLn 26 = 5 := rfl; omega) (by decide) dX11_agrees_5 rfl (fun r_5 => ?_)
  refine x_if_ge (tgt := 11) B dX11_agrees_6 (by decide) (by omega) (fun c_6 => ?_) (fun c_6 => ?_)
  · refine x_aload_n B hl dX11_agrees_11 rfl ?_
    refine x_iload_n B hl dX11_agrees_12 rfl ?_
    refine mo_call E hM hS hl (m_halvesToday l D cy o ad _ (by omega) hn hh) (cwV 1 hts0 gX11_agrees_X11_halvesToday rfl rfl rfl (by decide +kernel) ⟨Nat.le_of_ble_eq_true rfl, Nat.le_of_ble_eq_true rfl⟩) rfl rfl (Nat.le_of_ble_eq_true rfl) dX11_agrees_13 ⟨Nat.zero_le _, Nat.zero_le _⟩ (fun H locs q_13 hM hS => ?_)
    refine x_aload_n B hl dX11_agrees_16 rfl ?_
    refine mo_geta E hM 26 0 rfl (hts (.fieldLink RX11 75 "BinRoundsModel" "gates" "[I") (by decide +kernel)) rfl dX11_agrees_17 ?_
    refine x_iload_n B hl dX11_agrees_20 rfl ?_
    refine mo_ld (k := 26) E hM rfl (by have h9 : mLn 26 = 5 := rfl; omega) (by decide) dX11_agrees_21 rfl (fun r_21 => ?_)
    refine x_isub B dX11_agrees_22 ?_
    refine x_i2l B dX11_agrees_23 (by omega) ?_
    refine x_lstore_n B hl dX11_agrees_24 (by decide) (fun ls hl => ?_)
    refine lv_ldc2 (v := lI 1000) B.1 B.2 hown (hts (.constantLong RX11 159 (1000)) (by decide +kernel)) dX11_agrees_25 ?_
    refine x_lload_n B hl dX11_agrees_28 rfl ?_
    refine x_lconst B dX11_agrees_29 ?_
    refine x_lcmp_ge (tgt := 39) B dX11_agrees_30 dX11_agrees_31 (by decide) (by omega) (by omega) (fun c_30 => ?_) (fun c_30 => ?_)
    · refine x_lload_n B hl dX11_agrees_39 rfl ?_
      refine x_lmul B dX11_agrees_40 ?_
      have e9 : 0 ≤ σ 31 0 * σ 26 q ∧ σ 31 0 * σ 26 q ≤ 10000000000 := ⟨Int.mul_nonneg htol.1 (by omega), by have e1 := Int.mul_le_mul (a := σ 31 0) (b := σ 26 q) (c := 1000) (d := 1000000) (by omega) (by omega) (by omega) (by omega); omega⟩
      refine x_aload_n B hl dX11_agrees_41 rfl ?_
      refine mo_gets E hM 31 rfl (hts (.fieldLink RX11 161 "BinRoundsModel" "tolerance" "I") (by decide +kernel)) rfl dX11_agrees_42 rfl (fun r_42 => ?_)
      refine x_i2l B dX11_agrees_45 (by omega) ?_
      refine x_aload_n B hl dX11_agrees_46 rfl ?_
      refine mo_geta E hM 26 0 rfl (hts (.fieldLink RX11 75 "BinRoundsModel" "gates" "[I") (by decide +kernel)) rfl dX11_agrees_47 ?_
      refine x_iload_n B hl dX11_agrees_50 rfl ?_
      refine mo_ld (k := 26) E hM rfl (by have h9 : mLn 26 = 5 := rfl; omega) (by decide) dX11_agrees_51 rfl (fun r_51 => ?_)
      refine x_i2l B dX11_agrees_52 (by omega) ?_
      refine x_lmul B dX11_agrees_53 ?_
      refine x_lcmp_gt (tgt := 62) B dX11_agrees_54 dX11_agrees_55 (by decide) (by omega) (by omega) (fun c_54 => ?_) (fun c_54 => ?_)
      · refine x_iconst B dX11_agrees_62 ?_
        exact mo_iret E hr rfl hlk hM hS dX11_agrees_63 (by first | (rw [if_pos (show sAgr σ q by unfold sAgr; omega)]) | (rw [if_neg (show ¬ sAgr σ q by unfold sAgr; omega)])) rfl trivial
      · refine x_iconst B dX11_agrees_58 ?_
        refine x_goto (tgt := 63) B dX11_agrees_59 (by decide) ?_
        exact mo_iret E hr rfl hlk hM hS dX11_agrees_63 (by first | (rw [if_pos (show sAgr σ q by unfold sAgr; omega)]) | (rw [if_neg (show ¬ sAgr σ q by unfold sAgr; omega)])) rfl trivial
    · refine x_lload_n B hl dX11_agrees_34 rfl ?_
      refine x_lneg B dX11_agrees_35 ?_
      refine x_goto (tgt := 40) B dX11_agrees_36 (by decide) ?_
      refine x_lmul B dX11_agrees_40 ?_
      have e9 : 0 ≤ σ 31 0 * σ 26 q ∧ σ 31 0 * σ 26 q ≤ 10000000000 := ⟨Int.mul_nonneg htol.1 (by omega), by have e1 := Int.mul_le_mul (a := σ 31 0) (b := σ 26 q) (c := 1000) (d := 1000000) (by omega) (by omega) (by omega) (by omega); omega⟩
      refine x_aload_n B hl dX11_agrees_41 rfl ?_
      refine mo_gets E hM 31 rfl (hts (.fieldLink RX11 161 "BinRoundsModel" "tolerance" "I") (by decide +kernel)) rfl dX11_agrees_42 rfl (fun r_42 => ?_)
      refine x_i2l B dX11_agrees_45 (by omega) ?_
      refine x_aload_n B hl dX11_agrees_46 rfl ?_
      refine mo_geta E hM 26 0 rfl (hts (.fieldLink RX11 75 "BinRoundsModel" "gates" "[I") (by decide +kernel)) rfl dX11_agrees_47 ?_
      refine x_iload_n B hl dX11_agrees_50 rfl ?_
      refine mo_ld (k := 26) E hM rfl (by have h9 : mLn 26 = 5 := rfl; omega) (by decide) dX11_agrees_51 rfl (fun r_51 => ?_)
      refine x_i2l B dX11_agrees_52 (by omega) ?_
      refine x_lmul B dX11_agrees_53 ?_
      refine x_lcmp_gt (tgt := 62) B dX11_agrees_54 dX11_agrees_55 (by decide) (by omega) (by omega) (fun c_54 => ?_) (fun c_54 => ?_)
      · refine x_iconst B dX11_agrees_62 ?_
        exact mo_iret E hr rfl hlk hM hS dX11_agrees_63 (by first | (rw [if_pos (show sAgr σ q by unfold sAgr; omega)]) | (rw [if_neg (show ¬ sAgr σ q by unfold sAgr; omega)])) rfl trivial
      · refine x_iconst B dX11_agrees_58 ?_
        refine x_goto (tgt := 63) B dX11_agrees_59 (by decide) ?_
        exact mo_iret E hr rfl hlk hM hS dX11_agrees_63 (by first | (rw [if_pos (show sAgr σ q by unfold sAgr; omega)]) | (rw [if_neg (show ¬ sAgr σ q by unfold sAgr; omega)])) rfl trivial
  · refine x_iconst B dX11_agrees_9 ?_
    exact mo_iret E hr rfl hlk hM hS dX11_agrees_10 (by first | (rw [if_pos (show sAgr σ q by unfold sAgr; omega)]) | (rw [if_neg (show ¬ sAgr σ q by unfold sAgr; omega)])) rfl trivial
set_option maxHeartbeats 4000000 in
set_option maxRecDepth 100000 in
theorem m_allWeights (l : Launch) (D : va_G) (cy : Nat → ClassId) (o : Nat) (ad : Nat → Nat) (σ : MS) {t : Int} (ht : 0 ≤ t ∧ t < 600) (hb : 0 ≤ σ 36 t ∧ σ 36 t < 120) (hm : 0 ≤ σ 22 (σ 36 t) ∧ σ 22 (σ 36 t) ≤ 20) (hn : 0 ≤ σ 11 0 ∧ σ 11 0 ≤ 60) (hpw : ∀ j, 0 ≤ σ 20 j ∧ σ 20 j ≤ 1000) : MM l yX11_allWeights wsX11_allWeights ({ frames := 1, cells := 0, slots := 0, locals := 25 } : Room) D cy o ad [.int (iI t)] σ (some (.int (iI (sAll σ t)))) (σ) (0 ≤ sAll σ t ∧ sAll σ t ≤ 60000) := by
  refine mm_of (cc := cX11_allWeights) (nL := 4) (ret := (some .int)) (by decide) rfl rfl (fun w h => List.mem_cons_of_mem _ (List.mem_append_right _ h)) (Nat.le_of_ble_eq_true rfl) ⟨rfl, rfl⟩ ?_
  intro p e s m args below meth c ls E hr hlk hM hS hl
  have B := E.1
  have hml := E.2.1
  have hown := E.2.2.1
  have hts0 := E.2.2.2.1
  have hts := E.2.2.2.1
  have hw := hM.2.2.2
  have loop : ∀ (n : Nat) (h : Int) (H : Heap) (locs : List Loc) (hM : MP D cy o ad σ H) (hS : va_S (mA o ad) s.heap H locs) (ls : Array Slot), 0 ≤ h → h ≤ σ 11 0 → σ 11 0 - h < n → lv_has ls 4 [(0, .ref o), (1, .int (iI t)), (2, .int (iI (sAw σ t h.toNat))), (3, .int (iI h))] → W p l e ({ frames := 1, cells := 0, slots := 0, locals := 25 } : Room) s m args below meth c H locs 0 0 (MQ below (mQ D cy o ad (some (.int (iI (sAll σ t)))) (σ) (0 ≤ sAll σ t ∧ sAll σ t ≤ 60000)) args s 0 0 (mA o ad)) (F0 m 4 ls []) := by
    intro n
    induction n with
    | zero => intro h H locs hM hS ls h1 h2 h3; exact absurd h3 (by omega)
    | succ n ih =>
      intro h H locs hM hS ls h1 h2 h3 hl
      refine x_iload_n B hl dX11_allWeights_4 rfl ?_
      refine x_aload_n B hl dX11_allWeights_5 rfl ?_
      refine mo_gets E hM 11 rfl (hts (.fieldLink RX11 136 "BinRoundsModel" "houses" "I") (by decide +kernel)) rfl dX11_allWeights_6 rfl (fun r_6 => ?_)
      refine x_icmp_ge (tgt := 38) B dX11_allWeights_9 (by decide) (by omega) (by omega) (fun c_9 => ?_) (fun c_9 => ?_)
      · refine x_iload_n B hl dX11_allWeights_38 rfl ?_
        exact mo_iret E hr rfl hlk hM hS dX11_allWeights_39 (by rw [show h = σ 11 0 by omega]; rfl) rfl (sAw_r hpw (by omega) (by omega))
      · refine x_iload_n B hl dX11_allWeights_12 rfl ?_
        refine x_aload_n B hl dX11_allWeights_13 rfl ?_
        refine x_aload_n B hl dX11_allWeights_14 rfl ?_
        refine mo_geta E hM 36 0 rfl (hts (.fieldLink RX11 96 "BinRoundsModel" "binOf" "[I") (by decide +kernel)) rfl dX11_allWeights_15 ?_
        refine x_iload_n B hl dX11_allWeights_18 rfl ?_
        refine mo_ld (k := 36) E hM rfl (by have h9 : mLn 36 = 600 := rfl; omega) (by decide) dX11_allWeights_19 rfl (fun r_19 => ?_)
        refine x_iload_n B hl dX11_allWeights_20 rfl ?_
        refine x_aload_n B hl dX11_allWeights_21 rfl ?_
        refine mo_geta E hM 32 0 rfl (hts (.fieldLink RX11 84 "BinRoundsModel" "dayOf" "[I") (by decide +kernel)) rfl dX11_allWeights_22 ?_
        refine x_iload_n B hl dX11_allWeights_25 rfl ?_
        refine mo_ld (k := 32) E hM rfl (by have h9 : mLn 32 = 600 := rfl; omega) (by decide) dX11_allWeights_26 rfl (fun r_26 => ?_)
        refine mo_call E hM hS hl (m_weightOf l D cy o ad _ hb (by omega) (by omega) hm) (cwV 3 hts0 gX11_allWeights_X11_weightOf rfl rfl rfl (by decide +kernel) ⟨Nat.le_of_ble_eq_true rfl, Nat.le_of_ble_eq_true rfl⟩) rfl rfl (Nat.le_of_ble_eq_true rfl) dX11_allWeights_27 ⟨Nat.zero_le _, Nat.zero_le _⟩ (fun H locs q_27 hM hS => ?_)
        refine x_iadd B dX11_allWeights_30 ?_
        refine x_istore_n B hl dX11_allWeights_31 (by decide) (fun ls hl => ?_)
        refine x_iinc B hl dX11_allWeights_32 rfl (by decide) (fun ls hl => ?_)
        refine x_goto (tgt := 4) B dX11_allWeights_35 (by decide) ?_
        exact ih (h + 1) _ _ hM hS ls (by omega) (by omega) (by omega) (lv_key hl [(0, .ref o), (1, .int (iI t)), (2, .int (iI (sAw σ t (h + 1).toNat))), (3, .int (iI (h + 1)))] (by rw [sAw_s (by omega)]; rfl))
  refine x_iconst B dX11_allWeights_0 ?_
  refine x_istore_n B hl dX11_allWeights_1 (by decide) (fun ls hl => ?_)
  refine x_iconst B dX11_allWeights_2 ?_
  refine x_istore_n B hl dX11_allWeights_3 (by decide) (fun ls hl => ?_)
  exact loop 61 0 _ _ hM hS ls (by omega) (by omega) (by omega) (lv_key hl [(0, .ref o), (1, .int (iI t)), (2, .int (iI (sAw σ t (0 : Int).toNat))), (3, .int (iI 0))] rfl)
set_option maxHeartbeats 4000000 in
set_option maxRecDepth 100000 in
theorem m_isNobodys (l : Launch) (D : va_G) (cy : Nat → ClassId) (o : Nat) (ad : Nat → Nat) (σ : MS) {t : Int} (ht : 0 ≤ t ∧ t < 600) (hb : 0 ≤ σ 36 t ∧ σ 36 t < 120) (hm : 0 ≤ σ 22 (σ 36 t) ∧ σ 22 (σ 36 t) ≤ 20) (hm8 : 0 ≤ σ 18 (σ 36 t) ∧ σ 18 (σ 36 t) ≤ 8) (hn : 0 ≤ σ 11 0 ∧ σ 11 0 ≤ 60) (hpw : ∀ j, 0 ≤ σ 20 j ∧ σ 20 j ≤ 1000) : MM l yX11_isNobodys wsX11_isNobodys ({ frames := 2, cells := 0, slots := 0, locals := 48 } : Room) D cy o ad [.int (iI t)] σ (some (.int (iI (if sNob σ t then 1 else 0)))) (σ) (True) := by
  refine mm_of (cc := cX11_isNobodys) (nL := 2) (ret := (some .boolean)) (by decide) rfl rfl (fun w h => List.mem_cons_of_mem _ (List.mem_append_right _ h)) (Nat.le_of_ble_eq_true rfl) ⟨rfl, rfl⟩ ?_
  intro p e s m args below meth c ls E hr hlk hM hS hl
  have B := E.1
  have hml := E.2.1
  have hown := E.2.2.1
  have hts0 := E.2.2.2.1
  have hts := E.2.2.2.1
  have hw := hM.2.2.2
  refine x_aload_n B hl dX11_isNobodys_0 rfl ?_
  refine mo_geta E hM 12 0 rfl (hts (.fieldLink RX11 36 "BinRoundsModel" "kind" "[I") (by decide +kernel)) rfl dX11_isNobodys_1 ?_
  refine x_aload_n B hl dX11_isNobodys_4 rfl ?_
  refine mo_geta E hM 36 0 rfl (hts (.fieldLink RX11 96 "BinRoundsModel" "binOf" "[I") (by decide +kernel)) rfl dX11_isNobodys_5 ?_
  refine x_iload_n B hl dX11_isNobodys_8 rfl ?_
  refine mo_ld (k := 36) E hM rfl (by have h9 : mLn 36 = 600 := rfl; omega) (by decide) dX11_isNobodys_9 rfl (fun r_9 => ?_)
  refine mo_ld (k := 12) E hM rfl (by have h9 : mLn 12 = 120 := rfl; omega) (by decide) dX11_isNobodys_10 rfl (fun r_10 => ?_)
  refine x_iconst B dX11_isNobodys_11 ?_
  refine x_icmp_ne (tgt := 31) B dX11_isNobodys_12 (by decide) (by omega) (by omega) (fun c_12 => ?_) (fun c_12 => ?_)
  · refine x_aload_n B hl dX11_isNobodys_31 rfl ?_
    refine x_aload_n B hl dX11_isNobodys_32 rfl ?_
    refine mo_geta E hM 36 0 rfl (hts (.fieldLink RX11 96 "BinRoundsModel" "binOf" "[I") (by decide +kernel)) rfl dX11_isNobodys_33 ?_
    refine x_iload_n B hl dX11_isNobodys_36 rfl ?_
    refine mo_ld (k := 36) E hM rfl (by have h9 : mLn 36 = 600 := rfl; omega) (by decide) dX11_isNobodys_37 rfl (fun r_37 => ?_)
    refine x_aload_n B hl dX11_isNobodys_38 rfl ?_
    refine mo_geta E hM 32 0 rfl (hts (.fieldLink RX11 84 "BinRoundsModel" "dayOf" "[I") (by decide +kernel)) rfl dX11_isNobodys_39 ?_
    refine x_iload_n B hl dX11_isNobodys_42 rfl ?_
    refine mo_ld (k := 32) E hM rfl (by have h9 : mLn 32 = 600 := rfl; omega) (by decide) dX11_isNobodys_43 rfl (fun r_43 => ?_)
    refine mo_call E hM hS hl (m_houseOf l D cy o ad _ hb (by omega) hm8) (cwV 2 hts0 gX11_isNobodys_X11_houseOf rfl rfl rfl (by decide +kernel) ⟨Nat.le_of_ble_eq_true rfl, Nat.le_of_ble_eq_true rfl⟩) rfl rfl (Nat.le_of_ble_eq_true rfl) dX11_isNobodys_44 ⟨Nat.zero_le _, Nat.zero_le _⟩ (fun H locs q_44 hM hS => ?_)
    refine x_if_ge (tgt := 54) B dX11_isNobodys_47 (by decide) (by omega) (fun c_47 => ?_) (fun c_47 => ?_)
    · refine x_iconst B dX11_isNobodys_54 ?_
      exact mo_iret E hr rfl hlk hM hS dX11_isNobodys_55 (by by_cases h3 : σ 12 (σ 36 t) = 3 <;> simp only [sNob, h3, if_true, if_false] <;> first | (exfalso; omega) | (rw [if_pos (by omega)]) | (rw [if_neg (by omega)])) rfl trivial
    · refine x_iconst B dX11_isNobodys_50 ?_
      refine x_goto (tgt := 55) B dX11_isNobodys_51 (by decide) ?_
      exact mo_iret E hr rfl hlk hM hS dX11_isNobodys_55 (by by_cases h3 : σ 12 (σ 36 t) = 3 <;> simp only [sNob, h3, if_true, if_false] <;> first | (exfalso; omega) | (rw [if_pos (by omega)]) | (rw [if_neg (by omega)])) rfl trivial
  · refine x_aload_n B hl dX11_isNobodys_15 rfl ?_
    refine x_iload_n B hl dX11_isNobodys_16 rfl ?_
    refine mo_call E hM hS hl (m_allWeights l D cy o ad _ ht hb hm hn hpw) (cwV 1 hts0 gX11_isNobodys_X11_allWeights rfl rfl rfl (by decide +kernel) ⟨Nat.le_of_ble_eq_true rfl, Nat.le_of_ble_eq_true rfl⟩) rfl rfl (Nat.le_of_ble_eq_true rfl) dX11_isNobodys_17 ⟨Nat.zero_le _, Nat.zero_le _⟩ (fun H locs q_17 hM hS => ?_)
    refine x_if_ne (tgt := 27) B dX11_isNobodys_20 (by decide) (by omega) (fun c_20 => ?_) (fun c_20 => ?_)
    · refine x_iconst B dX11_isNobodys_27 ?_
      refine x_goto (tgt := 55) B dX11_isNobodys_28 (by decide) ?_
      exact mo_iret E hr rfl hlk hM hS dX11_isNobodys_55 (by by_cases h3 : σ 12 (σ 36 t) = 3 <;> simp only [sNob, h3, if_true, if_false] <;> first | (exfalso; omega) | (rw [if_pos (by omega)]) | (rw [if_neg (by omega)])) rfl trivial
    · refine x_iconst B dX11_isNobodys_23 ?_
      refine x_goto (tgt := 55) B dX11_isNobodys_24 (by decide) ?_
      exact mo_iret E hr rfl hlk hM hS dX11_isNobodys_55 (by by_cases h3 : σ 12 (σ 36 t) = 3 <;> simp only [sNob, h3, if_true, if_false] <;> first | (exfalso; omega) | (rw [if_pos (by omega)]) | (rw [if_neg (by omega)])) rfl trivial
