section CM3
variable {p : Program} {l : Launch} {e : Env} {R : Room} {s : State} {m : MethodId} {args : Array Value} {below : List Frame} {meth : Method} {c : Code} {H : Heap} {locs : List Loc} {cells slots : Nat} {Q : State → Prop}
variable {cc : ByteArray} {pc : Nat} {ls : Array Slot} {rest st : List Value} {nL : Nat} {lv : List (Nat × Value)} {Ts : List Cond} {D : va_G} {cy : Nat → ClassId} {d0 : Nat} {A : Nat → Prop} {la : Nat → Int → Nat} {σ : MS} {own : String}
theorem co_alenz {κ : Nat} {i z : Int} (E : cE p s m args c cc nL own Ts D cy) (hC : CP D cy d0 A la σ H) (hκ : 12 ≤ κ ∧ κ ≤ 17) (hlv : cLive la σ κ i) (hz : (aLn κ : Int) = z) (d : decode cc pc = .ok (.arraylength, 1)) (kk : W p l e R s m args below meth c H locs cells slots Q (F0 m (pc + 1) ls (.int (iI z) :: rest))) : W p l e R s m args below meth c H locs cells slots Q (F0 m pc ls (.ref (la κ i) :: rest)) := by
  subst hz
  exact co_alen E hC hκ hlv d kk
theorem x_idivz {a b z : Int} (B : xB p c cc) (d : decode cc pc = .ok (.idiv, 1)) (ha : -2147483648 < a ∧ a < 2147483648) (hb : 0 < b ∧ b < 2147483648) (hz : a.tdiv b = z) (kk : W p l e R s m args below meth c H locs cells slots Q (F0 m (pc + 1) ls (.int (iI z) :: rest))) : W p l e R s m args below meth c H locs cells slots Q (F0 m pc ls (.int (iI b) :: .int (iI a) :: rest)) := by
  subst hz
  exact lv_idiv B.1 B.2 d (iI_ne0 (by omega) (by omega)) (by rw [iI_tdiv ha (by omega)]; exact kk)
end CM3
theorem tdivz {n : Int} (h : 0 ≤ n) : (n - 1).tdiv 2 = if n = 0 then 0 else (n - 1) / 2 := by
  by_cases h0 : n = 0
  · subst h0; rfl
  · rw [if_neg h0, Int.tdiv_eq_ediv_of_nonneg (by omega)]
set_option maxHeartbeats 4000000 in
set_option maxRecDepth 100000 in
theorem c_isHoliday (l : Launch) (D : va_G) (cy : Nat → ClassId) (d0 : Nat) (A : Nat → Prop) (la : Nat → Int → Nat) (σ : MS) {z : Int} (hz : 0 ≤ z ∧ z < 2147483648) : CM l yX1_isHoliday wsX1_isHoliday ({ frames := 0, cells := 0, slots := 0, locals := 0 } : Room) D cy d0 A [.ref (la 1 0), .int (iI z)] la σ (some (.int (iI (if pHol σ z then 1 else 0)))) (σ) (True) := by
  refine cn_of (cc := cX1_isHoliday) (nL := 2) (ret := (some .boolean)) (by decide) rfl (Nat.le_of_ble_eq_true rfl) ?_
  intro p e s m args below meth c ls E hr hlk hK hC hS hl
  have B := E.1
  have hml := E.2.1
  have hown := E.2.2.1
  have hts0 := E.2.2.2.1
  have hts := E.2.2.2.1
  have hw := hC.2.2.2.2.2.1
  refine x_iload_n B hl dX1_isHoliday_0 rfl ?_
  refine x_if_lt (tgt := 26) B dX1_isHoliday_1 (by decide) (by omega) (fun c_1 => ?_) (fun c_1 => ?_)
  · refine x_iconst B dX1_isHoliday_26 ?_
    exact cm_iret E hr rfl hlk hC hS dX1_isHoliday_27 (by first | rfl | (rw [if_pos (by omega)]; done) | (rw [if_neg (by omega)]; done) | (rw [if_neg (by omega), if_pos (by omega)]; done) | (rw [if_neg (by omega), if_neg (by omega)]; done) | exact (show False by omega).elim) rfl (by first | trivial | omega)
  · refine x_iload_n B hl dX1_isHoliday_4 rfl ?_
    refine x_aload_n B hl dX1_isHoliday_5 rfl ?_
    refine co_getR (x := la 12 0) E hC 1 (by decide) cl_1 rfl (fun z h => List.mem_cons_of_mem _ (List.mem_append_right _ h)) 0 (by decide) (hts (.fieldLink RX1 9 "BinRounds$Calendar" "holidays" "[Z") (by decide +kernel)) (fun x hx => hx) dX1_isHoliday_6 rfl rfl ?_
    refine co_alenz (κ := 12) (z := 700) E hC (by decide) cl_12 rfl dX1_isHoliday_9 ?_
    refine x_icmp_ge (tgt := 26) B dX1_isHoliday_10 (by decide) (by omega) (by omega) (fun c_10 => ?_) (fun c_10 => ?_)
    · refine x_iconst B dX1_isHoliday_26 ?_
      exact cm_iret E hr rfl hlk hC hS dX1_isHoliday_27 (by first | rfl | (rw [if_pos (by omega)]; done) | (rw [if_neg (by omega)]; done) | (rw [if_neg (by omega), if_pos (by omega)]; done) | (rw [if_neg (by omega), if_neg (by omega)]; done) | exact (show False by omega).elim) rfl (by first | trivial | omega)
    · refine x_aload_n B hl dX1_isHoliday_13 rfl ?_
      refine co_getR (x := la 12 0) E hC 1 (by decide) cl_1 rfl (fun z h => List.mem_cons_of_mem _ (List.mem_append_right _ h)) 0 (by decide) (hts (.fieldLink RX1 9 "BinRounds$Calendar" "holidays" "[Z") (by decide +kernel)) (fun x hx => hx) dX1_isHoliday_14 rfl rfl ?_
      refine x_iload_n B hl dX1_isHoliday_17 rfl ?_
      refine co_zld E hC (by omega) dX1_isHoliday_18 rfl (fun r_18 => ?_)
      refine x_if_eq (tgt := 26) B dX1_isHoliday_19 (by decide) (by omega) (fun c_19 => ?_) (fun c_19 => ?_)
      · refine x_iconst B dX1_isHoliday_26 ?_
        exact cm_iret E hr rfl hlk hC hS dX1_isHoliday_27 (by first | rfl | (rw [if_pos (by omega)]; done) | (rw [if_neg (by omega)]; done) | (rw [if_neg (by omega), if_pos (by omega)]; done) | (rw [if_neg (by omega), if_neg (by omega)]; done) | exact (show False by omega).elim) rfl (by first | trivial | omega)
      · refine x_iconst B dX1_isHoliday_22 ?_
        refine x_goto (tgt := 27) B dX1_isHoliday_23 (by decide) ?_
        exact cm_iret E hr rfl hlk hC hS dX1_isHoliday_27 (by first | rfl | (rw [if_pos (by omega)]; done) | (rw [if_neg (by omega)]; done) | (rw [if_neg (by omega), if_pos (by omega)]; done) | (rw [if_neg (by omega), if_neg (by omega)]; done) | exact (show False by omega).elim) rfl (by first | trivial | omega)
set_option maxHeartbeats 4000000 in
set_option maxRecDepth 100000 in
theorem c_calSet (l : Launch) (D : va_G) (cy : Nat → ClassId) (d0 : Nat) (A : Nat → Prop) (la : Nat → Int → Nat) (σ : MS) {z v : Int} (hz : 0 ≤ z ∧ z < 700) (hv : v = 0 ∨ v = 1) : CM l yX1_set wsX1_set ({ frames := 0, cells := 0, slots := 0, locals := 0 } : Room) D cy d0 A [.ref (la 1 0), .int (iI z), .int (iI v)] la σ (some (.int (iI (if σ 2 z = v then 0 else 1)))) (if σ 2 z = v then σ else up σ 2 z v) (True) := by
  refine cn_of (cc := cX1_set) (nL := 3) (ret := (some .boolean)) (by decide) rfl (Nat.le_of_ble_eq_true rfl) ?_
  intro p e s m args below meth c ls E hr hlk hK hC hS hl
  have B := E.1
  have hml := E.2.1
  have hown := E.2.2.1
  have hts0 := E.2.2.2.1
  have hts := E.2.2.2.1
  have hw := hC.2.2.2.2.2.1
  refine x_iload_n B hl dX1_set_0 rfl ?_
  refine x_if_lt (tgt := 23) B dX1_set_1 (by decide) (by omega) (fun c_1 => ?_) (fun c_1 => ?_)
  · refine x_iconst B dX1_set_23 ?_
    first | (exact (show False by omega).elim) | (exact cm_iret E hr rfl hlk hC hS dX1_set_24 (by first | (rw [if_pos (by omega)]; done) | (rw [if_neg (by omega)]; done)) (by first | (rw [if_pos (by omega)]; done) | (rw [if_neg (by omega)]; done)) trivial)
  · refine x_iload_n B hl dX1_set_4 rfl ?_
    refine x_aload_n B hl dX1_set_5 rfl ?_
    refine co_getR (x := la 12 0) E hC 1 (by decide) cl_1 rfl (fun z h => List.mem_cons_of_mem _ (List.mem_append_right _ h)) 0 (by decide) (hts (.fieldLink RX1 9 "BinRounds$Calendar" "holidays" "[Z") (by decide +kernel)) (fun x hx => hx) dX1_set_6 rfl rfl ?_
    refine co_alenz (κ := 12) (z := 700) E hC (by decide) cl_12 rfl dX1_set_9 ?_
    refine x_icmp_ge (tgt := 23) B dX1_set_10 (by decide) (by omega) (by omega) (fun c_10 => ?_) (fun c_10 => ?_)
    · refine x_iconst B dX1_set_23 ?_
      first | (exact (show False by omega).elim) | (exact cm_iret E hr rfl hlk hC hS dX1_set_24 (by first | (rw [if_pos (by omega)]; done) | (rw [if_neg (by omega)]; done)) (by first | (rw [if_pos (by omega)]; done) | (rw [if_neg (by omega)]; done)) trivial)
    · refine x_aload_n B hl dX1_set_13 rfl ?_
      refine co_getR (x := la 12 0) E hC 1 (by decide) cl_1 rfl (fun z h => List.mem_cons_of_mem _ (List.mem_append_right _ h)) 0 (by decide) (hts (.fieldLink RX1 9 "BinRounds$Calendar" "holidays" "[Z") (by decide +kernel)) (fun x hx => hx) dX1_set_14 rfl rfl ?_
      refine x_iload_n B hl dX1_set_17 rfl ?_
      refine co_zld E hC (by omega) dX1_set_18 rfl (fun r_18 => ?_)
      refine x_iload_n B hl dX1_set_19 rfl ?_
      refine x_icmp_ne (tgt := 25) B dX1_set_20 (by decide) (by omega) (by omega) (fun c_20 => ?_) (fun c_20 => ?_)
      · refine x_aload_n B hl dX1_set_25 rfl ?_
        refine co_getR (x := la 12 0) E hC 1 (by decide) cl_1 rfl (fun z h => List.mem_cons_of_mem _ (List.mem_append_right _ h)) 0 (by decide) (hts (.fieldLink RX1 9 "BinRounds$Calendar" "holidays" "[Z") (by decide +kernel)) (fun x hx => hx) dX1_set_26 rfl rfl ?_
        refine x_iload_n B hl dX1_set_29 rfl ?_
        refine x_iload_n B hl dX1_set_30 rfl ?_
        refine co_zst E hC hS (by omega) (by omega) dX1_set_31 (fun H locs hC hS => ?_)
        refine x_iconst B dX1_set_32 ?_
        first | (exact (show False by omega).elim) | (exact cm_iret E hr rfl hlk hC hS dX1_set_33 (by first | (rw [if_pos (by omega)]; done) | (rw [if_neg (by omega)]; done)) (by first | (rw [if_pos (by omega)]; done) | (rw [if_neg (by omega)]; done)) trivial)
      · refine x_iconst B dX1_set_23 ?_
        first | (exact (show False by omega).elim) | (exact cm_iret E hr rfl hlk hC hS dX1_set_24 (by first | (rw [if_pos (by omega)]; done) | (rw [if_neg (by omega)]; done)) (by first | (rw [if_pos (by omega)]; done) | (rw [if_neg (by omega)]; done)) trivial)
set_option maxHeartbeats 4000000 in
set_option maxRecDepth 100000 in
theorem c_workday (l : Launch) (D : va_G) (cy : Nat → ClassId) (d0 : Nat) (A : Nat → Prop) (la : Nat → Int → Nat) (σ : MS) {wk ah : Int} (hk : 0 ≤ wk ∧ wk ≤ 1000000) (ha : 0 ≤ ah ∧ ah ≤ 4) : CM l yX1_workday wsX1_workday ({ frames := 1, cells := 0, slots := 0, locals := 21 } : Room) D cy d0 A [.ref (la 1 0), .int (iI wk), .int (iI ah)] la σ (some (.int (iI (sFnd σ (7 * wk) ah 6)))) (σ) (-2 ≤ sFnd σ (7 * wk) ah 6 ∧ sFnd σ (7 * wk) ah 6 ≤ 7 * wk + 5) := by
  refine cn_of (cc := cX1_workday) (nL := 6) (ret := (some .int)) (by decide) rfl (Nat.le_of_ble_eq_true rfl) ?_
  intro p e s m args below meth c ls E hr hlk hK hC hS hl
  have B := E.1
  have hml := E.2.1
  have hown := E.2.2.1
  have hts0 := E.2.2.2.1
  have hts := E.2.2.2.1
  have hw := hC.2.2.2.2.2.1
  have loop : ∀ (n : Nat) (i lf : Int) (H : Heap) (locs : List Loc) (ls : Array Slot), 0 ≤ i → i ≤ 6 → sFnd σ (7 * wk) ah (6 - i).toNat = sFnd σ (7 * wk) ah 6 → sBef σ (7 * wk) i.toNat ≤ ah → lf = ah - sBef σ (7 * wk) i.toNat → 6 - i < n → CP D cy d0 A la σ H → va_S A s.heap H locs → lv_has ls 6 [(0, .ref (la 1 0)), (1, .int (iI wk)), (2, .int (iI ah)), (3, .int (iI lf)), (4, .int (iI i))] → W p l e ({ frames := 1, cells := 0, slots := 0, locals := 21 } : Room) s m args below meth c H locs 0 0 (MQ below (cQ D cy d0 A (fun v' la' τ => v' = (some (.int (iI (sFnd σ (7 * wk) ah 6)))) ∧ la' = la ∧ τ = (σ) ∧ (-2 ≤ sFnd σ (7 * wk) ah 6 ∧ sFnd σ (7 * wk) ah 6 ≤ 7 * wk + 5))) args s 0 0 A) (F0 m 5 ls []) := by
    intro n
    induction n with
    | zero => intro i lf H locs ls h1 h2 h3 h4 h5 h6; exact absurd h6 (by omega)
    | succ n ih =>
      intro i lf H locs ls h1 h2 h3 h4 h5 h6 hC hS hl
      have hB := sBef_r σ (7 * wk) i.toNat
      have hE : 7 * wk + i = wk * 7 + i := by omega
      refine x_iload B hl dX1_workday_5 rfl ?_
      refine x_iconst B dX1_workday_7 ?_
      refine x_icmp_gt (tgt := 48) B dX1_workday_8 (by decide) (by omega) (by omega) (fun c_8 => ?_) (fun c_8 => ?_)
      · refine x_bipush B dX1_workday_48 (by decide) ?_
        have hx : sFnd σ (7 * wk) ah 6 = -2 := by rw [← h3, show (6 - i).toNat = 0 by omega]; rfl
        exact cm_iret E hr rfl hlk hC hS dX1_workday_50 (by rw [hx]) rfl (by rw [hx]; omega)
      · refine x_iload_n B hl dX1_workday_11 rfl ?_
        refine x_bipush B dX1_workday_12 (by decide) ?_
        refine x_imul B dX1_workday_14 ?_
        refine x_iload B hl dX1_workday_15 rfl ?_
        refine x_iadd B dX1_workday_17 ?_
        refine x_istore B hl dX1_workday_18 (by decide) (fun ls hl => ?_)
        refine x_aload_n B hl dX1_workday_20 rfl ?_
        refine x_iload B hl dX1_workday_21 rfl ?_
        refine co_call E hK hC hS hl (κ := 1) (i := 0) (by decide) cl_1 rfl (c_isHoliday l D cy d0 A la σ (z := wk * 7 + i) (by omega)) (cwV 1 hts0 gX1_workday_X1_isHoliday rfl rfl rfl (by decide +kernel) ⟨Nat.le_of_ble_eq_true rfl, Nat.le_of_ble_eq_true rfl⟩) rfl rfl (Nat.le_of_ble_eq_true rfl) dX1_workday_23 ⟨Nat.zero_le _, Nat.zero_le _⟩ (fun H locs q_23 hC hS => ?_)
        refine x_bool (fun b_23 => ?_) (fun b_23 => ?_)
        · refine x_if_eq_f (tgt := 32) B dX1_workday_26 (by decide) (by decide) ?_
          refine x_goto (tgt := 42) B dX1_workday_29 (by decide) ?_
          refine x_iinc B hl dX1_workday_42 rfl (by decide) (fun ls hl => ?_)
          refine x_goto (tgt := 5) B dX1_workday_45 (by decide) ?_
          first | (exact ih (i + 1) lf H locs ls (by omega) (by omega) (by rw [show (6 - (i + 1)).toNat = (5 - i).toNat by omega, ← h3, show (6 - i).toNat = (5 - (i - 1)).toNat by omega, sFnd_s (by omega), hE, if_neg (fun q => q.1 b_23)]) (by rw [sBef_s (by omega), hE, if_pos b_23]; omega) (by rw [sBef_s (by omega), hE, if_pos b_23]; omega) (by omega) (hC) hS (lv_key hl [(0, .ref (la 1 0)), (1, .int (iI wk)), (2, .int (iI ah)), (3, .int (iI lf)), (4, .int (iI (i + 1)))] rfl)) | (exact ih (i + 1) (lf + -1) H locs ls (by omega) (by omega) (by rw [show (6 - (i + 1)).toNat = (5 - i).toNat by omega, ← h3, show (6 - i).toNat = (5 - (i - 1)).toNat by omega, sFnd_s (by omega), hE, if_neg (by omega)]) (by rw [sBef_s (by omega), hE, if_neg b_23]; omega) (by rw [sBef_s (by omega), hE, if_neg b_23]; omega) (by omega) (hC) hS (lv_key hl [(0, .ref (la 1 0)), (1, .int (iI wk)), (2, .int (iI ah)), (3, .int (iI (lf + -1))), (4, .int (iI (i + 1)))] rfl))
        · refine x_if_eq_t (tgt := 32) B dX1_workday_26 (by decide) (by decide) ?_
          refine x_iload_n B hl dX1_workday_32 rfl ?_
          refine x_if_ne (tgt := 39) B dX1_workday_33 (by decide) (by omega) (fun c_33 => ?_) (fun c_33 => ?_)
          · refine x_iinc B hl dX1_workday_39 rfl (by decide) (fun ls hl => ?_)
            refine x_iinc B hl dX1_workday_42 rfl (by decide) (fun ls hl => ?_)
            refine x_goto (tgt := 5) B dX1_workday_45 (by decide) ?_
            first | (exact ih (i + 1) lf H locs ls (by omega) (by omega) (by rw [show (6 - (i + 1)).toNat = (5 - i).toNat by omega, ← h3, show (6 - i).toNat = (5 - (i - 1)).toNat by omega, sFnd_s (by omega), hE, if_neg (fun q => q.1 b_23)]) (by rw [sBef_s (by omega), hE, if_pos b_23]; omega) (by rw [sBef_s (by omega), hE, if_pos b_23]; omega) (by omega) (hC) hS (lv_key hl [(0, .ref (la 1 0)), (1, .int (iI wk)), (2, .int (iI ah)), (3, .int (iI lf)), (4, .int (iI (i + 1)))] rfl)) | (exact ih (i + 1) (lf + -1) H locs ls (by omega) (by omega) (by rw [show (6 - (i + 1)).toNat = (5 - i).toNat by omega, ← h3, show (6 - i).toNat = (5 - (i - 1)).toNat by omega, sFnd_s (by omega), hE, if_neg (by omega)]) (by rw [sBef_s (by omega), hE, if_neg b_23]; omega) (by rw [sBef_s (by omega), hE, if_neg b_23]; omega) (by omega) (hC) hS (lv_key hl [(0, .ref (la 1 0)), (1, .int (iI wk)), (2, .int (iI ah)), (3, .int (iI (lf + -1))), (4, .int (iI (i + 1)))] rfl))
          · refine x_iload B hl dX1_workday_36 rfl ?_
            have hx : sFnd σ (7 * wk) ah 6 = wk * 7 + i := by rw [← h3, show (6 - i).toNat = (5 - (i - 1)).toNat by omega, sFnd_s (by omega), show 7 * wk + i = wk * 7 + i by omega, if_pos ⟨b_23, by omega⟩]
            exact cm_iret E hr rfl hlk hC hS dX1_workday_38 (by rw [hx]) rfl (by rw [hx]; omega)
  refine x_iload_n B hl dX1_workday_0 rfl ?_
  refine x_istore_n B hl dX1_workday_1 (by decide) (fun ls hl => ?_)
  refine x_iconst B dX1_workday_2 ?_
  refine x_istore B hl dX1_workday_3 (by decide) (fun ls hl => ?_)
  exact loop 7 0 ah _ _ ls (by omega) (by omega) rfl (by simp [sBef]; omega) (by simp [sBef]) (by omega) (hC) hS (lv_key hl [(0, .ref (la 1 0)), (1, .int (iI wk)), (2, .int (iI ah)), (3, .int (iI ah)), (4, .int (iI 0))] rfl)
set_option maxHeartbeats 4000000 in
set_option maxRecDepth 100000 in
theorem c_takeHalves (l : Launch) (D : va_G) (cy : Nat → ClassId) (d0 : Nat) (A : Nat → Prop) (la : Nat → Int → Nat) (σ : MS) {q g : Int} (hq : 0 ≤ q ∧ q < σ 27 0) (hg : 0 ≤ g ∧ g ≤ 200000) (h25 : 0 ≤ σ 25 q ∧ σ 25 q ≤ 1000000000) : CM l yX2_takeHalves wsX2_takeHalves ({ frames := 0, cells := 0, slots := 0, locals := 0 } : Room) D cy d0 A [.ref (la 9 q), .int (iI g)] la σ (some (.int (iI ((σ 25 q + g) / 500)))) (up σ 25 q ((σ 25 q + g) % 500)) (0 ≤ (σ 25 q + g) / 500) := by
  refine cn_of (cc := cX2_takeHalves) (nL := 3) (ret := (some .int)) (by decide) rfl (Nat.le_of_ble_eq_true rfl) ?_
  intro p e s m args below meth c ls E hr hlk hK hC hS hl
  have B := E.1
  have hml := E.2.1
  have hown := E.2.2.1
  have hts0 := E.2.2.2.1
  have hts := E.2.2.2.1
  have hw := hC.2.2.2.2.2.1
  refine x_aload_n B hl dX2_takeHalves_0 rfl ?_
  refine co_geti (f := 25) E hC 9 (by decide) (cl_9 hq) rfl (fun z h => List.mem_cons_of_mem _ (List.mem_append_right _ h)) 2 (by decide) (hts (.fieldLink RX2 9 "BinRounds$Cart" "carry" "I") (by decide +kernel)) (fun x hx => hx) dX2_takeHalves_1 ⟨rfl, rfl, rfl⟩ rfl (fun r_1 => ?_)
  refine x_iload_n B hl dX2_takeHalves_4 rfl ?_
  refine x_iadd B dX2_takeHalves_5 ?_
  refine x_istore_n B hl dX2_takeHalves_6 (by decide) (fun ls hl => ?_)
  refine x_aload_n B hl dX2_takeHalves_7 rfl ?_
  refine x_iload_n B hl dX2_takeHalves_8 rfl ?_
  refine x_sipush B dX2_takeHalves_9 (by decide) ?_
  refine x_irem B dX2_takeHalves_12 (by omega) (by omega) ?_
  refine co_puti (f := 25) E hC hS 9 (by decide) (cl_9 hq) rfl (fun z h => List.mem_cons_of_mem _ (List.mem_append_right _ h)) tyX2 tyX2_ok nmX2 2 (by decide) (hts (.fieldLink RX2 9 "BinRounds$Cart" "carry" "I") (by decide +kernel)) (fun x hx => hx) rfl rfl dX2_takeHalves_13 (by decide) ⟨rfl, rfl, rfl, rfl⟩ (by omega) (fun H locs hC hS => ?_)
  refine x_iload_n B hl dX2_takeHalves_16 rfl ?_
  refine x_sipush B dX2_takeHalves_17 (by decide) ?_
  refine x_idiv B dX2_takeHalves_20 (by omega) (by omega) ?_
  exact cm_iret E hr rfl hlk hC hS dX2_takeHalves_21 rfl rfl (by first | trivial | omega)
set_option maxHeartbeats 4000000 in
set_option maxRecDepth 100000 in
theorem c_capOfDay (l : Launch) (D : va_G) (cy : Nat → ClassId) (d0 : Nat) (A : Nat → Prop) (la : Nat → Int → Nat) (σ : MS) {q : Int} (hq : 0 ≤ q ∧ q < σ 27 0) : CM l yX2_capOfDay wsX2_capOfDay ({ frames := 0, cells := 0, slots := 0, locals := 0 } : Room) D cy d0 A [.ref (la 9 q)] la σ (some (.int (iI (if σ 53 q = 1 then σ 26 q else -1)))) (σ) (-2147483648 ≤ (if σ 53 q = 1 then σ 26 q else -1) ∧ (if σ 53 q = 1 then σ 26 q else -1) < 2147483648) := by
  refine cn_of (cc := cX2_capOfDay) (nL := 1) (ret := (some .int)) (by decide) rfl (Nat.le_of_ble_eq_true rfl) ?_
  intro p e s m args below meth c ls E hr hlk hK hC hS hl
  have B := E.1
  have hml := E.2.1
  have hown := E.2.2.1
  have hts0 := E.2.2.2.1
  have hts := E.2.2.2.1
  have hw := hC.2.2.2.2.2.1
  refine x_aload_n B hl dX2_capOfDay_0 rfl ?_
  refine co_getb (f := 53) E hC 9 (by decide) (cl_9 hq) rfl (fun z h => List.mem_cons_of_mem _ (List.mem_append_right _ h)) 4 (by decide) (hts (.fieldLink RX2 18 "BinRounds$Cart" "isCapped" "Z") (by decide +kernel)) (fun x hx => hx) dX2_capOfDay_1 ⟨rfl, rfl, rfl⟩ rfl (fun r_1 => ?_)
  refine x_if_eq (tgt := 14) B dX2_capOfDay_4 (by decide) (by omega) (fun c_4 => ?_) (fun c_4 => ?_)
  · refine x_iconst B dX2_capOfDay_14 ?_
    exact cm_iret E hr rfl hlk hC hS dX2_capOfDay_15 (by first | rfl | (rw [if_pos (by omega)]; done) | (rw [if_neg (by omega)]; done) | (rw [if_neg (by omega), if_pos (by omega)]; done) | (rw [if_neg (by omega), if_neg (by omega)]; done) | exact (show False by omega).elim) rfl (by first | trivial | omega)
  · refine x_aload_n B hl dX2_capOfDay_7 rfl ?_
    refine co_geti (f := 26) E hC 9 (by decide) (cl_9 hq) rfl (fun z h => List.mem_cons_of_mem _ (List.mem_append_right _ h)) 3 (by decide) (hts (.fieldLink RX2 15 "BinRounds$Cart" "gateHalves" "I") (by decide +kernel)) (fun x hx => hx) dX2_capOfDay_8 ⟨rfl, rfl, rfl⟩ rfl (fun r_8 => ?_)
    refine x_goto (tgt := 15) B dX2_capOfDay_11 (by decide) ?_
    exact cm_iret E hr rfl hlk hC hS dX2_capOfDay_15 (by first | rfl | (rw [if_pos (by omega)]; done) | (rw [if_neg (by omega)]; done) | (rw [if_neg (by omega), if_pos (by omega)]; done) | (rw [if_neg (by omega), if_neg (by omega)]; done) | exact (show False by omega).elim) rfl (by first | trivial | omega)
set_option maxHeartbeats 4000000 in
set_option maxRecDepth 100000 in
theorem c_payHalves (l : Launch) (D : va_G) (cy : Nat → ClassId) (d0 : Nat) (A : Nat → Prop) (la : Nat → Int → Nat) (σ : MS) {q h : Int} (hq : 0 ≤ q ∧ q < σ 27 0) (hh : 0 ≤ h ∧ h ≤ 3000000) (hl9 : -2000000000 ≤ σ 54 q ∧ σ 54 q ≤ 1000000) : CM l yX2_payHalves wsX2_payHalves ({ frames := 1, cells := 0, slots := 0, locals := 13 } : Room) D cy d0 A [.ref (la 9 q), .int (iI h)] la σ (some (.int (iI (if σ 53 q = 1 then (if σ 54 q < h then σ 54 q else h) else h)))) (if σ 53 q = 1 then up σ 54 q (σ 54 q - (if σ 54 q < h then σ 54 q else h)) else σ) (-2147483648 ≤ (if σ 53 q = 1 then (if σ 54 q < h then σ 54 q else h) else h) ∧ (if σ 53 q = 1 then (if σ 54 q < h then σ 54 q else h) else h) < 2147483648) := by
  refine cn_of (cc := cX2_payHalves) (nL := 3) (ret := (some .int)) (by decide) rfl (Nat.le_of_ble_eq_true rfl) ?_
  intro p e s m args below meth c ls E hr hlk hK hC hS hl
  have B := E.1
  have hml := E.2.1
  have hown := E.2.2.1
  have hts0 := E.2.2.2.1
  have hts := E.2.2.2.1
  have hw := hC.2.2.2.2.2.1
  refine x_aload_n B hl dX2_payHalves_0 rfl ?_
  refine co_getb (f := 53) E hC 9 (by decide) (cl_9 hq) rfl (fun z h => List.mem_cons_of_mem _ (List.mem_append_right _ h)) 4 (by decide) (hts (.fieldLink RX2 18 "BinRounds$Cart" "isCapped" "Z") (by decide +kernel)) (fun x hx => hx) dX2_payHalves_1 ⟨rfl, rfl, rfl⟩ rfl (fun r_1 => ?_)
  refine x_if_ne (tgt := 9) B dX2_payHalves_4 (by decide) (by omega) (fun c_4 => ?_) (fun c_4 => ?_)
  · refine x_iload_n B hl dX2_payHalves_9 rfl ?_
    refine x_aload_n B hl dX2_payHalves_10 rfl ?_
    refine co_geti (f := 54) E hC 9 (by decide) (cl_9 hq) rfl (fun z h => List.mem_cons_of_mem _ (List.mem_append_right _ h)) 5 (by decide) (hts (.fieldLink RX2 22 "BinRounds$Cart" "left" "I") (by decide +kernel)) (fun x hx => hx) dX2_payHalves_11 ⟨rfl, rfl, rfl⟩ rfl (fun r_11 => ?_)
    refine x_mmin (z := (if σ 54 q < h then σ 54 q else h)) E hl (by decide +kernel) (by decide +kernel) (by decide +kernel) (by decide +kernel) (Nat.le_of_ble_eq_true rfl) (Nat.le_of_ble_eq_true rfl) (Nat.zero_le _) (Nat.zero_le _) (by omega) (by omega) dX2_payHalves_14 rfl ?_
    refine x_istore_n B hl dX2_payHalves_17 (by decide) (fun ls hl => ?_)
    refine x_aload_n B hl dX2_payHalves_18 rfl ?_
    refine x_dup B dX2_payHalves_19 rfl ?_
    refine co_geti (f := 54) E hC 9 (by decide) (cl_9 hq) rfl (fun z h => List.mem_cons_of_mem _ (List.mem_append_right _ h)) 5 (by decide) (hts (.fieldLink RX2 22 "BinRounds$Cart" "left" "I") (by decide +kernel)) (fun x hx => hx) dX2_payHalves_20 ⟨rfl, rfl, rfl⟩ rfl (fun r_20 => ?_)
    refine x_iload_n B hl dX2_payHalves_23 rfl ?_
    refine x_isub B dX2_payHalves_24 ?_
    refine co_puti (f := 54) E hC hS 9 (by decide) (cl_9 hq) rfl (fun z h => List.mem_cons_of_mem _ (List.mem_append_right _ h)) tyX2 tyX2_ok nmX2 5 (by decide) (hts (.fieldLink RX2 22 "BinRounds$Cart" "left" "I") (by decide +kernel)) (fun x hx => hx) rfl rfl dX2_payHalves_25 (by decide) ⟨rfl, rfl, rfl, rfl⟩ (by omega) (fun H locs hC hS => ?_)
    refine x_iload_n B hl dX2_payHalves_28 rfl ?_
    exact cm_iret E hr rfl hlk hC hS dX2_payHalves_29 (by rw [if_pos (show σ 53 q = 1 by omega)]) (by rw [if_pos (show σ 53 q = 1 by omega)]) (by omega)
  · refine x_iload_n B hl dX2_payHalves_7 rfl ?_
    exact cm_iret E hr rfl hlk hC hS dX2_payHalves_8 (by rw [if_neg (show ¬ σ 53 q = 1 by omega)]) (by rw [if_neg (show ¬ σ 53 q = 1 by omega)]) (by omega)
set_option maxHeartbeats 4000000 in
set_option maxRecDepth 100000 in
theorem c_allCharged (l : Launch) (D : va_G) (cy : Nat → ClassId) (d0 : Nat) (A : Nat → Prop) (la : Nat → Int → Nat) (σ : MS) {h : Int} (hh : 0 ≤ h ∧ h < σ 11 0) : CM l yX3_allCharged wsX3_allCharged ({ frames := 0, cells := 0, slots := 0, locals := 0 } : Room) D cy d0 A [.ref (la 5 h)] la σ (some (.long (lI (σ 50 h + σ 8 h)))) (σ) (True) := by
  refine cn_of (cc := cX3_allCharged) (nL := 1) (ret := (some .long)) (by decide) rfl (Nat.le_of_ble_eq_true rfl) ?_
  intro p e s m args below meth c ls E hr hlk hK hC hS hl
  have B := E.1
  have hml := E.2.1
  have hown := E.2.2.1
  have hts0 := E.2.2.2.1
  have hts := E.2.2.2.1
  have hw := hC.2.2.2.2.2.1
  refine x_aload_n B hl dX3_allCharged_0 rfl ?_
  refine co_getl (f := 50) E hC 5 (by decide) (cl_5 hh) rfl (fun z h => List.mem_cons_of_mem _ (List.mem_append_right _ h)) 4 (by decide) (hts (.fieldLink RX3 13 "BinRounds$House" "fromTips" "J") (by decide +kernel)) (fun x hx => hx) dX3_allCharged_1 ⟨rfl, rfl⟩ rfl ?_
  refine x_aload_n B hl dX3_allCharged_4 rfl ?_
  refine co_getl (f := 8) E hC 5 (by decide) (cl_5 hh) rfl (fun z h => List.mem_cons_of_mem _ (List.mem_append_right _ h)) 5 (by decide) (hts (.fieldLink RX3 17 "BinRounds$House" "fromBands" "J") (by decide +kernel)) (fun x hx => hx) dX3_allCharged_5 ⟨rfl, rfl⟩ rfl ?_
  refine x_ladd B dX3_allCharged_8 ?_
  exact cm_lret E hr hlk hC hS dX3_allCharged_9 rfl rfl (by first | trivial | omega)
set_option maxHeartbeats 4000000 in
set_option maxRecDepth 100000 in
theorem c_clear (l : Launch) (D : va_G) (cy : Nat → ClassId) (d0 : Nat) (A : Nat → Prop) (la : Nat → Int → Nat) (σ : MS)   : CM l yX4_clear wsX4_clear ({ frames := 0, cells := 0, slots := 0, locals := 0 } : Room) D cy d0 A [.ref (la 3 0)] la σ (none) (up σ 55 0 0) (True) := by
  refine cn_of (cc := cX4_clear) (nL := 1) (ret := none) (by decide) rfl (Nat.le_of_ble_eq_true rfl) ?_
  intro p e s m args below meth c ls E hr hlk hK hC hS hl
  have B := E.1
  have hml := E.2.1
  have hown := E.2.2.1
  have hts0 := E.2.2.2.1
  have hts := E.2.2.2.1
  have hw := hC.2.2.2.2.2.1
  refine x_aload_n B hl dX4_clear_0 rfl ?_
  refine x_iconst B dX4_clear_1 ?_
  refine co_puti (f := 55) E hC hS 3 (by decide) cl_3 rfl (fun z h => List.mem_cons_of_mem _ (List.mem_append_right _ h)) tyX4 tyX4_ok nmX4 1 (by decide) (hts (.fieldLink RX4 13 "BinRounds$Latest" "size" "I") (by decide +kernel)) (fun x hx => hx) rfl rfl dX4_clear_2 (by decide) ⟨rfl, rfl, rfl, rfl⟩ (by omega) (fun H locs hC hS => ?_)
  exact cm_vret E hr hlk hC hS dX4_clear_5 rfl (by first | trivial | omega)
set_option maxHeartbeats 4000000 in
set_option maxRecDepth 100000 in
theorem c_isFull (l : Launch) (D : va_G) (cy : Nat → ClassId) (d0 : Nat) (A : Nat → Prop) (la : Nat → Int → Nat) (σ : MS)   : CM l yX4_isFull wsX4_isFull ({ frames := 0, cells := 0, slots := 0, locals := 0 } : Room) D cy d0 A [.ref (la 3 0)] la σ (some (.int (iI (if 5 ≤ σ 55 0 then 1 else 0)))) (σ) (True) := by
  refine cn_of (cc := cX4_isFull) (nL := 1) (ret := (some .boolean)) (by decide) rfl (Nat.le_of_ble_eq_true rfl) ?_
  intro p e s m args below meth c ls E hr hlk hK hC hS hl
  have B := E.1
  have hml := E.2.1
  have hown := E.2.2.1
  have hts0 := E.2.2.2.1
  have hts := E.2.2.2.1
  have hw := hC.2.2.2.2.2.1
  refine x_aload_n B hl dX4_isFull_0 rfl ?_
  refine co_geti (f := 55) E hC 3 (by decide) cl_3 rfl (fun z h => List.mem_cons_of_mem _ (List.mem_append_right _ h)) 1 (by decide) (hts (.fieldLink RX4 13 "BinRounds$Latest" "size" "I") (by decide +kernel)) (fun x hx => hx) dX4_isFull_1 ⟨rfl, rfl, rfl⟩ rfl (fun r_1 => ?_)
  refine x_aload_n B hl dX4_isFull_4 rfl ?_
  refine co_getR (x := la 15 0) E hC 3 (by decide) cl_3 rfl (fun z h => List.mem_cons_of_mem _ (List.mem_append_right _ h)) 0 (by decide) (hts (.fieldLink RX4 7 "BinRounds$Latest" "row" "[I") (by decide +kernel)) (fun x hx => hx) dX4_isFull_5 rfl rfl ?_
  refine co_alenz (κ := 15) (z := 5) E hC (by decide) cl_15 rfl dX4_isFull_8 ?_
  refine x_icmp_lt (tgt := 16) B dX4_isFull_9 (by decide) (by omega) (by omega) (fun c_9 => ?_) (fun c_9 => ?_)
  · refine x_iconst B dX4_isFull_16 ?_
    exact cm_iret E hr rfl hlk hC hS dX4_isFull_17 (by first | rfl | (rw [if_pos (by omega)]; done) | (rw [if_neg (by omega)]; done) | (rw [if_neg (by omega), if_pos (by omega)]; done) | (rw [if_neg (by omega), if_neg (by omega)]; done) | exact (show False by omega).elim) rfl (by first | trivial | omega)
  · refine x_iconst B dX4_isFull_12 ?_
    refine x_goto (tgt := 17) B dX4_isFull_13 (by decide) ?_
    exact cm_iret E hr rfl hlk hC hS dX4_isFull_17 (by first | rfl | (rw [if_pos (by omega)]; done) | (rw [if_neg (by omega)]; done) | (rw [if_neg (by omega), if_pos (by omega)]; done) | (rw [if_neg (by omega), if_neg (by omega)]; done) | exact (show False by omega).elim) rfl (by first | trivial | omega)
set_option maxHeartbeats 4000000 in
set_option maxRecDepth 100000 in
theorem c_lowerMiddle (l : Launch) (D : va_G) (cy : Nat → ClassId) (d0 : Nat) (A : Nat → Prop) (la : Nat → Int → Nat) (σ : MS) {n : Int} (hn : σ 55 0 = n) (hr9 : 0 ≤ n ∧ n ≤ 5) : CM l yX4_lowerMiddle wsX4_lowerMiddle ({ frames := 0, cells := 0, slots := 0, locals := 0 } : Room) D cy d0 A [.ref (la 3 0)] la σ (some (.int (iI (if n = 0 then 0 else σ 56 ((n - 1) / 2))))) (σ) (-2147483648 ≤ (if n = 0 then 0 else σ 56 ((n - 1) / 2)) ∧ (if n = 0 then 0 else σ 56 ((n - 1) / 2)) < 2147483648) := by
  refine cn_of (cc := cX4_lowerMiddle) (nL := 2) (ret := (some .int)) (by decide) rfl (Nat.le_of_ble_eq_true rfl) ?_
  intro p e s m args below meth c ls E hr hlk hK hC hS hl
  have B := E.1
  have hml := E.2.1
  have hown := E.2.2.1
  have hts0 := E.2.2.2.1
  have hts := E.2.2.2.1
  have hw := hC.2.2.2.2.2.1
  refine x_aload_n B hl dX4_lowerMiddle_0 rfl ?_
  refine co_geti (f := 55) E hC 3 (by decide) cl_3 rfl (fun z h => List.mem_cons_of_mem _ (List.mem_append_right _ h)) 1 (by decide) (hts (.fieldLink RX4 13 "BinRounds$Latest" "size" "I") (by decide +kernel)) (fun x hx => hx) dX4_lowerMiddle_1 ⟨rfl, rfl, rfl⟩ hn (fun r_1 => ?_)
  refine x_iconst B dX4_lowerMiddle_4 ?_
  refine x_isub B dX4_lowerMiddle_5 ?_
  refine x_iconst B dX4_lowerMiddle_6 ?_
  refine x_idivz (z := if n = 0 then 0 else (n - 1) / 2) B dX4_lowerMiddle_7 (by omega) (by omega) (tdivz hr9.1) ?_
  refine x_istore_n B hl dX4_lowerMiddle_8 (by decide) (fun ls hl => ?_)
  refine x_aload_n B hl dX4_lowerMiddle_9 rfl ?_
  refine co_geti (f := 55) E hC 3 (by decide) cl_3 rfl (fun z h => List.mem_cons_of_mem _ (List.mem_append_right _ h)) 1 (by decide) (hts (.fieldLink RX4 13 "BinRounds$Latest" "size" "I") (by decide +kernel)) (fun x hx => hx) dX4_lowerMiddle_10 ⟨rfl, rfl, rfl⟩ hn (fun r_10 => ?_)
  refine x_if_le (tgt := 34) B dX4_lowerMiddle_13 (by decide) (by omega) (fun c_13 => ?_) (fun c_13 => ?_)
  · refine x_iconst B dX4_lowerMiddle_34 ?_
    exact cm_iret E hr rfl hlk hC hS dX4_lowerMiddle_35 (by first | rfl | (rw [if_pos (by omega)]; done) | (rw [if_neg (by omega)]; done) | (rw [if_neg (by omega), if_pos (by omega)]; done) | (rw [if_neg (by omega), if_neg (by omega)]; done) | exact (show False by omega).elim) rfl (by first | trivial | omega)
  · refine x_iload_n B hl dX4_lowerMiddle_16 rfl ?_
    refine x_aload_n B hl dX4_lowerMiddle_17 rfl ?_
    refine co_getR (x := la 15 0) E hC 3 (by decide) cl_3 rfl (fun z h => List.mem_cons_of_mem _ (List.mem_append_right _ h)) 0 (by decide) (hts (.fieldLink RX4 7 "BinRounds$Latest" "row" "[I") (by decide +kernel)) (fun x hx => hx) dX4_lowerMiddle_18 rfl rfl ?_
    refine co_alenz (κ := 15) (z := 5) E hC (by decide) cl_15 rfl dX4_lowerMiddle_21 ?_
    refine x_icmp_ge (tgt := 34) B dX4_lowerMiddle_22 (by decide) (by omega) (by omega) (fun c_22 => ?_) (fun c_22 => ?_)
    · refine x_iconst B dX4_lowerMiddle_34 ?_
      exact cm_iret E hr rfl hlk hC hS dX4_lowerMiddle_35 (by first | rfl | (rw [if_pos (by omega)]; done) | (rw [if_neg (by omega)]; done) | (rw [if_neg (by omega), if_pos (by omega)]; done) | (rw [if_neg (by omega), if_neg (by omega)]; done) | exact (show False by omega).elim) rfl (by first | trivial | omega)
    · refine x_aload_n B hl dX4_lowerMiddle_25 rfl ?_
      refine co_getR (x := la 15 0) E hC 3 (by decide) cl_3 rfl (fun z h => List.mem_cons_of_mem _ (List.mem_append_right _ h)) 0 (by decide) (hts (.fieldLink RX4 7 "BinRounds$Latest" "row" "[I") (by decide +kernel)) (fun x hx => hx) dX4_lowerMiddle_26 rfl rfl ?_
      refine x_iload_n B hl dX4_lowerMiddle_29 rfl ?_
      refine co_ald (κ := 15) (w := σ 56 ((n - 1) / 2)) E hC (by decide) cl_15 (by have h9 : aLn 15 = 5 := rfl; omega) (by decide) dX4_lowerMiddle_30 (by rw [if_neg (show ¬ n = 0 by omega)]; rfl) (fun r_30 => ?_)
      refine x_goto (tgt := 35) B dX4_lowerMiddle_31 (by decide) ?_
      exact cm_iret E hr rfl hlk hC hS dX4_lowerMiddle_35 (by first | rfl | (rw [if_pos (by omega)]; done) | (rw [if_neg (by omega)]; done) | (rw [if_neg (by omega), if_pos (by omega)]; done) | (rw [if_neg (by omega), if_neg (by omega)]; done) | exact (show False by omega).elim) rfl (by first | trivial | omega)
set_option maxHeartbeats 4000000 in
set_option maxRecDepth 100000 in
theorem c_insert (l : Launch) (D : va_G) (cy : Nat → ClassId) (d0 : Nat) (A : Nat → Prop) (la : Nat → Int → Nat) (σ : MS) {x : Int} (hx : -2147483648 ≤ x ∧ x < 2147483648) (h5 : 0 ≤ σ 55 0 ∧ σ 55 0 < 5) : CN l yX4_insert wsX4_insert ({ frames := 1, cells := 0, slots := 0, locals := 20 } : Room) D cy d0 A [.ref (la 3 0), .int (iI x)] la σ (fun v' la' τ => v' = none ∧ la' = la ∧ (∀ q, q ≠ 55 → q ≠ 56 → τ q = σ q) ∧ τ 55 0 = σ 55 0 + 1 ∧ ∀ j, 0 ≤ j → τ 56 j = insR (σ 56) (σ 55 0).toNat x j) 0 0 := by
  refine cn_of (cc := cX4_insert) (nL := 3) (ret := none) (by decide) rfl (Nat.le_of_ble_eq_true rfl) ?_
  intro p e s m args below meth c ls E hr hlk hK hC hS hl
  have B := E.1
  have hml := E.2.1
  have hown := E.2.2.1
  have hts0 := E.2.2.2.1
  have hts := E.2.2.2.1
  have hw := hC.2.2.2.2.2.1
  have tail : ∀ (k : Int) (τ : MS) (H : Heap) (locs : List Loc) (ls : Array Slot) (hq : ∀ q, q ≠ 56 → τ q = σ q) (hc : ∀ j, τ 56 j = if k < j ∧ j ≤ σ 55 0 then σ 56 (j - 1) else σ 56 j) (hp : insP (σ 56) x (σ 55 0).toNat = insP (σ 56) x k.toNat), 0 ≤ k → k ≤ σ 55 0 → (k = 0 ∨ σ 56 (k - 1) ≤ x) → CP D cy d0 A la τ H → va_S A s.heap H locs → lv_has ls 3 [(0, .ref (la 3 0)), (1, .int (iI x)), (2, .int (iI k))] → W p l e ({ frames := 1, cells := 0, slots := 0, locals := 20 } : Room) s m args below meth c H locs 0 0 (MQ below (cQ D cy d0 A (fun v' la' τ => v' = none ∧ la' = la ∧ (∀ q, q ≠ 55 → q ≠ 56 → τ q = σ q) ∧ τ 55 0 = σ 55 0 + 1 ∧ ∀ j, 0 ≤ j → τ 56 j = insR (σ 56) (σ 55 0).toNat x j)) args s 0 0 A) (F0 m 58 ls []) := by
    intro k τ H locs ls hq hc hp h1 h2 he hC hS hl
    have h55 : τ 55 0 = σ 55 0 := congrFun (hq 55 (by decide)) 0
    refine x_aload_n B hl dX4_insert_58 rfl ?_
    refine co_getR (x := la 15 0) E hC 3 (by decide) cl_3 rfl (fun z h => List.mem_cons_of_mem _ (List.mem_append_right _ h)) 0 (by decide) (hts (.fieldLink RX4 7 "BinRounds$Latest" "row" "[I") (by decide +kernel)) (fun x hx => hx) dX4_insert_59 rfl rfl ?_
    refine x_iload_n B hl dX4_insert_62 rfl ?_
    refine x_iload_n B hl dX4_insert_63 rfl ?_
    refine co_ast (κ := 15) E hC hS (by decide) cl_15 (by have h9 : aLn 15 = 5 := rfl; omega) (by decide) (by omega) dX4_insert_64 (fun H locs hC hS => ?_)
    refine x_aload_n B hl dX4_insert_65 rfl ?_
    refine x_dup B dX4_insert_66 rfl ?_
    refine co_geti (f := 55) E hC 3 (by decide) cl_3 rfl (fun z h => List.mem_cons_of_mem _ (List.mem_append_right _ h)) 1 (by decide) (hts (.fieldLink RX4 13 "BinRounds$Latest" "size" "I") (by decide +kernel)) (fun x hx => hx) dX4_insert_67 ⟨rfl, rfl, rfl⟩ h55 (fun r_67 => ?_)
    refine x_iconst B dX4_insert_70 ?_
    refine x_iadd B dX4_insert_71 ?_
    refine co_puti (f := 55) E hC hS 3 (by decide) cl_3 rfl (fun z h => List.mem_cons_of_mem _ (List.mem_append_right _ h)) tyX4 tyX4_ok nmX4 1 (by decide) (hts (.fieldLink RX4 13 "BinRounds$Latest" "size" "I") (by decide +kernel)) (fun x hx => hx) rfl rfl dX4_insert_72 (by decide) ⟨rfl, rfl, rfl, rfl⟩ (by omega) (fun H locs hC hS => ?_)
    refine co_vret E hr hlk hC hS dX4_insert_75 ⟨rfl, rfl, fun q a b => ?_, ?_, fun j hj => ?_⟩
    · exact (up_f a).trans ((up_f b).trans (hq q b))
    · exact up_s
    · rw [up_f (by decide)]
      refine Eq.trans ?_ (insR_end ⟨h1, h2⟩ hc hp he j hj)
      show up τ 56 k x 56 j = _
      rw [up_rd]
      by_cases hjk : j = k
      · rw [if_pos ⟨rfl, hjk⟩, if_pos hjk]
      · rw [if_neg (fun z => hjk z.2), if_neg hjk]
  have loop : ∀ (n : Nat) (k : Int) (τ : MS) (H : Heap) (locs : List Loc) (ls : Array Slot) (hq : ∀ q, q ≠ 56 → τ q = σ q) (hc : ∀ j, τ 56 j = if k < j ∧ j ≤ σ 55 0 then σ 56 (j - 1) else σ 56 j) (hp : insP (σ 56) x (σ 55 0).toNat = insP (σ 56) x k.toNat), 0 ≤ k → k ≤ σ 55 0 → k < n → CP D cy d0 A la τ H → va_S A s.heap H locs → lv_has ls 3 [(0, .ref (la 3 0)), (1, .int (iI x)), (2, .int (iI k))] → W p l e ({ frames := 1, cells := 0, slots := 0, locals := 20 } : Room) s m args below meth c H locs 0 0 (MQ below (cQ D cy d0 A (fun v' la' τ => v' = none ∧ la' = la ∧ (∀ q, q ≠ 55 → q ≠ 56 → τ q = σ q) ∧ τ 55 0 = σ 55 0 + 1 ∧ ∀ j, 0 ≤ j → τ 56 j = insR (σ 56) (σ 55 0).toNat x j)) args s 0 0 A) (F0 m 13 ls []) := by
    intro n
    induction n with
    | zero => intro k τ H locs ls hq hc hp h1 h2 h3; exact absurd h3 (by omega)
    | succ n ih =>
      intro k τ H locs ls hq hc hp h1 h2 h3 hC hS hl
      refine x_iload_n B hl dX4_insert_13 rfl ?_
      refine x_if_le (tgt := 58) B dX4_insert_14 (by decide) (by omega) (fun c_14 => ?_) (fun c_14 => ?_)
      · exact tail k τ _ _ ls hq hc hp h1 h2 (by first | (exact Or.inl (by omega)) | (exact Or.inr (by omega)) | exact (show False by omega).elim) hC hS hl
      · refine x_iload_n B hl dX4_insert_17 rfl ?_
        refine x_aload_n B hl dX4_insert_18 rfl ?_
        refine co_getR (x := la 15 0) E hC 3 (by decide) cl_3 rfl (fun z h => List.mem_cons_of_mem _ (List.mem_append_right _ h)) 0 (by decide) (hts (.fieldLink RX4 7 "BinRounds$Latest" "row" "[I") (by decide +kernel)) (fun x hx => hx) dX4_insert_19 rfl rfl ?_
        refine co_alenz (κ := 15) (z := 5) E hC (by decide) cl_15 rfl dX4_insert_22 ?_
        refine x_icmp_ge (tgt := 58) B dX4_insert_23 (by decide) (by omega) (by omega) (fun c_23 => ?_) (fun c_23 => ?_)
        · exact tail k τ _ _ ls hq hc hp h1 h2 (by first | (exact Or.inl (by omega)) | (exact Or.inr (by omega)) | exact (show False by omega).elim) hC hS hl
        · refine x_aload_n B hl dX4_insert_26 rfl ?_
          refine co_getR (x := la 15 0) E hC 3 (by decide) cl_3 rfl (fun z h => List.mem_cons_of_mem _ (List.mem_append_right _ h)) 0 (by decide) (hts (.fieldLink RX4 7 "BinRounds$Latest" "row" "[I") (by decide +kernel)) (fun x hx => hx) dX4_insert_27 rfl rfl ?_
          refine x_iload_n B hl dX4_insert_30 rfl ?_
          refine x_iconst B dX4_insert_31 ?_
          refine x_isub B dX4_insert_32 ?_
          refine co_ald (κ := 15) (w := σ 56 (k - 1)) E hC (by decide) cl_15 (by have h9 : aLn 15 = 5 := rfl; omega) (by decide) dX4_insert_33 ((hc (k - 1)).trans (if_neg (by omega))) (fun r_33 => ?_)
          refine x_iload_n B hl dX4_insert_34 rfl ?_
          refine x_icmp_le (tgt := 58) B dX4_insert_35 (by decide) (by omega) (by omega) (fun c_35 => ?_) (fun c_35 => ?_)
          · exact tail k τ _ _ ls hq hc hp h1 h2 (by first | (exact Or.inl (by omega)) | (exact Or.inr (by omega)) | exact (show False by omega).elim) hC hS hl
          · refine x_aload_n B hl dX4_insert_38 rfl ?_
            refine co_getR (x := la 15 0) E hC 3 (by decide) cl_3 rfl (fun z h => List.mem_cons_of_mem _ (List.mem_append_right _ h)) 0 (by decide) (hts (.fieldLink RX4 7 "BinRounds$Latest" "row" "[I") (by decide +kernel)) (fun x hx => hx) dX4_insert_39 rfl rfl ?_
            refine x_iload_n B hl dX4_insert_42 rfl ?_
            refine x_aload_n B hl dX4_insert_43 rfl ?_
            refine co_getR (x := la 15 0) E hC 3 (by decide) cl_3 rfl (fun z h => List.mem_cons_of_mem _ (List.mem_append_right _ h)) 0 (by decide) (hts (.fieldLink RX4 7 "BinRounds$Latest" "row" "[I") (by decide +kernel)) (fun x hx => hx) dX4_insert_44 rfl rfl ?_
            refine x_iload_n B hl dX4_insert_47 rfl ?_
            refine x_iconst B dX4_insert_48 ?_
            refine x_isub B dX4_insert_49 ?_
            refine co_ald (κ := 15) (w := σ 56 (k - 1)) E hC (by decide) cl_15 (by have h9 : aLn 15 = 5 := rfl; omega) (by decide) dX4_insert_50 ((hc (k - 1)).trans (if_neg (by omega))) (fun r_50 => ?_)
            refine co_ast (κ := 15) E hC hS (by decide) cl_15 (by have h9 : aLn 15 = 5 := rfl; omega) (by decide) (by omega) dX4_insert_51 (fun H locs hC hS => ?_)
            refine x_iinc B hl dX4_insert_52 rfl (by decide) (fun ls hl => ?_)
            refine x_goto (tgt := 13) B dX4_insert_55 (by decide) ?_
            exact ih (k + -1) (up τ 56 k (σ 56 (k - 1))) H locs ls (fun q a => (up_f a).trans (hq q a)) (fun j => by
              rw [up_rd]
              by_cases e : j = k
              · subst e; rw [if_pos ⟨rfl, rfl⟩, if_pos (by omega)]
              · rw [if_neg (fun z => e z.2), hc j]
                by_cases f : k < j ∧ j ≤ σ 55 0
                · rw [if_pos f, if_pos (by omega)]
                · rw [if_neg f, if_neg (by omega)]) (by rw [hp, insP_s (by omega) (by omega), show k + -1 = k - 1 by omega]) (by omega) (by omega) (by omega) hC hS (lv_key hl [(0, .ref (la 3 0)), (1, .int (iI x)), (2, .int (iI (k + -1)))] rfl)
  refine x_aload_n B hl dX4_insert_0 rfl ?_
  refine co_call E hK hC hS hl (κ := 3) (i := 0) (by decide) cl_3 rfl (c_isFull l D cy d0 A la σ) (cwV 0 hts0 gX4_insert_X4_isFull rfl rfl rfl (by decide +kernel) ⟨Nat.le_of_ble_eq_true rfl, Nat.le_of_ble_eq_true rfl⟩) rfl rfl (Nat.le_of_ble_eq_true rfl) dX4_insert_1 ⟨Nat.zero_le _, Nat.zero_le _⟩ (fun H locs q_1 hC hS => ?_)
  refine x_bool (fun b_1 => ?_) (fun b_1 => ?_)
  · refine x_if_eq_f (tgt := 8) B dX4_insert_4 (by decide) (by decide) ?_
    exact (show False by omega).elim
  · refine x_if_eq_t (tgt := 8) B dX4_insert_4 (by decide) (by decide) ?_
    refine x_aload_n B hl dX4_insert_8 rfl ?_
    refine co_geti (f := 55) E hC 3 (by decide) cl_3 rfl (fun z h => List.mem_cons_of_mem _ (List.mem_append_right _ h)) 1 (by decide) (hts (.fieldLink RX4 13 "BinRounds$Latest" "size" "I") (by decide +kernel)) (fun x hx => hx) dX4_insert_9 ⟨rfl, rfl, rfl⟩ rfl (fun r_9 => ?_)
    refine x_istore_n B hl dX4_insert_12 (by decide) (fun ls hl => ?_)
    exact loop 6 (σ 55 0) σ _ _ ls (fun q _ => rfl) (fun j => by rw [if_neg (by omega)]) rfl (by omega) (by omega) (by omega) hC hS (lv_key hl [(0, .ref (la 3 0)), (1, .int (iI x)), (2, .int (iI (σ 55 0)))] rfl)
set_option maxHeartbeats 4000000 in
set_option maxRecDepth 100000 in
theorem c_setRound (l : Launch) (D : va_G) (cy : Nat → ClassId) (d0 : Nat) (A : Nat → Prop) (la : Nat → Int → Nat) (σ : MS) {st g wd wk : Int} (hs : 0 ≤ st ∧ st < σ 5 0) (hg : 0 ≤ g ∧ g ≤ 2) (h1 : 0 ≤ wd ∧ wd ≤ 4) (h2 : 0 ≤ wk ∧ wk ≤ 3) : CM l yX7_setRound wsX7_setRound ({ frames := 0, cells := 0, slots := 0, locals := 0 } : Room) D cy d0 A [.ref (la 4 st), .int (iI g), .int (iI wd), .int (iI wk)] la σ (none) (roundS σ st g wd wk) (True) := by
  refine cn_of (cc := cX7_setRound) (nL := 4) (ret := none) (by decide) rfl (Nat.le_of_ble_eq_true rfl) ?_
  intro p e s m args below meth c ls E hr hlk hK hC hS hl
  have B := E.1
  have hml := E.2.1
  have hown := E.2.2.1
  have hts0 := E.2.2.2.1
  have hts := E.2.2.2.1
  have hw := hC.2.2.2.2.2.1
  refine x_iload_n B hl dX7_setRound_0 rfl ?_
  refine x_if_lt (tgt := 36) B dX7_setRound_1 (by decide) (by omega) (fun c_1 => ?_) (fun c_1 => ?_)
  · first | (exact (show False by omega).elim) | (exact cm_vret E hr hlk hC hS dX7_setRound_36 rfl (by first | trivial | omega))
  · refine x_iload_n B hl dX7_setRound_4 rfl ?_
    refine x_aload_n B hl dX7_setRound_5 rfl ?_
    refine co_getR (x := la 16 st) E hC 4 (by decide) (cl_4 hs) rfl (fun z h => List.mem_cons_of_mem _ (List.mem_append_right _ h)) 0 (by decide) (hts (.fieldLink RX7 9 "BinRounds$Street" "weekdays" "[I") (by decide +kernel)) (fun x hx => hx) dX7_setRound_6 rfl rfl ?_
    refine co_alenz (κ := 16) (z := 3) E hC (by decide) (cl_16 hs) rfl dX7_setRound_9 ?_
    refine x_icmp_ge (tgt := 36) B dX7_setRound_10 (by decide) (by omega) (by omega) (fun c_10 => ?_) (fun c_10 => ?_)
    · first | (exact (show False by omega).elim) | (exact cm_vret E hr hlk hC hS dX7_setRound_36 rfl (by first | trivial | omega))
    · refine x_iload_n B hl dX7_setRound_13 rfl ?_
      refine x_aload_n B hl dX7_setRound_14 rfl ?_
      refine co_getR (x := la 17 st) E hC 4 (by decide) (cl_4 hs) rfl (fun z h => List.mem_cons_of_mem _ (List.mem_append_right _ h)) 1 (by decide) (hts (.fieldLink RX7 15 "BinRounds$Street" "weeks" "[I") (by decide +kernel)) (fun x hx => hx) dX7_setRound_15 rfl rfl ?_
      refine co_alenz (κ := 17) (z := 3) E hC (by decide) (cl_17 hs) rfl dX7_setRound_18 ?_
      refine x_icmp_ge (tgt := 36) B dX7_setRound_19 (by decide) (by omega) (by omega) (fun c_19 => ?_) (fun c_19 => ?_)
      · first | (exact (show False by omega).elim) | (exact cm_vret E hr hlk hC hS dX7_setRound_36 rfl (by first | trivial | omega))
      · refine x_aload_n B hl dX7_setRound_22 rfl ?_
        refine co_getR (x := la 16 st) E hC 4 (by decide) (cl_4 hs) rfl (fun z h => List.mem_cons_of_mem _ (List.mem_append_right _ h)) 0 (by decide) (hts (.fieldLink RX7 9 "BinRounds$Street" "weekdays" "[I") (by decide +kernel)) (fun x hx => hx) dX7_setRound_23 rfl rfl ?_
        refine x_iload_n B hl dX7_setRound_26 rfl ?_
        refine x_iload_n B hl dX7_setRound_27 rfl ?_
        refine co_ast (κ := 16) E hC hS (by decide) (cl_16 hs) (by have h9 : aLn 16 = 3 := rfl; omega) (by decide) (by omega) dX7_setRound_28 (fun H locs hC hS => ?_)
        refine x_aload_n B hl dX7_setRound_29 rfl ?_
        refine co_getR (x := la 17 st) E hC 4 (by decide) (cl_up (by decide) (cl_4 hs)) rfl (fun z h => List.mem_cons_of_mem _ (List.mem_append_right _ h)) 1 (by decide) (hts (.fieldLink RX7 15 "BinRounds$Street" "weeks" "[I") (by decide +kernel)) (fun x hx => hx) dX7_setRound_30 rfl rfl ?_
        refine x_iload_n B hl dX7_setRound_33 rfl ?_
        refine x_iload_n B hl dX7_setRound_34 rfl ?_
        refine co_ast (κ := 17) E hC hS (by decide) (cl_up (by decide) (cl_17 hs)) (by have h9 : aLn 17 = 3 := rfl; omega) (by decide) (by omega) dX7_setRound_35 (fun H locs hC hS => ?_)
        first | (exact (show False by omega).elim) | (exact cm_vret E hr hlk hC hS dX7_setRound_36 rfl (by first | trivial | omega))
set_option maxHeartbeats 4000000 in
set_option maxRecDepth 100000 in
theorem c_weekdayOf (l : Launch) (D : va_G) (cy : Nat → ClassId) (d0 : Nat) (A : Nat → Prop) (la : Nat → Int → Nat) (σ : MS) {st g : Int} (hs : 0 ≤ st ∧ st < σ 5 0) (hg : 0 ≤ g ∧ g ≤ 2) : CM l yX7_weekdayOf wsX7_weekdayOf ({ frames := 0, cells := 0, slots := 0, locals := 0 } : Room) D cy d0 A [.ref (la 4 st), .int (iI g)] la σ (some (.int (iI (σ 3 (3 * st + g))))) (σ) (-2147483648 ≤ σ 3 (3 * st + g) ∧ σ 3 (3 * st + g) < 2147483648) := by
  refine cn_of (cc := cX7_weekdayOf) (nL := 2) (ret := (some .int)) (by decide) rfl (Nat.le_of_ble_eq_true rfl) ?_
  intro p e s m args below meth c ls E hr hlk hK hC hS hl
  have B := E.1
  have hml := E.2.1
  have hown := E.2.2.1
  have hts0 := E.2.2.2.1
  have hts := E.2.2.2.1
  have hw := hC.2.2.2.2.2.1
  refine x_iload_n B hl dX7_weekdayOf_0 rfl ?_
  refine x_if_lt (tgt := 22) B dX7_weekdayOf_1 (by decide) (by omega) (fun c_1 => ?_) (fun c_1 => ?_)
  · refine x_iconst B dX7_weekdayOf_22 ?_
    first | (exact (show False by omega).elim) | (exact cm_iret E hr rfl hlk hC hS dX7_weekdayOf_23 rfl rfl (by omega))
  · refine x_iload_n B hl dX7_weekdayOf_4 rfl ?_
    refine x_aload_n B hl dX7_weekdayOf_5 rfl ?_
    refine co_getR (x := la 16 st) E hC 4 (by decide) (cl_4 hs) rfl (fun z h => List.mem_cons_of_mem _ (List.mem_append_right _ h)) 0 (by decide) (hts (.fieldLink RX7 9 "BinRounds$Street" "weekdays" "[I") (by decide +kernel)) (fun x hx => hx) dX7_weekdayOf_6 rfl rfl ?_
    refine co_alenz (κ := 16) (z := 3) E hC (by decide) (cl_16 hs) rfl dX7_weekdayOf_9 ?_
    refine x_icmp_ge (tgt := 22) B dX7_weekdayOf_10 (by decide) (by omega) (by omega) (fun c_10 => ?_) (fun c_10 => ?_)
    · refine x_iconst B dX7_weekdayOf_22 ?_
      first | (exact (show False by omega).elim) | (exact cm_iret E hr rfl hlk hC hS dX7_weekdayOf_23 rfl rfl (by omega))
    · refine x_aload_n B hl dX7_weekdayOf_13 rfl ?_
      refine co_getR (x := la 16 st) E hC 4 (by decide) (cl_4 hs) rfl (fun z h => List.mem_cons_of_mem _ (List.mem_append_right _ h)) 0 (by decide) (hts (.fieldLink RX7 9 "BinRounds$Street" "weekdays" "[I") (by decide +kernel)) (fun x hx => hx) dX7_weekdayOf_14 rfl rfl ?_
      refine x_iload_n B hl dX7_weekdayOf_17 rfl ?_
      refine co_ald (κ := 16) (w := σ 3 (3 * st + g)) E hC (by decide) (cl_16 hs) (by have h9 : aLn 16 = 3 := rfl; omega) (by decide) dX7_weekdayOf_18 rfl (fun r_18 => ?_)
      refine x_goto (tgt := 23) B dX7_weekdayOf_19 (by decide) ?_
      first | (exact (show False by omega).elim) | (exact cm_iret E hr rfl hlk hC hS dX7_weekdayOf_23 rfl rfl (by omega))
set_option maxHeartbeats 4000000 in
set_option maxRecDepth 100000 in
theorem c_hasRoundIn (l : Launch) (D : va_G) (cy : Nat → ClassId) (d0 : Nat) (A : Nat → Prop) (la : Nat → Int → Nat) (σ : MS) {st g wk : Int} (hs : 0 ≤ st ∧ st < σ 5 0) (hg : 0 ≤ g ∧ g ≤ 2) (hk : 0 ≤ wk ∧ wk ≤ 1000000) (h4 : 0 ≤ σ 4 (3 * st + g) ∧ σ 4 (3 * st + g) ≤ 3) : CM l yX7_hasRoundIn wsX7_hasRoundIn ({ frames := 0, cells := 0, slots := 0, locals := 0 } : Room) D cy d0 A [.ref (la 4 st), .int (iI g), .int (iI wk)] la σ (some (.int (iI (if sHasR σ st g wk then 1 else 0)))) (σ) (True) := by
  refine cn_of (cc := cX7_hasRoundIn) (nL := 4) (ret := (some .boolean)) (by decide) rfl (Nat.le_of_ble_eq_true rfl) ?_
  intro p e s m args below meth c ls E hr hlk hK hC hS hl
  have B := E.1
  have hml := E.2.1
  have hown := E.2.2.1
  have hts0 := E.2.2.2.1
  have hts := E.2.2.2.1
  have hw := hC.2.2.2.2.2.1
  refine x_iload_n B hl dX7_hasRoundIn_0 rfl ?_
  refine x_if_lt (tgt := 13) B dX7_hasRoundIn_1 (by decide) (by omega) (fun c_1 => ?_) (fun c_1 => ?_)
  · refine x_iconst B dX7_hasRoundIn_13 ?_
    first | (exact (show False by omega).elim) | (exact cm_iret E hr rfl hlk hC hS dX7_hasRoundIn_14 (by first | (rw [if_pos (show sHasR σ st g wk by unfold sHasR; omega)]) | (rw [if_neg (show ¬ sHasR σ st g wk by unfold sHasR; omega)])) rfl trivial)
  · refine x_iload_n B hl dX7_hasRoundIn_4 rfl ?_
    refine x_aload_n B hl dX7_hasRoundIn_5 rfl ?_
    refine co_getR (x := la 17 st) E hC 4 (by decide) (cl_4 hs) rfl (fun z h => List.mem_cons_of_mem _ (List.mem_append_right _ h)) 1 (by decide) (hts (.fieldLink RX7 15 "BinRounds$Street" "weeks" "[I") (by decide +kernel)) (fun x hx => hx) dX7_hasRoundIn_6 rfl rfl ?_
    refine co_alenz (κ := 17) (z := 3) E hC (by decide) (cl_17 hs) rfl dX7_hasRoundIn_9 ?_
    refine x_icmp_lt (tgt := 15) B dX7_hasRoundIn_10 (by decide) (by omega) (by omega) (fun c_10 => ?_) (fun c_10 => ?_)
    · refine x_iload_n B hl dX7_hasRoundIn_15 rfl ?_
      refine x_iconst B dX7_hasRoundIn_16 ?_
      refine x_irem B dX7_hasRoundIn_17 (by omega) (by omega) ?_
      refine x_if_ne (tgt := 25) B dX7_hasRoundIn_18 (by decide) (by omega) (fun c_18 => ?_) (fun c_18 => ?_)
      · refine x_iconst B dX7_hasRoundIn_25 ?_
        refine x_istore_n B hl dX7_hasRoundIn_26 (by decide) (fun ls hl => ?_)
        refine x_aload_n B hl dX7_hasRoundIn_27 rfl ?_
        refine co_getR (x := la 17 st) E hC 4 (by decide) (cl_4 hs) rfl (fun z h => List.mem_cons_of_mem _ (List.mem_append_right _ h)) 1 (by decide) (hts (.fieldLink RX7 15 "BinRounds$Street" "weeks" "[I") (by decide +kernel)) (fun x hx => hx) dX7_hasRoundIn_28 rfl rfl ?_
        refine x_iload_n B hl dX7_hasRoundIn_31 rfl ?_
        refine co_ald (κ := 17) (w := σ 4 (3 * st + g)) E hC (by decide) (cl_17 hs) (by have h9 : aLn 17 = 3 := rfl; omega) (by decide) dX7_hasRoundIn_32 rfl (fun r_32 => ?_)
        refine x_iload_n B hl dX7_hasRoundIn_33 rfl ?_
        refine x_icmp_eq (tgt := 47) B dX7_hasRoundIn_34 (by decide) (by omega) (by omega) (fun c_34 => ?_) (fun c_34 => ?_)
        · refine x_iconst B dX7_hasRoundIn_47 ?_
          refine x_goto (tgt := 52) B dX7_hasRoundIn_48 (by decide) ?_
          first | (exact (show False by omega).elim) | (exact cm_iret E hr rfl hlk hC hS dX7_hasRoundIn_52 (by first | (rw [if_pos (show sHasR σ st g wk by unfold sHasR; omega)]) | (rw [if_neg (show ¬ sHasR σ st g wk by unfold sHasR; omega)])) rfl trivial)
        · refine x_aload_n B hl dX7_hasRoundIn_37 rfl ?_
          refine co_getR (x := la 17 st) E hC 4 (by decide) (cl_4 hs) rfl (fun z h => List.mem_cons_of_mem _ (List.mem_append_right _ h)) 1 (by decide) (hts (.fieldLink RX7 15 "BinRounds$Street" "weeks" "[I") (by decide +kernel)) (fun x hx => hx) dX7_hasRoundIn_38 rfl rfl ?_
          refine x_iload_n B hl dX7_hasRoundIn_41 rfl ?_
          refine co_ald (κ := 17) (w := σ 4 (3 * st + g)) E hC (by decide) (cl_17 hs) (by have h9 : aLn 17 = 3 := rfl; omega) (by decide) dX7_hasRoundIn_42 rfl (fun r_42 => ?_)
          refine x_iconst B dX7_hasRoundIn_43 ?_
          refine x_icmp_ne (tgt := 51) B dX7_hasRoundIn_44 (by decide) (by omega) (by omega) (fun c_44 => ?_) (fun c_44 => ?_)
          · refine x_iconst B dX7_hasRoundIn_51 ?_
            first | (exact (show False by omega).elim) | (exact cm_iret E hr rfl hlk hC hS dX7_hasRoundIn_52 (by first | (rw [if_pos (show sHasR σ st g wk by unfold sHasR; omega)]) | (rw [if_neg (show ¬ sHasR σ st g wk by unfold sHasR; omega)])) rfl trivial)
          · refine x_iconst B dX7_hasRoundIn_47 ?_
            refine x_goto (tgt := 52) B dX7_hasRoundIn_48 (by decide) ?_
            first | (exact (show False by omega).elim) | (exact cm_iret E hr rfl hlk hC hS dX7_hasRoundIn_52 (by first | (rw [if_pos (show sHasR σ st g wk by unfold sHasR; omega)]) | (rw [if_neg (show ¬ sHasR σ st g wk by unfold sHasR; omega)])) rfl trivial)
      · refine x_iconst B dX7_hasRoundIn_21 ?_
        refine x_goto (tgt := 26) B dX7_hasRoundIn_22 (by decide) ?_
        refine x_istore_n B hl dX7_hasRoundIn_26 (by decide) (fun ls hl => ?_)
        refine x_aload_n B hl dX7_hasRoundIn_27 rfl ?_
        refine co_getR (x := la 17 st) E hC 4 (by decide) (cl_4 hs) rfl (fun z h => List.mem_cons_of_mem _ (List.mem_append_right _ h)) 1 (by decide) (hts (.fieldLink RX7 15 "BinRounds$Street" "weeks" "[I") (by decide +kernel)) (fun x hx => hx) dX7_hasRoundIn_28 rfl rfl ?_
        refine x_iload_n B hl dX7_hasRoundIn_31 rfl ?_
        refine co_ald (κ := 17) (w := σ 4 (3 * st + g)) E hC (by decide) (cl_17 hs) (by have h9 : aLn 17 = 3 := rfl; omega) (by decide) dX7_hasRoundIn_32 rfl (fun r_32 => ?_)
        refine x_iload_n B hl dX7_hasRoundIn_33 rfl ?_
        refine x_icmp_eq (tgt := 47) B dX7_hasRoundIn_34 (by decide) (by omega) (by omega) (fun c_34 => ?_) (fun c_34 => ?_)
        · refine x_iconst B dX7_hasRoundIn_47 ?_
          refine x_goto (tgt := 52) B dX7_hasRoundIn_48 (by decide) ?_
          first | (exact (show False by omega).elim) | (exact cm_iret E hr rfl hlk hC hS dX7_hasRoundIn_52 (by first | (rw [if_pos (show sHasR σ st g wk by unfold sHasR; omega)]) | (rw [if_neg (show ¬ sHasR σ st g wk by unfold sHasR; omega)])) rfl trivial)
        · refine x_aload_n B hl dX7_hasRoundIn_37 rfl ?_
          refine co_getR (x := la 17 st) E hC 4 (by decide) (cl_4 hs) rfl (fun z h => List.mem_cons_of_mem _ (List.mem_append_right _ h)) 1 (by decide) (hts (.fieldLink RX7 15 "BinRounds$Street" "weeks" "[I") (by decide +kernel)) (fun x hx => hx) dX7_hasRoundIn_38 rfl rfl ?_
          refine x_iload_n B hl dX7_hasRoundIn_41 rfl ?_
          refine co_ald (κ := 17) (w := σ 4 (3 * st + g)) E hC (by decide) (cl_17 hs) (by have h9 : aLn 17 = 3 := rfl; omega) (by decide) dX7_hasRoundIn_42 rfl (fun r_42 => ?_)
          refine x_iconst B dX7_hasRoundIn_43 ?_
          refine x_icmp_ne (tgt := 51) B dX7_hasRoundIn_44 (by decide) (by omega) (by omega) (fun c_44 => ?_) (fun c_44 => ?_)
          · refine x_iconst B dX7_hasRoundIn_51 ?_
            first | (exact (show False by omega).elim) | (exact cm_iret E hr rfl hlk hC hS dX7_hasRoundIn_52 (by first | (rw [if_pos (show sHasR σ st g wk by unfold sHasR; omega)]) | (rw [if_neg (show ¬ sHasR σ st g wk by unfold sHasR; omega)])) rfl trivial)
          · refine x_iconst B dX7_hasRoundIn_47 ?_
            refine x_goto (tgt := 52) B dX7_hasRoundIn_48 (by decide) ?_
            first | (exact (show False by omega).elim) | (exact cm_iret E hr rfl hlk hC hS dX7_hasRoundIn_52 (by first | (rw [if_pos (show sHasR σ st g wk by unfold sHasR; omega)]) | (rw [if_neg (show ¬ sHasR σ st g wk by unfold sHasR; omega)])) rfl trivial)
    · refine x_iconst B dX7_hasRoundIn_13 ?_
      first | (exact (show False by omega).elim) | (exact cm_iret E hr rfl hlk hC hS dX7_hasRoundIn_14 (by first | (rw [if_pos (show sHasR σ st g wk by unfold sHasR; omega)]) | (rw [if_neg (show ¬ sHasR σ st g wk by unfold sHasR; omega)])) rfl trivial)
set_option maxHeartbeats 4000000 in
set_option maxRecDepth 100000 in
theorem c_tabSet (l : Launch) (D : va_G) (cy : Nat → ClassId) (d0 : Nat) (A : Nat → Prop) (la : Nat → Int → Nat) (σ : MS) {k lf rt : Int} (hk : 0 ≤ k ∧ k ≤ 4) (h1 : 0 ≤ lf ∧ lf ≤ 100000) (h2 : 0 ≤ rt ∧ rt ≤ 100000) : CM l yX8_set wsX8_set ({ frames := 0, cells := 0, slots := 0, locals := 0 } : Room) D cy d0 A [.ref (la 2 0), .int (iI k), .int (iI lf), .int (iI rt)] la σ (none) (tableS σ k lf rt) (True) := by
  refine cn_of (cc := cX8_set) (nL := 4) (ret := none) (by decide) rfl (Nat.le_of_ble_eq_true rfl) ?_
  intro p e s m args below meth c ls E hr hlk hK hC hS hl
  have B := E.1
  have hml := E.2.1
  have hown := E.2.2.1
  have hts0 := E.2.2.2.1
  have hts := E.2.2.2.1
  have hw := hC.2.2.2.2.2.1
  refine x_iload_n B hl dX8_set_0 rfl ?_
  refine x_if_lt (tgt := 36) B dX8_set_1 (by decide) (by omega) (fun c_1 => ?_) (fun c_1 => ?_)
  · first | (exact (show False by omega).elim) | (exact cm_vret E hr hlk hC hS dX8_set_36 rfl (by first | trivial | omega))
  · refine x_iload_n B hl dX8_set_4 rfl ?_
    refine x_aload_n B hl dX8_set_5 rfl ?_
    refine co_getR (x := la 13 0) E hC 2 (by decide) cl_2 rfl (fun z h => List.mem_cons_of_mem _ (List.mem_append_right _ h)) 0 (by decide) (hts (.fieldLink RX8 9 "BinRounds$Tables" "lifts" "[I") (by decide +kernel)) (fun x hx => hx) dX8_set_6 rfl rfl ?_
    refine co_alenz (κ := 13) (z := 5) E hC (by decide) cl_13 rfl dX8_set_9 ?_
    refine x_icmp_ge (tgt := 36) B dX8_set_10 (by decide) (by omega) (by omega) (fun c_10 => ?_) (fun c_10 => ?_)
    · first | (exact (show False by omega).elim) | (exact cm_vret E hr hlk hC hS dX8_set_36 rfl (by first | trivial | omega))
    · refine x_iload_n B hl dX8_set_13 rfl ?_
      refine x_aload_n B hl dX8_set_14 rfl ?_
      refine co_getR (x := la 14 0) E hC 2 (by decide) cl_2 rfl (fun z h => List.mem_cons_of_mem _ (List.mem_append_right _ h)) 1 (by decide) (hts (.fieldLink RX8 15 "BinRounds$Tables" "rates" "[I") (by decide +kernel)) (fun x hx => hx) dX8_set_15 rfl rfl ?_
      refine co_alenz (κ := 14) (z := 5) E hC (by decide) cl_14 rfl dX8_set_18 ?_
      refine x_icmp_ge (tgt := 36) B dX8_set_19 (by decide) (by omega) (by omega) (fun c_19 => ?_) (fun c_19 => ?_)
      · first | (exact (show False by omega).elim) | (exact cm_vret E hr hlk hC hS dX8_set_36 rfl (by first | trivial | omega))
      · refine x_aload_n B hl dX8_set_22 rfl ?_
        refine co_getR (x := la 13 0) E hC 2 (by decide) cl_2 rfl (fun z h => List.mem_cons_of_mem _ (List.mem_append_right _ h)) 0 (by decide) (hts (.fieldLink RX8 9 "BinRounds$Tables" "lifts" "[I") (by decide +kernel)) (fun x hx => hx) dX8_set_23 rfl rfl ?_
        refine x_iload_n B hl dX8_set_26 rfl ?_
        refine x_iload_n B hl dX8_set_27 rfl ?_
        refine co_ast (κ := 13) E hC hS (by decide) cl_13 (by have h9 : aLn 13 = 5 := rfl; omega) (by decide) (by omega) dX8_set_28 (fun H locs hC hS => ?_)
        refine x_aload_n B hl dX8_set_29 rfl ?_
        refine co_getR (x := la 14 0) E hC 2 (by decide) cl_2 rfl (fun z h => List.mem_cons_of_mem _ (List.mem_append_right _ h)) 1 (by decide) (hts (.fieldLink RX8 15 "BinRounds$Tables" "rates" "[I") (by decide +kernel)) (fun x hx => hx) dX8_set_30 rfl rfl ?_
        refine x_iload_n B hl dX8_set_33 rfl ?_
        refine x_iload_n B hl dX8_set_34 rfl ?_
        refine co_ast (κ := 14) E hC hS (by decide) cl_14 (by have h9 : aLn 14 = 5 := rfl; omega) (by decide) (by omega) dX8_set_35 (fun H locs hC hS => ?_)
        first | (exact (show False by omega).elim) | (exact cm_vret E hr hlk hC hS dX8_set_36 rfl (by first | trivial | omega))
set_option maxHeartbeats 4000000 in
set_option maxRecDepth 100000 in
theorem c_liftOf (l : Launch) (D : va_G) (cy : Nat → ClassId) (d0 : Nat) (A : Nat → Prop) (la : Nat → Int → Nat) (σ : MS) {k : Int} (hk : -1 ≤ k ∧ k ≤ 4) : CM l yX8_liftOf wsX8_liftOf ({ frames := 0, cells := 0, slots := 0, locals := 0 } : Room) D cy d0 A [.ref (la 2 0), .int (iI k)] la σ (some (.int (iI (if k < 0 then 0 else σ 28 k)))) (σ) (-2147483648 ≤ (if k < 0 then 0 else σ 28 k) ∧ (if k < 0 then 0 else σ 28 k) < 2147483648) := by
  refine cn_of (cc := cX8_liftOf) (nL := 2) (ret := (some .int)) (by decide) rfl (Nat.le_of_ble_eq_true rfl) ?_
  intro p e s m args below meth c ls E hr hlk hK hC hS hl
  have B := E.1
  have hml := E.2.1
  have hown := E.2.2.1
  have hts0 := E.2.2.2.1
  have hts := E.2.2.2.1
  have hw := hC.2.2.2.2.2.1
  refine x_iload_n B hl dX8_liftOf_0 rfl ?_
  refine x_if_lt (tgt := 22) B dX8_liftOf_1 (by decide) (by omega) (fun c_1 => ?_) (fun c_1 => ?_)
  · refine x_iconst B dX8_liftOf_22 ?_
    exact cm_iret E hr rfl hlk hC hS dX8_liftOf_23 (by first | rfl | (rw [if_pos (by omega)]; done) | (rw [if_neg (by omega)]; done) | exact (show False by omega).elim) rfl (by first | trivial | omega)
  · refine x_iload_n B hl dX8_liftOf_4 rfl ?_
    refine x_aload_n B hl dX8_liftOf_5 rfl ?_
    refine co_getR (x := la 13 0) E hC 2 (by decide) cl_2 rfl (fun z h => List.mem_cons_of_mem _ (List.mem_append_right _ h)) 0 (by decide) (hts (.fieldLink RX8 9 "BinRounds$Tables" "lifts" "[I") (by decide +kernel)) (fun x hx => hx) dX8_liftOf_6 rfl rfl ?_
    refine co_alenz (κ := 13) (z := 5) E hC (by decide) cl_13 rfl dX8_liftOf_9 ?_
    refine x_icmp_ge (tgt := 22) B dX8_liftOf_10 (by decide) (by omega) (by omega) (fun c_10 => ?_) (fun c_10 => ?_)
    · refine x_iconst B dX8_liftOf_22 ?_
      exact cm_iret E hr rfl hlk hC hS dX8_liftOf_23 (by first | rfl | (rw [if_pos (by omega)]; done) | (rw [if_neg (by omega)]; done) | exact (show False by omega).elim) rfl (by first | trivial | omega)
    · refine x_aload_n B hl dX8_liftOf_13 rfl ?_
      refine co_getR (x := la 13 0) E hC 2 (by decide) cl_2 rfl (fun z h => List.mem_cons_of_mem _ (List.mem_append_right _ h)) 0 (by decide) (hts (.fieldLink RX8 9 "BinRounds$Tables" "lifts" "[I") (by decide +kernel)) (fun x hx => hx) dX8_liftOf_14 rfl rfl ?_
      refine x_iload_n B hl dX8_liftOf_17 rfl ?_
      refine co_ald (κ := 13) (w := σ 28 k) E hC (by decide) cl_13 (by have h9 : aLn 13 = 5 := rfl; omega) (by decide) dX8_liftOf_18 rfl (fun r_18 => ?_)
      refine x_goto (tgt := 23) B dX8_liftOf_19 (by decide) ?_
      exact cm_iret E hr rfl hlk hC hS dX8_liftOf_23 (by first | rfl | (rw [if_pos (by omega)]; done) | (rw [if_neg (by omega)]; done) | exact (show False by omega).elim) rfl (by first | trivial | omega)
set_option maxHeartbeats 4000000 in
set_option maxRecDepth 100000 in
theorem c_rateOf (l : Launch) (D : va_G) (cy : Nat → ClassId) (d0 : Nat) (A : Nat → Prop) (la : Nat → Int → Nat) (σ : MS) {k : Int} (hk : -1 ≤ k ∧ k ≤ 4) : CM l yX8_rateOf wsX8_rateOf ({ frames := 0, cells := 0, slots := 0, locals := 0 } : Room) D cy d0 A [.ref (la 2 0), .int (iI k)] la σ (some (.int (iI (if k < 0 then 0 else σ 29 k)))) (σ) (-2147483648 ≤ (if k < 0 then 0 else σ 29 k) ∧ (if k < 0 then 0 else σ 29 k) < 2147483648) := by
  refine cn_of (cc := cX8_rateOf) (nL := 2) (ret := (some .int)) (by decide) rfl (Nat.le_of_ble_eq_true rfl) ?_
  intro p e s m args below meth c ls E hr hlk hK hC hS hl
  have B := E.1
  have hml := E.2.1
  have hown := E.2.2.1
  have hts0 := E.2.2.2.1
  have hts := E.2.2.2.1
  have hw := hC.2.2.2.2.2.1
  refine x_iload_n B hl dX8_rateOf_0 rfl ?_
  refine x_if_lt (tgt := 22) B dX8_rateOf_1 (by decide) (by omega) (fun c_1 => ?_) (fun c_1 => ?_)
  · refine x_iconst B dX8_rateOf_22 ?_
    exact cm_iret E hr rfl hlk hC hS dX8_rateOf_23 (by first | rfl | (rw [if_pos (by omega)]; done) | (rw [if_neg (by omega)]; done) | exact (show False by omega).elim) rfl (by first | trivial | omega)
  · refine x_iload_n B hl dX8_rateOf_4 rfl ?_
    refine x_aload_n B hl dX8_rateOf_5 rfl ?_
    refine co_getR (x := la 14 0) E hC 2 (by decide) cl_2 rfl (fun z h => List.mem_cons_of_mem _ (List.mem_append_right _ h)) 1 (by decide) (hts (.fieldLink RX8 15 "BinRounds$Tables" "rates" "[I") (by decide +kernel)) (fun x hx => hx) dX8_rateOf_6 rfl rfl ?_
    refine co_alenz (κ := 14) (z := 5) E hC (by decide) cl_14 rfl dX8_rateOf_9 ?_
    refine x_icmp_ge (tgt := 22) B dX8_rateOf_10 (by decide) (by omega) (by omega) (fun c_10 => ?_) (fun c_10 => ?_)
    · refine x_iconst B dX8_rateOf_22 ?_
      exact cm_iret E hr rfl hlk hC hS dX8_rateOf_23 (by first | rfl | (rw [if_pos (by omega)]; done) | (rw [if_neg (by omega)]; done) | exact (show False by omega).elim) rfl (by first | trivial | omega)
    · refine x_aload_n B hl dX8_rateOf_13 rfl ?_
      refine co_getR (x := la 14 0) E hC 2 (by decide) cl_2 rfl (fun z h => List.mem_cons_of_mem _ (List.mem_append_right _ h)) 1 (by decide) (hts (.fieldLink RX8 15 "BinRounds$Tables" "rates" "[I") (by decide +kernel)) (fun x hx => hx) dX8_rateOf_14 rfl rfl ?_
      refine x_iload_n B hl dX8_rateOf_17 rfl ?_
      refine co_ald (κ := 14) (w := σ 29 k) E hC (by decide) cl_14 (by have h9 : aLn 14 = 5 := rfl; omega) (by decide) dX8_rateOf_18 rfl (fun r_18 => ?_)
      refine x_goto (tgt := 23) B dX8_rateOf_19 (by decide) ?_
      exact cm_iret E hr rfl hlk hC hS dX8_rateOf_23 (by first | rfl | (rw [if_pos (by omega)]; done) | (rw [if_neg (by omega)]; done) | exact (show False by omega).elim) rfl (by first | trivial | omega)
