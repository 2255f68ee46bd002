section CM5
variable {p : Program} {l : Launch} {e : Env} {R : Room} {s : State} {m : MethodId} {args : Array Value} {below : List Frame} {meth : Method} {c : Code} {H : Heap} {locs : List Loc} {cells slots : Nat} {Q : State → Prop}
variable {cc : ByteArray} {pc : Nat} {ls : Array Slot} {rest st : List Value} {nL : Nat} {lv : List (Nat × Value)} {Ts : List Cond} {D : va_G} {cy : Nat → ClassId} {d0 : Nat} {A : Nat → Prop} {la : Nat → Int → Nat} {σ : MS} {own C : String} {T : u_T}
theorem co_eq {κ : Nat} {i j : Int} (hC : CP D cy d0 A la σ H) (hκ : κ ≤ 18) (h1 : cLive la σ κ i) (h2 : cLive la σ κ j) (h : some (la κ i) = some (la κ j)) : i = j := (hC.2.2.2.1 κ κ i j hκ hκ h1 h2 (Option.some.inj h)).2
theorem x_aloadN {i : Nat} (B : xB p c cc) (hl : lv_has ls nL lv) (d : decode cc pc = .ok (.aload i, 2)) (hk : lget lv i = some .null) (kk : W p l e R s m args below meth c H locs cells slots Q (F0 m (pc + 2) ls (.null :: rest))) : W p l e R s m args below meth c H locs cells slots Q (F0 m pc ls rest) := lv_aloadN B.1 B.2 d (lget_at hl hk) kk
theorem x_aloadN_n {k : Fin 4} (B : xB p c cc) (hl : lv_has ls nL lv) (d : decode cc pc = .ok (.aload_n k, 1)) (hk : lget lv (k : Nat) = some .null) (kk : W p l e R s m args below meth c H locs cells slots Q (F0 m (pc + 1) ls (.null :: rest))) : W p l e R s m args below meth c H locs cells slots Q (F0 m pc ls rest) := lv_aload_nN B.1 B.2 d rfl (lget_at hl hk) kk
theorem x_astoreN {i : Nat} (B : xB p c cc) (hl : lv_has ls nL lv) (d : decode cc pc = .ok (.astore i, 2)) (hn : i < nL) (kk : ∀ ls' : Array Slot, lv_has ls' nL (lset lv i .null) → W p l e R s m args below meth c H locs cells slots Q (F0 m (pc + 2) ls' rest)) : W p l e R s m args below meth c H locs cells slots Q (F0 m pc ls (.null :: rest)) := lv_astoreN B.1 B.2 d hl hn rfl kk
theorem x_astoreN_n {k : Fin 4} (B : xB p c cc) (hl : lv_has ls nL lv) (d : decode cc pc = .ok (.astore_n k, 1)) (hn : (k : Nat) < nL) (kk : ∀ ls' : Array Slot, lv_has ls' nL (lset lv (k : Nat) .null) → W p l e R s m args below meth c H locs cells slots Q (F0 m (pc + 1) ls' rest)) : W p l e R s m args below meth c H locs cells slots Q (F0 m pc ls (.null :: rest)) := lv_astore_nN B.1 B.2 d rfl hl hn rfl kk
end CM5
theorem cSz_0 {σ : MS} : cSz σ 0 = σ 5 0 := rfl
theorem cSz_1 {σ : MS} : cSz σ 1 = σ 11 0 := rfl
theorem cSz_3 {σ : MS} : cSz σ 3 = σ 27 0 := rfl
/-- the first of the last tips that are of the open day -/
def sFt (σ : MS) : Nat → Int
  | 0 => 0
  | n + 1 => if σ 32 (n : Int) = σ 1 0 then sFt σ n else (n : Int) + 1
def sFirst (σ : MS) : Int := sFt σ (σ 45 0).toNat
theorem sFt_s {σ : MS} {k : Int} (h : 0 < k) : sFt σ k.toNat = if σ 32 (k - 1) = σ 1 0 then sFt σ (k - 1).toNat else k := by
  rw [show k.toNat = (k - 1).toNat + 1 by omega, sFt, Int.toNat_of_nonneg (by omega)]
  split <;> first | rfl | omega
theorem sFt_r (σ : MS) : ∀ n : Nat, 0 ≤ sFt σ n ∧ sFt σ n ≤ n
  | 0 => by simp [sFt]
  | n + 1 => by
    have := sFt_r σ n
    rw [sFt]
    split <;> omega
abbrev sOrd (σ : MS) : Prop := (∀ i j, 0 ≤ i → i ≤ j → j < σ 45 0 → σ 32 i ≤ σ 32 j) ∧ ∀ i, 0 ≤ i → i < σ 45 0 → σ 32 i ≤ σ 1 0
theorem sFt_o {σ : MS} : ∀ (n : Nat) (i : Int), sFt σ n ≤ i → i < n → σ 32 i = σ 1 0
  | 0, i, h1, h2 => by simp [sFt] at h1; omega
  | n + 1, i, h1, h2 => by
    rw [sFt] at h1
    split at h1
    · rename_i h
      by_cases hi : i = n
      · rw [hi]; exact h
      · exact sFt_o n i h1 (by omega)
    · omega
theorem sFt_b {σ : MS} (ho : sOrd σ) : ∀ (n : Nat), (n : Int) ≤ σ 45 0 → ∀ i : Int, 0 ≤ i → i < sFt σ n → ¬ σ 32 i = σ 1 0
  | 0, _, i, h1, h2 => by simp [sFt] at h2; omega
  | n + 1, hn, i, h1, h2 => by
    rw [sFt] at h2
    split at h2
    · exact sFt_b ho n (by omega) i h1 h2
    · rename_i h
      have a1 := ho.1 i n h1 (by omega) (by omega)
      have a2 := ho.2 n (by omega) (by omega)
      omega
theorem sHt_0 {σ : MS} (ho : sOrd σ) (q : Int) : ∀ (n : Nat), (n : Int) ≤ sFirst σ → sHt σ q n = 0
  | 0, _ => rfl
  | n + 1, hn => by
    have h1 := sFt_r σ (σ 45 0).toNat
    have h2 : sFirst σ ≤ ((σ 45 0).toNat : Int) := h1.2
    by_cases h9 : σ 45 0 < 0
    · rw [show (σ 45 0).toNat = 0 by omega] at h2
      omega
    · have h3 := sFt_b ho (σ 45 0).toNat (by omega) n (by omega) (by have : sFt σ (σ 45 0).toNat = sFirst σ := rfl; omega)
      rw [sHt, sHt_0 ho q n (by omega), if_neg (fun z => h3 z.1)]
      rfl
/-- parts and weights all nought, of the first n houses -/
def zW (σ : MS) : Nat → MS
  | 0 => σ
  | n + 1 => up (up (zW σ n) 52 (n : Int) 0) 51 (n : Int) 0
theorem zW_s {σ : MS} {k : Int} (h : 0 ≤ k) : zW σ (k + 1).toNat = up (up (zW σ k.toNat) 52 k 0) 51 k 0 := by
  rw [show (k + 1).toNat = k.toNat + 1 by omega, zW, Int.toNat_of_nonneg h]
theorem zW_f {σ : MS} {f : Nat} (h1 : f ≠ 51) (h2 : f ≠ 52) : ∀ n : Nat, zW σ n f = σ f
  | 0 => rfl
  | n + 1 => by rw [zW, up_f h1, up_f h2, zW_f h1 h2 n]
theorem zW_q {σ : MS} (n : Nat) : cLq σ (zW σ n) := ⟨zW_f (by decide) (by decide) n, zW_f (by decide) (by decide) n, zW_f (by decide) (by decide) n, zW_f (by decide) (by decide) n, zW_f (by decide) (by decide) n, zW_f (by decide) (by decide) n, zW_f (by decide) (by decide) n⟩
theorem gOff_q {σ : MS} (n : Nat) : cLq σ (gOff σ n) := ⟨gOff_f (by decide) n, gOff_f (by decide) n, gOff_f (by decide) n, gOff_f (by decide) n, gOff_f (by decide) n, gOff_f (by decide) n, gOff_f (by decide) n⟩
theorem c_ownerOn_n (l : Launch) (D : va_G) (cy : Nat → ClassId) (d0 : Nat) (A : Nat → Prop) (la : Nat → Int → Nat) (σ : MS) {b d : Int} (hb : 0 ≤ b ∧ b < σ 23 0) (hd : -2147483648 ≤ d ∧ d < 2147483648) (hm : 0 ≤ σ 18 b ∧ σ 18 b ≤ 8) (hv : ∀ j, 0 ≤ σ 16 j) (hx : sHouse σ b d < 0) : CM l yX0_ownerOn wsX0_ownerOn ({ frames := 3, cells := 0, slots := 0, locals := 64 } : Room) D cy d0 A [.ref (la 6 b), .int (iI d)] la σ (some .null) σ True := by
  have h := c_ownerOn l D cy d0 A la σ hb hd hm hv
  rw [if_pos hx] at h
  exact h
theorem c_ownerOn_r (l : Launch) (D : va_G) (cy : Nat → ClassId) (d0 : Nat) (A : Nat → Prop) (la : Nat → Int → Nat) (σ : MS) {b d : Int} (hb : 0 ≤ b ∧ b < σ 23 0) (hd : -2147483648 ≤ d ∧ d < 2147483648) (hm : 0 ≤ σ 18 b ∧ σ 18 b ≤ 8) (hv : ∀ j, 0 ≤ σ 16 j) (hx : ¬ sHouse σ b d < 0) : CM l yX0_ownerOn wsX0_ownerOn ({ frames := 3, cells := 0, slots := 0, locals := 64 } : Room) D cy d0 A [.ref (la 6 b), .int (iI d)] la σ (some (.ref (la 5 (sHouse σ b d)))) σ True := by
  have h := c_ownerOn l D cy d0 A la σ hb hd hm hv
  rw [if_neg hx] at h
  exact h
set_option maxHeartbeats 4000000 in
set_option maxRecDepth 100000 in
theorem c_roundDay (l : Launch) (D : va_G) (cy : Nat → ClassId) (d0 : Nat) (A : Nat → Prop) (la : Nat → Int → Nat) (σ : MS) {st g wk : Int} (hs : 0 ≤ st ∧ st < σ 5 0) (hg : 0 ≤ g ∧ g ≤ 2) (hk : 0 ≤ wk ∧ wk ≤ 1000) (h4 : 0 ≤ σ 4 (3 * st + g) ∧ σ 4 (3 * st + g) ≤ 3) (h3 : 0 ≤ σ 3 (3 * st + g) ∧ σ 3 (3 * st + g) ≤ 4) : CM l yX10_roundDay wsX10_roundDay ({ frames := 2, cells := 0, slots := 0, locals := 46 } : Room) D cy d0 A [.ref (la 0 0), .ref (la 4 st), .int (iI g), .int (iI wk)] la σ (some (.int (iI (sDay σ st g wk)))) (σ) (-2 ≤ sDay σ st g wk ∧ sDay σ st g wk ≤ 7 * wk + 5) := by
  refine cn_of (cc := cX10_roundDay) (nL := 4) (ret := (some .int)) (by decide) rfl (Nat.le_of_ble_eq_true rfl) ?_
  intro p e s m args below meth c ls E hr hlk hK hC hS hl
  have B := E.1
  have hml := E.2.1
  have hown := E.2.2.1
  have hts0 := E.2.2.2.1
  have hts := E.2.2.2.1
  have hw := hC.2.2.2.2.2.1
  refine x_aload_n B hl dX10_roundDay_0 rfl ?_
  refine x_iload_n B hl dX10_roundDay_1 rfl ?_
  refine x_iload_n B hl dX10_roundDay_2 rfl ?_
  refine co_call E hK hC hS hl (κ := 4) (i := st) (by decide) (cl_4 hs) rfl (c_hasRoundIn l D cy d0 A la σ hs hg (by omega) h4) (cwV 2 hts0 gX10_roundDay_X7_hasRoundIn rfl rfl rfl (by decide +kernel) ⟨Nat.le_of_ble_eq_true rfl, Nat.le_of_ble_eq_true rfl⟩) rfl rfl (Nat.le_of_ble_eq_true rfl) dX10_roundDay_3 ⟨Nat.zero_le _, Nat.zero_le _⟩ (fun H locs q_3 hC hS => ?_)
  refine x_bool (fun b_3 => ?_) (fun b_3 => ?_)
  · refine x_if_ne_t (tgt := 11) B dX10_roundDay_6 (by decide) (by decide) ?_
    refine x_aload_n B hl dX10_roundDay_11 rfl ?_
    refine co_getR (x := la 1 0) E hC 0 (by decide) cl_0 rfl (fun z h => List.mem_cons_of_mem _ (List.mem_append_left _ (List.mem_append_left _ (List.mem_append_right _ h)))) 5 (by decide) (hts (.fieldLink RX10 31 "BinRounds" "calendar" "LBinRounds$Calendar;") (by decide +kernel)) (fun x hx => hx) dX10_roundDay_12 rfl rfl ?_
    refine x_iload_n B hl dX10_roundDay_15 rfl ?_
    refine x_aload_n B hl dX10_roundDay_16 rfl ?_
    refine x_iload_n B hl dX10_roundDay_17 rfl ?_
    refine co_call E hK hC hS hl (κ := 4) (i := st) (by decide) (cl_4 hs) rfl (c_weekdayOf l D cy d0 A la σ hs hg) (cwV 1 hts0 gX10_roundDay_X7_weekdayOf rfl rfl rfl (by decide +kernel) ⟨Nat.le_of_ble_eq_true rfl, Nat.le_of_ble_eq_true rfl⟩) rfl rfl (Nat.le_of_ble_eq_true rfl) dX10_roundDay_18 ⟨Nat.zero_le _, Nat.zero_le _⟩ (fun H locs q_18 hC hS => ?_)
    refine co_call E hK hC hS hl (κ := 1) (i := 0) (by decide) cl_1 rfl (c_workday l D cy d0 A la σ (wk := wk) (by omega) h3) (cwV 2 hts0 gX10_roundDay_X1_workday rfl rfl rfl (by decide +kernel) ⟨Nat.le_of_ble_eq_true rfl, Nat.le_of_ble_eq_true rfl⟩) rfl rfl (Nat.le_of_ble_eq_true rfl) dX10_roundDay_21 ⟨Nat.zero_le _, Nat.zero_le _⟩ (fun H locs q_21 hC hS => ?_)
    exact cm_iret E hr rfl hlk hC hS dX10_roundDay_24 (by unfold sDay; unfold sHasR at b_3; rw [if_neg b_3]) rfl (by unfold sDay; unfold sHasR at b_3; rw [if_neg b_3]; omega)
  · refine x_if_ne_f (tgt := 11) B dX10_roundDay_6 (by decide) (by decide) ?_
    refine x_iconst B dX10_roundDay_9 ?_
    exact cm_iret E hr rfl hlk hC hS dX10_roundDay_10 (by unfold sDay; unfold sHasR at b_3; rw [if_pos (by omega)]) rfl (by unfold sDay; unfold sHasR at b_3; rw [if_pos (by omega)]; omega)
set_option maxHeartbeats 4000000 in
set_option maxRecDepth 100000 in
theorem c_countBearing (l : Launch) (D : va_G) (cy : Nat → ClassId) (d0 : Nat) (A : Nat → Prop) (la : Nat → Int → Nat) (σ : MS) {mk : Int} (hmk : -2147483648 ≤ mk ∧ mk < 2147483648) (hn23 : 0 ≤ σ 23 0 ∧ σ 23 0 ≤ 1000) (hlg : σ 58 0 = 0 ∧ σ 59 0 = 0) : CM l yX10_countBearing wsX10_countBearing ({ frames := 3, cells := 0, slots := 0, locals := 64 } : Room) D cy d0 A [.ref (la 0 0), .int (iI mk)] la σ (some (.int (iI (sBear σ mk)))) (σ) (0 ≤ sBear σ mk ∧ sBear σ mk ≤ 1000) := by
  refine cn_of (cc := cX10_countBearing) (nL := 4) (ret := (some .int)) (by decide) rfl (Nat.le_of_ble_eq_true rfl) ?_
  intro p e s m args below meth c ls E hr hlk hK hC hS hl
  have B := E.1
  have hml := E.2.1
  have hown := E.2.2.1
  have hts0 := E.2.2.2.1
  have hts := E.2.2.2.1
  have hw := hC.2.2.2.2.2.1
  have loop : ∀ (n : Nat) (b : Int) (H : Heap) (locs : List Loc) (ls : Array Slot), 0 ≤ b → b ≤ σ 23 0 → σ 23 0 - b < n → CP D cy d0 A la σ H → va_S A s.heap H locs → lv_has ls 4 [(0, .ref (la 0 0)), (1, .int (iI mk)), (2, .int (iI (sBr σ mk b.toNat))), (3, .int (iI b))] → W p l e ({ frames := 3, cells := 0, slots := 0, locals := 64 } : Room) s m args below meth c H locs 0 0 (MQ below (cQ D cy d0 A (fun v' la' τ => v' = (some (.int (iI (sBear σ mk)))) ∧ la' = la ∧ τ = (σ) ∧ (0 ≤ sBear σ mk ∧ sBear σ mk ≤ 1000))) args s 0 0 A) (F0 m 4 ls []) := by
    intro n
    induction n with
    | zero => intro b H locs ls h1 h2 h3; exact absurd h3 (by omega)
    | succ n ih =>
      intro b H locs ls h1 h2 h3 hC hS hl
      refine x_iload_n B hl dX10_countBearing_4 rfl ?_
      refine x_aload_n B hl dX10_countBearing_5 rfl ?_
      refine co_getR (x := la 11 2) E hC 0 (by decide) cl_0 rfl (fun z h => List.mem_cons_of_mem _ (List.mem_append_left _ (List.mem_append_left _ (List.mem_append_right _ h)))) 2 (by decide) (hts (.fieldLink RX10 19 "BinRounds" "bins" "Ljava/util/ArrayList;") (by decide +kernel)) (fun x hx => hx) dX10_countBearing_6 rfl rfl ?_
      refine co_call E hK hC hS hl (κ := 11) (i := 2) (by decide) (cl_11 (by omega)) rfl (c_size l D cy d0 A la _ (L := 2) (n := σ 23 0) (cl_11 (by omega)) ((cSz_2 ((rfl).trans hlg.2)).trans rfl)) (cwV 0 hts0 gX10_countBearing_Jx4a65c_size_8abf5 rfl rfl rfl (by decide +kernel) ⟨Nat.le_of_ble_eq_true rfl, Nat.le_of_ble_eq_true rfl⟩) rfl rfl (Nat.le_of_ble_eq_true rfl) dX10_countBearing_9 ⟨Nat.zero_le _, Nat.zero_le _⟩ (fun H locs q_9 hC hS => ?_)
      refine x_icmp_ge (tgt := 42) B dX10_countBearing_12 (by decide) (by omega) (by omega) (fun c_12 => ?_) (fun c_12 => ?_)
      · refine x_iload_n B hl dX10_countBearing_42 rfl ?_
        exact cm_iret E hr rfl hlk hC hS dX10_countBearing_43 (by rw [show b = σ 23 0 by omega]; rfl) rfl (by have := sBr_r σ mk (σ 23 0).toNat; unfold sBear; omega)
      · refine x_aload_n B hl dX10_countBearing_15 rfl ?_
        refine co_getR (x := la 11 2) E hC 0 (by decide) cl_0 rfl (fun z h => List.mem_cons_of_mem _ (List.mem_append_left _ (List.mem_append_left _ (List.mem_append_right _ h)))) 2 (by decide) (hts (.fieldLink RX10 19 "BinRounds" "bins" "Ljava/util/ArrayList;") (by decide +kernel)) (fun x hx => hx) dX10_countBearing_16 rfl rfl ?_
        refine x_iload_n B hl dX10_countBearing_19 rfl ?_
        refine co_call E hK hC hS hl (κ := 11) (i := 2) (by decide) (cl_11 (by omega)) rfl (c_get l D cy d0 A la _ (L := 2) (n := σ 23 0) (j := b) (x := la 6 b) (cl_11 (by omega)) ((cSz_2 ((rfl).trans hlg.2)).trans rfl) (by omega) (by omega) rfl) (cwV 1 hts0 gX10_countBearing_Jx4a65c_get_915e3 rfl rfl rfl (by decide +kernel) ⟨Nat.le_of_ble_eq_true rfl, Nat.le_of_ble_eq_true rfl⟩) rfl rfl (Nat.le_of_ble_eq_true rfl) dX10_countBearing_20 ⟨Nat.zero_le _, Nat.zero_le _⟩ (fun H locs q_20 hC hS => ?_)
        refine co_cast E hK hC 6 (by decide) (cl_6 (by omega)) rfl (by decide +kernel) dX10_countBearing_23 ?_
        refine x_iload_n B hl dX10_countBearing_26 rfl ?_
        refine co_call E hK hC hS hl (κ := 6) (i := b) (by decide) (cl_6 (by omega)) rfl (c_bears l D cy d0 A la σ (b := b) (z := mk) (by omega) hmk) (cwV 1 hts0 gX10_countBearing_X0_bears rfl rfl rfl (by decide +kernel) ⟨Nat.le_of_ble_eq_true rfl, Nat.le_of_ble_eq_true rfl⟩) rfl rfl (Nat.le_of_ble_eq_true rfl) dX10_countBearing_27 ⟨Nat.zero_le _, Nat.zero_le _⟩ (fun H locs q_27 hC hS => ?_)
        refine x_bool (fun b_27 => ?_) (fun b_27 => ?_)
        · refine x_if_eq_f (tgt := 36) B dX10_countBearing_30 (by decide) (by decide) ?_
          refine x_iinc B hl dX10_countBearing_33 rfl (by decide) (fun ls hl => ?_)
          refine x_iinc B hl dX10_countBearing_36 rfl (by decide) (fun ls hl => ?_)
          refine x_goto (tgt := 4) B dX10_countBearing_39 (by decide) ?_
          exact ih (b + 1) H locs ls (by omega) (by omega) (by omega) (hC) hS (lv_key hl [(0, .ref (la 0 0)), (1, .int (iI mk)), (2, .int (iI (sBr σ mk (b + 1).toNat))), (3, .int (iI (b + 1)))] (by first | (rw [sBr_s (by omega), if_pos (by assumption)]; rfl) | (rw [sBr_s (by omega), if_neg (by assumption)]; rw [Int.add_zero]; rfl)))
        · refine x_if_eq_t (tgt := 36) B dX10_countBearing_30 (by decide) (by decide) ?_
          refine x_iinc B hl dX10_countBearing_36 rfl (by decide) (fun ls hl => ?_)
          refine x_goto (tgt := 4) B dX10_countBearing_39 (by decide) ?_
          exact ih (b + 1) H locs ls (by omega) (by omega) (by omega) (hC) hS (lv_key hl [(0, .ref (la 0 0)), (1, .int (iI mk)), (2, .int (iI (sBr σ mk (b + 1).toNat))), (3, .int (iI (b + 1)))] (by first | (rw [sBr_s (by omega), if_pos (by assumption)]; rfl) | (rw [sBr_s (by omega), if_neg (by assumption)]; rw [Int.add_zero]; rfl)))
  refine x_iconst B dX10_countBearing_0 ?_
  refine x_istore_n B hl dX10_countBearing_1 (by decide) (fun ls hl => ?_)
  refine x_iconst B dX10_countBearing_2 ?_
  refine x_istore_n B hl dX10_countBearing_3 (by decide) (fun ls hl => ?_)
  exact loop 1001 0 _ _ ls (by omega) (by omega) (by omega) (hC) hS (lv_key hl [(0, .ref (la 0 0)), (1, .int (iI mk)), (2, .int (iI (sBr σ mk (0 : Int).toNat))), (3, .int (iI 0))] rfl)
set_option maxHeartbeats 4000000 in
set_option maxRecDepth 100000 in
theorem c_numberOf_n (l : Launch) (D : va_G) (cy : Nat → ClassId) (d0 : Nat) (A : Nat → Prop) (la : Nat → Int → Nat) (σ : MS)   : CM l yX10_numberOf wsX10_numberOf ({ frames := 0, cells := 0, slots := 0, locals := 0 } : Room) D cy d0 A [.null] la σ (some (.int (iI (-1)))) (σ) (True) := by
  refine cn_of (cc := cX10_numberOf) (nL := 1) (ret := (some .int)) (by decide) rfl (Nat.le_of_ble_eq_true rfl) ?_
  intro p e s m args below meth c ls E hr hlk hK hC hS hl
  have B := E.1
  have hml := E.2.1
  have hown := E.2.2.1
  have hts0 := E.2.2.2.1
  have hts := E.2.2.2.1
  have hw := hC.2.2.2.2.2.1
  refine x_aloadN_n B hl dX10_numberOf_0 rfl ?_
  refine lv_ifnonnullN B.1 B.2 dX10_numberOf_1 ?_
  refine x_iconst B dX10_numberOf_4 ?_
  refine x_goto (tgt := 12) B dX10_numberOf_5 (by decide) ?_
  exact cm_iret E hr rfl hlk hC hS dX10_numberOf_12 rfl rfl (by first | trivial | omega)
set_option maxHeartbeats 4000000 in
set_option maxRecDepth 100000 in
theorem c_numberOf_r (l : Launch) (D : va_G) (cy : Nat → ClassId) (d0 : Nat) (A : Nat → Prop) (la : Nat → Int → Nat) (σ : MS) {h : Int} (hh : 0 ≤ h ∧ h < σ 11 0) : CM l yX10_numberOf wsX10_numberOf ({ frames := 0, cells := 0, slots := 0, locals := 0 } : Room) D cy d0 A [.ref (la 5 h)] la σ (some (.int (iI h))) (σ) (True) := by
  refine cn_of (cc := cX10_numberOf) (nL := 1) (ret := (some .int)) (by decide) rfl (Nat.le_of_ble_eq_true rfl) ?_
  intro p e s m args below meth c ls E hr hlk hK hC hS hl
  have B := E.1
  have hml := E.2.1
  have hown := E.2.2.1
  have hts0 := E.2.2.2.1
  have hts := E.2.2.2.1
  have hw := hC.2.2.2.2.2.1
  refine x_aload_n B hl dX10_numberOf_0 rfl ?_
  refine lv_ifnonnull (tgt := 8) B.1 B.2 dX10_numberOf_1 (by decide) ?_
  refine x_aload_n B hl dX10_numberOf_8 rfl ?_
  refine co_getn E hC 5 (by decide) (cl_5 hh) rfl (fun z h => List.mem_cons_of_mem _ (List.mem_append_right _ h)) 0 (by decide) (hts (.fieldLink RX10 114 "BinRounds$House" "number" "I") (by decide +kernel)) (fun x hx => hx) dX10_numberOf_9 rfl ?_
  exact cm_iret E hr rfl hlk hC hS dX10_numberOf_12 rfl rfl (by first | trivial | omega)
set_option maxHeartbeats 4000000 in
set_option maxRecDepth 100000 in
theorem c_countBinsAt (l : Launch) (D : va_G) (cy : Nat → ClassId) (d0 : Nat) (A : Nat → Prop) (la : Nat → Int → Nat) (σ : MS) {h : Int} (hh : 0 ≤ h ∧ h < σ 11 0) (hho : ∀ b, 0 ≤ b ∧ b < σ 23 0 → ¬ sHouse σ b (σ 1 0) < 0 → 0 ≤ sHouse σ b (σ 1 0) ∧ sHouse σ b (σ 1 0) < σ 11 0) (hn23 : 0 ≤ σ 23 0 ∧ σ 23 0 ≤ 1000) (hm : ∀ b, 0 ≤ σ 18 b ∧ σ 18 b ≤ 8) (hv : ∀ j, 0 ≤ σ 16 j) (hop : 0 ≤ σ 1 0 ∧ σ 1 0 ≤ 699) (hlg : σ 58 0 = 0 ∧ σ 59 0 = 0) : CM l yX10_countBinsAt wsX10_countBinsAt ({ frames := 4, cells := 0, slots := 0, locals := 86 } : Room) D cy d0 A [.ref (la 0 0), .ref (la 5 h)] la σ (some (.int (iI (sSum (fun b => if sHouse σ b (σ 1 0) = h then 1 else 0) (σ 23 0).toNat)))) (σ) (True) := by
  refine cn_of (cc := cX10_countBinsAt) (nL := 4) (ret := (some .int)) (by decide) rfl (Nat.le_of_ble_eq_true rfl) ?_
  intro p e s m args below meth c ls E hr hlk hK hC hS hl
  have B := E.1
  have hml := E.2.1
  have hown := E.2.2.1
  have hts0 := E.2.2.2.1
  have hts := E.2.2.2.1
  have hw := hC.2.2.2.2.2.1
  have loop : ∀ (n : Nat) (b : Int) (H : Heap) (locs : List Loc) (ls : Array Slot), 0 ≤ b → b ≤ σ 23 0 → σ 23 0 - b < n → CP D cy d0 A la σ H → va_S A s.heap H locs → lv_has ls 4 [(0, .ref (la 0 0)), (1, .ref (la 5 h)), (2, .int (iI (sSum (fun b => if sHouse σ b (σ 1 0) = h then 1 else 0) b.toNat))), (3, .int (iI b))] → W p l e ({ frames := 4, cells := 0, slots := 0, locals := 86 } : Room) s m args below meth c H locs 0 0 (MQ below (cQ D cy d0 A (fun v' la' τ => v' = (some (.int (iI (sSum (fun b => if sHouse σ b (σ 1 0) = h then 1 else 0) (σ 23 0).toNat)))) ∧ la' = la ∧ τ = (σ) ∧ (True))) args s 0 0 A) (F0 m 4 ls []) := by
    intro n
    induction n with
    | zero => intro b H locs ls h1 h2 h3; exact absurd h3 (by omega)
    | succ n ih =>
      intro b H locs ls h1 h2 h3 hC hS hl
      refine x_iload_n B hl dX10_countBinsAt_4 rfl ?_
      refine x_aload_n B hl dX10_countBinsAt_5 rfl ?_
      refine co_getR (x := la 11 2) E hC 0 (by decide) cl_0 rfl (fun z h => List.mem_cons_of_mem _ (List.mem_append_left _ (List.mem_append_left _ (List.mem_append_left _ (List.mem_append_right _ h))))) 2 (by decide) (hts (.fieldLink RX10 19 "BinRounds" "bins" "Ljava/util/ArrayList;") (by decide +kernel)) (fun x hx => hx) dX10_countBinsAt_6 rfl rfl ?_
      refine co_call E hK hC hS hl (κ := 11) (i := 2) (by decide) (cl_11 (by omega)) rfl (c_size l D cy d0 A la _ (L := 2) (n := σ 23 0) (cl_11 (by omega)) ((cSz_2 ((rfl).trans hlg.2)).trans rfl)) (cwV 0 hts0 gX10_countBinsAt_Jx4a65c_size_8abf5 rfl rfl rfl (by decide +kernel) ⟨Nat.le_of_ble_eq_true rfl, Nat.le_of_ble_eq_true rfl⟩) rfl rfl (Nat.le_of_ble_eq_true rfl) dX10_countBinsAt_9 ⟨Nat.zero_le _, Nat.zero_le _⟩ (fun H locs q_9 hC hS => ?_)
      refine x_icmp_ge (tgt := 46) B dX10_countBinsAt_12 (by decide) (by omega) (by omega) (fun c_12 => ?_) (fun c_12 => ?_)
      · refine x_iload_n B hl dX10_countBinsAt_46 rfl ?_
        exact cm_iret E hr rfl hlk hC hS dX10_countBinsAt_47 (by rw [show b = σ 23 0 by omega]) rfl trivial
      · refine x_aload_n B hl dX10_countBinsAt_15 rfl ?_
        refine co_getR (x := la 11 2) E hC 0 (by decide) cl_0 rfl (fun z h => List.mem_cons_of_mem _ (List.mem_append_left _ (List.mem_append_left _ (List.mem_append_left _ (List.mem_append_right _ h))))) 2 (by decide) (hts (.fieldLink RX10 19 "BinRounds" "bins" "Ljava/util/ArrayList;") (by decide +kernel)) (fun x hx => hx) dX10_countBinsAt_16 rfl rfl ?_
        refine x_iload_n B hl dX10_countBinsAt_19 rfl ?_
        refine co_call E hK hC hS hl (κ := 11) (i := 2) (by decide) (cl_11 (by omega)) rfl (c_get l D cy d0 A la _ (L := 2) (n := σ 23 0) (j := b) (x := la 6 b) (cl_11 (by omega)) ((cSz_2 ((rfl).trans hlg.2)).trans rfl) (by omega) (by omega) rfl) (cwV 1 hts0 gX10_countBinsAt_Jx4a65c_get_915e3 rfl rfl rfl (by decide +kernel) ⟨Nat.le_of_ble_eq_true rfl, Nat.le_of_ble_eq_true rfl⟩) rfl rfl (Nat.le_of_ble_eq_true rfl) dX10_countBinsAt_20 ⟨Nat.zero_le _, Nat.zero_le _⟩ (fun H locs q_20 hC hS => ?_)
        refine co_cast E hK hC 6 (by decide) (cl_6 (by omega)) rfl (by decide +kernel) dX10_countBinsAt_23 ?_
        refine x_aload_n B hl dX10_countBinsAt_26 rfl ?_
        refine co_geti (f := 1) E hC 0 (by decide) cl_0 rfl (fun z h => List.mem_cons_of_mem _ (List.mem_append_left _ (List.mem_append_left _ (List.mem_append_left _ (List.mem_append_right _ h))))) 8 (by decide) (hts (.fieldLink RX10 49 "BinRounds" "open" "I") (by decide +kernel)) (fun x hx => hx) dX10_countBinsAt_27 ⟨rfl, rfl, rfl⟩ rfl (fun r_27 => ?_)
        by_cases hx : sHouse σ b (σ 1 0) < 0
        · refine co_call E hK hC hS hl (κ := 6) (i := b) (by decide) (cl_6 (by omega)) rfl (c_ownerOn_n l D cy d0 A la σ (b := b) (d := (σ 1 0)) (by omega) (by omega) (hm _) hv hx) (cwV 1 hts0 gX10_countBinsAt_X0_ownerOn rfl rfl rfl (by decide +kernel) ⟨Nat.le_of_ble_eq_true rfl, Nat.le_of_ble_eq_true rfl⟩) rfl rfl (Nat.le_of_ble_eq_true rfl) dX10_countBinsAt_30 ⟨Nat.zero_le _, Nat.zero_le _⟩ (fun H locs q_30 hC hS => ?_)
          refine x_aload_n B hl dX10_countBinsAt_33 rfl ?_
          refine lv_acmp_ne (rx := none) (ry := (some (la 5 h))) (tgt := 40) B.1 B.2 dX10_countBinsAt_34 (by decide) (fun c_34 => ?_) (fun c_34 => ?_)
          · refine x_iinc B hl dX10_countBinsAt_40 rfl (by decide) (fun ls hl => ?_)
            refine x_goto (tgt := 4) B dX10_countBinsAt_43 (by decide) ?_
            exact ih (b + 1) H locs ls (by omega) (by omega) (by omega) (hC) hS (lv_key hl [(0, .ref (la 0 0)), (1, .ref (la 5 h)), (2, .int (iI (sSum (fun b => if sHouse σ b (σ 1 0) = h then 1 else 0) (b + 1).toNat))), (3, .int (iI (b + 1)))] (by first | (rw [show sSum (fun b => if sHouse σ b (σ 1 0) = h then 1 else 0) (b + 1).toNat = sSum (fun b => if sHouse σ b (σ 1 0) = h then 1 else 0) b.toNat + 1 from (sSum_s (by omega)).trans (congrArg _ (if_pos (by omega)))]; rfl) | (rw [show sSum (fun b => if sHouse σ b (σ 1 0) = h then 1 else 0) (b + 1).toNat = sSum (fun b => if sHouse σ b (σ 1 0) = h then 1 else 0) b.toNat from (sSum_s (by omega)).trans ((congrArg _ (if_neg (by omega))).trans (Int.add_zero _))]; rfl)))
          · cases c_34
        · refine co_call E hK hC hS hl (κ := 6) (i := b) (by decide) (cl_6 (by omega)) rfl (c_ownerOn_r l D cy d0 A la σ (b := b) (d := (σ 1 0)) (by omega) (by omega) (hm _) hv hx) (cwV 1 hts0 gX10_countBinsAt_X0_ownerOn rfl rfl rfl (by decide +kernel) ⟨Nat.le_of_ble_eq_true rfl, Nat.le_of_ble_eq_true rfl⟩) rfl rfl (Nat.le_of_ble_eq_true rfl) dX10_countBinsAt_30 ⟨Nat.zero_le _, Nat.zero_le _⟩ (fun H locs q_30 hC hS => ?_)
          refine x_aload_n B hl dX10_countBinsAt_33 rfl ?_
          refine lv_acmp_ne (rx := (some (la 5 (sHouse σ b (σ 1 0))))) (ry := (some (la 5 h))) (tgt := 40) B.1 B.2 dX10_countBinsAt_34 (by decide) (fun c_34 => ?_) (fun c_34 => ?_)
          · have k_34 : ¬ (sHouse σ b (σ 1 0)) = h := fun z => c_34 (by rw [z])
            refine x_iinc B hl dX10_countBinsAt_40 rfl (by decide) (fun ls hl => ?_)
            refine x_goto (tgt := 4) B dX10_countBinsAt_43 (by decide) ?_
            exact ih (b + 1) H locs ls (by omega) (by omega) (by omega) (hC) hS (lv_key hl [(0, .ref (la 0 0)), (1, .ref (la 5 h)), (2, .int (iI (sSum (fun b => if sHouse σ b (σ 1 0) = h then 1 else 0) (b + 1).toNat))), (3, .int (iI (b + 1)))] (by first | (rw [show sSum (fun b => if sHouse σ b (σ 1 0) = h then 1 else 0) (b + 1).toNat = sSum (fun b => if sHouse σ b (σ 1 0) = h then 1 else 0) b.toNat + 1 from (sSum_s (by omega)).trans (congrArg _ (if_pos (by omega)))]; rfl) | (rw [show sSum (fun b => if sHouse σ b (σ 1 0) = h then 1 else 0) (b + 1).toNat = sSum (fun b => if sHouse σ b (σ 1 0) = h then 1 else 0) b.toNat from (sSum_s (by omega)).trans ((congrArg _ (if_neg (by omega))).trans (Int.add_zero _))]; rfl)))
          · have k_34 : (sHouse σ b (σ 1 0)) = h := co_eq hC (by decide) (cl_5 (hho b (by omega) hx)) (cl_5 hh) c_34
            refine x_iinc B hl dX10_countBinsAt_37 rfl (by decide) (fun ls hl => ?_)
            refine x_iinc B hl dX10_countBinsAt_40 rfl (by decide) (fun ls hl => ?_)
            refine x_goto (tgt := 4) B dX10_countBinsAt_43 (by decide) ?_
            exact ih (b + 1) H locs ls (by omega) (by omega) (by omega) (hC) hS (lv_key hl [(0, .ref (la 0 0)), (1, .ref (la 5 h)), (2, .int (iI (sSum (fun b => if sHouse σ b (σ 1 0) = h then 1 else 0) (b + 1).toNat))), (3, .int (iI (b + 1)))] (by first | (rw [show sSum (fun b => if sHouse σ b (σ 1 0) = h then 1 else 0) (b + 1).toNat = sSum (fun b => if sHouse σ b (σ 1 0) = h then 1 else 0) b.toNat + 1 from (sSum_s (by omega)).trans (congrArg _ (if_pos (by omega)))]; rfl) | (rw [show sSum (fun b => if sHouse σ b (σ 1 0) = h then 1 else 0) (b + 1).toNat = sSum (fun b => if sHouse σ b (σ 1 0) = h then 1 else 0) b.toNat from (sSum_s (by omega)).trans ((congrArg _ (if_neg (by omega))).trans (Int.add_zero _))]; rfl)))
  refine x_iconst B dX10_countBinsAt_0 ?_
  refine x_istore_n B hl dX10_countBinsAt_1 (by decide) (fun ls hl => ?_)
  refine x_iconst B dX10_countBinsAt_2 ?_
  refine x_istore_n B hl dX10_countBinsAt_3 (by decide) (fun ls hl => ?_)
  exact loop 1001 0 _ _ ls (by omega) (by omega) (by omega) (hC) hS (lv_key hl [(0, .ref (la 0 0)), (1, .ref (la 5 h)), (2, .int (iI (sSum (fun b => if sHouse σ b (σ 1 0) = h then 1 else 0) (0 : Int).toNat))), (3, .int (iI 0))] rfl)
set_option maxHeartbeats 4000000 in
set_option maxRecDepth 100000 in
theorem c_firstTipToday (l : Launch) (D : va_G) (cy : Nat → ClassId) (d0 : Nat) (A : Nat → Prop) (la : Nat → Int → Nat) (σ : MS)  (hn45 : 0 ≤ σ 45 0 ∧ σ 45 0 ≤ 600) (hn23 : 0 ≤ σ 23 0 ∧ σ 23 0 ≤ 1000) (hlg : σ 58 0 = 0 ∧ σ 59 0 = 0) : CM l yX10_firstTipToday wsX10_firstTipToday ({ frames := 3, cells := 0, slots := 0, locals := 64 } : Room) D cy d0 A [.ref (la 0 0)] la σ (some (.int (iI (sFirst σ)))) (σ) (0 ≤ sFirst σ ∧ sFirst σ ≤ σ 45 0) := by
  refine cn_of (cc := cX10_firstTipToday) (nL := 2) (ret := (some .int)) (by decide) rfl (Nat.le_of_ble_eq_true rfl) ?_
  intro p e s m args below meth c ls E hr hlk hK hC hS hl
  have B := E.1
  have hml := E.2.1
  have hown := E.2.2.1
  have hts0 := E.2.2.2.1
  have hts := E.2.2.2.1
  have hw := hC.2.2.2.2.2.1
  have loop : ∀ (n : Nat) (f : Int) (H : Heap) (locs : List Loc) (ls : Array Slot), 0 ≤ f → f ≤ σ 45 0 → sFt σ f.toNat = sFirst σ → f < n → CP D cy d0 A la σ H → va_S A s.heap H locs → lv_has ls 2 [(0, .ref (la 0 0)), (1, .int (iI f))] → W p l e ({ frames := 3, cells := 0, slots := 0, locals := 64 } : Room) s m args below meth c H locs 0 0 (MQ below (cQ D cy d0 A (fun v' la' τ => v' = (some (.int (iI (sFirst σ)))) ∧ la' = la ∧ τ = (σ) ∧ (0 ≤ sFirst σ ∧ sFirst σ ≤ σ 45 0))) args s 0 0 A) (F0 m 8 ls []) := by
    intro n
    induction n with
    | zero => intro f H locs ls h1 h2 h3 h4; exact absurd h4 (by omega)
    | succ n ih =>
      intro f H locs ls h1 h2 h3 h4 hC hS hl
      refine x_iload_n B hl dX10_firstTipToday_8 rfl ?_
      refine x_if_le (tgt := 41) B dX10_firstTipToday_9 (by decide) (by omega) (fun c_9 => ?_) (fun c_9 => ?_)
      · refine x_iload_n B hl dX10_firstTipToday_41 rfl ?_
        have hx : f = sFirst σ := by
          rw [← h3]
          by_cases hf : f = 0
          · subst hf; rfl
          · rw [sFt_s (by omega), if_neg (by omega)]
        exact cm_iret E hr rfl hlk hC hS dX10_firstTipToday_42 (by rw [hx]) rfl (by omega)
      · refine x_aload_n B hl dX10_firstTipToday_12 rfl ?_
        refine co_getR (x := la 11 4) E hC 0 (by decide) cl_0 rfl (fun z h => List.mem_cons_of_mem _ (List.mem_append_left _ (List.mem_append_left _ (List.mem_append_right _ h)))) 4 (by decide) (hts (.fieldLink RX10 25 "BinRounds" "tips" "Ljava/util/ArrayList;") (by decide +kernel)) (fun x hx => hx) dX10_firstTipToday_13 rfl rfl ?_
        refine x_iload_n B hl dX10_firstTipToday_16 rfl ?_
        refine x_iconst B dX10_firstTipToday_17 ?_
        refine x_isub B dX10_firstTipToday_18 ?_
        refine co_call E hK hC hS hl (κ := 11) (i := 4) (by decide) (cl_11 (by omega)) rfl (c_get l D cy d0 A la _ (L := 4) (n := σ 45 0) (j := (f - 1)) (x := la 10 (f - 1)) (cl_11 (by omega)) ((cSz_4 ((rfl).trans hlg.1)).trans rfl) (by omega) (by omega) rfl) (cwV 1 hts0 gX10_firstTipToday_Jx4a65c_get_915e3 rfl rfl rfl (by decide +kernel) ⟨Nat.le_of_ble_eq_true rfl, Nat.le_of_ble_eq_true rfl⟩) rfl rfl (Nat.le_of_ble_eq_true rfl) dX10_firstTipToday_19 ⟨Nat.zero_le _, Nat.zero_le _⟩ (fun H locs q_19 hC hS => ?_)
        refine co_cast E hK hC 10 (by decide) (cl_10 (by omega)) rfl (by decide +kernel) dX10_firstTipToday_22 ?_
        refine co_geti (f := 32) E hC 10 (by decide) (cl_10 (by omega)) rfl (fun z h => List.mem_cons_of_mem _ (List.mem_append_left _ (List.mem_append_right _ h))) 0 (by decide) (hts (.fieldLink RX10 229 "BinRounds$Tip" "day" "I") (by decide +kernel)) (fun x hx => hx) dX10_firstTipToday_25 ⟨rfl, rfl, rfl⟩ rfl (fun r_25 => ?_)
        refine x_aload_n B hl dX10_firstTipToday_28 rfl ?_
        refine co_geti (f := 1) E hC 0 (by decide) cl_0 rfl (fun z h => List.mem_cons_of_mem _ (List.mem_append_left _ (List.mem_append_left _ (List.mem_append_right _ h)))) 8 (by decide) (hts (.fieldLink RX10 49 "BinRounds" "open" "I") (by decide +kernel)) (fun x hx => hx) dX10_firstTipToday_29 ⟨rfl, rfl, rfl⟩ rfl (fun r_29 => ?_)
        refine x_icmp_ne (tgt := 41) B dX10_firstTipToday_32 (by decide) (by omega) (by omega) (fun c_32 => ?_) (fun c_32 => ?_)
        · refine x_iload_n B hl dX10_firstTipToday_41 rfl ?_
          have hx : f = sFirst σ := by
            rw [← h3]
            by_cases hf : f = 0
            · subst hf; rfl
            · rw [sFt_s (by omega), if_neg (by omega)]
          exact cm_iret E hr rfl hlk hC hS dX10_firstTipToday_42 (by rw [hx]) rfl (by omega)
        · refine x_iinc B hl dX10_firstTipToday_35 rfl (by decide) (fun ls hl => ?_)
          refine x_goto (tgt := 8) B dX10_firstTipToday_38 (by decide) ?_
          exact ih (f + -1) H locs ls (by omega) (by omega) (by rw [← h3, sFt_s (k := f) (by omega), if_pos (by omega), show f + -1 = f - 1 by omega]) (by omega) (hC) hS (lv_key hl [(0, .ref (la 0 0)), (1, .int (iI (f + -1)))] rfl)
  refine x_aload_n B hl dX10_firstTipToday_0 rfl ?_
  refine co_getR (x := la 11 4) E hC 0 (by decide) cl_0 rfl (fun z h => List.mem_cons_of_mem _ (List.mem_append_left _ (List.mem_append_left _ (List.mem_append_right _ h)))) 4 (by decide) (hts (.fieldLink RX10 25 "BinRounds" "tips" "Ljava/util/ArrayList;") (by decide +kernel)) (fun x hx => hx) dX10_firstTipToday_1 rfl rfl ?_
  refine co_call E hK hC hS hl (κ := 11) (i := 4) (by decide) (cl_11 (by omega)) rfl (c_size l D cy d0 A la _ (L := 4) (n := σ 45 0) (cl_11 (by omega)) ((cSz_4 ((rfl).trans hlg.1)).trans rfl)) (cwV 0 hts0 gX10_firstTipToday_Jx4a65c_size_8abf5 rfl rfl rfl (by decide +kernel) ⟨Nat.le_of_ble_eq_true rfl, Nat.le_of_ble_eq_true rfl⟩) rfl rfl (Nat.le_of_ble_eq_true rfl) dX10_firstTipToday_4 ⟨Nat.zero_le _, Nat.zero_le _⟩ (fun H locs q_4 hC hS => ?_)
  refine x_istore_n B hl dX10_firstTipToday_7 (by decide) (fun ls hl => ?_)
  exact loop 1001 (σ 45 0) _ _ ls (by omega) (by omega) rfl (by omega) (hC) hS (lv_key hl [(0, .ref (la 0 0)), (1, .int (iI (σ 45 0)))] rfl)
set_option maxHeartbeats 4000000 in
set_option maxRecDepth 100000 in
theorem c_halvesToday (l : Launch) (D : va_G) (cy : Nat → ClassId) (d0 : Nat) (A : Nat → Prop) (la : Nat → Int → Nat) (σ : MS) {q : Int} (hq : 0 ≤ q ∧ q < σ 27 0) (hn45 : 0 ≤ σ 45 0 ∧ σ 45 0 ≤ 600) (hn23 : 0 ≤ σ 23 0 ∧ σ 23 0 ≤ 1000) (hlg : σ 58 0 = 0 ∧ σ 59 0 = 0) (ho : sOrd σ) (hh : ∀ t, 0 ≤ t → t < σ 45 0 → 0 ≤ σ 35 t ∧ σ 35 t ≤ 3000000) (hct : ∀ t, 0 ≤ t → t < σ 45 0 → 0 ≤ σ 33 t ∧ σ 33 t < σ 27 0) : CM l yX10_halvesToday wsX10_halvesToday ({ frames := 4, cells := 0, slots := 0, locals := 85 } : Room) D cy d0 A [.ref (la 0 0), .ref (la 9 q)] la σ (some (.int (iI (sHalves σ q)))) (σ) (0 ≤ sHalves σ q ∧ sHalves σ q ≤ 1800000000) := by
  refine cn_of (cc := cX10_halvesToday) (nL := 4) (ret := (some .int)) (by decide) rfl (Nat.le_of_ble_eq_true rfl) ?_
  intro p e s m args below meth c ls E hr hlk hK hC hS hl
  have B := E.1
  have hml := E.2.1
  have hown := E.2.2.1
  have hts0 := E.2.2.2.1
  have hts := E.2.2.2.1
  have hw := hC.2.2.2.2.2.1
  have loop : ∀ (n : Nat) (t : Int) (H : Heap) (locs : List Loc) (ls : Array Slot), sFirst σ ≤ t → t ≤ σ 45 0 → σ 45 0 - t < n → CP D cy d0 A la σ H → va_S A s.heap H locs → lv_has ls 4 [(0, .ref (la 0 0)), (1, .ref (la 9 q)), (2, .int (iI (sHt σ q t.toNat))), (3, .int (iI t))] → W p l e ({ frames := 4, cells := 0, slots := 0, locals := 85 } : Room) s m args below meth c H locs 0 0 (MQ below (cQ D cy d0 A (fun v' la' τ => v' = (some (.int (iI (sHalves σ q)))) ∧ la' = la ∧ τ = (σ) ∧ (0 ≤ sHalves σ q ∧ sHalves σ q ≤ 1800000000))) args s 0 0 A) (F0 m 7 ls []) := by
    intro n
    induction n with
    | zero => intro t H locs ls h1 h2 h3; exact absurd h3 (by omega)
    | succ n ih =>
      intro t H locs ls h1 h2 h3 hC hS hl
      have hF0 : 0 ≤ sFirst σ := (sFt_r σ _).1
      refine x_iload_n B hl dX10_halvesToday_7 rfl ?_
      refine x_aload_n B hl dX10_halvesToday_8 rfl ?_
      refine co_getR (x := la 11 4) E hC 0 (by decide) cl_0 rfl (fun z h => List.mem_cons_of_mem _ (List.mem_append_left _ (List.mem_append_left _ (List.mem_append_right _ h)))) 4 (by decide) (hts (.fieldLink RX10 25 "BinRounds" "tips" "Ljava/util/ArrayList;") (by decide +kernel)) (fun x hx => hx) dX10_halvesToday_9 rfl rfl ?_
      refine co_call E hK hC hS hl (κ := 11) (i := 4) (by decide) (cl_11 (by omega)) rfl (c_size l D cy d0 A la _ (L := 4) (n := σ 45 0) (cl_11 (by omega)) ((cSz_4 ((rfl).trans hlg.1)).trans rfl)) (cwV 0 hts0 gX10_halvesToday_Jx4a65c_size_8abf5 rfl rfl rfl (by decide +kernel) ⟨Nat.le_of_ble_eq_true rfl, Nat.le_of_ble_eq_true rfl⟩) rfl rfl (Nat.le_of_ble_eq_true rfl) dX10_halvesToday_12 ⟨Nat.zero_le _, Nat.zero_le _⟩ (fun H locs q_12 hC hS => ?_)
      refine x_icmp_ge (tgt := 59) B dX10_halvesToday_15 (by decide) (by omega) (by omega) (fun c_15 => ?_) (fun c_15 => ?_)
      · refine x_iload_n B hl dX10_halvesToday_59 rfl ?_
        exact cm_iret E hr rfl hlk hC hS dX10_halvesToday_60 (by rw [show t = σ 45 0 by omega]; rfl) rfl (sHt_r hh q (by omega) (by omega))
      · refine x_aload_n B hl dX10_halvesToday_18 rfl ?_
        refine co_getR (x := la 11 4) E hC 0 (by decide) cl_0 rfl (fun z h => List.mem_cons_of_mem _ (List.mem_append_left _ (List.mem_append_left _ (List.mem_append_right _ h)))) 4 (by decide) (hts (.fieldLink RX10 25 "BinRounds" "tips" "Ljava/util/ArrayList;") (by decide +kernel)) (fun x hx => hx) dX10_halvesToday_19 rfl rfl ?_
        refine x_iload_n B hl dX10_halvesToday_22 rfl ?_
        refine co_call E hK hC hS hl (κ := 11) (i := 4) (by decide) (cl_11 (by omega)) rfl (c_get l D cy d0 A la _ (L := 4) (n := σ 45 0) (j := t) (x := la 10 t) (cl_11 (by omega)) ((cSz_4 ((rfl).trans hlg.1)).trans rfl) (by omega) (by omega) rfl) (cwV 1 hts0 gX10_halvesToday_Jx4a65c_get_915e3 rfl rfl rfl (by decide +kernel) ⟨Nat.le_of_ble_eq_true rfl, Nat.le_of_ble_eq_true rfl⟩) rfl rfl (Nat.le_of_ble_eq_true rfl) dX10_halvesToday_23 ⟨Nat.zero_le _, Nat.zero_le _⟩ (fun H locs q_23 hC hS => ?_)
        refine co_cast E hK hC 10 (by decide) (cl_10 (by omega)) rfl (by decide +kernel) dX10_halvesToday_26 ?_
        refine co_getR (x := la 9 (σ 33 t)) E hC 10 (by decide) (cl_10 (by omega)) rfl (fun z h => List.mem_cons_of_mem _ (List.mem_append_left _ (List.mem_append_right _ h))) 1 (by decide) (hts (.fieldLink RX10 253 "BinRounds$Tip" "carrier" "LBinRounds$Cart;") (by decide +kernel)) (fun x hx => hx) dX10_halvesToday_29 rfl rfl ?_
        refine x_aload_n B hl dX10_halvesToday_32 rfl ?_
        refine lv_acmp_ne (rx := (some (la 9 (σ 33 t)))) (ry := (some (la 9 q))) (tgt := 53) B.1 B.2 dX10_halvesToday_33 (by decide) (fun c_33 => ?_) (fun c_33 => ?_)
        · have k_33 : ¬ (σ 33 t) = q := fun z => c_33 (by rw [z])
          refine x_iinc B hl dX10_halvesToday_53 rfl (by decide) (fun ls hl => ?_)
          refine x_goto (tgt := 7) B dX10_halvesToday_56 (by decide) ?_
          exact ih (t + 1) H locs ls (by omega) (by omega) (by omega) (hC) hS (lv_key hl [(0, .ref (la 0 0)), (1, .ref (la 9 q)), (2, .int (iI (sHt σ q (t + 1).toNat))), (3, .int (iI (t + 1)))] (by have ho9 := sFt_o (σ := σ) (σ 45 0).toNat t h1 (by omega); first | (rw [sHt_s (by omega), if_pos ⟨ho9, by assumption⟩]; rfl) | (rw [sHt_s (by omega), if_neg (fun z => absurd z.2 (by assumption))]; rw [Int.add_zero]; rfl)))
        · have k_33 : (σ 33 t) = q := co_eq hC (by decide) (cl_9 (hct t (by omega) (by omega))) (cl_9 hq) c_33
          refine x_iload_n B hl dX10_halvesToday_36 rfl ?_
          refine x_aload_n B hl dX10_halvesToday_37 rfl ?_
          refine co_getR (x := la 11 4) E hC 0 (by decide) cl_0 rfl (fun z h => List.mem_cons_of_mem _ (List.mem_append_left _ (List.mem_append_left _ (List.mem_append_right _ h)))) 4 (by decide) (hts (.fieldLink RX10 25 "BinRounds" "tips" "Ljava/util/ArrayList;") (by decide +kernel)) (fun x hx => hx) dX10_halvesToday_38 rfl rfl ?_
          refine x_iload_n B hl dX10_halvesToday_41 rfl ?_
          refine co_call E hK hC hS hl (κ := 11) (i := 4) (by decide) (cl_11 (by omega)) rfl (c_get l D cy d0 A la _ (L := 4) (n := σ 45 0) (j := t) (x := la 10 t) (cl_11 (by omega)) ((cSz_4 ((rfl).trans hlg.1)).trans rfl) (by omega) (by omega) rfl) (cwV 1 hts0 gX10_halvesToday_Jx4a65c_get_915e3 rfl rfl rfl (by decide +kernel) ⟨Nat.le_of_ble_eq_true rfl, Nat.le_of_ble_eq_true rfl⟩) rfl rfl (Nat.le_of_ble_eq_true rfl) dX10_halvesToday_42 ⟨Nat.zero_le _, Nat.zero_le _⟩ (fun H locs q_42 hC hS => ?_)
          refine co_cast E hK hC 10 (by decide) (cl_10 (by omega)) rfl (by decide +kernel) dX10_halvesToday_45 ?_
          refine co_geti (f := 35) E hC 10 (by decide) (cl_10 (by omega)) rfl (fun z h => List.mem_cons_of_mem _ (List.mem_append_left _ (List.mem_append_right _ h))) 3 (by decide) (hts (.fieldLink RX10 219 "BinRounds$Tip" "halves" "I") (by decide +kernel)) (fun x hx => hx) dX10_halvesToday_48 ⟨rfl, rfl, rfl⟩ rfl (fun r_48 => ?_)
          refine x_iadd B dX10_halvesToday_51 ?_
          refine x_istore_n B hl dX10_halvesToday_52 (by decide) (fun ls hl => ?_)
          refine x_iinc B hl dX10_halvesToday_53 rfl (by decide) (fun ls hl => ?_)
          refine x_goto (tgt := 7) B dX10_halvesToday_56 (by decide) ?_
          exact ih (t + 1) H locs ls (by omega) (by omega) (by omega) (hC) hS (lv_key hl [(0, .ref (la 0 0)), (1, .ref (la 9 q)), (2, .int (iI (sHt σ q (t + 1).toNat))), (3, .int (iI (t + 1)))] (by have ho9 := sFt_o (σ := σ) (σ 45 0).toNat t h1 (by omega); first | (rw [sHt_s (by omega), if_pos ⟨ho9, by assumption⟩]; rfl) | (rw [sHt_s (by omega), if_neg (fun z => absurd z.2 (by assumption))]; rw [Int.add_zero]; rfl)))
  refine x_iconst B dX10_halvesToday_0 ?_
  refine x_istore_n B hl dX10_halvesToday_1 (by decide) (fun ls hl => ?_)
  refine x_aload_n B hl dX10_halvesToday_2 rfl ?_
  refine co_call E hK hC hS hl (κ := 0) (i := 0) (by decide) cl_0 rfl (c_firstTipToday l D cy d0 A la σ hn45 hn23 hlg) (cwV 0 hts0 gX10_halvesToday_X10_firstTipToday rfl rfl rfl (by decide +kernel) ⟨Nat.le_of_ble_eq_true rfl, Nat.le_of_ble_eq_true rfl⟩) rfl rfl (Nat.le_of_ble_eq_true rfl) dX10_halvesToday_3 ⟨Nat.zero_le _, Nat.zero_le _⟩ (fun H locs q_3 hC hS => ?_)
  refine x_istore_n B hl dX10_halvesToday_6 (by decide) (fun ls hl => ?_)
  exact loop 1001 (sFirst σ) _ _ ls (by omega) (by omega) (by omega) (hC) hS (lv_key hl [(0, .ref (la 0 0)), (1, .ref (la 9 q)), (2, .int (iI (sHt σ q (sFirst σ).toNat))), (3, .int (iI (sFirst σ)))] (by rw [sHt_0 ho q (sFirst σ).toNat (by omega)]; rfl))
set_option maxHeartbeats 4000000 in
set_option maxRecDepth 100000 in
theorem c_sumFromTips (l : Launch) (D : va_G) (cy : Nat → ClassId) (d0 : Nat) (A : Nat → Prop) (la : Nat → Int → Nat) (σ : MS)  (hn11 : 0 ≤ σ 11 0 ∧ σ 11 0 ≤ 1000) (hn23 : 0 ≤ σ 23 0 ∧ σ 23 0 ≤ 1000) : CM l yX10_sumFromTips wsX10_sumFromTips ({ frames := 3, cells := 0, slots := 0, locals := 64 } : Room) D cy d0 A [.ref (la 0 0)] la σ (some (.long (lI (sSum (σ 50) (σ 11 0).toNat)))) (σ) (True) := by
  refine cn_of (cc := cX10_sumFromTips) (nL := 4) (ret := (some .long)) (by decide) rfl (Nat.le_of_ble_eq_true rfl) ?_
  intro p e s m args below meth c ls E hr hlk hK hC hS hl
  have B := E.1
  have hml := E.2.1
  have hown := E.2.2.1
  have hts0 := E.2.2.2.1
  have hts := E.2.2.2.1
  have hw := hC.2.2.2.2.2.1
  have loop : ∀ (n : Nat) (h : Int) (H : Heap) (locs : List Loc) (ls : Array Slot), 0 ≤ h → h ≤ σ 11 0 → σ 11 0 - h < n → CP D cy d0 A la σ H → va_S A s.heap H locs → lv_has ls 4 [(0, .ref (la 0 0)), (1, .long (lI (sSum (σ 50) h.toNat))), (3, .int (iI h))] → W p l e ({ frames := 3, cells := 0, slots := 0, locals := 64 } : Room) s m args below meth c H locs 0 0 (MQ below (cQ D cy d0 A (fun v' la' τ => v' = (some (.long (lI (sSum (σ 50) (σ 11 0).toNat)))) ∧ la' = la ∧ τ = (σ) ∧ (True))) args s 0 0 A) (F0 m 4 ls []) := by
    intro n
    induction n with
    | zero => intro h H locs ls h1 h2 h3; exact absurd h3 (by omega)
    | succ n ih =>
      intro h H locs ls h1 h2 h3 hC hS hl
      refine x_iload_n B hl dX10_sumFromTips_4 rfl ?_
      refine x_aload_n B hl dX10_sumFromTips_5 rfl ?_
      refine co_getR (x := la 11 1) E hC 0 (by decide) cl_0 rfl (fun z h => List.mem_cons_of_mem _ (List.mem_append_left _ (List.mem_append_left _ (List.mem_append_right _ h)))) 1 (by decide) (hts (.fieldLink RX10 16 "BinRounds" "houses" "Ljava/util/ArrayList;") (by decide +kernel)) (fun x hx => hx) dX10_sumFromTips_6 rfl rfl ?_
      refine co_call E hK hC hS hl (κ := 11) (i := 1) (by decide) (cl_11 (by omega)) rfl (c_size l D cy d0 A la _ (L := 1) (n := σ 11 0) (cl_11 (by omega)) (cSz_1.trans rfl)) (cwV 0 hts0 gX10_sumFromTips_Jx4a65c_size_8abf5 rfl rfl rfl (by decide +kernel) ⟨Nat.le_of_ble_eq_true rfl, Nat.le_of_ble_eq_true rfl⟩) rfl rfl (Nat.le_of_ble_eq_true rfl) dX10_sumFromTips_9 ⟨Nat.zero_le _, Nat.zero_le _⟩ (fun H locs q_9 hC hS => ?_)
      refine x_icmp_ge (tgt := 38) B dX10_sumFromTips_12 (by decide) (by omega) (by omega) (fun c_12 => ?_) (fun c_12 => ?_)
      · refine x_lload_n B hl dX10_sumFromTips_38 rfl ?_
        exact cm_lret E hr hlk hC hS dX10_sumFromTips_39 (by rw [show h = σ 11 0 by omega]) rfl trivial
      · refine x_lload_n B hl dX10_sumFromTips_15 rfl ?_
        refine x_aload_n B hl dX10_sumFromTips_16 rfl ?_
        refine co_getR (x := la 11 1) E hC 0 (by decide) cl_0 rfl (fun z h => List.mem_cons_of_mem _ (List.mem_append_left _ (List.mem_append_left _ (List.mem_append_right _ h)))) 1 (by decide) (hts (.fieldLink RX10 16 "BinRounds" "houses" "Ljava/util/ArrayList;") (by decide +kernel)) (fun x hx => hx) dX10_sumFromTips_17 rfl rfl ?_
        refine x_iload_n B hl dX10_sumFromTips_20 rfl ?_
        refine co_call E hK hC hS hl (κ := 11) (i := 1) (by decide) (cl_11 (by omega)) rfl (c_get l D cy d0 A la _ (L := 1) (n := σ 11 0) (j := h) (x := la 5 h) (cl_11 (by omega)) (cSz_1.trans rfl) (by omega) (by omega) rfl) (cwV 1 hts0 gX10_sumFromTips_Jx4a65c_get_915e3 rfl rfl rfl (by decide +kernel) ⟨Nat.le_of_ble_eq_true rfl, Nat.le_of_ble_eq_true rfl⟩) rfl rfl (Nat.le_of_ble_eq_true rfl) dX10_sumFromTips_21 ⟨Nat.zero_le _, Nat.zero_le _⟩ (fun H locs q_21 hC hS => ?_)
        refine co_cast E hK hC 5 (by decide) (cl_5 (by omega)) rfl (by decide +kernel) dX10_sumFromTips_24 ?_
        refine co_getl (f := 50) E hC 5 (by decide) (cl_5 (by omega)) rfl (fun z h => List.mem_cons_of_mem _ (List.mem_append_left _ (List.mem_append_right _ h))) 4 (by decide) (hts (.fieldLink RX10 451 "BinRounds$House" "fromTips" "J") (by decide +kernel)) (fun x hx => hx) dX10_sumFromTips_27 ⟨rfl, rfl⟩ rfl ?_
        refine x_ladd B dX10_sumFromTips_30 ?_
        refine x_lstore_n B hl dX10_sumFromTips_31 (by decide) (fun ls hl => ?_)
        refine x_iinc B hl dX10_sumFromTips_32 rfl (by decide) (fun ls hl => ?_)
        refine x_goto (tgt := 4) B dX10_sumFromTips_35 (by decide) ?_
        exact ih (h + 1) H locs ls (by omega) (by omega) (by omega) (hC) hS (lv_key hl [(0, .ref (la 0 0)), (1, .long (lI (sSum (σ 50) (h + 1).toNat))), (3, .int (iI (h + 1)))] (by rw [sSum_s (by omega)]; rfl))
  refine x_lconst B dX10_sumFromTips_0 ?_
  refine x_lstore_n B hl dX10_sumFromTips_1 (by decide) (fun ls hl => ?_)
  refine x_iconst B dX10_sumFromTips_2 ?_
  refine x_istore_n B hl dX10_sumFromTips_3 (by decide) (fun ls hl => ?_)
  exact loop 1001 0 _ _ ls (by omega) (by omega) (by omega) (hC) hS (lv_key hl [(0, .ref (la 0 0)), (1, .long (lI (sSum (σ 50) (0 : Int).toNat))), (3, .int (iI 0))] rfl)
set_option maxHeartbeats 4000000 in
set_option maxRecDepth 100000 in
theorem c_sumFromBands (l : Launch) (D : va_G) (cy : Nat → ClassId) (d0 : Nat) (A : Nat → Prop) (la : Nat → Int → Nat) (σ : MS)  (hn11 : 0 ≤ σ 11 0 ∧ σ 11 0 ≤ 1000) (hn23 : 0 ≤ σ 23 0 ∧ σ 23 0 ≤ 1000) : CM l yX10_sumFromBands wsX10_sumFromBands ({ frames := 3, cells := 0, slots := 0, locals := 64 } : Room) D cy d0 A [.ref (la 0 0)] la σ (some (.long (lI (sSum (σ 8) (σ 11 0).toNat)))) (σ) (True) := by
  refine cn_of (cc := cX10_sumFromBands) (nL := 4) (ret := (some .long)) (by decide) rfl (Nat.le_of_ble_eq_true rfl) ?_
  intro p e s m args below meth c ls E hr hlk hK hC hS hl
  have B := E.1
  have hml := E.2.1
  have hown := E.2.2.1
  have hts0 := E.2.2.2.1
  have hts := E.2.2.2.1
  have hw := hC.2.2.2.2.2.1
  have loop : ∀ (n : Nat) (h : Int) (H : Heap) (locs : List Loc) (ls : Array Slot), 0 ≤ h → h ≤ σ 11 0 → σ 11 0 - h < n → CP D cy d0 A la σ H → va_S A s.heap H locs → lv_has ls 4 [(0, .ref (la 0 0)), (1, .long (lI (sSum (σ 8) h.toNat))), (3, .int (iI h))] → W p l e ({ frames := 3, cells := 0, slots := 0, locals := 64 } : Room) s m args below meth c H locs 0 0 (MQ below (cQ D cy d0 A (fun v' la' τ => v' = (some (.long (lI (sSum (σ 8) (σ 11 0).toNat)))) ∧ la' = la ∧ τ = (σ) ∧ (True))) args s 0 0 A) (F0 m 4 ls []) := by
    intro n
    induction n with
    | zero => intro h H locs ls h1 h2 h3; exact absurd h3 (by omega)
    | succ n ih =>
      intro h H locs ls h1 h2 h3 hC hS hl
      refine x_iload_n B hl dX10_sumFromBands_4 rfl ?_
      refine x_aload_n B hl dX10_sumFromBands_5 rfl ?_
      refine co_getR (x := la 11 1) E hC 0 (by decide) cl_0 rfl (fun z h => List.mem_cons_of_mem _ (List.mem_append_left _ (List.mem_append_left _ (List.mem_append_right _ h)))) 1 (by decide) (hts (.fieldLink RX10 16 "BinRounds" "houses" "Ljava/util/ArrayList;") (by decide +kernel)) (fun x hx => hx) dX10_sumFromBands_6 rfl rfl ?_
      refine co_call E hK hC hS hl (κ := 11) (i := 1) (by decide) (cl_11 (by omega)) rfl (c_size l D cy d0 A la _ (L := 1) (n := σ 11 0) (cl_11 (by omega)) (cSz_1.trans rfl)) (cwV 0 hts0 gX10_sumFromBands_Jx4a65c_size_8abf5 rfl rfl rfl (by decide +kernel) ⟨Nat.le_of_ble_eq_true rfl, Nat.le_of_ble_eq_true rfl⟩) rfl rfl (Nat.le_of_ble_eq_true rfl) dX10_sumFromBands_9 ⟨Nat.zero_le _, Nat.zero_le _⟩ (fun H locs q_9 hC hS => ?_)
      refine x_icmp_ge (tgt := 38) B dX10_sumFromBands_12 (by decide) (by omega) (by omega) (fun c_12 => ?_) (fun c_12 => ?_)
      · refine x_lload_n B hl dX10_sumFromBands_38 rfl ?_
        exact cm_lret E hr hlk hC hS dX10_sumFromBands_39 (by rw [show h = σ 11 0 by omega]) rfl trivial
      · refine x_lload_n B hl dX10_sumFromBands_15 rfl ?_
        refine x_aload_n B hl dX10_sumFromBands_16 rfl ?_
        refine co_getR (x := la 11 1) E hC 0 (by decide) cl_0 rfl (fun z h => List.mem_cons_of_mem _ (List.mem_append_left _ (List.mem_append_left _ (List.mem_append_right _ h)))) 1 (by decide) (hts (.fieldLink RX10 16 "BinRounds" "houses" "Ljava/util/ArrayList;") (by decide +kernel)) (fun x hx => hx) dX10_sumFromBands_17 rfl rfl ?_
        refine x_iload_n B hl dX10_sumFromBands_20 rfl ?_
        refine co_call E hK hC hS hl (κ := 11) (i := 1) (by decide) (cl_11 (by omega)) rfl (c_get l D cy d0 A la _ (L := 1) (n := σ 11 0) (j := h) (x := la 5 h) (cl_11 (by omega)) (cSz_1.trans rfl) (by omega) (by omega) rfl) (cwV 1 hts0 gX10_sumFromBands_Jx4a65c_get_915e3 rfl rfl rfl (by decide +kernel) ⟨Nat.le_of_ble_eq_true rfl, Nat.le_of_ble_eq_true rfl⟩) rfl rfl (Nat.le_of_ble_eq_true rfl) dX10_sumFromBands_21 ⟨Nat.zero_le _, Nat.zero_le _⟩ (fun H locs q_21 hC hS => ?_)
        refine co_cast E hK hC 5 (by decide) (cl_5 (by omega)) rfl (by decide +kernel) dX10_sumFromBands_24 ?_
        refine co_getl (f := 8) E hC 5 (by decide) (cl_5 (by omega)) rfl (fun z h => List.mem_cons_of_mem _ (List.mem_append_left _ (List.mem_append_right _ h))) 5 (by decide) (hts (.fieldLink RX10 187 "BinRounds$House" "fromBands" "J") (by decide +kernel)) (fun x hx => hx) dX10_sumFromBands_27 ⟨rfl, rfl⟩ rfl ?_
        refine x_ladd B dX10_sumFromBands_30 ?_
        refine x_lstore_n B hl dX10_sumFromBands_31 (by decide) (fun ls hl => ?_)
        refine x_iinc B hl dX10_sumFromBands_32 rfl (by decide) (fun ls hl => ?_)
        refine x_goto (tgt := 4) B dX10_sumFromBands_35 (by decide) ?_
        exact ih (h + 1) H locs ls (by omega) (by omega) (by omega) (hC) hS (lv_key hl [(0, .ref (la 0 0)), (1, .long (lI (sSum (σ 8) (h + 1).toNat))), (3, .int (iI (h + 1)))] (by rw [sSum_s (by omega)]; rfl))
  refine x_lconst B dX10_sumFromBands_0 ?_
  refine x_lstore_n B hl dX10_sumFromBands_1 (by decide) (fun ls hl => ?_)
  refine x_iconst B dX10_sumFromBands_2 ?_
  refine x_istore_n B hl dX10_sumFromBands_3 (by decide) (fun ls hl => ?_)
  exact loop 1001 0 _ _ ls (by omega) (by omega) (by omega) (hC) hS (lv_key hl [(0, .ref (la 0 0)), (1, .long (lI (sSum (σ 8) (0 : Int).toNat))), (3, .int (iI 0))] rfl)
set_option maxHeartbeats 4000000 in
set_option maxRecDepth 100000 in
theorem c_sumPaid (l : Launch) (D : va_G) (cy : Nat → ClassId) (d0 : Nat) (A : Nat → Prop) (la : Nat → Int → Nat) (σ : MS)  (hn11 : 0 ≤ σ 11 0 ∧ σ 11 0 ≤ 1000) (hn23 : 0 ≤ σ 23 0 ∧ σ 23 0 ≤ 1000) : CM l yX10_sumPaid wsX10_sumPaid ({ frames := 3, cells := 0, slots := 0, locals := 64 } : Room) D cy d0 A [.ref (la 0 0)] la σ (some (.long (lI (sSum (σ 10) (σ 11 0).toNat)))) (σ) (True) := by
  refine cn_of (cc := cX10_sumPaid) (nL := 4) (ret := (some .long)) (by decide) rfl (Nat.le_of_ble_eq_true rfl) ?_
  intro p e s m args below meth c ls E hr hlk hK hC hS hl
  have B := E.1
  have hml := E.2.1
  have hown := E.2.2.1
  have hts0 := E.2.2.2.1
  have hts := E.2.2.2.1
  have hw := hC.2.2.2.2.2.1
  have loop : ∀ (n : Nat) (h : Int) (H : Heap) (locs : List Loc) (ls : Array Slot), 0 ≤ h → h ≤ σ 11 0 → σ 11 0 - h < n → CP D cy d0 A la σ H → va_S A s.heap H locs → lv_has ls 4 [(0, .ref (la 0 0)), (1, .long (lI (sSum (σ 10) h.toNat))), (3, .int (iI h))] → W p l e ({ frames := 3, cells := 0, slots := 0, locals := 64 } : Room) s m args below meth c H locs 0 0 (MQ below (cQ D cy d0 A (fun v' la' τ => v' = (some (.long (lI (sSum (σ 10) (σ 11 0).toNat)))) ∧ la' = la ∧ τ = (σ) ∧ (True))) args s 0 0 A) (F0 m 4 ls []) := by
    intro n
    induction n with
    | zero => intro h H locs ls h1 h2 h3; exact absurd h3 (by omega)
    | succ n ih =>
      intro h H locs ls h1 h2 h3 hC hS hl
      refine x_iload_n B hl dX10_sumPaid_4 rfl ?_
      refine x_aload_n B hl dX10_sumPaid_5 rfl ?_
      refine co_getR (x := la 11 1) E hC 0 (by decide) cl_0 rfl (fun z h => List.mem_cons_of_mem _ (List.mem_append_left _ (List.mem_append_left _ (List.mem_append_right _ h)))) 1 (by decide) (hts (.fieldLink RX10 16 "BinRounds" "houses" "Ljava/util/ArrayList;") (by decide +kernel)) (fun x hx => hx) dX10_sumPaid_6 rfl rfl ?_
      refine co_call E hK hC hS hl (κ := 11) (i := 1) (by decide) (cl_11 (by omega)) rfl (c_size l D cy d0 A la _ (L := 1) (n := σ 11 0) (cl_11 (by omega)) (cSz_1.trans rfl)) (cwV 0 hts0 gX10_sumPaid_Jx4a65c_size_8abf5 rfl rfl rfl (by decide +kernel) ⟨Nat.le_of_ble_eq_true rfl, Nat.le_of_ble_eq_true rfl⟩) rfl rfl (Nat.le_of_ble_eq_true rfl) dX10_sumPaid_9 ⟨Nat.zero_le _, Nat.zero_le _⟩ (fun H locs q_9 hC hS => ?_)
      refine x_icmp_ge (tgt := 38) B dX10_sumPaid_12 (by decide) (by omega) (by omega) (fun c_12 => ?_) (fun c_12 => ?_)
      · refine x_lload_n B hl dX10_sumPaid_38 rfl ?_
        exact cm_lret E hr hlk hC hS dX10_sumPaid_39 (by rw [show h = σ 11 0 by omega]) rfl trivial
      · refine x_lload_n B hl dX10_sumPaid_15 rfl ?_
        refine x_aload_n B hl dX10_sumPaid_16 rfl ?_
        refine co_getR (x := la 11 1) E hC 0 (by decide) cl_0 rfl (fun z h => List.mem_cons_of_mem _ (List.mem_append_left _ (List.mem_append_left _ (List.mem_append_right _ h)))) 1 (by decide) (hts (.fieldLink RX10 16 "BinRounds" "houses" "Ljava/util/ArrayList;") (by decide +kernel)) (fun x hx => hx) dX10_sumPaid_17 rfl rfl ?_
        refine x_iload_n B hl dX10_sumPaid_20 rfl ?_
        refine co_call E hK hC hS hl (κ := 11) (i := 1) (by decide) (cl_11 (by omega)) rfl (c_get l D cy d0 A la _ (L := 1) (n := σ 11 0) (j := h) (x := la 5 h) (cl_11 (by omega)) (cSz_1.trans rfl) (by omega) (by omega) rfl) (cwV 1 hts0 gX10_sumPaid_Jx4a65c_get_915e3 rfl rfl rfl (by decide +kernel) ⟨Nat.le_of_ble_eq_true rfl, Nat.le_of_ble_eq_true rfl⟩) rfl rfl (Nat.le_of_ble_eq_true rfl) dX10_sumPaid_21 ⟨Nat.zero_le _, Nat.zero_le _⟩ (fun H locs q_21 hC hS => ?_)
        refine co_cast E hK hC 5 (by decide) (cl_5 (by omega)) rfl (by decide +kernel) dX10_sumPaid_24 ?_
        refine co_getl (f := 10) E hC 5 (by decide) (cl_5 (by omega)) rfl (fun z h => List.mem_cons_of_mem _ (List.mem_append_left _ (List.mem_append_right _ h))) 7 (by decide) (hts (.fieldLink RX10 315 "BinRounds$House" "allPaid" "J") (by decide +kernel)) (fun x hx => hx) dX10_sumPaid_27 ⟨rfl, rfl⟩ rfl ?_
        refine x_ladd B dX10_sumPaid_30 ?_
        refine x_lstore_n B hl dX10_sumPaid_31 (by decide) (fun ls hl => ?_)
        refine x_iinc B hl dX10_sumPaid_32 rfl (by decide) (fun ls hl => ?_)
        refine x_goto (tgt := 4) B dX10_sumPaid_35 (by decide) ?_
        exact ih (h + 1) H locs ls (by omega) (by omega) (by omega) (hC) hS (lv_key hl [(0, .ref (la 0 0)), (1, .long (lI (sSum (σ 10) (h + 1).toNat))), (3, .int (iI (h + 1)))] (by rw [sSum_s (by omega)]; rfl))
  refine x_lconst B dX10_sumPaid_0 ?_
  refine x_lstore_n B hl dX10_sumPaid_1 (by decide) (fun ls hl => ?_)
  refine x_iconst B dX10_sumPaid_2 ?_
  refine x_istore_n B hl dX10_sumPaid_3 (by decide) (fun ls hl => ?_)
  exact loop 1001 0 _ _ ls (by omega) (by omega) (by omega) (hC) hS (lv_key hl [(0, .ref (la 0 0)), (1, .long (lI (sSum (σ 10) (0 : Int).toNat))), (3, .int (iI 0))] rfl)
set_option maxHeartbeats 4000000 in
set_option maxRecDepth 100000 in
theorem c_sumWeights (l : Launch) (D : va_G) (cy : Nat → ClassId) (d0 : Nat) (A : Nat → Prop) (la : Nat → Int → Nat) (σ : MS)  (hn11 : 0 ≤ σ 11 0 ∧ σ 11 0 ≤ 1000) (hn23 : 0 ≤ σ 23 0 ∧ σ 23 0 ≤ 1000) : CM l yX10_sumWeights wsX10_sumWeights ({ frames := 3, cells := 0, slots := 0, locals := 64 } : Room) D cy d0 A [.ref (la 0 0)] la σ (some (.long (lI (sSum (σ 51) (σ 11 0).toNat)))) (σ) (True) := by
  refine cn_of (cc := cX10_sumWeights) (nL := 4) (ret := (some .long)) (by decide) rfl (Nat.le_of_ble_eq_true rfl) ?_
  intro p e s m args below meth c ls E hr hlk hK hC hS hl
  have B := E.1
  have hml := E.2.1
  have hown := E.2.2.1
  have hts0 := E.2.2.2.1
  have hts := E.2.2.2.1
  have hw := hC.2.2.2.2.2.1
  have loop : ∀ (n : Nat) (h : Int) (H : Heap) (locs : List Loc) (ls : Array Slot), 0 ≤ h → h ≤ σ 11 0 → σ 11 0 - h < n → CP D cy d0 A la σ H → va_S A s.heap H locs → lv_has ls 4 [(0, .ref (la 0 0)), (1, .long (lI (sSum (σ 51) h.toNat))), (3, .int (iI h))] → W p l e ({ frames := 3, cells := 0, slots := 0, locals := 64 } : Room) s m args below meth c H locs 0 0 (MQ below (cQ D cy d0 A (fun v' la' τ => v' = (some (.long (lI (sSum (σ 51) (σ 11 0).toNat)))) ∧ la' = la ∧ τ = (σ) ∧ (True))) args s 0 0 A) (F0 m 4 ls []) := by
    intro n
    induction n with
    | zero => intro h H locs ls h1 h2 h3; exact absurd h3 (by omega)
    | succ n ih =>
      intro h H locs ls h1 h2 h3 hC hS hl
      refine x_iload_n B hl dX10_sumWeights_4 rfl ?_
      refine x_aload_n B hl dX10_sumWeights_5 rfl ?_
      refine co_getR (x := la 11 1) E hC 0 (by decide) cl_0 rfl (fun z h => List.mem_cons_of_mem _ (List.mem_append_left _ (List.mem_append_left _ (List.mem_append_right _ h)))) 1 (by decide) (hts (.fieldLink RX10 16 "BinRounds" "houses" "Ljava/util/ArrayList;") (by decide +kernel)) (fun x hx => hx) dX10_sumWeights_6 rfl rfl ?_
      refine co_call E hK hC hS hl (κ := 11) (i := 1) (by decide) (cl_11 (by omega)) rfl (c_size l D cy d0 A la _ (L := 1) (n := σ 11 0) (cl_11 (by omega)) (cSz_1.trans rfl)) (cwV 0 hts0 gX10_sumWeights_Jx4a65c_size_8abf5 rfl rfl rfl (by decide +kernel) ⟨Nat.le_of_ble_eq_true rfl, Nat.le_of_ble_eq_true rfl⟩) rfl rfl (Nat.le_of_ble_eq_true rfl) dX10_sumWeights_9 ⟨Nat.zero_le _, Nat.zero_le _⟩ (fun H locs q_9 hC hS => ?_)
      refine x_icmp_ge (tgt := 38) B dX10_sumWeights_12 (by decide) (by omega) (by omega) (fun c_12 => ?_) (fun c_12 => ?_)
      · refine x_lload_n B hl dX10_sumWeights_38 rfl ?_
        exact cm_lret E hr hlk hC hS dX10_sumWeights_39 (by rw [show h = σ 11 0 by omega]) rfl trivial
      · refine x_lload_n B hl dX10_sumWeights_15 rfl ?_
        refine x_aload_n B hl dX10_sumWeights_16 rfl ?_
        refine co_getR (x := la 11 1) E hC 0 (by decide) cl_0 rfl (fun z h => List.mem_cons_of_mem _ (List.mem_append_left _ (List.mem_append_left _ (List.mem_append_right _ h)))) 1 (by decide) (hts (.fieldLink RX10 16 "BinRounds" "houses" "Ljava/util/ArrayList;") (by decide +kernel)) (fun x hx => hx) dX10_sumWeights_17 rfl rfl ?_
        refine x_iload_n B hl dX10_sumWeights_20 rfl ?_
        refine co_call E hK hC hS hl (κ := 11) (i := 1) (by decide) (cl_11 (by omega)) rfl (c_get l D cy d0 A la _ (L := 1) (n := σ 11 0) (j := h) (x := la 5 h) (cl_11 (by omega)) (cSz_1.trans rfl) (by omega) (by omega) rfl) (cwV 1 hts0 gX10_sumWeights_Jx4a65c_get_915e3 rfl rfl rfl (by decide +kernel) ⟨Nat.le_of_ble_eq_true rfl, Nat.le_of_ble_eq_true rfl⟩) rfl rfl (Nat.le_of_ble_eq_true rfl) dX10_sumWeights_21 ⟨Nat.zero_le _, Nat.zero_le _⟩ (fun H locs q_21 hC hS => ?_)
        refine co_cast E hK hC 5 (by decide) (cl_5 (by omega)) rfl (by decide +kernel) dX10_sumWeights_24 ?_
        refine co_getl (f := 51) E hC 5 (by decide) (cl_5 (by omega)) rfl (fun z h => List.mem_cons_of_mem _ (List.mem_append_left _ (List.mem_append_right _ h))) 8 (by decide) (hts (.fieldLink RX10 461 "BinRounds$House" "weight" "J") (by decide +kernel)) (fun x hx => hx) dX10_sumWeights_27 ⟨rfl, rfl⟩ rfl ?_
        refine x_ladd B dX10_sumWeights_30 ?_
        refine x_lstore_n B hl dX10_sumWeights_31 (by decide) (fun ls hl => ?_)
        refine x_iinc B hl dX10_sumWeights_32 rfl (by decide) (fun ls hl => ?_)
        refine x_goto (tgt := 4) B dX10_sumWeights_35 (by decide) ?_
        exact ih (h + 1) H locs ls (by omega) (by omega) (by omega) (hC) hS (lv_key hl [(0, .ref (la 0 0)), (1, .long (lI (sSum (σ 51) (h + 1).toNat))), (3, .int (iI (h + 1)))] (by rw [sSum_s (by omega)]; rfl))
  refine x_lconst B dX10_sumWeights_0 ?_
  refine x_lstore_n B hl dX10_sumWeights_1 (by decide) (fun ls hl => ?_)
  refine x_iconst B dX10_sumWeights_2 ?_
  refine x_istore_n B hl dX10_sumWeights_3 (by decide) (fun ls hl => ?_)
  exact loop 1001 0 _ _ ls (by omega) (by omega) (by omega) (hC) hS (lv_key hl [(0, .ref (la 0 0)), (1, .long (lI (sSum (σ 51) (0 : Int).toNat))), (3, .int (iI 0))] rfl)
set_option maxHeartbeats 4000000 in
set_option maxRecDepth 100000 in
theorem c_clearSplit (l : Launch) (D : va_G) (cy : Nat → ClassId) (d0 : Nat) (A : Nat → Prop) (la : Nat → Int → Nat) (σ : MS)  (hn11 : 0 ≤ σ 11 0 ∧ σ 11 0 ≤ 1000) (hn23 : 0 ≤ σ 23 0 ∧ σ 23 0 ≤ 1000) : CM l yX10_clearSplit wsX10_clearSplit ({ frames := 3, cells := 0, slots := 0, locals := 64 } : Room) D cy d0 A [.ref (la 0 0)] la σ (none) (zW σ (σ 11 0).toNat) (True) := by
  refine cn_of (cc := cX10_clearSplit) (nL := 2) (ret := none) (by decide) rfl (Nat.le_of_ble_eq_true rfl) ?_
  intro p e s m args below meth c ls E hr hlk hK hC hS hl
  have B := E.1
  have hml := E.2.1
  have hown := E.2.2.1
  have hts0 := E.2.2.2.1
  have hts := E.2.2.2.1
  have hw := hC.2.2.2.2.2.1
  have loop : ∀ (n : Nat) (k : Int) (H : Heap) (locs : List Loc) (ls : Array Slot), 0 ≤ k → k ≤ σ 11 0 → σ 11 0 - k < n → CP D cy d0 A la (zW σ k.toNat) H → va_S A s.heap H locs → lv_has ls 2 [(0, .ref (la 0 0)), (1, .int (iI k))] → W p l e ({ frames := 3, cells := 0, slots := 0, locals := 64 } : Room) s m args below meth c H locs 0 0 (MQ below (cQ D cy d0 A (fun v' la' τ => v' = (none) ∧ la' = la ∧ τ = (zW σ (σ 11 0).toNat) ∧ (True))) args s 0 0 A) (F0 m 2 ls []) := by
    intro n
    induction n with
    | zero => intro k H locs ls h1 h2 h3; exact absurd h3 (by omega)
    | succ n ih =>
      intro k H locs ls h1 h2 h3 hC hS hl
      refine x_iload_n B hl dX10_clearSplit_2 rfl ?_
      refine x_aload_n B hl dX10_clearSplit_3 rfl ?_
      refine co_getR (x := la 11 1) E hC 0 (by decide) cl_0 rfl (fun z h => List.mem_cons_of_mem _ (List.mem_append_left _ (List.mem_append_left _ (List.mem_append_right _ h)))) 1 (by decide) (hts (.fieldLink RX10 16 "BinRounds" "houses" "Ljava/util/ArrayList;") (by decide +kernel)) (fun x hx => hx) dX10_clearSplit_4 rfl rfl ?_
      refine co_call E hK hC hS hl (κ := 11) (i := 1) (by decide) (cl_q (zW_q k.toNat) (cl_11 (by omega))) rfl (c_size l D cy d0 A la _ (L := 1) (n := σ 11 0) (cl_q (zW_q k.toNat) (cl_11 (by omega))) (cSz_1.trans ((congrFun (zW_f (by decide) (by decide) k.toNat) _).trans rfl))) (cwV 0 hts0 gX10_clearSplit_Jx4a65c_size_8abf5 rfl rfl rfl (by decide +kernel) ⟨Nat.le_of_ble_eq_true rfl, Nat.le_of_ble_eq_true rfl⟩) rfl rfl (Nat.le_of_ble_eq_true rfl) dX10_clearSplit_7 ⟨Nat.zero_le _, Nat.zero_le _⟩ (fun H locs q_7 hC hS => ?_)
      refine x_icmp_ge (tgt := 49) B dX10_clearSplit_10 (by decide) (by omega) (by omega) (fun c_10 => ?_) (fun c_10 => ?_)
      · exact cm_vret E hr hlk hC hS dX10_clearSplit_49 (by rw [show k = σ 11 0 by omega]) trivial
      · refine x_aload_n B hl dX10_clearSplit_13 rfl ?_
        refine co_getR (x := la 11 1) E hC 0 (by decide) cl_0 rfl (fun z h => List.mem_cons_of_mem _ (List.mem_append_left _ (List.mem_append_left _ (List.mem_append_right _ h)))) 1 (by decide) (hts (.fieldLink RX10 16 "BinRounds" "houses" "Ljava/util/ArrayList;") (by decide +kernel)) (fun x hx => hx) dX10_clearSplit_14 rfl rfl ?_
        refine x_iload_n B hl dX10_clearSplit_17 rfl ?_
        refine co_call E hK hC hS hl (κ := 11) (i := 1) (by decide) (cl_q (zW_q k.toNat) (cl_11 (by omega))) rfl (c_get l D cy d0 A la _ (L := 1) (n := σ 11 0) (j := k) (x := la 5 k) (cl_q (zW_q k.toNat) (cl_11 (by omega))) (cSz_1.trans ((congrFun (zW_f (by decide) (by decide) k.toNat) _).trans rfl)) (by omega) (by omega) rfl) (cwV 1 hts0 gX10_clearSplit_Jx4a65c_get_915e3 rfl rfl rfl (by decide +kernel) ⟨Nat.le_of_ble_eq_true rfl, Nat.le_of_ble_eq_true rfl⟩) rfl rfl (Nat.le_of_ble_eq_true rfl) dX10_clearSplit_18 ⟨Nat.zero_le _, Nat.zero_le _⟩ (fun H locs q_18 hC hS => ?_)
        refine co_cast E hK hC 5 (by decide) (cl_q (zW_q k.toNat) (cl_5 (by omega))) rfl (by decide +kernel) dX10_clearSplit_21 ?_
        refine x_lconst B dX10_clearSplit_24 ?_
        refine co_putl (f := 52) E hC hS 5 (by decide) (cl_q (zW_q k.toNat) (cl_5 (by omega))) rfl (fun z h => List.mem_cons_of_mem _ (List.mem_append_left _ (List.mem_append_right _ h))) tyX3 tyX3_ok nmX3 9 (by decide) (hts (.fieldLink RX10 303 "BinRounds$House" "part" "J") (by decide +kernel)) (fun x hx => hx) rfl rfl dX10_clearSplit_25 (by decide) ⟨rfl, rfl, rfl, rfl⟩  (fun H locs hC hS => ?_)
        refine x_aload_n B hl dX10_clearSplit_28 rfl ?_
        refine co_getR (x := la 11 1) E hC 0 (by decide) cl_0 rfl (fun z h => List.mem_cons_of_mem _ (List.mem_append_left _ (List.mem_append_left _ (List.mem_append_right _ h)))) 1 (by decide) (hts (.fieldLink RX10 16 "BinRounds" "houses" "Ljava/util/ArrayList;") (by decide +kernel)) (fun x hx => hx) dX10_clearSplit_29 rfl rfl ?_
        refine x_iload_n B hl dX10_clearSplit_32 rfl ?_
        refine co_call E hK hC hS hl (κ := 11) (i := 1) (by decide) (cl_up (by decide) (cl_q (zW_q k.toNat) (cl_11 (by omega)))) rfl (c_get l D cy d0 A la _ (L := 1) (n := σ 11 0) (j := k) (x := la 5 k) (cl_up (by decide) (cl_q (zW_q k.toNat) (cl_11 (by omega)))) (cSz_1.trans (up_ne (by decide) ((congrFun (zW_f (by decide) (by decide) k.toNat) _).trans rfl))) (by omega) (by omega) rfl) (cwV 1 hts0 gX10_clearSplit_Jx4a65c_get_915e3 rfl rfl rfl (by decide +kernel) ⟨Nat.le_of_ble_eq_true rfl, Nat.le_of_ble_eq_true rfl⟩) rfl rfl (Nat.le_of_ble_eq_true rfl) dX10_clearSplit_33 ⟨Nat.zero_le _, Nat.zero_le _⟩ (fun H locs q_33 hC hS => ?_)
        refine co_cast E hK hC 5 (by decide) (cl_up (by decide) (cl_q (zW_q k.toNat) (cl_5 (by omega)))) rfl (by decide +kernel) dX10_clearSplit_36 ?_
        refine x_lconst B dX10_clearSplit_39 ?_
        refine co_putl (f := 51) E hC hS 5 (by decide) (cl_up (by decide) (cl_q (zW_q k.toNat) (cl_5 (by omega)))) rfl (fun z h => List.mem_cons_of_mem _ (List.mem_append_left _ (List.mem_append_right _ h))) tyX3 tyX3_ok nmX3 8 (by decide) (hts (.fieldLink RX10 461 "BinRounds$House" "weight" "J") (by decide +kernel)) (fun x hx => hx) rfl rfl dX10_clearSplit_40 (by decide) ⟨rfl, rfl, rfl, rfl⟩  (fun H locs hC hS => ?_)
        refine x_iinc B hl dX10_clearSplit_43 rfl (by decide) (fun ls hl => ?_)
        refine x_goto (tgt := 2) B dX10_clearSplit_46 (by decide) ?_
        exact ih (k + 1) H locs ls (by omega) (by omega) (by omega) ((by rw [zW_s (by omega)]; exact hC)) hS (lv_key hl [(0, .ref (la 0 0)), (1, .int (iI (k + 1)))] rfl)
  refine x_iconst B dX10_clearSplit_0 ?_
  refine x_istore_n B hl dX10_clearSplit_1 (by decide) (fun ls hl => ?_)
  exact loop 1001 0 _ _ ls (by omega) (by omega) (by omega) (hC) hS (lv_key hl [(0, .ref (la 0 0)), (1, .int (iI 0))] rfl)
set_option maxHeartbeats 4000000 in
set_option maxRecDepth 100000 in
theorem c_forgetGates (l : Launch) (D : va_G) (cy : Nat → ClassId) (d0 : Nat) (A : Nat → Prop) (la : Nat → Int → Nat) (σ : MS)  (hn27 : 0 ≤ σ 27 0 ∧ σ 27 0 ≤ 1000) (hn23 : 0 ≤ σ 23 0 ∧ σ 23 0 ≤ 1000) : CM l yX10_forgetGates wsX10_forgetGates ({ frames := 3, cells := 0, slots := 0, locals := 64 } : Room) D cy d0 A [.ref (la 0 0)] la σ (none) (gOff σ (σ 27 0).toNat) (True) := by
  refine cn_of (cc := cX10_forgetGates) (nL := 2) (ret := none) (by decide) rfl (Nat.le_of_ble_eq_true rfl) ?_
  intro p e s m args below meth c ls E hr hlk hK hC hS hl
  have B := E.1
  have hml := E.2.1
  have hown := E.2.2.1
  have hts0 := E.2.2.2.1
  have hts := E.2.2.2.1
  have hw := hC.2.2.2.2.2.1
  have loop : ∀ (n : Nat) (k : Int) (H : Heap) (locs : List Loc) (ls : Array Slot), 0 ≤ k → k ≤ σ 27 0 → σ 27 0 - k < n → CP D cy d0 A la (gOff σ k.toNat) H → va_S A s.heap H locs → lv_has ls 2 [(0, .ref (la 0 0)), (1, .int (iI k))] → W p l e ({ frames := 3, cells := 0, slots := 0, locals := 64 } : Room) s m args below meth c H locs 0 0 (MQ below (cQ D cy d0 A (fun v' la' τ => v' = (none) ∧ la' = la ∧ τ = (gOff σ (σ 27 0).toNat) ∧ (True))) args s 0 0 A) (F0 m 2 ls []) := by
    intro n
    induction n with
    | zero => intro k H locs ls h1 h2 h3; exact absurd h3 (by omega)
    | succ n ih =>
      intro k H locs ls h1 h2 h3 hC hS hl
      refine x_iload_n B hl dX10_forgetGates_2 rfl ?_
      refine x_aload_n B hl dX10_forgetGates_3 rfl ?_
      refine co_getR (x := la 11 3) E hC 0 (by decide) cl_0 rfl (fun z h => List.mem_cons_of_mem _ (List.mem_append_left _ (List.mem_append_left _ (List.mem_append_right _ h)))) 3 (by decide) (hts (.fieldLink RX10 22 "BinRounds" "carts" "Ljava/util/ArrayList;") (by decide +kernel)) (fun x hx => hx) dX10_forgetGates_4 rfl rfl ?_
      refine co_call E hK hC hS hl (κ := 11) (i := 3) (by decide) (cl_q (gOff_q k.toNat) (cl_11 (by omega))) rfl (c_size l D cy d0 A la _ (L := 3) (n := σ 27 0) (cl_q (gOff_q k.toNat) (cl_11 (by omega))) (cSz_3.trans ((congrFun (gOff_f (by decide) k.toNat) _).trans rfl))) (cwV 0 hts0 gX10_forgetGates_Jx4a65c_size_8abf5 rfl rfl rfl (by decide +kernel) ⟨Nat.le_of_ble_eq_true rfl, Nat.le_of_ble_eq_true rfl⟩) rfl rfl (Nat.le_of_ble_eq_true rfl) dX10_forgetGates_7 ⟨Nat.zero_le _, Nat.zero_le _⟩ (fun H locs q_7 hC hS => ?_)
      refine x_icmp_ge (tgt := 34) B dX10_forgetGates_10 (by decide) (by omega) (by omega) (fun c_10 => ?_) (fun c_10 => ?_)
      · exact cm_vret E hr hlk hC hS dX10_forgetGates_34 (by rw [show k = σ 27 0 by omega]) trivial
      · refine x_aload_n B hl dX10_forgetGates_13 rfl ?_
        refine co_getR (x := la 11 3) E hC 0 (by decide) cl_0 rfl (fun z h => List.mem_cons_of_mem _ (List.mem_append_left _ (List.mem_append_left _ (List.mem_append_right _ h)))) 3 (by decide) (hts (.fieldLink RX10 22 "BinRounds" "carts" "Ljava/util/ArrayList;") (by decide +kernel)) (fun x hx => hx) dX10_forgetGates_14 rfl rfl ?_
        refine x_iload_n B hl dX10_forgetGates_17 rfl ?_
        refine co_call E hK hC hS hl (κ := 11) (i := 3) (by decide) (cl_q (gOff_q k.toNat) (cl_11 (by omega))) rfl (c_get l D cy d0 A la _ (L := 3) (n := σ 27 0) (j := k) (x := la 9 k) (cl_q (gOff_q k.toNat) (cl_11 (by omega))) (cSz_3.trans ((congrFun (gOff_f (by decide) k.toNat) _).trans rfl)) (by omega) (by omega) rfl) (cwV 1 hts0 gX10_forgetGates_Jx4a65c_get_915e3 rfl rfl rfl (by decide +kernel) ⟨Nat.le_of_ble_eq_true rfl, Nat.le_of_ble_eq_true rfl⟩) rfl rfl (Nat.le_of_ble_eq_true rfl) dX10_forgetGates_18 ⟨Nat.zero_le _, Nat.zero_le _⟩ (fun H locs q_18 hC hS => ?_)
        refine co_cast E hK hC 9 (by decide) (cl_q (gOff_q k.toNat) (cl_9 (by omega))) rfl (by decide +kernel) dX10_forgetGates_21 ?_
        refine x_iconst B dX10_forgetGates_24 ?_
        refine co_puti (f := 26) E hC hS 9 (by decide) (cl_q (gOff_q k.toNat) (cl_9 (by omega))) rfl (fun z h => List.mem_cons_of_mem _ (List.mem_append_left _ (List.mem_append_right _ h))) tyX2 tyX2_ok nmX2 3 (by decide) (hts (.fieldLink RX10 240 "BinRounds$Cart" "gateHalves" "I") (by decide +kernel)) (fun x hx => hx) rfl rfl dX10_forgetGates_25 (by decide) ⟨rfl, rfl, rfl, rfl⟩ (by omega) (fun H locs hC hS => ?_)
        refine x_iinc B hl dX10_forgetGates_28 rfl (by decide) (fun ls hl => ?_)
        refine x_goto (tgt := 2) B dX10_forgetGates_31 (by decide) ?_
        exact ih (k + 1) H locs ls (by omega) (by omega) (by omega) ((by rw [gOff_s (by omega)]; exact hC)) hS (lv_key hl [(0, .ref (la 0 0)), (1, .int (iI (k + 1)))] rfl)
  refine x_iconst B dX10_forgetGates_0 ?_
  refine x_istore_n B hl dX10_forgetGates_1 (by decide) (fun ls hl => ?_)
  exact loop 1001 0 _ _ ls (by omega) (by omega) (by omega) (hC) hS (lv_key hl [(0, .ref (la 0 0)), (1, .int (iI 0))] rfl)
