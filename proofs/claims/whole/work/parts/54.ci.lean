theorem c_splitCharge (l : Launch) (D : va_G) (cy : Nat → ClassId) (d0 : Nat) (A : Nat → Prop) (la : Nat → Int → Nat) (σ : MS) {t : Int} (ht : 0 ≤ t ∧ t < σ 45 0) (hn45 : 0 ≤ σ 45 0 ∧ σ 45 0 ≤ 600) (hn11 : 0 ≤ σ 11 0 ∧ σ 11 0 ≤ 60) (hn23 : 0 ≤ σ 23 0 ∧ σ 23 0 ≤ 1000) (hcb : σ 40 t = 1 → 0 ≤ σ 36 t) (hbn : ¬ σ 36 t < 0 → 0 ≤ σ 36 t ∧ σ 36 t < σ 23 0) (h42 : 0 ≤ σ 42 t ∧ σ 42 t ≤ 100000) (h43 : 0 ≤ σ 43 t ∧ σ 43 t ≤ 100000) (h39 : 0 ≤ σ 39 t ∧ σ 39 t ≤ 3000000) (hd : 0 ≤ σ 32 t ∧ σ 32 t ≤ 699) (hm : ∀ b, 0 ≤ σ 18 b ∧ σ 18 b ≤ 8) (hv : ∀ j, 0 ≤ σ 16 j) (hho : ¬ sHouse σ (σ 36 t) (σ 32 t) < 0 → 0 ≤ sHouse σ (σ 36 t) (σ 32 t) ∧ sHouse σ (σ 36 t) (σ 32 t) < σ 11 0) (hm22 : ∀ b, 0 ≤ σ 22 b ∧ σ 22 b ≤ 20) (hpw : ∀ j, 0 ≤ σ 20 j ∧ σ 20 j ≤ 1000) (hv19 : ¬ σ 36 t < 0 → ∀ j, 0 ≤ σ 19 j ∧ σ 19 j < σ 11 0) : CN l yX10_splitCharge wsX10_splitCharge ({ frames := 5, cells := 0, slots := 0, locals := 117 } : Room) D cy d0 A [.ref (la 0 0), .ref (la 10 t)] la σ (fun v' la' τ => v' = some (.long (lI (sChg σ t))) ∧ la' = la ∧ (∀ q, q ≠ 51 → q ≠ 52 → τ q = σ q) ∧ ∀ h, 0 ≤ h → h < σ 11 0 → τ 52 h = sShr σ t h) 0 0 := by
  by_cases h : σ 36 t < 0
  · exact c_splitCharge_n l D cy d0 A la σ ht hn45 hn11 hn23 hcb hbn h42 h43 h39 hd hm hv hho hm22 hpw h
  · exact c_splitCharge_r l D cy d0 A la σ ht hn45 hn11 hn23 hcb hbn h42 h43 h39 hd hm hv hho hm22 hpw h (hv19 h)
theorem cLq_w {σ τ : MS} (h : ∀ q, q ≠ 51 → q ≠ 52 → τ q = σ q) : cLq σ τ := ⟨h _ (by decide) (by decide), h _ (by decide) (by decide), h _ (by decide) (by decide), h _ (by decide) (by decide), h _ (by decide) (by decide), h _ (by decide) (by decide), h _ (by decide) (by decide)⟩
def aS (τ : MS) (f : Int → Int) : Nat → MS
  | 0 => τ
  | n + 1 => up (aS τ f n) 50 (n : Int) (f (n : Int))
theorem aS_s {τ : MS} {f : Int → Int} {k : Int} (h : 0 ≤ k) : aS τ f (k + 1).toNat = up (aS τ f k.toNat) 50 k (f k) := by
  rw [show (k + 1).toNat = k.toNat + 1 by omega, aS, Int.toNat_of_nonneg h]
theorem aS_f {τ : MS} {g : Int → Int} {f : Nat} (hf : f ≠ 50) : ∀ n : Nat, aS τ g n f = τ f
  | 0 => rfl
  | n + 1 => by rw [aS, up_f hf, aS_f hf n]
theorem aS_q {τ : MS} {g : Int → Int} (n : Nat) : cLq τ (aS τ g n) := ⟨aS_f (by decide) n, aS_f (by decide) n, aS_f (by decide) n, aS_f (by decide) n, aS_f (by decide) n, aS_f (by decide) n, aS_f (by decide) n⟩
theorem aS_v {τ : MS} {g : Int → Int} : ∀ (n : Nat) (h : Int), aS τ g n 50 h = if 0 ≤ h ∧ h < n then g h else τ 50 h
  | 0, h => by rw [aS, if_neg (by omega)]
  | n + 1, h => by
    have ih := aS_v (τ := τ) (g := g) n h
    rw [aS]
    by_cases e : h = n
    · subst e; rw [up_s, if_pos ⟨by omega, by omega⟩]
    · rw [up_o e, ih]
      by_cases c1 : 0 ≤ h ∧ h < n
      · rw [if_pos c1, if_pos ⟨c1.1, by omega⟩]
      · rw [if_neg c1, if_neg (by omega)]
set_option maxHeartbeats 4000000 in
set_option maxRecDepth 100000 in
theorem c_addShares (l : Launch) (D : va_G) (cy : Nat → ClassId) (d0 : Nat) (A : Nat → Prop) (la : Nat → Int → Nat) (σ : MS) {t sg : Int} (ht : 0 ≤ t ∧ t < σ 45 0) (hn45 : 0 ≤ σ 45 0 ∧ σ 45 0 ≤ 600) (hn11 : 0 ≤ σ 11 0 ∧ σ 11 0 ≤ 60) (hn23 : 0 ≤ σ 23 0 ∧ σ 23 0 ≤ 1000) (hcb : σ 40 t = 1 → 0 ≤ σ 36 t) (hbn : ¬ σ 36 t < 0 → 0 ≤ σ 36 t ∧ σ 36 t < σ 23 0) (h42 : 0 ≤ σ 42 t ∧ σ 42 t ≤ 100000) (h43 : 0 ≤ σ 43 t ∧ σ 43 t ≤ 100000) (h39 : 0 ≤ σ 39 t ∧ σ 39 t ≤ 3000000) (hd : 0 ≤ σ 32 t ∧ σ 32 t ≤ 699) (hm : ∀ b, 0 ≤ σ 18 b ∧ σ 18 b ≤ 8) (hv : ∀ j, 0 ≤ σ 16 j) (hho : ¬ sHouse σ (σ 36 t) (σ 32 t) < 0 → 0 ≤ sHouse σ (σ 36 t) (σ 32 t) ∧ sHouse σ (σ 36 t) (σ 32 t) < σ 11 0) (hm22 : ∀ b, 0 ≤ σ 22 b ∧ σ 22 b ≤ 20) (hpw : ∀ j, 0 ≤ σ 20 j ∧ σ 20 j ≤ 1000) (hv19 : ¬ σ 36 t < 0 → ∀ j, 0 ≤ σ 19 j ∧ σ 19 j < σ 11 0) (hsg : -1 ≤ sg ∧ sg ≤ 1) : CN l yX10_addShares wsX10_addShares ({ frames := 6, cells := 0, slots := 0, locals := 141 } : Room) D cy d0 A [.ref (la 0 0), .ref (la 10 t), .int (iI sg)] la σ (fun v' la' τ => v' = none ∧ la' = la ∧ (∀ q, q ≠ 50 → q ≠ 51 → q ≠ 52 → τ q = σ q) ∧ ∀ h, 0 ≤ h → h < σ 11 0 → τ 50 h = σ 50 h + sg * sShr σ t h) 0 0 := by
  refine cn_of (cc := cX10_addShares) (nL := 5) (ret := none) (by decide) rfl (Nat.le_of_ble_eq_true rfl) ?_
  intro p e s m args below meth c ls E hr hlk hK hC hS hl
  have B := E.1
  have hml := E.2.1
  have hown := E.2.2.1
  have hts0 := E.2.2.2.1
  have hts := E.2.2.2.1
  have hw := hC.2.2.2.2.2.1
  refine x_aload_n B hl dX10_addShares_0 rfl ?_
  refine x_aload_n B hl dX10_addShares_1 rfl ?_
  refine co_callX E hK hC hS hl (κ := 0) (i := 0) (by decide) cl_0 rfl (c_splitCharge l D cy d0 A la σ ht hn45 hn11 hn23 hcb hbn h42 h43 h39 hd hm hv hho hm22 hpw hv19) (cwV 1 hts0 gX10_addShares_X10_splitCharge rfl rfl rfl (by decide +kernel) ⟨Nat.le_of_ble_eq_true rfl, Nat.le_of_ble_eq_true rfl⟩) rfl rfl (Nat.le_of_ble_eq_true rfl) dX10_addShares_2 ⟨Nat.zero_le _, Nat.zero_le _⟩ (fun H locs τ1 qx hC hS => ?_)
  refine lv_pop2_2 B.1 B.2 dX10_addShares_5 rfl ?_
  refine x_iconst B dX10_addShares_6 ?_
  refine x_istore_n B hl dX10_addShares_7 (by decide) (fun ls hl => ?_)
  have loop : ∀ (n : Nat) (k : Int) (H : Heap) (locs : List Loc) (ls : Array Slot), 0 ≤ k → k ≤ σ 11 0 → σ 11 0 - k < n → CP D cy d0 A la (aS τ1 (fun h => σ 50 h + sg * sShr σ t h) k.toNat) H → va_S A s.heap H locs → lv_has ls 5 [(0, .ref (la 0 0)), (1, .ref (la 10 t)), (2, .int (iI sg)), (3, .int (iI k))] → W p l e ({ frames := 6, cells := 0, slots := 0, locals := 141 } : Room) s m args below meth c H locs 0 0 (MQ below (cQ D cy d0 A (fun v' la' τ => v' = none ∧ la' = la ∧ (∀ q, q ≠ 50 → q ≠ 51 → q ≠ 52 → τ q = σ q) ∧ ∀ h, 0 ≤ h → h < σ 11 0 → τ 50 h = σ 50 h + sg * sShr σ t h)) args s 0 0 A) (F0 m 8 ls []) := by
    intro n
    induction n with
    | zero => intro k H locs ls h1 h2 h3; exact absurd h3 (by omega)
    | succ n ih =>
      intro k H locs ls h1 h2 h3 hC hS hl
      refine x_iload_n B hl dX10_addShares_8 rfl ?_
      refine x_aload_n B hl dX10_addShares_9 rfl ?_
      refine co_getR (x := la 11 1) E hC 0 (by decide) cl_0 rfl (fun z h => List.mem_cons_of_mem _ (List.mem_append_left _ (List.mem_append_left _ (List.mem_append_left _ (List.mem_append_left _ (List.mem_append_left _ (List.mem_append_left _ (List.mem_append_right _ h)))))))) 1 (by decide) (hts (.fieldLink RX10 16 "BinRounds" "houses" "Ljava/util/ArrayList;") (by decide +kernel)) (fun x hx => hx) dX10_addShares_10 rfl rfl ?_
      refine co_call E hK hC hS hl (κ := 11) (i := 1) (by decide) (cl_q (aS_q k.toNat) (cl_q (cLq_w qx.1) (cl_11 (by omega)))) rfl (c_size l D cy d0 A la _ (L := 1) (n := σ 11 0) (cl_q (aS_q k.toNat) (cl_q (cLq_w qx.1) (cl_11 (by omega)))) (cSz_1.trans ((congrFun (aS_f (τ := τ1) (g := (fun h => σ 50 h + sg * sShr σ t h)) (by decide) k.toNat) _).trans ((congrFun (qx.1 11 (by decide) (by decide)) _).trans rfl)))) (cwV 0 hts0 gX10_addShares_Jx4a65c_size_8abf5 rfl rfl rfl (by decide +kernel) ⟨Nat.le_of_ble_eq_true rfl, Nat.le_of_ble_eq_true rfl⟩) rfl rfl (Nat.le_of_ble_eq_true rfl) dX10_addShares_13 ⟨Nat.zero_le _, Nat.zero_le _⟩ (fun H locs q_13 hC hS => ?_)
      refine x_icmp_ge (tgt := 56) B dX10_addShares_16 (by decide) (by omega) (by omega) (fun c_16 => ?_) (fun c_16 => ?_)
      · exact co_vret E hr hlk hC hS dX10_addShares_56 ⟨rfl, rfl, fun q a b c => (aS_f a _).trans (qx.1 q b c), fun h a b => by rw [aS_v, if_pos ⟨a, by omega⟩]⟩
      · refine x_aload_n B hl dX10_addShares_19 rfl ?_
        refine co_getR (x := la 11 1) E hC 0 (by decide) cl_0 rfl (fun z h => List.mem_cons_of_mem _ (List.mem_append_left _ (List.mem_append_left _ (List.mem_append_left _ (List.mem_append_left _ (List.mem_append_left _ (List.mem_append_left _ (List.mem_append_right _ h)))))))) 1 (by decide) (hts (.fieldLink RX10 16 "BinRounds" "houses" "Ljava/util/ArrayList;") (by decide +kernel)) (fun x hx => hx) dX10_addShares_20 rfl rfl ?_
        refine x_iload_n B hl dX10_addShares_23 rfl ?_
        refine co_call E hK hC hS hl (κ := 11) (i := 1) (by decide) (cl_q (aS_q k.toNat) (cl_q (cLq_w qx.1) (cl_11 (by omega)))) rfl (c_get l D cy d0 A la _ (L := 1) (n := σ 11 0) (j := k) (x := la 5 k) (cl_q (aS_q k.toNat) (cl_q (cLq_w qx.1) (cl_11 (by omega)))) (cSz_1.trans ((congrFun (aS_f (τ := τ1) (g := (fun h => σ 50 h + sg * sShr σ t h)) (by decide) k.toNat) _).trans ((congrFun (qx.1 11 (by decide) (by decide)) _).trans rfl))) (by omega) (by omega) rfl) (cwV 1 hts0 gX10_addShares_Jx4a65c_get_915e3 rfl rfl rfl (by decide +kernel) ⟨Nat.le_of_ble_eq_true rfl, Nat.le_of_ble_eq_true rfl⟩) rfl rfl (Nat.le_of_ble_eq_true rfl) dX10_addShares_24 ⟨Nat.zero_le _, Nat.zero_le _⟩ (fun H locs q_24 hC hS => ?_)
        refine co_cast E hK hC 5 (by decide) (cl_q (aS_q k.toNat) (cl_q (cLq_w qx.1) (cl_5 (by omega)))) rfl (by decide +kernel) dX10_addShares_27 ?_
        refine x_astore B hl dX10_addShares_30 (by decide) (fun ls hl => ?_)
        refine x_aload B hl dX10_addShares_32 rfl ?_
        refine x_dup B dX10_addShares_34 rfl ?_
        refine co_getl (f := 50) E hC 5 (by decide) (cl_q (aS_q k.toNat) (cl_q (cLq_w qx.1) (cl_5 (by omega)))) rfl (fun z h => List.mem_cons_of_mem _ (List.mem_append_left _ (List.mem_append_left _ (List.mem_append_left _ (List.mem_append_left _ (List.mem_append_left _ (List.mem_append_right _ h))))))) 4 (by decide) (hts (.fieldLink RX10 451 "BinRounds$House" "fromTips" "J") (by decide +kernel)) (fun x hx => hx) dX10_addShares_35 ⟨rfl, rfl⟩ ((show aS τ1 (fun h => σ 50 h + sg * sShr σ t h) k.toNat 50 k = τ1 50 k by rw [aS_v, if_neg (by omega)]).trans (congrFun (qx.1 50 (by decide) (by decide)) k)) ?_
        refine x_iload_n B hl dX10_addShares_38 rfl ?_
        refine x_i2l B dX10_addShares_39 (by omega) ?_
        refine x_aload B hl dX10_addShares_40 rfl ?_
        refine co_getl (f := 52) E hC 5 (by decide) (cl_q (aS_q k.toNat) (cl_q (cLq_w qx.1) (cl_5 (by omega)))) rfl (fun z h => List.mem_cons_of_mem _ (List.mem_append_left _ (List.mem_append_left _ (List.mem_append_left _ (List.mem_append_left _ (List.mem_append_left _ (List.mem_append_right _ h))))))) 9 (by decide) (hts (.fieldLink RX10 303 "BinRounds$House" "part" "J") (by decide +kernel)) (fun x hx => hx) dX10_addShares_42 ⟨rfl, rfl⟩ ((congrFun (aS_f (τ := τ1) (g := (fun h => σ 50 h + sg * sShr σ t h)) (by decide) k.toNat) k).trans (qx.2 k h1 (by omega))) ?_
        refine x_lmul B dX10_addShares_45 ?_
        refine x_ladd B dX10_addShares_46 ?_
        refine co_putl (f := 50) E hC hS 5 (by decide) (cl_q (aS_q k.toNat) (cl_q (cLq_w qx.1) (cl_5 (by omega)))) rfl (fun z h => List.mem_cons_of_mem _ (List.mem_append_left _ (List.mem_append_left _ (List.mem_append_left _ (List.mem_append_left _ (List.mem_append_left _ (List.mem_append_right _ h))))))) tyX3 tyX3_ok nmX3 4 (by decide) (hts (.fieldLink RX10 451 "BinRounds$House" "fromTips" "J") (by decide +kernel)) (fun x hx => hx) rfl rfl dX10_addShares_47 (by decide) ⟨rfl, rfl, rfl, rfl⟩  (fun H locs hC hS => ?_)
        refine x_iinc B hl dX10_addShares_50 rfl (by decide) (fun ls hl => ?_)
        refine x_goto (tgt := 8) B dX10_addShares_53 (by decide) ?_
        exact ih (k + 1) H locs ls (by omega) (by omega) (by omega) ((by rw [aS_s (by omega)]; exact hC)) hS (lv_key hl [(0, .ref (la 0 0)), (1, .ref (la 10 t)), (2, .int (iI sg)), (3, .int (iI (k + 1)))] rfl)
  exact loop 1001 0 _ _ ls (by omega) (by omega) (by omega) (hC) hS (lv_key hl [(0, .ref (la 0 0)), (1, .ref (la 10 t)), (2, .int (iI sg)), (3, .int (iI 0))] rfl)
