theorem up_5 {σ τ : MS} (h : eq5 σ τ) (k : Nat) (j v : Int) : eq5 (up σ k j v) (up τ k j v) := fun f hf => by
  funext i
  rw [up_rd, up_rd, h f hf]
theorem sFin_5 {σ τ : MS} (h : eq5 σ τ) (t z : Int) : eq5 (sFin σ t z) (sFin τ t z) := by
  unfold sFin
  rw [h 28 (by decide), h 29 (by decide)]
  exact up_5 (up_5 (up_5 h _ _ _) _ _ _) _ _ _
theorem sChB_5 {σ τ : MS} (h : eq5 σ τ) (t th : Int) : eq5 (sChB σ t th) (sChB τ t th) := by
  unfold sChB
  rw [h 12 (by decide), h 36 (by decide), h 32 (by decide), h 7 (by decide), sHouse_5 h]
  split
  · split
    · exact sFin_5 (up_5 h _ _ _) _ _
    · exact sFin_5 h _ _
  · split
    · exact sFin_5 h _ _
    · split
      · exact sFin_5 h _ _
      · exact sFin_5 h _ _
theorem sW1_5 {σ τ : MS} (h : eq5 σ τ) (t : Int) : eq5 (sW1 σ t) (sW1 τ t) := by
  unfold sW1
  rw [h 41 (by decide), h 36 (by decide), h 15 (by decide)]
  split
  · exact up_5 h _ _ _
  · exact h
theorem sCh_5 {σ τ : MS} (h : eq5 σ τ) (t : Int) : eq5 (sCh σ t) (sCh τ t) := by
  unfold sCh
  rw [h 41 (by decide), h 36 (by decide), sW1_5 h t 15 (by decide)]
  exact sChB_5 (sW1_5 h t) t _
theorem sFin_u {σ : MS} {t z u : Int} (h : u ≠ t) (f : Nat) : sFin σ t z f u = σ f u := by
  unfold sFin
  rw [up_rd, if_neg (fun q => h q.2), up_rd, if_neg (fun q => h q.2), up_rd, if_neg (fun q => h q.2)]
abbrev okV (f : Nat) : Bool := f == 39 || f == 40 || f == 42 || f == 43 || f == 44
theorem okV_7 {f : Nat} (h : okV f = true) : f ≠ 7 ∧ f ≠ 15 := by
  simp only [okV, Bool.or_eq_true, beq_iff_eq] at h
  omega
theorem sChB_v {σ : MS} {t th u : Int} (h : u ≠ t) {f : Nat} (hf : f ≠ 7) : sChB σ t th f u = σ f u := by
  unfold sChB
  split
  · split
    · rw [sFin_u h, up_f hf]
    · rw [sFin_u h]
  · split
    · rw [sFin_u h]
    · split
      · rw [sFin_u h]
      · rw [sFin_u h]
theorem sCh_v {σ : MS} {t u : Int} (h : u ≠ t) {f : Nat} (hf : okV f = true) : sCh σ t f u = σ f u := by
  have h7 := okV_7 hf
  have h1 : sW1 σ t f = σ f := by
    unfold sW1
    split
    · rw [up_f h7.2]
    · rfl
  unfold sCh
  rw [sChB_v h h7.1, h1]
theorem clA_v {σ : MS} {F : Int → Int} {t u : Int} (h : u ≠ t) (f : Nat) : clA σ F t f u = σ f u := by
  unfold clA
  split
  · rw [up_rd, if_neg (fun q => h q.2), up_rd, if_neg (fun q => h q.2)]
  · rw [up_rd, if_neg (fun q => h q.2)]
theorem clS_v {σ : MS} {F : Int → Int} {t u : Int} (h : u ≠ t) {f : Nat} (hf : okV f = true) : clS σ F t f u = σ f u := by
  unfold clS
  split
  · exact clA_v h f
  · rw [sCh_v h hf, clA_v h f]
theorem clLoop_v {x : MS × (Int → Int) × Int} {f : Nat} (hf : okV f = true) : ∀ (n : Nat) (u : Int), (n : Int) ≤ u → (clLoop n x).1 f u = x.1 f u
  | 0, _, _ => rfl
  | n + 1, u, hu => by
    have ih := clLoop_v (x := x) hf n u (by omega)
    rw [clLoop]
    try dsimp only
    split
    · exact (clS_v (by omega) hf).trans ih
    · exact ih
theorem sChB_7 {σ : MS} {t th : Int} (h : ∀ j, 0 ≤ σ 7 j) (j : Int) : 0 ≤ sChB σ t th 7 j := by
  have hq := h j
  unfold sChB
  split
  · split
    · rename_i h9
      rw [sFin_f rfl, up_rd]
      split
      · omega
      · exact hq
    · rw [sFin_f rfl]; exact hq
  · split
    · rw [sFin_f rfl]; exact hq
    · split
      · rw [sFin_f rfl]; exact hq
      · rw [sFin_f rfl]; exact hq
theorem sCh_7 {σ : MS} {t : Int} (h : ∀ j, 0 ≤ σ 7 j) (j : Int) : 0 ≤ sCh σ t 7 j := by
  have h1 : sW1 σ t 7 = σ 7 := by
    unfold sW1
    split
    · rw [up_f (by decide)]
    · rfl
  unfold sCh
  exact sChB_7 (by rw [h1]; exact h) j
theorem clLoop_7 {x : MS × (Int → Int) × Int} (h : ∀ j, 0 ≤ x.1 7 j) : ∀ (n : Nat) (j : Int), 0 ≤ (clLoop n x).1 7 j
  | 0, j => h j
  | n + 1, j => by
    have ih := clLoop_7 h n
    rw [clLoop]
    try dsimp only
    split
    · show 0 ≤ clS _ _ _ 7 j
      unfold clS
      split
      · rw [clA_f rfl]; exact ih j
      · refine sCh_7 (fun i => ?_) j
        rw [clA_f rfl]; exact ih i
    · exact ih j
theorem rGt_v {σ : MS} : ∀ (n : Nat) (c : Int), 0 ≤ c → c < n → rGt σ n 53 c = (if sAgr σ c then 0 else 1) ∧ rGt σ n 54 c = σ 26 c
  | 0, c, h1, h2 => by omega
  | n + 1, c, h1, h2 => by
    rw [rGt]
    by_cases e : c = n
    · subst e
      exact ⟨by rw [up_f (by decide)]; exact up_s, up_s⟩
    · have ih := rGt_v (σ := σ) n c h1 (by omega)
      exact ⟨by rw [up_f (by decide), up_o e]; exact ih.1, by rw [up_o e, up_f (by decide)]; exact ih.2⟩
theorem gOff_26 {σ τ : MS} (h : τ 26 = σ 26) : ∀ n : Nat, gOff τ n 26 = gOff σ n 26
  | 0 => h
  | n + 1 => by
    rw [gOff, gOff]
    funext j
    rw [up_rd, up_rd, gOff_26 h n]
theorem sSum_one {f g : Int → Int} {t : Int} : ∀ n : Nat, (∀ u : Int, 0 ≤ u → u < n → u ≠ t → f u = g u) → sSum f n = sSum g n + (if 0 ≤ t ∧ t < n then f t - g t else 0)
  | 0, _ => by rw [sSum, sSum, if_neg (by omega)]; rfl
  | n + 1, h => by
    have ih := sSum_one (f := f) (g := g) (t := t) n (fun u a b c => h u a (by omega) c)
    rw [sSum, sSum, ih]
    by_cases e : (n : Int) = t
    · subst e
      rw [if_neg (by omega), if_pos (by omega)]
      omega
    · rw [h n (by omega) (by omega) e]
      by_cases c : 0 ≤ t ∧ t < n
      · rw [if_pos c, if_pos (by omega)]; omega
      · rw [if_neg c, if_neg (by omega)]; omega
/-- ahead of the open day's tips nothing is done -/
theorem clLoop_0 {σ : MS} {f0 : Int → Int} (ho : sOrd σ) (hn : 0 ≤ σ 45 0) : ∀ n : Nat, (n : Int) ≤ sFirst σ → clLoop n (σ, f0, 0) = (σ, f0, 0)
  | 0, _ => rfl
  | n + 1, h => by
    have h1 := sFt_r σ (σ 45 0).toNat
    have h2 : sFirst σ ≤ ((σ 45 0).toNat : Int) := h1.2
    have h3 := sFt_b ho (σ 45 0).toNat (by omega) n (by omega) (by have : sFt σ (σ 45 0).toNat = sFirst σ := rfl; omega)
    rw [clLoop, clLoop_0 ho hn n (by omega)]
    try dsimp only
    rw [if_neg h3]
abbrev okT (f : Nat) : Bool := okc f && f != 50 && f != 51 && f != 52 && f != 53 && f != 54
theorem rGt_o {σ : MS} {c : Int} : ∀ {n : Nat}, (c < 0 ∨ (n : Int) ≤ c) → rGt σ n 54 c = σ 54 c
  | 0, _ => rfl
  | n + 1, h => by
    rw [rGt, up_o (by omega), up_f (by decide), rGt_o (n := n) (by omega)]
set_option maxHeartbeats 4000000 in
set_option maxRecDepth 100000 in
theorem c_p_close (l : Launch) (hlt : l.stackTraces = false) (D : va_G) (cy : Nat → ClassId) (d0 : Nat) (A : Nat → Prop) (la : Nat → Int → Nat) (σ : MS)   (hn5 : 0 ≤ σ 5 0 ∧ σ 5 0 ≤ 1000) (hn11 : 0 ≤ σ 11 0 ∧ σ 11 0 ≤ 1000) (hn23 : 0 ≤ σ 23 0 ∧ σ 23 0 ≤ 1000) (hn27 : 0 ≤ σ 27 0 ∧ σ 27 0 ≤ 1000) (hn45 : 0 ≤ σ 45 0 ∧ σ 45 0 ≤ 600) (hlg : σ 58 0 = 0 ∧ σ 59 0 = 0) (ho : sOrd σ) (hh : ∀ t, 0 ≤ t → t < σ 45 0 → 0 ≤ σ 35 t ∧ σ 35 t ≤ 3000000) (hct : ∀ t, 0 ≤ t → t < σ 45 0 → 0 ≤ σ 33 t ∧ σ 33 t < σ 27 0) (hbn : ∀ t, 0 ≤ t → t < σ 45 0 → ¬ σ 36 t < 0 → 0 ≤ σ 36 t ∧ σ 36 t < σ 23 0) (hn11b : σ 11 0 ≤ 60) (hcbA : ∀ t, σ 40 t = 1 → 0 ≤ σ 36 t) (h42A : ∀ t, 0 ≤ σ 42 t ∧ σ 42 t ≤ 100000) (h43A : ∀ t, 0 ≤ σ 43 t ∧ σ 43 t ≤ 100000) (h39A : ∀ t, 0 ≤ σ 39 t ∧ σ 39 t ≤ 3000000) (hdA : ∀ t, 0 ≤ σ 32 t ∧ σ 32 t ≤ 699) (hm : ∀ b, 0 ≤ σ 18 b ∧ σ 18 b ≤ 8) (hv : ∀ j, 0 ≤ σ 16 j) (hhoA : ∀ b d, 0 ≤ b → b < σ 23 0 → ¬ sHouse σ b d < 0 → 0 ≤ sHouse σ b d ∧ sHouse σ b d < σ 11 0) (hm22 : ∀ b, 0 ≤ σ 22 b ∧ σ 22 b ≤ 20) (hpw : ∀ j, 0 ≤ σ 20 j ∧ σ 20 j ≤ 1000) (hv19A : 0 < σ 23 0 → ∀ j, 0 ≤ σ 19 j ∧ σ 19 j < σ 11 0) (h7 : ∀ j, 0 ≤ σ 7 j) (hkA : ∀ b, 0 ≤ σ 12 b ∧ σ 12 b ≤ 4) (h28 : ∀ j, 0 ≤ σ 28 j ∧ σ 28 j ≤ 100000) (h29 : ∀ j, 0 ≤ σ 29 j ∧ σ 29 j ≤ 100000) (h15 : ∀ j, 0 ≤ σ 15 j ∧ σ 15 j ≤ 900000) (htol : 0 ≤ σ 31 0 ∧ σ 31 0 ≤ 1000) (hgt : ∀ q, -1 ≤ σ 26 q ∧ σ 26 q ≤ 1000000) (hhA : ∀ j, 0 ≤ σ 35 j ∧ σ 35 j ≤ 3000000) (hwrA : ∀ t, 0 ≤ t → t < σ 45 0 → σ 41 t = 1 → σ 12 (σ 36 t) = 1 ∨ σ 12 (σ 36 t) = 2) (hop40 : ∀ t, 0 ≤ t → t < σ 45 0 → σ 32 t = σ 1 0 → σ 40 t = 0) (hop44 : ∀ t, 0 ≤ t → t < σ 45 0 → σ 32 t = σ 1 0 → σ 44 t = -1) (h54A : ∀ c, ¬ (0 ≤ c ∧ c < σ 27 0) → -2000000000 ≤ σ 54 c ∧ σ 54 c ≤ 1000000) (h50 : ∀ h, 0 ≤ h → h < σ 11 0 → σ 50 h = sSum (fun u => sShr σ u h) (σ 45 0).toNat) (hop1 : σ 1 0 ≤ 699 ∧ 0 ≤ σ 1 0) : CT l yX10_close wsX10_close ({ frames := 8, cells := 16, slots := 256, locals := 188 } : Room) D cy d0 A [.ref (la 0 0)] la σ ((if closeC σ = 1 then 3 else 0)) (fun v' la' τ => v' = some (.int (iI (closeR σ))) ∧ la' = la ∧ (∀ q, q < 50 ∨ 54 < q → τ q = closeS σ q) ∧ ∀ h, 0 ≤ h → h < σ 11 0 → τ 50 h = sSum (fun u => sShr (closeS σ) u h) (σ 45 0).toNat) 16 256 := by
  refine ct_of (cc := cX10_close) (nL := 4) (ret := (some .int)) (by decide) rfl (Nat.le_of_ble_eq_true rfl) ?_
  intro p e s m args below meth c ls E hout hr hlk hK hC hS hl
  have B := E.1
  have hml := E.2.1
  have hown := E.2.2.1
  have hts0 := E.2.2.2.1
  have hts := E.2.2.2.1
  have hw := hC.2.2.2.2.2.1
  have loop : ∀ (n : Nat) (t N : Int) (S : MS) (F : Int → Int) (τ : MS) (H : Heap) (locs : List Loc) (ls : Array Slot) (hx : clLoop t.toNat (σ, clF0 σ, 0) = (S, F, N)) (h1e : ∀ f, f < 50 ∨ 54 < f → τ f = S f) (hF : ∀ c, 0 ≤ c → c < σ 27 0 → (if 0 ≤ F c then τ 53 c = 1 ∧ τ 54 c = F c ∧ F c ≤ 1000000 else τ 53 c = 0)) (h54 : ∀ c, τ 53 c = 0 → -2000000000 ≤ τ 54 c ∧ τ 54 c ≤ 1000000) (h50t : ∀ h, 0 ≤ h → h < σ 11 0 → τ 50 h = sSum (fun u => sShr S u h) (σ 45 0).toNat) (hne : ¬ σ 1 0 = 699), sFirst σ ≤ t → t ≤ σ 45 0 → σ 45 0 - t < n → CP D cy d0 A la τ H → va_S A s.heap H locs → lv_has ls 4 [(0, .ref (la 0 0)), (1, .int (iI N)), (2, .int (iI t))] → W p l e ({ frames := 8, cells := 16, slots := 256, locals := 188 } : Room) s m args below meth c H locs 16 256 (vx_MQ below (cQ D cy d0 A (fun v la' τ => (((if closeC σ = 1 then 3 else 0) : Int)) = 0 ∧ (fun v' la' τ => v' = some (.int (iI (closeR σ))) ∧ la' = la ∧ (∀ q, q < 50 ∨ 54 < q → τ q = closeS σ q) ∧ ∀ h, 0 ≤ h → h < σ 11 0 → τ 50 h = sSum (fun u => sShr (closeS σ) u h) (σ 45 0).toNat) v la' τ)) (cXX D cy d0 A ((if closeC σ = 1 then 3 else 0)) la σ) args s 16 256 A) (F0 m 29 ls []) := by
    intro n
    induction n with
    | zero => intro t N S F τ H locs ls hx h1e hF h54 h50t hne h1 h2 h3; exact absurd h3 (by omega)
    | succ n ih =>
      intro t N S F τ H locs ls hx h1e hF h54 h50t hne h1 h2 h3 hC hS hl
      have hF0 : 0 ≤ sFirst σ := (sFt_r σ _).1
      have hSf : ∀ f, okc f = true → S f = σ f := fun f hf => by
        have h := clLoop_f (x := (σ, clF0 σ, 0)) hf t.toNat
        rw [hx] at h
        exact h
      have hb : ∀ f, okT f = true → τ f = σ f := fun f hf => by
        have hf2 := hf
        simp only [okT, Bool.and_eq_true, bne_iff_ne, ne_eq] at hf2
        rw [h1e f (by omega)]
        exact hSf f (by simp only [okc, Bool.and_eq_true, bne_iff_ne, ne_eq]; omega)
      have hfg := c_forgetGates l D cy d0 A la τ (by rw [hb 27 rfl]; exact hn27) (by rw [hb 23 rfl]; exact hn23)
      rw [hb 27 rfl] at hfg
      by_cases hnl : σ 36 t < 0
      · refine x_iload_n B hl dX10_close_29 rfl ?_
        refine x_aload_n B hl dX10_close_30 rfl ?_
        refine co_getR (x := la 11 4) E hC 0 (by decide) cl_0 rfl (fun z h => List.mem_cons_of_mem _ (List.mem_append_left _ (List.mem_append_left _ (List.mem_append_left _ (List.mem_append_left _ (List.mem_append_left _ (List.mem_append_left _ (List.mem_append_left _ (List.mem_append_left _ (List.mem_append_left _ (List.mem_append_right _ h))))))))))) 4 (by decide) (hts (.fieldLink RX10 25 "BinRounds" "tips" "Ljava/util/ArrayList;") (by decide +kernel)) (fun x hx => hx) dX10_close_31 rfl rfl ?_
        refine co_call E hK hC hS hl (κ := 11) (i := 4) (by decide) (cl_q (⟨hb _ rfl, hb _ rfl, hb _ rfl, hb _ rfl, hb _ rfl, hb _ rfl, hb _ rfl⟩ : cLq σ τ) (cl_11 (by omega))) rfl (c_size l D cy d0 A la _ (L := 4) (n := σ 45 0) (cl_q (⟨hb _ rfl, hb _ rfl, hb _ rfl, hb _ rfl, hb _ rfl, hb _ rfl, hb _ rfl⟩ : cLq σ τ) (cl_11 (by omega))) ((cSz_4 ((((congrFun (hb 58 rfl) _).trans rfl)).trans hlg.1)).trans ((congrFun (hb 45 rfl) _).trans rfl))) (cwV 0 hts0 gX10_close_Jx4a65c_size_8abf5 rfl rfl rfl (by decide +kernel) ⟨Nat.le_of_ble_eq_true rfl, Nat.le_of_ble_eq_true rfl⟩) rfl rfl (Nat.le_of_ble_eq_true rfl) dX10_close_34 ⟨Nat.le_of_ble_eq_true rfl, Nat.le_of_ble_eq_true rfl⟩ (fun H locs q_34 hC hS => ?_)
        refine x_icmp_ge (tgt := 103) B dX10_close_37 (by decide) (by omega) (by omega) (fun c_37 => ?_) (fun c_37 => ?_)
        · refine x_aload_n B hl dX10_close_103 rfl ?_
          refine co_call E hK hC hS hl (κ := 0) (i := 0) (by decide) cl_0 rfl hfg (cwV 0 hts0 gX10_close_X10_forgetGates rfl rfl rfl (by decide +kernel) ⟨Nat.le_of_ble_eq_true rfl, Nat.le_of_ble_eq_true rfl⟩) rfl rfl (Nat.le_of_ble_eq_true rfl) dX10_close_104 ⟨Nat.le_of_ble_eq_true rfl, Nat.le_of_ble_eq_true rfl⟩ (fun H locs q_f hC hS => ?_)
          refine x_aload_n B hl dX10_close_107 rfl ?_
          refine x_dup B dX10_close_108 rfl ?_
          refine co_geti (f := 1) E hC 0 (by decide) cl_0 rfl (fun z h => List.mem_cons_of_mem _ (List.mem_append_left _ (List.mem_append_left _ (List.mem_append_left _ (List.mem_append_left _ (List.mem_append_left _ (List.mem_append_left _ (List.mem_append_left _ (List.mem_append_left _ (List.mem_append_left _ (List.mem_append_right _ h))))))))))) 8 (by decide) (hts (.fieldLink RX10 49 "BinRounds" "open" "I") (by decide +kernel)) (fun x hx => hx) dX10_close_109 ⟨rfl, rfl, rfl⟩ ((congrFun (gOff_f (by decide) (σ 27 0).toNat) _).trans ((congrFun (hb 1 rfl) _).trans rfl)) (fun r_109 => ?_)
          refine x_iconst B dX10_close_112 ?_
          refine x_iadd B dX10_close_113 ?_
          refine co_puti (f := 1) E hC hS 0 (by decide) cl_0 rfl (fun z h => List.mem_cons_of_mem _ (List.mem_append_left _ (List.mem_append_left _ (List.mem_append_left _ (List.mem_append_left _ (List.mem_append_left _ (List.mem_append_left _ (List.mem_append_left _ (List.mem_append_left _ (List.mem_append_left _ (List.mem_append_right _ h))))))))))) tyX10 tyX10_ok nmX10 8 (by decide) (hts (.fieldLink RX10 49 "BinRounds" "open" "I") (by decide +kernel)) (fun x hx => hx) rfl rfl dX10_close_114 (by decide) ⟨rfl, rfl, rfl, rfl⟩ (by omega) (fun H locs hC hS => ?_)
          refine x_iload_n B hl dX10_close_117 rfl ?_
          have e45 : t = σ 45 0 := by omega
          have hxe : clEnd σ = (S, F, N) := by unfold clEnd; rw [← e45]; exact hx
          exact w_widen (Nat.le_of_ble_eq_true rfl) (Nat.le_of_ble_eq_true rfl) (vx_ret (co_iret E hr rfl hlk hC hS dX10_close_118 ⟨(by rw [show closeC σ = 0 from if_neg hne]; rfl), by unfold closeR; rw [hxe], rfl, fun q a => by
            unfold closeS
            rw [hxe]
            funext j
            rw [up_rd, up_rd]
            by_cases h26 : q = 26
            · subst h26
              rw [gOff_26 (h1e 26 (by decide))]
            · rw [gOff_f h26, gOff_f h26, h1e q a], fun h a b => by
            rw [up_f (by decide), gOff_f (by decide), h50t h a b]
            refine sSum_c _ (fun u _ _ => (sShr_u (fun f hf => ?_) (fun f hf => ?_) h).symm)
            · unfold closeS
              rw [hxe, up_f (by simp only [okG, Bool.or_eq_true, beq_iff_eq] at hf; omega), gOff_f (by simp only [okG, Bool.or_eq_true, beq_iff_eq] at hf; omega)]
            · unfold closeS
              rw [hxe, up_f (by simp only [okU, Bool.or_eq_true, beq_iff_eq] at hf; omega), gOff_f (by simp only [okU, Bool.or_eq_true, beq_iff_eq] at hf; omega)]⟩))
        · refine x_aload_n B hl dX10_close_40 rfl ?_
          refine co_getR (x := la 11 4) E hC 0 (by decide) cl_0 rfl (fun z h => List.mem_cons_of_mem _ (List.mem_append_left _ (List.mem_append_left _ (List.mem_append_left _ (List.mem_append_left _ (List.mem_append_left _ (List.mem_append_left _ (List.mem_append_left _ (List.mem_append_left _ (List.mem_append_left _ (List.mem_append_right _ h))))))))))) 4 (by decide) (hts (.fieldLink RX10 25 "BinRounds" "tips" "Ljava/util/ArrayList;") (by decide +kernel)) (fun x hx => hx) dX10_close_41 rfl rfl ?_
          refine x_iload_n B hl dX10_close_44 rfl ?_
          refine co_call E hK hC hS hl (κ := 11) (i := 4) (by decide) (cl_q (⟨hb _ rfl, hb _ rfl, hb _ rfl, hb _ rfl, hb _ rfl, hb _ rfl, hb _ rfl⟩ : cLq σ τ) (cl_11 (by omega))) rfl (c_get l D cy d0 A la _ (L := 4) (n := σ 45 0) (j := t) (x := la 10 t) (cl_q (⟨hb _ rfl, hb _ rfl, hb _ rfl, hb _ rfl, hb _ rfl, hb _ rfl, hb _ rfl⟩ : cLq σ τ) (cl_11 (by omega))) ((cSz_4 ((((congrFun (hb 58 rfl) _).trans rfl)).trans hlg.1)).trans ((congrFun (hb 45 rfl) _).trans rfl)) (by omega) (by omega) rfl) (cwV 1 hts0 gX10_close_Jx4a65c_get_915e3 rfl rfl rfl (by decide +kernel) ⟨Nat.le_of_ble_eq_true rfl, Nat.le_of_ble_eq_true rfl⟩) rfl rfl (Nat.le_of_ble_eq_true rfl) dX10_close_45 ⟨Nat.le_of_ble_eq_true rfl, Nat.le_of_ble_eq_true rfl⟩ (fun H locs q_45 hC hS => ?_)
          refine co_cast E hK hC 10 (by decide) (cl_q (⟨hb _ rfl, hb _ rfl, hb _ rfl, hb _ rfl, hb _ rfl, hb _ rfl, hb _ rfl⟩ : cLq σ τ) (cl_10 (by omega))) rfl (by decide +kernel) dX10_close_48 ?_
          refine x_astore_n B hl dX10_close_51 (by decide) (fun ls hl => ?_)
          have ht9 : 0 ≤ t ∧ t < σ 45 0 := by omega
          have hq9 := hct t ht9.1 ht9.2
          have hF9 := hF (σ 33 t) hq9.1 hq9.2
          have h35 := hhA t
          have hday : σ 32 t = σ 1 0 := sFt_o (σ := σ) (σ 45 0).toNat t h1 (by omega)
          obtain ⟨zP, hzP⟩ : ∃ z, z = clP S F t := ⟨_, rfl⟩
          have hzv : zP = if 0 ≤ F (σ 33 t) then (if σ 35 t < F (σ 33 t) then σ 35 t else F (σ 33 t)) else σ 35 t := by rw [hzP]; unfold clP; rw [hSf 33 rfl, hSf 35 rfl]
          have hzr : 0 ≤ zP ∧ zP ≤ 3000000 := by
            rw [hzv]
            split
            · split <;> omega
            · omega
          obtain ⟨π, hπe⟩ : ∃ z, z = (if τ 53 (σ 33 t) = 1 then up τ 54 (σ 33 t) (τ 54 (σ 33 t) - (if τ 54 (σ 33 t) < σ 35 t then τ 54 (σ 33 t) else σ 35 t)) else τ) := ⟨_, rfl⟩
          have hπf : ∀ f, f ≠ 54 → π f = τ f := fun f hf => by
            rw [hπe]
            split
            · exact up_f hf
            · rfl
          have hp : ∀ f, okT f = true → π f = σ f := fun f hf => by
            have hf2 := hf
            simp only [okT, okc, Bool.and_eq_true, bne_iff_ne, ne_eq] at hf2
            rw [hπf f (by omega)]
            exact hb f hf
          have hpay : CM l yX2_payHalves wsX2_payHalves ({ frames := 1, cells := 0, slots := 0, locals := 13 } : Room) D cy d0 A [.ref (la 9 (σ 33 t)), .int (iI (σ 35 t))] la τ (some (.int (iI zP))) π (0 ≤ zP ∧ zP ≤ 3000000) := by
            have h := c_payHalves l D cy d0 A la τ (q := σ 33 t) (h := σ 35 t) (by rw [hb 27 rfl]; exact hq9) h35 (by
              by_cases h0 : 0 ≤ F (σ 33 t)
              · rw [if_pos h0] at hF9; omega
              · rw [if_neg h0] at hF9; exact h54 _ hF9)
            rw [← hπe] at h
            have e : (if τ 53 (σ 33 t) = 1 then (if τ 54 (σ 33 t) < σ 35 t then τ 54 (σ 33 t) else σ 35 t) else σ 35 t) = zP := by
              rw [hzv]
              by_cases h0 : 0 ≤ F (σ 33 t)
              · rw [if_pos h0] at hF9
                rw [if_pos hF9.1, if_pos h0, hF9.2.1]
                split <;> split <;> omega
              · rw [if_neg h0] at hF9
                rw [if_neg (by omega), if_neg h0]
            rw [e] at h
            exact CN.imp h (fun v' la' τ' z => ⟨z.1, z.2.1, z.2.2.1, hzr⟩)
          obtain ⟨gP, hgP⟩ : ∃ z, z = (if 0 ≤ F (σ 33 t) then σ 26 (σ 33 t) else -1) := ⟨_, rfl⟩
          have h53 : π 53 = τ 53 := hπf 53 (by decide)
          have hgr : -2147483648 ≤ gP ∧ gP < 2147483648 := by
            have := hgt (σ 33 t)
            rw [hgP]
            split <;> omega
          have hcap : CM l yX2_capOfDay wsX2_capOfDay ({ frames := 0, cells := 0, slots := 0, locals := 0 } : Room) D cy d0 A [.ref (la 9 (σ 33 t))] la (up π 39 t zP) (some (.int (iI gP))) (up π 39 t zP) (-2147483648 ≤ gP ∧ gP < 2147483648) := by
            have h := c_capOfDay l D cy d0 A la (up π 39 t zP) (q := σ 33 t) (by rw [up_f (by decide), hp 27 rfl]; exact hq9)
            have e : (if up π 39 t zP 53 (σ 33 t) = 1 then up π 39 t zP 26 (σ 33 t) else -1) = gP := by
              rw [up_f (k' := 53) (by decide), up_f (k' := 26) (by decide), h53, hp 26 rfl, hgP]
              by_cases h0 : 0 ≤ F (σ 33 t)
              · rw [if_pos h0] at hF9
                rw [if_pos hF9.1, if_pos h0]
              · rw [if_neg h0] at hF9
                rw [if_neg (by omega), if_neg h0]
            rw [e] at h
            exact h
          refine x_aload_n B hl dX10_close_52 rfl ?_
          refine x_aload_n B hl dX10_close_53 rfl ?_
          refine co_getR (x := la 9 (σ 33 t)) E hC 10 (by decide) (cl_q (⟨hb _ rfl, hb _ rfl, hb _ rfl, hb _ rfl, hb _ rfl, hb _ rfl, hb _ rfl⟩ : cLq σ τ) (cl_10 (by omega))) rfl (fun z h => List.mem_cons_of_mem _ (List.mem_append_left _ (List.mem_append_left _ (List.mem_append_left _ (List.mem_append_left _ (List.mem_append_left _ (List.mem_append_left _ (List.mem_append_left _ (List.mem_append_left _ (List.mem_append_right _ h)))))))))) 1 (by decide) (hts (.fieldLink RX10 253 "BinRounds$Tip" "carrier" "LBinRounds$Cart;") (by decide +kernel)) (fun x hx => hx) dX10_close_54 rfl (congrArg (fun z => some (la 9 z)) (congrFun (hb 33 rfl) t)) ?_
          refine x_aload_n B hl dX10_close_57 rfl ?_
          refine co_geti (f := 35) E hC 10 (by decide) (cl_q (⟨hb _ rfl, hb _ rfl, hb _ rfl, hb _ rfl, hb _ rfl, hb _ rfl, hb _ rfl⟩ : cLq σ τ) (cl_10 (by omega))) rfl (fun z h => List.mem_cons_of_mem _ (List.mem_append_left _ (List.mem_append_left _ (List.mem_append_left _ (List.mem_append_left _ (List.mem_append_left _ (List.mem_append_left _ (List.mem_append_left _ (List.mem_append_left _ (List.mem_append_right _ h)))))))))) 3 (by decide) (hts (.fieldLink RX10 219 "BinRounds$Tip" "halves" "I") (by decide +kernel)) (fun x hx => hx) dX10_close_58 ⟨rfl, rfl, rfl⟩ ((congrFun (hb 35 rfl) _).trans rfl) (fun r_58 => ?_)
          refine co_call E hK hC hS hl (κ := 9) (i := (σ 33 t)) (by decide) (cl_q (⟨hb _ rfl, hb _ rfl, hb _ rfl, hb _ rfl, hb _ rfl, hb _ rfl, hb _ rfl⟩ : cLq σ τ) (cl_9 (hct t (by omega) (by omega)))) rfl hpay (cwV 1 hts0 gX10_close_X2_payHalves rfl rfl rfl (by decide +kernel) ⟨Nat.le_of_ble_eq_true rfl, Nat.le_of_ble_eq_true rfl⟩) rfl rfl (Nat.le_of_ble_eq_true rfl) dX10_close_61 ⟨Nat.le_of_ble_eq_true rfl, Nat.le_of_ble_eq_true rfl⟩ (fun H locs q_61 hC hS => ?_)
          refine co_puti (f := 39) E hC hS 10 (by decide) (cl_q (⟨hp _ rfl, hp _ rfl, hp _ rfl, hp _ rfl, hp _ rfl, hp _ rfl, hp _ rfl⟩ : cLq σ π) (cl_10 (by omega))) rfl (fun z h => List.mem_cons_of_mem _ (List.mem_append_left _ (List.mem_append_left _ (List.mem_append_left _ (List.mem_append_left _ (List.mem_append_left _ (List.mem_append_left _ (List.mem_append_left _ (List.mem_append_left _ (List.mem_append_right _ h)))))))))) tyX9 tyX9_ok nmX9 7 (by decide) (hts (.fieldLink RX10 260 "BinRounds$Tip" "paid" "I") (by decide +kernel)) (fun x hx => hx) rfl rfl dX10_close_64 (by decide) ⟨rfl, rfl, rfl, rfl⟩ (by omega) (fun H locs hC hS => ?_)
          refine x_aload_n B hl dX10_close_67 rfl ?_
          refine x_aload_n B hl dX10_close_68 rfl ?_
          refine co_getR (x := la 9 (σ 33 t)) E hC 10 (by decide) (cl_up (by decide) (cl_q (⟨hp _ rfl, hp _ rfl, hp _ rfl, hp _ rfl, hp _ rfl, hp _ rfl, hp _ rfl⟩ : cLq σ π) (cl_10 (by omega)))) rfl (fun z h => List.mem_cons_of_mem _ (List.mem_append_left _ (List.mem_append_left _ (List.mem_append_left _ (List.mem_append_left _ (List.mem_append_left _ (List.mem_append_left _ (List.mem_append_left _ (List.mem_append_left _ (List.mem_append_right _ h)))))))))) 1 (by decide) (hts (.fieldLink RX10 253 "BinRounds$Tip" "carrier" "LBinRounds$Cart;") (by decide +kernel)) (fun x hx => hx) dX10_close_69 rfl (congrArg (fun z => some (la 9 z)) ((congrFun (up_f (σ := π) (k := 39) (j := t) (v := zP) (k' := 33) (by decide)) t).trans (congrFun (hp 33 rfl) t))) ?_
          refine co_call E hK hC hS hl (κ := 9) (i := (σ 33 t)) (by decide) (cl_up (by decide) (cl_q (⟨hp _ rfl, hp _ rfl, hp _ rfl, hp _ rfl, hp _ rfl, hp _ rfl, hp _ rfl⟩ : cLq σ π) (cl_9 (hct t (by omega) (by omega))))) rfl hcap (cwV 0 hts0 gX10_close_X2_capOfDay rfl rfl rfl (by decide +kernel) ⟨Nat.le_of_ble_eq_true rfl, Nat.le_of_ble_eq_true rfl⟩) rfl rfl (Nat.le_of_ble_eq_true rfl) dX10_close_72 ⟨Nat.le_of_ble_eq_true rfl, Nat.le_of_ble_eq_true rfl⟩ (fun H locs q_72 hC hS => ?_)
          refine co_puti (f := 44) E hC hS 10 (by decide) (cl_up (by decide) (cl_q (⟨hp _ rfl, hp _ rfl, hp _ rfl, hp _ rfl, hp _ rfl, hp _ rfl, hp _ rfl⟩ : cLq σ π) (cl_10 (by omega)))) rfl (fun z h => List.mem_cons_of_mem _ (List.mem_append_left _ (List.mem_append_left _ (List.mem_append_left _ (List.mem_append_left _ (List.mem_append_left _ (List.mem_append_left _ (List.mem_append_left _ (List.mem_append_left _ (List.mem_append_right _ h)))))))))) tyX9 tyX9_ok nmX9 8 (by decide) (hts (.fieldLink RX10 266 "BinRounds$Tip" "cap" "I") (by decide +kernel)) (fun x hx => hx) rfl rfl dX10_close_75 (by decide) ⟨rfl, rfl, rfl, rfl⟩ (by omega) (fun H locs hC hS => ?_)
          obtain ⟨ω, hωe⟩ : ∃ z, z = up (up π 39 t zP) 44 t gP := ⟨_, rfl⟩
          have hC0 := hC
          replace hC : CP D cy d0 A la ω H := by rw [hωe]; exact hC0
          have hω : ∀ f, f < 50 ∨ 54 < f → ω f = clA S F t f := fun f hf => by
            have e1 : ω f = up (up S 39 t zP) 44 t gP f := by
              rw [hωe]
              funext j
              rw [up_rd, up_rd, up_rd, up_rd, hπf f (by omega), h1e f hf]
            rw [e1]
            unfold clA
            rw [← hzP, hSf 33 rfl, hSf 26 rfl]
            have h44 : S 44 t = -1 := by
              have h := clLoop_v (x := (σ, clF0 σ, 0)) (f := 44) rfl t.toNat t (by omega)
              rw [hx] at h
              exact h.trans (hop44 t ht9.1 ht9.2 hday)
            by_cases h0 : 0 ≤ F (σ 33 t)
            · rw [if_pos h0] at hgP
              rw [if_pos h0, hgP]
              funext j
              by_cases e9 : f = 39
              · subst e9
                rw [up_f (by decide), up_rd, up_rd, up_f (k' := 39) (by decide)]
              · by_cases e4 : f = 44
                · subst e4
                  rw [up_rd, up_f (k := 39) (k' := 44) (by decide), up_f (k := 39) (k' := 44) (by decide), up_rd]
                · rw [up_f e4, up_f e9, up_f e9, up_f e4]
            · rw [if_neg h0] at hgP
              rw [if_neg h0, hgP, up_id (by rw [up_f (by decide)]; exact h44)]
          have hωb : ∀ f, okT f = true → ω f = σ f := fun f hf => by
            have hf2 := hf
            simp only [okT, okc, Bool.and_eq_true, bne_iff_ne, ne_eq] at hf2
            rw [hωe, up_f (by omega), up_f (by omega)]
            exact hp f hf
          have hω50 : ω 50 = τ 50 := by rw [hωe, up_f (by decide), up_f (by decide), hπf 50 (by decide)]
          have hω53 : ω 53 = τ 53 := by rw [hωe, up_f (by decide), up_f (by decide), h53]
          have hω54 : ∀ c, ω 54 c = if c = σ 33 t ∧ 0 ≤ F (σ 33 t) then F (σ 33 t) - zP else τ 54 c := fun c => by
            rw [hωe, up_f (by decide), up_f (by decide), hπe]
            by_cases h0 : 0 ≤ F (σ 33 t)
            · rw [if_pos h0] at hF9 hzv
              rw [if_pos hF9.1, up_rd, hF9.2.1]
              by_cases hc : c = σ 33 t
              · subst hc
                rw [if_pos (show (54 : Nat) = 54 ∧ σ 33 t = σ 33 t from ⟨rfl, rfl⟩), if_pos (show σ 33 t = σ 33 t ∧ 0 ≤ F (σ 33 t) from ⟨rfl, h0⟩), hzv]
                split <;> split <;> omega
              · rw [if_neg (fun z => hc z.2), if_neg (fun z => hc z.1)]
            · rw [if_neg h0] at hF9
              rw [if_neg (by omega), if_neg (fun z => h0 z.2)]
          have hFn : ∀ c, 0 ≤ c → c < σ 27 0 → (if 0 ≤ clF S F t c then ω 53 c = 1 ∧ ω 54 c = clF S F t c ∧ clF S F t c ≤ 1000000 else ω 53 c = 0) := fun c a b => by
            have hFc := hF c a b
            rw [hω53, hω54 c]
            unfold clF
            rw [← hzP, hSf 33 rfl]
            by_cases hc : c = σ 33 t
            · subst hc
              by_cases h0 : 0 ≤ F (σ 33 t)
              · rw [if_pos h0] at hFc hzv
                have hz3 : zP ≤ F (σ 33 t) := by rw [hzv]; split <;> omega
                rw [if_pos (show 0 ≤ F (σ 33 t) ∧ σ 33 t = σ 33 t from ⟨h0, rfl⟩), if_pos (show 0 ≤ F (σ 33 t) - zP by omega), if_pos (show σ 33 t = σ 33 t ∧ 0 ≤ F (σ 33 t) from ⟨rfl, h0⟩)]
                exact ⟨hFc.1, rfl, by omega⟩
              · rw [if_neg h0] at hFc
                rw [if_neg (show ¬ (0 ≤ F (σ 33 t) ∧ σ 33 t = σ 33 t) from fun z => h0 z.1), if_neg h0]
                exact hFc
            · rw [if_neg (show ¬ (0 ≤ F (σ 33 t) ∧ c = σ 33 t) from fun z => hc z.2), if_neg (show ¬ (c = σ 33 t ∧ 0 ≤ F (σ 33 t)) from fun z => hc z.1)]
              exact hFc
          have h54n : ∀ c, ω 53 c = 0 → -2000000000 ≤ ω 54 c ∧ ω 54 c ≤ 1000000 := fun c hz => by
            rw [hω53] at hz
            rw [hω54 c]
            by_cases h0 : c = σ 33 t ∧ 0 ≤ F (σ 33 t)
            · rw [if_pos h0.2] at hF9
              rw [h0.1] at hz
              omega
            · rw [if_neg h0]
              exact h54 c hz
          have hS40 : S 40 t = 0 := by
            have h := clLoop_v (x := (σ, clF0 σ, 0)) (f := 40) rfl t.toNat t (by omega)
            rw [hx] at h
            exact h.trans (hop40 t ht9.1 ht9.2 hday)
          have hxn := clLoop_y ht9.1 hx (by rw [hSf 32 rfl, hSf 1 rfl]; exact hday)
          have hS36 := congrFun (hSf 36 rfl) t
          have hgS : ∀ f, okG f = true → clS S F t f = S f := fun f hf => clS_f (by
            simp only [okG, Bool.or_eq_true, beq_iff_eq] at hf
            simp only [okc, Bool.and_eq_true, bne_iff_ne, ne_eq]
            omega)
          have huS : ∀ u, u ≠ t → ∀ f, okU f = true → clS S F t f u = S f u := fun u hu f hf => by
            by_cases h32 : f = 32 ∨ f = 36
            · exact congrFun (clS_f (by
                simp only [okc, Bool.and_eq_true, bne_iff_ne, ne_eq]
                omega)) u
            · exact clS_v hu (by
                simp only [okU, Bool.or_eq_true, beq_iff_eq] at hf
                simp only [okV, Bool.or_eq_true, beq_iff_eq]
                omega)
          have hsum : ∀ h, sSum (fun u => sShr (clS S F t) u h) (σ 45 0).toNat = sSum (fun u => sShr S u h) (σ 45 0).toNat + sShr (clS S F t) t h := fun h => by
            rw [sSum_one (t := t) (f := fun u => sShr (clS S F t) u h) (g := fun u => sShr S u h) (σ 45 0).toNat (fun u _ _ hu => sShr_u hgS (huS u hu) h), if_pos (by omega), sShr_0 (σ := S) hS40, Int.sub_zero]
          refine x_aload_n B hl dX10_close_78 rfl ?_
          refine co_getr (r := none) E hC 10 (by decide) (cl_q (⟨hωb _ rfl, hωb _ rfl, hωb _ rfl, hωb _ rfl, hωb _ rfl, hωb _ rfl, hωb _ rfl⟩ : cLq σ ω) (cl_10 (by omega))) rfl (fun z h => List.mem_cons_of_mem _ (List.mem_append_left _ (List.mem_append_left _ (List.mem_append_left _ (List.mem_append_left _ (List.mem_append_left _ (List.mem_append_left _ (List.mem_append_left _ (List.mem_append_left _ (List.mem_append_right _ h)))))))))) 4 (by decide) (hts (.fieldLink RX10 211 "BinRounds$Tip" "bin" "LBinRounds$Bin;") (by decide +kernel)) (fun x hx => hx) dX10_close_79 rfl (cR_bn (show _ = σ 36 t from ((congrFun (hωb 36 rfl) _).trans rfl)) hnl) ?_
          refine lv_ifnullN (tgt := 97) B.1 B.2 dX10_close_82 (by decide) ?_
          refine x_iinc B hl dX10_close_97 rfl (by decide) (fun ls hl => ?_)
          refine x_goto (tgt := 29) B dX10_close_100 (by decide) ?_
          exact ih (t + 1) N (clS S F t) (clF S F t) ω _ _ ls (by rw [hxn]; unfold clN; rw [if_pos (by omega)]) (fun f hf => by rw [hω f hf]; unfold clS; rw [if_pos (by omega)]) hFn h54n (fun h a b => by rw [hsum h, hω50, h50t h a b]; unfold clS; rw [if_pos (by omega), sShr_0 (by rw [clA_f rfl]; exact hS40), Int.add_zero]) hne (by omega) (by omega) (by omega) hC hS (lv_key hl [(0, .ref (la 0 0)), (1, .int (iI N)), (2, .int (iI (t + 1)))] rfl)
      · refine x_iload_n B hl dX10_close_29 rfl ?_
        refine x_aload_n B hl dX10_close_30 rfl ?_
        refine co_getR (x := la 11 4) E hC 0 (by decide) cl_0 rfl (fun z h => List.mem_cons_of_mem _ (List.mem_append_left _ (List.mem_append_left _ (List.mem_append_left _ (List.mem_append_left _ (List.mem_append_left _ (List.mem_append_left _ (List.mem_append_left _ (List.mem_append_left _ (List.mem_append_left _ (List.mem_append_right _ h))))))))))) 4 (by decide) (hts (.fieldLink RX10 25 "BinRounds" "tips" "Ljava/util/ArrayList;") (by decide +kernel)) (fun x hx => hx) dX10_close_31 rfl rfl ?_
        refine co_call E hK hC hS hl (κ := 11) (i := 4) (by decide) (cl_q (⟨hb _ rfl, hb _ rfl, hb _ rfl, hb _ rfl, hb _ rfl, hb _ rfl, hb _ rfl⟩ : cLq σ τ) (cl_11 (by omega))) rfl (c_size l D cy d0 A la _ (L := 4) (n := σ 45 0) (cl_q (⟨hb _ rfl, hb _ rfl, hb _ rfl, hb _ rfl, hb _ rfl, hb _ rfl, hb _ rfl⟩ : cLq σ τ) (cl_11 (by omega))) ((cSz_4 ((((congrFun (hb 58 rfl) _).trans rfl)).trans hlg.1)).trans ((congrFun (hb 45 rfl) _).trans rfl))) (cwV 0 hts0 gX10_close_Jx4a65c_size_8abf5 rfl rfl rfl (by decide +kernel) ⟨Nat.le_of_ble_eq_true rfl, Nat.le_of_ble_eq_true rfl⟩) rfl rfl (Nat.le_of_ble_eq_true rfl) dX10_close_34 ⟨Nat.le_of_ble_eq_true rfl, Nat.le_of_ble_eq_true rfl⟩ (fun H locs q_34 hC hS => ?_)
        refine x_icmp_ge (tgt := 103) B dX10_close_37 (by decide) (by omega) (by omega) (fun c_37 => ?_) (fun c_37 => ?_)
        · refine x_aload_n B hl dX10_close_103 rfl ?_
          refine co_call E hK hC hS hl (κ := 0) (i := 0) (by decide) cl_0 rfl hfg (cwV 0 hts0 gX10_close_X10_forgetGates rfl rfl rfl (by decide +kernel) ⟨Nat.le_of_ble_eq_true rfl, Nat.le_of_ble_eq_true rfl⟩) rfl rfl (Nat.le_of_ble_eq_true rfl) dX10_close_104 ⟨Nat.le_of_ble_eq_true rfl, Nat.le_of_ble_eq_true rfl⟩ (fun H locs q_f hC hS => ?_)
          refine x_aload_n B hl dX10_close_107 rfl ?_
          refine x_dup B dX10_close_108 rfl ?_
          refine co_geti (f := 1) E hC 0 (by decide) cl_0 rfl (fun z h => List.mem_cons_of_mem _ (List.mem_append_left _ (List.mem_append_left _ (List.mem_append_left _ (List.mem_append_left _ (List.mem_append_left _ (List.mem_append_left _ (List.mem_append_left _ (List.mem_append_left _ (List.mem_append_left _ (List.mem_append_right _ h))))))))))) 8 (by decide) (hts (.fieldLink RX10 49 "BinRounds" "open" "I") (by decide +kernel)) (fun x hx => hx) dX10_close_109 ⟨rfl, rfl, rfl⟩ ((congrFun (gOff_f (by decide) (σ 27 0).toNat) _).trans ((congrFun (hb 1 rfl) _).trans rfl)) (fun r_109 => ?_)
          refine x_iconst B dX10_close_112 ?_
          refine x_iadd B dX10_close_113 ?_
          refine co_puti (f := 1) E hC hS 0 (by decide) cl_0 rfl (fun z h => List.mem_cons_of_mem _ (List.mem_append_left _ (List.mem_append_left _ (List.mem_append_left _ (List.mem_append_left _ (List.mem_append_left _ (List.mem_append_left _ (List.mem_append_left _ (List.mem_append_left _ (List.mem_append_left _ (List.mem_append_right _ h))))))))))) tyX10 tyX10_ok nmX10 8 (by decide) (hts (.fieldLink RX10 49 "BinRounds" "open" "I") (by decide +kernel)) (fun x hx => hx) rfl rfl dX10_close_114 (by decide) ⟨rfl, rfl, rfl, rfl⟩ (by omega) (fun H locs hC hS => ?_)
          refine x_iload_n B hl dX10_close_117 rfl ?_
          have e45 : t = σ 45 0 := by omega
          have hxe : clEnd σ = (S, F, N) := by unfold clEnd; rw [← e45]; exact hx
          exact w_widen (Nat.le_of_ble_eq_true rfl) (Nat.le_of_ble_eq_true rfl) (vx_ret (co_iret E hr rfl hlk hC hS dX10_close_118 ⟨(by rw [show closeC σ = 0 from if_neg hne]; rfl), by unfold closeR; rw [hxe], rfl, fun q a => by
            unfold closeS
            rw [hxe]
            funext j
            rw [up_rd, up_rd]
            by_cases h26 : q = 26
            · subst h26
              rw [gOff_26 (h1e 26 (by decide))]
            · rw [gOff_f h26, gOff_f h26, h1e q a], fun h a b => by
            rw [up_f (by decide), gOff_f (by decide), h50t h a b]
            refine sSum_c _ (fun u _ _ => (sShr_u (fun f hf => ?_) (fun f hf => ?_) h).symm)
            · unfold closeS
              rw [hxe, up_f (by simp only [okG, Bool.or_eq_true, beq_iff_eq] at hf; omega), gOff_f (by simp only [okG, Bool.or_eq_true, beq_iff_eq] at hf; omega)]
            · unfold closeS
              rw [hxe, up_f (by simp only [okU, Bool.or_eq_true, beq_iff_eq] at hf; omega), gOff_f (by simp only [okU, Bool.or_eq_true, beq_iff_eq] at hf; omega)]⟩))
        · refine x_aload_n B hl dX10_close_40 rfl ?_
          refine co_getR (x := la 11 4) E hC 0 (by decide) cl_0 rfl (fun z h => List.mem_cons_of_mem _ (List.mem_append_left _ (List.mem_append_left _ (List.mem_append_left _ (List.mem_append_left _ (List.mem_append_left _ (List.mem_append_left _ (List.mem_append_left _ (List.mem_append_left _ (List.mem_append_left _ (List.mem_append_right _ h))))))))))) 4 (by decide) (hts (.fieldLink RX10 25 "BinRounds" "tips" "Ljava/util/ArrayList;") (by decide +kernel)) (fun x hx => hx) dX10_close_41 rfl rfl ?_
          refine x_iload_n B hl dX10_close_44 rfl ?_
          refine co_call E hK hC hS hl (κ := 11) (i := 4) (by decide) (cl_q (⟨hb _ rfl, hb _ rfl, hb _ rfl, hb _ rfl, hb _ rfl, hb _ rfl, hb _ rfl⟩ : cLq σ τ) (cl_11 (by omega))) rfl (c_get l D cy d0 A la _ (L := 4) (n := σ 45 0) (j := t) (x := la 10 t) (cl_q (⟨hb _ rfl, hb _ rfl, hb _ rfl, hb _ rfl, hb _ rfl, hb _ rfl, hb _ rfl⟩ : cLq σ τ) (cl_11 (by omega))) ((cSz_4 ((((congrFun (hb 58 rfl) _).trans rfl)).trans hlg.1)).trans ((congrFun (hb 45 rfl) _).trans rfl)) (by omega) (by omega) rfl) (cwV 1 hts0 gX10_close_Jx4a65c_get_915e3 rfl rfl rfl (by decide +kernel) ⟨Nat.le_of_ble_eq_true rfl, Nat.le_of_ble_eq_true rfl⟩) rfl rfl (Nat.le_of_ble_eq_true rfl) dX10_close_45 ⟨Nat.le_of_ble_eq_true rfl, Nat.le_of_ble_eq_true rfl⟩ (fun H locs q_45 hC hS => ?_)
          refine co_cast E hK hC 10 (by decide) (cl_q (⟨hb _ rfl, hb _ rfl, hb _ rfl, hb _ rfl, hb _ rfl, hb _ rfl, hb _ rfl⟩ : cLq σ τ) (cl_10 (by omega))) rfl (by decide +kernel) dX10_close_48 ?_
          refine x_astore_n B hl dX10_close_51 (by decide) (fun ls hl => ?_)
          have ht9 : 0 ≤ t ∧ t < σ 45 0 := by omega
          have hq9 := hct t ht9.1 ht9.2
          have hF9 := hF (σ 33 t) hq9.1 hq9.2
          have h35 := hhA t
          have hday : σ 32 t = σ 1 0 := sFt_o (σ := σ) (σ 45 0).toNat t h1 (by omega)
          obtain ⟨zP, hzP⟩ : ∃ z, z = clP S F t := ⟨_, rfl⟩
          have hzv : zP = if 0 ≤ F (σ 33 t) then (if σ 35 t < F (σ 33 t) then σ 35 t else F (σ 33 t)) else σ 35 t := by rw [hzP]; unfold clP; rw [hSf 33 rfl, hSf 35 rfl]
          have hzr : 0 ≤ zP ∧ zP ≤ 3000000 := by
            rw [hzv]
            split
            · split <;> omega
            · omega
          obtain ⟨π, hπe⟩ : ∃ z, z = (if τ 53 (σ 33 t) = 1 then up τ 54 (σ 33 t) (τ 54 (σ 33 t) - (if τ 54 (σ 33 t) < σ 35 t then τ 54 (σ 33 t) else σ 35 t)) else τ) := ⟨_, rfl⟩
          have hπf : ∀ f, f ≠ 54 → π f = τ f := fun f hf => by
            rw [hπe]
            split
            · exact up_f hf
            · rfl
          have hp : ∀ f, okT f = true → π f = σ f := fun f hf => by
            have hf2 := hf
            simp only [okT, okc, Bool.and_eq_true, bne_iff_ne, ne_eq] at hf2
            rw [hπf f (by omega)]
            exact hb f hf
          have hpay : CM l yX2_payHalves wsX2_payHalves ({ frames := 1, cells := 0, slots := 0, locals := 13 } : Room) D cy d0 A [.ref (la 9 (σ 33 t)), .int (iI (σ 35 t))] la τ (some (.int (iI zP))) π (0 ≤ zP ∧ zP ≤ 3000000) := by
            have h := c_payHalves l D cy d0 A la τ (q := σ 33 t) (h := σ 35 t) (by rw [hb 27 rfl]; exact hq9) h35 (by
              by_cases h0 : 0 ≤ F (σ 33 t)
              · rw [if_pos h0] at hF9; omega
              · rw [if_neg h0] at hF9; exact h54 _ hF9)
            rw [← hπe] at h
            have e : (if τ 53 (σ 33 t) = 1 then (if τ 54 (σ 33 t) < σ 35 t then τ 54 (σ 33 t) else σ 35 t) else σ 35 t) = zP := by
              rw [hzv]
              by_cases h0 : 0 ≤ F (σ 33 t)
              · rw [if_pos h0] at hF9
                rw [if_pos hF9.1, if_pos h0, hF9.2.1]
                split <;> split <;> omega
              · rw [if_neg h0] at hF9
                rw [if_neg (by omega), if_neg h0]
            rw [e] at h
            exact CN.imp h (fun v' la' τ' z => ⟨z.1, z.2.1, z.2.2.1, hzr⟩)
          obtain ⟨gP, hgP⟩ : ∃ z, z = (if 0 ≤ F (σ 33 t) then σ 26 (σ 33 t) else -1) := ⟨_, rfl⟩
          have h53 : π 53 = τ 53 := hπf 53 (by decide)
          have hgr : -2147483648 ≤ gP ∧ gP < 2147483648 := by
            have := hgt (σ 33 t)
            rw [hgP]
            split <;> omega
          have hcap : CM l yX2_capOfDay wsX2_capOfDay ({ frames := 0, cells := 0, slots := 0, locals := 0 } : Room) D cy d0 A [.ref (la 9 (σ 33 t))] la (up π 39 t zP) (some (.int (iI gP))) (up π 39 t zP) (-2147483648 ≤ gP ∧ gP < 2147483648) := by
            have h := c_capOfDay l D cy d0 A la (up π 39 t zP) (q := σ 33 t) (by rw [up_f (by decide), hp 27 rfl]; exact hq9)
            have e : (if up π 39 t zP 53 (σ 33 t) = 1 then up π 39 t zP 26 (σ 33 t) else -1) = gP := by
              rw [up_f (k' := 53) (by decide), up_f (k' := 26) (by decide), h53, hp 26 rfl, hgP]
              by_cases h0 : 0 ≤ F (σ 33 t)
              · rw [if_pos h0] at hF9
                rw [if_pos hF9.1, if_pos h0]
              · rw [if_neg h0] at hF9
                rw [if_neg (by omega), if_neg h0]
            rw [e] at h
            exact h
          refine x_aload_n B hl dX10_close_52 rfl ?_
          refine x_aload_n B hl dX10_close_53 rfl ?_
          refine co_getR (x := la 9 (σ 33 t)) E hC 10 (by decide) (cl_q (⟨hb _ rfl, hb _ rfl, hb _ rfl, hb _ rfl, hb _ rfl, hb _ rfl, hb _ rfl⟩ : cLq σ τ) (cl_10 (by omega))) rfl (fun z h => List.mem_cons_of_mem _ (List.mem_append_left _ (List.mem_append_left _ (List.mem_append_left _ (List.mem_append_left _ (List.mem_append_left _ (List.mem_append_left _ (List.mem_append_left _ (List.mem_append_left _ (List.mem_append_right _ h)))))))))) 1 (by decide) (hts (.fieldLink RX10 253 "BinRounds$Tip" "carrier" "LBinRounds$Cart;") (by decide +kernel)) (fun x hx => hx) dX10_close_54 rfl (congrArg (fun z => some (la 9 z)) (congrFun (hb 33 rfl) t)) ?_
          refine x_aload_n B hl dX10_close_57 rfl ?_
          refine co_geti (f := 35) E hC 10 (by decide) (cl_q (⟨hb _ rfl, hb _ rfl, hb _ rfl, hb _ rfl, hb _ rfl, hb _ rfl, hb _ rfl⟩ : cLq σ τ) (cl_10 (by omega))) rfl (fun z h => List.mem_cons_of_mem _ (List.mem_append_left _ (List.mem_append_left _ (List.mem_append_left _ (List.mem_append_left _ (List.mem_append_left _ (List.mem_append_left _ (List.mem_append_left _ (List.mem_append_left _ (List.mem_append_right _ h)))))))))) 3 (by decide) (hts (.fieldLink RX10 219 "BinRounds$Tip" "halves" "I") (by decide +kernel)) (fun x hx => hx) dX10_close_58 ⟨rfl, rfl, rfl⟩ ((congrFun (hb 35 rfl) _).trans rfl) (fun r_58 => ?_)
          refine co_call E hK hC hS hl (κ := 9) (i := (σ 33 t)) (by decide) (cl_q (⟨hb _ rfl, hb _ rfl, hb _ rfl, hb _ rfl, hb _ rfl, hb _ rfl, hb _ rfl⟩ : cLq σ τ) (cl_9 (hct t (by omega) (by omega)))) rfl hpay (cwV 1 hts0 gX10_close_X2_payHalves rfl rfl rfl (by decide +kernel) ⟨Nat.le_of_ble_eq_true rfl, Nat.le_of_ble_eq_true rfl⟩) rfl rfl (Nat.le_of_ble_eq_true rfl) dX10_close_61 ⟨Nat.le_of_ble_eq_true rfl, Nat.le_of_ble_eq_true rfl⟩ (fun H locs q_61 hC hS => ?_)
          refine co_puti (f := 39) E hC hS 10 (by decide) (cl_q (⟨hp _ rfl, hp _ rfl, hp _ rfl, hp _ rfl, hp _ rfl, hp _ rfl, hp _ rfl⟩ : cLq σ π) (cl_10 (by omega))) rfl (fun z h => List.mem_cons_of_mem _ (List.mem_append_left _ (List.mem_append_left _ (List.mem_append_left _ (List.mem_append_left _ (List.mem_append_left _ (List.mem_append_left _ (List.mem_append_left _ (List.mem_append_left _ (List.mem_append_right _ h)))))))))) tyX9 tyX9_ok nmX9 7 (by decide) (hts (.fieldLink RX10 260 "BinRounds$Tip" "paid" "I") (by decide +kernel)) (fun x hx => hx) rfl rfl dX10_close_64 (by decide) ⟨rfl, rfl, rfl, rfl⟩ (by omega) (fun H locs hC hS => ?_)
          refine x_aload_n B hl dX10_close_67 rfl ?_
          refine x_aload_n B hl dX10_close_68 rfl ?_
          refine co_getR (x := la 9 (σ 33 t)) E hC 10 (by decide) (cl_up (by decide) (cl_q (⟨hp _ rfl, hp _ rfl, hp _ rfl, hp _ rfl, hp _ rfl, hp _ rfl, hp _ rfl⟩ : cLq σ π) (cl_10 (by omega)))) rfl (fun z h => List.mem_cons_of_mem _ (List.mem_append_left _ (List.mem_append_left _ (List.mem_append_left _ (List.mem_append_left _ (List.mem_append_left _ (List.mem_append_left _ (List.mem_append_left _ (List.mem_append_left _ (List.mem_append_right _ h)))))))))) 1 (by decide) (hts (.fieldLink RX10 253 "BinRounds$Tip" "carrier" "LBinRounds$Cart;") (by decide +kernel)) (fun x hx => hx) dX10_close_69 rfl (congrArg (fun z => some (la 9 z)) ((congrFun (up_f (σ := π) (k := 39) (j := t) (v := zP) (k' := 33) (by decide)) t).trans (congrFun (hp 33 rfl) t))) ?_
          refine co_call E hK hC hS hl (κ := 9) (i := (σ 33 t)) (by decide) (cl_up (by decide) (cl_q (⟨hp _ rfl, hp _ rfl, hp _ rfl, hp _ rfl, hp _ rfl, hp _ rfl, hp _ rfl⟩ : cLq σ π) (cl_9 (hct t (by omega) (by omega))))) rfl hcap (cwV 0 hts0 gX10_close_X2_capOfDay rfl rfl rfl (by decide +kernel) ⟨Nat.le_of_ble_eq_true rfl, Nat.le_of_ble_eq_true rfl⟩) rfl rfl (Nat.le_of_ble_eq_true rfl) dX10_close_72 ⟨Nat.le_of_ble_eq_true rfl, Nat.le_of_ble_eq_true rfl⟩ (fun H locs q_72 hC hS => ?_)
          refine co_puti (f := 44) E hC hS 10 (by decide) (cl_up (by decide) (cl_q (⟨hp _ rfl, hp _ rfl, hp _ rfl, hp _ rfl, hp _ rfl, hp _ rfl, hp _ rfl⟩ : cLq σ π) (cl_10 (by omega)))) rfl (fun z h => List.mem_cons_of_mem _ (List.mem_append_left _ (List.mem_append_left _ (List.mem_append_left _ (List.mem_append_left _ (List.mem_append_left _ (List.mem_append_left _ (List.mem_append_left _ (List.mem_append_left _ (List.mem_append_right _ h)))))))))) tyX9 tyX9_ok nmX9 8 (by decide) (hts (.fieldLink RX10 266 "BinRounds$Tip" "cap" "I") (by decide +kernel)) (fun x hx => hx) rfl rfl dX10_close_75 (by decide) ⟨rfl, rfl, rfl, rfl⟩ (by omega) (fun H locs hC hS => ?_)
          obtain ⟨ω, hωe⟩ : ∃ z, z = up (up π 39 t zP) 44 t gP := ⟨_, rfl⟩
          have hC0 := hC
          replace hC : CP D cy d0 A la ω H := by rw [hωe]; exact hC0
          have hω : ∀ f, f < 50 ∨ 54 < f → ω f = clA S F t f := fun f hf => by
            have e1 : ω f = up (up S 39 t zP) 44 t gP f := by
              rw [hωe]
              funext j
              rw [up_rd, up_rd, up_rd, up_rd, hπf f (by omega), h1e f hf]
            rw [e1]
            unfold clA
            rw [← hzP, hSf 33 rfl, hSf 26 rfl]
            have h44 : S 44 t = -1 := by
              have h := clLoop_v (x := (σ, clF0 σ, 0)) (f := 44) rfl t.toNat t (by omega)
              rw [hx] at h
              exact h.trans (hop44 t ht9.1 ht9.2 hday)
            by_cases h0 : 0 ≤ F (σ 33 t)
            · rw [if_pos h0] at hgP
              rw [if_pos h0, hgP]
              funext j
              by_cases e9 : f = 39
              · subst e9
                rw [up_f (by decide), up_rd, up_rd, up_f (k' := 39) (by decide)]
              · by_cases e4 : f = 44
                · subst e4
                  rw [up_rd, up_f (k := 39) (k' := 44) (by decide), up_f (k := 39) (k' := 44) (by decide), up_rd]
                · rw [up_f e4, up_f e9, up_f e9, up_f e4]
            · rw [if_neg h0] at hgP
              rw [if_neg h0, hgP, up_id (by rw [up_f (by decide)]; exact h44)]
          have hωb : ∀ f, okT f = true → ω f = σ f := fun f hf => by
            have hf2 := hf
            simp only [okT, okc, Bool.and_eq_true, bne_iff_ne, ne_eq] at hf2
            rw [hωe, up_f (by omega), up_f (by omega)]
            exact hp f hf
          have hω50 : ω 50 = τ 50 := by rw [hωe, up_f (by decide), up_f (by decide), hπf 50 (by decide)]
          have hω53 : ω 53 = τ 53 := by rw [hωe, up_f (by decide), up_f (by decide), h53]
          have hω54 : ∀ c, ω 54 c = if c = σ 33 t ∧ 0 ≤ F (σ 33 t) then F (σ 33 t) - zP else τ 54 c := fun c => by
            rw [hωe, up_f (by decide), up_f (by decide), hπe]
            by_cases h0 : 0 ≤ F (σ 33 t)
            · rw [if_pos h0] at hF9 hzv
              rw [if_pos hF9.1, up_rd, hF9.2.1]
              by_cases hc : c = σ 33 t
              · subst hc
                rw [if_pos (show (54 : Nat) = 54 ∧ σ 33 t = σ 33 t from ⟨rfl, rfl⟩), if_pos (show σ 33 t = σ 33 t ∧ 0 ≤ F (σ 33 t) from ⟨rfl, h0⟩), hzv]
                split <;> split <;> omega
              · rw [if_neg (fun z => hc z.2), if_neg (fun z => hc z.1)]
            · rw [if_neg h0] at hF9
              rw [if_neg (by omega), if_neg (fun z => h0 z.2)]
          have hFn : ∀ c, 0 ≤ c → c < σ 27 0 → (if 0 ≤ clF S F t c then ω 53 c = 1 ∧ ω 54 c = clF S F t c ∧ clF S F t c ≤ 1000000 else ω 53 c = 0) := fun c a b => by
            have hFc := hF c a b
            rw [hω53, hω54 c]
            unfold clF
            rw [← hzP, hSf 33 rfl]
            by_cases hc : c = σ 33 t
            · subst hc
              by_cases h0 : 0 ≤ F (σ 33 t)
              · rw [if_pos h0] at hFc hzv
                have hz3 : zP ≤ F (σ 33 t) := by rw [hzv]; split <;> omega
                rw [if_pos (show 0 ≤ F (σ 33 t) ∧ σ 33 t = σ 33 t from ⟨h0, rfl⟩), if_pos (show 0 ≤ F (σ 33 t) - zP by omega), if_pos (show σ 33 t = σ 33 t ∧ 0 ≤ F (σ 33 t) from ⟨rfl, h0⟩)]
                exact ⟨hFc.1, rfl, by omega⟩
              · rw [if_neg h0] at hFc
                rw [if_neg (show ¬ (0 ≤ F (σ 33 t) ∧ σ 33 t = σ 33 t) from fun z => h0 z.1), if_neg h0]
                exact hFc
            · rw [if_neg (show ¬ (0 ≤ F (σ 33 t) ∧ c = σ 33 t) from fun z => hc z.2), if_neg (show ¬ (c = σ 33 t ∧ 0 ≤ F (σ 33 t)) from fun z => hc z.1)]
              exact hFc
          have h54n : ∀ c, ω 53 c = 0 → -2000000000 ≤ ω 54 c ∧ ω 54 c ≤ 1000000 := fun c hz => by
            rw [hω53] at hz
            rw [hω54 c]
            by_cases h0 : c = σ 33 t ∧ 0 ≤ F (σ 33 t)
            · rw [if_pos h0.2] at hF9
              rw [h0.1] at hz
              omega
            · rw [if_neg h0]
              exact h54 c hz
          have hS40 : S 40 t = 0 := by
            have h := clLoop_v (x := (σ, clF0 σ, 0)) (f := 40) rfl t.toNat t (by omega)
            rw [hx] at h
            exact h.trans (hop40 t ht9.1 ht9.2 hday)
          have hxn := clLoop_y ht9.1 hx (by rw [hSf 32 rfl, hSf 1 rfl]; exact hday)
          have hS36 := congrFun (hSf 36 rfl) t
          have hgS : ∀ f, okG f = true → clS S F t f = S f := fun f hf => clS_f (by
            simp only [okG, Bool.or_eq_true, beq_iff_eq] at hf
            simp only [okc, Bool.and_eq_true, bne_iff_ne, ne_eq]
            omega)
          have huS : ∀ u, u ≠ t → ∀ f, okU f = true → clS S F t f u = S f u := fun u hu f hf => by
            by_cases h32 : f = 32 ∨ f = 36
            · exact congrFun (clS_f (by
                simp only [okc, Bool.and_eq_true, bne_iff_ne, ne_eq]
                omega)) u
            · exact clS_v hu (by
                simp only [okU, Bool.or_eq_true, beq_iff_eq] at hf
                simp only [okV, Bool.or_eq_true, beq_iff_eq]
                omega)
          have hsum : ∀ h, sSum (fun u => sShr (clS S F t) u h) (σ 45 0).toNat = sSum (fun u => sShr S u h) (σ 45 0).toNat + sShr (clS S F t) t h := fun h => by
            rw [sSum_one (t := t) (f := fun u => sShr (clS S F t) u h) (g := fun u => sShr S u h) (σ 45 0).toNat (fun u _ _ hu => sShr_u hgS (huS u hu) h), if_pos (by omega), sShr_0 (σ := S) hS40, Int.sub_zero]
          refine x_aload_n B hl dX10_close_78 rfl ?_
          refine co_getR (x := la 6 (σ 36 t)) E hC 10 (by decide) (cl_q (⟨hωb _ rfl, hωb _ rfl, hωb _ rfl, hωb _ rfl, hωb _ rfl, hωb _ rfl, hωb _ rfl⟩ : cLq σ ω) (cl_10 (by omega))) rfl (fun z h => List.mem_cons_of_mem _ (List.mem_append_left _ (List.mem_append_left _ (List.mem_append_left _ (List.mem_append_left _ (List.mem_append_left _ (List.mem_append_left _ (List.mem_append_left _ (List.mem_append_left _ (List.mem_append_right _ h)))))))))) 4 (by decide) (hts (.fieldLink RX10 211 "BinRounds$Tip" "bin" "LBinRounds$Bin;") (by decide +kernel)) (fun x hx => hx) dX10_close_79 rfl (cR_br (show _ = σ 36 t from ((congrFun (hωb 36 rfl) _).trans rfl)) hnl) ?_
          refine lv_ifnull B.1 B.2 dX10_close_82 ?_
          have hCA : ∀ f, (f != 39 && f != 44) = true → clA S F t f = S f := fun f hf => clA_f hf
          have h15S : ∀ j, 0 ≤ ω 15 j ∧ ω 15 j ≤ 1000000 := fun j => by
            rw [hω 15 (by decide), hCA 15 rfl]
            have h := clLoop_15 (x := (σ, clF0 σ, 0)) (B := 900000) h15 t.toNat j
            rw [hx] at h
            have h2 : 0 ≤ S 15 j ∧ S 15 j ≤ 900000 + (t.toNat : Int) := h
            omega
          have h7S : ∀ j, 0 ≤ ω 7 j := fun j => by
            rw [hω 7 (by decide), hCA 7 rfl]
            have h := clLoop_7 (x := (σ, clF0 σ, 0)) h7 t.toNat j
            rw [hx] at h
            exact h
          have hHo : ∀ b d, sHouse ω b d = sHouse σ b d := fun b d => sHouse_c (hωb 16 rfl) (hωb 17 rfl) (hωb 18 rfl) b d
          have hb9 := hbn t ht9.1 ht9.2 hnl
          have h39o : ω 39 t = zP := by rw [hωe, up_f (by decide)]; exact up_s
          have hch := c_chargeTip l D cy d0 A la ω (t := t) (by rw [hωb 45 rfl]; exact ht9) (by rw [hωb 45 rfl]; exact hn45) (by rw [hωb 11 rfl]; omega) (by rw [hωb 23 rfl]; exact hn23) (fun _ => by rw [hωb 36 rfl, hωb 23 rfl]; exact hb9) (by rw [h39o]; exact hzr) (by rw [hωb 32 rfl]; exact hdA t) (by rw [hωb 18 rfl]; exact hm) (by rw [hωb 16 rfl]; exact hv) (by rw [hωb 36 rfl, hωb 32 rfl, hHo, hωb 11 rfl]; exact hhoA _ _ hb9.1 hb9.2) (by rw [hωb 22 rfl]; exact hm22) (by rw [hωb 20 rfl]; exact hpw) (by rw [hωb 36 rfl]; exact hnl) (by rw [hωb 19 rfl, hωb 11 rfl]; exact hv19A (by omega)) h7S (by rw [hωb 36 rfl, hωb 12 rfl]; exact hkA _) (by rw [hωb 36 rfl, hωb 12 rfl, hωb 41 rfl]; exact hwrA t ht9.1 ht9.2) (by rw [hωb 28 rfl]; exact h28) (by rw [hωb 29 rfl]; exact h29) h15S
          rw [hωb 36 rfl] at hch
          have hcl : clS S F t = sCh (clA S F t) t := by unfold clS; rw [if_neg (by omega)]
          have h5 : eq5 (clA S F t) ω := fun f hf => hω f (by omega)
          refine x_aload_n B hl dX10_close_85 rfl ?_
          refine x_aload_n B hl dX10_close_86 rfl ?_
          refine x_aload_n B hl dX10_close_87 rfl ?_
          refine co_getR (x := la 6 (σ 36 t)) E hC 10 (by decide) (cl_q (⟨hωb _ rfl, hωb _ rfl, hωb _ rfl, hωb _ rfl, hωb _ rfl, hωb _ rfl, hωb _ rfl⟩ : cLq σ ω) (cl_10 (by omega))) rfl (fun z h => List.mem_cons_of_mem _ (List.mem_append_left _ (List.mem_append_left _ (List.mem_append_left _ (List.mem_append_left _ (List.mem_append_left _ (List.mem_append_left _ (List.mem_append_left _ (List.mem_append_left _ (List.mem_append_right _ h)))))))))) 4 (by decide) (hts (.fieldLink RX10 211 "BinRounds$Tip" "bin" "LBinRounds$Bin;") (by decide +kernel)) (fun x hx => hx) dX10_close_88 rfl (cR_br (show _ = σ 36 t from ((congrFun (hωb 36 rfl) _).trans rfl)) hnl) ?_
          refine co_callX E hK hC hS hl (κ := 0) (i := 0) (by decide) cl_0 rfl hch (cwV 2 hts0 gX10_close_X10_chargeTip rfl rfl rfl (by decide +kernel) ⟨Nat.le_of_ble_eq_true rfl, Nat.le_of_ble_eq_true rfl⟩) rfl rfl (Nat.le_of_ble_eq_true rfl) dX10_close_91 ⟨Nat.le_of_ble_eq_true rfl, Nat.le_of_ble_eq_true rfl⟩ (fun H locs τ1 qx hC hS => ?_)
          have hg9 : ∀ f, f < 50 ∨ 54 < f → τ1 f = clS S F t f := fun f hf => by
            rw [qx.1 f (by omega) (by omega) (by omega), hcl]
            by_cases h57 : f < 50 ∨ 57 < f
            · exact sCh_5 h5 t f h57
            · rw [sCh_f (by simp only [Bool.and_eq_true, bne_iff_ne, ne_eq]; omega), sCh_f (by simp only [Bool.and_eq_true, bne_iff_ne, ne_eq]; omega)]
              exact hω f hf
          have g1 : ∀ f, okT f = true → τ1 f = σ f := fun f hf => by
            have hf2 := hf
            simp only [okT, Bool.and_eq_true, bne_iff_ne, ne_eq] at hf2
            rw [hg9 f (by omega), clS_f (by simp only [okc, Bool.and_eq_true, bne_iff_ne, ne_eq]; omega)]
            exact hSf f (by simp only [okc, Bool.and_eq_true, bne_iff_ne, ne_eq]; omega)
          have g53 : τ1 53 = ω 53 := by rw [qx.1 53 (by decide) (by decide) (by decide), sCh_f rfl]
          have g54 : τ1 54 = ω 54 := by rw [qx.1 54 (by decide) (by decide) (by decide), sCh_f rfl]
          have hgU : ∀ f, okG f = true → sCh ω t f = clS S F t f := fun f hf => by
            rw [hcl]
            exact sCh_5 h5 t f (Or.inl (by simp only [okG, Bool.or_eq_true, beq_iff_eq] at hf; omega))
          have huU : ∀ f, okU f = true → sCh ω t f t = clS S F t f t := fun f hf => by
            rw [hcl]
            exact congrFun (sCh_5 h5 t f (Or.inl (by simp only [okU, Bool.or_eq_true, beq_iff_eq] at hf; omega))) t
          have g50 : ∀ h, 0 ≤ h → h < σ 11 0 → τ1 50 h = sSum (fun u => sShr (clS S F t) u h) (σ 45 0).toNat := fun h a b => by
            rw [qx.2 h a (by rw [hωb 11 rfl]; exact b), hsum h, hω50, h50t h a b, sShr_u hgU huU h]
          refine x_iinc B hl dX10_close_94 rfl (by decide) (fun ls hl => ?_)
          refine x_iinc B hl dX10_close_97 rfl (by decide) (fun ls hl => ?_)
          refine x_goto (tgt := 29) B dX10_close_100 (by decide) ?_
          exact ih (t + 1) (N + 1) (clS S F t) (clF S F t) τ1 _ _ ls (by rw [hxn]; unfold clN; rw [if_neg (by omega)]) hg9 (by rw [g53, g54]; exact hFn) (by rw [g53, g54]; exact h54n) g50 hne (by omega) (by omega) (by omega) hC hS (lv_key hl [(0, .ref (la 0 0)), (1, .int (iI (N + 1))), (2, .int (iI (t + 1)))] rfl)
  refine x_aload_n B hl dX10_close_0 rfl ?_
  refine co_geti (f := 1) E hC 0 (by decide) cl_0 rfl (fun z h => List.mem_cons_of_mem _ (List.mem_append_left _ (List.mem_append_left _ (List.mem_append_left _ (List.mem_append_left _ (List.mem_append_left _ (List.mem_append_left _ (List.mem_append_left _ (List.mem_append_left _ (List.mem_append_left _ (List.mem_append_right _ h))))))))))) 8 (by decide) (hts (.fieldLink RX10 49 "BinRounds" "open" "I") (by decide +kernel)) (fun x hx => hx) dX10_close_1 ⟨rfl, rfl, rfl⟩ rfl (fun r_1 => ?_)
  refine x_sipush B dX10_close_4 (by decide) ?_
  refine x_icmp_ge (tgt := 14) B dX10_close_7 (by decide) (by omega) (by omega) (fun c_7 => ?_) (fun c_7 => ?_)
  · refine x_iconst B dX10_close_14 ?_
    refine cstm_call E hout hlk hK hC hS hl (c_requireRoom l hlt D cy d0 A la _ (z := 0) (Or.inl rfl)) (va_cwS 1 hts0 gX10_close_X10_requireRoom rfl rfl rfl (by decide +kernel) ⟨Nat.le_of_ble_eq_true rfl, Nat.le_of_ble_eq_true rfl⟩) rfl rfl (Nat.le_of_ble_eq_true rfl) dX10_close_15 ⟨Nat.le_of_ble_eq_true rfl, Nat.le_of_ble_eq_true rfl⟩ ⟨Nat.le_of_ble_eq_true rfl, Nat.le_of_ble_eq_true rfl⟩ (fun h => ⟨by unfold closeC; omega, rfl⟩) (fun h9_15 H locs q_15 hC hS => ?_)
    refine x_aload_n B hl dX10_close_18 rfl ?_
    refine co_call E hK hC hS hl (κ := 0) (i := 0) (by decide) cl_0 rfl (c_readGates l D cy d0 A la σ hn27 hn45 hn23 hlg ho hh hct htol hgt) (cwV 0 hts0 gX10_close_X10_readGates rfl rfl rfl (by decide +kernel) ⟨Nat.le_of_ble_eq_true rfl, Nat.le_of_ble_eq_true rfl⟩) rfl rfl (Nat.le_of_ble_eq_true rfl) dX10_close_19 ⟨Nat.le_of_ble_eq_true rfl, Nat.le_of_ble_eq_true rfl⟩ (fun H locs q_rg hC hS => ?_)
    refine x_iconst B dX10_close_22 ?_
    refine x_istore_n B hl dX10_close_23 (by decide) (fun ls hl => ?_)
    obtain ⟨ρ, hρe⟩ : ∃ z, z = rGt σ (σ 27 0).toNat := ⟨_, rfl⟩
    have hC0 := hC
    replace hC : CP D cy d0 A la ρ H := by rw [hρe]; exact hC0
    have hρ : ∀ f, f ≠ 53 → f ≠ 54 → ρ f = σ f := fun f a b => by rw [hρe]; exact rGt_f a b _
    have hft : CM l yX10_firstTipToday wsX10_firstTipToday ({ frames := 3, cells := 0, slots := 0, locals := 64 } : Room) D cy d0 A [.ref (la 0 0)] la ρ (some (.int (iI (sFirst σ)))) ρ (0 ≤ sFirst σ ∧ sFirst σ ≤ σ 45 0) := by
      have h := c_firstTipToday l D cy d0 A la ρ (by rw [hρ 45 (by decide) (by decide)]; exact hn45) (by rw [hρ 23 (by decide) (by decide)]; exact hn23) (by rw [hρ 58 (by decide) (by decide), hρ 59 (by decide) (by decide)]; exact hlg)
      have e : sFirst ρ = sFirst σ := by
        unfold sFirst
        rw [hρ 45 (by decide) (by decide), sFt_c (hρ 32 (by decide) (by decide)) (hρ 1 (by decide) (by decide))]
      rw [e, hρ 45 (by decide) (by decide)] at h
      exact h
    refine x_aload_n B hl dX10_close_24 rfl ?_
    refine co_call E hK hC hS hl (κ := 0) (i := 0) (by decide) cl_0 rfl hft (cwV 0 hts0 gX10_close_X10_firstTipToday rfl rfl rfl (by decide +kernel) ⟨Nat.le_of_ble_eq_true rfl, Nat.le_of_ble_eq_true rfl⟩) rfl rfl (Nat.le_of_ble_eq_true rfl) dX10_close_25 ⟨Nat.le_of_ble_eq_true rfl, Nat.le_of_ble_eq_true rfl⟩ (fun H locs q_ft hC hS => ?_)
    refine x_istore_n B hl dX10_close_28 (by decide) (fun ls hl => ?_)
    exact w_widen (Nat.le_of_ble_eq_true rfl) (Nat.le_of_ble_eq_true rfl) (loop 1001 (sFirst σ) 0 σ (clF0 σ) ρ _ _ ls (clLoop_0 ho hn45.1 _ (by omega)) (fun f hf => hρ f (by omega) (by omega)) (fun c a b => by
      have hv := rGt_v (σ := σ) (σ 27 0).toNat c a (by omega)
      have hgc := hgt c
      rw [← hρe] at hv
      unfold clF0
      rw [if_pos (show 0 ≤ c ∧ c < σ 27 0 from ⟨a, b⟩), hv.1, hv.2]
      by_cases hag : sAgr σ c
      · rw [if_pos hag, if_pos hag, if_neg (by decide)]
      · rw [if_neg hag, if_neg hag]
        have h0 : 0 ≤ σ 26 c := by
          by_cases h9 : σ 26 c < 0
          · exact absurd (Or.inl h9) hag
          · omega
        rw [if_pos h0]
        exact ⟨rfl, rfl, hgc.2⟩) (fun c hz => by
      by_cases hc : 0 ≤ c ∧ c < σ 27 0
      · have hv := rGt_v (σ := σ) (σ 27 0).toNat c hc.1 (by omega)
        have hgc := hgt c
        rw [← hρe] at hv
        rw [hv.2]; omega
      · rw [hρe, rGt_o (by omega)]
        exact h54A c hc) (fun h a b => by rw [hρ 50 (by decide) (by decide)]; exact h50 h a b) (by omega) (by omega) (by omega) (by omega) hC hS (lv_key hl [(0, .ref (la 0 0)), (1, .int (iI 0)), (2, .int (iI (sFirst σ)))] rfl))
  · refine x_iconst B dX10_close_10 ?_
    refine x_goto (tgt := 15) B dX10_close_11 (by decide) ?_
    refine cstm_call E hout hlk hK hC hS hl (c_requireRoom l hlt D cy d0 A la _ (z := 1) (Or.inr rfl)) (va_cwS 1 hts0 gX10_close_X10_requireRoom rfl rfl rfl (by decide +kernel) ⟨Nat.le_of_ble_eq_true rfl, Nat.le_of_ble_eq_true rfl⟩) rfl rfl (Nat.le_of_ble_eq_true rfl) dX10_close_15 ⟨Nat.le_of_ble_eq_true rfl, Nat.le_of_ble_eq_true rfl⟩ ⟨Nat.le_of_ble_eq_true rfl, Nat.le_of_ble_eq_true rfl⟩ (fun h => ⟨by unfold closeC; omega, rfl⟩) (fun h9_15 H locs q_15 hC hS => ?_)
    refine x_aload_n B hl dX10_close_18 rfl ?_
    refine co_call E hK hC hS hl (κ := 0) (i := 0) (by decide) cl_0 rfl (c_readGates l D cy d0 A la σ hn27 hn45 hn23 hlg ho hh hct htol hgt) (cwV 0 hts0 gX10_close_X10_readGates rfl rfl rfl (by decide +kernel) ⟨Nat.le_of_ble_eq_true rfl, Nat.le_of_ble_eq_true rfl⟩) rfl rfl (Nat.le_of_ble_eq_true rfl) dX10_close_19 ⟨Nat.le_of_ble_eq_true rfl, Nat.le_of_ble_eq_true rfl⟩ (fun H locs q_rg hC hS => ?_)
    refine x_iconst B dX10_close_22 ?_
    refine x_istore_n B hl dX10_close_23 (by decide) (fun ls hl => ?_)
    obtain ⟨ρ, hρe⟩ : ∃ z, z = rGt σ (σ 27 0).toNat := ⟨_, rfl⟩
    have hC0 := hC
    replace hC : CP D cy d0 A la ρ H := by rw [hρe]; exact hC0
    have hρ : ∀ f, f ≠ 53 → f ≠ 54 → ρ f = σ f := fun f a b => by rw [hρe]; exact rGt_f a b _
    have hft : CM l yX10_firstTipToday wsX10_firstTipToday ({ frames := 3, cells := 0, slots := 0, locals := 64 } : Room) D cy d0 A [.ref (la 0 0)] la ρ (some (.int (iI (sFirst σ)))) ρ (0 ≤ sFirst σ ∧ sFirst σ ≤ σ 45 0) := by
      have h := c_firstTipToday l D cy d0 A la ρ (by rw [hρ 45 (by decide) (by decide)]; exact hn45) (by rw [hρ 23 (by decide) (by decide)]; exact hn23) (by rw [hρ 58 (by decide) (by decide), hρ 59 (by decide) (by decide)]; exact hlg)
      have e : sFirst ρ = sFirst σ := by
        unfold sFirst
        rw [hρ 45 (by decide) (by decide), sFt_c (hρ 32 (by decide) (by decide)) (hρ 1 (by decide) (by decide))]
      rw [e, hρ 45 (by decide) (by decide)] at h
      exact h
    refine x_aload_n B hl dX10_close_24 rfl ?_
    refine co_call E hK hC hS hl (κ := 0) (i := 0) (by decide) cl_0 rfl hft (cwV 0 hts0 gX10_close_X10_firstTipToday rfl rfl rfl (by decide +kernel) ⟨Nat.le_of_ble_eq_true rfl, Nat.le_of_ble_eq_true rfl⟩) rfl rfl (Nat.le_of_ble_eq_true rfl) dX10_close_25 ⟨Nat.le_of_ble_eq_true rfl, Nat.le_of_ble_eq_true rfl⟩ (fun H locs q_ft hC hS => ?_)
    refine x_istore_n B hl dX10_close_28 (by decide) (fun ls hl => ?_)
    exact w_widen (Nat.le_of_ble_eq_true rfl) (Nat.le_of_ble_eq_true rfl) (loop 1001 (sFirst σ) 0 σ (clF0 σ) ρ _ _ ls (clLoop_0 ho hn45.1 _ (by omega)) (fun f hf => hρ f (by omega) (by omega)) (fun c a b => by
      have hv := rGt_v (σ := σ) (σ 27 0).toNat c a (by omega)
      have hgc := hgt c
      rw [← hρe] at hv
      unfold clF0
      rw [if_pos (show 0 ≤ c ∧ c < σ 27 0 from ⟨a, b⟩), hv.1, hv.2]
      by_cases hag : sAgr σ c
      · rw [if_pos hag, if_pos hag, if_neg (by decide)]
      · rw [if_neg hag, if_neg hag]
        have h0 : 0 ≤ σ 26 c := by
          by_cases h9 : σ 26 c < 0
          · exact absurd (Or.inl h9) hag
          · omega
        rw [if_pos h0]
        exact ⟨rfl, rfl, hgc.2⟩) (fun c hz => by
      by_cases hc : 0 ≤ c ∧ c < σ 27 0
      · have hv := rGt_v (σ := σ) (σ 27 0).toNat c hc.1 (by omega)
        have hgc := hgt c
        rw [← hρe] at hv
        rw [hv.2]; omega
      · rw [hρe, rGt_o (by omega)]
        exact h54A c hc) (fun h a b => by rw [hρ 50 (by decide) (by decide)]; exact h50 h a b) (by omega) (by omega) (by omega) (by omega) hC hS (lv_key hl [(0, .ref (la 0 0)), (1, .int (iI 0)), (2, .int (iI (sFirst σ)))] rfl))
