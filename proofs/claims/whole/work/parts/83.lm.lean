abbrev okS (f : Nat) : Bool := f != 25 && f != 35 && f != 38 && f != 55 && f != 56
abbrev okCR (f : Nat) : Bool := f == 5 || f == 6 || f == 11 || f == 16 || f == 18 || f == 19 || f == 22 || f == 23 || f == 27 || f == 33 || f == 36 || f == 45
theorem cRefs_c {σ τ : MS} (he : ∀ f, okCR f = true → τ f = σ f) (hR : cRefs σ) : cRefs τ := by
  unfold cRefs
  rw [he 5 rfl, he 6 rfl, he 11 rfl, he 16 rfl, he 18 rfl, he 19 rfl, he 22 rfl, he 23 rfl, he 27 rfl, he 33 rfl, he 36 rfl, he 45 rfl]
  exact hR
def tipA9 (σ : MS) (q mk : Int) : MS := (up (up (up (up (up (up (up (up (up (up σ 32 (σ 45 0) (σ 1 0)) 33 (σ 45 0) q) 34 (σ 45 0) mk) 35 (σ 45 0) 0) 36 (σ 45 0) (-1)) 37 (σ 45 0) 0) 38 (σ 45 0) 0) 44 (σ 45 0) (-1)) 58 0 1) 45 0 (σ 45 0 + 1))
def tipI (σ : MS) (t : Int) : MS := up (up σ 36 t (tipB σ (σ 34 t))) 37 t (tipO σ (σ 34 t))
def tipG (σ : MS) (t q g : Int) : MS := if g = -1 then up (up σ 38 t 1) 35 t (if σ 36 t < 0 then 0 else sMid σ (σ 36 t) t.toNat 0 (fun _ => 0)) else up (up σ 25 q ((σ 25 q + g) % 500)) 35 t ((σ 25 q + g) / 500)
def tipL (σ : MS) : MS := (up (up σ 58 0 0) 57 4 (σ 57 4 + 1))
/-- what tip leaves (but for the row of halves) -/
def tipT (σ : MS) (q mk g : Int) : MS := tipL (tipG (tipI (tipA9 σ q mk) (σ 45 0)) (σ 45 0) q g)
theorem tipL_q {S S' : MS} (h : ∀ f, f ≠ 55 → f ≠ 56 → S f = S' f) (f : Nat) (a : f ≠ 55) (b : f ≠ 56) : tipL S f = tipL S' f := by
  unfold tipL
  rw [h 57 (by decide) (by decide)]
  funext j
  rw [up_rd, up_rd, up_rd, up_rd, h f a b]
theorem cRefs_tipA {σ : MS} {q mk : Int} (hq : 0 ≤ q ∧ q < σ 27 0) (hR : cRefs σ) : cRefs (tipA9 σ q mk) := by
  obtain ⟨a1, a2, a3, a4, a5⟩ := hR
  obtain ⟨τ, hτ⟩ : ∃ z, z = tipA9 σ q mk := ⟨_, rfl⟩
  rw [← hτ]
  have e : ∀ f, (f != 32 && f != 33 && f != 34 && f != 35 && f != 36 && f != 37 && f != 38 && f != 44 && f != 58 && f != 45) = true → τ f = σ f := fun f hf => by
    simp only [Bool.and_eq_true, bne_iff_ne, ne_eq] at hf
    rw [hτ]; unfold tipA9
    rw [up_f (by omega), up_f (by omega), up_f (by omega), up_f (by omega), up_f (by omega), up_f (by omega), up_f (by omega), up_f (by omega), up_f (by omega), up_f (by omega)]
  have e45 : τ 45 0 = σ 45 0 + 1 := by rw [hτ]; exact up_s
  have e33 : ∀ j, τ 33 j = if j = σ 45 0 then q else σ 33 j := fun j => by rw [hτ]; unfold tipA9; simp [up_rd]
  have e36 : ∀ j, τ 36 j = if j = σ 45 0 then -1 else σ 36 j := fun j => by rw [hτ]; unfold tipA9; simp [up_rd]
  unfold cRefs
  rw [e45, e 5 rfl, e 6 rfl, e 11 rfl, e 16 rfl, e 18 rfl, e 19 rfl, e 22 rfl, e 23 rfl, e 27 rfl]
  refine ⟨a1, a2, a3, fun t b1 b2 => ?_, fun t b1 b2 b3 => ?_⟩
  · rw [e33]
    by_cases ht : t = σ 45 0
    · rw [if_pos ht]; exact hq
    · rw [if_neg ht]; exact a4 t b1 (by omega)
  · rw [e36] at b3 ⊢
    by_cases ht : t = σ 45 0
    · rw [if_pos ht] at b3; omega
    · rw [if_neg ht] at b3 ⊢; exact a5 t b1 (by omega) b3
theorem tipB_r {σ : MS} {mk : Int} (h : 0 ≤ σ 23 0) : -1 ≤ tipB σ mk ∧ (¬ tipB σ mk < 0 → tipB σ mk < σ 23 0) := by
  have h9 := sFb_r σ mk (σ 23 0).toNat
  unfold tipB
  split <;> (try split at h9) <;> omega
theorem cRefs_tipI {σ : MS} {t : Int} (h23 : 0 ≤ σ 23 0) (hR : cRefs σ) : cRefs (tipI σ t) := by
  obtain ⟨a1, a2, a3, a4, a5⟩ := hR
  obtain ⟨τ, hτ⟩ : ∃ z, z = tipI σ t := ⟨_, rfl⟩
  rw [← hτ]
  have e : ∀ f, (f != 36 && f != 37) = true → τ f = σ f := fun f hf => by
    simp only [Bool.and_eq_true, bne_iff_ne, ne_eq] at hf
    rw [hτ]; unfold tipI
    rw [up_f (by omega), up_f (by omega)]
  have e36 : ∀ j, τ 36 j = if j = t then tipB σ (σ 34 t) else σ 36 j := fun j => by rw [hτ]; unfold tipI; simp [up_rd]
  unfold cRefs
  rw [e 45 rfl, e 5 rfl, e 6 rfl, e 11 rfl, e 16 rfl, e 18 rfl, e 19 rfl, e 22 rfl, e 23 rfl, e 27 rfl, e 33 rfl]
  refine ⟨a1, a2, a3, a4, fun u b1 b2 b3 => ?_⟩
  rw [e36] at b3 ⊢
  by_cases ht : u = t
  · rw [if_pos ht] at b3 ⊢
    have h9 := tipB_r (σ := σ) (mk := σ 34 t) h23
    omega
  · rw [if_neg ht] at b3 ⊢; exact a5 u b1 b2 b3
theorem c_middleOf_U (l : Launch) (D : va_G) (cy : Nat → ClassId) (d0 : Nat) (A : Nat → Prop) (la : Nat → Int → Nat) (σ τ : MS) {b N : Int} (he : ∀ f, f ≠ 38 → τ f = σ f) (h38 : ∀ j, j < N → τ 38 j = σ 38 j) (hb : 0 ≤ b ∧ b < σ 23 0) (hN : σ 45 0 - σ 58 0 = N) (hN0 : 0 ≤ N ∧ N ≤ 600 ∧ N ≤ σ 45 0) (hh : ∀ t, 0 ≤ t → t < σ 45 0 → 0 ≤ σ 35 t ∧ σ 35 t ≤ 3000000) (hbn : ∀ t, 0 ≤ t → t < σ 45 0 → ¬ σ 36 t < 0 → 0 ≤ σ 36 t ∧ σ 36 t < σ 23 0) : CN l yX10_middleOf wsX10_middleOf ({ frames := 3, cells := 0, slots := 0, locals := 64 } : Room) D cy d0 A [.ref (la 0 0), .ref (la 6 b)] la τ (fun v' la' υ => v' = some (.int (iI (sMid σ b N.toNat 0 (fun _ => 0)))) ∧ la' = la ∧ (∀ q, q ≠ 55 → q ≠ 56 → υ q = τ q) ∧ 0 ≤ sMid σ b N.toNat 0 (fun _ => 0) ∧ sMid σ b N.toNat 0 (fun _ => 0) ≤ 3000000) 0 0 := by
  have h := c_middleOf_N l D cy d0 A la τ (b := b) (N := N) (by rw [he 23 (by decide)]; exact hb) (by rw [he 45 (by decide), he 58 (by decide)]; exact hN) (by rw [he 45 (by decide)]; exact hN0) (by rw [he 45 (by decide), he 35 (by decide)]; exact hh) (by rw [he 45 (by decide), he 36 (by decide), he 23 (by decide)]; exact hbn)
  rw [sMid_a N.toNat 0 _ (fun j a c => ⟨by rw [he 35 (by decide)], by rw [he 36 (by decide)], h38 j (by omega)⟩)] at h
  exact h
set_option maxHeartbeats 4000000 in
set_option maxRecDepth 100000 in
theorem c_p_tip (l : Launch) (hlt : l.stackTraces = false) (D : va_G) (cy : Nat → ClassId) (d0 : Nat) (A : Nat → Prop) (la : Nat → Int → Nat) (σ : MS) {q : Int} {mk : Int} {g : Int} (h_q : -2147483648 ≤ q ∧ q < 2147483648) (h_mk : -2147483648 ≤ mk ∧ mk < 2147483648) (h_g : -2147483648 ≤ g ∧ g < 2147483648) (hn5 : 0 ≤ σ 5 0 ∧ σ 5 0 ≤ 1000) (hn11 : 0 ≤ σ 11 0 ∧ σ 11 0 ≤ 1000) (hn23 : 0 ≤ σ 23 0 ∧ σ 23 0 ≤ 1000) (hn27 : 0 ≤ σ 27 0 ∧ σ 27 0 ≤ 1000) (hn45 : 0 ≤ σ 45 0 ∧ σ 45 0 ≤ 600) (hlg : σ 58 0 = 0 ∧ σ 59 0 = 0) (hRf : cRefs σ) (hmc : ∀ L, 0 ≤ σ 57 L ∧ σ 57 L ≤ 1000000) (hcp : ∀ L, cLive la σ 11 L → la 19 L ≤ 1000) (hn23b : σ 23 0 ≤ 120) (hn45b : σ 45 0 ≤ 600) (hop : 0 ≤ σ 1 0 ∧ σ 1 0 ≤ 699) (hh : ∀ t, 0 ≤ t → t < σ 45 0 → 0 ≤ σ 35 t ∧ σ 35 t ≤ 3000000) (h25 : ∀ q, 0 ≤ σ 25 q ∧ σ 25 q ≤ 1000000000) (hz9 : σ 39 (σ 45 0) = 0 ∧ σ 40 (σ 45 0) = 0 ∧ σ 41 (σ 45 0) = 0 ∧ σ 42 (σ 45 0) = 0 ∧ σ 43 (σ 45 0) = 0) : CT l yX10_tip wsX10_tip ({ frames := 8, cells := 24, slots := 2100, locals := 256 } : Room) D cy d0 A [.ref (la 0 0), .int (iI q), .int (iI mk), .int (iI g)] la σ ((if tipC σ q g = 1 then 1 else (if tipC σ q g = 2 then 2 else (if tipC σ q g = 3 then 3 else 0)))) (fun v' la' τ => v' = some (.int (iI (σ 45 0))) ∧ (la' 0 0 = la 0 0 ∧ ∀ L, cLive la' τ 11 L → la' 19 L ≤ 1000) ∧ ∀ f, f ≠ 55 → f ≠ 56 → τ f = tipT σ q mk g f) 24 2100 := by
  refine ct_of (cc := cX10_tip) (nL := 6) (ret := (some .int)) (by decide) rfl (Nat.le_of_ble_eq_true rfl) ?_
  intro p e s m args below meth c ls E hout hr hlk hK hC hS hl
  have B := E.1
  have hml := E.2.1
  have hown := E.2.2.1
  have hts0 := E.2.2.2.1
  have hts := E.2.2.2.1
  have hw := hC.2.2.2.2.2.1
  have hA := hK.2.2.2.2.2.2.1
  have tail5 : ∀ (H : Heap) (locs : List Loc) (ls : Array Slot) (la2 : Nat → Int → Nat) (σ2 : MS)  (hn45 : 0 ≤ σ2 45 0 ∧ σ2 45 0 ≤ 600) (hn23 : 0 ≤ σ2 23 0 ∧ σ2 23 0 ≤ 600) (hcp : ∀ L, cLive la2 σ2 11 L → la2 19 L ≤ 1000) (hlg : σ2 58 0 = 0 ∧ σ2 59 0 = 0) (hto : σ2 45 0 - 1 = σ 45 0) (hla0 : la2 0 0 = la 0 0) (hc0 : tipC σ q g = 0) (hfin : ∀ f, f ≠ 55 → f ≠ 56 → σ2 f = tipT σ q mk g f), CP D cy d0 A la2 σ2 H → va_S A s.heap H locs → lv_has ls 6 [(0, .ref (la2 0 0))] → W p l e ({ frames := 8, cells := 24, slots := 2100, locals := 256 } : Room) s m args below meth c H locs 20 1200 (vx_MQ below (cQ D cy d0 A (fun v la' τ => (((if tipC σ q g = 1 then 1 else (if tipC σ q g = 2 then 2 else (if tipC σ q g = 3 then 3 else 0))) : Int)) = 0 ∧ (fun v' la' τ => v' = some (.int (iI (σ 45 0))) ∧ (la' 0 0 = la 0 0 ∧ ∀ L, cLive la' τ 11 L → la' 19 L ≤ 1000) ∧ ∀ f, f ≠ 55 → f ≠ 56 → τ f = tipT σ q mk g f) v la' τ)) (cXX D cy d0 A ((if tipC σ q g = 1 then 1 else (if tipC σ q g = 2 then 2 else (if tipC σ q g = 3 then 3 else 0)))) la σ) args s 24 2100 A) (F0 m 113 ls []) := by
    intro H0 locs ls la σ  hn45 hn23 hcp hlg hto hla0 hc0 hfin hC hS hl
    have hw := hC.2.2.2.2.2.1
    refine x_aload_n B hl dX10_tip_113 rfl ?_
    refine co_getR (x := la 11 4) E hC 0 (by decide) cl_0 rfl (fun z h => List.mem_cons_of_mem _ (List.mem_append_left _ (List.mem_append_left _ (List.mem_append_left _ (List.mem_append_left _ (List.mem_append_left _ (List.mem_append_left _ (List.mem_append_left _ (List.mem_append_left _ (List.mem_append_right _ h)))))))))) 4 (by decide) (hts (.fieldLink RX10 25 "BinRounds" "tips" "Ljava/util/ArrayList;") (by decide +kernel)) (fun x hx => hx) dX10_tip_114 rfl rfl ?_
    refine co_call E hK hC hS hl (κ := 11) (i := 4) (by decide) (cl_11 (by omega)) rfl (c_size l D cy d0 A la _ (L := 4) (n := σ 45 0) (cl_11 (by omega)) ((cSz_4 ((rfl).trans hlg.1)).trans rfl)) (cwV 0 hts0 gX10_tip_Jx4a65c_size_8abf5 rfl rfl rfl (by decide +kernel) ⟨Nat.le_of_ble_eq_true rfl, Nat.le_of_ble_eq_true rfl⟩) rfl rfl (Nat.le_of_ble_eq_true rfl) dX10_tip_117 ⟨Nat.le_of_ble_eq_true rfl, Nat.le_of_ble_eq_true rfl⟩ (fun H locs q_117 hC hS => ?_)
    refine x_iconst B dX10_tip_120 ?_
    refine x_isub B dX10_tip_121 ?_
    exact w_widen (Nat.le_of_ble_eq_true rfl) (Nat.le_of_ble_eq_true rfl) (vx_ret (co_iret E hr rfl hlk hC hS dX10_tip_122 ⟨by rw [hc0]; rfl, congrArg (fun z => some (Value.int (iI z))) (by omega), ⟨hla0, hcp⟩, hfin⟩))
  have tail4 : ∀ (H : Heap) (locs : List Loc) (ls : Array Slot) (la2 : Nat → Int → Nat) (σ2 : MS) (t : Int) (hn5 : 0 ≤ σ2 5 0 ∧ σ2 5 0 ≤ 1000) (hn11 : 0 ≤ σ2 11 0 ∧ σ2 11 0 ≤ 1000) (hn23 : 0 ≤ σ2 23 0 ∧ σ2 23 0 ≤ 600) (hn27 : 0 ≤ σ2 27 0 ∧ σ2 27 0 ≤ 1000) (hn45 : 0 ≤ σ2 45 0 ∧ σ2 45 0 ≤ 600) (hRf : cRefs σ2) (hmc : ∀ L, 0 ≤ σ2 57 L ∧ σ2 57 L ≤ 1000000) (hcp : ∀ L, cLive la2 σ2 11 L → la2 19 L ≤ 1000) (hlg : σ2 58 0 = 1 ∧ σ2 59 0 = 0) (ht9 : t = σ2 45 0 - 1 ∧ 0 ≤ t) (hto : t = σ 45 0) (hla0 : la2 0 0 = la 0 0) (hc0 : tipC σ q g = 0) (hfin : ∀ f, f ≠ 55 → f ≠ 56 → tipL σ2 f = tipT σ q mk g f), CP D cy d0 A la2 σ2 H → va_S A s.heap H locs → lv_has ls 6 [(0, .ref (la2 0 0)), (5, .ref (la2 10 t))] → W p l e ({ frames := 8, cells := 24, slots := 2100, locals := 256 } : Room) s m args below meth c H locs 18 90 (vx_MQ below (cQ D cy d0 A (fun v la' τ => (((if tipC σ q g = 1 then 1 else (if tipC σ q g = 2 then 2 else (if tipC σ q g = 3 then 3 else 0))) : Int)) = 0 ∧ (fun v' la' τ => v' = some (.int (iI (σ 45 0))) ∧ (la' 0 0 = la 0 0 ∧ ∀ L, cLive la' τ 11 L → la' 19 L ≤ 1000) ∧ ∀ f, f ≠ 55 → f ≠ 56 → τ f = tipT σ q mk g f) v la' τ)) (cXX D cy d0 A ((if tipC σ q g = 1 then 1 else (if tipC σ q g = 2 then 2 else (if tipC σ q g = 3 then 3 else 0)))) la σ) args s 24 2100 A) (F0 m 103 ls []) := by
    intro H0 locs ls la σ t hn5 hn11 hn23 hn27 hn45 hRf hmc hcp hlg ht9 hto hla0 hc0 hfin hC hS hl
    have hw := hC.2.2.2.2.2.1
    obtain ⟨M, hMe⟩ : ∃ z, z = H0.size := ⟨_, rfl⟩
    have hMl : ∀ κ i, κ ≤ 18 → cLive la σ κ i → la κ i < M := fun κ i a b => by rw [hMe]; exact hC.lt a b
    have hAM : ∀ q, M ≤ q → A q := fun q h => hA q (by have := hS.1; omega)
    refine x_aload_n B hl dX10_tip_103 rfl ?_
    refine co_getR (x := la 11 4) E hC 0 (by decide) cl_0 rfl (fun z h => List.mem_cons_of_mem _ (List.mem_append_left _ (List.mem_append_left _ (List.mem_append_left _ (List.mem_append_left _ (List.mem_append_left _ (List.mem_append_left _ (List.mem_append_left _ (List.mem_append_left _ (List.mem_append_right _ h)))))))))) 4 (by decide) (hts (.fieldLink RX10 25 "BinRounds" "tips" "Ljava/util/ArrayList;") (by decide +kernel)) (fun x hx => hx) dX10_tip_104 rfl rfl ?_
    refine x_aload B hl dX10_tip_107 rfl ?_
    have hlt6 : cLive la σ 10 t := cl_10 ⟨by omega, by omega⟩
    obtain ⟨f109, l109a, l109b, l109c, l109d⟩ := hC.lst (L := 4) (n := (σ 45 0 - 1)) ((cl_11 (by omega))) (show σ 45 0 - σ 58 0 = σ 45 0 - 1 by omega)
    have hcl109 := (show cLive la σ 11 4 from cl_11 (by omega))
    have hel109 : ∀ j : Nat, (j : Int) < (σ 45 0 - 1) → ∀ y, f109 j = some y → y = la 10 ((j : Int)) ∧ cLive la σ 10 ((j : Int)) := fun j hj y hy => by
      rw [l109d j hj] at hy
      refine ⟨(Option.some.inj hy).symm.trans (rfl), ?_⟩
      exact cl_10 ⟨by omega, by omega⟩
    refine cb_callV (A' := (fun z => z = la 11 4 ∨ (0 < la 19 4 ∧ z = la 18 4) ∨ H0.size ≤ z)) E hK hS hl (fun z h => h.elim (fun h => h ▸ hC.2.2.2.2.1 11 4 (by decide) hcl109) (fun h => h.elim (fun h => h.2 ▸ hC.2.2.2.2.1 18 4 (by decide) ⟨hcl109, h.1⟩) (fun h => hA z (by have := hS.1; omega)))) (fun z h => Or.inr (Or.inr h)) (obRecv hK l109a rfl) (l_add l D cy d0 (fun z => z = la 11 4 ∨ (0 < la 19 4 ∧ z = la 18 4) ∨ H0.size ≤ z) (a := la 11 4) (r := la 18 4) (cap := la 19 4) (x := (la 10 t)) (mm := σ 57 4) (n := (σ 45 0 - 1)) (f := f109) (show vwCl[10]? = some (RX9, TX9, 13) from rfl) (fun U h => h.2.2.2.2.2.2.2.2.2.1) (hcp 4 hcl109) (Or.inl rfl) (fun h => Or.inr (Or.inl ⟨h, rfl⟩)) (fun h z => by have h9 := hC.2.2.2.1 11 18 4 4 (by decide) (by decide) hcl109 ⟨hcl109, h⟩ z; omega) ⟨by omega, l109c⟩ (by omega) (fun z => by have h9 := hC.2.2.2.1 10 11 t 4 (by decide) (by decide) hlt6 hcl109 z; omega) (fun j hj y hy z => by
      have h8 := hel109 j hj y hy
      have h9 := hC.2.2.2.1 10 11 _ 4 (by decide) (by decide) h8.2 hcl109 (h8.1.symm.trans z)
      omega)) ⟨l109a, l109b, fun j hj y hy => elC_at (hel109 j hj y hy).1 ⟨_, hC.1 10 _ (by decide) (hel109 j hj y hy).2⟩, ⟨_, hC.1 10 t (by decide) hlt6⟩⟩ (cwV 1 hts0 gX10_tip_Jx4a65c_add_9ea2d rfl rfl rfl (by decide +kernel) ⟨Nat.le_of_ble_eq_true rfl, Nat.le_of_ble_eq_true rfl⟩) rfl rfl (Nat.le_of_ble_eq_true rfl) dX10_tip_109 ⟨Nat.le_of_ble_eq_true rfl, Nat.le_of_ble_eq_true rfl⟩ (fun H1 locs v hv z109 o109 hS => ?_)
    obtain ⟨rfl, hps109⟩ := hv
    refine x_pop B dX10_tip_112 rfl ?_
    obtain ⟨r9, c9, hC9, hc9, hfr9⟩ := g_tips hC hMl hAM hn5 hn11 ⟨hn23.1, by omega⟩ hn27 hn45 hRf (by omega) hmc hlg.1 (by omega) (show la 10 (σ 45 0 - 1) = la 10 t by rw [ht9.1]) hps109 (fun j hj => l109d j hj)
    obtain ⟨lb, hlb⟩ : ∃ z, z = lup (lup la 18 4 r9) 19 4 c9 := ⟨_, rfl⟩
    rw [← hlb] at hC9
    obtain ⟨σ1, hσ1⟩ : ∃ z, z = tipL σ := ⟨_, rfl⟩
    rw [show (up (up σ 58 0 0) 57 4 (σ 57 4 + 1)) = σ1 from hσ1.symm] at hC9
    have e : ∀ f, (f != 57 && f != 58) = true → σ1 f = σ f := fun f hf => by
      simp only [Bool.and_eq_true, bne_iff_ne, ne_eq] at hf
      rw [hσ1]; unfold tipL
      rw [up_f (by omega), up_f (by omega)]
    have e58 : σ1 58 0 = 0 := by rw [hσ1]; unfold tipL; rw [up_f (by decide)]; exact up_s
    have q0 : lb 0 0 = la 0 0 := by rw [hlb, lup_k (by decide), lup_k (by decide)]
    have hl9 := lv_key hl [(0, .ref (la 0 0))] rfl
    rw [← q0] at hl9
    refine w_widen (Nat.le_of_ble_eq_true rfl) (Nat.le_of_ble_eq_true rfl) (tail5 _ _ ls lb σ1 (by rw [e 45 rfl]; exact hn45) (by rw [e 23 rfl]; exact hn23) (fun L hL => ?_) ⟨e58, by rw [e 59 rfl]; exact hlg.2⟩ (by rw [e 45 rfl]; omega) (q0.trans hla0) hc0 (by rw [hσ1]; exact hfin) hC9 hS hl9)
    by_cases hL1 : L = 4
    · subst hL1; rw [hlb, lup_s]; omega
    · rw [hlb, lup_o hL1, lup_k (by decide)]
      refine hcp L ?_
      have h2 : 0 ≤ L ∧ L < 5 + 2 * σ1 23 0 := hL
      rw [e 23 rfl] at h2
      exact h2
  have tail3 : ∀ (H : Heap) (locs : List Loc) (ls : Array Slot) (la2 : Nat → Int → Nat) (σ2 : MS) (t : Int) (hn5 : 0 ≤ σ2 5 0 ∧ σ2 5 0 ≤ 1000) (hn11 : 0 ≤ σ2 11 0 ∧ σ2 11 0 ≤ 1000) (hn23 : 0 ≤ σ2 23 0 ∧ σ2 23 0 ≤ 600) (hn27 : 0 ≤ σ2 27 0 ∧ σ2 27 0 ≤ 1000) (hn45 : 0 ≤ σ2 45 0 ∧ σ2 45 0 ≤ 600) (hRf : cRefs σ2) (hmc : ∀ L, 0 ≤ σ2 57 L ∧ σ2 57 L ≤ 1000000) (hcp : ∀ L, cLive la2 σ2 11 L → la2 19 L ≤ 1000) (hlg : σ2 58 0 = 1 ∧ σ2 59 0 = 0) (ht9 : t = σ2 45 0 - 1 ∧ 0 ≤ t) (hto : t = σ 45 0) (hla0 : la2 0 0 = la 0 0) (hc0 : tipC σ q g = 0) (hq1 : 0 ≤ q ∧ q < σ2 27 0) (hg9 : -1 ≤ g ∧ g ≤ 200000) (hh : ∀ t, 0 ≤ t → t < σ2 45 0 → 0 ≤ σ2 35 t ∧ σ2 35 t ≤ 3000000) (h25 : 0 ≤ σ2 25 q ∧ σ2 25 q ≤ 1000000000) (hfin : tipL (tipG σ2 t q g) = tipT σ q mk g), CP D cy d0 A la2 σ2 H → va_S A s.heap H locs → lv_has ls 6 [(0, .ref (la2 0 0)), (3, .int (iI g)), (4, .ref (la2 9 q)), (5, .ref (la2 10 t))] → W p l e ({ frames := 8, cells := 24, slots := 2100, locals := 256 } : Room) s m args below meth c H locs 18 90 (vx_MQ below (cQ D cy d0 A (fun v la' τ => (((if tipC σ q g = 1 then 1 else (if tipC σ q g = 2 then 2 else (if tipC σ q g = 3 then 3 else 0))) : Int)) = 0 ∧ (fun v' la' τ => v' = some (.int (iI (σ 45 0))) ∧ (la' 0 0 = la 0 0 ∧ ∀ L, cLive la' τ 11 L → la' 19 L ≤ 1000) ∧ ∀ f, f ≠ 55 → f ≠ 56 → τ f = tipT σ q mk g f) v la' τ)) (cXX D cy d0 A ((if tipC σ q g = 1 then 1 else (if tipC σ q g = 2 then 2 else (if tipC σ q g = 3 then 3 else 0)))) la σ) args s 24 2100 A) (F0 m 64 ls []) := by
    intro H0 locs ls la σ t hn5 hn11 hn23 hn27 hn45 hRf hmc hcp hlg ht9 hto hla0 hc0 hq1 hg9 hh h25 hfin hC hS hl
    have hw := hC.2.2.2.2.2.1
    have hbn := hRf.2.2.2.2
    by_cases hnl : σ 36 t < 0
    · refine x_iload_n B hl dX10_tip_64 rfl ?_
      refine x_iconst B dX10_tip_65 ?_
      refine x_icmp_ne (tgt := 92) B dX10_tip_66 (by decide) (by omega) (by omega) (fun c_66 => ?_) (fun c_66 => ?_)
      · refine x_aload B hl dX10_tip_92 rfl ?_
        refine x_aload B hl dX10_tip_94 rfl ?_
        refine x_iload_n B hl dX10_tip_96 rfl ?_
        refine co_call E hK hC hS hl (κ := 9) (i := q) (by decide) (cl_9 hq1) rfl (c_takeHalves l D cy d0 A la σ (q := q) (g := g) hq1 (by omega) h25) (cwV 1 hts0 gX10_tip_X2_takeHalves rfl rfl rfl (by decide +kernel) ⟨Nat.le_of_ble_eq_true rfl, Nat.le_of_ble_eq_true rfl⟩) rfl rfl (Nat.le_of_ble_eq_true rfl) dX10_tip_97 ⟨Nat.le_of_ble_eq_true rfl, Nat.le_of_ble_eq_true rfl⟩ (fun H locs q_t hC hS => ?_)
        refine co_puti (f := 35) E hC hS 10 (by decide) (cl_up (by decide) (cl_10 ⟨by omega, by omega⟩)) rfl (fun z h => List.mem_cons_of_mem _ (List.mem_append_left _ (List.mem_append_left _ (List.mem_append_left _ (List.mem_append_left _ (List.mem_append_left _ (List.mem_append_left _ (List.mem_append_left _ (List.mem_append_right _ h))))))))) tyX9 tyX9_ok nmX9 3 (by decide) (hts (.fieldLink RX10 219 "BinRounds$Tip" "halves" "I") (by decide +kernel)) (fun x hx => hx) rfl rfl dX10_tip_100 (by decide) ⟨rfl, rfl, rfl, rfl⟩ (by omega) (fun H locs hC hS => ?_)
        by_cases hg1 : g = -1
        · first
          | exact absurd hg1 (by omega)
          | (obtain ⟨S, eS⟩ : ∃ z, z = up τ1 35 t 0 := ⟨_, rfl⟩
             rw [show up τ1 35 t 0 = S from eS.symm] at hC
             have gS : ∀ f, okS f = true → S f = σ f := fun f hf => by
               simp only [okS, Bool.and_eq_true, bne_iff_ne, ne_eq] at hf
               rw [eS, up_f (by omega)]; exact g1 f (by simp only [Bool.and_eq_true, bne_iff_ne, ne_eq]; omega)
             have hfS : ∀ f, f ≠ 55 → f ≠ 56 → S f = tipG σ t q g f := fun f a b => by
               rw [eS]; unfold tipG
               rw [if_pos (by omega), if_pos hnl]; funext j; rw [up_rd, up_rd, qx f a b]
             exact w_widen (Nat.le_of_ble_eq_true rfl) (Nat.le_of_ble_eq_true rfl) (tail4 _ _ ls la S t (by rw [gS 5 rfl]; exact hn5) (by rw [gS 11 rfl]; exact hn11) (by rw [gS 23 rfl]; exact hn23) (by rw [gS 27 rfl]; exact hn27) (by rw [gS 45 rfl]; exact hn45) (cRefs_c (fun f hf => gS f (by
               simp only [okCR, Bool.or_eq_true, beq_iff_eq] at hf
               simp only [okS, Bool.and_eq_true, bne_iff_ne, ne_eq]
               omega)) hRf) (by rw [gS 57 rfl]; exact hmc) (fun L hL => hcp L (by have h2 : 0 ≤ L ∧ L < 5 + 2 * S 23 0 := hL; rw [gS 23 rfl] at h2; exact h2)) (by rw [gS 58 rfl, gS 59 rfl]; exact hlg) (by rw [gS 45 rfl]; exact ht9) hto hla0 hc0 (fun f a b => (tipL_q hfS f a b).trans (congrFun hfin f)) hC hS (lv_key hl [(0, .ref (la 0 0)), (5, .ref (la 10 t))] rfl)))
        · first
          | exact absurd (show g = -1 by omega) hg1
          | (obtain ⟨S, eS⟩ : ∃ z, z = up (up σ 25 q ((σ 25 q + g) % 500)) 35 t ((σ 25 q + g) / 500) := ⟨_, rfl⟩
             rw [show up (up σ 25 q ((σ 25 q + g) % 500)) 35 t ((σ 25 q + g) / 500) = S from eS.symm] at hC
             have gS : ∀ f, okS f = true → S f = σ f := fun f hf => by
               simp only [okS, Bool.and_eq_true, bne_iff_ne, ne_eq] at hf
               rw [eS, up_f (by omega)]; rw [up_f (by omega)]
             have hfS : ∀ f, f ≠ 55 → f ≠ 56 → S f = tipG σ t q g f := fun f a b => by
               rw [eS]; unfold tipG
               rw [if_neg (by omega)]
             exact w_widen (Nat.le_of_ble_eq_true rfl) (Nat.le_of_ble_eq_true rfl) (tail4 _ _ ls la S t (by rw [gS 5 rfl]; exact hn5) (by rw [gS 11 rfl]; exact hn11) (by rw [gS 23 rfl]; exact hn23) (by rw [gS 27 rfl]; exact hn27) (by rw [gS 45 rfl]; exact hn45) (cRefs_c (fun f hf => gS f (by
               simp only [okCR, Bool.or_eq_true, beq_iff_eq] at hf
               simp only [okS, Bool.and_eq_true, bne_iff_ne, ne_eq]
               omega)) hRf) (by rw [gS 57 rfl]; exact hmc) (fun L hL => hcp L (by have h2 : 0 ≤ L ∧ L < 5 + 2 * S 23 0 := hL; rw [gS 23 rfl] at h2; exact h2)) (by rw [gS 58 rfl, gS 59 rfl]; exact hlg) (by rw [gS 45 rfl]; exact ht9) hto hla0 hc0 (fun f a b => (tipL_q hfS f a b).trans (congrFun hfin f)) hC hS (lv_key hl [(0, .ref (la 0 0)), (5, .ref (la 10 t))] rfl)))
      · refine x_aload B hl dX10_tip_69 rfl ?_
        refine x_iconst B dX10_tip_71 ?_
        refine co_puti (f := 38) E hC hS 10 (by decide) (cl_10 ⟨by omega, by omega⟩) rfl (fun z h => List.mem_cons_of_mem _ (List.mem_append_left _ (List.mem_append_left _ (List.mem_append_left _ (List.mem_append_left _ (List.mem_append_left _ (List.mem_append_left _ (List.mem_append_left _ (List.mem_append_right _ h))))))))) tyX9 tyX9_ok nmX9 6 (by decide) (hts (.fieldLink RX10 208 "BinRounds$Tip" "weighing" "I") (by decide +kernel)) (fun x hx => hx) rfl rfl dX10_tip_72 (by decide) ⟨rfl, rfl, rfl, rfl⟩ (by omega) (fun H locs hC hS => ?_)
        refine x_aload B hl dX10_tip_75 rfl ?_
        refine x_aload_n B hl dX10_tip_77 rfl ?_
        refine x_aload B hl dX10_tip_78 rfl ?_
        refine co_getr (r := none) E hC 10 (by decide) (cl_up (by decide) (cl_10 ⟨by omega, by omega⟩)) rfl (fun z h => List.mem_cons_of_mem _ (List.mem_append_left _ (List.mem_append_left _ (List.mem_append_left _ (List.mem_append_left _ (List.mem_append_left _ (List.mem_append_left _ (List.mem_append_left _ (List.mem_append_right _ h))))))))) 4 (by decide) (hts (.fieldLink RX10 211 "BinRounds$Tip" "bin" "LBinRounds$Bin;") (by decide +kernel)) (fun x hx => hx) dX10_tip_80 rfl (cR_bn (show _ = σ 36 t from (up_ne (by decide) rfl)) hnl) ?_
        refine co_callX E hK hC hS hl (κ := 0) (i := 0) (by decide) cl_0 rfl (c_middleOf_n l D cy d0 A la (up σ 38 t 1)) (cwV 1 hts0 gX10_tip_X10_middleOf rfl rfl rfl (by decide +kernel) ⟨Nat.le_of_ble_eq_true rfl, Nat.le_of_ble_eq_true rfl⟩) rfl rfl (Nat.le_of_ble_eq_true rfl) dX10_tip_83 ⟨Nat.le_of_ble_eq_true rfl, Nat.le_of_ble_eq_true rfl⟩ (fun H locs τ1 qx hC hS => ?_)
        have g1 : ∀ f, (f != 38 && f != 55 && f != 56) = true → τ1 f = σ f := fun f hf => by
          simp only [Bool.and_eq_true, bne_iff_ne, ne_eq] at hf
          rw [qx f (by omega) (by omega), up_f (by omega)]
        refine co_puti (f := 35) E hC hS 10 (by decide) (cl_q (⟨g1 _ rfl, g1 _ rfl, g1 _ rfl, g1 _ rfl, g1 _ rfl, g1 _ rfl, g1 _ rfl⟩ : cLq σ τ1) (cl_10 ⟨by omega, by omega⟩)) rfl (fun z h => List.mem_cons_of_mem _ (List.mem_append_left _ (List.mem_append_left _ (List.mem_append_left _ (List.mem_append_left _ (List.mem_append_left _ (List.mem_append_left _ (List.mem_append_left _ (List.mem_append_right _ h))))))))) tyX9 tyX9_ok nmX9 3 (by decide) (hts (.fieldLink RX10 219 "BinRounds$Tip" "halves" "I") (by decide +kernel)) (fun x hx => hx) rfl rfl dX10_tip_86 (by decide) ⟨rfl, rfl, rfl, rfl⟩ (by omega) (fun H locs hC hS => ?_)
        refine x_goto (tgt := 103) B dX10_tip_89 (by decide) ?_
        by_cases hg1 : g = -1
        · first
          | exact absurd hg1 (by omega)
          | (obtain ⟨S, eS⟩ : ∃ z, z = up τ1 35 t 0 := ⟨_, rfl⟩
             rw [show up τ1 35 t 0 = S from eS.symm] at hC
             have gS : ∀ f, okS f = true → S f = σ f := fun f hf => by
               simp only [okS, Bool.and_eq_true, bne_iff_ne, ne_eq] at hf
               rw [eS, up_f (by omega)]; exact g1 f (by simp only [Bool.and_eq_true, bne_iff_ne, ne_eq]; omega)
             have hfS : ∀ f, f ≠ 55 → f ≠ 56 → S f = tipG σ t q g f := fun f a b => by
               rw [eS]; unfold tipG
               rw [if_pos (by omega), if_pos hnl]; funext j; rw [up_rd, up_rd, qx f a b]
             exact w_widen (Nat.le_of_ble_eq_true rfl) (Nat.le_of_ble_eq_true rfl) (tail4 _ _ ls la S t (by rw [gS 5 rfl]; exact hn5) (by rw [gS 11 rfl]; exact hn11) (by rw [gS 23 rfl]; exact hn23) (by rw [gS 27 rfl]; exact hn27) (by rw [gS 45 rfl]; exact hn45) (cRefs_c (fun f hf => gS f (by
               simp only [okCR, Bool.or_eq_true, beq_iff_eq] at hf
               simp only [okS, Bool.and_eq_true, bne_iff_ne, ne_eq]
               omega)) hRf) (by rw [gS 57 rfl]; exact hmc) (fun L hL => hcp L (by have h2 : 0 ≤ L ∧ L < 5 + 2 * S 23 0 := hL; rw [gS 23 rfl] at h2; exact h2)) (by rw [gS 58 rfl, gS 59 rfl]; exact hlg) (by rw [gS 45 rfl]; exact ht9) hto hla0 hc0 (fun f a b => (tipL_q hfS f a b).trans (congrFun hfin f)) hC hS (lv_key hl [(0, .ref (la 0 0)), (5, .ref (la 10 t))] rfl)))
        · first
          | exact absurd (show g = -1 by omega) hg1
          | (obtain ⟨S, eS⟩ : ∃ z, z = up (up σ 25 q ((σ 25 q + g) % 500)) 35 t ((σ 25 q + g) / 500) := ⟨_, rfl⟩
             rw [show up (up σ 25 q ((σ 25 q + g) % 500)) 35 t ((σ 25 q + g) / 500) = S from eS.symm] at hC
             have gS : ∀ f, okS f = true → S f = σ f := fun f hf => by
               simp only [okS, Bool.and_eq_true, bne_iff_ne, ne_eq] at hf
               rw [eS, up_f (by omega)]; rw [up_f (by omega)]
             have hfS : ∀ f, f ≠ 55 → f ≠ 56 → S f = tipG σ t q g f := fun f a b => by
               rw [eS]; unfold tipG
               rw [if_neg (by omega)]
             exact w_widen (Nat.le_of_ble_eq_true rfl) (Nat.le_of_ble_eq_true rfl) (tail4 _ _ ls la S t (by rw [gS 5 rfl]; exact hn5) (by rw [gS 11 rfl]; exact hn11) (by rw [gS 23 rfl]; exact hn23) (by rw [gS 27 rfl]; exact hn27) (by rw [gS 45 rfl]; exact hn45) (cRefs_c (fun f hf => gS f (by
               simp only [okCR, Bool.or_eq_true, beq_iff_eq] at hf
               simp only [okS, Bool.and_eq_true, bne_iff_ne, ne_eq]
               omega)) hRf) (by rw [gS 57 rfl]; exact hmc) (fun L hL => hcp L (by have h2 : 0 ≤ L ∧ L < 5 + 2 * S 23 0 := hL; rw [gS 23 rfl] at h2; exact h2)) (by rw [gS 58 rfl, gS 59 rfl]; exact hlg) (by rw [gS 45 rfl]; exact ht9) hto hla0 hc0 (fun f a b => (tipL_q hfS f a b).trans (congrFun hfin f)) hC hS (lv_key hl [(0, .ref (la 0 0)), (5, .ref (la 10 t))] rfl)))
    · refine x_iload_n B hl dX10_tip_64 rfl ?_
      refine x_iconst B dX10_tip_65 ?_
      refine x_icmp_ne (tgt := 92) B dX10_tip_66 (by decide) (by omega) (by omega) (fun c_66 => ?_) (fun c_66 => ?_)
      · refine x_aload B hl dX10_tip_92 rfl ?_
        refine x_aload B hl dX10_tip_94 rfl ?_
        refine x_iload_n B hl dX10_tip_96 rfl ?_
        refine co_call E hK hC hS hl (κ := 9) (i := q) (by decide) (cl_9 hq1) rfl (c_takeHalves l D cy d0 A la σ (q := q) (g := g) hq1 (by omega) h25) (cwV 1 hts0 gX10_tip_X2_takeHalves rfl rfl rfl (by decide +kernel) ⟨Nat.le_of_ble_eq_true rfl, Nat.le_of_ble_eq_true rfl⟩) rfl rfl (Nat.le_of_ble_eq_true rfl) dX10_tip_97 ⟨Nat.le_of_ble_eq_true rfl, Nat.le_of_ble_eq_true rfl⟩ (fun H locs q_t hC hS => ?_)
        refine co_puti (f := 35) E hC hS 10 (by decide) (cl_up (by decide) (cl_10 ⟨by omega, by omega⟩)) rfl (fun z h => List.mem_cons_of_mem _ (List.mem_append_left _ (List.mem_append_left _ (List.mem_append_left _ (List.mem_append_left _ (List.mem_append_left _ (List.mem_append_left _ (List.mem_append_left _ (List.mem_append_right _ h))))))))) tyX9 tyX9_ok nmX9 3 (by decide) (hts (.fieldLink RX10 219 "BinRounds$Tip" "halves" "I") (by decide +kernel)) (fun x hx => hx) rfl rfl dX10_tip_100 (by decide) ⟨rfl, rfl, rfl, rfl⟩ (by omega) (fun H locs hC hS => ?_)
        by_cases hg1 : g = -1
        · first
          | exact absurd hg1 (by omega)
          | (obtain ⟨S, eS⟩ : ∃ z, z = up τ1 35 t (sMid σ (σ 36 t) t.toNat 0 (fun _ => 0)) := ⟨_, rfl⟩
             rw [show up τ1 35 t (sMid σ (σ 36 t) t.toNat 0 (fun _ => 0)) = S from eS.symm] at hC
             have gS : ∀ f, okS f = true → S f = σ f := fun f hf => by
               simp only [okS, Bool.and_eq_true, bne_iff_ne, ne_eq] at hf
               rw [eS, up_f (by omega)]; exact g1 f (by simp only [Bool.and_eq_true, bne_iff_ne, ne_eq]; omega)
             have hfS : ∀ f, f ≠ 55 → f ≠ 56 → S f = tipG σ t q g f := fun f a b => by
               rw [eS]; unfold tipG
               rw [if_pos (by omega), if_neg hnl]; funext j; rw [up_rd, up_rd, qx f a b]
             exact w_widen (Nat.le_of_ble_eq_true rfl) (Nat.le_of_ble_eq_true rfl) (tail4 _ _ ls la S t (by rw [gS 5 rfl]; exact hn5) (by rw [gS 11 rfl]; exact hn11) (by rw [gS 23 rfl]; exact hn23) (by rw [gS 27 rfl]; exact hn27) (by rw [gS 45 rfl]; exact hn45) (cRefs_c (fun f hf => gS f (by
               simp only [okCR, Bool.or_eq_true, beq_iff_eq] at hf
               simp only [okS, Bool.and_eq_true, bne_iff_ne, ne_eq]
               omega)) hRf) (by rw [gS 57 rfl]; exact hmc) (fun L hL => hcp L (by have h2 : 0 ≤ L ∧ L < 5 + 2 * S 23 0 := hL; rw [gS 23 rfl] at h2; exact h2)) (by rw [gS 58 rfl, gS 59 rfl]; exact hlg) (by rw [gS 45 rfl]; exact ht9) hto hla0 hc0 (fun f a b => (tipL_q hfS f a b).trans (congrFun hfin f)) hC hS (lv_key hl [(0, .ref (la 0 0)), (5, .ref (la 10 t))] rfl)))
        · first
          | exact absurd (show g = -1 by omega) hg1
          | (obtain ⟨S, eS⟩ : ∃ z, z = up (up σ 25 q ((σ 25 q + g) % 500)) 35 t ((σ 25 q + g) / 500) := ⟨_, rfl⟩
             rw [show up (up σ 25 q ((σ 25 q + g) % 500)) 35 t ((σ 25 q + g) / 500) = S from eS.symm] at hC
             have gS : ∀ f, okS f = true → S f = σ f := fun f hf => by
               simp only [okS, Bool.and_eq_true, bne_iff_ne, ne_eq] at hf
               rw [eS, up_f (by omega)]; rw [up_f (by omega)]
             have hfS : ∀ f, f ≠ 55 → f ≠ 56 → S f = tipG σ t q g f := fun f a b => by
               rw [eS]; unfold tipG
               rw [if_neg (by omega)]
             exact w_widen (Nat.le_of_ble_eq_true rfl) (Nat.le_of_ble_eq_true rfl) (tail4 _ _ ls la S t (by rw [gS 5 rfl]; exact hn5) (by rw [gS 11 rfl]; exact hn11) (by rw [gS 23 rfl]; exact hn23) (by rw [gS 27 rfl]; exact hn27) (by rw [gS 45 rfl]; exact hn45) (cRefs_c (fun f hf => gS f (by
               simp only [okCR, Bool.or_eq_true, beq_iff_eq] at hf
               simp only [okS, Bool.and_eq_true, bne_iff_ne, ne_eq]
               omega)) hRf) (by rw [gS 57 rfl]; exact hmc) (fun L hL => hcp L (by have h2 : 0 ≤ L ∧ L < 5 + 2 * S 23 0 := hL; rw [gS 23 rfl] at h2; exact h2)) (by rw [gS 58 rfl, gS 59 rfl]; exact hlg) (by rw [gS 45 rfl]; exact ht9) hto hla0 hc0 (fun f a b => (tipL_q hfS f a b).trans (congrFun hfin f)) hC hS (lv_key hl [(0, .ref (la 0 0)), (5, .ref (la 10 t))] rfl)))
      · refine x_aload B hl dX10_tip_69 rfl ?_
        refine x_iconst B dX10_tip_71 ?_
        refine co_puti (f := 38) E hC hS 10 (by decide) (cl_10 ⟨by omega, by omega⟩) rfl (fun z h => List.mem_cons_of_mem _ (List.mem_append_left _ (List.mem_append_left _ (List.mem_append_left _ (List.mem_append_left _ (List.mem_append_left _ (List.mem_append_left _ (List.mem_append_left _ (List.mem_append_right _ h))))))))) tyX9 tyX9_ok nmX9 6 (by decide) (hts (.fieldLink RX10 208 "BinRounds$Tip" "weighing" "I") (by decide +kernel)) (fun x hx => hx) rfl rfl dX10_tip_72 (by decide) ⟨rfl, rfl, rfl, rfl⟩ (by omega) (fun H locs hC hS => ?_)
        refine x_aload B hl dX10_tip_75 rfl ?_
        refine x_aload_n B hl dX10_tip_77 rfl ?_
        refine x_aload B hl dX10_tip_78 rfl ?_
        refine co_getR (x := la 6 (σ 36 t)) E hC 10 (by decide) (cl_up (by decide) (cl_10 ⟨by omega, by omega⟩)) rfl (fun z h => List.mem_cons_of_mem _ (List.mem_append_left _ (List.mem_append_left _ (List.mem_append_left _ (List.mem_append_left _ (List.mem_append_left _ (List.mem_append_left _ (List.mem_append_left _ (List.mem_append_right _ h))))))))) 4 (by decide) (hts (.fieldLink RX10 211 "BinRounds$Tip" "bin" "LBinRounds$Bin;") (by decide +kernel)) (fun x hx => hx) dX10_tip_80 rfl (cR_br (show _ = σ 36 t from (up_ne (by decide) rfl)) hnl) ?_
        refine co_callX E hK hC hS hl (κ := 0) (i := 0) (by decide) cl_0 rfl (c_middleOf_U l D cy d0 A la σ (up σ 38 t 1) (b := σ 36 t) (N := t) (fun f hf => up_f hf) (fun j hj => up_o (by omega)) (hbn t (by omega) (by omega) hnl) (by omega) ⟨by omega, by omega, by omega⟩ hh hbn) (cwV 1 hts0 gX10_tip_X10_middleOf rfl rfl rfl (by decide +kernel) ⟨Nat.le_of_ble_eq_true rfl, Nat.le_of_ble_eq_true rfl⟩) rfl rfl (Nat.le_of_ble_eq_true rfl) dX10_tip_83 ⟨Nat.le_of_ble_eq_true rfl, Nat.le_of_ble_eq_true rfl⟩ (fun H locs τ1 qx hC hS => ?_)
        obtain ⟨qx, qx1, qx2⟩ := qx
        have g1 : ∀ f, (f != 38 && f != 55 && f != 56) = true → τ1 f = σ f := fun f hf => by
          simp only [Bool.and_eq_true, bne_iff_ne, ne_eq] at hf
          rw [qx f (by omega) (by omega), up_f (by omega)]
        refine co_puti (f := 35) E hC hS 10 (by decide) (cl_q (⟨g1 _ rfl, g1 _ rfl, g1 _ rfl, g1 _ rfl, g1 _ rfl, g1 _ rfl, g1 _ rfl⟩ : cLq σ τ1) (cl_10 ⟨by omega, by omega⟩)) rfl (fun z h => List.mem_cons_of_mem _ (List.mem_append_left _ (List.mem_append_left _ (List.mem_append_left _ (List.mem_append_left _ (List.mem_append_left _ (List.mem_append_left _ (List.mem_append_left _ (List.mem_append_right _ h))))))))) tyX9 tyX9_ok nmX9 3 (by decide) (hts (.fieldLink RX10 219 "BinRounds$Tip" "halves" "I") (by decide +kernel)) (fun x hx => hx) rfl rfl dX10_tip_86 (by decide) ⟨rfl, rfl, rfl, rfl⟩ (by omega) (fun H locs hC hS => ?_)
        refine x_goto (tgt := 103) B dX10_tip_89 (by decide) ?_
        by_cases hg1 : g = -1
        · first
          | exact absurd hg1 (by omega)
          | (obtain ⟨S, eS⟩ : ∃ z, z = up τ1 35 t (sMid σ (σ 36 t) t.toNat 0 (fun _ => 0)) := ⟨_, rfl⟩
             rw [show up τ1 35 t (sMid σ (σ 36 t) t.toNat 0 (fun _ => 0)) = S from eS.symm] at hC
             have gS : ∀ f, okS f = true → S f = σ f := fun f hf => by
               simp only [okS, Bool.and_eq_true, bne_iff_ne, ne_eq] at hf
               rw [eS, up_f (by omega)]; exact g1 f (by simp only [Bool.and_eq_true, bne_iff_ne, ne_eq]; omega)
             have hfS : ∀ f, f ≠ 55 → f ≠ 56 → S f = tipG σ t q g f := fun f a b => by
               rw [eS]; unfold tipG
               rw [if_pos (by omega), if_neg hnl]; funext j; rw [up_rd, up_rd, qx f a b]
             exact w_widen (Nat.le_of_ble_eq_true rfl) (Nat.le_of_ble_eq_true rfl) (tail4 _ _ ls la S t (by rw [gS 5 rfl]; exact hn5) (by rw [gS 11 rfl]; exact hn11) (by rw [gS 23 rfl]; exact hn23) (by rw [gS 27 rfl]; exact hn27) (by rw [gS 45 rfl]; exact hn45) (cRefs_c (fun f hf => gS f (by
               simp only [okCR, Bool.or_eq_true, beq_iff_eq] at hf
               simp only [okS, Bool.and_eq_true, bne_iff_ne, ne_eq]
               omega)) hRf) (by rw [gS 57 rfl]; exact hmc) (fun L hL => hcp L (by have h2 : 0 ≤ L ∧ L < 5 + 2 * S 23 0 := hL; rw [gS 23 rfl] at h2; exact h2)) (by rw [gS 58 rfl, gS 59 rfl]; exact hlg) (by rw [gS 45 rfl]; exact ht9) hto hla0 hc0 (fun f a b => (tipL_q hfS f a b).trans (congrFun hfin f)) hC hS (lv_key hl [(0, .ref (la 0 0)), (5, .ref (la 10 t))] rfl)))
        · first
          | exact absurd (show g = -1 by omega) hg1
          | (obtain ⟨S, eS⟩ : ∃ z, z = up (up σ 25 q ((σ 25 q + g) % 500)) 35 t ((σ 25 q + g) / 500) := ⟨_, rfl⟩
             rw [show up (up σ 25 q ((σ 25 q + g) % 500)) 35 t ((σ 25 q + g) / 500) = S from eS.symm] at hC
             have gS : ∀ f, okS f = true → S f = σ f := fun f hf => by
               simp only [okS, Bool.and_eq_true, bne_iff_ne, ne_eq] at hf
               rw [eS, up_f (by omega)]; rw [up_f (by omega)]
             have hfS : ∀ f, f ≠ 55 → f ≠ 56 → S f = tipG σ t q g f := fun f a b => by
               rw [eS]; unfold tipG
               rw [if_neg (by omega)]
             exact w_widen (Nat.le_of_ble_eq_true rfl) (Nat.le_of_ble_eq_true rfl) (tail4 _ _ ls la S t (by rw [gS 5 rfl]; exact hn5) (by rw [gS 11 rfl]; exact hn11) (by rw [gS 23 rfl]; exact hn23) (by rw [gS 27 rfl]; exact hn27) (by rw [gS 45 rfl]; exact hn45) (cRefs_c (fun f hf => gS f (by
               simp only [okCR, Bool.or_eq_true, beq_iff_eq] at hf
               simp only [okS, Bool.and_eq_true, bne_iff_ne, ne_eq]
               omega)) hRf) (by rw [gS 57 rfl]; exact hmc) (fun L hL => hcp L (by have h2 : 0 ≤ L ∧ L < 5 + 2 * S 23 0 := hL; rw [gS 23 rfl] at h2; exact h2)) (by rw [gS 58 rfl, gS 59 rfl]; exact hlg) (by rw [gS 45 rfl]; exact ht9) hto hla0 hc0 (fun f a b => (tipL_q hfS f a b).trans (congrFun hfin f)) hC hS (lv_key hl [(0, .ref (la 0 0)), (5, .ref (la 10 t))] rfl)))
  have tail2 : ∀ (H : Heap) (locs : List Loc) (ls : Array Slot) (la2 : Nat → Int → Nat) (σ2 : MS) (t : Int) (hn5 : 0 ≤ σ2 5 0 ∧ σ2 5 0 ≤ 1000) (hn11 : 0 ≤ σ2 11 0 ∧ σ2 11 0 ≤ 1000) (hn23 : 0 ≤ σ2 23 0 ∧ σ2 23 0 ≤ 600) (hn27 : 0 ≤ σ2 27 0 ∧ σ2 27 0 ≤ 1000) (hn45 : 0 ≤ σ2 45 0 ∧ σ2 45 0 ≤ 600) (hRf : cRefs σ2) (hmc : ∀ L, 0 ≤ σ2 57 L ∧ σ2 57 L ≤ 1000000) (hcp : ∀ L, cLive la2 σ2 11 L → la2 19 L ≤ 1000) (hlg : σ2 58 0 = 1 ∧ σ2 59 0 = 0) (ht9 : t = σ2 45 0 - 1 ∧ 0 ≤ t) (hto : t = σ 45 0) (hla0 : la2 0 0 = la 0 0) (hc0 : tipC σ q g = 0) (hq1 : 0 ≤ q ∧ q < σ2 27 0) (hg9 : -1 ≤ g ∧ g ≤ 200000) (hh : ∀ t, 0 ≤ t → t < σ2 45 0 → 0 ≤ σ2 35 t ∧ σ2 35 t ≤ 3000000) (h25 : 0 ≤ σ2 25 q ∧ σ2 25 q ≤ 1000000000) (h36 : σ2 36 t = -1) (h37 : σ2 37 t = 0) (hfin : tipL (tipG (tipI σ2 t) t q g) = tipT σ q mk g), CP D cy d0 A la2 σ2 H → va_S A s.heap H locs → lv_has ls 6 [(0, .ref (la2 0 0)), (3, .int (iI g)), (4, .ref (la2 9 q)), (5, .ref (la2 10 t))] → W p l e ({ frames := 8, cells := 24, slots := 2100, locals := 256 } : Room) s m args below meth c H locs 18 90 (vx_MQ below (cQ D cy d0 A (fun v la' τ => (((if tipC σ q g = 1 then 1 else (if tipC σ q g = 2 then 2 else (if tipC σ q g = 3 then 3 else 0))) : Int)) = 0 ∧ (fun v' la' τ => v' = some (.int (iI (σ 45 0))) ∧ (la' 0 0 = la 0 0 ∧ ∀ L, cLive la' τ 11 L → la' 19 L ≤ 1000) ∧ ∀ f, f ≠ 55 → f ≠ 56 → τ f = tipT σ q mk g f) v la' τ)) (cXX D cy d0 A ((if tipC σ q g = 1 then 1 else (if tipC σ q g = 2 then 2 else (if tipC σ q g = 3 then 3 else 0)))) la σ) args s 24 2100 A) (F0 m 58 ls []) := by
    intro H0 locs ls la σ t hn5 hn11 hn23 hn27 hn45 hRf hmc hcp hlg ht9 hto hla0 hc0 hq1 hg9 hh h25 h36 h37 hfin hC hS hl
    have hw := hC.2.2.2.2.2.1
    refine x_aload_n B hl dX10_tip_58 rfl ?_
    refine x_aload B hl dX10_tip_59 rfl ?_
    refine co_call E hK hC hS hl (κ := 0) (i := 0) (by decide) cl_0 rfl (c_identify l D cy d0 A la σ (t := t) ⟨by omega, by omega⟩ ⟨hn23.1, by omega⟩ ⟨hlg.2, hlg.2⟩ h36 h37) (cwV 1 hts0 gX10_tip_X10_identify rfl rfl rfl (by decide +kernel) ⟨Nat.le_of_ble_eq_true rfl, Nat.le_of_ble_eq_true rfl⟩) rfl rfl (Nat.le_of_ble_eq_true rfl) dX10_tip_61 ⟨Nat.le_of_ble_eq_true rfl, Nat.le_of_ble_eq_true rfl⟩ (fun H locs q_61 hC hS => ?_)
    obtain ⟨S, eS⟩ : ∃ z, z = tipI σ t := ⟨_, rfl⟩
    rw [show up (up σ 36 t (tipB σ (σ 34 t))) 37 t (tipO σ (σ 34 t)) = S from eS.symm] at hC
    have gS : ∀ f, (f != 36 && f != 37) = true → S f = σ f := fun f hf => by
      simp only [Bool.and_eq_true, bne_iff_ne, ne_eq] at hf
      rw [eS]; unfold tipI
      rw [up_f (by omega), up_f (by omega)]
    exact w_widen (Nat.le_of_ble_eq_true rfl) (Nat.le_of_ble_eq_true rfl) (tail3 _ _ ls la S t (by rw [gS 5 rfl]; exact hn5) (by rw [gS 11 rfl]; exact hn11) (by rw [gS 23 rfl]; exact hn23) (by rw [gS 27 rfl]; exact hn27) (by rw [gS 45 rfl]; exact hn45) (by rw [eS]; exact cRefs_tipI hn23.1 hRf) (by rw [gS 57 rfl]; exact hmc) (fun L hL => hcp L (by have h2 : 0 ≤ L ∧ L < 5 + 2 * S 23 0 := hL; rw [gS 23 rfl] at h2; exact h2)) (by rw [gS 58 rfl, gS 59 rfl]; exact hlg) (by rw [gS 45 rfl]; exact ht9) hto hla0 hc0 (by rw [gS 27 rfl]; exact hq1) hg9 (by rw [gS 45 rfl, gS 35 rfl]; exact hh) (by rw [gS 25 rfl]; exact h25) (by rw [eS]; exact hfin) hC hS hl)
  have tail : ∀ (H : Heap) (locs : List Loc) (ls : Array Slot) (hq1 : 0 ≤ q ∧ q < σ 27 0) (hg9 : -1 ≤ g ∧ g ≤ 200000) (hn600 : σ 45 0 < 600) (hc0 : tipC σ q g = 0), CP D cy d0 A la σ H → va_S A s.heap H locs → lv_has ls 6 [(0, .ref (la 0 0)), (2, .int (iI mk)), (3, .int (iI g)), (4, .ref (la 9 q))] → W p l e ({ frames := 8, cells := 24, slots := 2100, locals := 256 } : Room) s m args below meth c H locs 16 64 (vx_MQ below (cQ D cy d0 A (fun v la' τ => (((if tipC σ q g = 1 then 1 else (if tipC σ q g = 2 then 2 else (if tipC σ q g = 3 then 3 else 0))) : Int)) = 0 ∧ (fun v' la' τ => v' = some (.int (iI (σ 45 0))) ∧ (la' 0 0 = la 0 0 ∧ ∀ L, cLive la' τ 11 L → la' 19 L ≤ 1000) ∧ ∀ f, f ≠ 55 → f ≠ 56 → τ f = tipT σ q mk g f) v la' τ)) (cXX D cy d0 A ((if tipC σ q g = 1 then 1 else (if tipC σ q g = 2 then 2 else (if tipC σ q g = 3 then 3 else 0)))) la σ) args s 24 2100 A) (F0 m 42 ls []) := by
    intro H0 locs ls hq1 hg9 hn600 hc0 hC hS hl
    obtain ⟨M, hMe⟩ : ∃ z, z = H0.size := ⟨_, rfl⟩
    have hMl : ∀ κ i, κ ≤ 18 → cLive la σ κ i → la κ i < M := fun κ i a b => by rw [hMe]; exact hC.lt a b
    have hAM : ∀ q, M ≤ q → A q := fun q h => hA q (by have := hS.1; omega)
    refine ob_new (ci := 10) (C := RX9) (T := TX9) E hS rfl (fun z h => List.mem_cons_of_mem _ (List.mem_append_left _ (List.mem_append_left _ (List.mem_append_left _ (List.mem_append_left _ (List.mem_append_left _ (List.mem_append_left _ (List.mem_append_left _ (List.mem_append_right _ h))))))))) tyX9_ok (hts (.classLink RX10 199 RX9) (by decide +kernel)) (hts (.instantiable RX9 13) (by decide +kernel)) (hts (.initialized RX9) (by decide +kernel)) (Nat.le_of_ble_eq_true rfl) (Nat.le_of_ble_eq_true rfl) dX10_tip_42 (fun H42 nO o42 z42 hS => ?_)
    rw [← hMe] at nO o42 z42 ⊢
    have hC := hC.kept (fun κ i a b => o42 _ (hMl κ i a b))
    refine x_dup B dX10_tip_45 rfl ?_
    refine x_aload_n B hl dX10_tip_46 rfl ?_
    refine co_geti (f := 1) E hC 0 (by decide) cl_0 rfl (fun z h => List.mem_cons_of_mem _ (List.mem_append_left _ (List.mem_append_left _ (List.mem_append_left _ (List.mem_append_left _ (List.mem_append_left _ (List.mem_append_left _ (List.mem_append_left _ (List.mem_append_left _ (List.mem_append_right _ h)))))))))) 8 (by decide) (hts (.fieldLink RX10 49 "BinRounds" "open" "I") (by decide +kernel)) (fun x hx => hx) dX10_tip_47 ⟨rfl, rfl, rfl⟩ rfl (fun r_47 => ?_)
    refine x_aload B hl dX10_tip_50 rfl ?_
    refine x_iload_n B hl dX10_tip_52 rfl ?_
    refine cb_callI (A' := fun z => z = M ∨ H42.size ≤ z) (av := [.int (iI (σ 1 0)), .ref (la 9 q), .int (iI mk)]) E hK hS hl (fun z h => h.elim (fun h => hAM z (by omega)) (fun h => hA z (by have := hS.1; omega))) (fun z h => Or.inr h) (k_Tip l D cy d0 _ (q := M) (Or.inl rfl)) nO (cwI 3 hts0 gX10_tip_X9_init rfl rfl rfl (hts (.initialized RX9) (by decide +kernel)) (hts (.methodLink RX10 201 yX9_init) (by decide +kernel)) (hts (.instanceMethod yX9_init) (by decide +kernel)) rfl (by decide +kernel) ⟨Nat.le_of_ble_eq_true rfl, Nat.le_of_ble_eq_true rfl⟩) rfl rfl (Nat.le_of_ble_eq_true rfl) dX10_tip_53 ⟨Nat.le_of_ble_eq_true rfl, Nat.le_of_ble_eq_true rfl⟩ (fun H53 locs v hv z53 o53 hS => ?_)
    obtain ⟨rfl, nO⟩ := hv
    have hC := hC.kept (fun κ i a b => o53 _ (by have := hMl κ i a b; omega) (fun z => z.elim (fun e => by have := hMl κ i a b; omega) (fun e => by have := hMl κ i a b; omega)))
    refine x_astore B hl dX10_tip_56 (by decide) (fun ls hl => ?_)
    have hCA := g_tipA hC hMl hAM hn5 hn11 hn23 hn27 hn45 hRf hlg hq1 h_mk hop hz9 nO
    obtain ⟨lb, hlb⟩ : ∃ z, z = (lup la 10 (σ 45 0) M) := ⟨_, rfl⟩
    rw [← hlb] at hCA
    obtain ⟨σ1, hσ1⟩ : ∃ z, z = tipA9 σ q mk := ⟨_, rfl⟩
    rw [show (up (up (up (up (up (up (up (up (up (up σ 32 (σ 45 0) (σ 1 0)) 33 (σ 45 0) q) 34 (σ 45 0) mk) 35 (σ 45 0) 0) 36 (σ 45 0) (-1)) 37 (σ 45 0) 0) 38 (σ 45 0) 0) 44 (σ 45 0) (-1)) 58 0 1) 45 0 (σ 45 0 + 1)) = σ1 from hσ1.symm] at hCA
    have e : ∀ f, (f != 32 && f != 33 && f != 34 && f != 35 && f != 36 && f != 37 && f != 38 && f != 44 && f != 58 && f != 45) = true → σ1 f = σ f := fun f hf => by
      simp only [Bool.and_eq_true, bne_iff_ne, ne_eq] at hf
      rw [hσ1]; unfold tipA9
      rw [up_f (by omega), up_f (by omega), up_f (by omega), up_f (by omega), up_f (by omega), up_f (by omega), up_f (by omega), up_f (by omega), up_f (by omega), up_f (by omega)]
    have e45 : σ1 45 0 = σ 45 0 + 1 := by rw [hσ1]; exact up_s
    have e58 : σ1 58 0 = 1 := by rw [hσ1]; unfold tipA9; rw [up_f (by decide)]; exact up_s
    have e35 : ∀ j, σ1 35 j = if j = σ 45 0 then 0 else σ 35 j := fun j => by rw [hσ1]; unfold tipA9; simp [up_rd]
    have e36 : ∀ j, σ1 36 j = if j = σ 45 0 then -1 else σ 36 j := fun j => by rw [hσ1]; unfold tipA9; simp [up_rd]
    have e37 : ∀ j, σ1 37 j = if j = σ 45 0 then 0 else σ 37 j := fun j => by rw [hσ1]; unfold tipA9; simp [up_rd]
    have q0 : lb 0 0 = la 0 0 := by rw [hlb, lup_k (by decide)]
    have q9 : lb 9 q = la 9 q := by rw [hlb, lup_k (by decide)]
    have q10 : lb 10 (σ 45 0) = M := by rw [hlb]; exact lup_s
    have hl9 := lv_key hl [(0, .ref (la 0 0)), (3, .int (iI g)), (4, .ref (la 9 q)), (5, .ref M)] rfl
    rw [← q0, ← q9, ← q10] at hl9
    refine w_widen (Nat.le_of_ble_eq_true rfl) (Nat.le_of_ble_eq_true rfl) (tail2 _ _ ls lb σ1 (σ 45 0) (by rw [e 5 rfl]; exact hn5) (by rw [e 11 rfl]; exact hn11) (by rw [e 23 rfl]; omega) (by rw [e 27 rfl]; exact hn27) (by rw [e45]; omega) (by rw [hσ1]; exact cRefs_tipA hq1 hRf) (by rw [e 57 rfl]; exact hmc) (fun L hL => ?_) ⟨e58, by rw [e 59 rfl]; exact hlg.2⟩ (by rw [e45]; omega) rfl q0 hc0 (by rw [e 27 rfl]; exact hq1) hg9 (fun j a c => ?_) (by rw [e 25 rfl]; exact h25 q) (by rw [e36, if_pos rfl]) (by rw [e37, if_pos rfl]) (by rw [hσ1]; rfl) hCA hS hl9)
    · have h2 : 0 ≤ L ∧ L < 5 + 2 * σ1 23 0 := hL
      rw [e 23 rfl] at h2
      rw [hlb, lup_k (by decide)]
      exact hcp L h2
    · rw [e45] at c; rw [e35]; split
      · omega
      · exact hh j a (by omega)
  refine x_aload_n B hl dX10_tip_0 rfl ?_
  refine x_iload_n B hl dX10_tip_1 rfl ?_
  refine ctm_call E hout hlk hK hC hS hl (κ := 0) (i := 0) (by decide) cl_0 rfl (c_cartAt l hlt D cy d0 A la _ (z := q) h_q (by omega) (by omega) hlg) (cwV 1 hts0 gX10_tip_X10_cartAt rfl rfl rfl (by decide +kernel) ⟨Nat.le_of_ble_eq_true rfl, Nat.le_of_ble_eq_true rfl⟩) rfl rfl (Nat.le_of_ble_eq_true rfl) dX10_tip_2 ⟨Nat.le_of_ble_eq_true rfl, Nat.le_of_ble_eq_true rfl⟩ ⟨Nat.le_of_ble_eq_true rfl, Nat.le_of_ble_eq_true rfl⟩ (fun h => ⟨by unfold tipC; omega, rfl⟩) (fun h9_2 H locs hq1 hC hS => ?_)
  refine x_astore B hl dX10_tip_5 (by decide) (fun ls hl => ?_)
  refine x_iload_n B hl dX10_tip_7 rfl ?_
  refine x_i2l B dX10_tip_8 (by omega) ?_
  refine lv_ldc2 (v := lI (-1)) B.1 B.2 hown (hts (.constantLong RX10 195 (-1)) (by decide +kernel)) dX10_tip_9 ?_
  refine lv_ldc2 (v := lI 200000) B.1 B.2 hown (hts (.constantLong RX10 197 (200000)) (by decide +kernel)) dX10_tip_12 ?_
  refine z_call ⟨B.1, B.2, hml, hown, hts0⟩ hl (c_isWithin l (v := g) (a := (-1)) (b := 200000) (by omega) (by omega) (by omega)) (va_cwS 3 hts0 gX10_tip_X10_isWithin rfl rfl rfl (by decide +kernel) ⟨Nat.le_of_ble_eq_true rfl, Nat.le_of_ble_eq_true rfl⟩) rfl rfl (Nat.le_of_ble_eq_true rfl) dX10_tip_15 ⟨Nat.le_of_ble_eq_true rfl, Nat.le_of_ble_eq_true rfl⟩ (fun q_15 => ?_)
  refine x_bool (fun b_15 => ?_) (fun b_15 => ?_)
  · refine cstm_call E hout hlk hK hC hS hl (c_require l hlt D cy d0 A la _ (z := 1) (Or.inr rfl)) (va_cwS 1 hts0 gX10_tip_X10_require rfl rfl rfl (by decide +kernel) ⟨Nat.le_of_ble_eq_true rfl, Nat.le_of_ble_eq_true rfl⟩) rfl rfl (Nat.le_of_ble_eq_true rfl) dX10_tip_18 ⟨Nat.le_of_ble_eq_true rfl, Nat.le_of_ble_eq_true rfl⟩ ⟨Nat.le_of_ble_eq_true rfl, Nat.le_of_ble_eq_true rfl⟩ (fun h => ⟨by unfold tipC; omega, rfl⟩) (fun h9_18 H locs q_18 hC hS => ?_)
    refine x_aload_n B hl dX10_tip_21 rfl ?_
    refine co_getR (x := la 11 4) E hC 0 (by decide) cl_0 rfl (fun z h => List.mem_cons_of_mem _ (List.mem_append_left _ (List.mem_append_left _ (List.mem_append_left _ (List.mem_append_left _ (List.mem_append_left _ (List.mem_append_left _ (List.mem_append_left _ (List.mem_append_left _ (List.mem_append_right _ h)))))))))) 4 (by decide) (hts (.fieldLink RX10 25 "BinRounds" "tips" "Ljava/util/ArrayList;") (by decide +kernel)) (fun x hx => hx) dX10_tip_22 rfl rfl ?_
    refine co_call E hK hC hS hl (κ := 11) (i := 4) (by decide) (cl_11 (by omega)) rfl (c_size l D cy d0 A la _ (L := 4) (n := σ 45 0) (cl_11 (by omega)) ((cSz_4 ((rfl).trans hlg.1)).trans rfl)) (cwV 0 hts0 gX10_tip_Jx4a65c_size_8abf5 rfl rfl rfl (by decide +kernel) ⟨Nat.le_of_ble_eq_true rfl, Nat.le_of_ble_eq_true rfl⟩) rfl rfl (Nat.le_of_ble_eq_true rfl) dX10_tip_25 ⟨Nat.le_of_ble_eq_true rfl, Nat.le_of_ble_eq_true rfl⟩ (fun H locs q_25 hC hS => ?_)
    refine x_sipush B dX10_tip_28 (by decide) ?_
    refine x_icmp_ge (tgt := 38) B dX10_tip_31 (by decide) (by omega) (by omega) (fun c_31 => ?_) (fun c_31 => ?_)
    · refine x_iconst B dX10_tip_38 ?_
      refine cstm_call E hout hlk hK hC hS hl (c_requireRoom l hlt D cy d0 A la _ (z := 0) (Or.inl rfl)) (va_cwS 1 hts0 gX10_tip_X10_requireRoom rfl rfl rfl (by decide +kernel) ⟨Nat.le_of_ble_eq_true rfl, Nat.le_of_ble_eq_true rfl⟩) rfl rfl (Nat.le_of_ble_eq_true rfl) dX10_tip_39 ⟨Nat.le_of_ble_eq_true rfl, Nat.le_of_ble_eq_true rfl⟩ ⟨Nat.le_of_ble_eq_true rfl, Nat.le_of_ble_eq_true rfl⟩ (fun h => ⟨by unfold tipC; omega, rfl⟩) (fun h9_39 H locs q_39 hC hS => ?_)
      exact w_widen (Nat.le_of_ble_eq_true rfl) (Nat.le_of_ble_eq_true rfl) (tail _ _ ls hq1 (by omega) (by omega) (by unfold tipC; rw [if_neg (by omega), if_neg (by omega), if_neg (by omega)]) hC hS (lv_key hl _ rfl))
    · refine x_iconst B dX10_tip_34 ?_
      refine x_goto (tgt := 39) B dX10_tip_35 (by decide) ?_
      refine cstm_call E hout hlk hK hC hS hl (c_requireRoom l hlt D cy d0 A la _ (z := 1) (Or.inr rfl)) (va_cwS 1 hts0 gX10_tip_X10_requireRoom rfl rfl rfl (by decide +kernel) ⟨Nat.le_of_ble_eq_true rfl, Nat.le_of_ble_eq_true rfl⟩) rfl rfl (Nat.le_of_ble_eq_true rfl) dX10_tip_39 ⟨Nat.le_of_ble_eq_true rfl, Nat.le_of_ble_eq_true rfl⟩ ⟨Nat.le_of_ble_eq_true rfl, Nat.le_of_ble_eq_true rfl⟩ (fun h => ⟨by unfold tipC; omega, rfl⟩) (fun h9_39 H locs q_39 hC hS => ?_)
      exact w_widen (Nat.le_of_ble_eq_true rfl) (Nat.le_of_ble_eq_true rfl) (tail _ _ ls hq1 (by omega) (by omega) (by unfold tipC; rw [if_neg (by omega), if_neg (by omega), if_neg (by omega)]) hC hS (lv_key hl _ rfl))
  · refine cstm_call E hout hlk hK hC hS hl (c_require l hlt D cy d0 A la _ (z := 0) (Or.inl rfl)) (va_cwS 1 hts0 gX10_tip_X10_require rfl rfl rfl (by decide +kernel) ⟨Nat.le_of_ble_eq_true rfl, Nat.le_of_ble_eq_true rfl⟩) rfl rfl (Nat.le_of_ble_eq_true rfl) dX10_tip_18 ⟨Nat.le_of_ble_eq_true rfl, Nat.le_of_ble_eq_true rfl⟩ ⟨Nat.le_of_ble_eq_true rfl, Nat.le_of_ble_eq_true rfl⟩ (fun h => ⟨by unfold tipC; omega, rfl⟩) (fun h9_18 H locs q_18 hC hS => ?_)
    refine x_aload_n B hl dX10_tip_21 rfl ?_
    refine co_getR (x := la 11 4) E hC 0 (by decide) cl_0 rfl (fun z h => List.mem_cons_of_mem _ (List.mem_append_left _ (List.mem_append_left _ (List.mem_append_left _ (List.mem_append_left _ (List.mem_append_left _ (List.mem_append_left _ (List.mem_append_left _ (List.mem_append_left _ (List.mem_append_right _ h)))))))))) 4 (by decide) (hts (.fieldLink RX10 25 "BinRounds" "tips" "Ljava/util/ArrayList;") (by decide +kernel)) (fun x hx => hx) dX10_tip_22 rfl rfl ?_
    refine co_call E hK hC hS hl (κ := 11) (i := 4) (by decide) (cl_11 (by omega)) rfl (c_size l D cy d0 A la _ (L := 4) (n := σ 45 0) (cl_11 (by omega)) ((cSz_4 ((rfl).trans hlg.1)).trans rfl)) (cwV 0 hts0 gX10_tip_Jx4a65c_size_8abf5 rfl rfl rfl (by decide +kernel) ⟨Nat.le_of_ble_eq_true rfl, Nat.le_of_ble_eq_true rfl⟩) rfl rfl (Nat.le_of_ble_eq_true rfl) dX10_tip_25 ⟨Nat.le_of_ble_eq_true rfl, Nat.le_of_ble_eq_true rfl⟩ (fun H locs q_25 hC hS => ?_)
    refine x_sipush B dX10_tip_28 (by decide) ?_
    refine x_icmp_ge (tgt := 38) B dX10_tip_31 (by decide) (by omega) (by omega) (fun c_31 => ?_) (fun c_31 => ?_)
    · refine x_iconst B dX10_tip_38 ?_
      refine cstm_call E hout hlk hK hC hS hl (c_requireRoom l hlt D cy d0 A la _ (z := 0) (Or.inl rfl)) (va_cwS 1 hts0 gX10_tip_X10_requireRoom rfl rfl rfl (by decide +kernel) ⟨Nat.le_of_ble_eq_true rfl, Nat.le_of_ble_eq_true rfl⟩) rfl rfl (Nat.le_of_ble_eq_true rfl) dX10_tip_39 ⟨Nat.le_of_ble_eq_true rfl, Nat.le_of_ble_eq_true rfl⟩ ⟨Nat.le_of_ble_eq_true rfl, Nat.le_of_ble_eq_true rfl⟩ (fun h => ⟨by unfold tipC; omega, rfl⟩) (fun h9_39 H locs q_39 hC hS => ?_)
      exact w_widen (Nat.le_of_ble_eq_true rfl) (Nat.le_of_ble_eq_true rfl) (tail _ _ ls hq1 (by omega) (by omega) (by unfold tipC; rw [if_neg (by omega), if_neg (by omega), if_neg (by omega)]) hC hS (lv_key hl _ rfl))
    · refine x_iconst B dX10_tip_34 ?_
      refine x_goto (tgt := 39) B dX10_tip_35 (by decide) ?_
      refine cstm_call E hout hlk hK hC hS hl (c_requireRoom l hlt D cy d0 A la _ (z := 1) (Or.inr rfl)) (va_cwS 1 hts0 gX10_tip_X10_requireRoom rfl rfl rfl (by decide +kernel) ⟨Nat.le_of_ble_eq_true rfl, Nat.le_of_ble_eq_true rfl⟩) rfl rfl (Nat.le_of_ble_eq_true rfl) dX10_tip_39 ⟨Nat.le_of_ble_eq_true rfl, Nat.le_of_ble_eq_true rfl⟩ ⟨Nat.le_of_ble_eq_true rfl, Nat.le_of_ble_eq_true rfl⟩ (fun h => ⟨by unfold tipC; omega, rfl⟩) (fun h9_39 H locs q_39 hC hS => ?_)
      exact w_widen (Nat.le_of_ble_eq_true rfl) (Nat.le_of_ble_eq_true rfl) (tail _ _ ls hq1 (by omega) (by omega) (by unfold tipC; rw [if_neg (by omega), if_neg (by omega), if_neg (by omega)]) hC hS (lv_key hl _ rfl))
