def binA (σ : MS) (kd mk : Int) : MS := (up (up (up (up (up (up (up (up σ 12 (σ 23 0) kd) 13 (σ 23 0) 1) 14 (σ 23 0) mk) 18 (σ 23 0) 0) 57 (5 + 2 * σ 23 0) 0) 57 (6 + 2 * σ 23 0) 0) 59 0 1) 23 0 (σ 23 0 + 1))
def binM (σ : MS) (h b : Int) : MS := (up (up (up (up σ 16 (8 * b + σ 18 b) h) 17 (8 * b + σ 18 b) (σ 1 0)) 18 b (σ 18 b + 1)) 57 (5 + 2 * b) (σ 57 (5 + 2 * b) + 1))
def binL (σ : MS) : MS := (up (up σ 59 0 0) 57 2 (σ 57 2 + 1))
/-- what bin leaves -/
def binT (σ : MS) (kd h mk : Int) : MS := binL (binM (binA σ kd mk) h (σ 23 0))
theorem cRefs_binA {σ : MS} {kd mk : Int} (h23 : 0 ≤ σ 23 0) (hz22 : σ 22 (σ 23 0) = 0) (hR : cRefs σ) : cRefs (binA σ kd mk) := by
  obtain ⟨a1, a2, a3, a4, a5⟩ := hR
  obtain ⟨τ, hτ⟩ : ∃ z, z = binA σ kd mk := ⟨_, rfl⟩
  rw [← hτ]
  have e : ∀ f j, f ≠ 12 → f ≠ 13 → f ≠ 14 → f ≠ 18 → f ≠ 57 → f ≠ 59 → f ≠ 23 → τ f j = σ f j := fun f j b1 b2 b3 b4 b5 b6 b7 => by
    rw [hτ]; unfold binA
    rw [up_f b7, up_f b6, up_f b5, up_f b5, up_f b4, up_f b3, up_f b2, up_f b1]
  have e23 : τ 23 0 = σ 23 0 + 1 := by rw [hτ]; exact up_s
  have e18 : ∀ j, τ 18 j = if j = σ 23 0 then 0 else σ 18 j := fun j => by rw [hτ]; unfold binA; simp [up_rd]
  unfold cRefs
  rw [e23]
  refine ⟨fun h b1 b2 => ?_, fun i b1 b2 b3 => ?_, fun i b1 b2 b3 => ?_, fun t b1 b2 => ?_, fun t b1 b2 b3 => ?_⟩
  · rw [e 11 _ (by decide) (by decide) (by decide) (by decide) (by decide) (by decide) (by decide)] at b2
    rw [e 6 _ (by decide) (by decide) (by decide) (by decide) (by decide) (by decide) (by decide), e 5 _ (by decide) (by decide) (by decide) (by decide) (by decide) (by decide) (by decide)]
    exact a1 h b1 b2
  · rw [e18] at b3
    rw [e 16 _ (by decide) (by decide) (by decide) (by decide) (by decide) (by decide) (by decide), e 11 _ (by decide) (by decide) (by decide) (by decide) (by decide) (by decide) (by decide)]
    by_cases hi : i / 8 = σ 23 0
    · rw [if_pos hi] at b3; omega
    · rw [if_neg hi] at b3; exact a2 i b1 (by omega) b3
  · rw [e 22 _ (by decide) (by decide) (by decide) (by decide) (by decide) (by decide) (by decide)] at b3
    rw [e 19 _ (by decide) (by decide) (by decide) (by decide) (by decide) (by decide) (by decide), e 11 _ (by decide) (by decide) (by decide) (by decide) (by decide) (by decide) (by decide)]
    by_cases hi : i / 20 = σ 23 0
    · rw [hi, hz22] at b3; omega
    · exact a3 i b1 (by omega) b3
  · rw [e 45 _ (by decide) (by decide) (by decide) (by decide) (by decide) (by decide) (by decide)] at b2
    rw [e 33 _ (by decide) (by decide) (by decide) (by decide) (by decide) (by decide) (by decide), e 27 _ (by decide) (by decide) (by decide) (by decide) (by decide) (by decide) (by decide)]
    exact a4 t b1 b2
  · rw [e 45 _ (by decide) (by decide) (by decide) (by decide) (by decide) (by decide) (by decide)] at b2
    rw [e 36 _ (by decide) (by decide) (by decide) (by decide) (by decide) (by decide) (by decide)] at b3 ⊢
    have h9 := a5 t b1 b2 b3
    omega
theorem cRefs_binM {σ : MS} {h b : Int} (h18 : 0 ≤ σ 18 b ∧ σ 18 b < 8) (hh : 0 ≤ h ∧ h < σ 11 0) (hR : cRefs σ) : cRefs (binM σ h b) := by
  obtain ⟨a1, a2, a3, a4, a5⟩ := hR
  obtain ⟨τ, hτ⟩ : ∃ z, z = binM σ h b := ⟨_, rfl⟩
  rw [← hτ]
  have e : ∀ f j, f ≠ 16 → f ≠ 17 → f ≠ 18 → f ≠ 57 → τ f j = σ f j := fun f j b1 b2 b3 b4 => by
    rw [hτ]; unfold binM
    rw [up_f b4, up_f b3, up_f b2, up_f b1]
  have e18 : ∀ j, τ 18 j = if j = b then σ 18 b + 1 else σ 18 j := fun j => by rw [hτ]; unfold binM; simp [up_rd]
  have e16 : ∀ j, τ 16 j = if j = 8 * b + σ 18 b then h else σ 16 j := fun j => by rw [hτ]; unfold binM; simp [up_rd]
  refine ⟨fun h b1 b2 => ?_, fun i b1 b2 b3 => ?_, fun i b1 b2 b3 => ?_, fun t b1 b2 => ?_, fun t b1 b2 b3 => ?_⟩
  · rw [e 11 _ (by decide) (by decide) (by decide) (by decide)] at b2
    rw [e 6 _ (by decide) (by decide) (by decide) (by decide), e 5 _ (by decide) (by decide) (by decide) (by decide)]
    exact a1 h b1 b2
  · rw [e 23 _ (by decide) (by decide) (by decide) (by decide)] at b2
    rw [e18] at b3
    rw [e16, e 11 _ (by decide) (by decide) (by decide) (by decide)]
    by_cases hi : i = 8 * b + σ 18 b
    · rw [if_pos hi]; exact hh
    · rw [if_neg hi]
      refine a2 i b1 b2 ?_
      by_cases hb : i / 8 = b
      · rw [if_pos hb] at b3; rw [hb]; omega
      · rw [if_neg hb] at b3; exact b3
  · rw [e 23 _ (by decide) (by decide) (by decide) (by decide)] at b2
    rw [e 22 _ (by decide) (by decide) (by decide) (by decide)] at b3
    rw [e 19 _ (by decide) (by decide) (by decide) (by decide), e 11 _ (by decide) (by decide) (by decide) (by decide)]
    exact a3 i b1 b2 b3
  · rw [e 45 _ (by decide) (by decide) (by decide) (by decide)] at b2
    rw [e 33 _ (by decide) (by decide) (by decide) (by decide), e 27 _ (by decide) (by decide) (by decide) (by decide)]
    exact a4 t b1 b2
  · rw [e 45 _ (by decide) (by decide) (by decide) (by decide)] at b2
    rw [e 36 _ (by decide) (by decide) (by decide) (by decide)] at b3 ⊢
    rw [e 23 _ (by decide) (by decide) (by decide) (by decide)]
    exact a5 t b1 b2 b3
set_option maxHeartbeats 4000000 in
set_option maxRecDepth 100000 in
theorem c_p_bin (l : Launch) (hlt : l.stackTraces = false) (D : va_G) (cy : Nat → ClassId) (d0 : Nat) (A : Nat → Prop) (la : Nat → Int → Nat) (σ : MS) {kd : Int} {h : Int} {mk : Int} (h_kd : -2147483648 ≤ kd ∧ kd < 2147483648) (h_h : -2147483648 ≤ h ∧ h < 2147483648) (h_mk : -2147483648 ≤ mk ∧ mk < 2147483648) (hn5 : 0 ≤ σ 5 0 ∧ σ 5 0 ≤ 1000) (hn11 : 0 ≤ σ 11 0 ∧ σ 11 0 ≤ 1000) (hn23 : 0 ≤ σ 23 0 ∧ σ 23 0 ≤ 1000) (hn27 : 0 ≤ σ 27 0 ∧ σ 27 0 ≤ 1000) (hn45 : 0 ≤ σ 45 0 ∧ σ 45 0 ≤ 600) (hlg : σ 58 0 = 0 ∧ σ 59 0 = 0) (hRf : cRefs σ) (hmc : ∀ L, 0 ≤ σ 57 L ∧ σ 57 L ≤ 1000000) (hcp : ∀ L, cLive la σ 11 L → la 19 L ≤ 1000) (hn23b : σ 23 0 ≤ 120) (hm18 : ∀ b, 0 ≤ σ 18 b ∧ σ 18 b ≤ 8) (hm22 : ∀ b, 0 ≤ σ 22 b ∧ σ 22 b ≤ 20) (hop : 0 ≤ σ 1 0 ∧ σ 1 0 ≤ 699) (hz15 : σ 15 (σ 23 0) = 0) (hz22 : ∀ j, σ 23 0 ≤ j → σ 22 j = 0) : CT l yX10_bin wsX10_bin ({ frames := 8, cells := 24, slots := 2100, locals := 256 } : Room) D cy d0 A [.ref (la 0 0), .int (iI kd), .int (iI h), .int (iI mk)] la σ ((if binC σ kd h = 1 then 1 else (if binC σ kd h = 2 then 2 else (if binC σ kd h = 3 then 3 else 0)))) (fun v' la' τ => v' = some (.int (iI (σ 23 0))) ∧ (la' 0 0 = la 0 0 ∧ ∀ L, cLive la' τ 11 L → la' 19 L ≤ 1000) ∧ τ = binT σ kd h mk) 24 2100 := by
  refine ct_of (cc := cX10_bin) (nL := 6) (ret := (some .int)) (by decide) rfl (Nat.le_of_ble_eq_true rfl) ?_
  intro p e s m args below meth c ls E hout hr hlk hK hC hS hl
  have B := E.1
  have hml := E.2.1
  have hown := E.2.2.1
  have hts0 := E.2.2.2.1
  have hts := E.2.2.2.1
  have hw := hC.2.2.2.2.2.1
  have hA := hK.2.2.2.2.2.2.1
  have tail3 : ∀ (H : Heap) (locs : List Loc) (ls : Array Slot) (la2 : Nat → Int → Nat) (σ2 : MS) (b : Int) (hn5 : 0 ≤ σ2 5 0 ∧ σ2 5 0 ≤ 1000) (hn11 : 0 ≤ σ2 11 0 ∧ σ2 11 0 ≤ 1000) (hn23 : 0 ≤ σ2 23 0 ∧ σ2 23 0 ≤ 600) (hn27 : 0 ≤ σ2 27 0 ∧ σ2 27 0 ≤ 1000) (hn45 : 0 ≤ σ2 45 0 ∧ σ2 45 0 ≤ 600) (hRf : cRefs σ2) (hmc : ∀ L, 0 ≤ σ2 57 L ∧ σ2 57 L ≤ 1000000) (hcp : ∀ L, cLive la2 σ2 11 L → la2 19 L ≤ 1000) (hlag : σ2 59 0 = 1) (hb9 : b = σ2 23 0 - 1 ∧ 0 ≤ b) (hbo : b = σ 23 0) (hla0 : la2 0 0 = la 0 0) (hc0 : binC σ kd h = 0) (hfin : binL σ2 = binT σ kd h mk), CP D cy d0 A la2 σ2 H → va_S A s.heap H locs → lv_has ls 6 [(0, .ref (la2 0 0)), (5, .ref (la2 6 b))] → W p l e ({ frames := 8, cells := 24, slots := 2100, locals := 256 } : Room) s m args below meth c H locs 22 1090 (vx_MQ below (cQ D cy d0 A (fun v la' τ => (((if binC σ kd h = 1 then 1 else (if binC σ kd h = 2 then 2 else (if binC σ kd h = 3 then 3 else 0))) : Int)) = 0 ∧ (fun v' la' τ => v' = some (.int (iI (σ 23 0))) ∧ (la' 0 0 = la 0 0 ∧ ∀ L, cLive la' τ 11 L → la' 19 L ≤ 1000) ∧ τ = binT σ kd h mk) v la' τ)) (cXX D cy d0 A ((if binC σ kd h = 1 then 1 else (if binC σ kd h = 2 then 2 else (if binC σ kd h = 3 then 3 else 0)))) la σ) args s 24 2100 A) (F0 m 79 ls []) := by
    intro H0 locs ls la σ b hn5 hn11 hn23 hn27 hn45 hRf hmc hcp hlag hb9 hbo hla0 hc0 hfin hC hS hl
    have hw := hC.2.2.2.2.2.1
    obtain ⟨M, hMe⟩ : ∃ z, z = H0.size := ⟨_, rfl⟩
    have hMl : ∀ κ i, κ ≤ 18 → cLive la σ κ i → la κ i < M := fun κ i a b => by rw [hMe]; exact hC.lt a b
    have hAM : ∀ q, M ≤ q → A q := fun q h => hA q (by have := hS.1; omega)
    refine x_aload_n B hl dX10_bin_79 rfl ?_
    refine co_getR (x := la 11 2) E hC 0 (by decide) cl_0 rfl (fun z h => List.mem_cons_of_mem _ (List.mem_append_left _ (List.mem_append_left _ (List.mem_append_left _ (List.mem_append_left _ (List.mem_append_left _ (List.mem_append_left _ (List.mem_append_right _ h)))))))) 2 (by decide) (hts (.fieldLink RX10 19 "BinRounds" "bins" "Ljava/util/ArrayList;") (by decide +kernel)) (fun x hx => hx) dX10_bin_80 rfl rfl ?_
    refine x_aload B hl dX10_bin_83 rfl ?_
    have hlb6 : cLive la σ 6 b := cl_6 ⟨by omega, by omega⟩
    obtain ⟨f85, l85a, l85b, l85c, l85d⟩ := hC.lst (L := 2) (n := (σ 23 0 - 1)) ((cl_11 (by omega))) (show σ 23 0 - σ 59 0 = σ 23 0 - 1 by omega)
    have hcl85 := (show cLive la σ 11 2 from cl_11 (by omega))
    have hel85 : ∀ j : Nat, (j : Int) < (σ 23 0 - 1) → ∀ y, f85 j = some y → y = la 6 ((j : Int)) ∧ cLive la σ 6 ((j : Int)) := fun j hj y hy => by
      rw [l85d j hj] at hy
      refine ⟨(Option.some.inj hy).symm.trans (rfl), ?_⟩
      exact cl_6 ⟨by omega, by omega⟩
    refine cb_callV (A' := (fun z => z = la 11 2 ∨ (0 < la 19 2 ∧ z = la 18 2) ∨ H0.size ≤ z)) E hK hS hl (fun z h => h.elim (fun h => h ▸ hC.2.2.2.2.1 11 2 (by decide) hcl85) (fun h => h.elim (fun h => h.2 ▸ hC.2.2.2.2.1 18 2 (by decide) ⟨hcl85, h.1⟩) (fun h => hA z (by have := hS.1; omega)))) (fun z h => Or.inr (Or.inr h)) (obRecv hK l85a rfl) (l_add l D cy d0 (fun z => z = la 11 2 ∨ (0 < la 19 2 ∧ z = la 18 2) ∨ H0.size ≤ z) (a := la 11 2) (r := la 18 2) (cap := la 19 2) (x := (la 6 b)) (mm := σ 57 2) (n := (σ 23 0 - 1)) (f := f85) (show vwCl[1]? = some (RX0, TX0, 7) from rfl) (fun U h => h.2.2.2.2.2.1) (hcp 2 hcl85) (Or.inl rfl) (fun h => Or.inr (Or.inl ⟨h, rfl⟩)) (fun h z => by have h9 := hC.2.2.2.1 11 18 2 2 (by decide) (by decide) hcl85 ⟨hcl85, h⟩ z; omega) ⟨by omega, l85c⟩ (by omega) (fun z => by have h9 := hC.2.2.2.1 6 11 b 2 (by decide) (by decide) hlb6 hcl85 z; omega) (fun j hj y hy z => by
      have h8 := hel85 j hj y hy
      have h9 := hC.2.2.2.1 6 11 _ 2 (by decide) (by decide) h8.2 hcl85 (h8.1.symm.trans z)
      omega)) ⟨l85a, l85b, fun j hj y hy => elC_at (hel85 j hj y hy).1 ⟨_, hC.1 6 _ (by decide) (hel85 j hj y hy).2⟩, ⟨_, hC.1 6 b (by decide) hlb6⟩⟩ (cwV 1 hts0 gX10_bin_Jx4a65c_add_9ea2d rfl rfl rfl (by decide +kernel) ⟨Nat.le_of_ble_eq_true rfl, Nat.le_of_ble_eq_true rfl⟩) rfl rfl (Nat.le_of_ble_eq_true rfl) dX10_bin_85 ⟨Nat.le_of_ble_eq_true rfl, Nat.le_of_ble_eq_true rfl⟩ (fun H1 locs v hv z85 o85 hS => ?_)
    obtain ⟨rfl, hps85⟩ := hv
    refine x_pop B dX10_bin_88 rfl ?_
    obtain ⟨r9, c9, hC9, hc9, hfr9⟩ := g_bins hC hMl hAM hn5 hn11 ⟨hn23.1, by omega⟩ hn27 hn45 hRf (by omega) hmc hlag (by omega) (show la 6 (σ 23 0 - 1) = la 6 b by rw [hb9.1]) hps85 (fun j hj => l85d j hj)
    obtain ⟨lb, hlb⟩ : ∃ z, z = lup (lup la 18 2 r9) 19 2 c9 := ⟨_, rfl⟩
    rw [← hlb] at hC9
    obtain ⟨σ1, hσ1⟩ : ∃ z, z = binL σ := ⟨_, rfl⟩
    rw [show (up (up σ 59 0 0) 57 2 (σ 57 2 + 1)) = σ1 from hσ1.symm] at hC9
    have e23 : σ1 23 0 = σ 23 0 := by rw [hσ1]; unfold binL; rw [up_f (by decide), up_f (by decide)]
    refine x_aload B hl dX10_bin_89 rfl ?_
    have hT91 : t_OB (la 6 b) (D.1 (cCi 6)) (cN 6) (D.2 (cCi 6)) H1 (cV lb σ1 6 b) := by
      have h9 := hC9.1 6 b (by decide) (show 0 ≤ b ∧ b < σ1 23 0 by rw [e23]; exact ⟨by omega, by omega⟩)
      rw [show lb 6 b = la 6 b by rw [hlb, lup_k (by decide), lup_k (by decide)]] at h9
      exact h9
    refine ob_get (ci := 1) (C := RX0) (T := TX0) (N := 7) E hT91 rfl (fun z h => List.mem_cons_of_mem _ (List.mem_append_left _ (List.mem_append_left _ (List.mem_append_left _ (List.mem_append_left _ (List.mem_append_left _ (List.mem_append_right _ h))))))) 0 (by decide) (hts (.fieldLink RX10 133 "BinRounds$Bin" "number" "I") (by decide +kernel)) (fun x hx => hx) dX10_bin_91 (show Value.int (iI b) = .int (iI b) from rfl) ?_
    refine w_widen (Nat.le_of_ble_eq_true rfl) (Nat.le_of_ble_eq_true rfl) (vx_ret (co_iret E hr rfl hlk hC9 hS dX10_bin_94 ⟨by rw [hc0]; rfl, congrArg (fun z => some (Value.int (iI z))) hbo, ⟨by rw [hlb, lup_k (by decide), lup_k (by decide)]; exact hla0, fun L hL => ?_⟩, hσ1.trans hfin⟩))
    by_cases hL1 : L = 2
    · subst hL1; rw [hlb, lup_s]; omega
    · rw [hlb, lup_o hL1, lup_k (by decide)]
      refine hcp L ?_
      have h2 : 0 ≤ L ∧ L < 5 + 2 * σ1 23 0 := hL
      rw [e23] at h2
      exact h2
  have tail2 : ∀ (H : Heap) (locs : List Loc) (ls : Array Slot) (la2 : Nat → Int → Nat) (σ2 : MS) (b : Int) (hn5 : 0 ≤ σ2 5 0 ∧ σ2 5 0 ≤ 1000) (hn11 : 0 ≤ σ2 11 0 ∧ σ2 11 0 ≤ 1000) (hn23 : 0 ≤ σ2 23 0 ∧ σ2 23 0 ≤ 600) (hn27 : 0 ≤ σ2 27 0 ∧ σ2 27 0 ≤ 1000) (hn45 : 0 ≤ σ2 45 0 ∧ σ2 45 0 ≤ 600) (hRf : cRefs σ2) (hmc : ∀ L, 0 ≤ σ2 57 L ∧ σ2 57 L ≤ 1000000) (hcp : ∀ L, cLive la2 σ2 11 L → la2 19 L ≤ 1000) (hlag : σ2 59 0 = 1) (hb9 : b = σ2 23 0 - 1 ∧ 0 ≤ b) (hbo : b = σ 23 0) (hla0 : la2 0 0 = la 0 0) (hc0 : binC σ kd h = 0) (hh1 : 0 ≤ h ∧ h < σ2 11 0) (h18 : σ2 18 b = 0) (h57 : σ2 57 (5 + 2 * b) = 0) (hz18 : ∀ b, 0 ≤ σ2 18 b ∧ σ2 18 b ≤ 8) (hz22 : ∀ b, 0 ≤ σ2 22 b ∧ σ2 22 b ≤ 20) (ho1 : 0 ≤ σ2 1 0 ∧ σ2 1 0 ≤ 699) (hfin : binL (binM σ2 h b) = binT σ kd h mk), CP D cy d0 A la2 σ2 H → va_S A s.heap H locs → lv_has ls 6 [(0, .ref (la2 0 0)), (4, .ref (la2 5 h)), (5, .ref (la2 6 b))] → W p l e ({ frames := 8, cells := 24, slots := 2100, locals := 256 } : Room) s m args below meth c H locs 19 80 (vx_MQ below (cQ D cy d0 A (fun v la' τ => (((if binC σ kd h = 1 then 1 else (if binC σ kd h = 2 then 2 else (if binC σ kd h = 3 then 3 else 0))) : Int)) = 0 ∧ (fun v' la' τ => v' = some (.int (iI (σ 23 0))) ∧ (la' 0 0 = la 0 0 ∧ ∀ L, cLive la' τ 11 L → la' 19 L ≤ 1000) ∧ τ = binT σ kd h mk) v la' τ)) (cXX D cy d0 A ((if binC σ kd h = 1 then 1 else (if binC σ kd h = 2 then 2 else (if binC σ kd h = 3 then 3 else 0)))) la σ) args s 24 2100 A) (F0 m 57 ls []) := by
    intro H0 locs ls la σ b hn5 hn11 hn23 hn27 hn45 hRf hmc hcp hlag hb9 hbo hla0 hc0 hh1 h18 h57 hz18 hz22 ho1 hfin hC hS hl
    have hw := hC.2.2.2.2.2.1
    have hb1 : 0 ≤ b ∧ b < σ 23 0 := ⟨hb9.2, by omega⟩
    have hcb := hb9.2
    refine x_aload B hl dX10_bin_57 rfl ?_
    refine co_getR (x := la 11 (5 + 2 * b)) E hC 6 (by decide) (cl_6 hb1) rfl (fun z h => List.mem_cons_of_mem _ (List.mem_append_left _ (List.mem_append_left _ (List.mem_append_left _ (List.mem_append_left _ (List.mem_append_left _ (List.mem_append_right _ h))))))) 2 (by decide) (hts (.fieldLink RX10 125 "BinRounds$Bin" "moves" "Ljava/util/ArrayList;") (by decide +kernel)) (fun x hx => hx) dX10_bin_59 rfl rfl ?_
    obtain ⟨M, hMe⟩ : ∃ z, z = H0.size := ⟨_, rfl⟩
    have hMl : ∀ κ i, κ ≤ 18 → cLive la σ κ i → la κ i < M := fun κ i a b => by rw [hMe]; exact hC.lt a b
    have hAM : ∀ q, M ≤ q → A q := fun q h => hA q (by have := hS.1; omega)
    refine ob_new (ci := 6) (C := RX5) (T := TX5) E hS rfl (fun z h => List.mem_cons_of_mem _ (List.mem_append_left _ (List.mem_append_left _ (List.mem_append_left _ (List.mem_append_left _ (List.mem_append_right _ h)))))) tyX5_ok (hts (.classLink RX10 128 RX5) (by decide +kernel)) (hts (.instantiable RX5 2) (by decide +kernel)) (hts (.initialized RX5) (by decide +kernel)) (Nat.le_of_ble_eq_true rfl) (Nat.le_of_ble_eq_true rfl) dX10_bin_62 (fun H1 nO o62 z62 hS => ?_)
    rw [← hMe] at nO o62 z62 ⊢
    have hC := hC.kept (fun κ i a b => o62 _ (hMl κ i a b))
    refine x_dup B dX10_bin_65 rfl ?_
    refine x_aload B hl dX10_bin_66 rfl ?_
    refine x_aload_n B hl dX10_bin_68 rfl ?_
    refine co_geti (f := 1) E hC 0 (by decide) cl_0 rfl (fun z h => List.mem_cons_of_mem _ (List.mem_append_left _ (List.mem_append_left _ (List.mem_append_left _ (List.mem_append_left _ (List.mem_append_left _ (List.mem_append_left _ (List.mem_append_right _ h)))))))) 8 (by decide) (hts (.fieldLink RX10 49 "BinRounds" "open" "I") (by decide +kernel)) (fun x hx => hx) dX10_bin_69 ⟨rfl, rfl, rfl⟩ rfl (fun r_69 => ?_)
    refine cb_callI (A' := fun z => z = M ∨ H1.size ≤ z) (av := [.ref (la 5 h), .int (iI (σ 1 0))]) E hK hS hl (fun z h => h.elim (fun h => hAM z (by omega)) (fun h => hA z (by have := hS.1; omega))) (fun z h => Or.inr h) (k_Move l D cy d0 _ (q := M) (Or.inl rfl)) nO (cwI 2 hts0 gX10_bin_X5_init rfl rfl rfl (hts (.initialized RX5) (by decide +kernel)) (hts (.methodLink RX10 130 yX5_init) (by decide +kernel)) (hts (.instanceMethod yX5_init) (by decide +kernel)) rfl (by decide +kernel) ⟨Nat.le_of_ble_eq_true rfl, Nat.le_of_ble_eq_true rfl⟩) rfl rfl (Nat.le_of_ble_eq_true rfl) dX10_bin_72 ⟨Nat.le_of_ble_eq_true rfl, Nat.le_of_ble_eq_true rfl⟩ (fun H2 locs v hv z72 o72 hS => ?_)
    obtain ⟨rfl, nO⟩ := hv
    have hC := hC.kept (fun κ i a b => o72 _ (by have := hMl κ i a b; omega) (fun z => z.elim (fun e => by have := hMl κ i a b; omega) (fun e => by have := hMl κ i a b; omega)))
    obtain ⟨f75, l75a, l75b, l75c, l75d⟩ := hC.lst (L := (5 + 2 * b)) (n := (σ 18 b)) ((cl_11 (by omega))) (cSz_m hb1.1)
    have hcl75 := (show cLive la σ 11 (5 + 2 * b) from cl_11 (by omega))
    have hel75 : ∀ j : Nat, (j : Int) < (σ 18 b) → ∀ y, f75 j = some y → y = la 7 (8 * b + (j : Int)) ∧ cLive la σ 7 (8 * b + (j : Int)) := fun j hj y hy => by
      rw [l75d j hj] at hy
      refine ⟨(Option.some.inj hy).symm.trans (cEl_m hcb _), ?_⟩
      exact cl_7b hb1 ⟨by omega, by omega⟩ (by omega)
    refine cb_callV (A' := (fun z => z = la 11 (5 + 2 * b) ∨ (0 < la 19 (5 + 2 * b) ∧ z = la 18 (5 + 2 * b)) ∨ H2.size ≤ z)) E hK hS hl (fun z h => h.elim (fun h => h ▸ hC.2.2.2.2.1 11 (5 + 2 * b) (by decide) hcl75) (fun h => h.elim (fun h => h.2 ▸ hC.2.2.2.2.1 18 (5 + 2 * b) (by decide) ⟨hcl75, h.1⟩) (fun h => hA z (by have := hS.1; omega)))) (fun z h => Or.inr (Or.inr h)) (obRecv hK l75a rfl) (l_add l D cy d0 (fun z => z = la 11 (5 + 2 * b) ∨ (0 < la 19 (5 + 2 * b) ∧ z = la 18 (5 + 2 * b)) ∨ H2.size ≤ z) (a := la 11 (5 + 2 * b)) (r := la 18 (5 + 2 * b)) (cap := la 19 (5 + 2 * b)) (x := M) (mm := σ 57 (5 + 2 * b)) (n := (σ 18 b)) (f := f75) (show vwCl[6]? = some (RX5, TX5, 2) from rfl) (fun U h => h.2.2.2.2.2.2.1) (hcp (5 + 2 * b) hcl75) (Or.inl rfl) (fun h => Or.inr (Or.inl ⟨h, rfl⟩)) (fun h z => by have h9 := hC.2.2.2.1 11 18 (5 + 2 * b) (5 + 2 * b) (by decide) (by decide) hcl75 ⟨hcl75, h⟩ z; omega) ⟨by omega, l75c⟩ (by omega) (fun z => by have := hMl 11 (5 + 2 * b) (by decide) hcl75; omega) (fun j hj y hy z => by
      have h8 := hel75 j hj y hy
      have h9 := hC.2.2.2.1 7 11 _ (5 + 2 * b) (by decide) (by decide) h8.2 hcl75 (h8.1.symm.trans z)
      omega)) ⟨l75a, l75b, fun j hj y hy => elC_at (hel75 j hj y hy).1 ⟨_, hC.1 7 _ (by decide) (hel75 j hj y hy).2⟩, ⟨_, nO⟩⟩ (cwV 1 hts0 gX10_bin_Jx4a65c_add_9ea2d rfl rfl rfl (by decide +kernel) ⟨Nat.le_of_ble_eq_true rfl, Nat.le_of_ble_eq_true rfl⟩) rfl rfl (Nat.le_of_ble_eq_true rfl) dX10_bin_75 ⟨Nat.le_of_ble_eq_true rfl, Nat.le_of_ble_eq_true rfl⟩ (fun H3 locs v hv z75 o75 hS => ?_)
    obtain ⟨rfl, hps75⟩ := hv
    refine x_pop B dX10_bin_78 rfl ?_
    obtain ⟨r9, c9, hC9, hc9, hfr9⟩ := g_mv hC hMl hAM hn5 hn11 ⟨hn23.1, by omega⟩ hn27 hn45 hRf (by omega) hmc hb1 hh1 (by omega) ho1 hz18 hz22 ⟨by omega, by omega⟩ nO hps75 (fun j hj => l75d j hj)
    obtain ⟨lb, hlb⟩ : ∃ z, z = lup (lup (lup la 7 (8 * b + σ 18 b) M) 18 (5 + 2 * b) r9) 19 (5 + 2 * b) c9 := ⟨_, rfl⟩
    rw [← hlb] at hC9
    obtain ⟨σ1, hσ1⟩ : ∃ z, z = binM σ h b := ⟨_, rfl⟩
    rw [show (up (up (up (up σ 16 (8 * b + σ 18 b) h) 17 (8 * b + σ 18 b) (σ 1 0)) 18 b (σ 18 b + 1)) 57 (5 + 2 * b) (σ 57 (5 + 2 * b) + 1)) = σ1 from hσ1.symm] at hC9
    have e : ∀ f j, f ≠ 16 → f ≠ 17 → f ≠ 18 → f ≠ 57 → σ1 f j = σ f j := fun f j b1 b2 b3 b4 => by
      rw [hσ1]; unfold binM
      rw [up_f b4, up_f b3, up_f b2, up_f b1]
    have q0 : lb 0 0 = la 0 0 := by rw [hlb, lup_k (by decide), lup_k (by decide), lup_k (by decide)]
    have q6 : lb 6 b = la 6 b := by rw [hlb, lup_k (by decide), lup_k (by decide), lup_k (by decide)]
    have hl9 := lv_key hl [(0, .ref (la 0 0)), (5, .ref (la 6 b))] rfl
    rw [← q0, ← q6] at hl9
    have e5 := e 5 0 (by decide) (by decide) (by decide) (by decide)
    have e11 := e 11 0 (by decide) (by decide) (by decide) (by decide)
    have e23 := e 23 0 (by decide) (by decide) (by decide) (by decide)
    have e27 := e 27 0 (by decide) (by decide) (by decide) (by decide)
    have e45 := e 45 0 (by decide) (by decide) (by decide) (by decide)
    have e59 := e 59 0 (by decide) (by decide) (by decide) (by decide)
    refine w_widen (Nat.le_of_ble_eq_true rfl) (Nat.le_of_ble_eq_true rfl) (tail3 _ _ ls lb σ1 b (by rw [e5]; exact hn5) (by rw [e11]; exact hn11) (by rw [e23]; exact hn23) (by rw [e27]; exact hn27) (by rw [e45]; exact hn45) (by rw [hσ1]; exact cRefs_binM (by omega) hh1 hRf) (fun L => ?_) (fun L hL => ?_) (by rw [e59]; exact hlag) (by rw [e23]; exact hb9) hbo (q0.trans hla0) hc0 (by rw [hσ1]; exact hfin) hC9 hS hl9)
    · rw [hσ1]; unfold binM
      have h9 := hmc L
      by_cases hL1 : L = 5 + 2 * b
      · subst hL1; rw [up_s]; omega
      · rw [up_o hL1, up_f (by decide), up_f (by decide), up_f (by decide)]; exact h9
    · by_cases hL1 : L = 5 + 2 * b
      · subst hL1; rw [hlb, lup_s]; omega
      · rw [hlb, lup_o hL1, lup_k (by decide), lup_k (by decide)]
        refine hcp L ?_
        have h2 : 0 ≤ L ∧ L < 5 + 2 * σ1 23 0 := hL
        rw [e23] at h2
        exact h2
  have tail : ∀ (H : Heap) (locs : List Loc) (ls : Array Slot) (hh1 : 0 ≤ h ∧ h < σ 11 0) (hkd : 0 ≤ kd ∧ kd ≤ 4) (hn120 : σ 23 0 < 120) (hc0 : binC σ kd h = 0), CP D cy d0 A la σ H → va_S A s.heap H locs → lv_has ls 6 [(0, .ref (la 0 0)), (1, .int (iI kd)), (3, .int (iI mk)), (4, .ref (la 5 h))] → W p l e ({ frames := 8, cells := 24, slots := 2100, locals := 256 } : Room) s m args below meth c H locs 16 64 (vx_MQ below (cQ D cy d0 A (fun v la' τ => (((if binC σ kd h = 1 then 1 else (if binC σ kd h = 2 then 2 else (if binC σ kd h = 3 then 3 else 0))) : Int)) = 0 ∧ (fun v' la' τ => v' = some (.int (iI (σ 23 0))) ∧ (la' 0 0 = la 0 0 ∧ ∀ L, cLive la' τ 11 L → la' 19 L ≤ 1000) ∧ τ = binT σ kd h mk) v la' τ)) (cXX D cy d0 A ((if binC σ kd h = 1 then 1 else (if binC σ kd h = 2 then 2 else (if binC σ kd h = 3 then 3 else 0)))) la σ) args s 24 2100 A) (F0 m 39 ls []) := by
    intro H0 locs ls hh1 hkd hn120 hc0 hC hS hl
    obtain ⟨M, hMe⟩ : ∃ z, z = H0.size := ⟨_, rfl⟩
    have hMl : ∀ κ i, κ ≤ 18 → cLive la σ κ i → la κ i < M := fun κ i a b => by rw [hMe]; exact hC.lt a b
    have hAM : ∀ q, M ≤ q → A q := fun q h => hA q (by have := hS.1; omega)
    refine ob_new (ci := 1) (C := RX0) (T := TX0) E hS rfl (fun z h => List.mem_cons_of_mem _ (List.mem_append_left _ (List.mem_append_left _ (List.mem_append_left _ (List.mem_append_left _ (List.mem_append_left _ (List.mem_append_right _ h))))))) tyX0_ok (hts (.classLink RX10 121 RX0) (by decide +kernel)) (hts (.instantiable RX0 7) (by decide +kernel)) (hts (.initialized RX0) (by decide +kernel)) (Nat.le_of_ble_eq_true rfl) (Nat.le_of_ble_eq_true rfl) dX10_bin_39 (fun H39 nO o39 z39 hS => ?_)
    rw [← hMe] at nO o39 z39 ⊢
    have hC := hC.kept (fun κ i a b => o39 _ (hMl κ i a b))
    refine x_dup B dX10_bin_42 rfl ?_
    refine x_aload_n B hl dX10_bin_43 rfl ?_
    refine co_getR (x := la 11 2) E hC 0 (by decide) cl_0 rfl (fun z h => List.mem_cons_of_mem _ (List.mem_append_left _ (List.mem_append_left _ (List.mem_append_left _ (List.mem_append_left _ (List.mem_append_left _ (List.mem_append_left _ (List.mem_append_right _ h)))))))) 2 (by decide) (hts (.fieldLink RX10 19 "BinRounds" "bins" "Ljava/util/ArrayList;") (by decide +kernel)) (fun x hx => hx) dX10_bin_44 rfl rfl ?_
    refine co_callA (q := M) E hK hC hS hl (κ := 11) (i := 2) (by decide) (cl_11 (by omega)) rfl (fun κ i a b => by have := hMl κ i a b; omega) (by omega) (c_size l D cy d0 _ la σ (L := 2) (n := (σ 23 0)) (cl_11 (by omega)) (cSz_2 hlg.2)) (cwV 0 hts0 gX10_bin_Jx4a65c_size_8abf5 rfl rfl rfl (by decide +kernel) ⟨Nat.le_of_ble_eq_true rfl, Nat.le_of_ble_eq_true rfl⟩) rfl rfl (Nat.le_of_ble_eq_true rfl) dX10_bin_47 ⟨Nat.le_of_ble_eq_true rfl, Nat.le_of_ble_eq_true rfl⟩ (fun H47 locs v la9 σ9 hv hC hS z47 k47 => ?_)
    obtain ⟨hv1, hv2, hv3, -⟩ := hv
    subst hv1
    rw [hv2, hv3] at hC
    have nO := nO.kept k47
    refine x_iload_n B hl dX10_bin_50 rfl ?_
    refine x_iload_n B hl dX10_bin_51 rfl ?_
    refine cb_callI (A' := fun z => z = M ∨ H47.size ≤ z) (av := [.int (iI (σ 23 0)), .int (iI kd), .int (iI mk)]) E hK hS hl (fun z h => h.elim (fun h => hAM z (by omega)) (fun h => hA z (by have := hS.1; omega))) (fun z h => Or.inr h) (k_Bin l D cy d0 _ (q := M) (Or.inl rfl)) nO (cwI 3 hts0 gX10_bin_X0_init rfl rfl rfl (hts (.initialized RX0) (by decide +kernel)) (hts (.methodLink RX10 123 yX0_init) (by decide +kernel)) (hts (.instanceMethod yX0_init) (by decide +kernel)) rfl (by decide +kernel) ⟨Nat.le_of_ble_eq_true rfl, Nat.le_of_ble_eq_true rfl⟩) rfl rfl (Nat.le_of_ble_eq_true rfl) dX10_bin_52 ⟨Nat.le_of_ble_eq_true rfl, Nat.le_of_ble_eq_true rfl⟩ (fun H52 locs v hv z52 o52 hS => ?_)
    obtain ⟨rfl, r1, r2, ⟨b1, b2, b3⟩, ⟨n1, n2⟩, nO⟩ := hv
    have hC := hC.kept (fun κ i a b => o52 _ (by have := hMl κ i a b; omega) (fun z => z.elim (fun e => by have := hMl κ i a b; omega) (fun e => by have := hMl κ i a b; omega)))
    refine x_astore B hl dX10_bin_55 (by decide) (fun ls hl => ?_)
    have hCA := g_binA hC hMl hAM hn5 hn11 hn23 hn27 hn45 hRf hlg hkd h_mk hz15 (hz22 _ (by omega)) nO n1 n2 ⟨by omega, by omega⟩
    obtain ⟨lb, hlb⟩ : ∃ z, z = (lup (lup (lup (lup (lup (lup (lup la 6 (σ 23 0) M) 11 (5 + 2 * σ 23 0) r1) 11 (6 + 2 * σ 23 0) r2) 18 (5 + 2 * σ 23 0) d0) 19 (5 + 2 * σ 23 0) 0) 18 (6 + 2 * σ 23 0) d0) 19 (6 + 2 * σ 23 0) 0) := ⟨_, rfl⟩
    rw [← hlb] at hCA
    obtain ⟨σ1, hσ1⟩ : ∃ z, z = binA σ kd mk := ⟨_, rfl⟩
    rw [show (up (up (up (up (up (up (up (up σ 12 (σ 23 0) kd) 13 (σ 23 0) 1) 14 (σ 23 0) mk) 18 (σ 23 0) 0) 57 (5 + 2 * σ 23 0) 0) 57 (6 + 2 * σ 23 0) 0) 59 0 1) 23 0 (σ 23 0 + 1)) = σ1 from hσ1.symm] at hCA
    have e : ∀ f j, f ≠ 12 → f ≠ 13 → f ≠ 14 → f ≠ 18 → f ≠ 57 → f ≠ 59 → f ≠ 23 → σ1 f j = σ f j := fun f j b1 b2 b3 b4 b5 b6 b7 => by
      rw [hσ1]; unfold binA
      rw [up_f b7, up_f b6, up_f b5, up_f b5, up_f b4, up_f b3, up_f b2, up_f b1]
    have e1 := e 1 0 (by decide) (by decide) (by decide) (by decide) (by decide) (by decide) (by decide)
    have e5 := e 5 0 (by decide) (by decide) (by decide) (by decide) (by decide) (by decide) (by decide)
    have e11 := e 11 0 (by decide) (by decide) (by decide) (by decide) (by decide) (by decide) (by decide)
    have e27 := e 27 0 (by decide) (by decide) (by decide) (by decide) (by decide) (by decide) (by decide)
    have e45 := e 45 0 (by decide) (by decide) (by decide) (by decide) (by decide) (by decide) (by decide)
    have e22 : ∀ j, σ1 22 j = σ 22 j := fun j => e 22 j (by decide) (by decide) (by decide) (by decide) (by decide) (by decide) (by decide)
    have e23 : σ1 23 0 = σ 23 0 + 1 := by rw [hσ1]; exact up_s
    have e59 : σ1 59 0 = 1 := by rw [hσ1]; unfold binA; rw [up_f (by decide)]; exact up_s
    have e18 : ∀ j, σ1 18 j = if j = σ 23 0 then 0 else σ 18 j := fun j => by rw [hσ1]; unfold binA; simp [up_rd]
    have e57 : ∀ j, σ1 57 j = if j = 6 + 2 * σ 23 0 then 0 else if j = 5 + 2 * σ 23 0 then 0 else σ 57 j := fun j => by rw [hσ1]; unfold binA; simp [up_rd]
    have q0 : lb 0 0 = la 0 0 := by rw [hlb, lup_k (by decide), lup_k (by decide), lup_k (by decide), lup_k (by decide), lup_k (by decide), lup_k (by decide), lup_k (by decide)]
    have q5 : lb 5 h = la 5 h := by rw [hlb, lup_k (by decide), lup_k (by decide), lup_k (by decide), lup_k (by decide), lup_k (by decide), lup_k (by decide), lup_k (by decide)]
    have q6 : lb 6 (σ 23 0) = M := by rw [hlb, lup_k (by decide), lup_k (by decide), lup_k (by decide), lup_k (by decide), lup_k (by decide), lup_k (by decide)]; exact lup_s
    have hl9 := lv_key hl [(0, .ref (la 0 0)), (4, .ref (la 5 h)), (5, .ref M)] rfl
    rw [← q0, ← q5, ← q6] at hl9
    refine w_widen (Nat.le_of_ble_eq_true rfl) (Nat.le_of_ble_eq_true rfl) (tail2 _ _ ls lb σ1 (σ 23 0) (by rw [e5]; exact hn5) (by rw [e11]; exact hn11) (by rw [e23]; omega) (by rw [e27]; exact hn27) (by rw [e45]; exact hn45) (by rw [hσ1]; exact cRefs_binA hn23.1 (hz22 _ (by omega)) hRf) (fun L => ?_) (fun L hL => ?_) e59 (by rw [e23]; omega) rfl q0 hc0 (by rw [e11]; exact hh1) (by rw [e18, if_pos rfl]) (by rw [e57, if_neg (by omega), if_pos rfl]) (fun j => ?_) (fun j => by rw [e22]; exact hm22 j) (by rw [e1]; exact hop) (by rw [hσ1]; rfl) hCA hS hl9)
    · rw [e57]; have h9 := hmc L; split <;> (try split) <;> omega
    · have h2 : 0 ≤ L ∧ L < 5 + 2 * σ1 23 0 := hL
      rw [e23] at h2
      by_cases hL6 : L = 6 + 2 * σ 23 0
      · subst hL6; rw [hlb, lup_s]; omega
      · rw [hlb, lup_o hL6, lup_k (by decide)]
        by_cases hL5 : L = 5 + 2 * σ 23 0
        · subst hL5; rw [lup_s]; omega
        · rw [lup_o hL5, lup_k (by decide), lup_k (by decide), lup_k (by decide), lup_k (by decide)]
          exact hcp L (show 0 ≤ L ∧ L < 5 + 2 * σ 23 0 by omega)
    · rw [e18]; have h9 := hm18 j; split <;> omega
  refine x_aload_n B hl dX10_bin_0 rfl ?_
  refine x_iload_n B hl dX10_bin_1 rfl ?_
  refine ctm_call E hout hlk hK hC hS hl (κ := 0) (i := 0) (by decide) cl_0 rfl (c_houseAt l hlt D cy d0 A la _ (z := h) h_h (by omega) (by omega) hlg) (cwV 1 hts0 gX10_bin_X10_houseAt rfl rfl rfl (by decide +kernel) ⟨Nat.le_of_ble_eq_true rfl, Nat.le_of_ble_eq_true rfl⟩) rfl rfl (Nat.le_of_ble_eq_true rfl) dX10_bin_2 ⟨Nat.le_of_ble_eq_true rfl, Nat.le_of_ble_eq_true rfl⟩ ⟨Nat.le_of_ble_eq_true rfl, Nat.le_of_ble_eq_true rfl⟩ (fun h => ⟨by unfold binC; omega, rfl⟩) (fun h9_2 H locs hh1 hC hS => ?_)
  refine x_astore B hl dX10_bin_5 (by decide) (fun ls hl => ?_)
  refine x_iload_n B hl dX10_bin_7 rfl ?_
  refine x_i2l B dX10_bin_8 (by omega) ?_
  refine x_lconst B dX10_bin_9 ?_
  refine lv_ldc2 (v := lI 4) B.1 B.2 hown (hts (.constantLong RX10 85 (4)) (by decide +kernel)) dX10_bin_10 ?_
  refine z_call ⟨B.1, B.2, hml, hown, hts0⟩ hl (c_isWithin l (v := kd) (a := 0) (b := 4) (by omega) (by omega) (by omega)) (va_cwS 3 hts0 gX10_bin_X10_isWithin rfl rfl rfl (by decide +kernel) ⟨Nat.le_of_ble_eq_true rfl, Nat.le_of_ble_eq_true rfl⟩) rfl rfl (Nat.le_of_ble_eq_true rfl) dX10_bin_13 ⟨Nat.le_of_ble_eq_true rfl, Nat.le_of_ble_eq_true rfl⟩ (fun q_13 => ?_)
  refine x_bool (fun b_13 => ?_) (fun b_13 => ?_)
  · refine cstm_call E hout hlk hK hC hS hl (c_require l hlt D cy d0 A la _ (z := 1) (Or.inr rfl)) (va_cwS 1 hts0 gX10_bin_X10_require rfl rfl rfl (by decide +kernel) ⟨Nat.le_of_ble_eq_true rfl, Nat.le_of_ble_eq_true rfl⟩) rfl rfl (Nat.le_of_ble_eq_true rfl) dX10_bin_16 ⟨Nat.le_of_ble_eq_true rfl, Nat.le_of_ble_eq_true rfl⟩ ⟨Nat.le_of_ble_eq_true rfl, Nat.le_of_ble_eq_true rfl⟩ (fun h => ⟨by unfold binC; omega, rfl⟩) (fun h9_16 H locs q_16 hC hS => ?_)
    refine x_aload_n B hl dX10_bin_19 rfl ?_
    refine co_getR (x := la 11 2) E hC 0 (by decide) cl_0 rfl (fun z h => List.mem_cons_of_mem _ (List.mem_append_left _ (List.mem_append_left _ (List.mem_append_left _ (List.mem_append_left _ (List.mem_append_left _ (List.mem_append_left _ (List.mem_append_right _ h)))))))) 2 (by decide) (hts (.fieldLink RX10 19 "BinRounds" "bins" "Ljava/util/ArrayList;") (by decide +kernel)) (fun x hx => hx) dX10_bin_20 rfl rfl ?_
    refine co_call E hK hC hS hl (κ := 11) (i := 2) (by decide) (cl_11 (by omega)) rfl (c_size l D cy d0 A la _ (L := 2) (n := σ 23 0) (cl_11 (by omega)) ((cSz_2 ((rfl).trans hlg.2)).trans rfl)) (cwV 0 hts0 gX10_bin_Jx4a65c_size_8abf5 rfl rfl rfl (by decide +kernel) ⟨Nat.le_of_ble_eq_true rfl, Nat.le_of_ble_eq_true rfl⟩) rfl rfl (Nat.le_of_ble_eq_true rfl) dX10_bin_23 ⟨Nat.le_of_ble_eq_true rfl, Nat.le_of_ble_eq_true rfl⟩ (fun H locs q_23 hC hS => ?_)
    refine x_bipush B dX10_bin_26 (by decide) ?_
    refine x_icmp_ge (tgt := 35) B dX10_bin_28 (by decide) (by omega) (by omega) (fun c_28 => ?_) (fun c_28 => ?_)
    · refine x_iconst B dX10_bin_35 ?_
      refine cstm_call E hout hlk hK hC hS hl (c_requireRoom l hlt D cy d0 A la _ (z := 0) (Or.inl rfl)) (va_cwS 1 hts0 gX10_bin_X10_requireRoom rfl rfl rfl (by decide +kernel) ⟨Nat.le_of_ble_eq_true rfl, Nat.le_of_ble_eq_true rfl⟩) rfl rfl (Nat.le_of_ble_eq_true rfl) dX10_bin_36 ⟨Nat.le_of_ble_eq_true rfl, Nat.le_of_ble_eq_true rfl⟩ ⟨Nat.le_of_ble_eq_true rfl, Nat.le_of_ble_eq_true rfl⟩ (fun h => ⟨by unfold binC; omega, rfl⟩) (fun h9_36 H locs q_36 hC hS => ?_)
      exact w_widen (Nat.le_of_ble_eq_true rfl) (Nat.le_of_ble_eq_true rfl) (tail _ _ ls hh1 (by omega) (by omega) (by unfold binC; rw [if_neg (by omega), if_neg (by omega), if_neg (by omega)]) hC hS (lv_key hl _ rfl))
    · refine x_iconst B dX10_bin_31 ?_
      refine x_goto (tgt := 36) B dX10_bin_32 (by decide) ?_
      refine cstm_call E hout hlk hK hC hS hl (c_requireRoom l hlt D cy d0 A la _ (z := 1) (Or.inr rfl)) (va_cwS 1 hts0 gX10_bin_X10_requireRoom rfl rfl rfl (by decide +kernel) ⟨Nat.le_of_ble_eq_true rfl, Nat.le_of_ble_eq_true rfl⟩) rfl rfl (Nat.le_of_ble_eq_true rfl) dX10_bin_36 ⟨Nat.le_of_ble_eq_true rfl, Nat.le_of_ble_eq_true rfl⟩ ⟨Nat.le_of_ble_eq_true rfl, Nat.le_of_ble_eq_true rfl⟩ (fun h => ⟨by unfold binC; omega, rfl⟩) (fun h9_36 H locs q_36 hC hS => ?_)
      exact w_widen (Nat.le_of_ble_eq_true rfl) (Nat.le_of_ble_eq_true rfl) (tail _ _ ls hh1 (by omega) (by omega) (by unfold binC; rw [if_neg (by omega), if_neg (by omega), if_neg (by omega)]) hC hS (lv_key hl _ rfl))
  · refine cstm_call E hout hlk hK hC hS hl (c_require l hlt D cy d0 A la _ (z := 0) (Or.inl rfl)) (va_cwS 1 hts0 gX10_bin_X10_require rfl rfl rfl (by decide +kernel) ⟨Nat.le_of_ble_eq_true rfl, Nat.le_of_ble_eq_true rfl⟩) rfl rfl (Nat.le_of_ble_eq_true rfl) dX10_bin_16 ⟨Nat.le_of_ble_eq_true rfl, Nat.le_of_ble_eq_true rfl⟩ ⟨Nat.le_of_ble_eq_true rfl, Nat.le_of_ble_eq_true rfl⟩ (fun h => ⟨by unfold binC; omega, rfl⟩) (fun h9_16 H locs q_16 hC hS => ?_)
    refine x_aload_n B hl dX10_bin_19 rfl ?_
    refine co_getR (x := la 11 2) E hC 0 (by decide) cl_0 rfl (fun z h => List.mem_cons_of_mem _ (List.mem_append_left _ (List.mem_append_left _ (List.mem_append_left _ (List.mem_append_left _ (List.mem_append_left _ (List.mem_append_left _ (List.mem_append_right _ h)))))))) 2 (by decide) (hts (.fieldLink RX10 19 "BinRounds" "bins" "Ljava/util/ArrayList;") (by decide +kernel)) (fun x hx => hx) dX10_bin_20 rfl rfl ?_
    refine co_call E hK hC hS hl (κ := 11) (i := 2) (by decide) (cl_11 (by omega)) rfl (c_size l D cy d0 A la _ (L := 2) (n := σ 23 0) (cl_11 (by omega)) ((cSz_2 ((rfl).trans hlg.2)).trans rfl)) (cwV 0 hts0 gX10_bin_Jx4a65c_size_8abf5 rfl rfl rfl (by decide +kernel) ⟨Nat.le_of_ble_eq_true rfl, Nat.le_of_ble_eq_true rfl⟩) rfl rfl (Nat.le_of_ble_eq_true rfl) dX10_bin_23 ⟨Nat.le_of_ble_eq_true rfl, Nat.le_of_ble_eq_true rfl⟩ (fun H locs q_23 hC hS => ?_)
    refine x_bipush B dX10_bin_26 (by decide) ?_
    refine x_icmp_ge (tgt := 35) B dX10_bin_28 (by decide) (by omega) (by omega) (fun c_28 => ?_) (fun c_28 => ?_)
    · refine x_iconst B dX10_bin_35 ?_
      refine cstm_call E hout hlk hK hC hS hl (c_requireRoom l hlt D cy d0 A la _ (z := 0) (Or.inl rfl)) (va_cwS 1 hts0 gX10_bin_X10_requireRoom rfl rfl rfl (by decide +kernel) ⟨Nat.le_of_ble_eq_true rfl, Nat.le_of_ble_eq_true rfl⟩) rfl rfl (Nat.le_of_ble_eq_true rfl) dX10_bin_36 ⟨Nat.le_of_ble_eq_true rfl, Nat.le_of_ble_eq_true rfl⟩ ⟨Nat.le_of_ble_eq_true rfl, Nat.le_of_ble_eq_true rfl⟩ (fun h => ⟨by unfold binC; omega, rfl⟩) (fun h9_36 H locs q_36 hC hS => ?_)
      exact w_widen (Nat.le_of_ble_eq_true rfl) (Nat.le_of_ble_eq_true rfl) (tail _ _ ls hh1 (by omega) (by omega) (by unfold binC; rw [if_neg (by omega), if_neg (by omega), if_neg (by omega)]) hC hS (lv_key hl _ rfl))
    · refine x_iconst B dX10_bin_31 ?_
      refine x_goto (tgt := 36) B dX10_bin_32 (by decide) ?_
      refine cstm_call E hout hlk hK hC hS hl (c_requireRoom l hlt D cy d0 A la _ (z := 1) (Or.inr rfl)) (va_cwS 1 hts0 gX10_bin_X10_requireRoom rfl rfl rfl (by decide +kernel) ⟨Nat.le_of_ble_eq_true rfl, Nat.le_of_ble_eq_true rfl⟩) rfl rfl (Nat.le_of_ble_eq_true rfl) dX10_bin_36 ⟨Nat.le_of_ble_eq_true rfl, Nat.le_of_ble_eq_true rfl⟩ ⟨Nat.le_of_ble_eq_true rfl, Nat.le_of_ble_eq_true rfl⟩ (fun h => ⟨by unfold binC; omega, rfl⟩) (fun h9_36 H locs q_36 hC hS => ?_)
      exact w_widen (Nat.le_of_ble_eq_true rfl) (Nat.le_of_ble_eq_true rfl) (tail _ _ ls hh1 (by omega) (by omega) (by unfold binC; rw [if_neg (by omega), if_neg (by omega), if_neg (by omega)]) hC hS (lv_key hl _ rfl))
