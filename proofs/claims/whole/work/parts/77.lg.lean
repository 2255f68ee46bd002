set_option maxHeartbeats 4000000 in
set_option maxRecDepth 100000 in
theorem c_p_cart (l : Launch) (hlt : l.stackTraces = false) (D : va_G) (cy : Nat → ClassId) (d0 : Nat) (A : Nat → Prop) (la : Nat → Int → Nat) (σ : MS) {lm : Int} (h_lm : -2147483648 ≤ lm ∧ lm < 2147483648) (hn5 : 0 ≤ σ 5 0 ∧ σ 5 0 ≤ 1000) (hn11 : 0 ≤ σ 11 0 ∧ σ 11 0 ≤ 1000) (hn23 : 0 ≤ σ 23 0 ∧ σ 23 0 ≤ 1000) (hn27 : 0 ≤ σ 27 0 ∧ σ 27 0 ≤ 1000) (hn45 : 0 ≤ σ 45 0 ∧ σ 45 0 ≤ 600) (hlg : σ 58 0 = 0 ∧ σ 59 0 = 0) (hRf : cRefs σ) (hmc : ∀ L, 0 ≤ σ 57 L ∧ σ 57 L ≤ 1000000) (hcp : ∀ L, cLive la σ 11 L → la 19 L ≤ 1000) (hn27b : σ 27 0 ≤ 5) (hz25 : ∀ j, σ 27 0 ≤ j → σ 25 j = 0) : CT l yX10_cart wsX10_cart ({ frames := 7, cells := 24, slots := 2100, locals := 256 } : Room) D cy d0 A [.ref (la 0 0), .int (iI lm)] la σ ((if cartC σ lm = 1 then 2 else (if cartC σ lm = 2 then 3 else 0))) (fun v' la' τ => v' = some (.int (iI (σ 27 0))) ∧ (la' 0 0 = la 0 0 ∧ ∀ L, cLive la' τ 11 L → la' 19 L ≤ 1000) ∧ τ = (up (up (up (up (up (up σ 24 (σ 27 0) lm) 26 (σ 27 0) (-1)) 53 (σ 27 0) 0) 54 (σ 27 0) 0) 27 0 (σ 27 0 + 1)) 57 3 (σ 57 3 + 1))) 24 2100 := by
  refine ct_of (cc := cX10_cart) (nL := 3) (ret := (some .int)) (by decide) rfl (Nat.le_of_ble_eq_true rfl) ?_
  intro p e s m args below meth c ls E hout hr hlk hK hC hS hl
  have B := E.1
  have hml := E.2.1
  have hown := E.2.2.1
  have hts0 := E.2.2.2.1
  have hts := E.2.2.2.1
  have hw := hC.2.2.2.2.2.1
  have hA := hK.2.2.2.2.2.2.1
  have tail : ∀ (H : Heap) (locs : List Loc) (ls : Array Slot) (hs1 : 0 ≤ lm ∧ lm ≤ 100000) (hn5 : σ 27 0 < 5), CP D cy d0 A la σ H → va_S A s.heap H locs → lv_has ls 3 [(0, .ref (la 0 0)), (1, .int (iI lm))] → W p l e ({ frames := 7, cells := 24, slots := 2100, locals := 256 } : Room) s m args below meth c H locs 16 64 (vx_MQ below (cQ D cy d0 A (fun v la' τ => (((if cartC σ lm = 1 then 2 else (if cartC σ lm = 2 then 3 else 0)) : Int)) = 0 ∧ (fun v' la' τ => v' = some (.int (iI (σ 27 0))) ∧ (la' 0 0 = la 0 0 ∧ ∀ L, cLive la' τ 11 L → la' 19 L ≤ 1000) ∧ τ = (up (up (up (up (up (up σ 24 (σ 27 0) lm) 26 (σ 27 0) (-1)) 53 (σ 27 0) 0) 54 (σ 27 0) 0) 27 0 (σ 27 0 + 1)) 57 3 (σ 57 3 + 1))) v la' τ)) (cXX D cy d0 A ((if cartC σ lm = 1 then 2 else (if cartC σ lm = 2 then 3 else 0))) la σ) args s 24 2100 A) (F0 m 31 ls []) := by
    intro H0 locs ls hs1 hn5 hC hS hl
    obtain ⟨M, hMe⟩ : ∃ z, z = H0.size := ⟨_, rfl⟩
    have hMl : ∀ κ i, κ ≤ 18 → cLive la σ κ i → la κ i < M := fun κ i a b => by rw [hMe]; exact hC.lt a b
    have hAM : ∀ q, M ≤ q → A q := fun q h => hA q (by have := hS.1; omega)
    refine ob_new (ci := 3) (C := RX2) (T := TX2) E hS rfl (fun z h => List.mem_cons_of_mem _ (List.mem_append_left _ (List.mem_append_left _ (List.mem_append_left _ (List.mem_append_right _ h))))) tyX2_ok (hts (.classLink RX10 176 RX2) (by decide +kernel)) (hts (.instantiable RX2 6) (by decide +kernel)) (hts (.initialized RX2) (by decide +kernel)) (Nat.le_of_ble_eq_true rfl) (Nat.le_of_ble_eq_true rfl) dX10_cart_31 (fun H31 nO o31 z31 hS => ?_)
    rw [← hMe] at nO o31 z31 ⊢
    have hC := hC.kept (fun κ i a b => o31 _ (hMl κ i a b))
    refine x_dup B dX10_cart_34 rfl ?_
    refine x_aload_n B hl dX10_cart_35 rfl ?_
    refine co_getR (x := la 11 3) E hC 0 (by decide) cl_0 rfl (fun z h => List.mem_cons_of_mem _ (List.mem_append_left _ (List.mem_append_left _ (List.mem_append_left _ (List.mem_append_left _ (List.mem_append_right _ h)))))) 3 (by decide) (hts (.fieldLink RX10 22 "BinRounds" "carts" "Ljava/util/ArrayList;") (by decide +kernel)) (fun x hx => hx) dX10_cart_36 rfl rfl ?_
    refine co_callA (q := M) E hK hC hS hl (κ := 11) (i := 3) (by decide) (cl_11 (by omega)) rfl (fun κ i a b => by have := hMl κ i a b; omega) (by omega) (c_size l D cy d0 _ la σ (L := 3) (n := (σ 27 0)) (cl_11 (by omega)) rfl) (cwV 0 hts0 gX10_cart_Jx4a65c_size_8abf5 rfl rfl rfl (by decide +kernel) ⟨Nat.le_of_ble_eq_true rfl, Nat.le_of_ble_eq_true rfl⟩) rfl rfl (Nat.le_of_ble_eq_true rfl) dX10_cart_39 ⟨Nat.le_of_ble_eq_true rfl, Nat.le_of_ble_eq_true rfl⟩ (fun H39 locs v la9 σ9 hv hC hS z39 k39 => ?_)
    obtain ⟨hv1, hv2, hv3, -⟩ := hv
    subst hv1
    rw [hv2, hv3] at hC
    have nO := nO.kept k39
    refine x_iload_n B hl dX10_cart_42 rfl ?_
    refine cb_callI (A' := fun z => z = M ∨ H39.size ≤ z) (av := [.int (iI (σ 27 0)), .int (iI lm)]) E hK hS hl (fun z h => h.elim (fun h => hAM z (by omega)) (fun h => hA z (by have := hS.1; omega))) (fun z h => Or.inr h) (k_Cart l D cy d0 _ (q := M) (Or.inl rfl)) nO (cwI 2 hts0 gX10_cart_X2_init rfl rfl rfl (hts (.initialized RX2) (by decide +kernel)) (hts (.methodLink RX10 178 yX2_init) (by decide +kernel)) (hts (.instanceMethod yX2_init) (by decide +kernel)) rfl (by decide +kernel) ⟨Nat.le_of_ble_eq_true rfl, Nat.le_of_ble_eq_true rfl⟩) rfl rfl (Nat.le_of_ble_eq_true rfl) dX10_cart_43 ⟨Nat.le_of_ble_eq_true rfl, Nat.le_of_ble_eq_true rfl⟩ (fun H43 locs v hv z43 o43 hS => ?_)
    obtain ⟨rfl, nO⟩ := hv
    have hC := hC.kept (fun κ i a b => o43 _ (by have := hMl κ i a b; omega) (fun z => z.elim (fun e => by have := hMl κ i a b; omega) (fun e => by have := hMl κ i a b; omega)))
    refine x_astore_n B hl dX10_cart_46 (by decide) (fun ls hl => ?_)
    refine x_aload_n B hl dX10_cart_47 rfl ?_
    refine co_getR (x := la 11 3) E hC 0 (by decide) cl_0 rfl (fun z h => List.mem_cons_of_mem _ (List.mem_append_left _ (List.mem_append_left _ (List.mem_append_left _ (List.mem_append_left _ (List.mem_append_right _ h)))))) 3 (by decide) (hts (.fieldLink RX10 22 "BinRounds" "carts" "Ljava/util/ArrayList;") (by decide +kernel)) (fun x hx => hx) dX10_cart_48 rfl rfl ?_
    refine x_aload_n B hl dX10_cart_51 rfl ?_
    obtain ⟨f52, l52a, l52b, l52c, l52d⟩ := hC.lst (L := 3) (n := (σ 27 0)) ((cl_11 (by omega))) rfl
    have hcl52 := (show cLive la σ 11 3 from cl_11 (by omega))
    have hel52 : ∀ j : Nat, (j : Int) < (σ 27 0) → ∀ y, f52 j = some y → y = la 9 ((j : Int)) ∧ cLive la σ 9 ((j : Int)) := fun j hj y hy => by
      rw [l52d j hj] at hy
      refine ⟨(Option.some.inj hy).symm.trans (rfl), ?_⟩
      exact cl_9 ⟨by omega, by omega⟩
    refine cb_callV (A' := (fun z => z = la 11 3 ∨ (0 < la 19 3 ∧ z = la 18 3) ∨ H43.size ≤ z)) E hK hS hl (fun z h => h.elim (fun h => h ▸ hC.2.2.2.2.1 11 3 (by decide) hcl52) (fun h => h.elim (fun h => h.2 ▸ hC.2.2.2.2.1 18 3 (by decide) ⟨hcl52, h.1⟩) (fun h => hA z (by have := hS.1; omega)))) (fun z h => Or.inr (Or.inr h)) (obRecv hK l52a rfl) (l_add l D cy d0 (fun z => z = la 11 3 ∨ (0 < la 19 3 ∧ z = la 18 3) ∨ H43.size ≤ z) (a := la 11 3) (r := la 18 3) (cap := la 19 3) (x := M) (mm := σ 57 3) (n := (σ 27 0)) (f := f52) (show vwCl[3]? = some (RX2, TX2, 6) from rfl) (fun U h => h.2.2.2.2.2.2.2.2.1) (hcp 3 hcl52) (Or.inl rfl) (fun h => Or.inr (Or.inl ⟨h, rfl⟩)) (fun h z => by have h9 := hC.2.2.2.1 11 18 3 3 (by decide) (by decide) hcl52 ⟨hcl52, h⟩ z; omega) ⟨by omega, l52c⟩ (by omega) (fun z => by have := hMl 11 3 (by decide) hcl52; omega) (fun j hj y hy z => by
      have h8 := hel52 j hj y hy
      have h9 := hC.2.2.2.1 9 11 _ 3 (by decide) (by decide) h8.2 hcl52 (h8.1.symm.trans z)
      omega)) ⟨l52a, l52b, fun j hj y hy => elC_at (hel52 j hj y hy).1 ⟨_, hC.1 9 _ (by decide) (hel52 j hj y hy).2⟩, ⟨_, nO⟩⟩ (cwV 1 hts0 gX10_cart_Jx4a65c_add_9ea2d rfl rfl rfl (by decide +kernel) ⟨Nat.le_of_ble_eq_true rfl, Nat.le_of_ble_eq_true rfl⟩) rfl rfl (Nat.le_of_ble_eq_true rfl) dX10_cart_52 ⟨Nat.le_of_ble_eq_true rfl, Nat.le_of_ble_eq_true rfl⟩ (fun H52 locs v hv z52 o52 hS => ?_)
    obtain ⟨rfl, hps52⟩ := hv
    refine x_pop B dX10_cart_55 rfl ?_
    obtain ⟨σ1, hσ1⟩ : ∃ z, z = (up (up (up (up (up (up σ 24 (σ 27 0) lm) 26 (σ 27 0) (-1)) 53 (σ 27 0) 0) 54 (σ 27 0) 0) 27 0 (σ 27 0 + 1)) 57 3 (σ 57 3 + 1)) := ⟨_, rfl⟩
    have e5 : σ1 5 0 = σ 5 0 := by rw [hσ1]; first | rfl | (simp [up_rd]; done)
    have e11 : σ1 11 0 = σ 11 0 := by rw [hσ1]; first | rfl | (simp [up_rd]; done)
    have e23 : σ1 23 0 = σ 23 0 := by rw [hσ1]; first | rfl | (simp [up_rd]; done)
    have e27 : σ1 27 0 = (σ 27 0 + 1) := by rw [hσ1]; first | rfl | (simp [up_rd]; done)
    have e45 : σ1 45 0 = σ 45 0 := by rw [hσ1]; first | rfl | (simp [up_rd]; done)
    have e58 : σ1 58 0 = σ 58 0 := by rw [hσ1]; first | rfl | (simp [up_rd]; done)
    have e59 : σ1 59 0 = σ 59 0 := by rw [hσ1]; first | rfl | (simp [up_rd]; done)
    have e18 : ∀ j, σ1 18 j = σ 18 j := fun j => by rw [hσ1]; first | rfl | (simp [up_rd]; done)
    have e22 : ∀ j, σ1 22 j = σ 22 j := fun j => by rw [hσ1]; first | rfl | (simp [up_rd]; done)
    have hlv : ∀ (lb : Nat → Int → Nat) κ i, κ ≤ 17 → cLive lb σ1 κ i → cLive la σ κ i ∨ (fun κ i => (κ = 9 ∧ i = (σ 27 0))) κ i := by
      intro lb κ i hκ h
      rcases (show κ = 0 ∨ κ = 1 ∨ κ = 2 ∨ κ = 3 ∨ κ = 4 ∨ κ = 5 ∨ κ = 6 ∨ κ = 7 ∨ κ = 8 ∨ κ = 9 ∨ κ = 10 ∨ κ = 11 ∨ κ = 12 ∨ κ = 13 ∨ κ = 14 ∨ κ = 15 ∨ κ = 16 ∨ κ = 17 by omega) with rfl | rfl | rfl | rfl | rfl | rfl | rfl | rfl | rfl | rfl | rfl | rfl | rfl | rfl | rfl | rfl | rfl | rfl
      · have h2 : i = 0 := h
        exact Or.inl (show i = 0 by first | exact h2 | omega | (have q18 := e18 (i / 8); have q22 := e22 (i / 20); omega))
      · have h2 : i = 0 := h
        exact Or.inl (show i = 0 by first | exact h2 | omega | (have q18 := e18 (i / 8); have q22 := e22 (i / 20); omega))
      · have h2 : i = 0 := h
        exact Or.inl (show i = 0 by first | exact h2 | omega | (have q18 := e18 (i / 8); have q22 := e22 (i / 20); omega))
      · have h2 : i = 0 := h
        exact Or.inl (show i = 0 by first | exact h2 | omega | (have q18 := e18 (i / 8); have q22 := e22 (i / 20); omega))
      · have h2 : 0 ≤ i ∧ i < σ1 5 0 := h
        rw [e5] at h2
        exact Or.inl (show 0 ≤ i ∧ i < σ 5 0 by first | exact h2 | omega | (have q18 := e18 (i / 8); have q22 := e22 (i / 20); omega))
      · have h2 : 0 ≤ i ∧ i < σ1 11 0 := h
        rw [e11] at h2
        exact Or.inl (show 0 ≤ i ∧ i < σ 11 0 by first | exact h2 | omega | (have q18 := e18 (i / 8); have q22 := e22 (i / 20); omega))
      · have h2 : 0 ≤ i ∧ i < σ1 23 0 := h
        rw [e23] at h2
        exact Or.inl (show 0 ≤ i ∧ i < σ 23 0 by first | exact h2 | omega | (have q18 := e18 (i / 8); have q22 := e22 (i / 20); omega))
      · have h2 : 0 ≤ i ∧ i / 8 < σ1 23 0 ∧ i % 8 < σ1 18 (i / 8) := h
        rw [e23] at h2
        exact Or.inl (show 0 ≤ i ∧ i / 8 < σ 23 0 ∧ i % 8 < σ 18 (i / 8) by first | exact h2 | omega | (have q18 := e18 (i / 8); have q22 := e22 (i / 20); omega))
      · have h2 : 0 ≤ i ∧ i / 20 < σ1 23 0 ∧ i % 20 < σ1 22 (i / 20) := h
        rw [e23] at h2
        exact Or.inl (show 0 ≤ i ∧ i / 20 < σ 23 0 ∧ i % 20 < σ 22 (i / 20) by first | exact h2 | omega | (have q18 := e18 (i / 8); have q22 := e22 (i / 20); omega))
      · have h2 : 0 ≤ i ∧ i < σ1 27 0 := h
        rw [e27] at h2
        by_cases hn9 : i = (σ 27 0)
        · exact Or.inr (by first | exact ⟨rfl, hn9⟩ | exact Or.inl ⟨rfl, hn9⟩ | exact Or.inr ⟨rfl, hn9⟩ | exact Or.inr (Or.inl ⟨rfl, hn9⟩) | exact Or.inr (Or.inr ⟨rfl, hn9⟩))
        exact Or.inl (show 0 ≤ i ∧ i < σ 27 0 by omega)
      · have h2 : 0 ≤ i ∧ i < σ1 45 0 := h
        rw [e45] at h2
        exact Or.inl (show 0 ≤ i ∧ i < σ 45 0 by first | exact h2 | omega | (have q18 := e18 (i / 8); have q22 := e22 (i / 20); omega))
      · have h2 : 0 ≤ i ∧ i < 5 + 2 * σ1 23 0 := h
        rw [e23] at h2
        exact Or.inl (show 0 ≤ i ∧ i < 5 + 2 * σ 23 0 by first | exact h2 | omega | (have q18 := e18 (i / 8); have q22 := e22 (i / 20); omega))
      · have h2 : i = 0 := h
        exact Or.inl (show i = 0 by first | exact h2 | omega | (have q18 := e18 (i / 8); have q22 := e22 (i / 20); omega))
      · have h2 : i = 0 := h
        exact Or.inl (show i = 0 by first | exact h2 | omega | (have q18 := e18 (i / 8); have q22 := e22 (i / 20); omega))
      · have h2 : i = 0 := h
        exact Or.inl (show i = 0 by first | exact h2 | omega | (have q18 := e18 (i / 8); have q22 := e22 (i / 20); omega))
      · have h2 : i = 0 := h
        exact Or.inl (show i = 0 by first | exact h2 | omega | (have q18 := e18 (i / 8); have q22 := e22 (i / 20); omega))
      · have h2 : 0 ≤ i ∧ i < σ1 5 0 := h
        rw [e5] at h2
        exact Or.inl (show 0 ≤ i ∧ i < σ 5 0 by first | exact h2 | omega | (have q18 := e18 (i / 8); have q22 := e22 (i / 20); omega))
      · have h2 : 0 ≤ i ∧ i < σ1 5 0 := h
        rw [e5] at h2
        exact Or.inl (show 0 ≤ i ∧ i < σ 5 0 by first | exact h2 | omega | (have q18 := e18 (i / 8); have q22 := e22 (i / 20); omega))
    have hnum : ∀ κ i, κ ≤ 11 → cLive la σ κ i → ¬ (κ = 11 ∧ i = 3) → ∀ k, k < cN κ → (sT κ k = 1 ∨ sT κ k = 2) → σ1 (sF κ k) i = σ (sF κ k) i := by
      intro κ i hκ h hn9 k hk ht
      rw [hσ1]
      rw [up_k hκ hk ht (fun z => by
        have hf := z.1
        have hi := z.2
        rw [show fK 57 = 11 by decide +kernel] at hf
        subst hf
        have hq : 0 ≤ i ∧ i < 5 + 2 * σ 23 0 := h
        omega)]
      rw [up_k hκ hk ht (fun z => by
        have hf := z.1
        have hi := z.2
        rw [show fK 27 = 99 by decide +kernel] at hf
        subst hf
        omega)]
      rw [up_k hκ hk ht (fun z => by
        have hf := z.1
        have hi := z.2
        rw [show fK 54 = 9 by decide +kernel] at hf
        subst hf
        have hq : 0 ≤ i ∧ i < σ 27 0 := h
        omega)]
      rw [up_k hκ hk ht (fun z => by
        have hf := z.1
        have hi := z.2
        rw [show fK 53 = 9 by decide +kernel] at hf
        subst hf
        have hq : 0 ≤ i ∧ i < σ 27 0 := h
        omega)]
      rw [up_k hκ hk ht (fun z => by
        have hf := z.1
        have hi := z.2
        rw [show fK 26 = 9 by decide +kernel] at hf
        subst hf
        have hq : 0 ≤ i ∧ i < σ 27 0 := h
        omega)]
      rw [up_k hκ hk ht (fun z => by
        have hf := z.1
        have hi := z.2
        rw [show fK 24 = 9 by decide +kernel] at hf
        subst hf
        have hq : 0 ≤ i ∧ i < σ 27 0 := h
        omega)]
    have hcw : cW σ1 := by rw [hσ1]; exact (cW_up (cW_up (cW_up (cW_up (cW_up (cW_up hC.2.2.2.2.2.1 (fun q => by first | omega | (have h9 := hmc (σ 27 0); omega) | cases q) (fun q => by first | omega | cases q)) (fun q => by first | omega | (have h9 := hmc (σ 27 0); omega) | cases q) (fun q => by first | omega | cases q)) (fun q => by first | omega | (have h9 := hmc (σ 27 0); omega) | cases q) (fun q => by first | omega | cases q)) (fun q => by first | omega | (have h9 := hmc (σ 27 0); omega) | cases q) (fun q => by first | omega | cases q)) (fun q => by first | omega | (have h9 := hmc 0; omega) | cases q) (fun q => by first | omega | cases q)) (fun q => by first | omega | (have h9 := hmc 3; omega) | cases q) (fun q => by first | omega | cases q))
    obtain ⟨r9, c9, hC9, hc9, hfr9⟩ := CP.addL (n := (σ 27 0)) (laN := (lup la 9 (σ 27 0) M)) (σ' := σ1) (M := M) (N := (fun κ i => (κ = 9 ∧ i = (σ 27 0)))) hC hMl (by omega) hAM (by omega) hRf hcw hcl52 (by omega) rfl hps52 (fun j hj => l52d j hj) hlv (fun κ i z => by have z2 : (κ = 9 ∧ i = (σ 27 0)) := z; omega) (fun L z => by have z2 : (11 = 9 ∧ L = (σ 27 0)) := z; omega) (fun κ i a b9 => lup_n (fun z => by rcases z with ⟨rfl, rfl⟩; have hq : 0 ≤ σ 27 0 ∧ σ 27 0 < σ 27 0 := b9; omega)) (fun L => ⟨lup_k (by decide), lup_k (by decide)⟩) hnum (fun i h9 => by rw [hσ1, up_f (by decide), up_f (by decide), up_f (by decide), up_f (by decide), up_f (by decide), up_f (by decide)]) (fun i h9 => by rw [hσ1, up_f (by decide), up_f (by decide), up_f (by decide), up_f (by decide), up_f (by decide), up_f (by decide)]) (fun i h9 => by rw [hσ1, up_f (by decide), up_f (by decide), up_f (by decide), up_f (by decide), up_f (by decide), up_f (by decide)]) (fun i h9 => by rw [hσ1, up_f (by decide), up_f (by decide), up_f (by decide), up_f (by decide), up_f (by decide), up_f (by decide)]) (fun i h9 => by rw [hσ1, up_f (by decide), up_f (by decide), up_f (by decide), up_f (by decide), up_f (by decide), up_f (by decide)]) (fun κ i a b c j hj => by rw [hσ1, aV_u (by decide) a b, aV_u (by decide) a b, aV_u (by decide) a b, aV_u (by decide) a b, aV_u (by decide) a b, aV_u (by decide) a b]) (fun L a b => by
      have ha : 0 ≤ L ∧ L < 5 + 2 * σ 23 0 := a
      unfold cSz
      simp only [e5, e11, e23, e27, e45, e58, e59, e18, e22]
      repeat' split
      all_goals first | rfl | omega) (fun L j ha9 hb0 hd9 => by
      unfold cEl
      repeat' split
      all_goals first | rfl | (rename_i hL1; subst hL1; have d2 : j < σ 27 0 := hd9; rw [lup_n (by omega)])) (show σ1 27 0 = σ 27 0 + 1 from e27) (by rw [hσ1]; exact up_s) (show (lup la 9 (σ 27 0) M) 9 (σ 27 0) = M from lup_s) (fun lb hlb κ i ha9 z => by
      rcases z with ⟨rfl, rfl⟩
      rw [show (lup la 9 (σ 27 0) M) 9 (σ 27 0) = M from lup_s]
      refine nO.to (fun k hk => ?_)
      have hk10 : k < 6 := hk
      have q24 : σ1 24 (σ 27 0) = lm := by rw [hσ1]; simp [up_rd]
      have q25 : σ1 25 (σ 27 0) = 0 := by rw [hσ1]; simp [up_rd]; exact hz25 _ (by omega)
      have q26 : σ1 26 (σ 27 0) = -1 := by rw [hσ1]; simp [up_rd]
      have q53 : σ1 53 (σ 27 0) = 0 := by rw [hσ1]; simp [up_rd]
      have q54 : σ1 54 (σ 27 0) = 0 := by rw [hσ1]; simp [up_rd]
      rcases (show k = 0 ∨ k = 1 ∨ k = 2 ∨ k = 3 ∨ k = 4 ∨ k = 5 by omega) with rfl | rfl | rfl | rfl | rfl | rfl
      · rfl
      · show _ = Value.int (iI (σ1 24 (σ 27 0))); rw [q24]; rfl
      · show _ = Value.int (iI (σ1 25 (σ 27 0))); rw [q25]; rfl
      · show _ = Value.int (iI (σ1 26 (σ 27 0))); rw [q26]; rfl
      · show _ = Value.int (iI (σ1 53 (σ 27 0))); rw [q53]; rfl
      · show _ = Value.int (iI (σ1 54 (σ 27 0))); rw [q54]; rfl) (fun κ i ha9 hb0 z => by have z2 : (κ = 9 ∧ i = (σ 27 0)) := z; omega) (fun κ i z => by rcases z with ⟨rfl, rfl⟩; rw [show (lup la 9 (σ 27 0) M) 9 (σ 27 0) = M from lup_s]; omega) (fun κ κ' i i' z z' e => by have z2 : (κ = 9 ∧ i = (σ 27 0)) := z; have z3 : (κ' = 9 ∧ i' = (σ 27 0)) := z'; omega)
    have nO := nO.kept (hfr9 M (by omega) (fun z => by have := hMl 11 3 (by decide) hcl52; omega) (fun z => by have := hMl 18 3 (by decide) ⟨hcl52, z.1⟩; omega))
    refine x_aload_n B hl dX10_cart_56 rfl ?_
    refine ob_get E nO rfl (fun z h => List.mem_cons_of_mem _ (List.mem_append_left _ (List.mem_append_left _ (List.mem_append_left _ (List.mem_append_right _ h))))) 0 (by decide) (hts (.fieldLink RX10 181 "BinRounds$Cart" "number" "I") (by decide +kernel)) (fun x hx => hx) dX10_cart_57 rfl ?_
    refine w_widen (Nat.le_of_ble_eq_true rfl) (Nat.le_of_ble_eq_true rfl) (vx_ret (co_iret E hr rfl hlk hC9 hS dX10_cart_60 ⟨by rw [show cartC σ lm = 0 by unfold cartC; rw [if_neg (by omega), if_neg (by omega)]]; rfl, rfl, ⟨rfl, fun L hL => ?_⟩, hσ1⟩))
    by_cases hL1 : L = 3
    · subst hL1; rw [lup_s]; omega
    · rw [lup_o hL1, lup_k (by decide), lup_k (by decide)]
      refine hcp L ?_
      have h2 : 0 ≤ L ∧ L < 5 + 2 * σ1 23 0 := hL
      rw [e23] at h2
      exact h2
  refine x_iload_n B hl dX10_cart_0 rfl ?_
  refine x_i2l B dX10_cart_1 (by omega) ?_
  refine x_lconst B dX10_cart_2 ?_
  refine lv_ldc2 (v := lI 100000) B.1 B.2 hown (hts (.constantLong RX10 174 (100000)) (by decide +kernel)) dX10_cart_3 ?_
  refine z_call ⟨B.1, B.2, hml, hown, hts0⟩ hl (c_isWithin l (v := lm) (a := 0) (b := 100000) (by omega) (by omega) (by omega)) (va_cwS 3 hts0 gX10_cart_X10_isWithin rfl rfl rfl (by decide +kernel) ⟨Nat.le_of_ble_eq_true rfl, Nat.le_of_ble_eq_true rfl⟩) rfl rfl (Nat.le_of_ble_eq_true rfl) dX10_cart_6 ⟨Nat.le_of_ble_eq_true rfl, Nat.le_of_ble_eq_true rfl⟩ (fun q_6 => ?_)
  refine x_bool (fun b_6 => ?_) (fun b_6 => ?_)
  · refine cstm_call E hout hlk hK hC hS hl (c_require l hlt D cy d0 A la _ (z := 1) (Or.inr rfl)) (va_cwS 1 hts0 gX10_cart_X10_require rfl rfl rfl (by decide +kernel) ⟨Nat.le_of_ble_eq_true rfl, Nat.le_of_ble_eq_true rfl⟩) rfl rfl (Nat.le_of_ble_eq_true rfl) dX10_cart_9 ⟨Nat.le_of_ble_eq_true rfl, Nat.le_of_ble_eq_true rfl⟩ ⟨Nat.le_of_ble_eq_true rfl, Nat.le_of_ble_eq_true rfl⟩ (fun h => ⟨by unfold cartC; omega, rfl⟩) (fun h9_9 H locs q_9 hC hS => ?_)
    refine x_aload_n B hl dX10_cart_12 rfl ?_
    refine co_getR (x := la 11 3) E hC 0 (by decide) cl_0 rfl (fun z h => List.mem_cons_of_mem _ (List.mem_append_left _ (List.mem_append_left _ (List.mem_append_left _ (List.mem_append_left _ (List.mem_append_right _ h)))))) 3 (by decide) (hts (.fieldLink RX10 22 "BinRounds" "carts" "Ljava/util/ArrayList;") (by decide +kernel)) (fun x hx => hx) dX10_cart_13 rfl rfl ?_
    refine co_call E hK hC hS hl (κ := 11) (i := 3) (by decide) (cl_11 (by omega)) rfl (c_size l D cy d0 A la _ (L := 3) (n := σ 27 0) (cl_11 (by omega)) (cSz_3.trans rfl)) (cwV 0 hts0 gX10_cart_Jx4a65c_size_8abf5 rfl rfl rfl (by decide +kernel) ⟨Nat.le_of_ble_eq_true rfl, Nat.le_of_ble_eq_true rfl⟩) rfl rfl (Nat.le_of_ble_eq_true rfl) dX10_cart_16 ⟨Nat.le_of_ble_eq_true rfl, Nat.le_of_ble_eq_true rfl⟩ (fun H locs q_16 hC hS => ?_)
    refine x_iconst B dX10_cart_19 ?_
    refine x_icmp_ge (tgt := 27) B dX10_cart_20 (by decide) (by omega) (by omega) (fun c_20 => ?_) (fun c_20 => ?_)
    · refine x_iconst B dX10_cart_27 ?_
      refine cstm_call E hout hlk hK hC hS hl (c_requireRoom l hlt D cy d0 A la _ (z := 0) (Or.inl rfl)) (va_cwS 1 hts0 gX10_cart_X10_requireRoom rfl rfl rfl (by decide +kernel) ⟨Nat.le_of_ble_eq_true rfl, Nat.le_of_ble_eq_true rfl⟩) rfl rfl (Nat.le_of_ble_eq_true rfl) dX10_cart_28 ⟨Nat.le_of_ble_eq_true rfl, Nat.le_of_ble_eq_true rfl⟩ ⟨Nat.le_of_ble_eq_true rfl, Nat.le_of_ble_eq_true rfl⟩ (fun h => ⟨by unfold cartC; omega, rfl⟩) (fun h9_28 H locs q_28 hC hS => ?_)
      exact w_widen (Nat.le_of_ble_eq_true rfl) (Nat.le_of_ble_eq_true rfl) (tail _ _ ls (by omega) (by omega) hC hS (lv_key hl _ rfl))
    · refine x_iconst B dX10_cart_23 ?_
      refine x_goto (tgt := 28) B dX10_cart_24 (by decide) ?_
      refine cstm_call E hout hlk hK hC hS hl (c_requireRoom l hlt D cy d0 A la _ (z := 1) (Or.inr rfl)) (va_cwS 1 hts0 gX10_cart_X10_requireRoom rfl rfl rfl (by decide +kernel) ⟨Nat.le_of_ble_eq_true rfl, Nat.le_of_ble_eq_true rfl⟩) rfl rfl (Nat.le_of_ble_eq_true rfl) dX10_cart_28 ⟨Nat.le_of_ble_eq_true rfl, Nat.le_of_ble_eq_true rfl⟩ ⟨Nat.le_of_ble_eq_true rfl, Nat.le_of_ble_eq_true rfl⟩ (fun h => ⟨by unfold cartC; omega, rfl⟩) (fun h9_28 H locs q_28 hC hS => ?_)
      exact w_widen (Nat.le_of_ble_eq_true rfl) (Nat.le_of_ble_eq_true rfl) (tail _ _ ls (by omega) (by omega) hC hS (lv_key hl _ rfl))
  · refine cstm_call E hout hlk hK hC hS hl (c_require l hlt D cy d0 A la _ (z := 0) (Or.inl rfl)) (va_cwS 1 hts0 gX10_cart_X10_require rfl rfl rfl (by decide +kernel) ⟨Nat.le_of_ble_eq_true rfl, Nat.le_of_ble_eq_true rfl⟩) rfl rfl (Nat.le_of_ble_eq_true rfl) dX10_cart_9 ⟨Nat.le_of_ble_eq_true rfl, Nat.le_of_ble_eq_true rfl⟩ ⟨Nat.le_of_ble_eq_true rfl, Nat.le_of_ble_eq_true rfl⟩ (fun h => ⟨by unfold cartC; omega, rfl⟩) (fun h9_9 H locs q_9 hC hS => ?_)
    refine x_aload_n B hl dX10_cart_12 rfl ?_
    refine co_getR (x := la 11 3) E hC 0 (by decide) cl_0 rfl (fun z h => List.mem_cons_of_mem _ (List.mem_append_left _ (List.mem_append_left _ (List.mem_append_left _ (List.mem_append_left _ (List.mem_append_right _ h)))))) 3 (by decide) (hts (.fieldLink RX10 22 "BinRounds" "carts" "Ljava/util/ArrayList;") (by decide +kernel)) (fun x hx => hx) dX10_cart_13 rfl rfl ?_
    refine co_call E hK hC hS hl (κ := 11) (i := 3) (by decide) (cl_11 (by omega)) rfl (c_size l D cy d0 A la _ (L := 3) (n := σ 27 0) (cl_11 (by omega)) (cSz_3.trans rfl)) (cwV 0 hts0 gX10_cart_Jx4a65c_size_8abf5 rfl rfl rfl (by decide +kernel) ⟨Nat.le_of_ble_eq_true rfl, Nat.le_of_ble_eq_true rfl⟩) rfl rfl (Nat.le_of_ble_eq_true rfl) dX10_cart_16 ⟨Nat.le_of_ble_eq_true rfl, Nat.le_of_ble_eq_true rfl⟩ (fun H locs q_16 hC hS => ?_)
    refine x_iconst B dX10_cart_19 ?_
    refine x_icmp_ge (tgt := 27) B dX10_cart_20 (by decide) (by omega) (by omega) (fun c_20 => ?_) (fun c_20 => ?_)
    · refine x_iconst B dX10_cart_27 ?_
      refine cstm_call E hout hlk hK hC hS hl (c_requireRoom l hlt D cy d0 A la _ (z := 0) (Or.inl rfl)) (va_cwS 1 hts0 gX10_cart_X10_requireRoom rfl rfl rfl (by decide +kernel) ⟨Nat.le_of_ble_eq_true rfl, Nat.le_of_ble_eq_true rfl⟩) rfl rfl (Nat.le_of_ble_eq_true rfl) dX10_cart_28 ⟨Nat.le_of_ble_eq_true rfl, Nat.le_of_ble_eq_true rfl⟩ ⟨Nat.le_of_ble_eq_true rfl, Nat.le_of_ble_eq_true rfl⟩ (fun h => ⟨by unfold cartC; omega, rfl⟩) (fun h9_28 H locs q_28 hC hS => ?_)
      exact w_widen (Nat.le_of_ble_eq_true rfl) (Nat.le_of_ble_eq_true rfl) (tail _ _ ls (by omega) (by omega) hC hS (lv_key hl _ rfl))
    · refine x_iconst B dX10_cart_23 ?_
      refine x_goto (tgt := 28) B dX10_cart_24 (by decide) ?_
      refine cstm_call E hout hlk hK hC hS hl (c_requireRoom l hlt D cy d0 A la _ (z := 1) (Or.inr rfl)) (va_cwS 1 hts0 gX10_cart_X10_requireRoom rfl rfl rfl (by decide +kernel) ⟨Nat.le_of_ble_eq_true rfl, Nat.le_of_ble_eq_true rfl⟩) rfl rfl (Nat.le_of_ble_eq_true rfl) dX10_cart_28 ⟨Nat.le_of_ble_eq_true rfl, Nat.le_of_ble_eq_true rfl⟩ ⟨Nat.le_of_ble_eq_true rfl, Nat.le_of_ble_eq_true rfl⟩ (fun h => ⟨by unfold cartC; omega, rfl⟩) (fun h9_28 H locs q_28 hC hS => ?_)
      exact w_widen (Nat.le_of_ble_eq_true rfl) (Nat.le_of_ble_eq_true rfl) (tail _ _ ls (by omega) (by omega) hC hS (lv_key hl _ rfl))
set_option maxHeartbeats 4000000 in
set_option maxRecDepth 100000 in
theorem c_p_street (l : Launch) (hlt : l.stackTraces = false) (D : va_G) (cy : Nat → ClassId) (d0 : Nat) (A : Nat → Prop) (la : Nat → Int → Nat) (σ : MS)   (hn5 : 0 ≤ σ 5 0 ∧ σ 5 0 ≤ 1000) (hn11 : 0 ≤ σ 11 0 ∧ σ 11 0 ≤ 1000) (hn23 : 0 ≤ σ 23 0 ∧ σ 23 0 ≤ 1000) (hn27 : 0 ≤ σ 27 0 ∧ σ 27 0 ≤ 1000) (hn45 : 0 ≤ σ 45 0 ∧ σ 45 0 ≤ 600) (hlg : σ 58 0 = 0 ∧ σ 59 0 = 0) (hRf : cRefs σ) (hmc : ∀ L, 0 ≤ σ 57 L ∧ σ 57 L ≤ 1000000) (hcp : ∀ L, cLive la σ 11 L → la 19 L ≤ 1000) (hn5b : σ 5 0 ≤ 10) (hz3 : ∀ j, 3 * σ 5 0 ≤ j → σ 3 j = 0) (hz4 : ∀ j, 3 * σ 5 0 ≤ j → σ 4 j = 0) : CT l yX10_street wsX10_street ({ frames := 7, cells := 24, slots := 2100, locals := 256 } : Room) D cy d0 A [.ref (la 0 0)] la σ ((if streetC σ = 1 then 3 else 0)) (fun v' la' τ => v' = some (.int (iI (σ 5 0))) ∧ (la' 0 0 = la 0 0 ∧ ∀ L, cLive la' τ 11 L → la' 19 L ≤ 1000) ∧ τ = (up (up σ 5 0 (σ 5 0 + 1)) 57 0 (σ 57 0 + 1))) 24 2100 := by
  refine ct_of (cc := cX10_street) (nL := 1) (ret := (some .int)) (by decide) rfl (Nat.le_of_ble_eq_true rfl) ?_
  intro p e s m args below meth c ls E hout hr hlk hK hC hS hl
  have B := E.1
  have hml := E.2.1
  have hown := E.2.2.1
  have hts0 := E.2.2.2.1
  have hts := E.2.2.2.1
  have hw := hC.2.2.2.2.2.1
  have hA := hK.2.2.2.2.2.2.1
  have tail : ∀ (H : Heap) (locs : List Loc) (ls : Array Slot) (hn10 : σ 5 0 < 10), CP D cy d0 A la σ H → va_S A s.heap H locs → lv_has ls 1 [(0, .ref (la 0 0))] → W p l e ({ frames := 7, cells := 24, slots := 2100, locals := 256 } : Room) s m args below meth c H locs 16 64 (vx_MQ below (cQ D cy d0 A (fun v la' τ => (((if streetC σ = 1 then 3 else 0) : Int)) = 0 ∧ (fun v' la' τ => v' = some (.int (iI (σ 5 0))) ∧ (la' 0 0 = la 0 0 ∧ ∀ L, cLive la' τ 11 L → la' 19 L ≤ 1000) ∧ τ = (up (up σ 5 0 (σ 5 0 + 1)) 57 0 (σ 57 0 + 1))) v la' τ)) (cXX D cy d0 A ((if streetC σ = 1 then 3 else 0)) la σ) args s 24 2100 A) (F0 m 20 ls []) := by
    intro H0 locs ls hn10 hC hS hl
    refine x_aload_n B hl dX10_street_20 rfl ?_
    refine co_getR (x := la 11 0) E hC 0 (by decide) cl_0 rfl (fun z h => List.mem_cons_of_mem _ (List.mem_append_left _ (List.mem_append_left _ (List.mem_append_left _ (List.mem_append_right _ h))))) 0 (by decide) (hts (.fieldLink RX10 10 "BinRounds" "streets" "Ljava/util/ArrayList;") (by decide +kernel)) (fun x hx => hx) dX10_street_21 rfl rfl ?_
    obtain ⟨M, hMe⟩ : ∃ z, z = H0.size := ⟨_, rfl⟩
    have hMl : ∀ κ i, κ ≤ 18 → cLive la σ κ i → la κ i < M := fun κ i a b => by rw [hMe]; exact hC.lt a b
    have hAM : ∀ q, M ≤ q → A q := fun q h => hA q (by have := hS.1; omega)
    refine ob_new (ci := 8) (C := RX7) (T := TX7) E hS rfl (fun z h => List.mem_cons_of_mem _ (List.mem_append_left _ (List.mem_append_left _ (List.mem_append_right _ h)))) tyX7_ok (hts (.classLink RX10 67 RX7) (by decide +kernel)) (hts (.instantiable RX7 2) (by decide +kernel)) (hts (.initialized RX7) (by decide +kernel)) (Nat.le_of_ble_eq_true rfl) (Nat.le_of_ble_eq_true rfl) dX10_street_24 (fun H24 nO o24 z24 hS => ?_)
    rw [← hMe] at nO o24 z24 ⊢
    have hC := hC.kept (fun κ i a b => o24 _ (hMl κ i a b))
    refine x_dup B dX10_street_27 rfl ?_
    refine cb_callIN (A' := fun z => z = M ∨ H24.size ≤ z) (av := []) E hK hS hl (fun z h => h.elim (fun h => hAM z (by omega)) (fun h => hA z (by have := hS.1; omega))) (fun z h => Or.inr h) (k_Street l D cy d0 _ (q := M) (Or.inl rfl)) nO ⟨va_cnB 0 hts0 gX10_street_X7_init_n69 rfl rfl rfl (hK.2.2.2.2.2.2.2.2.2.2.2.2.2.2.2.2.2.2.2.2.2.2.2.2.2.1) (hts (.initialized RX7) (by decide +kernel)) (by decide +kernel) ⟨Nat.le_of_ble_eq_true rfl, Nat.le_of_ble_eq_true rfl⟩, rfl, hts (.instanceMethod yX7_init) (by decide +kernel)⟩ rfl rfl (Nat.le_of_ble_eq_true rfl) dX10_street_28 ⟨Nat.le_of_ble_eq_true rfl, Nat.le_of_ble_eq_true rfl⟩ (fun H28 locs v hv z28 o28 hS => ?_)
    obtain ⟨rfl, r1, r2, ⟨b1, b2, b3⟩, ⟨n1, n2⟩, nO⟩ := hv
    have hC := hC.kept (fun κ i a b => o28 _ (by have := hMl κ i a b; omega) (fun z => z.elim (fun e => by have := hMl κ i a b; omega) (fun e => by have := hMl κ i a b; omega)))
    obtain ⟨f31, l31a, l31b, l31c, l31d⟩ := hC.lst (L := 0) (n := (σ 5 0)) ((cl_11 (by omega))) rfl
    have hcl31 := (show cLive la σ 11 0 from cl_11 (by omega))
    have hel31 : ∀ j : Nat, (j : Int) < (σ 5 0) → ∀ y, f31 j = some y → y = la 4 ((j : Int)) ∧ cLive la σ 4 ((j : Int)) := fun j hj y hy => by
      rw [l31d j hj] at hy
      refine ⟨(Option.some.inj hy).symm.trans (rfl), ?_⟩
      exact cl_4 ⟨by omega, by omega⟩
    refine cb_callV (A' := (fun z => z = la 11 0 ∨ (0 < la 19 0 ∧ z = la 18 0) ∨ H28.size ≤ z)) E hK hS hl (fun z h => h.elim (fun h => h ▸ hC.2.2.2.2.1 11 0 (by decide) hcl31) (fun h => h.elim (fun h => h.2 ▸ hC.2.2.2.2.1 18 0 (by decide) ⟨hcl31, h.1⟩) (fun h => hA z (by have := hS.1; omega)))) (fun z h => Or.inr (Or.inr h)) (obRecv hK l31a rfl) (l_add l D cy d0 (fun z => z = la 11 0 ∨ (0 < la 19 0 ∧ z = la 18 0) ∨ H28.size ≤ z) (a := la 11 0) (r := la 18 0) (cap := la 19 0) (x := M) (mm := σ 57 0) (n := (σ 5 0)) (f := f31) (show vwCl[8]? = some (RX7, TX7, 2) from rfl) (fun U h => h.2.2.2.1) (hcp 0 hcl31) (Or.inl rfl) (fun h => Or.inr (Or.inl ⟨h, rfl⟩)) (fun h z => by have h9 := hC.2.2.2.1 11 18 0 0 (by decide) (by decide) hcl31 ⟨hcl31, h⟩ z; omega) ⟨by omega, l31c⟩ (by omega) (fun z => by have := hMl 11 0 (by decide) hcl31; omega) (fun j hj y hy z => by
      have h8 := hel31 j hj y hy
      have h9 := hC.2.2.2.1 4 11 _ 0 (by decide) (by decide) h8.2 hcl31 (h8.1.symm.trans z)
      omega)) ⟨l31a, l31b, fun j hj y hy => elC_at (hel31 j hj y hy).1 ⟨_, hC.1 4 _ (by decide) (hel31 j hj y hy).2⟩, ⟨_, nO⟩⟩ (cwV 1 hts0 gX10_street_Jx4a65c_add_9ea2d rfl rfl rfl (by decide +kernel) ⟨Nat.le_of_ble_eq_true rfl, Nat.le_of_ble_eq_true rfl⟩) rfl rfl (Nat.le_of_ble_eq_true rfl) dX10_street_31 ⟨Nat.le_of_ble_eq_true rfl, Nat.le_of_ble_eq_true rfl⟩ (fun H31 locs v hv z31 o31 hS => ?_)
    obtain ⟨rfl, hps31⟩ := hv
    refine x_pop B dX10_street_34 rfl ?_
    obtain ⟨σ1, hσ1⟩ : ∃ z, z = (up (up σ 5 0 (σ 5 0 + 1)) 57 0 (σ 57 0 + 1)) := ⟨_, rfl⟩
    have e5 : σ1 5 0 = (σ 5 0 + 1) := by rw [hσ1]; first | rfl | (simp [up_rd]; done)
    have e11 : σ1 11 0 = σ 11 0 := by rw [hσ1]; first | rfl | (simp [up_rd]; done)
    have e23 : σ1 23 0 = σ 23 0 := by rw [hσ1]; first | rfl | (simp [up_rd]; done)
    have e27 : σ1 27 0 = σ 27 0 := by rw [hσ1]; first | rfl | (simp [up_rd]; done)
    have e45 : σ1 45 0 = σ 45 0 := by rw [hσ1]; first | rfl | (simp [up_rd]; done)
    have e58 : σ1 58 0 = σ 58 0 := by rw [hσ1]; first | rfl | (simp [up_rd]; done)
    have e59 : σ1 59 0 = σ 59 0 := by rw [hσ1]; first | rfl | (simp [up_rd]; done)
    have e18 : ∀ j, σ1 18 j = σ 18 j := fun j => by rw [hσ1]; first | rfl | (simp [up_rd]; done)
    have e22 : ∀ j, σ1 22 j = σ 22 j := fun j => by rw [hσ1]; first | rfl | (simp [up_rd]; done)
    have hlv : ∀ (lb : Nat → Int → Nat) κ i, κ ≤ 17 → cLive lb σ1 κ i → cLive la σ κ i ∨ (fun κ i => (κ = 4 ∧ i = (σ 5 0)) ∨ (κ = 16 ∧ i = (σ 5 0)) ∨ (κ = 17 ∧ i = (σ 5 0))) κ i := by
      intro lb κ i hκ h
      rcases (show κ = 0 ∨ κ = 1 ∨ κ = 2 ∨ κ = 3 ∨ κ = 4 ∨ κ = 5 ∨ κ = 6 ∨ κ = 7 ∨ κ = 8 ∨ κ = 9 ∨ κ = 10 ∨ κ = 11 ∨ κ = 12 ∨ κ = 13 ∨ κ = 14 ∨ κ = 15 ∨ κ = 16 ∨ κ = 17 by omega) with rfl | rfl | rfl | rfl | rfl | rfl | rfl | rfl | rfl | rfl | rfl | rfl | rfl | rfl | rfl | rfl | rfl | rfl
      · have h2 : i = 0 := h
        exact Or.inl (show i = 0 by first | exact h2 | omega | (have q18 := e18 (i / 8); have q22 := e22 (i / 20); omega))
      · have h2 : i = 0 := h
        exact Or.inl (show i = 0 by first | exact h2 | omega | (have q18 := e18 (i / 8); have q22 := e22 (i / 20); omega))
      · have h2 : i = 0 := h
        exact Or.inl (show i = 0 by first | exact h2 | omega | (have q18 := e18 (i / 8); have q22 := e22 (i / 20); omega))
      · have h2 : i = 0 := h
        exact Or.inl (show i = 0 by first | exact h2 | omega | (have q18 := e18 (i / 8); have q22 := e22 (i / 20); omega))
      · have h2 : 0 ≤ i ∧ i < σ1 5 0 := h
        rw [e5] at h2
        by_cases hn9 : i = (σ 5 0)
        · exact Or.inr (by first | exact ⟨rfl, hn9⟩ | exact Or.inl ⟨rfl, hn9⟩ | exact Or.inr ⟨rfl, hn9⟩ | exact Or.inr (Or.inl ⟨rfl, hn9⟩) | exact Or.inr (Or.inr ⟨rfl, hn9⟩))
        exact Or.inl (show 0 ≤ i ∧ i < σ 5 0 by omega)
      · have h2 : 0 ≤ i ∧ i < σ1 11 0 := h
        rw [e11] at h2
        exact Or.inl (show 0 ≤ i ∧ i < σ 11 0 by first | exact h2 | omega | (have q18 := e18 (i / 8); have q22 := e22 (i / 20); omega))
      · have h2 : 0 ≤ i ∧ i < σ1 23 0 := h
        rw [e23] at h2
        exact Or.inl (show 0 ≤ i ∧ i < σ 23 0 by first | exact h2 | omega | (have q18 := e18 (i / 8); have q22 := e22 (i / 20); omega))
      · have h2 : 0 ≤ i ∧ i / 8 < σ1 23 0 ∧ i % 8 < σ1 18 (i / 8) := h
        rw [e23] at h2
        exact Or.inl (show 0 ≤ i ∧ i / 8 < σ 23 0 ∧ i % 8 < σ 18 (i / 8) by first | exact h2 | omega | (have q18 := e18 (i / 8); have q22 := e22 (i / 20); omega))
      · have h2 : 0 ≤ i ∧ i / 20 < σ1 23 0 ∧ i % 20 < σ1 22 (i / 20) := h
        rw [e23] at h2
        exact Or.inl (show 0 ≤ i ∧ i / 20 < σ 23 0 ∧ i % 20 < σ 22 (i / 20) by first | exact h2 | omega | (have q18 := e18 (i / 8); have q22 := e22 (i / 20); omega))
      · have h2 : 0 ≤ i ∧ i < σ1 27 0 := h
        rw [e27] at h2
        exact Or.inl (show 0 ≤ i ∧ i < σ 27 0 by first | exact h2 | omega | (have q18 := e18 (i / 8); have q22 := e22 (i / 20); omega))
      · have h2 : 0 ≤ i ∧ i < σ1 45 0 := h
        rw [e45] at h2
        exact Or.inl (show 0 ≤ i ∧ i < σ 45 0 by first | exact h2 | omega | (have q18 := e18 (i / 8); have q22 := e22 (i / 20); omega))
      · have h2 : 0 ≤ i ∧ i < 5 + 2 * σ1 23 0 := h
        rw [e23] at h2
        exact Or.inl (show 0 ≤ i ∧ i < 5 + 2 * σ 23 0 by first | exact h2 | omega | (have q18 := e18 (i / 8); have q22 := e22 (i / 20); omega))
      · have h2 : i = 0 := h
        exact Or.inl (show i = 0 by first | exact h2 | omega | (have q18 := e18 (i / 8); have q22 := e22 (i / 20); omega))
      · have h2 : i = 0 := h
        exact Or.inl (show i = 0 by first | exact h2 | omega | (have q18 := e18 (i / 8); have q22 := e22 (i / 20); omega))
      · have h2 : i = 0 := h
        exact Or.inl (show i = 0 by first | exact h2 | omega | (have q18 := e18 (i / 8); have q22 := e22 (i / 20); omega))
      · have h2 : i = 0 := h
        exact Or.inl (show i = 0 by first | exact h2 | omega | (have q18 := e18 (i / 8); have q22 := e22 (i / 20); omega))
      · have h2 : 0 ≤ i ∧ i < σ1 5 0 := h
        rw [e5] at h2
        by_cases hn9 : i = (σ 5 0)
        · exact Or.inr (by first | exact ⟨rfl, hn9⟩ | exact Or.inl ⟨rfl, hn9⟩ | exact Or.inr ⟨rfl, hn9⟩ | exact Or.inr (Or.inl ⟨rfl, hn9⟩) | exact Or.inr (Or.inr ⟨rfl, hn9⟩))
        exact Or.inl (show 0 ≤ i ∧ i < σ 5 0 by omega)
      · have h2 : 0 ≤ i ∧ i < σ1 5 0 := h
        rw [e5] at h2
        by_cases hn9 : i = (σ 5 0)
        · exact Or.inr (by first | exact ⟨rfl, hn9⟩ | exact Or.inl ⟨rfl, hn9⟩ | exact Or.inr ⟨rfl, hn9⟩ | exact Or.inr (Or.inl ⟨rfl, hn9⟩) | exact Or.inr (Or.inr ⟨rfl, hn9⟩))
        exact Or.inl (show 0 ≤ i ∧ i < σ 5 0 by omega)
    have hnum : ∀ κ i, κ ≤ 11 → cLive la σ κ i → ¬ (κ = 11 ∧ i = 0) → ∀ k, k < cN κ → (sT κ k = 1 ∨ sT κ k = 2) → σ1 (sF κ k) i = σ (sF κ k) i := by
      intro κ i hκ h hn9 k hk ht
      rw [hσ1]
      rw [up_k hκ hk ht (fun z => by
        have hf := z.1
        have hi := z.2
        rw [show fK 57 = 11 by decide +kernel] at hf
        subst hf
        have hq : 0 ≤ i ∧ i < 5 + 2 * σ 23 0 := h
        omega)]
      rw [up_k hκ hk ht (fun z => by
        have hf := z.1
        have hi := z.2
        rw [show fK 5 = 99 by decide +kernel] at hf
        subst hf
        omega)]
    have p4 : (lup (lup (lup la 4 (σ 5 0) M) 16 (σ 5 0) r1) 17 (σ 5 0) r2) 4 (σ 5 0) = M := by rw [lup_k (by decide), lup_k (by decide)]; exact lup_s
    have p16 : (lup (lup (lup la 4 (σ 5 0) M) 16 (σ 5 0) r1) 17 (σ 5 0) r2) 16 (σ 5 0) = r1 := by rw [lup_k (by decide)]; exact lup_s
    have p17 : (lup (lup (lup la 4 (σ 5 0) M) 16 (σ 5 0) r1) 17 (σ 5 0) r2) 17 (σ 5 0) = r2 := lup_s
    have hcw : cW σ1 := by rw [hσ1]; exact (cW_up (cW_up hC.2.2.2.2.2.1 (fun q => by first | omega | (have h9 := hmc 0; omega) | cases q) (fun q => by first | omega | cases q)) (fun q => by first | omega | (have h9 := hmc 0; omega) | cases q) (fun q => by first | omega | cases q))
    obtain ⟨r9, c9, hC9, hc9, hfr9⟩ := CP.addL (n := (σ 5 0)) (laN := (lup (lup (lup la 4 (σ 5 0) M) 16 (σ 5 0) r1) 17 (σ 5 0) r2)) (σ' := σ1) (M := M) (N := (fun κ i => (κ = 4 ∧ i = (σ 5 0)) ∨ (κ = 16 ∧ i = (σ 5 0)) ∨ (κ = 17 ∧ i = (σ 5 0)))) hC hMl (by omega) hAM (by omega) hRf hcw hcl31 (by omega) rfl hps31 (fun j hj => l31d j hj) hlv (fun κ i z => by have z2 : (κ = 4 ∧ i = (σ 5 0)) ∨ (κ = 16 ∧ i = (σ 5 0)) ∨ (κ = 17 ∧ i = (σ 5 0)) := z; omega) (fun L z => by have z2 : (11 = 4 ∧ L = (σ 5 0)) ∨ (11 = 16 ∧ L = (σ 5 0)) ∨ (11 = 17 ∧ L = (σ 5 0)) := z; omega) (fun κ i a b9 => by
      rw [lup_n (fun z => by rcases z with ⟨rfl, rfl⟩; have hq : 0 ≤ σ 5 0 ∧ σ 5 0 < σ 5 0 := b9; omega), lup_n (fun z => by rcases z with ⟨rfl, rfl⟩; have hq : 0 ≤ σ 5 0 ∧ σ 5 0 < σ 5 0 := b9; omega), lup_n (fun z => by rcases z with ⟨rfl, rfl⟩; have hq : 0 ≤ σ 5 0 ∧ σ 5 0 < σ 5 0 := b9; omega)]) (fun L => ⟨by rw [lup_k (by decide), lup_k (by decide), lup_k (by decide)], by rw [lup_k (by decide), lup_k (by decide), lup_k (by decide)]⟩) hnum (fun i h9 => by rw [hσ1, up_f (by decide), up_f (by decide)]) (fun i h9 => by rw [hσ1, up_f (by decide), up_f (by decide)]) (fun i h9 => by rw [hσ1, up_f (by decide), up_f (by decide)]) (fun i h9 => by rw [hσ1, up_f (by decide), up_f (by decide)]) (fun i h9 => by rw [hσ1, up_f (by decide), up_f (by decide)]) (fun κ i a b c j hj => by rw [hσ1, aV_u (by decide) a b, aV_u (by decide) a b]) (fun L a b => by
      have ha : 0 ≤ L ∧ L < 5 + 2 * σ 23 0 := a
      unfold cSz
      simp only [e5, e11, e23, e27, e45, e58, e59, e18, e22]
      repeat' split
      all_goals first | rfl | omega) (fun L j ha9 hb0 hd9 => by
      unfold cEl
      repeat' split
      all_goals first | rfl | (rename_i hL1; subst hL1; have d2 : j < σ 5 0 := hd9; rw [lup_k (by decide), lup_k (by decide), lup_n (by omega)])) (show σ1 5 0 = σ 5 0 + 1 from e5) (by rw [hσ1]; exact up_s) (show (lup (lup (lup la 4 (σ 5 0) M) 16 (σ 5 0) r1) 17 (σ 5 0) r2) 4 (σ 5 0) = M from p4) (fun lb hlb κ i ha9 z => by
      have z2 : (κ = 4 ∧ i = (σ 5 0)) ∨ (κ = 16 ∧ i = (σ 5 0)) ∨ (κ = 17 ∧ i = (σ 5 0)) := z
      have zk : κ = 4 := by omega
      have zi : i = σ 5 0 := by omega
      subst zk; subst zi
      rw [p4]
      refine nO.to (fun k hk => ?_)
      have hk2 : k < 2 := hk
      rcases (show k = 0 ∨ k = 1 by omega) with rfl | rfl
      · show _ = va_rf (some (lb 16 (σ 5 0))); rw [hlb 16 _ (by decide), p16]; rfl
      · show _ = va_rf (some (lb 17 (σ 5 0))); rw [hlb 17 _ (by decide), p17]; rfl) (fun κ i ha9 hb0 z => by
      have z2 : (κ = 4 ∧ i = (σ 5 0)) ∨ (κ = 16 ∧ i = (σ 5 0)) ∨ (κ = 17 ∧ i = (σ 5 0)) := z
      have z3 : (κ = 16 ∨ κ = 17) ∧ i = σ 5 0 := by omega
      obtain ⟨rfl | rfl, rfl⟩ := z3
      · rw [p16, n1]
        congr 1
        refine arrV_ext (fun j hj => ?_)
        show _ = Value.int (iI (σ1 3 (3 * σ 5 0 + j)))
        rw [show σ1 3 (3 * σ 5 0 + (j : Int)) = 0 by rw [hσ1]; simp [up_rd]; exact hz3 _ (by omega)]; rfl
      · rw [p17, n2]
        congr 1
        refine arrV_ext (fun j hj => ?_)
        show _ = Value.int (iI (σ1 4 (3 * σ 5 0 + j)))
        rw [show σ1 4 (3 * σ 5 0 + (j : Int)) = 0 by rw [hσ1]; simp [up_rd]; exact hz4 _ (by omega)]; rfl) (fun κ i z => by
      have z2 : (κ = 4 ∧ i = (σ 5 0)) ∨ (κ = 16 ∧ i = (σ 5 0)) ∨ (κ = 17 ∧ i = (σ 5 0)) := z
      have z3 : (κ = 4 ∨ κ = 16 ∨ κ = 17) ∧ i = σ 5 0 := by omega
      obtain ⟨rfl | rfl | rfl, rfl⟩ := z3
      · rw [p4]; omega
      · rw [p16]; omega
      · rw [p17]; have := (Array.getElem?_eq_some_iff.mp n2).1; omega) (fun κ κ' i i' z z' e => by
      have z2 : (κ = 4 ∧ i = (σ 5 0)) ∨ (κ = 16 ∧ i = (σ 5 0)) ∨ (κ = 17 ∧ i = (σ 5 0)) := z
      have z3 : (κ = 4 ∨ κ = 16 ∨ κ = 17) ∧ i = σ 5 0 := by omega
      have y2 : (κ' = 4 ∧ i' = (σ 5 0)) ∨ (κ' = 16 ∧ i' = (σ 5 0)) ∨ (κ' = 17 ∧ i' = (σ 5 0)) := z'
      have y3 : (κ' = 4 ∨ κ' = 16 ∨ κ' = 17) ∧ i' = σ 5 0 := by omega
      obtain ⟨h1, rfl⟩ := z3
      obtain ⟨h2, rfl⟩ := y3
      rcases h1 with rfl | rfl | rfl <;> rcases h2 with rfl | rfl | rfl <;> (first | exact ⟨rfl, rfl⟩ | (exfalso; rw [p4] at e; first | (rw [p16] at e; omega) | (rw [p17] at e; omega)) | (exfalso; rw [p16, p17] at e; omega) | (exfalso; rw [p17, p16] at e; omega)))
    obtain ⟨lb, hlb⟩ : ∃ z, z = lup (lup (lup (lup (lup la 4 (σ 5 0) M) 16 (σ 5 0) r1) 17 (σ 5 0) r2) 18 0 r9) 19 0 c9 := ⟨_, rfl⟩
    rw [← hlb] at hC9
    refine x_aload_n B hl dX10_street_35 rfl ?_
    have hT36 : t_OB (la 0 0) (D.1 (cCi 0)) (cN 0) (D.2 (cCi 0)) H31 (cV lb σ1 0 0) := by
      have h9 := hC9.1 0 0 (by decide) (cl_0)
      rw [(show lb 0 0 = la 0 0 by rw [hlb, lup_k (by decide), lup_k (by decide)]; exact ((lup_k (by decide)).trans ((lup_k (by decide)).trans (lup_k (by decide)))))] at h9
      exact h9
    refine ob_get (ci := 11) (C := RX10) (T := TX10) (N := 11) E hT36 rfl (fun z h => List.mem_cons_of_mem _ (List.mem_append_left _ (List.mem_append_left _ (List.mem_append_left _ (List.mem_append_right _ h))))) 0 (by decide) (hts (.fieldLink RX10 10 "BinRounds" "streets" "Ljava/util/ArrayList;") (by decide +kernel)) (fun x hx => hx) dX10_street_36 (show va_rf (some (lb 11 0)) = .ref (la 11 0) by rw [(show lb 11 0 = la 11 0 by rw [hlb, lup_k (by decide), lup_k (by decide)]; exact ((lup_k (by decide)).trans ((lup_k (by decide)).trans (lup_k (by decide)))))]; rfl) ?_
    obtain ⟨f39, q39a, -, -, -⟩ := hC9.lst (L := 0) (n := (σ 5 0 + 1)) (cl_11 (by omega)) (show σ1 5 0 = σ 5 0 + 1 from e5)
    rw [(show lb 11 0 = la 11 0 by rw [hlb, lup_k (by decide), lup_k (by decide)]; exact ((lup_k (by decide)).trans ((lup_k (by decide)).trans (lup_k (by decide)))))] at q39a
    refine cb_callV (A' := fun z => H31.size ≤ z) E hK hS hl (fun z h => hA z (by have := hS.1; omega)) (fun z h => h) (obRecv hK q39a rfl) (l_size l D cy d0 _) q39a (cwV 0 hts0 gX10_street_Jx4a65c_size_8abf5 rfl rfl rfl (by decide +kernel) ⟨Nat.le_of_ble_eq_true rfl, Nat.le_of_ble_eq_true rfl⟩) rfl rfl (Nat.le_of_ble_eq_true rfl) dX10_street_39 ⟨Nat.le_of_ble_eq_true rfl, Nat.le_of_ble_eq_true rfl⟩ (fun H39 locs v hv z39 o39 hS9 => ?_)
    obtain ⟨rfl, rfl⟩ := hv
    refine x_iconst B dX10_street_42 ?_
    refine x_isub B dX10_street_43 ?_
    refine w_widen (Nat.le_of_ble_eq_true rfl) (Nat.le_of_ble_eq_true rfl) (vx_ret (co_iret E hr rfl hlk hC9 hS9 dX10_street_44 ⟨by rw [show streetC σ = 0 by unfold streetC; rw [if_neg (by omega)]]; rfl, congrArg (fun z => some (Value.int (iI z))) (by omega), ⟨by rw [hlb, lup_k (by decide), lup_k (by decide), lup_k (by decide), lup_k (by decide), lup_k (by decide)], fun L hL => ?_⟩, hσ1⟩))
    by_cases hL1 : L = 0
    · subst hL1; rw [hlb]; rw [lup_s]; omega
    · rw [hlb]; rw [lup_o hL1, lup_k (by decide), lup_k (by decide), lup_k (by decide), lup_k (by decide)]
      refine hcp L ?_
      have h2 : 0 ≤ L ∧ L < 5 + 2 * σ1 23 0 := hL
      rw [e23] at h2
      exact h2
  refine x_aload_n B hl dX10_street_0 rfl ?_
  refine co_getR (x := la 11 0) E hC 0 (by decide) cl_0 rfl (fun z h => List.mem_cons_of_mem _ (List.mem_append_left _ (List.mem_append_left _ (List.mem_append_left _ (List.mem_append_right _ h))))) 0 (by decide) (hts (.fieldLink RX10 10 "BinRounds" "streets" "Ljava/util/ArrayList;") (by decide +kernel)) (fun x hx => hx) dX10_street_1 rfl rfl ?_
  refine co_call E hK hC hS hl (κ := 11) (i := 0) (by decide) (cl_11 (by omega)) rfl (c_size l D cy d0 A la _ (L := 0) (n := σ 5 0) (cl_11 (by omega)) (cSz_0.trans rfl)) (cwV 0 hts0 gX10_street_Jx4a65c_size_8abf5 rfl rfl rfl (by decide +kernel) ⟨Nat.le_of_ble_eq_true rfl, Nat.le_of_ble_eq_true rfl⟩) rfl rfl (Nat.le_of_ble_eq_true rfl) dX10_street_4 ⟨Nat.le_of_ble_eq_true rfl, Nat.le_of_ble_eq_true rfl⟩ (fun H locs q_4 hC hS => ?_)
  refine x_bipush B dX10_street_7 (by decide) ?_
  refine x_icmp_ge (tgt := 16) B dX10_street_9 (by decide) (by omega) (by omega) (fun c_9 => ?_) (fun c_9 => ?_)
  · refine x_iconst B dX10_street_16 ?_
    refine cstm_call E hout hlk hK hC hS hl (c_requireRoom l hlt D cy d0 A la _ (z := 0) (Or.inl rfl)) (va_cwS 1 hts0 gX10_street_X10_requireRoom rfl rfl rfl (by decide +kernel) ⟨Nat.le_of_ble_eq_true rfl, Nat.le_of_ble_eq_true rfl⟩) rfl rfl (Nat.le_of_ble_eq_true rfl) dX10_street_17 ⟨Nat.le_of_ble_eq_true rfl, Nat.le_of_ble_eq_true rfl⟩ ⟨Nat.le_of_ble_eq_true rfl, Nat.le_of_ble_eq_true rfl⟩ (fun h => ⟨by unfold streetC; omega, rfl⟩) (fun h9_17 H locs q_17 hC hS => ?_)
    exact w_widen (Nat.le_of_ble_eq_true rfl) (Nat.le_of_ble_eq_true rfl) (tail _ _ ls (by omega) hC hS (lv_key hl _ rfl))
  · refine x_iconst B dX10_street_12 ?_
    refine x_goto (tgt := 17) B dX10_street_13 (by decide) ?_
    refine cstm_call E hout hlk hK hC hS hl (c_requireRoom l hlt D cy d0 A la _ (z := 1) (Or.inr rfl)) (va_cwS 1 hts0 gX10_street_X10_requireRoom rfl rfl rfl (by decide +kernel) ⟨Nat.le_of_ble_eq_true rfl, Nat.le_of_ble_eq_true rfl⟩) rfl rfl (Nat.le_of_ble_eq_true rfl) dX10_street_17 ⟨Nat.le_of_ble_eq_true rfl, Nat.le_of_ble_eq_true rfl⟩ ⟨Nat.le_of_ble_eq_true rfl, Nat.le_of_ble_eq_true rfl⟩ (fun h => ⟨by unfold streetC; omega, rfl⟩) (fun h9_17 H locs q_17 hC hS => ?_)
    exact w_widen (Nat.le_of_ble_eq_true rfl) (Nat.le_of_ble_eq_true rfl) (tail _ _ ls (by omega) hC hS (lv_key hl _ rfl))
