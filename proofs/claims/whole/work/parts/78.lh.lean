set_option maxHeartbeats 4000000 in
set_option maxRecDepth 100000 in
theorem c_p_move (l : Launch) (hlt : l.stackTraces = false) (D : va_G) (cy : Nat → ClassId) (d0 : Nat) (A : Nat → Prop) (la : Nat → Int → Nat) (σ : MS) {b : Int} {h : Int} {d : Int} (h_b : -2147483648 ≤ b ∧ b < 2147483648) (h_h : -2147483648 ≤ h ∧ h < 2147483648) (h_d : -2147483648 ≤ d ∧ d < 2147483648) (hn5 : 0 ≤ σ 5 0 ∧ σ 5 0 ≤ 1000) (hn11 : 0 ≤ σ 11 0 ∧ σ 11 0 ≤ 1000) (hn23 : 0 ≤ σ 23 0 ∧ σ 23 0 ≤ 1000) (hn27 : 0 ≤ σ 27 0 ∧ σ 27 0 ≤ 1000) (hn45 : 0 ≤ σ 45 0 ∧ σ 45 0 ≤ 600) (hlg : σ 58 0 = 0 ∧ σ 59 0 = 0) (hRf : cRefs σ) (hmc : ∀ L, 0 ≤ σ 57 L ∧ σ 57 L ≤ 1000000) (hcp : ∀ L, cLive la σ 11 L → la 19 L ≤ 1000) (hm18 : ∀ b, 0 ≤ σ 18 b ∧ σ 18 b ≤ 8) (hm22 : ∀ b, 0 ≤ σ 22 b ∧ σ 22 b ≤ 20) (hz18 : ∀ b, 0 ≤ σ 18 b ∧ σ 18 b ≤ 8) (hz22 : ∀ b, 0 ≤ σ 22 b ∧ σ 22 b ≤ 20) (h1d : 0 ≤ σ 1 0 ∧ σ 1 0 ≤ 699) (h1m : ∀ b, 0 ≤ b → b < σ 23 0 → 1 ≤ σ 18 b) : CT l yX10_move wsX10_move ({ frames := 8, cells := 24, slots := 2100, locals := 256 } : Room) D cy d0 A [.ref (la 0 0), .int (iI b), .int (iI h), .int (iI d)] la σ ((if moveC σ b h d = 1 then 1 else (if moveC σ b h d = 2 then 2 else (if moveC σ b h d = 3 then 3 else 0)))) (fun v' la' τ => v' = some (.int (iI (σ 18 b + 1))) ∧ (la' 0 0 = la 0 0 ∧ ∀ L, cLive la' τ 11 L → la' 19 L ≤ 1000) ∧ τ = (up (up (up (up σ 16 (8 * b + σ 18 b) h) 17 (8 * b + σ 18 b) d) 18 b (σ 18 b + 1)) 57 (5 + 2 * b) (σ 57 (5 + 2 * b) + 1))) 24 2100 := by
  refine ct_of (cc := cX10_move) (nL := 6) (ret := (some .int)) (by decide) rfl (Nat.le_of_ble_eq_true rfl) ?_
  intro p e s m args below meth c ls E hout hr hlk hK hC hS hl
  have B := E.1
  have hml := E.2.1
  have hown := E.2.2.1
  have hts0 := E.2.2.2.1
  have hts := E.2.2.2.1
  have hw := hC.2.2.2.2.2.1
  have hA := hK.2.2.2.2.2.2.1
  have tail : ∀ (H : Heap) (locs : List Loc) (ls : Array Slot) (hb1 : 0 ≤ b ∧ b < σ 23 0) (hh1 : 0 ≤ h ∧ h < σ 11 0) (hr9 : 0 ≤ σ 18 b ∧ σ 18 b < 8) (hd9 : 0 ≤ d ∧ d ≤ 699) (hc0 : moveC σ b h d = 0), CP D cy d0 A la σ H → va_S A s.heap H locs → lv_has ls 6 [(0, .ref (la 0 0)), (1, .int (iI b)), (2, .int (iI h)), (3, .int (iI d)), (4, .ref (la 6 b)), (5, .ref (la 5 h))] → W p l e ({ frames := 8, cells := 24, slots := 2100, locals := 256 } : Room) s m args below meth c H locs 16 64 (vx_MQ below (cQ D cy d0 A (fun v la' τ => (((if moveC σ b h d = 1 then 1 else (if moveC σ b h d = 2 then 2 else (if moveC σ b h d = 3 then 3 else 0))) : Int)) = 0 ∧ (fun v' la' τ => v' = some (.int (iI (σ 18 b + 1))) ∧ (la' 0 0 = la 0 0 ∧ ∀ L, cLive la' τ 11 L → la' 19 L ≤ 1000) ∧ τ = (up (up (up (up σ 16 (8 * b + σ 18 b) h) 17 (8 * b + σ 18 b) d) 18 b (σ 18 b + 1)) 57 (5 + 2 * b) (σ 57 (5 + 2 * b) + 1))) v la' τ)) (cXX D cy d0 A ((if moveC σ b h d = 1 then 1 else (if moveC σ b h d = 2 then 2 else (if moveC σ b h d = 3 then 3 else 0)))) la σ) args s 24 2100 A) (F0 m 59 ls []) := by
    intro H0 locs ls hb1 hh1 hr9 hd9 hc0 hC hS hl
    refine x_aload B hl dX10_move_59 rfl ?_
    refine co_getR (x := la 11 (5 + 2 * b)) E hC 6 (by decide) (cl_6 hb1) rfl (fun z h => List.mem_cons_of_mem _ (List.mem_append_left _ (List.mem_append_left _ (List.mem_append_left _ (List.mem_append_left _ (List.mem_append_left _ (List.mem_append_right _ h))))))) 2 (by decide) (hts (.fieldLink RX10 125 "BinRounds$Bin" "moves" "Ljava/util/ArrayList;") (by decide +kernel)) (fun x hx => hx) dX10_move_61 rfl rfl ?_
    obtain ⟨M, hMe⟩ : ∃ z, z = H0.size := ⟨_, rfl⟩
    have hMl : ∀ κ i, κ ≤ 18 → cLive la σ κ i → la κ i < M := fun κ i a b => by rw [hMe]; exact hC.lt a b
    have hAM : ∀ q, M ≤ q → A q := fun q h => hA q (by have := hS.1; omega)
    refine ob_new (ci := 6) (C := RX5) (T := TX5) E hS rfl (fun z h => List.mem_cons_of_mem _ (List.mem_append_left _ (List.mem_append_left _ (List.mem_append_left _ (List.mem_append_left _ (List.mem_append_right _ h)))))) tyX5_ok (hts (.classLink RX10 128 RX5) (by decide +kernel)) (hts (.instantiable RX5 2) (by decide +kernel)) (hts (.initialized RX5) (by decide +kernel)) (Nat.le_of_ble_eq_true rfl) (Nat.le_of_ble_eq_true rfl) dX10_move_64 (fun H1 nO o64 z64 hS => ?_)
    rw [← hMe] at nO o64 z64 ⊢
    have hC := hC.kept (fun κ i a b => o64 _ (hMl κ i a b))
    refine x_dup B dX10_move_67 rfl ?_
    refine x_aload B hl dX10_move_68 rfl ?_
    refine x_iload_n B hl dX10_move_70 rfl ?_
    refine cb_callI (A' := fun z => z = M ∨ H1.size ≤ z) (av := [.ref (la 5 h), .int (iI d)]) E hK hS hl (fun z h => h.elim (fun h => hAM z (by omega)) (fun h => hA z (by have := hS.1; omega))) (fun z h => Or.inr h) (k_Move l D cy d0 _ (q := M) (Or.inl rfl)) nO (cwI 2 hts0 gX10_move_X5_init rfl rfl rfl (hts (.initialized RX5) (by decide +kernel)) (hts (.methodLink RX10 130 yX5_init) (by decide +kernel)) (hts (.instanceMethod yX5_init) (by decide +kernel)) rfl (by decide +kernel) ⟨Nat.le_of_ble_eq_true rfl, Nat.le_of_ble_eq_true rfl⟩) rfl rfl (Nat.le_of_ble_eq_true rfl) dX10_move_71 ⟨Nat.le_of_ble_eq_true rfl, Nat.le_of_ble_eq_true rfl⟩ (fun H2 locs v hv z71 o71 hS => ?_)
    obtain ⟨rfl, nO⟩ := hv
    have hC := hC.kept (fun κ i a b => o71 _ (by have := hMl κ i a b; omega) (fun z => z.elim (fun e => by have := hMl κ i a b; omega) (fun e => by have := hMl κ i a b; omega)))
    have hcb := hb1.1
    obtain ⟨f74, l74a, l74b, l74c, l74d⟩ := hC.lst (L := (5 + 2 * b)) (n := (σ 18 b)) ((cl_11 (by omega))) (cSz_m hb1.1)
    have hcl74 := (show cLive la σ 11 (5 + 2 * b) from cl_11 (by omega))
    have hel74 : ∀ j : Nat, (j : Int) < (σ 18 b) → ∀ y, f74 j = some y → y = la 7 (8 * b + (j : Int)) ∧ cLive la σ 7 (8 * b + (j : Int)) := fun j hj y hy => by
      rw [l74d j hj] at hy
      refine ⟨(Option.some.inj hy).symm.trans (cEl_m hcb _), ?_⟩
      exact cl_7b hb1 ⟨by omega, by omega⟩ (by omega)
    refine cb_callV (A' := (fun z => z = la 11 (5 + 2 * b) ∨ (0 < la 19 (5 + 2 * b) ∧ z = la 18 (5 + 2 * b)) ∨ H2.size ≤ z)) E hK hS hl (fun z h => h.elim (fun h => h ▸ hC.2.2.2.2.1 11 (5 + 2 * b) (by decide) hcl74) (fun h => h.elim (fun h => h.2 ▸ hC.2.2.2.2.1 18 (5 + 2 * b) (by decide) ⟨hcl74, h.1⟩) (fun h => hA z (by have := hS.1; omega)))) (fun z h => Or.inr (Or.inr h)) (obRecv hK l74a rfl) (l_add l D cy d0 (fun z => z = la 11 (5 + 2 * b) ∨ (0 < la 19 (5 + 2 * b) ∧ z = la 18 (5 + 2 * b)) ∨ H2.size ≤ z) (a := la 11 (5 + 2 * b)) (r := la 18 (5 + 2 * b)) (cap := la 19 (5 + 2 * b)) (x := M) (mm := σ 57 (5 + 2 * b)) (n := (σ 18 b)) (f := f74) (show vwCl[6]? = some (RX5, TX5, 2) from rfl) (fun U h => h.2.2.2.2.2.2.1) (hcp (5 + 2 * b) hcl74) (Or.inl rfl) (fun h => Or.inr (Or.inl ⟨h, rfl⟩)) (fun h z => by have h9 := hC.2.2.2.1 11 18 (5 + 2 * b) (5 + 2 * b) (by decide) (by decide) hcl74 ⟨hcl74, h⟩ z; omega) ⟨by omega, l74c⟩ (by omega) (fun z => by have := hMl 11 (5 + 2 * b) (by decide) hcl74; omega) (fun j hj y hy z => by
      have h8 := hel74 j hj y hy
      have h9 := hC.2.2.2.1 7 11 _ (5 + 2 * b) (by decide) (by decide) h8.2 hcl74 (h8.1.symm.trans z)
      omega)) ⟨l74a, l74b, fun j hj y hy => elC_at (hel74 j hj y hy).1 ⟨_, hC.1 7 _ (by decide) (hel74 j hj y hy).2⟩, ⟨_, nO⟩⟩ (cwV 1 hts0 gX10_move_Jx4a65c_add_9ea2d rfl rfl rfl (by decide +kernel) ⟨Nat.le_of_ble_eq_true rfl, Nat.le_of_ble_eq_true rfl⟩) rfl rfl (Nat.le_of_ble_eq_true rfl) dX10_move_74 ⟨Nat.le_of_ble_eq_true rfl, Nat.le_of_ble_eq_true rfl⟩ (fun H3 locs v hv z74 o74 hS => ?_)
    obtain ⟨rfl, hps74⟩ := hv
    refine x_pop B dX10_move_77 rfl ?_
    obtain ⟨σ1, hσ1⟩ : ∃ z, z = (up (up (up (up σ 16 (8 * b + σ 18 b) h) 17 (8 * b + σ 18 b) d) 18 b (σ 18 b + 1)) 57 (5 + 2 * b) (σ 57 (5 + 2 * b) + 1)) := ⟨_, rfl⟩
    have e5 : σ1 5 0 = σ 5 0 := by rw [hσ1]; first | rfl | (simp [up_rd]; done)
    have e11 : σ1 11 0 = σ 11 0 := by rw [hσ1]; first | rfl | (simp [up_rd]; done)
    have e23 : σ1 23 0 = σ 23 0 := by rw [hσ1]; first | rfl | (simp [up_rd]; done)
    have e27 : σ1 27 0 = σ 27 0 := by rw [hσ1]; first | rfl | (simp [up_rd]; done)
    have e45 : σ1 45 0 = σ 45 0 := by rw [hσ1]; first | rfl | (simp [up_rd]; done)
    have e58 : σ1 58 0 = σ 58 0 := by rw [hσ1]; first | rfl | (simp [up_rd]; done)
    have e59 : σ1 59 0 = σ 59 0 := by rw [hσ1]; first | rfl | (simp [up_rd]; done)
    have e18 : ∀ j, σ1 18 j = (if j = b then (σ 18 b + 1) else σ 18 j) := fun j => by rw [hσ1]; first | rfl | (simp [up_rd]; done)
    have e22 : ∀ j, σ1 22 j = σ 22 j := fun j => by rw [hσ1]; first | rfl | (simp [up_rd]; done)
    have hlv : ∀ (lb : Nat → Int → Nat) κ i, κ ≤ 17 → cLive lb σ1 κ i → cLive la σ κ i ∨ (fun κ i => (κ = 7 ∧ i = (8 * b + σ 18 b))) κ i := by
      intro lb κ i hκ h
      rcases (show κ = 0 ∨ κ = 1 ∨ κ = 2 ∨ κ = 3 ∨ κ = 4 ∨ κ = 5 ∨ κ = 6 ∨ κ = 7 ∨ κ = 8 ∨ κ = 9 ∨ κ = 10 ∨ κ = 11 ∨ κ = 12 ∨ κ = 13 ∨ κ = 14 ∨ κ = 15 ∨ κ = 16 ∨ κ = 17 by omega) with rfl | rfl | rfl | rfl | rfl | rfl | rfl | rfl | rfl | rfl | rfl | rfl | rfl | rfl | rfl | rfl | rfl | rfl
      · have h2 : i = 0 := h
        exact Or.inl (show i = 0 by first | exact h2 | omega | (have q18 := e18 (i / 8); have q22 := e22 (i / 20); omega))
      · have h2 : i = 0 := h
        exact Or.inl (show i = 0 by first | exact h2 | omega | (have q18 := e18 (i / 8); have q22 := e22 (i / 20); omega))
      · have h2 : i = 0 := h
        exact Or.inl (show i = 0 by first | exact h2 | omega | (have q18 := e18 (i / 8); have q22 := e22 (i / 20); omega))
      · have h2 : i = 0 := h
        exact Or.inl (show i = 0 by first | exact h2 | omega | (have q18 := e18 (i / 8); have q22 := e22 (i / 20); omega))
      · have h2 : 0 ≤ i ∧ i < σ1 5 0 := h
        rw [e5] at h2
        exact Or.inl (show 0 ≤ i ∧ i < σ 5 0 by first | exact h2 | omega | (have q18 := e18 (i / 8); have q22 := e22 (i / 20); omega))
      · have h2 : 0 ≤ i ∧ i < σ1 11 0 := h
        rw [e11] at h2
        exact Or.inl (show 0 ≤ i ∧ i < σ 11 0 by first | exact h2 | omega | (have q18 := e18 (i / 8); have q22 := e22 (i / 20); omega))
      · have h2 : 0 ≤ i ∧ i < σ1 23 0 := h
        rw [e23] at h2
        exact Or.inl (show 0 ≤ i ∧ i < σ 23 0 by first | exact h2 | omega | (have q18 := e18 (i / 8); have q22 := e22 (i / 20); omega))
      · have h2 : 0 ≤ i ∧ i / 8 < σ1 23 0 ∧ i % 8 < σ1 18 (i / 8) := h
        rw [e23] at h2
        rw [e18] at h2
        by_cases hb9 : i / 8 = b
        · rw [if_pos hb9] at h2
          have hb8 : σ 18 (i / 8) = σ 18 (b) := by rw [hb9]
          by_cases hn9 : i = (8 * b + σ 18 b)
          · exact Or.inr (by first | exact ⟨rfl, hn9⟩ | exact Or.inl ⟨rfl, hn9⟩ | exact Or.inr ⟨rfl, hn9⟩)
          · exact Or.inl (show 0 ≤ i ∧ i / 8 < σ 23 0 ∧ i % 8 < σ 18 (i / 8) by omega)
        · rw [if_neg hb9] at h2
          exact Or.inl (show 0 ≤ i ∧ i / 8 < σ 23 0 ∧ i % 8 < σ 18 (i / 8) by omega)
      · have h2 : 0 ≤ i ∧ i / 20 < σ1 23 0 ∧ i % 20 < σ1 22 (i / 20) := h
        rw [e23] at h2
        exact Or.inl (show 0 ≤ i ∧ i / 20 < σ 23 0 ∧ i % 20 < σ 22 (i / 20) by first | exact h2 | omega | (have q18 := e18 (i / 8); have q22 := e22 (i / 20); omega))
      · have h2 : 0 ≤ i ∧ i < σ1 27 0 := h
        rw [e27] at h2
        exact Or.inl (show 0 ≤ i ∧ i < σ 27 0 by first | exact h2 | omega | (have q18 := e18 (i / 8); have q22 := e22 (i / 20); omega))
      · have h2 : 0 ≤ i ∧ i < σ1 45 0 := h
        rw [e45] at h2
        exact Or.inl (show 0 ≤ i ∧ i < σ 45 0 by first | exact h2 | omega | (have q18 := e18 (i / 8); have q22 := e22 (i / 20); omega))
      · have h2 : 0 ≤ i ∧ i < 5 + 2 * σ1 23 0 := h
        rw [e23] at h2
        exact Or.inl (show 0 ≤ i ∧ i < 5 + 2 * σ 23 0 by first | exact h2 | omega | (have q18 := e18 (i / 8); have q22 := e22 (i / 20); omega))
      · have h2 : i = 0 := h
        exact Or.inl (show i = 0 by first | exact h2 | omega | (have q18 := e18 (i / 8); have q22 := e22 (i / 20); omega))
      · have h2 : i = 0 := h
        exact Or.inl (show i = 0 by first | exact h2 | omega | (have q18 := e18 (i / 8); have q22 := e22 (i / 20); omega))
      · have h2 : i = 0 := h
        exact Or.inl (show i = 0 by first | exact h2 | omega | (have q18 := e18 (i / 8); have q22 := e22 (i / 20); omega))
      · have h2 : i = 0 := h
        exact Or.inl (show i = 0 by first | exact h2 | omega | (have q18 := e18 (i / 8); have q22 := e22 (i / 20); omega))
      · have h2 : 0 ≤ i ∧ i < σ1 5 0 := h
        rw [e5] at h2
        exact Or.inl (show 0 ≤ i ∧ i < σ 5 0 by first | exact h2 | omega | (have q18 := e18 (i / 8); have q22 := e22 (i / 20); omega))
      · have h2 : 0 ≤ i ∧ i < σ1 5 0 := h
        rw [e5] at h2
        exact Or.inl (show 0 ≤ i ∧ i < σ 5 0 by first | exact h2 | omega | (have q18 := e18 (i / 8); have q22 := e22 (i / 20); omega))
    have hnum : ∀ κ i, κ ≤ 11 → cLive la σ κ i → ¬ (κ = 11 ∧ i = (5 + 2 * b)) → ∀ k, k < cN κ → (sT κ k = 1 ∨ sT κ k = 2) → σ1 (sF κ k) i = σ (sF κ k) i := by
      intro κ i hκ h hn9 k hk ht
      rw [hσ1]
      rw [up_k hκ hk ht (fun z => by
        have hf := z.1
        have hi := z.2
        rw [show fK 57 = 11 by decide +kernel] at hf
        subst hf
        have hq : 0 ≤ i ∧ i < 5 + 2 * σ 23 0 := h
        omega)]
      rw [up_k hκ hk ht (fun z => by
        have hf := z.1
        have hi := z.2
        rw [show fK 18 = 99 by decide +kernel] at hf
        subst hf
        omega)]
      rw [up_k hκ hk ht (fun z => by
        have hf := z.1
        have hi := z.2
        rw [show fK 17 = 7 by decide +kernel] at hf
        subst hf
        have hq : 0 ≤ i ∧ i / 8 < σ 23 0 ∧ i % 8 < σ 18 (i / 8) := h
        have hd8 : i / 8 = b := by omega
        rw [hd8] at hq
        omega)]
      rw [up_k hκ hk ht (fun z => by
        have hf := z.1
        have hi := z.2
        rw [show fK 16 = 99 by decide +kernel] at hf
        subst hf
        omega)]
    have hcw : cW σ1 := by rw [hσ1]; exact (cW_up (cW_up (cW_up (cW_up hC.2.2.2.2.2.1 (fun q => by first | omega | (have h9 := hmc (8 * b + σ 18 b); omega) | cases q) (fun q => by first | omega | cases q)) (fun q => by first | omega | (have h9 := hmc (8 * b + σ 18 b); omega) | cases q) (fun q => by first | omega | cases q)) (fun q => by first | omega | (have h9 := hmc b; omega) | cases q) (fun q => by first | omega | cases q)) (fun q => by first | omega | (have h9 := hmc (5 + 2 * b); omega) | cases q) (fun q => by first | omega | cases q))
    obtain ⟨r9, c9, hC9, hc9, hfr9⟩ := CP.addL (n := (σ 18 b)) (laN := (lup la 7 (8 * b + σ 18 b) M)) (σ' := σ1) (M := M) (N := (fun κ i => (κ = 7 ∧ i = (8 * b + σ 18 b)))) hC hMl (by omega) hAM (by omega) hRf hcw hcl74 (by omega) (cSz_m hb1.1) hps74 (fun j hj => l74d j hj) hlv (fun κ i z => by have z2 : (κ = 7 ∧ i = (8 * b + σ 18 b)) := z; omega) (fun L z => by have z2 : (11 = 7 ∧ L = (8 * b + σ 18 b)) := z; omega) (fun κ i a b9 => lup_n (fun z => by
      rcases z with ⟨rfl, rfl⟩
      have hq : 0 ≤ (8 * b + σ 18 b) ∧ (8 * b + σ 18 b) / 8 < σ 23 0 ∧ (8 * b + σ 18 b) % 8 < σ 18 ((8 * b + σ 18 b) / 8) := b9
      have hq2 : (8 * b + σ 18 b) / 8 = b := by omega
      rw [hq2] at hq
      omega)) (fun L => ⟨lup_k (by decide), lup_k (by decide)⟩) hnum (fun i h9 => by rw [hσ1, up_f (by decide), up_f (by decide), up_f (by decide), up_f (by decide)]) (fun i h9 => by rw [hσ1, up_f (by decide), up_f (by decide), up_f (by decide), up_o (fun z9 => by have hq : 0 ≤ i ∧ i / 8 < σ 23 0 ∧ i % 8 < σ 18 (i / 8) := h9; have hd8 : i / 8 = b := (by omega); rw [hd8] at hq; omega)]) (fun i h9 => by rw [hσ1, up_f (by decide), up_f (by decide), up_f (by decide), up_f (by decide)]) (fun i h9 => by rw [hσ1, up_f (by decide), up_f (by decide), up_f (by decide), up_f (by decide)]) (fun i h9 => by rw [hσ1, up_f (by decide), up_f (by decide), up_f (by decide), up_f (by decide)]) (fun κ i a b c j hj => by rw [hσ1, aV_u (by decide) a b, aV_u (by decide) a b, aV_u (by decide) a b, aV_u (by decide) a b]) (fun L a b => by
      have ha : 0 ≤ L ∧ L < 5 + 2 * σ 23 0 := a
      unfold cSz
      simp only [e5, e11, e23, e27, e45, e58, e59, e18, e22]
      repeat' split
      all_goals first | rfl | omega) (fun L j ha9 hb0 hd9 => by
      have ha : 0 ≤ L ∧ L < 5 + 2 * σ 23 0 := ha9
      have hbb := hz18 ((L - 5) / 2)
      unfold cSz at hd9
      unfold cEl
      by_cases q0 : L = 0
      · rw [if_pos q0, if_pos q0]; rfl
      by_cases q1 : L = 1
      · rw [if_neg q0, if_pos q1, if_neg q0, if_pos q1]; rfl
      by_cases q2 : L = 2
      · rw [if_neg q0, if_neg q1, if_pos q2, if_neg q0, if_neg q1, if_pos q2]; rfl
      by_cases q3 : L = 3
      · rw [if_neg q0, if_neg q1, if_neg q2, if_pos q3, if_neg q0, if_neg q1, if_neg q2, if_pos q3]; rfl
      by_cases q4 : L = 4
      · rw [if_neg q0, if_neg q1, if_neg q2, if_neg q3, if_pos q4, if_neg q0, if_neg q1, if_neg q2, if_neg q3, if_pos q4]; rfl
      rw [if_neg q0, if_neg q1, if_neg q2, if_neg q3, if_neg q4] at hd9
      rw [if_neg q0, if_neg q1, if_neg q2, if_neg q3, if_neg q4, if_neg q0, if_neg q1, if_neg q2, if_neg q3, if_neg q4]
      by_cases q5 : (L - 5) % 2 = 0
      · rw [if_pos q5] at hd9
        rw [if_pos q5, if_pos q5]
        exact lup_n (fun z => by
          have z2 := z.2
          by_cases hb9 : (L - 5) / 2 = b
          · rw [hb9] at hd9 z2; omega
          · omega)
      · rw [if_neg q5] at hd9
        rw [if_neg q5, if_neg q5]
        exact lup_n (fun z => by
          have z1 := z.1
          have z2 := z.2
          by_cases hb9 : (L - 5) / 2 = b
          · rw [hb9] at hd9 z2; omega
          · omega)) ((cSz_m hcb).trans (by rw [e18, if_pos rfl])) (by rw [hσ1]; exact up_s) (show cEl (lup la 7 (8 * b + σ 18 b) M) (5 + 2 * b) (σ 18 b) = M from (cEl_m hcb _).trans lup_s) (fun lb hlb κ i ha9 z => by
      rcases z with ⟨rfl, rfl⟩
      rw [show (lup la 7 (8 * b + σ 18 b) M) 7 (8 * b + σ 18 b) = M from lup_s]
      refine nO.to (fun k hk => ?_)
      have hk10 : k < 2 := hk
      have q16 : σ1 16 (8 * b + σ 18 b) = h := by rw [hσ1]; simp [up_rd]
      have q17 : σ1 17 (8 * b + σ 18 b) = d := by rw [hσ1]; simp [up_rd]
      rcases (show k = 0 ∨ k = 1 by omega) with rfl | rfl
      · show _ = va_rf (some (lb 5 (σ1 16 (8 * b + σ 18 b)))); rw [q16, hlb 5 _ (by decide), lup_k (by decide)]; rfl
      · show _ = Value.int (iI (σ1 17 (8 * b + σ 18 b))); rw [q17]; rfl) (fun κ i ha9 hb0 z => by have z2 : (κ = 7 ∧ i = (8 * b + σ 18 b)) := z; omega) (fun κ i z => by rcases z with ⟨rfl, rfl⟩; rw [show (lup la 7 (8 * b + σ 18 b) M) 7 (8 * b + σ 18 b) = M from lup_s]; omega) (fun κ κ' i i' z z' e => by have z2 : (κ = 7 ∧ i = (8 * b + σ 18 b)) := z; have z3 : (κ' = 7 ∧ i' = (8 * b + σ 18 b)) := z'; omega)
    obtain ⟨lb, hlb⟩ : ∃ z, z = lup (lup (lup la 7 (8 * b + σ 18 b) M) 18 (5 + 2 * b) r9) 19 (5 + 2 * b) c9 := ⟨_, rfl⟩
    rw [← hlb] at hC9
    refine x_aload B hl dX10_move_78 rfl ?_
    have hT80 : t_OB (la 6 b) (D.1 (cCi 6)) (cN 6) (D.2 (cCi 6)) H3 (cV lb σ1 6 b) := by
      have h9 := hC9.1 6 b (by decide) (show 0 ≤ b ∧ b < σ1 23 0 by rw [e23]; exact hb1)
      rw [(show lb 6 b = la 6 b by rw [hlb, lup_k (by decide), lup_k (by decide)]; exact (lup_k (by decide)))] at h9
      exact h9
    refine ob_get (ci := 1) (C := RX0) (T := TX0) (N := 7) E hT80 rfl (fun z h => List.mem_cons_of_mem _ (List.mem_append_left _ (List.mem_append_left _ (List.mem_append_left _ (List.mem_append_left _ (List.mem_append_left _ (List.mem_append_right _ h))))))) 2 (by decide) (hts (.fieldLink RX10 125 "BinRounds$Bin" "moves" "Ljava/util/ArrayList;") (by decide +kernel)) (fun x hx => hx) dX10_move_80 (show va_rf (some (lb 11 (5 + 2 * b))) = .ref (la 11 (5 + 2 * b)) by rw [(show lb 11 (5 + 2 * b) = la 11 (5 + 2 * b) by rw [hlb, lup_k (by decide), lup_k (by decide)]; exact (lup_k (by decide)))]; rfl) ?_
    obtain ⟨f83, q83a, -, -, -⟩ := hC9.lst (L := (5 + 2 * b)) (n := (σ 18 b + 1)) (show 0 ≤ (5 + 2 * b) ∧ (5 + 2 * b) < 5 + 2 * σ1 23 0 by rw [e23]; omega) ((cSz_m hcb).trans (by rw [e18, if_pos rfl]))
    rw [(show lb 11 (5 + 2 * b) = la 11 (5 + 2 * b) by rw [hlb, lup_k (by decide), lup_k (by decide)]; exact (lup_k (by decide)))] at q83a
    refine cb_callV (A' := fun z => H3.size ≤ z) E hK hS hl (fun z h => hA z (by have := hS.1; omega)) (fun z h => h) (obRecv hK q83a rfl) (l_size l D cy d0 _) q83a (cwV 0 hts0 gX10_move_Jx4a65c_size_8abf5 rfl rfl rfl (by decide +kernel) ⟨Nat.le_of_ble_eq_true rfl, Nat.le_of_ble_eq_true rfl⟩) rfl rfl (Nat.le_of_ble_eq_true rfl) dX10_move_83 ⟨Nat.le_of_ble_eq_true rfl, Nat.le_of_ble_eq_true rfl⟩ (fun H4 locs v hv z83 o83 hS9 => ?_)
    obtain ⟨rfl, rfl⟩ := hv
    refine w_widen (Nat.le_of_ble_eq_true rfl) (Nat.le_of_ble_eq_true rfl) (vx_ret (co_iret E hr rfl hlk hC9 hS9 dX10_move_86 ⟨by rw [hc0]; rfl, rfl, ⟨by rw [hlb, lup_k (by decide), lup_k (by decide), lup_k (by decide)], fun L hL => ?_⟩, hσ1⟩))
    by_cases hL1 : L = (5 + 2 * b)
    · subst hL1; rw [hlb]; rw [lup_s]; omega
    · rw [hlb]; rw [lup_o hL1, lup_k (by decide), lup_k (by decide)]
      refine hcp L ?_
      have h2 : 0 ≤ L ∧ L < 5 + 2 * σ1 23 0 := hL
      rw [e23] at h2
      exact h2
  have hx9 := hz18 b
  have hix9 : σ 17 (8 * b + σ 18 b - 1) = σ 17 (8 * b + (σ 18 b - 1)) := by rw [Int.add_sub_assoc]
  refine x_aload_n B hl dX10_move_0 rfl ?_
  refine x_iload_n B hl dX10_move_1 rfl ?_
  refine ctm_call E hout hlk hK hC hS hl (κ := 0) (i := 0) (by decide) cl_0 rfl (c_binAt l hlt D cy d0 A la _ (z := b) h_b (by omega) hlg) (cwV 1 hts0 gX10_move_X10_binAt rfl rfl rfl (by decide +kernel) ⟨Nat.le_of_ble_eq_true rfl, Nat.le_of_ble_eq_true rfl⟩) rfl rfl (Nat.le_of_ble_eq_true rfl) dX10_move_2 ⟨Nat.le_of_ble_eq_true rfl, Nat.le_of_ble_eq_true rfl⟩ ⟨Nat.le_of_ble_eq_true rfl, Nat.le_of_ble_eq_true rfl⟩ (fun h => ⟨by unfold moveC; omega, rfl⟩) (fun h9_2 H locs hb1 hC hS => ?_)
  refine x_astore B hl dX10_move_5 (by decide) (fun ls hl => ?_)
  have h1m9 := h1m b hb1.1 hb1.2
  refine x_aload_n B hl dX10_move_7 rfl ?_
  refine x_iload_n B hl dX10_move_8 rfl ?_
  refine ctm_call E hout hlk hK hC hS hl (κ := 0) (i := 0) (by decide) cl_0 rfl (c_houseAt l hlt D cy d0 A la _ (z := h) h_h (by omega) (by omega) hlg) (cwV 1 hts0 gX10_move_X10_houseAt rfl rfl rfl (by decide +kernel) ⟨Nat.le_of_ble_eq_true rfl, Nat.le_of_ble_eq_true rfl⟩) rfl rfl (Nat.le_of_ble_eq_true rfl) dX10_move_9 ⟨Nat.le_of_ble_eq_true rfl, Nat.le_of_ble_eq_true rfl⟩ ⟨Nat.le_of_ble_eq_true rfl, Nat.le_of_ble_eq_true rfl⟩ (fun h => ⟨by unfold moveC; omega, rfl⟩) (fun h9_9 H locs hh1 hC hS => ?_)
  refine x_astore B hl dX10_move_12 (by decide) (fun ls hl => ?_)
  refine x_iload_n B hl dX10_move_14 rfl ?_
  refine x_i2l B dX10_move_15 (by omega) ?_
  refine x_aload_n B hl dX10_move_16 rfl ?_
  refine co_geti (f := 1) E hC 0 (by decide) cl_0 rfl (fun z h => List.mem_cons_of_mem _ (List.mem_append_left _ (List.mem_append_left _ (List.mem_append_left _ (List.mem_append_left _ (List.mem_append_left _ (List.mem_append_left _ (List.mem_append_right _ h)))))))) 8 (by decide) (hts (.fieldLink RX10 49 "BinRounds" "open" "I") (by decide +kernel)) (fun x hx => hx) dX10_move_17 ⟨rfl, rfl, rfl⟩ rfl (fun r_17 => ?_)
  refine x_aload B hl dX10_move_20 rfl ?_
  refine co_call E hK hC hS hl (κ := 6) (i := b) (by decide) (cl_6 hb1) rfl (c_latestMoveDay l D cy d0 A la σ (b := b) hb1 (hm18 _)) (cwV 0 hts0 gX10_move_X0_latestMoveDay rfl rfl rfl (by decide +kernel) ⟨Nat.le_of_ble_eq_true rfl, Nat.le_of_ble_eq_true rfl⟩) rfl rfl (Nat.le_of_ble_eq_true rfl) dX10_move_22 ⟨Nat.le_of_ble_eq_true rfl, Nat.le_of_ble_eq_true rfl⟩ (fun H locs q_l hC hS => ?_)
  refine x_mmax (z := (if σ 1 0 < (if σ 18 b = 0 then 0 else σ 17 (8 * b + (σ 18 b - 1))) then (if σ 18 b = 0 then 0 else σ 17 (8 * b + (σ 18 b - 1))) else σ 1 0)) E hl (by decide +kernel) (by decide +kernel) (by decide +kernel) (by decide +kernel) (Nat.le_of_ble_eq_true rfl) (Nat.le_of_ble_eq_true rfl) (Nat.le_of_ble_eq_true rfl) (Nat.le_of_ble_eq_true rfl) (by omega) (by omega) dX10_move_25 rfl ?_
  refine x_i2l B dX10_move_28 (by omega) ?_
  refine lv_ldc2 (v := lI 699) B.1 B.2 hown (hts (.constantLong RX10 97 (699)) (by decide +kernel)) dX10_move_29 ?_
  refine z_call ⟨B.1, B.2, hml, hown, hts0⟩ hl (c_isWithin l (v := d) (a := (if σ 1 0 < (if σ 18 b = 0 then 0 else σ 17 (8 * b + (σ 18 b - 1))) then (if σ 18 b = 0 then 0 else σ 17 (8 * b + (σ 18 b - 1))) else σ 1 0)) (b := 699) (by omega) (by omega) (by omega)) (va_cwS 3 hts0 gX10_move_X10_isWithin rfl rfl rfl (by decide +kernel) ⟨Nat.le_of_ble_eq_true rfl, Nat.le_of_ble_eq_true rfl⟩) rfl rfl (Nat.le_of_ble_eq_true rfl) dX10_move_32 ⟨Nat.le_of_ble_eq_true rfl, Nat.le_of_ble_eq_true rfl⟩ (fun q_32 => ?_)
  refine x_bool (fun b_32 => ?_) (fun b_32 => ?_)
  · refine cstm_call E hout hlk hK hC hS hl (c_require l hlt D cy d0 A la _ (z := 1) (Or.inr rfl)) (va_cwS 1 hts0 gX10_move_X10_require rfl rfl rfl (by decide +kernel) ⟨Nat.le_of_ble_eq_true rfl, Nat.le_of_ble_eq_true rfl⟩) rfl rfl (Nat.le_of_ble_eq_true rfl) dX10_move_35 ⟨Nat.le_of_ble_eq_true rfl, Nat.le_of_ble_eq_true rfl⟩ ⟨Nat.le_of_ble_eq_true rfl, Nat.le_of_ble_eq_true rfl⟩ (fun h => ⟨by unfold moveC; omega, rfl⟩) (fun h9_35 H locs q_35 hC hS => ?_)
    refine x_aload B hl dX10_move_38 rfl ?_
    refine co_getR (x := la 11 (5 + 2 * b)) E hC 6 (by decide) (cl_6 hb1) rfl (fun z h => List.mem_cons_of_mem _ (List.mem_append_left _ (List.mem_append_left _ (List.mem_append_left _ (List.mem_append_left _ (List.mem_append_left _ (List.mem_append_right _ h))))))) 2 (by decide) (hts (.fieldLink RX10 125 "BinRounds$Bin" "moves" "Ljava/util/ArrayList;") (by decide +kernel)) (fun x hx => hx) dX10_move_40 rfl rfl ?_
    refine co_call E hK hC hS hl (κ := 11) (i := (5 + 2 * b)) (by decide) (cl_11 (by omega)) rfl (c_size l D cy d0 A la σ (L := (5 + 2 * b)) (n := σ 18 b) (cl_11 (by omega)) (cSz_m hb1.1)) (cwV 0 hts0 gX10_move_Jx4a65c_size_8abf5 rfl rfl rfl (by decide +kernel) ⟨Nat.le_of_ble_eq_true rfl, Nat.le_of_ble_eq_true rfl⟩) rfl rfl (Nat.le_of_ble_eq_true rfl) dX10_move_43 ⟨Nat.le_of_ble_eq_true rfl, Nat.le_of_ble_eq_true rfl⟩ (fun H locs q_43 hC hS => ?_)
    refine x_bipush B dX10_move_46 (by decide) ?_
    refine x_icmp_ge (tgt := 55) B dX10_move_48 (by decide) (by omega) (by omega) (fun c_48 => ?_) (fun c_48 => ?_)
    · refine x_iconst B dX10_move_55 ?_
      refine cstm_call E hout hlk hK hC hS hl (c_requireRoom l hlt D cy d0 A la _ (z := 0) (Or.inl rfl)) (va_cwS 1 hts0 gX10_move_X10_requireRoom rfl rfl rfl (by decide +kernel) ⟨Nat.le_of_ble_eq_true rfl, Nat.le_of_ble_eq_true rfl⟩) rfl rfl (Nat.le_of_ble_eq_true rfl) dX10_move_56 ⟨Nat.le_of_ble_eq_true rfl, Nat.le_of_ble_eq_true rfl⟩ ⟨Nat.le_of_ble_eq_true rfl, Nat.le_of_ble_eq_true rfl⟩ (fun h => ⟨by unfold moveC; omega, rfl⟩) (fun h9_56 H locs q_56 hC hS => ?_)
      exact w_widen (Nat.le_of_ble_eq_true rfl) (Nat.le_of_ble_eq_true rfl) (tail _ _ ls hb1 hh1 (by omega) (by omega) (by unfold moveC; rw [if_neg (by omega), if_neg (by omega), if_neg (by omega)]) hC hS (lv_key hl _ rfl))
    · refine x_iconst B dX10_move_51 ?_
      refine x_goto (tgt := 56) B dX10_move_52 (by decide) ?_
      refine cstm_call E hout hlk hK hC hS hl (c_requireRoom l hlt D cy d0 A la _ (z := 1) (Or.inr rfl)) (va_cwS 1 hts0 gX10_move_X10_requireRoom rfl rfl rfl (by decide +kernel) ⟨Nat.le_of_ble_eq_true rfl, Nat.le_of_ble_eq_true rfl⟩) rfl rfl (Nat.le_of_ble_eq_true rfl) dX10_move_56 ⟨Nat.le_of_ble_eq_true rfl, Nat.le_of_ble_eq_true rfl⟩ ⟨Nat.le_of_ble_eq_true rfl, Nat.le_of_ble_eq_true rfl⟩ (fun h => ⟨by unfold moveC; omega, rfl⟩) (fun h9_56 H locs q_56 hC hS => ?_)
      exact w_widen (Nat.le_of_ble_eq_true rfl) (Nat.le_of_ble_eq_true rfl) (tail _ _ ls hb1 hh1 (by omega) (by omega) (by unfold moveC; rw [if_neg (by omega), if_neg (by omega), if_neg (by omega)]) hC hS (lv_key hl _ rfl))
  · refine cstm_call E hout hlk hK hC hS hl (c_require l hlt D cy d0 A la _ (z := 0) (Or.inl rfl)) (va_cwS 1 hts0 gX10_move_X10_require rfl rfl rfl (by decide +kernel) ⟨Nat.le_of_ble_eq_true rfl, Nat.le_of_ble_eq_true rfl⟩) rfl rfl (Nat.le_of_ble_eq_true rfl) dX10_move_35 ⟨Nat.le_of_ble_eq_true rfl, Nat.le_of_ble_eq_true rfl⟩ ⟨Nat.le_of_ble_eq_true rfl, Nat.le_of_ble_eq_true rfl⟩ (fun h => ⟨by unfold moveC; omega, rfl⟩) (fun h9_35 H locs q_35 hC hS => ?_)
    refine x_aload B hl dX10_move_38 rfl ?_
    refine co_getR (x := la 11 (5 + 2 * b)) E hC 6 (by decide) (cl_6 hb1) rfl (fun z h => List.mem_cons_of_mem _ (List.mem_append_left _ (List.mem_append_left _ (List.mem_append_left _ (List.mem_append_left _ (List.mem_append_left _ (List.mem_append_right _ h))))))) 2 (by decide) (hts (.fieldLink RX10 125 "BinRounds$Bin" "moves" "Ljava/util/ArrayList;") (by decide +kernel)) (fun x hx => hx) dX10_move_40 rfl rfl ?_
    refine co_call E hK hC hS hl (κ := 11) (i := (5 + 2 * b)) (by decide) (cl_11 (by omega)) rfl (c_size l D cy d0 A la σ (L := (5 + 2 * b)) (n := σ 18 b) (cl_11 (by omega)) (cSz_m hb1.1)) (cwV 0 hts0 gX10_move_Jx4a65c_size_8abf5 rfl rfl rfl (by decide +kernel) ⟨Nat.le_of_ble_eq_true rfl, Nat.le_of_ble_eq_true rfl⟩) rfl rfl (Nat.le_of_ble_eq_true rfl) dX10_move_43 ⟨Nat.le_of_ble_eq_true rfl, Nat.le_of_ble_eq_true rfl⟩ (fun H locs q_43 hC hS => ?_)
    refine x_bipush B dX10_move_46 (by decide) ?_
    refine x_icmp_ge (tgt := 55) B dX10_move_48 (by decide) (by omega) (by omega) (fun c_48 => ?_) (fun c_48 => ?_)
    · refine x_iconst B dX10_move_55 ?_
      refine cstm_call E hout hlk hK hC hS hl (c_requireRoom l hlt D cy d0 A la _ (z := 0) (Or.inl rfl)) (va_cwS 1 hts0 gX10_move_X10_requireRoom rfl rfl rfl (by decide +kernel) ⟨Nat.le_of_ble_eq_true rfl, Nat.le_of_ble_eq_true rfl⟩) rfl rfl (Nat.le_of_ble_eq_true rfl) dX10_move_56 ⟨Nat.le_of_ble_eq_true rfl, Nat.le_of_ble_eq_true rfl⟩ ⟨Nat.le_of_ble_eq_true rfl, Nat.le_of_ble_eq_true rfl⟩ (fun h => ⟨by unfold moveC; omega, rfl⟩) (fun h9_56 H locs q_56 hC hS => ?_)
      exact w_widen (Nat.le_of_ble_eq_true rfl) (Nat.le_of_ble_eq_true rfl) (tail _ _ ls hb1 hh1 (by omega) (by omega) (by unfold moveC; rw [if_neg (by omega), if_neg (by omega), if_neg (by omega)]) hC hS (lv_key hl _ rfl))
    · refine x_iconst B dX10_move_51 ?_
      refine x_goto (tgt := 56) B dX10_move_52 (by decide) ?_
      refine cstm_call E hout hlk hK hC hS hl (c_requireRoom l hlt D cy d0 A la _ (z := 1) (Or.inr rfl)) (va_cwS 1 hts0 gX10_move_X10_requireRoom rfl rfl rfl (by decide +kernel) ⟨Nat.le_of_ble_eq_true rfl, Nat.le_of_ble_eq_true rfl⟩) rfl rfl (Nat.le_of_ble_eq_true rfl) dX10_move_56 ⟨Nat.le_of_ble_eq_true rfl, Nat.le_of_ble_eq_true rfl⟩ ⟨Nat.le_of_ble_eq_true rfl, Nat.le_of_ble_eq_true rfl⟩ (fun h => ⟨by unfold moveC; omega, rfl⟩) (fun h9_56 H locs q_56 hC hS => ?_)
      exact w_widen (Nat.le_of_ble_eq_true rfl) (Nat.le_of_ble_eq_true rfl) (tail _ _ ls hb1 hh1 (by omega) (by omega) (by unfold moveC; rw [if_neg (by omega), if_neg (by omega), if_neg (by omega)]) hC hS (lv_key hl _ rfl))
set_option maxHeartbeats 4000000 in
set_option maxRecDepth 100000 in
theorem c_p_part (l : Launch) (hlt : l.stackTraces = false) (D : va_G) (cy : Nat → ClassId) (d0 : Nat) (A : Nat → Prop) (la : Nat → Int → Nat) (σ : MS) {b : Int} {h : Int} {wt : Int} {d : Int} (h_b : -2147483648 ≤ b ∧ b < 2147483648) (h_h : -2147483648 ≤ h ∧ h < 2147483648) (h_wt : -2147483648 ≤ wt ∧ wt < 2147483648) (h_d : -2147483648 ≤ d ∧ d < 2147483648) (hn5 : 0 ≤ σ 5 0 ∧ σ 5 0 ≤ 1000) (hn11 : 0 ≤ σ 11 0 ∧ σ 11 0 ≤ 1000) (hn23 : 0 ≤ σ 23 0 ∧ σ 23 0 ≤ 1000) (hn27 : 0 ≤ σ 27 0 ∧ σ 27 0 ≤ 1000) (hn45 : 0 ≤ σ 45 0 ∧ σ 45 0 ≤ 600) (hlg : σ 58 0 = 0 ∧ σ 59 0 = 0) (hRf : cRefs σ) (hmc : ∀ L, 0 ≤ σ 57 L ∧ σ 57 L ≤ 1000000) (hcp : ∀ L, cLive la σ 11 L → la 19 L ≤ 1000) (hm18 : ∀ b, 0 ≤ σ 18 b ∧ σ 18 b ≤ 8) (hm22 : ∀ b, 0 ≤ σ 22 b ∧ σ 22 b ≤ 20) (hz18 : ∀ b, 0 ≤ σ 18 b ∧ σ 18 b ≤ 8) (hz22 : ∀ b, 0 ≤ σ 22 b ∧ σ 22 b ≤ 20) (h1d : 0 ≤ σ 1 0 ∧ σ 1 0 ≤ 699) : CT l yX10_part wsX10_part ({ frames := 8, cells := 24, slots := 2100, locals := 256 } : Room) D cy d0 A [.ref (la 0 0), .int (iI b), .int (iI h), .int (iI wt), .int (iI d)] la σ ((if partC σ b h wt d = 1 then 1 else (if partC σ b h wt d = 2 then 2 else (if partC σ b h wt d = 3 then 3 else 0)))) (fun v' la' τ => v' = some (.int (iI (σ 22 b + 1))) ∧ (la' 0 0 = la 0 0 ∧ ∀ L, cLive la' τ 11 L → la' 19 L ≤ 1000) ∧ τ = (up (up (up (up (up σ 19 (20 * b + σ 22 b) h) 20 (20 * b + σ 22 b) wt) 21 (20 * b + σ 22 b) d) 22 b (σ 22 b + 1)) 57 (6 + 2 * b) (σ 57 (6 + 2 * b) + 1))) 24 2100 := by
  refine ct_of (cc := cX10_part) (nL := 7) (ret := (some .int)) (by decide) rfl (Nat.le_of_ble_eq_true rfl) ?_
  intro p e s m args below meth c ls E hout hr hlk hK hC hS hl
  have B := E.1
  have hml := E.2.1
  have hown := E.2.2.1
  have hts0 := E.2.2.2.1
  have hts := E.2.2.2.1
  have hw := hC.2.2.2.2.2.1
  have hA := hK.2.2.2.2.2.2.1
  have tail : ∀ (H : Heap) (locs : List Loc) (ls : Array Slot) (hb1 : 0 ≤ b ∧ b < σ 23 0) (hh1 : 0 ≤ h ∧ h < σ 11 0) (hr9 : 0 ≤ σ 22 b ∧ σ 22 b < 20) (hd9 : 0 ≤ d ∧ d ≤ 699) (hw9 : 0 ≤ wt ∧ wt ≤ 1000) (hc0 : partC σ b h wt d = 0), CP D cy d0 A la σ H → va_S A s.heap H locs → lv_has ls 7 [(0, .ref (la 0 0)), (1, .int (iI b)), (2, .int (iI h)), (3, .int (iI wt)), (4, .int (iI d)), (5, .ref (la 6 b)), (6, .ref (la 5 h))] → W p l e ({ frames := 8, cells := 24, slots := 2100, locals := 256 } : Room) s m args below meth c H locs 16 64 (vx_MQ below (cQ D cy d0 A (fun v la' τ => (((if partC σ b h wt d = 1 then 1 else (if partC σ b h wt d = 2 then 2 else (if partC σ b h wt d = 3 then 3 else 0))) : Int)) = 0 ∧ (fun v' la' τ => v' = some (.int (iI (σ 22 b + 1))) ∧ (la' 0 0 = la 0 0 ∧ ∀ L, cLive la' τ 11 L → la' 19 L ≤ 1000) ∧ τ = (up (up (up (up (up σ 19 (20 * b + σ 22 b) h) 20 (20 * b + σ 22 b) wt) 21 (20 * b + σ 22 b) d) 22 b (σ 22 b + 1)) 57 (6 + 2 * b) (σ 57 (6 + 2 * b) + 1))) v la' τ)) (cXX D cy d0 A ((if partC σ b h wt d = 1 then 1 else (if partC σ b h wt d = 2 then 2 else (if partC σ b h wt d = 3 then 3 else 0)))) la σ) args s 24 2100 A) (F0 m 89 ls []) := by
    intro H0 locs ls hb1 hh1 hr9 hd9 hw9 hc0 hC hS hl
    refine x_aload B hl dX10_part_89 rfl ?_
    refine co_getR (x := la 11 (6 + 2 * b)) E hC 6 (by decide) (cl_6 hb1) rfl (fun z h => List.mem_cons_of_mem _ (List.mem_append_left _ (List.mem_append_left _ (List.mem_append_left _ (List.mem_append_left _ (List.mem_append_left _ (List.mem_append_left _ (List.mem_append_right _ h)))))))) 3 (by decide) (hts (.fieldLink RX10 166 "BinRounds$Bin" "parts" "Ljava/util/ArrayList;") (by decide +kernel)) (fun x hx => hx) dX10_part_91 rfl rfl ?_
    obtain ⟨M, hMe⟩ : ∃ z, z = H0.size := ⟨_, rfl⟩
    have hMl : ∀ κ i, κ ≤ 18 → cLive la σ κ i → la κ i < M := fun κ i a b => by rw [hMe]; exact hC.lt a b
    have hAM : ∀ q, M ≤ q → A q := fun q h => hA q (by have := hS.1; omega)
    refine ob_new (ci := 7) (C := RX6) (T := TX6) E hS rfl (fun z h => List.mem_cons_of_mem _ (List.mem_append_left _ (List.mem_append_left _ (List.mem_append_left _ (List.mem_append_left _ (List.mem_append_right _ h)))))) tyX6_ok (hts (.classLink RX10 169 RX6) (by decide +kernel)) (hts (.instantiable RX6 3) (by decide +kernel)) (hts (.initialized RX6) (by decide +kernel)) (Nat.le_of_ble_eq_true rfl) (Nat.le_of_ble_eq_true rfl) dX10_part_94 (fun H1 nO o94 z94 hS => ?_)
    rw [← hMe] at nO o94 z94 ⊢
    have hC := hC.kept (fun κ i a b => o94 _ (hMl κ i a b))
    refine x_dup B dX10_part_97 rfl ?_
    refine x_aload B hl dX10_part_98 rfl ?_
    refine x_iload_n B hl dX10_part_100 rfl ?_
    refine x_iload B hl dX10_part_101 rfl ?_
    refine cb_callI (A' := fun z => z = M ∨ H1.size ≤ z) (av := [.ref (la 5 h), .int (iI wt), .int (iI d)]) E hK hS hl (fun z h => h.elim (fun h => hAM z (by omega)) (fun h => hA z (by have := hS.1; omega))) (fun z h => Or.inr h) (k_Part l D cy d0 _ (q := M) (Or.inl rfl)) nO (cwI 3 hts0 gX10_part_X6_init rfl rfl rfl (hts (.initialized RX6) (by decide +kernel)) (hts (.methodLink RX10 171 yX6_init) (by decide +kernel)) (hts (.instanceMethod yX6_init) (by decide +kernel)) rfl (by decide +kernel) ⟨Nat.le_of_ble_eq_true rfl, Nat.le_of_ble_eq_true rfl⟩) rfl rfl (Nat.le_of_ble_eq_true rfl) dX10_part_103 ⟨Nat.le_of_ble_eq_true rfl, Nat.le_of_ble_eq_true rfl⟩ (fun H2 locs v hv z103 o103 hS => ?_)
    obtain ⟨rfl, nO⟩ := hv
    have hC := hC.kept (fun κ i a b => o103 _ (by have := hMl κ i a b; omega) (fun z => z.elim (fun e => by have := hMl κ i a b; omega) (fun e => by have := hMl κ i a b; omega)))
    have hcb := hb1.1
    obtain ⟨f106, l106a, l106b, l106c, l106d⟩ := hC.lst (L := (6 + 2 * b)) (n := (σ 22 b)) ((cl_11 (by omega))) (cSz_p hb1.1)
    have hcl106 := (show cLive la σ 11 (6 + 2 * b) from cl_11 (by omega))
    have hel106 : ∀ j : Nat, (j : Int) < (σ 22 b) → ∀ y, f106 j = some y → y = la 8 (20 * b + (j : Int)) ∧ cLive la σ 8 (20 * b + (j : Int)) := fun j hj y hy => by
      rw [l106d j hj] at hy
      refine ⟨(Option.some.inj hy).symm.trans (cEl_p hcb _), ?_⟩
      exact cl_8b hb1 ⟨by omega, by omega⟩ (by omega)
    refine cb_callV (A' := (fun z => z = la 11 (6 + 2 * b) ∨ (0 < la 19 (6 + 2 * b) ∧ z = la 18 (6 + 2 * b)) ∨ H2.size ≤ z)) E hK hS hl (fun z h => h.elim (fun h => h ▸ hC.2.2.2.2.1 11 (6 + 2 * b) (by decide) hcl106) (fun h => h.elim (fun h => h.2 ▸ hC.2.2.2.2.1 18 (6 + 2 * b) (by decide) ⟨hcl106, h.1⟩) (fun h => hA z (by have := hS.1; omega)))) (fun z h => Or.inr (Or.inr h)) (obRecv hK l106a rfl) (l_add l D cy d0 (fun z => z = la 11 (6 + 2 * b) ∨ (0 < la 19 (6 + 2 * b) ∧ z = la 18 (6 + 2 * b)) ∨ H2.size ≤ z) (a := la 11 (6 + 2 * b)) (r := la 18 (6 + 2 * b)) (cap := la 19 (6 + 2 * b)) (x := M) (mm := σ 57 (6 + 2 * b)) (n := (σ 22 b)) (f := f106) (show vwCl[7]? = some (RX6, TX6, 3) from rfl) (fun U h => h.2.2.2.2.2.2.2.1) (hcp (6 + 2 * b) hcl106) (Or.inl rfl) (fun h => Or.inr (Or.inl ⟨h, rfl⟩)) (fun h z => by have h9 := hC.2.2.2.1 11 18 (6 + 2 * b) (6 + 2 * b) (by decide) (by decide) hcl106 ⟨hcl106, h⟩ z; omega) ⟨by omega, l106c⟩ (by omega) (fun z => by have := hMl 11 (6 + 2 * b) (by decide) hcl106; omega) (fun j hj y hy z => by
      have h8 := hel106 j hj y hy
      have h9 := hC.2.2.2.1 8 11 _ (6 + 2 * b) (by decide) (by decide) h8.2 hcl106 (h8.1.symm.trans z)
      omega)) ⟨l106a, l106b, fun j hj y hy => elC_at (hel106 j hj y hy).1 ⟨_, hC.1 8 _ (by decide) (hel106 j hj y hy).2⟩, ⟨_, nO⟩⟩ (cwV 1 hts0 gX10_part_Jx4a65c_add_9ea2d rfl rfl rfl (by decide +kernel) ⟨Nat.le_of_ble_eq_true rfl, Nat.le_of_ble_eq_true rfl⟩) rfl rfl (Nat.le_of_ble_eq_true rfl) dX10_part_106 ⟨Nat.le_of_ble_eq_true rfl, Nat.le_of_ble_eq_true rfl⟩ (fun H3 locs v hv z106 o106 hS => ?_)
    obtain ⟨rfl, hps106⟩ := hv
    refine x_pop B dX10_part_109 rfl ?_
    obtain ⟨σ1, hσ1⟩ : ∃ z, z = (up (up (up (up (up σ 19 (20 * b + σ 22 b) h) 20 (20 * b + σ 22 b) wt) 21 (20 * b + σ 22 b) d) 22 b (σ 22 b + 1)) 57 (6 + 2 * b) (σ 57 (6 + 2 * b) + 1)) := ⟨_, rfl⟩
    have e5 : σ1 5 0 = σ 5 0 := by rw [hσ1]; first | rfl | (simp [up_rd]; done)
    have e11 : σ1 11 0 = σ 11 0 := by rw [hσ1]; first | rfl | (simp [up_rd]; done)
    have e23 : σ1 23 0 = σ 23 0 := by rw [hσ1]; first | rfl | (simp [up_rd]; done)
    have e27 : σ1 27 0 = σ 27 0 := by rw [hσ1]; first | rfl | (simp [up_rd]; done)
    have e45 : σ1 45 0 = σ 45 0 := by rw [hσ1]; first | rfl | (simp [up_rd]; done)
    have e58 : σ1 58 0 = σ 58 0 := by rw [hσ1]; first | rfl | (simp [up_rd]; done)
    have e59 : σ1 59 0 = σ 59 0 := by rw [hσ1]; first | rfl | (simp [up_rd]; done)
    have e18 : ∀ j, σ1 18 j = σ 18 j := fun j => by rw [hσ1]; first | rfl | (simp [up_rd]; done)
    have e22 : ∀ j, σ1 22 j = (if j = b then (σ 22 b + 1) else σ 22 j) := fun j => by rw [hσ1]; first | rfl | (simp [up_rd]; done)
    have hlv : ∀ (lb : Nat → Int → Nat) κ i, κ ≤ 17 → cLive lb σ1 κ i → cLive la σ κ i ∨ (fun κ i => (κ = 8 ∧ i = (20 * b + σ 22 b))) κ i := by
      intro lb κ i hκ h
      rcases (show κ = 0 ∨ κ = 1 ∨ κ = 2 ∨ κ = 3 ∨ κ = 4 ∨ κ = 5 ∨ κ = 6 ∨ κ = 7 ∨ κ = 8 ∨ κ = 9 ∨ κ = 10 ∨ κ = 11 ∨ κ = 12 ∨ κ = 13 ∨ κ = 14 ∨ κ = 15 ∨ κ = 16 ∨ κ = 17 by omega) with rfl | rfl | rfl | rfl | rfl | rfl | rfl | rfl | rfl | rfl | rfl | rfl | rfl | rfl | rfl | rfl | rfl | rfl
      · have h2 : i = 0 := h
        exact Or.inl (show i = 0 by first | exact h2 | omega | (have q18 := e18 (i / 8); have q22 := e22 (i / 20); omega))
      · have h2 : i = 0 := h
        exact Or.inl (show i = 0 by first | exact h2 | omega | (have q18 := e18 (i / 8); have q22 := e22 (i / 20); omega))
      · have h2 : i = 0 := h
        exact Or.inl (show i = 0 by first | exact h2 | omega | (have q18 := e18 (i / 8); have q22 := e22 (i / 20); omega))
      · have h2 : i = 0 := h
        exact Or.inl (show i = 0 by first | exact h2 | omega | (have q18 := e18 (i / 8); have q22 := e22 (i / 20); omega))
      · have h2 : 0 ≤ i ∧ i < σ1 5 0 := h
        rw [e5] at h2
        exact Or.inl (show 0 ≤ i ∧ i < σ 5 0 by first | exact h2 | omega | (have q18 := e18 (i / 8); have q22 := e22 (i / 20); omega))
      · have h2 : 0 ≤ i ∧ i < σ1 11 0 := h
        rw [e11] at h2
        exact Or.inl (show 0 ≤ i ∧ i < σ 11 0 by first | exact h2 | omega | (have q18 := e18 (i / 8); have q22 := e22 (i / 20); omega))
      · have h2 : 0 ≤ i ∧ i < σ1 23 0 := h
        rw [e23] at h2
        exact Or.inl (show 0 ≤ i ∧ i < σ 23 0 by first | exact h2 | omega | (have q18 := e18 (i / 8); have q22 := e22 (i / 20); omega))
      · have h2 : 0 ≤ i ∧ i / 8 < σ1 23 0 ∧ i % 8 < σ1 18 (i / 8) := h
        rw [e23] at h2
        exact Or.inl (show 0 ≤ i ∧ i / 8 < σ 23 0 ∧ i % 8 < σ 18 (i / 8) by first | exact h2 | omega | (have q18 := e18 (i / 8); have q22 := e22 (i / 20); omega))
      · have h2 : 0 ≤ i ∧ i / 20 < σ1 23 0 ∧ i % 20 < σ1 22 (i / 20) := h
        rw [e23] at h2
        rw [e22] at h2
        by_cases hb9 : i / 20 = b
        · rw [if_pos hb9] at h2
          have hb8 : σ 22 (i / 20) = σ 22 (b) := by rw [hb9]
          by_cases hn9 : i = (20 * b + σ 22 b)
          · exact Or.inr (by first | exact ⟨rfl, hn9⟩ | exact Or.inl ⟨rfl, hn9⟩ | exact Or.inr ⟨rfl, hn9⟩)
          · exact Or.inl (show 0 ≤ i ∧ i / 20 < σ 23 0 ∧ i % 20 < σ 22 (i / 20) by omega)
        · rw [if_neg hb9] at h2
          exact Or.inl (show 0 ≤ i ∧ i / 20 < σ 23 0 ∧ i % 20 < σ 22 (i / 20) by omega)
      · have h2 : 0 ≤ i ∧ i < σ1 27 0 := h
        rw [e27] at h2
        exact Or.inl (show 0 ≤ i ∧ i < σ 27 0 by first | exact h2 | omega | (have q18 := e18 (i / 8); have q22 := e22 (i / 20); omega))
      · have h2 : 0 ≤ i ∧ i < σ1 45 0 := h
        rw [e45] at h2
        exact Or.inl (show 0 ≤ i ∧ i < σ 45 0 by first | exact h2 | omega | (have q18 := e18 (i / 8); have q22 := e22 (i / 20); omega))
      · have h2 : 0 ≤ i ∧ i < 5 + 2 * σ1 23 0 := h
        rw [e23] at h2
        exact Or.inl (show 0 ≤ i ∧ i < 5 + 2 * σ 23 0 by first | exact h2 | omega | (have q18 := e18 (i / 8); have q22 := e22 (i / 20); omega))
      · have h2 : i = 0 := h
        exact Or.inl (show i = 0 by first | exact h2 | omega | (have q18 := e18 (i / 8); have q22 := e22 (i / 20); omega))
      · have h2 : i = 0 := h
        exact Or.inl (show i = 0 by first | exact h2 | omega | (have q18 := e18 (i / 8); have q22 := e22 (i / 20); omega))
      · have h2 : i = 0 := h
        exact Or.inl (show i = 0 by first | exact h2 | omega | (have q18 := e18 (i / 8); have q22 := e22 (i / 20); omega))
      · have h2 : i = 0 := h
        exact Or.inl (show i = 0 by first | exact h2 | omega | (have q18 := e18 (i / 8); have q22 := e22 (i / 20); omega))
      · have h2 : 0 ≤ i ∧ i < σ1 5 0 := h
        rw [e5] at h2
        exact Or.inl (show 0 ≤ i ∧ i < σ 5 0 by first | exact h2 | omega | (have q18 := e18 (i / 8); have q22 := e22 (i / 20); omega))
      · have h2 : 0 ≤ i ∧ i < σ1 5 0 := h
        rw [e5] at h2
        exact Or.inl (show 0 ≤ i ∧ i < σ 5 0 by first | exact h2 | omega | (have q18 := e18 (i / 8); have q22 := e22 (i / 20); omega))
    have hnum : ∀ κ i, κ ≤ 11 → cLive la σ κ i → ¬ (κ = 11 ∧ i = (6 + 2 * b)) → ∀ k, k < cN κ → (sT κ k = 1 ∨ sT κ k = 2) → σ1 (sF κ k) i = σ (sF κ k) i := by
      intro κ i hκ h hn9 k hk ht
      rw [hσ1]
      rw [up_k hκ hk ht (fun z => by
        have hf := z.1
        have hi := z.2
        rw [show fK 57 = 11 by decide +kernel] at hf
        subst hf
        have hq : 0 ≤ i ∧ i < 5 + 2 * σ 23 0 := h
        omega)]
      rw [up_k hκ hk ht (fun z => by
        have hf := z.1
        have hi := z.2
        rw [show fK 22 = 99 by decide +kernel] at hf
        subst hf
        omega)]
      rw [up_k hκ hk ht (fun z => by
        have hf := z.1
        have hi := z.2
        rw [show fK 21 = 8 by decide +kernel] at hf
        subst hf
        have hq : 0 ≤ i ∧ i / 20 < σ 23 0 ∧ i % 20 < σ 22 (i / 20) := h
        have hd8 : i / 20 = b := by omega
        rw [hd8] at hq
        omega)]
      rw [up_k hκ hk ht (fun z => by
        have hf := z.1
        have hi := z.2
        rw [show fK 20 = 8 by decide +kernel] at hf
        subst hf
        have hq : 0 ≤ i ∧ i / 20 < σ 23 0 ∧ i % 20 < σ 22 (i / 20) := h
        have hd8 : i / 20 = b := by omega
        rw [hd8] at hq
        omega)]
      rw [up_k hκ hk ht (fun z => by
        have hf := z.1
        have hi := z.2
        rw [show fK 19 = 99 by decide +kernel] at hf
        subst hf
        omega)]
    have hcw : cW σ1 := by rw [hσ1]; exact (cW_up (cW_up (cW_up (cW_up (cW_up hC.2.2.2.2.2.1 (fun q => by first | omega | (have h9 := hmc (20 * b + σ 22 b); omega) | cases q) (fun q => by first | omega | cases q)) (fun q => by first | omega | (have h9 := hmc (20 * b + σ 22 b); omega) | cases q) (fun q => by first | omega | cases q)) (fun q => by first | omega | (have h9 := hmc (20 * b + σ 22 b); omega) | cases q) (fun q => by first | omega | cases q)) (fun q => by first | omega | (have h9 := hmc b; omega) | cases q) (fun q => by first | omega | cases q)) (fun q => by first | omega | (have h9 := hmc (6 + 2 * b); omega) | cases q) (fun q => by first | omega | cases q))
    obtain ⟨r9, c9, hC9, hc9, hfr9⟩ := CP.addL (n := (σ 22 b)) (laN := (lup la 8 (20 * b + σ 22 b) M)) (σ' := σ1) (M := M) (N := (fun κ i => (κ = 8 ∧ i = (20 * b + σ 22 b)))) hC hMl (by omega) hAM (by omega) hRf hcw hcl106 (by omega) (cSz_p hb1.1) hps106 (fun j hj => l106d j hj) hlv (fun κ i z => by have z2 : (κ = 8 ∧ i = (20 * b + σ 22 b)) := z; omega) (fun L z => by have z2 : (11 = 8 ∧ L = (20 * b + σ 22 b)) := z; omega) (fun κ i a b9 => lup_n (fun z => by
      rcases z with ⟨rfl, rfl⟩
      have hq : 0 ≤ (20 * b + σ 22 b) ∧ (20 * b + σ 22 b) / 20 < σ 23 0 ∧ (20 * b + σ 22 b) % 20 < σ 22 ((20 * b + σ 22 b) / 20) := b9
      have hq2 : (20 * b + σ 22 b) / 20 = b := by omega
      rw [hq2] at hq
      omega)) (fun L => ⟨lup_k (by decide), lup_k (by decide)⟩) hnum (fun i h9 => by rw [hσ1, up_f (by decide), up_f (by decide), up_f (by decide), up_f (by decide), up_f (by decide)]) (fun i h9 => by rw [hσ1, up_f (by decide), up_f (by decide), up_f (by decide), up_f (by decide), up_f (by decide)]) (fun i h9 => by rw [hσ1, up_f (by decide), up_f (by decide), up_f (by decide), up_f (by decide), up_o (fun z9 => by have hq : 0 ≤ i ∧ i / 20 < σ 23 0 ∧ i % 20 < σ 22 (i / 20) := h9; have hd8 : i / 20 = b := (by omega); rw [hd8] at hq; omega)]) (fun i h9 => by rw [hσ1, up_f (by decide), up_f (by decide), up_f (by decide), up_f (by decide), up_f (by decide)]) (fun i h9 => by rw [hσ1, up_f (by decide), up_f (by decide), up_f (by decide), up_f (by decide), up_f (by decide)]) (fun κ i a b c j hj => by rw [hσ1, aV_u (by decide) a b, aV_u (by decide) a b, aV_u (by decide) a b, aV_u (by decide) a b, aV_u (by decide) a b]) (fun L a b => by
      have ha : 0 ≤ L ∧ L < 5 + 2 * σ 23 0 := a
      unfold cSz
      simp only [e5, e11, e23, e27, e45, e58, e59, e18, e22]
      repeat' split
      all_goals first | rfl | omega) (fun L j ha9 hb0 hd9 => by
      have ha : 0 ≤ L ∧ L < 5 + 2 * σ 23 0 := ha9
      have hbb := hz22 ((L - 5) / 2)
      unfold cSz at hd9
      unfold cEl
      by_cases q0 : L = 0
      · rw [if_pos q0, if_pos q0]; rfl
      by_cases q1 : L = 1
      · rw [if_neg q0, if_pos q1, if_neg q0, if_pos q1]; rfl
      by_cases q2 : L = 2
      · rw [if_neg q0, if_neg q1, if_pos q2, if_neg q0, if_neg q1, if_pos q2]; rfl
      by_cases q3 : L = 3
      · rw [if_neg q0, if_neg q1, if_neg q2, if_pos q3, if_neg q0, if_neg q1, if_neg q2, if_pos q3]; rfl
      by_cases q4 : L = 4
      · rw [if_neg q0, if_neg q1, if_neg q2, if_neg q3, if_pos q4, if_neg q0, if_neg q1, if_neg q2, if_neg q3, if_pos q4]; rfl
      rw [if_neg q0, if_neg q1, if_neg q2, if_neg q3, if_neg q4] at hd9
      rw [if_neg q0, if_neg q1, if_neg q2, if_neg q3, if_neg q4, if_neg q0, if_neg q1, if_neg q2, if_neg q3, if_neg q4]
      by_cases q5 : (L - 5) % 2 = 0
      · rw [if_pos q5] at hd9
        rw [if_pos q5, if_pos q5]
        exact lup_n (fun z => by
          have z2 := z.2
          by_cases hb9 : (L - 5) / 2 = b
          · rw [hb9] at hd9 z2; omega
          · omega)
      · rw [if_neg q5] at hd9
        rw [if_neg q5, if_neg q5]
        exact lup_n (fun z => by
          have z1 := z.1
          have z2 := z.2
          by_cases hb9 : (L - 5) / 2 = b
          · rw [hb9] at hd9 z2; omega
          · omega)) ((cSz_p hcb).trans (by rw [e22, if_pos rfl])) (by rw [hσ1]; exact up_s) (show cEl (lup la 8 (20 * b + σ 22 b) M) (6 + 2 * b) (σ 22 b) = M from (cEl_p hcb _).trans lup_s) (fun lb hlb κ i ha9 z => by
      rcases z with ⟨rfl, rfl⟩
      rw [show (lup la 8 (20 * b + σ 22 b) M) 8 (20 * b + σ 22 b) = M from lup_s]
      refine nO.to (fun k hk => ?_)
      have hk10 : k < 3 := hk
      have q19 : σ1 19 (20 * b + σ 22 b) = h := by rw [hσ1]; simp [up_rd]
      have q20 : σ1 20 (20 * b + σ 22 b) = wt := by rw [hσ1]; simp [up_rd]
      have q21 : σ1 21 (20 * b + σ 22 b) = d := by rw [hσ1]; simp [up_rd]
      rcases (show k = 0 ∨ k = 1 ∨ k = 2 by omega) with rfl | rfl | rfl
      · show _ = va_rf (some (lb 5 (σ1 19 (20 * b + σ 22 b)))); rw [q19, hlb 5 _ (by decide), lup_k (by decide)]; rfl
      · show _ = Value.int (iI (σ1 20 (20 * b + σ 22 b))); rw [q20]; rfl
      · show _ = Value.int (iI (σ1 21 (20 * b + σ 22 b))); rw [q21]; rfl) (fun κ i ha9 hb0 z => by have z2 : (κ = 8 ∧ i = (20 * b + σ 22 b)) := z; omega) (fun κ i z => by rcases z with ⟨rfl, rfl⟩; rw [show (lup la 8 (20 * b + σ 22 b) M) 8 (20 * b + σ 22 b) = M from lup_s]; omega) (fun κ κ' i i' z z' e => by have z2 : (κ = 8 ∧ i = (20 * b + σ 22 b)) := z; have z3 : (κ' = 8 ∧ i' = (20 * b + σ 22 b)) := z'; omega)
    obtain ⟨lb, hlb⟩ : ∃ z, z = lup (lup (lup la 8 (20 * b + σ 22 b) M) 18 (6 + 2 * b) r9) 19 (6 + 2 * b) c9 := ⟨_, rfl⟩
    rw [← hlb] at hC9
    refine x_aload B hl dX10_part_110 rfl ?_
    have hT112 : t_OB (la 6 b) (D.1 (cCi 6)) (cN 6) (D.2 (cCi 6)) H3 (cV lb σ1 6 b) := by
      have h9 := hC9.1 6 b (by decide) (show 0 ≤ b ∧ b < σ1 23 0 by rw [e23]; exact hb1)
      rw [(show lb 6 b = la 6 b by rw [hlb, lup_k (by decide), lup_k (by decide)]; exact (lup_k (by decide)))] at h9
      exact h9
    refine ob_get (ci := 1) (C := RX0) (T := TX0) (N := 7) E hT112 rfl (fun z h => List.mem_cons_of_mem _ (List.mem_append_left _ (List.mem_append_left _ (List.mem_append_left _ (List.mem_append_left _ (List.mem_append_left _ (List.mem_append_left _ (List.mem_append_right _ h)))))))) 3 (by decide) (hts (.fieldLink RX10 166 "BinRounds$Bin" "parts" "Ljava/util/ArrayList;") (by decide +kernel)) (fun x hx => hx) dX10_part_112 (show va_rf (some (lb 11 (6 + 2 * b))) = .ref (la 11 (6 + 2 * b)) by rw [(show lb 11 (6 + 2 * b) = la 11 (6 + 2 * b) by rw [hlb, lup_k (by decide), lup_k (by decide)]; exact (lup_k (by decide)))]; rfl) ?_
    obtain ⟨f115, q115a, -, -, -⟩ := hC9.lst (L := (6 + 2 * b)) (n := (σ 22 b + 1)) (show 0 ≤ (6 + 2 * b) ∧ (6 + 2 * b) < 5 + 2 * σ1 23 0 by rw [e23]; omega) ((cSz_p hcb).trans (by rw [e22, if_pos rfl]))
    rw [(show lb 11 (6 + 2 * b) = la 11 (6 + 2 * b) by rw [hlb, lup_k (by decide), lup_k (by decide)]; exact (lup_k (by decide)))] at q115a
    refine cb_callV (A' := fun z => H3.size ≤ z) E hK hS hl (fun z h => hA z (by have := hS.1; omega)) (fun z h => h) (obRecv hK q115a rfl) (l_size l D cy d0 _) q115a (cwV 0 hts0 gX10_part_Jx4a65c_size_8abf5 rfl rfl rfl (by decide +kernel) ⟨Nat.le_of_ble_eq_true rfl, Nat.le_of_ble_eq_true rfl⟩) rfl rfl (Nat.le_of_ble_eq_true rfl) dX10_part_115 ⟨Nat.le_of_ble_eq_true rfl, Nat.le_of_ble_eq_true rfl⟩ (fun H4 locs v hv z115 o115 hS9 => ?_)
    obtain ⟨rfl, rfl⟩ := hv
    refine w_widen (Nat.le_of_ble_eq_true rfl) (Nat.le_of_ble_eq_true rfl) (vx_ret (co_iret E hr rfl hlk hC9 hS9 dX10_part_118 ⟨by rw [hc0]; rfl, rfl, ⟨by rw [hlb, lup_k (by decide), lup_k (by decide), lup_k (by decide)], fun L hL => ?_⟩, hσ1⟩))
    by_cases hL1 : L = (6 + 2 * b)
    · subst hL1; rw [hlb]; rw [lup_s]; omega
    · rw [hlb]; rw [lup_o hL1, lup_k (by decide), lup_k (by decide)]
      refine hcp L ?_
      have h2 : 0 ≤ L ∧ L < 5 + 2 * σ1 23 0 := hL
      rw [e23] at h2
      exact h2
  have hx9 := hz22 b
  have hix9 : σ 21 (20 * b + σ 22 b - 1) = σ 21 (20 * b + (σ 22 b - 1)) := by rw [Int.add_sub_assoc]
  refine x_aload_n B hl dX10_part_0 rfl ?_
  refine x_iload_n B hl dX10_part_1 rfl ?_
  refine ctm_call E hout hlk hK hC hS hl (κ := 0) (i := 0) (by decide) cl_0 rfl (c_binAt l hlt D cy d0 A la _ (z := b) h_b (by omega) hlg) (cwV 1 hts0 gX10_part_X10_binAt rfl rfl rfl (by decide +kernel) ⟨Nat.le_of_ble_eq_true rfl, Nat.le_of_ble_eq_true rfl⟩) rfl rfl (Nat.le_of_ble_eq_true rfl) dX10_part_2 ⟨Nat.le_of_ble_eq_true rfl, Nat.le_of_ble_eq_true rfl⟩ ⟨Nat.le_of_ble_eq_true rfl, Nat.le_of_ble_eq_true rfl⟩ (fun h => ⟨by unfold partC; omega, rfl⟩) (fun h9_2 H locs hb1 hC hS => ?_)
  refine x_astore B hl dX10_part_5 (by decide) (fun ls hl => ?_)
  refine x_aload_n B hl dX10_part_7 rfl ?_
  refine x_iload_n B hl dX10_part_8 rfl ?_
  refine ctm_call E hout hlk hK hC hS hl (κ := 0) (i := 0) (by decide) cl_0 rfl (c_houseAt l hlt D cy d0 A la _ (z := h) h_h (by omega) (by omega) hlg) (cwV 1 hts0 gX10_part_X10_houseAt rfl rfl rfl (by decide +kernel) ⟨Nat.le_of_ble_eq_true rfl, Nat.le_of_ble_eq_true rfl⟩) rfl rfl (Nat.le_of_ble_eq_true rfl) dX10_part_9 ⟨Nat.le_of_ble_eq_true rfl, Nat.le_of_ble_eq_true rfl⟩ ⟨Nat.le_of_ble_eq_true rfl, Nat.le_of_ble_eq_true rfl⟩ (fun h => ⟨by unfold partC; omega, rfl⟩) (fun h9_9 H locs hh1 hC hS => ?_)
  refine x_astore B hl dX10_part_12 (by decide) (fun ls hl => ?_)
  refine x_aload B hl dX10_part_14 rfl ?_
  refine co_geti (f := 12) E hC 6 (by decide) (cl_6 hb1) rfl (fun z h => List.mem_cons_of_mem _ (List.mem_append_left _ (List.mem_append_left _ (List.mem_append_left _ (List.mem_append_left _ (List.mem_append_left _ (List.mem_append_left _ (List.mem_append_right _ h)))))))) 1 (by decide) (hts (.fieldLink RX10 158 "BinRounds$Bin" "kind" "I") (by decide +kernel)) (fun x hx => hx) dX10_part_16 ⟨rfl, rfl, rfl⟩ rfl (fun r_16 => ?_)
  refine x_iconst B dX10_part_19 ?_
  refine x_icmp_ne (tgt := 27) B dX10_part_20 (by decide) (by omega) (by omega) (fun c_20 => ?_) (fun c_20 => ?_)
  · refine x_iconst B dX10_part_27 ?_
    refine cstm_call E hout hlk hK hC hS hl (c_require l hlt D cy d0 A la _ (z := 0) (Or.inl rfl)) (va_cwS 1 hts0 gX10_part_X10_require rfl rfl rfl (by decide +kernel) ⟨Nat.le_of_ble_eq_true rfl, Nat.le_of_ble_eq_true rfl⟩) rfl rfl (Nat.le_of_ble_eq_true rfl) dX10_part_28 ⟨Nat.le_of_ble_eq_true rfl, Nat.le_of_ble_eq_true rfl⟩ ⟨Nat.le_of_ble_eq_true rfl, Nat.le_of_ble_eq_true rfl⟩ (fun h => ⟨by unfold partC; omega, rfl⟩) (fun h9_28 H locs q_28 hC hS => ?_)
    refine x_iload_n B hl dX10_part_31 rfl ?_
    refine x_i2l B dX10_part_32 (by omega) ?_
    refine x_lconst B dX10_part_33 ?_
    refine lv_ldc2 (v := lI 1000) B.1 B.2 hown (hts (.constantLong RX10 161 (1000)) (by decide +kernel)) dX10_part_34 ?_
    refine z_call ⟨B.1, B.2, hml, hown, hts0⟩ hl (c_isWithin l (v := wt) (a := 0) (b := 1000) (by omega) (by omega) (by omega)) (va_cwS 3 hts0 gX10_part_X10_isWithin rfl rfl rfl (by decide +kernel) ⟨Nat.le_of_ble_eq_true rfl, Nat.le_of_ble_eq_true rfl⟩) rfl rfl (Nat.le_of_ble_eq_true rfl) dX10_part_37 ⟨Nat.le_of_ble_eq_true rfl, Nat.le_of_ble_eq_true rfl⟩ (fun q_37 => ?_)
    refine x_bool (fun b_37 => ?_) (fun b_37 => ?_)
    · refine cstm_call E hout hlk hK hC hS hl (c_require l hlt D cy d0 A la _ (z := 1) (Or.inr rfl)) (va_cwS 1 hts0 gX10_part_X10_require rfl rfl rfl (by decide +kernel) ⟨Nat.le_of_ble_eq_true rfl, Nat.le_of_ble_eq_true rfl⟩) rfl rfl (Nat.le_of_ble_eq_true rfl) dX10_part_40 ⟨Nat.le_of_ble_eq_true rfl, Nat.le_of_ble_eq_true rfl⟩ ⟨Nat.le_of_ble_eq_true rfl, Nat.le_of_ble_eq_true rfl⟩ (fun h => ⟨by unfold partC; omega, rfl⟩) (fun h9_40 H locs q_40 hC hS => ?_)
      refine x_iload B hl dX10_part_43 rfl ?_
      refine x_i2l B dX10_part_45 (by omega) ?_
      refine x_aload_n B hl dX10_part_46 rfl ?_
      refine co_geti (f := 1) E hC 0 (by decide) cl_0 rfl (fun z h => List.mem_cons_of_mem _ (List.mem_append_left _ (List.mem_append_left _ (List.mem_append_left _ (List.mem_append_left _ (List.mem_append_left _ (List.mem_append_right _ h))))))) 8 (by decide) (hts (.fieldLink RX10 49 "BinRounds" "open" "I") (by decide +kernel)) (fun x hx => hx) dX10_part_47 ⟨rfl, rfl, rfl⟩ rfl (fun r_47 => ?_)
      refine x_aload B hl dX10_part_50 rfl ?_
      refine co_call E hK hC hS hl (κ := 6) (i := b) (by decide) (cl_6 hb1) rfl (c_latestPartDay l D cy d0 A la σ (b := b) hb1 (hm22 _)) (cwV 0 hts0 gX10_part_X0_latestPartDay rfl rfl rfl (by decide +kernel) ⟨Nat.le_of_ble_eq_true rfl, Nat.le_of_ble_eq_true rfl⟩) rfl rfl (Nat.le_of_ble_eq_true rfl) dX10_part_52 ⟨Nat.le_of_ble_eq_true rfl, Nat.le_of_ble_eq_true rfl⟩ (fun H locs q_l hC hS => ?_)
      refine x_mmax (z := (if σ 1 0 < (if σ 22 b = 0 then 0 else σ 21 (20 * b + (σ 22 b - 1))) then (if σ 22 b = 0 then 0 else σ 21 (20 * b + (σ 22 b - 1))) else σ 1 0)) E hl (by decide +kernel) (by decide +kernel) (by decide +kernel) (by decide +kernel) (Nat.le_of_ble_eq_true rfl) (Nat.le_of_ble_eq_true rfl) (Nat.le_of_ble_eq_true rfl) (Nat.le_of_ble_eq_true rfl) (by omega) (by omega) dX10_part_55 rfl ?_
      refine x_i2l B dX10_part_58 (by omega) ?_
      refine lv_ldc2 (v := lI 699) B.1 B.2 hown (hts (.constantLong RX10 97 (699)) (by decide +kernel)) dX10_part_59 ?_
      refine z_call ⟨B.1, B.2, hml, hown, hts0⟩ hl (c_isWithin l (v := d) (a := (if σ 1 0 < (if σ 22 b = 0 then 0 else σ 21 (20 * b + (σ 22 b - 1))) then (if σ 22 b = 0 then 0 else σ 21 (20 * b + (σ 22 b - 1))) else σ 1 0)) (b := 699) (by omega) (by omega) (by omega)) (va_cwS 3 hts0 gX10_part_X10_isWithin rfl rfl rfl (by decide +kernel) ⟨Nat.le_of_ble_eq_true rfl, Nat.le_of_ble_eq_true rfl⟩) rfl rfl (Nat.le_of_ble_eq_true rfl) dX10_part_62 ⟨Nat.le_of_ble_eq_true rfl, Nat.le_of_ble_eq_true rfl⟩ (fun q_62 => ?_)
      refine x_bool (fun b_62 => ?_) (fun b_62 => ?_)
      · refine cstm_call E hout hlk hK hC hS hl (c_require l hlt D cy d0 A la _ (z := 1) (Or.inr rfl)) (va_cwS 1 hts0 gX10_part_X10_require rfl rfl rfl (by decide +kernel) ⟨Nat.le_of_ble_eq_true rfl, Nat.le_of_ble_eq_true rfl⟩) rfl rfl (Nat.le_of_ble_eq_true rfl) dX10_part_65 ⟨Nat.le_of_ble_eq_true rfl, Nat.le_of_ble_eq_true rfl⟩ ⟨Nat.le_of_ble_eq_true rfl, Nat.le_of_ble_eq_true rfl⟩ (fun h => ⟨by unfold partC; omega, rfl⟩) (fun h9_65 H locs q_65 hC hS => ?_)
        refine x_aload B hl dX10_part_68 rfl ?_
        refine co_getR (x := la 11 (6 + 2 * b)) E hC 6 (by decide) (cl_6 hb1) rfl (fun z h => List.mem_cons_of_mem _ (List.mem_append_left _ (List.mem_append_left _ (List.mem_append_left _ (List.mem_append_left _ (List.mem_append_left _ (List.mem_append_left _ (List.mem_append_right _ h)))))))) 3 (by decide) (hts (.fieldLink RX10 166 "BinRounds$Bin" "parts" "Ljava/util/ArrayList;") (by decide +kernel)) (fun x hx => hx) dX10_part_70 rfl rfl ?_
        refine co_call E hK hC hS hl (κ := 11) (i := (6 + 2 * b)) (by decide) (cl_11 (by omega)) rfl (c_size l D cy d0 A la σ (L := (6 + 2 * b)) (n := σ 22 b) (cl_11 (by omega)) (cSz_p hb1.1)) (cwV 0 hts0 gX10_part_Jx4a65c_size_8abf5 rfl rfl rfl (by decide +kernel) ⟨Nat.le_of_ble_eq_true rfl, Nat.le_of_ble_eq_true rfl⟩) rfl rfl (Nat.le_of_ble_eq_true rfl) dX10_part_73 ⟨Nat.le_of_ble_eq_true rfl, Nat.le_of_ble_eq_true rfl⟩ (fun H locs q_73 hC hS => ?_)
        refine x_bipush B dX10_part_76 (by decide) ?_
        refine x_icmp_ge (tgt := 85) B dX10_part_78 (by decide) (by omega) (by omega) (fun c_78 => ?_) (fun c_78 => ?_)
        · refine x_iconst B dX10_part_85 ?_
          refine cstm_call E hout hlk hK hC hS hl (c_requireRoom l hlt D cy d0 A la _ (z := 0) (Or.inl rfl)) (va_cwS 1 hts0 gX10_part_X10_requireRoom rfl rfl rfl (by decide +kernel) ⟨Nat.le_of_ble_eq_true rfl, Nat.le_of_ble_eq_true rfl⟩) rfl rfl (Nat.le_of_ble_eq_true rfl) dX10_part_86 ⟨Nat.le_of_ble_eq_true rfl, Nat.le_of_ble_eq_true rfl⟩ ⟨Nat.le_of_ble_eq_true rfl, Nat.le_of_ble_eq_true rfl⟩ (fun h => ⟨by unfold partC; omega, rfl⟩) (fun h9_86 H locs q_86 hC hS => ?_)
          exact w_widen (Nat.le_of_ble_eq_true rfl) (Nat.le_of_ble_eq_true rfl) (tail _ _ ls hb1 hh1 (by omega) (by omega) (by omega) (by unfold partC; rw [if_neg (by omega), if_neg (by omega), if_neg (by omega)]) hC hS (lv_key hl _ rfl))
        · refine x_iconst B dX10_part_81 ?_
          refine x_goto (tgt := 86) B dX10_part_82 (by decide) ?_
          refine cstm_call E hout hlk hK hC hS hl (c_requireRoom l hlt D cy d0 A la _ (z := 1) (Or.inr rfl)) (va_cwS 1 hts0 gX10_part_X10_requireRoom rfl rfl rfl (by decide +kernel) ⟨Nat.le_of_ble_eq_true rfl, Nat.le_of_ble_eq_true rfl⟩) rfl rfl (Nat.le_of_ble_eq_true rfl) dX10_part_86 ⟨Nat.le_of_ble_eq_true rfl, Nat.le_of_ble_eq_true rfl⟩ ⟨Nat.le_of_ble_eq_true rfl, Nat.le_of_ble_eq_true rfl⟩ (fun h => ⟨by unfold partC; omega, rfl⟩) (fun h9_86 H locs q_86 hC hS => ?_)
          exact w_widen (Nat.le_of_ble_eq_true rfl) (Nat.le_of_ble_eq_true rfl) (tail _ _ ls hb1 hh1 (by omega) (by omega) (by omega) (by unfold partC; rw [if_neg (by omega), if_neg (by omega), if_neg (by omega)]) hC hS (lv_key hl _ rfl))
      · refine cstm_call E hout hlk hK hC hS hl (c_require l hlt D cy d0 A la _ (z := 0) (Or.inl rfl)) (va_cwS 1 hts0 gX10_part_X10_require rfl rfl rfl (by decide +kernel) ⟨Nat.le_of_ble_eq_true rfl, Nat.le_of_ble_eq_true rfl⟩) rfl rfl (Nat.le_of_ble_eq_true rfl) dX10_part_65 ⟨Nat.le_of_ble_eq_true rfl, Nat.le_of_ble_eq_true rfl⟩ ⟨Nat.le_of_ble_eq_true rfl, Nat.le_of_ble_eq_true rfl⟩ (fun h => ⟨by unfold partC; omega, rfl⟩) (fun h9_65 H locs q_65 hC hS => ?_)
        refine x_aload B hl dX10_part_68 rfl ?_
        refine co_getR (x := la 11 (6 + 2 * b)) E hC 6 (by decide) (cl_6 hb1) rfl (fun z h => List.mem_cons_of_mem _ (List.mem_append_left _ (List.mem_append_left _ (List.mem_append_left _ (List.mem_append_left _ (List.mem_append_left _ (List.mem_append_left _ (List.mem_append_right _ h)))))))) 3 (by decide) (hts (.fieldLink RX10 166 "BinRounds$Bin" "parts" "Ljava/util/ArrayList;") (by decide +kernel)) (fun x hx => hx) dX10_part_70 rfl rfl ?_
        refine co_call E hK hC hS hl (κ := 11) (i := (6 + 2 * b)) (by decide) (cl_11 (by omega)) rfl (c_size l D cy d0 A la σ (L := (6 + 2 * b)) (n := σ 22 b) (cl_11 (by omega)) (cSz_p hb1.1)) (cwV 0 hts0 gX10_part_Jx4a65c_size_8abf5 rfl rfl rfl (by decide +kernel) ⟨Nat.le_of_ble_eq_true rfl, Nat.le_of_ble_eq_true rfl⟩) rfl rfl (Nat.le_of_ble_eq_true rfl) dX10_part_73 ⟨Nat.le_of_ble_eq_true rfl, Nat.le_of_ble_eq_true rfl⟩ (fun H locs q_73 hC hS => ?_)
        refine x_bipush B dX10_part_76 (by decide) ?_
        refine x_icmp_ge (tgt := 85) B dX10_part_78 (by decide) (by omega) (by omega) (fun c_78 => ?_) (fun c_78 => ?_)
        · refine x_iconst B dX10_part_85 ?_
          refine cstm_call E hout hlk hK hC hS hl (c_requireRoom l hlt D cy d0 A la _ (z := 0) (Or.inl rfl)) (va_cwS 1 hts0 gX10_part_X10_requireRoom rfl rfl rfl (by decide +kernel) ⟨Nat.le_of_ble_eq_true rfl, Nat.le_of_ble_eq_true rfl⟩) rfl rfl (Nat.le_of_ble_eq_true rfl) dX10_part_86 ⟨Nat.le_of_ble_eq_true rfl, Nat.le_of_ble_eq_true rfl⟩ ⟨Nat.le_of_ble_eq_true rfl, Nat.le_of_ble_eq_true rfl⟩ (fun h => ⟨by unfold partC; omega, rfl⟩) (fun h9_86 H locs q_86 hC hS => ?_)
          exact w_widen (Nat.le_of_ble_eq_true rfl) (Nat.le_of_ble_eq_true rfl) (tail _ _ ls hb1 hh1 (by omega) (by omega) (by omega) (by unfold partC; rw [if_neg (by omega), if_neg (by omega), if_neg (by omega)]) hC hS (lv_key hl _ rfl))
        · refine x_iconst B dX10_part_81 ?_
          refine x_goto (tgt := 86) B dX10_part_82 (by decide) ?_
          refine cstm_call E hout hlk hK hC hS hl (c_requireRoom l hlt D cy d0 A la _ (z := 1) (Or.inr rfl)) (va_cwS 1 hts0 gX10_part_X10_requireRoom rfl rfl rfl (by decide +kernel) ⟨Nat.le_of_ble_eq_true rfl, Nat.le_of_ble_eq_true rfl⟩) rfl rfl (Nat.le_of_ble_eq_true rfl) dX10_part_86 ⟨Nat.le_of_ble_eq_true rfl, Nat.le_of_ble_eq_true rfl⟩ ⟨Nat.le_of_ble_eq_true rfl, Nat.le_of_ble_eq_true rfl⟩ (fun h => ⟨by unfold partC; omega, rfl⟩) (fun h9_86 H locs q_86 hC hS => ?_)
          exact w_widen (Nat.le_of_ble_eq_true rfl) (Nat.le_of_ble_eq_true rfl) (tail _ _ ls hb1 hh1 (by omega) (by omega) (by omega) (by unfold partC; rw [if_neg (by omega), if_neg (by omega), if_neg (by omega)]) hC hS (lv_key hl _ rfl))
    · refine cstm_call E hout hlk hK hC hS hl (c_require l hlt D cy d0 A la _ (z := 0) (Or.inl rfl)) (va_cwS 1 hts0 gX10_part_X10_require rfl rfl rfl (by decide +kernel) ⟨Nat.le_of_ble_eq_true rfl, Nat.le_of_ble_eq_true rfl⟩) rfl rfl (Nat.le_of_ble_eq_true rfl) dX10_part_40 ⟨Nat.le_of_ble_eq_true rfl, Nat.le_of_ble_eq_true rfl⟩ ⟨Nat.le_of_ble_eq_true rfl, Nat.le_of_ble_eq_true rfl⟩ (fun h => ⟨by unfold partC; omega, rfl⟩) (fun h9_40 H locs q_40 hC hS => ?_)
      refine x_iload B hl dX10_part_43 rfl ?_
      refine x_i2l B dX10_part_45 (by omega) ?_
      refine x_aload_n B hl dX10_part_46 rfl ?_
      refine co_geti (f := 1) E hC 0 (by decide) cl_0 rfl (fun z h => List.mem_cons_of_mem _ (List.mem_append_left _ (List.mem_append_left _ (List.mem_append_left _ (List.mem_append_left _ (List.mem_append_left _ (List.mem_append_right _ h))))))) 8 (by decide) (hts (.fieldLink RX10 49 "BinRounds" "open" "I") (by decide +kernel)) (fun x hx => hx) dX10_part_47 ⟨rfl, rfl, rfl⟩ rfl (fun r_47 => ?_)
      refine x_aload B hl dX10_part_50 rfl ?_
      refine co_call E hK hC hS hl (κ := 6) (i := b) (by decide) (cl_6 hb1) rfl (c_latestPartDay l D cy d0 A la σ (b := b) hb1 (hm22 _)) (cwV 0 hts0 gX10_part_X0_latestPartDay rfl rfl rfl (by decide +kernel) ⟨Nat.le_of_ble_eq_true rfl, Nat.le_of_ble_eq_true rfl⟩) rfl rfl (Nat.le_of_ble_eq_true rfl) dX10_part_52 ⟨Nat.le_of_ble_eq_true rfl, Nat.le_of_ble_eq_true rfl⟩ (fun H locs q_l hC hS => ?_)
      refine x_mmax (z := (if σ 1 0 < (if σ 22 b = 0 then 0 else σ 21 (20 * b + (σ 22 b - 1))) then (if σ 22 b = 0 then 0 else σ 21 (20 * b + (σ 22 b - 1))) else σ 1 0)) E hl (by decide +kernel) (by decide +kernel) (by decide +kernel) (by decide +kernel) (Nat.le_of_ble_eq_true rfl) (Nat.le_of_ble_eq_true rfl) (Nat.le_of_ble_eq_true rfl) (Nat.le_of_ble_eq_true rfl) (by omega) (by omega) dX10_part_55 rfl ?_
      refine x_i2l B dX10_part_58 (by omega) ?_
      refine lv_ldc2 (v := lI 699) B.1 B.2 hown (hts (.constantLong RX10 97 (699)) (by decide +kernel)) dX10_part_59 ?_
      refine z_call ⟨B.1, B.2, hml, hown, hts0⟩ hl (c_isWithin l (v := d) (a := (if σ 1 0 < (if σ 22 b = 0 then 0 else σ 21 (20 * b + (σ 22 b - 1))) then (if σ 22 b = 0 then 0 else σ 21 (20 * b + (σ 22 b - 1))) else σ 1 0)) (b := 699) (by omega) (by omega) (by omega)) (va_cwS 3 hts0 gX10_part_X10_isWithin rfl rfl rfl (by decide +kernel) ⟨Nat.le_of_ble_eq_true rfl, Nat.le_of_ble_eq_true rfl⟩) rfl rfl (Nat.le_of_ble_eq_true rfl) dX10_part_62 ⟨Nat.le_of_ble_eq_true rfl, Nat.le_of_ble_eq_true rfl⟩ (fun q_62 => ?_)
      refine x_bool (fun b_62 => ?_) (fun b_62 => ?_)
      · refine cstm_call E hout hlk hK hC hS hl (c_require l hlt D cy d0 A la _ (z := 1) (Or.inr rfl)) (va_cwS 1 hts0 gX10_part_X10_require rfl rfl rfl (by decide +kernel) ⟨Nat.le_of_ble_eq_true rfl, Nat.le_of_ble_eq_true rfl⟩) rfl rfl (Nat.le_of_ble_eq_true rfl) dX10_part_65 ⟨Nat.le_of_ble_eq_true rfl, Nat.le_of_ble_eq_true rfl⟩ ⟨Nat.le_of_ble_eq_true rfl, Nat.le_of_ble_eq_true rfl⟩ (fun h => ⟨by unfold partC; omega, rfl⟩) (fun h9_65 H locs q_65 hC hS => ?_)
        refine x_aload B hl dX10_part_68 rfl ?_
        refine co_getR (x := la 11 (6 + 2 * b)) E hC 6 (by decide) (cl_6 hb1) rfl (fun z h => List.mem_cons_of_mem _ (List.mem_append_left _ (List.mem_append_left _ (List.mem_append_left _ (List.mem_append_left _ (List.mem_append_left _ (List.mem_append_left _ (List.mem_append_right _ h)))))))) 3 (by decide) (hts (.fieldLink RX10 166 "BinRounds$Bin" "parts" "Ljava/util/ArrayList;") (by decide +kernel)) (fun x hx => hx) dX10_part_70 rfl rfl ?_
        refine co_call E hK hC hS hl (κ := 11) (i := (6 + 2 * b)) (by decide) (cl_11 (by omega)) rfl (c_size l D cy d0 A la σ (L := (6 + 2 * b)) (n := σ 22 b) (cl_11 (by omega)) (cSz_p hb1.1)) (cwV 0 hts0 gX10_part_Jx4a65c_size_8abf5 rfl rfl rfl (by decide +kernel) ⟨Nat.le_of_ble_eq_true rfl, Nat.le_of_ble_eq_true rfl⟩) rfl rfl (Nat.le_of_ble_eq_true rfl) dX10_part_73 ⟨Nat.le_of_ble_eq_true rfl, Nat.le_of_ble_eq_true rfl⟩ (fun H locs q_73 hC hS => ?_)
        refine x_bipush B dX10_part_76 (by decide) ?_
        refine x_icmp_ge (tgt := 85) B dX10_part_78 (by decide) (by omega) (by omega) (fun c_78 => ?_) (fun c_78 => ?_)
        · refine x_iconst B dX10_part_85 ?_
          refine cstm_call E hout hlk hK hC hS hl (c_requireRoom l hlt D cy d0 A la _ (z := 0) (Or.inl rfl)) (va_cwS 1 hts0 gX10_part_X10_requireRoom rfl rfl rfl (by decide +kernel) ⟨Nat.le_of_ble_eq_true rfl, Nat.le_of_ble_eq_true rfl⟩) rfl rfl (Nat.le_of_ble_eq_true rfl) dX10_part_86 ⟨Nat.le_of_ble_eq_true rfl, Nat.le_of_ble_eq_true rfl⟩ ⟨Nat.le_of_ble_eq_true rfl, Nat.le_of_ble_eq_true rfl⟩ (fun h => ⟨by unfold partC; omega, rfl⟩) (fun h9_86 H locs q_86 hC hS => ?_)
          exact w_widen (Nat.le_of_ble_eq_true rfl) (Nat.le_of_ble_eq_true rfl) (tail _ _ ls hb1 hh1 (by omega) (by omega) (by omega) (by unfold partC; rw [if_neg (by omega), if_neg (by omega), if_neg (by omega)]) hC hS (lv_key hl _ rfl))
        · refine x_iconst B dX10_part_81 ?_
          refine x_goto (tgt := 86) B dX10_part_82 (by decide) ?_
          refine cstm_call E hout hlk hK hC hS hl (c_requireRoom l hlt D cy d0 A la _ (z := 1) (Or.inr rfl)) (va_cwS 1 hts0 gX10_part_X10_requireRoom rfl rfl rfl (by decide +kernel) ⟨Nat.le_of_ble_eq_true rfl, Nat.le_of_ble_eq_true rfl⟩) rfl rfl (Nat.le_of_ble_eq_true rfl) dX10_part_86 ⟨Nat.le_of_ble_eq_true rfl, Nat.le_of_ble_eq_true rfl⟩ ⟨Nat.le_of_ble_eq_true rfl, Nat.le_of_ble_eq_true rfl⟩ (fun h => ⟨by unfold partC; omega, rfl⟩) (fun h9_86 H locs q_86 hC hS => ?_)
          exact w_widen (Nat.le_of_ble_eq_true rfl) (Nat.le_of_ble_eq_true rfl) (tail _ _ ls hb1 hh1 (by omega) (by omega) (by omega) (by unfold partC; rw [if_neg (by omega), if_neg (by omega), if_neg (by omega)]) hC hS (lv_key hl _ rfl))
      · refine cstm_call E hout hlk hK hC hS hl (c_require l hlt D cy d0 A la _ (z := 0) (Or.inl rfl)) (va_cwS 1 hts0 gX10_part_X10_require rfl rfl rfl (by decide +kernel) ⟨Nat.le_of_ble_eq_true rfl, Nat.le_of_ble_eq_true rfl⟩) rfl rfl (Nat.le_of_ble_eq_true rfl) dX10_part_65 ⟨Nat.le_of_ble_eq_true rfl, Nat.le_of_ble_eq_true rfl⟩ ⟨Nat.le_of_ble_eq_true rfl, Nat.le_of_ble_eq_true rfl⟩ (fun h => ⟨by unfold partC; omega, rfl⟩) (fun h9_65 H locs q_65 hC hS => ?_)
        refine x_aload B hl dX10_part_68 rfl ?_
        refine co_getR (x := la 11 (6 + 2 * b)) E hC 6 (by decide) (cl_6 hb1) rfl (fun z h => List.mem_cons_of_mem _ (List.mem_append_left _ (List.mem_append_left _ (List.mem_append_left _ (List.mem_append_left _ (List.mem_append_left _ (List.mem_append_left _ (List.mem_append_right _ h)))))))) 3 (by decide) (hts (.fieldLink RX10 166 "BinRounds$Bin" "parts" "Ljava/util/ArrayList;") (by decide +kernel)) (fun x hx => hx) dX10_part_70 rfl rfl ?_
        refine co_call E hK hC hS hl (κ := 11) (i := (6 + 2 * b)) (by decide) (cl_11 (by omega)) rfl (c_size l D cy d0 A la σ (L := (6 + 2 * b)) (n := σ 22 b) (cl_11 (by omega)) (cSz_p hb1.1)) (cwV 0 hts0 gX10_part_Jx4a65c_size_8abf5 rfl rfl rfl (by decide +kernel) ⟨Nat.le_of_ble_eq_true rfl, Nat.le_of_ble_eq_true rfl⟩) rfl rfl (Nat.le_of_ble_eq_true rfl) dX10_part_73 ⟨Nat.le_of_ble_eq_true rfl, Nat.le_of_ble_eq_true rfl⟩ (fun H locs q_73 hC hS => ?_)
        refine x_bipush B dX10_part_76 (by decide) ?_
        refine x_icmp_ge (tgt := 85) B dX10_part_78 (by decide) (by omega) (by omega) (fun c_78 => ?_) (fun c_78 => ?_)
        · refine x_iconst B dX10_part_85 ?_
          refine cstm_call E hout hlk hK hC hS hl (c_requireRoom l hlt D cy d0 A la _ (z := 0) (Or.inl rfl)) (va_cwS 1 hts0 gX10_part_X10_requireRoom rfl rfl rfl (by decide +kernel) ⟨Nat.le_of_ble_eq_true rfl, Nat.le_of_ble_eq_true rfl⟩) rfl rfl (Nat.le_of_ble_eq_true rfl) dX10_part_86 ⟨Nat.le_of_ble_eq_true rfl, Nat.le_of_ble_eq_true rfl⟩ ⟨Nat.le_of_ble_eq_true rfl, Nat.le_of_ble_eq_true rfl⟩ (fun h => ⟨by unfold partC; omega, rfl⟩) (fun h9_86 H locs q_86 hC hS => ?_)
          exact w_widen (Nat.le_of_ble_eq_true rfl) (Nat.le_of_ble_eq_true rfl) (tail _ _ ls hb1 hh1 (by omega) (by omega) (by omega) (by unfold partC; rw [if_neg (by omega), if_neg (by omega), if_neg (by omega)]) hC hS (lv_key hl _ rfl))
        · refine x_iconst B dX10_part_81 ?_
          refine x_goto (tgt := 86) B dX10_part_82 (by decide) ?_
          refine cstm_call E hout hlk hK hC hS hl (c_requireRoom l hlt D cy d0 A la _ (z := 1) (Or.inr rfl)) (va_cwS 1 hts0 gX10_part_X10_requireRoom rfl rfl rfl (by decide +kernel) ⟨Nat.le_of_ble_eq_true rfl, Nat.le_of_ble_eq_true rfl⟩) rfl rfl (Nat.le_of_ble_eq_true rfl) dX10_part_86 ⟨Nat.le_of_ble_eq_true rfl, Nat.le_of_ble_eq_true rfl⟩ ⟨Nat.le_of_ble_eq_true rfl, Nat.le_of_ble_eq_true rfl⟩ (fun h => ⟨by unfold partC; omega, rfl⟩) (fun h9_86 H locs q_86 hC hS => ?_)
          exact w_widen (Nat.le_of_ble_eq_true rfl) (Nat.le_of_ble_eq_true rfl) (tail _ _ ls hb1 hh1 (by omega) (by omega) (by omega) (by unfold partC; rw [if_neg (by omega), if_neg (by omega), if_neg (by omega)]) hC hS (lv_key hl _ rfl))
  · refine x_iconst B dX10_part_23 ?_
    refine x_goto (tgt := 28) B dX10_part_24 (by decide) ?_
    refine cstm_call E hout hlk hK hC hS hl (c_require l hlt D cy d0 A la _ (z := 1) (Or.inr rfl)) (va_cwS 1 hts0 gX10_part_X10_require rfl rfl rfl (by decide +kernel) ⟨Nat.le_of_ble_eq_true rfl, Nat.le_of_ble_eq_true rfl⟩) rfl rfl (Nat.le_of_ble_eq_true rfl) dX10_part_28 ⟨Nat.le_of_ble_eq_true rfl, Nat.le_of_ble_eq_true rfl⟩ ⟨Nat.le_of_ble_eq_true rfl, Nat.le_of_ble_eq_true rfl⟩ (fun h => ⟨by unfold partC; omega, rfl⟩) (fun h9_28 H locs q_28 hC hS => ?_)
    refine x_iload_n B hl dX10_part_31 rfl ?_
    refine x_i2l B dX10_part_32 (by omega) ?_
    refine x_lconst B dX10_part_33 ?_
    refine lv_ldc2 (v := lI 1000) B.1 B.2 hown (hts (.constantLong RX10 161 (1000)) (by decide +kernel)) dX10_part_34 ?_
    refine z_call ⟨B.1, B.2, hml, hown, hts0⟩ hl (c_isWithin l (v := wt) (a := 0) (b := 1000) (by omega) (by omega) (by omega)) (va_cwS 3 hts0 gX10_part_X10_isWithin rfl rfl rfl (by decide +kernel) ⟨Nat.le_of_ble_eq_true rfl, Nat.le_of_ble_eq_true rfl⟩) rfl rfl (Nat.le_of_ble_eq_true rfl) dX10_part_37 ⟨Nat.le_of_ble_eq_true rfl, Nat.le_of_ble_eq_true rfl⟩ (fun q_37 => ?_)
    refine x_bool (fun b_37 => ?_) (fun b_37 => ?_)
    · refine cstm_call E hout hlk hK hC hS hl (c_require l hlt D cy d0 A la _ (z := 1) (Or.inr rfl)) (va_cwS 1 hts0 gX10_part_X10_require rfl rfl rfl (by decide +kernel) ⟨Nat.le_of_ble_eq_true rfl, Nat.le_of_ble_eq_true rfl⟩) rfl rfl (Nat.le_of_ble_eq_true rfl) dX10_part_40 ⟨Nat.le_of_ble_eq_true rfl, Nat.le_of_ble_eq_true rfl⟩ ⟨Nat.le_of_ble_eq_true rfl, Nat.le_of_ble_eq_true rfl⟩ (fun h => ⟨by unfold partC; omega, rfl⟩) (fun h9_40 H locs q_40 hC hS => ?_)
      refine x_iload B hl dX10_part_43 rfl ?_
      refine x_i2l B dX10_part_45 (by omega) ?_
      refine x_aload_n B hl dX10_part_46 rfl ?_
      refine co_geti (f := 1) E hC 0 (by decide) cl_0 rfl (fun z h => List.mem_cons_of_mem _ (List.mem_append_left _ (List.mem_append_left _ (List.mem_append_left _ (List.mem_append_left _ (List.mem_append_left _ (List.mem_append_right _ h))))))) 8 (by decide) (hts (.fieldLink RX10 49 "BinRounds" "open" "I") (by decide +kernel)) (fun x hx => hx) dX10_part_47 ⟨rfl, rfl, rfl⟩ rfl (fun r_47 => ?_)
      refine x_aload B hl dX10_part_50 rfl ?_
      refine co_call E hK hC hS hl (κ := 6) (i := b) (by decide) (cl_6 hb1) rfl (c_latestPartDay l D cy d0 A la σ (b := b) hb1 (hm22 _)) (cwV 0 hts0 gX10_part_X0_latestPartDay rfl rfl rfl (by decide +kernel) ⟨Nat.le_of_ble_eq_true rfl, Nat.le_of_ble_eq_true rfl⟩) rfl rfl (Nat.le_of_ble_eq_true rfl) dX10_part_52 ⟨Nat.le_of_ble_eq_true rfl, Nat.le_of_ble_eq_true rfl⟩ (fun H locs q_l hC hS => ?_)
      refine x_mmax (z := (if σ 1 0 < (if σ 22 b = 0 then 0 else σ 21 (20 * b + (σ 22 b - 1))) then (if σ 22 b = 0 then 0 else σ 21 (20 * b + (σ 22 b - 1))) else σ 1 0)) E hl (by decide +kernel) (by decide +kernel) (by decide +kernel) (by decide +kernel) (Nat.le_of_ble_eq_true rfl) (Nat.le_of_ble_eq_true rfl) (Nat.le_of_ble_eq_true rfl) (Nat.le_of_ble_eq_true rfl) (by omega) (by omega) dX10_part_55 rfl ?_
      refine x_i2l B dX10_part_58 (by omega) ?_
      refine lv_ldc2 (v := lI 699) B.1 B.2 hown (hts (.constantLong RX10 97 (699)) (by decide +kernel)) dX10_part_59 ?_
      refine z_call ⟨B.1, B.2, hml, hown, hts0⟩ hl (c_isWithin l (v := d) (a := (if σ 1 0 < (if σ 22 b = 0 then 0 else σ 21 (20 * b + (σ 22 b - 1))) then (if σ 22 b = 0 then 0 else σ 21 (20 * b + (σ 22 b - 1))) else σ 1 0)) (b := 699) (by omega) (by omega) (by omega)) (va_cwS 3 hts0 gX10_part_X10_isWithin rfl rfl rfl (by decide +kernel) ⟨Nat.le_of_ble_eq_true rfl, Nat.le_of_ble_eq_true rfl⟩) rfl rfl (Nat.le_of_ble_eq_true rfl) dX10_part_62 ⟨Nat.le_of_ble_eq_true rfl, Nat.le_of_ble_eq_true rfl⟩ (fun q_62 => ?_)
      refine x_bool (fun b_62 => ?_) (fun b_62 => ?_)
      · refine cstm_call E hout hlk hK hC hS hl (c_require l hlt D cy d0 A la _ (z := 1) (Or.inr rfl)) (va_cwS 1 hts0 gX10_part_X10_require rfl rfl rfl (by decide +kernel) ⟨Nat.le_of_ble_eq_true rfl, Nat.le_of_ble_eq_true rfl⟩) rfl rfl (Nat.le_of_ble_eq_true rfl) dX10_part_65 ⟨Nat.le_of_ble_eq_true rfl, Nat.le_of_ble_eq_true rfl⟩ ⟨Nat.le_of_ble_eq_true rfl, Nat.le_of_ble_eq_true rfl⟩ (fun h => ⟨by unfold partC; omega, rfl⟩) (fun h9_65 H locs q_65 hC hS => ?_)
        refine x_aload B hl dX10_part_68 rfl ?_
        refine co_getR (x := la 11 (6 + 2 * b)) E hC 6 (by decide) (cl_6 hb1) rfl (fun z h => List.mem_cons_of_mem _ (List.mem_append_left _ (List.mem_append_left _ (List.mem_append_left _ (List.mem_append_left _ (List.mem_append_left _ (List.mem_append_left _ (List.mem_append_right _ h)))))))) 3 (by decide) (hts (.fieldLink RX10 166 "BinRounds$Bin" "parts" "Ljava/util/ArrayList;") (by decide +kernel)) (fun x hx => hx) dX10_part_70 rfl rfl ?_
        refine co_call E hK hC hS hl (κ := 11) (i := (6 + 2 * b)) (by decide) (cl_11 (by omega)) rfl (c_size l D cy d0 A la σ (L := (6 + 2 * b)) (n := σ 22 b) (cl_11 (by omega)) (cSz_p hb1.1)) (cwV 0 hts0 gX10_part_Jx4a65c_size_8abf5 rfl rfl rfl (by decide +kernel) ⟨Nat.le_of_ble_eq_true rfl, Nat.le_of_ble_eq_true rfl⟩) rfl rfl (Nat.le_of_ble_eq_true rfl) dX10_part_73 ⟨Nat.le_of_ble_eq_true rfl, Nat.le_of_ble_eq_true rfl⟩ (fun H locs q_73 hC hS => ?_)
        refine x_bipush B dX10_part_76 (by decide) ?_
        refine x_icmp_ge (tgt := 85) B dX10_part_78 (by decide) (by omega) (by omega) (fun c_78 => ?_) (fun c_78 => ?_)
        · refine x_iconst B dX10_part_85 ?_
          refine cstm_call E hout hlk hK hC hS hl (c_requireRoom l hlt D cy d0 A la _ (z := 0) (Or.inl rfl)) (va_cwS 1 hts0 gX10_part_X10_requireRoom rfl rfl rfl (by decide +kernel) ⟨Nat.le_of_ble_eq_true rfl, Nat.le_of_ble_eq_true rfl⟩) rfl rfl (Nat.le_of_ble_eq_true rfl) dX10_part_86 ⟨Nat.le_of_ble_eq_true rfl, Nat.le_of_ble_eq_true rfl⟩ ⟨Nat.le_of_ble_eq_true rfl, Nat.le_of_ble_eq_true rfl⟩ (fun h => ⟨by unfold partC; omega, rfl⟩) (fun h9_86 H locs q_86 hC hS => ?_)
          exact w_widen (Nat.le_of_ble_eq_true rfl) (Nat.le_of_ble_eq_true rfl) (tail _ _ ls hb1 hh1 (by omega) (by omega) (by omega) (by unfold partC; rw [if_neg (by omega), if_neg (by omega), if_neg (by omega)]) hC hS (lv_key hl _ rfl))
        · refine x_iconst B dX10_part_81 ?_
          refine x_goto (tgt := 86) B dX10_part_82 (by decide) ?_
          refine cstm_call E hout hlk hK hC hS hl (c_requireRoom l hlt D cy d0 A la _ (z := 1) (Or.inr rfl)) (va_cwS 1 hts0 gX10_part_X10_requireRoom rfl rfl rfl (by decide +kernel) ⟨Nat.le_of_ble_eq_true rfl, Nat.le_of_ble_eq_true rfl⟩) rfl rfl (Nat.le_of_ble_eq_true rfl) dX10_part_86 ⟨Nat.le_of_ble_eq_true rfl, Nat.le_of_ble_eq_true rfl⟩ ⟨Nat.le_of_ble_eq_true rfl, Nat.le_of_ble_eq_true rfl⟩ (fun h => ⟨by unfold partC; omega, rfl⟩) (fun h9_86 H locs q_86 hC hS => ?_)
          exact w_widen (Nat.le_of_ble_eq_true rfl) (Nat.le_of_ble_eq_true rfl) (tail _ _ ls hb1 hh1 (by omega) (by omega) (by omega) (by unfold partC; rw [if_neg (by omega), if_neg (by omega), if_neg (by omega)]) hC hS (lv_key hl _ rfl))
      · refine cstm_call E hout hlk hK hC hS hl (c_require l hlt D cy d0 A la _ (z := 0) (Or.inl rfl)) (va_cwS 1 hts0 gX10_part_X10_require rfl rfl rfl (by decide +kernel) ⟨Nat.le_of_ble_eq_true rfl, Nat.le_of_ble_eq_true rfl⟩) rfl rfl (Nat.le_of_ble_eq_true rfl) dX10_part_65 ⟨Nat.le_of_ble_eq_true rfl, Nat.le_of_ble_eq_true rfl⟩ ⟨Nat.le_of_ble_eq_true rfl, Nat.le_of_ble_eq_true rfl⟩ (fun h => ⟨by unfold partC; omega, rfl⟩) (fun h9_65 H locs q_65 hC hS => ?_)
        refine x_aload B hl dX10_part_68 rfl ?_
        refine co_getR (x := la 11 (6 + 2 * b)) E hC 6 (by decide) (cl_6 hb1) rfl (fun z h => List.mem_cons_of_mem _ (List.mem_append_left _ (List.mem_append_left _ (List.mem_append_left _ (List.mem_append_left _ (List.mem_append_left _ (List.mem_append_left _ (List.mem_append_right _ h)))))))) 3 (by decide) (hts (.fieldLink RX10 166 "BinRounds$Bin" "parts" "Ljava/util/ArrayList;") (by decide +kernel)) (fun x hx => hx) dX10_part_70 rfl rfl ?_
        refine co_call E hK hC hS hl (κ := 11) (i := (6 + 2 * b)) (by decide) (cl_11 (by omega)) rfl (c_size l D cy d0 A la σ (L := (6 + 2 * b)) (n := σ 22 b) (cl_11 (by omega)) (cSz_p hb1.1)) (cwV 0 hts0 gX10_part_Jx4a65c_size_8abf5 rfl rfl rfl (by decide +kernel) ⟨Nat.le_of_ble_eq_true rfl, Nat.le_of_ble_eq_true rfl⟩) rfl rfl (Nat.le_of_ble_eq_true rfl) dX10_part_73 ⟨Nat.le_of_ble_eq_true rfl, Nat.le_of_ble_eq_true rfl⟩ (fun H locs q_73 hC hS => ?_)
        refine x_bipush B dX10_part_76 (by decide) ?_
        refine x_icmp_ge (tgt := 85) B dX10_part_78 (by decide) (by omega) (by omega) (fun c_78 => ?_) (fun c_78 => ?_)
        · refine x_iconst B dX10_part_85 ?_
          refine cstm_call E hout hlk hK hC hS hl (c_requireRoom l hlt D cy d0 A la _ (z := 0) (Or.inl rfl)) (va_cwS 1 hts0 gX10_part_X10_requireRoom rfl rfl rfl (by decide +kernel) ⟨Nat.le_of_ble_eq_true rfl, Nat.le_of_ble_eq_true rfl⟩) rfl rfl (Nat.le_of_ble_eq_true rfl) dX10_part_86 ⟨Nat.le_of_ble_eq_true rfl, Nat.le_of_ble_eq_true rfl⟩ ⟨Nat.le_of_ble_eq_true rfl, Nat.le_of_ble_eq_true rfl⟩ (fun h => ⟨by unfold partC; omega, rfl⟩) (fun h9_86 H locs q_86 hC hS => ?_)
          exact w_widen (Nat.le_of_ble_eq_true rfl) (Nat.le_of_ble_eq_true rfl) (tail _ _ ls hb1 hh1 (by omega) (by omega) (by omega) (by unfold partC; rw [if_neg (by omega), if_neg (by omega), if_neg (by omega)]) hC hS (lv_key hl _ rfl))
        · refine x_iconst B dX10_part_81 ?_
          refine x_goto (tgt := 86) B dX10_part_82 (by decide) ?_
          refine cstm_call E hout hlk hK hC hS hl (c_requireRoom l hlt D cy d0 A la _ (z := 1) (Or.inr rfl)) (va_cwS 1 hts0 gX10_part_X10_requireRoom rfl rfl rfl (by decide +kernel) ⟨Nat.le_of_ble_eq_true rfl, Nat.le_of_ble_eq_true rfl⟩) rfl rfl (Nat.le_of_ble_eq_true rfl) dX10_part_86 ⟨Nat.le_of_ble_eq_true rfl, Nat.le_of_ble_eq_true rfl⟩ ⟨Nat.le_of_ble_eq_true rfl, Nat.le_of_ble_eq_true rfl⟩ (fun h => ⟨by unfold partC; omega, rfl⟩) (fun h9_86 H locs q_86 hC hS => ?_)
          exact w_widen (Nat.le_of_ble_eq_true rfl) (Nat.le_of_ble_eq_true rfl) (tail _ _ ls hb1 hh1 (by omega) (by omega) (by omega) (by unfold partC; rw [if_neg (by omega), if_neg (by omega), if_neg (by omega)]) hC hS (lv_key hl _ rfl))
    · refine cstm_call E hout hlk hK hC hS hl (c_require l hlt D cy d0 A la _ (z := 0) (Or.inl rfl)) (va_cwS 1 hts0 gX10_part_X10_require rfl rfl rfl (by decide +kernel) ⟨Nat.le_of_ble_eq_true rfl, Nat.le_of_ble_eq_true rfl⟩) rfl rfl (Nat.le_of_ble_eq_true rfl) dX10_part_40 ⟨Nat.le_of_ble_eq_true rfl, Nat.le_of_ble_eq_true rfl⟩ ⟨Nat.le_of_ble_eq_true rfl, Nat.le_of_ble_eq_true rfl⟩ (fun h => ⟨by unfold partC; omega, rfl⟩) (fun h9_40 H locs q_40 hC hS => ?_)
      refine x_iload B hl dX10_part_43 rfl ?_
      refine x_i2l B dX10_part_45 (by omega) ?_
      refine x_aload_n B hl dX10_part_46 rfl ?_
      refine co_geti (f := 1) E hC 0 (by decide) cl_0 rfl (fun z h => List.mem_cons_of_mem _ (List.mem_append_left _ (List.mem_append_left _ (List.mem_append_left _ (List.mem_append_left _ (List.mem_append_left _ (List.mem_append_right _ h))))))) 8 (by decide) (hts (.fieldLink RX10 49 "BinRounds" "open" "I") (by decide +kernel)) (fun x hx => hx) dX10_part_47 ⟨rfl, rfl, rfl⟩ rfl (fun r_47 => ?_)
      refine x_aload B hl dX10_part_50 rfl ?_
      refine co_call E hK hC hS hl (κ := 6) (i := b) (by decide) (cl_6 hb1) rfl (c_latestPartDay l D cy d0 A la σ (b := b) hb1 (hm22 _)) (cwV 0 hts0 gX10_part_X0_latestPartDay rfl rfl rfl (by decide +kernel) ⟨Nat.le_of_ble_eq_true rfl, Nat.le_of_ble_eq_true rfl⟩) rfl rfl (Nat.le_of_ble_eq_true rfl) dX10_part_52 ⟨Nat.le_of_ble_eq_true rfl, Nat.le_of_ble_eq_true rfl⟩ (fun H locs q_l hC hS => ?_)
      refine x_mmax (z := (if σ 1 0 < (if σ 22 b = 0 then 0 else σ 21 (20 * b + (σ 22 b - 1))) then (if σ 22 b = 0 then 0 else σ 21 (20 * b + (σ 22 b - 1))) else σ 1 0)) E hl (by decide +kernel) (by decide +kernel) (by decide +kernel) (by decide +kernel) (Nat.le_of_ble_eq_true rfl) (Nat.le_of_ble_eq_true rfl) (Nat.le_of_ble_eq_true rfl) (Nat.le_of_ble_eq_true rfl) (by omega) (by omega) dX10_part_55 rfl ?_
      refine x_i2l B dX10_part_58 (by omega) ?_
      refine lv_ldc2 (v := lI 699) B.1 B.2 hown (hts (.constantLong RX10 97 (699)) (by decide +kernel)) dX10_part_59 ?_
      refine z_call ⟨B.1, B.2, hml, hown, hts0⟩ hl (c_isWithin l (v := d) (a := (if σ 1 0 < (if σ 22 b = 0 then 0 else σ 21 (20 * b + (σ 22 b - 1))) then (if σ 22 b = 0 then 0 else σ 21 (20 * b + (σ 22 b - 1))) else σ 1 0)) (b := 699) (by omega) (by omega) (by omega)) (va_cwS 3 hts0 gX10_part_X10_isWithin rfl rfl rfl (by decide +kernel) ⟨Nat.le_of_ble_eq_true rfl, Nat.le_of_ble_eq_true rfl⟩) rfl rfl (Nat.le_of_ble_eq_true rfl) dX10_part_62 ⟨Nat.le_of_ble_eq_true rfl, Nat.le_of_ble_eq_true rfl⟩ (fun q_62 => ?_)
      refine x_bool (fun b_62 => ?_) (fun b_62 => ?_)
      · refine cstm_call E hout hlk hK hC hS hl (c_require l hlt D cy d0 A la _ (z := 1) (Or.inr rfl)) (va_cwS 1 hts0 gX10_part_X10_require rfl rfl rfl (by decide +kernel) ⟨Nat.le_of_ble_eq_true rfl, Nat.le_of_ble_eq_true rfl⟩) rfl rfl (Nat.le_of_ble_eq_true rfl) dX10_part_65 ⟨Nat.le_of_ble_eq_true rfl, Nat.le_of_ble_eq_true rfl⟩ ⟨Nat.le_of_ble_eq_true rfl, Nat.le_of_ble_eq_true rfl⟩ (fun h => ⟨by unfold partC; omega, rfl⟩) (fun h9_65 H locs q_65 hC hS => ?_)
        refine x_aload B hl dX10_part_68 rfl ?_
        refine co_getR (x := la 11 (6 + 2 * b)) E hC 6 (by decide) (cl_6 hb1) rfl (fun z h => List.mem_cons_of_mem _ (List.mem_append_left _ (List.mem_append_left _ (List.mem_append_left _ (List.mem_append_left _ (List.mem_append_left _ (List.mem_append_left _ (List.mem_append_right _ h)))))))) 3 (by decide) (hts (.fieldLink RX10 166 "BinRounds$Bin" "parts" "Ljava/util/ArrayList;") (by decide +kernel)) (fun x hx => hx) dX10_part_70 rfl rfl ?_
        refine co_call E hK hC hS hl (κ := 11) (i := (6 + 2 * b)) (by decide) (cl_11 (by omega)) rfl (c_size l D cy d0 A la σ (L := (6 + 2 * b)) (n := σ 22 b) (cl_11 (by omega)) (cSz_p hb1.1)) (cwV 0 hts0 gX10_part_Jx4a65c_size_8abf5 rfl rfl rfl (by decide +kernel) ⟨Nat.le_of_ble_eq_true rfl, Nat.le_of_ble_eq_true rfl⟩) rfl rfl (Nat.le_of_ble_eq_true rfl) dX10_part_73 ⟨Nat.le_of_ble_eq_true rfl, Nat.le_of_ble_eq_true rfl⟩ (fun H locs q_73 hC hS => ?_)
        refine x_bipush B dX10_part_76 (by decide) ?_
        refine x_icmp_ge (tgt := 85) B dX10_part_78 (by decide) (by omega) (by omega) (fun c_78 => ?_) (fun c_78 => ?_)
        · refine x_iconst B dX10_part_85 ?_
          refine cstm_call E hout hlk hK hC hS hl (c_requireRoom l hlt D cy d0 A la _ (z := 0) (Or.inl rfl)) (va_cwS 1 hts0 gX10_part_X10_requireRoom rfl rfl rfl (by decide +kernel) ⟨Nat.le_of_ble_eq_true rfl, Nat.le_of_ble_eq_true rfl⟩) rfl rfl (Nat.le_of_ble_eq_true rfl) dX10_part_86 ⟨Nat.le_of_ble_eq_true rfl, Nat.le_of_ble_eq_true rfl⟩ ⟨Nat.le_of_ble_eq_true rfl, Nat.le_of_ble_eq_true rfl⟩ (fun h => ⟨by unfold partC; omega, rfl⟩) (fun h9_86 H locs q_86 hC hS => ?_)
          exact w_widen (Nat.le_of_ble_eq_true rfl) (Nat.le_of_ble_eq_true rfl) (tail _ _ ls hb1 hh1 (by omega) (by omega) (by omega) (by unfold partC; rw [if_neg (by omega), if_neg (by omega), if_neg (by omega)]) hC hS (lv_key hl _ rfl))
        · refine x_iconst B dX10_part_81 ?_
          refine x_goto (tgt := 86) B dX10_part_82 (by decide) ?_
          refine cstm_call E hout hlk hK hC hS hl (c_requireRoom l hlt D cy d0 A la _ (z := 1) (Or.inr rfl)) (va_cwS 1 hts0 gX10_part_X10_requireRoom rfl rfl rfl (by decide +kernel) ⟨Nat.le_of_ble_eq_true rfl, Nat.le_of_ble_eq_true rfl⟩) rfl rfl (Nat.le_of_ble_eq_true rfl) dX10_part_86 ⟨Nat.le_of_ble_eq_true rfl, Nat.le_of_ble_eq_true rfl⟩ ⟨Nat.le_of_ble_eq_true rfl, Nat.le_of_ble_eq_true rfl⟩ (fun h => ⟨by unfold partC; omega, rfl⟩) (fun h9_86 H locs q_86 hC hS => ?_)
          exact w_widen (Nat.le_of_ble_eq_true rfl) (Nat.le_of_ble_eq_true rfl) (tail _ _ ls hb1 hh1 (by omega) (by omega) (by omega) (by unfold partC; rw [if_neg (by omega), if_neg (by omega), if_neg (by omega)]) hC hS (lv_key hl _ rfl))
      · refine cstm_call E hout hlk hK hC hS hl (c_require l hlt D cy d0 A la _ (z := 0) (Or.inl rfl)) (va_cwS 1 hts0 gX10_part_X10_require rfl rfl rfl (by decide +kernel) ⟨Nat.le_of_ble_eq_true rfl, Nat.le_of_ble_eq_true rfl⟩) rfl rfl (Nat.le_of_ble_eq_true rfl) dX10_part_65 ⟨Nat.le_of_ble_eq_true rfl, Nat.le_of_ble_eq_true rfl⟩ ⟨Nat.le_of_ble_eq_true rfl, Nat.le_of_ble_eq_true rfl⟩ (fun h => ⟨by unfold partC; omega, rfl⟩) (fun h9_65 H locs q_65 hC hS => ?_)
        refine x_aload B hl dX10_part_68 rfl ?_
        refine co_getR (x := la 11 (6 + 2 * b)) E hC 6 (by decide) (cl_6 hb1) rfl (fun z h => List.mem_cons_of_mem _ (List.mem_append_left _ (List.mem_append_left _ (List.mem_append_left _ (List.mem_append_left _ (List.mem_append_left _ (List.mem_append_left _ (List.mem_append_right _ h)))))))) 3 (by decide) (hts (.fieldLink RX10 166 "BinRounds$Bin" "parts" "Ljava/util/ArrayList;") (by decide +kernel)) (fun x hx => hx) dX10_part_70 rfl rfl ?_
        refine co_call E hK hC hS hl (κ := 11) (i := (6 + 2 * b)) (by decide) (cl_11 (by omega)) rfl (c_size l D cy d0 A la σ (L := (6 + 2 * b)) (n := σ 22 b) (cl_11 (by omega)) (cSz_p hb1.1)) (cwV 0 hts0 gX10_part_Jx4a65c_size_8abf5 rfl rfl rfl (by decide +kernel) ⟨Nat.le_of_ble_eq_true rfl, Nat.le_of_ble_eq_true rfl⟩) rfl rfl (Nat.le_of_ble_eq_true rfl) dX10_part_73 ⟨Nat.le_of_ble_eq_true rfl, Nat.le_of_ble_eq_true rfl⟩ (fun H locs q_73 hC hS => ?_)
        refine x_bipush B dX10_part_76 (by decide) ?_
        refine x_icmp_ge (tgt := 85) B dX10_part_78 (by decide) (by omega) (by omega) (fun c_78 => ?_) (fun c_78 => ?_)
        · refine x_iconst B dX10_part_85 ?_
          refine cstm_call E hout hlk hK hC hS hl (c_requireRoom l hlt D cy d0 A la _ (z := 0) (Or.inl rfl)) (va_cwS 1 hts0 gX10_part_X10_requireRoom rfl rfl rfl (by decide +kernel) ⟨Nat.le_of_ble_eq_true rfl, Nat.le_of_ble_eq_true rfl⟩) rfl rfl (Nat.le_of_ble_eq_true rfl) dX10_part_86 ⟨Nat.le_of_ble_eq_true rfl, Nat.le_of_ble_eq_true rfl⟩ ⟨Nat.le_of_ble_eq_true rfl, Nat.le_of_ble_eq_true rfl⟩ (fun h => ⟨by unfold partC; omega, rfl⟩) (fun h9_86 H locs q_86 hC hS => ?_)
          exact w_widen (Nat.le_of_ble_eq_true rfl) (Nat.le_of_ble_eq_true rfl) (tail _ _ ls hb1 hh1 (by omega) (by omega) (by omega) (by unfold partC; rw [if_neg (by omega), if_neg (by omega), if_neg (by omega)]) hC hS (lv_key hl _ rfl))
        · refine x_iconst B dX10_part_81 ?_
          refine x_goto (tgt := 86) B dX10_part_82 (by decide) ?_
          refine cstm_call E hout hlk hK hC hS hl (c_requireRoom l hlt D cy d0 A la _ (z := 1) (Or.inr rfl)) (va_cwS 1 hts0 gX10_part_X10_requireRoom rfl rfl rfl (by decide +kernel) ⟨Nat.le_of_ble_eq_true rfl, Nat.le_of_ble_eq_true rfl⟩) rfl rfl (Nat.le_of_ble_eq_true rfl) dX10_part_86 ⟨Nat.le_of_ble_eq_true rfl, Nat.le_of_ble_eq_true rfl⟩ ⟨Nat.le_of_ble_eq_true rfl, Nat.le_of_ble_eq_true rfl⟩ (fun h => ⟨by unfold partC; omega, rfl⟩) (fun h9_86 H locs q_86 hC hS => ?_)
          exact w_widen (Nat.le_of_ble_eq_true rfl) (Nat.le_of_ble_eq_true rfl) (tail _ _ ls hb1 hh1 (by omega) (by omega) (by omega) (by unfold partC; rw [if_neg (by omega), if_neg (by omega), if_neg (by omega)]) hC hS (lv_key hl _ rfl))
