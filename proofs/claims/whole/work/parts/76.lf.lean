set_option maxHeartbeats 4000000 in
set_option maxRecDepth 100000 in
theorem c_p_house (l : Launch) (hlt : l.stackTraces = false) (D : va_G) (cy : Nat → ClassId) (d0 : Nat) (A : Nat → Prop) (la : Nat → Int → Nat) (σ : MS) {st : Int} (h_st : -2147483648 ≤ st ∧ st < 2147483648) (hn5 : 0 ≤ σ 5 0 ∧ σ 5 0 ≤ 1000) (hn11 : 0 ≤ σ 11 0 ∧ σ 11 0 ≤ 1000) (hn23 : 0 ≤ σ 23 0 ∧ σ 23 0 ≤ 1000) (hn27 : 0 ≤ σ 27 0 ∧ σ 27 0 ≤ 1000) (hn45 : 0 ≤ σ 45 0 ∧ σ 45 0 ≤ 600) (hlg : σ 58 0 = 0 ∧ σ 59 0 = 0) (hRf : cRefs σ) (hmc : ∀ L, 0 ≤ σ 57 L ∧ σ 57 L ≤ 1000000) (hcp : ∀ L, cLive la σ 11 L → la 19 L ≤ 1000) (hn11b : σ 11 0 ≤ 60) (hz7 : ∀ j, σ 11 0 ≤ j → σ 7 j = 0) (hz8 : ∀ j, σ 11 0 ≤ j → σ 8 j = 0) (hz9 : ∀ j, σ 11 0 ≤ j → σ 9 j = 0) (hz10 : ∀ j, σ 11 0 ≤ j → σ 10 j = 0) : CT l yX10_house wsX10_house ({ frames := 8, cells := 24, slots := 2100, locals := 256 } : Room) D cy d0 A [.ref (la 0 0), .int (iI st)] la σ ((if houseC σ st = 1 then 1 else (if houseC σ st = 2 then 3 else 0))) (fun v' la' τ => v' = some (.int (iI (σ 11 0))) ∧ (la' 0 0 = la 0 0 ∧ ∀ L, cLive la' τ 11 L → la' 19 L ≤ 1000) ∧ τ = (up (up (up (up (up (up σ 6 (σ 11 0) st) 50 (σ 11 0) 0) 51 (σ 11 0) 0) 52 (σ 11 0) 0) 11 0 (σ 11 0 + 1)) 57 1 (σ 57 1 + 1))) 24 2100 := by
  refine ct_of (cc := cX10_house) (nL := 4) (ret := (some .int)) (by decide) rfl (Nat.le_of_ble_eq_true rfl) ?_
  intro p e s m args below meth c ls E hout hr hlk hK hC hS hl
  have B := E.1
  have hml := E.2.1
  have hown := E.2.2.1
  have hts0 := E.2.2.2.1
  have hts := E.2.2.2.1
  have hw := hC.2.2.2.2.2.1
  have hA := hK.2.2.2.2.2.2.1
  have tail : ∀ (H : Heap) (locs : List Loc) (ls : Array Slot) (hs1 : 0 ≤ st ∧ st < σ 5 0) (hn60 : σ 11 0 < 60), CP D cy d0 A la σ H → va_S A s.heap H locs → lv_has ls 4 [(0, .ref (la 0 0)), (1, .int (iI st)), (2, .ref (la 4 st))] → W p l e ({ frames := 8, cells := 24, slots := 2100, locals := 256 } : Room) s m args below meth c H locs 16 64 (vx_MQ below (cQ D cy d0 A (fun v la' τ => (((if houseC σ st = 1 then 1 else (if houseC σ st = 2 then 3 else 0)) : Int)) = 0 ∧ (fun v' la' τ => v' = some (.int (iI (σ 11 0))) ∧ (la' 0 0 = la 0 0 ∧ ∀ L, cLive la' τ 11 L → la' 19 L ≤ 1000) ∧ τ = (up (up (up (up (up (up σ 6 (σ 11 0) st) 50 (σ 11 0) 0) 51 (σ 11 0) 0) 52 (σ 11 0) 0) 11 0 (σ 11 0 + 1)) 57 1 (σ 57 1 + 1))) v la' τ)) (cXX D cy d0 A ((if houseC σ st = 1 then 1 else (if houseC σ st = 2 then 3 else 0))) la σ) args s 24 2100 A) (F0 m 26 ls []) := by
    intro H0 locs ls hs1 hn60 hC hS hl
    obtain ⟨M, hMe⟩ : ∃ z, z = H0.size := ⟨_, rfl⟩
    have hMl : ∀ κ i, κ ≤ 18 → cLive la σ κ i → la κ i < M := fun κ i a b => by rw [hMe]; exact hC.lt a b
    have hAM : ∀ q, M ≤ q → A q := fun q h => hA q (by have := hS.1; omega)
    refine ob_new (ci := 4) (C := RX3) (T := TX3) E hS rfl (fun z h => List.mem_cons_of_mem _ (List.mem_append_left _ (List.mem_append_left _ (List.mem_append_left _ (List.mem_append_right _ h))))) tyX3_ok (hts (.classLink RX10 109 RX3) (by decide +kernel)) (hts (.instantiable RX3 10) (by decide +kernel)) (hts (.initialized RX3) (by decide +kernel)) (Nat.le_of_ble_eq_true rfl) (Nat.le_of_ble_eq_true rfl) dX10_house_26 (fun H26 nO o26 z26 hS => ?_)
    rw [← hMe] at nO o26 z26 ⊢
    have hC := hC.kept (fun κ i a b => o26 _ (hMl κ i a b))
    refine x_dup B dX10_house_29 rfl ?_
    refine x_aload_n B hl dX10_house_30 rfl ?_
    refine co_getR (x := la 11 1) E hC 0 (by decide) cl_0 rfl (fun z h => List.mem_cons_of_mem _ (List.mem_append_left _ (List.mem_append_left _ (List.mem_append_left _ (List.mem_append_left _ (List.mem_append_right _ h)))))) 1 (by decide) (hts (.fieldLink RX10 16 "BinRounds" "houses" "Ljava/util/ArrayList;") (by decide +kernel)) (fun x hx => hx) dX10_house_31 rfl rfl ?_
    refine co_callA (q := M) E hK hC hS hl (κ := 11) (i := 1) (by decide) (cl_11 (by omega)) rfl (fun κ i a b => by have := hMl κ i a b; omega) (by omega) (c_size l D cy d0 _ la σ (L := 1) (n := σ 11 0) (cl_11 (by omega)) rfl) (cwV 0 hts0 gX10_house_Jx4a65c_size_8abf5 rfl rfl rfl (by decide +kernel) ⟨Nat.le_of_ble_eq_true rfl, Nat.le_of_ble_eq_true rfl⟩) rfl rfl (Nat.le_of_ble_eq_true rfl) dX10_house_34 ⟨Nat.le_of_ble_eq_true rfl, Nat.le_of_ble_eq_true rfl⟩ (fun H34 locs v la9 σ9 hv hC hS z34 k34 => ?_)
    obtain ⟨hv1, hv2, hv3, -⟩ := hv
    subst hv1
    rw [hv2, hv3] at hC
    have nO := nO.kept k34
    refine x_iload_n B hl dX10_house_37 rfl ?_
    refine x_aload_n B hl dX10_house_38 rfl ?_
    refine cb_callI (A' := fun z => z = M ∨ H34.size ≤ z) (av := [.int (iI (σ 11 0)), .int (iI st), .ref (la 4 st)]) E hK hS hl (fun z h => h.elim (fun h => hAM z (by omega)) (fun h => hA z (by have := hS.1; omega))) (fun z h => Or.inr h) (k_House l D cy d0 _ (q := M) (Or.inl rfl)) nO (cwI 3 hts0 gX10_house_X3_init rfl rfl rfl (hts (.initialized RX3) (by decide +kernel)) (hts (.methodLink RX10 111 yX3_init) (by decide +kernel)) (hts (.instanceMethod yX3_init) (by decide +kernel)) rfl (by decide +kernel) ⟨Nat.le_of_ble_eq_true rfl, Nat.le_of_ble_eq_true rfl⟩) rfl rfl (Nat.le_of_ble_eq_true rfl) dX10_house_39 ⟨Nat.le_of_ble_eq_true rfl, Nat.le_of_ble_eq_true rfl⟩ (fun H39 locs v hv z39 o39 hS => ?_)
    obtain ⟨rfl, nO⟩ := hv
    have hC := hC.kept (fun κ i a b => o39 _ (by have := hMl κ i a b; omega) (fun z => z.elim (fun e => by have := hMl κ i a b; omega) (fun e => by have := hMl κ i a b; omega)))
    refine x_astore_n B hl dX10_house_42 (by decide) (fun ls hl => ?_)
    refine x_aload_n B hl dX10_house_43 rfl ?_
    refine co_getR (x := la 11 1) E hC 0 (by decide) cl_0 rfl (fun z h => List.mem_cons_of_mem _ (List.mem_append_left _ (List.mem_append_left _ (List.mem_append_left _ (List.mem_append_left _ (List.mem_append_right _ h)))))) 1 (by decide) (hts (.fieldLink RX10 16 "BinRounds" "houses" "Ljava/util/ArrayList;") (by decide +kernel)) (fun x hx => hx) dX10_house_44 rfl rfl ?_
    refine x_aload_n B hl dX10_house_47 rfl ?_
    obtain ⟨f48, l48a, l48b, l48c, l48d⟩ := hC.lst (L := 1) (n := (σ 11 0)) ((cl_11 (by omega))) rfl
    have hcl48 := (show cLive la σ 11 1 from cl_11 (by omega))
    have hel48 : ∀ j : Nat, (j : Int) < (σ 11 0) → ∀ y, f48 j = some y → y = la 5 ((j : Int)) ∧ cLive la σ 5 ((j : Int)) := fun j hj y hy => by
      rw [l48d j hj] at hy
      refine ⟨(Option.some.inj hy).symm.trans (rfl), ?_⟩
      exact cl_5 ⟨by omega, by omega⟩
    refine cb_callV (A' := (fun z => z = la 11 1 ∨ (0 < la 19 1 ∧ z = la 18 1) ∨ H39.size ≤ z)) E hK hS hl (fun z h => h.elim (fun h => h ▸ hC.2.2.2.2.1 11 1 (by decide) hcl48) (fun h => h.elim (fun h => h.2 ▸ hC.2.2.2.2.1 18 1 (by decide) ⟨hcl48, h.1⟩) (fun h => hA z (by have := hS.1; omega)))) (fun z h => Or.inr (Or.inr h)) (obRecv hK l48a rfl) (l_add l D cy d0 (fun z => z = la 11 1 ∨ (0 < la 19 1 ∧ z = la 18 1) ∨ H39.size ≤ z) (a := la 11 1) (r := la 18 1) (cap := la 19 1) (x := M) (mm := σ 57 1) (n := (σ 11 0)) (f := f48) (show vwCl[4]? = some (RX3, TX3, 10) from rfl) (fun U h => h.2.2.2.2.1) (hcp 1 hcl48) (Or.inl rfl) (fun h => Or.inr (Or.inl ⟨h, rfl⟩)) (fun h z => by have h9 := hC.2.2.2.1 11 18 1 1 (by decide) (by decide) hcl48 ⟨hcl48, h⟩ z; omega) ⟨by omega, l48c⟩ (by omega) (fun z => by have := hMl 11 1 (by decide) hcl48; omega) (fun j hj y hy z => by
      have h8 := hel48 j hj y hy
      have h9 := hC.2.2.2.1 5 11 _ 1 (by decide) (by decide) h8.2 hcl48 (h8.1.symm.trans z)
      omega)) ⟨l48a, l48b, fun j hj y hy => elC_at (hel48 j hj y hy).1 ⟨_, hC.1 5 _ (by decide) (hel48 j hj y hy).2⟩, ⟨_, nO⟩⟩ (cwV 1 hts0 gX10_house_Jx4a65c_add_9ea2d rfl rfl rfl (by decide +kernel) ⟨Nat.le_of_ble_eq_true rfl, Nat.le_of_ble_eq_true rfl⟩) rfl rfl (Nat.le_of_ble_eq_true rfl) dX10_house_48 ⟨Nat.le_of_ble_eq_true rfl, Nat.le_of_ble_eq_true rfl⟩ (fun H48 locs v hv z48 o48 hS => ?_)
    obtain ⟨rfl, hps48⟩ := hv
    obtain ⟨σ1, hσ1⟩ : ∃ z, z = (up (up (up (up (up (up σ 6 (σ 11 0) st) 50 (σ 11 0) 0) 51 (σ 11 0) 0) 52 (σ 11 0) 0) 11 0 (σ 11 0 + 1)) 57 1 (σ 57 1 + 1)) := ⟨_, rfl⟩
    have e5 : σ1 5 0 = σ 5 0 := by rw [hσ1]; first | rfl | (simp [up_rd]; done)
    have e11 : σ1 11 0 = (σ 11 0 + 1) := by rw [hσ1]; first | rfl | (simp [up_rd]; done)
    have e23 : σ1 23 0 = σ 23 0 := by rw [hσ1]; first | rfl | (simp [up_rd]; done)
    have e27 : σ1 27 0 = σ 27 0 := by rw [hσ1]; first | rfl | (simp [up_rd]; done)
    have e45 : σ1 45 0 = σ 45 0 := by rw [hσ1]; first | rfl | (simp [up_rd]; done)
    have e58 : σ1 58 0 = σ 58 0 := by rw [hσ1]; first | rfl | (simp [up_rd]; done)
    have e59 : σ1 59 0 = σ 59 0 := by rw [hσ1]; first | rfl | (simp [up_rd]; done)
    have e18 : ∀ j, σ1 18 j = σ 18 j := fun j => by rw [hσ1]; first | rfl | (simp [up_rd]; done)
    have e22 : ∀ j, σ1 22 j = σ 22 j := fun j => by rw [hσ1]; first | rfl | (simp [up_rd]; done)
    have hlv : ∀ (lb : Nat → Int → Nat) κ i, κ ≤ 17 → cLive lb σ1 κ i → cLive la σ κ i ∨ (fun κ i => (κ = 5 ∧ i = (σ 11 0))) κ i := by
      intro lb κ i hκ h
      rcases (show κ = 0 ∨ κ = 1 ∨ κ = 2 ∨ κ = 3 ∨ κ = 4 ∨ κ = 5 ∨ κ = 6 ∨ κ = 7 ∨ κ = 8 ∨ κ = 9 ∨ κ = 10 ∨ κ = 11 ∨ κ = 12 ∨ κ = 13 ∨ κ = 14 ∨ κ = 15 ∨ κ = 16 ∨ κ = 17 by omega) with rfl | rfl | rfl | rfl | rfl | rfl | rfl | rfl | rfl | rfl | rfl | rfl | rfl | rfl | rfl | rfl | rfl | rfl
      · have h2 : i = 0 := h
        exact Or.inl (show i = 0 by first | exact h2 | omega | (have q18 := e18 (i / 8); have q22 := e22 (i / 20); omega))
      · have h2 : i = 0 := h
        exact Or.inl (show i = 0 by first | exact h2 | omega | (have q18 := e18 (i / 8); have q22 := e22 (i / 20); omega))
      · have h2 : i = 0 := h
        exact Or.inl (show i = 0 by first | exact h2 | omega | (have q18 := e18 (i / 8); have q22 := e22 (i / 20); omega))
      · have h2 : i = 0 := h
        exact Or.inl (show i = 0 by first | exact h2 | omega | (have q18 := e18 (i / 8); have q22 := e22 (i / 20); omega))
      · have h2 : 0 ≤ i ∧ i < σ1 5 0 := h
        rw [e5] at h2
        exact Or.inl (show 0 ≤ i ∧ i < σ 5 0 by first | exact h2 | omega | (have q18 := e18 (i / 8); have q22 := e22 (i / 20); omega))
      · have h2 : 0 ≤ i ∧ i < σ1 11 0 := h
        rw [e11] at h2
        by_cases hn9 : i = (σ 11 0)
        · exact Or.inr (by first | exact ⟨rfl, hn9⟩ | exact Or.inl ⟨rfl, hn9⟩ | exact Or.inr ⟨rfl, hn9⟩ | exact Or.inr (Or.inl ⟨rfl, hn9⟩) | exact Or.inr (Or.inr ⟨rfl, hn9⟩))
        exact Or.inl (show 0 ≤ i ∧ i < σ 11 0 by omega)
      · have h2 : 0 ≤ i ∧ i < σ1 23 0 := h
        rw [e23] at h2
        exact Or.inl (show 0 ≤ i ∧ i < σ 23 0 by first | exact h2 | omega | (have q18 := e18 (i / 8); have q22 := e22 (i / 20); omega))
      · have h2 : 0 ≤ i ∧ i / 8 < σ1 23 0 ∧ i % 8 < σ1 18 (i / 8) := h
        rw [e23] at h2
        exact Or.inl (show 0 ≤ i ∧ i / 8 < σ 23 0 ∧ i % 8 < σ 18 (i / 8) by first | exact h2 | omega | (have q18 := e18 (i / 8); have q22 := e22 (i / 20); omega))
      · have h2 : 0 ≤ i ∧ i / 20 < σ1 23 0 ∧ i % 20 < σ1 22 (i / 20) := h
        rw [e23] at h2
        exact Or.inl (show 0 ≤ i ∧ i / 20 < σ 23 0 ∧ i % 20 < σ 22 (i / 20) by first | exact h2 | omega | (have q18 := e18 (i / 8); have q22 := e22 (i / 20); omega))
      · have h2 : 0 ≤ i ∧ i < σ1 27 0 := h
        rw [e27] at h2
        exact Or.inl (show 0 ≤ i ∧ i < σ 27 0 by first | exact h2 | omega | (have q18 := e18 (i / 8); have q22 := e22 (i / 20); omega))
      · have h2 : 0 ≤ i ∧ i < σ1 45 0 := h
        rw [e45] at h2
        exact Or.inl (show 0 ≤ i ∧ i < σ 45 0 by first | exact h2 | omega | (have q18 := e18 (i / 8); have q22 := e22 (i / 20); omega))
      · have h2 : 0 ≤ i ∧ i < 5 + 2 * σ1 23 0 := h
        rw [e23] at h2
        exact Or.inl (show 0 ≤ i ∧ i < 5 + 2 * σ 23 0 by first | exact h2 | omega | (have q18 := e18 (i / 8); have q22 := e22 (i / 20); omega))
      · have h2 : i = 0 := h
        exact Or.inl (show i = 0 by first | exact h2 | omega | (have q18 := e18 (i / 8); have q22 := e22 (i / 20); omega))
      · have h2 : i = 0 := h
        exact Or.inl (show i = 0 by first | exact h2 | omega | (have q18 := e18 (i / 8); have q22 := e22 (i / 20); omega))
      · have h2 : i = 0 := h
        exact Or.inl (show i = 0 by first | exact h2 | omega | (have q18 := e18 (i / 8); have q22 := e22 (i / 20); omega))
      · have h2 : i = 0 := h
        exact Or.inl (show i = 0 by first | exact h2 | omega | (have q18 := e18 (i / 8); have q22 := e22 (i / 20); omega))
      · have h2 : 0 ≤ i ∧ i < σ1 5 0 := h
        rw [e5] at h2
        exact Or.inl (show 0 ≤ i ∧ i < σ 5 0 by first | exact h2 | omega | (have q18 := e18 (i / 8); have q22 := e22 (i / 20); omega))
      · have h2 : 0 ≤ i ∧ i < σ1 5 0 := h
        rw [e5] at h2
        exact Or.inl (show 0 ≤ i ∧ i < σ 5 0 by first | exact h2 | omega | (have q18 := e18 (i / 8); have q22 := e22 (i / 20); omega))
    have hnum : ∀ κ i, κ ≤ 11 → cLive la σ κ i → ¬ (κ = 11 ∧ i = 1) → ∀ k, k < cN κ → (sT κ k = 1 ∨ sT κ k = 2) → σ1 (sF κ k) i = σ (sF κ k) i := by
      intro κ i hκ h hn9 k hk ht
      rw [hσ1]
      rw [up_k hκ hk ht (fun z => by
        have hf := z.1
        have hi := z.2
        rw [show fK 57 = 11 by decide +kernel] at hf
        subst hf
        have hq : 0 ≤ i ∧ i < 5 + 2 * σ 23 0 := h
        omega)]
      rw [up_k hκ hk ht (fun z => by
        have hf := z.1
        have hi := z.2
        rw [show fK 11 = 99 by decide +kernel] at hf
        subst hf
        omega)]
      rw [up_k hκ hk ht (fun z => by
        have hf := z.1
        have hi := z.2
        rw [show fK 52 = 5 by decide +kernel] at hf
        subst hf
        have hq : 0 ≤ i ∧ i < σ 11 0 := h
        omega)]
      rw [up_k hκ hk ht (fun z => by
        have hf := z.1
        have hi := z.2
        rw [show fK 51 = 5 by decide +kernel] at hf
        subst hf
        have hq : 0 ≤ i ∧ i < σ 11 0 := h
        omega)]
      rw [up_k hκ hk ht (fun z => by
        have hf := z.1
        have hi := z.2
        rw [show fK 50 = 5 by decide +kernel] at hf
        subst hf
        have hq : 0 ≤ i ∧ i < σ 11 0 := h
        omega)]
      rw [up_k hκ hk ht (fun z => by
        have hf := z.1
        have hi := z.2
        rw [show fK 6 = 5 by decide +kernel] at hf
        subst hf
        have hq : 0 ≤ i ∧ i < σ 11 0 := h
        omega)]
    refine x_pop B dX10_house_51 rfl ?_
    have hcw : cW σ1 := by rw [hσ1]; exact (cW_up (cW_up (cW_up (cW_up (cW_up (cW_up hC.2.2.2.2.2.1 (fun q => by first | omega | (have h9 := hmc (σ 11 0); omega) | cases q) (fun q => by first | omega | cases q)) (fun q => by first | omega | (have h9 := hmc (σ 11 0); omega) | cases q) (fun q => by first | omega | cases q)) (fun q => by first | omega | (have h9 := hmc (σ 11 0); omega) | cases q) (fun q => by first | omega | cases q)) (fun q => by first | omega | (have h9 := hmc (σ 11 0); omega) | cases q) (fun q => by first | omega | cases q)) (fun q => by first | omega | (have h9 := hmc 0; omega) | cases q) (fun q => by first | omega | cases q)) (fun q => by first | omega | (have h9 := hmc 1; omega) | cases q) (fun q => by first | omega | cases q))
    obtain ⟨r9, c9, hC9, hc9, hfr9⟩ := CP.addL (n := (σ 11 0)) (laN := (lup la 5 (σ 11 0) M)) (σ' := σ1) (M := M) (N := (fun κ i => (κ = 5 ∧ i = (σ 11 0)))) hC hMl (by omega) hAM (by omega) hRf hcw hcl48 (by omega) rfl hps48 (fun j hj => l48d j hj) hlv (fun κ i z => by have z2 : (κ = 5 ∧ i = (σ 11 0)) := z; omega) (fun L z => by have z2 : (11 = 5 ∧ L = (σ 11 0)) := z; omega) (fun κ i a b9 => lup_n (fun z => by rcases z with ⟨rfl, rfl⟩; have hq : 0 ≤ σ 11 0 ∧ σ 11 0 < σ 11 0 := b9; omega)) (fun L => ⟨lup_k (by decide), lup_k (by decide)⟩) hnum (fun i h9 => by rw [hσ1, up_f (by decide), up_f (by decide), up_f (by decide), up_f (by decide), up_f (by decide), up_o (fun z9 => by have hq : 0 ≤ i ∧ i < σ 11 0 := h9; omega)]) (fun i h9 => by rw [hσ1, up_f (by decide), up_f (by decide), up_f (by decide), up_f (by decide), up_f (by decide), up_f (by decide)]) (fun i h9 => by rw [hσ1, up_f (by decide), up_f (by decide), up_f (by decide), up_f (by decide), up_f (by decide), up_f (by decide)]) (fun i h9 => by rw [hσ1, up_f (by decide), up_f (by decide), up_f (by decide), up_f (by decide), up_f (by decide), up_f (by decide)]) (fun i h9 => by rw [hσ1, up_f (by decide), up_f (by decide), up_f (by decide), up_f (by decide), up_f (by decide), up_f (by decide)]) (fun κ i a b c j hj => by rw [hσ1, aV_u (by decide) a b, aV_u (by decide) a b, aV_u (by decide) a b, aV_u (by decide) a b, aV_u (by decide) a b, aV_u (by decide) a b]) (fun L a b => by
      have ha : 0 ≤ L ∧ L < 5 + 2 * σ 23 0 := a
      unfold cSz
      simp only [e5, e11, e23, e27, e45, e58, e59, e18, e22]
      repeat' split
      all_goals first | rfl | omega) (fun L j ha9 hb0 hd9 => by
      unfold cEl
      repeat' split
      all_goals first | rfl | (rename_i hL1; subst hL1; have d2 : j < σ 11 0 := hd9; rw [lup_n (by omega)])) (show σ1 11 0 = σ 11 0 + 1 from e11) (by rw [hσ1]; exact up_s) (show (lup la 5 (σ 11 0) M) 5 (σ 11 0) = M from lup_s) (fun lb hlb κ i ha9 z => by
      rcases z with ⟨rfl, rfl⟩
      rw [show (lup la 5 (σ 11 0) M) 5 (σ 11 0) = M from lup_s]
      refine nO.to (fun k hk => ?_)
      have hk10 : k < 10 := hk
      have q6 : σ1 6 (σ 11 0) = st := by rw [hσ1]; simp [up_rd]
      have q7 : σ1 7 (σ 11 0) = 0 := by rw [hσ1]; simp [up_rd]; exact hz7 _ (by omega)
      have q50 : σ1 50 (σ 11 0) = 0 := by rw [hσ1]; simp [up_rd]
      have q8 : σ1 8 (σ 11 0) = 0 := by rw [hσ1]; simp [up_rd]; exact hz8 _ (by omega)
      have q9 : σ1 9 (σ 11 0) = 0 := by rw [hσ1]; simp [up_rd]; exact hz9 _ (by omega)
      have q10 : σ1 10 (σ 11 0) = 0 := by rw [hσ1]; simp [up_rd]; exact hz10 _ (by omega)
      have q51 : σ1 51 (σ 11 0) = 0 := by rw [hσ1]; simp [up_rd]
      have q52 : σ1 52 (σ 11 0) = 0 := by rw [hσ1]; simp [up_rd]
      rcases (show k = 0 ∨ k = 1 ∨ k = 2 ∨ k = 3 ∨ k = 4 ∨ k = 5 ∨ k = 6 ∨ k = 7 ∨ k = 8 ∨ k = 9 by omega) with rfl | rfl | rfl | rfl | rfl | rfl | rfl | rfl | rfl | rfl
      · rfl
      · show _ = Value.int (iI (σ1 6 (σ 11 0))); rw [q6]; rfl
      · show _ = va_rf (some (lb 4 (σ1 6 (σ 11 0)))); rw [q6, hlb 4 _ (by decide), lup_k (by decide)]; rfl
      · show _ = Value.int (iI (σ1 7 (σ 11 0))); rw [q7]; rfl
      · show _ = Value.long (lI (σ1 50 (σ 11 0))); rw [q50]; rfl
      · show _ = Value.long (lI (σ1 8 (σ 11 0))); rw [q8]; rfl
      · show _ = Value.long (lI (σ1 9 (σ 11 0))); rw [q9]; rfl
      · show _ = Value.long (lI (σ1 10 (σ 11 0))); rw [q10]; rfl
      · show _ = Value.long (lI (σ1 51 (σ 11 0))); rw [q51]; rfl
      · show _ = Value.long (lI (σ1 52 (σ 11 0))); rw [q52]; rfl) (fun κ i ha9 hb0 z => by have z2 : (κ = 5 ∧ i = (σ 11 0)) := z; omega) (fun κ i z => by rcases z with ⟨rfl, rfl⟩; rw [show (lup la 5 (σ 11 0) M) 5 (σ 11 0) = M from lup_s]; omega) (fun κ κ' i i' z z' e => by have z2 : (κ = 5 ∧ i = (σ 11 0)) := z; have z3 : (κ' = 5 ∧ i' = (σ 11 0)) := z'; omega)
    have nO := nO.kept (hfr9 M (by omega) (fun z => by have := hMl 11 1 (by decide) hcl48; omega) (fun z => by have := hMl 18 1 (by decide) ⟨hcl48, z.1⟩; omega))
    refine x_aload_n B hl dX10_house_52 rfl ?_
    refine ob_get E nO rfl (fun z h => List.mem_cons_of_mem _ (List.mem_append_left _ (List.mem_append_left _ (List.mem_append_left _ (List.mem_append_right _ h))))) 0 (by decide) (hts (.fieldLink RX10 114 "BinRounds$House" "number" "I") (by decide +kernel)) (fun x hx => hx) dX10_house_53 rfl ?_
    refine w_widen (Nat.le_of_ble_eq_true rfl) (Nat.le_of_ble_eq_true rfl) (vx_ret (co_iret E hr rfl hlk hC9 hS dX10_house_56 ⟨by rw [show houseC σ st = 0 by unfold houseC; rw [if_neg (by omega), if_neg (by omega)]]; rfl, rfl, ⟨rfl, fun L hL => ?_⟩, hσ1⟩))
    by_cases hL1 : L = 1
    · subst hL1; rw [lup_s]; omega
    · rw [lup_o hL1, lup_k (by decide), lup_k (by decide)]
      refine hcp L ?_
      have h2 : 0 ≤ L ∧ L < 5 + 2 * σ1 23 0 := hL
      rw [e23] at h2
      exact h2
  refine x_aload_n B hl dX10_house_0 rfl ?_
  refine x_iload_n B hl dX10_house_1 rfl ?_
  refine ctm_call E hout hlk hK hC hS hl (κ := 0) (i := 0) (by decide) cl_0 rfl (c_streetAt l hlt D cy d0 A la _ (z := st) h_st (by omega) (by omega) hlg) (cwV 1 hts0 gX10_house_X10_streetAt rfl rfl rfl (by decide +kernel) ⟨Nat.le_of_ble_eq_true rfl, Nat.le_of_ble_eq_true rfl⟩) rfl rfl (Nat.le_of_ble_eq_true rfl) dX10_house_2 ⟨Nat.le_of_ble_eq_true rfl, Nat.le_of_ble_eq_true rfl⟩ ⟨Nat.le_of_ble_eq_true rfl, Nat.le_of_ble_eq_true rfl⟩ (fun h => ⟨by unfold houseC; omega, rfl⟩) (fun h9_2 H locs hs1 hC hS => ?_)
  refine x_astore_n B hl dX10_house_5 (by decide) (fun ls hl => ?_)
  refine x_aload_n B hl dX10_house_6 rfl ?_
  refine co_getR (x := la 11 1) E hC 0 (by decide) cl_0 rfl (fun z h => List.mem_cons_of_mem _ (List.mem_append_left _ (List.mem_append_left _ (List.mem_append_left _ (List.mem_append_left _ (List.mem_append_right _ h)))))) 1 (by decide) (hts (.fieldLink RX10 16 "BinRounds" "houses" "Ljava/util/ArrayList;") (by decide +kernel)) (fun x hx => hx) dX10_house_7 rfl rfl ?_
  refine co_call E hK hC hS hl (κ := 11) (i := 1) (by decide) (cl_11 (by omega)) rfl (c_size l D cy d0 A la _ (L := 1) (n := σ 11 0) (cl_11 (by omega)) (cSz_1.trans rfl)) (cwV 0 hts0 gX10_house_Jx4a65c_size_8abf5 rfl rfl rfl (by decide +kernel) ⟨Nat.le_of_ble_eq_true rfl, Nat.le_of_ble_eq_true rfl⟩) rfl rfl (Nat.le_of_ble_eq_true rfl) dX10_house_10 ⟨Nat.le_of_ble_eq_true rfl, Nat.le_of_ble_eq_true rfl⟩ (fun H locs q_10 hC hS => ?_)
  refine x_bipush B dX10_house_13 (by decide) ?_
  refine x_icmp_ge (tgt := 22) B dX10_house_15 (by decide) (by omega) (by omega) (fun c_15 => ?_) (fun c_15 => ?_)
  · refine x_iconst B dX10_house_22 ?_
    refine cstm_call E hout hlk hK hC hS hl (c_requireRoom l hlt D cy d0 A la _ (z := 0) (Or.inl rfl)) (va_cwS 1 hts0 gX10_house_X10_requireRoom rfl rfl rfl (by decide +kernel) ⟨Nat.le_of_ble_eq_true rfl, Nat.le_of_ble_eq_true rfl⟩) rfl rfl (Nat.le_of_ble_eq_true rfl) dX10_house_23 ⟨Nat.le_of_ble_eq_true rfl, Nat.le_of_ble_eq_true rfl⟩ ⟨Nat.le_of_ble_eq_true rfl, Nat.le_of_ble_eq_true rfl⟩ (fun h => ⟨by unfold houseC; omega, rfl⟩) (fun h9_23 H locs q_23 hC hS => ?_)
    exact w_widen (Nat.le_of_ble_eq_true rfl) (Nat.le_of_ble_eq_true rfl) (tail _ _ ls hs1 (by omega) hC hS (lv_key hl _ rfl))
  · refine x_iconst B dX10_house_18 ?_
    refine x_goto (tgt := 23) B dX10_house_19 (by decide) ?_
    refine cstm_call E hout hlk hK hC hS hl (c_requireRoom l hlt D cy d0 A la _ (z := 1) (Or.inr rfl)) (va_cwS 1 hts0 gX10_house_X10_requireRoom rfl rfl rfl (by decide +kernel) ⟨Nat.le_of_ble_eq_true rfl, Nat.le_of_ble_eq_true rfl⟩) rfl rfl (Nat.le_of_ble_eq_true rfl) dX10_house_23 ⟨Nat.le_of_ble_eq_true rfl, Nat.le_of_ble_eq_true rfl⟩ ⟨Nat.le_of_ble_eq_true rfl, Nat.le_of_ble_eq_true rfl⟩ (fun h => ⟨by unfold houseC; omega, rfl⟩) (fun h9_23 H locs q_23 hC hS => ?_)
    exact w_widen (Nat.le_of_ble_eq_true rfl) (Nat.le_of_ble_eq_true rfl) (tail _ _ ls hs1 (by omega) hC hS (lv_key hl _ rfl))
