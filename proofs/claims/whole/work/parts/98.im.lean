theorem st_tip {n : Int} {σ τ : MS} {q mk g : Int} (I : cInv n σ) (hn : n + 1 ≤ 600) (hb : ∀ t, σ 40 t = 0 ∨ σ 40 t = 1) (hC : tipC σ q g = 0) (hp : ∀ f, f ≠ 55 → f ≠ 56 → τ f = tipT σ q mk g f) : iStp n (tipS σ q mk g) τ := by
  have h45 := ((I.g 45 0).2.2.2.2.2.1 rfl)
  have h27 := ((I.g 27 0).2.2.2.2.1 rfl)
  have h23 := ((I.g 23 0).2.2.2.1 rfl)
  have h1 := ((I.g 1 0).1 rfl)
  have h25 := ((I.g 25 q).2.2.2.2.2.2.2.2.2.2.2.2.2.2.2.2.2.2.2.2.2.2.1 rfl)
  have h9 : (0 ≤ q ∧ q < σ 27 0) ∧ (-1 ≤ g ∧ g ≤ 200000) ∧ σ 45 0 < 600 := by
    unfold tipC at hC
    (repeat' split at hC) <;> omega
  have hz := I.z39 (σ 45 0) (Int.le_refl _)
  have hBr := tipB_r (σ := σ) (mk := mk) h23.1
  have hMr := sMiddle_r (σ := σ) (b := tipB σ mk) (M := 3000000) (by decide) (fun t _ _ => ((I.g 35 t).2.2.2.2.2.2.2.2.2.2.2.2.2.2.2.2.2.2.2.2.2.2.2.2.2.2.2.2.1 rfl))
  have hOr : 0 ≤ tipO σ mk ∧ tipO σ mk ≤ 3 := by unfold tipO; (repeat' split) <;> omega
  obtain ⟨S, hS⟩ : ∃ z, z = tipS σ q mk g := ⟨_, rfl⟩
  have hx : ∀ f, f ≠ 55 → f ≠ 56 → τ f = up (up S 58 0 0) 57 4 (σ 57 4 + 1) f := fun f a c => by rw [hp f a c, tipT_x I.lg.1 h9.2.1.1, hS]
  have hgA : ∀ k j, sRg (n + 1) k (tipA σ q mk k j) := by
    unfold tipA
    exact sRg_up (sRg_up (sRg_up (sRg_up (sRg_up (sRg_up (fun k j => sRg_mono (I.g k j)) (sRg_32 h1)) (sRg_33 ⟨by omega, by omega⟩)) (sRg_f rfl)) (sRg_37 hOr)) (sRg_36 ⟨hBr.1, by omega⟩)) (sRg_44 ⟨by decide, by decide⟩)
  have hgS : ∀ k j, sRg (n + 1) k (S k j) := by
    rw [hS]
    unfold tipS
    by_cases hg : g < 0
    · rw [if_pos hg]
      exact sRg_up (sRg_up (sRg_up hgA (sRg_38 ⟨by decide, by decide⟩)) (sRg_35 (by split <;> omega))) (sRg_45 ⟨by omega, by omega⟩)
    · rw [if_neg hg]
      exact sRg_up (sRg_up (sRg_up (sRg_up hgA (sRg_38 ⟨by decide, by decide⟩)) (sRg_35 ⟨by omega, by have := I.n0; omega⟩)) (sRg_25 ⟨by omega, by have := I.n0; omega⟩)) (sRg_45 ⟨by omega, by omega⟩)
  have hg : ∀ k j, sRg (n + 1) k (τ k j) := fun k j => by
    by_cases h55 : k = 55
    · exact sRg_f (by rw [h55]; rfl)
    · by_cases h56 : k = 56
      · exact sRg_f (by rw [h56]; rfl)
      · rw [hx k h55 h56]
        exact sRg_up (sRg_up hgS (sRg_f rfl)) (sRg_f rfl) k j
  have eS : ∀ f, (f != 25 && f != 32 && f != 33 && f != 34 && f != 35 && f != 36 && f != 37 && f != 38 && f != 44 && f != 45) = true → S f = σ f := fun f hf => by
    simp only [Bool.and_eq_true, bne_iff_ne, ne_eq] at hf
    rw [hS]
    unfold tipS tipA
    split
    · rw [up_f (by omega), up_f (by omega), up_f (by omega), up_f (by omega), up_f (by omega), up_f (by omega), up_f (by omega), up_f (by omega), up_f (by omega)]
    · rw [up_f (by omega), up_f (by omega), up_f (by omega), up_f (by omega), up_f (by omega), up_f (by omega), up_f (by omega), up_f (by omega), up_f (by omega), up_f (by omega)]
  have he : ∀ f, (f != 25 && f != 32 && f != 33 && f != 34 && f != 35 && f != 36 && f != 37 && f != 38 && f != 44 && f != 45 && f != 55 && f != 56 && f != 57 && f != 58) = true → τ f = σ f := fun f hf => by
    simp only [Bool.and_eq_true, bne_iff_ne, ne_eq] at hf
    rw [hx f (by omega) (by omega), up_f (by omega), up_f (by omega)]
    exact eS f (by simp only [Bool.and_eq_true, bne_iff_ne, ne_eq]; omega)
  have eT : ∀ f, f ≠ 55 → f ≠ 56 → f ≠ 57 → f ≠ 58 → τ f = S f := fun f a b c d => by rw [hx f a b, up_f c, up_f d]
  have e45 : τ 45 0 = σ 45 0 + 1 := by rw [eT 45 (by decide) (by decide) (by decide) (by decide), hS]; exact up_s
  have e32 : ∀ j, τ 32 j = if j = σ 45 0 then σ 1 0 else σ 32 j := fun j => by
    rw [eT 32 (by decide) (by decide) (by decide) (by decide), hS]
    unfold tipS tipA
    split <;> simp [up_rd]
  have e33 : ∀ j, τ 33 j = if j = σ 45 0 then q else σ 33 j := fun j => by
    rw [eT 33 (by decide) (by decide) (by decide) (by decide), hS]
    unfold tipS tipA
    split <;> simp [up_rd]
  have e36 : ∀ j, τ 36 j = if j = σ 45 0 then tipB σ mk else σ 36 j := fun j => by
    rw [eT 36 (by decide) (by decide) (by decide) (by decide), hS]
    unfold tipS tipA
    split <;> simp [up_rd]
  have e37 : ∀ j, τ 37 j = if j = σ 45 0 then tipO σ mk else σ 37 j := fun j => by
    rw [eT 37 (by decide) (by decide) (by decide) (by decide), hS]
    unfold tipS tipA
    split <;> simp [up_rd]
  have e44 : ∀ j, τ 44 j = if j = σ 45 0 then -1 else σ 44 j := fun j => by
    rw [eT 44 (by decide) (by decide) (by decide) (by decide), hS]
    unfold tipS tipA
    split <;> simp [up_rd]
  have e25 : ∀ j, j ≠ q → τ 25 j = σ 25 j := fun j hj => by
    rw [eT 25 (by decide) (by decide) (by decide) (by decide), hS]
    unfold tipS tipA
    split <;> simp [up_rd, hj]
  have hSr : ∀ u h, u ≠ σ 45 0 → sShr τ u h = sShr σ u h := fun u h hu => sShr_u (fun f hf => he f (by
    simp only [okG, Bool.or_eq_true, beq_iff_eq] at hf
    simp only [Bool.and_eq_true, bne_iff_ne, ne_eq]
    omega)) (fun f hf => by
    simp only [okU, Bool.or_eq_true, beq_iff_eq] at hf
    rcases hf with ((((hf | hf) | hf) | hf) | hf) | hf <;> subst hf
    · rw [e32, if_neg hu]
    · rw [e36, if_neg hu]
    · rw [he 39 rfl]
    · rw [he 40 rfl]
    · rw [he 42 rfl]
    · rw [he 43 rfl]) h
  refine ⟨⟨⟨by have := I.n0; omega, hn⟩, hg, ?_, ?_, ?_, ?_, ?_, ?_, ?_, ?_, ?_, ?_, ?_, ?_, ?_, ?_, ?_, ?_, ?_, ?_, ?_, ?_, ?_⟩, fun k a b c d => by rw [eT k (by omega) (by omega) (by omega) (by omega), hS]⟩
  · unfold cRefs
    rw [e45, he 5 rfl, he 6 rfl, he 11 rfl, he 16 rfl, he 18 rfl, he 19 rfl, he 22 rfl, he 23 rfl, he 27 rfl]
    refine ⟨I.r.1, I.r.2.1, I.r.2.2.1, fun t a c => ?_, fun t a c d => ?_⟩
    · rw [e33]
      by_cases ht : t = σ 45 0
      · rw [if_pos ht]; exact h9.1
      · rw [if_neg ht]; exact I.r.2.2.2.1 t a (by omega)
    · rw [e36] at d ⊢
      by_cases ht : t = σ 45 0
      · rw [if_pos ht] at d ⊢; exact ⟨by omega, hBr.2 d⟩
      · rw [if_neg ht] at d ⊢; exact I.r.2.2.2.2 t a (by omega) d
  · rw [he 59 rfl, hx 58 (by decide) (by decide), up_f (by decide)]
    exact ⟨up_s, I.lg.2⟩
  · intro L
    have a1 := I.mc L
    have a2 := I.mc 4
    rw [hx 57 (by decide) (by decide), up_rd]
    split
    · omega
    · rw [up_f (by decide), eS 57 rfl]; omega
  · have ho := I.ord
    refine ⟨fun i j a c d => ?_, fun i a c => ?_⟩
    · rw [e45] at d
      rw [e32, e32]
      by_cases hj : j = σ 45 0
      · rw [if_pos hj]
        by_cases hi : i = σ 45 0
        · rw [if_pos hi]; exact Int.le_refl _
        · rw [if_neg hi]; exact ho.2 i a (by omega)
      · rw [if_neg hj, if_neg (by omega)]
        exact ho.1 i j a c (by omega)
    · rw [e45] at c
      rw [e32, he 1 rfl]
      split
      · exact Int.le_refl _
      · exact ho.2 i a (by omega)
  · rw [he 23 rfl, he 18 rfl, he 17 rfl, he 1 rfl]; exact I.bin
  · rw [he 11 rfl, he 7 rfl, he 8 rfl, he 9 rfl, he 10 rfl]; exact I.z7
  · rw [he 27 rfl]
    intro j hj
    rw [e25 j (by omega)]
    exact I.z25 j hj
  · rw [he 5 rfl, he 3 rfl, he 4 rfl]; exact I.z3
  · rw [he 23 rfl, he 15 rfl, he 22 rfl]; exact I.z22
  · rw [he 23 rfl, he 18 rfl]; exact I.z18
  · rw [e45, he 39 rfl, he 40 rfl, he 41 rfl, he 42 rfl, he 43 rfl]
    intro j hj
    exact I.z39 j (by omega)
  · rw [he 23 rfl, he 11 rfl]; exact I.h23
  · rw [he 11 rfl, he 19 rfl]; exact I.h19
  · rw [he 27 rfl, he 54 rfl]; exact I.h54
  · rw [he 40 rfl]
    intro t ht
    have a1 := I.t40 t ht
    rw [e36]
    by_cases h : t = σ 45 0
    · rw [h, hz.2.1] at ht; omega
    · rw [if_neg h]; exact a1
  · intro t ht
    rw [e37] at ht
    rw [e36]
    by_cases h : t = σ 45 0
    · rw [if_pos h] at ht ⊢
      unfold tipO at ht
      unfold tipB
      by_cases hs : sBear σ mk = 1
      · rw [if_pos hs] at ht; omega
      · rw [if_neg hs]; decide
    · rw [if_neg h] at ht ⊢; exact I.t37 t ht
  · rw [he 41 rfl, he 23 rfl, he 12 rfl]
    intro t ht
    rw [e36]
    by_cases h : t = σ 45 0
    · rw [h, hz.2.2.1] at ht; omega
    · rw [if_neg h]; exact I.t41 t ht
  · rw [e45, he 1 rfl, he 40 rfl]
    intro t a c d
    rw [e32] at d
    rw [e44]
    by_cases h : t = σ 45 0
    · rw [if_pos h, h]; exact ⟨hz.2.1, rfl⟩
    · rw [if_neg h] at d ⊢; exact I.top t a (by omega) d
  · rw [e45, he 1 rfl]
    intro t a c d f
    rw [e32] at d
    by_cases h : t = σ 45 0
    · rw [if_pos h] at d; omega
    · rw [if_neg h] at d
      rw [e44, if_neg h] at f ⊢
      have a1 := I.gt t a (by omega) d f
      have a2 : sGs τ t = sGs σ t := by
        unfold sGs
        rw [e45, sSum_s h45.1, e32, e32, if_pos rfl, if_neg h, if_neg (by omega), Int.add_zero]
        refine sSum_c _ (fun u hu1 hu2 => ?_)
        have hu : u ≠ σ 45 0 := by omega
        rw [e32, e33, e33, if_neg hu, if_neg hu, if_neg h, he 39 rfl]
      omega
  · rw [e45]
    intro t u a c d f k1 k2
    rw [e32, e32] at k1
    rw [e33, e33] at k2
    rw [e44, e44]
    by_cases h : t = σ 45 0
    · rw [if_pos h] at k1 ⊢
      by_cases hu : u = σ 45 0
      · rw [if_pos hu]
      · rw [if_neg hu] at k1 ⊢
        exact (I.top u d (by omega) k1.symm).2.symm
    · rw [if_neg h] at k1 k2 ⊢
      by_cases hu : u = σ 45 0
      · rw [if_pos hu] at k1 ⊢
        exact (I.top t a (by omega) k1).2
      · rw [if_neg hu] at k1 k2 ⊢
        exact I.ge t u a (by omega) d (by omega) k1 k2
  · rw [he 11 rfl, he 50 rfl, e45]
    intro h a c
    have a0 : sShr τ (σ 45 0) h = 0 := by
      unfold sShr
      rw [he 40 rfl, if_pos hz.2.1]
    rw [sSum_s h45.1, a0, Int.add_zero, I.fr h a c]
    exact sSum_c _ (fun u hu1 hu2 => (hSr u h (by omega)).symm)
