theorem sCt_sum {σ : MS} {h : Int} : ∀ n : Nat, sCt σ h n = σ 8 h + sSum (fun u => sShr σ u h) n
  | 0 => by rw [sCt]; show _ = σ 8 h + 0; omega
  | n + 1 => by
    rw [sCt, sSum, sCt_sum n]
    omega
theorem cInv.chd {n : Int} {σ : MS} (I : cInv n σ) {h : Int} (hh : 0 ≤ h ∧ h < σ 11 0) : sChd σ h = σ 50 h + σ 8 h := by
  unfold sChd
  rw [sCt_sum, I.fr h hh.1 hh.2]
  omega
theorem st_bill {n : Int} {σ : MS} {h : Int} (I : cInv n σ) (hn : n + 1 ≤ 600) (hh : 0 ≤ h ∧ h < σ 11 0) : iStp n (billS σ h) (up σ 9 h (σ 9 h + (σ 50 h + σ 8 h - σ 9 h))) := by
  have e : up σ 9 h (σ 9 h + (σ 50 h + σ 8 h - σ 9 h)) = billS σ h := by
    unfold billS
    rw [I.chd hh]
  rw [e]
  unfold billS
  exact iStp.rf (I.keepz hn (fun f hf => by
    simp only [okJ, Bool.or_eq_true, beq_iff_eq] at hf
    rw [up_f (by omega)]) (sRg_up (fun k j => sRg_mono (I.g k j)) (sRg_f rfl)) (fun j hj => by
    have h1 := I.z7 j hj
    rw [up_f (by decide), up_f (by decide), up_o (by omega), up_f (by decide)]
    exact h1) (by rw [up_f (by decide), up_f (by decide)]; exact I.z3) (fun j hj => by rw [up_f (by decide)]; exact (I.z39 j hj).2.2.1) (by rw [up_f (by decide)]; exact I.t41))
theorem st_street {n : Int} {σ : MS}  (I : cInv n σ) (hn : n + 1 ≤ 600) (hC : streetC σ = 0) : iStp n (streetS σ) (up (up σ 5 0 (σ 5 0 + 1)) 57 0 (σ 57 0 + 1)) := by
  have h5 : 0 ≤ σ 5 0 + 1 ∧ σ 5 0 + 1 ≤ 10 := by
    have h1 := ((I.g 5 0).2.1 rfl)
    unfold streetC at hC
    (repeat' split at hC) <;> omega
  have hg : ∀ k j, sRg (n + 1) k ((up (up σ 5 0 (σ 5 0 + 1)) 57 0 (σ 57 0 + 1)) k j) := (sRg_up (sRg_up (fun k j => sRg_mono (I.g k j)) (sRg_5 h5)) (sRg_f rfl))
  obtain ⟨τ, hτ⟩ : ∃ z, z = up (up σ 5 0 (σ 5 0 + 1)) 57 0 (σ 57 0 + 1) := ⟨_, rfl⟩
  rw [← hτ] at hg ⊢
  have he : ∀ f, (f != 5 && f != 57) = true → τ f = σ f := fun f hf => by
    simp only [Bool.and_eq_true, bne_iff_ne, ne_eq] at hf
    rw [hτ, up_f (by omega), up_f (by omega)]
  have e5 : τ 5 0 = σ 5 0 + 1 := by rw [hτ, up_f (by decide)]; exact up_s
  refine ⟨⟨⟨by have := I.n0; omega, hn⟩, hg, ?_, ?_, ?_, ?_, ?_, ?_, ?_, ?_, ?_, ?_, ?_, ?_, ?_, ?_, ?_, ?_, ?_, ?_, ?_, ?_, ?_⟩, fun k a b c d => by
    rw [hτ, up_f (by omega)]
    rfl⟩
  · unfold cRefs
    rw [e5, he 6 rfl, he 11 rfl, he 16 rfl, he 18 rfl, he 19 rfl, he 22 rfl, he 23 rfl, he 27 rfl, he 33 rfl, he 36 rfl, he 45 rfl]
    exact ⟨fun h a b => by have h1 := I.r.1 h a b; omega, I.r.2⟩
  · rw [he 58 rfl, he 59 rfl]
    exact I.lg
  · intro L
    have h1 := I.mc L
    have h2 := I.mc 0
    rw [hτ, up_rd]
    split
    · omega
    · rw [up_f (by decide)]; omega
  · unfold sOrd
    rw [he 45 rfl, he 32 rfl, he 1 rfl]
    exact I.ord
  · rw [he 23 rfl, he 18 rfl, he 17 rfl, he 1 rfl]
    exact I.bin
  · rw [he 11 rfl, he 7 rfl, he 8 rfl, he 9 rfl, he 10 rfl]
    exact I.z7
  · rw [he 27 rfl, he 25 rfl]
    exact I.z25
  · intro j hj
    rw [e5] at hj
    rw [he 3 rfl, he 4 rfl]
    exact I.z3 j (by omega)
  · rw [he 23 rfl, he 15 rfl, he 22 rfl]
    exact I.z22
  · rw [he 23 rfl, he 18 rfl]
    exact I.z18
  · rw [he 45 rfl, he 39 rfl, he 40 rfl, he 41 rfl, he 42 rfl, he 43 rfl]
    exact I.z39
  · rw [he 23 rfl, he 11 rfl]
    exact I.h23
  · rw [he 11 rfl, he 19 rfl]
    exact I.h19
  · rw [he 27 rfl, he 54 rfl]
    exact I.h54
  · rw [he 40 rfl, he 36 rfl]
    exact I.t40
  · rw [he 37 rfl, he 36 rfl]
    exact I.t37
  · rw [he 41 rfl, he 36 rfl, he 23 rfl, he 12 rfl]
    exact I.t41
  · rw [he 45 rfl, he 32 rfl, he 1 rfl, he 40 rfl, he 44 rfl]
    exact I.top
  · unfold sGs
    rw [he 45 rfl, he 32 rfl, he 1 rfl, he 44 rfl, he 33 rfl, he 39 rfl]
    exact I.gt
  · rw [he 45 rfl, he 32 rfl, he 33 rfl, he 44 rfl]
    exact I.ge
  · intro h a b
    rw [he 11 rfl] at b
    rw [he 50 rfl, he 45 rfl, I.fr h a b]
    congr 1
    funext u
    exact (sShr_u (fun f hf => he f (by
      simp only [okG, Bool.or_eq_true, beq_iff_eq] at hf
      simp only [Bool.and_eq_true, bne_iff_ne, ne_eq]
      omega)) (fun f hf => congrFun (he f (by
      simp only [okU, Bool.or_eq_true, beq_iff_eq] at hf
      simp only [Bool.and_eq_true, bne_iff_ne, ne_eq]
      omega)) u) h).symm
theorem st_cart {n : Int} {σ : MS} {lm : Int} (I : cInv n σ) (hn : n + 1 ≤ 600) (hC : cartC σ lm = 0) : iStp n (cartS σ lm) (up (up (up (up (up (up σ 24 (σ 27 0) lm) 26 (σ 27 0) (-1)) 53 (σ 27 0) 0) 54 (σ 27 0) 0) 27 0 (σ 27 0 + 1)) 57 3 (σ 57 3 + 1)) := by
  have h9 : (0 ≤ σ 27 0 ∧ σ 27 0 + 1 ≤ 5) ∧ 0 ≤ lm ∧ lm ≤ 100000 := by
    have h1 := ((I.g 27 0).2.2.2.2.1 rfl)
    unfold cartC at hC
    (repeat' split at hC) <;> omega
  have hg : ∀ k j, sRg (n + 1) k ((up (up (up (up (up (up σ 24 (σ 27 0) lm) 26 (σ 27 0) (-1)) 53 (σ 27 0) 0) 54 (σ 27 0) 0) 27 0 (σ 27 0 + 1)) 57 3 (σ 57 3 + 1)) k j) := (sRg_up (sRg_up (sRg_up (sRg_up (sRg_up (sRg_up (fun k j => sRg_mono (I.g k j)) (sRg_24 h9.2)) (sRg_26 ⟨by decide, by decide⟩)) (sRg_f rfl)) (sRg_f rfl)) (sRg_27 ⟨by omega, by omega⟩)) (sRg_f rfl))
  obtain ⟨τ, hτ⟩ : ∃ z, z = up (up (up (up (up (up σ 24 (σ 27 0) lm) 26 (σ 27 0) (-1)) 53 (σ 27 0) 0) 54 (σ 27 0) 0) 27 0 (σ 27 0 + 1)) 57 3 (σ 57 3 + 1) := ⟨_, rfl⟩
  rw [← hτ] at hg ⊢
  have he : ∀ f, (f != 24 && f != 26 && f != 53 && f != 54 && f != 27 && f != 57) = true → τ f = σ f := fun f hf => by
    simp only [Bool.and_eq_true, bne_iff_ne, ne_eq] at hf
    rw [hτ, up_f (by omega), up_f (by omega), up_f (by omega), up_f (by omega), up_f (by omega), up_f (by omega)]
  have e27 : τ 27 0 = σ 27 0 + 1 := by rw [hτ, up_f (by decide)]; exact up_s
  refine ⟨⟨⟨by have := I.n0; omega, hn⟩, hg, ?_, ?_, ?_, ?_, ?_, ?_, ?_, ?_, ?_, ?_, ?_, ?_, ?_, ?_, ?_, ?_, ?_, ?_, ?_, ?_, ?_⟩, fun k a b c d => by
    rw [hτ, up_f (by omega)]
    unfold cartS
    funext j
    simp only [up_rd]
    by_cases h53 : k = 53 <;> by_cases h54 : k = 54 <;> simp_all <;> omega⟩
  · unfold cRefs
    rw [e27, he 5 rfl, he 6 rfl, he 11 rfl, he 16 rfl, he 18 rfl, he 19 rfl, he 22 rfl, he 23 rfl, he 33 rfl, he 36 rfl, he 45 rfl]
    exact ⟨I.r.1, I.r.2.1, I.r.2.2.1, fun t a b => by have h1 := I.r.2.2.2.1 t a b; omega, I.r.2.2.2.2⟩
  · rw [he 58 rfl, he 59 rfl]
    exact I.lg
  · intro L
    have h1 := I.mc L
    have h2 := I.mc 3
    rw [hτ, up_rd]
    split
    · omega
    · rw [up_f (by decide), up_f (by decide), up_f (by decide), up_f (by decide), up_f (by decide)]; omega
  · unfold sOrd
    rw [he 45 rfl, he 32 rfl, he 1 rfl]
    exact I.ord
  · rw [he 23 rfl, he 18 rfl, he 17 rfl, he 1 rfl]
    exact I.bin
  · rw [he 11 rfl, he 7 rfl, he 8 rfl, he 9 rfl, he 10 rfl]
    exact I.z7
  · intro j hj
    rw [e27] at hj
    rw [he 25 rfl]
    exact I.z25 j (by omega)
  · rw [he 5 rfl, he 3 rfl, he 4 rfl]
    exact I.z3
  · rw [he 23 rfl, he 15 rfl, he 22 rfl]
    exact I.z22
  · rw [he 23 rfl, he 18 rfl]
    exact I.z18
  · rw [he 45 rfl, he 39 rfl, he 40 rfl, he 41 rfl, he 42 rfl, he 43 rfl]
    exact I.z39
  · rw [he 23 rfl, he 11 rfl]
    exact I.h23
  · rw [he 11 rfl, he 19 rfl]
    exact I.h19
  · intro c hc
    rw [e27] at hc
    have h1 := h9.1.1
    rw [hτ, up_f (by decide), up_f (by decide), up_rd]
    split
    · rfl
    · rw [up_f (by decide), up_f (by decide), up_f (by decide)]
      exact I.h54 c (by omega)
  · rw [he 40 rfl, he 36 rfl]
    exact I.t40
  · rw [he 37 rfl, he 36 rfl]
    exact I.t37
  · rw [he 41 rfl, he 36 rfl, he 23 rfl, he 12 rfl]
    exact I.t41
  · rw [he 45 rfl, he 32 rfl, he 1 rfl, he 40 rfl, he 44 rfl]
    exact I.top
  · unfold sGs
    rw [he 45 rfl, he 32 rfl, he 1 rfl, he 44 rfl, he 33 rfl, he 39 rfl]
    exact I.gt
  · rw [he 45 rfl, he 32 rfl, he 33 rfl, he 44 rfl]
    exact I.ge
  · intro h a b
    rw [he 11 rfl] at b
    rw [he 50 rfl, he 45 rfl, I.fr h a b]
    congr 1
    funext u
    exact (sShr_u (fun f hf => he f (by
      simp only [okG, Bool.or_eq_true, beq_iff_eq] at hf
      simp only [Bool.and_eq_true, bne_iff_ne, ne_eq]
      omega)) (fun f hf => congrFun (he f (by
      simp only [okU, Bool.or_eq_true, beq_iff_eq] at hf
      simp only [Bool.and_eq_true, bne_iff_ne, ne_eq]
      omega)) u) h).symm
