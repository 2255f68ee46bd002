theorem binT_x {σ : MS} {kd h mk : Int} (h59 : σ 59 0 = 0) (hn : 0 ≤ σ 23 0) : binT σ kd h mk = up (up (up (up (up (up (up (up (up (up σ 12 (σ 23 0) kd) 13 (σ 23 0) 1) 14 (σ 23 0) mk) 16 (8 * σ 23 0) h) 17 (8 * σ 23 0) (σ 1 0)) 18 (σ 23 0) 1) 23 0 (σ 23 0 + 1)) 57 (5 + 2 * σ 23 0) 1) 57 (6 + 2 * σ 23 0) 0) 57 2 (σ 57 2 + 1) := by
  have e18 : binA σ kd mk 18 (σ 23 0) = 0 := by unfold binA; simp [up_rd]
  have e1 : binA σ kd mk 1 0 = σ 1 0 := by unfold binA; simp [up_rd]
  have e57 : binA σ kd mk 57 (5 + 2 * σ 23 0) = 0 := by unfold binA; simp [up_rd]
  have e572 : binM (binA σ kd mk) h (σ 23 0) 57 2 = σ 57 2 := by
    unfold binM binA
    rw [up_o (by omega), up_f (by decide), up_f (by decide), up_f (by decide), up_f (by decide), up_f (by decide), up_o (by omega), up_o (by omega), up_f (by decide), up_f (by decide), up_f (by decide), up_f (by decide)]
  unfold binT binL
  rw [e572]
  unfold binM
  rw [e18, e1, e57]
  unfold binA
  funext k j
  by_cases h57 : k = 57
  · subst h57
    simp [up_rd]
    (repeat' split) <;> first | rfl | omega
  · by_cases h59k : k = 59
    · subst h59k
      simp only [up_rd]
      by_cases hj : j = 0
      · subst hj; simp [h59]
      · simp [hj]
    · by_cases h18 : k = 18
      · subst h18
        simp only [up_rd]
        by_cases hj : j = σ 23 0
        · subst hj; simp
        · simp [hj]
      · rw [up_f h57, up_f h59k, up_f h57, up_f h18]
        simp only [up_rd, h57, h59k, h18, false_and, if_false, Int.add_zero]
        by_cases h23 : k = 23
        · subst h23; simp
        · simp [h23]
theorem st_binX {n : Int} {σ : MS} {kd h mk : Int} (I : cInv n σ) (hn : n + 1 ≤ 600) (hb : ∀ t, σ 40 t = 0 ∨ σ 40 t = 1) (hC : binC σ kd h = 0) : iStp n (binS σ kd h mk) (up (up (up (up (up (up (up (up (up (up σ 12 (σ 23 0) kd) 13 (σ 23 0) 1) 14 (σ 23 0) mk) 16 (8 * σ 23 0) h) 17 (8 * σ 23 0) (σ 1 0)) 18 (σ 23 0) 1) 23 0 (σ 23 0 + 1)) 57 (5 + 2 * σ 23 0) 1) 57 (6 + 2 * σ 23 0) 0) 57 2 (σ 57 2 + 1)) := by
  have h1 := ((I.g 1 0).1 rfl)
  have h11 := ((I.g 11 0).2.2.1 rfl)
  have h23 := ((I.g 23 0).2.2.2.1 rfl)
  have h9 : (0 ≤ h ∧ h < σ 11 0) ∧ (0 ≤ kd ∧ kd ≤ 4) ∧ σ 23 0 < 120 := by
    unfold binC at hC
    (repeat' split at hC) <;> omega
  have hg : ∀ k j, sRg (n + 1) k ((up (up (up (up (up (up (up (up (up (up σ 12 (σ 23 0) kd) 13 (σ 23 0) 1) 14 (σ 23 0) mk) 16 (8 * σ 23 0) h) 17 (8 * σ 23 0) (σ 1 0)) 18 (σ 23 0) 1) 23 0 (σ 23 0 + 1)) 57 (5 + 2 * σ 23 0) 1) 57 (6 + 2 * σ 23 0) 0) 57 2 (σ 57 2 + 1)) k j) := (sRg_up (sRg_up (sRg_up (sRg_up (sRg_up (sRg_up (sRg_up (sRg_up (sRg_up (sRg_up (fun k j => sRg_mono (I.g k j)) (sRg_12 h9.2.1)) (sRg_f rfl)) (sRg_f rfl)) (sRg_16 ⟨by omega, by omega⟩)) (sRg_17 h1)) (sRg_18 ⟨by decide, by decide⟩)) (sRg_23 ⟨by omega, by omega⟩)) (sRg_f rfl)) (sRg_f rfl)) (sRg_f rfl))
  obtain ⟨τ, hτ⟩ : ∃ z, z = up (up (up (up (up (up (up (up (up (up σ 12 (σ 23 0) kd) 13 (σ 23 0) 1) 14 (σ 23 0) mk) 16 (8 * σ 23 0) h) 17 (8 * σ 23 0) (σ 1 0)) 18 (σ 23 0) 1) 23 0 (σ 23 0 + 1)) 57 (5 + 2 * σ 23 0) 1) 57 (6 + 2 * σ 23 0) 0) 57 2 (σ 57 2 + 1) := ⟨_, rfl⟩
  rw [← hτ] at hg ⊢
  have he : ∀ f, (f != 12 && f != 13 && f != 14 && f != 16 && f != 17 && f != 18 && f != 23 && f != 57) = true → τ f = σ f := fun f hf => by
    simp only [Bool.and_eq_true, bne_iff_ne, ne_eq] at hf
    rw [hτ, up_f (by omega), up_f (by omega), up_f (by omega), up_f (by omega), up_f (by omega), up_f (by omega), up_f (by omega), up_f (by omega), up_f (by omega), up_f (by omega)]
  have e23 : τ 23 0 = σ 23 0 + 1 := by rw [hτ]; simp [up_rd]
  have e12 : ∀ j, τ 12 j = if j = σ 23 0 then kd else σ 12 j := fun j => by rw [hτ]; simp [up_rd]
  have e18 : ∀ j, τ 18 j = if j = σ 23 0 then 1 else σ 18 j := fun j => by rw [hτ]; simp [up_rd]
  have e16 : ∀ j, τ 16 j = if j = 8 * σ 23 0 then h else σ 16 j := fun j => by rw [hτ]; simp [up_rd]
  have e17 : ∀ j, τ 17 j = if j = 8 * σ 23 0 then σ 1 0 else σ 17 j := fun j => by rw [hτ]; simp [up_rd]
  refine ⟨⟨⟨by have := I.n0; omega, hn⟩, hg, ?_, ?_, ?_, ?_, ?_, ?_, ?_, ?_, ?_, ?_, ?_, ?_, ?_, ?_, ?_, ?_, ?_, ?_, ?_, ?_, ?_⟩, fun k a b1 c d1 => by
    rw [hτ, up_f (by omega), up_f (by omega), up_f (by omega)]
    rfl⟩
  · unfold cRefs
    rw [e23, he 5 rfl, he 6 rfl, he 11 rfl, he 19 rfl, he 22 rfl, he 27 rfl, he 33 rfl, he 36 rfl, he 45 rfl]
    refine ⟨I.r.1, fun i b1 b2 b3 => ?_, fun i b1 b2 b3 => ?_, I.r.2.2.2.1, fun t a b c => ?_⟩
    · rw [e18] at b3
      rw [e16]
      by_cases hi : i / 8 = σ 23 0
      · rw [if_pos hi] at b3
        rw [if_pos (by omega)]
        exact h9.1
      · rw [if_neg hi] at b3
        rw [if_neg (by omega)]
        exact I.r.2.1 i b1 (by omega) b3
    · by_cases hi : i / 20 = σ 23 0
      · have h2 := (I.z22 (i / 20) (by omega)).2; omega
      · exact I.r.2.2.1 i b1 (by omega) b3
    · have h2 := I.r.2.2.2.2 t a b c; omega
  · rw [he 58 rfl, he 59 rfl]
    exact I.lg
  · intro L
    have h1 := I.mc L
    have h2 := I.mc 2
    have h0 := I.n0
    rw [hτ, up_rd]
    split
    · omega
    · rw [up_rd]
      split
      · omega
      · rw [up_rd]
        split
        · omega
        · rw [up_f (by decide), up_f (by decide), up_f (by decide), up_f (by decide), up_f (by decide), up_f (by decide), up_f (by decide)]; omega
  · unfold sOrd
    rw [he 45 rfl, he 32 rfl, he 1 rfl]
    exact I.ord
  · rw [e23, he 1 rfl]
    intro j a c
    rw [e18, e17]
    by_cases hj : j = σ 23 0
    · subst hj
      rw [if_pos rfl, if_pos rfl]
      exact ⟨by decide, Int.le_refl _⟩
    · rw [if_neg hj, if_neg (by omega)]
      exact I.bin j a (by omega)
  · rw [he 11 rfl, he 7 rfl, he 8 rfl, he 9 rfl, he 10 rfl]
    exact I.z7
  · rw [he 27 rfl, he 25 rfl]
    exact I.z25
  · rw [he 5 rfl, he 3 rfl, he 4 rfl]
    exact I.z3
  · rw [e23, he 15 rfl, he 22 rfl]
    intro j hj
    exact I.z22 j (by omega)
  · rw [e23]
    intro j hj
    rw [e18, if_neg (by omega)]
    exact I.z18 j (by omega)
  · rw [he 45 rfl, he 39 rfl, he 40 rfl, he 41 rfl, he 42 rfl, he 43 rfl]
    exact I.z39
  · rw [e23, he 11 rfl]
    intro _
    omega
  · rw [he 11 rfl, he 19 rfl]
    exact I.h19
  · rw [he 27 rfl, he 54 rfl]
    exact I.h54
  · rw [he 40 rfl, he 36 rfl]
    exact I.t40
  · rw [he 37 rfl, he 36 rfl]
    exact I.t37
  · rw [e23, he 41 rfl, he 36 rfl]
    intro t ht
    have h1 := I.t41 t ht
    rw [e12, if_neg (by omega)]
    exact ⟨h1.1, by omega, h1.2.2⟩
  · rw [he 45 rfl, he 32 rfl, he 1 rfl, he 40 rfl, he 44 rfl]
    exact I.top
  · unfold sGs
    rw [he 45 rfl, he 32 rfl, he 1 rfl, he 44 rfl, he 33 rfl, he 39 rfl]
    exact I.gt
  · rw [he 45 rfl, he 32 rfl, he 33 rfl, he 44 rfl]
    exact I.ge
  · refine I.frv hb (by rw [he 11 rfl]) (by rw [he 45 rfl]) (he 50 rfl) (he 40 rfl) (fun u h0 hu1 hu2 h40 => ?_)
    have h36 := I.b36 ⟨hu1, hu2⟩ h40
    have h8 := ((I.g 18 (σ 36 u)).2.2.2.2.2.2.2.2.2.2.2.2.2.2.2.2.1 rfl)
    refine sShr_v (fun f hf => congrFun (he f (by
      simp only [okU, Bool.or_eq_true, beq_iff_eq] at hf
      simp only [Bool.and_eq_true, bne_iff_ne, ne_eq]
      omega)) u) (by rw [he 11 rfl]) (by rw [e12, if_neg (by omega)]) ?_ (fun h1 => ?_)
    · unfold sHouse
      rw [e18, if_neg (by omega)]
      exact sHo_v _ (fun k hk => by rw [e16, e17, if_neg (by omega), if_neg (by omega)]; exact ⟨rfl, rfl⟩)
    · unfold sWeight
      rw [he 22 rfl]
      exact sWt_v _ (fun k hk => by rw [he 19 rfl, he 20 rfl, he 21 rfl]; exact ⟨rfl, rfl, rfl⟩)
theorem st_bin {n : Int} {σ : MS} {kd h mk : Int} (I : cInv n σ) (hn : n + 1 ≤ 600) (hb : ∀ t, σ 40 t = 0 ∨ σ 40 t = 1) (hC : binC σ kd h = 0) : iStp n (binS σ kd h mk) (binT σ kd h mk) := by
  have h23 := ((I.g 23 0).2.2.2.1 rfl)
  rw [binT_x I.lg.2 h23.1]
  exact st_binX I hn hb hC
