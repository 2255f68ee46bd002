section SHV
variable {σ τ : MS} {u : Int}
theorem sAw_v (h36 : τ 36 u = σ 36 u) (h32 : τ 32 u = σ 32 u) (hW : ∀ h, sWeight τ (σ 36 u) h (σ 32 u) = sWeight σ (σ 36 u) h (σ 32 u)) : ∀ n : Nat, sAw τ u n = sAw σ u n
  | 0 => rfl
  | n + 1 => by rw [sAw, sAw, sAw_v h36 h32 hW n, h36, h32, hW]
theorem sLf_v (h36 : τ 36 u = σ 36 u) (h32 : τ 32 u = σ 32 u) (hW : ∀ h, sWeight τ (σ 36 u) h (σ 32 u) = sWeight σ (σ 36 u) h (σ 32 u)) (c a : Int) : ∀ n : Nat, sLf τ u c a n = sLf σ u c a n
  | 0 => rfl
  | n + 1 => by rw [sLf, sLf, sLf_v h36 h32 hW c a n, h36, h32, hW]
theorem sAh_v (h36 : τ 36 u = σ 36 u) (h32 : τ 32 u = σ 32 u) (hW : ∀ h, sWeight τ (σ 36 u) h (σ 32 u) = sWeight σ (σ 36 u) h (σ 32 u)) : ∀ n : Nat, sAh τ u n = sAh σ u n
  | 0 => rfl
  | n + 1 => by rw [sAh, sAh, sAh_v h36 h32 hW n, h36, h32, hW]
theorem sShr_v {h : Int} (hu : ∀ f, okU f = true → τ f u = σ f u) (h11 : τ 11 0 = σ 11 0) (h12 : τ 12 (σ 36 u) = σ 12 (σ 36 u)) (hH : sHouse τ (σ 36 u) (σ 32 u) = sHouse σ (σ 36 u) (σ 32 u)) (hW : ∀ h, sWeight τ (σ 36 u) h (σ 32 u) = sWeight σ (σ 36 u) h (σ 32 u)) : sShr τ u h = sShr σ u h := by
  have h36 := hu 36 rfl
  have h32 := hu 32 rfl
  have eA : sAll τ u = sAll σ u := by
    unfold sAll
    rw [h11, sAw_v h36 h32 hW]
  have eN : sNob τ u ↔ sNob σ u := by
    unfold sNob
    rw [h36, h32, h12, eA, hH]
  have eC : sChg τ u = sChg σ u := by
    unfold sChg
    rw [hu 40 rfl, hu 42 rfl, hu 43 rfl, hu 39 rfl]
    by_cases h : ¬ σ 40 u = 1 ∨ sNob σ u
    · rw [if_pos h, if_pos (h.imp id eN.mpr)]
    · rw [if_neg h, if_neg (fun z => h (z.imp id eN.mp))]
  unfold sShr
  rw [hu 40 rfl, h36, h32, h12, hH, eC, eA, hW, h11, sLf_v h36 h32 hW, sAh_v h36 h32 hW]
end SHV
theorem cInv.day {n : Int} {σ : MS} (I : cInv n σ) {u : Int} (hu : 0 ≤ u ∧ u < σ 45 0) (h40 : σ 40 u = 1) : σ 32 u < σ 1 0 := by
  have h1 := I.ord.2 u hu.1 hu.2
  by_cases h : σ 32 u = σ 1 0
  · have := (I.top u hu.1 hu.2 h).1; omega
  · omega
theorem cInv.frv {n : Int} {σ τ : MS} (I : cInv n σ) (hb : ∀ t, σ 40 t = 0 ∨ σ 40 t = 1) (e11 : τ 11 0 = σ 11 0) (e45 : τ 45 0 = σ 45 0) (e50 : τ 50 = σ 50) (e40 : τ 40 = σ 40) (hS : ∀ u h, 0 ≤ u → u < σ 45 0 → σ 40 u = 1 → sShr τ u h = sShr σ u h) : ∀ h, 0 ≤ h → h < τ 11 0 → τ 50 h = sSum (fun u => sShr τ u h) (τ 45 0).toNat := by
  intro h a b
  have h45 := ((I.g 45 0).2.2.2.2.2.1 rfl)
  rw [e11] at b
  rw [e50, e45, I.fr h a b]
  refine sSum_c _ (fun u hu1 hu2 => ?_)
  rcases hb u with h0 | h0
  · unfold sShr
    rw [e40, if_pos h0, if_pos h0]
  · exact (hS u h hu1 (by omega) h0).symm
theorem sHo_v {σ τ : MS} {b d : Int} : ∀ n : Nat, (∀ k : Nat, k < n → τ 16 (8 * b + k) = σ 16 (8 * b + k) ∧ τ 17 (8 * b + k) = σ 17 (8 * b + k)) → sHo τ b d n = sHo σ b d n
  | 0, _ => rfl
  | n + 1, h => by
    rw [sHo, sHo, sHo_v n (fun k hk => h k (by omega)), (h n (by omega)).1, (h n (by omega)).2]
theorem sWt_v {σ τ : MS} {b h d : Int} : ∀ n : Nat, (∀ k : Nat, k < n → τ 19 (20 * b + k) = σ 19 (20 * b + k) ∧ τ 20 (20 * b + k) = σ 20 (20 * b + k) ∧ τ 21 (20 * b + k) = σ 21 (20 * b + k)) → sWt τ b h d n = sWt σ b h d n
  | 0, _ => rfl
  | n + 1, hh => by
    rw [sWt, sWt, sWt_v n (fun k hk => hh k (by omega)), (hh n (by omega)).1, (hh n (by omega)).2.1, (hh n (by omega)).2.2]
theorem st_move {n : Int} {σ : MS} {b h d : Int} (I : cInv n σ) (hn : n + 1 ≤ 600) (hb : ∀ t, σ 40 t = 0 ∨ σ 40 t = 1) (hC : moveC σ b h d = 0) : iStp n (moveS σ b h d) (up (up (up (up σ 16 (8 * b + σ 18 b) h) 17 (8 * b + σ 18 b) d) 18 b (σ 18 b + 1)) 57 (5 + 2 * b) (σ 57 (5 + 2 * b) + 1)) := by
  have h18 := ((I.g 18 b).2.2.2.2.2.2.2.2.2.2.2.2.2.2.2.2.1 rfl)
  have h1 := ((I.g 1 0).1 rfl)
  have h11 := ((I.g 11 0).2.2.1 rfl)
  have h9 : (0 ≤ b ∧ b < σ 23 0) ∧ (0 ≤ h ∧ h < σ 11 0) ∧ (σ 1 0 ≤ d ∧ d ≤ 699) ∧ σ 18 b < 8 := by
    unfold moveC at hC
    (repeat' split at hC) <;> omega
  have hb1 := (I.bin b h9.1.1 h9.1.2).1
  have hg : ∀ k j, sRg (n + 1) k ((up (up (up (up σ 16 (8 * b + σ 18 b) h) 17 (8 * b + σ 18 b) d) 18 b (σ 18 b + 1)) 57 (5 + 2 * b) (σ 57 (5 + 2 * b) + 1)) k j) := (sRg_up (sRg_up (sRg_up (sRg_up (fun k j => sRg_mono (I.g k j)) (sRg_16 ⟨by omega, by omega⟩)) (sRg_17 ⟨by omega, by omega⟩)) (sRg_18 ⟨by omega, by omega⟩)) (sRg_f rfl))
  obtain ⟨τ, hτ⟩ : ∃ z, z = up (up (up (up σ 16 (8 * b + σ 18 b) h) 17 (8 * b + σ 18 b) d) 18 b (σ 18 b + 1)) 57 (5 + 2 * b) (σ 57 (5 + 2 * b) + 1) := ⟨_, rfl⟩
  rw [← hτ] at hg ⊢
  have he : ∀ f, (f != 16 && f != 17 && f != 18 && f != 57) = true → τ f = σ f := fun f hf => by
    simp only [Bool.and_eq_true, bne_iff_ne, ne_eq] at hf
    rw [hτ, up_f (by omega), up_f (by omega), up_f (by omega), up_f (by omega)]
  have e18 : ∀ j, τ 18 j = if j = b then σ 18 b + 1 else σ 18 j := fun j => by rw [hτ]; simp [up_rd]
  have e16 : ∀ j, τ 16 j = if j = 8 * b + σ 18 b then h else σ 16 j := fun j => by rw [hτ]; simp [up_rd]
  have e17 : ∀ j, τ 17 j = if j = 8 * b + σ 18 b then d else σ 17 j := fun j => by rw [hτ]; simp [up_rd]
  refine ⟨⟨⟨by have := I.n0; omega, hn⟩, hg, ?_, ?_, ?_, ?_, ?_, ?_, ?_, ?_, ?_, ?_, ?_, ?_, ?_, ?_, ?_, ?_, ?_, ?_, ?_, ?_, ?_⟩, fun k a b1 c d1 => by
    rw [hτ, up_f (by omega)]
    rfl⟩
  · unfold cRefs
    rw [he 5 rfl, he 6 rfl, he 11 rfl, he 19 rfl, he 22 rfl, he 23 rfl, he 27 rfl, he 33 rfl, he 36 rfl, he 45 rfl]
    refine ⟨I.r.1, fun i b1 b2 b3 => ?_, I.r.2.2.1, I.r.2.2.2.1, I.r.2.2.2.2⟩
    rw [e18] at b3
    rw [e16]
    by_cases hi : i = 8 * b + σ 18 b
    · rw [if_pos hi]; exact h9.2.1
    · rw [if_neg hi]
      refine I.r.2.1 i b1 b2 ?_
      by_cases hb : i / 8 = b
      · rw [if_pos hb] at b3; rw [hb]; omega
      · rw [if_neg hb] at b3; exact b3
  · rw [he 58 rfl, he 59 rfl]
    exact I.lg
  · intro L
    have h1 := I.mc L
    have h2 := I.mc (5 + 2 * b)
    rw [hτ, up_rd]
    split
    · omega
    · rw [up_f (by decide), up_f (by decide), up_f (by decide)]; omega
  · unfold sOrd
    rw [he 45 rfl, he 32 rfl, he 1 rfl]
    exact I.ord
  · rw [he 23 rfl, he 1 rfl]
    intro j a c
    have h1 := I.bin j a c
    rw [e18, e17]
    by_cases hj : j = b
    · subst hj
      rw [if_pos rfl, if_neg (by omega)]
      exact ⟨by omega, h1.2⟩
    · rw [if_neg hj, if_neg (by omega)]
      exact h1
  · rw [he 11 rfl, he 7 rfl, he 8 rfl, he 9 rfl, he 10 rfl]
    exact I.z7
  · rw [he 27 rfl, he 25 rfl]
    exact I.z25
  · rw [he 5 rfl, he 3 rfl, he 4 rfl]
    exact I.z3
  · rw [he 23 rfl, he 15 rfl, he 22 rfl]
    exact I.z22
  · rw [he 23 rfl]
    intro j hj
    rw [e18, if_neg (by omega)]
    exact I.z18 j hj
  · rw [he 45 rfl, he 39 rfl, he 40 rfl, he 41 rfl, he 42 rfl, he 43 rfl]
    exact I.z39
  · rw [he 23 rfl, he 11 rfl]
    exact I.h23
  · rw [he 11 rfl, he 19 rfl]
    exact I.h19
  · rw [he 27 rfl, he 54 rfl]
    exact I.h54
  · rw [he 40 rfl, he 36 rfl]
    exact I.t40
  · rw [he 37 rfl, he 36 rfl]
    exact I.t37
  · rw [he 41 rfl, he 36 rfl, he 23 rfl, he 12 rfl]
    exact I.t41
  · rw [he 45 rfl, he 32 rfl, he 1 rfl, he 40 rfl, he 44 rfl]
    exact I.top
  · unfold sGs
    rw [he 45 rfl, he 32 rfl, he 1 rfl, he 44 rfl, he 33 rfl, he 39 rfl]
    exact I.gt
  · rw [he 45 rfl, he 32 rfl, he 33 rfl, he 44 rfl]
    exact I.ge
  · refine I.frv hb (by rw [he 11 rfl]) (by rw [he 45 rfl]) (he 50 rfl) (he 40 rfl) (fun u h0 hu1 hu2 h40 => ?_)
    have hdy := I.day ⟨hu1, hu2⟩ h40
    have h36 := I.b36 ⟨hu1, hu2⟩ h40
    refine sShr_v (fun f hf => congrFun (he f (by
      simp only [okU, Bool.or_eq_true, beq_iff_eq] at hf
      simp only [Bool.and_eq_true, bne_iff_ne, ne_eq]
      omega)) u) (by rw [he 11 rfl]) (by rw [he 12 rfl]) ?_ (fun h1 => ?_)
    · unfold sHouse
      rw [e18]
      by_cases hbb : σ 36 u = b
      · rw [if_pos hbb, hbb, show (σ 18 b + 1).toNat = (σ 18 b).toNat + 1 by omega, sHo, Int.toNat_of_nonneg h18.1, e17, if_pos rfl, if_neg (by omega)]
        exact sHo_v _ (fun k hk => by rw [e16, e17, if_neg (by omega), if_neg (by omega)]; exact ⟨rfl, rfl⟩)
      · rw [if_neg hbb]
        have h8 := ((I.g 18 (σ 36 u)).2.2.2.2.2.2.2.2.2.2.2.2.2.2.2.2.1 rfl)
        exact sHo_v _ (fun k hk => by rw [e16, e17, if_neg (by omega), if_neg (by omega)]; exact ⟨rfl, rfl⟩)
    · unfold sWeight
      rw [he 22 rfl]
      exact sWt_v _ (fun k hk => by rw [he 19 rfl, he 20 rfl, he 21 rfl]; exact ⟨rfl, rfl, rfl⟩)
theorem st_part {n : Int} {σ : MS} {b h wt d : Int} (I : cInv n σ) (hn : n + 1 ≤ 600) (hb : ∀ t, σ 40 t = 0 ∨ σ 40 t = 1) (hC : partC σ b h wt d = 0) : iStp n (partS σ b h wt d) (up (up (up (up (up σ 19 (20 * b + σ 22 b) h) 20 (20 * b + σ 22 b) wt) 21 (20 * b + σ 22 b) d) 22 b (σ 22 b + 1)) 57 (6 + 2 * b) (σ 57 (6 + 2 * b) + 1)) := by
  have h22 := ((I.g 22 b).2.2.2.2.2.2.2.2.2.2.2.2.2.2.2.2.2.2.2.2.1 rfl)
  have h1 := ((I.g 1 0).1 rfl)
  have h11 := ((I.g 11 0).2.2.1 rfl)
  have h9 : (0 ≤ b ∧ b < σ 23 0) ∧ (0 ≤ h ∧ h < σ 11 0) ∧ (σ 1 0 ≤ d ∧ d ≤ 699) ∧ (0 ≤ wt ∧ wt ≤ 1000) ∧ σ 22 b < 20 := by
    unfold partC at hC
    (repeat' split at hC) <;> omega
  have hg : ∀ k j, sRg (n + 1) k ((up (up (up (up (up σ 19 (20 * b + σ 22 b) h) 20 (20 * b + σ 22 b) wt) 21 (20 * b + σ 22 b) d) 22 b (σ 22 b + 1)) 57 (6 + 2 * b) (σ 57 (6 + 2 * b) + 1)) k j) := (sRg_up (sRg_up (sRg_up (sRg_up (sRg_up (fun k j => sRg_mono (I.g k j)) (sRg_19 ⟨by omega, by omega⟩)) (sRg_20 ⟨by omega, by omega⟩)) (sRg_21 ⟨by omega, by omega⟩)) (sRg_22 ⟨by omega, by omega⟩)) (sRg_f rfl))
  obtain ⟨τ, hτ⟩ : ∃ z, z = up (up (up (up (up σ 19 (20 * b + σ 22 b) h) 20 (20 * b + σ 22 b) wt) 21 (20 * b + σ 22 b) d) 22 b (σ 22 b + 1)) 57 (6 + 2 * b) (σ 57 (6 + 2 * b) + 1) := ⟨_, rfl⟩
  rw [← hτ] at hg ⊢
  have he : ∀ f, (f != 19 && f != 20 && f != 21 && f != 22 && f != 57) = true → τ f = σ f := fun f hf => by
    simp only [Bool.and_eq_true, bne_iff_ne, ne_eq] at hf
    rw [hτ, up_f (by omega), up_f (by omega), up_f (by omega), up_f (by omega), up_f (by omega)]
  have e22 : ∀ j, τ 22 j = if j = b then σ 22 b + 1 else σ 22 j := fun j => by rw [hτ]; simp [up_rd]
  have e19 : ∀ j, τ 19 j = if j = 20 * b + σ 22 b then h else σ 19 j := fun j => by rw [hτ]; simp [up_rd]
  have e20 : ∀ j, τ 20 j = if j = 20 * b + σ 22 b then wt else σ 20 j := fun j => by rw [hτ]; simp [up_rd]
  have e21 : ∀ j, τ 21 j = if j = 20 * b + σ 22 b then d else σ 21 j := fun j => by rw [hτ]; simp [up_rd]
  refine ⟨⟨⟨by have := I.n0; omega, hn⟩, hg, ?_, ?_, ?_, ?_, ?_, ?_, ?_, ?_, ?_, ?_, ?_, ?_, ?_, ?_, ?_, ?_, ?_, ?_, ?_, ?_, ?_⟩, fun k a b1 c d1 => by
    rw [hτ, up_f (by omega)]
    rfl⟩
  · unfold cRefs
    rw [he 5 rfl, he 6 rfl, he 11 rfl, he 16 rfl, he 18 rfl, he 23 rfl, he 27 rfl, he 33 rfl, he 36 rfl, he 45 rfl]
    refine ⟨I.r.1, I.r.2.1, fun i b1 b2 b3 => ?_, I.r.2.2.2.1, I.r.2.2.2.2⟩
    rw [e22] at b3
    rw [e19]
    by_cases hi : i = 20 * b + σ 22 b
    · rw [if_pos hi]; exact h9.2.1
    · rw [if_neg hi]
      refine I.r.2.2.1 i b1 b2 ?_
      by_cases hb : i / 20 = b
      · rw [if_pos hb] at b3; rw [hb]; omega
      · rw [if_neg hb] at b3; exact b3
  · rw [he 58 rfl, he 59 rfl]
    exact I.lg
  · intro L
    have h1 := I.mc L
    have h2 := I.mc (6 + 2 * b)
    rw [hτ, up_rd]
    split
    · omega
    · rw [up_f (by decide), up_f (by decide), up_f (by decide), up_f (by decide)]; omega
  · unfold sOrd
    rw [he 45 rfl, he 32 rfl, he 1 rfl]
    exact I.ord
  · rw [he 23 rfl, he 18 rfl, he 17 rfl, he 1 rfl]
    exact I.bin
  · rw [he 11 rfl, he 7 rfl, he 8 rfl, he 9 rfl, he 10 rfl]
    exact I.z7
  · rw [he 27 rfl, he 25 rfl]
    exact I.z25
  · rw [he 5 rfl, he 3 rfl, he 4 rfl]
    exact I.z3
  · rw [he 23 rfl, he 15 rfl]
    intro j hj
    rw [e22, if_neg (by omega)]
    exact I.z22 j hj
  · rw [he 23 rfl, he 18 rfl]
    exact I.z18
  · rw [he 45 rfl, he 39 rfl, he 40 rfl, he 41 rfl, he 42 rfl, he 43 rfl]
    exact I.z39
  · rw [he 23 rfl, he 11 rfl]
    exact I.h23
  · rw [he 11 rfl]
    intro j
    rw [e19]
    split
    · exact Or.inl h9.2.1.2
    · exact I.h19 j
  · rw [he 27 rfl, he 54 rfl]
    exact I.h54
  · rw [he 40 rfl, he 36 rfl]
    exact I.t40
  · rw [he 37 rfl, he 36 rfl]
    exact I.t37
  · rw [he 41 rfl, he 36 rfl, he 23 rfl, he 12 rfl]
    exact I.t41
  · rw [he 45 rfl, he 32 rfl, he 1 rfl, he 40 rfl, he 44 rfl]
    exact I.top
  · unfold sGs
    rw [he 45 rfl, he 32 rfl, he 1 rfl, he 44 rfl, he 33 rfl, he 39 rfl]
    exact I.gt
  · rw [he 45 rfl, he 32 rfl, he 33 rfl, he 44 rfl]
    exact I.ge
  · refine I.frv hb (by rw [he 11 rfl]) (by rw [he 45 rfl]) (he 50 rfl) (he 40 rfl) (fun u h0 hu1 hu2 h40 => ?_)
    have hdy := I.day ⟨hu1, hu2⟩ h40
    have h36 := I.b36 ⟨hu1, hu2⟩ h40
    refine sShr_v (fun f hf => congrFun (he f (by
      simp only [okU, Bool.or_eq_true, beq_iff_eq] at hf
      simp only [Bool.and_eq_true, bne_iff_ne, ne_eq]
      omega)) u) (by rw [he 11 rfl]) (by rw [he 12 rfl]) ?_ (fun h1 => ?_)
    · unfold sHouse
      rw [he 18 rfl]
      exact sHo_v _ (fun k hk => by rw [he 16 rfl, he 17 rfl]; exact ⟨rfl, rfl⟩)
    · unfold sWeight
      rw [e22]
      by_cases hbb : σ 36 u = b
      · rw [if_pos hbb, hbb, show (σ 22 b + 1).toNat = (σ 22 b).toNat + 1 by omega, sWt, Int.toNat_of_nonneg h22.1, e19, e21, if_pos rfl, if_pos rfl, if_neg (by omega)]
        exact sWt_v _ (fun k hk => by rw [e19, e20, e21, if_neg (by omega), if_neg (by omega), if_neg (by omega)]; exact ⟨rfl, rfl, rfl⟩)
      · rw [if_neg hbb]
        have h8 := ((I.g 22 (σ 36 u)).2.2.2.2.2.2.2.2.2.2.2.2.2.2.2.2.2.2.2.2.1 rfl)
        exact sWt_v _ (fun k hk => by rw [e19, e20, e21, if_neg (by omega), if_neg (by omega), if_neg (by omega)]; exact ⟨rfl, rfl, rfl⟩)
