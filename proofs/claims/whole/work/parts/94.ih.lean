theorem sWt_11 {σ : MS} {v b h d : Int} : ∀ n : Nat, sWt (up σ 11 0 v) b h d n = sWt σ b h d n
  | 0 => rfl
  | n + 1 => by rw [sWt, sWt, sWt_11 n, up_f (by decide), up_f (by decide), up_f (by decide)]
theorem sWeight_11 {σ : MS} {v b h d : Int} : sWeight (up σ 11 0 v) b h d = sWeight σ b h d := by
  unfold sWeight
  rw [sWt_11, up_f (by decide)]
theorem sAw_11 {σ : MS} {v u : Int} : ∀ n : Nat, sAw (up σ 11 0 v) u n = sAw σ u n
  | 0 => rfl
  | n + 1 => by rw [sAw, sAw, sAw_11 n, sWeight_11, up_f (by decide), up_f (by decide)]
theorem sLf_11 {σ : MS} {v u c a : Int} : ∀ n : Nat, sLf (up σ 11 0 v) u c a n = sLf σ u c a n
  | 0 => rfl
  | n + 1 => by rw [sLf, sLf, sLf_11 n, sWeight_11, up_f (by decide), up_f (by decide)]
theorem sAh_11 {σ : MS} {v u : Int} : ∀ n : Nat, sAh (up σ 11 0 v) u n = sAh σ u n
  | 0 => rfl
  | n + 1 => by rw [sAh, sAh, sAh_11 n, sWeight_11, up_f (by decide), up_f (by decide)]
theorem sShr_11 {σ : MS} {u h : Int} (h11 : 0 ≤ σ 11 0) (hw : sWeight σ (σ 36 u) (σ 11 0) (σ 32 u) = 0) : sShr (up σ 11 0 (σ 11 0 + 1)) u h = sShr σ u h := by
  obtain ⟨τ, hτ⟩ : ∃ z, z = up σ 11 0 (σ 11 0 + 1) := ⟨_, rfl⟩
  rw [← hτ]
  have e11 : τ 11 0 = σ 11 0 + 1 := by rw [hτ]; exact up_s
  have e : ∀ f, (f != 11) = true → τ f = σ f := fun f hf => by
    simp only [bne_iff_ne, ne_eq] at hf
    rw [hτ, up_f hf]
  have eW : ∀ b h d, sWeight τ b h d = sWeight σ b h d := fun b h d => by rw [hτ]; exact sWeight_11
  have eA : sAll τ u = sAll σ u := by
    unfold sAll
    rw [e11, show (σ 11 0 + 1).toNat = (σ 11 0).toNat + 1 by omega, sAw, eW, e 36 rfl, e 32 rfl, Int.toNat_of_nonneg h11, hw, hτ, sAw_11]
    omega
  have eH : ∀ b d, sHouse τ b d = sHouse σ b d := fun b d => sHouse_c (e 16 rfl) (e 17 rfl) (e 18 rfl) b d
  have eN : sNob τ u ↔ sNob σ u := by
    unfold sNob
    rw [e 12 rfl, e 36 rfl, e 32 rfl, eA, eH]
  have eC : sChg τ u = sChg σ u := by
    unfold sChg
    rw [e 40 rfl, e 42 rfl, e 43 rfl, e 39 rfl]
    by_cases h : ¬ σ 40 u = 1 ∨ sNob σ u
    · rw [if_pos h, if_pos (h.imp id eN.mpr)]
    · rw [if_neg h, if_neg (fun z => h (z.imp id eN.mp))]
  have eL : ∀ c a, sLf τ u c a (τ 11 0).toNat = sLf σ u c a (σ 11 0).toNat := fun c a => by
    rw [e11, show (σ 11 0 + 1).toNat = (σ 11 0).toNat + 1 by omega, sLf, eW, e 36 rfl, e 32 rfl, Int.toNat_of_nonneg h11, hw, hτ, sLf_11]
    simp
  have eR : ∀ n, sAh τ u n = sAh σ u n := fun n => by rw [hτ]; exact sAh_11 n
  unfold sShr
  rw [e 40 rfl, e 12 rfl, e 36 rfl, e 32 rfl, eH, eC, eA, eW, eL, eR]
theorem sWt_no {σ : MS} {b h d : Int} : ∀ n : Nat, (∀ k : Nat, k < n → σ 19 (20 * b + k) ≠ h) → sWt σ b h d n = 0
  | 0, _ => rfl
  | n + 1, hn => by
    rw [sWt, if_neg (fun z => hn n (by omega) z.1)]
    exact sWt_no n (fun k hk => hn k (by omega))
/-- nobody's weight: a house that is not there -/
theorem cInv.wno {n : Int} {σ : MS} (I : cInv n σ) {b d : Int} (hb : 0 ≤ b ∧ b < σ 23 0) : sWeight σ b (σ 11 0) d = 0 := by
  have h22 := ((I.g 22 b).2.2.2.2.2.2.2.2.2.2.2.2.2.2.2.2.2.2.2.2.1 rfl)
  unfold sWeight
  refine sWt_no _ (fun k hk => ?_)
  have h1 := I.r.2.2.1 (20 * b + k) (by omega) (by rw [show (20 * b + (k : Int)) / 20 = b by omega]; exact hb.2) (by rw [show (20 * b + (k : Int)) / 20 = b by omega]; omega)
  omega
theorem cInv.b36 {n : Int} {σ : MS} (I : cInv n σ) {u : Int} (hu : 0 ≤ u ∧ u < σ 45 0) (h40 : σ 40 u = 1) : 0 ≤ σ 36 u ∧ σ 36 u < σ 23 0 := I.r.2.2.2.2 u hu.1 hu.2 (by have := I.t40 u h40; omega)
theorem cInv.shno {n : Int} {σ : MS} (I : cInv n σ) (hb : ∀ t, σ 40 t = 0 ∨ σ 40 t = 1) {u : Int} (hu : 0 ≤ u ∧ u < σ 45 0) : sShr σ u (σ 11 0) = 0 := by
  unfold sShr
  rcases hb u with h | h
  · rw [if_pos h]
  · rw [if_neg (by omega)]
    have h36 := I.b36 hu h
    have h18 := ((I.g 18 (σ 36 u)).2.2.2.2.2.2.2.2.2.2.2.2.2.2.2.2.1 rfl)
    by_cases hk : σ 12 (σ 36 u) = 3
    · rw [if_neg (fun z => z hk), I.wno h36]
      simp
    · rw [if_pos hk, if_neg]
      intro z
      have h1 := sHouse_in (d := σ 32 u) I.r h18 h36 (by have h2 := ((I.g 11 0).2.2.1 rfl); omega)
      omega
theorem st_house {n : Int} {σ : MS} {st : Int} (I : cInv n σ) (hn : n + 1 ≤ 600) (hb : ∀ t, σ 40 t = 0 ∨ σ 40 t = 1) (hC : houseC σ st = 0) : iStp n (houseS σ st) (up (up (up (up (up (up σ 6 (σ 11 0) st) 50 (σ 11 0) 0) 51 (σ 11 0) 0) 52 (σ 11 0) 0) 11 0 (σ 11 0 + 1)) 57 1 (σ 57 1 + 1)) := by
  have h9 : (0 ≤ σ 11 0 ∧ σ 11 0 + 1 ≤ 60) ∧ 0 ≤ st ∧ st < σ 5 0 := by
    have h1 := ((I.g 11 0).2.2.1 rfl)
    unfold houseC at hC
    (repeat' split at hC) <;> omega
  have h5 := ((I.g 5 0).2.1 rfl)
  have hg : ∀ k j, sRg (n + 1) k ((up (up (up (up (up (up σ 6 (σ 11 0) st) 50 (σ 11 0) 0) 51 (σ 11 0) 0) 52 (σ 11 0) 0) 11 0 (σ 11 0 + 1)) 57 1 (σ 57 1 + 1)) k j) := (sRg_up (sRg_up (sRg_up (sRg_up (sRg_up (sRg_up (fun k j => sRg_mono (I.g k j)) (sRg_6 ⟨by omega, by omega⟩)) (sRg_f rfl)) (sRg_f rfl)) (sRg_f rfl)) (sRg_11 ⟨by omega, by omega⟩)) (sRg_f rfl))
  obtain ⟨τ, hτ⟩ : ∃ z, z = up (up (up (up (up (up σ 6 (σ 11 0) st) 50 (σ 11 0) 0) 51 (σ 11 0) 0) 52 (σ 11 0) 0) 11 0 (σ 11 0 + 1)) 57 1 (σ 57 1 + 1) := ⟨_, rfl⟩
  rw [← hτ] at hg ⊢
  have he : ∀ f, (f != 6 && f != 50 && f != 51 && f != 52 && f != 11 && f != 57) = true → τ f = σ f := fun f hf => by
    simp only [Bool.and_eq_true, bne_iff_ne, ne_eq] at hf
    rw [hτ, up_f (by omega), up_f (by omega), up_f (by omega), up_f (by omega), up_f (by omega), up_f (by omega)]
  have e11 : τ 11 0 = σ 11 0 + 1 := by rw [hτ, up_f (by decide)]; exact up_s
  refine ⟨⟨⟨by have := I.n0; omega, hn⟩, hg, ?_, ?_, ?_, ?_, ?_, ?_, ?_, ?_, ?_, ?_, ?_, ?_, ?_, ?_, ?_, ?_, ?_, ?_, ?_, ?_, ?_⟩, fun k a b c d => by
    rw [hτ, up_f (by omega)]
    unfold houseS
    funext j
    simp only [up_rd]
    by_cases h50 : k = 50 <;> by_cases h51 : k = 51 <;> by_cases h52 : k = 52 <;> simp_all <;> omega⟩
  · unfold cRefs
    rw [e11, he 5 rfl, he 16 rfl, he 18 rfl, he 19 rfl, he 22 rfl, he 23 rfl, he 27 rfl, he 33 rfl, he 36 rfl, he 45 rfl]
    refine ⟨fun h a b => ?_, fun i a b c => ?_, fun i a b c => ?_, I.r.2.2.2.1, I.r.2.2.2.2⟩
    · rw [hτ, up_f (by decide), up_f (by decide), up_f (by decide), up_f (by decide), up_f (by decide), up_rd]
      split
      · exact h9.2
      · exact I.r.1 h a (by omega)
    · have h1 := I.r.2.1 i a b c; omega
    · have h1 := I.r.2.2.1 i a b c; omega
  · rw [he 58 rfl, he 59 rfl]
    exact I.lg
  · intro L
    have h1 := I.mc L
    have h2 := I.mc 1
    rw [hτ, up_rd]
    split
    · omega
    · rw [up_f (by decide), up_f (by decide), up_f (by decide), up_f (by decide), up_f (by decide)]; omega
  · unfold sOrd
    rw [he 45 rfl, he 32 rfl, he 1 rfl]
    exact I.ord
  · rw [he 23 rfl, he 18 rfl, he 17 rfl, he 1 rfl]
    exact I.bin
  · intro j hj
    rw [e11] at hj
    rw [he 7 rfl, he 8 rfl, he 9 rfl, he 10 rfl]
    exact I.z7 j (by omega)
  · rw [he 27 rfl, he 25 rfl]
    exact I.z25
  · rw [he 5 rfl, he 3 rfl, he 4 rfl]
    exact I.z3
  · rw [he 23 rfl, he 15 rfl, he 22 rfl]
    exact I.z22
  · rw [he 23 rfl, he 18 rfl]
    exact I.z18
  · rw [he 45 rfl, he 39 rfl, he 40 rfl, he 41 rfl, he 42 rfl, he 43 rfl]
    exact I.z39
  · rw [he 23 rfl, e11]
    omega
  · rw [e11, he 19 rfl]
    intro j
    rcases I.h19 j with h | h
    · exact Or.inl (by omega)
    · exact Or.inr h
  · rw [he 27 rfl, he 54 rfl]
    exact I.h54
  · rw [he 40 rfl, he 36 rfl]
    exact I.t40
  · rw [he 37 rfl, he 36 rfl]
    exact I.t37
  · rw [he 41 rfl, he 36 rfl, he 23 rfl, he 12 rfl]
    exact I.t41
  · rw [he 45 rfl, he 32 rfl, he 1 rfl, he 40 rfl, he 44 rfl]
    exact I.top
  · unfold sGs
    rw [he 45 rfl, he 32 rfl, he 1 rfl, he 44 rfl, he 33 rfl, he 39 rfl]
    exact I.gt
  · rw [he 45 rfl, he 32 rfl, he 33 rfl, he 44 rfl]
    exact I.ge
  · intro h a b
    rw [e11] at b
    rw [he 45 rfl]
    have hS : ∀ u, 0 ≤ u → u < σ 45 0 → sShr τ u h = sShr σ u h := fun u hu1 hu2 => by
      rcases hb u with h0 | h0
      · unfold sShr
        rw [he 40 rfl, if_pos h0, if_pos h0]
      · have e1 : sShr τ u h = sShr (up σ 11 0 (σ 11 0 + 1)) u h := sShr_u (fun f hf => by
          by_cases hf11 : f = 11
          · subst hf11
            rw [hτ, up_f (by decide)]
            funext j
            simp only [up_rd]
            split
            · rfl
            · have : ¬ ((11 : Nat) = 52 ∧ j = σ 11 0) := fun z => absurd z.1 (by decide)
              simp
          · rw [up_f hf11]
            exact he f (by
              simp only [okG, Bool.or_eq_true, beq_iff_eq] at hf
              simp only [Bool.and_eq_true, bne_iff_ne, ne_eq]
              omega)) (fun f hf => by
          simp only [okU, Bool.or_eq_true, beq_iff_eq] at hf
          rw [up_f (by omega), he f (by simp only [Bool.and_eq_true, bne_iff_ne, ne_eq]; omega)]) h
        rw [e1]
        exact sShr_11 (by omega) (I.wno (I.b36 ⟨hu1, hu2⟩ h0))
    rw [sSum_c _ (fun u hu1 hu2 => hS u hu1 (by have h45 := ((I.g 45 0).2.2.2.2.2.1 rfl); omega))]
    by_cases hh : h = σ 11 0
    · subst hh
      rw [sSum_c (g := fun _ => 0) _ (fun u hu1 hu2 => I.shno hb ⟨hu1, by have h45 := ((I.g 45 0).2.2.2.2.2.1 rfl); omega⟩), sSum_z (fun _ => rfl), hτ, up_f (by decide), up_f (by decide), up_f (by decide), up_f (by decide)]
      exact up_s
    · rw [← I.fr h a (by omega), hτ, up_f (by decide), up_f (by decide), up_f (by decide), up_f (by decide), up_o hh, up_f (by decide)]
