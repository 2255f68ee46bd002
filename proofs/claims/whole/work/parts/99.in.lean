theorem cInv.gs {n : Int} {σ : MS} (I : cInv n σ) {t : Int} (ht : 0 ≤ t ∧ t < σ 45 0) : sGs σ t = sOth σ t + σ 39 t := by
  unfold sGs sOth
  rw [sSum_one (g := sOt σ t) (t := t) _ (fun u a b c => by
    unfold sOt
    by_cases h : σ 32 u = σ 32 t ∧ σ 33 u = σ 33 t
    · rw [if_pos h, if_pos ⟨c, h⟩]
    · rw [if_neg h, if_neg (fun z => h z.2)])]
  rw [if_pos ⟨ht.1, by omega⟩, if_pos ⟨rfl, rfl⟩]
  unfold sOt
  rw [if_neg (fun z => z.1 rfl)]
  omega
theorem cInv.wp {n : Int} {σ : MS} (I : cInv n σ) {t g : Int} (ht : 0 ≤ t ∧ t < σ 45 0) (hd : σ 32 t < σ 1 0) (hg : 0 ≤ g) : 0 ≤ weighP σ t g := by
  have a1 := I.gs ht
  have a2 := ((I.g 39 t).2.2.2.2.2.2.2.2.2.2.2.2.2.2.2.2.2.2.2.2.2.2.2.2.2.2.2.2.2.2.2.2.1 rfl)
  unfold weighP
  by_cases h : 0 ≤ σ 44 t
  · have a3 := I.gt t ht.1 ht.2 hd h
    rw [if_pos h]
    split <;> omega
  · rw [if_neg h]; omega
theorem st_weigh {n : Int} {σ τ : MS} {t g : Int} (I : cInv n σ) (hn : n + 1 ≤ 600) (hC : weighC σ t g = 0) (hp : ∀ q, q ≠ 50 → q ≠ 51 → q ≠ 52 → τ q = weighS σ t g q) (h50 : ∀ h, 0 ≤ h → h < σ 11 0 → τ 50 h = if σ 32 t = σ 1 0 then σ 50 h else σ 50 h - sShr σ t h + sShr (weighS σ t g) t h) : iStp n (weighS σ t g) τ := by
  have h45 := ((I.g 45 0).2.2.2.2.2.1 rfl)
  have h25 := ((I.g 25 (σ 33 t)).2.2.2.2.2.2.2.2.2.2.2.2.2.2.2.2.2.2.2.2.2.2.1 rfl)
  have h9 : (0 ≤ t ∧ t < σ 45 0) ∧ 0 ≤ g ∧ g ≤ 200000 := by
    unfold weighC at hC
    (repeat' split at hC) <;> omega
  have h33 := I.r.2.2.2.1 t h9.1.1 h9.1.2
  have hod := I.ord.2 t h9.1.1 h9.1.2
  have hP : ¬ σ 32 t = σ 1 0 → 0 ≤ weighP σ t g ∧ weighP σ t g ≤ 3000000 := fun h => ⟨I.wp h9.1 (by omega) h9.2.1, by unfold weighP; (repeat' split) <;> omega⟩
  obtain ⟨S, hS⟩ : ∃ z, z = weighS σ t g := ⟨_, rfl⟩
  rw [← hS] at hp h50
  have hgS : ∀ k j, sRg (n + 1) k (S k j) := by
    rw [hS]
    unfold weighS
    have a1 : ∀ k j, sRg (n + 1) k ((up (up (up σ 38 t 2) 35 t (g / 500)) 25 (σ 33 t) (σ 25 (σ 33 t) + g % 500)) k j) := sRg_up (sRg_up (sRg_up (fun k j => sRg_mono (I.g k j)) (sRg_38 ⟨by decide, by decide⟩)) (sRg_35 ⟨by omega, by omega⟩)) (sRg_25 ⟨by omega, by omega⟩)
    by_cases h : σ 32 t = σ 1 0
    · rw [if_pos h]; exact a1
    · rw [if_neg h]; exact sRg_up a1 (sRg_39 (hP h))
  have hg : ∀ k j, sRg (n + 1) k (τ k j) := fun k j => by
    by_cases hk : k ≠ 50 ∧ k ≠ 51 ∧ k ≠ 52
    · rw [hp k hk.1 hk.2.1 hk.2.2]; exact hgS k j
    · refine sRg_f ?_
      simp only [Bool.and_eq_true, bne_iff_ne, ne_eq]
      omega
  have eS : ∀ f, (f != 38 && f != 35 && f != 25 && f != 39) = true → S f = σ f := fun f hf => by
    simp only [Bool.and_eq_true, bne_iff_ne, ne_eq] at hf
    rw [hS]
    unfold weighS
    split
    · rw [up_f (by omega), up_f (by omega), up_f (by omega)]
    · rw [up_f (by omega), up_f (by omega), up_f (by omega), up_f (by omega)]
  have he : ∀ f, (f != 38 && f != 35 && f != 25 && f != 39 && f != 50 && f != 51 && f != 52) = true → τ f = σ f := fun f hf => by
    simp only [Bool.and_eq_true, bne_iff_ne, ne_eq] at hf
    rw [hp f (by omega) (by omega) (by omega)]
    exact eS f (by simp only [Bool.and_eq_true, bne_iff_ne, ne_eq]; omega)
  have e39 : ∀ j, τ 39 j = if j = t ∧ ¬ σ 32 t = σ 1 0 then weighP σ t g else σ 39 j := fun j => by
    rw [hp 39 (by decide) (by decide) (by decide), hS]
    unfold weighS
    by_cases h : σ 32 t = σ 1 0
    · rw [if_pos h]; simp [up_rd, h]
    · rw [if_neg h]; simp [up_rd, h]
  have e25 : ∀ j, j ≠ σ 33 t → τ 25 j = σ 25 j := fun j hj => by
    rw [hp 25 (by decide) (by decide) (by decide), hS]
    unfold weighS
    split <;> simp [up_rd, hj]
  have hu : ∀ u, u ≠ t → ∀ h, sShr τ u h = sShr σ u h := fun u hu h => sShr_u (fun f hf => he f (by
    simp only [okG, Bool.or_eq_true, beq_iff_eq] at hf
    simp only [Bool.and_eq_true, bne_iff_ne, ne_eq]
    omega)) (fun f hf => by
    simp only [okU, Bool.or_eq_true, beq_iff_eq] at hf
    rcases hf with ((((hf | hf) | hf) | hf) | hf) | hf <;> subst hf
    · rw [he 32 rfl]
    · rw [he 36 rfl]
    · rw [e39, if_neg (fun z => hu z.1)]
    · rw [he 40 rfl]
    · rw [he 42 rfl]
    · rw [he 43 rfl]) h
  refine ⟨⟨⟨by have := I.n0; omega, hn⟩, hg, ?_, ?_, ?_, ?_, ?_, ?_, ?_, ?_, ?_, ?_, ?_, ?_, ?_, ?_, ?_, ?_, ?_, ?_, ?_, ?_, ?_⟩, fun k a b c d => by rw [hp k (by omega) (by omega) (by omega), hS]⟩
  · exact cRefs_c (fun f hf => he f (by
      simp only [okCR, Bool.or_eq_true, beq_iff_eq] at hf
      simp only [Bool.and_eq_true, bne_iff_ne, ne_eq]
      omega)) I.r
  · rw [he 58 rfl, he 59 rfl]; exact I.lg
  · intro L; rw [he 57 rfl]; have := I.mc L; omega
  · unfold sOrd; rw [he 45 rfl, he 32 rfl, he 1 rfl]; exact I.ord
  · rw [he 23 rfl, he 18 rfl, he 17 rfl, he 1 rfl]; exact I.bin
  · rw [he 11 rfl, he 7 rfl, he 8 rfl, he 9 rfl, he 10 rfl]; exact I.z7
  · rw [he 27 rfl]
    intro j hj
    rw [e25 j (by omega)]
    exact I.z25 j hj
  · rw [he 5 rfl, he 3 rfl, he 4 rfl]; exact I.z3
  · rw [he 23 rfl, he 15 rfl, he 22 rfl]; exact I.z22
  · rw [he 23 rfl, he 18 rfl]; exact I.z18
  · rw [he 45 rfl, he 40 rfl, he 41 rfl, he 42 rfl, he 43 rfl]
    intro j hj
    have a1 := I.z39 j hj
    rw [e39, if_neg (fun z => by have := z.1; omega)]
    exact a1
  · rw [he 23 rfl, he 11 rfl]; exact I.h23
  · rw [he 11 rfl, he 19 rfl]; exact I.h19
  · rw [he 27 rfl, he 54 rfl]; exact I.h54
  · rw [he 40 rfl, he 36 rfl]; exact I.t40
  · rw [he 37 rfl, he 36 rfl]; exact I.t37
  · rw [he 41 rfl, he 36 rfl, he 23 rfl, he 12 rfl]; exact I.t41
  · rw [he 45 rfl, he 32 rfl, he 1 rfl, he 40 rfl, he 44 rfl]; exact I.top
  · rw [he 45 rfl, he 32 rfl, he 1 rfl, he 44 rfl]
    intro u a b c d
    have a1 := I.gt u a b c d
    by_cases h : σ 32 u = σ 32 t ∧ σ 33 u = σ 33 t
    · by_cases hop : σ 32 t = σ 1 0
      · omega
      · have a2 := I.ge u t a b h9.1.1 h9.1.2 h.1 h.2
        have a3 : sGs τ u = sOth σ t + weighP σ t g := by
          unfold sGs sOth
          rw [he 45 rfl, sSum_one (g := sOt σ t) (t := t) _ (fun v x1 x2 x3 => by
            unfold sOt
            have x4 : τ 39 v = σ 39 v := by rw [e39, if_neg (fun z => x3 z.1)]
            rw [he 32 rfl, he 33 rfl, h.1, h.2, x4]
            by_cases hv : σ 32 v = σ 32 t ∧ σ 33 v = σ 33 t
            · rw [if_pos hv, if_pos ⟨x3, hv⟩]
            · rw [if_neg hv, if_neg (fun z => hv z.2)])]
          rw [if_pos ⟨h9.1.1, by omega⟩, he 32 rfl, he 33 rfl, h.1, h.2, if_pos ⟨rfl, rfl⟩, e39, if_pos ⟨rfl, hop⟩]
          unfold sOt
          rw [if_neg (fun z => z.1 rfl)]
          omega
        rw [a3, a2]
        rw [a2] at d
        unfold weighP
        rw [if_pos d]
        split <;> omega
    · have a3 : sGs τ u = sGs σ u := by
        unfold sGs
        rw [he 45 rfl]
        refine sSum_c _ (fun v x1 x2 => ?_)
        rw [he 32 rfl, he 33 rfl, e39]
        by_cases hv : σ 32 v = σ 32 u ∧ σ 33 v = σ 33 u
        · rw [if_pos hv, if_pos hv, if_neg (fun z => h (by rw [← z.1]; exact ⟨hv.1.symm, hv.2.symm⟩))]
        · rw [if_neg hv, if_neg hv]
      omega
  · rw [he 45 rfl, he 32 rfl, he 33 rfl, he 44 rfl]; exact I.ge
  · rw [he 11 rfl, he 45 rfl]
    intro h a b
    rw [h50 h a b]
    have a1 := I.fr h a b
    by_cases hop : σ 32 t = σ 1 0
    · rw [if_pos hop, a1]
      have h40 := (I.top t h9.1.1 h9.1.2 hop).1
      refine sSum_c _ (fun u x1 x2 => ?_)
      by_cases hut : u = t
      · subst hut
        unfold sShr
        rw [he 40 rfl, if_pos h40, if_pos h40]
      · exact (hu u hut h).symm
    · rw [if_neg hop, sSum_one (f := fun u => sShr τ u h) (g := fun u => sShr σ u h) (t := t) _ (fun u x1 x2 x3 => hu u x3 h), if_pos ⟨h9.1.1, by omega⟩, ← a1]
      have a2 : sShr τ t h = sShr S t h := sShr_u (fun f hf => hp f (by
        simp only [okG, Bool.or_eq_true, beq_iff_eq] at hf; omega) (by
        simp only [okG, Bool.or_eq_true, beq_iff_eq] at hf; omega) (by
        simp only [okG, Bool.or_eq_true, beq_iff_eq] at hf; omega)) (fun f hf => congrFun (hp f (by
        simp only [okU, Bool.or_eq_true, beq_iff_eq] at hf; omega) (by
        simp only [okU, Bool.or_eq_true, beq_iff_eq] at hf; omega) (by
        simp only [okU, Bool.or_eq_true, beq_iff_eq] at hf; omega)) t) h
      show _ = σ 50 h + (sShr τ t h - sShr σ t h)
      rw [a2]
      omega
theorem sFin_x {σ : MS} {t k : Int} : (∀ f, f ≠ 40 → f ≠ 42 → f ≠ 43 → sFin σ t k f = σ f) ∧ (∀ j, sFin σ t k 40 j = if j = t then 1 else σ 40 j) ∧ (∀ j, j ≠ t → sFin σ t k 42 j = σ 42 j ∧ sFin σ t k 43 j = σ 43 j) := by
  unfold sFin
  refine ⟨fun f a b c => ?_, fun j => ?_, fun j hj => ⟨?_, ?_⟩⟩
  · rw [up_f a, up_f c, up_f b]
  · simp [up_rd]
  · simp [up_rd, hj]
  · simp [up_rd, hj]
theorem sChB_x {σ : MS} {t th : Int} : (∀ f, f ≠ 7 → f ≠ 40 → f ≠ 42 → f ≠ 43 → sChB σ t th f = σ f) ∧ (∀ j, sChB σ t th 40 j = if j = t then 1 else σ 40 j) ∧ (∀ j, j ≠ t → sChB σ t th 42 j = σ 42 j ∧ sChB σ t th 43 j = σ 43 j) ∧ ((∀ j, 0 ≤ σ 7 j) → ∀ j, 0 ≤ sChB σ t th 7 j ∧ sChB σ t th 7 j ≤ σ 7 j) := by
  have base : ∀ k, (∀ f, f ≠ 7 → f ≠ 40 → f ≠ 42 → f ≠ 43 → sFin σ t k f = σ f) ∧ (∀ j, sFin σ t k 40 j = if j = t then 1 else σ 40 j) ∧ (∀ j, j ≠ t → sFin σ t k 42 j = σ 42 j ∧ sFin σ t k 43 j = σ 43 j) ∧ ((∀ j, 0 ≤ σ 7 j) → ∀ j, 0 ≤ sFin σ t k 7 j ∧ sFin σ t k 7 j ≤ σ 7 j) := fun k => by
    have h := sFin_x (σ := σ) (t := t) (k := k)
    refine ⟨fun f _ a b c => h.1 f a b c, h.2.1, h.2.2, fun h7 j => ?_⟩
    rw [h.1 7 (by decide) (by decide) (by decide)]
    exact ⟨h7 j, Int.le_refl _⟩
  unfold sChB
  split
  · split
    · rename_i hh
      obtain ⟨H, hH⟩ : ∃ z, z = sHouse σ (σ 36 t) (σ 32 t) := ⟨_, rfl⟩
      rw [← hH] at hh ⊢
      have h := sFin_x (σ := up σ 7 H (σ 7 H - 1)) (t := t) (k := -1)
      refine ⟨fun f a0 a b c => ?_, fun j => ?_, fun j hj => ?_, fun h7 j => ?_⟩
      · rw [h.1 f a b c, up_f a0]
      · rw [h.2.1, up_f (by decide)]
      · have h1 := h.2.2 j hj
        rw [h1.1, h1.2, up_f (by decide), up_f (by decide)]
        exact ⟨rfl, rfl⟩
      · rw [h.1 7 (by decide) (by decide) (by decide), up_rd]
        have h8 := h7 j
        split
        · rename_i hj
          rw [hj.2]
          omega
        · omega
    · exact base 4
  · split
    · exact base 0
    · split
      · exact base (-1)
      · exact base _
theorem st_claim {n : Int} {σ τ : MS} {t b : Int} (I : cInv n σ) (hn : n + 1 ≤ 600) (hb : ∀ t, σ 40 t = 0 ∨ σ 40 t = 1) (hC : claimC σ t b = 0) (hp : ∀ q, q ≠ 50 → q ≠ 51 → q ≠ 52 → τ q = claimS σ t b q) (h50 : ∀ h, 0 ≤ h → h < σ 11 0 → τ 50 h = σ 50 h + sShr (claimS σ t b) t h) : iStp n (claimS σ t b) τ := by
  have h45 := ((I.g 45 0).2.2.2.2.2.1 rfl)
  have h23 := ((I.g 23 0).2.2.2.1 rfl)
  have h9 : (0 ≤ t ∧ t < σ 45 0) ∧ (0 ≤ b ∧ b < σ 23 0) ∧ σ 37 t = 2 ∧ ¬ σ 32 t = σ 1 0 := by
    unfold claimC at hC
    (repeat' split at hC) <;> omega
  have h36 := I.t37 t h9.2.2.1
  have h41 : ¬ σ 41 t = 1 := fun z => by have := (I.t41 t z).1; omega
  have h40 : σ 40 t = 0 := by
    rcases hb t with h | h
    · exact h
    · have := I.t40 t h; omega
  have hod := I.ord.2 t h9.1.1 h9.1.2
  obtain ⟨σ1, hσ1⟩ : ∃ z, z = up (up σ 37 t 3) 36 t b := ⟨_, rfl⟩
  have f1 : ∀ f, f ≠ 37 → f ≠ 36 → σ1 f = σ f := fun f a c => by rw [hσ1, up_f c, up_f a]
  have f36 : σ1 36 t = b := by rw [hσ1]; exact up_s
  obtain ⟨S, hS⟩ : ∃ z, z = claimS σ t b := ⟨_, rfl⟩
  have hSB : S = sChB σ1 t 0 := by
    rw [hS]
    unfold claimS
    rw [← hσ1]
    exact sCh_w0 (by rw [f1 41 (by decide) (by decide)]; exact h41)
  have hSC : S = sCh σ1 t := by rw [hS]; unfold claimS; rw [← hσ1]
  rw [← hS] at hp h50
  have X := sChB_x (σ := σ1) (t := t) (th := 0)
  rw [← hSB] at X
  have h43 := sCh_43 (σ := σ1) (t := t) (by rw [f1 28 (by decide) (by decide)]; exact fun j => ((I.g 28 j).2.2.2.2.2.2.2.2.2.2.2.2.2.2.2.2.2.2.2.2.2.2.2.2.1 rfl)) (by rw [f1 29 (by decide) (by decide)]; exact fun j => ((I.g 29 j).2.2.2.2.2.2.2.2.2.2.2.2.2.2.2.2.2.2.2.2.2.2.2.2.2.1 rfl)) (by rw [f1 7 (by decide) (by decide)]; exact fun j => (((I.g 7 j).2.2.2.2.2.2.2.2.2.2.2.1 rfl)).1) (by rw [f36, f1 12 (by decide) (by decide)]; exact ((I.g 12 b).2.2.2.2.2.2.2.2.2.2.2.2.1 rfl)) (by rw [f1 41 (by decide) (by decide)]; intro z; exact absurd z h41)
  rw [← hSC] at h43
  have eS : ∀ f, (f != 7 && f != 36 && f != 37 && f != 40 && f != 42 && f != 43) = true → S f = σ f := fun f hf => by
    simp only [Bool.and_eq_true, bne_iff_ne, ne_eq] at hf
    rw [X.1 f (by omega) (by omega) (by omega) (by omega), f1 f (by omega) (by omega)]
  have he : ∀ f, (f != 7 && f != 36 && f != 37 && f != 40 && f != 42 && f != 43 && f != 50 && f != 51 && f != 52) = true → τ f = σ f := fun f hf => by
    simp only [Bool.and_eq_true, bne_iff_ne, ne_eq] at hf
    rw [hp f (by omega) (by omega) (by omega)]
    exact eS f (by simp only [Bool.and_eq_true, bne_iff_ne, ne_eq]; omega)
  have e7 : ∀ j, 0 ≤ τ 7 j ∧ τ 7 j ≤ σ 7 j := fun j => by
    have h := X.2.2.2 (by rw [f1 7 (by decide) (by decide)]; exact fun j => (((I.g 7 j).2.2.2.2.2.2.2.2.2.2.2.1 rfl)).1) j
    rw [f1 7 (by decide) (by decide)] at h
    rw [hp 7 (by decide) (by decide) (by decide)]
    exact h
  have e40 : ∀ j, τ 40 j = if j = t then 1 else σ 40 j := fun j => by rw [hp 40 (by decide) (by decide) (by decide), X.2.1, f1 40 (by decide) (by decide)]
  have e36 : ∀ j, τ 36 j = if j = t then b else σ 36 j := fun j => by
    rw [hp 36 (by decide) (by decide) (by decide), X.1 36 (by decide) (by decide) (by decide) (by decide), hσ1]
    simp [up_rd]
  have e37 : ∀ j, τ 37 j = if j = t then 3 else σ 37 j := fun j => by
    rw [hp 37 (by decide) (by decide) (by decide), X.1 37 (by decide) (by decide) (by decide) (by decide), hσ1]
    simp [up_rd]
  have e42 : ∀ j, j ≠ t → τ 42 j = σ 42 j ∧ τ 43 j = σ 43 j := fun j hj => by
    have h := X.2.2.1 j hj
    rw [f1 42 (by decide) (by decide), f1 43 (by decide) (by decide)] at h
    rw [hp 42 (by decide) (by decide) (by decide), hp 43 (by decide) (by decide) (by decide)]
    exact h
  have hg : ∀ k j, sRg (n + 1) k (τ k j) := fun k j => by
    have h0 := sRg_mono (I.g k j)
    by_cases h7 : k = 7
    · subst h7
      have a1 := e7 j
      have a2 := ((I.g 7 j).2.2.2.2.2.2.2.2.2.2.2.1 rfl)
      exact sRg_7 ⟨a1.1, by omega⟩
    by_cases h40k : k = 40
    · subst h40k; exact sRg_f rfl
    by_cases hs : k = 50 ∨ k = 51 ∨ k = 52
    · refine sRg_f ?_
      simp only [Bool.and_eq_true, bne_iff_ne, ne_eq]
      omega
    by_cases h36k : k = 36
    · subst h36k
      rw [e36]
      split
      · exact sRg_36 ⟨by omega, by omega⟩
      · exact h0
    by_cases h37k : k = 37
    · subst h37k
      rw [e37]
      split
      · exact sRg_37 ⟨by decide, by decide⟩
      · exact h0
    by_cases h42k : k = 42
    · subst h42k
      by_cases hj : j = t
      · rw [hj, hp 42 (by decide) (by decide) (by decide)]; exact sRg_42 h43.1
      · rw [(e42 j hj).1]; exact h0
    by_cases h43k : k = 43
    · subst h43k
      by_cases hj : j = t
      · rw [hj, hp 43 (by decide) (by decide) (by decide)]; exact sRg_43 h43.2
      · rw [(e42 j hj).2]; exact h0
    rw [he k (by simp only [Bool.and_eq_true, bne_iff_ne, ne_eq]; omega)]
    exact h0
  have hu : ∀ u, u ≠ t → ∀ h, sShr τ u h = sShr σ u h := fun u hu h => sShr_u (fun f hf => he f (by
    simp only [okG, Bool.or_eq_true, beq_iff_eq] at hf
    simp only [Bool.and_eq_true, bne_iff_ne, ne_eq]
    omega)) (fun f hf => by
    simp only [okU, Bool.or_eq_true, beq_iff_eq] at hf
    rcases hf with ((((hf | hf) | hf) | hf) | hf) | hf <;> subst hf
    · rw [he 32 rfl]
    · rw [e36, if_neg hu]
    · rw [he 39 rfl]
    · rw [e40, if_neg hu]
    · exact (e42 u hu).1
    · exact (e42 u hu).2) h
  refine ⟨⟨⟨by have := I.n0; omega, hn⟩, hg, ?_, ?_, ?_, ?_, ?_, ?_, ?_, ?_, ?_, ?_, ?_, ?_, ?_, ?_, ?_, ?_, ?_, ?_, ?_, ?_, ?_⟩, fun k a b c d => by rw [hp k (by omega) (by omega) (by omega), hS]⟩
  · unfold cRefs
    rw [he 5 rfl, he 6 rfl, he 11 rfl, he 16 rfl, he 18 rfl, he 19 rfl, he 22 rfl, he 23 rfl, he 27 rfl, he 33 rfl, he 45 rfl]
    refine ⟨I.r.1, I.r.2.1, I.r.2.2.1, I.r.2.2.2.1, fun u a c d => ?_⟩
    rw [e36] at d ⊢
    by_cases hut : u = t
    · rw [if_pos hut]; exact h9.2.1
    · rw [if_neg hut] at d ⊢; exact I.r.2.2.2.2 u a c d
  · rw [he 58 rfl, he 59 rfl]; exact I.lg
  · intro L; rw [he 57 rfl]; have := I.mc L; omega
  · unfold sOrd; rw [he 45 rfl, he 32 rfl, he 1 rfl]; exact I.ord
  · rw [he 23 rfl, he 18 rfl, he 17 rfl, he 1 rfl]; exact I.bin
  · rw [he 11 rfl, he 8 rfl, he 9 rfl, he 10 rfl]
    intro j hj
    have a1 := I.z7 j hj
    have a2 := e7 j
    exact ⟨by omega, a1.2⟩
  · rw [he 27 rfl, he 25 rfl]; exact I.z25
  · rw [he 5 rfl, he 3 rfl, he 4 rfl]; exact I.z3
  · rw [he 23 rfl, he 15 rfl, he 22 rfl]; exact I.z22
  · rw [he 23 rfl, he 18 rfl]; exact I.z18
  · rw [he 45 rfl, he 39 rfl, he 41 rfl]
    intro j hj
    have a1 := I.z39 j hj
    have hj2 : j ≠ t := by omega
    rw [e40, if_neg hj2, (e42 j hj2).1, (e42 j hj2).2]
    exact a1
  · rw [he 23 rfl, he 11 rfl]; exact I.h23
  · rw [he 11 rfl, he 19 rfl]; exact I.h19
  · rw [he 27 rfl, he 54 rfl]; exact I.h54
  · intro u hu1
    rw [e40] at hu1
    rw [e36]
    by_cases hut : u = t
    · rw [if_pos hut]; exact h9.2.1.1
    · rw [if_neg hut] at hu1 ⊢; exact I.t40 u hu1
  · intro u hu1
    rw [e37] at hu1
    rw [e36]
    by_cases hut : u = t
    · rw [if_pos hut] at hu1; exact absurd hu1 (by decide)
    · rw [if_neg hut] at hu1 ⊢; exact I.t37 u hu1
  · rw [he 41 rfl, he 23 rfl, he 12 rfl]
    intro u hu1
    rw [e36]
    by_cases hut : u = t
    · rw [hut] at hu1; exact absurd hu1 h41
    · rw [if_neg hut]; exact I.t41 u hu1
  · rw [he 45 rfl, he 32 rfl, he 1 rfl, he 44 rfl]
    intro u a c d
    rw [e40]
    by_cases hut : u = t
    · rw [hut] at d; exact absurd d h9.2.2.2
    · rw [if_neg hut]; exact I.top u a c d
  · unfold sGs; rw [he 45 rfl, he 32 rfl, he 1 rfl, he 44 rfl, he 33 rfl, he 39 rfl]; exact I.gt
  · rw [he 45 rfl, he 32 rfl, he 33 rfl, he 44 rfl]; exact I.ge
  · rw [he 11 rfl, he 45 rfl]
    intro h a c
    rw [h50 h a c, sSum_one (f := fun u => sShr τ u h) (g := fun u => sShr σ u h) (t := t) _ (fun u x1 x2 x3 => hu u x3 h), if_pos ⟨h9.1.1, by omega⟩, ← I.fr h a c]
    have a2 : sShr τ t h = sShr S t h := sShr_u (fun f hf => hp f (by
      simp only [okG, Bool.or_eq_true, beq_iff_eq] at hf; omega) (by
      simp only [okG, Bool.or_eq_true, beq_iff_eq] at hf; omega) (by
      simp only [okG, Bool.or_eq_true, beq_iff_eq] at hf; omega)) (fun f hf => congrFun (hp f (by
      simp only [okU, Bool.or_eq_true, beq_iff_eq] at hf; omega) (by
      simp only [okU, Bool.or_eq_true, beq_iff_eq] at hf; omega) (by
      simp only [okU, Bool.or_eq_true, beq_iff_eq] at hf; omega)) t) h
    have a3 : sShr σ t h = 0 := by unfold sShr; rw [if_pos h40]
    show _ = σ 50 h + (sShr τ t h - sShr σ t h)
    rw [a2, a3]
    omega
def sN0 (κ k : Nat) : Bool := !(sT κ k == 1 || sT κ k == 2) || (sF κ k != 0 && sF κ k != 46 && sF κ k != 47 && (sF κ k != 54 || κ == 9))
theorem sN0_all : ((List.range 12).all fun κ => (List.range 13).all fun k => sN0 κ k) = true := by decide +kernel
theorem sF_0 {κ k : Nat} (h1 : κ < 12) (h2 : k < 13) (ht : sT κ k = 1 ∨ sT κ k = 2) : sF κ k ≠ 0 ∧ sF κ k ≠ 46 ∧ sF κ k ≠ 47 ∧ (sF κ k = 54 → κ = 9) := by
  have h3 := List.all_eq_true.mp (List.all_eq_true.mp sN0_all κ (List.mem_range.mpr h1)) k (List.mem_range.mpr h2)
  have h5 : (sT κ k == 1 || sT κ k == 2) = true := by
    rcases ht with e | e <;> simp [e]
  unfold sN0 at h3
  rw [h5] at h3
  simp only [Bool.not_true, Bool.false_or, Bool.and_eq_true, Bool.or_eq_true, bne_iff_ne, ne_eq, beq_iff_eq] at h3
  exact ⟨h3.1.1.1, h3.1.1.2, h3.1.2, fun e => h3.2.elim (fun z => absurd e z) id⟩
theorem CP.live {D : va_G} {cy : Nat → ClassId} {d0 : Nat} {A : Nat → Prop} {la : Nat → Int → Nat} {σ υ : MS} {H : Heap} (hC : CP D cy d0 A la σ H) (he : ∀ f, f ≠ 0 → f ≠ 46 → f ≠ 47 → f ≠ 54 → υ f = σ f) (h54 : ∀ c, 0 ≤ c → c < σ 27 0 → υ 54 c = σ 54 c) (hw : cW υ) : CP D cy d0 A la υ H := by
  have E : ∀ f, (f != 0 && f != 46 && f != 47 && f != 54) = true → υ f = σ f := fun f hf => by
    simp only [Bool.and_eq_true, bne_iff_ne, ne_eq] at hf
    exact he f hf.1.1.1 hf.1.1.2 hf.1.2 hf.2
  have hlive : ∀ κ i, cLive la υ κ i ↔ cLive la σ κ i := fun κ i => by
    unfold cLive
    rw [E 5 rfl, E 11 rfl, E 23 rfl, E 27 rfl, E 45 rfl, E 18 rfl, E 22 rfl]
  have hsz : ∀ L, cSz υ L = cSz σ L := fun L => by
    unfold cSz
    rw [E 5 rfl, E 11 rfl, E 23 rfl, E 27 rfl, E 45 rfl, E 18 rfl, E 22 rfl, E 58 rfl, E 59 rfl]
  obtain ⟨h1, h2, h3, h4, h5, h6, h7⟩ := hC
  refine ⟨fun κ i a b => (h1 κ i a ((hlive _ _).mp b)).to (fun k hk => ?_), fun κ i a b c => ?_, fun L hL => ?_, fun κ κ' i i' a b c d e => h4 κ κ' i i' a b ((hlive _ _).mp c) ((hlive _ _).mp d) e, fun κ i a b => h5 κ i a ((hlive _ _).mp b), hw, h7⟩
  · have hk13 := Nat.lt_of_lt_of_le hk (cN_13 κ a)
    have hf : (sT κ k = 1 ∨ sT κ k = 2) → υ (sF κ k) i = σ (sF κ k) i := fun ht => by
      have hn := sF_0 (by omega) hk13 ht
      by_cases h : sF κ k = 54
      · have h9 := hn.2.2.2 h
        subst h9
        have hl : 0 ≤ i ∧ i < σ 27 0 := (hlive _ _).mp b
        rw [h]
        exact h54 i hl.1 hl.2
      · rw [he _ hn.1 hn.2.1 hn.2.2.1 h]
    unfold cV
    rw [hsz]
    by_cases t1 : sT κ k = 1
    · rw [if_neg (by omega), if_pos t1, if_neg (by omega), if_pos t1, hf (Or.inl t1)]
    · by_cases t2 : sT κ k = 2
      · rw [if_neg (by omega), if_neg t1, if_pos t2, if_neg (by omega), if_neg t1, if_pos t2, hf (Or.inr t2)]
      · rw [if_neg t1, if_neg t2, if_neg t1, if_neg t2]
        have e : cR la υ κ i k = cR la σ κ i k := by
          unfold cR
          rw [E 6 rfl, E 16 rfl, E 19 rfl, E 33 rfl, E 36 rfl]
        rw [e]
  · rw [h2 κ i a b ((hlive _ _).mp c)]
    have e : ∀ j, aV υ κ i j = aV σ κ i j := fun j => by
      unfold aV
      rcases (show κ = 12 ∨ κ = 13 ∨ κ = 14 ∨ κ = 15 ∨ κ = 16 ∨ κ = 17 by omega) with rfl | rfl | rfl | rfl | rfl | rfl
      · rw [show aF 12 = 2 from rfl, E 2 rfl]
      · rw [show aF 13 = 28 from rfl, E 28 rfl]
      · rw [show aF 14 = 29 from rfl, E 29 rfl]
      · rw [show aF 15 = 56 from rfl, E 56 rfl]
      · rw [show aF 16 = 3 from rfl, E 3 rfl]
      · rw [show aF 17 = 4 from rfl, E 4 rfl]
    simp only [e]
  · have h := h3 L ((hlive 11 L).mp hL)
    unfold cBk at h ⊢
    simp only [hsz]
    exact h
theorem sCh_x {σ : MS} {t : Int} : (∀ j, sCh σ t 40 j = if j = t then 1 else σ 40 j) ∧ ((∀ j, 0 ≤ σ 7 j) → ∀ j, 0 ≤ sCh σ t 7 j ∧ sCh σ t 7 j ≤ σ 7 j) := by
  have e : ∀ f, f ≠ 15 → sW1 σ t f = σ f := fun f hf => by
    unfold sW1
    split
    · rw [up_f hf]
    · rfl
  have X := sChB_x (σ := sW1 σ t) (t := t) (th := if σ 41 t = 1 ∧ 2 < sW1 σ t 15 (σ 36 t) then 1 else 0)
  rw [e 40 (by decide), e 7 (by decide)] at X
  exact ⟨X.2.1, X.2.2.2⟩
theorem clA_39 {σ : MS} {F : Int → Int} {t : Int} : clA σ F t 39 t = clP σ F t ∧ clA σ F t 44 t = if 0 ≤ F (σ 33 t) then σ 26 (σ 33 t) else σ 44 t := by
  unfold clA
  split
  · exact ⟨up_s, by rw [up_f (by decide)]; exact up_s⟩
  · exact ⟨up_s, by rw [up_f (by decide)]⟩
/-- the loop of close, n tips behind -/
def clI (σ : MS) (n : Nat) (S : MS) (F : Int → Int) : Prop :=
  (∀ u, ¬ σ 32 u = σ 1 0 ∨ (n : Int) ≤ u ∨ u < 0 → ∀ f, okV f = true → S f u = σ f u) ∧
  (∀ u : Int, 0 ≤ u → u < n → σ 32 u = σ 1 0 → S 44 u = (if 0 ≤ clF0 σ (σ 33 u) then σ 26 (σ 33 u) else -1) ∧ (0 ≤ S 39 u ∧ S 39 u ≤ 3000000) ∧ (S 40 u = 1 → 0 ≤ σ 36 u)) ∧
  (∀ c, 0 ≤ clF0 σ c → 0 ≤ F c ∧ F c + sSum (fun u => if σ 32 u = σ 1 0 ∧ σ 33 u = c then S 39 u else 0) n = clF0 σ c) ∧
  (∀ c, clF0 σ c < 0 → F c = clF0 σ c) ∧
  (∀ u, (0 ≤ S 42 u ∧ S 42 u ≤ 100000) ∧ 0 ≤ S 43 u ∧ S 43 u ≤ 100000) ∧
  (∀ j, 0 ≤ S 7 j ∧ S 7 j ≤ σ 7 j) ∧ ∀ j, σ 23 0 ≤ j → S 15 j = 0
theorem cl_inv {m : Int} {σ : MS} (I : cInv m σ) : ∀ n : Nat, (n : Int) ≤ σ 45 0 → clI σ n (clLoop n (σ, clF0 σ, 0)).1 (clLoop n (σ, clF0 σ, 0)).2.1
  | 0, _ => ⟨fun _ _ _ _ => rfl, fun u a b => absurd (show u < 0 from b) (by omega), fun c h => ⟨h, by show clF0 σ c + 0 = _; omega⟩, fun _ _ => rfl, fun u => ⟨((I.g 42 u).2.2.2.2.2.2.2.2.2.2.2.2.2.2.2.2.2.2.2.2.2.2.2.2.2.2.2.2.2.2.2.2.2.1 rfl), ((I.g 43 u).2.2.2.2.2.2.2.2.2.2.2.2.2.2.2.2.2.2.2.2.2.2.2.2.2.2.2.2.2.2.2.2.2.2.1 rfl)⟩, fun j => ⟨(((I.g 7 j).2.2.2.2.2.2.2.2.2.2.2.1 rfl)).1, Int.le_refl _⟩, fun j hj => (I.z22 j hj).1⟩
  | n + 1, hn => by
    have ih := cl_inv I n (by omega)
    obtain ⟨S, hS⟩ : ∃ z, z = (clLoop n (σ, clF0 σ, 0)).1 := ⟨_, rfl⟩
    obtain ⟨F, hF⟩ : ∃ z, z = (clLoop n (σ, clF0 σ, 0)).2.1 := ⟨_, rfl⟩
    have hf : ∀ k, okc k = true → S k = σ k := fun k hk => by rw [hS]; exact clLoop_f hk n
    rw [clLoop]
    try dsimp only
    rw [← hS, ← hF] at ih ⊢
    rw [hf 32 rfl, hf 1 rfl]
    obtain ⟨P1, P2, P3, P4, P5, P6, P7⟩ := ih
    have hs : ∀ (T : MS) (c : Int), sSum (fun u => if σ 32 u = σ 1 0 ∧ σ 33 u = c then T 39 u else 0) (n + 1) = sSum (fun u => if σ 32 u = σ 1 0 ∧ σ 33 u = c then T 39 u else 0) n + (if σ 32 (n : Int) = σ 1 0 ∧ σ 33 (n : Int) = c then T 39 (n : Int) else 0) := fun T c => rfl
    by_cases hd : σ 32 (n : Int) = σ 1 0
    · rw [if_pos hd]
      show clI σ (n + 1) (clS S F n) (clF S F n)
      have ht := I.top n (by omega) (by omega) hd
      have h35 := ((I.g 35 (n : Int)).2.2.2.2.2.2.2.2.2.2.2.2.2.2.2.2.2.2.2.2.2.2.2.2.2.2.2.2.1 rfl)
      have hS44 := P1 n (Or.inr (Or.inl (Int.le_refl _))) 44 rfl
      have hS40 := P1 n (Or.inr (Or.inl (Int.le_refl _))) 40 rfl
      have hFc : 0 ≤ F (σ 33 n) ↔ 0 ≤ clF0 σ (σ 33 n) := by
        by_cases h : 0 ≤ clF0 σ (σ 33 n)
        · exact ⟨fun _ => h, fun _ => (P3 _ h).1⟩
        · rw [P4 _ (by omega)]
      have hP : clP S F n = (if 0 ≤ F (σ 33 n) then (if σ 35 n < F (σ 33 n) then σ 35 n else F (σ 33 n)) else σ 35 n) := by
        unfold clP
        rw [hf 33 rfl, hf 35 rfl]
      have hPr : 0 ≤ clP S F n ∧ clP S F n ≤ 3000000 := by
        rw [hP]
        split <;> (try split) <;> omega
      have e39 : clS S F n 39 n = clP S F n := by
        unfold clS
        split
        · exact clA_39.1
        · rw [sCh_f rfl]; exact clA_39.1
      have e44 : clS S F n 44 n = if 0 ≤ clF0 σ (σ 33 n) then σ 26 (σ 33 n) else -1 := by
        have h : clS S F n 44 n = clA S F n 44 n := by
          unfold clS
          split
          · rfl
          · rw [sCh_f rfl]
        rw [h, clA_39.2, hf 33 rfl, hf 26 rfl, hS44, ht.2]
        by_cases h0 : 0 ≤ clF0 σ (σ 33 n)
        · rw [if_pos h0, if_pos (hFc.mpr h0)]
        · rw [if_neg h0, if_neg (fun z => h0 (hFc.mp z))]
      have e40 : clS S F n 40 n = 1 → 0 ≤ σ 36 n := fun h => by
        unfold clS at h
        rw [hf 36 rfl] at h
        by_cases h36 : σ 36 n < 0
        · rw [if_pos h36, clA_f rfl, hS40, ht.1] at h
          omega
        · omega
      refine ⟨fun u hu f hfv => ?_, fun u a b c => ?_, fun c hc => ?_, fun c hc => ?_, fun u => ?_, fun j => ?_, fun j hj => ?_⟩
      · have hun : u ≠ n := fun z => by subst z; rcases hu with h | h | h <;> first | exact h hd | omega
        rw [clS_v hun hfv]
        exact P1 u (by rcases hu with h | h | h <;> omega) f hfv
      · by_cases hun : u = n
        · subst hun
          exact ⟨e44, by rw [e39]; exact hPr, e40⟩
        · rw [clS_v hun rfl, clS_v hun rfl, clS_v hun rfl]
          exact P2 u a (by omega) c
      · rw [hs, sSum_c (g := fun u => if σ 32 u = σ 1 0 ∧ σ 33 u = c then S 39 u else 0) n (fun u x1 x2 => by rw [clS_v (by omega) rfl])]
        have h3 := P3 c hc
        unfold clF
        rw [hf 33 rfl]
        by_cases hcc : c = σ 33 n
        · have h0 : 0 ≤ F (σ 33 n) := by rw [← hcc]; exact h3.1
          rw [if_pos ⟨h0, hcc⟩, if_pos ⟨hd, hcc.symm⟩, e39]
          have hle : clP S F n ≤ F c := by
            rw [hP, if_pos h0, hcc]
            split <;> omega
          omega
        · rw [if_neg (fun z => hcc z.2), if_neg (fun z => hcc z.2.symm)]
          omega
      · unfold clF
        rw [hf 33 rfl, if_neg (fun z => by have := P4 c hc; rw [z.2] at this hc; omega)]
        exact P4 c hc
      · by_cases hun : u = n
        · subst hun
          unfold clS
          split
          · rw [clA_f rfl, clA_f rfl]; exact P5 _
          · rw [hf 36 rfl] at *
            rename_i h36
            have h12 := ((I.g 12 (σ 36 (n : Int))).2.2.2.2.2.2.2.2.2.2.2.2.1 rfl)
            exact sCh_43 (σ := clA S F n) (t := n) (by rw [clA_f rfl, hf 28 rfl]; exact fun j => ((I.g 28 j).2.2.2.2.2.2.2.2.2.2.2.2.2.2.2.2.2.2.2.2.2.2.2.2.1 rfl)) (by rw [clA_f rfl, hf 29 rfl]; exact fun j => ((I.g 29 j).2.2.2.2.2.2.2.2.2.2.2.2.2.2.2.2.2.2.2.2.2.2.2.2.2.1 rfl)) (by rw [clA_f rfl]; exact fun j => (P6 j).1) (by rw [clA_f rfl, clA_f rfl, hf 36 rfl, hf 12 rfl]; exact h12) (by rw [clA_f rfl, clA_f rfl, clA_f rfl, hf 41 rfl, hf 36 rfl, hf 12 rfl]; exact fun z => (I.t41 _ z).2.2)
        · rw [clS_v hun rfl, clS_v hun rfl]; exact P5 u
      · unfold clS
        split
        · rw [clA_f rfl]; exact P6 j
        · have h := (sCh_x (σ := clA S F n) (t := n)).2 (by rw [clA_f rfl]; exact fun j => (P6 j).1) j
          rw [clA_f rfl] at h
          have h6 := P6 j
          omega
      · have h15 : ∀ T : MS, (T 15 j = 0) → (T 41 n = 1 → j ≠ T 36 n) → sCh T n 15 j = 0 := fun T h1 h2 => by
          unfold sCh
          rw [sChB_f rfl]
          unfold sW1
          split
          · rename_i h4
            rw [up_o (h2 h4)]; exact h1
          · exact h1
        unfold clS
        split
        · rw [clA_f rfl]; exact P7 j hj
        · refine h15 _ (by rw [clA_f rfl]; exact P7 j hj) ?_
          rw [clA_f rfl, clA_f rfl, hf 41 rfl, hf 36 rfl]
          intro z
          have := (I.t41 _ z).2.1
          omega
    · rw [if_neg hd, ← hS, ← hF]
      refine ⟨fun u hu f hfv => P1 u ?_ f hfv, fun u a b c => P2 u a ?_ c, fun c hc => ?_, P4, P5, P6, P7⟩
      · rcases hu with h | h | h
        · exact Or.inl h
        · exact Or.inr (Or.inl (by omega))
        · exact Or.inr (Or.inr h)
      · have : u ≠ n := fun z => hd (by rw [← z]; exact c)
        omega
      · rw [hs, if_neg (fun z => hd z.1), Int.add_zero]
        exact P3 c hc
theorem gOff_26r {τ : MS} (j : Int) : ∀ n : Nat, gOff τ n 26 j = -1 ∨ gOff τ n 26 j = τ 26 j
  | 0 => Or.inr rfl
  | n + 1 => by
    rw [gOff, up_rd]
    split
    · exact Or.inl rfl
    · exact gOff_26r j n
theorem st_close {n : Int} {σ τ : MS} (I : cInv n σ) (hn : n + 1 ≤ 600) (hC : closeC σ = 0) (hp : ∀ q, q < 50 ∨ 54 < q → τ q = closeS σ q) (h50 : ∀ h, 0 ≤ h → h < σ 11 0 → τ 50 h = sSum (fun u => sShr (closeS σ) u h) (σ 45 0).toNat) (h54 : ∀ c, ¬ (0 ≤ c ∧ c < σ 27 0) → τ 54 c = 0) : iStp n (closeS σ) τ := by
  have h45 := ((I.g 45 0).2.2.2.2.2.1 rfl)
  have h1 := ((I.g 1 0).1 rfl)
  have h9 : σ 1 0 + 1 ≤ 699 := by
    unfold closeC at hC
    split at hC <;> omega
  obtain ⟨E, hE⟩ : ∃ z, z = (clEnd σ).1 := ⟨_, rfl⟩
  obtain ⟨F, hF⟩ : ∃ z, z = (clEnd σ).2.1 := ⟨_, rfl⟩
  have CI := cl_inv I (σ 45 0).toNat (by omega)
  have hE2 : E = (clLoop (σ 45 0).toNat (σ, clF0 σ, 0)).1 := hE
  have hF2 : F = (clLoop (σ 45 0).toNat (σ, clF0 σ, 0)).2.1 := hF
  rw [← hE2, ← hF2] at CI
  obtain ⟨P1, P2, P3, P4, P5, P6, P7⟩ := CI
  have P8 := clLoop_15 (x := (σ, clF0 σ, 0)) (B := 600 * n) (fun j => ((I.g 15 j).2.2.2.2.2.2.2.2.2.2.2.2.2.1 rfl)) (σ 45 0).toNat
  rw [← hE2] at P8
  have eE : ∀ f, okc f = true → E f = σ f := fun f hf => by rw [hE2]; exact clLoop_f hf _
  have eC : ∀ f, f ≠ 1 → f ≠ 26 → closeS σ f = E f := fun f a c => by
    unfold closeS
    rw [up_f a, gOff_f c, hE]
  have eT : ∀ f, (f < 50 ∨ 54 < f) → f ≠ 1 → f ≠ 26 → τ f = E f := fun f a c d => by rw [hp f a, eC f c d]
  have he : ∀ f, (okc f && f != 1 && f != 26 && f != 50 && f != 51 && f != 52 && f != 53 && f != 54) = true → τ f = σ f := fun f hf => by
    simp only [Bool.and_eq_true, bne_iff_ne, ne_eq] at hf
    rw [eT f (by omega) (by omega) (by omega)]
    exact eE f (by simp only [okc, Bool.and_eq_true, bne_iff_ne, ne_eq]; exact hf.1.1.1.1.1.1.1)
  have e1 : ∀ j, τ 1 j = if j = 0 then σ 1 0 + 1 else σ 1 j := fun j => by
    rw [hp 1 (by decide)]
    unfold closeS
    rw [up_rd, gOff_f (by decide), ← hE, eE 1 rfl]
    simp
  have e26 : ∀ j, τ 26 j = -1 ∨ τ 26 j = σ 26 j := fun j => by
    rw [hp 26 (by decide)]
    unfold closeS
    rw [up_f (by decide), ← hE]
    rcases gOff_26r (τ := E) j (σ 27 0).toNat with h | h
    · exact Or.inl h
    · rw [eE 26 rfl] at h; exact Or.inr h
  have e39 : τ 39 = E 39 := eT 39 (by decide) (by decide) (by decide)
  have e40 : τ 40 = E 40 := eT 40 (by decide) (by decide) (by decide)
  have e42 : τ 42 = E 42 := eT 42 (by decide) (by decide) (by decide)
  have e43 : τ 43 = E 43 := eT 43 (by decide) (by decide) (by decide)
  have e44 : τ 44 = E 44 := eT 44 (by decide) (by decide) (by decide)
  have e7 : τ 7 = E 7 := eT 7 (by decide) (by decide) (by decide)
  have e15 : τ 15 = E 15 := eT 15 (by decide) (by decide) (by decide)
  have day : ∀ u, (¬ σ 32 u = σ 1 0 ∨ ((σ 45 0).toNat : Int) ≤ u ∨ u < 0) ∨ ((0 ≤ u ∧ u < (σ 45 0).toNat) ∧ σ 32 u = σ 1 0) := fun u => by omega
  have hg : ∀ k j, sRg (n + 1) k (τ k j) := fun k j => by
    have h0 := sRg_mono (I.g k j)
    by_cases k1 : k = 1
    · subst k1
      rw [e1]
      split
      · exact sRg_1 ⟨by omega, h9⟩
      · exact h0
    by_cases k26 : k = 26
    · subst k26
      rcases e26 j with h | h
      · rw [h]; exact sRg_26 ⟨by decide, by decide⟩
      · rw [h]; exact h0
    by_cases k39 : k = 39
    · subst k39
      rw [e39]
      rcases day j with h | h
      · rw [P1 j h 39 rfl]; exact h0
      · exact sRg_39 (P2 j h.1.1 h.1.2 h.2).2.1
    by_cases k44 : k = 44
    · subst k44
      rw [e44]
      rcases day j with h | h
      · rw [P1 j h 44 rfl]; exact h0
      · rw [(P2 j h.1.1 h.1.2 h.2).1]
        split
        · exact sRg_44 ((I.g 26 (σ 33 j)).2.2.2.2.2.2.2.2.2.2.2.2.2.2.2.2.2.2.2.2.2.2.2.1 rfl)
        · exact sRg_44 ⟨by decide, by decide⟩
    by_cases k42 : k = 42
    · subst k42; rw [e42]; exact sRg_42 (P5 j).1
    by_cases k43 : k = 43
    · subst k43; rw [e43]; exact sRg_43 (P5 j).2
    by_cases k7 : k = 7
    · subst k7
      rw [e7]
      have a1 := P6 j
      have a2 := ((I.g 7 j).2.2.2.2.2.2.2.2.2.2.2.1 rfl)
      exact sRg_7 ⟨a1.1, by omega⟩
    by_cases k15 : k = 15
    · subst k15
      rw [e15]
      have a1 := P8 j
      exact sRg_15 ⟨a1.1, by omega⟩
    by_cases k40 : k = 40
    · subst k40; exact sRg_f rfl
    by_cases ks : k = 50 ∨ k = 51 ∨ k = 52 ∨ k = 53 ∨ k = 54
    · refine sRg_f ?_
      simp only [Bool.and_eq_true, bne_iff_ne, ne_eq]
      omega
    rw [he k (by simp only [okc, Bool.and_eq_true, bne_iff_ne, ne_eq]; omega)]
    exact h0
  have h1z : τ 1 0 = σ 1 0 + 1 := by rw [e1, if_pos rfl]
  refine ⟨⟨⟨by have := I.n0; omega, hn⟩, hg, ?_, ?_, ?_, ?_, ?_, ?_, ?_, ?_, ?_, ?_, ?_, ?_, ?_, ?_, ?_, ?_, ?_, ?_, ?_, ?_, ?_⟩, fun k a b c d => hp k (by omega)⟩
  · exact cRefs_c (fun f hf => he f (by
      simp only [okCR, Bool.or_eq_true, beq_iff_eq] at hf
      simp only [okc, Bool.and_eq_true, bne_iff_ne, ne_eq]
      omega)) I.r
  · rw [he 58 rfl, he 59 rfl]; exact I.lg
  · intro L; rw [he 57 rfl]; have := I.mc L; omega
  · unfold sOrd
    rw [he 45 rfl, he 32 rfl, h1z]
    exact ⟨I.ord.1, fun i a c => by have := I.ord.2 i a c; omega⟩
  · rw [he 23 rfl, he 18 rfl, he 17 rfl, h1z]
    intro j a c
    have := I.bin j a c
    exact ⟨this.1, by omega⟩
  · rw [he 11 rfl, he 8 rfl, he 9 rfl, he 10 rfl, e7]
    intro j hj
    have a1 := I.z7 j hj
    have a2 := P6 j
    exact ⟨by omega, a1.2⟩
  · rw [he 27 rfl, he 25 rfl]; exact I.z25
  · rw [he 5 rfl, he 3 rfl, he 4 rfl]; exact I.z3
  · rw [he 23 rfl, he 22 rfl, e15]
    intro j hj
    exact ⟨P7 j hj, (I.z22 j hj).2⟩
  · rw [he 23 rfl, he 18 rfl]; exact I.z18
  · rw [he 45 rfl, he 41 rfl, e39, e40, e42, e43]
    intro j hj
    have hd : ¬ σ 32 j = σ 1 0 ∨ ((σ 45 0).toNat : Int) ≤ j ∨ j < 0 := Or.inr (Or.inl (by omega))
    rw [P1 j hd 39 rfl, P1 j hd 40 rfl, P1 j hd 42 rfl, P1 j hd 43 rfl]
    exact I.z39 j hj
  · rw [he 23 rfl, he 11 rfl]; exact I.h23
  · rw [he 11 rfl, he 19 rfl]; exact I.h19
  · rw [he 27 rfl]; exact h54
  · rw [e40, he 36 rfl]
    intro t ht
    rcases day t with h | h
    · rw [P1 t h 40 rfl] at ht; exact I.t40 t ht
    · exact (P2 t h.1.1 h.1.2 h.2).2.2 ht
  · rw [he 37 rfl, he 36 rfl]; exact I.t37
  · rw [he 41 rfl, he 36 rfl, he 23 rfl, he 12 rfl]; exact I.t41
  · rw [he 45 rfl, he 32 rfl, h1z]
    intro t a c d
    have := I.ord.2 t a c
    omega
  · rw [he 45 rfl, he 32 rfl, h1z, e44]
    intro t a c d f
    by_cases hd : σ 32 t = σ 1 0
    · have a2 := (P2 t a (by omega) hd).1
      rw [a2] at f ⊢
      by_cases h0 : 0 ≤ clF0 σ (σ 33 t)
      · rw [if_pos h0]
        have a3 := P3 _ h0
        have a4 := I.r.2.2.2.1 t a c
        have a5 : clF0 σ (σ 33 t) = σ 26 (σ 33 t) := by
          unfold clF0 at h0 ⊢
          rw [if_pos a4] at h0 ⊢
          split at h0
          · exact absurd h0 (by decide)
          · rename_i hag
            rw [if_neg hag]
        have a6 : sGs τ t = sSum (fun u => if σ 32 u = σ 1 0 ∧ σ 33 u = σ 33 t then E 39 u else 0) (σ 45 0).toNat := by
          unfold sGs
          rw [he 45 rfl, he 32 rfl, he 33 rfl, e39, hd]
        rw [a6]
        omega
      · rw [if_neg h0] at f; exact absurd f (by decide)
    · have hd2 : ¬ σ 32 t = σ 1 0 ∨ ((σ 45 0).toNat : Int) ≤ t ∨ t < 0 := Or.inl hd
      rw [P1 t hd2 44 rfl] at f ⊢
      have a2 : sGs τ t = sGs σ t := by
        unfold sGs
        rw [he 45 rfl, he 32 rfl, he 33 rfl, e39]
        refine sSum_c _ (fun u x1 x2 => ?_)
        by_cases hu : σ 32 u = σ 32 t ∧ σ 33 u = σ 33 t
        · rw [if_pos hu, if_pos hu, P1 u (Or.inl (by rw [hu.1]; exact hd)) 39 rfl]
        · rw [if_neg hu, if_neg hu]
      rw [a2]
      exact I.gt t a c (by have := I.ord.2 t a c; omega) f
  · rw [he 45 rfl, he 32 rfl, he 33 rfl, e44]
    intro t u a c d f k1 k2
    by_cases hd : σ 32 t = σ 1 0
    · rw [(P2 t a (by omega) hd).1, (P2 u d (by omega) (by omega)).1, k2]
    · rw [P1 t (Or.inl hd) 44 rfl, P1 u (Or.inl (by omega)) 44 rfl]
      exact I.ge t u a c d f k1 k2
  · rw [he 11 rfl, he 45 rfl]
    intro h a c
    rw [h50 h a c]
    refine sSum_c _ (fun u x1 x2 => ?_)
    exact (sShr_u (fun f hf => hp f (by
      simp only [okG, Bool.or_eq_true, beq_iff_eq] at hf; omega)) (fun f hf => congrFun (hp f (by
      simp only [okU, Bool.or_eq_true, beq_iff_eq] at hf; omega)) u) h).symm
theorem sLf_q {σ : MS} {t c W : Int} : ∀ n : Nat, sLf σ t c W n = c - sSum (fun h => c * sWeight σ (σ 36 t) h (σ 32 t) / W) n
  | 0 => by rw [sLf]; show c = c - 0; omega
  | n + 1 => by rw [sLf, sSum, sLf_q n]; omega
theorem sAh_ge {σ : MS} {t : Int} : ∀ n : Nat, 0 ≤ sAh σ t n
  | 0 => Int.le_refl 0
  | n + 1 => by
    have := sAh_ge (σ := σ) (t := t) n
    rw [sAh]
    split <;> omega
theorem sRk {σ : MS} {t L : Int} (hL : 0 ≤ L) : ∀ n : Nat, sSum (fun h => if 0 < sWeight σ (σ 36 t) h (σ 32 t) ∧ sAh σ t h.toNat < L then 1 else 0) n = if sAh σ t n < L then sAh σ t n else L
  | 0 => by
    show (0 : Int) = if (0 : Int) < L then 0 else L
    split <;> omega
  | n + 1 => by
    have h0 := sAh_ge (σ := σ) (t := t) n
    rw [sSum, sRk hL n, sAh, show ((n : Int)).toNat = n by omega]
    by_cases hw : 0 < sWeight σ (σ 36 t) (n : Int) (σ 32 t)
    · rw [if_pos hw]
      by_cases h1 : sAh σ t n < L
      · rw [if_pos h1, if_pos ⟨hw, h1⟩]
        split <;> omega
      · rw [if_neg h1, if_neg (fun z => h1 z.2), if_neg (by omega)]
        omega
    · rw [if_neg hw, if_neg (show ¬ (0 < sWeight σ (σ 36 t) (n : Int) (σ 32 t) ∧ sAh σ t n < L) from fun z => hw z.1), Int.add_zero, Int.add_zero]
theorem sQb {σ : MS} {t c W : Int} (hc : 0 ≤ c) (hW : 0 < W) (hw : ∀ h, 0 ≤ sWeight σ (σ 36 t) h (σ 32 t)) : ∀ n : Nat, W * sSum (fun h => c * sWeight σ (σ 36 t) h (σ 32 t) / W) n ≤ c * sAw σ t n ∧ c * sAw σ t n ≤ W * sSum (fun h => c * sWeight σ (σ 36 t) h (σ 32 t) / W) n + (W - 1) * sAh σ t n
  | 0 => by
    show W * 0 ≤ c * 0 ∧ c * 0 ≤ W * 0 + (W - 1) * 0
    simp
  | n + 1 => by
    have ih := sQb hc hW hw n
    obtain ⟨q, hq⟩ : ∃ z, z = sSum (fun h => c * sWeight σ (σ 36 t) h (σ 32 t) / W) n := ⟨_, rfl⟩
    obtain ⟨x, hx⟩ : ∃ z, z = c * sWeight σ (σ 36 t) (n : Int) (σ 32 t) := ⟨_, rfl⟩
    rw [sSum, sAw, sAh, ← hq, ← hx, Int.mul_add, Int.mul_add, Int.mul_add, ← hx]
    rw [← hq] at ih
    have e1 := Int.mul_ediv_add_emod x W
    have e2 := Int.emod_nonneg x (show W ≠ 0 by omega)
    have e3 := Int.emod_lt_of_pos x hW
    by_cases h0 : 0 < sWeight σ (σ 36 t) (n : Int) (σ 32 t)
    · rw [if_pos h0, Int.mul_one]
      omega
    · have hz : x = 0 := by rw [hx, show sWeight σ (σ 36 t) (n : Int) (σ 32 t) = 0 by have := hw n; omega, Int.mul_zero]
      rw [if_neg h0, Int.mul_zero]
      rw [hz] at e1 ⊢
      simp at *
      omega
theorem sWt_ge {σ : MS} {b h d : Int} (hp : ∀ j, 0 ≤ σ 20 j) : ∀ n : Nat, 0 ≤ sWt σ b h d n
  | 0 => Int.le_refl 0
  | n + 1 => by
    rw [sWt]
    split
    · exact hp _
    · exact sWt_ge hp n
theorem cInv.ssum {n : Int} {σ : MS} (I : cInv n σ) (hb : ∀ t, σ 40 t = 0 ∨ σ 40 t = 1) {t : Int} (ht : 0 ≤ t ∧ t < σ 45 0) : sSum (fun h => sShr σ t h) (σ 11 0).toNat = sChg σ t := by
  have h11 := ((I.g 11 0).2.2.1 rfl)
  rcases hb t with h40 | h40
  · rw [sChg_0 h40]
    exact sSum_z (fun h => by unfold sShr; rw [if_pos h40]) _
  have h36 := I.b36 ht h40
  have hne : ¬ σ 40 t = 0 := by omega
  by_cases hk : σ 12 (σ 36 t) = 3
  · have hw : ∀ h, 0 ≤ sWeight σ (σ 36 t) h (σ 32 t) := fun h => sWt_ge (fun j => (((I.g 20 j).2.2.2.2.2.2.2.2.2.2.2.2.2.2.2.2.2.2.1 rfl)).1) _
    by_cases hA : sAll σ t = 0
    · rw [sChg_n (show sNob σ t by unfold sNob; rw [if_pos hk]; exact hA)]
      exact sSum_z (fun h => by unfold sShr; rw [if_neg hne, if_neg (fun z => z hk), if_pos hA]) _
    · have hAg : 0 < sAll σ t := by
        have : ∀ n : Nat, 0 ≤ sAw σ t n := fun n => by
          induction n with
          | zero => exact Int.le_refl 0
          | succ n ih => rw [sAw]; have := hw n; omega
        have h := this (σ 11 0).toNat
        unfold sAll at hA ⊢
        omega
      have hc : 0 ≤ sChg σ t := by
        unfold sChg
        by_cases hh : ¬ σ 40 t = 1 ∨ sNob σ t
        · rw [if_pos hh]; exact Int.le_refl 0
        · rw [if_neg hh]
          have a1 := (((I.g 42 t).2.2.2.2.2.2.2.2.2.2.2.2.2.2.2.2.2.2.2.2.2.2.2.2.2.2.2.2.2.2.2.2.2.1 rfl)).1
          have a2 := Int.mul_nonneg (((I.g 43 t).2.2.2.2.2.2.2.2.2.2.2.2.2.2.2.2.2.2.2.2.2.2.2.2.2.2.2.2.2.2.2.2.2.2.1 rfl)).1 (((I.g 39 t).2.2.2.2.2.2.2.2.2.2.2.2.2.2.2.2.2.2.2.2.2.2.2.2.2.2.2.2.2.2.2.2.1 rfl)).1
          omega
      obtain ⟨c, ec⟩ : ∃ z, z = sChg σ t := ⟨_, rfl⟩
      obtain ⟨W, eW⟩ : ∃ z, z = sAll σ t := ⟨_, rfl⟩
      have Q := sQb (σ := σ) (t := t) hc hAg hw (σ 11 0).toNat
      have eA : sAw σ t (σ 11 0).toNat = W := eW.symm
      have eL := sLf_q (σ := σ) (t := t) (c := sChg σ t) (W := sAll σ t) (σ 11 0).toNat
      have hK := sAh_ge (σ := σ) (t := t) (σ 11 0).toNat
      obtain ⟨L, hL⟩ : ∃ z, z = sLf σ t (sChg σ t) (sAll σ t) (σ 11 0).toNat := ⟨_, rfl⟩
      obtain ⟨K, hKe⟩ : ∃ z, z = sAh σ t (σ 11 0).toNat := ⟨_, rfl⟩
      obtain ⟨q, hq⟩ : ∃ z, z = sSum (fun h => sChg σ t * sWeight σ (σ 36 t) h (σ 32 t) / sAll σ t) (σ 11 0).toNat := ⟨_, rfl⟩
      have ef : (fun h => sShr σ t h) = fun h => sChg σ t * sWeight σ (σ 36 t) h (σ 32 t) / sAll σ t + (if 0 < sWeight σ (σ 36 t) h (σ 32 t) ∧ sAh σ t h.toNat < L then 1 else 0) := by
        funext h
        unfold sShr
        rw [if_neg hne, if_neg (fun z => z hk), if_neg hA, ← hL]
      have hadd : ∀ (f g : Int → Int) (m : Nat), sSum (fun h => f h + g h) m = sSum f m + sSum g m := fun f g m => by
        induction m with
        | zero => rfl
        | succ m ih => rw [sSum, sSum, sSum, ih]; omega
      rw [eA, ← hq, ← ec, ← eW, ← hKe] at Q
      rw [← hq, ← hL, ← ec] at eL
      rw [← hKe] at hK
      rw [← ec] at hc
      rw [← eW] at hAg
      have hL0 : 0 ≤ L := by
        have h1 : q ≤ c := by
          by_cases h : q ≤ c
          · exact h
          · have h2 := Int.mul_le_mul_of_nonneg_left (show c + 1 ≤ q by omega) (Int.le_of_lt hAg)
            rw [Int.mul_add, Int.mul_one, Int.mul_comm W c] at h2
            omega
        omega
      have hLK : L ≤ K := by
        by_cases h : L ≤ K
        · exact h
        · have h2 := Int.mul_le_mul_of_nonneg_left (show K + 1 ≤ L by omega) (Int.le_of_lt hAg)
          have h3 : W * L = W * c - W * q := by rw [eL, Int.mul_sub]
          rw [Int.mul_add, Int.mul_one] at h2
          have h4 : (W - 1) * K = W * K - K := by rw [Int.sub_mul, Int.one_mul]
          have h5 := Int.mul_comm c W
          omega
      rw [ef, hadd, sRk hL0, ← hq, ← hKe, ← ec]
      split <;> omega
  · obtain ⟨x, hx⟩ : ∃ z, z = sHouse σ (σ 36 t) (σ 32 t) := ⟨_, rfl⟩
    have ef : (fun h => sShr σ t h) = fun h => if x = h then sChg σ t else 0 := by
      funext h
      unfold sShr
      rw [if_neg hne, if_pos hk, hx]
    have h18 := ((I.g 18 (σ 36 t)).2.2.2.2.2.2.2.2.2.2.2.2.2.2.2.2.1 rfl)
    rw [ef, sSum_one (g := fun _ => 0) (t := x) _ (fun u _ _ hu => if_neg (Ne.symm hu)), sSum_z (fun _ => rfl)]
    by_cases h0 : x < 0
    · rw [if_neg (by omega), sChg_n (show sNob σ t by unfold sNob; rw [if_neg hk, ← hx]; exact h0)]
      rfl
    · have hr := sHouse_in (d := σ 32 t) I.r h18 h36 (by rw [← hx]; exact h0)
      rw [← hx] at hr
      rw [if_pos (by omega), if_pos rfl]
      omega
theorem sSum_add (f g : Int → Int) : ∀ m : Nat, sSum (fun h => f h + g h) m = sSum f m + sSum g m
  | 0 => rfl
  | m + 1 => by rw [sSum, sSum, sSum, sSum_add f g m]; omega
theorem sSum_swap (f : Int → Int → Int) (n : Nat) : ∀ m : Nat, sSum (fun h => sSum (fun t => f t h) n) m = sSum (fun t => sSum (fun h => f t h) m) n
  | 0 => (sSum_z (fun _ => rfl) n).symm
  | m + 1 => by
    rw [sSum, sSum_swap f n m, ← sSum_add]
    rfl
theorem cInv.cnt {n : Int} {σ : MS} (I : cInv n σ) (hb : ∀ t, σ 40 t = 0 ∨ σ 40 t = 1) (w : Int) : cntR σ w = countR σ w := by
  have h11 := ((I.g 11 0).2.2.1 rfl)
  have h45 := ((I.g 45 0).2.2.2.2.2.1 rfl)
  have e50 : sSum (σ 50) (σ 11 0).toNat = sSum (fun h => sSum (fun u => sShr σ u h) (σ 45 0).toNat) (σ 11 0).toNat := sSum_c _ (fun h a c => I.fr h a (by omega))
  have e6 : sSum (σ 50) (σ 11 0).toNat = sSum (sChg σ) (σ 45 0).toNat := by
    rw [e50, sSum_swap (fun u h => sShr σ u h)]
    exact sSum_c _ (fun u a c => I.ssum hb ⟨a, by omega⟩)
  have e8 : sSum (σ 50) (σ 11 0).toNat + sSum (σ 8) (σ 11 0).toNat = sSum (sChd σ) (σ 11 0).toNat := by
    rw [← sSum_add]
    exact sSum_c _ (fun h a c => (I.chd ⟨a, by omega⟩).symm)
  unfold cntR countR
  rw [e8, e6]
