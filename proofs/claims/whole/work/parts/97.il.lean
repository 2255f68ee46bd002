theorem sBr_13 {σ τ : MS} (h13 : τ 13 = σ 13) (h14 : τ 14 = σ 14) (mk : Int) : ∀ n : Nat, sBr τ mk n = sBr σ mk n
  | 0 => rfl
  | n + 1 => by rw [sBr, sBr, sBr_13 h13 h14 mk n, h13, h14]
theorem sFb_13 {σ τ : MS} (h13 : τ 13 = σ 13) (h14 : τ 14 = σ 14) (mk : Int) : ∀ n : Nat, sFb τ mk n = sFb σ mk n
  | 0 => rfl
  | n + 1 => by rw [sFb, sFb, sFb_13 h13 h14 mk n, h13, h14]
theorem tipB_c {σ τ : MS} (h13 : τ 13 = σ 13) (h14 : τ 14 = σ 14) (h23 : τ 23 = σ 23) (mk : Int) : tipB τ mk = tipB σ mk ∧ tipO τ mk = tipO σ mk := by
  unfold tipB tipO sBear
  rw [sBr_13 h13 h14, sFb_13 h13 h14, h23]
  exact ⟨rfl, rfl⟩
theorem tipT_x {σ : MS} {q mk g : Int} (h58 : σ 58 0 = 0) (hg : -1 ≤ g) : tipT σ q mk g = up (up (tipS σ q mk g) 58 0 0) 57 4 (σ 57 4 + 1) := by
  obtain ⟨B, hB⟩ : ∃ z, z = tipI (tipA9 σ q mk) (σ 45 0) := ⟨_, rfl⟩
  have e9 : ∀ f, (f != 32 && f != 33 && f != 34 && f != 35 && f != 36 && f != 37 && f != 38 && f != 44 && f != 58 && f != 45) = true → tipA9 σ q mk f = σ f := fun f hf => by
    simp only [Bool.and_eq_true, bne_iff_ne, ne_eq] at hf
    unfold tipA9
    rw [up_f (by omega), up_f (by omega), up_f (by omega), up_f (by omega), up_f (by omega), up_f (by omega), up_f (by omega), up_f (by omega), up_f (by omega), up_f (by omega)]
  have e34 : tipA9 σ q mk 34 (σ 45 0) = mk := by unfold tipA9; simp [up_rd]
  have eB : B = up (up (tipA9 σ q mk) 36 (σ 45 0) (tipB σ mk)) 37 (σ 45 0) (tipO σ mk) := by
    have h := tipB_c (σ := σ) (τ := tipA9 σ q mk) (e9 13 rfl) (e9 14 rfl) (e9 23 rfl) mk
    rw [hB]
    unfold tipI
    rw [e34, h.1, h.2]
  have b25 : B 25 q = σ 25 q := by rw [eB, up_f (by decide), up_f (by decide), e9 25 rfl]
  have b36 : B 36 (σ 45 0) = tipB σ mk := by rw [eB, up_f (by decide)]; exact up_s
  have b57 : B 57 4 = σ 57 4 := by rw [eB, up_f (by decide), up_f (by decide), e9 57 rfl]
  have bm : ∀ x, sMid B x (σ 45 0).toNat 0 (fun _ => 0) = sMiddle σ x := fun x => by
    unfold sMiddle
    refine sMid_a _ _ _ (fun j a c => ?_)
    have hj : j ≠ σ 45 0 := by omega
    rw [eB]
    unfold tipA9
    simp [up_rd, hj]
  unfold tipT
  rw [← hB]
  unfold tipL tipG tipS
  by_cases h1 : g = -1
  · rw [if_pos h1, if_pos (show g < 0 by omega), b36, bm]
    obtain ⟨M, hM⟩ : ∃ z, z = (if tipB σ mk < 0 then 0 else sMiddle σ (tipB σ mk)) := ⟨_, rfl⟩
    rw [← hM, up_f (by decide), up_f (by decide), b57, eB]
    unfold tipA tipA9
    funext k j
    by_cases h57 : k = 57
    · subst h57
      simp [up_rd]
      try ((repeat' split) <;> first | rfl | omega)
    by_cases h58 : k = 58
    · subst h58
      simp [up_rd]
      try ((repeat' split) <;> first | rfl | omega)
    by_cases h45 : k = 45
    · subst h45
      simp [up_rd]
      try ((repeat' split) <;> first | rfl | omega)
    by_cases h44 : k = 44
    · subst h44
      simp [up_rd]
      try ((repeat' split) <;> first | rfl | omega)
    by_cases h38 : k = 38
    · subst h38
      simp [up_rd]
      try ((repeat' split) <;> first | rfl | omega)
    by_cases h37 : k = 37
    · subst h37
      simp [up_rd]
      try ((repeat' split) <;> first | rfl | omega)
    by_cases h36 : k = 36
    · subst h36
      simp [up_rd]
      try ((repeat' split) <;> first | rfl | omega)
    by_cases h35 : k = 35
    · subst h35
      simp [up_rd]
      try ((repeat' split) <;> first | rfl | omega)
    by_cases h34 : k = 34
    · subst h34
      simp [up_rd]
      try ((repeat' split) <;> first | rfl | omega)
    by_cases h33 : k = 33
    · subst h33
      simp [up_rd]
      try ((repeat' split) <;> first | rfl | omega)
    by_cases h32 : k = 32
    · subst h32
      simp [up_rd]
      try ((repeat' split) <;> first | rfl | omega)
    by_cases h25 : k = 25
    · subst h25
      simp [up_rd]
      try ((repeat' split) <;> first | rfl | omega)
    simp only [up_rd, h57, h58, h45, h44, h38, h37, h36, h35, h34, h33, h32, h25, false_and, if_false]
  · rw [if_neg h1, if_neg (show ¬ g < 0 by omega), b25, up_f (by decide), up_f (by decide), b57, eB, Int.add_comm (σ 25 q) g]
    unfold tipA tipA9
    funext k j
    by_cases h57 : k = 57
    · subst h57
      simp [up_rd]
      try ((repeat' split) <;> first | rfl | omega)
    by_cases h58 : k = 58
    · subst h58
      simp [up_rd]
      try ((repeat' split) <;> first | rfl | omega)
    by_cases h45 : k = 45
    · subst h45
      simp [up_rd]
      try ((repeat' split) <;> first | rfl | omega)
    by_cases h44 : k = 44
    · subst h44
      simp [up_rd]
      try ((repeat' split) <;> first | rfl | omega)
    by_cases h38 : k = 38
    · subst h38
      simp [up_rd]
      try ((repeat' split) <;> first | rfl | omega)
    by_cases h37 : k = 37
    · subst h37
      simp [up_rd]
      try ((repeat' split) <;> first | rfl | omega)
    by_cases h36 : k = 36
    · subst h36
      simp [up_rd]
      try ((repeat' split) <;> first | rfl | omega)
    by_cases h35 : k = 35
    · subst h35
      simp [up_rd]
      try ((repeat' split) <;> first | rfl | omega)
    by_cases h34 : k = 34
    · subst h34
      simp [up_rd]
      try ((repeat' split) <;> first | rfl | omega)
    by_cases h33 : k = 33
    · subst h33
      simp [up_rd]
      try ((repeat' split) <;> first | rfl | omega)
    by_cases h32 : k = 32
    · subst h32
      simp [up_rd]
      try ((repeat' split) <;> first | rfl | omega)
    by_cases h25 : k = 25
    · subst h25
      simp [up_rd]
      try ((repeat' split) <;> first | rfl | omega)
    simp only [up_rd, h57, h58, h45, h44, h38, h37, h36, h35, h34, h33, h32, h25, false_and, if_false]
