/-- the numbers with nought for what is left of carts that are not there -/
def nz (τ : MS) : MS := fun k j => if k = 54 ∧ ¬ (0 ≤ j ∧ j < τ 27 0) then 0 else τ k j
theorem nz_f {τ : MS} {k : Nat} (h : k ≠ 54) : nz τ k = τ k := by
  funext j
  unfold nz
  rw [if_neg (fun z => h z.1)]
theorem nz_54 {τ : MS} {c : Int} (h : 0 ≤ c ∧ c < τ 27 0) : nz τ 54 c = τ 54 c := by
  unfold nz
  rw [if_neg (fun z => z.2 h)]
theorem nz_54z {τ : MS} {c : Int} (h : ¬ (0 ≤ c ∧ c < τ 27 0)) : nz τ 54 c = 0 := by
  unfold nz
  rw [if_pos ⟨rfl, h⟩]
theorem cInv.nzE {n : Int} {τ : MS} (I : cInv n τ) : nz τ = τ := by
  funext k j
  unfold nz
  split
  · rename_i h
    rw [h.1, I.h54 j h.2]
  · rfl
theorem iStp.nzE {n : Int} {S τ : MS} (h : iStp n S τ) : iStp n S (nz τ) := by
  rw [h.1.nzE]
  exact h
