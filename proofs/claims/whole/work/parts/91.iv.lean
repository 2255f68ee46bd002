theorem sHo_or {σ : MS} {b d : Int} : ∀ n : Nat, sHo σ b d n = -1 ∨ ∃ k : Nat, k < n ∧ sHo σ b d n = σ 16 (8 * b + k)
  | 0 => Or.inl rfl
  | n + 1 => by
    rw [sHo]
    split
    · exact Or.inr ⟨n, by omega, rfl⟩
    · rcases sHo_or (σ := σ) (b := b) (d := d) n with h | ⟨k, h1, h2⟩
      · exact Or.inl h
      · exact Or.inr ⟨k, by omega, h2⟩
theorem sHouse_in {σ : MS} {b d : Int} (hR : cRefs σ) (h18 : 0 ≤ σ 18 b ∧ σ 18 b ≤ 8) (hb : 0 ≤ b ∧ b < σ 23 0) (hn : ¬ sHouse σ b d < 0) : 0 ≤ sHouse σ b d ∧ sHouse σ b d < σ 11 0 := by
  rcases sHo_or (σ := σ) (b := b) (d := d) (σ 18 b).toNat with h | ⟨k, h1, h2⟩
  · exact absurd (show sHouse σ b d < 0 by unfold sHouse; rw [h]; decide) hn
  · have h3 := hR.2.1 (8 * b + k) (by omega) (by rw [show (8 * b + (k : Int)) / 8 = b by omega]; exact hb.2) (by rw [show (8 * b + (k : Int)) / 8 = b by omega]; omega)
    unfold sHouse
    rw [h2]
    exact h3
theorem sHouse_z {σ : MS} {b d : Int} (h18 : σ 18 b ≤ 0) : sHouse σ b d = -1 := by
  unfold sHouse
  rw [show (σ 18 b).toNat = 0 by omega]
  rfl
theorem sHo_ge {σ : MS} {b d : Int} (h16 : ∀ j, 0 ≤ σ 16 j) : ∀ n : Nat, -1 ≤ sHo σ b d n
  | 0 => by rw [sHo]; decide
  | n + 1 => by
    rw [sHo]
    split
    · have := h16 (8 * b + n); omega
    · exact sHo_ge h16 n
theorem sHouse_ge {σ : MS} (h16 : ∀ j, 0 ≤ σ 16 j) (b d : Int) : -1 ≤ sHouse σ b d := sHo_ge h16 _
theorem sHo_now {σ : MS} {b d : Int} (h16 : ∀ j, 0 ≤ σ 16 j) (h17 : σ 17 (8 * b) ≤ d) : ∀ n : Nat, 0 < n → 0 ≤ sHo σ b d n
  | 0, h => absurd h (Nat.lt_irrefl 0)
  | 1, _ => by
    rw [sHo, if_pos (by rw [show (8 * b + ((0 : Nat) : Int)) = 8 * b by omega]; exact h17)]
    exact h16 _
  | n + 2, _ => by
    rw [sHo]
    split
    · exact h16 _
    · exact sHo_now h16 h17 (n + 1) (by omega)
theorem sHouse_now {σ : MS} {b d : Int} (h16 : ∀ j, 0 ≤ σ 16 j) (h17 : σ 17 (8 * b) ≤ d) (h18 : 1 ≤ σ 18 b) : 0 ≤ sHouse σ b d := sHo_now h16 h17 _ (by omega)
/-- what each field's numbers are, n calls behind -/
def sRg (n : Int) (k : Nat) (v : Int) : Prop := (k = 1 → 0 ≤ v ∧ v ≤ 699) ∧ (k = 5 → 0 ≤ v ∧ v ≤ 10) ∧ (k = 11 → 0 ≤ v ∧ v ≤ 60) ∧ (k = 23 → 0 ≤ v ∧ v ≤ 120) ∧ (k = 27 → 0 ≤ v ∧ v ≤ 5) ∧ (k = 45 → 0 ≤ v ∧ v ≤ 600) ∧ (k = 30 → 0 ≤ v ∧ v ≤ 100000) ∧ (k = 31 → 0 ≤ v ∧ v ≤ 1000) ∧ (k = 3 → 0 ≤ v ∧ v ≤ 4) ∧ (k = 4 → 0 ≤ v ∧ v ≤ 3) ∧ (k = 6 → 0 ≤ v ∧ v < 10) ∧ (k = 7 → 0 ≤ v ∧ v ≤ 1000 * n) ∧ (k = 12 → 0 ≤ v ∧ v ≤ 4) ∧ (k = 15 → 0 ≤ v ∧ v ≤ 600 * n) ∧ (k = 16 → 0 ≤ v ∧ v < 60) ∧ (k = 17 → 0 ≤ v ∧ v ≤ 699) ∧ (k = 18 → 0 ≤ v ∧ v ≤ 8) ∧ (k = 19 → 0 ≤ v ∧ v < 60) ∧ (k = 20 → 0 ≤ v ∧ v ≤ 1000) ∧ (k = 21 → 0 ≤ v ∧ v ≤ 699) ∧ (k = 22 → 0 ≤ v ∧ v ≤ 20) ∧ (k = 24 → 0 ≤ v ∧ v ≤ 100000) ∧ (k = 25 → 0 ≤ v ∧ v ≤ 500 * n + 500) ∧ (k = 26 → -1 ≤ v ∧ v ≤ 1000000) ∧ (k = 28 → 0 ≤ v ∧ v ≤ 100000) ∧ (k = 29 → 0 ≤ v ∧ v ≤ 100000) ∧ (k = 32 → 0 ≤ v ∧ v ≤ 699) ∧ (k = 33 → 0 ≤ v ∧ v ≤ 4) ∧ (k = 35 → 0 ≤ v ∧ v ≤ 3000000) ∧ (k = 36 → -1 ≤ v ∧ v < 120) ∧ (k = 37 → 0 ≤ v ∧ v ≤ 3) ∧ (k = 38 → 0 ≤ v ∧ v ≤ 2) ∧ (k = 39 → 0 ≤ v ∧ v ≤ 3000000) ∧ (k = 42 → 0 ≤ v ∧ v ≤ 100000) ∧ (k = 43 → 0 ≤ v ∧ v ≤ 100000) ∧ (k = 44 → -1 ≤ v ∧ v ≤ 1000000)
theorem sRg_mono {n : Int} {k : Nat} {v : Int} (h : sRg n k v) : sRg (n + 1) k v := by
  obtain ⟨a1, a5, a11, a23, a27, a45, a30, a31, a3, a4, a6, a7, a12, a15, a16, a17, a18, a19, a20, a21, a22, a24, a25, a26, a28, a29, a32, a33, a35, a36, a37, a38, a39, a42, a43, a44⟩ := h
  exact ⟨a1, a5, a11, a23, a27, a45, a30, a31, a3, a4, a6, (fun e => by have h := a7 e; omega), a12, (fun e => by have h := a15 e; omega), a16, a17, a18, a19, a20, a21, a22, a24, (fun e => by have h := a25 e; omega), a26, a28, a29, a32, a33, a35, a36, a37, a38, a39, a42, a43, a44⟩
theorem sRg_up {n : Int} {σ : MS} {k : Nat} {j v : Int} (h : ∀ k j, sRg n k (σ k j)) (hv : sRg n k v) : ∀ k' j', sRg n k' (up σ k j v k' j') := fun k' j' => by
  rw [up_rd]
  split
  · rename_i e; rw [e.1]; exact hv
  · exact h k' j'
/-- sums of a cart's day -/
def sGs (σ : MS) (t : Int) : Int := sSum (fun u => if σ 32 u = σ 32 t ∧ σ 33 u = σ 33 t then σ 39 u else 0) (σ 45 0).toNat
/-- what holds between two calls -/
def cInv (n : Int) (σ : MS) : Prop := (0 ≤ n ∧ n ≤ 600) ∧ (∀ k j, sRg n k (σ k j)) ∧ (cRefs σ) ∧ (σ 58 0 = 0 ∧ σ 59 0 = 0) ∧ (∀ L, 0 ≤ σ 57 L ∧ σ 57 L ≤ n) ∧ (sOrd σ) ∧ (∀ j, 0 ≤ j → j < σ 23 0 → 1 ≤ σ 18 j ∧ σ 17 (8 * j) ≤ σ 1 0) ∧ (∀ j, σ 11 0 ≤ j → σ 7 j = 0 ∧ σ 8 j = 0 ∧ σ 9 j = 0 ∧ σ 10 j = 0) ∧ (∀ j, σ 27 0 ≤ j → σ 25 j = 0) ∧ (∀ j, 3 * σ 5 0 ≤ j → σ 3 j = 0 ∧ σ 4 j = 0) ∧ (∀ j, σ 23 0 ≤ j → σ 15 j = 0 ∧ σ 22 j = 0) ∧ (∀ j, j < 0 ∨ σ 23 0 ≤ j → σ 18 j = 0) ∧ (∀ j, σ 45 0 ≤ j → σ 39 j = 0 ∧ σ 40 j = 0 ∧ σ 41 j = 0 ∧ σ 42 j = 0 ∧ σ 43 j = 0) ∧ (0 < σ 23 0 → 0 < σ 11 0) ∧ (∀ j, σ 19 j < σ 11 0 ∨ σ 19 j = 0) ∧ (∀ c, ¬ (0 ≤ c ∧ c < σ 27 0) → σ 54 c = 0) ∧ (∀ t, σ 40 t = 1 → 0 ≤ σ 36 t) ∧ (∀ t, σ 37 t = 2 → σ 36 t < 0) ∧ (∀ t, σ 41 t = 1 → 0 ≤ σ 36 t ∧ σ 36 t < σ 23 0 ∧ (σ 12 (σ 36 t) = 1 ∨ σ 12 (σ 36 t) = 2)) ∧ (∀ t, 0 ≤ t → t < σ 45 0 → σ 32 t = σ 1 0 → σ 40 t = 0 ∧ σ 44 t = -1) ∧ (∀ t, 0 ≤ t → t < σ 45 0 → σ 32 t < σ 1 0 → 0 ≤ σ 44 t → sGs σ t ≤ σ 44 t) ∧ (∀ t u, 0 ≤ t → t < σ 45 0 → 0 ≤ u → u < σ 45 0 → σ 32 t = σ 32 u → σ 33 t = σ 33 u → σ 44 t = σ 44 u) ∧ (∀ h, 0 ≤ h → h < σ 11 0 → σ 50 h = sSum (fun u => sShr σ u h) (σ 45 0).toNat)
theorem cInv.n0 {n : Int} {σ : MS} (I : cInv n σ) : 0 ≤ n ∧ n ≤ 600 := I.1
theorem cInv.g {n : Int} {σ : MS} (I : cInv n σ) : ∀ k j, sRg n k (σ k j) := I.2.1
theorem cInv.r {n : Int} {σ : MS} (I : cInv n σ) : cRefs σ := I.2.2.1
theorem cInv.lg {n : Int} {σ : MS} (I : cInv n σ) : σ 58 0 = 0 ∧ σ 59 0 = 0 := I.2.2.2.1
theorem cInv.mc {n : Int} {σ : MS} (I : cInv n σ) : ∀ L, 0 ≤ σ 57 L ∧ σ 57 L ≤ n := I.2.2.2.2.1
theorem cInv.ord {n : Int} {σ : MS} (I : cInv n σ) : sOrd σ := I.2.2.2.2.2.1
theorem cInv.bin {n : Int} {σ : MS} (I : cInv n σ) : ∀ j, 0 ≤ j → j < σ 23 0 → 1 ≤ σ 18 j ∧ σ 17 (8 * j) ≤ σ 1 0 := I.2.2.2.2.2.2.1
theorem cInv.z7 {n : Int} {σ : MS} (I : cInv n σ) : ∀ j, σ 11 0 ≤ j → σ 7 j = 0 ∧ σ 8 j = 0 ∧ σ 9 j = 0 ∧ σ 10 j = 0 := I.2.2.2.2.2.2.2.1
theorem cInv.z25 {n : Int} {σ : MS} (I : cInv n σ) : ∀ j, σ 27 0 ≤ j → σ 25 j = 0 := I.2.2.2.2.2.2.2.2.1
theorem cInv.z3 {n : Int} {σ : MS} (I : cInv n σ) : ∀ j, 3 * σ 5 0 ≤ j → σ 3 j = 0 ∧ σ 4 j = 0 := I.2.2.2.2.2.2.2.2.2.1
theorem cInv.z22 {n : Int} {σ : MS} (I : cInv n σ) : ∀ j, σ 23 0 ≤ j → σ 15 j = 0 ∧ σ 22 j = 0 := I.2.2.2.2.2.2.2.2.2.2.1
theorem cInv.z18 {n : Int} {σ : MS} (I : cInv n σ) : ∀ j, j < 0 ∨ σ 23 0 ≤ j → σ 18 j = 0 := I.2.2.2.2.2.2.2.2.2.2.2.1
theorem cInv.z39 {n : Int} {σ : MS} (I : cInv n σ) : ∀ j, σ 45 0 ≤ j → σ 39 j = 0 ∧ σ 40 j = 0 ∧ σ 41 j = 0 ∧ σ 42 j = 0 ∧ σ 43 j = 0 := I.2.2.2.2.2.2.2.2.2.2.2.2.1
theorem cInv.h23 {n : Int} {σ : MS} (I : cInv n σ) : 0 < σ 23 0 → 0 < σ 11 0 := I.2.2.2.2.2.2.2.2.2.2.2.2.2.1
theorem cInv.h19 {n : Int} {σ : MS} (I : cInv n σ) : ∀ j, σ 19 j < σ 11 0 ∨ σ 19 j = 0 := I.2.2.2.2.2.2.2.2.2.2.2.2.2.2.1
theorem cInv.h54 {n : Int} {σ : MS} (I : cInv n σ) : ∀ c, ¬ (0 ≤ c ∧ c < σ 27 0) → σ 54 c = 0 := I.2.2.2.2.2.2.2.2.2.2.2.2.2.2.2.1
theorem cInv.t40 {n : Int} {σ : MS} (I : cInv n σ) : ∀ t, σ 40 t = 1 → 0 ≤ σ 36 t := I.2.2.2.2.2.2.2.2.2.2.2.2.2.2.2.2.1
theorem cInv.t37 {n : Int} {σ : MS} (I : cInv n σ) : ∀ t, σ 37 t = 2 → σ 36 t < 0 := I.2.2.2.2.2.2.2.2.2.2.2.2.2.2.2.2.2.1
theorem cInv.t41 {n : Int} {σ : MS} (I : cInv n σ) : ∀ t, σ 41 t = 1 → 0 ≤ σ 36 t ∧ σ 36 t < σ 23 0 ∧ (σ 12 (σ 36 t) = 1 ∨ σ 12 (σ 36 t) = 2) := I.2.2.2.2.2.2.2.2.2.2.2.2.2.2.2.2.2.2.1
theorem cInv.top {n : Int} {σ : MS} (I : cInv n σ) : ∀ t, 0 ≤ t → t < σ 45 0 → σ 32 t = σ 1 0 → σ 40 t = 0 ∧ σ 44 t = -1 := I.2.2.2.2.2.2.2.2.2.2.2.2.2.2.2.2.2.2.2.1
theorem cInv.gt {n : Int} {σ : MS} (I : cInv n σ) : ∀ t, 0 ≤ t → t < σ 45 0 → σ 32 t < σ 1 0 → 0 ≤ σ 44 t → sGs σ t ≤ σ 44 t := I.2.2.2.2.2.2.2.2.2.2.2.2.2.2.2.2.2.2.2.2.1
theorem cInv.ge {n : Int} {σ : MS} (I : cInv n σ) : ∀ t u, 0 ≤ t → t < σ 45 0 → 0 ≤ u → u < σ 45 0 → σ 32 t = σ 32 u → σ 33 t = σ 33 u → σ 44 t = σ 44 u := I.2.2.2.2.2.2.2.2.2.2.2.2.2.2.2.2.2.2.2.2.2.1
theorem cInv.fr {n : Int} {σ : MS} (I : cInv n σ) : ∀ h, 0 ≤ h → h < σ 11 0 → σ 50 h = sSum (fun u => sShr σ u h) (σ 45 0).toNat := I.2.2.2.2.2.2.2.2.2.2.2.2.2.2.2.2.2.2.2.2.2.2
theorem cInv.s {n : Int} {σ : MS} (I : cInv n σ) : sInv n σ := ⟨I.n0, ((I.g 1 0).1 rfl), ((I.g 5 0).2.1 rfl), ((I.g 11 0).2.2.1 rfl), ((I.g 23 0).2.2.2.1 rfl), ((I.g 27 0).2.2.2.2.1 rfl), ((I.g 45 0).2.2.2.2.2.1 rfl), ((I.g 30 0).2.2.2.2.2.2.1 rfl), ((I.g 31 0).2.2.2.2.2.2.2.1 rfl), (fun j => ((I.g 3 j).2.2.2.2.2.2.2.2.1 rfl)), (fun j => ((I.g 4 j).2.2.2.2.2.2.2.2.2.1 rfl)), (fun j => ((I.g 6 j).2.2.2.2.2.2.2.2.2.2.1 rfl)), (fun j => ((I.g 7 j).2.2.2.2.2.2.2.2.2.2.2.1 rfl)), (fun j => ((I.g 12 j).2.2.2.2.2.2.2.2.2.2.2.2.1 rfl)), (fun j => ((I.g 15 j).2.2.2.2.2.2.2.2.2.2.2.2.2.1 rfl)), (fun j => ((I.g 16 j).2.2.2.2.2.2.2.2.2.2.2.2.2.2.1 rfl)), (fun j => ((I.g 17 j).2.2.2.2.2.2.2.2.2.2.2.2.2.2.2.1 rfl)), (fun j => ((I.g 18 j).2.2.2.2.2.2.2.2.2.2.2.2.2.2.2.2.1 rfl)), (fun j => ((I.g 19 j).2.2.2.2.2.2.2.2.2.2.2.2.2.2.2.2.2.1 rfl)), (fun j => ((I.g 20 j).2.2.2.2.2.2.2.2.2.2.2.2.2.2.2.2.2.2.1 rfl)), (fun j => ((I.g 21 j).2.2.2.2.2.2.2.2.2.2.2.2.2.2.2.2.2.2.2.1 rfl)), (fun j => ((I.g 22 j).2.2.2.2.2.2.2.2.2.2.2.2.2.2.2.2.2.2.2.2.1 rfl)), (fun j => ((I.g 24 j).2.2.2.2.2.2.2.2.2.2.2.2.2.2.2.2.2.2.2.2.2.1 rfl)), (fun j => ((I.g 25 j).2.2.2.2.2.2.2.2.2.2.2.2.2.2.2.2.2.2.2.2.2.2.1 rfl)), (fun j => ((I.g 26 j).2.2.2.2.2.2.2.2.2.2.2.2.2.2.2.2.2.2.2.2.2.2.2.1 rfl)), (fun j => ((I.g 28 j).2.2.2.2.2.2.2.2.2.2.2.2.2.2.2.2.2.2.2.2.2.2.2.2.1 rfl)), (fun j => ((I.g 29 j).2.2.2.2.2.2.2.2.2.2.2.2.2.2.2.2.2.2.2.2.2.2.2.2.2.1 rfl)), (fun j => ((I.g 32 j).2.2.2.2.2.2.2.2.2.2.2.2.2.2.2.2.2.2.2.2.2.2.2.2.2.2.1 rfl)), (fun j => ((I.g 33 j).2.2.2.2.2.2.2.2.2.2.2.2.2.2.2.2.2.2.2.2.2.2.2.2.2.2.2.1 rfl)), (fun j => ((I.g 35 j).2.2.2.2.2.2.2.2.2.2.2.2.2.2.2.2.2.2.2.2.2.2.2.2.2.2.2.2.1 rfl)), (fun j => ((I.g 36 j).2.2.2.2.2.2.2.2.2.2.2.2.2.2.2.2.2.2.2.2.2.2.2.2.2.2.2.2.2.1 rfl)), (fun j => ((I.g 37 j).2.2.2.2.2.2.2.2.2.2.2.2.2.2.2.2.2.2.2.2.2.2.2.2.2.2.2.2.2.2.1 rfl)), (fun j => ((I.g 38 j).2.2.2.2.2.2.2.2.2.2.2.2.2.2.2.2.2.2.2.2.2.2.2.2.2.2.2.2.2.2.2.1 rfl)), (fun j => ((I.g 39 j).2.2.2.2.2.2.2.2.2.2.2.2.2.2.2.2.2.2.2.2.2.2.2.2.2.2.2.2.2.2.2.2.1 rfl)), (fun j => ((I.g 42 j).2.2.2.2.2.2.2.2.2.2.2.2.2.2.2.2.2.2.2.2.2.2.2.2.2.2.2.2.2.2.2.2.2.1 rfl)), (fun j => ((I.g 43 j).2.2.2.2.2.2.2.2.2.2.2.2.2.2.2.2.2.2.2.2.2.2.2.2.2.2.2.2.2.2.2.2.2.2.1 rfl)), (fun j => ((I.g 44 j).2.2.2.2.2.2.2.2.2.2.2.2.2.2.2.2.2.2.2.2.2.2.2.2.2.2.2.2.2.2.2.2.2.2.2 rfl)), I.t40, I.bin⟩
theorem sSum_z {f : Int → Int} (h : ∀ j, f j = 0) : ∀ n : Nat, sSum f n = 0
  | 0 => rfl
  | n + 1 => by rw [sSum, sSum_z h n, h]; rfl
theorem sRg_0 {n : Int} (hn : 0 ≤ n) (k : Nat) : sRg n k 0 := ⟨fun _ => ⟨by omega, by omega⟩, fun _ => ⟨by omega, by omega⟩, fun _ => ⟨by omega, by omega⟩, fun _ => ⟨by omega, by omega⟩, fun _ => ⟨by omega, by omega⟩, fun _ => ⟨by omega, by omega⟩, fun _ => ⟨by omega, by omega⟩, fun _ => ⟨by omega, by omega⟩, fun _ => ⟨by omega, by omega⟩, fun _ => ⟨by omega, by omega⟩, fun _ => ⟨by omega, by omega⟩, fun _ => ⟨by omega, by omega⟩, fun _ => ⟨by omega, by omega⟩, fun _ => ⟨by omega, by omega⟩, fun _ => ⟨by omega, by omega⟩, fun _ => ⟨by omega, by omega⟩, fun _ => ⟨by omega, by omega⟩, fun _ => ⟨by omega, by omega⟩, fun _ => ⟨by omega, by omega⟩, fun _ => ⟨by omega, by omega⟩, fun _ => ⟨by omega, by omega⟩, fun _ => ⟨by omega, by omega⟩, fun _ => ⟨by omega, by omega⟩, fun _ => ⟨by omega, by omega⟩, fun _ => ⟨by omega, by omega⟩, fun _ => ⟨by omega, by omega⟩, fun _ => ⟨by omega, by omega⟩, fun _ => ⟨by omega, by omega⟩, fun _ => ⟨by omega, by omega⟩, fun _ => ⟨by omega, by omega⟩, fun _ => ⟨by omega, by omega⟩, fun _ => ⟨by omega, by omega⟩, fun _ => ⟨by omega, by omega⟩, fun _ => ⟨by omega, by omega⟩, fun _ => ⟨by omega, by omega⟩, fun _ => ⟨by omega, by omega⟩⟩
theorem cInv_0 : cInv 0 (fun _ _ => 0) := ⟨⟨by decide, by decide⟩, fun k j => sRg_0 (by decide) k, ⟨fun h a b => absurd (show h < 0 from b) (by omega), fun i a b => absurd (show i / 8 < 0 from b) (by omega), fun i a b => absurd (show i / 20 < 0 from b) (by omega), fun t a b => absurd (show t < 0 from b) (by omega), fun t a b => absurd (show t < 0 from b) (by omega)⟩, ⟨rfl, rfl⟩, fun _ => ⟨Int.le_refl 0, Int.le_refl 0⟩, ⟨fun _ _ _ _ _ => Int.le_refl 0, fun _ _ _ => Int.le_refl 0⟩, fun j a b => absurd (show j < 0 from b) (by omega), fun _ _ => ⟨rfl, rfl, rfl, rfl⟩, fun _ _ => rfl, fun _ _ => ⟨rfl, rfl⟩, fun _ _ => ⟨rfl, rfl⟩, fun _ _ => rfl, fun _ _ => ⟨rfl, rfl, rfl, rfl, rfl⟩, fun h => absurd (show (0 : Int) < 0 from h) (by decide), fun _ => Or.inr rfl, fun _ _ => rfl, fun _ h => absurd (show (0 : Int) = 1 from h) (by decide), fun _ h => absurd (show (0 : Int) = 2 from h) (by decide), fun _ h => absurd (show (0 : Int) = 1 from h) (by decide), fun t a b => absurd (show t < 0 from b) (by omega), fun t a b => absurd (show t < 0 from b) (by omega), fun t u a b => absurd (show t < 0 from b) (by omega), fun h a b => absurd (show h < 0 from b) (by omega)⟩
