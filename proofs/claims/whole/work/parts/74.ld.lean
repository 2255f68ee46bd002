/-! THE PICTURE GROWS -/
def lup (la : Nat → Int → Nat) (κ : Nat) (i : Int) (v : Nat) : Nat → Int → Nat := fun κ' i' => if κ' = κ ∧ i' = i then v else la κ' i'
theorem lup_s {la : Nat → Int → Nat} {κ : Nat} {i : Int} {v : Nat} : lup la κ i v κ i = v := by simp [lup]
theorem lup_k {la : Nat → Int → Nat} {κ κ' : Nat} {i i' : Int} {v : Nat} (h : κ' ≠ κ) : lup la κ i v κ' i' = la κ' i' := by simp [lup, h]
theorem lup_o {la : Nat → Int → Nat} {κ κ' : Nat} {i i' : Int} {v : Nat} (h : i' ≠ i) : lup la κ i v κ' i' = la κ' i' := by simp [lup, h]
theorem lup_n {la : Nat → Int → Nat} {κ κ' : Nat} {i i' : Int} {v : Nat} (h : ¬ (κ' = κ ∧ i' = i)) : lup la κ i v κ' i' = la κ' i' := by simp only [lup, if_neg h]
/-- whose number a field is -/
def fK (f : Nat) : Nat := ((List.range 12).find? fun κ => (List.range 13).any fun k => decide (k < cN κ) && (sT κ k == 1 || sT κ k == 2) && sF κ k == f).getD 99
theorem fK_all : ((List.range 12).all fun κ => (List.range 13).all fun k => !(decide (k < cN κ)) || !(sT κ k == 1 || sT κ k == 2) || fK (sF κ k) == κ) = true := by decide +kernel
theorem fK_s {κ k : Nat} (h1 : κ ≤ 11) (h2 : k < cN κ) (ht : sT κ k = 1 ∨ sT κ k = 2) : fK (sF κ k) = κ := by
  have h3 := List.all_eq_true.mp (List.all_eq_true.mp fK_all κ (List.mem_range.mpr (by omega))) k (List.mem_range.mpr (Nat.lt_of_lt_of_le h2 (cN_13 κ h1)))
  have h5 : (sT κ k == 1 || sT κ k == 2) = true := by
    rcases ht with e | e <;> simp [e]
  rw [h5] at h3
  simpa [h2] using h3
theorem up_k {σ : MS} {f κ k : Nat} {j v i : Int} (h1 : κ ≤ 11) (h2 : k < cN κ) (ht : sT κ k = 1 ∨ sT κ k = 2) (h : ¬ (fK f = κ ∧ i = j)) : up σ f j v (sF κ k) i = σ (sF κ k) i := by
  rw [up_rd, if_neg]
  rintro ⟨e1, e2⟩
  exact h ⟨by rw [← e1]; exact fK_s h1 h2 ht, e2⟩
/-- what the picture's references say: they are of live cells -/
def cRefs (σ : MS) : Prop := (∀ h, 0 ≤ h → h < σ 11 0 → 0 ≤ σ 6 h ∧ σ 6 h < σ 5 0) ∧ (∀ i, 0 ≤ i → i / 8 < σ 23 0 → i % 8 < σ 18 (i / 8) → 0 ≤ σ 16 i ∧ σ 16 i < σ 11 0) ∧ (∀ i, 0 ≤ i → i / 20 < σ 23 0 → i % 20 < σ 22 (i / 20) → 0 ≤ σ 19 i ∧ σ 19 i < σ 11 0) ∧ (∀ t, 0 ≤ t → t < σ 45 0 → 0 ≤ σ 33 t ∧ σ 33 t < σ 27 0) ∧ ∀ t, 0 ≤ t → t < σ 45 0 → ¬ σ 36 t < 0 → 0 ≤ σ 36 t ∧ σ 36 t < σ 23 0
theorem sT_all : ((List.range 11).all fun κ => (List.range 13).all fun k => !(decide (k < cN κ)) || decide (sT κ k ≤ 3)) = true := by decide +kernel
theorem sT_le {κ k : Nat} (h1 : κ ≤ 10) (h2 : k < cN κ) : sT κ k ≤ 3 := by
  have h3 := List.all_eq_true.mp (List.all_eq_true.mp sT_all κ (List.mem_range.mpr (by omega))) k (List.mem_range.mpr (Nat.lt_of_lt_of_le h2 (cN_13 κ (by omega))))
  simpa [h2] using h3
theorem cV_ext {la la' : Nat → Int → Nat} {σ σ' : MS} (h23 : 0 ≤ σ 23 0) (hR : cRefs σ) (hold : ∀ κ i, κ ≤ 17 → cLive la σ κ i → la' κ i = la κ i) {κ : Nat} {i : Int} (hκ : κ ≤ 11) (hl : cLive la σ κ i)
    (hnum : ∀ k, k < cN κ → (sT κ k = 1 ∨ sT κ k = 2) → σ' (sF κ k) i = σ (sF κ k) i) (h6 : κ = 5 → σ' 6 i = σ 6 i) (h16 : κ = 7 → σ' 16 i = σ 16 i) (h19 : κ = 8 → σ' 19 i = σ 19 i) (h33 : κ = 10 → σ' 33 i = σ 33 i) (h36 : κ = 10 → σ' 36 i = σ 36 i) (h11 : κ = 11 → cSz σ' i = cSz σ i ∧ la' 18 i = la 18 i) {k : Nat} (hk : k < cN κ) : cV la' σ' κ i k = cV la σ κ i k := by
  unfold cV
  by_cases h1 : sT κ k = 1
  · rw [if_neg (by omega), if_pos h1, if_neg (by omega), if_pos h1, hnum k hk (Or.inl h1)]
  · by_cases h2 : sT κ k = 2
    · rw [if_neg (by omega), if_neg h1, if_pos h2, if_neg (by omega), if_neg h1, if_pos h2, hnum k hk (Or.inr h2)]
    · rw [if_neg h1, if_neg h2, if_neg h1, if_neg h2]
      by_cases h0 : sT κ k = 0
      · rw [if_pos h0, if_pos h0]
      · rw [if_neg h0, if_neg h0]
        by_cases h3 : sT κ k = 3
        · rw [if_pos h3, if_pos h3]
          congr 1
          rcases (show κ = 0 ∨ κ = 1 ∨ κ = 2 ∨ κ = 3 ∨ κ = 4 ∨ κ = 5 ∨ κ = 6 ∨ κ = 7 ∨ κ = 8 ∨ κ = 9 ∨ κ = 10 ∨ κ = 11 by omega) with rfl | rfl | rfl | rfl | rfl | rfl | rfl | rfl | rfl | rfl | rfl | rfl
          · have hb : ∀ L : Int, 0 ≤ L → L < 5 → la' 11 L = la 11 L := by
              intro L a b
              exact hold 11 L (by decide) (cl_11 ⟨a, by omega⟩)
            show (if k = 0 then some (la' 11 0) else if k = 1 then some (la' 11 1) else if k = 2 then some (la' 11 2) else if k = 3 then some (la' 11 3) else if k = 4 then some (la' 11 4) else if k = 5 then some (la' 1 0) else if k = 6 then some (la' 2 0) else some (la' 3 0)) = (if k = 0 then some (la 11 0) else if k = 1 then some (la 11 1) else if k = 2 then some (la 11 2) else if k = 3 then some (la 11 3) else if k = 4 then some (la 11 4) else if k = 5 then some (la 1 0) else if k = 6 then some (la 2 0) else some (la 3 0))
            rw [hb 0 (by omega) (by omega), hb 1 (by omega) (by omega), hb 2 (by omega) (by omega), hb 3 (by omega) (by omega), hb 4 (by omega) (by omega), hold 1 0 (by decide) cl_1, hold 2 0 (by decide) cl_2, hold 3 0 (by decide) cl_3]
          · show some (la' 12 0) = some (la 12 0)
            rw [hold 12 0 (by decide) cl_12]
          · show (if k = 0 then some (la' 13 0) else some (la' 14 0)) = (if k = 0 then some (la 13 0) else some (la 14 0))
            rw [hold 13 0 (by decide) cl_13, hold 14 0 (by decide) cl_14]
          · show some (la' 15 0) = some (la 15 0)
            rw [hold 15 0 (by decide) cl_15]
          · show (if k = 0 then some (la' 16 i) else some (la' 17 i)) = (if k = 0 then some (la 16 i) else some (la 17 i))
            rw [hold 16 i (by decide) (cl_16 hl), hold 17 i (by decide) (cl_17 hl)]
          · show some (la' 4 (σ' 6 i)) = some (la 4 (σ 6 i))
            rw [h6 rfl, hold 4 _ (by decide) (cl_4 (hR.1 i hl.1 hl.2))]
          · have hl6 : 0 ≤ i ∧ i < σ 23 0 := hl
            show (if k = 2 then some (la' 11 (5 + 2 * i)) else some (la' 11 (6 + 2 * i))) = (if k = 2 then some (la 11 (5 + 2 * i)) else some (la 11 (6 + 2 * i)))
            rw [hold 11 _ (by decide) (cl_11 ⟨by omega, by omega⟩), hold 11 _ (by decide) (cl_11 ⟨by omega, by omega⟩)]
          · have hl7 : 0 ≤ i ∧ i / 8 < σ 23 0 ∧ i % 8 < σ 18 (i / 8) := hl
            show some (la' 5 (σ' 16 i)) = some (la 5 (σ 16 i))
            rw [h16 rfl, hold 5 _ (by decide) (cl_5 (hR.2.1 i hl7.1 hl7.2.1 hl7.2.2))]
          · have hl8 : 0 ≤ i ∧ i / 20 < σ 23 0 ∧ i % 20 < σ 22 (i / 20) := hl
            show some (la' 5 (σ' 19 i)) = some (la 5 (σ 19 i))
            rw [h19 rfl, hold 5 _ (by decide) (cl_5 (hR.2.2.1 i hl8.1 hl8.2.1 hl8.2.2))]
          · exfalso
            have hk6 : k < 6 := hk
            rcases (show k = 0 ∨ k = 1 ∨ k = 2 ∨ k = 3 ∨ k = 4 ∨ k = 5 by omega) with rfl | rfl | rfl | rfl | rfl | rfl <;> exact absurd h3 (by decide)
          · have hl10 : 0 ≤ i ∧ i < σ 45 0 := hl
            show (if k = 1 then some (la' 9 (σ' 33 i)) else if σ' 36 i < 0 then none else some (la' 6 (σ' 36 i))) = (if k = 1 then some (la 9 (σ 33 i)) else if σ 36 i < 0 then none else some (la 6 (σ 36 i)))
            rw [h33 rfl, h36 rfl, hold 9 _ (by decide) (cl_9 (hR.2.2.2.1 i hl10.1 hl10.2))]
            by_cases hn : σ 36 i < 0
            · rw [if_pos hn, if_pos hn]
            · rw [if_neg hn, if_neg hn, hold 6 _ (by decide) (cl_6 (hR.2.2.2.2 i hl10.1 hl10.2 hn))]
          · show some (la' 18 i) = some (la 18 i)
            rw [(h11 rfl).2]
        · rw [if_neg h3, if_neg h3]
          have hk11 : κ = 11 := by
            by_cases h9 : κ ≤ 10
            · have := sT_le h9 hk
              omega
            · omega
          rw [(h11 hk11).1]
abbrev okR (f : Nat) : Bool := f != 2 && f != 28 && f != 29 && f != 56 && f != 3 && f != 4
theorem aV_u {σ : MS} {f κ : Nat} {i v j q : Int} (h : okR f = true) (h1 : 12 ≤ κ) (h2 : κ ≤ 17) : aV (up σ f j v) κ i q = aV σ κ i q := by
  simp only [okR, Bool.and_eq_true, bne_iff_ne, ne_eq] at h
  unfold aV
  have hf : aF κ ≠ f := by
    rcases (show κ = 12 ∨ κ = 13 ∨ κ = 14 ∨ κ = 15 ∨ κ = 16 ∨ κ = 17 by omega) with rfl | rfl | rfl | rfl | rfl | rfl <;> (intro e; have e2 : _ = f := e; simp [aF] at e2; omega)
  rw [up_f hf]
theorem cEl_l {la : Nat → Int → Nat} {κ : Nat} {i : Int} {v : Nat} (h : 11 ≤ κ) (L j : Int) : cEl (lup la κ i v) L j = cEl la L j := by
  unfold cEl
  rw [lup_k (show 4 ≠ κ by omega), lup_k (show 5 ≠ κ by omega), lup_k (show 6 ≠ κ by omega), lup_k (show 9 ≠ κ by omega), lup_k (show 10 ≠ κ by omega), lup_k (show 7 ≠ κ by omega), lup_k (show 8 ≠ κ by omega)]
/-- the picture at a greater town: N the new cells, L0 the list that an element came to (-1: none) -/
theorem CP.ext {D : va_G} {cy : Nat → ClassId} {d0 : Nat} {A : Nat → Prop} {la la' : Nat → Int → Nat} {σ σ' : MS} {H H1 : Heap} {L0 : Int} {M : Nat} {N : Nat → Int → Prop} (h : CP D cy d0 A la σ H) (hM : ∀ κ i, κ ≤ 18 → cLive la σ κ i → la κ i < M) (hA : ∀ q, M ≤ q → A q) (h23 : 0 ≤ σ 23 0) (hR : cRefs σ) (hw : cW σ')
    (hl : ∀ κ i, κ ≤ 17 → cLive la' σ' κ i → cLive la σ κ i ∨ N κ i) (hN : ∀ κ i, N κ i → κ ≤ 17)
    (hold : ∀ κ i, κ ≤ 17 → cLive la σ κ i → la' κ i = la κ i)
    (hkeep : ∀ κ i, κ ≤ 18 → cLive la σ κ i → ¬ (κ = 11 ∧ i = L0) → ¬ (κ = 18 ∧ i = L0) → H1[la κ i]? = H[la κ i]?)
    (hnum : ∀ κ i, κ ≤ 11 → cLive la σ κ i → ¬ (κ = 11 ∧ i = L0) → ∀ k, k < cN κ → (sT κ k = 1 ∨ sT κ k = 2) → σ' (sF κ k) i = σ (sF κ k) i)
    (h6 : ∀ i, cLive la σ 5 i → σ' 6 i = σ 6 i) (h16 : ∀ i, cLive la σ 7 i → σ' 16 i = σ 16 i) (h19 : ∀ i, cLive la σ 8 i → σ' 19 i = σ 19 i) (h33 : ∀ i, cLive la σ 10 i → σ' 33 i = σ 33 i) (h36 : ∀ i, cLive la σ 10 i → σ' 36 i = σ 36 i)
    (harr : ∀ κ i, 12 ≤ κ → κ ≤ 17 → cLive la σ κ i → ∀ j : Nat, j < aLn κ → aV σ' κ i j = aV σ κ i j)
    (hlist : ∀ L, cLive la σ 11 L → L ≠ L0 → cSz σ' L = cSz σ L ∧ la' 18 L = la 18 L ∧ la' 19 L = la 19 L ∧ ∀ j, 0 ≤ j → j < cSz σ L → cEl la' L j = cEl la L j)
    (hnO : ∀ κ i, κ ≤ 11 → N κ i → t_OB (la' κ i) (D.1 (cCi κ)) (cN κ) (D.2 (cCi κ)) H1 (cV la' σ' κ i))
    (hnR : ∀ κ i, 12 ≤ κ → κ ≤ 17 → N κ i → H1[la' κ i]? = some (arrV (cy (if κ = 12 then 2 else 1)) (aLn κ) (fun j => .int (iI (aV σ' κ i j)))))
    (hnL : ∀ L, N 11 L → L ≠ L0 → cSz σ' L = 0 ∧ la' 19 L = 0 ∧ la' 18 L = d0)
    (hL0 : cLive la σ 11 L0 → t_OB (la 11 L0) (D.1 (cCi 11)) (cN 11) (D.2 (cCi 11)) H1 (cV la' σ' 11 L0) ∧ cBk (cy 4) d0 la' σ' H1 L0 ∧ (0 < la' 19 L0 → (0 < la 19 L0 ∧ la' 18 L0 = la 18 L0) ∨ (M ≤ la' 18 L0 ∧ ∀ κ i, N κ i → la' κ i ≠ la' 18 L0)))
    (hN0 : ¬ N 11 L0)
    (hfresh : ∀ κ i, N κ i → M ≤ la' κ i) (hinj : ∀ κ κ' i i', N κ i → N κ' i' → la' κ i = la' κ' i' → κ = κ' ∧ i = i') : CP D cy d0 A la' σ' H1 := by
  have hlt := hM
  have h0 := h
  obtain ⟨c1, c2, c3, c4, c5, c6, c7⟩ := h
  -- where a live cell of the greater town lies: an old one, a new one
  have hwh : ∀ κ i, κ ≤ 18 → cLive la' σ' κ i → (cLive la σ κ i ∧ la' κ i = la κ i) ∨ (M ≤ la' κ i ∧ (N κ i ∨ (κ = 18 ∧ i = L0 ∧ ∀ κ' i', N κ' i' → la' κ' i' ≠ la' 18 L0))) := by
    intro κ i a b
    by_cases h18 : κ = 18
    · subst h18
      have b2 : cLive la' σ' 11 i ∧ 0 < la' 19 i := b
      by_cases hi : i = L0
      · subst hi
        rcases hl 11 i (by decide) b2.1 with b3 | b3
        · rcases (hL0 b3).2.2 b2.2 with ⟨x1, x2⟩ | ⟨x1, x2⟩
          · exact Or.inl ⟨⟨b3, x1⟩, x2⟩
          · exact Or.inr ⟨x1, Or.inr ⟨rfl, rfl, x2⟩⟩
        · exact absurd b3 hN0
      · rcases hl 11 i (by decide) b2.1 with b3 | b3
        · obtain ⟨x1, x2, x3, x4⟩ := hlist i b3 hi
          exact Or.inl ⟨⟨b3, by rw [← x3]; exact b2.2⟩, x2⟩
        · have := (hnL i b3 hi).2.1
          omega
    · rcases hl κ i (by omega) b with b3 | b3
      · exact Or.inl ⟨b3, hold κ i (by omega) b3⟩
      · exact Or.inr ⟨hfresh κ i b3, Or.inl b3⟩
  refine ⟨fun κ i a b => ?_, fun κ i a b c => ?_, fun L b => ?_, fun κ κ' i i' a a' b b' e => ?_, fun κ i a b => ?_, hw, c7⟩
  · rcases hl κ i (by omega) b with b2 | b2
    · by_cases hq : κ = 11 ∧ i = L0
      · obtain ⟨rfl, rfl⟩ := hq
        rw [hold 11 i (by decide) b2]
        exact (hL0 b2).1
      · rw [hold κ i (by omega) b2]
        refine ((c1 κ i a b2).kept (hkeep κ i (by omega) b2 hq (by omega))).to (fun k hk => ?_)
        refine (cV_ext h23 hR hold a b2 (hnum κ i a b2 hq) (fun e => h6 i (e ▸ b2)) (fun e => h16 i (e ▸ b2)) (fun e => h19 i (e ▸ b2)) (fun e => h33 i (e ▸ b2)) (fun e => h36 i (e ▸ b2)) (fun e => ?_) hk).symm
        have hx := hlist i (e ▸ b2) (fun z => hq ⟨e, z⟩)
        exact ⟨hx.1, hx.2.1⟩
    · exact hnO κ i a b2
  · rcases hl κ i b c with b2 | b2
    · rw [hold κ i b b2, hkeep κ i (by omega) b2 (by omega) (by omega), c2 κ i a b b2]
      congr 1
      exact arrV_ext (fun j hj => by rw [harr κ i a b b2 j hj])
    · exact hnR κ i a b b2
  · rcases hl 11 L (by decide) b with b2 | b2
    · by_cases hq : L = L0
      · subst hq
        exact (hL0 b2).2.1
      · obtain ⟨x1, x2, x3, x4⟩ := hlist L b2 hq
        obtain ⟨k1, k2⟩ := c3 L b2
        refine ⟨by rw [x1, x3]; exact k1, ?_⟩
        rw [x2, x3]
        refine k2.imp id (fun ⟨q1, f, q2, q3⟩ => ⟨q1, f, ?_, fun j hj => ?_⟩)
        · rw [hkeep 18 L (by decide) ⟨b2, q1⟩ (by omega) (by omega)]
          exact q2
        · rw [x1] at hj
          rw [q3 j hj, x4 j (by omega) hj]
    · by_cases hq : L = L0
      · subst hq
        exact absurd b2 hN0
      · obtain ⟨x1, x2, x3⟩ := hnL L b2 hq
        exact ⟨by rw [x1, x2]; decide, Or.inl ⟨x2, x3⟩⟩
  · rcases hwh κ i a b with ⟨y1, y2⟩ | ⟨y1, y2⟩
    · rcases hwh κ' i' a' b' with ⟨z1, z2⟩ | ⟨z1, z2⟩
      · exact c4 κ κ' i i' a a' y1 z1 (by rw [← y2, ← z2]; exact e)
      · have := hlt κ i a y1
        omega
    · rcases hwh κ' i' a' b' with ⟨z1, z2⟩ | ⟨z1, z2⟩
      · have := hlt κ' i' a' z1
        omega
      · rcases y2 with y2 | ⟨y3, y4, y5⟩
        · rcases z2 with z2 | ⟨z3, z4, z5⟩
          · exact hinj κ κ' i i' y2 z2 e
          · subst z3; subst z4
            exact absurd e (z5 κ i y2)
        · subst y3; subst y4
          rcases z2 with z2 | ⟨z3, z4, z5⟩
          · exact absurd e.symm (y5 κ' i' z2)
          · exact ⟨z3.symm, z4.symm⟩
  · rcases hwh κ i a b with ⟨y1, y2⟩ | ⟨y1, y2⟩
    · rw [y2]; exact c5 κ i a y1
    · exact hA _ y1
/-- a list of the picture, as its own methods see it -/
theorem CP.lst {D : va_G} {cy : Nat → ClassId} {d0 : Nat} {A : Nat → Prop} {la : Nat → Int → Nat} {σ : MS} {H : Heap} (h : CP D cy d0 A la σ H) {L n : Int} (hL : cLive la σ 11 L) (hn : cSz σ L = n) : ∃ f : Nat → Option Nat, t_OB (la 11 L) (D.1 0) 3 (D.2 0) H (lV (σ 57 L) (la 18 L) n) ∧ lBk (cy 4) d0 H (la 18 L) (la 19 L) f ∧ n ≤ la 19 L ∧ ∀ j : Nat, (j : Int) < n → f j = some (cEl la L j) := by
  subst hn
  have hO : t_OB (la 11 L) (D.1 0) 3 (D.2 0) H (lV (σ 57 L) (la 18 L) (cSz σ L)) := (h.1 11 L (by decide) hL).to (fun k hk => by
    have hk3 : k < 3 := hk
    rcases (show k = 0 ∨ k = 1 ∨ k = 2 by omega) with rfl | rfl | rfl <;> rfl)
  obtain ⟨k1, ⟨k2, k3⟩ | ⟨k2, f, k3, k4⟩⟩ := h.2.2.1 L hL
  · exact ⟨fun _ => none, hO, Or.inl ⟨k2, k3⟩, k1, fun j hj => by omega⟩
  · exact ⟨f, hO, Or.inr ⟨k2, k3⟩, k1, k4⟩
theorem CP.nar {D : va_G} {cy : Nat → ClassId} {d0 : Nat} {A A' : Nat → Prop} {la : Nat → Int → Nat} {σ : MS} {H : Heap} (h : CP D cy d0 A la σ H) (hA : ∀ κ i, κ ≤ 18 → cLive la σ κ i → A' (la κ i)) (hd : ¬ A' d0) : CP D cy d0 A' la σ H :=
  ⟨h.1, h.2.1, h.2.2.1, h.2.2.2.1, hA, h.2.2.2.2.2.1, hd⟩
/-- an element comes to the list L0: laN is la with the new cells N -/
theorem CP.addL {D : va_G} {cy : Nat → ClassId} {d0 : Nat} {A : Nat → Prop} {la laN : Nat → Int → Nat} {σ σ' : MS} {H H1 : Heap} {L0 n : Int} {M x : Nat} {f : Nat → Option Nat} {N : Nat → Int → Prop} (h : CP D cy d0 A la σ H) (hM : ∀ κ i, κ ≤ 18 → cLive la σ κ i → la κ i < M) (hMH : M ≤ H.size) (hA : ∀ q, M ≤ q → A q) (h23 : 0 ≤ σ 23 0) (hR : cRefs σ) (hw : cW σ')
    (hL : cLive la σ 11 L0) (hn0 : 0 ≤ n) (hn : cSz σ L0 = n) (hps : lPs D cy (la 11 L0) (la 18 L0) (la 19 L0) x (σ 57 L0 + 1) n f H H1) (hf : ∀ j : Nat, (j : Int) < n → f j = some (cEl la L0 j))
    (hl : ∀ (lb : Nat → Int → Nat) κ i, κ ≤ 17 → cLive lb σ' κ i → cLive la σ κ i ∨ N κ i) (hN : ∀ κ i, N κ i → κ ≤ 17) (hN11 : ∀ L, ¬ N 11 L)
    (hold : ∀ κ i, κ ≤ 17 → cLive la σ κ i → laN κ i = la κ i) (h18 : ∀ L, laN 18 L = la 18 L ∧ laN 19 L = la 19 L)
    (hnum : ∀ κ i, κ ≤ 11 → cLive la σ κ i → ¬ (κ = 11 ∧ i = L0) → ∀ k, k < cN κ → (sT κ k = 1 ∨ sT κ k = 2) → σ' (sF κ k) i = σ (sF κ k) i)
    (h6 : ∀ i, cLive la σ 5 i → σ' 6 i = σ 6 i) (h16 : ∀ i, cLive la σ 7 i → σ' 16 i = σ 16 i) (h19 : ∀ i, cLive la σ 8 i → σ' 19 i = σ 19 i) (h33 : ∀ i, cLive la σ 10 i → σ' 33 i = σ 33 i) (h36 : ∀ i, cLive la σ 10 i → σ' 36 i = σ 36 i)
    (harr : ∀ κ i, 12 ≤ κ → κ ≤ 17 → cLive la σ κ i → ∀ j : Nat, j < aLn κ → aV σ' κ i j = aV σ κ i j)
    (hsz : ∀ L, cLive la σ 11 L → L ≠ L0 → cSz σ' L = cSz σ L) (hel : ∀ L j, cLive la σ 11 L → 0 ≤ j → j < cSz σ L → cEl laN L j = cEl la L j) (hsz0 : cSz σ' L0 = n + 1) (h57 : σ' 57 L0 = σ 57 L0 + 1) (hx : cEl laN L0 n = x)
    (hnO : ∀ lb : Nat → Int → Nat, (∀ κ i, κ ≤ 17 → lb κ i = laN κ i) → ∀ κ i, κ ≤ 11 → N κ i → t_OB (laN κ i) (D.1 (cCi κ)) (cN κ) (D.2 (cCi κ)) H (cV lb σ' κ i))
    (hnR : ∀ κ i, 12 ≤ κ → κ ≤ 17 → N κ i → H[laN κ i]? = some (arrV (cy (if κ = 12 then 2 else 1)) (aLn κ) (fun j => .int (iI (aV σ' κ i j)))))
    (hfresh : ∀ κ i, N κ i → M ≤ laN κ i ∧ laN κ i < H.size) (hinj : ∀ κ κ' i i', N κ i → N κ' i' → laN κ i = laN κ' i' → κ = κ' ∧ i = i') :
    ∃ r' cap' : Nat, CP D cy d0 A (lup (lup laN 18 L0 r') 19 L0 cap') σ' H1 ∧ (cap' : Int) ≤ 1000 ∧ ∀ q, q < H.size → q ≠ la 11 L0 → ¬ (0 < la 19 L0 ∧ q = la 18 L0) → H1[q]? = H[q]? := by
  obtain ⟨r', cap', f', p1, p2, ⟨p3, p4⟩, p5, p6, p7, p8⟩ := hps
  obtain ⟨lb, hlb⟩ : ∃ z, z = lup (lup laN 18 L0 r') 19 L0 cap' := ⟨_, rfl⟩
  have hb17 : ∀ κ i, κ ≤ 17 → lb κ i = laN κ i := fun κ i a => by rw [hlb, lup_k (by omega), lup_k (by omega)]
  have hb18 : lb 18 L0 = r' := by rw [hlb, lup_k (by decide), lup_s]
  have hb19 : lb 19 L0 = cap' := by rw [hlb, lup_s]
  have hbo : ∀ L, L ≠ L0 → lb 18 L = la 18 L ∧ lb 19 L = la 19 L := fun L a => by
    rw [hlb, lup_k (by decide), lup_o a, lup_o a, lup_k (by decide)]
    exact h18 L
  have hbe : ∀ L j, cEl lb L j = cEl laN L j := fun L j => by rw [hlb, cEl_l (by decide), cEl_l (by decide)]
  have hq11 : ∀ κ i, κ ≤ 18 → cLive la σ κ i → ¬ (κ = 11 ∧ i = L0) → la κ i ≠ la 11 L0 := fun κ i a b c e => c (h.2.2.2.1 κ 11 i L0 a (by decide) b hL e)
  have hq18 : ∀ κ i, κ ≤ 18 → cLive la σ κ i → ¬ (κ = 18 ∧ i = L0) → ¬ (0 < la 19 L0 ∧ la κ i = la 18 L0) := fun κ i a b c e => c (h.2.2.2.1 κ 18 i L0 a (by decide) b ⟨hL, e.1⟩ e.2)
  have hnk : ∀ κ i, N κ i → H1[laN κ i]? = H[laN κ i]? := fun κ i a => by
    have h1 := hfresh κ i a
    have h2 := hM 11 L0 (by decide) hL
    refine p8 _ h1.2 (by omega) (fun z => ?_)
    have h3 := hM 18 L0 (by decide) ⟨hL, z.1⟩
    omega
  refine ⟨r', cap', ?_, by omega, p8⟩
  rw [← hlb]
  refine CP.ext (L0 := L0) (N := N) (M := M) h hM hA h23 hR hw (fun κ i a b => hl lb κ i a b) hN (fun κ i a b => (hb17 κ i a).trans (hold κ i a b)) (fun κ i a b c d => p8 _ (h.lt a b) (hq11 κ i a b c) (hq18 κ i a b d)) hnum h6 h16 h19 h33 h36 harr (fun L a b => ⟨hsz L a b, (hbo L b).1, (hbo L b).2, fun j c d => by rw [hbe]; exact hel L j a c d⟩) (fun κ i a b => ?_) (fun κ i a b c => ?_) (fun L a => absurd a (hN11 L)) (fun _ => ⟨?_, ⟨?_, ?_⟩, fun _ => ?_⟩) (hN11 L0) (fun κ i a => by rw [hb17 κ i (hN κ i a)]; exact (hfresh κ i a).1) (fun κ κ' i i' a b e => hinj κ κ' i i' a b (by rw [← hb17 κ i (hN κ i a), ← hb17 κ' i' (hN κ' i' b)]; exact e))
  · rw [hb17 κ i (by omega)]
    exact (hnO lb hb17 κ i a b).kept (hnk κ i b)
  · rw [hb17 κ i b, hnk κ i c]
    exact hnR κ i a b c
  · refine p1.to (fun k hk => ?_)
    have hk3 : k < 3 := hk
    rcases (show k = 0 ∨ k = 1 ∨ k = 2 by omega) with rfl | rfl | rfl
    · show Value.int (iI (σ 57 L0 + 1)) = .int (iI (σ' 57 L0))
      rw [h57]
    · show Value.ref r' = va_rf (some (lb 18 L0))
      rw [hb18]; rfl
    · show Value.int (iI (n + 1)) = .int (iI (cSz σ' L0))
      rw [hsz0]
  · rw [hsz0, hb19]; exact p3
  · rw [hb19, hb18]
    refine Or.inr ⟨by omega, f', p2, fun j hj => ?_⟩
    rw [hsz0] at hj
    rw [hbe]
    by_cases hjn : (j : Int) < n
    · rw [p5 j hjn, hf j hjn, hel L0 j hL (by omega) (by omega)]
    · rw [show j = n.toNat by omega, p6, Int.toNat_of_nonneg hn0, hx]
  · rw [hb18]
    rcases p7 with ⟨e1, e2, e3⟩ | e1
    · exact Or.inl ⟨e3, e1⟩
    · refine Or.inr ⟨by omega, fun κ i a => ?_⟩
      rw [hb17 κ i (hN κ i a)]
      have := hfresh κ i a
      omega
