set_option maxHeartbeats 4000000 in
set_option maxRecDepth 100000 in
theorem g_binA {D : va_G} {cy : Nat → ClassId} {d0 : Nat} {A : Nat → Prop} {la : Nat → Int → Nat} {σ : MS} {H : Heap} {M : Nat} {kd mk : Int} {r1 r2 : Nat} (hC : CP D cy d0 A la σ H) (hMl : ∀ κ i, κ ≤ 18 → cLive la σ κ i → la κ i < M) (hAM : ∀ q, M ≤ q → A q) (hn5 : 0 ≤ σ 5 0 ∧ σ 5 0 ≤ 1000) (hn11 : 0 ≤ σ 11 0 ∧ σ 11 0 ≤ 1000) (hn23 : 0 ≤ σ 23 0 ∧ σ 23 0 ≤ 1000) (hn27 : 0 ≤ σ 27 0 ∧ σ 27 0 ≤ 1000) (hn45 : 0 ≤ σ 45 0 ∧ σ 45 0 ≤ 600) (hRf : cRefs σ) (hlg : σ 58 0 = 0 ∧ σ 59 0 = 0) (hkd : 0 ≤ kd ∧ kd ≤ 4) (hmk : -2147483648 ≤ mk ∧ mk < 2147483648) (hz15 : σ 15 (σ 23 0) = 0) (hz22 : σ 22 (σ 23 0) = 0) (nO : t_OB M (D.1 1) 7 (D.2 1) H (fun k => if k = 0 then .int (iI (σ 23 0)) else if k = 1 then .int (iI kd) else if k = 2 then .ref r1 else if k = 3 then .ref r2 else if k = 4 then .int (iI 1) else if k = 5 then .int (iI mk) else .int (iI 0))) (n1 : t_OB r1 (D.1 0) 3 (D.2 0) H (lV 0 d0 0)) (n2 : t_OB r2 (D.1 0) 3 (D.2 0) H (lV 0 d0 0)) (hr12 : M < r1 ∧ r1 < r2) : CP D cy d0 A (lup (lup (lup (lup (lup (lup (lup la 6 (σ 23 0) M) 11 (5 + 2 * σ 23 0) r1) 11 (6 + 2 * σ 23 0) r2) 18 (5 + 2 * σ 23 0) d0) 19 (5 + 2 * σ 23 0) 0) 18 (6 + 2 * σ 23 0) d0) 19 (6 + 2 * σ 23 0) 0) (up (up (up (up (up (up (up (up σ 12 (σ 23 0) kd) 13 (σ 23 0) 1) 14 (σ 23 0) mk) 18 (σ 23 0) 0) 57 (5 + 2 * σ 23 0) 0) 57 (6 + 2 * σ 23 0) 0) 59 0 1) 23 0 (σ 23 0 + 1)) H := by
  have p6 : (lup (lup (lup (lup (lup (lup (lup la 6 (σ 23 0) M) 11 (5 + 2 * σ 23 0) r1) 11 (6 + 2 * σ 23 0) r2) 18 (5 + 2 * σ 23 0) d0) 19 (5 + 2 * σ 23 0) 0) 18 (6 + 2 * σ 23 0) d0) 19 (6 + 2 * σ 23 0) 0) 6 (σ 23 0) = M := by rw [lup_k (by decide), lup_k (by decide), lup_k (by decide), lup_k (by decide), lup_k (by decide), lup_k (by decide)]; exact lup_s
  have p5a : (lup (lup (lup (lup (lup (lup (lup la 6 (σ 23 0) M) 11 (5 + 2 * σ 23 0) r1) 11 (6 + 2 * σ 23 0) r2) 18 (5 + 2 * σ 23 0) d0) 19 (5 + 2 * σ 23 0) 0) 18 (6 + 2 * σ 23 0) d0) 19 (6 + 2 * σ 23 0) 0) 11 (5 + 2 * σ 23 0) = r1 := by rw [lup_k (by decide), lup_k (by decide), lup_k (by decide), lup_k (by decide), lup_n (fun z => by have z2 := z.2; omega)]; exact lup_s
  have p6a : (lup (lup (lup (lup (lup (lup (lup la 6 (σ 23 0) M) 11 (5 + 2 * σ 23 0) r1) 11 (6 + 2 * σ 23 0) r2) 18 (5 + 2 * σ 23 0) d0) 19 (5 + 2 * σ 23 0) 0) 18 (6 + 2 * σ 23 0) d0) 19 (6 + 2 * σ 23 0) 0) 11 (6 + 2 * σ 23 0) = r2 := by rw [lup_k (by decide), lup_k (by decide), lup_k (by decide), lup_k (by decide)]; exact lup_s
  have p5b : (lup (lup (lup (lup (lup (lup (lup la 6 (σ 23 0) M) 11 (5 + 2 * σ 23 0) r1) 11 (6 + 2 * σ 23 0) r2) 18 (5 + 2 * σ 23 0) d0) 19 (5 + 2 * σ 23 0) 0) 18 (6 + 2 * σ 23 0) d0) 19 (6 + 2 * σ 23 0) 0) 18 (5 + 2 * σ 23 0) = d0 := by rw [lup_k (by decide), lup_n (fun z => by have z2 := z.2; omega), lup_k (by decide)]; exact lup_s
  have p6b : (lup (lup (lup (lup (lup (lup (lup la 6 (σ 23 0) M) 11 (5 + 2 * σ 23 0) r1) 11 (6 + 2 * σ 23 0) r2) 18 (5 + 2 * σ 23 0) d0) 19 (5 + 2 * σ 23 0) 0) 18 (6 + 2 * σ 23 0) d0) 19 (6 + 2 * σ 23 0) 0) 18 (6 + 2 * σ 23 0) = d0 := by rw [lup_k (by decide)]; exact lup_s
  have p5c : (lup (lup (lup (lup (lup (lup (lup la 6 (σ 23 0) M) 11 (5 + 2 * σ 23 0) r1) 11 (6 + 2 * σ 23 0) r2) 18 (5 + 2 * σ 23 0) d0) 19 (5 + 2 * σ 23 0) 0) 18 (6 + 2 * σ 23 0) d0) 19 (6 + 2 * σ 23 0) 0) 19 (5 + 2 * σ 23 0) = 0 := by rw [lup_n (fun z => by have z2 := z.2; omega), lup_k (by decide)]; exact lup_s
  have p6c : (lup (lup (lup (lup (lup (lup (lup la 6 (σ 23 0) M) 11 (5 + 2 * σ 23 0) r1) 11 (6 + 2 * σ 23 0) r2) 18 (5 + 2 * σ 23 0) d0) 19 (5 + 2 * σ 23 0) 0) 18 (6 + 2 * σ 23 0) d0) 19 (6 + 2 * σ 23 0) 0) 19 (6 + 2 * σ 23 0) = 0 := lup_s
  obtain ⟨σ1, hσ1⟩ : ∃ z, z = (up (up (up (up (up (up (up (up σ 12 (σ 23 0) kd) 13 (σ 23 0) 1) 14 (σ 23 0) mk) 18 (σ 23 0) 0) 57 (5 + 2 * σ 23 0) 0) 57 (6 + 2 * σ 23 0) 0) 59 0 1) 23 0 (σ 23 0 + 1)) := ⟨_, rfl⟩
  rw [← hσ1]
  have e5 : σ1 5 0 = σ 5 0 := by rw [hσ1]; first | rfl | (simp [up_rd]; done)
  have e11 : σ1 11 0 = σ 11 0 := by rw [hσ1]; first | rfl | (simp [up_rd]; done)
  have e23 : σ1 23 0 = (σ 23 0 + 1) := by rw [hσ1]; first | rfl | (simp [up_rd]; done)
  have e27 : σ1 27 0 = σ 27 0 := by rw [hσ1]; first | rfl | (simp [up_rd]; done)
  have e45 : σ1 45 0 = σ 45 0 := by rw [hσ1]; first | rfl | (simp [up_rd]; done)
  have e58 : σ1 58 0 = σ 58 0 := by rw [hσ1]; first | rfl | (simp [up_rd]; done)
  have e59 : σ1 59 0 = 1 := by rw [hσ1]; first | rfl | (simp [up_rd]; done)
  have e18 : ∀ j, σ1 18 j = (if j = (σ 23 0) then 0 else σ 18 j) := fun j => by rw [hσ1]; first | rfl | (simp [up_rd]; done)
  have e22 : ∀ j, σ1 22 j = σ 22 j := fun j => by rw [hσ1]; first | rfl | (simp [up_rd]; done)
  have hlv : ∀ (lb : Nat → Int → Nat) κ i, κ ≤ 17 → cLive lb σ1 κ i → cLive la σ κ i ∨ (fun κ i => (κ = 6 ∧ i = (σ 23 0)) ∨ (κ = 11 ∧ i = (5 + 2 * σ 23 0)) ∨ (κ = 11 ∧ i = (6 + 2 * σ 23 0))) κ i := by
    intro lb κ i hκ h
    rcases (show κ = 0 ∨ κ = 1 ∨ κ = 2 ∨ κ = 3 ∨ κ = 4 ∨ κ = 5 ∨ κ = 6 ∨ κ = 7 ∨ κ = 8 ∨ κ = 9 ∨ κ = 10 ∨ κ = 11 ∨ κ = 12 ∨ κ = 13 ∨ κ = 14 ∨ κ = 15 ∨ κ = 16 ∨ κ = 17 by omega) with rfl | rfl | rfl | rfl | rfl | rfl | rfl | rfl | rfl | rfl | rfl | rfl | rfl | rfl | rfl | rfl | rfl | rfl
    · have h2 : i = 0 := h
      exact Or.inl (show i = 0 by first | exact h2 | omega | (have q18 := e18 (i / 8); have q22 := e22 (i / 20); omega))
    · have h2 : i = 0 := h
      exact Or.inl (show i = 0 by first | exact h2 | omega | (have q18 := e18 (i / 8); have q22 := e22 (i / 20); omega))
    · have h2 : i = 0 := h
      exact Or.inl (show i = 0 by first | exact h2 | omega | (have q18 := e18 (i / 8); have q22 := e22 (i / 20); omega))
    · have h2 : i = 0 := h
      exact Or.inl (show i = 0 by first | exact h2 | omega | (have q18 := e18 (i / 8); have q22 := e22 (i / 20); omega))
    · have h2 : 0 ≤ i ∧ i < σ1 5 0 := h
      rw [e5] at h2
      exact Or.inl (show 0 ≤ i ∧ i < σ 5 0 by first | exact h2 | omega | (have q18 := e18 (i / 8); have q22 := e22 (i / 20); omega))
    · have h2 : 0 ≤ i ∧ i < σ1 11 0 := h
      rw [e11] at h2
      exact Or.inl (show 0 ≤ i ∧ i < σ 11 0 by first | exact h2 | omega | (have q18 := e18 (i / 8); have q22 := e22 (i / 20); omega))
    · have h2 : 0 ≤ i ∧ i < σ1 23 0 := h
      rw [e23] at h2
      by_cases hn9 : i = (σ 23 0)
      · exact Or.inr (by first | exact ⟨rfl, hn9⟩ | exact Or.inl ⟨rfl, hn9⟩ | exact Or.inr ⟨rfl, hn9⟩ | exact Or.inr (Or.inl ⟨rfl, hn9⟩) | exact Or.inr (Or.inr ⟨rfl, hn9⟩))
      exact Or.inl (show 0 ≤ i ∧ i < σ 23 0 by omega)
    · have h2 : 0 ≤ i ∧ i / 8 < σ1 23 0 ∧ i % 8 < σ1 18 (i / 8) := h
      rw [e23] at h2
      rw [e18] at h2
      by_cases hb9 : i / 8 = (σ 23 0)
      · rw [if_pos hb9] at h2
        have hb8 : σ 18 (i / 8) = σ 18 ((σ 23 0)) := by rw [hb9]
        exact Or.inl (show 0 ≤ i ∧ i / 8 < σ 23 0 ∧ i % 8 < σ 18 (i / 8) by omega)
      · rw [if_neg hb9] at h2
        exact Or.inl (show 0 ≤ i ∧ i / 8 < σ 23 0 ∧ i % 8 < σ 18 (i / 8) by omega)
    · have h2 : 0 ≤ i ∧ i / 20 < σ1 23 0 ∧ i % 20 < σ1 22 (i / 20) := h
      rw [e23] at h2
      exact Or.inl (show 0 ≤ i ∧ i / 20 < σ 23 0 ∧ i % 20 < σ 22 (i / 20) by 
        by_cases hb9 : i / 20 = σ 23 0
        · rw [e22, hb9, hz22] at h2; omega
        · rw [e22] at h2; omega)
    · have h2 : 0 ≤ i ∧ i < σ1 27 0 := h
      rw [e27] at h2
      exact Or.inl (show 0 ≤ i ∧ i < σ 27 0 by first | exact h2 | omega | (have q18 := e18 (i / 8); have q22 := e22 (i / 20); omega))
    · have h2 : 0 ≤ i ∧ i < σ1 45 0 := h
      rw [e45] at h2
      exact Or.inl (show 0 ≤ i ∧ i < σ 45 0 by first | exact h2 | omega | (have q18 := e18 (i / 8); have q22 := e22 (i / 20); omega))
    · have h2 : 0 ≤ i ∧ i < 5 + 2 * σ1 23 0 := h
      rw [e23] at h2
      by_cases hn9 : i = (5 + 2 * σ 23 0)
      · exact Or.inr (by first | exact ⟨rfl, hn9⟩ | exact Or.inl ⟨rfl, hn9⟩ | exact Or.inr ⟨rfl, hn9⟩ | exact Or.inr (Or.inl ⟨rfl, hn9⟩) | exact Or.inr (Or.inr ⟨rfl, hn9⟩))
      by_cases hn9 : i = (6 + 2 * σ 23 0)
      · exact Or.inr (by first | exact ⟨rfl, hn9⟩ | exact Or.inl ⟨rfl, hn9⟩ | exact Or.inr ⟨rfl, hn9⟩ | exact Or.inr (Or.inl ⟨rfl, hn9⟩) | exact Or.inr (Or.inr ⟨rfl, hn9⟩))
      exact Or.inl (show 0 ≤ i ∧ i < 5 + 2 * σ 23 0 by omega)
    · have h2 : i = 0 := h
      exact Or.inl (show i = 0 by first | exact h2 | omega | (have q18 := e18 (i / 8); have q22 := e22 (i / 20); omega))
    · have h2 : i = 0 := h
      exact Or.inl (show i = 0 by first | exact h2 | omega | (have q18 := e18 (i / 8); have q22 := e22 (i / 20); omega))
    · have h2 : i = 0 := h
      exact Or.inl (show i = 0 by first | exact h2 | omega | (have q18 := e18 (i / 8); have q22 := e22 (i / 20); omega))
    · have h2 : i = 0 := h
      exact Or.inl (show i = 0 by first | exact h2 | omega | (have q18 := e18 (i / 8); have q22 := e22 (i / 20); omega))
    · have h2 : 0 ≤ i ∧ i < σ1 5 0 := h
      rw [e5] at h2
      exact Or.inl (show 0 ≤ i ∧ i < σ 5 0 by first | exact h2 | omega | (have q18 := e18 (i / 8); have q22 := e22 (i / 20); omega))
    · have h2 : 0 ≤ i ∧ i < σ1 5 0 := h
      rw [e5] at h2
      exact Or.inl (show 0 ≤ i ∧ i < σ 5 0 by first | exact h2 | omega | (have q18 := e18 (i / 8); have q22 := e22 (i / 20); omega))
  have hnum : ∀ κ i, κ ≤ 11 → cLive la σ κ i → ¬ (κ = 11 ∧ i = (-1)) → ∀ k, k < cN κ → (sT κ k = 1 ∨ sT κ k = 2) → σ1 (sF κ k) i = σ (sF κ k) i := by
    intro κ i hκ h hn9 k hk ht
    rw [hσ1]
    rw [up_k hκ hk ht (fun z => by
      have hf := z.1
      have hi := z.2
      rw [show fK 23 = 99 by decide +kernel] at hf
      subst hf
      omega)]
    rw [up_k hκ hk ht (fun z => by
      have hf := z.1
      have hi := z.2
      rw [show fK 59 = 99 by decide +kernel] at hf
      subst hf
      omega)]
    rw [up_k hκ hk ht (fun z => by
      have hf := z.1
      have hi := z.2
      rw [show fK 57 = 11 by decide +kernel] at hf
      subst hf
      have hq : 0 ≤ i ∧ i < 5 + 2 * σ 23 0 := h
      omega)]
    rw [up_k hκ hk ht (fun z => by
      have hf := z.1
      have hi := z.2
      rw [show fK 57 = 11 by decide +kernel] at hf
      subst hf
      have hq : 0 ≤ i ∧ i < 5 + 2 * σ 23 0 := h
      omega)]
    rw [up_k hκ hk ht (fun z => by
      have hf := z.1
      have hi := z.2
      rw [show fK 18 = 99 by decide +kernel] at hf
      subst hf
      omega)]
    rw [up_k hκ hk ht (fun z => by
      have hf := z.1
      have hi := z.2
      rw [show fK 14 = 6 by decide +kernel] at hf
      subst hf
      have hq : 0 ≤ i ∧ i < σ 23 0 := h
      omega)]
    rw [up_k hκ hk ht (fun z => by
      have hf := z.1
      have hi := z.2
      rw [show fK 13 = 6 by decide +kernel] at hf
      subst hf
      have hq : 0 ≤ i ∧ i < σ 23 0 := h
      omega)]
    rw [up_k hκ hk ht (fun z => by
      have hf := z.1
      have hi := z.2
      rw [show fK 12 = 6 by decide +kernel] at hf
      subst hf
      have hq : 0 ≤ i ∧ i < σ 23 0 := h
      omega)]
  have hcw : cW σ1 := by rw [hσ1]; exact (cW_up (cW_up (cW_up (cW_up (cW_up (cW_up (cW_up (cW_up hC.2.2.2.2.2.1 (fun q => by first | omega | (have h9 := hmc (σ 23 0); omega) | cases q) (fun q => by first | omega | cases q)) (fun q => by first | omega | (have h9 := hmc (σ 23 0); omega) | cases q) (fun q => by first | omega | cases q)) (fun q => by first | omega | (have h9 := hmc (σ 23 0); omega) | cases q) (fun q => by first | omega | cases q)) (fun q => by first | omega | (have h9 := hmc (σ 23 0); omega) | cases q) (fun q => by first | omega | cases q)) (fun q => by first | omega | (have h9 := hmc (5 + 2 * σ 23 0); omega) | cases q) (fun q => by first | omega | cases q)) (fun q => by first | omega | (have h9 := hmc (6 + 2 * σ 23 0); omega) | cases q) (fun q => by first | omega | cases q)) (fun q => by first | omega | (have h9 := hmc 0; omega) | cases q) (fun q => by first | omega | cases q)) (fun q => by first | omega | (have h9 := hmc 0; omega) | cases q) (fun q => by first | omega | cases q))
  obtain ⟨lb, hlb⟩ : ∃ z, z = (lup (lup (lup (lup (lup (lup (lup la 6 (σ 23 0) M) 11 (5 + 2 * σ 23 0) r1) 11 (6 + 2 * σ 23 0) r2) 18 (5 + 2 * σ 23 0) d0) 19 (5 + 2 * σ 23 0) 0) 18 (6 + 2 * σ 23 0) d0) 19 (6 + 2 * σ 23 0) 0) := ⟨_, rfl⟩
  rw [← hlb]
  refine CP.ext (L0 := -1) (M := M) (N := (fun κ i => (κ = 6 ∧ i = (σ 23 0)) ∨ (κ = 11 ∧ i = (5 + 2 * σ 23 0)) ∨ (κ = 11 ∧ i = (6 + 2 * σ 23 0)))) hC hMl hAM hn23.1 hRf hcw (fun κ i a b => hlv lb κ i a b) (fun κ i z => by have z2 : (κ = 6 ∧ i = (σ 23 0)) ∨ (κ = 11 ∧ i = (5 + 2 * σ 23 0)) ∨ (κ = 11 ∧ i = (6 + 2 * σ 23 0)) := z; omega) (fun κ i a b9 => ?_) (fun κ i _ _ _ _ => rfl) hnum (fun i h9 => by rw [hσ1, up_f (by decide), up_f (by decide), up_f (by decide), up_f (by decide), up_f (by decide), up_f (by decide), up_f (by decide), up_f (by decide)]) (fun i h9 => by rw [hσ1, up_f (by decide), up_f (by decide), up_f (by decide), up_f (by decide), up_f (by decide), up_f (by decide), up_f (by decide), up_f (by decide)]) (fun i h9 => by rw [hσ1, up_f (by decide), up_f (by decide), up_f (by decide), up_f (by decide), up_f (by decide), up_f (by decide), up_f (by decide), up_f (by decide)]) (fun i h9 => by rw [hσ1, up_f (by decide), up_f (by decide), up_f (by decide), up_f (by decide), up_f (by decide), up_f (by decide), up_f (by decide), up_f (by decide)]) (fun i h9 => by rw [hσ1, up_f (by decide), up_f (by decide), up_f (by decide), up_f (by decide), up_f (by decide), up_f (by decide), up_f (by decide), up_f (by decide)]) (fun κ i a b c j hj => by rw [hσ1, aV_u (by decide) a b, aV_u (by decide) a b, aV_u (by decide) a b, aV_u (by decide) a b, aV_u (by decide) a b, aV_u (by decide) a b, aV_u (by decide) a b, aV_u (by decide) a b]) (fun L ha9 _ => ⟨(fun L a b => by
    have ha : 0 ≤ L ∧ L < 5 + 2 * σ 23 0 := a
    unfold cSz
    simp only [e5, e11, e23, e27, e45, e58, e59, e18, e22]
    repeat' split
    all_goals first | rfl | omega) L ha9 (by have h2 : 0 ≤ L ∧ L < 5 + 2 * σ 23 0 := ha9; omega), ?_, ?_, fun j hb0 hd9 => ?_⟩) (fun κ i ha9 z => ?_) (fun κ i ha9 hb0 z => ?_) (fun L z hb0 => ?_) (fun ha9 => by have h2 : 0 ≤ (-1 : Int) ∧ (-1 : Int) < 5 + 2 * σ 23 0 := ha9; omega) (fun z => by have z2 : (11 = 6 ∧ -1 = (σ 23 0)) ∨ (11 = 11 ∧ -1 = (5 + 2 * σ 23 0)) ∨ (11 = 11 ∧ -1 = (6 + 2 * σ 23 0)) := z; omega) (fun κ i z => ?_) (fun κ κ' i i' z z' e => ?_)
  · rcases (show κ = 6 ∨ κ = 11 ∨ (κ ≠ 6 ∧ κ ≠ 11) by omega) with rfl | rfl | hk
    · have hq : 0 ≤ i ∧ i < σ 23 0 := b9
      rw [hlb, lup_n (fun z => by have z1 := z.1; have z2 := z.2; omega), lup_n (fun z => by have z1 := z.1; have z2 := z.2; omega), lup_n (fun z => by have z1 := z.1; have z2 := z.2; omega), lup_n (fun z => by have z1 := z.1; have z2 := z.2; omega), lup_n (fun z => by have z1 := z.1; have z2 := z.2; omega), lup_n (fun z => by have z1 := z.1; have z2 := z.2; omega), lup_n (fun z => by have z1 := z.1; have z2 := z.2; omega)]
    · have hq : 0 ≤ i ∧ i < 5 + 2 * σ 23 0 := b9
      rw [hlb, lup_n (fun z => by have z1 := z.1; have z2 := z.2; omega), lup_n (fun z => by have z1 := z.1; have z2 := z.2; omega), lup_n (fun z => by have z1 := z.1; have z2 := z.2; omega), lup_n (fun z => by have z1 := z.1; have z2 := z.2; omega), lup_n (fun z => by have z1 := z.1; have z2 := z.2; omega), lup_n (fun z => by have z1 := z.1; have z2 := z.2; omega), lup_n (fun z => by have z1 := z.1; have z2 := z.2; omega)]
    · rw [hlb, lup_n (fun z => by have z1 := z.1; have z2 := z.2; omega), lup_n (fun z => by have z1 := z.1; have z2 := z.2; omega), lup_n (fun z => by have z1 := z.1; have z2 := z.2; omega), lup_n (fun z => by have z1 := z.1; have z2 := z.2; omega), lup_n (fun z => by have z1 := z.1; have z2 := z.2; omega), lup_n (fun z => by have z1 := z.1; have z2 := z.2; omega), lup_n (fun z => by have z1 := z.1; have z2 := z.2; omega)]
  · have hq : 0 ≤ L ∧ L < 5 + 2 * σ 23 0 := ha9
    rw [hlb, lup_n (fun z => by have z1 := z.1; have z2 := z.2; omega), lup_n (fun z => by have z1 := z.1; have z2 := z.2; omega), lup_n (fun z => by have z1 := z.1; have z2 := z.2; omega), lup_n (fun z => by have z1 := z.1; have z2 := z.2; omega), lup_n (fun z => by have z1 := z.1; have z2 := z.2; omega), lup_n (fun z => by have z1 := z.1; have z2 := z.2; omega), lup_n (fun z => by have z1 := z.1; have z2 := z.2; omega)]
  · have hq : 0 ≤ L ∧ L < 5 + 2 * σ 23 0 := ha9
    rw [hlb, lup_n (fun z => by have z1 := z.1; have z2 := z.2; omega), lup_n (fun z => by have z1 := z.1; have z2 := z.2; omega), lup_n (fun z => by have z1 := z.1; have z2 := z.2; omega), lup_n (fun z => by have z1 := z.1; have z2 := z.2; omega), lup_n (fun z => by have z1 := z.1; have z2 := z.2; omega), lup_n (fun z => by have z1 := z.1; have z2 := z.2; omega), lup_n (fun z => by have z1 := z.1; have z2 := z.2; omega)]
  · have ha : 0 ≤ L ∧ L < 5 + 2 * σ 23 0 := ha9
    rw [hlb, cEl_l (by decide), cEl_l (by decide), cEl_l (by decide), cEl_l (by decide), cEl_l (by decide), cEl_l (by decide)]
    unfold cEl
    by_cases q0 : L = 0
    · rw [if_pos q0, if_pos q0]; rfl
    by_cases q1 : L = 1
    · rw [if_neg q0, if_pos q1, if_neg q0, if_pos q1]; rfl
    by_cases q2 : L = 2
    · subst q2
      have hd8 : j < σ 23 0 - σ 59 0 := hd9
      rw [if_neg q0, if_neg q1, if_pos rfl, if_neg q0, if_neg q1, if_pos rfl]
      exact lup_n (fun z => by have z2 := z.2; omega)
    by_cases q3 : L = 3
    · rw [if_neg q0, if_neg q1, if_neg q2, if_pos q3, if_neg q0, if_neg q1, if_neg q2, if_pos q3]; rfl
    by_cases q4 : L = 4
    · rw [if_neg q0, if_neg q1, if_neg q2, if_neg q3, if_pos q4, if_neg q0, if_neg q1, if_neg q2, if_neg q3, if_pos q4]; rfl
    rw [if_neg q0, if_neg q1, if_neg q2, if_neg q3, if_neg q4, if_neg q0, if_neg q1, if_neg q2, if_neg q3, if_neg q4]
    by_cases q5 : (L - 5) % 2 = 0
    · rw [if_pos q5, if_pos q5]; rfl
    · rw [if_neg q5, if_neg q5]; rfl
  · have z2 : (κ = 6 ∧ i = (σ 23 0)) ∨ (κ = 11 ∧ i = (5 + 2 * σ 23 0)) ∨ (κ = 11 ∧ i = (6 + 2 * σ 23 0)) := z
    rcases z2 with ⟨rfl, rfl⟩ | ⟨rfl, rfl⟩ | ⟨rfl, rfl⟩
    · rw [hlb, p6]
      refine nO.to (fun k hk => ?_)
      have hk7 : k < 7 := hk
      have q12 : σ1 12 (σ 23 0) = kd := by rw [hσ1]; simp [up_rd]
      have q13 : σ1 13 (σ 23 0) = 1 := by rw [hσ1]; simp [up_rd]
      have q14 : σ1 14 (σ 23 0) = mk := by rw [hσ1]; simp [up_rd]
      have q15 : σ1 15 (σ 23 0) = 0 := by rw [hσ1]; simp [up_rd]; exact hz15
      rcases (show k = 0 ∨ k = 1 ∨ k = 2 ∨ k = 3 ∨ k = 4 ∨ k = 5 ∨ k = 6 by omega) with rfl | rfl | rfl | rfl | rfl | rfl | rfl
      · rfl
      · show _ = Value.int (iI (σ1 12 (σ 23 0))); rw [q12]; rfl
      · show _ = va_rf (some ((lup (lup (lup (lup (lup (lup (lup la 6 (σ 23 0) M) 11 (5 + 2 * σ 23 0) r1) 11 (6 + 2 * σ 23 0) r2) 18 (5 + 2 * σ 23 0) d0) 19 (5 + 2 * σ 23 0) 0) 18 (6 + 2 * σ 23 0) d0) 19 (6 + 2 * σ 23 0) 0) 11 (5 + 2 * σ 23 0))); rw [p5a]; rfl
      · show _ = va_rf (some ((lup (lup (lup (lup (lup (lup (lup la 6 (σ 23 0) M) 11 (5 + 2 * σ 23 0) r1) 11 (6 + 2 * σ 23 0) r2) 18 (5 + 2 * σ 23 0) d0) 19 (5 + 2 * σ 23 0) 0) 18 (6 + 2 * σ 23 0) d0) 19 (6 + 2 * σ 23 0) 0) 11 (6 + 2 * σ 23 0))); rw [p6a]; rfl
      · show _ = Value.int (iI (σ1 13 (σ 23 0))); rw [q13]; rfl
      · show _ = Value.int (iI (σ1 14 (σ 23 0))); rw [q14]; rfl
      · show _ = Value.int (iI (σ1 15 (σ 23 0))); rw [q15]; rfl
    · rw [hlb, p5a]
      refine n1.to (fun k hk => ?_)
      have hk3 : k < 3 := hk
      have q57 : σ1 57 (5 + 2 * σ 23 0) = 0 := by rw [hσ1]; simp [up_rd]
      rcases (show k = 0 ∨ k = 1 ∨ k = 2 by omega) with rfl | rfl | rfl
      · show _ = Value.int (iI (σ1 57 (5 + 2 * σ 23 0))); rw [q57]; rfl
      · show _ = va_rf (some ((lup (lup (lup (lup (lup (lup (lup la 6 (σ 23 0) M) 11 (5 + 2 * σ 23 0) r1) 11 (6 + 2 * σ 23 0) r2) 18 (5 + 2 * σ 23 0) d0) 19 (5 + 2 * σ 23 0) 0) 18 (6 + 2 * σ 23 0) d0) 19 (6 + 2 * σ 23 0) 0) 18 (5 + 2 * σ 23 0))); rw [p5b]; rfl
      · show _ = Value.int (iI (cSz σ1 (5 + 2 * σ 23 0))); rw [cSz_m hn23.1, e18, if_pos rfl]; rfl
    · rw [hlb, p6a]
      refine n2.to (fun k hk => ?_)
      have hk3 : k < 3 := hk
      have q57 : σ1 57 (6 + 2 * σ 23 0) = 0 := by rw [hσ1]; simp [up_rd]
      rcases (show k = 0 ∨ k = 1 ∨ k = 2 by omega) with rfl | rfl | rfl
      · show _ = Value.int (iI (σ1 57 (6 + 2 * σ 23 0))); rw [q57]; rfl
      · show _ = va_rf (some ((lup (lup (lup (lup (lup (lup (lup la 6 (σ 23 0) M) 11 (5 + 2 * σ 23 0) r1) 11 (6 + 2 * σ 23 0) r2) 18 (5 + 2 * σ 23 0) d0) 19 (5 + 2 * σ 23 0) 0) 18 (6 + 2 * σ 23 0) d0) 19 (6 + 2 * σ 23 0) 0) 18 (6 + 2 * σ 23 0))); rw [p6b]; rfl
      · show _ = Value.int (iI (cSz σ1 (6 + 2 * σ 23 0))); rw [cSz_p hn23.1, e22, hz22]; rfl
  · have z2 : (κ = 6 ∧ i = (σ 23 0)) ∨ (κ = 11 ∧ i = (5 + 2 * σ 23 0)) ∨ (κ = 11 ∧ i = (6 + 2 * σ 23 0)) := z; omega
  · have z2 : (11 = 6 ∧ L = (σ 23 0)) ∨ (11 = 11 ∧ L = (5 + 2 * σ 23 0)) ∨ (11 = 11 ∧ L = (6 + 2 * σ 23 0)) := z
    rcases z2 with ⟨e, -⟩ | ⟨-, rfl⟩ | ⟨-, rfl⟩
    · cases e
    · rw [hlb]
      exact ⟨by rw [cSz_m hn23.1, e18, if_pos rfl], p5c, p5b⟩
    · rw [hlb]
      exact ⟨by rw [cSz_p hn23.1, e22, hz22], p6c, p6b⟩
  · have z2 : (κ = 6 ∧ i = (σ 23 0)) ∨ (κ = 11 ∧ i = (5 + 2 * σ 23 0)) ∨ (κ = 11 ∧ i = (6 + 2 * σ 23 0)) := z
    rw [hlb]
    rcases z2 with ⟨rfl, rfl⟩ | ⟨rfl, rfl⟩ | ⟨rfl, rfl⟩
    · rw [p6]; omega
    · rw [p5a]; omega
    · rw [p6a]; omega
  · have z2 : (κ = 6 ∧ i = (σ 23 0)) ∨ (κ = 11 ∧ i = (5 + 2 * σ 23 0)) ∨ (κ = 11 ∧ i = (6 + 2 * σ 23 0)) := z
    have z3 : (κ' = 6 ∧ i' = (σ 23 0)) ∨ (κ' = 11 ∧ i' = (5 + 2 * σ 23 0)) ∨ (κ' = 11 ∧ i' = (6 + 2 * σ 23 0)) := z'
    rw [hlb] at e
    rcases z2 with ⟨rfl, rfl⟩ | ⟨rfl, rfl⟩ | ⟨rfl, rfl⟩ <;> rcases z3 with ⟨rfl, rfl⟩ | ⟨rfl, rfl⟩ | ⟨rfl, rfl⟩
    · exact ⟨rfl, rfl⟩
    · rw [p6, p5a] at e; omega
    · rw [p6, p6a] at e; omega
    · rw [p6, p5a] at e; omega
    · exact ⟨rfl, rfl⟩
    · rw [p5a, p6a] at e; omega
    · rw [p6, p6a] at e; omega
    · rw [p5a, p6a] at e; omega
    · exact ⟨rfl, rfl⟩
set_option maxHeartbeats 4000000 in
set_option maxRecDepth 100000 in
theorem g_mv {D : va_G} {cy : Nat → ClassId} {d0 : Nat} {A : Nat → Prop} {la : Nat → Int → Nat} {σ : MS} {H : Heap} {M : Nat} {H1 : Heap} {x : Nat} {f : Nat → Option Nat} {b h d : Int} (hC : CP D cy d0 A la σ H) (hMl : ∀ κ i, κ ≤ 18 → cLive la σ κ i → la κ i < M) (hAM : ∀ q, M ≤ q → A q) (hn5 : 0 ≤ σ 5 0 ∧ σ 5 0 ≤ 1000) (hn11 : 0 ≤ σ 11 0 ∧ σ 11 0 ≤ 1000) (hn23 : 0 ≤ σ 23 0 ∧ σ 23 0 ≤ 1000) (hn27 : 0 ≤ σ 27 0 ∧ σ 27 0 ≤ 1000) (hn45 : 0 ≤ σ 45 0 ∧ σ 45 0 ≤ 600) (hRf : cRefs σ) (hMH : M ≤ H.size) (hmc : ∀ L, 0 ≤ σ 57 L ∧ σ 57 L ≤ 1000000) (hb1 : 0 ≤ b ∧ b < σ 23 0) (hh1 : 0 ≤ h ∧ h < σ 11 0) (hr9 : 0 ≤ σ 18 b ∧ σ 18 b < 8) (hd9 : 0 ≤ d ∧ d ≤ 699) (hz18 : ∀ b, 0 ≤ σ 18 b ∧ σ 18 b ≤ 8) (hz22 : ∀ b, 0 ≤ σ 22 b ∧ σ 22 b ≤ 20) (hx9 : M ≤ x ∧ x < H.size) (nO : t_OB x (D.1 6) 2 (D.2 6) H (fun k => if k = 0 then .ref (la 5 h) else .int (iI d))) (hps : lPs D cy (la 11 (5 + 2 * b)) (la 18 (5 + 2 * b)) (la 19 (5 + 2 * b)) x (σ 57 (5 + 2 * b) + 1) (σ 18 b) f H H1) (hf : ∀ j : Nat, (j : Int) < (σ 18 b) → f j = some (cEl la (5 + 2 * b) j)) : ∃ r9 c9 : Nat, CP D cy d0 A (lup (lup (lup la 7 (8 * b + σ 18 b) x) 18 (5 + 2 * b) r9) 19 (5 + 2 * b) c9) (up (up (up (up σ 16 (8 * b + σ 18 b) h) 17 (8 * b + σ 18 b) d) 18 b (σ 18 b + 1)) 57 (5 + 2 * b) (σ 57 (5 + 2 * b) + 1)) H1 ∧ (c9 : Int) ≤ 1000 ∧ ∀ q, q < H.size → q ≠ la 11 (5 + 2 * b) → ¬ (0 < la 19 (5 + 2 * b) ∧ q = la 18 (5 + 2 * b)) → H1[q]? = H[q]? := by
  obtain ⟨σ1, hσ1⟩ : ∃ z, z = (up (up (up (up σ 16 (8 * b + σ 18 b) h) 17 (8 * b + σ 18 b) d) 18 b (σ 18 b + 1)) 57 (5 + 2 * b) (σ 57 (5 + 2 * b) + 1)) := ⟨_, rfl⟩
  rw [← hσ1]
  have e5 : σ1 5 0 = σ 5 0 := by rw [hσ1]; first | rfl | (simp [up_rd]; done)
  have e11 : σ1 11 0 = σ 11 0 := by rw [hσ1]; first | rfl | (simp [up_rd]; done)
  have e23 : σ1 23 0 = σ 23 0 := by rw [hσ1]; first | rfl | (simp [up_rd]; done)
  have e27 : σ1 27 0 = σ 27 0 := by rw [hσ1]; first | rfl | (simp [up_rd]; done)
  have e45 : σ1 45 0 = σ 45 0 := by rw [hσ1]; first | rfl | (simp [up_rd]; done)
  have e58 : σ1 58 0 = σ 58 0 := by rw [hσ1]; first | rfl | (simp [up_rd]; done)
  have e59 : σ1 59 0 = σ 59 0 := by rw [hσ1]; first | rfl | (simp [up_rd]; done)
  have e18 : ∀ j, σ1 18 j = (if j = b then (σ 18 b + 1) else σ 18 j) := fun j => by rw [hσ1]; first | rfl | (simp [up_rd]; done)
  have e22 : ∀ j, σ1 22 j = σ 22 j := fun j => by rw [hσ1]; first | rfl | (simp [up_rd]; done)
  have hlv : ∀ (lb : Nat → Int → Nat) κ i, κ ≤ 17 → cLive lb σ1 κ i → cLive la σ κ i ∨ (fun κ i => (κ = 7 ∧ i = (8 * b + σ 18 b))) κ i := by
    intro lb κ i hκ h
    rcases (show κ = 0 ∨ κ = 1 ∨ κ = 2 ∨ κ = 3 ∨ κ = 4 ∨ κ = 5 ∨ κ = 6 ∨ κ = 7 ∨ κ = 8 ∨ κ = 9 ∨ κ = 10 ∨ κ = 11 ∨ κ = 12 ∨ κ = 13 ∨ κ = 14 ∨ κ = 15 ∨ κ = 16 ∨ κ = 17 by omega) with rfl | rfl | rfl | rfl | rfl | rfl | rfl | rfl | rfl | rfl | rfl | rfl | rfl | rfl | rfl | rfl | rfl | rfl
    · have h2 : i = 0 := h
      exact Or.inl (show i = 0 by first | exact h2 | omega | (have q18 := e18 (i / 8); have q22 := e22 (i / 20); omega))
    · have h2 : i = 0 := h
      exact Or.inl (show i = 0 by first | exact h2 | omega | (have q18 := e18 (i / 8); have q22 := e22 (i / 20); omega))
    · have h2 : i = 0 := h
      exact Or.inl (show i = 0 by first | exact h2 | omega | (have q18 := e18 (i / 8); have q22 := e22 (i / 20); omega))
    · have h2 : i = 0 := h
      exact Or.inl (show i = 0 by first | exact h2 | omega | (have q18 := e18 (i / 8); have q22 := e22 (i / 20); omega))
    · have h2 : 0 ≤ i ∧ i < σ1 5 0 := h
      rw [e5] at h2
      exact Or.inl (show 0 ≤ i ∧ i < σ 5 0 by first | exact h2 | omega | (have q18 := e18 (i / 8); have q22 := e22 (i / 20); omega))
    · have h2 : 0 ≤ i ∧ i < σ1 11 0 := h
      rw [e11] at h2
      exact Or.inl (show 0 ≤ i ∧ i < σ 11 0 by first | exact h2 | omega | (have q18 := e18 (i / 8); have q22 := e22 (i / 20); omega))
    · have h2 : 0 ≤ i ∧ i < σ1 23 0 := h
      rw [e23] at h2
      exact Or.inl (show 0 ≤ i ∧ i < σ 23 0 by first | exact h2 | omega | (have q18 := e18 (i / 8); have q22 := e22 (i / 20); omega))
    · have h2 : 0 ≤ i ∧ i / 8 < σ1 23 0 ∧ i % 8 < σ1 18 (i / 8) := h
      rw [e23] at h2
      rw [e18] at h2
      by_cases hb9 : i / 8 = b
      · rw [if_pos hb9] at h2
        have hb8 : σ 18 (i / 8) = σ 18 (b) := by rw [hb9]
        by_cases hn9 : i = (8 * b + σ 18 b)
        · exact Or.inr (by first | exact ⟨rfl, hn9⟩ | exact Or.inl ⟨rfl, hn9⟩ | exact Or.inr ⟨rfl, hn9⟩)
        · exact Or.inl (show 0 ≤ i ∧ i / 8 < σ 23 0 ∧ i % 8 < σ 18 (i / 8) by omega)
      · rw [if_neg hb9] at h2
        exact Or.inl (show 0 ≤ i ∧ i / 8 < σ 23 0 ∧ i % 8 < σ 18 (i / 8) by omega)
    · have h2 : 0 ≤ i ∧ i / 20 < σ1 23 0 ∧ i % 20 < σ1 22 (i / 20) := h
      rw [e23] at h2
      exact Or.inl (show 0 ≤ i ∧ i / 20 < σ 23 0 ∧ i % 20 < σ 22 (i / 20) by first | exact h2 | omega | (have q18 := e18 (i / 8); have q22 := e22 (i / 20); omega))
    · have h2 : 0 ≤ i ∧ i < σ1 27 0 := h
      rw [e27] at h2
      exact Or.inl (show 0 ≤ i ∧ i < σ 27 0 by first | exact h2 | omega | (have q18 := e18 (i / 8); have q22 := e22 (i / 20); omega))
    · have h2 : 0 ≤ i ∧ i < σ1 45 0 := h
      rw [e45] at h2
      exact Or.inl (show 0 ≤ i ∧ i < σ 45 0 by first | exact h2 | omega | (have q18 := e18 (i / 8); have q22 := e22 (i / 20); omega))
    · have h2 : 0 ≤ i ∧ i < 5 + 2 * σ1 23 0 := h
      rw [e23] at h2
      exact Or.inl (show 0 ≤ i ∧ i < 5 + 2 * σ 23 0 by first | exact h2 | omega | (have q18 := e18 (i / 8); have q22 := e22 (i / 20); omega))
    · have h2 : i = 0 := h
      exact Or.inl (show i = 0 by first | exact h2 | omega | (have q18 := e18 (i / 8); have q22 := e22 (i / 20); omega))
    · have h2 : i = 0 := h
      exact Or.inl (show i = 0 by first | exact h2 | omega | (have q18 := e18 (i / 8); have q22 := e22 (i / 20); omega))
    · have h2 : i = 0 := h
      exact Or.inl (show i = 0 by first | exact h2 | omega | (have q18 := e18 (i / 8); have q22 := e22 (i / 20); omega))
    · have h2 : i = 0 := h
      exact Or.inl (show i = 0 by first | exact h2 | omega | (have q18 := e18 (i / 8); have q22 := e22 (i / 20); omega))
    · have h2 : 0 ≤ i ∧ i < σ1 5 0 := h
      rw [e5] at h2
      exact Or.inl (show 0 ≤ i ∧ i < σ 5 0 by first | exact h2 | omega | (have q18 := e18 (i / 8); have q22 := e22 (i / 20); omega))
    · have h2 : 0 ≤ i ∧ i < σ1 5 0 := h
      rw [e5] at h2
      exact Or.inl (show 0 ≤ i ∧ i < σ 5 0 by first | exact h2 | omega | (have q18 := e18 (i / 8); have q22 := e22 (i / 20); omega))
  have hnum : ∀ κ i, κ ≤ 11 → cLive la σ κ i → ¬ (κ = 11 ∧ i = (5 + 2 * b)) → ∀ k, k < cN κ → (sT κ k = 1 ∨ sT κ k = 2) → σ1 (sF κ k) i = σ (sF κ k) i := by
    intro κ i hκ h hn9 k hk ht
    rw [hσ1]
    rw [up_k hκ hk ht (fun z => by
      have hf := z.1
      have hi := z.2
      rw [show fK 57 = 11 by decide +kernel] at hf
      subst hf
      have hq : 0 ≤ i ∧ i < 5 + 2 * σ 23 0 := h
      omega)]
    rw [up_k hκ hk ht (fun z => by
      have hf := z.1
      have hi := z.2
      rw [show fK 18 = 99 by decide +kernel] at hf
      subst hf
      omega)]
    rw [up_k hκ hk ht (fun z => by
      have hf := z.1
      have hi := z.2
      rw [show fK 17 = 7 by decide +kernel] at hf
      subst hf
      have hq : 0 ≤ i ∧ i / 8 < σ 23 0 ∧ i % 8 < σ 18 (i / 8) := h
      have hd8 : i / 8 = b := by omega
      rw [hd8] at hq
      omega)]
    rw [up_k hκ hk ht (fun z => by
      have hf := z.1
      have hi := z.2
      rw [show fK 16 = 99 by decide +kernel] at hf
      subst hf
      omega)]
  have hcl0 : cLive la σ 11 (5 + 2 * b) := cl_11 (by omega)
  have hcw : cW σ1 := by rw [hσ1]; exact (cW_up (cW_up (cW_up (cW_up hC.2.2.2.2.2.1 (fun q => by first | omega | (have h9 := hmc (8 * b + σ 18 b); omega) | cases q) (fun q => by first | omega | cases q)) (fun q => by first | omega | (have h9 := hmc (8 * b + σ 18 b); omega) | cases q) (fun q => by first | omega | cases q)) (fun q => by first | omega | (have h9 := hmc b; omega) | cases q) (fun q => by first | omega | cases q)) (fun q => by first | omega | (have h9 := hmc (5 + 2 * b); omega) | cases q) (fun q => by first | omega | cases q))
  obtain ⟨r9, c9, hC9, hc9, hfr9⟩ := CP.addL (n := (σ 18 b)) (laN := (lup la 7 (8 * b + σ 18 b) x)) (σ' := σ1) (M := M) (N := (fun κ i => (κ = 7 ∧ i = (8 * b + σ 18 b)))) hC hMl hMH hAM hn23.1 hRf hcw hcl0 (by omega) (cSz_m hb1.1) hps (fun j hj => hf j hj) hlv (fun κ i z => by have z2 : (κ = 7 ∧ i = (8 * b + σ 18 b)) := z; first | omega | exact z2.elim) (fun L z => by have z2 : (11 = 7 ∧ L = (8 * b + σ 18 b)) := z; first | omega | exact z2.elim) (fun κ i a b9 => lup_n (fun z => by
    rcases z with ⟨rfl, rfl⟩
    have hq : 0 ≤ (8 * b + σ 18 b) ∧ (8 * b + σ 18 b) / 8 < σ 23 0 ∧ (8 * b + σ 18 b) % 8 < σ 18 ((8 * b + σ 18 b) / 8) := b9
    have hq2 : (8 * b + σ 18 b) / 8 = b := by omega
    rw [hq2] at hq
    omega)) (fun L => ⟨lup_k (by decide), lup_k (by decide)⟩) hnum (fun i h9 => by rw [hσ1, up_f (by decide), up_f (by decide), up_f (by decide), up_f (by decide)]) (fun i h9 => by rw [hσ1, up_f (by decide), up_f (by decide), up_f (by decide), up_o (fun z9 => by have hq : 0 ≤ i ∧ i / 8 < σ 23 0 ∧ i % 8 < σ 18 (i / 8) := h9; have hd8 : i / 8 = b := (by omega); rw [hd8] at hq; omega)]) (fun i h9 => by rw [hσ1, up_f (by decide), up_f (by decide), up_f (by decide), up_f (by decide)]) (fun i h9 => by rw [hσ1, up_f (by decide), up_f (by decide), up_f (by decide), up_f (by decide)]) (fun i h9 => by rw [hσ1, up_f (by decide), up_f (by decide), up_f (by decide), up_f (by decide)]) (fun κ i a b c j hj => by rw [hσ1, aV_u (by decide) a b, aV_u (by decide) a b, aV_u (by decide) a b, aV_u (by decide) a b]) (fun L a b => by
    have ha : 0 ≤ L ∧ L < 5 + 2 * σ 23 0 := a
    unfold cSz
    simp only [e5, e11, e23, e27, e45, e58, e59, e18, e22]
    repeat' split
    all_goals first | rfl | omega) (fun L j ha9 hb0 hd9 => by
    have ha : 0 ≤ L ∧ L < 5 + 2 * σ 23 0 := ha9
    have hbb := hz18 ((L - 5) / 2)
    unfold cSz at hd9
    unfold cEl
    by_cases q0 : L = 0
    · rw [if_pos q0, if_pos q0]; rfl
    by_cases q1 : L = 1
    · rw [if_neg q0, if_pos q1, if_neg q0, if_pos q1]; rfl
    by_cases q2 : L = 2
    · rw [if_neg q0, if_neg q1, if_pos q2, if_neg q0, if_neg q1, if_pos q2]; rfl
    by_cases q3 : L = 3
    · rw [if_neg q0, if_neg q1, if_neg q2, if_pos q3, if_neg q0, if_neg q1, if_neg q2, if_pos q3]; rfl
    by_cases q4 : L = 4
    · rw [if_neg q0, if_neg q1, if_neg q2, if_neg q3, if_pos q4, if_neg q0, if_neg q1, if_neg q2, if_neg q3, if_pos q4]; rfl
    rw [if_neg q0, if_neg q1, if_neg q2, if_neg q3, if_neg q4] at hd9
    rw [if_neg q0, if_neg q1, if_neg q2, if_neg q3, if_neg q4, if_neg q0, if_neg q1, if_neg q2, if_neg q3, if_neg q4]
    by_cases q5 : (L - 5) % 2 = 0
    · rw [if_pos q5] at hd9
      rw [if_pos q5, if_pos q5]
      exact lup_n (fun z => by
        have z2 := z.2
        by_cases hb9 : (L - 5) / 2 = b
        · rw [hb9] at hd9 z2; omega
        · omega)
    · rw [if_neg q5] at hd9
      rw [if_neg q5, if_neg q5]
      exact lup_n (fun z => by
        have z1 := z.1
        have z2 := z.2
        by_cases hb9 : (L - 5) / 2 = b
        · rw [hb9] at hd9 z2; omega
        · omega)) ((cSz_m hb1.1).trans (by rw [e18, if_pos rfl])) (by rw [hσ1]; exact up_s) (show cEl (lup la 7 (8 * b + σ 18 b) x) (5 + 2 * b) (σ 18 b) = x from (cEl_m hb1.1 _).trans lup_s) (fun lb hlb κ i ha9 z => by
    rcases z with ⟨rfl, rfl⟩
    rw [show (lup la 7 (8 * b + σ 18 b) x) 7 (8 * b + σ 18 b) = x from lup_s]
    refine nO.to (fun k hk => ?_)
    have hk10 : k < 2 := hk
    have q16 : σ1 16 (8 * b + σ 18 b) = h := by rw [hσ1]; simp [up_rd]
    have q17 : σ1 17 (8 * b + σ 18 b) = d := by rw [hσ1]; simp [up_rd]
    rcases (show k = 0 ∨ k = 1 by omega) with rfl | rfl
    · show _ = va_rf (some (lb 5 (σ1 16 (8 * b + σ 18 b)))); rw [q16, hlb 5 _ (by decide), lup_k (by decide)]; rfl
    · show _ = Value.int (iI (σ1 17 (8 * b + σ 18 b))); rw [q17]; rfl) (fun κ i ha9 hb0 z => by have z2 : (κ = 7 ∧ i = (8 * b + σ 18 b)) := z; omega) (fun κ i z => by rcases z with ⟨rfl, rfl⟩; rw [show (lup la 7 (8 * b + σ 18 b) x) 7 (8 * b + σ 18 b) = x from lup_s]; omega) (fun κ κ' i i' z z' e => by have z2 : (κ = 7 ∧ i = (8 * b + σ 18 b)) := z; have z3 : (κ' = 7 ∧ i' = (8 * b + σ 18 b)) := z'; omega)
  exact ⟨r9, c9, hC9, hc9, hfr9⟩
set_option maxHeartbeats 4000000 in
set_option maxRecDepth 100000 in
theorem g_bins {D : va_G} {cy : Nat → ClassId} {d0 : Nat} {A : Nat → Prop} {la : Nat → Int → Nat} {σ : MS} {H : Heap} {M : Nat} {H1 : Heap} {x : Nat} {f : Nat → Option Nat}  (hC : CP D cy d0 A la σ H) (hMl : ∀ κ i, κ ≤ 18 → cLive la σ κ i → la κ i < M) (hAM : ∀ q, M ≤ q → A q) (hn5 : 0 ≤ σ 5 0 ∧ σ 5 0 ≤ 1000) (hn11 : 0 ≤ σ 11 0 ∧ σ 11 0 ≤ 1000) (hn23 : 0 ≤ σ 23 0 ∧ σ 23 0 ≤ 1000) (hn27 : 0 ≤ σ 27 0 ∧ σ 27 0 ≤ 1000) (hn45 : 0 ≤ σ 45 0 ∧ σ 45 0 ≤ 600) (hRf : cRefs σ) (hMH : M ≤ H.size) (hmc : ∀ L, 0 ≤ σ 57 L ∧ σ 57 L ≤ 1000000) (hlag : σ 59 0 = 1) (hp : 0 < σ 23 0) (hx9 : la 6 (σ 23 0 - 1) = x) (hps : lPs D cy (la 11 2) (la 18 2) (la 19 2) x (σ 57 2 + 1) (σ 23 0 - 1) f H H1) (hf : ∀ j : Nat, (j : Int) < (σ 23 0 - 1) → f j = some (cEl la 2 j)) : ∃ r9 c9 : Nat, CP D cy d0 A (lup (lup la 18 2 r9) 19 2 c9) (up (up σ 59 0 0) 57 2 (σ 57 2 + 1)) H1 ∧ (c9 : Int) ≤ 1000 ∧ ∀ q, q < H.size → q ≠ la 11 2 → ¬ (0 < la 19 2 ∧ q = la 18 2) → H1[q]? = H[q]? := by
  obtain ⟨σ1, hσ1⟩ : ∃ z, z = (up (up σ 59 0 0) 57 2 (σ 57 2 + 1)) := ⟨_, rfl⟩
  rw [← hσ1]
  have e5 : σ1 5 0 = σ 5 0 := by rw [hσ1]; first | rfl | (simp [up_rd]; done)
  have e11 : σ1 11 0 = σ 11 0 := by rw [hσ1]; first | rfl | (simp [up_rd]; done)
  have e23 : σ1 23 0 = σ 23 0 := by rw [hσ1]; first | rfl | (simp [up_rd]; done)
  have e27 : σ1 27 0 = σ 27 0 := by rw [hσ1]; first | rfl | (simp [up_rd]; done)
  have e45 : σ1 45 0 = σ 45 0 := by rw [hσ1]; first | rfl | (simp [up_rd]; done)
  have e58 : σ1 58 0 = σ 58 0 := by rw [hσ1]; first | rfl | (simp [up_rd]; done)
  have e59 : σ1 59 0 = 0 := by rw [hσ1]; first | rfl | (simp [up_rd]; done)
  have e18 : ∀ j, σ1 18 j = σ 18 j := fun j => by rw [hσ1]; first | rfl | (simp [up_rd]; done)
  have e22 : ∀ j, σ1 22 j = σ 22 j := fun j => by rw [hσ1]; first | rfl | (simp [up_rd]; done)
  have hlv : ∀ (lb : Nat → Int → Nat) κ i, κ ≤ 17 → cLive lb σ1 κ i → cLive la σ κ i ∨ (fun κ i => False) κ i := by
    intro lb κ i hκ h
    rcases (show κ = 0 ∨ κ = 1 ∨ κ = 2 ∨ κ = 3 ∨ κ = 4 ∨ κ = 5 ∨ κ = 6 ∨ κ = 7 ∨ κ = 8 ∨ κ = 9 ∨ κ = 10 ∨ κ = 11 ∨ κ = 12 ∨ κ = 13 ∨ κ = 14 ∨ κ = 15 ∨ κ = 16 ∨ κ = 17 by omega) with rfl | rfl | rfl | rfl | rfl | rfl | rfl | rfl | rfl | rfl | rfl | rfl | rfl | rfl | rfl | rfl | rfl | rfl
    · have h2 : i = 0 := h
      exact Or.inl (show i = 0 by first | exact h2 | omega | (have q18 := e18 (i / 8); have q22 := e22 (i / 20); omega))
    · have h2 : i = 0 := h
      exact Or.inl (show i = 0 by first | exact h2 | omega | (have q18 := e18 (i / 8); have q22 := e22 (i / 20); omega))
    · have h2 : i = 0 := h
      exact Or.inl (show i = 0 by first | exact h2 | omega | (have q18 := e18 (i / 8); have q22 := e22 (i / 20); omega))
    · have h2 : i = 0 := h
      exact Or.inl (show i = 0 by first | exact h2 | omega | (have q18 := e18 (i / 8); have q22 := e22 (i / 20); omega))
    · have h2 : 0 ≤ i ∧ i < σ1 5 0 := h
      rw [e5] at h2
      exact Or.inl (show 0 ≤ i ∧ i < σ 5 0 by first | exact h2 | omega | (have q18 := e18 (i / 8); have q22 := e22 (i / 20); omega))
    · have h2 : 0 ≤ i ∧ i < σ1 11 0 := h
      rw [e11] at h2
      exact Or.inl (show 0 ≤ i ∧ i < σ 11 0 by first | exact h2 | omega | (have q18 := e18 (i / 8); have q22 := e22 (i / 20); omega))
    · have h2 : 0 ≤ i ∧ i < σ1 23 0 := h
      rw [e23] at h2
      exact Or.inl (show 0 ≤ i ∧ i < σ 23 0 by first | exact h2 | omega | (have q18 := e18 (i / 8); have q22 := e22 (i / 20); omega))
    · have h2 : 0 ≤ i ∧ i / 8 < σ1 23 0 ∧ i % 8 < σ1 18 (i / 8) := h
      rw [e23] at h2
      exact Or.inl (show 0 ≤ i ∧ i / 8 < σ 23 0 ∧ i % 8 < σ 18 (i / 8) by first | exact h2 | omega | (have q18 := e18 (i / 8); have q22 := e22 (i / 20); omega))
    · have h2 : 0 ≤ i ∧ i / 20 < σ1 23 0 ∧ i % 20 < σ1 22 (i / 20) := h
      rw [e23] at h2
      exact Or.inl (show 0 ≤ i ∧ i / 20 < σ 23 0 ∧ i % 20 < σ 22 (i / 20) by first | exact h2 | omega | (have q18 := e18 (i / 8); have q22 := e22 (i / 20); omega))
    · have h2 : 0 ≤ i ∧ i < σ1 27 0 := h
      rw [e27] at h2
      exact Or.inl (show 0 ≤ i ∧ i < σ 27 0 by first | exact h2 | omega | (have q18 := e18 (i / 8); have q22 := e22 (i / 20); omega))
    · have h2 : 0 ≤ i ∧ i < σ1 45 0 := h
      rw [e45] at h2
      exact Or.inl (show 0 ≤ i ∧ i < σ 45 0 by first | exact h2 | omega | (have q18 := e18 (i / 8); have q22 := e22 (i / 20); omega))
    · have h2 : 0 ≤ i ∧ i < 5 + 2 * σ1 23 0 := h
      rw [e23] at h2
      exact Or.inl (show 0 ≤ i ∧ i < 5 + 2 * σ 23 0 by first | exact h2 | omega | (have q18 := e18 (i / 8); have q22 := e22 (i / 20); omega))
    · have h2 : i = 0 := h
      exact Or.inl (show i = 0 by first | exact h2 | omega | (have q18 := e18 (i / 8); have q22 := e22 (i / 20); omega))
    · have h2 : i = 0 := h
      exact Or.inl (show i = 0 by first | exact h2 | omega | (have q18 := e18 (i / 8); have q22 := e22 (i / 20); omega))
    · have h2 : i = 0 := h
      exact Or.inl (show i = 0 by first | exact h2 | omega | (have q18 := e18 (i / 8); have q22 := e22 (i / 20); omega))
    · have h2 : i = 0 := h
      exact Or.inl (show i = 0 by first | exact h2 | omega | (have q18 := e18 (i / 8); have q22 := e22 (i / 20); omega))
    · have h2 : 0 ≤ i ∧ i < σ1 5 0 := h
      rw [e5] at h2
      exact Or.inl (show 0 ≤ i ∧ i < σ 5 0 by first | exact h2 | omega | (have q18 := e18 (i / 8); have q22 := e22 (i / 20); omega))
    · have h2 : 0 ≤ i ∧ i < σ1 5 0 := h
      rw [e5] at h2
      exact Or.inl (show 0 ≤ i ∧ i < σ 5 0 by first | exact h2 | omega | (have q18 := e18 (i / 8); have q22 := e22 (i / 20); omega))
  have hnum : ∀ κ i, κ ≤ 11 → cLive la σ κ i → ¬ (κ = 11 ∧ i = 2) → ∀ k, k < cN κ → (sT κ k = 1 ∨ sT κ k = 2) → σ1 (sF κ k) i = σ (sF κ k) i := by
    intro κ i hκ h hn9 k hk ht
    rw [hσ1]
    rw [up_k hκ hk ht (fun z => by
      have hf := z.1
      have hi := z.2
      rw [show fK 57 = 11 by decide +kernel] at hf
      subst hf
      have hq : 0 ≤ i ∧ i < 5 + 2 * σ 23 0 := h
      omega)]
    rw [up_k hκ hk ht (fun z => by
      have hf := z.1
      have hi := z.2
      rw [show fK 59 = 99 by decide +kernel] at hf
      subst hf
      omega)]
  have hcl0 : cLive la σ 11 2 := cl_11 (by omega)
  have hcw : cW σ1 := by rw [hσ1]; exact (cW_up (cW_up hC.2.2.2.2.2.1 (fun q => by first | omega | (have h9 := hmc 0; omega) | cases q) (fun q => by first | omega | cases q)) (fun q => by first | omega | (have h9 := hmc 2; omega) | cases q) (fun q => by first | omega | cases q))
  obtain ⟨r9, c9, hC9, hc9, hfr9⟩ := CP.addL (n := (σ 23 0 - 1)) (laN := la) (σ' := σ1) (M := M) (N := (fun κ i => False)) hC hMl hMH hAM hn23.1 hRf hcw hcl0 (by omega) (show σ 23 0 - σ 59 0 = σ 23 0 - 1 by omega) hps (fun j hj => hf j hj) hlv (fun κ i z => by have z2 : False := z; first | omega | exact z2.elim) (fun L z => by have z2 : False := z; first | omega | exact z2.elim) (fun κ i a b9 => rfl) (fun L => ⟨rfl, rfl⟩) hnum (fun i h9 => by rw [hσ1, up_f (by decide), up_f (by decide)]) (fun i h9 => by rw [hσ1, up_f (by decide), up_f (by decide)]) (fun i h9 => by rw [hσ1, up_f (by decide), up_f (by decide)]) (fun i h9 => by rw [hσ1, up_f (by decide), up_f (by decide)]) (fun i h9 => by rw [hσ1, up_f (by decide), up_f (by decide)]) (fun κ i a b c j hj => by rw [hσ1, aV_u (by decide) a b, aV_u (by decide) a b]) (fun L a b => by
    have ha : 0 ≤ L ∧ L < 5 + 2 * σ 23 0 := a
    unfold cSz
    simp only [e5, e11, e23, e27, e45, e58, e59, e18, e22]
    repeat' split
    all_goals first | rfl | omega) (fun L j ha9 hb0 hd9 => rfl) (show σ1 23 0 - σ1 59 0 = σ 23 0 - 1 + 1 by rw [e23, e59]; omega) (by rw [hσ1]; exact up_s) hx9 (fun lb hlb κ i ha9 z => False.elim (show False from z)) (fun κ i ha9 hb0 z => False.elim (show False from z)) (fun κ i z => False.elim (show False from z)) (fun κ κ' i i' z z' e => False.elim (show False from z))
  exact ⟨r9, c9, hC9, hc9, hfr9⟩
set_option maxHeartbeats 4000000 in
set_option maxRecDepth 100000 in
theorem g_tips {D : va_G} {cy : Nat → ClassId} {d0 : Nat} {A : Nat → Prop} {la : Nat → Int → Nat} {σ : MS} {H : Heap} {M : Nat} {H1 : Heap} {x : Nat} {f : Nat → Option Nat}  (hC : CP D cy d0 A la σ H) (hMl : ∀ κ i, κ ≤ 18 → cLive la σ κ i → la κ i < M) (hAM : ∀ q, M ≤ q → A q) (hn5 : 0 ≤ σ 5 0 ∧ σ 5 0 ≤ 1000) (hn11 : 0 ≤ σ 11 0 ∧ σ 11 0 ≤ 1000) (hn23 : 0 ≤ σ 23 0 ∧ σ 23 0 ≤ 1000) (hn27 : 0 ≤ σ 27 0 ∧ σ 27 0 ≤ 1000) (hn45 : 0 ≤ σ 45 0 ∧ σ 45 0 ≤ 600) (hRf : cRefs σ) (hMH : M ≤ H.size) (hmc : ∀ L, 0 ≤ σ 57 L ∧ σ 57 L ≤ 1000000) (hlag : σ 58 0 = 1) (hp : 0 < σ 45 0) (hx9 : la 10 (σ 45 0 - 1) = x) (hps : lPs D cy (la 11 4) (la 18 4) (la 19 4) x (σ 57 4 + 1) (σ 45 0 - 1) f H H1) (hf : ∀ j : Nat, (j : Int) < (σ 45 0 - 1) → f j = some (cEl la 4 j)) : ∃ r9 c9 : Nat, CP D cy d0 A (lup (lup la 18 4 r9) 19 4 c9) (up (up σ 58 0 0) 57 4 (σ 57 4 + 1)) H1 ∧ (c9 : Int) ≤ 1000 ∧ ∀ q, q < H.size → q ≠ la 11 4 → ¬ (0 < la 19 4 ∧ q = la 18 4) → H1[q]? = H[q]? := by
  obtain ⟨σ1, hσ1⟩ : ∃ z, z = (up (up σ 58 0 0) 57 4 (σ 57 4 + 1)) := ⟨_, rfl⟩
  rw [← hσ1]
  have e5 : σ1 5 0 = σ 5 0 := by rw [hσ1]; first | rfl | (simp [up_rd]; done)
  have e11 : σ1 11 0 = σ 11 0 := by rw [hσ1]; first | rfl | (simp [up_rd]; done)
  have e23 : σ1 23 0 = σ 23 0 := by rw [hσ1]; first | rfl | (simp [up_rd]; done)
  have e27 : σ1 27 0 = σ 27 0 := by rw [hσ1]; first | rfl | (simp [up_rd]; done)
  have e45 : σ1 45 0 = σ 45 0 := by rw [hσ1]; first | rfl | (simp [up_rd]; done)
  have e58 : σ1 58 0 = 0 := by rw [hσ1]; first | rfl | (simp [up_rd]; done)
  have e59 : σ1 59 0 = σ 59 0 := by rw [hσ1]; first | rfl | (simp [up_rd]; done)
  have e18 : ∀ j, σ1 18 j = σ 18 j := fun j => by rw [hσ1]; first | rfl | (simp [up_rd]; done)
  have e22 : ∀ j, σ1 22 j = σ 22 j := fun j => by rw [hσ1]; first | rfl | (simp [up_rd]; done)
  have hlv : ∀ (lb : Nat → Int → Nat) κ i, κ ≤ 17 → cLive lb σ1 κ i → cLive la σ κ i ∨ (fun κ i => False) κ i := by
    intro lb κ i hκ h
    rcases (show κ = 0 ∨ κ = 1 ∨ κ = 2 ∨ κ = 3 ∨ κ = 4 ∨ κ = 5 ∨ κ = 6 ∨ κ = 7 ∨ κ = 8 ∨ κ = 9 ∨ κ = 10 ∨ κ = 11 ∨ κ = 12 ∨ κ = 13 ∨ κ = 14 ∨ κ = 15 ∨ κ = 16 ∨ κ = 17 by omega) with rfl | rfl | rfl | rfl | rfl | rfl | rfl | rfl | rfl | rfl | rfl | rfl | rfl | rfl | rfl | rfl | rfl | rfl
    · have h2 : i = 0 := h
      exact Or.inl (show i = 0 by first | exact h2 | omega | (have q18 := e18 (i / 8); have q22 := e22 (i / 20); omega))
    · have h2 : i = 0 := h
      exact Or.inl (show i = 0 by first | exact h2 | omega | (have q18 := e18 (i / 8); have q22 := e22 (i / 20); omega))
    · have h2 : i = 0 := h
      exact Or.inl (show i = 0 by first | exact h2 | omega | (have q18 := e18 (i / 8); have q22 := e22 (i / 20); omega))
    · have h2 : i = 0 := h
      exact Or.inl (show i = 0 by first | exact h2 | omega | (have q18 := e18 (i / 8); have q22 := e22 (i / 20); omega))
    · have h2 : 0 ≤ i ∧ i < σ1 5 0 := h
      rw [e5] at h2
      exact Or.inl (show 0 ≤ i ∧ i < σ 5 0 by first | exact h2 | omega | (have q18 := e18 (i / 8); have q22 := e22 (i / 20); omega))
    · have h2 : 0 ≤ i ∧ i < σ1 11 0 := h
      rw [e11] at h2
      exact Or.inl (show 0 ≤ i ∧ i < σ 11 0 by first | exact h2 | omega | (have q18 := e18 (i / 8); have q22 := e22 (i / 20); omega))
    · have h2 : 0 ≤ i ∧ i < σ1 23 0 := h
      rw [e23] at h2
      exact Or.inl (show 0 ≤ i ∧ i < σ 23 0 by first | exact h2 | omega | (have q18 := e18 (i / 8); have q22 := e22 (i / 20); omega))
    · have h2 : 0 ≤ i ∧ i / 8 < σ1 23 0 ∧ i % 8 < σ1 18 (i / 8) := h
      rw [e23] at h2
      exact Or.inl (show 0 ≤ i ∧ i / 8 < σ 23 0 ∧ i % 8 < σ 18 (i / 8) by first | exact h2 | omega | (have q18 := e18 (i / 8); have q22 := e22 (i / 20); omega))
    · have h2 : 0 ≤ i ∧ i / 20 < σ1 23 0 ∧ i % 20 < σ1 22 (i / 20) := h
      rw [e23] at h2
      exact Or.inl (show 0 ≤ i ∧ i / 20 < σ 23 0 ∧ i % 20 < σ 22 (i / 20) by first | exact h2 | omega | (have q18 := e18 (i / 8); have q22 := e22 (i / 20); omega))
    · have h2 : 0 ≤ i ∧ i < σ1 27 0 := h
      rw [e27] at h2
      exact Or.inl (show 0 ≤ i ∧ i < σ 27 0 by first | exact h2 | omega | (have q18 := e18 (i / 8); have q22 := e22 (i / 20); omega))
    · have h2 : 0 ≤ i ∧ i < σ1 45 0 := h
      rw [e45] at h2
      exact Or.inl (show 0 ≤ i ∧ i < σ 45 0 by first | exact h2 | omega | (have q18 := e18 (i / 8); have q22 := e22 (i / 20); omega))
    · have h2 : 0 ≤ i ∧ i < 5 + 2 * σ1 23 0 := h
      rw [e23] at h2
      exact Or.inl (show 0 ≤ i ∧ i < 5 + 2 * σ 23 0 by first | exact h2 | omega | (have q18 := e18 (i / 8); have q22 := e22 (i / 20); omega))
    · have h2 : i = 0 := h
      exact Or.inl (show i = 0 by first | exact h2 | omega | (have q18 := e18 (i / 8); have q22 := e22 (i / 20); omega))
    · have h2 : i = 0 := h
      exact Or.inl (show i = 0 by first | exact h2 | omega | (have q18 := e18 (i / 8); have q22 := e22 (i / 20); omega))
    · have h2 : i = 0 := h
      exact Or.inl (show i = 0 by first | exact h2 | omega | (have q18 := e18 (i / 8); have q22 := e22 (i / 20); omega))
    · have h2 : i = 0 := h
      exact Or.inl (show i = 0 by first | exact h2 | omega | (have q18 := e18 (i / 8); have q22 := e22 (i / 20); omega))
    · have h2 : 0 ≤ i ∧ i < σ1 5 0 := h
      rw [e5] at h2
      exact Or.inl (show 0 ≤ i ∧ i < σ 5 0 by first | exact h2 | omega | (have q18 := e18 (i / 8); have q22 := e22 (i / 20); omega))
    · have h2 : 0 ≤ i ∧ i < σ1 5 0 := h
      rw [e5] at h2
      exact Or.inl (show 0 ≤ i ∧ i < σ 5 0 by first | exact h2 | omega | (have q18 := e18 (i / 8); have q22 := e22 (i / 20); omega))
  have hnum : ∀ κ i, κ ≤ 11 → cLive la σ κ i → ¬ (κ = 11 ∧ i = 4) → ∀ k, k < cN κ → (sT κ k = 1 ∨ sT κ k = 2) → σ1 (sF κ k) i = σ (sF κ k) i := by
    intro κ i hκ h hn9 k hk ht
    rw [hσ1]
    rw [up_k hκ hk ht (fun z => by
      have hf := z.1
      have hi := z.2
      rw [show fK 57 = 11 by decide +kernel] at hf
      subst hf
      have hq : 0 ≤ i ∧ i < 5 + 2 * σ 23 0 := h
      omega)]
    rw [up_k hκ hk ht (fun z => by
      have hf := z.1
      have hi := z.2
      rw [show fK 58 = 99 by decide +kernel] at hf
      subst hf
      omega)]
  have hcl0 : cLive la σ 11 4 := cl_11 (by omega)
  have hcw : cW σ1 := by rw [hσ1]; exact (cW_up (cW_up hC.2.2.2.2.2.1 (fun q => by first | omega | (have h9 := hmc 0; omega) | cases q) (fun q => by first | omega | cases q)) (fun q => by first | omega | (have h9 := hmc 4; omega) | cases q) (fun q => by first | omega | cases q))
  obtain ⟨r9, c9, hC9, hc9, hfr9⟩ := CP.addL (n := (σ 45 0 - 1)) (laN := la) (σ' := σ1) (M := M) (N := (fun κ i => False)) hC hMl hMH hAM hn23.1 hRf hcw hcl0 (by omega) (show σ 45 0 - σ 58 0 = σ 45 0 - 1 by omega) hps (fun j hj => hf j hj) hlv (fun κ i z => by have z2 : False := z; first | omega | exact z2.elim) (fun L z => by have z2 : False := z; first | omega | exact z2.elim) (fun κ i a b9 => rfl) (fun L => ⟨rfl, rfl⟩) hnum (fun i h9 => by rw [hσ1, up_f (by decide), up_f (by decide)]) (fun i h9 => by rw [hσ1, up_f (by decide), up_f (by decide)]) (fun i h9 => by rw [hσ1, up_f (by decide), up_f (by decide)]) (fun i h9 => by rw [hσ1, up_f (by decide), up_f (by decide)]) (fun i h9 => by rw [hσ1, up_f (by decide), up_f (by decide)]) (fun κ i a b c j hj => by rw [hσ1, aV_u (by decide) a b, aV_u (by decide) a b]) (fun L a b => by
    have ha : 0 ≤ L ∧ L < 5 + 2 * σ 23 0 := a
    unfold cSz
    simp only [e5, e11, e23, e27, e45, e58, e59, e18, e22]
    repeat' split
    all_goals first | rfl | omega) (fun L j ha9 hb0 hd9 => rfl) (show σ1 45 0 - σ1 58 0 = σ 45 0 - 1 + 1 by rw [e45, e58]; omega) (by rw [hσ1]; exact up_s) hx9 (fun lb hlb κ i ha9 z => False.elim (show False from z)) (fun κ i ha9 hb0 z => False.elim (show False from z)) (fun κ i z => False.elim (show False from z)) (fun κ κ' i i' z z' e => False.elim (show False from z))
  exact ⟨r9, c9, hC9, hc9, hfr9⟩
set_option maxHeartbeats 4000000 in
set_option maxRecDepth 100000 in
theorem g_tipA {D : va_G} {cy : Nat → ClassId} {d0 : Nat} {A : Nat → Prop} {la : Nat → Int → Nat} {σ : MS} {H : Heap} {M : Nat} {q mk : Int} (hC : CP D cy d0 A la σ H) (hMl : ∀ κ i, κ ≤ 18 → cLive la σ κ i → la κ i < M) (hAM : ∀ q, M ≤ q → A q) (hn5 : 0 ≤ σ 5 0 ∧ σ 5 0 ≤ 1000) (hn11 : 0 ≤ σ 11 0 ∧ σ 11 0 ≤ 1000) (hn23 : 0 ≤ σ 23 0 ∧ σ 23 0 ≤ 1000) (hn27 : 0 ≤ σ 27 0 ∧ σ 27 0 ≤ 1000) (hn45 : 0 ≤ σ 45 0 ∧ σ 45 0 ≤ 600) (hRf : cRefs σ) (hlg : σ 58 0 = 0 ∧ σ 59 0 = 0) (hq1 : 0 ≤ q ∧ q < σ 27 0) (hmk : -2147483648 ≤ mk ∧ mk < 2147483648) (ho1 : 0 ≤ σ 1 0 ∧ σ 1 0 ≤ 699) (hz : σ 39 (σ 45 0) = 0 ∧ σ 40 (σ 45 0) = 0 ∧ σ 41 (σ 45 0) = 0 ∧ σ 42 (σ 45 0) = 0 ∧ σ 43 (σ 45 0) = 0) (nO : t_OB M (D.1 10) 13 (D.2 10) H (fun k => if k = 0 then .int (iI (σ 1 0)) else if k = 1 then .ref (la 9 q) else if k = 2 then .int (iI mk) else if k = 3 then .int (iI 0) else if k = 4 then .null else if k = 5 then .int (iI 0) else if k = 6 then .int (iI 0) else if k = 7 then .int (iI 0) else if k = 8 then .int (iI (-1)) else if k = 9 then .int (iI 0) else if k = 10 then .int (iI 0) else if k = 11 then .int (iI 0) else .int (iI 0))) : CP D cy d0 A (lup la 10 (σ 45 0) M) (up (up (up (up (up (up (up (up (up (up σ 32 (σ 45 0) (σ 1 0)) 33 (σ 45 0) q) 34 (σ 45 0) mk) 35 (σ 45 0) 0) 36 (σ 45 0) (-1)) 37 (σ 45 0) 0) 38 (σ 45 0) 0) 44 (σ 45 0) (-1)) 58 0 1) 45 0 (σ 45 0 + 1)) H := by
  obtain ⟨σ1, hσ1⟩ : ∃ z, z = (up (up (up (up (up (up (up (up (up (up σ 32 (σ 45 0) (σ 1 0)) 33 (σ 45 0) q) 34 (σ 45 0) mk) 35 (σ 45 0) 0) 36 (σ 45 0) (-1)) 37 (σ 45 0) 0) 38 (σ 45 0) 0) 44 (σ 45 0) (-1)) 58 0 1) 45 0 (σ 45 0 + 1)) := ⟨_, rfl⟩
  rw [← hσ1]
  have e5 : σ1 5 0 = σ 5 0 := by rw [hσ1]; first | rfl | (simp [up_rd]; done)
  have e11 : σ1 11 0 = σ 11 0 := by rw [hσ1]; first | rfl | (simp [up_rd]; done)
  have e23 : σ1 23 0 = σ 23 0 := by rw [hσ1]; first | rfl | (simp [up_rd]; done)
  have e27 : σ1 27 0 = σ 27 0 := by rw [hσ1]; first | rfl | (simp [up_rd]; done)
  have e45 : σ1 45 0 = (σ 45 0 + 1) := by rw [hσ1]; first | rfl | (simp [up_rd]; done)
  have e58 : σ1 58 0 = 1 := by rw [hσ1]; first | rfl | (simp [up_rd]; done)
  have e59 : σ1 59 0 = σ 59 0 := by rw [hσ1]; first | rfl | (simp [up_rd]; done)
  have e18 : ∀ j, σ1 18 j = σ 18 j := fun j => by rw [hσ1]; first | rfl | (simp [up_rd]; done)
  have e22 : ∀ j, σ1 22 j = σ 22 j := fun j => by rw [hσ1]; first | rfl | (simp [up_rd]; done)
  have hlv : ∀ (lb : Nat → Int → Nat) κ i, κ ≤ 17 → cLive lb σ1 κ i → cLive la σ κ i ∨ (fun κ i => (κ = 10 ∧ i = (σ 45 0))) κ i := by
    intro lb κ i hκ h
    rcases (show κ = 0 ∨ κ = 1 ∨ κ = 2 ∨ κ = 3 ∨ κ = 4 ∨ κ = 5 ∨ κ = 6 ∨ κ = 7 ∨ κ = 8 ∨ κ = 9 ∨ κ = 10 ∨ κ = 11 ∨ κ = 12 ∨ κ = 13 ∨ κ = 14 ∨ κ = 15 ∨ κ = 16 ∨ κ = 17 by omega) with rfl | rfl | rfl | rfl | rfl | rfl | rfl | rfl | rfl | rfl | rfl | rfl | rfl | rfl | rfl | rfl | rfl | rfl
    · have h2 : i = 0 := h
      exact Or.inl (show i = 0 by first | exact h2 | omega | (have q18 := e18 (i / 8); have q22 := e22 (i / 20); omega))
    · have h2 : i = 0 := h
      exact Or.inl (show i = 0 by first | exact h2 | omega | (have q18 := e18 (i / 8); have q22 := e22 (i / 20); omega))
    · have h2 : i = 0 := h
      exact Or.inl (show i = 0 by first | exact h2 | omega | (have q18 := e18 (i / 8); have q22 := e22 (i / 20); omega))
    · have h2 : i = 0 := h
      exact Or.inl (show i = 0 by first | exact h2 | omega | (have q18 := e18 (i / 8); have q22 := e22 (i / 20); omega))
    · have h2 : 0 ≤ i ∧ i < σ1 5 0 := h
      rw [e5] at h2
      exact Or.inl (show 0 ≤ i ∧ i < σ 5 0 by first | exact h2 | omega | (have q18 := e18 (i / 8); have q22 := e22 (i / 20); omega))
    · have h2 : 0 ≤ i ∧ i < σ1 11 0 := h
      rw [e11] at h2
      exact Or.inl (show 0 ≤ i ∧ i < σ 11 0 by first | exact h2 | omega | (have q18 := e18 (i / 8); have q22 := e22 (i / 20); omega))
    · have h2 : 0 ≤ i ∧ i < σ1 23 0 := h
      rw [e23] at h2
      exact Or.inl (show 0 ≤ i ∧ i < σ 23 0 by first | exact h2 | omega | (have q18 := e18 (i / 8); have q22 := e22 (i / 20); omega))
    · have h2 : 0 ≤ i ∧ i / 8 < σ1 23 0 ∧ i % 8 < σ1 18 (i / 8) := h
      rw [e23] at h2
      exact Or.inl (show 0 ≤ i ∧ i / 8 < σ 23 0 ∧ i % 8 < σ 18 (i / 8) by first | exact h2 | omega | (have q18 := e18 (i / 8); have q22 := e22 (i / 20); omega))
    · have h2 : 0 ≤ i ∧ i / 20 < σ1 23 0 ∧ i % 20 < σ1 22 (i / 20) := h
      rw [e23] at h2
      exact Or.inl (show 0 ≤ i ∧ i / 20 < σ 23 0 ∧ i % 20 < σ 22 (i / 20) by first | exact h2 | omega | (have q18 := e18 (i / 8); have q22 := e22 (i / 20); omega))
    · have h2 : 0 ≤ i ∧ i < σ1 27 0 := h
      rw [e27] at h2
      exact Or.inl (show 0 ≤ i ∧ i < σ 27 0 by first | exact h2 | omega | (have q18 := e18 (i / 8); have q22 := e22 (i / 20); omega))
    · have h2 : 0 ≤ i ∧ i < σ1 45 0 := h
      rw [e45] at h2
      by_cases hn9 : i = (σ 45 0)
      · exact Or.inr (by first | exact ⟨rfl, hn9⟩ | exact Or.inl ⟨rfl, hn9⟩ | exact Or.inr ⟨rfl, hn9⟩ | exact Or.inr (Or.inl ⟨rfl, hn9⟩) | exact Or.inr (Or.inr ⟨rfl, hn9⟩))
      exact Or.inl (show 0 ≤ i ∧ i < σ 45 0 by omega)
    · have h2 : 0 ≤ i ∧ i < 5 + 2 * σ1 23 0 := h
      rw [e23] at h2
      exact Or.inl (show 0 ≤ i ∧ i < 5 + 2 * σ 23 0 by first | exact h2 | omega | (have q18 := e18 (i / 8); have q22 := e22 (i / 20); omega))
    · have h2 : i = 0 := h
      exact Or.inl (show i = 0 by first | exact h2 | omega | (have q18 := e18 (i / 8); have q22 := e22 (i / 20); omega))
    · have h2 : i = 0 := h
      exact Or.inl (show i = 0 by first | exact h2 | omega | (have q18 := e18 (i / 8); have q22 := e22 (i / 20); omega))
    · have h2 : i = 0 := h
      exact Or.inl (show i = 0 by first | exact h2 | omega | (have q18 := e18 (i / 8); have q22 := e22 (i / 20); omega))
    · have h2 : i = 0 := h
      exact Or.inl (show i = 0 by first | exact h2 | omega | (have q18 := e18 (i / 8); have q22 := e22 (i / 20); omega))
    · have h2 : 0 ≤ i ∧ i < σ1 5 0 := h
      rw [e5] at h2
      exact Or.inl (show 0 ≤ i ∧ i < σ 5 0 by first | exact h2 | omega | (have q18 := e18 (i / 8); have q22 := e22 (i / 20); omega))
    · have h2 : 0 ≤ i ∧ i < σ1 5 0 := h
      rw [e5] at h2
      exact Or.inl (show 0 ≤ i ∧ i < σ 5 0 by first | exact h2 | omega | (have q18 := e18 (i / 8); have q22 := e22 (i / 20); omega))
  have hnum : ∀ κ i, κ ≤ 11 → cLive la σ κ i → ¬ (κ = 11 ∧ i = (-1)) → ∀ k, k < cN κ → (sT κ k = 1 ∨ sT κ k = 2) → σ1 (sF κ k) i = σ (sF κ k) i := by
    intro κ i hκ h hn9 k hk ht
    rw [hσ1]
    rw [up_k hκ hk ht (fun z => by
      have hf := z.1
      have hi := z.2
      rw [show fK 45 = 99 by decide +kernel] at hf
      subst hf
      omega)]
    rw [up_k hκ hk ht (fun z => by
      have hf := z.1
      have hi := z.2
      rw [show fK 58 = 99 by decide +kernel] at hf
      subst hf
      omega)]
    rw [up_k hκ hk ht (fun z => by
      have hf := z.1
      have hi := z.2
      rw [show fK 44 = 10 by decide +kernel] at hf
      subst hf
      have hq : 0 ≤ i ∧ i < σ 45 0 := h
      omega)]
    rw [up_k hκ hk ht (fun z => by
      have hf := z.1
      have hi := z.2
      rw [show fK 38 = 10 by decide +kernel] at hf
      subst hf
      have hq : 0 ≤ i ∧ i < σ 45 0 := h
      omega)]
    rw [up_k hκ hk ht (fun z => by
      have hf := z.1
      have hi := z.2
      rw [show fK 37 = 10 by decide +kernel] at hf
      subst hf
      have hq : 0 ≤ i ∧ i < σ 45 0 := h
      omega)]
    rw [up_k hκ hk ht (fun z => by
      have hf := z.1
      have hi := z.2
      rw [show fK 36 = 99 by decide +kernel] at hf
      subst hf
      omega)]
    rw [up_k hκ hk ht (fun z => by
      have hf := z.1
      have hi := z.2
      rw [show fK 35 = 10 by decide +kernel] at hf
      subst hf
      have hq : 0 ≤ i ∧ i < σ 45 0 := h
      omega)]
    rw [up_k hκ hk ht (fun z => by
      have hf := z.1
      have hi := z.2
      rw [show fK 34 = 10 by decide +kernel] at hf
      subst hf
      have hq : 0 ≤ i ∧ i < σ 45 0 := h
      omega)]
    rw [up_k hκ hk ht (fun z => by
      have hf := z.1
      have hi := z.2
      rw [show fK 33 = 99 by decide +kernel] at hf
      subst hf
      omega)]
    rw [up_k hκ hk ht (fun z => by
      have hf := z.1
      have hi := z.2
      rw [show fK 32 = 10 by decide +kernel] at hf
      subst hf
      have hq : 0 ≤ i ∧ i < σ 45 0 := h
      omega)]
  have hcw : cW σ1 := by rw [hσ1]; exact (cW_up (cW_up (cW_up (cW_up (cW_up (cW_up (cW_up (cW_up (cW_up (cW_up hC.2.2.2.2.2.1 (fun q => by first | omega | (have h9 := hmc (σ 45 0); omega) | cases q) (fun q => by first | omega | cases q)) (fun q => by first | omega | (have h9 := hmc (σ 45 0); omega) | cases q) (fun q => by first | omega | cases q)) (fun q => by first | omega | (have h9 := hmc (σ 45 0); omega) | cases q) (fun q => by first | omega | cases q)) (fun q => by first | omega | (have h9 := hmc (σ 45 0); omega) | cases q) (fun q => by first | omega | cases q)) (fun q => by first | omega | (have h9 := hmc (σ 45 0); omega) | cases q) (fun q => by first | omega | cases q)) (fun q => by first | omega | (have h9 := hmc (σ 45 0); omega) | cases q) (fun q => by first | omega | cases q)) (fun q => by first | omega | (have h9 := hmc (σ 45 0); omega) | cases q) (fun q => by first | omega | cases q)) (fun q => by first | omega | (have h9 := hmc (σ 45 0); omega) | cases q) (fun q => by first | omega | cases q)) (fun q => by first | omega | (have h9 := hmc 0; omega) | cases q) (fun q => by first | omega | cases q)) (fun q => by first | omega | (have h9 := hmc 0; omega) | cases q) (fun q => by first | omega | cases q))
  obtain ⟨lb, hlb⟩ : ∃ z, z = (lup la 10 (σ 45 0) M) := ⟨_, rfl⟩
  rw [← hlb]
  refine CP.ext (L0 := -1) (M := M) (N := (fun κ i => (κ = 10 ∧ i = (σ 45 0)))) hC hMl hAM hn23.1 hRf hcw (fun κ i a b => hlv lb κ i a b) (fun κ i z => by have z2 : (κ = 10 ∧ i = (σ 45 0)) := z; omega) (fun κ i a b9 => ?_) (fun κ i _ _ _ _ => rfl) hnum (fun i h9 => by rw [hσ1, up_f (by decide), up_f (by decide), up_f (by decide), up_f (by decide), up_f (by decide), up_f (by decide), up_f (by decide), up_f (by decide), up_f (by decide), up_f (by decide)]) (fun i h9 => by rw [hσ1, up_f (by decide), up_f (by decide), up_f (by decide), up_f (by decide), up_f (by decide), up_f (by decide), up_f (by decide), up_f (by decide), up_f (by decide), up_f (by decide)]) (fun i h9 => by rw [hσ1, up_f (by decide), up_f (by decide), up_f (by decide), up_f (by decide), up_f (by decide), up_f (by decide), up_f (by decide), up_f (by decide), up_f (by decide), up_f (by decide)]) (fun i h9 => by rw [hσ1, up_f (by decide), up_f (by decide), up_f (by decide), up_f (by decide), up_f (by decide), up_f (by decide), up_f (by decide), up_f (by decide), up_o (fun z9 => by have hq : 0 ≤ i ∧ i < σ 45 0 := h9; omega), up_f (by decide)]) (fun i h9 => by rw [hσ1, up_f (by decide), up_f (by decide), up_f (by decide), up_f (by decide), up_f (by decide), up_o (fun z9 => by have hq : 0 ≤ i ∧ i < σ 45 0 := h9; omega), up_f (by decide), up_f (by decide), up_f (by decide), up_f (by decide)]) (fun κ i a b c j hj => by rw [hσ1, aV_u (by decide) a b, aV_u (by decide) a b, aV_u (by decide) a b, aV_u (by decide) a b, aV_u (by decide) a b, aV_u (by decide) a b, aV_u (by decide) a b, aV_u (by decide) a b, aV_u (by decide) a b, aV_u (by decide) a b]) (fun L ha9 _ => ⟨(fun L a b => by
    have ha : 0 ≤ L ∧ L < 5 + 2 * σ 23 0 := a
    unfold cSz
    simp only [e5, e11, e23, e27, e45, e58, e59, e18, e22]
    repeat' split
    all_goals first | rfl | omega) L ha9 (by have h2 : 0 ≤ L ∧ L < 5 + 2 * σ 23 0 := ha9; omega), ?_, ?_, fun j hb0 hd9 => ?_⟩) (fun κ i ha9 z => ?_) (fun κ i ha9 hb0 z => ?_) (fun L z hb0 => ?_) (fun ha9 => by have h2 : 0 ≤ (-1 : Int) ∧ (-1 : Int) < 5 + 2 * σ 23 0 := ha9; omega) (fun z => by have z2 : (11 = 10 ∧ -1 = (σ 45 0)) := z; omega) (fun κ i z => ?_) (fun κ κ' i i' z z' e => ?_)
  · rw [hlb]
    exact lup_n (fun z => by rcases z with ⟨rfl, rfl⟩; have hq : 0 ≤ σ 45 0 ∧ σ 45 0 < σ 45 0 := b9; omega)
  · rw [hlb, lup_k (by decide)]
  · rw [hlb, lup_k (by decide)]
  · rw [hlb]
    have ha : 0 ≤ L ∧ L < 5 + 2 * σ 23 0 := ha9
    unfold cEl
    by_cases q4 : L = 4
    · subst q4
      have hd8 : j < σ 45 0 - σ 58 0 := hd9
      exact lup_n (fun z => by have z2 := z.2; omega)
    · simp only [q4, if_false]
      rw [lup_k (show 4 ≠ 10 by decide), lup_k (show 5 ≠ 10 by decide), lup_k (show 6 ≠ 10 by decide), lup_k (show 9 ≠ 10 by decide), lup_k (show 7 ≠ 10 by decide), lup_k (show 8 ≠ 10 by decide)]
  · rcases z with ⟨rfl, rfl⟩
    rw [hlb, show (lup la 10 (σ 45 0) M) 10 (σ 45 0) = M from lup_s]
    refine nO.to (fun k hk => ?_)
    have hk10 : k < 13 := hk
    have q32 : σ1 32 (σ 45 0) = σ 1 0 := by rw [hσ1]; simp [up_rd]
    have q33 : σ1 33 (σ 45 0) = q := by rw [hσ1]; simp [up_rd]
    have q34 : σ1 34 (σ 45 0) = mk := by rw [hσ1]; simp [up_rd]
    have q35 : σ1 35 (σ 45 0) = 0 := by rw [hσ1]; simp [up_rd]
    have q36 : σ1 36 (σ 45 0) = -1 := by rw [hσ1]; simp [up_rd]
    have q37 : σ1 37 (σ 45 0) = 0 := by rw [hσ1]; simp [up_rd]
    have q38 : σ1 38 (σ 45 0) = 0 := by rw [hσ1]; simp [up_rd]
    have q39 : σ1 39 (σ 45 0) = 0 := by rw [hσ1]; simp [up_rd]; exact hz.1
    have q40 : σ1 40 (σ 45 0) = 0 := by rw [hσ1]; simp [up_rd]; exact hz.2.1
    have q41 : σ1 41 (σ 45 0) = 0 := by rw [hσ1]; simp [up_rd]; exact hz.2.2.1
    have q42 : σ1 42 (σ 45 0) = 0 := by rw [hσ1]; simp [up_rd]; exact hz.2.2.2.1
    have q43 : σ1 43 (σ 45 0) = 0 := by rw [hσ1]; simp [up_rd]; exact hz.2.2.2.2
    have q44 : σ1 44 (σ 45 0) = -1 := by rw [hσ1]; simp [up_rd]
    rcases (show k = 0 ∨ k = 1 ∨ k = 2 ∨ k = 3 ∨ k = 4 ∨ k = 5 ∨ k = 6 ∨ k = 7 ∨ k = 8 ∨ k = 9 ∨ k = 10 ∨ k = 11 ∨ k = 12 by omega) with rfl | rfl | rfl | rfl | rfl | rfl | rfl | rfl | rfl | rfl | rfl | rfl | rfl
    · show _ = Value.int (iI (σ1 32 (σ 45 0))); rw [q32]; rfl
    · show _ = va_rf (some ((lup la 10 (σ 45 0) M) 9 (σ1 33 (σ 45 0)))); rw [q33, lup_k (by decide)]; rfl
    · show _ = Value.int (iI (σ1 34 (σ 45 0))); rw [q34]; rfl
    · show _ = Value.int (iI (σ1 35 (σ 45 0))); rw [q35]; rfl
    · show _ = va_rf (if σ1 36 (σ 45 0) < 0 then none else some ((lup la 10 (σ 45 0) M) 6 (σ1 36 (σ 45 0)))); rw [q36]; rfl
    · show _ = Value.int (iI (σ1 37 (σ 45 0))); rw [q37]; rfl
    · show _ = Value.int (iI (σ1 38 (σ 45 0))); rw [q38]; rfl
    · show _ = Value.int (iI (σ1 39 (σ 45 0))); rw [q39]; rfl
    · show _ = Value.int (iI (σ1 44 (σ 45 0))); rw [q44]; rfl
    · show _ = Value.int (iI (σ1 40 (σ 45 0))); rw [q40]; rfl
    · show _ = Value.int (iI (σ1 41 (σ 45 0))); rw [q41]; rfl
    · show _ = Value.int (iI (σ1 42 (σ 45 0))); rw [q42]; rfl
    · show _ = Value.int (iI (σ1 43 (σ 45 0))); rw [q43]; rfl
  · have z2 : (κ = 10 ∧ i = (σ 45 0)) := z; omega
  · have z2 : (11 = 10 ∧ L = (σ 45 0)) := z; omega
  · rcases z with ⟨rfl, rfl⟩
    rw [hlb, show (lup la 10 (σ 45 0) M) 10 (σ 45 0) = M from lup_s]; omega
  · have z2 : (κ = 10 ∧ i = (σ 45 0)) := z; have z3 : (κ' = 10 ∧ i' = (σ 45 0)) := z'; omega
