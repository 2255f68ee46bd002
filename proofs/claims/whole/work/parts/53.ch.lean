abbrev eq5 (σ τ : MS) : Prop := ∀ f : Nat, f < 50 ∨ 57 < f → τ f = σ f
theorem eq5_q {σ τ : MS} (h : eq5 σ τ) : cLq σ τ := ⟨h _ (by decide), h _ (by decide), h _ (by decide), h _ (by decide), h _ (by decide), h _ (by decide), h _ (by decide)⟩
theorem sHouse_5 {σ τ : MS} (h : eq5 σ τ) (b d : Int) : sHouse τ b d = sHouse σ b d := sHouse_c (h 16 (by decide)) (h 17 (by decide)) (h 18 (by decide)) b d
theorem c_ownerOn_n5 (l : Launch) (D : va_G) (cy : Nat → ClassId) (d0 : Nat) (A : Nat → Prop) (la : Nat → Int → Nat) (σ τ : MS) (he : eq5 σ τ) {b d : Int} (hb : 0 ≤ b ∧ b < σ 23 0) (hd : -2147483648 ≤ d ∧ d < 2147483648) (hm : 0 ≤ σ 18 b ∧ σ 18 b ≤ 8) (hv : ∀ j, 0 ≤ σ 16 j) (hx : sHouse σ b d < 0) : CM l yX0_ownerOn wsX0_ownerOn ({ frames := 3, cells := 0, slots := 0, locals := 64 } : Room) D cy d0 A [.ref (la 6 b), .int (iI d)] la τ (some .null) τ True :=
  c_ownerOn_n l D cy d0 A la τ (by rw [he 23 (by decide)]; exact hb) hd (by rw [he 18 (by decide)]; exact hm) (by rw [he 16 (by decide)]; exact hv) (by rw [sHouse_5 he]; exact hx)
theorem c_ownerOn_r5 (l : Launch) (D : va_G) (cy : Nat → ClassId) (d0 : Nat) (A : Nat → Prop) (la : Nat → Int → Nat) (σ τ : MS) (he : eq5 σ τ) {b d : Int} (hb : 0 ≤ b ∧ b < σ 23 0) (hd : -2147483648 ≤ d ∧ d < 2147483648) (hm : 0 ≤ σ 18 b ∧ σ 18 b ≤ 8) (hv : ∀ j, 0 ≤ σ 16 j) (hx : ¬ sHouse σ b d < 0) : CM l yX0_ownerOn wsX0_ownerOn ({ frames := 3, cells := 0, slots := 0, locals := 64 } : Room) D cy d0 A [.ref (la 6 b), .int (iI d)] la τ (some (.ref (la 5 (sHouse σ b d)))) τ True := by
  have h := c_ownerOn_r l D cy d0 A la τ (b := b) (d := d) (by rw [he 23 (by decide)]; exact hb) hd (by rw [he 18 (by decide)]; exact hm) (by rw [he 16 (by decide)]; exact hv) (by rw [sHouse_5 he]; exact hx)
  rw [sHouse_5 he] at h
  exact h
theorem zW_5 {σ : MS} (n : Nat) : eq5 σ (zW σ n) := fun f hf => zW_f (by omega) (by omega) n
theorem zW_0 {σ : MS} : ∀ (n : Nat) (h : Int), 0 ≤ h → h < n → zW σ n 51 h = 0 ∧ zW σ n 52 h = 0
  | 0, h, h1, h2 => by omega
  | n + 1, h, h1, h2 => by
    rw [zW]
    by_cases e : h = n
    · subst e
      exact ⟨up_s, by rw [up_f (by decide)]; exact up_s⟩
    · have h3 := zW_0 (σ := σ) n h h1 (by omega)
      exact ⟨by rw [up_o e, up_f (by decide)]; exact h3.1, by rw [up_f (by decide), up_o e]; exact h3.2⟩
theorem spW_w {σ : MS} {b d h : Int} (h0 : σ 51 h = 0) : ∀ n : Nat, spW σ b d n 51 h = sWt σ b h d n
  | 0 => by rw [spW, sWt]; exact h0
  | n + 1 => by
    have ih := spW_w (b := b) (d := d) h0 n
    rw [spW, sWt]
    by_cases hd : σ 21 (20 * b + (n : Int)) ≤ d
    · rw [if_pos hd]
      by_cases hh : σ 19 (20 * b + (n : Int)) = h
      · rw [if_pos ⟨hh, hd⟩, hh]; exact up_s
      · rw [if_neg (fun z => hh z.1), up_o (Ne.symm hh)]; exact ih
    · rw [if_neg hd, if_neg (fun z => hd z.2)]; exact ih
theorem sWt_5 {σ τ : MS} (he : eq5 σ τ) (b h d : Int) : ∀ n : Nat, sWt τ b h d n = sWt σ b h d n
  | 0 => rfl
  | n + 1 => by rw [sWt, sWt, he 19 (by decide), he 20 (by decide), he 21 (by decide), sWt_5 he b h d n]
theorem sSum_c {f g : Int → Int} : ∀ n : Nat, (∀ j : Int, 0 ≤ j → j < n → f j = g j) → sSum f n = sSum g n
  | 0, _ => rfl
  | n + 1, h => by rw [sSum, sSum, sSum_c n (fun j a b => h j a (by omega)), h n (by omega) (by omega)]
theorem sSum_Aw {σ : MS} {t : Int} : ∀ n : Nat, sSum (fun h => sWeight σ (σ 36 t) h (σ 32 t)) n = sAw σ t n
  | 0 => rfl
  | n + 1 => by rw [sSum, sAw, sSum_Aw n]
/-- houses' parts laid for the first n houses: c shared by weights among all -/
def pS (τ : MS) (c all : Int) : Nat → MS
  | 0 => τ
  | n + 1 => up (pS τ c all n) 52 (n : Int) (c * τ 51 (n : Int) / all)
theorem pS_s {τ : MS} {c all k : Int} (h : 0 ≤ k) : pS τ c all (k + 1).toNat = up (pS τ c all k.toNat) 52 k (c * τ 51 k / all) := by
  rw [show (k + 1).toNat = k.toNat + 1 by omega, pS, Int.toNat_of_nonneg h]
theorem pS_f {τ : MS} {c all : Int} {f : Nat} (hf : f ≠ 52) : ∀ n : Nat, pS τ c all n f = τ f
  | 0 => rfl
  | n + 1 => by rw [pS, up_f hf, pS_f hf n]
theorem pS_q {τ : MS} {c all : Int} (n : Nat) : cLq τ (pS τ c all n) := ⟨pS_f (by decide) n, pS_f (by decide) n, pS_f (by decide) n, pS_f (by decide) n, pS_f (by decide) n, pS_f (by decide) n, pS_f (by decide) n⟩
theorem pS_v {τ : MS} {c all : Int} : ∀ (n : Nat) (h : Int), 0 ≤ h → h < n → pS τ c all n 52 h = c * τ 51 h / all
  | 0, h, h1, h2 => by omega
  | n + 1, h, h1, h2 => by
    rw [pS]
    by_cases e : h = n
    · subst e; exact up_s
    · rw [up_o e]; exact pS_v n h h1 (by omega)
/-- what is left over, given one by one to those with weight -/
def lO (τ : MS) : Nat → MS
  | 0 => τ
  | n + 1 => if 0 < τ 51 (n : Int) then up (lO τ n) 52 (n : Int) (τ 52 (n : Int) + 1) else lO τ n
theorem lO_s {τ : MS} {k : Int} (h : 0 ≤ k) : lO τ (k + 1).toNat = if 0 < τ 51 k then up (lO τ k.toNat) 52 k (τ 52 k + 1) else lO τ k.toNat := by
  rw [show (k + 1).toNat = k.toNat + 1 by omega, lO, Int.toNat_of_nonneg h]
theorem lO_f {τ : MS} {f : Nat} (hf : f ≠ 52) : ∀ n : Nat, lO τ n f = τ f
  | 0 => rfl
  | n + 1 => by
    rw [lO]
    split
    · rw [up_f hf, lO_f hf n]
    · exact lO_f hf n
theorem lO_q {τ : MS} (n : Nat) : cLq τ (lO τ n) := ⟨lO_f (by decide) n, lO_f (by decide) n, lO_f (by decide) n, lO_f (by decide) n, lO_f (by decide) n, lO_f (by decide) n, lO_f (by decide) n⟩
theorem lO_v {τ : MS} : ∀ (n : Nat) (h : Int), lO τ n 52 h = if 0 ≤ h ∧ h < n ∧ 0 < τ 51 h then τ 52 h + 1 else τ 52 h
  | 0, h => by rw [lO, if_neg (by omega)]
  | n + 1, h => by
    have ih := lO_v (τ := τ) n h
    rw [lO]
    by_cases hw : 0 < τ 51 (n : Int)
    · rw [if_pos hw]
      by_cases e : h = n
      · subst e; rw [up_s, if_pos ⟨by omega, by omega, hw⟩]
      · rw [up_o e, ih]
        by_cases c1 : 0 ≤ h ∧ h < n ∧ 0 < τ 51 h
        · rw [if_pos c1, if_pos ⟨c1.1, by omega, c1.2.2⟩]
        · rw [if_neg c1, if_neg (fun z => c1 ⟨z.1, by omega, z.2.2⟩)]
    · rw [if_neg hw, ih]
      by_cases c1 : 0 ≤ h ∧ h < n ∧ 0 < τ 51 h
      · rw [if_pos c1, if_pos ⟨c1.1, by omega, c1.2.2⟩]
      · rw [if_neg c1, if_neg (fun z => c1 ⟨z.1, by have : ¬ h = n := fun e => hw (e ▸ z.2.2); omega, z.2.2⟩)]
/-- how many of the first n have weight; what is left after the first n parts -/
def cA (τ : MS) : Nat → Int
  | 0 => 0
  | n + 1 => cA τ n + (if 0 < τ 51 (n : Int) then 1 else 0)
def cL (τ : MS) (c all : Int) : Nat → Int
  | 0 => c
  | n + 1 => cL τ c all n - c * τ 51 (n : Int) / all
theorem cA_s {τ : MS} {k : Int} (h : 0 ≤ k) : cA τ (k + 1).toNat = cA τ k.toNat + (if 0 < τ 51 k then 1 else 0) := by
  rw [show (k + 1).toNat = k.toNat + 1 by omega, cA, Int.toNat_of_nonneg h]
theorem cL_s {τ : MS} {c all k : Int} (h : 0 ≤ k) : cL τ c all (k + 1).toNat = cL τ c all k.toNat - c * τ 51 k / all := by
  rw [show (k + 1).toNat = k.toNat + 1 by omega, cL, Int.toNat_of_nonneg h]
theorem cA_m {τ : MS} : ∀ (a b : Nat), cA τ a ≤ cA τ (a + b)
  | a, 0 => Int.le_refl _
  | a, b + 1 => by
    have := cA_m (τ := τ) a b
    rw [show a + (b + 1) = (a + b) + 1 by omega, cA]
    split <;> omega
theorem cA_r {τ : MS} : ∀ n : Nat, 0 ≤ cA τ n ∧ cA τ n ≤ n
  | 0 => by simp [cA]
  | n + 1 => by
    have := cA_r (τ := τ) n
    rw [cA]
    split <;> omega
theorem cL_r {τ : MS} {c all : Int} (hc : 0 ≤ c ∧ c ≤ 300000100000) (ha : 0 < all) (hw : ∀ h, 0 ≤ h → 0 ≤ τ 51 h ∧ τ 51 h ≤ 1000) : ∀ n : Nat, c - 300000100000000 * n ≤ cL τ c all n ∧ cL τ c all n ≤ c
  | 0 => by simp [cL]
  | n + 1 => by
    have h1 := cL_r hc ha hw n
    have h2 := div_r (cw_r hc (hw n (by omega))) ha
    rw [cL]
    omega
