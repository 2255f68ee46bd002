theorem cR_bn {la : Nat → Int → Nat} {τ σ : MS} {t : Int} (e : τ 36 t = σ 36 t) (h : σ 36 t < 0) : cR la τ 10 t 4 = none := by
  show (if τ 36 t < 0 then none else some (la 6 (τ 36 t))) = none
  rw [e, if_pos h]
theorem cR_br {la : Nat → Int → Nat} {τ σ : MS} {t : Int} (e : τ 36 t = σ 36 t) (h : ¬ σ 36 t < 0) : cR la τ 10 t 4 = some (la 6 (σ 36 t)) := by
  show (if τ 36 t < 0 then none else some (la 6 (τ 36 t))) = some (la 6 (σ 36 t))
  rw [e, if_neg h]
abbrev eq5 (σ τ : MS) : Prop := ∀ f : Nat, f < 50 ∨ 57 < f → τ f = σ f
theorem eq5_q {σ τ : MS} (h : eq5 σ τ) : cLq σ τ := ⟨h _ (by decide), h _ (by decide), h _ (by decide), h _ (by decide), h _ (by decide), h _ (by decide), h _ (by decide)⟩
theorem sHouse_5 {σ τ : MS} (h : eq5 σ τ) (b d : Int) : sHouse τ b d = sHouse σ b d := sHouse_c (h 16 (by decide)) (h 17 (by decide)) (h 18 (by decide)) b d
theorem c_ownerOn_n5 (l : Launch) (D : va_G) (cy : Nat → ClassId) (d0 : Nat) (A : Nat → Prop) (la : Nat → Int → Nat) (σ τ : MS) (he : eq5 σ τ) {b d : Int} (hb : 0 ≤ b ∧ b < σ 23 0) (hd : -2147483648 ≤ d ∧ d < 2147483648) (hm : 0 ≤ σ 18 b ∧ σ 18 b ≤ 8) (hv : ∀ j, 0 ≤ σ 16 j) (hx : sHouse σ b d < 0) : CM l yX0_ownerOn wsX0_ownerOn ({ frames := 3, cells := 0, slots := 0, locals := 64 } : Room) D cy d0 A [.ref (la 6 b), .int (iI d)] la τ (some .null) τ True :=
  c_ownerOn_n l D cy d0 A la τ (by rw [he 23 (by decide)]; exact hb) hd (by rw [he 18 (by decide)]; exact hm) (by rw [he 16 (by decide)]; exact hv) (by rw [sHouse_5 he]; exact hx)
theorem c_ownerOn_r5 (l : Launch) (D : va_G) (cy : Nat → ClassId) (d0 : Nat) (A : Nat → Prop) (la : Nat → Int → Nat) (σ τ : MS) (he : eq5 σ τ) {b d : Int} (hb : 0 ≤ b ∧ b < σ 23 0) (hd : -2147483648 ≤ d ∧ d < 2147483648) (hm : 0 ≤ σ 18 b ∧ σ 18 b ≤ 8) (hv : ∀ j, 0 ≤ σ 16 j) (hx : ¬ sHouse σ b d < 0) : CM l yX0_ownerOn wsX0_ownerOn ({ frames := 3, cells := 0, slots := 0, locals := 64 } : Room) D cy d0 A [.ref (la 6 b), .int (iI d)] la τ (some (.ref (la 5 (sHouse σ b d)))) τ True := by
  have h := c_ownerOn_r l D cy d0 A la τ (b := b) (d := d) (by rw [he 23 (by decide)]; exact hb) hd (by rw [he 18 (by decide)]; exact hm) (by rw [he 16 (by decide)]; exact hv) (by rw [sHouse_5 he]; exact hx)
  rw [sHouse_5 he] at h
  exact h
theorem zW_5 {σ : MS} (n : Nat) : eq5 σ (zW σ n) := fun f hf => zW_f (by omega) (by omega) n
theorem zW_0 {σ : MS} : ∀ (n : Nat) (h : Int), 0 ≤ h → h < n → zW σ n 51 h = 0 ∧ zW σ n 52 h = 0
  | 0, h, h1, h2 => by omega
  | n + 1, h, h1, h2 => by
    rw [zW]
    by_cases e : h = n
    · subst e
      exact ⟨up_s, by rw [up_f (by decide)]; exact up_s⟩
    · have h3 := zW_0 (σ := σ) n h h1 (by omega)
      exact ⟨by rw [up_o e, up_f (by decide)]; exact h3.1, by rw [up_f (by decide), up_o e]; exact h3.2⟩
theorem spW_w {σ : MS} {b d h : Int} (h0 : σ 51 h = 0) : ∀ n : Nat, spW σ b d n 51 h = sWt σ b h d n
  | 0 => by rw [spW, sWt]; exact h0
  | n + 1 => by
    have ih := spW_w (b := b) (d := d) h0 n
    rw [spW, sWt]
    by_cases hd : σ 21 (20 * b + (n : Int)) ≤ d
    · rw [if_pos hd]
      by_cases hh : σ 19 (20 * b + (n : Int)) = h
      · rw [if_pos ⟨hh, hd⟩, hh]; exact up_s
      · rw [if_neg (fun z => hh z.1), up_o (Ne.symm hh)]; exact ih
    · rw [if_neg hd, if_neg (fun z => hd z.2)]; exact ih
theorem sWt_5 {σ τ : MS} (he : eq5 σ τ) (b h d : Int) : ∀ n : Nat, sWt τ b h d n = sWt σ b h d n
  | 0 => rfl
  | n + 1 => by rw [sWt, sWt, he 19 (by decide), he 20 (by decide), he 21 (by decide), sWt_5 he b h d n]
theorem sSum_c {f g : Int → Int} : ∀ n : Nat, (∀ j : Int, 0 ≤ j → j < n → f j = g j) → sSum f n = sSum g n
  | 0, _ => rfl
  | n + 1, h => by rw [sSum, sSum, sSum_c n (fun j a b => h j a (by omega)), h n (by omega) (by omega)]
theorem sSum_Aw {σ : MS} {t : Int} : ∀ n : Nat, sSum (fun h => sWeight σ (σ 36 t) h (σ 32 t)) n = sAw σ t n
  | 0 => rfl
  | n + 1 => by rw [sSum, sAw, sSum_Aw n]
/-- houses' parts laid for the first n houses: c shared by weights among all -/
def pS (τ : MS) (c all : Int) : Nat → MS
  | 0 => τ
  | n + 1 => up (pS τ c all n) 52 (n : Int) (c * τ 51 (n : Int) / all)
theorem pS_s {τ : MS} {c all k : Int} (h : 0 ≤ k) : pS τ c all (k + 1).toNat = up (pS τ c all k.toNat) 52 k (c * τ 51 k / all) := by
  rw [show (k + 1).toNat = k.toNat + 1 by omega, pS, Int.toNat_of_nonneg h]
theorem pS_f {τ : MS} {c all : Int} {f : Nat} (hf : f ≠ 52) : ∀ n : Nat, pS τ c all n f = τ f
  | 0 => rfl
  | n + 1 => by rw [pS, up_f hf, pS_f hf n]
theorem pS_q {τ : MS} {c all : Int} (n : Nat) : cLq τ (pS τ c all n) := ⟨pS_f (by decide) n, pS_f (by decide) n, pS_f (by decide) n, pS_f (by decide) n, pS_f (by decide) n, pS_f (by decide) n, pS_f (by decide) n⟩
theorem pS_v {τ : MS} {c all : Int} : ∀ (n : Nat) (h : Int), 0 ≤ h → h < n → pS τ c all n 52 h = c * τ 51 h / all
  | 0, h, h1, h2 => by omega
  | n + 1, h, h1, h2 => by
    rw [pS]
    by_cases e : h = n
    · subst e; exact up_s
    · rw [up_o e]; exact pS_v n h h1 (by omega)
/-- what is left over, given one by one to those with weight -/
def lO (τ : MS) : Nat → MS
  | 0 => τ
  | n + 1 => if 0 < τ 51 (n : Int) then up (lO τ n) 52 (n : Int) (τ 52 (n : Int) + 1) else lO τ n
theorem lO_s {τ : MS} {k : Int} (h : 0 ≤ k) : lO τ (k + 1).toNat = if 0 < τ 51 k then up (lO τ k.toNat) 52 k (τ 52 k + 1) else lO τ k.toNat := by
  rw [show (k + 1).toNat = k.toNat + 1 by omega, lO, Int.toNat_of_nonneg h]
theorem lO_f {τ : MS} {f : Nat} (hf : f ≠ 52) : ∀ n : Nat, lO τ n f = τ f
  | 0 => rfl
  | n + 1 => by
    rw [lO]
    split
    · rw [up_f hf, lO_f hf n]
    · exact lO_f hf n
theorem lO_q {τ : MS} (n : Nat) : cLq τ (lO τ n) := ⟨lO_f (by decide) n, lO_f (by decide) n, lO_f (by decide) n, lO_f (by decide) n, lO_f (by decide) n, lO_f (by decide) n, lO_f (by decide) n⟩
theorem lO_v {τ : MS} : ∀ (n : Nat) (h : Int), lO τ n 52 h = if 0 ≤ h ∧ h < n ∧ 0 < τ 51 h then τ 52 h + 1 else τ 52 h
  | 0, h => by rw [lO, if_neg (by omega)]
  | n + 1, h => by
    have ih := lO_v (τ := τ) n h
    rw [lO]
    by_cases hw : 0 < τ 51 (n : Int)
    · rw [if_pos hw]
      by_cases e : h = n
      · subst e; rw [up_s, if_pos ⟨by omega, by omega, hw⟩]
      · rw [up_o e, ih]
        by_cases c1 : 0 ≤ h ∧ h < n ∧ 0 < τ 51 h
        · rw [if_pos c1, if_pos ⟨c1.1, by omega, c1.2.2⟩]
        · rw [if_neg c1, if_neg (fun z => c1 ⟨z.1, by omega, z.2.2⟩)]
    · rw [if_neg hw, ih]
      by_cases c1 : 0 ≤ h ∧ h < n ∧ 0 < τ 51 h
      · rw [if_pos c1, if_pos ⟨c1.1, by omega, c1.2.2⟩]
      · rw [if_neg c1, if_neg (fun z => c1 ⟨z.1, by have : ¬ h = n := fun e => hw (e ▸ z.2.2); omega, z.2.2⟩)]
/-- how many of the first n have weight; what is left after the first n parts -/
def cA (τ : MS) : Nat → Int
  | 0 => 0
  | n + 1 => cA τ n + (if 0 < τ 51 (n : Int) then 1 else 0)
def cL (τ : MS) (c all : Int) : Nat → Int
  | 0 => c
  | n + 1 => cL τ c all n - c * τ 51 (n : Int) / all
theorem cA_s {τ : MS} {k : Int} (h : 0 ≤ k) : cA τ (k + 1).toNat = cA τ k.toNat + (if 0 < τ 51 k then 1 else 0) := by
  rw [show (k + 1).toNat = k.toNat + 1 by omega, cA, Int.toNat_of_nonneg h]
theorem cL_s {τ : MS} {c all k : Int} (h : 0 ≤ k) : cL τ c all (k + 1).toNat = cL τ c all k.toNat - c * τ 51 k / all := by
  rw [show (k + 1).toNat = k.toNat + 1 by omega, cL, Int.toNat_of_nonneg h]
theorem cA_m {τ : MS} : ∀ (a b : Nat), cA τ a ≤ cA τ (a + b)
  | a, 0 => Int.le_refl _
  | a, b + 1 => by
    have := cA_m (τ := τ) a b
    rw [show a + (b + 1) = (a + b) + 1 by omega, cA]
    split <;> omega
theorem cA_r {τ : MS} : ∀ n : Nat, 0 ≤ cA τ n ∧ cA τ n ≤ n
  | 0 => by simp [cA]
  | n + 1 => by
    have := cA_r (τ := τ) n
    rw [cA]
    split <;> omega
theorem cL_r {τ : MS} {c all m : Int} (hc : 0 ≤ c ∧ c ≤ 300000100000) (ha : 0 < all) (hw : ∀ h, 0 ≤ h → h < m → 0 ≤ τ 51 h ∧ τ 51 h ≤ 1000) : ∀ n : Nat, (n : Int) ≤ m → c - 300000100000000 * n ≤ cL τ c all n ∧ cL τ c all n ≤ c
  | 0, _ => by simp [cL]
  | n + 1, hn => by
    have h1 := cL_r hc ha hw n (by omega)
    have h2 := div_r (cw_r hc (hw n (by omega) (by omega))) ha
    rw [cL]
    omega
theorem cA_c {σ τ : MS} (h : τ 51 = σ 51) : ∀ n : Nat, cA τ n = cA σ n
  | 0 => rfl
  | n + 1 => by rw [cA, cA, cA_c h n, h]
theorem lO_end {π : MS} {LL n k : Int} (hk : 0 ≤ k ∧ k ≤ n) (hinv : ∀ j, 0 ≤ j → j < k → 0 < π 51 j → cA π j.toNat < LL) (hx : k = n ∨ LL ≤ cA π k.toNat) (h : Int) (h1 : 0 ≤ h ∧ h < n) : lO π k.toNat 52 h = π 52 h + (if 0 < π 51 h ∧ cA π h.toNat < LL then 1 else 0) := by
  rw [lO_v]
  by_cases hh : h < k
  · by_cases hw : 0 < π 51 h
    · rw [if_pos ⟨h1.1, by omega, hw⟩, if_pos ⟨hw, hinv h h1.1 hh hw⟩]
    · rw [if_neg (fun z => hw z.2.2), if_neg (fun z => hw z.1), Int.add_zero]
  · rcases hx with hx | hx
    · omega
    · have h2 := cA_m (τ := π) k.toNat (h.toNat - k.toNat)
      rw [show k.toNat + (h.toNat - k.toNat) = h.toNat by omega] at h2
      rw [if_neg (by omega), if_neg (by omega), Int.add_zero]
theorem cA_w {σ ω : MS} {t m : Int} (hw : ∀ h, 0 ≤ h → h < m → ω 51 h = sWeight σ (σ 36 t) h (σ 32 t)) : ∀ n : Nat, (n : Int) ≤ m → cA ω n = sAh σ t n
  | 0, _ => rfl
  | n + 1, hn => by rw [cA, sAh, cA_w hw n (by omega), hw n (by omega) (by omega)]
theorem cL_w {σ ω : MS} {t m c all : Int} (hw : ∀ h, 0 ≤ h → h < m → ω 51 h = sWeight σ (σ 36 t) h (σ 32 t)) : ∀ n : Nat, (n : Int) ≤ m → cL ω c all n = sLf σ t c all n
  | 0, _ => rfl
  | n + 1, hn => by rw [cL, sLf, cL_w hw n (by omega), hw n (by omega) (by omega)]
theorem sSum_n {f : Int → Int} {M m : Int} (h : ∀ j, 0 ≤ j → j < m → 0 ≤ f j ∧ f j ≤ M) : ∀ n : Nat, (n : Int) ≤ m → 0 ≤ sSum f n ∧ sSum f n ≤ M * n
  | 0, _ => by simp [sSum]
  | n + 1, hn => by
    have h1 := sSum_n h n (by omega)
    have h2 := h n (by omega) (by omega)
    have h3 : M * ((n + 1 : Nat) : Int) = M * n + M := by
      rw [show ((n + 1 : Nat) : Int) = (n : Int) + 1 by omega, Int.mul_add, Int.mul_one]
    rw [sSum, h3]
    omega
set_option maxHeartbeats 4000000 in
set_option maxRecDepth 100000 in
theorem c_splitByWeights (l : Launch) (D : va_G) (cy : Nat → ClassId) (d0 : Nat) (A : Nat → Prop) (la : Nat → Int → Nat) (σ : MS) {b d x al : Int} {ω : MS} (hωe : ω = spW σ b d (σ 22 b).toNat) (hal : al = sSum (ω 51) (σ 11 0).toNat) (hb : 0 ≤ b ∧ b < σ 23 0) (hd : -2147483648 ≤ d ∧ d < 2147483648) (hx : 0 ≤ x ∧ x ≤ 300000100000) (hm22 : 0 ≤ σ 22 b ∧ σ 22 b ≤ 20) (hv19 : ∀ j, 0 ≤ σ 19 j ∧ σ 19 j < σ 11 0) (hn11 : 0 ≤ σ 11 0 ∧ σ 11 0 ≤ 1000) (hn23 : 0 ≤ σ 23 0 ∧ σ 23 0 ≤ 1000) (hal9 : 0 ≤ al ∧ al ≤ 1000000) (hw51 : ∀ h, 0 ≤ h → h < σ 11 0 → 0 ≤ ω 51 h ∧ ω 51 h ≤ 1000) : CN l yX10_splitByWeights wsX10_splitByWeights ({ frames := 4, cells := 0, slots := 0, locals := 87 } : Room) D cy d0 A [.ref (la 0 0), .ref (la 6 b), .int (iI d), .long (lI x)] la σ (fun v' la' τ => v' = some (.long (lI (if 0 < al then x else 0))) ∧ la' = la ∧ (∀ q, q ≠ 51 → q ≠ 52 → τ q = σ q) ∧ (¬ 0 < al → τ 52 = σ 52) ∧ (0 < al → ∀ h, 0 ≤ h → h < σ 11 0 → τ 52 h = x * ω 51 h / al + (if 0 < ω 51 h ∧ cA ω h.toNat < cL ω x al (σ 11 0).toNat then 1 else 0))) 0 0 := by
  refine cn_of (cc := cX10_splitByWeights) (nL := 11) (ret := (some .long)) (by decide) rfl (Nat.le_of_ble_eq_true rfl) ?_
  intro p e s m args below meth c ls E hr hlk hK hC hS hl
  have B := E.1
  have hml := E.2.1
  have hown := E.2.2.1
  have hts0 := E.2.2.2.1
  have hts := E.2.2.2.1
  have hw := hC.2.2.2.2.2.1
  have hsp := c_spreadWeights l D cy d0 A la σ (b := b) (d := d) hb hd hm22 hv19
  rw [← hωe] at hsp
  have hω : ∀ f, f ≠ 51 → ω f = σ f := fun f hf => by rw [hωe]; exact spW_f hf _
  have hωq : cLq σ ω := by rw [hωe]; exact spW_q _
  have hsw := c_sumWeights l D cy d0 A la ω (by rw [hω 11 (by decide)]; exact hn11) (by rw [hω 23 (by decide)]; exact hn23)
  rw [hω 11 (by decide), ← hal] at hsw
  obtain ⟨π, hπe⟩ : ∃ z, z = pS ω x al (σ 11 0).toNat := ⟨_, rfl⟩
  have hπ : ∀ f, f ≠ 51 → f ≠ 52 → π f = σ f := fun f h1 h2 => by rw [hπe, pS_f h2]; exact hω f h1
  have hπ51 : π 51 = ω 51 := by rw [hπe, pS_f (by decide)]
  have hπq : cLq σ π := ⟨hπ _ (by decide) (by decide), hπ _ (by decide) (by decide), hπ _ (by decide) (by decide), hπ _ (by decide) (by decide), hπ _ (by decide) (by decide), hπ _ (by decide) (by decide), hπ _ (by decide) (by decide)⟩
  have hmul : ∀ k, 0 ≤ k → k < σ 11 0 → 0 ≤ x * ω 51 k ∧ x * ω 51 k ≤ 300000100000000 := fun k hk hk2 => cw_r hx (hw51 k hk hk2)
  have loop2 : 0 < al → ∀ (n : Nat) (k : Int) (H : Heap) (locs : List Loc) (ls : Array Slot), 0 ≤ k → k ≤ σ 11 0 → (∀ j, 0 ≤ j → j < k → 0 < π 51 j → cA π j.toNat < cL ω x al (σ 11 0).toNat) → σ 11 0 - k < n → CP D cy d0 A la (lO π k.toNat) H → va_S A s.heap H locs → lv_has ls 11 [(0, .ref (la 0 0)), (1, .ref (la 6 b)), (2, .int (iI d)), (3, .long (lI x)), (5, .long (lI al)), (7, .long (lI (cL ω x al (σ 11 0).toNat - cA π k.toNat))), (9, .int (iI k))] → W p l e ({ frames := 4, cells := 0, slots := 0, locals := 87 } : Room) s m args below meth c H locs 0 0 (MQ below (cQ D cy d0 A (fun v' la' τ => v' = some (.long (lI (if 0 < al then x else 0))) ∧ la' = la ∧ (∀ q, q ≠ 51 → q ≠ 52 → τ q = σ q) ∧ (¬ 0 < al → τ 52 = σ 52) ∧ (0 < al → ∀ h, 0 ≤ h → h < σ 11 0 → τ 52 h = x * ω 51 h / al + (if 0 < ω 51 h ∧ cA ω h.toNat < cL ω x al (σ 11 0).toNat then 1 else 0)))) args s 0 0 A) (F0 m 86 ls []) := by
    intro hpos n
    induction n with
    | zero => intro k H locs ls h1 h2 h3 h4; exact absurd h4 (by omega)
    | succ n ih =>
      intro k H locs ls h1 h2 h3 h4 hC hS hl
      have hw9 : k < σ 11 0 → 0 ≤ π 51 k ∧ π 51 k ≤ 1000 := fun z => by rw [hπ51]; exact hw51 k h1 z
      have hL9 := cL_r hx hpos hw51 (σ 11 0).toNat (by omega)
      have hA9 := cA_r (τ := π) k.toNat
      refine x_iload B hl dX10_splitByWeights_86 rfl ?_
      refine x_aload_n B hl dX10_splitByWeights_88 rfl ?_
      refine co_getR (x := la 11 1) E hC 0 (by decide) cl_0 rfl (fun z h => List.mem_cons_of_mem _ (List.mem_append_left _ (List.mem_append_left _ (List.mem_append_left _ (List.mem_append_left _ (List.mem_append_right _ h)))))) 1 (by decide) (hts (.fieldLink RX10 16 "BinRounds" "houses" "Ljava/util/ArrayList;") (by decide +kernel)) (fun x hx => hx) dX10_splitByWeights_89 rfl rfl ?_
      refine co_call E hK hC hS hl (κ := 11) (i := 1) (by decide) (cl_q (lO_q k.toNat) (cl_q hπq (cl_11 (by omega)))) rfl (c_size l D cy d0 A la _ (L := 1) (n := σ 11 0) (cl_q (lO_q k.toNat) (cl_q hπq (cl_11 (by omega)))) (cSz_1.trans ((congrFun (lO_f (τ := π) (by decide) k.toNat) _).trans ((congrFun (hπ 11 (by decide) (by decide)) _).trans rfl)))) (cwV 0 hts0 gX10_splitByWeights_Jx4a65c_size_8abf5 rfl rfl rfl (by decide +kernel) ⟨Nat.le_of_ble_eq_true rfl, Nat.le_of_ble_eq_true rfl⟩) rfl rfl (Nat.le_of_ble_eq_true rfl) dX10_splitByWeights_92 ⟨Nat.zero_le _, Nat.zero_le _⟩ (fun H locs q_92 hC hS => ?_)
      refine x_icmp_ge (tgt := 158) B dX10_splitByWeights_95 (by decide) (by omega) (by omega) (fun c_95 => ?_) (fun c_95 => ?_)
      · refine x_lload_n B hl dX10_splitByWeights_158 rfl ?_
        refine co_lret E hr hlk hC hS dX10_splitByWeights_159 ⟨by rw [if_pos hpos], rfl, fun q a c => ?_, fun z => absurd hpos z, fun _ h a c => ?_⟩
        · rw [lO_f c]; exact hπ q a c
        · rw [lO_end ⟨h1, h2⟩ h3 (by omega) h ⟨a, c⟩, hπ51, cA_c hπ51, show π 52 h = x * ω 51 h / al by rw [hπe]; exact pS_v _ h a (by omega)]
      · refine x_lload B hl dX10_splitByWeights_98 rfl ?_
        refine x_lconst B dX10_splitByWeights_100 ?_
        refine x_lcmp_le (tgt := 158) B dX10_splitByWeights_101 dX10_splitByWeights_102 (by decide) (by omega) (by omega) (fun c_101 => ?_) (fun c_101 => ?_)
        · refine x_lload_n B hl dX10_splitByWeights_158 rfl ?_
          refine co_lret E hr hlk hC hS dX10_splitByWeights_159 ⟨by rw [if_pos hpos], rfl, fun q a c => ?_, fun z => absurd hpos z, fun _ h a c => ?_⟩
          · rw [lO_f c]; exact hπ q a c
          · rw [lO_end ⟨h1, h2⟩ h3 (by omega) h ⟨a, c⟩, hπ51, cA_c hπ51, show π 52 h = x * ω 51 h / al by rw [hπe]; exact pS_v _ h a (by omega)]
        · refine x_aload_n B hl dX10_splitByWeights_105 rfl ?_
          refine co_getR (x := la 11 1) E hC 0 (by decide) cl_0 rfl (fun z h => List.mem_cons_of_mem _ (List.mem_append_left _ (List.mem_append_left _ (List.mem_append_left _ (List.mem_append_left _ (List.mem_append_right _ h)))))) 1 (by decide) (hts (.fieldLink RX10 16 "BinRounds" "houses" "Ljava/util/ArrayList;") (by decide +kernel)) (fun x hx => hx) dX10_splitByWeights_106 rfl rfl ?_
          refine x_iload B hl dX10_splitByWeights_109 rfl ?_
          refine co_call E hK hC hS hl (κ := 11) (i := 1) (by decide) (cl_q (lO_q k.toNat) (cl_q hπq (cl_11 (by omega)))) rfl (c_get l D cy d0 A la _ (L := 1) (n := σ 11 0) (j := k) (x := la 5 k) (cl_q (lO_q k.toNat) (cl_q hπq (cl_11 (by omega)))) (cSz_1.trans ((congrFun (lO_f (τ := π) (by decide) k.toNat) _).trans ((congrFun (hπ 11 (by decide) (by decide)) _).trans rfl))) (by omega) (by omega) rfl) (cwV 1 hts0 gX10_splitByWeights_Jx4a65c_get_915e3 rfl rfl rfl (by decide +kernel) ⟨Nat.le_of_ble_eq_true rfl, Nat.le_of_ble_eq_true rfl⟩) rfl rfl (Nat.le_of_ble_eq_true rfl) dX10_splitByWeights_111 ⟨Nat.zero_le _, Nat.zero_le _⟩ (fun H locs q_111 hC hS => ?_)
          refine co_cast E hK hC 5 (by decide) (cl_q (lO_q k.toNat) (cl_q hπq (cl_5 (by omega)))) rfl (by decide +kernel) dX10_splitByWeights_114 ?_
          refine co_getl (f := 51) E hC 5 (by decide) (cl_q (lO_q k.toNat) (cl_q hπq (cl_5 (by omega)))) rfl (fun z h => List.mem_cons_of_mem _ (List.mem_append_left _ (List.mem_append_left _ (List.mem_append_left _ (List.mem_append_right _ h))))) 8 (by decide) (hts (.fieldLink RX10 461 "BinRounds$House" "weight" "J") (by decide +kernel)) (fun x hx => hx) dX10_splitByWeights_117 ⟨rfl, rfl⟩ (congrFun (lO_f (τ := π) (by decide) k.toNat) k) ?_
          refine x_lconst B dX10_splitByWeights_120 ?_
          refine x_lcmp_le (tgt := 152) B dX10_splitByWeights_121 dX10_splitByWeights_122 (by decide) (by omega) (by omega) (fun c_121 => ?_) (fun c_121 => ?_)
          · refine x_iinc B hl dX10_splitByWeights_152 rfl (by decide) (fun ls hl => ?_)
            refine x_goto (tgt := 86) B dX10_splitByWeights_155 (by decide) ?_
            exact ih (k + 1) H locs ls (by omega) (by omega) (fun j a c e => if ej : j = k then (by subst ej; omega) else h3 j a (by omega) e) (by omega) ((by first | (rw [lO_s (by omega), if_pos (by omega)]; exact hC) | (rw [lO_s (by omega), if_neg (by omega)]; exact hC))) hS (lv_key hl [(0, .ref (la 0 0)), (1, .ref (la 6 b)), (2, .int (iI d)), (3, .long (lI x)), (5, .long (lI al)), (7, .long (lI (cL ω x al (σ 11 0).toNat - cA π (k + 1).toNat))), (9, .int (iI (k + 1)))] (by first | (rw [cA_s (by omega), if_pos (by omega), ← Int.sub_sub]; rfl) | (rw [cA_s (by omega), if_neg (by omega), Int.add_zero]; rfl)))
          · refine x_aload_n B hl dX10_splitByWeights_125 rfl ?_
            refine co_getR (x := la 11 1) E hC 0 (by decide) cl_0 rfl (fun z h => List.mem_cons_of_mem _ (List.mem_append_left _ (List.mem_append_left _ (List.mem_append_left _ (List.mem_append_left _ (List.mem_append_right _ h)))))) 1 (by decide) (hts (.fieldLink RX10 16 "BinRounds" "houses" "Ljava/util/ArrayList;") (by decide +kernel)) (fun x hx => hx) dX10_splitByWeights_126 rfl rfl ?_
            refine x_iload B hl dX10_splitByWeights_129 rfl ?_
            refine co_call E hK hC hS hl (κ := 11) (i := 1) (by decide) (cl_q (lO_q k.toNat) (cl_q hπq (cl_11 (by omega)))) rfl (c_get l D cy d0 A la _ (L := 1) (n := σ 11 0) (j := k) (x := la 5 k) (cl_q (lO_q k.toNat) (cl_q hπq (cl_11 (by omega)))) (cSz_1.trans ((congrFun (lO_f (τ := π) (by decide) k.toNat) _).trans ((congrFun (hπ 11 (by decide) (by decide)) _).trans rfl))) (by omega) (by omega) rfl) (cwV 1 hts0 gX10_splitByWeights_Jx4a65c_get_915e3 rfl rfl rfl (by decide +kernel) ⟨Nat.le_of_ble_eq_true rfl, Nat.le_of_ble_eq_true rfl⟩) rfl rfl (Nat.le_of_ble_eq_true rfl) dX10_splitByWeights_131 ⟨Nat.zero_le _, Nat.zero_le _⟩ (fun H locs q_131 hC hS => ?_)
            refine co_cast E hK hC 5 (by decide) (cl_q (lO_q k.toNat) (cl_q hπq (cl_5 (by omega)))) rfl (by decide +kernel) dX10_splitByWeights_134 ?_
            refine x_dup B dX10_splitByWeights_137 rfl ?_
            refine co_getl (f := 52) E hC 5 (by decide) (cl_q (lO_q k.toNat) (cl_q hπq (cl_5 (by omega)))) rfl (fun z h => List.mem_cons_of_mem _ (List.mem_append_left _ (List.mem_append_left _ (List.mem_append_left _ (List.mem_append_right _ h))))) 9 (by decide) (hts (.fieldLink RX10 303 "BinRounds$House" "part" "J") (by decide +kernel)) (fun x hx => hx) dX10_splitByWeights_138 ⟨rfl, rfl⟩ (show _ = π 52 k by rw [lO_v, if_neg (by omega)]) ?_
            refine x_lconst B dX10_splitByWeights_141 ?_
            refine x_ladd B dX10_splitByWeights_142 ?_
            refine co_putl (f := 52) E hC hS 5 (by decide) (cl_q (lO_q k.toNat) (cl_q hπq (cl_5 (by omega)))) rfl (fun z h => List.mem_cons_of_mem _ (List.mem_append_left _ (List.mem_append_left _ (List.mem_append_left _ (List.mem_append_right _ h))))) tyX3 tyX3_ok nmX3 9 (by decide) (hts (.fieldLink RX10 303 "BinRounds$House" "part" "J") (by decide +kernel)) (fun x hx => hx) rfl rfl dX10_splitByWeights_143 (by decide) ⟨rfl, rfl, rfl, rfl⟩  (fun H locs hC hS => ?_)
            refine x_lload B hl dX10_splitByWeights_146 rfl ?_
            refine x_lconst B dX10_splitByWeights_148 ?_
            refine x_lsub B dX10_splitByWeights_149 ?_
            refine x_lstore B hl dX10_splitByWeights_150 (by decide) (fun ls hl => ?_)
            refine x_iinc B hl dX10_splitByWeights_152 rfl (by decide) (fun ls hl => ?_)
            refine x_goto (tgt := 86) B dX10_splitByWeights_155 (by decide) ?_
            exact ih (k + 1) H locs ls (by omega) (by omega) (fun j a c e => if ej : j = k then (by subst ej; omega) else h3 j a (by omega) e) (by omega) ((by first | (rw [lO_s (by omega), if_pos (by omega)]; exact hC) | (rw [lO_s (by omega), if_neg (by omega)]; exact hC))) hS (lv_key hl [(0, .ref (la 0 0)), (1, .ref (la 6 b)), (2, .int (iI d)), (3, .long (lI x)), (5, .long (lI al)), (7, .long (lI (cL ω x al (σ 11 0).toNat - cA π (k + 1).toNat))), (9, .int (iI (k + 1)))] (by first | (rw [cA_s (by omega), if_pos (by omega), ← Int.sub_sub]; rfl) | (rw [cA_s (by omega), if_neg (by omega), Int.add_zero]; rfl)))
  have loop1 : 0 < al → ∀ (n : Nat) (k : Int) (H : Heap) (locs : List Loc) (ls : Array Slot), 0 ≤ k → k ≤ σ 11 0 → σ 11 0 - k < n → CP D cy d0 A la (pS ω x al k.toNat) H → va_S A s.heap H locs → lv_has ls 11 [(0, .ref (la 0 0)), (1, .ref (la 6 b)), (2, .int (iI d)), (3, .long (lI x)), (5, .long (lI al)), (7, .long (lI (cL ω x al k.toNat))), (9, .int (iI k))] → W p l e ({ frames := 4, cells := 0, slots := 0, locals := 87 } : Room) s m args below meth c H locs 0 0 (MQ below (cQ D cy d0 A (fun v' la' τ => v' = some (.long (lI (if 0 < al then x else 0))) ∧ la' = la ∧ (∀ q, q ≠ 51 → q ≠ 52 → τ q = σ q) ∧ (¬ 0 < al → τ 52 = σ 52) ∧ (0 < al → ∀ h, 0 ≤ h → h < σ 11 0 → τ 52 h = x * ω 51 h / al + (if 0 < ω 51 h ∧ cA ω h.toNat < cL ω x al (σ 11 0).toNat then 1 else 0)))) args s 0 0 A) (F0 m 26 ls []) := by
    intro hpos n
    induction n with
    | zero => intro k H locs ls h1 h2 h3; exact absurd h3 (by omega)
    | succ n ih =>
      intro k H locs ls h1 h2 h3 hC hS hl
      refine x_iload B hl dX10_splitByWeights_26 rfl ?_
      refine x_aload_n B hl dX10_splitByWeights_28 rfl ?_
      refine co_getR (x := la 11 1) E hC 0 (by decide) cl_0 rfl (fun z h => List.mem_cons_of_mem _ (List.mem_append_left _ (List.mem_append_left _ (List.mem_append_left _ (List.mem_append_left _ (List.mem_append_right _ h)))))) 1 (by decide) (hts (.fieldLink RX10 16 "BinRounds" "houses" "Ljava/util/ArrayList;") (by decide +kernel)) (fun x hx => hx) dX10_splitByWeights_29 rfl rfl ?_
      refine co_call E hK hC hS hl (κ := 11) (i := 1) (by decide) (cl_q (pS_q k.toNat) (cl_q hωq (cl_11 (by omega)))) rfl (c_size l D cy d0 A la _ (L := 1) (n := σ 11 0) (cl_q (pS_q k.toNat) (cl_q hωq (cl_11 (by omega)))) (cSz_1.trans ((congrFun (pS_f (τ := ω) (c := x) (all := al) (by decide) k.toNat) _).trans ((congrFun (hω 11 (by decide)) _).trans rfl)))) (cwV 0 hts0 gX10_splitByWeights_Jx4a65c_size_8abf5 rfl rfl rfl (by decide +kernel) ⟨Nat.le_of_ble_eq_true rfl, Nat.le_of_ble_eq_true rfl⟩) rfl rfl (Nat.le_of_ble_eq_true rfl) dX10_splitByWeights_32 ⟨Nat.zero_le _, Nat.zero_le _⟩ (fun H locs q_32 hC hS => ?_)
      refine x_icmp_ge (tgt := 83) B dX10_splitByWeights_35 (by decide) (by omega) (by omega) (fun c_35 => ?_) (fun c_35 => ?_)
      · refine x_iconst B dX10_splitByWeights_83 ?_
        refine x_istore B hl dX10_splitByWeights_84 (by decide) (fun ls hl => ?_)
        rw [show k = σ 11 0 by omega, ← hπe] at hC
        exact loop2 hpos 1001 0 _ _ ls (by omega) (by omega) (fun j a c => absurd c (by omega)) (by omega) ((by first | exact hC | (rw [← hπe] at hC; exact hC))) hS (lv_key hl [(0, .ref (la 0 0)), (1, .ref (la 6 b)), (2, .int (iI d)), (3, .long (lI x)), (5, .long (lI al)), (7, .long (lI (cL ω x al (σ 11 0).toNat - cA π (0 : Int).toNat))), (9, .int (iI 0))] (by rw [show cA π (0 : Int).toNat = 0 from rfl, Int.sub_zero]; first | rfl | (rw [show k = σ 11 0 by omega]; rfl)))
      · refine x_aload_n B hl dX10_splitByWeights_38 rfl ?_
        refine co_getR (x := la 11 1) E hC 0 (by decide) cl_0 rfl (fun z h => List.mem_cons_of_mem _ (List.mem_append_left _ (List.mem_append_left _ (List.mem_append_left _ (List.mem_append_left _ (List.mem_append_right _ h)))))) 1 (by decide) (hts (.fieldLink RX10 16 "BinRounds" "houses" "Ljava/util/ArrayList;") (by decide +kernel)) (fun x hx => hx) dX10_splitByWeights_39 rfl rfl ?_
        refine x_iload B hl dX10_splitByWeights_42 rfl ?_
        refine co_call E hK hC hS hl (κ := 11) (i := 1) (by decide) (cl_q (pS_q k.toNat) (cl_q hωq (cl_11 (by omega)))) rfl (c_get l D cy d0 A la _ (L := 1) (n := σ 11 0) (j := k) (x := la 5 k) (cl_q (pS_q k.toNat) (cl_q hωq (cl_11 (by omega)))) (cSz_1.trans ((congrFun (pS_f (τ := ω) (c := x) (all := al) (by decide) k.toNat) _).trans ((congrFun (hω 11 (by decide)) _).trans rfl))) (by omega) (by omega) rfl) (cwV 1 hts0 gX10_splitByWeights_Jx4a65c_get_915e3 rfl rfl rfl (by decide +kernel) ⟨Nat.le_of_ble_eq_true rfl, Nat.le_of_ble_eq_true rfl⟩) rfl rfl (Nat.le_of_ble_eq_true rfl) dX10_splitByWeights_44 ⟨Nat.zero_le _, Nat.zero_le _⟩ (fun H locs q_44 hC hS => ?_)
        refine co_cast E hK hC 5 (by decide) (cl_q (pS_q k.toNat) (cl_q hωq (cl_5 (by omega)))) rfl (by decide +kernel) dX10_splitByWeights_47 ?_
        refine x_astore B hl dX10_splitByWeights_50 (by decide) (fun ls hl => ?_)
        refine x_aload B hl dX10_splitByWeights_52 rfl ?_
        refine x_lload_n B hl dX10_splitByWeights_54 rfl ?_
        refine x_aload B hl dX10_splitByWeights_55 rfl ?_
        refine co_getl (f := 51) E hC 5 (by decide) (cl_q (pS_q k.toNat) (cl_q hωq (cl_5 (by omega)))) rfl (fun z h => List.mem_cons_of_mem _ (List.mem_append_left _ (List.mem_append_left _ (List.mem_append_left _ (List.mem_append_right _ h))))) 8 (by decide) (hts (.fieldLink RX10 461 "BinRounds$House" "weight" "J") (by decide +kernel)) (fun x hx => hx) dX10_splitByWeights_57 ⟨rfl, rfl⟩ (congrFun (pS_f (τ := ω) (c := x) (all := al) (by decide) k.toNat) k) ?_
        refine x_lmul B dX10_splitByWeights_60 ?_
        refine x_lload B hl dX10_splitByWeights_61 rfl ?_
        refine x_ldiv B dX10_splitByWeights_63 (by have := hmul k (by omega) (by omega); omega) (by omega) ?_
        refine co_putl (f := 52) E hC hS 5 (by decide) (cl_q (pS_q k.toNat) (cl_q hωq (cl_5 (by omega)))) rfl (fun z h => List.mem_cons_of_mem _ (List.mem_append_left _ (List.mem_append_left _ (List.mem_append_left _ (List.mem_append_right _ h))))) tyX3 tyX3_ok nmX3 9 (by decide) (hts (.fieldLink RX10 303 "BinRounds$House" "part" "J") (by decide +kernel)) (fun x hx => hx) rfl rfl dX10_splitByWeights_64 (by decide) ⟨rfl, rfl, rfl, rfl⟩  (fun H locs hC hS => ?_)
        refine x_lload B hl dX10_splitByWeights_67 rfl ?_
        refine x_aload B hl dX10_splitByWeights_69 rfl ?_
        refine co_getl (f := 52) E hC 5 (by decide) (cl_up (by decide) (cl_q (pS_q k.toNat) (cl_q hωq (cl_5 (by omega))))) rfl (fun z h => List.mem_cons_of_mem _ (List.mem_append_left _ (List.mem_append_left _ (List.mem_append_left _ (List.mem_append_right _ h))))) 9 (by decide) (hts (.fieldLink RX10 303 "BinRounds$House" "part" "J") (by decide +kernel)) (fun x hx => hx) dX10_splitByWeights_71 ⟨rfl, rfl⟩ up_s ?_
        refine x_lsub B dX10_splitByWeights_74 ?_
        refine x_lstore B hl dX10_splitByWeights_75 (by decide) (fun ls hl => ?_)
        refine x_iinc B hl dX10_splitByWeights_77 rfl (by decide) (fun ls hl => ?_)
        refine x_goto (tgt := 26) B dX10_splitByWeights_80 (by decide) ?_
        exact ih (k + 1) H locs ls (by omega) (by omega) (by omega) ((by rw [pS_s (by omega)]; exact hC)) hS (lv_key hl [(0, .ref (la 0 0)), (1, .ref (la 6 b)), (2, .int (iI d)), (3, .long (lI x)), (5, .long (lI al)), (7, .long (lI (cL ω x al (k + 1).toNat))), (9, .int (iI (k + 1)))] (by rw [cL_s (by omega)]; rfl))
  refine x_aload_n B hl dX10_splitByWeights_0 rfl ?_
  refine x_iload_n B hl dX10_splitByWeights_1 rfl ?_
  refine co_call E hK hC hS hl (κ := 6) (i := b) (by decide) (cl_6 hb) rfl hsp (cwV 1 hts0 gX10_splitByWeights_X0_spreadWeights rfl rfl rfl (by decide +kernel) ⟨Nat.le_of_ble_eq_true rfl, Nat.le_of_ble_eq_true rfl⟩) rfl rfl (Nat.le_of_ble_eq_true rfl) dX10_splitByWeights_2 ⟨Nat.zero_le _, Nat.zero_le _⟩ (fun H locs q_2 hC hS => ?_)
  refine x_aload_n B hl dX10_splitByWeights_5 rfl ?_
  refine co_call E hK hC hS hl (κ := 0) (i := 0) (by decide) cl_0 rfl hsw (cwV 0 hts0 gX10_splitByWeights_X10_sumWeights rfl rfl rfl (by decide +kernel) ⟨Nat.le_of_ble_eq_true rfl, Nat.le_of_ble_eq_true rfl⟩) rfl rfl (Nat.le_of_ble_eq_true rfl) dX10_splitByWeights_6 ⟨Nat.zero_le _, Nat.zero_le _⟩ (fun H locs q_6 hC hS => ?_)
  refine x_lstore B hl dX10_splitByWeights_9 (by decide) (fun ls hl => ?_)
  refine x_lload B hl dX10_splitByWeights_11 rfl ?_
  refine x_lconst B dX10_splitByWeights_13 ?_
  refine x_lcmp_gt (tgt := 20) B dX10_splitByWeights_14 dX10_splitByWeights_15 (by decide) (by omega) (by omega) (fun c_14 => ?_) (fun c_14 => ?_)
  · have hpos : 0 < al := by omega
    refine x_lload_n B hl dX10_splitByWeights_20 rfl ?_
    refine x_lstore B hl dX10_splitByWeights_21 (by decide) (fun ls hl => ?_)
    refine x_iconst B dX10_splitByWeights_23 ?_
    refine x_istore B hl dX10_splitByWeights_24 (by decide) (fun ls hl => ?_)
    exact loop1 hpos 1001 0 _ _ ls (by omega) (by omega) (by omega) (hC) hS (lv_key hl [(0, .ref (la 0 0)), (1, .ref (la 6 b)), (2, .int (iI d)), (3, .long (lI x)), (5, .long (lI al)), (7, .long (lI (cL ω x al (0 : Int).toNat))), (9, .int (iI 0))] rfl)
  · refine x_lconst B dX10_splitByWeights_18 ?_
    exact co_lret E hr hlk hC hS dX10_splitByWeights_19 ⟨by rw [if_neg (by omega)]; rfl, rfl, fun q a c => hω q a, fun _ => hω 52 (by decide), fun z => absurd z (by omega)⟩
set_option maxHeartbeats 4000000 in
set_option maxRecDepth 100000 in
theorem c_splitCharge_n (l : Launch) (D : va_G) (cy : Nat → ClassId) (d0 : Nat) (A : Nat → Prop) (la : Nat → Int → Nat) (σ : MS) {t : Int} (ht : 0 ≤ t ∧ t < σ 45 0) (hn45 : 0 ≤ σ 45 0 ∧ σ 45 0 ≤ 600) (hn11 : 0 ≤ σ 11 0 ∧ σ 11 0 ≤ 60) (hn23 : 0 ≤ σ 23 0 ∧ σ 23 0 ≤ 1000) (hcb : σ 40 t = 1 → 0 ≤ σ 36 t) (hbn : ¬ σ 36 t < 0 → 0 ≤ σ 36 t ∧ σ 36 t < σ 23 0) (h42 : 0 ≤ σ 42 t ∧ σ 42 t ≤ 100000) (h43 : 0 ≤ σ 43 t ∧ σ 43 t ≤ 100000) (h39 : 0 ≤ σ 39 t ∧ σ 39 t ≤ 3000000) (hd : 0 ≤ σ 32 t ∧ σ 32 t ≤ 699) (hm : ∀ b, 0 ≤ σ 18 b ∧ σ 18 b ≤ 8) (hv : ∀ j, 0 ≤ σ 16 j) (hho : ¬ sHouse σ (σ 36 t) (σ 32 t) < 0 → 0 ≤ sHouse σ (σ 36 t) (σ 32 t) ∧ sHouse σ (σ 36 t) (σ 32 t) < σ 11 0) (hm22 : ∀ b, 0 ≤ σ 22 b ∧ σ 22 b ≤ 20) (hpw : ∀ j, 0 ≤ σ 20 j ∧ σ 20 j ≤ 1000) (hnl : σ 36 t < 0) : CN l yX10_splitCharge wsX10_splitCharge ({ frames := 5, cells := 0, slots := 0, locals := 117 } : Room) D cy d0 A [.ref (la 0 0), .ref (la 10 t)] la σ (fun v' la' τ => v' = some (.long (lI (sChg σ t))) ∧ la' = la ∧ (∀ q, q ≠ 51 → q ≠ 52 → τ q = σ q) ∧ ∀ h, 0 ≤ h → h < σ 11 0 → τ 52 h = sShr σ t h) 0 0 := by
  refine cn_of (cc := cX10_splitCharge) (nL := 5) (ret := (some .long)) (by decide) rfl (Nat.le_of_ble_eq_true rfl) ?_
  intro p e s m args below meth c ls E hr hlk hK hC hS hl
  have B := E.1
  have hml := E.2.1
  have hown := E.2.2.1
  have hts0 := E.2.2.2.1
  have hts := E.2.2.2.1
  have hw := hC.2.2.2.2.2.1
  refine x_aload_n B hl dX10_splitCharge_0 rfl ?_
  refine co_call E hK hC hS hl (κ := 0) (i := 0) (by decide) cl_0 rfl (c_clearSplit l D cy d0 A la σ (by omega) hn23) (cwV 0 hts0 gX10_splitCharge_X10_clearSplit rfl rfl rfl (by decide +kernel) ⟨Nat.le_of_ble_eq_true rfl, Nat.le_of_ble_eq_true rfl⟩) rfl rfl (Nat.le_of_ble_eq_true rfl) dX10_splitCharge_1 ⟨Nat.zero_le _, Nat.zero_le _⟩ (fun H locs q_1 hC hS => ?_)
  refine x_aload_n B hl dX10_splitCharge_4 rfl ?_
  refine co_getb (f := 40) E hC 10 (by decide) (cl_q (zW_q _) (cl_10 ht)) rfl (fun z h => List.mem_cons_of_mem _ (List.mem_append_left _ (List.mem_append_left _ (List.mem_append_left _ (List.mem_append_left _ (List.mem_append_left _ (List.mem_append_left _ (List.mem_append_right _ h)))))))) 9 (by decide) (hts (.fieldLink RX10 300 "BinRounds$Tip" "isCharged" "Z") (by decide +kernel)) (fun x hx => hx) dX10_splitCharge_5 ⟨rfl, rfl, rfl⟩ ((congrFun (zW_f (σ := σ) (by decide) (by decide) (σ 11 0).toNat) _).trans rfl) (fun r_5 => ?_)
  refine x_if_eq (tgt := 18) B dX10_splitCharge_8 (by decide) (by omega) (fun c_8 => ?_) (fun c_8 => ?_)
  · refine x_lconst B dX10_splitCharge_18 ?_
    first | (exact (show False by have := hcb (by omega); omega).elim) | (exact co_lret E hr hlk hC hS dX10_splitCharge_19 ⟨by unfold sChg; rw [if_pos (Or.inl (by omega))]; rfl, rfl, fun q a b => zW_f a b _, fun h a b => by rw [(zW_0 _ h a (by omega)).2]; unfold sShr; rw [if_pos (by omega)]⟩)
  · refine x_aload_n B hl dX10_splitCharge_11 rfl ?_
    refine co_getr (r := none) E hC 10 (by decide) (cl_q (zW_q _) (cl_10 ht)) rfl (fun z h => List.mem_cons_of_mem _ (List.mem_append_left _ (List.mem_append_left _ (List.mem_append_left _ (List.mem_append_left _ (List.mem_append_left _ (List.mem_append_left _ (List.mem_append_right _ h)))))))) 4 (by decide) (hts (.fieldLink RX10 211 "BinRounds$Tip" "bin" "LBinRounds$Bin;") (by decide +kernel)) (fun x hx => hx) dX10_splitCharge_12 rfl (cR_bn (show _ = σ 36 t from ((congrFun (zW_f (σ := σ) (by decide) (by decide) (σ 11 0).toNat) _).trans rfl)) hnl) ?_
    refine lv_ifnonnullN B.1 B.2 dX10_splitCharge_15 ?_
    refine x_lconst B dX10_splitCharge_18 ?_
    first | (exact (show False by have := hcb (by omega); omega).elim) | (exact co_lret E hr hlk hC hS dX10_splitCharge_19 ⟨by unfold sChg; rw [if_pos (Or.inl (by omega))]; rfl, rfl, fun q a b => zW_f a b _, fun h a b => by rw [(zW_0 _ h a (by omega)).2]; unfold sShr; rw [if_pos (by omega)]⟩)
set_option maxHeartbeats 4000000 in
set_option maxRecDepth 100000 in
theorem c_splitCharge_r (l : Launch) (D : va_G) (cy : Nat → ClassId) (d0 : Nat) (A : Nat → Prop) (la : Nat → Int → Nat) (σ : MS) {t : Int} (ht : 0 ≤ t ∧ t < σ 45 0) (hn45 : 0 ≤ σ 45 0 ∧ σ 45 0 ≤ 600) (hn11 : 0 ≤ σ 11 0 ∧ σ 11 0 ≤ 60) (hn23 : 0 ≤ σ 23 0 ∧ σ 23 0 ≤ 1000) (hcb : σ 40 t = 1 → 0 ≤ σ 36 t) (hbn : ¬ σ 36 t < 0 → 0 ≤ σ 36 t ∧ σ 36 t < σ 23 0) (h42 : 0 ≤ σ 42 t ∧ σ 42 t ≤ 100000) (h43 : 0 ≤ σ 43 t ∧ σ 43 t ≤ 100000) (h39 : 0 ≤ σ 39 t ∧ σ 39 t ≤ 3000000) (hd : 0 ≤ σ 32 t ∧ σ 32 t ≤ 699) (hm : ∀ b, 0 ≤ σ 18 b ∧ σ 18 b ≤ 8) (hv : ∀ j, 0 ≤ σ 16 j) (hho : ¬ sHouse σ (σ 36 t) (σ 32 t) < 0 → 0 ≤ sHouse σ (σ 36 t) (σ 32 t) ∧ sHouse σ (σ 36 t) (σ 32 t) < σ 11 0) (hm22 : ∀ b, 0 ≤ σ 22 b ∧ σ 22 b ≤ 20) (hpw : ∀ j, 0 ≤ σ 20 j ∧ σ 20 j ≤ 1000) (hnl : ¬ σ 36 t < 0) (hv19 : ∀ j, 0 ≤ σ 19 j ∧ σ 19 j < σ 11 0) : CN l yX10_splitCharge wsX10_splitCharge ({ frames := 5, cells := 0, slots := 0, locals := 117 } : Room) D cy d0 A [.ref (la 0 0), .ref (la 10 t)] la σ (fun v' la' τ => v' = some (.long (lI (sChg σ t))) ∧ la' = la ∧ (∀ q, q ≠ 51 → q ≠ 52 → τ q = σ q) ∧ ∀ h, 0 ≤ h → h < σ 11 0 → τ 52 h = sShr σ t h) 0 0 := by
  refine cn_of (cc := cX10_splitCharge) (nL := 5) (ret := (some .long)) (by decide) rfl (Nat.le_of_ble_eq_true rfl) ?_
  intro p e s m args below meth c ls E hr hlk hK hC hS hl
  have B := E.1
  have hml := E.2.1
  have hown := E.2.2.1
  have hts0 := E.2.2.2.1
  have hts := E.2.2.2.1
  have hw := hC.2.2.2.2.2.1
  have hX : 0 ≤ σ 42 t + σ 43 t * σ 39 t ∧ σ 42 t + σ 43 t * σ 39 t ≤ 300000100000 := by
    have e1 := Int.mul_nonneg h43.1 h39.1
    have e2 := Int.mul_le_mul (a := σ 43 t) (b := σ 39 t) (c := 100000) (d := 3000000) h43.2 h39.2 h39.1 (by omega)
    omega
  obtain ⟨ω, hωe⟩ : ∃ z, z = spW (zW σ (σ 11 0).toNat) (σ 36 t) (σ 32 t) ((zW σ (σ 11 0).toNat) 22 (σ 36 t)).toNat := ⟨_, rfl⟩
  obtain ⟨al, hal⟩ : ∃ z, z = sSum (ω 51) ((zW σ (σ 11 0).toNat) 11 0).toNat := ⟨_, rfl⟩
  have hW : ∀ h, 0 ≤ h → h < σ 11 0 → ω 51 h = sWeight σ (σ 36 t) h (σ 32 t) := fun h a b => by
    rw [hωe, spW_w (zW_0 _ h a (by omega)).1, zW_f (by decide) (by decide), sWt_5 (zW_5 _)]
    rfl
  have hw51 : ∀ h, 0 ≤ h → h < (zW σ (σ 11 0).toNat) 11 0 → 0 ≤ ω 51 h ∧ ω 51 h ≤ 1000 := fun h a b => by
    rw [zW_f (by decide) (by decide)] at b
    rw [hW h a b]
    exact sWt_p hpw _ _ _ _
  have hal2 : al = sAll σ t := by
    rw [hal, zW_f (by decide) (by decide)]
    unfold sAll
    rw [← sSum_Aw]
    exact sSum_c _ (fun j a b => hW j a (by omega))
  have hal9 : 0 ≤ al ∧ al ≤ 1000000 := by
    have h9 := sSum_n (f := ω 51) (M := 1000) (m := σ 11 0) (fun j a b => hw51 j a (by rw [zW_f (by decide) (by decide)]; exact b)) (σ 11 0).toNat (by omega)
    rw [hal, zW_f (by decide) (by decide)]
    omega
  refine x_aload_n B hl dX10_splitCharge_0 rfl ?_
  refine co_call E hK hC hS hl (κ := 0) (i := 0) (by decide) cl_0 rfl (c_clearSplit l D cy d0 A la σ (by omega) hn23) (cwV 0 hts0 gX10_splitCharge_X10_clearSplit rfl rfl rfl (by decide +kernel) ⟨Nat.le_of_ble_eq_true rfl, Nat.le_of_ble_eq_true rfl⟩) rfl rfl (Nat.le_of_ble_eq_true rfl) dX10_splitCharge_1 ⟨Nat.zero_le _, Nat.zero_le _⟩ (fun H locs q_1 hC hS => ?_)
  refine x_aload_n B hl dX10_splitCharge_4 rfl ?_
  refine co_getb (f := 40) E hC 10 (by decide) (cl_q (zW_q _) (cl_10 ht)) rfl (fun z h => List.mem_cons_of_mem _ (List.mem_append_left _ (List.mem_append_left _ (List.mem_append_left _ (List.mem_append_left _ (List.mem_append_left _ (List.mem_append_left _ (List.mem_append_right _ h)))))))) 9 (by decide) (hts (.fieldLink RX10 300 "BinRounds$Tip" "isCharged" "Z") (by decide +kernel)) (fun x hx => hx) dX10_splitCharge_5 ⟨rfl, rfl, rfl⟩ ((congrFun (zW_f (σ := σ) (by decide) (by decide) (σ 11 0).toNat) _).trans rfl) (fun r_5 => ?_)
  refine x_if_eq (tgt := 18) B dX10_splitCharge_8 (by decide) (by omega) (fun c_8 => ?_) (fun c_8 => ?_)
  · refine x_lconst B dX10_splitCharge_18 ?_
    first | (exact (show False by have := hcb (by omega); omega).elim) | (exact co_lret E hr hlk hC hS dX10_splitCharge_19 ⟨by unfold sChg; rw [if_pos (Or.inl (by omega))]; rfl, rfl, fun q a b => zW_f a b _, fun h a b => by rw [(zW_0 _ h a (by omega)).2]; unfold sShr; rw [if_pos (by omega)]⟩)
  · refine x_aload_n B hl dX10_splitCharge_11 rfl ?_
    refine co_getR (x := la 6 (σ 36 t)) E hC 10 (by decide) (cl_q (zW_q _) (cl_10 ht)) rfl (fun z h => List.mem_cons_of_mem _ (List.mem_append_left _ (List.mem_append_left _ (List.mem_append_left _ (List.mem_append_left _ (List.mem_append_left _ (List.mem_append_left _ (List.mem_append_right _ h)))))))) 4 (by decide) (hts (.fieldLink RX10 211 "BinRounds$Tip" "bin" "LBinRounds$Bin;") (by decide +kernel)) (fun x hx => hx) dX10_splitCharge_12 rfl (cR_br (show _ = σ 36 t from ((congrFun (zW_f (σ := σ) (by decide) (by decide) (σ 11 0).toNat) _).trans rfl)) hnl) ?_
    refine lv_ifnonnull (tgt := 20) B.1 B.2 dX10_splitCharge_15 (by decide) ?_
    refine x_aload_n B hl dX10_splitCharge_20 rfl ?_
    refine co_geti (f := 42) E hC 10 (by decide) (cl_q (zW_q _) (cl_10 ht)) rfl (fun z h => List.mem_cons_of_mem _ (List.mem_append_left _ (List.mem_append_left _ (List.mem_append_left _ (List.mem_append_left _ (List.mem_append_left _ (List.mem_append_left _ (List.mem_append_right _ h)))))))) 11 (by decide) (hts (.fieldLink RX10 438 "BinRounds$Tip" "lift" "I") (by decide +kernel)) (fun x hx => hx) dX10_splitCharge_21 ⟨rfl, rfl, rfl⟩ ((congrFun (zW_f (σ := σ) (by decide) (by decide) (σ 11 0).toNat) _).trans rfl) (fun r_21 => ?_)
    refine x_i2l B dX10_splitCharge_24 (by omega) ?_
    refine x_aload_n B hl dX10_splitCharge_25 rfl ?_
    refine co_geti (f := 43) E hC 10 (by decide) (cl_q (zW_q _) (cl_10 ht)) rfl (fun z h => List.mem_cons_of_mem _ (List.mem_append_left _ (List.mem_append_left _ (List.mem_append_left _ (List.mem_append_left _ (List.mem_append_left _ (List.mem_append_left _ (List.mem_append_right _ h)))))))) 12 (by decide) (hts (.fieldLink RX10 444 "BinRounds$Tip" "rate" "I") (by decide +kernel)) (fun x hx => hx) dX10_splitCharge_26 ⟨rfl, rfl, rfl⟩ ((congrFun (zW_f (σ := σ) (by decide) (by decide) (σ 11 0).toNat) _).trans rfl) (fun r_26 => ?_)
    refine x_i2l B dX10_splitCharge_29 (by omega) ?_
    refine x_aload_n B hl dX10_splitCharge_30 rfl ?_
    refine co_geti (f := 39) E hC 10 (by decide) (cl_q (zW_q _) (cl_10 ht)) rfl (fun z h => List.mem_cons_of_mem _ (List.mem_append_left _ (List.mem_append_left _ (List.mem_append_left _ (List.mem_append_left _ (List.mem_append_left _ (List.mem_append_left _ (List.mem_append_right _ h)))))))) 7 (by decide) (hts (.fieldLink RX10 260 "BinRounds$Tip" "paid" "I") (by decide +kernel)) (fun x hx => hx) dX10_splitCharge_31 ⟨rfl, rfl, rfl⟩ ((congrFun (zW_f (σ := σ) (by decide) (by decide) (σ 11 0).toNat) _).trans rfl) (fun r_31 => ?_)
    refine x_i2l B dX10_splitCharge_34 (by omega) ?_
    refine x_lmul B dX10_splitCharge_35 ?_
    refine x_ladd B dX10_splitCharge_36 ?_
    refine x_lstore_n B hl dX10_splitCharge_37 (by decide) (fun ls hl => ?_)
    refine x_aload_n B hl dX10_splitCharge_38 rfl ?_
    refine co_getR (x := la 6 (σ 36 t)) E hC 10 (by decide) (cl_q (zW_q _) (cl_10 ht)) rfl (fun z h => List.mem_cons_of_mem _ (List.mem_append_left _ (List.mem_append_left _ (List.mem_append_left _ (List.mem_append_left _ (List.mem_append_left _ (List.mem_append_left _ (List.mem_append_right _ h)))))))) 4 (by decide) (hts (.fieldLink RX10 211 "BinRounds$Tip" "bin" "LBinRounds$Bin;") (by decide +kernel)) (fun x hx => hx) dX10_splitCharge_39 rfl (cR_br (show _ = σ 36 t from ((congrFun (zW_f (σ := σ) (by decide) (by decide) (σ 11 0).toNat) _).trans rfl)) hnl) ?_
    refine co_geti (f := 12) E hC 6 (by decide) (cl_q (zW_q _) (cl_6 (hbn hnl))) rfl (fun z h => List.mem_cons_of_mem _ (List.mem_append_left _ (List.mem_append_left _ (List.mem_append_left _ (List.mem_append_left _ (List.mem_append_left _ (List.mem_append_right _ h))))))) 1 (by decide) (hts (.fieldLink RX10 158 "BinRounds$Bin" "kind" "I") (by decide +kernel)) (fun x hx => hx) dX10_splitCharge_42 ⟨rfl, rfl, rfl⟩ ((congrFun (zW_f (σ := σ) (by decide) (by decide) (σ 11 0).toNat) _).trans rfl) (fun r_42 => ?_)
    refine x_iconst B dX10_splitCharge_45 ?_
    refine x_icmp_ne (tgt := 63) B dX10_splitCharge_46 (by decide) (by omega) (by omega) (fun c_46 => ?_) (fun c_46 => ?_)
    · refine x_aload_n B hl dX10_splitCharge_63 rfl ?_
      refine co_getR (x := la 6 (σ 36 t)) E hC 10 (by decide) (cl_q (zW_q _) (cl_10 ht)) rfl (fun z h => List.mem_cons_of_mem _ (List.mem_append_left _ (List.mem_append_left _ (List.mem_append_left _ (List.mem_append_left _ (List.mem_append_left _ (List.mem_append_left _ (List.mem_append_right _ h)))))))) 4 (by decide) (hts (.fieldLink RX10 211 "BinRounds$Tip" "bin" "LBinRounds$Bin;") (by decide +kernel)) (fun x hx => hx) dX10_splitCharge_64 rfl (cR_br (show _ = σ 36 t from ((congrFun (zW_f (σ := σ) (by decide) (by decide) (σ 11 0).toNat) _).trans rfl)) hnl) ?_
      refine x_aload_n B hl dX10_splitCharge_67 rfl ?_
      refine co_geti (f := 32) E hC 10 (by decide) (cl_q (zW_q _) (cl_10 ht)) rfl (fun z h => List.mem_cons_of_mem _ (List.mem_append_left _ (List.mem_append_left _ (List.mem_append_left _ (List.mem_append_left _ (List.mem_append_left _ (List.mem_append_left _ (List.mem_append_right _ h)))))))) 0 (by decide) (hts (.fieldLink RX10 229 "BinRounds$Tip" "day" "I") (by decide +kernel)) (fun x hx => hx) dX10_splitCharge_68 ⟨rfl, rfl, rfl⟩ ((congrFun (zW_f (σ := σ) (by decide) (by decide) (σ 11 0).toNat) _).trans rfl) (fun r_68 => ?_)
      by_cases hx : sHouse σ (σ 36 t) (σ 32 t) < 0
      · refine co_call E hK hC hS hl (κ := 6) (i := (σ 36 t)) (by decide) (cl_q (zW_q _) (cl_6 (hbn hnl))) rfl (c_ownerOn_n5 l D cy d0 A la σ _ (zW_5 _) (b := σ 36 t) (d := σ 32 t) (hbn hnl) (by omega) (hm _) hv hx) (cwV 1 hts0 gX10_splitCharge_X0_ownerOn rfl rfl rfl (by decide +kernel) ⟨Nat.le_of_ble_eq_true rfl, Nat.le_of_ble_eq_true rfl⟩) rfl rfl (Nat.le_of_ble_eq_true rfl) dX10_splitCharge_71 ⟨Nat.zero_le _, Nat.zero_le _⟩ (fun H locs q_71 hC hS => ?_)
        refine x_astoreN B hl dX10_splitCharge_74 (by decide) (fun ls hl => ?_)
        refine x_aloadN B hl dX10_splitCharge_76 rfl ?_
        refine lv_ifnonnullN B.1 B.2 dX10_splitCharge_78 ?_
        refine x_lconst B dX10_splitCharge_81 ?_
        exact co_lret E hr hlk hC hS dX10_splitCharge_82 ⟨by unfold sChg; rw [if_pos (Or.inr (by unfold sNob; rw [if_neg c_46]; exact hx))]; rfl, rfl, fun q a b => zW_f a b _, fun h a b => by rw [(zW_0 _ h a (by omega)).2]; unfold sShr; rw [if_neg (by omega), if_pos c_46, if_neg (by omega)]⟩
      · refine co_call E hK hC hS hl (κ := 6) (i := (σ 36 t)) (by decide) (cl_q (zW_q _) (cl_6 (hbn hnl))) rfl (c_ownerOn_r5 l D cy d0 A la σ _ (zW_5 _) (b := σ 36 t) (d := σ 32 t) (hbn hnl) (by omega) (hm _) hv hx) (cwV 1 hts0 gX10_splitCharge_X0_ownerOn rfl rfl rfl (by decide +kernel) ⟨Nat.le_of_ble_eq_true rfl, Nat.le_of_ble_eq_true rfl⟩) rfl rfl (Nat.le_of_ble_eq_true rfl) dX10_splitCharge_71 ⟨Nat.zero_le _, Nat.zero_le _⟩ (fun H locs q_71 hC hS => ?_)
        refine x_astore B hl dX10_splitCharge_74 (by decide) (fun ls hl => ?_)
        refine x_aload B hl dX10_splitCharge_76 rfl ?_
        refine lv_ifnonnull (tgt := 83) B.1 B.2 dX10_splitCharge_78 (by decide) ?_
        refine x_aload B hl dX10_splitCharge_83 rfl ?_
        refine x_lload_n B hl dX10_splitCharge_85 rfl ?_
        refine co_putl (f := 52) E hC hS 5 (by decide) (cl_q (zW_q _) (cl_5 (hho hx))) rfl (fun z h => List.mem_cons_of_mem _ (List.mem_append_left _ (List.mem_append_left _ (List.mem_append_left _ (List.mem_append_left _ (List.mem_append_right _ h)))))) tyX3 tyX3_ok nmX3 9 (by decide) (hts (.fieldLink RX10 303 "BinRounds$House" "part" "J") (by decide +kernel)) (fun x hx => hx) rfl rfl dX10_splitCharge_86 (by decide) ⟨rfl, rfl, rfl, rfl⟩  (fun H locs hC hS => ?_)
        refine x_lload_n B hl dX10_splitCharge_89 rfl ?_
        have hcg : sChg σ t = σ 42 t + σ 43 t * σ 39 t := by
          unfold sChg
          have hnn : ¬ (¬ σ 40 t = 1 ∨ sNob σ t) := by
            intro q
            unfold sNob at q
            rw [if_neg c_46] at q
            omega
          rw [if_neg hnn]
        exact co_lret E hr hlk hC hS dX10_splitCharge_90 ⟨by rw [hcg], rfl, fun q a b => (up_f b).trans (zW_f a b _), fun h a b => by
          unfold sShr
          rw [if_neg (by omega), if_pos c_46]
          by_cases e : h = sHouse σ (σ 36 t) (σ 32 t)
          · rw [e, up_s, if_pos rfl, hcg]
          · rw [up_o e, (zW_0 _ h a (by omega)).2, if_neg (Ne.symm e)]⟩
    · refine x_aload_n B hl dX10_splitCharge_49 rfl ?_
      refine x_aload_n B hl dX10_splitCharge_50 rfl ?_
      refine co_getR (x := la 6 (σ 36 t)) E hC 10 (by decide) (cl_q (zW_q _) (cl_10 ht)) rfl (fun z h => List.mem_cons_of_mem _ (List.mem_append_left _ (List.mem_append_left _ (List.mem_append_left _ (List.mem_append_left _ (List.mem_append_left _ (List.mem_append_left _ (List.mem_append_right _ h)))))))) 4 (by decide) (hts (.fieldLink RX10 211 "BinRounds$Tip" "bin" "LBinRounds$Bin;") (by decide +kernel)) (fun x hx => hx) dX10_splitCharge_51 rfl (cR_br (show _ = σ 36 t from ((congrFun (zW_f (σ := σ) (by decide) (by decide) (σ 11 0).toNat) _).trans rfl)) hnl) ?_
      refine x_aload_n B hl dX10_splitCharge_54 rfl ?_
      refine co_geti (f := 32) E hC 10 (by decide) (cl_q (zW_q _) (cl_10 ht)) rfl (fun z h => List.mem_cons_of_mem _ (List.mem_append_left _ (List.mem_append_left _ (List.mem_append_left _ (List.mem_append_left _ (List.mem_append_left _ (List.mem_append_left _ (List.mem_append_right _ h)))))))) 0 (by decide) (hts (.fieldLink RX10 229 "BinRounds$Tip" "day" "I") (by decide +kernel)) (fun x hx => hx) dX10_splitCharge_55 ⟨rfl, rfl, rfl⟩ ((congrFun (zW_f (σ := σ) (by decide) (by decide) (σ 11 0).toNat) _).trans rfl) (fun r_55 => ?_)
      refine x_lload_n B hl dX10_splitCharge_58 rfl ?_
      refine co_callX E hK hC hS hl (κ := 0) (i := 0) (by decide) cl_0 rfl (c_splitByWeights l D cy d0 A la _ hωe hal (by rw [zW_f (by decide) (by decide)]; exact hbn hnl) (by omega) hX (by rw [zW_f (by decide) (by decide)]; exact hm22 _) (by rw [zW_f (f := 19) (by decide) (by decide), zW_f (f := 11) (by decide) (by decide)]; exact hv19) (by rw [zW_f (by decide) (by decide)]; omega) (by rw [zW_f (by decide) (by decide)]; exact hn23) hal9 hw51) (cwV 3 hts0 gX10_splitCharge_X10_splitByWeights rfl rfl rfl (by decide +kernel) ⟨Nat.le_of_ble_eq_true rfl, Nat.le_of_ble_eq_true rfl⟩) rfl rfl (Nat.le_of_ble_eq_true rfl) dX10_splitCharge_59 ⟨Nat.zero_le _, Nat.zero_le _⟩ (fun H locs τ1 qx hC hS => ?_)
      have hk3 : σ 12 (σ 36 t) = 3 := by omega
      have hnob : sNob σ t ↔ sAll σ t = 0 := by unfold sNob; rw [if_pos hk3]
      have hcg : sChg σ t = if 0 < al then σ 42 t + σ 43 t * σ 39 t else 0 := by
        unfold sChg
        by_cases hp : 0 < al
        · have hnn : ¬ (¬ σ 40 t = 1 ∨ sNob σ t) := by
            intro q
            rw [hnob] at q
            omega
          rw [if_neg hnn, if_pos hp]
        · rw [if_pos (Or.inr (hnob.mpr (by omega))), if_neg hp]
      exact co_lret E hr hlk hC hS dX10_splitCharge_62 ⟨by rw [hcg], rfl, fun q a b => (qx.1 q a b).trans (zW_f a b _), fun h a b => by
        unfold sShr
        rw [if_neg (by omega), if_neg (show ¬ ¬ σ 12 (σ 36 t) = 3 by omega)]
        by_cases hp : 0 < al
        · have q9 := qx.2.2 hp h a (by rw [zW_f (by decide) (by decide)]; exact b)
          rw [if_neg (by omega), q9, hcg, if_pos hp, hW h a b, cA_w hW h.toNat (by omega), zW_f (by decide) (by decide), cL_w hW (σ 11 0).toNat (by omega), hal2]
        · rw [if_pos (by omega), qx.2.1 hp, (zW_0 _ h a (by omega)).2]⟩
