/-! THE CLASS'S PICTURE over the same numbers (fields 50 fromTips, 51 weight, 52 part of a house; 53 isCapped, 54 left of a cart; 55 the size, 56 the row of Latest; 57 modCount of a list; 58, 59 how many tips, bins are made but not yet in their list). Kinds of cells: 0 the town, 1 calendar, 2 tables, 3 latest, 4 streets, 5 houses, 6 bins, 7 moves (8 b + k), 8 parts (20 b + k), 9 carts, 10 tips, 11 lists (0 streets, 1 houses, 2 bins, 3 carts, 4 tips, 5 + 2 b moves, 6 + 2 b parts); rows: 12 holidays, 13 lifts, 14 rates, 15 latest's, 16 weekdays, 17 weeks, 18 a list's. la k i: the cell of kind k, number i; la 19 L: how much a list's row holds -/
def cCi (κ : Nat) : Nat := [11, 2, 9, 5, 8, 4, 1, 6, 7, 3, 10, 0].getD κ 0
def cN (κ : Nat) : Nat := [11, 1, 2, 2, 2, 10, 7, 2, 3, 6, 13, 3].getD κ 0
/-- a field: 0 its number, 1 an int, 2 a long, 3 a reference, 4 a list's size -/
def sT (κ k : Nat) : Nat := ([[3, 3, 3, 3, 3, 3, 3, 3, 1, 1, 1], [3], [3, 3], [3, 1], [3, 3], [0, 1, 3, 1, 2, 2, 2, 2, 2, 2], [0, 1, 3, 3, 1, 1, 1], [3, 1], [3, 1, 1], [0, 1, 1, 1, 1, 1], [1, 3, 1, 1, 3, 1, 1, 1, 1, 1, 1, 1, 1], [1, 3, 4]].getD κ []).getD k 9
def sF (κ k : Nat) : Nat := ([[0, 0, 0, 0, 0, 0, 0, 0, 1, 30, 31], [0], [0, 0], [0, 55], [0, 0], [0, 6, 0, 7, 50, 8, 9, 10, 51, 52], [0, 12, 0, 0, 13, 14, 15], [0, 17], [0, 20, 21], [0, 24, 25, 26, 53, 54], [32, 0, 34, 35, 0, 37, 38, 39, 44, 40, 41, 42, 43], [57, 0, 0]].getD κ []).getD k 0
def cSz (σ : MS) (L : Int) : Int := if L = 0 then σ 5 0 else if L = 1 then σ 11 0 else if L = 2 then σ 23 0 - σ 59 0 else if L = 3 then σ 27 0 else if L = 4 then σ 45 0 - σ 58 0 else if (L - 5) % 2 = 0 then σ 18 ((L - 5) / 2) else σ 22 ((L - 5) / 2)
def cEl (la : Nat → Int → Nat) (L j : Int) : Nat := if L = 0 then la 4 j else if L = 1 then la 5 j else if L = 2 then la 6 j else if L = 3 then la 9 j else if L = 4 then la 10 j else if (L - 5) % 2 = 0 then la 7 (8 * ((L - 5) / 2) + j) else la 8 (20 * ((L - 5) / 2) + j)
def cR (la : Nat → Int → Nat) (σ : MS) (κ : Nat) (i : Int) (k : Nat) : Option Nat :=
  if κ = 0 then (if k = 0 then some (la 11 0) else if k = 1 then some (la 11 1) else if k = 2 then some (la 11 2) else if k = 3 then some (la 11 3) else if k = 4 then some (la 11 4) else if k = 5 then some (la 1 0) else if k = 6 then some (la 2 0) else some (la 3 0))
  else if κ = 1 then some (la 12 0)
  else if κ = 2 then (if k = 0 then some (la 13 0) else some (la 14 0))
  else if κ = 3 then some (la 15 0)
  else if κ = 4 then (if k = 0 then some (la 16 i) else some (la 17 i))
  else if κ = 5 then some (la 4 (σ 6 i))
  else if κ = 6 then (if k = 2 then some (la 11 (5 + 2 * i)) else some (la 11 (6 + 2 * i)))
  else if κ = 7 then some (la 5 (σ 16 i))
  else if κ = 8 then some (la 5 (σ 19 i))
  else if κ = 10 then (if k = 1 then some (la 9 (σ 33 i)) else if σ 36 i < 0 then none else some (la 6 (σ 36 i)))
  else some (la 18 i)
def cV (la : Nat → Int → Nat) (σ : MS) (κ : Nat) (i : Int) (k : Nat) : Value :=
  if sT κ k = 0 then .int (iI i) else if sT κ k = 1 then .int (iI (σ (sF κ k) i)) else if sT κ k = 2 then .long (lI (σ (sF κ k) i)) else if sT κ k = 3 then va_rf (cR la σ κ i k) else .int (iI (cSz σ i))
def cLive (la : Nat → Int → Nat) (σ : MS) (κ : Nat) (i : Int) : Prop :=
  if κ ≤ 3 then i = 0 else if κ = 4 then 0 ≤ i ∧ i < σ 5 0 else if κ = 5 then 0 ≤ i ∧ i < σ 11 0 else if κ = 6 then 0 ≤ i ∧ i < σ 23 0
  else if κ = 7 then 0 ≤ i ∧ i / 8 < σ 23 0 ∧ i % 8 < σ 18 (i / 8) else if κ = 8 then 0 ≤ i ∧ i / 20 < σ 23 0 ∧ i % 20 < σ 22 (i / 20)
  else if κ = 9 then 0 ≤ i ∧ i < σ 27 0 else if κ = 10 then 0 ≤ i ∧ i < σ 45 0 else if κ = 11 then 0 ≤ i ∧ i < 5 + 2 * σ 23 0
  else if κ ≤ 15 then i = 0 else if κ ≤ 17 then 0 ≤ i ∧ i < σ 5 0 else (0 ≤ i ∧ i < 5 + 2 * σ 23 0) ∧ 0 < la 19 i
def aLn (κ : Nat) : Nat := [700, 5, 5, 5, 3, 3].getD (κ - 12) 0
def aF (κ : Nat) : Nat := [2, 28, 29, 56, 3, 4].getD (κ - 12) 0
def aV (σ : MS) (κ : Nat) (i j : Int) : Int := if κ ≤ 15 then σ (aF κ) j else σ (aF κ) (3 * i + j)
def cLong (k : Nat) : Bool := k == 8 || k == 9 || k == 10 || k == 50 || k == 51 || k == 52
def cBool (k : Nat) : Bool := k == 2 || k == 13 || k == 40 || k == 41 || k == 53
def cW (σ : MS) : Prop := (∀ k j, cLong k = false → -2147483648 ≤ σ k j ∧ σ k j < 2147483648) ∧ ∀ k j, cBool k = true → σ k j = 0 ∨ σ k j = 1
def cBk (cyO : ClassId) (d0 : Nat) (la : Nat → Int → Nat) (σ : MS) (H : Heap) (L : Int) : Prop :=
  cSz σ L ≤ la 19 L ∧ ((la 19 L = 0 ∧ la 18 L = d0) ∨ (0 < la 19 L ∧ ∃ f : Nat → Option Nat, H[la 18 L]? = some (arrV cyO (la 19 L) (fun j => va_rf (f j))) ∧ ∀ j : Nat, (j : Int) < cSz σ L → f j = some (cEl la L j)))
def cApart (la : Nat → Int → Nat) (σ : MS) : Prop := ∀ κ κ' i i', κ ≤ 18 → κ' ≤ 18 → cLive la σ κ i → cLive la σ κ' i' → la κ i = la κ' i' → κ = κ' ∧ i = i'
def CP (D : va_G) (cy : Nat → ClassId) (d0 : Nat) (A : Nat → Prop) (la : Nat → Int → Nat) (σ : MS) (H : Heap) : Prop :=
  (∀ κ i, κ ≤ 11 → cLive la σ κ i → t_OB (la κ i) (D.1 (cCi κ)) (cN κ) (D.2 (cCi κ)) H (cV la σ κ i)) ∧
  (∀ κ i, 12 ≤ κ → κ ≤ 17 → cLive la σ κ i → H[la κ i]? = some (arrV (cy (if κ = 12 then 2 else 1)) (aLn κ) (fun j => .int (iI (aV σ κ i j))))) ∧
  (∀ L, cLive la σ 11 L → cBk (cy 4) d0 la σ H L) ∧ cApart la σ ∧ (∀ κ i, κ ≤ 18 → cLive la σ κ i → A (la κ i)) ∧ cW σ ∧ ¬ A d0
abbrev cty (cy : Nat → ClassId) : List (ClassId × FieldType) := [(cy 1, .int), (cy 2, .boolean), (cy 3, .long), (cy 4, .object "java/lang/Object")]
theorem CP.ob {D : va_G} {cy : Nat → ClassId} {d0 : Nat} {A : Nat → Prop} {la : Nat → Int → Nat} {σ : MS} {H : Heap} (h : CP D cy d0 A la σ H) {κ : Nat} {i : Int} (hκ : κ ≤ 11) (hl : cLive la σ κ i) : t_OB (la κ i) (D.1 (cCi κ)) (cN κ) (D.2 (cCi κ)) H (cV la σ κ i) := h.1 κ i hκ hl
theorem CP.kept {D : va_G} {cy : Nat → ClassId} {d0 : Nat} {A : Nat → Prop} {la : Nat → Int → Nat} {σ : MS} {H H1 : Heap} (h : CP D cy d0 A la σ H) (hq : ∀ κ i, κ ≤ 18 → cLive la σ κ i → H1[la κ i]? = H[la κ i]?) : CP D cy d0 A la σ H1 := by
  obtain ⟨h1, h2, h3, h4⟩ := h
  refine ⟨fun κ i a b => (h1 κ i a b).kept (hq κ i (by omega) b), fun κ i a b c => (hq κ i (by omega) c).trans (h2 κ i a b c), fun L hL => ?_, h4⟩
  obtain ⟨k1, k2⟩ := h3 L hL
  refine ⟨k1, k2.imp id (fun ⟨q1, f, q2, q3⟩ => ⟨q1, f, ?_, q3⟩)⟩
  rw [hq 18 L (by omega) ⟨hL, q1⟩]
  exact q2
/-- the same live cells, the same values in all but one cell of kind κ, number i (an object) -/
theorem CP.set {D : va_G} {cy : Nat → ClassId} {d0 : Nat} {A : Nat → Prop} {la : Nat → Int → Nat} {σ σ' : MS} {H H1 : Heap} (h : CP D cy d0 A la σ H) {κ : Nat} {i : Int} (hκ : κ ≤ 11) (hl : cLive la σ κ i) (ho : t_OB (la κ i) (D.1 (cCi κ)) (cN κ) (D.2 (cCi κ)) H1 (cV la σ' κ i)) (oq : ∀ q, q ≠ la κ i → H1[q]? = H[q]?)
    (hlive : ∀ κ' i', cLive la σ' κ' i' ↔ cLive la σ κ' i') (hval : ∀ κ' i', κ' ≤ 11 → ¬ (κ' = κ ∧ i' = i) → ∀ k, k < cN κ' → cV la σ' κ' i' k = cV la σ κ' i' k) (harr : ∀ κ' i' j, 12 ≤ κ' → κ' ≤ 17 → aV σ' κ' i' j = aV σ κ' i' j) (hsz : ∀ L, cSz σ' L = cSz σ L) (hw : cW σ') : CP D cy d0 A la σ' H1 := by
  obtain ⟨h1, h2, h3, h4, h5, h6, h7⟩ := h
  have hne : ∀ κ' i', κ' ≤ 18 → cLive la σ κ' i' → ¬ (κ' = κ ∧ i' = i) → la κ' i' ≠ la κ i := fun κ' i' a b c e => c (h4 κ' κ i' i a (by omega) b hl e)
  refine ⟨fun κ' i' a b => ?_, fun κ' i' a b c => ?_, fun L hL => ?_, fun κ' κ'' i' i'' a b c d e => h4 κ' κ'' i' i'' a b ((hlive _ _).mp c) ((hlive _ _).mp d) e, fun κ' i' a b => h5 κ' i' a ((hlive _ _).mp b), hw, h7⟩
  · have b' := (hlive _ _).mp b
    by_cases hq : κ' = κ ∧ i' = i
    · obtain ⟨rfl, rfl⟩ := hq
      exact ho
    · exact ((h1 κ' i' a b').kept (oq _ (hne κ' i' (by omega) b' hq))).to (fun k hk => (hval κ' i' a hq k hk).symm)
  · have c' := (hlive _ _).mp c
    rw [oq _ (hne κ' i' (by omega) c' (by omega)), h2 κ' i' a b c']
    simp only [harr κ' i' _ a b]
  · have hL' := (hlive _ _).mp hL
    obtain ⟨k1, k2⟩ := h3 L hL'
    refine ⟨by rw [hsz]; exact k1, k2.imp id (fun ⟨q1, f, q2, q3⟩ => ⟨q1, f, ?_, fun j hj => q3 j (by rw [← hsz]; exact hj)⟩)⟩
    rw [oq _ (hne 18 L (by omega) ⟨hL', q1⟩ (by omega))]
    exact q2
