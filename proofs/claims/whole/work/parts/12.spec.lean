/-! WHAT THE TOWN'S ANSWERS ARE, as functions of its numbers (fields by number: 1 open, 2 holidays, 3 weekdays, 4 weeksOf, 5 streets, 6 streetOf, 7 bands, 8 bandCost, 9 billed, 10 paidBy, 11 houses, 12 kind, 13 bears, 14 markOf, 15 wrongs, 16 moveHouse, 17 moveDay, 18 moves, 19 partHouse, 20 partWeight, 21 partDay, 22 parts, 23 bins, 24 limits, 25 carry, 26 gates, 27 carts, 28 lifts, 29 rates, 30 price, 31 tolerance, 32 dayOf, 33 cartOf, 34 tipMark, 35 halves, 36 binOf, 37 cameSo, 38 weighedSo, 39 paidHalves, 40 isCharged, 41 toldWrong, 42 lift, 43 rate, 44 gateOf, 45 tips) -/
abbrev pHol (σ : MS) (d : Int) : Prop := d < 700 ∧ σ 2 d = 1
def sBef (σ : MS) (b : Int) : Nat → Int
  | 0 => 0
  | k + 1 => sBef σ b k + (if pHol σ (b + k) then 0 else 1)
def sFnd (σ : MS) (b ahead : Int) : Nat → Int
  | 0 => -2
  | n + 1 => if ¬ pHol σ (b + ((5 - n : Nat) : Int)) ∧ sBef σ b (5 - n) = ahead then b + ((5 - n : Nat) : Int) else sFnd σ b ahead n
abbrev sHasR (σ : MS) (st g w : Int) : Prop := ¬ (if w % 2 = 1 then σ 4 (3 * st + g) % 2 else σ 4 (3 * st + g) / 2 * 2) = 0
def sDay (σ : MS) (st g w : Int) : Int := if (if w % 2 = 1 then σ 4 (3 * st + g) % 2 else σ 4 (3 * st + g) / 2 * 2) = 0 then -1 else sFnd σ (7 * w) (σ 3 (3 * st + g)) 6
def sGrp (k : Int) : Int := if k = 1 then 1 else if k = 2 then 2 else 0
def sHo (σ : MS) (b d : Int) : Nat → Int
  | 0 => -1
  | k + 1 => if σ 17 (8 * b + k) ≤ d then σ 16 (8 * b + k) else sHo σ b d k
def sHouse (σ : MS) (b d : Int) : Int := sHo σ b d (σ 18 b).toNat
def sWt (σ : MS) (b h d : Int) : Nat → Int
  | 0 => 0
  | k + 1 => if σ 19 (20 * b + k) = h ∧ σ 21 (20 * b + k) ≤ d then σ 20 (20 * b + k) else sWt σ b h d k
def sWeight (σ : MS) (b h d : Int) : Int := sWt σ b h d (σ 22 b).toNat
/-- where x comes in a rising row of n numbers: behind what isn't above it -/
def insP (r : Int → Int) (x : Int) : Nat → Nat
  | 0 => 0
  | k + 1 => if x < r k then insP r x k else k + 1
def insR (r : Int → Int) (n : Nat) (x : Int) : Int → Int := fun j => if j < insP r x n then r j else if j = insP r x n then x else if j ≤ n then r (j - 1) else r j
def sMid (σ : MS) (b : Int) : Nat → Nat → (Int → Int) → Int
  | 0, n, r => if n = 0 then 0 else r (((n : Int) - 1) / 2)
  | t + 1, n, r => if 5 ≤ n then r (((n : Int) - 1) / 2) else if σ 36 t = b ∧ σ 38 t = 0 then sMid σ b t (n + 1) (insR r n (σ 35 t)) else sMid σ b t n r
def sMiddle (σ : MS) (b : Int) : Int := sMid σ b (σ 45 0).toNat 0 (fun _ => 0)
def sBr (σ : MS) (mk : Int) : Nat → Int
  | 0 => 0
  | b + 1 => sBr σ mk b + (if σ 13 b = 1 ∧ σ 14 b = mk then 1 else 0)
def sBear (σ : MS) (mk : Int) : Int := sBr σ mk (σ 23 0).toNat
def sHt (σ : MS) (c : Int) : Nat → Int
  | 0 => 0
  | t + 1 => sHt σ c t + (if σ 32 t = σ 1 0 ∧ σ 33 t = c then σ 35 t else 0)
def sHalves (σ : MS) (c : Int) : Int := sHt σ c (σ 45 0).toNat
abbrev sAgr (σ : MS) (c : Int) : Prop := σ 26 c < 0 ∨ 1000 * (if sHalves σ c - σ 26 c < 0 then -(sHalves σ c - σ 26 c) else sHalves σ c - σ 26 c) ≤ σ 31 0 * σ 26 c
def sAw (σ : MS) (t : Int) : Nat → Int
  | 0 => 0
  | h + 1 => sAw σ t h + sWeight σ (σ 36 t) h (σ 32 t)
def sAll (σ : MS) (t : Int) : Int := sAw σ t (σ 11 0).toNat
abbrev sNob (σ : MS) (t : Int) : Prop := if σ 12 (σ 36 t) = 3 then sAll σ t = 0 else sHouse σ (σ 36 t) (σ 32 t) < 0
/-- steps of the recursions at a whole number -/
theorem sBef_s {σ : MS} {b : Int} {k : Int} (h : 0 ≤ k) : sBef σ b (k + 1).toNat = sBef σ b k.toNat + (if pHol σ (b + k) then 0 else 1) := by
  rw [show (k + 1).toNat = k.toNat + 1 by omega, sBef, Int.toNat_of_nonneg h]
theorem sHo_s {σ : MS} {b d k : Int} (h : 0 ≤ k) : sHo σ b d (k + 1).toNat = if σ 17 (8 * b + k) ≤ d then σ 16 (8 * b + k) else sHo σ b d k.toNat := by
  rw [show (k + 1).toNat = k.toNat + 1 by omega, sHo, Int.toNat_of_nonneg h]
theorem sWt_s {σ : MS} {b h d k : Int} (h0 : 0 ≤ k) : sWt σ b h d (k + 1).toNat = if σ 19 (20 * b + k) = h ∧ σ 21 (20 * b + k) ≤ d then σ 20 (20 * b + k) else sWt σ b h d k.toNat := by
  rw [show (k + 1).toNat = k.toNat + 1 by omega, sWt, Int.toNat_of_nonneg h0]
theorem sBr_s {σ : MS} {mk b : Int} (h : 0 ≤ b) : sBr σ mk (b + 1).toNat = sBr σ mk b.toNat + (if σ 13 b = 1 ∧ σ 14 b = mk then 1 else 0) := by
  rw [show (b + 1).toNat = b.toNat + 1 by omega, sBr, Int.toNat_of_nonneg h]
theorem sHt_s {σ : MS} {c t : Int} (h : 0 ≤ t) : sHt σ c (t + 1).toNat = sHt σ c t.toNat + (if σ 32 t = σ 1 0 ∧ σ 33 t = c then σ 35 t else 0) := by
  rw [show (t + 1).toNat = t.toNat + 1 by omega, sHt, Int.toNat_of_nonneg h]
theorem sAw_s {σ : MS} {t h : Int} (h0 : 0 ≤ h) : sAw σ t (h + 1).toNat = sAw σ t h.toNat + sWeight σ (σ 36 t) h (σ 32 t) := by
  rw [show (h + 1).toNat = h.toNat + 1 by omega, sAw, Int.toNat_of_nonneg h0]
/-- ranges -/
theorem sBef_r (σ : MS) (b : Int) : ∀ k : Nat, 0 ≤ sBef σ b k ∧ sBef σ b k ≤ k
  | 0 => by simp [sBef]
  | k + 1 => by
    have := sBef_r σ b k
    rw [sBef]
    split <;> omega
theorem sHo_r {σ : MS} (hw : mW σ) (b d : Int) : ∀ k : Nat, -2147483648 ≤ sHo σ b d k ∧ sHo σ b d k < 2147483648
  | 0 => by simp [sHo]
  | k + 1 => by
    have := sHo_r hw b d k
    rw [sHo]
    split
    · exact hw.1 16 _ (by decide)
    · exact this
theorem sWt_r {σ : MS} (hw : mW σ) (b h d : Int) : ∀ k : Nat, -2147483648 ≤ sWt σ b h d k ∧ sWt σ b h d k < 2147483648
  | 0 => by simp [sWt]
  | k + 1 => by
    have := sWt_r hw b h d k
    rw [sWt]
    split
    · exact hw.1 20 _ (by decide)
    · exact this
theorem sBr_r (σ : MS) (mk : Int) : ∀ k : Nat, 0 ≤ sBr σ mk k ∧ sBr σ mk k ≤ k
  | 0 => by simp [sBr]
  | k + 1 => by
    have := sBr_r σ mk k
    rw [sBr]
    split <;> omega
theorem sHt_r {σ : MS} (hh : ∀ t, 0 ≤ t → t < σ 45 0 → 0 ≤ σ 35 t ∧ σ 35 t ≤ 3000000) (c : Int) : ∀ {n : Nat}, (n : Int) ≤ σ 45 0 → n ≤ 600 → 0 ≤ sHt σ c n ∧ sHt σ c n ≤ 1800000000 := by
  have key : ∀ n : Nat, (n : Int) ≤ σ 45 0 → 0 ≤ sHt σ c n ∧ sHt σ c n ≤ 3000000 * n := by
    intro n
    induction n with
    | zero => intro _; simp [sHt]
    | succ n ih =>
      intro h
      have h1 := ih (by omega)
      have h2 := hh n (by omega) (by omega)
      rw [sHt]
      split <;> omega
  intro n h1 h2
  have := key n h1
  omega
theorem sWt_p {σ : MS} (hpw : ∀ j, 0 ≤ σ 20 j ∧ σ 20 j ≤ 1000) (b h d : Int) : ∀ k : Nat, 0 ≤ sWt σ b h d k ∧ sWt σ b h d k ≤ 1000
  | 0 => by simp [sWt]
  | k + 1 => by
    have := sWt_p hpw b h d k
    rw [sWt]
    split
    · exact hpw _
    · exact this
theorem sAw_r {σ : MS} (hpw : ∀ j, 0 ≤ σ 20 j ∧ σ 20 j ≤ 1000) {t : Int} : ∀ {n : Nat}, (n : Int) ≤ σ 11 0 → n ≤ 60 → 0 ≤ sAw σ t n ∧ sAw σ t n ≤ 60000 := by
  have key : ∀ n : Nat, 0 ≤ sAw σ t n ∧ sAw σ t n ≤ 1000 * n := by
    intro n
    induction n with
    | zero => simp [sAw]
    | succ n ih =>
      have h2 := sWt_p hpw (σ 36 t) n (σ 32 t) (σ 22 (σ 36 t)).toNat
      rw [sAw]
      unfold sWeight
      omega
  intro n h1 h2
  have := key n
  omega
theorem sFnd_s {σ : MS} {b ahead k : Int} (h : 0 ≤ k ∧ k ≤ 5) : sFnd σ b ahead (5 - (k - 1)).toNat = if ¬ pHol σ (b + k) ∧ sBef σ b k.toNat = ahead then b + k else sFnd σ b ahead (5 - k).toNat := by
  rw [show (5 - (k - 1)).toNat = (5 - k).toNat + 1 by omega, sFnd, show 5 - (5 - k).toNat = k.toNat by omega, Int.toNat_of_nonneg h.1]
theorem sFnd_r {σ : MS} {b ahead : Int} (hb : 0 ≤ b) : ∀ n : Nat, -2 ≤ sFnd σ b ahead n ∧ sFnd σ b ahead n ≤ b + 5
  | 0 => by simp only [sFnd]; omega
  | n + 1 => by
    have := sFnd_r (σ := σ) (ahead := ahead) hb n
    rw [sFnd]
    split <;> omega
theorem sDay_r {σ : MS} {st g w : Int} (hw : 0 ≤ w ∧ w ≤ 110) : -2 ≤ sDay σ st g w ∧ sDay σ st g w ≤ 800 := by
  have := sFnd_r (σ := σ) (b := 7 * w) (ahead := σ 3 (3 * st + g)) (by omega) 6
  unfold sDay
  split <;> omega

def sChg (σ : MS) (t : Int) : Int := if ¬ σ 40 t = 1 ∨ sNob σ t then 0 else σ 42 t + σ 43 t * σ 39 t
theorem sChg_0 {σ : MS} {t : Int} (h : σ 40 t = 0) : sChg σ t = 0 := by unfold sChg; rw [if_pos (Or.inl (by omega))]
theorem sChg_n {σ : MS} {t : Int} (h : sNob σ t) : sChg σ t = 0 := by unfold sChg; rw [if_pos (Or.inr h)]
theorem sChg_c {σ : MS} {t : Int} (h : σ 40 t = 1) (h2 : ¬ sNob σ t) : sChg σ t = σ 42 t + σ 43 t * σ 39 t := by unfold sChg; rw [if_neg (fun q => q.elim (fun q => q h) h2)]
theorem insP_c {r r' : Int → Int} {x : Int} : ∀ {n : Nat}, (∀ j : Int, 0 ≤ j → j < n → r j = r' j) → insP r x n = insP r' x n
  | 0, _ => rfl
  | n + 1, h => by
    rw [insP, insP, h n (by omega) (by omega), insP_c (fun j h1 h2 => h j h1 (by omega))]
theorem insP_le (r : Int → Int) (x : Int) : ∀ n : Nat, insP r x n ≤ n
  | 0 => Nat.le_refl 0
  | n + 1 => by
    have := insP_le r x n
    rw [insP]
    split <;> omega
theorem insR_c {r r' : Int → Int} {x : Int} {n : Nat} (h : ∀ j : Int, 0 ≤ j → j < n → r j = r' j) : ∀ j : Int, 0 ≤ j → j < ((n + 1 : Nat) : Int) → insR r n x j = insR r' n x j := by
  intro j h1 h2
  have hp := insP_le r x n
  unfold insR
  rw [← insP_c h]
  by_cases a : j < insP r x n
  · rw [if_pos a, if_pos a]; exact h j h1 (by omega)
  · rw [if_neg a, if_neg a]
    by_cases b : j = insP r x n
    · rw [if_pos b, if_pos b]
    · rw [if_neg b, if_neg b, if_pos (by omega), if_pos (by omega)]
      exact h (j - 1) (by omega) (by omega)
theorem sMid_c {σ : MS} {b : Int} : ∀ (t n : Nat) {r r' : Int → Int}, (∀ j : Int, 0 ≤ j → j < n → r j = r' j) → sMid σ b t n r = sMid σ b t n r'
  | 0, n, r, r', h => by
    rw [sMid, sMid]
    split
    · rfl
    · exact h _ (by omega) (by omega)
  | t + 1, n, r, r', h => by
    rw [sMid, sMid]
    split
    · exact h _ (by omega) (by omega)
    · split
      · exact sMid_c t (n + 1) (insR_c h)
      · exact sMid_c t n h
theorem sMid_5 {σ : MS} {b : Int} {t n : Nat} {r : Int → Int} (h : 5 ≤ n) : sMid σ b t n r = r (((n : Int) - 1) / 2) := by
  cases t with
  | zero => rw [sMid, if_neg (by omega)]
  | succ t => rw [sMid, if_pos h]
theorem sMid_t {σ : MS} {b t n : Int} {r : Int → Int} (h : 0 ≤ t) (hn : ¬ 5 ≤ n) : sMid σ b (t + 1).toNat n.toNat r = if σ 36 t = b ∧ σ 38 t = 0 then sMid σ b t.toNat (n.toNat + 1) (insR r n.toNat (σ 35 t)) else sMid σ b t.toNat n.toNat r := by
  rw [show (t + 1).toNat = t.toNat + 1 by omega, sMid, if_neg (by omega), Int.toNat_of_nonneg h]
theorem insR_v {P : Int → Prop} {r : Int → Int} {x : Int} {n : Nat} (hx : P x) (h : ∀ j : Int, 0 ≤ j → j < n → P (r j)) : ∀ j : Int, 0 ≤ j → j < ((n + 1 : Nat) : Int) → P (insR r n x j) := by
  intro j h1 h2
  have hp := insP_le r x n
  unfold insR
  split
  · exact h j h1 (by omega)
  · split
    · exact hx
    · rw [if_pos (by omega)]
      exact h (j - 1) (by omega) (by omega)
theorem sMid_v {σ : MS} {b : Int} {P : Int → Prop} (h0 : P 0) : ∀ (t n : Nat) {r : Int → Int}, (∀ j : Int, 0 ≤ j → j < t → P (σ 35 j)) → (∀ j : Int, 0 ≤ j → j < n → P (r j)) → P (sMid σ b t n r)
  | 0, n, r, hs, h => by
    rw [sMid]
    split
    · exact h0
    · exact h _ (by omega) (by omega)
  | t + 1, n, r, hs, h => by
    rw [sMid]
    split
    · exact h _ (by omega) (by omega)
    · split
      · exact sMid_v h0 t (n + 1) (fun j h1 h2 => hs j h1 (by omega)) (insR_v (hs t (by omega) (by omega)) h)
      · exact sMid_v h0 t n (fun j h1 h2 => hs j h1 (by omega)) h
theorem sMiddle_r {σ : MS} {b M : Int} (hM : 0 ≤ M) (hh : ∀ t, 0 ≤ t → t < σ 45 0 → 0 ≤ σ 35 t ∧ σ 35 t ≤ M) : 0 ≤ sMiddle σ b ∧ sMiddle σ b ≤ M := by
  refine sMid_v (P := fun z => 0 ≤ z ∧ z ≤ M) ⟨by omega, hM⟩ _ _ (fun j h1 h2 => hh j h1 (by omega)) (fun j h1 h2 => ?_)
  omega
/-- the row while x makes its way down -/
theorem insR_end {r : Int → Int} {c : Int → Int} {x n k : Int} (hk : 0 ≤ k ∧ k ≤ n) (hc : ∀ j, c j = if k < j ∧ j ≤ n then r (j - 1) else r j) (hp : insP r x n.toNat = insP r x k.toNat) (he : k = 0 ∨ r (k - 1) ≤ x) (j : Int) (hj : 0 ≤ j) : (if j = k then x else c j) = insR r n.toNat x j := by
  have e : (insP r x n.toNat : Int) = k := by
    rw [hp]
    rcases he with he | he
    · subst he; rfl
    · by_cases h0 : k = 0
      · subst h0; rfl
      · rw [show k.toNat = (k - 1).toNat + 1 by omega, insP, Int.toNat_of_nonneg (by omega), if_neg (by omega)]
        omega
  unfold insR
  rw [e, hc j]
  by_cases a : j = k
  · rw [if_pos a, if_neg (by omega), if_pos a]
  · rw [if_neg a]
    by_cases b : j < k
    · rw [if_pos b, if_neg (by omega)]
    · rw [if_neg b, if_neg a]
      by_cases d : j ≤ n
      · rw [if_pos (by omega), if_pos (by omega)]
      · rw [if_neg (by omega), if_neg (by omega)]
theorem insP_s {r : Int → Int} {x k : Int} (hk : 0 < k) (h : x < r (k - 1)) : insP r x k.toNat = insP r x (k - 1).toNat := by
  rw [show k.toNat = (k - 1).toNat + 1 by omega, insP, Int.toNat_of_nonneg (by omega), if_pos h]
theorem up_rd {σ : MS} {k k' : Nat} {j v j' : Int} : up σ k j v k' j' = if k' = k ∧ j' = j then v else σ k' j' := rfl
theorem sHo_c {σ τ : MS} (h1 : τ 16 = σ 16) (h2 : τ 17 = σ 17) (b d : Int) : ∀ n : Nat, sHo τ b d n = sHo σ b d n
  | 0 => rfl
  | n + 1 => by rw [sHo, sHo, sHo_c h1 h2 b d n, h1, h2]
theorem sHouse_c {σ τ : MS} (h1 : τ 16 = σ 16) (h2 : τ 17 = σ 17) (h3 : τ 18 = σ 18) (b d : Int) : sHouse τ b d = sHouse σ b d := by
  unfold sHouse
  rw [h3, sHo_c h1 h2]
theorem sHo_p {σ : MS} (hh : ∀ j, 0 ≤ σ 16 j ∧ σ 16 j < 60) (b d : Int) : ∀ n : Nat, -1 ≤ sHo σ b d n ∧ sHo σ b d n < 60
  | 0 => by simp [sHo]
  | n + 1 => by
    have := sHo_p hh b d n
    have h2 := hh (8 * b + n)
    rw [sHo]
    split <;> omega
theorem sHouse_p {σ : MS} (hh : ∀ j, 0 ≤ σ 16 j ∧ σ 16 j < 60) (b d : Int) : -1 ≤ sHouse σ b d ∧ sHouse σ b d < 60 := sHo_p hh b d _
/-- to be charged -/
def sW1 (σ : MS) (t : Int) : MS := if σ 41 t = 1 then up σ 15 (σ 36 t) (σ 15 (σ 36 t) + 1) else σ
def sFin (σ : MS) (t k : Int) : MS := up (up (up σ 42 t (if k < 0 then 0 else σ 28 k)) 43 t (if k < 0 then 0 else σ 29 k)) 40 t 1
def sChB (σ : MS) (t third : Int) : MS :=
  if σ 12 (σ 36 t) = 4 then (if 0 ≤ sHouse σ (σ 36 t) (σ 32 t) ∧ 0 < σ 7 (sHouse σ (σ 36 t) (σ 32 t)) then sFin (up σ 7 (sHouse σ (σ 36 t) (σ 32 t)) (σ 7 (sHouse σ (σ 36 t) (σ 32 t)) - 1)) t (-1) else sFin σ t 4)
  else if third = 1 then sFin σ t 0 else if σ 12 (σ 36 t) = 2 then sFin σ t (-1) else sFin σ t (σ 12 (σ 36 t))
def sCh (σ : MS) (t : Int) : MS := sChB (sW1 σ t) t (if σ 41 t = 1 ∧ 2 < sW1 σ t 15 (σ 36 t) then 1 else 0)
/-- shares -/
def sLf (σ : MS) (t c all : Int) : Nat → Int
  | 0 => c
  | h + 1 => sLf σ t c all h - c * sWeight σ (σ 36 t) h (σ 32 t) / all
def sAh (σ : MS) (t : Int) : Nat → Int
  | 0 => 0
  | h + 1 => sAh σ t h + (if 0 < sWeight σ (σ 36 t) h (σ 32 t) then 1 else 0)
def sShr (σ : MS) (t h : Int) : Int :=
  if σ 40 t = 0 then 0 else if ¬ σ 12 (σ 36 t) = 3 then (if sHouse σ (σ 36 t) (σ 32 t) = h then sChg σ t else 0)
  else if sAll σ t = 0 then 0 else sChg σ t * sWeight σ (σ 36 t) h (σ 32 t) / sAll σ t + (if 0 < sWeight σ (σ 36 t) h (σ 32 t) ∧ sAh σ t h.toNat < sLf σ t (sChg σ t) (sAll σ t) (σ 11 0).toNat then 1 else 0)
def sCt (σ : MS) (h : Int) : Nat → Int
  | 0 => σ 8 h
  | t + 1 => sCt σ h t + sShr σ t h
def sChd (σ : MS) (h : Int) : Int := sCt σ h (σ 45 0).toNat
theorem sLf_s {σ : MS} {t c all h : Int} (h0 : 0 ≤ h) : sLf σ t c all (h + 1).toNat = sLf σ t c all h.toNat - c * sWeight σ (σ 36 t) h (σ 32 t) / all := by
  rw [show (h + 1).toNat = h.toNat + 1 by omega, sLf, Int.toNat_of_nonneg h0]
theorem sAh_s {σ : MS} {t h : Int} (h0 : 0 ≤ h) : sAh σ t (h + 1).toNat = sAh σ t h.toNat + (if 0 < sWeight σ (σ 36 t) h (σ 32 t) then 1 else 0) := by
  rw [show (h + 1).toNat = h.toNat + 1 by omega, sAh, Int.toNat_of_nonneg h0]
theorem sCt_s {σ : MS} {h t : Int} (h0 : 0 ≤ t) : sCt σ h (t + 1).toNat = sCt σ h t.toNat + sShr σ t h := by
  rw [show (t + 1).toNat = t.toNat + 1 by omega, sCt, Int.toNat_of_nonneg h0]
theorem sAh_r (σ : MS) (t : Int) : ∀ n : Nat, 0 ≤ sAh σ t n ∧ sAh σ t n ≤ n
  | 0 => by simp [sAh]
  | n + 1 => by
    have := sAh_r σ t n
    rw [sAh]
    split <;> omega
theorem cw_r {c w : Int} (hc : 0 ≤ c ∧ c ≤ 300000100000) (hw : 0 ≤ w ∧ w ≤ 1000) : 0 ≤ c * w ∧ c * w ≤ 300000100000000 :=
  ⟨Int.mul_nonneg hc.1 hw.1, by have := Int.mul_le_mul (a := c) (b := w) (c := 300000100000) (d := 1000) hc.2 hw.2 hw.1 (by omega); omega⟩
theorem div_r {x a : Int} (hx : 0 ≤ x ∧ x ≤ 300000100000000) (ha : 0 < a) : 0 ≤ x / a ∧ x / a ≤ 300000100000000 :=
  ⟨Int.ediv_nonneg hx.1 (by omega), Int.le_trans (Int.ediv_le_self _ hx.1) hx.2⟩
theorem sLf_r {σ : MS} {t c all : Int} (hc : 0 ≤ c ∧ c ≤ 300000100000) (ha : 0 < all) (hpw : ∀ j, 0 ≤ σ 20 j ∧ σ 20 j ≤ 1000) : ∀ n : Nat, c - 300000100000000 * n ≤ sLf σ t c all n ∧ sLf σ t c all n ≤ c
  | 0 => by simp [sLf]
  | n + 1 => by
    have h1 := sLf_r (t := t) hc ha hpw n
    have h2 := div_r (cw_r hc (sWt_p hpw (σ 36 t) n (σ 32 t) (σ 22 (σ 36 t)).toNat)) ha
    rw [sLf]
    unfold sWeight
    omega
theorem sChg_r {σ : MS} {t : Int} (h1 : 0 ≤ σ 42 t ∧ σ 42 t ≤ 100000) (h2 : 0 ≤ σ 43 t ∧ σ 43 t ≤ 100000) (h3 : 0 ≤ σ 39 t ∧ σ 39 t ≤ 3000000) : 0 ≤ sChg σ t ∧ sChg σ t ≤ 300000100000 := by
  have e1 := Int.mul_nonneg h2.1 h3.1
  have e2 := Int.mul_le_mul (a := σ 43 t) (b := σ 39 t) (c := 100000) (d := 3000000) h2.2 h3.2 h3.1 (by omega)
  unfold sChg
  split <;> omega
theorem sCh_w1 {σ : MS} {t : Int} (h : σ 41 t = 1) : sCh σ t = sChB (up σ 15 (σ 36 t) (σ 15 (σ 36 t) + 1)) t (if 2 < σ 15 (σ 36 t) + 1 then 1 else 0) := by
  have e : sW1 σ t = up σ 15 (σ 36 t) (σ 15 (σ 36 t) + 1) := if_pos h
  unfold sCh
  rw [e, up_s]
  by_cases h2 : 2 < σ 15 (σ 36 t) + 1
  · rw [if_pos ⟨h, h2⟩, if_pos h2]
  · rw [if_neg (fun q => h2 q.2), if_neg h2]
theorem sCh_w0 {σ : MS} {t : Int} (h : ¬ σ 41 t = 1) : sCh σ t = sChB σ t 0 := by
  have e : sW1 σ t = σ := if_neg h
  unfold sCh
  rw [e, if_neg (fun q => h q.1)]
theorem sChB_a {σ : MS} {t th H : Int} (hH : sHouse σ (σ 36 t) (σ 32 t) = H) (h4 : σ 12 (σ 36 t) = 4) (h0 : 0 ≤ H) (h7 : 0 < σ 7 H) : sChB σ t th = up (up (up (up σ 7 H (σ 7 H - 1)) 42 t 0) 43 t 0) 40 t 1 := by
  subst hH
  unfold sChB
  rw [if_pos h4, if_pos ⟨h0, h7⟩]
  rfl
theorem sChB_b {σ : MS} {t th H : Int} (hH : sHouse σ (σ 36 t) (σ 32 t) = H) (h4 : σ 12 (σ 36 t) = 4) (h0 : ¬ (0 ≤ H ∧ 0 < σ 7 H)) : sChB σ t th = up (up (up σ 42 t (σ 28 (σ 12 (σ 36 t)))) 43 t (σ 29 (σ 12 (σ 36 t)))) 40 t 1 := by
  subst hH
  unfold sChB
  rw [if_pos h4, if_neg h0, h4]
  rfl
theorem sChB_c {σ : MS} {t th : Int} (h4 : ¬ σ 12 (σ 36 t) = 4) (h : th = 1) : sChB σ t th = up (up (up σ 42 t (σ 28 0)) 43 t (σ 29 0)) 40 t 1 := by
  unfold sChB
  rw [if_neg h4, if_pos h]
  rfl
theorem sChB_d {σ : MS} {t th : Int} (h4 : σ 12 (σ 36 t) = 2) (h : ¬ th = 1) : sChB σ t th = up (up (up σ 42 t 0) 43 t 0) 40 t 1 := by
  unfold sChB
  rw [if_neg (by omega), if_neg h, if_pos h4]
  rfl
theorem sChB_e {σ : MS} {t th : Int} (h4 : ¬ σ 12 (σ 36 t) = 4) (h2 : ¬ σ 12 (σ 36 t) = 2) (h : ¬ th = 1) (h0 : 0 ≤ σ 12 (σ 36 t)) : sChB σ t th = up (up (up σ 42 t (σ 28 (σ 12 (σ 36 t)))) 43 t (σ 29 (σ 12 (σ 36 t)))) 40 t 1 := by
  unfold sChB
  rw [if_neg h4, if_neg h, if_neg h2]
  unfold sFin
  rw [if_neg (by omega), if_neg (by omega)]
theorem sHouse_15 {σ : MS} {j v b d : Int} : sHouse (up σ 15 j v) b d = sHouse σ b d := sHouse_c (σ := σ) (up_f (σ := σ) (k := 15) (k' := 16) (by decide)) (up_f (σ := σ) (k := 15) (k' := 17) (by decide)) (up_f (σ := σ) (k := 15) (k' := 18) (by decide)) b d
theorem sShr_0 {σ : MS} {t h : Int} (h40 : σ 40 t = 0) : sShr σ t h = 0 := by unfold sShr; rw [if_pos h40]
theorem sShr_o {σ : MS} {t h : Int} (h40 : ¬ σ 40 t = 0) (h3 : ¬ σ 12 (σ 36 t) = 3) (hh : sHouse σ (σ 36 t) (σ 32 t) = h) : sShr σ t h = sChg σ t := by unfold sShr; rw [if_neg h40, if_pos h3, if_pos hh]
theorem sShr_n {σ : MS} {t h : Int} (h40 : ¬ σ 40 t = 0) (h3 : ¬ σ 12 (σ 36 t) = 3) (hh : ¬ sHouse σ (σ 36 t) (σ 32 t) = h) : sShr σ t h = 0 := by unfold sShr; rw [if_neg h40, if_pos h3, if_neg hh]
theorem sShr_z {σ : MS} {t h : Int} (h40 : ¬ σ 40 t = 0) (h3 : σ 12 (σ 36 t) = 3) (ha : sAll σ t = 0) : sShr σ t h = 0 := by unfold sShr; rw [if_neg h40, if_neg (fun q => q h3), if_pos ha]
theorem sShr_w {σ : MS} {t h : Int} (h40 : ¬ σ 40 t = 0) (h3 : σ 12 (σ 36 t) = 3) (ha : ¬ sAll σ t = 0) : sShr σ t h = sChg σ t * sWeight σ (σ 36 t) h (σ 32 t) / sAll σ t + (if 0 < sWeight σ (σ 36 t) h (σ 32 t) ∧ sAh σ t h.toNat < sLf σ t (sChg σ t) (sAll σ t) (σ 11 0).toNat then 1 else 0) := by unfold sShr; rw [if_neg h40, if_neg (fun q => q h3), if_neg ha]
