/-! THE PUBLIC METHODS as functions of the numbers: xC the kind of refusal (0: none), xR the answer, xS the state behind it -/
def sEq (σ τ : MS) : Prop := ∀ k : Nat, k ≠ 0 → k ≠ 46 → k ≠ 47 → σ k = τ k
theorem sEq.rf {σ : MS} : sEq σ σ := fun _ _ _ _ => rfl
theorem sEq.sy {σ τ : MS} (h : sEq σ τ) : sEq τ σ := fun k a b c => (h k a b c).symm
theorem sEq.tr {σ τ υ : MS} (h : sEq σ τ) (h2 : sEq τ υ) : sEq σ υ := fun k a b c => (h k a b c).trans (h2 k a b c)
theorem sEq.z {σ : MS} {j v : Int} : sEq (up σ 0 j v) σ := fun _ a _ _ => up_f a
theorem sEq.zz {σ : MS} {j v i w : Int} : sEq (up (up σ 0 j v) 0 i w) σ := fun _ a _ _ => (up_f a).trans (up_f a)
theorem sEq.u {σ τ : MS} {k : Nat} {j v : Int} (h : sEq σ τ) : sEq (up σ k j v) (up τ k j v) := by
  intro q a b c
  by_cases hq : q = k
  · subst hq
    funext j'
    simp only [up_rd, h q a b c]
  · rw [up_f hq, up_f hq, h q a b c]
theorem sEq.off {σ τ : MS} {k : Nat} {j v : Int} (h : sEq σ τ) (hk : k = 0 ∨ k = 46 ∨ k = 47) : sEq (up σ k j v) τ := by
  intro q a b c
  rw [up_f (by rcases hk with rfl | rfl | rfl <;> assumption), h q a b c]
/-- the end of a refused call, of a call done -/
def pEnd (C : Int) (S σ τ : MS) : Prop := τ 0 0 = C ∧ sEq τ (if C = 0 then S else σ)
theorem pE {σ S : MS} {C z : Int} (hc : C = z) (h0 : z ≠ 0) : pEnd C S σ (up (up σ 0 0 0) 0 0 z) := by
  subst hc
  exact ⟨up_s, by rw [if_neg h0]; exact sEq.zz⟩
theorem pO {σ S τ : MS} {C : Int} (hc : C = 0) (h0 : τ 0 0 = 0) (h : sEq τ S) : pEnd C S σ τ := by
  subst hc
  exact ⟨h0, by rw [if_pos rfl]; exact h⟩
/-- what holds of the numbers between two calls, n calls behind -/
def sInv (n : Int) (σ : MS) : Prop :=
  (0 ≤ n ∧ n ≤ 600) ∧ (0 ≤ σ 1 0 ∧ σ 1 0 ≤ 699) ∧ (0 ≤ σ 5 0 ∧ σ 5 0 ≤ 10) ∧ (0 ≤ σ 11 0 ∧ σ 11 0 ≤ 60) ∧ (0 ≤ σ 23 0 ∧ σ 23 0 ≤ 120) ∧ (0 ≤ σ 27 0 ∧ σ 27 0 ≤ 5) ∧ (0 ≤ σ 45 0 ∧ σ 45 0 ≤ 600) ∧ (0 ≤ σ 30 0 ∧ σ 30 0 ≤ 100000) ∧ (0 ≤ σ 31 0 ∧ σ 31 0 ≤ 1000) ∧
  (∀ j, 0 ≤ σ 3 j ∧ σ 3 j ≤ 4) ∧ (∀ j, 0 ≤ σ 4 j ∧ σ 4 j ≤ 3) ∧ (∀ j, 0 ≤ σ 6 j ∧ σ 6 j < 10) ∧ (∀ j, 0 ≤ σ 7 j ∧ σ 7 j ≤ 1000 * n) ∧ (∀ j, 0 ≤ σ 12 j ∧ σ 12 j ≤ 4) ∧ (∀ j, 0 ≤ σ 15 j ∧ σ 15 j ≤ 600 * n) ∧ (∀ j, 0 ≤ σ 16 j ∧ σ 16 j < 60) ∧ (∀ j, 0 ≤ σ 17 j ∧ σ 17 j ≤ 699) ∧ (∀ j, 0 ≤ σ 18 j ∧ σ 18 j ≤ 8) ∧ (∀ j, 0 ≤ σ 19 j ∧ σ 19 j < 60) ∧ (∀ j, 0 ≤ σ 20 j ∧ σ 20 j ≤ 1000) ∧ (∀ j, 0 ≤ σ 21 j ∧ σ 21 j ≤ 699) ∧ (∀ j, 0 ≤ σ 22 j ∧ σ 22 j ≤ 20) ∧ (∀ j, 0 ≤ σ 24 j ∧ σ 24 j ≤ 100000) ∧ (∀ j, 0 ≤ σ 25 j ∧ σ 25 j ≤ 500 * n + 500) ∧ (∀ j, -1 ≤ σ 26 j ∧ σ 26 j ≤ 1000000) ∧ (∀ j, 0 ≤ σ 28 j ∧ σ 28 j ≤ 100000) ∧ (∀ j, 0 ≤ σ 29 j ∧ σ 29 j ≤ 100000) ∧ (∀ j, 0 ≤ σ 32 j ∧ σ 32 j ≤ 699) ∧ (∀ j, 0 ≤ σ 33 j ∧ σ 33 j ≤ 4) ∧ (∀ j, 0 ≤ σ 35 j ∧ σ 35 j ≤ 3000000) ∧ (∀ j, -1 ≤ σ 36 j ∧ σ 36 j < 120) ∧ (∀ j, 0 ≤ σ 37 j ∧ σ 37 j ≤ 3) ∧ (∀ j, 0 ≤ σ 38 j ∧ σ 38 j ≤ 2) ∧ (∀ j, 0 ≤ σ 39 j ∧ σ 39 j ≤ 3000000) ∧ (∀ j, 0 ≤ σ 42 j ∧ σ 42 j ≤ 100000) ∧ (∀ j, 0 ≤ σ 43 j ∧ σ 43 j ≤ 100000) ∧ (∀ j, -1 ≤ σ 44 j ∧ σ 44 j ≤ 1000000) ∧ (∀ j, σ 40 j = 1 → 0 ≤ σ 36 j) ∧ (∀ j, 0 ≤ j → j < σ 23 0 → 1 ≤ σ 18 j ∧ σ 17 (8 * j) ≤ σ 1 0)
abbrev no (z n : Int) : Prop := z < 0 ∨ n ≤ z
def streetC (σ : MS) : Int := if σ 5 0 = 10 then 1 else 0
def streetS (σ : MS) : MS := up σ 5 0 (σ 5 0 + 1)
def roundC (σ : MS) (st g wd wk : Int) : Int := if no st (σ 5 0) then 1 else if ¬ (0 ≤ g ∧ g ≤ 2) ∨ ¬ (0 ≤ wd ∧ wd ≤ 4) ∨ ¬ (0 ≤ wk ∧ wk ≤ 3) then 2 else 0
def roundS (σ : MS) (st g wd wk : Int) : MS := up (up σ 3 (3 * st + g) wd) 4 (3 * st + g) wk
def holidayC (σ : MS) (d : Int) : Int := if ¬ (σ 1 0 ≤ d ∧ d ≤ 699) then 1 else 0
def holidayR (σ : MS) (d on : Int) : Int := if σ 2 d = on then 0 else 1
def holidayS (σ : MS) (d on : Int) : MS := up σ 2 d on
def whenC (σ : MS) (st g wk : Int) : Int := if no st (σ 5 0) then 1 else if ¬ (0 ≤ g ∧ g ≤ 2) ∨ ¬ (0 ≤ wk ∧ wk ≤ 99) then 2 else 0
def houseC (σ : MS) (st : Int) : Int := if no st (σ 5 0) then 1 else if σ 11 0 = 60 then 2 else 0
def houseS (σ : MS) (st : Int) : MS := up (up σ 6 (σ 11 0) st) 11 0 (σ 11 0 + 1)
def binC (σ : MS) (k h : Int) : Int := if no h (σ 11 0) then 1 else if ¬ (0 ≤ k ∧ k ≤ 4) then 2 else if σ 23 0 = 120 then 3 else 0
def binS (σ : MS) (k h mk : Int) : MS := up (up (up (up (up (up (up σ 12 (σ 23 0) k) 13 (σ 23 0) 1) 14 (σ 23 0) mk) 16 (8 * σ 23 0) h) 17 (8 * σ 23 0) (σ 1 0)) 18 (σ 23 0) 1) 23 0 (σ 23 0 + 1)
def markC (σ : MS) (b : Int) : Int := if no b (σ 23 0) then 1 else 0
def markS (σ : MS) (b mk : Int) : MS := up (up σ 13 b 1) 14 b mk
def lostS (σ : MS) (b : Int) : MS := up σ 13 b 0
def moveC (σ : MS) (b h d : Int) : Int := if no b (σ 23 0) ∨ no h (σ 11 0) then 1 else if ¬ (σ 1 0 ≤ d ∧ d ≤ 699) ∨ d < σ 17 (8 * b + σ 18 b - 1) then 2 else if σ 18 b = 8 then 3 else 0
def moveS (σ : MS) (b h d : Int) : MS := up (up (up σ 16 (8 * b + σ 18 b) h) 17 (8 * b + σ 18 b) d) 18 b (σ 18 b + 1)
def partC (σ : MS) (b h w d : Int) : Int := if no b (σ 23 0) ∨ no h (σ 11 0) then 1 else if ¬ (σ 12 b = 3 ∧ (0 ≤ w ∧ w ≤ 1000) ∧ (σ 1 0 ≤ d ∧ d ≤ 699) ∧ (σ 22 b = 0 ∨ σ 21 (20 * b + σ 22 b - 1) ≤ d)) then 2 else if σ 22 b = 20 then 3 else 0
def partS (σ : MS) (b h w d : Int) : MS := up (up (up (up σ 19 (20 * b + σ 22 b) h) 20 (20 * b + σ 22 b) w) 21 (20 * b + σ 22 b) d) 22 b (σ 22 b + 1)
def cartC (σ : MS) (lim : Int) : Int := if ¬ (0 ≤ lim ∧ lim ≤ 100000) then 1 else if σ 27 0 = 5 then 2 else 0
def cartS (σ : MS) (lim : Int) : MS := up (up (up σ 24 (σ 27 0) lim) 26 (σ 27 0) (-1)) 27 0 (σ 27 0 + 1)
def tableC (k lf rt : Int) : Int := if ¬ (0 ≤ k ∧ k ≤ 4) ∨ k = 2 ∨ ¬ (0 ≤ lf ∧ lf ≤ 100000) ∨ ¬ (0 ≤ rt ∧ rt ≤ 100000) then 1 else 0
def tableS (σ : MS) (k lf rt : Int) : MS := up (up σ 28 k lf) 29 k rt
def termsC (pr tl : Int) : Int := if ¬ (0 ≤ pr ∧ pr ≤ 100000) ∨ ¬ (0 ≤ tl ∧ tl ≤ 1000) then 1 else 0
def termsS (σ : MS) (pr tl : Int) : MS := up (up σ 30 0 pr) 31 0 tl
def bandC (σ : MS) (h n : Int) : Int := if no h (σ 11 0) then 1 else if ¬ (1 ≤ n ∧ n ≤ 1000) then 2 else 0
def bandS (σ : MS) (h n : Int) : MS := up (up σ 7 h (σ 7 h + n)) 8 h (σ 8 h + n * σ 30 0)
def wrongC (σ : MS) (t : Int) : Int := if no t (σ 45 0) then 1 else if ¬ σ 32 t = σ 1 0 then 2 else if σ 36 t < 0 ∨ ¬ σ 12 (σ 36 t) = 1 ∧ ¬ σ 12 (σ 36 t) = 2 then 3 else 0
def wrongR (σ : MS) (t : Int) : Int := if σ 41 t = 0 then 1 else 0
def wrongS (σ : MS) (t : Int) : MS := up σ 41 t 1
def gateC (σ : MS) (q h : Int) : Int := if no q (σ 27 0) then 1 else if ¬ (0 ≤ h ∧ h ≤ 1000000) then 2 else 0
def gateS (σ : MS) (q h : Int) : MS := up σ 26 q h
def claimC (σ : MS) (t b : Int) : Int := if no t (σ 45 0) ∨ no b (σ 23 0) then 1 else if ¬ σ 37 t = 2 ∨ σ 32 t = σ 1 0 then 2 else if σ 13 b = 0 ∨ ¬ σ 14 b = σ 34 t then 3 else 0
def claimS (σ : MS) (t b : Int) : MS := sCh (up (up σ 37 t 3) 36 t b) t
def lookC (σ : MS) (t w : Int) : Int := if no t (σ 45 0) then 1 else if ¬ (0 ≤ w ∧ w ≤ 9) then 2 else 0
def lookR (σ : MS) (t w : Int) : Int := if w = 0 then σ 32 t else if w = 1 then σ 33 t else if w = 2 then σ 34 t else if w = 3 then σ 35 t else if w = 4 then σ 36 t else if w = 5 then σ 37 t else if w = 6 then σ 38 t else if w = 7 then σ 39 t else if w = 8 then σ 40 t else σ 41 t
def oneC (z n : Int) : Int := if no z n then 1 else 0
def shareC (σ : MS) (t h : Int) : Int := if no t (σ 45 0) ∨ no h (σ 11 0) then 1 else 0
def billS (σ : MS) (h : Int) : MS := up σ 9 h (σ 9 h + (sChd σ h - σ 9 h))
def payC (σ : MS) (h x : Int) : Int := if no h (σ 11 0) then 1 else if ¬ (1 ≤ x ∧ x ≤ 1000000000) then 2 else 0
def payS (σ : MS) (h x : Int) : MS := up σ 10 h (σ 10 h + x)
def loadC (σ : MS) (q w : Int) : Int := if no q (σ 27 0) then 1 else if ¬ (0 ≤ w ∧ w ≤ 4) then 2 else 0
def loadR (σ : MS) (q w : Int) : Int := if w = 0 then σ 25 q else if w = 1 then sHalves σ q else if w = 2 then σ 26 q else if w = 3 then (if sAgr σ q then 1 else 0) else σ 24 q
theorem sEq.at {σ τ : MS} (h : sEq σ τ) (k : Nat) (hk : (k != 0 && k != 46 && k != 47) = true) : σ k = τ k := by
  simp only [Bool.and_eq_true, bne_iff_ne, ne_eq] at hk
  exact h k hk.1.1 hk.1.2 hk.2
theorem sBr_e {σ τ : MS} (h : sEq σ τ) (mk : Int) : ∀ n : Nat, sBr σ mk n = sBr τ mk n
  | 0 => rfl
  | n + 1 => by rw [sBr, sBr, sBr_e h mk n, h.at 13 rfl, h.at 14 rfl]
theorem sBear_e {σ τ : MS} (h : sEq σ τ) (mk : Int) : sBear σ mk = sBear τ mk := by
  unfold sBear
  rw [h.at 23 rfl, sBr_e h]
theorem sBef_e {σ τ : MS} (h : sEq σ τ) (b : Int) : ∀ n : Nat, sBef σ b n = sBef τ b n
  | 0 => rfl
  | n + 1 => by
    rw [sBef, sBef, sBef_e h b n]
    simp only [pHol, h.at 2 rfl]
theorem sFnd_e {σ τ : MS} (h : sEq σ τ) (b a : Int) : ∀ n : Nat, sFnd σ b a n = sFnd τ b a n
  | 0 => rfl
  | n + 1 => by
    rw [sFnd, sFnd, sFnd_e h b a n, sBef_e h]
    simp only [pHol, h.at 2 rfl]
theorem sDay_e {σ τ : MS} (h : sEq σ τ) (st g w : Int) : sDay σ st g w = sDay τ st g w := by
  unfold sDay
  rw [h.at 4 rfl, h.at 3 rfl, sFnd_e h]
theorem sHouse_e {σ τ : MS} (h : sEq σ τ) (b d : Int) : sHouse σ b d = sHouse τ b d := sHouse_c (h.at 16 rfl) (h.at 17 rfl) (h.at 18 rfl) b d
theorem sWt_e {σ τ : MS} (h : sEq σ τ) (b hh d : Int) : ∀ n : Nat, sWt σ b hh d n = sWt τ b hh d n
  | 0 => rfl
  | n + 1 => by rw [sWt, sWt, sWt_e h b hh d n, h.at 19 rfl, h.at 20 rfl, h.at 21 rfl]
theorem sWeight_e {σ τ : MS} (h : sEq σ τ) (b hh d : Int) : sWeight σ b hh d = sWeight τ b hh d := by
  unfold sWeight
  rw [h.at 22 rfl, sWt_e h]
theorem sMid_e {σ τ : MS} (h : sEq σ τ) (b : Int) : ∀ (t n : Nat) (r : Int → Int), sMid σ b t n r = sMid τ b t n r
  | 0, n, r => rfl
  | t + 1, n, r => by rw [sMid, sMid, sMid_e h b t, sMid_e h b t, h.at 35 rfl, h.at 36 rfl, h.at 38 rfl]
theorem sMiddle_e {σ τ : MS} (h : sEq σ τ) (b : Int) : sMiddle σ b = sMiddle τ b := by
  unfold sMiddle
  rw [h.at 45 rfl, sMid_e h]
theorem sHt_e {σ τ : MS} (h : sEq σ τ) (q : Int) : ∀ n : Nat, sHt σ q n = sHt τ q n
  | 0 => rfl
  | n + 1 => by rw [sHt, sHt, sHt_e h q n, h.at 32 rfl, h.at 33 rfl, h.at 35 rfl, h.at 1 rfl]
theorem sHalves_e {σ τ : MS} (h : sEq σ τ) (q : Int) : sHalves σ q = sHalves τ q := by
  unfold sHalves
  rw [h.at 45 rfl, sHt_e h]
theorem sAgr_e {σ τ : MS} (h : sEq σ τ) (q : Int) : sAgr σ q ↔ sAgr τ q := by
  simp only [sAgr, sHalves_e h, h.at 26 rfl, h.at 31 rfl]
theorem sAw_e {σ τ : MS} (h : sEq σ τ) (t : Int) : ∀ n : Nat, sAw σ t n = sAw τ t n
  | 0 => rfl
  | n + 1 => by rw [sAw, sAw, sAw_e h t n, h.at 36 rfl, h.at 32 rfl, sWeight_e h]
theorem sAll_e {σ τ : MS} (h : sEq σ τ) (t : Int) : sAll σ t = sAll τ t := by
  unfold sAll
  rw [h.at 11 rfl, sAw_e h]
theorem sChg_e {σ τ : MS} (h : sEq σ τ) (t : Int) : sChg σ t = sChg τ t := by
  simp only [sChg, sNob, h.at 40 rfl, h.at 12 rfl, h.at 36 rfl, h.at 32 rfl, h.at 42 rfl, h.at 43 rfl, h.at 39 rfl, sAll_e h, sHouse_e h]
theorem sLf_e {σ τ : MS} (h : sEq σ τ) (t c a : Int) : ∀ n : Nat, sLf σ t c a n = sLf τ t c a n
  | 0 => rfl
  | n + 1 => by rw [sLf, sLf, sLf_e h t c a n, h.at 36 rfl, h.at 32 rfl, sWeight_e h]
theorem sAh_e {σ τ : MS} (h : sEq σ τ) (t : Int) : ∀ n : Nat, sAh σ t n = sAh τ t n
  | 0 => rfl
  | n + 1 => by rw [sAh, sAh, sAh_e h t n, h.at 36 rfl, h.at 32 rfl, sWeight_e h]
theorem sShr_e {σ τ : MS} (h : sEq σ τ) (t hh : Int) : sShr σ t hh = sShr τ t hh := by
  simp only [sShr, h.at 40 rfl, h.at 12 rfl, h.at 36 rfl, h.at 32 rfl, h.at 11 rfl, sAll_e h, sHouse_e h, sChg_e h, sWeight_e h, sLf_e h, sAh_e h]
theorem sCt_e {σ τ : MS} (h : sEq σ τ) (hh : Int) : ∀ n : Nat, sCt σ hh n = sCt τ hh n
  | 0 => by rw [sCt, sCt, h.at 8 rfl]
  | n + 1 => by rw [sCt, sCt, sCt_e h hh n, sShr_e h]
theorem sChd_e {σ τ : MS} (h : sEq σ τ) (hh : Int) : sChd σ hh = sChd τ hh := by
  unfold sChd
  rw [h.at 45 rfl, sCt_e h]
/-- what charging leaves alone -/
theorem sFin_f {σ : MS} {t z : Int} {k : Nat} (hk : (k != 42 && k != 43 && k != 40) = true) : sFin σ t z k = σ k := by
  simp only [Bool.and_eq_true, bne_iff_ne, ne_eq] at hk
  unfold sFin
  rw [up_f hk.2, up_f hk.1.2, up_f hk.1.1]
theorem sChB_f {σ : MS} {t th : Int} {k : Nat} (hk : (k != 42 && k != 43 && k != 40 && k != 7) = true) : sChB σ t th k = σ k := by
  simp only [Bool.and_eq_true, bne_iff_ne, ne_eq] at hk
  have h2 : (k != 42 && k != 43 && k != 40) = true := by
    simp only [Bool.and_eq_true, bne_iff_ne, ne_eq]
    exact hk.1
  unfold sChB
  split
  · split
    · rw [sFin_f h2, up_f hk.2]
    · rw [sFin_f h2]
  · split
    · rw [sFin_f h2]
    · split
      · rw [sFin_f h2]
      · rw [sFin_f h2]
theorem sCh_f {σ : MS} {t : Int} {k : Nat} (hk : (k != 42 && k != 43 && k != 40 && k != 15 && k != 7) = true) : sCh σ t k = σ k := by
  simp only [Bool.and_eq_true, bne_iff_ne, ne_eq] at hk
  have h1 : sW1 σ t k = σ k := by
    unfold sW1
    split
    · rw [up_f hk.1.2]
    · rfl
  unfold sCh
  rw [sChB_f (by simp only [Bool.and_eq_true, bne_iff_ne, ne_eq]; exact ⟨hk.1.1, hk.2⟩), h1]
theorem sFin_e {σ τ : MS} (h : sEq σ τ) (t z : Int) : sEq (sFin σ t z) (sFin τ t z) := by
  unfold sFin
  rw [h.at 28 rfl, h.at 29 rfl]
  exact sEq.u (sEq.u (sEq.u h))
theorem sChB_ee {σ τ : MS} (h : sEq σ τ) (t th : Int) : sEq (sChB σ t th) (sChB τ t th) := by
  unfold sChB
  rw [h.at 12 rfl, h.at 36 rfl, h.at 32 rfl, h.at 7 rfl, sHouse_e h]
  split
  · split
    · exact sFin_e (sEq.u h) _ _
    · exact sFin_e h _ _
  · split
    · exact sFin_e h _ _
    · split
      · exact sFin_e h _ _
      · exact sFin_e h _ _
theorem sW1_e {σ τ : MS} (h : sEq σ τ) (t : Int) : sEq (sW1 σ t) (sW1 τ t) := by
  unfold sW1
  rw [h.at 41 rfl, h.at 36 rfl, h.at 15 rfl]
  split
  · exact sEq.u h
  · exact h
theorem sCh_e {σ τ : MS} (h : sEq σ τ) (t : Int) : sEq (sCh σ t) (sCh τ t) := by
  unfold sCh
  rw [h.at 41 rfl, h.at 36 rfl, (sW1_e h t).at 15 rfl]
  exact sChB_ee (sW1_e h t) t _
/-- more of what is asked -/
def sSum (f : Int → Int) : Nat → Int
  | 0 => 0
  | n + 1 => sSum f n + f n
theorem sSum_s {f : Int → Int} {k : Int} (h : 0 ≤ k) : sSum f (k + 1).toNat = sSum f k.toNat + f k := by
  rw [show (k + 1).toNat = k.toNat + 1 by omega, sSum, Int.toNat_of_nonneg h]
def aboutC (σ : MS) (h w : Int) : Int := if no h (σ 11 0) then 1 else if ¬ (0 ≤ w ∧ w ≤ 2) then 2 else 0
def aboutR (σ : MS) (h w : Int) : Int := if w = 0 then σ 6 h else if w = 1 then σ 7 h else sSum (fun b => if sHouse σ b (σ 1 0) = h then 1 else 0) (σ 23 0).toNat
def stateC (σ : MS) (b w : Int) : Int := if no b (σ 23 0) then 1 else if ¬ (0 ≤ w ∧ w ≤ 6) then 2 else 0
def stateR (σ : MS) (b w : Int) : Int := if w = 0 then σ 12 b else if w = 1 then σ 13 b else if w = 2 then (if σ 13 b = 1 then σ 14 b else 0) else if w = 3 then sHouse σ b (σ 1 0) else if w = 4 then σ 15 b else if w = 5 then σ 18 b else σ 22 b
def countR (σ : MS) (w : Int) : Int := if w = 0 then σ 1 0 else if w = 1 then σ 5 0 else if w = 2 then σ 11 0 else if w = 3 then σ 23 0 else if w = 4 then σ 27 0 else if w = 5 then σ 45 0 else if w = 6 then sSum (sChg σ) (σ 45 0).toNat else if w = 7 then sSum (σ 8) (σ 11 0).toNat else if w = 8 then sSum (sChd σ) (σ 11 0).toNat else if w = 9 then sSum (σ 10) (σ 11 0).toNat else -1
def sDu (σ : MS) (st g op w0 : Int) : Nat → Int
  | 0 => -1
  | k + 1 => if op ≤ sDay σ st g (w0 + 3 - k) then sDay σ st g (w0 + 3 - k) else sDu σ st g op w0 k
def dueR (σ : MS) (b : Int) : Int := sDu σ (σ 6 (sHouse σ b (σ 1 0))) (sGrp (σ 12 b)) (σ 1 0) (σ 1 0 / 7) 4
def sFs (σ : MS) (h g : Int) : Int → Int := fun b => if sGrp (σ 12 b) = g ∧ sHouse σ b (σ 1 0) = h then sMiddle σ b else 0
def sFl (σ : MS) (st g lim : Int) : Nat → Int → Int → Int
  | 0, _, _ => -1
  | m + 1, h, sum => if σ 6 h = st then (if lim < sum + sSum (sFs σ h g) (σ 23 0).toNat then h else sFl σ st g lim m (h + 1) (sum + sSum (sFs σ h g) (σ 23 0).toNat)) else sFl σ st g lim m (h + 1) sum
def fillC (σ : MS) (q st g : Int) : Int := if no q (σ 27 0) ∨ no st (σ 5 0) then 1 else if ¬ (0 ≤ g ∧ g ≤ 2) then 2 else 0
def fillR (σ : MS) (q st g : Int) : Int := sFl σ st g (σ 24 q) (σ 11 0).toNat 0 (sHalves σ q)
theorem nar_b {z : Int} (h : z = 0 ∨ z = 1) : narrow .boolean (.int (iI z)) = .int (iI z) := by rcases h with rfl | rfl <;> rfl
theorem sHouse_0 {σ : MS} {b d : Int} (h1 : 1 ≤ σ 18 b) (h2 : σ 17 (8 * b) ≤ d) (h16 : ∀ j, 0 ≤ σ 16 j) : 0 ≤ sHouse σ b d := by
  have key : ∀ n : Nat, 0 ≤ sHo σ b d (n + 1) := by
    intro n
    induction n with
    | zero =>
      rw [sHo, if_pos (by simpa using h2)]
      exact h16 _
    | succ n ih =>
      rw [sHo]
      split
      · exact h16 _
      · exact ih
  unfold sHouse
  rw [show (σ 18 b).toNat = (σ 18 b - 1).toNat + 1 by omega]
  exact key _
theorem sDu_s {σ : MS} {st g op w0 k : Int} (h : 0 ≤ k) : sDu σ st g op w0 (k + 1).toNat = if op ≤ sDay σ st g (w0 + 3 - k) then sDay σ st g (w0 + 3 - k) else sDu σ st g op w0 k.toNat := by
  rw [show (k + 1).toNat = k.toNat + 1 by omega, sDu, Int.toNat_of_nonneg h]
theorem sDu_r {σ : MS} {st g op w0 : Int} (hw : 0 ≤ w0 ∧ w0 ≤ 100) : ∀ n : Nat, n ≤ 4 → -2 ≤ sDu σ st g op w0 n ∧ sDu σ st g op w0 n ≤ 800
  | 0, _ => by simp [sDu]
  | n + 1, h => by
    have h1 := sDu_r (σ := σ) (st := st) (g := g) (op := op) hw n (by omega)
    have h2 := sDay_r (σ := σ) (st := st) (g := g) (w := w0 + 3 - n) (by omega)
    rw [sDu]
    split <;> omega
section TSW
variable {p : Program} {l : Launch} {e : Env} {R : Room} {s : State} {m : MethodId} {args : Array Value} {below : List Frame} {meth : Method} {c : Code} {H : Heap} {locs : List Loc} {cells slots : Nat} {Q : State → Prop} {cc : ByteArray} {pc : Nat} {ls : Array Slot} {rest : List Value}
theorem x_tswIn {dflt lo hi off : Int} {offs : Array Int} {len tgt : Nat} {wv k : Int} (B : xB p c cc) (d : decode cc pc = .ok (.tableswitch dflt lo hi offs, len)) (hw : wv = k) (h1 : ¬ (iI k).toInt < lo) (h2 : ¬ hi < (iI k).toInt) (ho : offs[((iI k).toInt - lo).toNat]? = some off) (ht : (pc : Int) + off = (tgt : Int)) (kk : W p l e R s m args below meth c H locs cells slots Q (F0 m tgt ls rest)) : W p l e R s m args below meth c H locs cells slots Q (F0 m pc ls (.int (iI wv) :: rest)) := by
  subst hw
  exact lv_tableIn B.1 B.2 d h1 h2 ho ht kk
end TSW
theorem up_up {σ : MS} {k : Nat} {j v w : Int} : up (up σ k j v) k j w = up σ k j w := by
  funext k' j'
  simp only [up_rd]
  split <;> rfl
theorem up_id {σ : MS} {k : Nat} {j v : Int} (h : σ k j = v) : up σ k j v = σ := by
  funext k' j'
  simp only [up_rd]
  split
  · rename_i q
    rw [q.1, q.2, h]
  · rfl
/-- weigh -/
def sOt (σ : MS) (t : Int) : Int → Int := fun u => if ¬ u = t ∧ σ 32 u = σ 32 t ∧ σ 33 u = σ 33 t then σ 39 u else 0
def sOth (σ : MS) (t : Int) : Int := sSum (sOt σ t) (σ 45 0).toNat
def weighC (σ : MS) (t g : Int) : Int := if no t (σ 45 0) then 1 else if ¬ σ 38 t = 1 then 2 else if ¬ (0 ≤ g ∧ g ≤ 200000) then 3 else 0
def weighP (σ : MS) (t g : Int) : Int := if 0 ≤ σ 44 t then (if σ 44 t - sOth σ t < g / 500 then σ 44 t - sOth σ t else g / 500) else g / 500
def weighS (σ : MS) (t g : Int) : MS := if σ 32 t = σ 1 0 then up (up (up σ 38 t 2) 35 t (g / 500)) 25 (σ 33 t) (σ 25 (σ 33 t) + g % 500) else up (up (up (up σ 38 t 2) 35 t (g / 500)) 25 (σ 33 t) (σ 25 (σ 33 t) + g % 500)) 39 t (weighP σ t g)
theorem sSum_r {f : Int → Int} {M : Int} (h : ∀ j, 0 ≤ f j ∧ f j ≤ M) : ∀ n : Nat, 0 ≤ sSum f n ∧ sSum f n ≤ M * n
  | 0 => by simp [sSum]
  | n + 1 => by
    have h1 := sSum_r h n
    have h2 := h n
    have e : M * ((n + 1 : Nat) : Int) = M * n + M := by rw [Int.natCast_add, Int.mul_add]; simp
    rw [sSum, e]
    omega
/-- tip -/
def sFb (σ : MS) (mk : Int) : Nat → Int
  | 0 => -1
  | b + 1 => if σ 13 b = 1 ∧ σ 14 b = mk then b else sFb σ mk b
theorem sFb_s {σ : MS} {mk b : Int} (h : 0 ≤ b) : sFb σ mk (b + 1).toNat = if σ 13 b = 1 ∧ σ 14 b = mk then b else sFb σ mk b.toNat := by
  rw [show (b + 1).toNat = b.toNat + 1 by omega, sFb, Int.toNat_of_nonneg h]
theorem sFb_r (σ : MS) (mk : Int) : ∀ n : Nat, -1 ≤ sFb σ mk n ∧ sFb σ mk n < (if n = 0 then 0 else (n : Int))
  | 0 => by simp [sFb]
  | n + 1 => by
    have h := sFb_r σ mk n
    rw [sFb]
    split
    · rw [if_neg (by omega)]; omega
    · rw [if_neg (by omega)]
      split at h <;> omega
def tipC (σ : MS) (q g : Int) : Int := if no q (σ 27 0) then 1 else if ¬ (-1 ≤ g ∧ g ≤ 200000) then 2 else if σ 45 0 = 600 then 3 else 0
def tipB (σ : MS) (mk : Int) : Int := if sBear σ mk = 1 then sFb σ mk (σ 23 0).toNat else -1
def tipO (σ : MS) (mk : Int) : Int := if sBear σ mk = 1 then 0 else if sBear σ mk = 0 then 1 else 2
def tipA (σ : MS) (q mk : Int) : MS := up (up (up (up (up (up σ 32 (σ 45 0) (σ 1 0)) 33 (σ 45 0) q) 34 (σ 45 0) mk) 37 (σ 45 0) (tipO σ mk)) 36 (σ 45 0) (tipB σ mk)) 44 (σ 45 0) (-1)
def tipS (σ : MS) (q mk g : Int) : MS :=
  up (if g < 0 then up (up (tipA σ q mk) 38 (σ 45 0) 1) 35 (σ 45 0) (if tipB σ mk < 0 then 0 else sMiddle σ (tipB σ mk)) else up (up (up (tipA σ q mk) 38 (σ 45 0) 0) 35 (σ 45 0) ((g + σ 25 q) / 500)) 25 q ((g + σ 25 q) % 500)) 45 0 (σ 45 0 + 1)
theorem sMid_a {σ τ : MS} {b : Int} : ∀ (t n : Nat) (r : Int → Int), (∀ j : Int, 0 ≤ j → j < t → τ 35 j = σ 35 j ∧ τ 36 j = σ 36 j ∧ τ 38 j = σ 38 j) → sMid τ b t n r = sMid σ b t n r
  | 0, n, r, _ => rfl
  | t + 1, n, r, h => by
    obtain ⟨h1, h2, h3⟩ := h t (by omega) (by omega)
    rw [sMid, sMid, sMid_a t _ _ (fun j a b => h j a (by omega)), sMid_a t _ _ (fun j a b => h j a (by omega)), h1, h2, h3]
/-- close: the tips of the day by their numbers; s: the numbers, f: what is left of each gate (below 0: all is paid), n: how many were charged -/
def clP (σ : MS) (f : Int → Int) (t : Int) : Int := if 0 ≤ f (σ 33 t) then (if σ 35 t < f (σ 33 t) then σ 35 t else f (σ 33 t)) else σ 35 t
def clA (σ : MS) (f : Int → Int) (t : Int) : MS := if 0 ≤ f (σ 33 t) then up (up σ 44 t (σ 26 (σ 33 t))) 39 t (clP σ f t) else up σ 39 t (clP σ f t)
def clF (σ : MS) (f : Int → Int) (t : Int) : Int → Int := fun c => if 0 ≤ f (σ 33 t) ∧ c = σ 33 t then f c - clP σ f t else f c
def clS (σ : MS) (f : Int → Int) (t : Int) : MS := if σ 36 t < 0 then clA σ f t else sCh (clA σ f t) t
def clN (σ : MS) (t n : Int) : Int := if σ 36 t < 0 then n else n + 1
def clLoop : Nat → MS × (Int → Int) × Int → MS × (Int → Int) × Int
  | 0, x => x
  | t + 1, x => let y := clLoop t x
    if y.1 32 t = y.1 1 0 then (clS y.1 y.2.1 t, clF y.1 y.2.1 t, clN y.1 t y.2.2) else y
def clF0 (σ : MS) : Int → Int := fun c => if 0 ≤ c ∧ c < σ 27 0 then (if sAgr σ c then -1 else σ 26 c) else 0
def gOff (σ : MS) : Nat → MS
  | 0 => σ
  | c + 1 => up (gOff σ c) 26 c (-1)
def closeC (σ : MS) : Int := if σ 1 0 = 699 then 1 else 0
def clEnd (σ : MS) : MS × (Int → Int) × Int := clLoop (σ 45 0).toNat (σ, clF0 σ, 0)
def closeS (σ : MS) : MS := up (gOff (clEnd σ).1 (σ 27 0).toNat) 1 0 (σ 1 0 + 1)
def closeR (σ : MS) : Int := (clEnd σ).2.2
theorem sFs_r {σ : MS} {h g : Int} (hh : ∀ j, 0 ≤ σ 35 j ∧ σ 35 j ≤ 3000000) : ∀ j, 0 ≤ sFs σ h g j ∧ sFs σ h g j ≤ 3000000 := by
  intro j
  have := sMiddle_r (σ := σ) (b := j) (M := 3000000) (by omega) (fun t _ _ => hh t)
  unfold sFs
  split <;> omega
theorem sFl_s {σ : MS} {st g lim h sum N : Int} (hN : h < N) : sFl σ st g lim (N - h).toNat h sum = if σ 6 h = st then (if lim < sum + sSum (sFs σ h g) (σ 23 0).toNat then h else sFl σ st g lim (N - (h + 1)).toNat (h + 1) (sum + sSum (sFs σ h g) (σ 23 0).toNat)) else sFl σ st g lim (N - (h + 1)).toNat (h + 1) sum := by
  rw [show (N - h).toNat = (N - (h + 1)).toNat + 1 by omega, sFl]
abbrev okc (k : Nat) : Bool := k != 39 && k != 44 && k != 15 && k != 7 && k != 42 && k != 43 && k != 40
theorem clA_f {σ : MS} {f : Int → Int} {t : Int} {k : Nat} (hk : (k != 39 && k != 44) = true) : clA σ f t k = σ k := by
  simp only [Bool.and_eq_true, bne_iff_ne, ne_eq] at hk
  unfold clA
  split
  · rw [up_f hk.1, up_f hk.2]
  · rw [up_f hk.1]
theorem clS_f {σ : MS} {f : Int → Int} {t : Int} {k : Nat} (hk : okc k = true) : clS σ f t k = σ k := by
  simp only [okc, Bool.and_eq_true, bne_iff_ne, ne_eq] at hk
  have h1 : (k != 39 && k != 44) = true := by
    simp only [Bool.and_eq_true, bne_iff_ne, ne_eq]
    exact hk.1.1.1.1.1
  unfold clS
  split
  · exact clA_f h1
  · rw [sCh_f (by simp only [Bool.and_eq_true, bne_iff_ne, ne_eq]; exact ⟨⟨⟨⟨hk.1.1.2, hk.1.2⟩, hk.2⟩, hk.1.1.1.1.2⟩, hk.1.1.1.2⟩), clA_f h1]
theorem clLoop_f {x : MS × (Int → Int) × Int} {k : Nat} (hk : okc k = true) : ∀ n : Nat, (clLoop n x).1 k = x.1 k
  | 0 => rfl
  | n + 1 => by
    have h := clLoop_f (x := x) hk n
    rw [clLoop]
    try dsimp only
    split
    · exact (clS_f hk).trans h
    · exact h
theorem sCh_15 {σ : MS} {t B : Int} (h : ∀ j, 0 ≤ σ 15 j ∧ σ 15 j ≤ B) (j : Int) : 0 ≤ sCh σ t 15 j ∧ sCh σ t 15 j ≤ B + 1 := by
  unfold sCh
  rw [sChB_f rfl]
  have h1 := h j
  unfold sW1
  split
  · simp only [up_rd]
    split
    · have := h (σ 36 t); omega
    · omega
  · omega
theorem clS_15 {σ : MS} {f : Int → Int} {t B : Int} (h : ∀ j, 0 ≤ σ 15 j ∧ σ 15 j ≤ B) (j : Int) : 0 ≤ clS σ f t 15 j ∧ clS σ f t 15 j ≤ B + 1 := by
  unfold clS
  split
  · rw [clA_f rfl]; have := h j; omega
  · exact sCh_15 (σ := clA σ f t) (t := t) (B := B) (by rw [clA_f rfl]; exact h) j
theorem clLoop_15 {x : MS × (Int → Int) × Int} {B : Int} (h : ∀ j, 0 ≤ x.1 15 j ∧ x.1 15 j ≤ B) : ∀ (n : Nat) (j : Int), 0 ≤ (clLoop n x).1 15 j ∧ (clLoop n x).1 15 j ≤ B + n
  | 0, j => by simpa [clLoop] using h j
  | n + 1, j => by
    have ih := clLoop_15 h n
    have e : (((n + 1 : Nat) : Int)) = n + 1 := by simp
    rw [clLoop]
    split
    · have h2 := clS_15 (f := (clLoop n x).2.1) (t := n) ih j
      show 0 ≤ clS _ _ _ 15 j ∧ clS _ _ _ 15 j ≤ _
      omega
    · have := ih j; omega
theorem clLoop_y {σ S : MS} {F f0 : Int → Int} {N t : Int} (h : 0 ≤ t) (hx : clLoop t.toNat (σ, f0, 0) = (S, F, N)) (hc : S 32 t = S 1 0) : clLoop (t + 1).toNat (σ, f0, 0) = (clS S F t, clF S F t, clN S t N) := by
  rw [show (t + 1).toNat = t.toNat + 1 by omega, clLoop, hx]
  try dsimp only
  rw [Int.toNat_of_nonneg h, if_pos hc]
theorem clLoop_n {σ S : MS} {F f0 : Int → Int} {N t : Int} (h : 0 ≤ t) (hx : clLoop t.toNat (σ, f0, 0) = (S, F, N)) (hc : ¬ S 32 t = S 1 0) : clLoop (t + 1).toNat (σ, f0, 0) = (S, F, N) := by
  rw [show (t + 1).toNat = t.toNat + 1 by omega, clLoop, hx]
  try dsimp only
  rw [Int.toNat_of_nonneg h, if_neg hc]
theorem sEq.cl {τ S : MS} {t h g p : Int} (e : sEq τ S) : sEq (up (up (up τ 39 t h) 44 t g) 39 t p) (up (up S 44 t g) 39 t p) := by
  intro q a b c
  by_cases h1 : q = 39
  · subst h1
    funext j
    simp only [up_rd, e 39 a b c]
    split <;> simp_all
  · rw [up_f h1, up_f h1]
    by_cases h2 : q = 44
    · subst h2
      funext j
      simp only [up_rd, e 44 a b c]
      simp
    · rw [up_f h2, up_f h2, up_f h1, e q a b c]
theorem gOff_f {σ : MS} {k : Nat} (hk : k ≠ 26) : ∀ n : Nat, gOff σ n k = σ k
  | 0 => rfl
  | n + 1 => by rw [gOff, up_f hk, gOff_f hk n]
theorem gOff_s {σ : MS} {c : Int} (h : 0 ≤ c) : gOff σ (c + 1).toNat = up (gOff σ c.toNat) 26 c (-1) := by
  rw [show (c + 1).toNat = c.toNat + 1 by omega, gOff, Int.toNat_of_nonneg h]
