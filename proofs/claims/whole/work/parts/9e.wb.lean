theorem wr_weigh (l : Launch) (hlt : l.stackTraces = false) (D : va_G) (cy : Nat → ClassId) (d0 : Nat) (A : Nat → Prop) (la : Nat → Int → Nat) (σ : MS) {a : Nat} {p0 p1 : Int} (h0 : -2147483648 ≤ p0 ∧ p0 < 2147483648) (h1 : -2147483648 ≤ p1 ∧ p1 < 2147483648) {n : Int} (I : cInv n σ) (hn : n + 1 ≤ 600) (hW : cW σ) (hcp : ∀ L, cLive la σ 11 L → la 19 L ≤ 1000) (hna : ¬ A a) : LW l yL_weigh wsL_weigh ({ frames := 9, cells := 16, slots := 256, locals := 193 } : Room) D cy d0 A [.ref (la 0 0), .int (iI p0), .int (iI p1), .ref a] la σ a (weighC σ p0 p1) (fun r la' τ => (r = p1 / 500 ∧ (-2147483648 ≤ r ∧ r < 2147483648)) ∧ (la' 0 0 = la 0 0 ∧ ∀ L, cLive la' τ 11 L → la' 19 L ≤ 1000) ∧ iStp n (weighS σ p0 p1) (nz τ)) 16 256 := by
  have h5n := ((I.g 5 0).2.1 rfl)
  have h11n := ((I.g 11 0).2.2.1 rfl)
  have h23n := ((I.g 23 0).2.2.2.1 rfl)
  have h27n := ((I.g 27 0).2.2.2.2.1 rfl)
  have h45n := ((I.g 45 0).2.2.2.2.2.1 rfl)
  have h1n := ((I.g 1 0).1 rfl)
  refine lw_weigh l D cy d0 A la σ hna (c_p_weigh l hlt D cy d0 A la σ (t := p0) (g := p1) h0 h1 (by omega) (by omega) (by omega) (by omega) (by omega) I.lg (by omega) I.t40 I.r.2.2.2.2 (fun j => ((I.g 42 j).2.2.2.2.2.2.2.2.2.2.2.2.2.2.2.2.2.2.2.2.2.2.2.2.2.2.2.2.2.2.2.2.2.1 rfl)) (fun j => ((I.g 43 j).2.2.2.2.2.2.2.2.2.2.2.2.2.2.2.2.2.2.2.2.2.2.2.2.2.2.2.2.2.2.2.2.2.2.1 rfl)) (fun j => ((I.g 39 j).2.2.2.2.2.2.2.2.2.2.2.2.2.2.2.2.2.2.2.2.2.2.2.2.2.2.2.2.2.2.2.2.1 rfl)) (fun j => ((I.g 32 j).2.2.2.2.2.2.2.2.2.2.2.2.2.2.2.2.2.2.2.2.2.2.2.2.2.2.1 rfl)) (fun j => ((I.g 18 j).2.2.2.2.2.2.2.2.2.2.2.2.2.2.2.2.1 rfl)) (fun j => (((I.g 16 j).2.2.2.2.2.2.2.2.2.2.2.2.2.2.1 rfl)).1) (fun b d x y z => sHouse_in I.r ((I.g 18 b).2.2.2.2.2.2.2.2.2.2.2.2.2.2.2.2.1 rfl) ⟨x, y⟩ z) (fun j => ((I.g 22 j).2.2.2.2.2.2.2.2.2.2.2.2.2.2.2.2.2.2.2.2.1 rfl)) (fun j => ((I.g 20 j).2.2.2.2.2.2.2.2.2.2.2.2.2.2.2.2.2.2.1 rfl)) (fun h j => ⟨(((I.g 19 j).2.2.2.2.2.2.2.2.2.2.2.2.2.2.2.2.2.1 rfl)).1, (I.h19 j).elim id (fun h1 => by have := I.h23 h; omega)⟩) I.r.2.2.2.1 (fun j => ⟨(((I.g 25 j).2.2.2.2.2.2.2.2.2.2.2.2.2.2.2.2.2.2.2.2.2.2.1 rfl)).1, by have h1 := ((I.g 25 j).2.2.2.2.2.2.2.2.2.2.2.2.2.2.2.2.2.2.2.2.2.2.1 rfl); have h2 := I.n0; omega⟩) I.ord.2 (fun t x y => absurd (show sHouse σ (σ 36 t) (σ 32 t) < 0 by rw [sHouse_z (by rw [I.z18 _ (Or.inl x)]; decide)]; decide) y) (fun j => ((I.g 44 j).2.2.2.2.2.2.2.2.2.2.2.2.2.2.2.2.2.2.2.2.2.2.2.2.2.2.2.2.2.2.2.2.2.2.2 rfl)) (fun t x y _ z w => I.wp ⟨x, y⟩ z w)) (by unfold weighC; (repeat' split) <;> omega) (fun hC v la' τ hp => ?_)
  obtain ⟨rfl, rfl, hx9, hx5⟩ := hp
  have st := st_weigh I hn hC hx9 hx5
  refine ⟨_, rfl, ⟨by omega, by omega⟩, ⟨rfl, ⟨by omega, by omega⟩⟩, ⟨rfl, fun L hL => hcp L ?_⟩, st.nzE⟩
  have h2 : 0 ≤ L ∧ L < 5 + 2 * τ 23 0 := hL
  rw [hx9 23 (by decide) (by decide) (by decide)] at h2
  have h3 : (weighS σ p0 p1) 23 0 = σ 23 0 := by
    unfold weighS
    first | (split <;> simp [up_rd]; done) | (rw [sCh_f rfl]; simp [up_rd]; done)
  rw [h3] at h2
  exact h2
theorem wr_claim (l : Launch) (hlt : l.stackTraces = false) (D : va_G) (cy : Nat → ClassId) (d0 : Nat) (A : Nat → Prop) (la : Nat → Int → Nat) (σ : MS) {a : Nat} {p0 p1 : Int} (h0 : -2147483648 ≤ p0 ∧ p0 < 2147483648) (h1 : -2147483648 ≤ p1 ∧ p1 < 2147483648) {n : Int} (I : cInv n σ) (hn : n + 1 ≤ 600) (hW : cW σ) (hcp : ∀ L, cLive la σ 11 L → la 19 L ≤ 1000) (hna : ¬ A a) : LW l yL_claim wsL_claim ({ frames := 9, cells := 16, slots := 256, locals := 217 } : Room) D cy d0 A [.ref (la 0 0), .int (iI p0), .int (iI p1), .ref a] la σ a (claimC σ p0 p1) (fun r la' τ => (r = sChg (claimS σ p0 p1) p0 ∧ True) ∧ (la' 0 0 = la 0 0 ∧ ∀ L, cLive la' τ 11 L → la' 19 L ≤ 1000) ∧ iStp n (claimS σ p0 p1) (nz τ)) 16 256 := by
  have h5n := ((I.g 5 0).2.1 rfl)
  have h11n := ((I.g 11 0).2.2.1 rfl)
  have h23n := ((I.g 23 0).2.2.2.1 rfl)
  have h27n := ((I.g 27 0).2.2.2.2.1 rfl)
  have h45n := ((I.g 45 0).2.2.2.2.2.1 rfl)
  have h1n := ((I.g 1 0).1 rfl)
  refine lw_claim l D cy d0 A la σ hna (c_p_claim l hlt D cy d0 A la σ (t := p0) (b := p1) h0 h1 (by omega) (by omega) (by omega) (by omega) (by omega) I.lg (by omega) I.t40 I.r.2.2.2.2 (fun j => ((I.g 42 j).2.2.2.2.2.2.2.2.2.2.2.2.2.2.2.2.2.2.2.2.2.2.2.2.2.2.2.2.2.2.2.2.2.1 rfl)) (fun j => ((I.g 43 j).2.2.2.2.2.2.2.2.2.2.2.2.2.2.2.2.2.2.2.2.2.2.2.2.2.2.2.2.2.2.2.2.2.2.1 rfl)) (fun j => ((I.g 39 j).2.2.2.2.2.2.2.2.2.2.2.2.2.2.2.2.2.2.2.2.2.2.2.2.2.2.2.2.2.2.2.2.1 rfl)) (fun j => ((I.g 32 j).2.2.2.2.2.2.2.2.2.2.2.2.2.2.2.2.2.2.2.2.2.2.2.2.2.2.1 rfl)) (fun j => ((I.g 18 j).2.2.2.2.2.2.2.2.2.2.2.2.2.2.2.2.1 rfl)) (fun j => (((I.g 16 j).2.2.2.2.2.2.2.2.2.2.2.2.2.2.1 rfl)).1) (fun b d x y z => sHouse_in I.r ((I.g 18 b).2.2.2.2.2.2.2.2.2.2.2.2.2.2.2.2.1 rfl) ⟨x, y⟩ z) (fun j => ((I.g 22 j).2.2.2.2.2.2.2.2.2.2.2.2.2.2.2.2.2.2.2.2.1 rfl)) (fun j => ((I.g 20 j).2.2.2.2.2.2.2.2.2.2.2.2.2.2.2.2.2.2.1 rfl)) (fun h j => ⟨(((I.g 19 j).2.2.2.2.2.2.2.2.2.2.2.2.2.2.2.2.2.1 rfl)).1, (I.h19 j).elim id (fun h1 => by have := I.h23 h; omega)⟩) (fun j => (((I.g 7 j).2.2.2.2.2.2.2.2.2.2.2.1 rfl)).1) (fun j => ((I.g 12 j).2.2.2.2.2.2.2.2.2.2.2.2.1 rfl)) (fun j => ((I.g 28 j).2.2.2.2.2.2.2.2.2.2.2.2.2.2.2.2.2.2.2.2.2.2.2.2.1 rfl)) (fun j => ((I.g 29 j).2.2.2.2.2.2.2.2.2.2.2.2.2.2.2.2.2.2.2.2.2.2.2.2.2.1 rfl)) (fun j => ⟨(((I.g 15 j).2.2.2.2.2.2.2.2.2.2.2.2.2.1 rfl)).1, by have h1 := ((I.g 15 j).2.2.2.2.2.2.2.2.2.2.2.2.2.1 rfl); have h2 := I.n0; omega⟩) I.ord.2 (fun t x y z => (hW.2 41 t rfl).elim id (fun w => absurd (I.t41 t w).1 (by have := I.t37 t z; omega)))) (by unfold claimC; (repeat' split) <;> omega) (fun hC v la' τ hp => ?_)
  obtain ⟨rfl, rfl, hx9, hx5⟩ := hp
  have st := st_claim I hn (fun t => hW.2 40 t rfl) hC hx9 hx5
  refine ⟨_, rfl, ⟨rfl, trivial⟩, ⟨rfl, fun L hL => hcp L ?_⟩, st.nzE⟩
  have h2 : 0 ≤ L ∧ L < 5 + 2 * τ 23 0 := hL
  rw [hx9 23 (by decide) (by decide) (by decide)] at h2
  have h3 : (claimS σ p0 p1) 23 0 = σ 23 0 := by
    unfold claimS
    first | (split <;> simp [up_rd]; done) | (rw [sCh_f rfl]; simp [up_rd]; done)
  rw [h3] at h2
  exact h2
theorem wr_band (l : Launch) (hlt : l.stackTraces = false) (D : va_G) (cy : Nat → ClassId) (d0 : Nat) (A : Nat → Prop) (la : Nat → Int → Nat) (σ : MS) {a : Nat} {p0 p1 : Int} (h0 : -2147483648 ≤ p0 ∧ p0 < 2147483648) (h1 : -2147483648 ≤ p1 ∧ p1 < 2147483648) {n : Int} (I : cInv n σ) (hn : n + 1 ≤ 600) (hW : cW σ) (hcp : ∀ L, cLive la σ 11 L → la 19 L ≤ 1000) (hna : ¬ A a) : LW l yL_band wsL_band ({ frames := 9, cells := 16, slots := 256, locals := 152 } : Room) D cy d0 A [.ref (la 0 0), .int (iI p0), .int (iI p1), .ref a] la σ a (bandC σ p0 p1) (fun r la' τ => (r = σ 7 p0 + p1 ∧ (-2147483648 ≤ r ∧ r < 2147483648)) ∧ (la' 0 0 = la 0 0 ∧ ∀ L, cLive la' τ 11 L → la' 19 L ≤ 1000) ∧ iStp n (bandS σ p0 p1) (nz τ)) 16 256 := by
  have h5n := ((I.g 5 0).2.1 rfl)
  have h11n := ((I.g 11 0).2.2.1 rfl)
  have h23n := ((I.g 23 0).2.2.2.1 rfl)
  have h27n := ((I.g 27 0).2.2.2.2.1 rfl)
  have h45n := ((I.g 45 0).2.2.2.2.2.1 rfl)
  have h1n := ((I.g 1 0).1 rfl)
  refine lw_band l D cy d0 A la σ hna (c_p_band l hlt D cy d0 A la σ (h := p0) (n := p1) h0 h1 (by omega) (by omega) (by omega) (by omega) (by omega) I.lg (by have h7 := ((I.g 7 p0).2.2.2.2.2.2.2.2.2.2.2.1 rfl); have h2 := I.n0; omega)) (by unfold bandC; (repeat' split) <;> omega) (fun hC v la' τ hp => ?_)
  obtain ⟨rfl, rfl, rfl, -⟩ := hp
  have st := st_band I hn hC
  refine ⟨_, rfl, (by have h7 := ((I.g 7 p0).2.2.2.2.2.2.2.2.2.2.2.1 rfl); have h2 := I.n0; unfold bandC at hC; (repeat' split at hC) <;> omega), ⟨rfl, (by have h7 := ((I.g 7 p0).2.2.2.2.2.2.2.2.2.2.2.1 rfl); have h2 := I.n0; unfold bandC at hC; (repeat' split at hC) <;> omega)⟩, ⟨rfl, fun L hL => hcp L ?_⟩, st.nzE⟩
  have h2 : 0 ≤ L ∧ L < 5 + 2 * (up (up σ 7 p0 (σ 7 p0 + p1)) 8 p0 (σ 8 p0 + σ 30 0 * p1)) 23 0 := hL
  have h3 : (up (up σ 7 p0 (σ 7 p0 + p1)) 8 p0 (σ 8 p0 + σ 30 0 * p1)) 23 0 = σ 23 0 := by first | rfl | (simp [up_rd]; done)
  rw [h3] at h2
  exact h2
