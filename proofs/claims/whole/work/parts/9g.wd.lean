theorem sFl_r {σ : MS} {st g lim : Int} : ∀ (m : Nat) (h sum : Int), 0 ≤ h → -1 ≤ sFl σ st g lim m h sum ∧ sFl σ st g lim m h sum ≤ h + m
  | 0, h, _, h0 => by rw [sFl]; omega
  | m + 1, h, sum, h0 => by
    have i1 := sFl_r (σ := σ) (st := st) (g := g) (lim := lim) m (h + 1) sum (by omega)
    have i2 := sFl_r (σ := σ) (st := st) (g := g) (lim := lim) m (h + 1) (sum + sSum (sFs σ h g) (σ 23 0).toNat) (by omega)
    rw [sFl]
    split
    · split <;> omega
    · omega
theorem clLoop_N {x : MS × (Int → Int) × Int} (h : 0 ≤ x.2.2) : ∀ n : Nat, 0 ≤ (clLoop n x).2.2 ∧ (clLoop n x).2.2 ≤ x.2.2 + n
  | 0 => ⟨h, by show x.2.2 ≤ x.2.2 + ((0 : Nat) : Int); omega⟩
  | n + 1 => by
    have ih := clLoop_N h n
    rw [clLoop]
    try dsimp only
    split
    · show 0 ≤ clN _ _ _ ∧ clN _ _ _ ≤ _
      unfold clN
      split <;> omega
    · omega
theorem wr_when (l : Launch) (hlt : l.stackTraces = false) (D : va_G) (cy : Nat → ClassId) (d0 : Nat) (A : Nat → Prop) (la : Nat → Int → Nat) (σ : MS) {a : Nat} {p0 p1 p2 : Int} (h0 : -2147483648 ≤ p0 ∧ p0 < 2147483648) (h1 : -2147483648 ≤ p1 ∧ p1 < 2147483648) (h2 : -2147483648 ≤ p2 ∧ p2 < 2147483648) {n : Int} (I : cInv n σ) (hn : n + 1 ≤ 600) (hW : cW σ) (hcp : ∀ L, cLive la σ 11 L → la 19 L ≤ 1000) (hna : ¬ A a) : LW l yL_when wsL_when ({ frames := 9, cells := 16, slots := 256, locals := 153 } : Room) D cy d0 A [.ref (la 0 0), .int (iI p0), .int (iI p1), .int (iI p2), .ref a] la σ a (whenC σ p0 p1 p2) (fun r la' τ => (r = sDay σ p0 p1 p2 ∧ (-2147483648 ≤ r ∧ r < 2147483648)) ∧ (la' 0 0 = la 0 0 ∧ ∀ L, cLive la' τ 11 L → la' 19 L ≤ 1000) ∧ iStp n (σ) (nz τ)) 16 256 := by
  have h5n := ((I.g 5 0).2.1 rfl)
  have h11n := ((I.g 11 0).2.2.1 rfl)
  have h23n := ((I.g 23 0).2.2.2.1 rfl)
  have h27n := ((I.g 27 0).2.2.2.2.1 rfl)
  have h45n := ((I.g 45 0).2.2.2.2.2.1 rfl)
  have h1n := ((I.g 1 0).1 rfl)
  refine lw_when l D cy d0 A la σ hna (c_p_when l hlt D cy d0 A la σ (st := p0) (g := p1) (wk := p2) h0 h1 h2 (by omega) (by omega) (by omega) (by omega) (by omega) I.lg (fun j => ((I.g 4 j).2.2.2.2.2.2.2.2.2.1 rfl)) (fun j => ((I.g 3 j).2.2.2.2.2.2.2.2.1 rfl))) (by unfold whenC; (repeat' split) <;> omega) (fun hC v la' τ hp => ?_)
  obtain ⟨rfl, rfl, e9, -⟩ := hp
  rw [e9]
  have st := I.same hn (fun _ _ => rfl)
  refine ⟨_, rfl, (by have h := sDay_r (σ := σ) (st := p0) (g := p1) (w := p2) (by unfold whenC at hC; (repeat' split at hC) <;> omega); omega), ⟨rfl, (by have h := sDay_r (σ := σ) (st := p0) (g := p1) (w := p2) (by unfold whenC at hC; (repeat' split at hC) <;> omega); omega)⟩, ⟨rfl, fun L hL => hcp L ?_⟩, st.nzE⟩
  have h2 : 0 ≤ L ∧ L < 5 + 2 * (σ) 23 0 := hL
  have h3 : (σ) 23 0 = σ 23 0 := by first | rfl | (simp [up_rd]; done)
  rw [h3] at h2
  exact h2
theorem wr_load (l : Launch) (hlt : l.stackTraces = false) (D : va_G) (cy : Nat → ClassId) (d0 : Nat) (A : Nat → Prop) (la : Nat → Int → Nat) (σ : MS) {a : Nat} {p0 p1 : Int} (h0 : -2147483648 ≤ p0 ∧ p0 < 2147483648) (h1 : -2147483648 ≤ p1 ∧ p1 < 2147483648) {n : Int} (I : cInv n σ) (hn : n + 1 ≤ 600) (hW : cW σ) (hcp : ∀ L, cLive la σ 11 L → la 19 L ≤ 1000) (hna : ¬ A a) : LW l yL_load wsL_load ({ frames := 9, cells := 16, slots := 256, locals := 159 } : Room) D cy d0 A [.ref (la 0 0), .int (iI p0), .int (iI p1), .ref a] la σ a (loadC σ p0 p1) (fun r la' τ => (r = loadR σ p0 p1 ∧ (-2147483648 ≤ r ∧ r < 2147483648)) ∧ (la' 0 0 = la 0 0 ∧ ∀ L, cLive la' τ 11 L → la' 19 L ≤ 1000) ∧ iStp n (σ) (nz τ)) 16 256 := by
  have h5n := ((I.g 5 0).2.1 rfl)
  have h11n := ((I.g 11 0).2.2.1 rfl)
  have h23n := ((I.g 23 0).2.2.2.1 rfl)
  have h27n := ((I.g 27 0).2.2.2.2.1 rfl)
  have h45n := ((I.g 45 0).2.2.2.2.2.1 rfl)
  have h1n := ((I.g 1 0).1 rfl)
  refine lw_load l D cy d0 A la σ hna (c_p_load l hlt D cy d0 A la σ (q := p0) (wt := p1) h0 h1 (by omega) (by omega) (by omega) (by omega) (by omega) I.lg I.ord (fun j _ _ => ((I.g 35 j).2.2.2.2.2.2.2.2.2.2.2.2.2.2.2.2.2.2.2.2.2.2.2.2.2.2.2.2.1 rfl)) I.r.2.2.2.1 ((I.g 31 0).2.2.2.2.2.2.2.1 rfl) (fun j => ((I.g 26 j).2.2.2.2.2.2.2.2.2.2.2.2.2.2.2.2.2.2.2.2.2.2.2.1 rfl))) (by unfold loadC; (repeat' split) <;> omega) (fun hC v la' τ hp => ?_)
  obtain ⟨rfl, rfl, e9, -⟩ := hp
  rw [e9]
  have st := I.same hn (fun _ _ => rfl)
  refine ⟨_, rfl, (by have a1 := ((I.g 25 p0).2.2.2.2.2.2.2.2.2.2.2.2.2.2.2.2.2.2.2.2.2.2.1 rfl); have a2 := sHt_r (σ := σ) (fun j _ _ => ((I.g 35 j).2.2.2.2.2.2.2.2.2.2.2.2.2.2.2.2.2.2.2.2.2.2.2.2.2.2.2.2.1 rfl)) p0 (n := (σ 45 0).toNat) (by omega) (by omega); have a3 := ((I.g 26 p0).2.2.2.2.2.2.2.2.2.2.2.2.2.2.2.2.2.2.2.2.2.2.2.1 rfl); have a4 := ((I.g 24 p0).2.2.2.2.2.2.2.2.2.2.2.2.2.2.2.2.2.2.2.2.2.1 rfl); have a5 := I.n0; unfold loadR; unfold sHalves; (repeat' split) <;> omega), ⟨rfl, (by have a1 := ((I.g 25 p0).2.2.2.2.2.2.2.2.2.2.2.2.2.2.2.2.2.2.2.2.2.2.1 rfl); have a2 := sHt_r (σ := σ) (fun j _ _ => ((I.g 35 j).2.2.2.2.2.2.2.2.2.2.2.2.2.2.2.2.2.2.2.2.2.2.2.2.2.2.2.2.1 rfl)) p0 (n := (σ 45 0).toNat) (by omega) (by omega); have a3 := ((I.g 26 p0).2.2.2.2.2.2.2.2.2.2.2.2.2.2.2.2.2.2.2.2.2.2.2.1 rfl); have a4 := ((I.g 24 p0).2.2.2.2.2.2.2.2.2.2.2.2.2.2.2.2.2.2.2.2.2.1 rfl); have a5 := I.n0; unfold loadR; unfold sHalves; (repeat' split) <;> omega)⟩, ⟨rfl, fun L hL => hcp L ?_⟩, st.nzE⟩
  have h2 : 0 ≤ L ∧ L < 5 + 2 * (σ) 23 0 := hL
  have h3 : (σ) 23 0 = σ 23 0 := by first | rfl | (simp [up_rd]; done)
  rw [h3] at h2
  exact h2
theorem wr_about (l : Launch) (hlt : l.stackTraces = false) (D : va_G) (cy : Nat → ClassId) (d0 : Nat) (A : Nat → Prop) (la : Nat → Int → Nat) (σ : MS) {a : Nat} {p0 p1 : Int} (h0 : -2147483648 ≤ p0 ∧ p0 < 2147483648) (h1 : -2147483648 ≤ p1 ∧ p1 < 2147483648) {n : Int} (I : cInv n σ) (hn : n + 1 ≤ 600) (hW : cW σ) (hcp : ∀ L, cLive la σ 11 L → la 19 L ≤ 1000) (hna : ¬ A a) : LW l yL_about wsL_about ({ frames := 9, cells := 16, slots := 256, locals := 152 } : Room) D cy d0 A [.ref (la 0 0), .int (iI p0), .int (iI p1), .ref a] la σ a (aboutC σ p0 p1) (fun r la' τ => (r = aboutR σ p0 p1 ∧ (-2147483648 ≤ r ∧ r < 2147483648)) ∧ (la' 0 0 = la 0 0 ∧ ∀ L, cLive la' τ 11 L → la' 19 L ≤ 1000) ∧ iStp n (σ) (nz τ)) 16 256 := by
  have h5n := ((I.g 5 0).2.1 rfl)
  have h11n := ((I.g 11 0).2.2.1 rfl)
  have h23n := ((I.g 23 0).2.2.2.1 rfl)
  have h27n := ((I.g 27 0).2.2.2.2.1 rfl)
  have h45n := ((I.g 45 0).2.2.2.2.2.1 rfl)
  have h1n := ((I.g 1 0).1 rfl)
  refine lw_about l D cy d0 A la σ hna (c_p_about l hlt D cy d0 A la σ (h := p0) (wt := p1) h0 h1 (by omega) (by omega) (by omega) (by omega) (by omega) I.lg (fun b x z => sHouse_in I.r ((I.g 18 b).2.2.2.2.2.2.2.2.2.2.2.2.2.2.2.2.1 rfl) x z) (fun j => ((I.g 18 j).2.2.2.2.2.2.2.2.2.2.2.2.2.2.2.2.1 rfl)) (fun j => (((I.g 16 j).2.2.2.2.2.2.2.2.2.2.2.2.2.2.1 rfl)).1) h1n) (by unfold aboutC; (repeat' split) <;> omega) (fun hC v la' τ hp => ?_)
  obtain ⟨rfl, rfl, e9, -⟩ := hp
  rw [e9]
  have st := I.same hn (fun _ _ => rfl)
  refine ⟨_, rfl, (by have a1 := ((I.g 6 p0).2.2.2.2.2.2.2.2.2.2.1 rfl); have a2 := ((I.g 7 p0).2.2.2.2.2.2.2.2.2.2.2.1 rfl); have a3 := sSum_r (f := fun b => if sHouse σ b (σ 1 0) = p0 then 1 else 0) (M := 1) (fun j => by split <;> omega) (σ 23 0).toNat; have a5 := I.n0; unfold aboutR; (repeat' split) <;> omega), ⟨rfl, (by have a1 := ((I.g 6 p0).2.2.2.2.2.2.2.2.2.2.1 rfl); have a2 := ((I.g 7 p0).2.2.2.2.2.2.2.2.2.2.2.1 rfl); have a3 := sSum_r (f := fun b => if sHouse σ b (σ 1 0) = p0 then 1 else 0) (M := 1) (fun j => by split <;> omega) (σ 23 0).toNat; have a5 := I.n0; unfold aboutR; (repeat' split) <;> omega)⟩, ⟨rfl, fun L hL => hcp L ?_⟩, st.nzE⟩
  have h2 : 0 ≤ L ∧ L < 5 + 2 * (σ) 23 0 := hL
  have h3 : (σ) 23 0 = σ 23 0 := by first | rfl | (simp [up_rd]; done)
  rw [h3] at h2
  exact h2
theorem wr_state (l : Launch) (hlt : l.stackTraces = false) (D : va_G) (cy : Nat → ClassId) (d0 : Nat) (A : Nat → Prop) (la : Nat → Int → Nat) (σ : MS) {a : Nat} {p0 p1 : Int} (h0 : -2147483648 ≤ p0 ∧ p0 < 2147483648) (h1 : -2147483648 ≤ p1 ∧ p1 < 2147483648) {n : Int} (I : cInv n σ) (hn : n + 1 ≤ 600) (hW : cW σ) (hcp : ∀ L, cLive la σ 11 L → la 19 L ≤ 1000) (hna : ¬ A a) : LW l yL_state wsL_state ({ frames := 9, cells := 16, slots := 256, locals := 152 } : Room) D cy d0 A [.ref (la 0 0), .int (iI p0), .int (iI p1), .ref a] la σ a (stateC σ p0 p1) (fun r la' τ => (r = stateR σ p0 p1 ∧ (-2147483648 ≤ r ∧ r < 2147483648)) ∧ (la' 0 0 = la 0 0 ∧ ∀ L, cLive la' τ 11 L → la' 19 L ≤ 1000) ∧ iStp n (σ) (nz τ)) 16 256 := by
  have h5n := ((I.g 5 0).2.1 rfl)
  have h11n := ((I.g 11 0).2.2.1 rfl)
  have h23n := ((I.g 23 0).2.2.2.1 rfl)
  have h27n := ((I.g 27 0).2.2.2.2.1 rfl)
  have h45n := ((I.g 45 0).2.2.2.2.2.1 rfl)
  have h1n := ((I.g 1 0).1 rfl)
  refine lw_state l D cy d0 A la σ hna (c_p_state l hlt D cy d0 A la σ (b := p0) (wt := p1) h0 h1 (by omega) (by omega) (by omega) (by omega) (by omega) I.lg (fun j => ((I.g 18 j).2.2.2.2.2.2.2.2.2.2.2.2.2.2.2.2.1 rfl)) (fun j => (((I.g 16 j).2.2.2.2.2.2.2.2.2.2.2.2.2.2.1 rfl)).1) h1n (fun b x z => sHouse_in I.r ((I.g 18 b).2.2.2.2.2.2.2.2.2.2.2.2.2.2.2.2.1 rfl) x z) (fun b => sHouse_ge (fun j => (((I.g 16 j).2.2.2.2.2.2.2.2.2.2.2.2.2.2.1 rfl)).1) b (σ 1 0))) (by unfold stateC; (repeat' split) <;> omega) (fun hC v la' τ hp => ?_)
  obtain ⟨rfl, rfl, e9, -⟩ := hp
  rw [e9]
  have st := I.same hn (fun _ _ => rfl)
  refine ⟨_, rfl, (by have a1 := ((I.g 12 p0).2.2.2.2.2.2.2.2.2.2.2.2.1 rfl); have a2 := hW.2 13 p0 rfl; have a3 := hW.1 14 p0 rfl; have a4 := sHouse_ge (σ := σ) (fun j => (((I.g 16 j).2.2.2.2.2.2.2.2.2.2.2.2.2.2.1 rfl)).1) p0 (σ 1 0); have a5 := ((I.g 15 p0).2.2.2.2.2.2.2.2.2.2.2.2.2.1 rfl); have a6 := ((I.g 18 p0).2.2.2.2.2.2.2.2.2.2.2.2.2.2.2.2.1 rfl); have a7 := ((I.g 22 p0).2.2.2.2.2.2.2.2.2.2.2.2.2.2.2.2.2.2.2.2.1 rfl); have a8 := I.n0; have hh : 0 ≤ p0 ∧ p0 < σ 23 0 := (by unfold stateC at hC; (repeat' split at hC) <;> omega); have a9 : sHouse σ p0 (σ 1 0) < 60 := (Classical.byCases (fun hz : sHouse σ p0 (σ 1 0) < 0 => by omega) (fun hz => by have := sHouse_in I.r ((I.g 18 p0).2.2.2.2.2.2.2.2.2.2.2.2.2.2.2.2.1 rfl) hh hz; omega)); unfold stateR; (repeat' split) <;> omega), ⟨rfl, (by have a1 := ((I.g 12 p0).2.2.2.2.2.2.2.2.2.2.2.2.1 rfl); have a2 := hW.2 13 p0 rfl; have a3 := hW.1 14 p0 rfl; have a4 := sHouse_ge (σ := σ) (fun j => (((I.g 16 j).2.2.2.2.2.2.2.2.2.2.2.2.2.2.1 rfl)).1) p0 (σ 1 0); have a5 := ((I.g 15 p0).2.2.2.2.2.2.2.2.2.2.2.2.2.1 rfl); have a6 := ((I.g 18 p0).2.2.2.2.2.2.2.2.2.2.2.2.2.2.2.2.1 rfl); have a7 := ((I.g 22 p0).2.2.2.2.2.2.2.2.2.2.2.2.2.2.2.2.2.2.2.2.1 rfl); have a8 := I.n0; have hh : 0 ≤ p0 ∧ p0 < σ 23 0 := (by unfold stateC at hC; (repeat' split at hC) <;> omega); have a9 : sHouse σ p0 (σ 1 0) < 60 := (Classical.byCases (fun hz : sHouse σ p0 (σ 1 0) < 0 => by omega) (fun hz => by have := sHouse_in I.r ((I.g 18 p0).2.2.2.2.2.2.2.2.2.2.2.2.2.2.2.2.1 rfl) hh hz; omega)); unfold stateR; (repeat' split) <;> omega)⟩, ⟨rfl, fun L hL => hcp L ?_⟩, st.nzE⟩
  have h2 : 0 ≤ L ∧ L < 5 + 2 * (σ) 23 0 := hL
  have h3 : (σ) 23 0 = σ 23 0 := by first | rfl | (simp [up_rd]; done)
  rw [h3] at h2
  exact h2
theorem wr_due (l : Launch) (hlt : l.stackTraces = false) (D : va_G) (cy : Nat → ClassId) (d0 : Nat) (A : Nat → Prop) (la : Nat → Int → Nat) (σ : MS) {a : Nat} {p0 : Int} (h0 : -2147483648 ≤ p0 ∧ p0 < 2147483648) {n : Int} (I : cInv n σ) (hn : n + 1 ≤ 600) (hW : cW σ) (hcp : ∀ L, cLive la σ 11 L → la 19 L ≤ 1000) (hna : ¬ A a) : LW l yL_due wsL_due ({ frames := 9, cells := 16, slots := 256, locals := 155 } : Room) D cy d0 A [.ref (la 0 0), .int (iI p0), .ref a] la σ a (oneC p0 (σ 23 0)) (fun r la' τ => (r = dueR σ p0 ∧ (-2147483648 ≤ r ∧ r < 2147483648)) ∧ (la' 0 0 = la 0 0 ∧ ∀ L, cLive la' τ 11 L → la' 19 L ≤ 1000) ∧ iStp n (σ) (nz τ)) 16 256 := by
  have h5n := ((I.g 5 0).2.1 rfl)
  have h11n := ((I.g 11 0).2.2.1 rfl)
  have h23n := ((I.g 23 0).2.2.2.1 rfl)
  have h27n := ((I.g 27 0).2.2.2.2.1 rfl)
  have h45n := ((I.g 45 0).2.2.2.2.2.1 rfl)
  have h1n := ((I.g 1 0).1 rfl)
  refine lw_due l D cy d0 A la σ hna (c_p_due l hlt D cy d0 A la σ (b := p0) h0 (by omega) (by omega) (by omega) (by omega) (by omega) I.lg (fun j => ((I.g 18 j).2.2.2.2.2.2.2.2.2.2.2.2.2.2.2.2.1 rfl)) (fun j => (((I.g 16 j).2.2.2.2.2.2.2.2.2.2.2.2.2.2.1 rfl)).1) h1n (fun b x y => sHouse_in I.r ((I.g 18 b).2.2.2.2.2.2.2.2.2.2.2.2.2.2.2.2.1 rfl) ⟨x, y⟩ (by have h9 := sHouse_now (σ := σ) (d := σ 1 0) (fun j => (((I.g 16 j).2.2.2.2.2.2.2.2.2.2.2.2.2.2.1 rfl)).1) (I.bin b x y).2 (I.bin b x y).1; omega)) (fun j => ((I.g 4 j).2.2.2.2.2.2.2.2.2.1 rfl)) (fun j => ((I.g 3 j).2.2.2.2.2.2.2.2.1 rfl)) I.r.1) (by unfold oneC; (repeat' split) <;> omega) (fun hC v la' τ hp => ?_)
  obtain ⟨rfl, rfl, e9, -⟩ := hp
  rw [e9]
  have st := I.same hn (fun _ _ => rfl)
  refine ⟨_, rfl, (by have h := sDu_r (σ := σ) (st := σ 6 (sHouse σ p0 (σ 1 0))) (g := sGrp (σ 12 p0)) (op := σ 1 0) (w0 := σ 1 0 / 7) (by omega) 4 (by omega); unfold dueR; omega), ⟨rfl, (by have h := sDu_r (σ := σ) (st := σ 6 (sHouse σ p0 (σ 1 0))) (g := sGrp (σ 12 p0)) (op := σ 1 0) (w0 := σ 1 0 / 7) (by omega) 4 (by omega); unfold dueR; omega)⟩, ⟨rfl, fun L hL => hcp L ?_⟩, st.nzE⟩
  have h2 : 0 ≤ L ∧ L < 5 + 2 * (σ) 23 0 := hL
  have h3 : (σ) 23 0 = σ 23 0 := by first | rfl | (simp [up_rd]; done)
  rw [h3] at h2
  exact h2
theorem wr_fill (l : Launch) (hlt : l.stackTraces = false) (D : va_G) (cy : Nat → ClassId) (d0 : Nat) (A : Nat → Prop) (la : Nat → Int → Nat) (σ : MS) {a : Nat} {p0 p1 p2 : Int} (h0 : -2147483648 ≤ p0 ∧ p0 < 2147483648) (h1 : -2147483648 ≤ p1 ∧ p1 < 2147483648) (h2 : -2147483648 ≤ p2 ∧ p2 < 2147483648) {n : Int} (I : cInv n σ) (hn : n + 1 ≤ 600) (hW : cW σ) (hcp : ∀ L, cLive la σ 11 L → la 19 L ≤ 1000) (hna : ¬ A a) : LW l yL_fill wsL_fill ({ frames := 9, cells := 16, slots := 256, locals := 158 } : Room) D cy d0 A [.ref (la 0 0), .int (iI p0), .int (iI p1), .int (iI p2), .ref a] la σ a (fillC σ p0 p1 p2) (fun r la' τ => (r = fillR σ p0 p1 p2 ∧ (-2147483648 ≤ r ∧ r < 2147483648)) ∧ (la' 0 0 = la 0 0 ∧ ∀ L, cLive la' τ 11 L → la' 19 L ≤ 1000) ∧ iStp n (σ) (nz τ)) 16 256 := by
  have h5n := ((I.g 5 0).2.1 rfl)
  have h11n := ((I.g 11 0).2.2.1 rfl)
  have h23n := ((I.g 23 0).2.2.2.1 rfl)
  have h27n := ((I.g 27 0).2.2.2.2.1 rfl)
  have h45n := ((I.g 45 0).2.2.2.2.2.1 rfl)
  have h1n := ((I.g 1 0).1 rfl)
  refine lw_fill l D cy d0 A la σ hna (c_p_fill l hlt D cy d0 A la σ (q := p0) (st := p1) (g := p2) h0 h1 h2 (by omega) (by omega) (by omega) (by omega) (by omega) I.lg I.ord (fun j _ _ => ((I.g 35 j).2.2.2.2.2.2.2.2.2.2.2.2.2.2.2.2.2.2.2.2.2.2.2.2.2.2.2.2.1 rfl)) I.r.2.2.2.1 I.r.2.2.2.2 (fun j => ((I.g 18 j).2.2.2.2.2.2.2.2.2.2.2.2.2.2.2.2.1 rfl)) (fun j => (((I.g 16 j).2.2.2.2.2.2.2.2.2.2.2.2.2.2.1 rfl)).1) h1n (fun b x z => sHouse_in I.r ((I.g 18 b).2.2.2.2.2.2.2.2.2.2.2.2.2.2.2.2.1 rfl) x z) I.r.1 (fun j => ((I.g 35 j).2.2.2.2.2.2.2.2.2.2.2.2.2.2.2.2.2.2.2.2.2.2.2.2.2.2.2.2.1 rfl))) (by unfold fillC; (repeat' split) <;> omega) (fun hC v la' τ hp => ?_)
  obtain ⟨rfl, rfl, hx9⟩ := hp
  have st := I.same hn (fun f hf => by
    simp only [Bool.and_eq_true, bne_iff_ne, ne_eq] at hf
    exact hx9 f hf.1.2 hf.2)
  refine ⟨_, rfl, (by have h := sFl_r (σ := σ) (st := p1) (g := p2) (lim := σ 24 p0) (σ 11 0).toNat 0 (sHalves σ p0) (by omega); unfold fillR; omega), ⟨rfl, (by have h := sFl_r (σ := σ) (st := p1) (g := p2) (lim := σ 24 p0) (σ 11 0).toNat 0 (sHalves σ p0) (by omega); unfold fillR; omega)⟩, ⟨rfl, fun L hL => hcp L ?_⟩, st.nzE⟩
  have h2 : 0 ≤ L ∧ L < 5 + 2 * τ 23 0 := hL
  rw [st.2 23 (by decide) (by decide) (by decide) (by decide)] at h2
  exact h2
theorem wr_wrong (l : Launch) (hlt : l.stackTraces = false) (D : va_G) (cy : Nat → ClassId) (d0 : Nat) (A : Nat → Prop) (la : Nat → Int → Nat) (σ : MS) {a : Nat} {p0 : Int} (h0 : -2147483648 ≤ p0 ∧ p0 < 2147483648) {n : Int} (I : cInv n σ) (hn : n + 1 ≤ 600) (hW : cW σ) (hcp : ∀ L, cLive la σ 11 L → la 19 L ≤ 1000) (hna : ¬ A a) : LW l yL_wrong wsL_wrong ({ frames := 9, cells := 16, slots := 256, locals := 152 } : Room) D cy d0 A [.ref (la 0 0), .int (iI p0), .ref a] la σ a (wrongC σ p0) (fun r la' τ => (r = wrongR σ p0 ∧ (r = 0 ∨ r = 1)) ∧ (la' 0 0 = la 0 0 ∧ ∀ L, cLive la' τ 11 L → la' 19 L ≤ 1000) ∧ iStp n (wrongS σ p0) (nz τ)) 16 256 := by
  have h5n := ((I.g 5 0).2.1 rfl)
  have h11n := ((I.g 11 0).2.2.1 rfl)
  have h23n := ((I.g 23 0).2.2.2.1 rfl)
  have h27n := ((I.g 27 0).2.2.2.2.1 rfl)
  have h45n := ((I.g 45 0).2.2.2.2.2.1 rfl)
  have h1n := ((I.g 1 0).1 rfl)
  by_cases hnl : σ 36 p0 < 0
  · refine lw_wrong l D cy d0 A la σ hna (c_p_wrong_n l hlt D cy d0 A la σ (t := p0) h0 (by omega) (by omega) (by omega) (by omega) (by omega) I.lg (((I.g 36 p0).2.2.2.2.2.2.2.2.2.2.2.2.2.2.2.2.2.2.2.2.2.2.2.2.2.2.2.2.2.1 rfl)).1 I.r.2.2.2.2 hnl) (by unfold wrongC; (repeat' split) <;> omega) (fun hC v la' τ hp => ?_)
    obtain ⟨rfl, rfl, rfl, -⟩ := hp
    have st := st_wrong I hn hC
    refine ⟨_, rfl, (by unfold wrongR; split <;> omega), ⟨rfl, (by unfold wrongR; split <;> omega)⟩, ⟨rfl, fun L hL => hcp L ?_⟩, st.nzE⟩
    have h2 : 0 ≤ L ∧ L < 5 + 2 * (wrongS σ p0) 23 0 := hL
    have h3 : (wrongS σ p0) 23 0 = σ 23 0 := by unfold wrongS; simp [up_rd]
    rw [h3] at h2
    exact h2
  · refine lw_wrong l D cy d0 A la σ hna (c_p_wrong_r l hlt D cy d0 A la σ (t := p0) h0 (by omega) (by omega) (by omega) (by omega) (by omega) I.lg (((I.g 36 p0).2.2.2.2.2.2.2.2.2.2.2.2.2.2.2.2.2.2.2.2.2.2.2.2.2.2.2.2.2.1 rfl)).1 I.r.2.2.2.2 hnl) (by unfold wrongC; (repeat' split) <;> omega) (fun hC v la' τ hp => ?_)
    obtain ⟨rfl, rfl, rfl, -⟩ := hp
    have st := st_wrong I hn hC
    refine ⟨_, rfl, (by unfold wrongR; split <;> omega), ⟨rfl, (by unfold wrongR; split <;> omega)⟩, ⟨rfl, fun L hL => hcp L ?_⟩, st.nzE⟩
    have h2 : 0 ≤ L ∧ L < 5 + 2 * (wrongS σ p0) 23 0 := hL
    have h3 : (wrongS σ p0) 23 0 = σ 23 0 := by unfold wrongS; simp [up_rd]
    rw [h3] at h2
    exact h2
theorem wr_look (l : Launch) (hlt : l.stackTraces = false) (D : va_G) (cy : Nat → ClassId) (d0 : Nat) (A : Nat → Prop) (la : Nat → Int → Nat) (σ : MS) {a : Nat} {p0 p1 : Int} (h0 : -2147483648 ≤ p0 ∧ p0 < 2147483648) (h1 : -2147483648 ≤ p1 ∧ p1 < 2147483648) {n : Int} (I : cInv n σ) (hn : n + 1 ≤ 600) (hW : cW σ) (hcp : ∀ L, cLive la σ 11 L → la 19 L ≤ 1000) (hna : ¬ A a) : LW l yL_look wsL_look ({ frames := 9, cells := 16, slots := 256, locals := 152 } : Room) D cy d0 A [.ref (la 0 0), .int (iI p0), .int (iI p1), .ref a] la σ a (lookC σ p0 p1) (fun r la' τ => (r = lookR σ p0 p1 ∧ (-2147483648 ≤ r ∧ r < 2147483648)) ∧ (la' 0 0 = la 0 0 ∧ ∀ L, cLive la' τ 11 L → la' 19 L ≤ 1000) ∧ iStp n (σ) (nz τ)) 16 256 := by
  have h5n := ((I.g 5 0).2.1 rfl)
  have h11n := ((I.g 11 0).2.2.1 rfl)
  have h23n := ((I.g 23 0).2.2.2.1 rfl)
  have h27n := ((I.g 27 0).2.2.2.2.1 rfl)
  have h45n := ((I.g 45 0).2.2.2.2.2.1 rfl)
  have h1n := ((I.g 1 0).1 rfl)
  by_cases hnl : σ 36 p0 < 0
  · refine lw_look l D cy d0 A la σ hna (c_p_look_n l hlt D cy d0 A la σ (t := p0) (wt := p1) h0 h1 (by omega) (by omega) (by omega) (by omega) (by omega) I.lg (((I.g 36 p0).2.2.2.2.2.2.2.2.2.2.2.2.2.2.2.2.2.2.2.2.2.2.2.2.2.2.2.2.2.1 rfl)).1 I.r.2.2.2.1 I.r.2.2.2.2 hnl) (by unfold lookC; (repeat' split) <;> omega) (fun hC v la' τ hp => ?_)
    obtain ⟨rfl, rfl, e9, -⟩ := hp
    rw [e9]
    have st := I.same hn (fun _ _ => rfl)
    refine ⟨_, rfl, (by have a32 := ((I.g 32 p0).2.2.2.2.2.2.2.2.2.2.2.2.2.2.2.2.2.2.2.2.2.2.2.2.2.2.1 rfl); have a33 := ((I.g 33 p0).2.2.2.2.2.2.2.2.2.2.2.2.2.2.2.2.2.2.2.2.2.2.2.2.2.2.2.1 rfl); have a35 := ((I.g 35 p0).2.2.2.2.2.2.2.2.2.2.2.2.2.2.2.2.2.2.2.2.2.2.2.2.2.2.2.2.1 rfl); have a36 := ((I.g 36 p0).2.2.2.2.2.2.2.2.2.2.2.2.2.2.2.2.2.2.2.2.2.2.2.2.2.2.2.2.2.1 rfl); have a37 := ((I.g 37 p0).2.2.2.2.2.2.2.2.2.2.2.2.2.2.2.2.2.2.2.2.2.2.2.2.2.2.2.2.2.2.1 rfl); have a38 := ((I.g 38 p0).2.2.2.2.2.2.2.2.2.2.2.2.2.2.2.2.2.2.2.2.2.2.2.2.2.2.2.2.2.2.2.1 rfl); have a39 := ((I.g 39 p0).2.2.2.2.2.2.2.2.2.2.2.2.2.2.2.2.2.2.2.2.2.2.2.2.2.2.2.2.2.2.2.2.1 rfl); have a34 := hW.1 34 p0 rfl; have a40 := hW.2 40 p0 rfl; have a41 := hW.2 41 p0 rfl; unfold lookR; (repeat' split) <;> omega), ⟨rfl, (by have a32 := ((I.g 32 p0).2.2.2.2.2.2.2.2.2.2.2.2.2.2.2.2.2.2.2.2.2.2.2.2.2.2.1 rfl); have a33 := ((I.g 33 p0).2.2.2.2.2.2.2.2.2.2.2.2.2.2.2.2.2.2.2.2.2.2.2.2.2.2.2.1 rfl); have a35 := ((I.g 35 p0).2.2.2.2.2.2.2.2.2.2.2.2.2.2.2.2.2.2.2.2.2.2.2.2.2.2.2.2.1 rfl); have a36 := ((I.g 36 p0).2.2.2.2.2.2.2.2.2.2.2.2.2.2.2.2.2.2.2.2.2.2.2.2.2.2.2.2.2.1 rfl); have a37 := ((I.g 37 p0).2.2.2.2.2.2.2.2.2.2.2.2.2.2.2.2.2.2.2.2.2.2.2.2.2.2.2.2.2.2.1 rfl); have a38 := ((I.g 38 p0).2.2.2.2.2.2.2.2.2.2.2.2.2.2.2.2.2.2.2.2.2.2.2.2.2.2.2.2.2.2.2.1 rfl); have a39 := ((I.g 39 p0).2.2.2.2.2.2.2.2.2.2.2.2.2.2.2.2.2.2.2.2.2.2.2.2.2.2.2.2.2.2.2.2.1 rfl); have a34 := hW.1 34 p0 rfl; have a40 := hW.2 40 p0 rfl; have a41 := hW.2 41 p0 rfl; unfold lookR; (repeat' split) <;> omega)⟩, ⟨rfl, fun L hL => hcp L ?_⟩, st.nzE⟩
    have h2 : 0 ≤ L ∧ L < 5 + 2 * (σ) 23 0 := hL
    have h3 : (σ) 23 0 = σ 23 0 := by first | rfl | (simp [up_rd]; done)
    rw [h3] at h2
    exact h2
  · refine lw_look l D cy d0 A la σ hna (c_p_look_r l hlt D cy d0 A la σ (t := p0) (wt := p1) h0 h1 (by omega) (by omega) (by omega) (by omega) (by omega) I.lg (((I.g 36 p0).2.2.2.2.2.2.2.2.2.2.2.2.2.2.2.2.2.2.2.2.2.2.2.2.2.2.2.2.2.1 rfl)).1 I.r.2.2.2.1 I.r.2.2.2.2 hnl) (by unfold lookC; (repeat' split) <;> omega) (fun hC v la' τ hp => ?_)
    obtain ⟨rfl, rfl, e9, -⟩ := hp
    rw [e9]
    have st := I.same hn (fun _ _ => rfl)
    refine ⟨_, rfl, (by have a32 := ((I.g 32 p0).2.2.2.2.2.2.2.2.2.2.2.2.2.2.2.2.2.2.2.2.2.2.2.2.2.2.1 rfl); have a33 := ((I.g 33 p0).2.2.2.2.2.2.2.2.2.2.2.2.2.2.2.2.2.2.2.2.2.2.2.2.2.2.2.1 rfl); have a35 := ((I.g 35 p0).2.2.2.2.2.2.2.2.2.2.2.2.2.2.2.2.2.2.2.2.2.2.2.2.2.2.2.2.1 rfl); have a36 := ((I.g 36 p0).2.2.2.2.2.2.2.2.2.2.2.2.2.2.2.2.2.2.2.2.2.2.2.2.2.2.2.2.2.1 rfl); have a37 := ((I.g 37 p0).2.2.2.2.2.2.2.2.2.2.2.2.2.2.2.2.2.2.2.2.2.2.2.2.2.2.2.2.2.2.1 rfl); have a38 := ((I.g 38 p0).2.2.2.2.2.2.2.2.2.2.2.2.2.2.2.2.2.2.2.2.2.2.2.2.2.2.2.2.2.2.2.1 rfl); have a39 := ((I.g 39 p0).2.2.2.2.2.2.2.2.2.2.2.2.2.2.2.2.2.2.2.2.2.2.2.2.2.2.2.2.2.2.2.2.1 rfl); have a34 := hW.1 34 p0 rfl; have a40 := hW.2 40 p0 rfl; have a41 := hW.2 41 p0 rfl; unfold lookR; (repeat' split) <;> omega), ⟨rfl, (by have a32 := ((I.g 32 p0).2.2.2.2.2.2.2.2.2.2.2.2.2.2.2.2.2.2.2.2.2.2.2.2.2.2.1 rfl); have a33 := ((I.g 33 p0).2.2.2.2.2.2.2.2.2.2.2.2.2.2.2.2.2.2.2.2.2.2.2.2.2.2.2.1 rfl); have a35 := ((I.g 35 p0).2.2.2.2.2.2.2.2.2.2.2.2.2.2.2.2.2.2.2.2.2.2.2.2.2.2.2.2.1 rfl); have a36 := ((I.g 36 p0).2.2.2.2.2.2.2.2.2.2.2.2.2.2.2.2.2.2.2.2.2.2.2.2.2.2.2.2.2.1 rfl); have a37 := ((I.g 37 p0).2.2.2.2.2.2.2.2.2.2.2.2.2.2.2.2.2.2.2.2.2.2.2.2.2.2.2.2.2.2.1 rfl); have a38 := ((I.g 38 p0).2.2.2.2.2.2.2.2.2.2.2.2.2.2.2.2.2.2.2.2.2.2.2.2.2.2.2.2.2.2.2.1 rfl); have a39 := ((I.g 39 p0).2.2.2.2.2.2.2.2.2.2.2.2.2.2.2.2.2.2.2.2.2.2.2.2.2.2.2.2.2.2.2.2.1 rfl); have a34 := hW.1 34 p0 rfl; have a40 := hW.2 40 p0 rfl; have a41 := hW.2 41 p0 rfl; unfold lookR; (repeat' split) <;> omega)⟩, ⟨rfl, fun L hL => hcp L ?_⟩, st.nzE⟩
    have h2 : 0 ≤ L ∧ L < 5 + 2 * (σ) 23 0 := hL
    have h3 : (σ) 23 0 = σ 23 0 := by first | rfl | (simp [up_rd]; done)
    rw [h3] at h2
    exact h2
theorem wr_close (l : Launch) (hlt : l.stackTraces = false) (D : va_G) (cy : Nat → ClassId) (d0 : Nat) (A : Nat → Prop) (la : Nat → Int → Nat) (σ : MS) {a : Nat}  {n : Int} (I : cInv n σ) (hn : n + 1 ≤ 600) (hW : cW σ) (hcp : ∀ L, cLive la σ 11 L → la 19 L ≤ 1000) (hna : ¬ A a) : LW l yL_close wsL_close ({ frames := 9, cells := 16, slots := 256, locals := 216 } : Room) D cy d0 A [.ref (la 0 0), .ref a] la σ a (closeC σ) (fun r la' τ => (r = closeR σ ∧ (-2147483648 ≤ r ∧ r < 2147483648)) ∧ (la' 0 0 = la 0 0 ∧ ∀ L, cLive la' τ 11 L → la' 19 L ≤ 1000) ∧ iStp n (closeS σ) (nz τ)) 16 256 := by
  have h5n := ((I.g 5 0).2.1 rfl)
  have h11n := ((I.g 11 0).2.2.1 rfl)
  have h23n := ((I.g 23 0).2.2.2.1 rfl)
  have h27n := ((I.g 27 0).2.2.2.2.1 rfl)
  have h45n := ((I.g 45 0).2.2.2.2.2.1 rfl)
  have h1n := ((I.g 1 0).1 rfl)
  refine lw_close l D cy d0 A la σ hna (c_p_close l hlt D cy d0 A la σ   (by omega) (by omega) (by omega) (by omega) (by omega) I.lg I.ord (fun j _ _ => ((I.g 35 j).2.2.2.2.2.2.2.2.2.2.2.2.2.2.2.2.2.2.2.2.2.2.2.2.2.2.2.2.1 rfl)) I.r.2.2.2.1 I.r.2.2.2.2 (by omega) I.t40 (fun j => ((I.g 42 j).2.2.2.2.2.2.2.2.2.2.2.2.2.2.2.2.2.2.2.2.2.2.2.2.2.2.2.2.2.2.2.2.2.1 rfl)) (fun j => ((I.g 43 j).2.2.2.2.2.2.2.2.2.2.2.2.2.2.2.2.2.2.2.2.2.2.2.2.2.2.2.2.2.2.2.2.2.2.1 rfl)) (fun j => ((I.g 39 j).2.2.2.2.2.2.2.2.2.2.2.2.2.2.2.2.2.2.2.2.2.2.2.2.2.2.2.2.2.2.2.2.1 rfl)) (fun j => ((I.g 32 j).2.2.2.2.2.2.2.2.2.2.2.2.2.2.2.2.2.2.2.2.2.2.2.2.2.2.1 rfl)) (fun j => ((I.g 18 j).2.2.2.2.2.2.2.2.2.2.2.2.2.2.2.2.1 rfl)) (fun j => (((I.g 16 j).2.2.2.2.2.2.2.2.2.2.2.2.2.2.1 rfl)).1) (fun b d x y z => sHouse_in I.r ((I.g 18 b).2.2.2.2.2.2.2.2.2.2.2.2.2.2.2.2.1 rfl) ⟨x, y⟩ z) (fun j => ((I.g 22 j).2.2.2.2.2.2.2.2.2.2.2.2.2.2.2.2.2.2.2.2.1 rfl)) (fun j => ((I.g 20 j).2.2.2.2.2.2.2.2.2.2.2.2.2.2.2.2.2.2.1 rfl)) (fun h j => ⟨(((I.g 19 j).2.2.2.2.2.2.2.2.2.2.2.2.2.2.2.2.2.1 rfl)).1, (I.h19 j).elim id (fun h1 => by have := I.h23 h; omega)⟩) (fun j => (((I.g 7 j).2.2.2.2.2.2.2.2.2.2.2.1 rfl)).1) (fun j => ((I.g 12 j).2.2.2.2.2.2.2.2.2.2.2.2.1 rfl)) (fun j => ((I.g 28 j).2.2.2.2.2.2.2.2.2.2.2.2.2.2.2.2.2.2.2.2.2.2.2.2.1 rfl)) (fun j => ((I.g 29 j).2.2.2.2.2.2.2.2.2.2.2.2.2.2.2.2.2.2.2.2.2.2.2.2.2.1 rfl)) (fun j => ⟨(((I.g 15 j).2.2.2.2.2.2.2.2.2.2.2.2.2.1 rfl)).1, by have h1 := ((I.g 15 j).2.2.2.2.2.2.2.2.2.2.2.2.2.1 rfl); have h2 := I.n0; omega⟩) ((I.g 31 0).2.2.2.2.2.2.2.1 rfl) (fun j => ((I.g 26 j).2.2.2.2.2.2.2.2.2.2.2.2.2.2.2.2.2.2.2.2.2.2.2.1 rfl)) (fun j => ((I.g 35 j).2.2.2.2.2.2.2.2.2.2.2.2.2.2.2.2.2.2.2.2.2.2.2.2.2.2.2.2.1 rfl)) (fun t _ _ z => (I.t41 t z).2.2) (fun t x y z => (I.top t x y z).1) (fun t x y z => (I.top t x y z).2) (fun c hc => by rw [I.h54 c hc]; decide) I.fr (by omega)) (by unfold closeC; (repeat' split) <;> omega) (fun hC v la' τ hp => ?_)
  obtain ⟨rfl, rfl, hx9, hx5⟩ := hp
  have hN := clLoop_N (x := (σ, clF0 σ, 0)) (Int.le_refl 0) (σ 45 0).toNat
  have hN2 : (clLoop (σ 45 0).toNat (σ, clF0 σ, 0)).2.2 = closeR σ := rfl
  rw [hN2] at hN
  have c27 : closeS σ 27 = σ 27 := by
    unfold closeS
    rw [up_f (by decide), gOff_f (by decide)]
    exact clLoop_f rfl _
  have c23 : closeS σ 23 = σ 23 := by
    unfold closeS
    rw [up_f (by decide), gOff_f (by decide)]
    exact clLoop_f rfl _
  have st := st_close (τ := nz τ) I hn hC (fun q hq => by rw [nz_f (by omega)]; exact hx9 q hq) (fun h a c => by rw [nz_f (by decide)]; exact hx5 h a c) (fun c hc => nz_54z (by rw [hx9 27 (by decide), c27]; exact hc))
  have hN3 : closeR σ ≤ 0 + ((σ 45 0).toNat : Int) := hN.2
  refine ⟨_, rfl, ⟨by omega, by omega⟩, ⟨rfl, ⟨by omega, by omega⟩⟩, ⟨rfl, fun L hL => hcp L ?_⟩, st⟩
  have h2 : 0 ≤ L ∧ L < 5 + 2 * τ 23 0 := hL
  rw [hx9 23 (by decide), c23] at h2
  exact h2
