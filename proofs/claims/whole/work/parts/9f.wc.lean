theorem wr_holiday (l : Launch) (hlt : l.stackTraces = false) (D : va_G) (cy : Nat → ClassId) (d0 : Nat) (A : Nat → Prop) (la : Nat → Int → Nat) (σ : MS) {a : Nat} {p0 p1 : Int} (h0 : -2147483648 ≤ p0 ∧ p0 < 2147483648) (h1 : p1 = 0 ∨ p1 = 1) {n : Int} (I : cInv n σ) (hn : n + 1 ≤ 600) (hW : cW σ) (hcp : ∀ L, cLive la σ 11 L → la 19 L ≤ 1000) (hna : ¬ A a) : LW l yL_holiday wsL_holiday ({ frames := 8, cells := 16, slots := 256, locals := 129 } : Room) D cy d0 A [.ref (la 0 0), .int (iI p0), .int (iI p1), .ref a] la σ a (holidayC σ p0) (fun r la' τ => (r = holidayR σ p0 p1 ∧ (r = 0 ∨ r = 1)) ∧ (la' 0 0 = la 0 0 ∧ ∀ L, cLive la' τ 11 L → la' 19 L ≤ 1000) ∧ iStp n (holidayS σ p0 p1) (nz τ)) 16 256 := by
  have h5n := ((I.g 5 0).2.1 rfl)
  have h11n := ((I.g 11 0).2.2.1 rfl)
  have h23n := ((I.g 23 0).2.2.2.1 rfl)
  have h27n := ((I.g 27 0).2.2.2.2.1 rfl)
  have h45n := ((I.g 45 0).2.2.2.2.2.1 rfl)
  have h1n := ((I.g 1 0).1 rfl)
  refine lw_holiday l D cy d0 A la σ hna (c_p_holiday l hlt D cy d0 A la σ (z := p0) (v := p1) h0 h1 (by omega) (by omega) (by omega) (by omega) (by omega) I.lg h1n) (by unfold holidayC; (repeat' split) <;> omega) (fun hC v la' τ hp => ?_)
  obtain ⟨rfl, rfl, rfl, -⟩ := hp
  have st := st_holiday (d := p0) (v := p1) I hn
  refine ⟨_, rfl, (by unfold holidayR; split <;> omega), ⟨rfl, (by unfold holidayR; split <;> omega)⟩, ⟨rfl, fun L hL => hcp L ?_⟩, st.nzE⟩
  have h2 : 0 ≤ L ∧ L < 5 + 2 * (if σ 2 p0 = p1 then σ else up σ 2 p0 p1) 23 0 := hL
  have h3 : (if σ 2 p0 = p1 then σ else up σ 2 p0 p1) 23 0 = σ 23 0 := by split <;> simp [up_rd]
  rw [h3] at h2
  exact h2
theorem wr_middle (l : Launch) (hlt : l.stackTraces = false) (D : va_G) (cy : Nat → ClassId) (d0 : Nat) (A : Nat → Prop) (la : Nat → Int → Nat) (σ : MS) {a : Nat} {p0 : Int} (h0 : -2147483648 ≤ p0 ∧ p0 < 2147483648) {n : Int} (I : cInv n σ) (hn : n + 1 ≤ 600) (hW : cW σ) (hcp : ∀ L, cLive la σ 11 L → la 19 L ≤ 1000) (hna : ¬ A a) : LW l yL_middle wsL_middle ({ frames := 9, cells := 16, slots := 256, locals := 150 } : Room) D cy d0 A [.ref (la 0 0), .int (iI p0), .ref a] la σ a (oneC p0 (σ 23 0)) (fun r la' τ => (r = sMiddle σ p0 ∧ (-2147483648 ≤ r ∧ r < 2147483648)) ∧ (la' 0 0 = la 0 0 ∧ ∀ L, cLive la' τ 11 L → la' 19 L ≤ 1000) ∧ iStp n (σ) (nz τ)) 16 256 := by
  have h5n := ((I.g 5 0).2.1 rfl)
  have h11n := ((I.g 11 0).2.2.1 rfl)
  have h23n := ((I.g 23 0).2.2.2.1 rfl)
  have h27n := ((I.g 27 0).2.2.2.2.1 rfl)
  have h45n := ((I.g 45 0).2.2.2.2.2.1 rfl)
  have h1n := ((I.g 1 0).1 rfl)
  refine lw_middle l D cy d0 A la σ hna (c_p_middle l hlt D cy d0 A la σ (b := p0) h0 (by omega) (by omega) (by omega) (by omega) (by omega) I.lg (fun t _ _ => ((I.g 35 t).2.2.2.2.2.2.2.2.2.2.2.2.2.2.2.2.2.2.2.2.2.2.2.2.2.2.2.2.1 rfl)) I.r.2.2.2.2) (by unfold oneC; (repeat' split) <;> omega) (fun hC v la' τ hp => ?_)
  obtain ⟨rfl, rfl, hx9⟩ := hp
  have st := I.same hn (fun f hf => by
    simp only [Bool.and_eq_true, bne_iff_ne, ne_eq] at hf
    exact hx9 f hf.1.2 hf.2)
  refine ⟨_, rfl, (by have h := sMiddle_r (σ := σ) (b := p0) (M := 3000000) (by decide) (fun t _ _ => ((I.g 35 t).2.2.2.2.2.2.2.2.2.2.2.2.2.2.2.2.2.2.2.2.2.2.2.2.2.2.2.2.1 rfl)); omega), ⟨rfl, (by have h := sMiddle_r (σ := σ) (b := p0) (M := 3000000) (by decide) (fun t _ _ => ((I.g 35 t).2.2.2.2.2.2.2.2.2.2.2.2.2.2.2.2.2.2.2.2.2.2.2.2.2.2.2.2.1 rfl)); omega)⟩, ⟨rfl, fun L hL => hcp L ?_⟩, st.nzE⟩
  have h2 : 0 ≤ L ∧ L < 5 + 2 * τ 23 0 := hL
  rw [st.2 23 (by decide) (by decide) (by decide) (by decide)] at h2
  exact h2
theorem wr_charge (l : Launch) (hlt : l.stackTraces = false) (D : va_G) (cy : Nat → ClassId) (d0 : Nat) (A : Nat → Prop) (la : Nat → Int → Nat) (σ : MS) {a : Nat} {p0 : Int} (h0 : -2147483648 ≤ p0 ∧ p0 < 2147483648) {n : Int} (I : cInv n σ) (hn : n + 1 ≤ 600) (hW : cW σ) (hcp : ∀ L, cLive la σ 11 L → la 19 L ≤ 1000) (hna : ¬ A a) : LW l yL_charge wsL_charge ({ frames := 9, cells := 16, slots := 256, locals := 168 } : Room) D cy d0 A [.ref (la 0 0), .int (iI p0), .ref a] la σ a (oneC p0 (σ 45 0)) (fun r la' τ => (r = sChg σ p0 ∧ True) ∧ (la' 0 0 = la 0 0 ∧ ∀ L, cLive la' τ 11 L → la' 19 L ≤ 1000) ∧ iStp n (σ) (nz τ)) 16 256 := by
  have h5n := ((I.g 5 0).2.1 rfl)
  have h11n := ((I.g 11 0).2.2.1 rfl)
  have h23n := ((I.g 23 0).2.2.2.1 rfl)
  have h27n := ((I.g 27 0).2.2.2.2.1 rfl)
  have h45n := ((I.g 45 0).2.2.2.2.2.1 rfl)
  have h1n := ((I.g 1 0).1 rfl)
  refine lw_charge l D cy d0 A la σ hna (c_p_charge l hlt D cy d0 A la σ (t := p0) h0 (by omega) (by omega) (by omega) (by omega) (by omega) I.lg (by omega) (I.t40 p0) (I.r.2.2.2.2 p0) ((I.g 42 p0).2.2.2.2.2.2.2.2.2.2.2.2.2.2.2.2.2.2.2.2.2.2.2.2.2.2.2.2.2.2.2.2.2.1 rfl) ((I.g 43 p0).2.2.2.2.2.2.2.2.2.2.2.2.2.2.2.2.2.2.2.2.2.2.2.2.2.2.2.2.2.2.2.2.2.2.1 rfl) ((I.g 39 p0).2.2.2.2.2.2.2.2.2.2.2.2.2.2.2.2.2.2.2.2.2.2.2.2.2.2.2.2.2.2.2.2.1 rfl) ((I.g 32 p0).2.2.2.2.2.2.2.2.2.2.2.2.2.2.2.2.2.2.2.2.2.2.2.2.2.2.1 rfl) (fun j => ((I.g 18 j).2.2.2.2.2.2.2.2.2.2.2.2.2.2.2.2.1 rfl)) (fun j => (((I.g 16 j).2.2.2.2.2.2.2.2.2.2.2.2.2.2.1 rfl)).1) (fun z => if hb : 0 ≤ σ 36 p0 ∧ σ 36 p0 < σ 23 0 then sHouse_in I.r ((I.g 18 (σ 36 p0)).2.2.2.2.2.2.2.2.2.2.2.2.2.2.2.2.1 rfl) hb z else absurd (show sHouse σ (σ 36 p0) (σ 32 p0) < 0 by rw [sHouse_z (by rw [I.z18 _ (by omega)]; decide)]; decide) z) (fun j => ((I.g 22 j).2.2.2.2.2.2.2.2.2.2.2.2.2.2.2.2.2.2.2.2.1 rfl)) (fun j => ((I.g 20 j).2.2.2.2.2.2.2.2.2.2.2.2.2.2.2.2.2.2.1 rfl)) (fun x y z j => ⟨(((I.g 19 j).2.2.2.2.2.2.2.2.2.2.2.2.2.2.2.2.2.1 rfl)).1, by have h1 := I.r.2.2.2.2 p0 x y z; exact (I.h19 j).elim id (fun h2 => by have := I.h23 (by omega); omega)⟩)) (by unfold oneC; (repeat' split) <;> omega) (fun hC v la' τ hp => ?_)
  obtain ⟨rfl, rfl, hx9⟩ := hp
  have st := I.same hn (fun f hf => by
    simp only [Bool.and_eq_true, bne_iff_ne, ne_eq] at hf
    exact hx9 f hf.1.1.1 hf.1.1.2)
  refine ⟨_, rfl, ⟨rfl, trivial⟩, ⟨rfl, fun L hL => hcp L ?_⟩, st.nzE⟩
  have h2 : 0 ≤ L ∧ L < 5 + 2 * τ 23 0 := hL
  rw [st.2 23 (by decide) (by decide) (by decide) (by decide)] at h2
  exact h2
theorem wr_share (l : Launch) (hlt : l.stackTraces = false) (D : va_G) (cy : Nat → ClassId) (d0 : Nat) (A : Nat → Prop) (la : Nat → Int → Nat) (σ : MS) {a : Nat} {p0 p1 : Int} (h0 : -2147483648 ≤ p0 ∧ p0 < 2147483648) (h1 : -2147483648 ≤ p1 ∧ p1 < 2147483648) {n : Int} (I : cInv n σ) (hn : n + 1 ≤ 600) (hW : cW σ) (hcp : ∀ L, cLive la σ 11 L → la 19 L ≤ 1000) (hna : ¬ A a) : LW l yL_share wsL_share ({ frames := 9, cells := 16, slots := 256, locals := 170 } : Room) D cy d0 A [.ref (la 0 0), .int (iI p0), .int (iI p1), .ref a] la σ a (shareC σ p0 p1) (fun r la' τ => (r = sShr σ p0 p1 ∧ True) ∧ (la' 0 0 = la 0 0 ∧ ∀ L, cLive la' τ 11 L → la' 19 L ≤ 1000) ∧ iStp n (σ) (nz τ)) 16 256 := by
  have h5n := ((I.g 5 0).2.1 rfl)
  have h11n := ((I.g 11 0).2.2.1 rfl)
  have h23n := ((I.g 23 0).2.2.2.1 rfl)
  have h27n := ((I.g 27 0).2.2.2.2.1 rfl)
  have h45n := ((I.g 45 0).2.2.2.2.2.1 rfl)
  have h1n := ((I.g 1 0).1 rfl)
  refine lw_share l D cy d0 A la σ hna (c_p_share l hlt D cy d0 A la σ (t := p0) (h := p1) h0 h1 (by omega) (by omega) (by omega) (by omega) (by omega) I.lg (by omega) (I.t40 p0) (I.r.2.2.2.2 p0) ((I.g 42 p0).2.2.2.2.2.2.2.2.2.2.2.2.2.2.2.2.2.2.2.2.2.2.2.2.2.2.2.2.2.2.2.2.2.1 rfl) ((I.g 43 p0).2.2.2.2.2.2.2.2.2.2.2.2.2.2.2.2.2.2.2.2.2.2.2.2.2.2.2.2.2.2.2.2.2.2.1 rfl) ((I.g 39 p0).2.2.2.2.2.2.2.2.2.2.2.2.2.2.2.2.2.2.2.2.2.2.2.2.2.2.2.2.2.2.2.2.1 rfl) ((I.g 32 p0).2.2.2.2.2.2.2.2.2.2.2.2.2.2.2.2.2.2.2.2.2.2.2.2.2.2.1 rfl) (fun j => ((I.g 18 j).2.2.2.2.2.2.2.2.2.2.2.2.2.2.2.2.1 rfl)) (fun j => (((I.g 16 j).2.2.2.2.2.2.2.2.2.2.2.2.2.2.1 rfl)).1) (fun z => if hb : 0 ≤ σ 36 p0 ∧ σ 36 p0 < σ 23 0 then sHouse_in I.r ((I.g 18 (σ 36 p0)).2.2.2.2.2.2.2.2.2.2.2.2.2.2.2.2.1 rfl) hb z else absurd (show sHouse σ (σ 36 p0) (σ 32 p0) < 0 by rw [sHouse_z (by rw [I.z18 _ (by omega)]; decide)]; decide) z) (fun j => ((I.g 22 j).2.2.2.2.2.2.2.2.2.2.2.2.2.2.2.2.2.2.2.2.1 rfl)) (fun j => ((I.g 20 j).2.2.2.2.2.2.2.2.2.2.2.2.2.2.2.2.2.2.1 rfl)) (fun x y z j => ⟨(((I.g 19 j).2.2.2.2.2.2.2.2.2.2.2.2.2.2.2.2.2.1 rfl)).1, by have h1 := I.r.2.2.2.2 p0 x y z; exact (I.h19 j).elim id (fun h2 => by have := I.h23 (by omega); omega)⟩)) (by unfold shareC; (repeat' split) <;> omega) (fun hC v la' τ hp => ?_)
  obtain ⟨rfl, rfl, hx9⟩ := hp
  have st := I.same hn (fun f hf => by
    simp only [Bool.and_eq_true, bne_iff_ne, ne_eq] at hf
    exact hx9 f hf.1.1.1 hf.1.1.2)
  refine ⟨_, rfl, ⟨rfl, trivial⟩, ⟨rfl, fun L hL => hcp L ?_⟩, st.nzE⟩
  have h2 : 0 ≤ L ∧ L < 5 + 2 * τ 23 0 := hL
  rw [st.2 23 (by decide) (by decide) (by decide) (by decide)] at h2
  exact h2
