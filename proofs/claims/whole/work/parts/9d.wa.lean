theorem wr_street (l : Launch) (hlt : l.stackTraces = false) (D : va_G) (cy : Nat → ClassId) (d0 : Nat) (A : Nat → Prop) (la : Nat → Int → Nat) (σ : MS) {a : Nat}  {n : Int} (I : cInv n σ) (hn : n + 1 ≤ 600) (hW : cW σ) (hcp : ∀ L, cLive la σ 11 L → la 19 L ≤ 1000) (hna : ¬ A a) : LW l yL_street wsL_street ({ frames := 8, cells := 24, slots := 2100, locals := 281 } : Room) D cy d0 A [.ref (la 0 0), .ref a] la σ a (streetC σ) (fun r la' τ => (r = σ 5 0 ∧ (-2147483648 ≤ r ∧ r < 2147483648)) ∧ (la' 0 0 = la 0 0 ∧ ∀ L, cLive la' τ 11 L → la' 19 L ≤ 1000) ∧ iStp n (streetS σ) (nz τ)) 24 2100 := by
  have h5n := ((I.g 5 0).2.1 rfl)
  have h11n := ((I.g 11 0).2.2.1 rfl)
  have h23n := ((I.g 23 0).2.2.2.1 rfl)
  have h27n := ((I.g 27 0).2.2.2.2.1 rfl)
  have h45n := ((I.g 45 0).2.2.2.2.2.1 rfl)
  have h1n := ((I.g 1 0).1 rfl)
  refine lw_street l D cy d0 A la σ hna (c_p_street l hlt D cy d0 A la σ   (by omega) (by omega) (by omega) (by omega) (by omega) I.lg I.r (fun L => by have h1 := I.mc L; have h2 := I.n0; omega) hcp (by omega) (fun j hj => (I.z3 j hj).1) (fun j hj => (I.z3 j hj).2)) (by unfold streetC; (repeat' split) <;> omega) (fun hC v la' τ hp => ?_)
  obtain ⟨rfl, hla, rfl⟩ := hp
  have st := st_street I hn hC
  exact ⟨_, rfl, ⟨by omega, by omega⟩, ⟨rfl, ⟨by omega, by omega⟩⟩, hla, st.nzE⟩
theorem wr_house (l : Launch) (hlt : l.stackTraces = false) (D : va_G) (cy : Nat → ClassId) (d0 : Nat) (A : Nat → Prop) (la : Nat → Int → Nat) (σ : MS) {a : Nat} {p0 : Int} (h0 : -2147483648 ≤ p0 ∧ p0 < 2147483648) {n : Int} (I : cInv n σ) (hn : n + 1 ≤ 600) (hW : cW σ) (hcp : ∀ L, cLive la σ 11 L → la 19 L ≤ 1000) (hna : ¬ A a) : LW l yL_house wsL_house ({ frames := 9, cells := 24, slots := 2100, locals := 284 } : Room) D cy d0 A [.ref (la 0 0), .int (iI p0), .ref a] la σ a (houseC σ p0) (fun r la' τ => (r = σ 11 0 ∧ (-2147483648 ≤ r ∧ r < 2147483648)) ∧ (la' 0 0 = la 0 0 ∧ ∀ L, cLive la' τ 11 L → la' 19 L ≤ 1000) ∧ iStp n (houseS σ p0) (nz τ)) 24 2100 := by
  have h5n := ((I.g 5 0).2.1 rfl)
  have h11n := ((I.g 11 0).2.2.1 rfl)
  have h23n := ((I.g 23 0).2.2.2.1 rfl)
  have h27n := ((I.g 27 0).2.2.2.2.1 rfl)
  have h45n := ((I.g 45 0).2.2.2.2.2.1 rfl)
  have h1n := ((I.g 1 0).1 rfl)
  refine lw_house l D cy d0 A la σ hna (c_p_house l hlt D cy d0 A la σ (st := p0) h0 (by omega) (by omega) (by omega) (by omega) (by omega) I.lg I.r (fun L => by have h1 := I.mc L; have h2 := I.n0; omega) hcp (by omega) (fun j hj => (I.z7 j hj).1) (fun j hj => (I.z7 j hj).2.1) (fun j hj => (I.z7 j hj).2.2.1) (fun j hj => (I.z7 j hj).2.2.2)) (by unfold houseC; (repeat' split) <;> omega) (fun hC v la' τ hp => ?_)
  obtain ⟨rfl, hla, rfl⟩ := hp
  have st := st_house I hn (fun t => hW.2 40 t rfl) hC
  exact ⟨_, rfl, ⟨by omega, by omega⟩, ⟨rfl, ⟨by omega, by omega⟩⟩, hla, st.nzE⟩
theorem wr_cart (l : Launch) (hlt : l.stackTraces = false) (D : va_G) (cy : Nat → ClassId) (d0 : Nat) (A : Nat → Prop) (la : Nat → Int → Nat) (σ : MS) {a : Nat} {p0 : Int} (h0 : -2147483648 ≤ p0 ∧ p0 < 2147483648) {n : Int} (I : cInv n σ) (hn : n + 1 ≤ 600) (hW : cW σ) (hcp : ∀ L, cLive la σ 11 L → la 19 L ≤ 1000) (hna : ¬ A a) : LW l yL_cart wsL_cart ({ frames := 8, cells := 24, slots := 2100, locals := 283 } : Room) D cy d0 A [.ref (la 0 0), .int (iI p0), .ref a] la σ a (cartC σ p0) (fun r la' τ => (r = σ 27 0 ∧ (-2147483648 ≤ r ∧ r < 2147483648)) ∧ (la' 0 0 = la 0 0 ∧ ∀ L, cLive la' τ 11 L → la' 19 L ≤ 1000) ∧ iStp n (cartS σ p0) (nz τ)) 24 2100 := by
  have h5n := ((I.g 5 0).2.1 rfl)
  have h11n := ((I.g 11 0).2.2.1 rfl)
  have h23n := ((I.g 23 0).2.2.2.1 rfl)
  have h27n := ((I.g 27 0).2.2.2.2.1 rfl)
  have h45n := ((I.g 45 0).2.2.2.2.2.1 rfl)
  have h1n := ((I.g 1 0).1 rfl)
  refine lw_cart l D cy d0 A la σ hna (c_p_cart l hlt D cy d0 A la σ (lm := p0) h0 (by omega) (by omega) (by omega) (by omega) (by omega) I.lg I.r (fun L => by have h1 := I.mc L; have h2 := I.n0; omega) hcp (by omega) I.z25) (by unfold cartC; (repeat' split) <;> omega) (fun hC v la' τ hp => ?_)
  obtain ⟨rfl, hla, rfl⟩ := hp
  have st := st_cart I hn hC
  exact ⟨_, rfl, ⟨by omega, by omega⟩, ⟨rfl, ⟨by omega, by omega⟩⟩, hla, st.nzE⟩
theorem wr_move (l : Launch) (hlt : l.stackTraces = false) (D : va_G) (cy : Nat → ClassId) (d0 : Nat) (A : Nat → Prop) (la : Nat → Int → Nat) (σ : MS) {a : Nat} {p0 p1 p2 : Int} (h0 : -2147483648 ≤ p0 ∧ p0 < 2147483648) (h1 : -2147483648 ≤ p1 ∧ p1 < 2147483648) (h2 : -2147483648 ≤ p2 ∧ p2 < 2147483648) {n : Int} (I : cInv n σ) (hn : n + 1 ≤ 600) (hW : cW σ) (hcp : ∀ L, cLive la σ 11 L → la 19 L ≤ 1000) (hna : ¬ A a) : LW l yL_move wsL_move ({ frames := 9, cells := 24, slots := 2100, locals := 286 } : Room) D cy d0 A [.ref (la 0 0), .int (iI p0), .int (iI p1), .int (iI p2), .ref a] la σ a (moveC σ p0 p1 p2) (fun r la' τ => (r = σ 18 p0 + 1 ∧ (-2147483648 ≤ r ∧ r < 2147483648)) ∧ (la' 0 0 = la 0 0 ∧ ∀ L, cLive la' τ 11 L → la' 19 L ≤ 1000) ∧ iStp n (moveS σ p0 p1 p2) (nz τ)) 24 2100 := by
  have h5n := ((I.g 5 0).2.1 rfl)
  have h11n := ((I.g 11 0).2.2.1 rfl)
  have h23n := ((I.g 23 0).2.2.2.1 rfl)
  have h27n := ((I.g 27 0).2.2.2.2.1 rfl)
  have h45n := ((I.g 45 0).2.2.2.2.2.1 rfl)
  have h1n := ((I.g 1 0).1 rfl)
  refine lw_move l D cy d0 A la σ hna (c_p_move l hlt D cy d0 A la σ (b := p0) (h := p1) (d := p2) h0 h1 h2 (by omega) (by omega) (by omega) (by omega) (by omega) I.lg I.r (fun L => by have h1 := I.mc L; have h2 := I.n0; omega) hcp (fun j => ((I.g 18 j).2.2.2.2.2.2.2.2.2.2.2.2.2.2.2.2.1 rfl)) (fun j => ((I.g 22 j).2.2.2.2.2.2.2.2.2.2.2.2.2.2.2.2.2.2.2.2.1 rfl)) (fun j => ((I.g 18 j).2.2.2.2.2.2.2.2.2.2.2.2.2.2.2.2.1 rfl)) (fun j => ((I.g 22 j).2.2.2.2.2.2.2.2.2.2.2.2.2.2.2.2.2.2.2.2.1 rfl)) h1n (fun b x y => (I.bin b x y).1)) (by unfold moveC; (repeat' split) <;> omega) (fun hC v la' τ hp => ?_)
  obtain ⟨rfl, hla, rfl⟩ := hp
  have st := st_move I hn (fun t => hW.2 40 t rfl) hC
  exact ⟨_, rfl, (by have h := ((I.g 18 p0).2.2.2.2.2.2.2.2.2.2.2.2.2.2.2.2.1 rfl); omega), ⟨rfl, (by have h := ((I.g 18 p0).2.2.2.2.2.2.2.2.2.2.2.2.2.2.2.2.1 rfl); omega)⟩, hla, st.nzE⟩
theorem wr_part (l : Launch) (hlt : l.stackTraces = false) (D : va_G) (cy : Nat → ClassId) (d0 : Nat) (A : Nat → Prop) (la : Nat → Int → Nat) (σ : MS) {a : Nat} {p0 p1 p2 p3 : Int} (h0 : -2147483648 ≤ p0 ∧ p0 < 2147483648) (h1 : -2147483648 ≤ p1 ∧ p1 < 2147483648) (h2 : -2147483648 ≤ p2 ∧ p2 < 2147483648) (h3 : -2147483648 ≤ p3 ∧ p3 < 2147483648) {n : Int} (I : cInv n σ) (hn : n + 1 ≤ 600) (hW : cW σ) (hcp : ∀ L, cLive la σ 11 L → la 19 L ≤ 1000) (hna : ¬ A a) : LW l yL_part wsL_part ({ frames := 9, cells := 24, slots := 2100, locals := 287 } : Room) D cy d0 A [.ref (la 0 0), .int (iI p0), .int (iI p1), .int (iI p2), .int (iI p3), .ref a] la σ a (partC σ p0 p1 p2 p3) (fun r la' τ => (r = σ 22 p0 + 1 ∧ (-2147483648 ≤ r ∧ r < 2147483648)) ∧ (la' 0 0 = la 0 0 ∧ ∀ L, cLive la' τ 11 L → la' 19 L ≤ 1000) ∧ iStp n (partS σ p0 p1 p2 p3) (nz τ)) 24 2100 := by
  have h5n := ((I.g 5 0).2.1 rfl)
  have h11n := ((I.g 11 0).2.2.1 rfl)
  have h23n := ((I.g 23 0).2.2.2.1 rfl)
  have h27n := ((I.g 27 0).2.2.2.2.1 rfl)
  have h45n := ((I.g 45 0).2.2.2.2.2.1 rfl)
  have h1n := ((I.g 1 0).1 rfl)
  refine lw_part l D cy d0 A la σ hna (c_p_part l hlt D cy d0 A la σ (b := p0) (h := p1) (wt := p2) (d := p3) h0 h1 h2 h3 (by omega) (by omega) (by omega) (by omega) (by omega) I.lg I.r (fun L => by have h1 := I.mc L; have h2 := I.n0; omega) hcp (fun j => ((I.g 18 j).2.2.2.2.2.2.2.2.2.2.2.2.2.2.2.2.1 rfl)) (fun j => ((I.g 22 j).2.2.2.2.2.2.2.2.2.2.2.2.2.2.2.2.2.2.2.2.1 rfl)) (fun j => ((I.g 18 j).2.2.2.2.2.2.2.2.2.2.2.2.2.2.2.2.1 rfl)) (fun j => ((I.g 22 j).2.2.2.2.2.2.2.2.2.2.2.2.2.2.2.2.2.2.2.2.1 rfl)) h1n) (by unfold partC; (repeat' split) <;> omega) (fun hC v la' τ hp => ?_)
  obtain ⟨rfl, hla, rfl⟩ := hp
  have st := st_part I hn (fun t => hW.2 40 t rfl) hC
  exact ⟨_, rfl, (by have h := ((I.g 22 p0).2.2.2.2.2.2.2.2.2.2.2.2.2.2.2.2.2.2.2.2.1 rfl); omega), ⟨rfl, (by have h := ((I.g 22 p0).2.2.2.2.2.2.2.2.2.2.2.2.2.2.2.2.2.2.2.2.1 rfl); omega)⟩, hla, st.nzE⟩
theorem wr_bin (l : Launch) (hlt : l.stackTraces = false) (D : va_G) (cy : Nat → ClassId) (d0 : Nat) (A : Nat → Prop) (la : Nat → Int → Nat) (σ : MS) {a : Nat} {p0 p1 p2 : Int} (h0 : -2147483648 ≤ p0 ∧ p0 < 2147483648) (h1 : -2147483648 ≤ p1 ∧ p1 < 2147483648) (h2 : -2147483648 ≤ p2 ∧ p2 < 2147483648) {n : Int} (I : cInv n σ) (hn : n + 1 ≤ 600) (hW : cW σ) (hcp : ∀ L, cLive la σ 11 L → la 19 L ≤ 1000) (hna : ¬ A a) : LW l yL_bin wsL_bin ({ frames := 9, cells := 24, slots := 2100, locals := 286 } : Room) D cy d0 A [.ref (la 0 0), .int (iI p0), .int (iI p1), .int (iI p2), .ref a] la σ a (binC σ p0 p1) (fun r la' τ => (r = σ 23 0 ∧ (-2147483648 ≤ r ∧ r < 2147483648)) ∧ (la' 0 0 = la 0 0 ∧ ∀ L, cLive la' τ 11 L → la' 19 L ≤ 1000) ∧ iStp n (binS σ p0 p1 p2) (nz τ)) 24 2100 := by
  have h5n := ((I.g 5 0).2.1 rfl)
  have h11n := ((I.g 11 0).2.2.1 rfl)
  have h23n := ((I.g 23 0).2.2.2.1 rfl)
  have h27n := ((I.g 27 0).2.2.2.2.1 rfl)
  have h45n := ((I.g 45 0).2.2.2.2.2.1 rfl)
  have h1n := ((I.g 1 0).1 rfl)
  refine lw_bin l D cy d0 A la σ hna (c_p_bin l hlt D cy d0 A la σ (kd := p0) (h := p1) (mk := p2) h0 h1 h2 (by omega) (by omega) (by omega) (by omega) (by omega) I.lg I.r (fun L => by have h1 := I.mc L; have h2 := I.n0; omega) hcp (by omega) (fun j => ((I.g 18 j).2.2.2.2.2.2.2.2.2.2.2.2.2.2.2.2.1 rfl)) (fun j => ((I.g 22 j).2.2.2.2.2.2.2.2.2.2.2.2.2.2.2.2.2.2.2.2.1 rfl)) h1n (I.z22 _ (Int.le_refl _)).1 (fun j hj => (I.z22 j hj).2)) (by unfold binC; (repeat' split) <;> omega) (fun hC v la' τ hp => ?_)
  obtain ⟨rfl, hla, rfl⟩ := hp
  have st := st_bin (mk := p2) I hn (fun t => hW.2 40 t rfl) hC
  exact ⟨_, rfl, ⟨by omega, by omega⟩, ⟨rfl, ⟨by omega, by omega⟩⟩, hla, st.nzE⟩
theorem wr_tip (l : Launch) (hlt : l.stackTraces = false) (D : va_G) (cy : Nat → ClassId) (d0 : Nat) (A : Nat → Prop) (la : Nat → Int → Nat) (σ : MS) {a : Nat} {p0 p1 p2 : Int} (h0 : -2147483648 ≤ p0 ∧ p0 < 2147483648) (h1 : -2147483648 ≤ p1 ∧ p1 < 2147483648) (h2 : -2147483648 ≤ p2 ∧ p2 < 2147483648) {n : Int} (I : cInv n σ) (hn : n + 1 ≤ 600) (hW : cW σ) (hcp : ∀ L, cLive la σ 11 L → la 19 L ≤ 1000) (hna : ¬ A a) : LW l yL_tip wsL_tip ({ frames := 9, cells := 24, slots := 2100, locals := 286 } : Room) D cy d0 A [.ref (la 0 0), .int (iI p0), .int (iI p1), .int (iI p2), .ref a] la σ a (tipC σ p0 p2) (fun r la' τ => (r = σ 45 0 ∧ (-2147483648 ≤ r ∧ r < 2147483648)) ∧ (la' 0 0 = la 0 0 ∧ ∀ L, cLive la' τ 11 L → la' 19 L ≤ 1000) ∧ iStp n (tipS σ p0 p1 p2) (nz τ)) 24 2100 := by
  have h5n := ((I.g 5 0).2.1 rfl)
  have h11n := ((I.g 11 0).2.2.1 rfl)
  have h23n := ((I.g 23 0).2.2.2.1 rfl)
  have h27n := ((I.g 27 0).2.2.2.2.1 rfl)
  have h45n := ((I.g 45 0).2.2.2.2.2.1 rfl)
  have h1n := ((I.g 1 0).1 rfl)
  refine lw_tip l D cy d0 A la σ hna (c_p_tip l hlt D cy d0 A la σ (q := p0) (mk := p1) (g := p2) h0 h1 h2 (by omega) (by omega) (by omega) (by omega) (by omega) I.lg I.r (fun L => by have h1 := I.mc L; have h2 := I.n0; omega) hcp (by omega) (by omega) h1n (fun t _ _ => ((I.g 35 t).2.2.2.2.2.2.2.2.2.2.2.2.2.2.2.2.2.2.2.2.2.2.2.2.2.2.2.2.1 rfl)) (fun q => ⟨(((I.g 25 q).2.2.2.2.2.2.2.2.2.2.2.2.2.2.2.2.2.2.2.2.2.2.1 rfl)).1, by have h1 := ((I.g 25 q).2.2.2.2.2.2.2.2.2.2.2.2.2.2.2.2.2.2.2.2.2.2.1 rfl); have h2 := I.n0; omega⟩) (I.z39 _ (Int.le_refl _))) (by unfold tipC; (repeat' split) <;> omega) (fun hC v la' τ hp => ?_)
  obtain ⟨rfl, hla, hx9⟩ := hp
  have st := st_tip I hn (fun t => hW.2 40 t rfl) hC hx9
  exact ⟨_, rfl, ⟨by omega, by omega⟩, ⟨rfl, ⟨by omega, by omega⟩⟩, hla, st.nzE⟩
