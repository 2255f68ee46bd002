theorem wr_round (l : Launch) (hlt : l.stackTraces = false) (D : va_G) (cy : Nat → ClassId) (d0 : Nat) (A : Nat → Prop) (la : Nat → Int → Nat) (σ : MS) {p0 p1 p2 p3 : Int} (h0 : -2147483648 ≤ p0 ∧ p0 < 2147483648) (h1 : -2147483648 ≤ p1 ∧ p1 < 2147483648) (h2 : -2147483648 ≤ p2 ∧ p2 < 2147483648) (h3 : -2147483648 ≤ p3 ∧ p3 < 2147483648) {n : Int} (I : cInv n σ) (hn : n + 1 ≤ 600) (hW : cW σ) (hcp : ∀ L, cLive la σ 11 L → la 19 L ≤ 1000) : LV l yL_round wsL_round ({ frames := 9, cells := 16, slots := 256, locals := 154 } : Room) D cy d0 A [.ref (la 0 0), .int (iI p0), .int (iI p1), .int (iI p2), .int (iI p3)] la σ (roundC σ p0 p1 p2 p3) (fun la' τ => (la' 0 0 = la 0 0 ∧ ∀ L, cLive la' τ 11 L → la' 19 L ≤ 1000) ∧ iStp n (roundS σ p0 p1 p2 p3) (nz τ)) 16 256 := by
  have h5n := ((I.g 5 0).2.1 rfl)
  have h11n := ((I.g 11 0).2.2.1 rfl)
  have h23n := ((I.g 23 0).2.2.2.1 rfl)
  have h27n := ((I.g 27 0).2.2.2.2.1 rfl)
  have h45n := ((I.g 45 0).2.2.2.2.2.1 rfl)
  have h1n := ((I.g 1 0).1 rfl)
  refine lw_round l D cy d0 A la σ (c_p_round l hlt D cy d0 A la σ (st := p0) (g := p1) (wd := p2) (wk := p3) h0 h1 h2 h3 (by omega) (by omega) (by omega) (by omega) (by omega) I.lg ) (by unfold roundC; (repeat' split) <;> omega) (fun hC v la' τ hp => ?_)
  obtain ⟨rfl, rfl, rfl, -⟩ := hp
  have st := st_round I hn hC
  refine ⟨rfl, ⟨rfl, fun L hL => hcp L ?_⟩, st.nzE⟩
  have h2 : 0 ≤ L ∧ L < 5 + 2 * (roundS σ p0 p1 p2 p3) 23 0 := hL
  have h3 : (roundS σ p0 p1 p2 p3) 23 0 = σ 23 0 := by unfold roundS; simp [up_rd]
  rw [h3] at h2
  exact h2
theorem wr_table (l : Launch) (hlt : l.stackTraces = false) (D : va_G) (cy : Nat → ClassId) (d0 : Nat) (A : Nat → Prop) (la : Nat → Int → Nat) (σ : MS) {p0 p1 p2 : Int} (h0 : -2147483648 ≤ p0 ∧ p0 < 2147483648) (h1 : -2147483648 ≤ p1 ∧ p1 < 2147483648) (h2 : -2147483648 ≤ p2 ∧ p2 < 2147483648) {n : Int} (I : cInv n σ) (hn : n + 1 ≤ 600) (hW : cW σ) (hcp : ∀ L, cLive la σ 11 L → la 19 L ≤ 1000) : LV l yL_table wsL_table ({ frames := 8, cells := 16, slots := 256, locals := 130 } : Room) D cy d0 A [.ref (la 0 0), .int (iI p0), .int (iI p1), .int (iI p2)] la σ (tableC p0 p1 p2) (fun la' τ => (la' 0 0 = la 0 0 ∧ ∀ L, cLive la' τ 11 L → la' 19 L ≤ 1000) ∧ iStp n (tableS σ p0 p1 p2) (nz τ)) 16 256 := by
  have h5n := ((I.g 5 0).2.1 rfl)
  have h11n := ((I.g 11 0).2.2.1 rfl)
  have h23n := ((I.g 23 0).2.2.2.1 rfl)
  have h27n := ((I.g 27 0).2.2.2.2.1 rfl)
  have h45n := ((I.g 45 0).2.2.2.2.2.1 rfl)
  have h1n := ((I.g 1 0).1 rfl)
  refine lw_table l D cy d0 A la σ (c_p_table l hlt D cy d0 A la σ (k := p0) (lf := p1) (rt := p2) h0 h1 h2 (by omega) (by omega) (by omega) (by omega) (by omega) I.lg ) (by unfold tableC; (repeat' split) <;> omega) (fun hC v la' τ hp => ?_)
  obtain ⟨rfl, rfl, rfl, -⟩ := hp
  have st := st_table I hn hC
  refine ⟨rfl, ⟨rfl, fun L hL => hcp L ?_⟩, st.nzE⟩
  have h2 : 0 ≤ L ∧ L < 5 + 2 * (tableS σ p0 p1 p2) 23 0 := hL
  have h3 : (tableS σ p0 p1 p2) 23 0 = σ 23 0 := by unfold tableS; simp [up_rd]
  rw [h3] at h2
  exact h2
theorem wr_terms (l : Launch) (hlt : l.stackTraces = false) (D : va_G) (cy : Nat → ClassId) (d0 : Nat) (A : Nat → Prop) (la : Nat → Int → Nat) (σ : MS) {p0 p1 : Int} (h0 : -2147483648 ≤ p0 ∧ p0 < 2147483648) (h1 : -2147483648 ≤ p1 ∧ p1 < 2147483648) {n : Int} (I : cInv n σ) (hn : n + 1 ≤ 600) (hW : cW σ) (hcp : ∀ L, cLive la σ 11 L → la 19 L ≤ 1000) : LV l yL_terms wsL_terms ({ frames := 8, cells := 16, slots := 256, locals := 129 } : Room) D cy d0 A [.ref (la 0 0), .int (iI p0), .int (iI p1)] la σ (termsC p0 p1) (fun la' τ => (la' 0 0 = la 0 0 ∧ ∀ L, cLive la' τ 11 L → la' 19 L ≤ 1000) ∧ iStp n (termsS σ p0 p1) (nz τ)) 16 256 := by
  have h5n := ((I.g 5 0).2.1 rfl)
  have h11n := ((I.g 11 0).2.2.1 rfl)
  have h23n := ((I.g 23 0).2.2.2.1 rfl)
  have h27n := ((I.g 27 0).2.2.2.2.1 rfl)
  have h45n := ((I.g 45 0).2.2.2.2.2.1 rfl)
  have h1n := ((I.g 1 0).1 rfl)
  refine lw_terms l D cy d0 A la σ (c_p_terms l hlt D cy d0 A la σ (pr := p0) (tl := p1) h0 h1 (by omega) (by omega) (by omega) (by omega) (by omega) I.lg ) (by unfold termsC; (repeat' split) <;> omega) (fun hC v la' τ hp => ?_)
  obtain ⟨rfl, rfl, rfl, -⟩ := hp
  have st := st_terms I hn hC
  refine ⟨rfl, ⟨rfl, fun L hL => hcp L ?_⟩, st.nzE⟩
  have h2 : 0 ≤ L ∧ L < 5 + 2 * (termsS σ p0 p1) 23 0 := hL
  have h3 : (termsS σ p0 p1) 23 0 = σ 23 0 := by unfold termsS; simp [up_rd]
  rw [h3] at h2
  exact h2
theorem wr_lost (l : Launch) (hlt : l.stackTraces = false) (D : va_G) (cy : Nat → ClassId) (d0 : Nat) (A : Nat → Prop) (la : Nat → Int → Nat) (σ : MS) {a : Nat} {p0 : Int} (h0 : -2147483648 ≤ p0 ∧ p0 < 2147483648) {n : Int} (I : cInv n σ) (hn : n + 1 ≤ 600) (hW : cW σ) (hcp : ∀ L, cLive la σ 11 L → la 19 L ≤ 1000) (hna : ¬ A a) : LW l yL_lost wsL_lost ({ frames := 9, cells := 16, slots := 256, locals := 152 } : Room) D cy d0 A [.ref (la 0 0), .int (iI p0), .ref a] la σ a (markC σ p0) (fun r la' τ => (r = σ 13 p0 ∧ (r = 0 ∨ r = 1)) ∧ (la' 0 0 = la 0 0 ∧ ∀ L, cLive la' τ 11 L → la' 19 L ≤ 1000) ∧ iStp n (lostS σ p0) (nz τ)) 16 256 := by
  have h5n := ((I.g 5 0).2.1 rfl)
  have h11n := ((I.g 11 0).2.2.1 rfl)
  have h23n := ((I.g 23 0).2.2.2.1 rfl)
  have h27n := ((I.g 27 0).2.2.2.2.1 rfl)
  have h45n := ((I.g 45 0).2.2.2.2.2.1 rfl)
  have h1n := ((I.g 1 0).1 rfl)
  refine lw_lost l D cy d0 A la σ hna (c_p_lost l hlt D cy d0 A la σ (b := p0) h0 (by omega) (by omega) (by omega) (by omega) (by omega) I.lg ) (by unfold markC; (repeat' split) <;> omega) (fun hC v la' τ hp => ?_)
  obtain ⟨rfl, rfl, rfl, -⟩ := hp
  have st := st_lost (b := p0) I hn
  refine ⟨_, rfl, hW.2 13 p0 rfl, ⟨rfl, hW.2 13 p0 rfl⟩, ⟨rfl, fun L hL => hcp L ?_⟩, st.nzE⟩
  have h2 : 0 ≤ L ∧ L < 5 + 2 * (lostS σ p0) 23 0 := hL
  have h3 : (lostS σ p0) 23 0 = σ 23 0 := by unfold lostS; simp [up_rd]
  rw [h3] at h2
  exact h2
theorem wr_pay (l : Launch) (hlt : l.stackTraces = false) (D : va_G) (cy : Nat → ClassId) (d0 : Nat) (A : Nat → Prop) (la : Nat → Int → Nat) (σ : MS) {a : Nat} {p0 p1 : Int} (h0 : -2147483648 ≤ p0 ∧ p0 < 2147483648) (h1 : -9223372036854775808 ≤ p1 ∧ p1 < 9223372036854775808) {n : Int} (I : cInv n σ) (hn : n + 1 ≤ 600) (hW : cW σ) (hcp : ∀ L, cLive la σ 11 L → la 19 L ≤ 1000) (hna : ¬ A a) : LW l yL_pay wsL_pay ({ frames := 9, cells := 16, slots := 256, locals := 153 } : Room) D cy d0 A [.ref (la 0 0), .int (iI p0), .long (lI p1), .ref a] la σ a (payC σ p0 p1) (fun r la' τ => (r = σ 9 p0 - (σ 10 p0 + p1) ∧ True) ∧ (la' 0 0 = la 0 0 ∧ ∀ L, cLive la' τ 11 L → la' 19 L ≤ 1000) ∧ iStp n (payS σ p0 p1) (nz τ)) 16 256 := by
  have h5n := ((I.g 5 0).2.1 rfl)
  have h11n := ((I.g 11 0).2.2.1 rfl)
  have h23n := ((I.g 23 0).2.2.2.1 rfl)
  have h27n := ((I.g 27 0).2.2.2.2.1 rfl)
  have h45n := ((I.g 45 0).2.2.2.2.2.1 rfl)
  have h1n := ((I.g 1 0).1 rfl)
  refine lw_pay l D cy d0 A la σ hna (c_p_pay l hlt D cy d0 A la σ (h := p0) (x := p1) h0 h1 (by omega) (by omega) (by omega) (by omega) (by omega) I.lg ) (by unfold payC; (repeat' split) <;> omega) (fun hC v la' τ hp => ?_)
  obtain ⟨rfl, rfl, rfl, -⟩ := hp
  have st := st_pay I hn hC
  refine ⟨_, rfl, ⟨rfl, trivial⟩, ⟨rfl, fun L hL => hcp L ?_⟩, st.nzE⟩
  have h2 : 0 ≤ L ∧ L < 5 + 2 * (payS σ p0 p1) 23 0 := hL
  have h3 : (payS σ p0 p1) 23 0 = σ 23 0 := by unfold payS; simp [up_rd]
  rw [h3] at h2
  exact h2
theorem wr_mark (l : Launch) (hlt : l.stackTraces = false) (D : va_G) (cy : Nat → ClassId) (d0 : Nat) (A : Nat → Prop) (la : Nat → Int → Nat) (σ : MS) {a : Nat} {p0 p1 : Int} (h0 : -2147483648 ≤ p0 ∧ p0 < 2147483648) (h1 : -2147483648 ≤ p1 ∧ p1 < 2147483648) {n : Int} (I : cInv n σ) (hn : n + 1 ≤ 600) (hW : cW σ) (hcp : ∀ L, cLive la σ 11 L → la 19 L ≤ 1000) (hna : ¬ A a) : LW l yL_mark wsL_mark ({ frames := 9, cells := 16, slots := 256, locals := 152 } : Room) D cy d0 A [.ref (la 0 0), .int (iI p0), .int (iI p1), .ref a] la σ a (markC σ p0) (fun r la' τ => (r = sBear (markS σ p0 p1) p1 ∧ (-2147483648 ≤ r ∧ r < 2147483648)) ∧ (la' 0 0 = la 0 0 ∧ ∀ L, cLive la' τ 11 L → la' 19 L ≤ 1000) ∧ iStp n (markS σ p0 p1) (nz τ)) 16 256 := by
  have h5n := ((I.g 5 0).2.1 rfl)
  have h11n := ((I.g 11 0).2.2.1 rfl)
  have h23n := ((I.g 23 0).2.2.2.1 rfl)
  have h27n := ((I.g 27 0).2.2.2.2.1 rfl)
  have h45n := ((I.g 45 0).2.2.2.2.2.1 rfl)
  have h1n := ((I.g 1 0).1 rfl)
  refine lw_mark l D cy d0 A la σ hna (c_p_mark l hlt D cy d0 A la σ (b := p0) (mk := p1) h0 h1 (by omega) (by omega) (by omega) (by omega) (by omega) I.lg ) (by unfold markC; (repeat' split) <;> omega) (fun hC v la' τ hp => ?_)
  obtain ⟨rfl, rfl, rfl, -⟩ := hp
  have st := st_mark (b := p0) (mk := p1) I hn
  refine ⟨_, rfl, (by
    have h := sBr_r (markS σ p0 p1) p1 (markS σ p0 p1 23 0).toNat
    have h3 : markS σ p0 p1 23 0 = σ 23 0 := by unfold markS; simp [up_rd]
    rw [h3] at h
    unfold sBear
    rw [h3]
    omega), ⟨rfl, (by
    have h := sBr_r (markS σ p0 p1) p1 (markS σ p0 p1 23 0).toNat
    have h3 : markS σ p0 p1 23 0 = σ 23 0 := by unfold markS; simp [up_rd]
    rw [h3] at h
    unfold sBear
    rw [h3]
    omega)⟩, ⟨rfl, fun L hL => hcp L ?_⟩, st.nzE⟩
  have h2 : 0 ≤ L ∧ L < 5 + 2 * (markS σ p0 p1) 23 0 := hL
  have h3 : (markS σ p0 p1) 23 0 = σ 23 0 := by unfold markS; simp [up_rd]
  rw [h3] at h2
  exact h2
theorem wr_charged (l : Launch) (hlt : l.stackTraces = false) (D : va_G) (cy : Nat → ClassId) (d0 : Nat) (A : Nat → Prop) (la : Nat → Int → Nat) (σ : MS) {a : Nat} {p0 : Int} (h0 : -2147483648 ≤ p0 ∧ p0 < 2147483648) {n : Int} (I : cInv n σ) (hn : n + 1 ≤ 600) (hW : cW σ) (hcp : ∀ L, cLive la σ 11 L → la 19 L ≤ 1000) (hna : ¬ A a) : LW l yL_charged wsL_charged ({ frames := 9, cells := 16, slots := 256, locals := 150 } : Room) D cy d0 A [.ref (la 0 0), .int (iI p0), .ref a] la σ a (oneC p0 (σ 11 0)) (fun r la' τ => (r = sChd σ p0 ∧ True) ∧ (la' 0 0 = la 0 0 ∧ ∀ L, cLive la' τ 11 L → la' 19 L ≤ 1000) ∧ iStp n (σ) (nz τ)) 16 256 := by
  have h5n := ((I.g 5 0).2.1 rfl)
  have h11n := ((I.g 11 0).2.2.1 rfl)
  have h23n := ((I.g 23 0).2.2.2.1 rfl)
  have h27n := ((I.g 27 0).2.2.2.2.1 rfl)
  have h45n := ((I.g 45 0).2.2.2.2.2.1 rfl)
  have h1n := ((I.g 1 0).1 rfl)
  refine lw_charged l D cy d0 A la σ hna (c_p_charged l hlt D cy d0 A la σ (h := p0) h0 (by omega) (by omega) (by omega) (by omega) (by omega) I.lg ) (by unfold oneC; (repeat' split) <;> omega) (fun hC v la' τ hp => ?_)
  obtain ⟨rfl, rfl, e9, -⟩ := hp
  rw [e9]
  have hh : 0 ≤ p0 ∧ p0 < σ 11 0 := by
    unfold oneC at hC
    split at hC <;> omega
  have st := I.same hn (fun _ _ => rfl)
  refine ⟨_, rfl, ⟨(I.chd hh).symm, trivial⟩, ⟨rfl, fun L hL => hcp L ?_⟩, st.nzE⟩
  have h2 : 0 ≤ L ∧ L < 5 + 2 * (σ) 23 0 := hL
  have h3 : (σ) 23 0 = σ 23 0 := by first | rfl | (simp [up_rd]; done)
  rw [h3] at h2
  exact h2
theorem wr_bill (l : Launch) (hlt : l.stackTraces = false) (D : va_G) (cy : Nat → ClassId) (d0 : Nat) (A : Nat → Prop) (la : Nat → Int → Nat) (σ : MS) {a : Nat} {p0 : Int} (h0 : -2147483648 ≤ p0 ∧ p0 < 2147483648) {n : Int} (I : cInv n σ) (hn : n + 1 ≤ 600) (hW : cW σ) (hcp : ∀ L, cLive la σ 11 L → la 19 L ≤ 1000) (hna : ¬ A a) : LW l yL_bill wsL_bill ({ frames := 9, cells := 16, slots := 256, locals := 153 } : Room) D cy d0 A [.ref (la 0 0), .int (iI p0), .ref a] la σ a (oneC p0 (σ 11 0)) (fun r la' τ => (r = sChd σ p0 - σ 9 p0 ∧ True) ∧ (la' 0 0 = la 0 0 ∧ ∀ L, cLive la' τ 11 L → la' 19 L ≤ 1000) ∧ iStp n (billS σ p0) (nz τ)) 16 256 := by
  have h5n := ((I.g 5 0).2.1 rfl)
  have h11n := ((I.g 11 0).2.2.1 rfl)
  have h23n := ((I.g 23 0).2.2.2.1 rfl)
  have h27n := ((I.g 27 0).2.2.2.2.1 rfl)
  have h45n := ((I.g 45 0).2.2.2.2.2.1 rfl)
  have h1n := ((I.g 1 0).1 rfl)
  refine lw_bill l D cy d0 A la σ hna (c_p_bill l hlt D cy d0 A la σ (h := p0) h0 (by omega) (by omega) (by omega) (by omega) (by omega) I.lg ) (by unfold oneC; (repeat' split) <;> omega) (fun hC v la' τ hp => ?_)
  obtain ⟨rfl, rfl, rfl, -⟩ := hp
  have hh : 0 ≤ p0 ∧ p0 < σ 11 0 := by
    unfold oneC at hC
    split at hC <;> omega
  have st := st_bill I hn hh
  refine ⟨_, rfl, ⟨(by rw [I.chd hh]), trivial⟩, ⟨rfl, fun L hL => hcp L ?_⟩, st.nzE⟩
  have h2 : 0 ≤ L ∧ L < 5 + 2 * (up σ 9 p0 (σ 9 p0 + (σ 50 p0 + σ 8 p0 - σ 9 p0))) 23 0 := hL
  have h3 : (up σ 9 p0 (σ 9 p0 + (σ 50 p0 + σ 8 p0 - σ 9 p0))) 23 0 = σ 23 0 := by first | rfl | (simp [up_rd]; done)
  rw [h3] at h2
  exact h2
