theorem wr_gate (l : Launch) (hlt : l.stackTraces = false) (D : va_G) (cy : Nat → ClassId) (d0 : Nat) (A : Nat → Prop) (la : Nat → Int → Nat) (σ : MS) {p0 p1 : Int} (h0 : -2147483648 ≤ p0 ∧ p0 < 2147483648) (h1 : -2147483648 ≤ p1 ∧ p1 < 2147483648) {n : Int} (I : cInv n σ) (hn : n + 1 ≤ 600) (hcp : ∀ L, cLive la σ 11 L → la 19 L ≤ 1000) : LV l yL_gate wsL_gate ({ frames := 9, cells := 16, slots := 256, locals := 152 } : Room) D cy d0 A [.ref (la 0 0), .int (iI p0), .int (iI p1)] la σ (gateC σ p0 p1) (fun la' τ => (la' 0 0 = la 0 0 ∧ ∀ L, cLive la' τ 11 L → la' 19 L ≤ 1000) ∧ iStp n (gateS σ p0 p1) (nz τ)) 16 256 := by
  have h5 := ((I.g 5 0).2.1 rfl)
  have h11 := ((I.g 11 0).2.2.1 rfl)
  have h23 := ((I.g 23 0).2.2.2.1 rfl)
  have h27 := ((I.g 27 0).2.2.2.2.1 rfl)
  have h45 := ((I.g 45 0).2.2.2.2.2.1 rfl)
  refine lw_gate l D cy d0 A la σ (c_p_gate l hlt D cy d0 A la σ (q := p0) (h := p1) h0 h1 (by omega) (by omega) (by omega) (by omega) (by omega) I.lg) (by unfold gateC; (repeat' split) <;> omega) (fun hC v la' τ hp => ?_)
  obtain ⟨rfl, rfl, rfl, -⟩ := hp
  have st := st_gate I hn hC
  refine ⟨rfl, ⟨rfl, fun L hL => hcp L ?_⟩, st.nzE⟩
  have h2 : 0 ≤ L ∧ L < 5 + 2 * gateS σ p0 p1 23 0 := hL
  rw [st.2 23 (by decide) (by decide) (by decide) (by decide)] at h2
  exact h2
