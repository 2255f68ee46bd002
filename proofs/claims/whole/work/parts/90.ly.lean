section LYW
variable {p : Program} {l : Launch} {e : Env} {R : Room} {s : State} {m : MethodId} {args : Array Value} {below : List Frame} {meth : Method} {c : Code} {H : Heap} {locs : List Loc} {cells slots : Nat} {Q : State → Prop}
variable {cc : ByteArray} {pc : Nat} {ls : Array Slot} {rest st : List Value} {nL : Nat} {lv : List (Nat × Value)} {Ts : List Cond} {D : va_G} {cy : Nat → ClassId} {d0 : Nat} {A A9 : Nat → Prop} {la : Nat → Int → Nat} {σ : MS} {o a : Nat} {ad : Nat → Nat}
theorem ly_run {H1 : Heap} {L : List Loc} (hS : va_S A9 s.heap H locs) (hA : ∀ z, A z → A9 z) (hz : H.size ≤ H1.size) (hk : ∀ q : Nat, q < H.size → ¬ A q → H1[q]? = H[q]?) (hL : ∀ q ∈ L, A q.base) : va_S A9 s.heap H1 (locs ++ L) :=
  cRun hS hz (fun q h1 h2 => hk q h1 (fun z => h2 (hA q z))) (fun q h => hA _ (hL q h))
/-- the law calls a wrapper -/
theorem ly_w {y : MethodName} {bytes : ByteArray} {maxL n index mc ms : Nat} {hh : List (Nat × Nat × Nat × Nat)} {wsy : List Cond} {rm : Room} {av : List Value} {C : Int} {P : Int → (Nat → Int → Nat) → MS → Prop} (E : cE p s m args c cc nL RL Ts D cy) (hK : cK D cy d0 A s H) (hC : CP D cy d0 A la σ H) (hN : cNc s) (ho : outA cy a H) (hS : va_S A9 s.heap H locs) (hA : ∀ z, lAW A a z → A9 z) (hl : lv_has ls nL lv)
    (hW9 : LW l y wsy rm D cy d0 A av la σ a C P mc ms) (cw : vx_CSW R s args RL index y bytes maxL (some .int) hh wsy rm mc ms n) (hst : st = av.reverse ++ rest) (hn : av.length = n) (hW : (rest.map fun v => v.category).sum ≤ 8) (d : decode cc pc = .ok (.invokestatic index, 3)) (hf : cells + mc ≤ R.cells ∧ slots + ms ≤ R.slots)
    (kk : ∀ (H1 : Heap) (locs1 : List Loc), LQ D cy d0 A la σ a C P H1 → va_S A9 s.heap H1 locs1 → H.size ≤ H1.size → (∀ q : Nat, q < H.size → ¬ lAW A a q → H1[q]? = H[q]?) → W p l e R s m args below meth c H1 locs1 (cells + mc) (slots + ms) Q (F0 m (pc + 3) ls (.int (iI C) :: rest))) : W p l e R s m args below meth c H locs cells slots Q (F0 m pc ls st) := by
  have hr := vx_runSW (l := l) (e := e) (below := below) (meth := meth) (locs := locs) (cells := cells) (slots := slots) (As := av) (rest := rest) (g := F0 m pc ls st) (cFix E) hW9 cw (H := H) ⟨fun a U g mk q => by
      obtain ⟨q1, q2, q3, q4, q5⟩ := q
      exact ⟨q1, q2, cK.same (u := U) (U := U.calling g mk a) rfl q3, q4.moved (Vm.Alike.refl U.vm), q5⟩, fun U hU hW => ⟨rfl, by rw [hU]; exact hC, by rw [hU]; exact hK.moved hW, hN.moved hW.alike, by rw [hU]; exact ho⟩⟩ rfl hn hl.1 hst (lv_room hW) d hf
  intro T hT X
  obtain ⟨v9, st₀, t, T', L, h0, X', hL, e1, e2, ⟨⟨hv, hq⟩, hz, hk⟩, st9⟩ := hr T hT X
  cases hv
  rw [h0] at hz hk
  obtain ⟨t2, a1, b1⟩ := kk T'.heap (locs ++ L) (by rw [e1]; exact hq) (ly_run hS hA (by rw [e1]; exact hz) (by rw [e1]; exact hk) hL) (by rw [e1]; exact hz) (by rw [e1]; exact hk) T' rfl X'
  exact ⟨t2, st9 t2 a1, b1⟩
theorem ly_v {y : MethodName} {bytes : ByteArray} {maxL n index mc ms : Nat} {hh : List (Nat × Nat × Nat × Nat)} {wsy : List Cond} {rm : Room} {av : List Value} {C : Int} {P : (Nat → Int → Nat) → MS → Prop} (E : cE p s m args c cc nL RL Ts D cy) (hK : cK D cy d0 A s H) (hC : CP D cy d0 A la σ H) (hN : cNc s) (hS : va_S A9 s.heap H locs) (hA : ∀ z, A z → A9 z) (hl : lv_has ls nL lv)
    (hW9 : LV l y wsy rm D cy d0 A av la σ C P mc ms) (cw : vx_CSW R s args RL index y bytes maxL (some .int) hh wsy rm mc ms n) (hst : st = av.reverse ++ rest) (hn : av.length = n) (hW : (rest.map fun v => v.category).sum ≤ 8) (d : decode cc pc = .ok (.invokestatic index, 3)) (hf : cells + mc ≤ R.cells ∧ slots + ms ≤ R.slots)
    (kk : ∀ (H1 : Heap) (locs1 : List Loc), LQv D cy d0 A la σ C P H1 → va_S A9 s.heap H1 locs1 → H.size ≤ H1.size → (∀ q : Nat, q < H.size → ¬ A q → H1[q]? = H[q]?) → W p l e R s m args below meth c H1 locs1 (cells + mc) (slots + ms) Q (F0 m (pc + 3) ls (.int (iI C) :: rest))) : W p l e R s m args below meth c H locs cells slots Q (F0 m pc ls st) := by
  have hr := vx_runSW (l := l) (e := e) (below := below) (meth := meth) (locs := locs) (cells := cells) (slots := slots) (As := av) (rest := rest) (g := F0 m pc ls st) (cFix E) hW9 cw (H := H) ⟨fun a U g mk q => by
      obtain ⟨q1, q2, q3, q4⟩ := q
      exact ⟨q1, q2, cK.same (u := U) (U := U.calling g mk a) rfl q3, q4.moved (Vm.Alike.refl U.vm)⟩, fun U hU hW => ⟨rfl, by rw [hU]; exact hC, by rw [hU]; exact hK.moved hW, hN.moved hW.alike⟩⟩ rfl hn hl.1 hst (lv_room hW) d hf
  intro T hT X
  obtain ⟨v9, st₀, t, T', L, h0, X', hL, e1, e2, ⟨⟨hv, hq⟩, hz, hk⟩, st9⟩ := hr T hT X
  cases hv
  rw [h0] at hz hk
  obtain ⟨t2, a1, b1⟩ := kk T'.heap (locs ++ L) (by rw [e1]; exact hq) (ly_run hS hA (by rw [e1]; exact hz) (by rw [e1]; exact hk) hL) (by rw [e1]; exact hz) (by rw [e1]; exact hk) T' rfl X'
  exact ⟨t2, st9 t2 a1, b1⟩
/-- the law calls the reference -/
theorem ly_m {y : MethodName} {bytes : ByteArray} {maxL n index : Nat} {ret : Option FieldType} {wsy : List Cond} {rm : Room} {av : List Value} {v : Option Value} {P : MS → Prop} (E : cE p s m args c cc nL RL Ts D cy) (hM : MP D cy o ad σ H) (hS : va_S A9 s.heap H locs) (hA : ∀ z, mA o ad z → A9 z) (hl : lv_has ls nL lv) (hc : MX l y wsy rm D cy o ad av σ v P) (cw : CallW R s args RL RX11 index y bytes maxL ret wsy rm 0 0 n) (hst : st = av.reverse ++ .ref o :: rest) (hn : av.length = n) (hW : (rest.map fun v => v.category).sum ≤ 8) (d : decode cc pc = .ok (.invokevirtual index, 3)) (hf : cells ≤ R.cells ∧ slots ≤ R.slots)
    (kk : ∀ (H1 : Heap) (locs1 : List Loc) (τ : MS), P τ → MP D cy o ad τ H1 → va_S A9 s.heap H1 locs1 → H.size ≤ H1.size → (∀ q : Nat, q < H.size → ¬ mA o ad q → H1[q]? = H[q]?) → W p l e R s m args below meth c H1 locs1 cells slots Q (F0 m (pc + 3) ls (v.toList ++ rest))) : W p l e R s m args below meth c H locs cells slots Q (F0 m pc ls st) := by
  obtain ⟨B, hml, hown, hts, hK4⟩ := E
  have hK : va_K D vwCl (mty cy) s := hK4.sub [0, 1, 2] rfl
  have hr := va_runV (l := l) (e := e) (below := below) (meth := meth) (locs := locs) (cells := cells) (slots := slots) (As := av) (rest := rest) (g := F0 m pc ls st) ⟨B.1, B.2, hml, hown, hts⟩ hc cw (H := H) ⟨fun a U g mk q => by obtain ⟨q1, q2, q3⟩ := q; exact ⟨q1, q2, va_K.moved (u := U) (U := U.calling g mk a) (Vm.Alike.refl U.vm) q3⟩, by
      obtain ⟨cell, h1, h2, h3, -⟩ := hM.1
      exact ⟨cell, h1, by rw [h3]; rfl, by rw [h2]; exact (hK.1 12 _ rfl).2.1⟩, fun U hU hW => ⟨rfl, by rw [hU]; exact hM, va_K.moved hW.alike hK⟩⟩ rfl hn hl.1 hst (lv_room hW) d hf
  intro T hT X
  obtain ⟨v9, st₀, t, T', L, h0, X', hL, e1, e2, ⟨⟨hv, σ1, hp, hM1⟩, hz, hk⟩, st9⟩ := hr T hT X
  cases hv
  rw [h0] at hz hk
  obtain ⟨t2, a1, b1⟩ := kk T'.heap (locs ++ L) σ1 hp (by rw [e1]; exact hM1) (ly_run hS hA (by rw [e1]; exact hz) (by rw [e1]; exact hk) hL) (by rw [e1]; exact hz) (by rw [e1]; exact hk) T' rfl X'
  exact ⟨t2, st9 t2 a1, b1⟩
end LYW
