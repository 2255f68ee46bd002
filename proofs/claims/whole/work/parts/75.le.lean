section CA7
variable {p : Program} {l : Launch} {e : Env} {R : Room} {s : State} {m : MethodId} {args : Array Value} {below : List Frame} {meth : Method} {c : Code} {H : Heap} {locs : List Loc} {cells slots : Nat} {Q : State → Prop}
variable {cc : ByteArray} {pc : Nat} {ls : Array Slot} {rest st : List Value} {nL : Nat} {lv : List (Nat × Value)} {Ts : List Cond} {D : va_G} {cy : Nat → ClassId} {d0 : Nat} {A : Nat → Prop} {la : Nat → Int → Nat} {σ : MS} {idx : Nat} {own C : String} {T : u_T}
/-- a call while an object at q lies beside the picture -/
theorem co_callA {q : Nat} {y : MethodName} {bytes : ByteArray} {maxL n index mc ms : Nat} {ret : Option FieldType} {wsy : List Cond} {rm : Room} {av : List Value} {P : Option Value → (Nat → Int → Nat) → MS → Prop} {κ : Nat} {i : Int} (E : cE p s m args c cc nL own Ts D cy) (hK : cK D cy d0 A s s.heap) (hC : CP D cy d0 A la σ H) (hS : va_S A s.heap H locs) (hl : lv_has ls nL lv) (hκ : κ ≤ 11) (hlv : cLive la σ κ i) (hc : vwCl[cCi κ]? = some (C, T, cN κ)) (hq : ∀ κ i, κ ≤ 18 → cLive la σ κ i → la κ i ≠ q) (hqH : q < H.size)
    (hM : CN l y wsy rm D cy d0 (fun z => A z ∧ z ≠ q) (.ref (la κ i) :: av) la σ P mc ms) (cw : CallW R s args own C index y bytes maxL ret wsy rm mc ms n) (hst : st = av.reverse ++ .ref (la κ i) :: rest) (hn : av.length = n) (hW : (rest.map fun v => v.category).sum ≤ 8) (d : decode cc pc = .ok (.invokevirtual index, 3)) (hf : cells + mc ≤ R.cells ∧ slots + ms ≤ R.slots)
    (kk : ∀ (H1 : Heap) (locs1 : List Loc) (v : Option Value) (la1 : Nat → Int → Nat) (σ1 : MS), P v la1 σ1 → CP D cy d0 A la1 σ1 H1 → va_S A s.heap H1 locs1 → H.size ≤ H1.size → H1[q]? = H[q]? → W p l e R s m args below meth c H1 locs1 (cells + mc) (slots + ms) Q (F0 m (pc + 3) ls (v.toList ++ rest))) : W p l e R s m args below meth c H locs cells slots Q (F0 m pc ls st) := by
  have hC' : CP D cy d0 (fun z => A z ∧ z ≠ q) la σ H := hC.nar (fun κ i a b => ⟨hC.2.2.2.2.1 κ i a b, hq κ i a b⟩) (fun z => hK.2.2.2.2.2.1 z.1)
  have hr := va_runV (l := l) (e := e) (below := below) (meth := meth) (locs := locs) (cells := cells) (slots := slots) (As := av) (rest := rest) (g := F0 m pc ls st) (cFix E) hM cw (H := H) ⟨cPre, cRecv hK hC hκ hlv hc, fun U hU hW => ⟨rfl, by rw [hU]; exact hC', by rw [hU]; exact ((hK.kept hS).sub (fun z h => h.1) (fun z h => ⟨(hK.kept hS).2.2.2.2.2.2.1 z h, by omega⟩)).moved hW⟩⟩ rfl hn hl.1 hst (lv_room hW) d hf
  intro T hT X
  obtain ⟨v9, st₀, t, T', L, h0, X', hL, e1, e2, ⟨⟨v, la1, σ1, hv, hp, hM1⟩, hz, hk⟩, st9⟩ := hr T hT X
  cases hv
  rw [h0] at hz hk
  have hM2 : CP D cy d0 A la1 σ1 t.heap := hM1.nar (fun κ i a b => (hM1.2.2.2.2.1 κ i a b).1) hK.2.2.2.2.2.1
  obtain ⟨t2, a1, b1⟩ := kk T'.heap (locs ++ L) v9 la1 σ1 hp (by rw [e1]; exact hM2) (cbRun (A' := fun z => A z ∧ z ≠ q) (fun z h => h.1) hS (by rw [e1]; exact hz) (by rw [e1]; exact hk) hL) (by rw [e1]; exact hz) (by rw [e1]; exact hk q hqH (fun z => z.2 rfl)) T' rfl X'
  exact ⟨t2, st9 t2 a1, b1⟩
end CA7
theorem elC_at {D : va_G} {ci N : Nat} {H : Heap} {y z : Nat} (e : y = z) (h : elC D ci N H z) : elC D ci N H y := by rw [e]; exact h
set_option maxHeartbeats 4000000 in
set_option maxRecDepth 100000 in
theorem l_size (l : Launch) (D : va_G) (cy : Nat → ClassId) (d0 : Nat) (A : Nat → Prop) {a r : Nat} {mm n : Int} : CB l yJx4a65c_size_8abf5 wsJx4a65c_size_8abf5 ({ frames := 0, cells := 0, slots := 0, locals := 20 } : Room) D cy d0 A [.ref a] (fun H => t_OB a (D.1 0) 3 (D.2 0) H (lV mm r n)) (fun v H0 H1 => v = some (.int (iI n)) ∧ H1 = H0) 0 0 := by
  refine cb_of (cc := cJx4a65c_size_8abf5) (nL := 1) (ret := some .int) (by decide) rfl (Nat.le_of_ble_eq_true rfl) ?_
  intro p e s m args below meth c ls E hr hlk hini hK hPre hS hl
  have B := E.1
  have hts := E.2.2.2.1
  have hO := hPre
  refine x_aload_n B hl dJx4a65c_size_8abf5_0 rfl ?_
  refine ob_get E hO rfl (fun z h => List.mem_cons_of_mem _ (List.mem_append_right _ h)) 2 (by decide) (hts (.fieldLink RJx4a65c 48 "java/util/ArrayList" "size" "I") (by decide +kernel)) (fun x hx => hx) dJx4a65c_size_8abf5_1 rfl ?_
  exact cb_iret E hr rfl hlk hS dJx4a65c_size_8abf5_4 ⟨rfl, rfl⟩
