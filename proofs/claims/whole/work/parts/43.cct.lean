def cName (k : Int) : String := if k = 1 then "java/lang/IndexOutOfBoundsException" else if k = 2 then "java/lang/IllegalArgumentException" else if k = 3 then "java/lang/UnsupportedOperationException" else "java/util/NoSuchElementException"
abbrev cUp : List String := ["java/lang/RuntimeException", "java/lang/Exception"]
/-- what lists stand on when they grow, and links to nest mates -/
def cLs (U : State) : Prop := (∃ mi, va_Mi "[Ljava/lang/Object;" mi U) ∧ va_Dc U ∧ va_AO "java/lang/Object" U ∧ va_Nw (.castable "BinRounds$Street" "java/lang/Object") U ∧ va_Nw (.castable "BinRounds$House" "java/lang/Object") U ∧ va_Nw (.castable "BinRounds$Bin" "java/lang/Object") U ∧ va_Nw (.castable "BinRounds$Move" "java/lang/Object") U ∧ va_Nw (.castable "BinRounds$Part" "java/lang/Object") U ∧ va_Nw (.castable "BinRounds$Cart" "java/lang/Object") U ∧ va_Nw (.castable "BinRounds$Tip" "java/lang/Object") U ∧ va_Nw (.methodLinkNest RX10 69 yX7_init RX10) U ∧ va_Nw (.methodLinkNest RX10 30 yX1_init RX10) U ∧ va_Nw (.methodLinkNest RX10 37 yX8_init RX10) U ∧ va_Nw (.methodLinkNest RX10 44 yX4_init RX10) U
theorem cLs.same {u U : State} (hv : U.vm = u.vm) (h : cLs u) : cLs U := by
  obtain ⟨⟨mi, h1⟩, h2, h3, a1, a2, a3, a4, a5, a6, a7, a8, a9, a10, a11⟩ := h
  have hal : u.vm.Alike U.vm := by rw [hv]; exact Vm.Alike.refl _
  exact ⟨⟨mi, va_Mi.moved hal h1⟩, va_Dc.moved hal h2, va_AO.moved hal h3, va_Nw.same rfl hv.symm a1, va_Nw.same rfl hv.symm a2, va_Nw.same rfl hv.symm a3, va_Nw.same rfl hv.symm a4, va_Nw.same rfl hv.symm a5, va_Nw.same rfl hv.symm a6, va_Nw.same rfl hv.symm a7, va_Nw.same rfl hv.symm a8, va_Nw.same rfl hv.symm a9, va_Nw.same rfl hv.symm a10, va_Nw.same rfl hv.symm a11⟩
theorem cLs.warm {s U : State} (hW : s.WarmedH U.vm) (h : cLs s) : cLs U := by
  obtain ⟨⟨mi, h1⟩, h2, h3, a1, a2, a3, a4, a5, a6, a7, a8, a9, a10, a11⟩ := h
  exact ⟨⟨mi, va_Mi.moved hW.alike h1⟩, va_Dc.moved hW.alike h2, va_AO.moved hW.alike h3, va_Nw.warmC hW a1, va_Nw.warmC hW a2, va_Nw.warmC hW a3, va_Nw.warmC hW a4, va_Nw.warmC hW a5, va_Nw.warmC hW a6, va_Nw.warmC hW a7, va_Nw.warmM hW a8, va_Nw.warmM hW a9, va_Nw.warmM hW a10, va_Nw.warmM hW a11⟩
/-- the refusals' own words that a method's list does not hold -/
def cTh (U : State) : Prop :=
  (va_Nw (.castable "java/lang/IndexOutOfBoundsException" "java/lang/IndexOutOfBoundsException") U ∧ va_Nw (.castable "java/lang/IllegalArgumentException" "java/lang/IllegalArgumentException") U ∧ va_Nw (.castable "java/lang/UnsupportedOperationException" "java/lang/UnsupportedOperationException") U ∧ va_Nw (.castable "java/util/NoSuchElementException" "java/util/NoSuchElementException") U) ∧
  (∃ z, vk_R RX10 388 "there is none of that number" z U) ∧ (∃ z, vk_R RX10 371 "a number is none of those told" z U) ∧ (∃ z, vk_R RX10 378 "there can be no more" z U) ∧ (∃ z, vk_R RX10 383 "there is no such thing to tell" z U) ∧ va_Nw (.declares (Bundle.initS "java/lang/RuntimeException")) U ∧ va_Nw (.declares (Bundle.initS "java/lang/Exception")) U ∧ va_Nw (.declares (Bundle.initS Bundle.tN)) U ∧ cLs U
theorem cTh.same {u U : State} (hv : U.vm = u.vm) (h : cTh u) : cTh U := by
  obtain ⟨⟨a1, a2, a3, a4⟩, ⟨b1, c1⟩, ⟨b2, c2⟩, ⟨b3, c3⟩, ⟨b4, c4⟩, e1, e2, e3, e4⟩ := h
  exact ⟨⟨va_Nw.same rfl hv.symm a1, va_Nw.same rfl hv.symm a2, va_Nw.same rfl hv.symm a3, va_Nw.same rfl hv.symm a4⟩, ⟨b1, vk_R.same hv c1⟩, ⟨b2, vk_R.same hv c2⟩, ⟨b3, vk_R.same hv c3⟩, ⟨b4, vk_R.same hv c4⟩, va_Nw.same rfl hv.symm e1, va_Nw.same rfl hv.symm e2, va_Nw.same rfl hv.symm e3, e4.same hv⟩
theorem cTh.warm {s U : State} (hW : s.WarmedH U.vm) (h : cTh s) : cTh U := by
  obtain ⟨⟨a1, a2, a3, a4⟩, ⟨b1, c1⟩, ⟨b2, c2⟩, ⟨b3, c3⟩, ⟨b4, c4⟩, e1, e2, e3, e4⟩ := h
  exact ⟨⟨va_Nw.warmC hW a1, va_Nw.warmC hW a2, va_Nw.warmC hW a3, va_Nw.warmC hW a4⟩, ⟨b1, vk_R.warm hW c1⟩, ⟨b2, vk_R.warm hW c2⟩, ⟨b3, vk_R.warm hW c3⟩, ⟨b4, vk_R.warm hW c4⟩, va_Nw.warmD hW e1, va_Nw.warmD hW e2, va_Nw.warmD hW e3, e4.warm hW⟩
abbrev cDec : List Cond := [.declares (Bundle.initS "java/lang/RuntimeException"), .declares (Bundle.initS "java/lang/Exception"), .declares (Bundle.initS Bundle.tN)]
theorem cBad_1 : ∀ z ∈ (vx_atS RX10 390 "java/lang/IndexOutOfBoundsException" cUp).filter (fun z => !goodWord z), z ∈ Cond.castable "java/lang/IndexOutOfBoundsException" "java/lang/IndexOutOfBoundsException" :: cDec := by decide +kernel
theorem cBad_2 : ∀ z ∈ (vx_atS RX10 373 "java/lang/IllegalArgumentException" cUp).filter (fun z => !goodWord z), z ∈ Cond.castable "java/lang/IllegalArgumentException" "java/lang/IllegalArgumentException" :: cDec := by decide +kernel
theorem cBad_3 : ∀ z ∈ (vx_atS RX10 380 "java/lang/UnsupportedOperationException" cUp).filter (fun z => !goodWord z), z ∈ Cond.castable "java/lang/UnsupportedOperationException" "java/lang/UnsupportedOperationException" :: cDec := by decide +kernel
theorem cBad_4 : ∀ z ∈ (vx_atN RX10 385).filter (fun z => !goodWord z), z ∈ Cond.castable "java/util/NoSuchElementException" "java/util/NoSuchElementException" :: cDec := by decide +kernel
/-- the JDK's own empty row -/
def cD0 (U : State) (H : Heap) (d0 : Nat) : Prop := ∃ ce : Cell, H[d0]? = some ce ∧ U.isArrayOf ce (.object "java/lang/Object") ∧ ce.slots.size.toInt32 = iI 0
theorem cD0.moved {u U : State} {H : Heap} {d0 : Nat} (hvm : u.vm.Alike U.vm) (h : cD0 u H d0) : cD0 U H d0 := by
  obtain ⟨ce, h1, h2, h3⟩ := h
  exact ⟨ce, h1, State.isArrayOf_alike hvm h2, h3⟩
/-- what the class's methods stand in, beside the picture -/
def cK (D : va_G) (cy : Nat → ClassId) (d0 : Nat) (A : Nat → Prop) (U : State) (H : Heap) : Prop :=
  va_K D vwCl (cty cy) U ∧ vx_Zq Bundle.tN "UNASSIGNED_STACK" Bundle.steD A U H ∧ vx_Zq Bundle.tN "SUPPRESSED_SENTINEL" Bundle.listD A U H ∧ va_Z "java/util/ArrayList" "DEFAULTCAPACITY_EMPTY_ELEMENTDATA" "[Ljava/lang/Object;" (.ref d0) A U H ∧ cD0 U H d0 ∧ ¬ A d0 ∧ (∀ q, H.size ≤ q → A q) ∧ cTh U
theorem cK.moved {D : va_G} {cy : Nat → ClassId} {d0 : Nat} {A : Nat → Prop} {s U : State} {H : Heap} (hW : s.WarmedH U.vm) (h : cK D cy d0 A s H) : cK D cy d0 A U H := by
  obtain ⟨h1, h2, h3, h4, h5, h6, h7, h8⟩ := h
  exact ⟨va_K.moved hW.alike h1, vx_Zq.moved hW.alike h2, vx_Zq.moved hW.alike h3, va_Z.moved hW.alike h4, h5.moved hW.alike, h6, h7, h8.warm hW⟩
theorem cK.same {D : va_G} {cy : Nat → ClassId} {d0 : Nat} {A : Nat → Prop} {u U : State} {H : Heap} (hv : U.vm = u.vm) (h : cK D cy d0 A u H) : cK D cy d0 A U H := by
  obtain ⟨h1, h2, h3, h4, h5, h6, h7, h8⟩ := h
  have hal : u.vm.Alike U.vm := by rw [hv]; exact Vm.Alike.refl _
  exact ⟨va_K.moved hal h1, vx_Zq.moved hal h2, vx_Zq.moved hal h3, va_Z.moved hal h4, h5.moved hal, h6, h7, h8.same hv⟩
theorem cK.kept {D : va_G} {cy : Nat → ClassId} {d0 : Nat} {A : Nat → Prop} {U : State} {H H1 : Heap} {locs : List Loc} (h : cK D cy d0 A U H) (hS : va_S A H H1 locs) : cK D cy d0 A U H1 := by
  obtain ⟨h1, h2, h3, h4, h5, h6, h7, h8⟩ := h
  refine ⟨h1, h2.kept hS.2.1, h3.kept hS.2.1, h4.kept hS.2.1, ?_, h6, fun q hq => h7 q (Nat.le_trans hS.1 hq), h8⟩
  obtain ⟨ce, q1, q2, q3⟩ := h5
  exact ⟨ce, (hS.2.1 d0 (Array.getElem?_eq_some_iff.mp q1).1 h6).trans q1, q2, q3⟩
def cQ (D : va_G) (cy : Nat → ClassId) (d0 : Nat) (A : Nat → Prop) (P : Option Value → (Nat → Int → Nat) → MS → Prop) : Array Value → State → Outcome → State → Prop := fun _ st oc t => (∃ v la σ, oc = .returned v ∧ P v la σ ∧ CP D cy d0 A la σ t.heap) ∧ va_F A st t
/-- a method of the class's: at this picture it returns some v, behind it some picture, of which P -/
def CN (l : Launch) (y : MethodName) (ws : List Cond) (rm : Room) (D : va_G) (cy : Nat → ClassId) (d0 : Nat) (A : Nat → Prop) (av : List Value) (la : Nat → Int → Nat) (σ : MS) (P : Option Value → (Nat → Int → Nat) → MS → Prop) (mc ms : Nat) : Prop :=
  Met l y ws rm (va_Pc av (fun U => CP D cy d0 A la σ U.heap ∧ cK D cy d0 A U U.heap)) (cQ D cy d0 A P) mc ms A
/-- .. it answers v, the state is σ', and P -/
abbrev CM (l : Launch) (y : MethodName) (ws : List Cond) (rm : Room) (D : va_G) (cy : Nat → ClassId) (d0 : Nat) (A : Nat → Prop) (av : List Value) (la : Nat → Int → Nat) (σ : MS) (v : Option Value) (σ' : MS) (P : Prop) : Prop :=
  CN l y ws rm D cy d0 A av la σ (fun v' la' τ => v' = v ∧ la' = la ∧ τ = σ' ∧ P) 0 0
/-- .. refuses: code C (0: returns) -/
def cXX (D : va_G) (cy : Nat → ClassId) (d0 : Nat) (A : Nat → Prop) (C : Int) (la : Nat → Int → Nat) (σ : MS) : String → State → State → Prop := fun E st t => C ≠ 0 ∧ E = cName C ∧ CP D cy d0 A la σ t.heap ∧ va_F A st t
def CT (l : Launch) (y : MethodName) (ws : List Cond) (rm : Room) (D : va_G) (cy : Nat → ClassId) (d0 : Nat) (A : Nat → Prop) (av : List Value) (la : Nat → Int → Nat) (σ : MS) (C : Int) (P : Option Value → (Nat → Int → Nat) → MS → Prop) (mc ms : Nat) : Prop :=
  vx_Met l y ws rm (va_Pc av (fun U => CP D cy d0 A la σ U.heap ∧ cK D cy d0 A U U.heap)) (cQ D cy d0 A (fun v la' τ => C = 0 ∧ P v la' τ)) (cXX D cy d0 A C la σ) mc ms A
section CC
variable {p : Program} {l : Launch} {e : Env} {R : Room} {s : State} {m : MethodId} {args : Array Value} {below : List Frame} {meth : Method} {c : Code} {H : Heap} {locs : List Loc} {cells slots : Nat} {Q : State → Prop}
variable {cc : ByteArray} {pc : Nat} {ls : Array Slot} {rest st : List Value} {nL : Nat} {lv : List (Nat × Value)} {Ts : List Cond} {D : va_G} {cy : Nat → ClassId} {d0 : Nat} {A : Nat → Prop} {la : Nat → Int → Nat} {σ : MS} {idx : Nat} {own C : String} {T : u_T}
theorem cFix (E : cE p s m args c cc nL own Ts D cy) : CallFix p m c cc nL s args Ts own := ⟨E.1.1, E.1.2, E.2.1, E.2.2.1, E.2.2.2.1⟩
theorem cPre {av : List Value} : FrameBlind (va_Pc av (fun U => CP D cy d0 A la σ U.heap ∧ cK D cy d0 A U U.heap)) := fun a U g mk q => by
  obtain ⟨q1, q2, q3⟩ := q
  exact ⟨q1, q2, cK.same (u := U) (U := U.calling g mk a) rfl q3⟩
theorem cRun {H1 : Heap} {L : List Loc} (hS : va_S A s.heap H locs) (hz : H.size ≤ H1.size) (hk : ∀ q : Nat, q < H.size → ¬ A q → H1[q]? = H[q]?) (hL : ∀ q ∈ L, A q.base) : va_S A s.heap H1 (locs ++ L) :=
  ⟨Nat.le_trans hS.1 hz, fun q h1 h2 => by rw [hk q (Nat.lt_of_lt_of_le h1 hS.1) h2]; exact hS.2.1 q h1 h2, fun q hq => by
    rcases List.mem_append.mp hq with h | h
    · exact hS.2.2 q h
    · exact hL q h⟩
/-- where an object of the picture is the receiver -/
theorem cRecv (hK : cK D cy d0 A s s.heap) (hC : CP D cy d0 A la σ H) {κ : Nat} {i : Int} (hκ : κ ≤ 11) (hlv : cLive la σ κ i) (hc : vwCl[cCi κ]? = some (C, T, cN κ)) : ∃ cell : Cell, H[la κ i]? = some cell ∧ cell.vm.isStatics = false ∧ s.vm.findClass C = some cell.cls := by
  obtain ⟨cell, h1, h2, h3, -⟩ := hC.ob hκ hlv
  exact ⟨cell, h1, by rw [h3]; rfl, by rw [h2]; exact (hK.1.1 _ _ hc).2.1⟩
theorem co_callN {y : MethodName} {bytes : ByteArray} {maxL n index mc ms : Nat} {ret : Option FieldType} {wsy : List Cond} {rm : Room} {av : List Value} {P : Option Value → (Nat → Int → Nat) → MS → Prop} {κ : Nat} {i : Int} (E : cE p s m args c cc nL own Ts D cy) (hK : cK D cy d0 A s s.heap) (hC : CP D cy d0 A la σ H) (hS : va_S A s.heap H locs) (hl : lv_has ls nL lv) (hκ : κ ≤ 11) (hlv : cLive la σ κ i) (hc : vwCl[cCi κ]? = some (C, T, cN κ))
    (hM : CN l y wsy rm D cy d0 A (.ref (la κ i) :: av) la σ P mc ms) (cw : CallW R s args own C index y bytes maxL ret wsy rm mc ms n) (hst : st = av.reverse ++ .ref (la κ i) :: rest) (hn : av.length = n) (hW : (rest.map fun v => v.category).sum ≤ 8) (d : decode cc pc = .ok (.invokevirtual index, 3)) (hf : cells + mc ≤ R.cells ∧ slots + ms ≤ R.slots)
    (kk : ∀ (H1 : Heap) (locs1 : List Loc) (v : Option Value) (la1 : Nat → Int → Nat) (σ1 : MS), P v la1 σ1 → CP D cy d0 A la1 σ1 H1 → va_S A s.heap H1 locs1 → W p l e R s m args below meth c H1 locs1 (cells + mc) (slots + ms) Q (F0 m (pc + 3) ls (v.toList ++ rest))) : W p l e R s m args below meth c H locs cells slots Q (F0 m pc ls st) := by
  have hr := va_runV (l := l) (e := e) (below := below) (meth := meth) (locs := locs) (cells := cells) (slots := slots) (As := av) (rest := rest) (g := F0 m pc ls st) (cFix E) hM cw (H := H) ⟨cPre, cRecv hK hC hκ hlv hc, fun U hU hW => ⟨rfl, by rw [hU]; exact hC, by rw [hU]; exact (hK.kept hS).moved hW⟩⟩ rfl hn hl.1 hst (lv_room hW) d hf
  intro T hT X
  obtain ⟨v9, st₀, t, T', L, h0, X', hL, e1, e2, ⟨⟨v, la1, σ1, hv, hp, hM1⟩, hz, hk⟩, st9⟩ := hr T hT X
  cases hv
  rw [h0] at hz hk
  obtain ⟨t2, a1, b1⟩ := kk T'.heap (locs ++ L) v9 la1 σ1 hp (by rw [e1]; exact hM1) (cRun hS (by rw [e1]; exact hz) (by rw [e1]; exact hk) hL) T' rfl X'
  exact ⟨t2, st9 t2 a1, b1⟩
theorem co_call {y : MethodName} {bytes : ByteArray} {maxL n index : Nat} {ret : Option FieldType} {wsy : List Cond} {rm : Room} {av : List Value} {v : Option Value} {σ' : MS} {P : Prop} {κ : Nat} {i : Int} (E : cE p s m args c cc nL own Ts D cy) (hK : cK D cy d0 A s s.heap) (hC : CP D cy d0 A la σ H) (hS : va_S A s.heap H locs) (hl : lv_has ls nL lv) (hκ : κ ≤ 11) (hlv : cLive la σ κ i) (hc : vwCl[cCi κ]? = some (C, T, cN κ))
    (hM : CM l y wsy rm D cy d0 A (.ref (la κ i) :: av) la σ v σ' P) (cw : CallW R s args own C index y bytes maxL ret wsy rm 0 0 n) (hst : st = av.reverse ++ .ref (la κ i) :: rest) (hn : av.length = n) (hW : (rest.map fun v => v.category).sum ≤ 8) (d : decode cc pc = .ok (.invokevirtual index, 3)) (hf : cells ≤ R.cells ∧ slots ≤ R.slots)
    (kk : ∀ (H1 : Heap) (locs1 : List Loc), P → CP D cy d0 A la σ' H1 → va_S A s.heap H1 locs1 → W p l e R s m args below meth c H1 locs1 cells slots Q (F0 m (pc + 3) ls (v.toList ++ rest))) : W p l e R s m args below meth c H locs cells slots Q (F0 m pc ls st) := by
  refine co_callN E hK hC hS hl hκ hlv hc hM cw hst hn hW d hf (fun H1 locs1 v1 la1 σ1 hp hC1 hS1 => ?_)
  obtain ⟨rfl, rfl, rfl, hp⟩ := hp
  exact kk H1 locs1 hp hC1 hS1
theorem cs_callN {y : MethodName} {bytes : ByteArray} {maxL n index mc ms : Nat} {ret : Option FieldType} {wsy : List Cond} {rm : Room} {av : List Value} {P : Option Value → (Nat → Int → Nat) → MS → Prop} (E : cE p s m args c cc nL own Ts D cy) (hK : cK D cy d0 A s s.heap) (hC : CP D cy d0 A la σ H) (hS : va_S A s.heap H locs) (hl : lv_has ls nL lv)
    (hM : CN l y wsy rm D cy d0 A av la σ P mc ms) (cw : CallB R s args own index y bytes maxL ret wsy rm mc ms n ∧ (Cond.static y).before args s = true) (hst : st = av.reverse ++ rest) (hn : av.length = n) (hW : (rest.map fun v => v.category).sum ≤ 8) (d : decode cc pc = .ok (.invokestatic index, 3)) (hf : cells + mc ≤ R.cells ∧ slots + ms ≤ R.slots)
    (kk : ∀ (H1 : Heap) (locs1 : List Loc) (v : Option Value) (la1 : Nat → Int → Nat) (σ1 : MS), P v la1 σ1 → CP D cy d0 A la1 σ1 H1 → va_S A s.heap H1 locs1 → W p l e R s m args below meth c H1 locs1 (cells + mc) (slots + ms) Q (F0 m (pc + 3) ls (v.toList ++ rest))) : W p l e R s m args below meth c H locs cells slots Q (F0 m pc ls st) := by
  have hr := va_runS (l := l) (e := e) (below := below) (meth := meth) (locs := locs) (cells := cells) (slots := slots) (As := av) (rest := rest) (g := F0 m pc ls st) (cFix E) hM cw (H := H) ⟨cPre, fun U hU hW => ⟨rfl, by rw [hU]; exact hC, by rw [hU]; exact (hK.kept hS).moved hW⟩⟩ rfl hn hl.1 hst (lv_room hW) d hf
  intro T hT X
  obtain ⟨v9, st₀, t, T', L, h0, X', hL, e1, e2, ⟨⟨v, la1, σ1, hv, hp, hM1⟩, hz, hk⟩, st9⟩ := hr T hT X
  cases hv
  rw [h0] at hz hk
  obtain ⟨t2, a1, b1⟩ := kk T'.heap (locs ++ L) v9 la1 σ1 hp (by rw [e1]; exact hM1) (cRun hS (by rw [e1]; exact hz) (by rw [e1]; exact hk) hL) T' rfl X'
  exact ⟨t2, st9 t2 a1, b1⟩
theorem cs_call {y : MethodName} {bytes : ByteArray} {maxL n index : Nat} {ret : Option FieldType} {wsy : List Cond} {rm : Room} {av : List Value} {v : Option Value} {σ' : MS} {P : Prop} (E : cE p s m args c cc nL own Ts D cy) (hK : cK D cy d0 A s s.heap) (hC : CP D cy d0 A la σ H) (hS : va_S A s.heap H locs) (hl : lv_has ls nL lv)
    (hM : CM l y wsy rm D cy d0 A av la σ v σ' P) (cw : CallB R s args own index y bytes maxL ret wsy rm 0 0 n ∧ (Cond.static y).before args s = true) (hst : st = av.reverse ++ rest) (hn : av.length = n) (hW : (rest.map fun v => v.category).sum ≤ 8) (d : decode cc pc = .ok (.invokestatic index, 3)) (hf : cells ≤ R.cells ∧ slots ≤ R.slots)
    (kk : ∀ (H1 : Heap) (locs1 : List Loc), P → CP D cy d0 A la σ' H1 → va_S A s.heap H1 locs1 → W p l e R s m args below meth c H1 locs1 cells slots Q (F0 m (pc + 3) ls (v.toList ++ rest))) : W p l e R s m args below meth c H locs cells slots Q (F0 m pc ls st) := by
  refine cs_callN E hK hC hS hl hM cw hst hn hW d hf (fun H1 locs1 v1 la1 σ1 hp hC1 hS1 => ?_)
  obtain ⟨rfl, rfl, rfl, hp⟩ := hp
  exact kk H1 locs1 hp hC1 hS1
/-- a call that may refuse: behind it, this method refuses too -/
theorem ct_call {y : MethodName} {bytes : ByteArray} {maxL n index mc ms kc ks : Nat} {ret : Option FieldType} {wsy : List Cond} {rm : Room} {av : List Value} {C1 : Int} {P : Option Value → (Nat → Int → Nat) → MS → Prop} {κ : Nat} {i : Int} {Qc : Array Value → State → Outcome → State → Prop} {XC : String → State → State → Prop} (E : cE p s m args c cc nL own Ts D cy) (hout : ∀ x ∈ c.exceptionTable.toList, False) (hlk : meth.locks = false) (hK : cK D cy d0 A s s.heap) (hC : CP D cy d0 A la σ H) (hS : va_S A s.heap H locs) (hl : lv_has ls nL lv) (hκ : κ ≤ 11) (hlv : cLive la σ κ i) (hc : vwCl[cCi κ]? = some (C, T, cN κ))
    (hM : CT l y wsy rm D cy d0 A (.ref (la κ i) :: av) la σ C1 P mc ms) (cw : CallW R s args own C index y bytes maxL ret wsy rm mc ms n) (hst : st = av.reverse ++ .ref (la κ i) :: rest) (hn : av.length = n) (hW : (rest.map fun v => v.category).sum ≤ 8) (d : decode cc pc = .ok (.invokevirtual index, 3)) (hf : cells + mc ≤ R.cells ∧ slots + ms ≤ R.slots) (hkc : cells + mc ≤ kc ∧ slots + ms ≤ ks)
    (kx : C1 ≠ 0 → ∀ t : State, CP D cy d0 A la σ t.heap → va_F A s t → XC (cName C1) s t)
    (kk : C1 = 0 → ∀ (H1 : Heap) (locs1 : List Loc) (v : Option Value) (la1 : Nat → Int → Nat) (σ1 : MS), P v la1 σ1 → CP D cy d0 A la1 σ1 H1 → va_S A s.heap H1 locs1 → W p l e R s m args below meth c H1 locs1 (cells + mc) (slots + ms) (vx_MQ below Qc XC args s kc ks A) (F0 m (pc + 3) ls (v.toList ++ rest))) : W p l e R s m args below meth c H locs cells slots (vx_MQ below Qc XC args s kc ks A) (F0 m pc ls st) := by
  have hr := vx_runV (l := l) (e := e) (below := below) (meth := meth) (locs := locs) (cells := cells) (slots := slots) (As := av) (rest := rest) (g := F0 m pc ls st) (cFix E) hM cw (H := H) ⟨cPre, cRecv hK hC hκ hlv hc, fun U hU hW => ⟨rfl, by rw [hU]; exact hC, by rw [hU]; exact (hK.kept hS).moved hW⟩⟩ rfl hn hl.1 hst (lv_room hW) d hf
  intro T hT X
  rcases hr T hT X with ⟨v9, st₀, t, T', L, h0, X', hL, e1, e2, ⟨⟨v, la1, σ1, hv, hp, hM1⟩, hz, hk⟩, st9⟩ | ⟨q, st₀, t, T', L, En, ce, h0, X', hL, e1, e2, ⟨h9, rfl, hM1, hz, hk⟩, hce, hcv, hcl, st9⟩
  · cases hv
    rw [h0] at hz hk
    obtain ⟨t2, a1, b1⟩ := kk hp.1 T'.heap (locs ++ L) v9 la1 σ1 hp.2 (by rw [e1]; exact hM1) (cRun hS (by rw [e1]; exact hz) (by rw [e1]; exact hk) hL) T' rfl X'
    exact ⟨t2, st9 t2 a1, b1⟩
  · rw [h0] at hz hk
    have hS1 := cRun (L := L) hS (by rw [e1]; exact hz) (by rw [e1]; exact hk) hL (H1 := T'.heap)
    obtain ⟨t2, a1, b1⟩ := vx_out (Qc := Qc) (XC := XC) (pc := pc) (ls := ls) (rest := rest) (fun x hx => (hout x hx).elim) hlk (by rw [e1]; exact hce) hcv hcl (fun t9 ht9 _ => kx h9 t9 (by rw [ht9, e1]; exact hM1) (hS1.F ht9)) hS1.2.2 hkc.1 hkc.2 T' rfl X'
    exact ⟨t2, st9.trans a1, b1⟩
theorem cst_call {y : MethodName} {bytes : ByteArray} {maxL n index mc ms kc ks : Nat} {ret : Option FieldType} {wsy : List Cond} {rm : Room} {av : List Value} {C1 : Int} {P : Option Value → (Nat → Int → Nat) → MS → Prop} {Qc : Array Value → State → Outcome → State → Prop} {XC : String → State → State → Prop} (E : cE p s m args c cc nL own Ts D cy) (hout : ∀ x ∈ c.exceptionTable.toList, False) (hlk : meth.locks = false) (hK : cK D cy d0 A s s.heap) (hC : CP D cy d0 A la σ H) (hS : va_S A s.heap H locs) (hl : lv_has ls nL lv)
    (hM : CT l y wsy rm D cy d0 A av la σ C1 P mc ms) (cw : CallB R s args own index y bytes maxL ret wsy rm mc ms n ∧ (Cond.static y).before args s = true) (hst : st = av.reverse ++ rest) (hn : av.length = n) (hW : (rest.map fun v => v.category).sum ≤ 8) (d : decode cc pc = .ok (.invokestatic index, 3)) (hf : cells + mc ≤ R.cells ∧ slots + ms ≤ R.slots) (hkc : cells + mc ≤ kc ∧ slots + ms ≤ ks)
    (kx : C1 ≠ 0 → ∀ t : State, CP D cy d0 A la σ t.heap → va_F A s t → XC (cName C1) s t)
    (kk : C1 = 0 → ∀ (H1 : Heap) (locs1 : List Loc) (v : Option Value) (la1 : Nat → Int → Nat) (σ1 : MS), P v la1 σ1 → CP D cy d0 A la1 σ1 H1 → va_S A s.heap H1 locs1 → W p l e R s m args below meth c H1 locs1 (cells + mc) (slots + ms) (vx_MQ below Qc XC args s kc ks A) (F0 m (pc + 3) ls (v.toList ++ rest))) : W p l e R s m args below meth c H locs cells slots (vx_MQ below Qc XC args s kc ks A) (F0 m pc ls st) := by
  have hr := vx_runS (l := l) (e := e) (below := below) (meth := meth) (locs := locs) (cells := cells) (slots := slots) (As := av) (rest := rest) (g := F0 m pc ls st) (cFix E) hM cw (H := H) ⟨cPre, fun U hU hW => ⟨rfl, by rw [hU]; exact hC, by rw [hU]; exact (hK.kept hS).moved hW⟩⟩ rfl hn hl.1 hst (lv_room hW) d hf
  intro T hT X
  rcases hr T hT X with ⟨v9, st₀, t, T', L, h0, X', hL, e1, e2, ⟨⟨v, la1, σ1, hv, hp, hM1⟩, hz, hk⟩, st9⟩ | ⟨q, st₀, t, T', L, En, ce, h0, X', hL, e1, e2, ⟨h9, rfl, hM1, hz, hk⟩, hce, hcv, hcl, st9⟩
  · cases hv
    rw [h0] at hz hk
    obtain ⟨t2, a1, b1⟩ := kk hp.1 T'.heap (locs ++ L) v9 la1 σ1 hp.2 (by rw [e1]; exact hM1) (cRun hS (by rw [e1]; exact hz) (by rw [e1]; exact hk) hL) T' rfl X'
    exact ⟨t2, st9 t2 a1, b1⟩
  · rw [h0] at hz hk
    have hS1 := cRun (L := L) hS (by rw [e1]; exact hz) (by rw [e1]; exact hk) hL (H1 := T'.heap)
    obtain ⟨t2, a1, b1⟩ := vx_out (Qc := Qc) (XC := XC) (pc := pc) (ls := ls) (rest := rest) (fun x hx => (hout x hx).elim) hlk (by rw [e1]; exact hce) hcv hcl (fun t9 ht9 _ => kx h9 t9 (by rw [ht9, e1]; exact hM1) (hS1.F ht9)) hS1.2.2 hkc.1 hkc.2 T' rfl X'
    exact ⟨t2, st9.trans a1, b1⟩
theorem co_iret {x : Int32} {P : Option Value → (Nat → Int → Nat) → MS → Prop} {ty : FieldType} (E : cE p s m args c cc nL own Ts D cy) (hr : meth.sig.returnType = some ty) (hn : narrow ty (.int x) = .int x) (hlk : meth.locks = false) (hC : CP D cy d0 A la σ H) (hS : va_S A s.heap H locs) (d : decode cc pc = .ok (.ireturn, 1)) (hP : P (some (.int x)) la σ) : W p l e R s m args below meth c H locs cells slots (MQ below (cQ D cy d0 A P) args s cells slots A) (F0 m pc ls [.int x]) :=
  W.zret E.1.1 E.1.2 hr hn (fun t ht hW => ⟨⟨_, _, _, rfl, hP, by rw [ht]; exact hC⟩, hS.F ht⟩) hS.2.2 d hlk
theorem co_lret {x : Int64} {P : Option Value → (Nat → Int → Nat) → MS → Prop} (E : cE p s m args c cc nL own Ts D cy) (hr : meth.sig.returnType = some .long) (hlk : meth.locks = false) (hC : CP D cy d0 A la σ H) (hS : va_S A s.heap H locs) (d : decode cc pc = .ok (.lreturn, 1)) (hP : P (some (.long x)) la σ) : W p l e R s m args below meth c H locs cells slots (MQ below (cQ D cy d0 A P) args s cells slots A) (F0 m pc ls [.long x]) :=
  W.lret E.1.1 E.1.2 hr (fun t ht hW => ⟨⟨_, _, _, rfl, hP, by rw [ht]; exact hC⟩, hS.F ht⟩) hS.2.2 d hlk
theorem co_vret {P : Option Value → (Nat → Int → Nat) → MS → Prop} (E : cE p s m args c cc nL own Ts D cy) (hr : meth.sig.returnType = none) (hlk : meth.locks = false) (hC : CP D cy d0 A la σ H) (hS : va_S A s.heap H locs) (d : decode cc pc = .ok (.return_, 1)) (hP : P none la σ) : W p l e R s m args below meth c H locs cells slots (MQ below (cQ D cy d0 A P) args s cells slots A) (F0 m pc ls []) :=
  W.vret E.1.1 E.1.2 hr (fun t ht hW => ⟨⟨_, _, _, rfl, hP, by rw [ht]; exact hC⟩, hS.F ht⟩) hS.2.2 d hlk
end CC
/-- the start of a body -/
theorem cn_of {l : Launch} {y : MethodName} {ws ws' : List Cond} {rm : Room} {D : va_G} {cy : Nat → ClassId} {d0 : Nat} {A : Nat → Prop} {av : List Value} {la : Nat → Int → Nat} {σ : MS} {P : Option Value → (Nat → Int → Nat) → MS → Prop} {mc ms : Nat} {cc : ByteArray} {nL : Nat} {ret : Option FieldType} (hy : plainName y.cls = true) (hw : ws = Cond.code y cc nL ret :: ws') (hn : (lg_sl av).length ≤ nL)
    (body : ∀ (p : Program) (e : Env) (s : State) (m : MethodId) (args : Array Value) (below : List Frame) (meth : Method) (c : Code) (ls : Array Slot), cE p s m args c cc nL y.cls ws D cy → meth.sig.returnType = ret → meth.locks = false → cK D cy d0 A s s.heap → CP D cy d0 A la σ s.heap → va_S A s.heap s.heap [] → lv_has ls nL (lv_args 0 av) → W p l e rm s m args below meth c s.heap [] 0 0 (MQ below (cQ D cy d0 A P) args s mc ms A) (F0 m 0 ls [])) : CN l y ws rm D cy d0 A av la σ P mc ms := by
  refine Met.ofW (cc := cc) (maxL := nL) (ret := ret) hy hw ?_
  intro p e s m args below meth c s₁ B hml hv
  obtain ⟨rfl, hM, hK⟩ := hv
  have hown : s.vm.findClass y.cls = some m.cls := findClass_of_methodNamed B.named
  have hl := lv_entry av hn
  rw [lg_entry_eq]
  exact body p e s m _ below meth c _ ⟨⟨B.exec, B.bytes⟩, hml, hown, atoms_spec (ws := ws) B.pre, hK.1⟩ B.returns B.notSynchronized hK hM va_S.rf hl
theorem ct_of {l : Launch} {y : MethodName} {ws ws' : List Cond} {rm : Room} {D : va_G} {cy : Nat → ClassId} {d0 : Nat} {A : Nat → Prop} {av : List Value} {la : Nat → Int → Nat} {σ : MS} {C : Int} {P : Option Value → (Nat → Int → Nat) → MS → Prop} {mc ms : Nat} {cc : ByteArray} {nL : Nat} {ret : Option FieldType} (hy : plainName y.cls = true) (hw : ws = Cond.code y cc nL ret :: ws') (hn : (lg_sl av).length ≤ nL)
    (body : ∀ (p : Program) (e : Env) (s : State) (m : MethodId) (args : Array Value) (below : List Frame) (meth : Method) (c : Code) (ls : Array Slot), cE p s m args c cc nL y.cls ws D cy → (∀ x ∈ c.exceptionTable.toList, False) → meth.sig.returnType = ret → meth.locks = false → cK D cy d0 A s s.heap → CP D cy d0 A la σ s.heap → va_S A s.heap s.heap [] → lv_has ls nL (lv_args 0 av) → W p l e rm s m args below meth c s.heap [] 0 0 (vx_MQ below (cQ D cy d0 A (fun v la' τ => C = 0 ∧ P v la' τ)) (cXX D cy d0 A C la σ) args s mc ms A) (F0 m 0 ls [])) : CT l y ws rm D cy d0 A av la σ C P mc ms := by
  refine vx_ofW (cc := cc) (maxL := nL) (ret := ret) hy hw ?_
  intro p e s m args below meth c s₁ B hml ht hv
  obtain ⟨rfl, hM, hK⟩ := hv
  have hown : s.vm.findClass y.cls = some m.cls := findClass_of_methodNamed B.named
  have hl := lv_entry av hn
  rw [lg_entry_eq]
  exact body p e s m _ below meth c _ ⟨⟨B.exec, B.bytes⟩, hml, hown, atoms_spec (ws := ws) B.pre, hK.1⟩ ht B.returns B.notSynchronized hK hM va_S.rf hl
