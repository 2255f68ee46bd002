def cNc (U : State) : Prop := ∀ i j : Int, 1 ≤ i → i ≤ 4 → 1 ≤ j → j ≤ 4 → i ≠ j → va_Nc (cName i) (cName j) U
theorem cNc.moved {u U : State} (hvm : u.vm.Alike U.vm) (h : cNc u) : cNc U := fun i j a b c d e => (h i j a b c d e).moved hvm
theorem cTh_cast {k : Int} {s : State} {args : Array Value} (hk : 1 ≤ k ∧ k ≤ 4) (h : cTh s) : (Cond.castable (cName k) (cName k)).before args s = true := by
  obtain ⟨⟨a1, a2, a3, a4⟩, -⟩ := h
  rcases (show k = 1 ∨ k = 2 ∨ k = 3 ∨ k = 4 by omega) with rfl | rfl | rfl | rfl
  · exact va_Nw.use rfl a1
  · exact va_Nw.use rfl a2
  · exact va_Nw.use rfl a3
  · exact va_Nw.use rfl a4
/-- the law's one place for an answer -/
def outA (cy : Nat → ClassId) (a : Nat) (H : Heap) : Prop := ∃ f : Nat → Value, H[a]? = some (arrV (cy 3) 1 f)
def LQ (D : va_G) (cy : Nat → ClassId) (d0 : Nat) (A : Nat → Prop) (la : Nat → Int → Nat) (σ : MS) (a : Nat) (C : Int) (P : Int → (Nat → Int → Nat) → MS → Prop) (H : Heap) : Prop :=
  (C = 0 ∧ ∃ r la' τ, P r la' τ ∧ CP D cy d0 A la' τ H ∧ H[a]? = some (arrV (cy 3) 1 (fun _ => .long (lI r)))) ∨ (C ≠ 0 ∧ CP D cy d0 A la σ H ∧ outA cy a H)
def LQv (D : va_G) (cy : Nat → ClassId) (d0 : Nat) (A : Nat → Prop) (la : Nat → Int → Nat) (σ : MS) (C : Int) (P : (Nat → Int → Nat) → MS → Prop) (H : Heap) : Prop :=
  (C = 0 ∧ ∃ la' τ, P la' τ ∧ CP D cy d0 A la' τ H) ∨ (C ≠ 0 ∧ CP D cy d0 A la σ H)
abbrev lAW (A : Nat → Prop) (a : Nat) : Nat → Prop := fun z => A z ∨ z = a
def lR (C : Int) (Qh : Heap → Prop) (AW : Nat → Prop) : Array Value → State → Outcome → State → Prop := fun _ st oc t => (oc = .returned (some (.int (iI C))) ∧ Qh t.heap) ∧ va_F AW st t
/-- a wrapper with a place for the answer: it answers C; where C is 0, the class's answer lies there -/
def LW (l : Launch) (y : MethodName) (ws : List Cond) (rm : Room) (D : va_G) (cy : Nat → ClassId) (d0 : Nat) (A : Nat → Prop) (av : List Value) (la : Nat → Int → Nat) (σ : MS) (a : Nat) (C : Int) (P : Int → (Nat → Int → Nat) → MS → Prop) (mc ms : Nat) : Prop :=
  Met l y ws rm (va_Pc av (fun U => CP D cy d0 A la σ U.heap ∧ cK D cy d0 A U U.heap ∧ cNc U ∧ outA cy a U.heap)) (lR C (LQ D cy d0 A la σ a C P) (lAW A a)) mc ms (lAW A a)
def LV (l : Launch) (y : MethodName) (ws : List Cond) (rm : Room) (D : va_G) (cy : Nat → ClassId) (d0 : Nat) (A : Nat → Prop) (av : List Value) (la : Nat → Int → Nat) (σ : MS) (C : Int) (P : (Nat → Int → Nat) → MS → Prop) (mc ms : Nat) : Prop :=
  Met l y ws rm (va_Pc av (fun U => CP D cy d0 A la σ U.heap ∧ cK D cy d0 A U U.heap ∧ cNc U)) (lR C (LQv D cy d0 A la σ C P) A) mc ms A
theorem lx_of {l : Launch} {y : MethodName} {ws ws' : List Cond} {rm : Room} {D : va_G} {cy : Nat → ClassId} {av : List Value} {Pre : State → Prop} {Qc : Array Value → State → Outcome → State → Prop} {mc ms : Nat} {free : Nat → Prop} {cc : ByteArray} {nL : Nat} {ret : Option FieldType} {hh : List (Nat × Nat × Nat × Nat)} (hy : plainName y.cls = true) (hw : ws = Cond.codeWith y cc nL ret hh :: ws') (hn : (lg_sl av).length ≤ nL) (hPK : ∀ U, Pre U → va_K D vwCl (cty cy) U)
    (body : ∀ (p : Program) (e : Env) (s : State) (m : MethodId) (args : Array Value) (below : List Frame) (meth : Method) (c : Code) (ls : Array Slot), cE p s m args c cc nL y.cls ws D cy → c.exceptionTable.toList = tableOf hh → meth.sig.returnType = ret → meth.locks = false → Pre s → lv_has ls nL (lv_args 0 av) → W p l e rm s m args below meth c s.heap [] 0 0 (MQ below Qc args s mc ms free) (F0 m 0 ls [])) : Met l y ws rm (va_Pc av Pre) Qc mc ms free := by
  refine va_MetW (cc := cc) (maxL := nL) (ret := ret) (hh := hh) hy hw ?_
  intro p e s m args below meth c s₁ B hml hv
  obtain ⟨rfl, hP⟩ := hv
  have hown : s.vm.findClass y.cls = some m.cls := findClass_of_methodNamed B.named
  have hl := lv_entry av hn
  have hts := atoms_spec (ws := ws) B.pre
  rw [lg_entry_eq]
  exact body p e s m _ below meth c _ ⟨⟨B.exec, B.bytes⟩, hml, hown, hts, hPK _ hP⟩ (vx_table (x := y) B (hts _ (by rw [hw]; exact List.mem_cons_self))) B.returns B.notSynchronized hP hl
section LXW
variable {p : Program} {l : Launch} {e : Env} {R : Room} {s : State} {m : MethodId} {args : Array Value} {below : List Frame} {meth : Method} {c : Code} {H : Heap} {locs : List Loc} {cells slots : Nat} {Q : State → Prop}
variable {cc : ByteArray} {pc : Nat} {ls : Array Slot} {rest st : List Value} {nL : Nat} {lv : List (Nat × Value)} {Ts : List Cond} {D : va_G} {cy : Nat → ClassId} {d0 : Nat} {A : Nat → Prop} {la : Nat → Int → Nat} {σ : MS}
theorem lx_call {y : MethodName} {bytes : ByteArray} {maxL n index mc ms : Nat} {ret : Option FieldType} {wsy : List Cond} {rm : Room} {av : List Value} {C1 : Int} {P : Option Value → (Nat → Int → Nat) → MS → Prop} (E : cE p s m args c cc nL RL Ts D cy) (hK : cK D cy d0 A s s.heap) (hC : CP D cy d0 A la σ s.heap) (hl : lv_has ls nL lv)
    (hM : CT l y wsy rm D cy d0 A (.ref (la 0 0) :: av) la σ C1 P mc ms) (cw : CallW R s args RL RX10 index y bytes maxL ret wsy rm mc ms n) (hst : st = av.reverse ++ .ref (la 0 0) :: rest) (hn : av.length = n) (hW : (rest.map fun v => v.category).sum ≤ 8) (d : decode cc pc = .ok (.invokevirtual index, 3)) (hf : 0 + mc ≤ R.cells ∧ 0 + ms ≤ R.slots)
    (kx : C1 ≠ 0 → ∀ (H1 : Heap) (locs1 : List Loc) (q : Nat) (ce : Cell), CP D cy d0 A la σ H1 → va_S A s.heap H1 locs1 → H1[q]? = some ce → ce.vm = .none → s.vm.findClass (cName C1) = some ce.cls → vx_W p l e R s m args below meth c H1 locs1 (0 + mc) (0 + ms) Q (F0 m pc ls rest) q)
    (kk : C1 = 0 → ∀ (H1 : Heap) (locs1 : List Loc) (v : Option Value) (la1 : Nat → Int → Nat) (σ1 : MS), P v la1 σ1 → CP D cy d0 A la1 σ1 H1 → va_S A s.heap H1 locs1 → W p l e R s m args below meth c H1 locs1 (0 + mc) (0 + ms) Q (F0 m (pc + 3) ls (v.toList ++ rest))) : W p l e R s m args below meth c s.heap [] 0 0 Q (F0 m pc ls st) := by
  have hr := vx_runV (l := l) (e := e) (below := below) (meth := meth) (locs := []) (cells := 0) (slots := 0) (As := av) (rest := rest) (g := F0 m pc ls st) (cFix E) hM cw (H := s.heap) ⟨cPre, cRecv hK hC (κ := 0) (i := 0) (by decide) cl_0 rfl, fun U hU hW => ⟨rfl, by rw [hU]; exact hC, by rw [hU]; exact hK.moved hW⟩⟩ rfl hn hl.1 hst (lv_room hW) d hf
  intro T hT X
  rcases hr T hT X with ⟨v9, st₀, t, T', L, h0, X', hL, e1, e2, ⟨⟨v, la1, σ1, hv, hp, hM1⟩, hz, hk⟩, st9⟩ | ⟨q, st₀, t, T', L, En, ce, h0, X', hL, e1, e2, ⟨h9, rfl, hM1, hz, hk⟩, hce, hcv, hcl, st9⟩
  · cases hv
    rw [h0] at hz hk
    obtain ⟨t2, a1, b1⟩ := kk hp.1 T'.heap ([] ++ L) v9 la1 σ1 hp.2 (by rw [e1]; exact hM1) (cRun va_S.rf (by rw [e1]; exact hz) (by rw [e1]; exact hk) hL) T' rfl X'
    exact ⟨t2, st9 t2 a1, b1⟩
  · rw [h0] at hz hk
    have hS1 : va_S A s.heap T'.heap ([] ++ L) := cRun (L := L) (locs := []) va_S.rf (by rw [e1]; exact hz) (by rw [e1]; exact hk) hL (H1 := T'.heap)
    obtain ⟨t2, a1, b1⟩ := kx h9 T'.heap ([] ++ L) q ce (by rw [e1]; exact hM1) hS1 (by rw [e1]; exact hce) hcv hcl T' rfl X'
    exact ⟨t2, st9.trans a1, b1⟩
theorem lx_catch {k : Int} {pre suf : List (Nat × Nat × Nat × Nat)} {x : Nat × Nat × Nat × Nat} {q : Nat} {ce : Cell} (E : cE p s m args c cc nL RL Ts D cy) (htab : c.exceptionTable.toList = tableOf (pre ++ x :: suf)) (hpass : ∀ z ∈ pre, ∃ j : Int, (1 ≤ j ∧ j ≤ 4) ∧ j ≠ k ∧ z.2.2.2 ≠ 0 ∧ (Cond.classLink RL z.2.2.2 (cName j)).before args s = true) (hk : 1 ≤ k ∧ k ≤ 4) (hNc : cNc s) (hcov : covers ⟨x.1, x.2.1, x.2.2.1, x.2.2.2⟩ pc = true) (h0 : x.2.2.2 ≠ 0) (hlink : (Cond.classLink RL x.2.2.2 (cName k)).before args s = true) (hcast : (Cond.castable (cName k) (cName k)).before args s = true) (hcell : H[q]? = some ce) (hv : ce.vm = .none) (hcl : s.vm.findClass (cName k) = some ce.cls) (kk : W p l e R s m args below meth c H locs cells slots Q (F0 m x.2.2.1 ls [.ref q])) : vx_W p l e R s m args below meth c H locs cells slots Q (F0 m pc ls rest) q := by
  refine vx_catch (own := RL) (name := cName k) (E := cName k) E.2.2.1 (tableOf pre) ⟨x.1, x.2.1, x.2.2.1, x.2.2.2⟩ (tableOf suf) (by rw [htab]; simp [tableOf]) (fun z hz => ?_) hcov h0 hlink hcast hcell hv hcl kk
  obtain ⟨y, hy, rfl⟩ := List.mem_map.mp hz
  obtain ⟨j, hj, hjk, hy0, hl⟩ := hpass y hy
  exact Or.inr ⟨hy0, _, hl, hNc k j hk.1 hk.2 hj.1 hj.2 (Ne.symm hjk)⟩
theorem lx_last {r : Int} {a : Nat} {AW : Nat → Prop} (E : cE p s m args c cc nL RL Ts D cy) (ho : outA cy a H) (hS : va_S AW s.heap H locs) (hA : AW a) (d : decode cc pc = .ok (.lastore, 1))
    (kk : ∀ (H1 : Heap) (locs1 : List Loc), H1[a]? = some (arrV (cy 3) 1 (fun _ => .long (lI r))) → (∀ q, q ≠ a → H1[q]? = H[q]?) → va_S AW s.heap H1 locs1 → W p l e R s m args below meth c H1 locs1 cells slots Q (F0 m (pc + 1) ls rest)) : W p l e R s m args below meth c H locs cells slots Q (F0 m pc ls (.long (lI r) :: .int (iI 0) :: .ref a :: rest)) := by
  obtain ⟨f, hf⟩ := ho
  obtain ⟨B, -, -, -, hK⟩ := E
  refine W.last B.1 B.2 hf ((hK.2 2 _ rfl).1 _ _) (fun q => by cases q) (by rw [arrV_size]; exact iI_in ⟨by decide, by decide⟩ (by decide)) rfl rfl d fun H1 e z oq => ?_
  refine kk H1 _ ?_ oq (hS.put z oq hA)
  rw [e, arrV_store, iI_clamp ⟨by decide, by decide⟩]
  congr 1
theorem lx_iret {x C : Int} {Qh : Heap → Prop} {AW : Nat → Prop} (E : cE p s m args c cc nL RL Ts D cy) (hr : meth.sig.returnType = some .int) (hlk : meth.locks = false) (hS : va_S AW s.heap H locs) (d : decode cc pc = .ok (.ireturn, 1)) (hx : x = C) (hQ : Qh H) : W p l e R s m args below meth c H locs cells slots (MQ below (lR C Qh AW) args s cells slots AW) (F0 m pc ls [.int (iI x)]) := by
  subst hx
  exact W.zret E.1.1 E.1.2 hr rfl (fun t ht hW => ⟨⟨rfl, by rw [ht]; exact hQ⟩, hS.F ht⟩) hS.2.2 d hlk
end LXW
theorem va_S.aw {A : Nat → Prop} {H0 H : Heap} {locs : List Loc} {a : Nat} (h : va_S A H0 H locs) : va_S (lAW A a) H0 H locs := ⟨h.1, fun q h1 h2 => h.2.1 q h1 (fun z => h2 (Or.inl z)), fun q hq => Or.inl (h.2.2 q hq)⟩
