/-! BARE CONTRACTS: over cells that are not in the town's picture, or not yet -/
theorem cK.sub {D : va_G} {cy : Nat → ClassId} {d0 : Nat} {A A' : Nat → Prop} {U : State} {H : Heap} (h : cK D cy d0 A U H) (hA : ∀ q, A' q → A q) (hn : ∀ q, H.size ≤ q → A' q) : cK D cy d0 A' U H := by
  obtain ⟨h1, h2, h3, h4, h5, h6, h7, h8⟩ := h
  refine ⟨h1, h2.narrow hA, h3.narrow hA, ?_, h5, fun q => h6 (hA _ q), hn, h8⟩
  obtain ⟨cf, kf, fi, f, a, cell, y1, y2, y3, y4, y5, y6, y7, y8⟩ := h4
  exact ⟨cf, kf, fi, f, a, cell, y1, y2, y3, y4, y5, y6, y7, fun q => y8 (hA _ q)⟩
def bQ (A : Nat → Prop) (P : Option Value → Heap → Heap → Prop) : Array Value → State → Outcome → State → Prop := fun _ st oc t => (∃ v, oc = .returned v ∧ P v st.heap t.heap) ∧ va_F A st t
/-- from every heap of which Pre: it returns some v, and P of v, the heap ahead and behind; nothing else is written -/
def CB (l : Launch) (y : MethodName) (ws : List Cond) (rm : Room) (D : va_G) (cy : Nat → ClassId) (d0 : Nat) (A : Nat → Prop) (av : List Value) (Pre : Heap → Prop) (P : Option Value → Heap → Heap → Prop) (mc ms : Nat) : Prop :=
  Met l y ws rm (va_Pc av (fun U => Pre U.heap ∧ cK D cy d0 A U U.heap)) (bQ A P) mc ms A
theorem cb_of {l : Launch} {y : MethodName} {ws ws' : List Cond} {rm : Room} {D : va_G} {cy : Nat → ClassId} {d0 : Nat} {A : Nat → Prop} {av : List Value} {Pre : Heap → Prop} {P : Option Value → Heap → Heap → Prop} {mc ms : Nat} {cc : ByteArray} {nL : Nat} {ret : Option FieldType} (hy : plainName y.cls = true) (hw : ws = Cond.code y cc nL ret :: ws') (hn : (lg_sl av).length ≤ nL)
    (body : ∀ (p : Program) (e : Env) (s : State) (m : MethodId) (args : Array Value) (below : List Frame) (meth : Method) (c : Code) (ls : Array Slot), cE p s m args c cc nL y.cls ws D cy → meth.sig.returnType = ret → meth.locks = false → meth.name = y.name → cK D cy d0 A s s.heap → Pre s.heap → va_S A s.heap s.heap [] → lv_has ls nL (lv_args 0 av) → W p l e rm s m args below meth c s.heap [] 0 0 (MQ below (bQ A P) args s mc ms A) (F0 m 0 ls [])) : CB l y ws rm D cy d0 A av Pre P mc ms := by
  refine Met.ofW (cc := cc) (maxL := nL) (ret := ret) hy hw ?_
  intro p e s m args below meth c s₁ B hml hv
  obtain ⟨rfl, hM, hK⟩ := hv
  have hown : s.vm.findClass y.cls = some m.cls := findClass_of_methodNamed B.named
  have hl := lv_entry av hn
  rw [lg_entry_eq]
  exact body p e s m _ below meth c _ ⟨⟨B.exec, B.bytes⟩, hml, hown, atoms_spec (ws := ws) B.pre, hK.1⟩ B.returns B.notSynchronized (name_of_methodNamed B.named B.method).1 hK hM va_S.rf hl
section OB
variable {p : Program} {l : Launch} {e : Env} {R : Room} {s : State} {m : MethodId} {args : Array Value} {below : List Frame} {meth : Method} {c : Code} {H : Heap} {locs : List Loc} {cells slots : Nat} {Q : State → Prop}
variable {cc : ByteArray} {pc : Nat} {ls : Array Slot} {rest st : List Value} {nL : Nat} {lv : List (Nat × Value)} {Ts : List Cond} {D : va_G} {cy : Nat → ClassId} {d0 : Nat} {A : Nat → Prop} {idx : Nat} {own ref C : String} {T : u_T}
theorem cbPre {av : List Value} {Pre : Heap → Prop} : FrameBlind (va_Pc av (fun U => Pre U.heap ∧ cK D cy d0 A U U.heap)) := fun a U g mk q => by
  obtain ⟨q1, q2, q3⟩ := q
  exact ⟨q1, q2, cK.same (u := U) (U := U.calling g mk a) rfl q3⟩
theorem cbRun {A' : Nat → Prop} {H1 : Heap} {L : List Loc} (hA' : ∀ q, A' q → A q) (hS : va_S A s.heap H locs) (hz : H.size ≤ H1.size) (hk : ∀ q : Nat, q < H.size → ¬ A' q → H1[q]? = H[q]?) (hL : ∀ q ∈ L, A' q.base) : va_S A s.heap H1 (locs ++ L) :=
  ⟨Nat.le_trans hS.1 hz, fun q h1 h2 => by rw [hk q (Nat.lt_of_lt_of_le h1 hS.1) (fun z => h2 (hA' q z))]; exact hS.2.1 q h1 h2, fun q hq => by
    rcases List.mem_append.mp hq with h | h
    · exact hS.2.2 q h
    · exact hA' _ (hL q h)⟩
/-- an object is a receiver -/
theorem obRecv {a ci N : Nat} {V : Nat → Value} (hK : cK D cy d0 A s s.heap) (hO : t_OB a (D.1 ci) N (D.2 ci) H V) (hc : vwCl[ci]? = some (C, T, N)) : ∃ cell : Cell, H[a]? = some cell ∧ cell.vm.isStatics = false ∧ s.vm.findClass C = some cell.cls := by
  obtain ⟨cell, h1, h2, h3, -⟩ := hO
  exact ⟨cell, h1, by rw [h3]; rfl, by rw [h2]; exact (hK.1.1 _ _ hc).2.1⟩
theorem cb_callV {A' : Nat → Prop} {b : Nat} {y : MethodName} {bytes : ByteArray} {maxL n index mc ms : Nat} {ret : Option FieldType} {wsy : List Cond} {rm : Room} {av : List Value} {Pre : Heap → Prop} {P : Option Value → Heap → Heap → Prop} (E : cE p s m args c cc nL own Ts D cy) (hK : cK D cy d0 A s s.heap) (hS : va_S A s.heap H locs) (hl : lv_has ls nL lv) (hA' : ∀ q, A' q → A q) (hn' : ∀ q, H.size ≤ q → A' q) (hr : ∃ cell : Cell, H[b]? = some cell ∧ cell.vm.isStatics = false ∧ s.vm.findClass C = some cell.cls)
    (hM : CB l y wsy rm D cy d0 A' (.ref b :: av) Pre P mc ms) (hpre : Pre H) (cw : CallW R s args own C index y bytes maxL ret wsy rm mc ms n) (hst : st = av.reverse ++ .ref b :: rest) (hn : av.length = n) (hW : (rest.map fun v => v.category).sum ≤ 8) (d : decode cc pc = .ok (.invokevirtual index, 3)) (hf : cells + mc ≤ R.cells ∧ slots + ms ≤ R.slots)
    (kk : ∀ (H1 : Heap) (locs1 : List Loc) (v : Option Value), P v H H1 → H.size ≤ H1.size → (∀ q : Nat, q < H.size → ¬ A' q → H1[q]? = H[q]?) → va_S A s.heap H1 locs1 → W p l e R s m args below meth c H1 locs1 (cells + mc) (slots + ms) Q (F0 m (pc + 3) ls (v.toList ++ rest))) : W p l e R s m args below meth c H locs cells slots Q (F0 m pc ls st) := by
  have hr := va_runV (l := l) (e := e) (below := below) (meth := meth) (locs := locs) (cells := cells) (slots := slots) (As := av) (rest := rest) (g := F0 m pc ls st) (cFix E) hM cw (H := H) ⟨cbPre, hr, fun U hU hW => ⟨rfl, by rw [hU]; exact hpre, by rw [hU]; exact ((hK.kept hS).sub hA' hn').moved hW⟩⟩ rfl hn hl.1 hst (lv_room hW) d hf
  intro T hT X
  obtain ⟨v9, st₀, t, T', L, h0, X', hL, e1, e2, ⟨⟨v, hv, hp⟩, hz, hk⟩, st9⟩ := hr T hT X
  cases hv
  rw [h0] at hz hk hp
  obtain ⟨t2, a1, b1⟩ := kk T'.heap (locs ++ L) v9 (by rw [e1]; exact hp) (by rw [e1]; exact hz) (by rw [e1]; exact hk) (cbRun hA' hS (by rw [e1]; exact hz) (by rw [e1]; exact hk) hL) T' rfl X'
  exact ⟨t2, st9 t2 a1, b1⟩
theorem cb_callI {A' : Nat → Prop} {b : Nat} {y : MethodName} {bytes : ByteArray} {maxL n index mc ms : Nat} {wsy : List Cond} {rm : Room} {av : List Value} {Pre : Heap → Prop} {P : Option Value → Heap → Heap → Prop} (E : cE p s m args c cc nL own Ts D cy) (hK : cK D cy d0 A s s.heap) (hS : va_S A s.heap H locs) (hl : lv_has ls nL lv) (hA' : ∀ q, A' q → A q) (hn' : ∀ q, H.size ≤ q → A' q)
    (hM : CB l y wsy rm D cy d0 A' (.ref b :: av) Pre P mc ms) (hpre : Pre H) (cw : CallB R s args own index y bytes maxL none wsy rm mc ms n ∧ y.name = "<init>" ∧ (Cond.instanceMethod y).before args s = true) (hst : st = av.reverse ++ .ref b :: rest) (hn : av.length = n) (hW : (rest.map fun v => v.category).sum ≤ 8) (d : decode cc pc = .ok (.invokespecial index, 3)) (hf : cells + mc ≤ R.cells ∧ slots + ms ≤ R.slots)
    (kk : ∀ (H1 : Heap) (locs1 : List Loc) (v : Option Value), P v H H1 → H.size ≤ H1.size → (∀ q : Nat, q < H.size → ¬ A' q → H1[q]? = H[q]?) → va_S A s.heap H1 locs1 → W p l e R s m args below meth c H1 locs1 (cells + mc) (slots + ms) Q (F0 m (pc + 3) ls (v.toList ++ rest))) : W p l e R s m args below meth c H locs cells slots Q (F0 m pc ls st) := by
  have hr := va_runI (l := l) (e := e) (below := below) (meth := meth) (locs := locs) (cells := cells) (slots := slots) (As := av) (rest := rest) (g := F0 m pc ls st) (cFix E) hM cw (H := H) ⟨cbPre, fun U hU hW => ⟨rfl, by rw [hU]; exact hpre, by rw [hU]; exact ((hK.kept hS).sub hA' hn').moved hW⟩⟩ rfl hn hl.1 hst (lv_room hW) d hf
  intro T hT X
  obtain ⟨v9, st₀, t, T', L, h0, X', hL, e1, e2, ⟨⟨v, hv, hp⟩, hz, hk⟩, st9⟩ := hr T hT X
  cases hv
  rw [h0] at hz hk hp
  obtain ⟨t2, a1, b1⟩ := kk T'.heap (locs ++ L) v9 (by rw [e1]; exact hp) (by rw [e1]; exact hz) (by rw [e1]; exact hk) (cbRun hA' hS (by rw [e1]; exact hz) (by rw [e1]; exact hk) hL) T' rfl X'
  exact ⟨t2, st9 t2 a1, b1⟩
theorem cb_callS {A' : Nat → Prop} {y : MethodName} {bytes : ByteArray} {maxL n index mc ms : Nat} {ret : Option FieldType} {wsy : List Cond} {rm : Room} {av : List Value} {Pre : Heap → Prop} {P : Option Value → Heap → Heap → Prop} (E : cE p s m args c cc nL own Ts D cy) (hK : cK D cy d0 A s s.heap) (hS : va_S A s.heap H locs) (hl : lv_has ls nL lv) (hA' : ∀ q, A' q → A q) (hn' : ∀ q, H.size ≤ q → A' q)
    (hM : CB l y wsy rm D cy d0 A' av Pre P mc ms) (hpre : Pre H) (cw : CallB R s args own index y bytes maxL ret wsy rm mc ms n ∧ (Cond.static y).before args s = true) (hst : st = av.reverse ++ rest) (hn : av.length = n) (hW : (rest.map fun v => v.category).sum ≤ 8) (d : decode cc pc = .ok (.invokestatic index, 3)) (hf : cells + mc ≤ R.cells ∧ slots + ms ≤ R.slots)
    (kk : ∀ (H1 : Heap) (locs1 : List Loc) (v : Option Value), P v H H1 → H.size ≤ H1.size → (∀ q : Nat, q < H.size → ¬ A' q → H1[q]? = H[q]?) → va_S A s.heap H1 locs1 → W p l e R s m args below meth c H1 locs1 (cells + mc) (slots + ms) Q (F0 m (pc + 3) ls (v.toList ++ rest))) : W p l e R s m args below meth c H locs cells slots Q (F0 m pc ls st) := by
  have hr := va_runS (l := l) (e := e) (below := below) (meth := meth) (locs := locs) (cells := cells) (slots := slots) (As := av) (rest := rest) (g := F0 m pc ls st) (cFix E) hM cw (H := H) ⟨cbPre, fun U hU hW => ⟨rfl, by rw [hU]; exact hpre, by rw [hU]; exact ((hK.kept hS).sub hA' hn').moved hW⟩⟩ rfl hn hl.1 hst (lv_room hW) d hf
  intro T hT X
  obtain ⟨v9, st₀, t, T', L, h0, X', hL, e1, e2, ⟨⟨v, hv, hp⟩, hz, hk⟩, st9⟩ := hr T hT X
  cases hv
  rw [h0] at hz hk hp
  obtain ⟨t2, a1, b1⟩ := kk T'.heap (locs ++ L) v9 (by rw [e1]; exact hp) (by rw [e1]; exact hz) (by rw [e1]; exact hk) (cbRun hA' hS (by rw [e1]; exact hz) (by rw [e1]; exact hk) hL) T' rfl X'
  exact ⟨t2, st9 t2 a1, b1⟩
theorem ob_get {a ci N : Nat} {V : Nat → Value} {val : Value} (E : cE p s m args c cc nL own Ts D cy) (hO : t_OB a (D.1 ci) N (D.2 ci) H V) (hc : vwCl[ci]? = some (C, T, N)) (hin : ∀ w ∈ u_ws C T N, w ∈ Ts) (k : Nat) (hk : k < N) (hlink : (Cond.fieldLink own idx ref (T k).2.1 (T k).2.2.1).before args s = true) (hsame : ∀ x, s.fieldFound? (T k).1 (T k).2.1 (T k).2.2.1 = some x → s.fieldFound? ref (T k).2.1 (T k).2.2.1 = some x) (d : decode cc pc = .ok (.getfield idx, 3)) (hv : V k = val) (kk : W p l e R s m args below meth c H locs cells slots Q (F0 m (pc + 3) ls (val :: rest))) : W p l e R s m args below meth c H locs cells slots Q (F0 m pc ls (.ref a :: rest)) := by
  subst hv
  obtain ⟨B, -, hown, hts, hK⟩ := E
  have hP : va_P D vwCl [(a, .inr (ci, (List.range N).map V))] H := by
    intro k0 q hq
    match k0, hq with
    | 0, hq =>
      cases hq
      exact ⟨_, hc, hO.to (fun j hj => by simp [vp_V, hj])⟩
    | k0 + 1, hq => simp at hq
  exact va_get (D := D) (ci := ci) (v := V k) (C := C) (T := T) (N := N) B.1 B.2 hts hin hown hK hP 0 rfl hc k hk hlink hsame (by simp [hk]) d kk
theorem ob_put {a ci N : Nat} {V : Nat → Value} {val : Value} {ty : FieldType} {ty0 : Nat → FieldType} (E : cE p s m args c cc nL own Ts D cy) (hO : t_OB a (D.1 ci) N (D.2 ci) H V) (hS : va_S A s.heap H locs) (ha : A a) (hc : vwCl[ci]? = some (C, T, N)) (hin : ∀ w ∈ u_ws C T N, w ∈ Ts) (hty : ∀ k, k < N → parseFieldDescriptor (T k).2.2.1 = some (ty0 k)) (hnm : ∀ a, a < N → ∀ b, b < N → a ≠ b → (T a).2.1 ≠ (T b).2.1) (k : Nat) (hk : k < N) (hlink : (Cond.fieldLink own idx ref (T k).2.1 (T k).2.2.1).before args s = true) (hsame : ∀ x, s.fieldFound? (T k).1 (T k).2.1 (T k).2.2.1 = some x → s.fieldFound? ref (T k).2.1 (T k).2.2.1 = some x) (hfin : (T k).2.2.2 = false) (hd : parseFieldDescriptor (T k).2.2.1 = some ty) (hnr : narrow ty val = val) (hfit : fits ty val = true) (d : decode cc pc = .ok (.putfield idx, 3))
    (kk : ∀ (H1 : Heap) (locs1 : List Loc), t_OB a (D.1 ci) N (D.2 ci) H1 (updV V k val) → (∀ q, q ≠ a → H1[q]? = H[q]?) → H1.size = H.size → va_S A s.heap H1 locs1 → W p l e R s m args below meth c H1 locs1 cells slots Q (F0 m (pc + 3) ls rest)) : W p l e R s m args below meth c H locs cells slots Q (F0 m pc ls (val :: .ref a :: rest)) := by
  obtain ⟨B, -, hown, hts, hK⟩ := E
  have hap := va_apart (own := own) hts hin ty0 hty hnm hK (ci := ci) hc
  obtain ⟨cell, q1, q2, q3, q4⟩ := hO
  obtain ⟨hSl, hfc, kC, hkC, hkind⟩ := hK.1 ci _ hc
  obtain ⟨cf, kf, fi, f, hi, hsl⟩ := hSl k hk
  have hlay := hts _ (hin _ (u_in_lay hk))
  unfold u_lay at hlay
  rw [if_neg (by rw [hfin]; decide)] at hlay
  have hst := (u_facts hfc hkC (u_lays hts hin hk) hi).1
  have h6 := u_store hfc hkC hkind hlay hi hd hnr hfit
  refine W.putK B.1 B.2 (f := f) ⟨hown, hlink, ⟨_, _, _, hsame _ hi⟩, hst⟩ (by rw [q2]; exact h6) q1 q3 (by rw [hsl]; exact k2_hasslot (q4 k hk)) rfl rfl d fun H' e1 e2 e3 => ?_
  rw [hsl] at e1 ⊢
  exact kk H' _ ⟨_, e1, q2, q3, t_set q4 hap hk _⟩ e3 e2 (hS.put e2 e3 ha)
theorem ob_putF {a ci N : Nat} {V : Nat → Value} {val : Value} {ty : FieldType} {ty0 : Nat → FieldType} (E : cE p s m args c cc nL own Ts D cy) (hO : t_OB a (D.1 ci) N (D.2 ci) H V) (hS : va_S A s.heap H locs) (ha : A a) (hc : vwCl[ci]? = some (C, T, N)) (hin : ∀ w ∈ u_ws C T N, w ∈ Ts) (hty : ∀ k, k < N → parseFieldDescriptor (T k).2.2.1 = some (ty0 k)) (hnm : ∀ a, a < N → ∀ b, b < N → a ≠ b → (T a).2.1 ≠ (T b).2.1) (k : Nat) (hk : k < N) (hlink : (Cond.fieldLink own idx ref (T k).2.1 (T k).2.2.1).before args s = true) (hsame : ∀ x, s.fieldFound? (T k).1 (T k).2.1 (T k).2.2.1 = some x → s.fieldFound? ref (T k).2.1 (T k).2.2.1 = some x) (hfin : (T k).2.2.2 = true) (hin2 : meth.name = "<init>") (hdecl : (T k).1 = own) (hd : parseFieldDescriptor (T k).2.2.1 = some ty) (hnr : narrow ty val = val) (hfit : fits ty val = true) (d : decode cc pc = .ok (.putfield idx, 3))
    (kk : ∀ (H1 : Heap) (locs1 : List Loc), t_OB a (D.1 ci) N (D.2 ci) H1 (updV V k val) → (∀ q, q ≠ a → H1[q]? = H[q]?) → H1.size = H.size → va_S A s.heap H1 locs1 → W p l e R s m args below meth c H1 locs1 cells slots Q (F0 m (pc + 3) ls rest)) : W p l e R s m args below meth c H locs cells slots Q (F0 m pc ls (val :: .ref a :: rest)) := by
  obtain ⟨B, -, hown, hts, hK⟩ := E
  have hap := va_apart (own := own) hts hin ty0 hty hnm hK (ci := ci) hc
  obtain ⟨cell, q1, q2, q3, q4⟩ := hO
  obtain ⟨hSl, hfc, kC, hkC, hkind⟩ := hK.1 ci _ hc
  obtain ⟨cf, kf, fi, f, hi, hsl⟩ := hSl k hk
  have hlay := hts _ (hin _ (u_in_lay hk))
  unfold u_lay at hlay
  rw [if_pos hfin] at hlay
  have hst := (u_facts hfc hkC (u_lays hts hin hk) hi).1
  have hcf : m.cls = cf := by
    obtain ⟨_, _, c', _, _, _, -, -, hf', -, -, -, hown2, -⟩ := Cond.laysFinal_spec hlay
    have e1 : c' = cf := by have := hi.symm.trans hf'; simp at this; exact this.1.symm
    rw [hdecl] at hown2
    rw [← e1]; exact Option.some.inj (hown.symm.trans hown2)
  have h6 := u_fits hfc hkC hkind (Or.inr hlay) hi hd hnr hfit
  refine W.putFinK B.1 B.2 hown hlink (hsame _ hi) hst hcf hin2 (by rw [q2]; exact h6) q1 q3 (by rw [hsl]; exact k2_hasslot (q4 k hk)) rfl rfl d fun H' e1 e2 e3 => ?_
  rw [hsl] at e1 ⊢
  exact kk H' _ ⟨_, e1, q2, q3, t_set q4 hap hk _⟩ e3 e2 (hS.put e2 e3 ha)
/-- a new object -/
theorem ob_new {ci N : Nat} {ty0 : Nat → FieldType} (E : cE p s m args c cc nL own Ts D cy) (hS : va_S A s.heap H locs) (hc : vwCl[ci]? = some (C, T, N)) (hin : ∀ w ∈ u_ws C T N, w ∈ Ts) (hty : ∀ k, k < N → parseFieldDescriptor (T k).2.2.1 = some (ty0 k)) (hcl : (Cond.classLink own idx C).before args s = true) (hinst : (Cond.instantiable C N).before args s = true) (hini : (Cond.initialized C).before args s = true) (hcells : cells + 1 ≤ R.cells) (hslots : slots + N ≤ R.slots) (d : decode cc pc = .ok (.new idx, 3))
    (kk : ∀ H1 : Heap, t_OB H.size (D.1 ci) N (D.2 ci) H1 (fun k => defaultValue (ty0 k)) → (∀ q, q < H.size → H1[q]? = H[q]?) → H1.size = H.size + 1 → va_S A s.heap H1 locs → W p l e R s m args below meth c H1 locs (cells + 1) (slots + N) Q (F0 m (pc + 3) ls (.ref H.size :: rest))) : W p l e R s m args below meth c H locs cells slots Q (F0 m pc ls rest) := by
  obtain ⟨B, -, hown, hts, hK⟩ := E
  have hKn := hK.1 ci _ hc
  refine W.newcK B.1 B.2 hown hcl hinst hini rfl d hcells hslots hKn.2.1 rfl fun H1 kC hkC e1 z1 o1 => ?_
  exact kk H1 (u_born ty0 hts hin hKn hkC e1 hty) o1 z1 ⟨Nat.le_trans hS.1 (by omega), fun x h1 h2 => (o1 x (Nat.lt_of_lt_of_le h1 hS.1)).trans (hS.2.1 x h1 h2), hS.2.2⟩
/-- a new array of ints, booleans -/
theorem ob_newa {atype : ArrayType} {n : Int} {t0 : Nat} {ty : FieldType} {cA0 : ClassId} (E : cE p s m args c cc nL own Ts D cy) (hS : va_S A s.heap H locs) (harr : (Cond.arrayClass (newarray.typeOf atype)).before args s = true) (hty : newarray.typeOf atype = ty) (htys : (cty cy)[t0]? = some (cA0, ty)) (hnm : ty = .int ∨ ty = .boolean ∨ ty = .long) (hn : 0 ≤ n ∧ n ≤ 1000) (hcells : cells + 1 ≤ R.cells) (hslots : slots + n.toNat ≤ R.slots) (d : decode cc pc = .ok (.newarray atype, 2))
    (kk : ∀ H1 : Heap, H1[H.size]? = some (arrV cA0 n.toNat (fun _ => defaultValue ty)) → (∀ q, q < H.size → H1[q]? = H[q]?) → H1.size = H.size + 1 → va_S A s.heap H1 locs → W p l e R s m args below meth c H1 locs (cells + 1) (slots + n.toNat) Q (F0 m (pc + 2) ls (.ref H.size :: rest))) : W p l e R s m args below meth c H locs cells slots Q (F0 m pc ls (.int (iI n) :: rest)) := by
  subst hty
  obtain ⟨B, -, hown, hts, hK⟩ := E
  have hcl : (iI n).toNatClampNeg = n.toNat := iI_clamp ⟨hn.1, by omega⟩
  refine va_newaK B.1 B.2 harr rfl d rfl (fun q => absurd ((iI_lt (a := n) (b := 0) ⟨by omega, by omega⟩ (by decide)).mp q) (by omega)) hcl (by rcases hnm with h | h | h <;> rw [h] <;> (show n.toNat * _ ≤ 536870912) <;> simp [componentBytes] <;> omega) hcells hslots rfl fun H1 cA e1 z1 o1 hAr hNm => ?_
  have hra := (hK.2 t0 _ htys).2
  have he : cA = cA0 := by
    rcases hnm with h | h | h <;> (rw [h] at hra hNm; exact Option.some.inj (hNm.symm.trans hra))
  subst he
  exact kk H1 e1 o1 z1 ⟨Nat.le_trans hS.1 (by omega), fun x h1 h2 => (o1 x (Nat.lt_of_lt_of_le h1 hS.1)).trans (hS.2.1 x h1 h2), hS.2.2⟩
/-- a new array of objects -/
theorem ob_newq {n : Int} (E : cE p s m args c cc nL own Ts D cy) (hK : cK D cy d0 A s s.heap) (hS : va_S A s.heap H locs) (hcl : (Cond.classLink own idx "java/lang/Object").before args s = true) (hn : 0 ≤ n ∧ n ≤ 100000) (hcells : cells + 1 ≤ R.cells) (hslots : slots + n.toNat ≤ R.slots) (d : decode cc pc = .ok (.anewarray idx, 3))
    (kk : ∀ H1 : Heap, H1[H.size]? = some (arrV (cy 4) n.toNat (fun _ => .null)) → (∀ q, q < H.size → H1[q]? = H[q]?) → H1.size = H.size + 1 → va_S A s.heap H1 locs → W p l e R s m args below meth c H1 locs (cells + 1) (slots + n.toNat) Q (F0 m (pc + 3) ls (.ref H.size :: rest))) : W p l e R s m args below meth c H locs cells slots Q (F0 m pc ls (.int (iI n) :: rest)) := by
  obtain ⟨B, -, hown, hts, hK0⟩ := E
  have hcm : (iI n).toNatClampNeg = n.toNat := iI_clamp ⟨hn.1, by omega⟩
  have hover := va_AO.use (A := args) hK.2.2.2.2.2.2.2.2.2.2.2.2.2.2.2.2.2.1
  refine W.anew B.1 B.2 hown hcl hover rfl d rfl (fun q => absurd ((iI_lt (a := n) (b := 0) ⟨by omega, by omega⟩ (by decide)).mp q) (by omega)) (by rw [hcm]; omega) hcells (by rw [hcm]; exact hslots) fun cA kA comp f1 f2 f3 f4 => ?_
  obtain ⟨kA0, comp0, g1, g2, g3, g4⟩ : va_RA s (cy 4) (.object "java/lang/Object") := (hK0.2 3 _ rfl).2
  have he : cA = cy 4 := Option.some.inj (f1.symm.trans g4)
  subst he
  rw [hcm]
  refine kk _ ?_ (fun q hq => ?_) (by simp) ⟨Nat.le_trans hS.1 (by simp), fun x h1 h2 => ?_, hS.2.2⟩
  · rw [← arrV_new]; simp
  · rw [Array.getElem?_push, if_neg (Nat.ne_of_lt hq)]
  · rw [Array.getElem?_push, if_neg (Nat.ne_of_lt (Nat.lt_of_lt_of_le h1 hS.1))]
    exact hS.2.1 x h1 h2
theorem cb_vret {P : Option Value → Heap → Heap → Prop} (E : cE p s m args c cc nL own Ts D cy) (hr : meth.sig.returnType = none) (hlk : meth.locks = false) (hS : va_S A s.heap H locs) (d : decode cc pc = .ok (.return_, 1)) (hP : P none s.heap H) : W p l e R s m args below meth c H locs cells slots (MQ below (bQ A P) args s cells slots A) (F0 m pc ls []) :=
  W.vret E.1.1 E.1.2 hr (fun t ht hW => ⟨⟨_, rfl, by rw [ht]; exact hP⟩, hS.F ht⟩) hS.2.2 d hlk
theorem cb_iret {x : Int32} {P : Option Value → Heap → Heap → Prop} {ty : FieldType} (E : cE p s m args c cc nL own Ts D cy) (hr : meth.sig.returnType = some ty) (hn : narrow ty (.int x) = .int x) (hlk : meth.locks = false) (hS : va_S A s.heap H locs) (d : decode cc pc = .ok (.ireturn, 1)) (hP : P (some (.int x)) s.heap H) : W p l e R s m args below meth c H locs cells slots (MQ below (bQ A P) args s cells slots A) (F0 m pc ls [.int x]) :=
  W.zret E.1.1 E.1.2 hr hn (fun t ht hW => ⟨⟨_, rfl, by rw [ht]; exact hP⟩, hS.F ht⟩) hS.2.2 d hlk
theorem cb_aret {x : Nat} {P : Option Value → Heap → Heap → Prop} {ty : FieldType} (E : cE p s m args c cc nL own Ts D cy) (hr : meth.sig.returnType = some ty) (hty : (∃ n, ty = .object n) ∨ ∃ t, ty = .array t) (hlk : meth.locks = false) (hS : va_S A s.heap H locs) (d : decode cc pc = .ok (.areturn, 1)) (hP : P (some (.ref x)) s.heap H) : W p l e R s m args below meth c H locs cells slots (MQ below (bQ A P) args s cells slots A) (F0 m pc ls [.ref x]) :=
  W.aret E.1.1 E.1.2 hr hty (Or.inr ⟨x, rfl⟩) (fun t ht hW => ⟨⟨_, rfl, by rw [ht]; exact hP⟩, hS.F ht⟩) hS.2.2 d hlk
end OB
