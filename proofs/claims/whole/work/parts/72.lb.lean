/-! LISTS THAT GROW -/
def lV (m : Int) (r : Nat) (n : Int) : Nat → Value := fun k => if k = 0 then .int (iI m) else if k = 1 then .ref r else .int (iI n)
/-- an object of the class ci lies at y -/
def elC (D : va_G) (ci N : Nat) (H : Heap) (y : Nat) : Prop := ∃ V, t_OB y (D.1 ci) N (D.2 ci) H V
theorem elC.kept {D : va_G} {ci N : Nat} {H H1 : Heap} {y : Nat} (h : elC D ci N H y) (h1 : H1[y]? = H[y]?) : elC D ci N H1 y := by
  obtain ⟨V, hV⟩ := h
  exact ⟨V, hV.kept h1⟩
theorem elC.lt {D : va_G} {ci N : Nat} {H : Heap} {y : Nat} (h : elC D ci N H y) : y < H.size := by
  obtain ⟨V, cell, h2, -⟩ := h
  exact (Array.getElem?_eq_some_iff.mp h2).1
theorem t_OB.lt {o : Nat} {cC : ClassId} {N : Nat} {iS : Nat → Nat} {H : Heap} {V : Nat → Value} (h : t_OB o cC N iS H V) : o < H.size := by
  obtain ⟨cell, h2, -⟩ := h
  exact (Array.getElem?_eq_some_iff.mp h2).1
abbrev qA (cyO : ClassId) (n : Nat) (f : Nat → Option Nat) : Cell := arrV cyO n (fun j => va_rf (f j))
def lBk (cyO : ClassId) (d0 : Nat) (H : Heap) (r cap : Nat) (f : Nat → Option Nat) : Prop := (cap = 0 ∧ r = d0) ∨ (0 < cap ∧ H[r]? = some (qA cyO cap f))
/-- how much a full list's row holds when it has grown -/
def gC (cap : Nat) : Nat := if cap = 0 then 10 else cap + (if 1 < cap / 2 then cap / 2 else 1)
theorem gC_r {cap : Nat} (h : cap ≤ 650) : cap < gC cap ∧ gC cap ≤ 1000 ∧ 0 < gC cap := by
  unfold gC
  split
  · omega
  · split <;> omega
section LR
variable {p : Program} {l : Launch} {e : Env} {R : Room} {s : State} {m : MethodId} {args : Array Value} {below : List Frame} {meth : Method} {c : Code} {H : Heap} {locs : List Loc} {cells slots : Nat} {Q : State → Prop}
variable {cc : ByteArray} {pc : Nat} {ls : Array Slot} {rest st : List Value} {nL : Nat} {lv : List (Nat × Value)} {Ts : List Cond} {D : va_G} {cy : Nat → ClassId} {d0 : Nat} {A : Nat → Prop} {idx : Nat} {own ref C : String} {T : u_T}
theorem ob_alen {r cap : Nat} {f : Nat → Value} {z : Int} (E : cE p s m args c cc nL own Ts D cy) (hc : H[r]? = some (arrV (cy 4) cap f)) (hz : (cap : Int) = z) (d : decode cc pc = .ok (.arraylength, 1)) (kk : W p l e R s m args below meth c H locs cells slots Q (F0 m (pc + 1) ls (.int (iI z) :: rest))) : W p l e R s m args below meth c H locs cells slots Q (F0 m pc ls (.ref r :: rest)) := by
  subst hz
  exact W.alen (n := iI cap) E.1.1 E.1.2 hc ((E.2.2.2.2.2 3 _ rfl).1 _ _) (by rw [arrV_size]; exact (iI_nat _)) rfl rfl d kk
theorem ob_alenC {r cap : Nat} {ce : Cell} {z : Int} (E : cE p s m args c cc nL own Ts D cy) (hc : H[r]? = some ce) (hA : s.isArrayOf ce (.object "java/lang/Object")) (hs : ce.slots.size.toInt32 = iI cap) (hz : (cap : Int) = z) (d : decode cc pc = .ok (.arraylength, 1)) (kk : W p l e R s m args below meth c H locs cells slots Q (F0 m (pc + 1) ls (.int (iI z) :: rest))) : W p l e R s m args below meth c H locs cells slots Q (F0 m pc ls (.ref r :: rest)) := by
  subst hz
  exact W.alen (n := iI cap) E.1.1 E.1.2 hc hA hs rfl rfl d kk
theorem ob_aast {r cap x ci N : Nat} {i : Int} {f : Nat → Option Nat} (hc0 : vwCl[ci]? = some (C, T, N)) (hcast : ∀ U, cLs U → va_Nw (.castable C "java/lang/Object") U) (E : cE p s m args c cc nL own Ts D cy) (hK : cK D cy d0 A s s.heap) (hS : va_S A s.heap H locs) (hc : H[r]? = some (qA (cy 4) cap f)) (hA : A r) (hx : elC D ci N H x) (hi : 0 ≤ i ∧ i < cap) (hcap : cap < 100000) (d : decode cc pc = .ok (.aastore, 1))
    (kk : ∀ (H1 : Heap) (locs1 : List Loc), H1[r]? = some (qA (cy 4) cap (va_up f i.toNat (some x))) → (∀ q, q ≠ r → H1[q]? = H[q]?) → va_S A s.heap H1 locs1 → H1.size = H.size → W p l e R s m args below meth c H1 locs1 cells slots Q (F0 m (pc + 1) ls rest)) : W p l e R s m args below meth c H locs cells slots Q (F0 m pc ls (.ref x :: .int (iI i) :: .ref r :: rest)) := by
  obtain ⟨V, hV⟩ := hx
  obtain ⟨kA, comp, k1, k2, k3, -⟩ : va_RA s (cy 4) (.object "java/lang/Object") := (E.2.2.2.2.2 3 _ rfl).2
  obtain ⟨kE, hkE, -⟩ := Vm.findClass_spec k3
  obtain ⟨cellV, g1, g3, g2⟩ := obRecv hK hV hc0
  obtain ⟨kC, hkC, -⟩ := Vm.findClass_spec g2
  have hcm : (iI i).toNatClampNeg = i.toNat := iI_clamp ⟨hi.1, by omega⟩
  have hin : ¬ iI i < 0 ∧ (iI i).toNatClampNeg < (qA (cy 4) cap f).slots.size := by
    refine ⟨fun q => absurd ((iI_lt (a := i) (b := 0) ⟨by omega, by omega⟩ (by decide)).mp q) (by omega), ?_⟩
    rw [arrV_size, hcm]
    omega
  refine W.aast E.1.1 E.1.2 hc (fun q h => by cases h) (fun h => by cases h) k1 k2 rfl hkE hin g1 (fun q h => by rw [h] at g3; cases g3) hkC (vb_asgC (hcast s hK.2.2.2.2.2.2.2.2.2.2.2.2.2.2.2) _ _ k3 g2) rfl rfl d fun H1 e1 z1 oq => ?_
  refine kk H1 _ ?_ oq (hS.put z1 oq hA) z1
  rw [e1, arrV_store, hcm]
  congr 2
  funext q
  by_cases hq : q = i.toNat
  · subst hq
    simp [updV, va_up, va_rf]
  · simp [updV, va_up, hq]
end LR
/-- behind an element's coming: the list at a holds n + 1 -/
def lPs (D : va_G) (cy : Nat → ClassId) (a r cap x : Nat) (mm n : Int) (f : Nat → Option Nat) (H0 H1 : Heap) : Prop := ∃ (r' cap' : Nat) (f' : Nat → Option Nat), t_OB a (D.1 0) 3 (D.2 0) H1 (lV mm r' (n + 1)) ∧ H1[r']? = some (qA (cy 4) cap' f') ∧ (n + 1 ≤ cap' ∧ cap' ≤ 1000) ∧ (∀ j : Nat, (j : Int) < n → f' j = f j) ∧ f' n.toNat = some x ∧ ((r' = r ∧ cap' = cap ∧ 0 < cap) ∨ H0.size ≤ r') ∧ ∀ q, q < H0.size → q ≠ a → ¬ (0 < cap ∧ q = r) → H1[q]? = H0[q]?
/-- an array of objects is no object of a class of ours -/
theorem lNA {D : va_G} {cy : Nat → ClassId} {d0 : Nat} {A : Nat → Prop} {s : State} {H : Heap} (hK : cK D cy d0 A s H) {ci N : Nat} {C : String} {T : u_T} (hc : vwCl[ci]? = some (C, T, N)) (h : cy 4 = D.1 ci) : False := by
  obtain ⟨kA, comp, k1, k2, -, -⟩ : va_RA s (cy 4) (.object "java/lang/Object") := (hK.1.2 3 _ rfl).2
  obtain ⟨-, -, kC, hkC, hkind⟩ := hK.1.1 ci _ hc
  rw [← h, k1] at hkC
  have e := Option.some.inj hkC
  rw [← e, k2] at hkind
  cases hkind
theorem l_shr1 {k : Nat} (h : k < 2147483648) : nI k >>> (1 : Int32) = nI (k / 2) := by
  have q := pk_shrN (n := k) h (1 : Int32) 1 (by decide)
  rw [Nat.pow_one] at q
  exact q
set_option maxHeartbeats 4000000 in
set_option maxRecDepth 100000 in
theorem l_newLength (l : Launch) (D : va_G) (cy : Nat → ClassId) (d0 : Nat) (A : Nat → Prop) {o g f z : Int} (ho : 0 ≤ o ∧ o ≤ 100000) (hg : 1 ≤ g ∧ g ≤ 100000) (hf : 0 ≤ f ∧ f ≤ 100000) (hz : o + (if g < f then f else g) = z) : CB l yJ8_newLength_cabcc wsJ8_newLength_cabcc ({ frames := 1, cells := 0, slots := 0, locals := 60 } : Room) D cy d0 A [.int (iI o), .int (iI g), .int (iI f)] (fun _ => True) (fun v H0 H1 => v = some (.int (iI z)) ∧ H1 = H0) 0 0 := by
  refine cb_of (cc := cJ8_newLength_cabcc) (nL := 4) (ret := some .int) (by decide) rfl (Nat.le_of_ble_eq_true rfl) ?_
  intro p e s m args below meth c ls E hr hlk hini hK hPre hS hl
  have B := E.1
  have hml := E.2.1
  have hown := E.2.2.1
  have hts0 := E.2.2.2.1
  have hts := E.2.2.2.1
  have hK0 := E.2.2.2.2
  have hq : (if g < f then f else g) = z - o := by omega
  have hq2 : z - o = f ∨ z - o = g := by rw [← hq]; split <;> omega
  refine x_iload_n B hl dJ8_newLength_cabcc_0 rfl ?_
  refine x_iload_n B hl dJ8_newLength_cabcc_1 rfl ?_
  refine x_iload_n B hl dJ8_newLength_cabcc_2 rfl ?_
  refine x_mmax (z := z - o) E hl (by decide +kernel) (by decide +kernel) (by decide +kernel) (by decide +kernel) (Nat.le_of_ble_eq_true rfl) (Nat.le_of_ble_eq_true rfl) (Nat.zero_le _) (Nat.zero_le _) (by omega) (by omega) dJ8_newLength_cabcc_3 hq ?_
  refine x_iadd B dJ8_newLength_cabcc_6 ?_
  rw [show o + (z - o) = z by omega]
  refine x_istore_n B hl dJ8_newLength_cabcc_7 (by decide) (fun ls hl => ?_)
  refine x_iconst B dJ8_newLength_cabcc_8 ?_
  refine x_iload_n B hl dJ8_newLength_cabcc_9 rfl ?_
  refine x_icmp_ge (tgt := 21) B dJ8_newLength_cabcc_10 (by decide) (by omega) (by omega) (fun c1 => absurd c1 (by omega)) (fun c1 => ?_)
  refine x_iload_n B hl dJ8_newLength_cabcc_13 rfl ?_
  refine lv_ldc (v := iI 2147483639) B.1 B.2 hown (hts (.constant RJ8 200 (2147483639)) (by decide +kernel)) dJ8_newLength_cabcc_14 ?_
  refine x_icmp_gt (tgt := 21) B dJ8_newLength_cabcc_16 (by decide) (by omega) (by omega) (fun c2 => absurd c2 (by omega)) (fun c2 => ?_)
  refine x_iload_n B hl dJ8_newLength_cabcc_19 rfl ?_
  exact cb_iret E hr rfl hlk hS dJ8_newLength_cabcc_20 ⟨rfl, rfl⟩
set_option maxHeartbeats 4000000 in
set_option maxRecDepth 100000 in
theorem l_copyOf3 (l : Launch) (D : va_G) (cy : Nat → ClassId) (d0 : Nat) (A : Nat → Prop) {ci N : Nat} {C : String} {T : u_T} (hc : vwCl[ci]? = some (C, T, N)) (hcast : ∀ U, cLs U → va_Nw (.castable C "java/lang/Object") U) {r cap mi : Nat} {n : Int} {f : Nat → Option Nat} (hn : (cap : Int) ≤ n ∧ n ≤ 1000) (hAr : A r) : Met l yJ7_copyOf_6403c wsJ7_copyOf_6403c ({ frames := 1, cells := 1, slots := 1000, locals := 80 } : Room) (va_Pc [.ref r, .int (iI n), .ref mi] (fun U => (U.heap[r]? = some (qA (cy 4) cap f) ∧ ∀ j : Nat, j < cap → ∀ y, f j = some y → elC D ci N U.heap y) ∧ cK D cy d0 A U U.heap ∧ va_Mi "[Ljava/lang/Object;" mi U)) (bQ A (fun v H0 H1 => v = some (.ref H0.size) ∧ H1[H0.size]? = some (qA (cy 4) n.toNat (fun j => if j < cap then f j else none)))) 1 1000 A := by
  refine Met.ofW (cc := cJ7_copyOf_6403c) (maxL := 4) (ret := some (.array (.object "java/lang/Object"))) (by decide) rfl ?_
  intro p e s m args below meth c s₁ B0 hml0 hv
  obtain ⟨rfl, ⟨hr0, hel⟩, hK, hMi⟩ := hv
  have hown0 : s.vm.findClass yJ7_copyOf_6403c.cls = some m.cls := findClass_of_methodNamed B0.named
  have hl := lv_entry [.ref r, .int (iI n), .ref mi] (n := 4) (Nat.le_of_ble_eq_true rfl)
  rw [lg_entry_eq]
  have E : cE p s m _ c cJ7_copyOf_6403c 4 RJ7 wsJ7_copyOf_6403c D cy := ⟨⟨B0.exec, B0.bytes⟩, hml0, hown0, atoms_spec (ws := wsJ7_copyOf_6403c) B0.pre, hK.1⟩
  have hr := B0.returns
  have hlk := B0.notSynchronized
  have hS : va_S A s.heap s.heap [] := va_S.rf
  generalize (lg_sl ([.ref r, .int (iI n), .ref mi]) ++ List.replicate (4 - (lg_sl ([.ref r, .int (iI n), .ref mi])).length) Slot.unset).toArray = ls at hl ⊢
  have B := E.1
  have hml := E.2.1
  have hown := E.2.2.1
  have hts := E.2.2.2.1
  have hrl : r < s.heap.size := (Array.getElem?_eq_some_iff.mp hr0).1
  refine x_aload_n B hl dJ7_copyOf_6403c_0 rfl ?_
  refine va_ldcM B.1 B.2 hown (hts (.classLink RJ7 110 "[Ljava/lang/Object;") (by decide +kernel)) hMi dJ7_copyOf_6403c_1 ?_
  refine lv_acmp_ne (rx := some mi) (ry := some mi) (tgt := 13) B.1 B.2 dJ7_copyOf_6403c_3 (by decide) (fun z => absurd rfl z) (fun _ => ?_)
  refine x_iload_n B hl dJ7_copyOf_6403c_6 rfl ?_
  refine ob_newq (n := n) E hK hS (hts (.classLink RJ7 2 "java/lang/Object") (by decide +kernel)) (by omega) (Nat.le_of_ble_eq_true rfl) (by show 0 + _ ≤ 1000; omega) dJ7_copyOf_6403c_7 (fun H h1 h2 h3 hS => ?_)
  refine w_widen (k := 1) (n := 1000) (Nat.le_of_ble_eq_true rfl) (by omega) ?_
  refine x_goto (tgt := 24) B dJ7_copyOf_6403c_10 (by decide) ?_
  refine x_astore_n B hl dJ7_copyOf_6403c_24 (by decide) (fun ls hl => ?_)
  refine x_aload_n B hl dJ7_copyOf_6403c_25 rfl ?_
  refine x_iconst B dJ7_copyOf_6403c_26 ?_
  refine x_aload_n B hl dJ7_copyOf_6403c_27 rfl ?_
  refine x_iconst B dJ7_copyOf_6403c_28 ?_
  refine x_aload_n B hl dJ7_copyOf_6403c_29 rfl ?_
  refine ob_alen E ((h2 r hrl).trans hr0) rfl dJ7_copyOf_6403c_30 ?_
  refine x_iload_n B hl dJ7_copyOf_6403c_31 rfl ?_
  refine x_mmin (z := cap) E hl (by decide +kernel) (by decide +kernel) (by decide +kernel) (by decide +kernel) (Nat.le_of_ble_eq_true rfl) (Nat.le_of_ble_eq_true rfl) (Nat.le_of_ble_eq_true rfl) (Nat.le_of_ble_eq_true rfl) (by omega) (by omega) dJ7_copyOf_6403c_32 (by split <;> omega) ?_
  have hcm : (iI (cap : Int)).toNatClampNeg = cap := by rw [iI_clamp ⟨by omega, by omega⟩]; simp
  have hc00 : (iI 0).toNatClampNeg = 0 := by rw [iI_clamp ⟨by omega, by omega⟩]; rfl
  have hnn : ¬ iI 0 < 0 := by decide
  have hnc : ¬ iI (cap : Int) < 0 := fun q => absurd ((iI_lt (a := cap) (b := 0) ⟨by omega, by omega⟩ (by decide)).mp q) (by omega)
  have hP : va_P D vwCl [(r, .inl (cy 4, cap, .inr (.inr (.inr (.inr f))))), (s.heap.size, .inl (cy 4, n.toNat, .inr (.inr (.inr (.inr (fun _ => none))))))] H := by
    intro k q hq
    match k, hq with
    | 0, hq => cases hq; show H[r]? = some (vp_cell _ _); rw [vp_cell_q]; exact (h2 r hrl).trans hr0
    | 1, hq => cases hq; show H[s.heap.size]? = some (vp_cell _ _); rw [vp_cell_q]; exact h1
    | k + 2, hq => simp at hq
  have hD : va_D A [(r, .inl (cy 4, cap, .inr (.inr (.inr (.inr f))))), (s.heap.size, .inl (cy 4, n.toNat, .inr (.inr (.inr (.inr (fun _ => none))))))] := by
    refine ⟨fun i j p q hi hj he => ?_, fun k q hq => ?_⟩
    · match i, j, hi, hj with
      | 0, 0, _, _ => rfl
      | 1, 1, _, _ => rfl
      | 0, 1, hi, hj => cases hi; cases hj; exact absurd (show r = s.heap.size from he) (by omega)
      | 1, 0, hi, hj => cases hi; cases hj; exact absurd (show s.heap.size = r from he) (by omega)
      | i + 2, _, hi, _ => simp at hi
      | 0, j + 2, _, hj => simp at hj
      | 1, j + 2, _, hj => simp at hj
    · match k, hq with
      | 0, hq => cases hq; exact hAr
      | 1, hq => cases hq; exact hK.2.2.2.2.2.2.1 _ (Nat.le_refl _)
      | k + 2, hq => simp at hq
  refine va_copyq (C := C) B.1 B.2 (hml.trans hl.1.symm) hown (hts (.methodLink RJ7 150 arraycopyName) (by decide +kernel)) (hts (.native arraycopyName) (by decide +kernel)) (hts (.static arraycopyName) (by decide +kernel)) (hts (.initialized "java/lang/System") (by decide +kernel)) hK.1 hP hD hS 0 1 3 3 rfl rfl rfl rfl hnn hnn hnc (by rw [hcm, hc00]; omega) (by rw [hcm, hc00]; omega) (fun i hi y hy => by
    rw [hcm] at hi
    rw [hc00, Nat.zero_add] at hy
    have hey := hel i hi y hy
    obtain ⟨V, hV⟩ := hey.kept (h2 y hey.lt)
    exact obRecv hK hV hc) (vb_asgC (hcast s hK.2.2.2.2.2.2.2.2.2.2.2.2.2.2.2)) (Nat.le_of_ble_eq_true rfl) (by decide) dJ7_copyOf_6403c_35 (fun H1 locs1 hP1 hD1 hS1 => ?_)
  refine x_aload_n B hl dJ7_copyOf_6403c_38 rfl ?_
  have hz := hP1 1 _ rfl
  refine cb_aret E hr (Or.inr ⟨_, rfl⟩) hlk hS1 dJ7_copyOf_6403c_39 ⟨rfl, ?_⟩
  have hz2 : H1[s.heap.size]? = some (vp_cell _ _) := hz
  rw [vp_cell_q, hc00, hcm] at hz2
  rw [hz2]
  congr 1
  refine arrV_ext (fun j hj => ?_)
  show va_rf (va_cpy f (fun _ => none) 0 0 cap j) = va_rf (if j < cap then f j else none)
  unfold va_cpy
  by_cases h : j < cap
  · rw [if_pos ⟨by omega, by omega⟩, if_pos h, Nat.zero_add, Nat.sub_zero]
  · rw [if_neg (by omega), if_neg h]
set_option maxHeartbeats 4000000 in
set_option maxRecDepth 100000 in
theorem l_copyOf2 (l : Launch) (D : va_G) (cy : Nat → ClassId) (d0 : Nat) (A : Nat → Prop) {ci N : Nat} {C : String} {T : u_T} (hc : vwCl[ci]? = some (C, T, N)) (hcast : ∀ U, cLs U → va_Nw (.castable C "java/lang/Object") U) {r cap : Nat} {n : Int} {f : Nat → Option Nat} (hn : (cap : Int) ≤ n ∧ n ≤ 1000) (hAr : A r) : CB l yJ7_copyOf_1904c wsJ7_copyOf_1904c ({ frames := 2, cells := 1, slots := 1000, locals := 110 } : Room) D cy d0 A [.ref r, .int (iI n)] (fun H => H[r]? = some (qA (cy 4) cap f) ∧ ∀ j : Nat, j < cap → ∀ y, f j = some y → elC D ci N H y) (fun v H0 H1 => v = some (.ref H0.size) ∧ H1[H0.size]? = some (qA (cy 4) n.toNat (fun j => if j < cap then f j else none))) 1 1000 := by
  refine cb_of (cc := cJ7_copyOf_1904c) (nL := 2) (ret := some (.array (.object "java/lang/Object"))) (by decide) rfl (Nat.le_of_ble_eq_true rfl) ?_
  intro p e s m args below meth c ls E hr hlk hini hK hPre hS hl
  have B := E.1
  have hml := E.2.1
  have hown := E.2.2.1
  have hts0 := E.2.2.2.1
  have hts := E.2.2.2.1
  have hK0 := E.2.2.2.2
  obtain ⟨hr0, hel⟩ := hPre
  obtain ⟨mi, hMi⟩ := hK.2.2.2.2.2.2.2.2.2.2.2.2.2.2.2.1
  have hDc := hK.2.2.2.2.2.2.2.2.2.2.2.2.2.2.2.2.1
  refine x_aload_n B hl dJ7_copyOf_1904c_0 rfl ?_
  refine x_iload_n B hl dJ7_copyOf_1904c_1 rfl ?_
  refine x_aload_n B hl dJ7_copyOf_1904c_2 rfl ?_
  refine va_getC (C := "[Ljava/lang/Object;") B.1 B.2 (hml.trans hl.1.symm) hown (hts (.methodLink RJ7 86 ⟨"java/lang/Object", "getClass", "()Ljava/lang/Class;"⟩) (by decide +kernel)) (va_Dc.use hDc) (hts (.selects "[Ljava/lang/Object;" ⟨"java/lang/Object", "getClass", "()Ljava/lang/Class;"⟩ ⟨"java/lang/Object", "getClass", "()Ljava/lang/Class;"⟩) (by decide +kernel)) (hts (.instanceMethod ⟨"java/lang/Object", "getClass", "()Ljava/lang/Class;"⟩) (by decide +kernel)) (hts (.native ⟨"java/lang/Object", "getClass", "()Ljava/lang/Class;"⟩) (by decide +kernel)) hMi ⟨_, hr0, rfl, va_nmO (hK0.2 3 _ rfl).2 (by decide)⟩ (Nat.le_of_ble_eq_true rfl) (Nat.le_of_ble_eq_true rfl) dJ7_copyOf_1904c_3 ?_
  have cw := va_cwS (mc := 1) (ms := 1000) (maxL := 4) (rm := ({ frames := 1, cells := 1, slots := 1000, locals := 80 } : Room)) (R := ({ frames := 2, cells := 1, slots := 1000, locals := 110 } : Room)) 3 hts0 gJ7_copyOf_1904c_J7_copyOf_6403c rfl rfl rfl (by decide +kernel) ⟨Nat.le_of_ble_eq_true rfl, Nat.le_of_ble_eq_true rfl⟩
  have hrr := va_runS (l := l) (e := e) (below := below) (meth := meth) (locs := []) (cells := 0) (slots := 0) (As := [.ref r, .int (iI n), .ref mi]) (rest := []) (g := F0 m (3 + 3) ls [.ref mi, .int (iI n), .ref r]) (H := s.heap) (cFix E) (l_copyOf3 l D cy d0 A hc hcast (mi := mi) hn hAr) cw ⟨fun a U g mk q => by
    obtain ⟨q1, q2, q3, q4⟩ := q
    exact ⟨q1, q2, cK.same (u := U) (U := U.calling g mk a) rfl q3, va_Mi.moved (u := U) (U := U.calling g mk a) (Vm.Alike.refl U.vm) q4⟩, fun U hU hW => ⟨rfl, by rw [hU]; exact ⟨hr0, hel⟩, by rw [hU]; exact hK.moved hW, va_Mi.moved hW.alike hMi⟩⟩ rfl rfl hl.1 rfl (lv_room (Nat.le_of_ble_eq_true rfl)) dJ7_copyOf_1904c_6 ⟨Nat.le_of_ble_eq_true rfl, Nat.le_of_ble_eq_true rfl⟩
  intro T hT X
  obtain ⟨v9, st₀, t, T', L, h0, X', hL, e1, e2, ⟨⟨v, hv, hp⟩, hz, hk⟩, st9⟩ := hrr T hT X
  cases hv
  rw [h0] at hz hk hp
  obtain ⟨hv9, hp2⟩ := hp
  subst hv9
  have hS1 : va_S A s.heap T'.heap ([] ++ L) := cbRun (A' := A) (fun _ q => q) hS (by rw [e1]; exact hz) (by rw [e1]; exact hk) hL
  obtain ⟨t2, a1, b1⟩ := cb_aret (P := (fun v H0 H1 => v = some (.ref H0.size) ∧ H1[H0.size]? = some (qA (cy 4) n.toNat (fun j => if j < cap then f j else none)))) (cells := 1) (slots := 1000) (locs := [] ++ L) E hr (Or.inr ⟨_, rfl⟩) hlk hS1 dJ7_copyOf_1904c_9 (x := s.heap.size) ⟨rfl, by rw [e1]; exact hp2⟩ T' rfl X'
  exact ⟨t2, st9 t2 a1, b1⟩
set_option maxHeartbeats 4000000 in
set_option maxRecDepth 100000 in
theorem l_growI (l : Launch) (D : va_G) (cy : Nat → ClassId) (d0 : Nat) (A : Nat → Prop) {ci N : Nat} {C : String} {T : u_T} (hc : vwCl[ci]? = some (C, T, N)) (hcast : ∀ U, cLs U → va_Nw (.castable C "java/lang/Object") U) {a r cap : Nat} {mm n : Int} {f : Nat → Option Nat} (hcap : cap ≤ 650) (hAa : A a) (hAr : 0 < cap → A r) (hne : 0 < cap → a ≠ r) (hn : n = cap) : CB l yJx4a65c_grow_92f84 wsJx4a65c_grow_92f84 ({ frames := 3, cells := 1, slots := 1000, locals := 150 } : Room) D cy d0 A [.ref a, .int (iI (n + 1))] (fun H => t_OB a (D.1 0) 3 (D.2 0) H (lV mm r n) ∧ lBk (cy 4) d0 H r cap f ∧ ∀ j : Nat, j < cap → ∀ y, f j = some y → elC D ci N H y) (fun v H0 H1 => v = some (.ref H0.size) ∧ t_OB a (D.1 0) 3 (D.2 0) H1 (lV mm H0.size n) ∧ H1[H0.size]? = some (qA (cy 4) (gC cap) (fun j => if j < cap then f j else none)) ∧ (∀ q, q < H0.size → q ≠ a → ¬ (0 < cap ∧ q = r) → H1[q]? = H0[q]?)) 1 1000 := by
  refine cb_of (cc := cJx4a65c_grow_92f84) (nL := 4) (ret := some (.array (.object "java/lang/Object"))) (by decide) rfl (Nat.le_of_ble_eq_true rfl) ?_
  intro p e s m args below meth c ls E hr hlk hini hK hPre hS hl
  have B := E.1
  have hml := E.2.1
  have hown := E.2.2.1
  have hts0 := E.2.2.2.1
  have hts := E.2.2.2.1
  have hK0 := E.2.2.2.2
  obtain ⟨hO, hbk, hel⟩ := hPre
  have hal := hO.lt
  have hg := gC_r hcap
  refine x_aload_n B hl dJx4a65c_grow_92f84_0 rfl ?_
  refine ob_get E hO rfl (fun z h => List.mem_cons_of_mem _ (List.mem_append_right _ h)) 1 (by decide) (hts (.fieldLink RJx4a65c 9 "java/util/ArrayList" "elementData" "[Ljava/lang/Object;") (by decide +kernel)) (fun x hx => hx) dJx4a65c_grow_92f84_1 rfl ?_
  have hlen : ∃ ce : Cell, s.heap[r]? = some ce ∧ s.isArrayOf ce (.object "java/lang/Object") ∧ ce.slots.size.toInt32 = iI cap := by
    rcases hbk with ⟨h1, h2⟩ | ⟨h1, h2⟩
    · rw [h1, h2]; exact hK.2.2.2.2.1
    · exact ⟨_, h2, (E.2.2.2.2.2 3 _ rfl).1 _ _, by rw [arrV_size]; exact iI_nat _⟩
  obtain ⟨ce9, hlen, hlA, hlS⟩ := hlen
  refine ob_alenC (z := n) E hlen hlA hlS hn.symm dJx4a65c_grow_92f84_4 ?_
  refine x_istore_n B hl dJx4a65c_grow_92f84_5 (by decide) (fun ls hl => ?_)
  refine x_iload_n B hl dJx4a65c_grow_92f84_6 rfl ?_
  refine x_if_gt (tgt := 20) B dJx4a65c_grow_92f84_7 (by decide) (by omega) (fun c1 => ?_) (fun c1 => ?_)
  · rcases hbk with ⟨h1, h2⟩ | ⟨hc0, hr0⟩
    · omega
    have hAr' := hAr hc0
    have hrl : r < s.heap.size := (Array.getElem?_eq_some_iff.mp hr0).1
    have hg2 : gC cap = cap + (if 1 < cap / 2 then cap / 2 else 1) := by unfold gC; rw [if_neg (by omega)]
    refine x_iload_n B hl dJx4a65c_grow_92f84_20 rfl ?_
    refine x_iload_n B hl dJx4a65c_grow_92f84_21 rfl ?_
    refine x_iload_n B hl dJx4a65c_grow_92f84_22 rfl ?_
    refine x_isub B dJx4a65c_grow_92f84_23 ?_
    rw [show n + 1 - n = 1 by omega]
    refine x_iload_n B hl dJx4a65c_grow_92f84_24 rfl ?_
    refine x_iconst B dJx4a65c_grow_92f84_25 ?_
    refine lv_ishr B.1 B.2 dJx4a65c_grow_92f84_26 ?_
    rw [show iI n >>> (iI 1 &&& 31) = iI (((cap / 2 : Nat) : Int)) by
      rw [hn, ← iI_nat, ← iI_nat, show (iI 1 &&& 31 : Int32) = 1 by decide]
      exact l_shr1 (by omega)]
    refine cb_callS (A' := fun q => s.heap.size ≤ q) E hK hS hl (fun q h => hK.2.2.2.2.2.2.1 q h) (fun q h => h) (l_newLength l D cy d0 _ (o := n) (g := 1) (f := ((cap / 2 : Nat) : Int)) (z := ((gC cap : Nat) : Int)) (by omega) (by omega) (by omega) (by rw [hg2]; split <;> split <;> omega)) trivial (va_cwS 3 hts0 gJx4a65c_grow_92f84_J8_newLength_cabcc rfl rfl rfl (by decide +kernel) ⟨Nat.le_of_ble_eq_true rfl, Nat.le_of_ble_eq_true rfl⟩) rfl rfl (Nat.le_of_ble_eq_true rfl) dJx4a65c_grow_92f84_27 ⟨Nat.le_of_ble_eq_true rfl, Nat.le_of_ble_eq_true rfl⟩ (fun H locs v hv hz9 hk9 hS => ?_)
    obtain ⟨rfl, rfl⟩ := hv
    refine x_istore_n B hl dJx4a65c_grow_92f84_30 (by decide) (fun ls hl => ?_)
    refine x_aload_n B hl dJx4a65c_grow_92f84_31 rfl ?_
    refine x_aload_n B hl dJx4a65c_grow_92f84_32 rfl ?_
    refine ob_get E hO rfl (fun z h => List.mem_cons_of_mem _ (List.mem_append_right _ h)) 1 (by decide) (hts (.fieldLink RJx4a65c 9 "java/util/ArrayList" "elementData" "[Ljava/lang/Object;") (by decide +kernel)) (fun x hx => hx) dJx4a65c_grow_92f84_33 rfl ?_
    refine x_iload_n B hl dJx4a65c_grow_92f84_36 rfl ?_
    refine cb_callS (A' := fun q => q = r ∨ s.heap.size ≤ q) E hK hS hl (fun q h => h.elim (fun h => h ▸ hAr') (fun h => hK.2.2.2.2.2.2.1 q h)) (fun q h => Or.inr h) (l_copyOf2 l D cy d0 _ hc hcast (r := r) (cap := cap) (n := ((gC cap : Nat) : Int)) (f := f) (by omega) (Or.inl rfl)) ⟨hr0, hel⟩ (va_cwS 2 hts0 gJx4a65c_grow_92f84_J7_copyOf_1904c rfl rfl rfl (by decide +kernel) ⟨Nat.le_of_ble_eq_true rfl, Nat.le_of_ble_eq_true rfl⟩) rfl rfl (Nat.le_of_ble_eq_true rfl) dJx4a65c_grow_92f84_37 ⟨Nat.le_of_ble_eq_true rfl, Nat.le_of_ble_eq_true rfl⟩ (fun H locs v hv hz8 hk8 hS => ?_)
    obtain ⟨rfl, hq8⟩ := hv
    have hO := hO.kept (hk8 a hal (fun q => q.elim (fun q => hne hc0 q) (fun q => by omega)))
    refine lv_dup_x1 B.1 B.2 dJx4a65c_grow_92f84_40 rfl rfl ?_
    refine ob_put (ty := .array (.object "java/lang/Object")) E hO hS hAa rfl (fun z h => List.mem_cons_of_mem _ (List.mem_append_right _ h)) tyJx4a65c_ok nmJx4a65c 1 (by decide) (hts (.fieldLink RJx4a65c 9 "java/util/ArrayList" "elementData" "[Ljava/lang/Object;") (by decide +kernel)) (fun x hx => hx) rfl (by decide +kernel) rfl rfl dJx4a65c_grow_92f84_41 (fun H locs hO ok41 sz41 hS => ?_)
    refine cb_aret E hr (Or.inr ⟨_, rfl⟩) hlk hS dJx4a65c_grow_92f84_44 ⟨rfl, hO.to (fun k hk => ?_), ?_, fun q h1 h2 h3 => ?_⟩
    · rcases (show k = 0 ∨ k = 1 ∨ k = 2 by omega) with rfl | rfl | rfl <;> rfl
    · rw [ok41 _ (by omega), hq8]; rfl
    · rw [ok41 q h2]
      exact hk8 q h1 (fun z => z.elim (fun z => h3 ⟨hc0, z⟩) (fun z => by omega))
  · have hc0 : cap = 0 := by omega
    have hrd : r = d0 := by
      rcases hbk with ⟨h1, h2⟩ | ⟨h1, h2⟩
      · exact h2
      · omega
    have hg2 : gC cap = 10 := by unfold gC; rw [if_pos hc0]
    refine x_aload_n B hl dJx4a65c_grow_92f84_10 rfl ?_
    refine ob_get E hO rfl (fun z h => List.mem_cons_of_mem _ (List.mem_append_right _ h)) 1 (by decide) (hts (.fieldLink RJx4a65c 9 "java/util/ArrayList" "elementData" "[Ljava/lang/Object;") (by decide +kernel)) (fun x hx => hx) dJx4a65c_grow_92f84_1 rfl ?_1
    refine va_gets B.1 B.2 hK.2.2.2.1 hS hown (hts (.fieldLink RJx4a65c 39 "java/util/ArrayList" "DEFAULTCAPACITY_EMPTY_ELEMENTDATA" "[Ljava/lang/Object;") (by decide +kernel)) (fun x h => h) dJx4a65c_grow_92f84_14 ?_
    refine lv_acmp_eq (rx := some r) (ry := some d0) (tgt := 45) B.1 B.2 dJx4a65c_grow_92f84_17 (by decide) (fun _ => ?_) (fun z => absurd (by rw [hrd]) z)
    refine x_aload_n B hl dJx4a65c_grow_92f84_45 rfl ?_
    refine x_bipush B dJx4a65c_grow_92f84_46 (by decide) ?_
    refine x_iload_n B hl dJx4a65c_grow_92f84_48 rfl ?_
    refine x_mmax (z := 10) E hl (by decide +kernel) (by decide +kernel) (by decide +kernel) (by decide +kernel) (Nat.le_of_ble_eq_true rfl) (Nat.le_of_ble_eq_true rfl) (Nat.zero_le _) (Nat.zero_le _) (by omega) (by omega) dJx4a65c_grow_92f84_49 (by rw [if_neg (by omega)]) ?_
    refine ob_newq (n := 10) E hK hS (hts (.classLink RJx4a65c 7 "java/lang/Object") (by decide +kernel)) (by omega) (Nat.le_of_ble_eq_true rfl) (Nat.le_of_ble_eq_true rfl) dJx4a65c_grow_92f84_52 (fun H h1 h2 h3 hS => ?_)
    refine w_widen (k := 1) (n := 1000) (Nat.le_of_ble_eq_true rfl) (Nat.le_of_ble_eq_true rfl) ?_
    have hO := hO.kept (h2 a hal)
    refine lv_dup_x1 B.1 B.2 dJx4a65c_grow_92f84_55 rfl rfl ?_
    refine ob_put (ty := .array (.object "java/lang/Object")) E hO hS hAa rfl (fun z h => List.mem_cons_of_mem _ (List.mem_append_right _ h)) tyJx4a65c_ok nmJx4a65c 1 (by decide) (hts (.fieldLink RJx4a65c 9 "java/util/ArrayList" "elementData" "[Ljava/lang/Object;") (by decide +kernel)) (fun x hx => hx) rfl (by decide +kernel) rfl rfl dJx4a65c_grow_92f84_56 (fun H locs hO ok56 sz56 hS => ?_)
    refine cb_aret E hr (Or.inr ⟨_, rfl⟩) hlk hS dJx4a65c_grow_92f84_59 ⟨rfl, hO.to (fun k hk => ?_), ?_, fun q h1 h3 h4 => ?_⟩
    · rcases (show k = 0 ∨ k = 1 ∨ k = 2 by omega) with rfl | rfl | rfl <;> rfl
    · rw [ok56 _ (by omega), h1, hg2]
      congr 1
      exact arrV_ext (fun j hj => by show Value.null = va_rf (if j < cap then f j else none); rw [if_neg (by omega)]; rfl)
    · rw [ok56 q h3]
      exact h2 q h1
set_option maxHeartbeats 4000000 in
set_option maxRecDepth 100000 in
theorem l_grow (l : Launch) (D : va_G) (cy : Nat → ClassId) (d0 : Nat) (A : Nat → Prop) {ci N : Nat} {C : String} {T : u_T} (hc : vwCl[ci]? = some (C, T, N)) (hcast : ∀ U, cLs U → va_Nw (.castable C "java/lang/Object") U) {a r cap : Nat} {mm n : Int} {f : Nat → Option Nat} (hcap : cap ≤ 650) (hAa : A a) (hAr : 0 < cap → A r) (hne : 0 < cap → a ≠ r) (hn : n = cap) : CB l yJx4a65c_grow_d5877 wsJx4a65c_grow_d5877 ({ frames := 4, cells := 1, slots := 1000, locals := 180 } : Room) D cy d0 A [.ref a] (fun H => t_OB a (D.1 0) 3 (D.2 0) H (lV mm r n) ∧ lBk (cy 4) d0 H r cap f ∧ ∀ j : Nat, j < cap → ∀ y, f j = some y → elC D ci N H y) (fun v H0 H1 => v = some (.ref H0.size) ∧ t_OB a (D.1 0) 3 (D.2 0) H1 (lV mm H0.size n) ∧ H1[H0.size]? = some (qA (cy 4) (gC cap) (fun j => if j < cap then f j else none)) ∧ (∀ q, q < H0.size → q ≠ a → ¬ (0 < cap ∧ q = r) → H1[q]? = H0[q]?)) 1 1000 := by
  refine cb_of (cc := cJx4a65c_grow_d5877) (nL := 1) (ret := some (.array (.object "java/lang/Object"))) (by decide) rfl (Nat.le_of_ble_eq_true rfl) ?_
  intro p e s m args below meth c ls E hr hlk hini hK hPre hS hl
  have B := E.1
  have hml := E.2.1
  have hown := E.2.2.1
  have hts0 := E.2.2.2.1
  have hts := E.2.2.2.1
  have hK0 := E.2.2.2.2
  have hO := hPre.1
  refine x_aload_n B hl dJx4a65c_grow_d5877_0 rfl ?_
  refine x_aload_n B hl dJx4a65c_grow_d5877_1 rfl ?_
  refine ob_get E hO rfl (fun z h => List.mem_cons_of_mem _ (List.mem_append_right _ h)) 2 (by decide) (hts (.fieldLink RJx4a65c 48 "java/util/ArrayList" "size" "I") (by decide +kernel)) (fun x hx => hx) dJx4a65c_grow_d5877_2 rfl ?_
  refine x_iconst B dJx4a65c_grow_d5877_5 ?_
  refine x_iadd B dJx4a65c_grow_d5877_6 ?_
  refine cb_callV (A' := A) E hK hS hl (fun q h => h) hK.2.2.2.2.2.2.1 (obRecv hK hO rfl) (l_growI l D cy d0 A hc hcast hcap hAa hAr hne hn) hPre (cwV 1 hts0 gJx4a65c_grow_d5877_Jx4a65c_grow_92f84 rfl rfl rfl (by decide +kernel) ⟨Nat.le_of_ble_eq_true rfl, Nat.le_of_ble_eq_true rfl⟩) rfl rfl (Nat.le_of_ble_eq_true rfl) dJx4a65c_grow_d5877_7 ⟨Nat.le_of_ble_eq_true rfl, Nat.le_of_ble_eq_true rfl⟩ (fun H locs v hv hz9 hk9 hS => ?_)
  obtain ⟨rfl, hq⟩ := hv
  exact cb_aret E hr (Or.inr ⟨_, rfl⟩) hlk hS dJx4a65c_grow_d5877_10 ⟨rfl, hq⟩
set_option maxHeartbeats 4000000 in
set_option maxRecDepth 100000 in
theorem l_add3 (l : Launch) (D : va_G) (cy : Nat → ClassId) (d0 : Nat) (A : Nat → Prop) {ci N : Nat} {C : String} {T : u_T} (hc : vwCl[ci]? = some (C, T, N)) (hcast : ∀ U, cLs U → va_Nw (.castable C "java/lang/Object") U) {a r cap x : Nat} {mm n : Int} {f : Nat → Option Nat} (hcap : cap ≤ 1000) (hAa : A a) (hAr : 0 < cap → A r) (hne : 0 < cap → a ≠ r) (hn : 0 ≤ n ∧ n ≤ cap) (hn6 : n ≤ 600) (hax : x ≠ a) : CB l yJx4a65c_add_72be8 wsJx4a65c_add_72be8 ({ frames := 5, cells := 1, slots := 1000, locals := 205 } : Room) D cy d0 A [.ref a, .ref x, .ref r, .int (iI n)] (fun H => t_OB a (D.1 0) 3 (D.2 0) H (lV mm r n) ∧ lBk (cy 4) d0 H r cap f ∧ (∀ j : Nat, (j : Int) < n → ∀ y, f j = some y → elC D ci N H y) ∧ elC D ci N H x) (fun v H0 H1 => v = none ∧ (lPs D cy a r cap x mm n f H0 H1)) 1 1000 := by
  refine cb_of (cc := cJx4a65c_add_72be8) (nL := 4) (ret := none) (by decide) rfl (Nat.le_of_ble_eq_true rfl) ?_
  intro p e s m args below meth c ls E hr hlk hini hK hPre hS hl
  have B := E.1
  have hml := E.2.1
  have hown := E.2.2.1
  have hts0 := E.2.2.2.1
  have hts := E.2.2.2.1
  have hK0 := E.2.2.2.2
  obtain ⟨hO0, hbk, hel, hx⟩ := hPre
  have hal := hO0.lt
  have hxl := hx.lt
  have tail : ∀ (r2 cap2 : Nat) (f2 : Nat → Option Nat) (H : Heap) (locs : List Loc) (ls : Array Slot) (hO : t_OB a (D.1 0) 3 (D.2 0) H (lV mm r2 n)) (hr2 : H[r2]? = some (qA (cy 4) cap2 f2)) (hn2 : n < cap2) (hc2 : cap2 ≤ 1000) (hA2 : A r2) (hf2 : ∀ j : Nat, (j : Int) < n → f2 j = f j) (hne2 : a ≠ r2) (hx2 : elC D ci N H x) (hor : (r2 = r ∧ cap2 = cap ∧ 0 < cap) ∨ s.heap.size ≤ r2) (hfr : ∀ q, q < s.heap.size → q ≠ a → ¬ (0 < cap ∧ q = r) → H[q]? = s.heap[q]?), va_S A s.heap H locs → lv_has ls 4 [(0, .ref a), (1, .ref x), (2, .ref r2), (3, .int (iI n))] → W p l e ({ frames := 5, cells := 1, slots := 1000, locals := 205 } : Room) s m args below meth c H locs 1 1000 (MQ below (bQ A (fun v H0 H1 => v = none ∧ (lPs D cy a r cap x mm n f H0 H1))) args s 1 1000 A) (F0 m 11 ls []) := by
    intro r2 cap2 f2 H locs ls hO hr2 hn2 hc2 hA2 hf2 hne2 hx2 hor hfr hS hl
    refine x_aload_n B hl dJx4a65c_add_72be8_11 rfl ?_
    refine x_iload_n B hl dJx4a65c_add_72be8_12 rfl ?_
    refine x_aload_n B hl dJx4a65c_add_72be8_13 rfl ?_
    refine ob_aast hc hcast E hK hS hr2 hA2 hx2 ⟨hn.1, hn2⟩ (by omega) dJx4a65c_add_72be8_14 (fun H locs hr3 ok14 hS _ => ?_)
    have hO := hO.kept (ok14 a hne2)
    refine x_aload_n B hl dJx4a65c_add_72be8_15 rfl ?_
    refine x_iload_n B hl dJx4a65c_add_72be8_16 rfl ?_
    refine x_iconst B dJx4a65c_add_72be8_17 ?_
    refine x_iadd B dJx4a65c_add_72be8_18 ?_
    refine ob_put (ty := .int) E hO hS hAa rfl (fun z h => List.mem_cons_of_mem _ (List.mem_append_right _ h)) tyJx4a65c_ok nmJx4a65c 2 (by decide) (hts (.fieldLink RJx4a65c 48 "java/util/ArrayList" "size" "I") (by decide +kernel)) (fun x hx => hx) rfl (by decide +kernel) rfl rfl dJx4a65c_add_72be8_19 (fun H locs hO ok19 sz19 hS => ?_)
    refine cb_vret E hr hlk hS dJx4a65c_add_72be8_22 ⟨rfl, r2, cap2, va_up f2 n.toNat (some x), hO.to (fun k hk => ?_), ?_, ⟨by omega, hc2⟩, fun j hj => ?_, va_up_self _ _ _, hor, fun q h1 h2 h3 => ?_⟩
    · rcases (show k = 0 ∨ k = 1 ∨ k = 2 by omega) with rfl | rfl | rfl <;> rfl
    · rw [ok19 r2 (Ne.symm hne2)]; exact hr3
    · rw [va_up_ne _ _ (by omega)]; exact hf2 j hj
    · rw [ok19 q h2]
      by_cases hq : q = r2
      · rcases hor with ⟨e1, e2, e3⟩ | e1
        · exact absurd ⟨e3, hq.trans e1⟩ h3
        · omega
      · rw [ok14 q hq]; exact hfr q h1 h2 h3
  refine x_iload_n B hl dJx4a65c_add_72be8_0 rfl ?_
  refine x_aload_n B hl dJx4a65c_add_72be8_1 rfl ?_
  have hlen : ∃ ce : Cell, s.heap[r]? = some ce ∧ s.isArrayOf ce (.object "java/lang/Object") ∧ ce.slots.size.toInt32 = iI cap := by
    rcases hbk with ⟨h1, h2⟩ | ⟨h1, h2⟩
    · rw [h1, h2]; exact hK.2.2.2.2.1
    · exact ⟨_, h2, (E.2.2.2.2.2 3 _ rfl).1 _ _, by rw [arrV_size]; exact iI_nat _⟩
  obtain ⟨ce9, hlen, hlA, hlS⟩ := hlen
  refine ob_alenC (z := cap) E hlen hlA hlS rfl dJx4a65c_add_72be8_2 ?_
  refine x_icmp_ne (tgt := 11) B dJx4a65c_add_72be8_3 (by decide) (by omega) (by omega) (fun c1 => ?_) (fun c1 => ?_)
  · rcases hbk with ⟨h1, h2⟩ | ⟨h1, h2⟩
    · omega
    refine w_widen (k := 1) (n := 1000) (Nat.le_of_ble_eq_true rfl) (Nat.le_of_ble_eq_true rfl) ?_
    exact tail r cap f _ _ ls hO0 h2 (by omega) (by omega) (hAr h1) (fun _ _ => rfl) (hne h1) hx (Or.inl ⟨rfl, rfl, h1⟩) (fun _ _ _ _ => rfl) hS hl
  · have hcap6 : cap ≤ 650 := by omega
    have hg := gC_r hcap6
    refine x_aload_n B hl dJx4a65c_add_72be8_6 rfl ?_
    refine cb_callV (A' := A) E hK hS hl (fun q h => h) hK.2.2.2.2.2.2.1 (obRecv hK hO0 rfl) (l_grow l D cy d0 A hc hcast hcap6 hAa hAr hne c1) ⟨hO0, hbk, fun j hj => hel j (by omega)⟩ (cwV 0 hts0 gJx4a65c_add_72be8_Jx4a65c_grow_d5877 rfl rfl rfl (by decide +kernel) ⟨Nat.le_of_ble_eq_true rfl, Nat.le_of_ble_eq_true rfl⟩) rfl rfl (Nat.le_of_ble_eq_true rfl) dJx4a65c_add_72be8_7 ⟨Nat.le_of_ble_eq_true rfl, Nat.le_of_ble_eq_true rfl⟩ (fun H locs v hv hz9 hk9 hS => ?_)
    obtain ⟨rfl, hO, hq, hfr⟩ := hv
    refine x_astore_n B hl dJx4a65c_add_72be8_10 (by decide) (fun ls hl => ?_)
    have hxr : ¬ (0 < cap ∧ x = r) := fun z => by
      rcases hbk with ⟨h1, h2⟩ | ⟨h1, h2⟩
      · omega
      · obtain ⟨V, cellV, g1, g2, g3, -⟩ := hx
        rw [z.2, h2] at g1
        have e9 := Option.some.inj g1
        rw [← e9] at g2
        exact lNA hK hc g2
    exact tail _ _ _ _ _ ls hO hq (by omega) hg.2.1 (hK.2.2.2.2.2.2.1 _ (Nat.le_refl _)) (fun j hj => by rw [if_pos (by omega)]) (by omega) (hx.kept (hfr x hxl hax hxr)) (Or.inr (Nat.le_refl _)) (fun q h1 h2 h3 => hfr q h1 h2 h3) hS (lv_key hl _ rfl)
set_option maxHeartbeats 4000000 in
set_option maxRecDepth 100000 in
theorem l_add (l : Launch) (D : va_G) (cy : Nat → ClassId) (d0 : Nat) (A : Nat → Prop) {ci N : Nat} {C : String} {T : u_T} (hc : vwCl[ci]? = some (C, T, N)) (hcast : ∀ U, cLs U → va_Nw (.castable C "java/lang/Object") U) {a r cap x : Nat} {mm n : Int} {f : Nat → Option Nat} (hcap : cap ≤ 1000) (hAa : A a) (hAr : 0 < cap → A r) (hne : 0 < cap → a ≠ r) (hn : 0 ≤ n ∧ n ≤ cap) (hn6 : n ≤ 600) (hax : x ≠ a) (hela : ∀ j : Nat, (j : Int) < n → ∀ y, f j = some y → y ≠ a) : CB l yJx4a65c_add_9ea2d wsJx4a65c_add_9ea2d ({ frames := 6, cells := 1, slots := 1000, locals := 235 } : Room) D cy d0 A [.ref a, .ref x] (fun H => t_OB a (D.1 0) 3 (D.2 0) H (lV mm r n) ∧ lBk (cy 4) d0 H r cap f ∧ (∀ j : Nat, (j : Int) < n → ∀ y, f j = some y → elC D ci N H y) ∧ elC D ci N H x) (fun v H0 H1 => v = some (.int (iI 1)) ∧ (lPs D cy a r cap x (mm + 1) n f H0 H1)) 1 1000 := by
  refine cb_of (cc := cJx4a65c_add_9ea2d) (nL := 2) (ret := some .boolean) (by decide) rfl (Nat.le_of_ble_eq_true rfl) ?_
  intro p e s m args below meth c ls E hr hlk hini hK hPre hS hl
  have B := E.1
  have hml := E.2.1
  have hown := E.2.2.1
  have hts0 := E.2.2.2.1
  have hts := E.2.2.2.1
  have hK0 := E.2.2.2.2
  obtain ⟨hO, hbk, hel, hx⟩ := hPre
  have hal := hO.lt
  have hxl := hx.lt
  refine x_aload_n B hl dJx4a65c_add_9ea2d_0 rfl ?_
  refine x_dup B dJx4a65c_add_9ea2d_1 rfl ?_
  refine ob_get E hO rfl (fun z h => List.mem_cons_of_mem _ (List.mem_append_right _ h)) 0 (by decide) (hts (.fieldLink RJx4a65c 63 "java/util/ArrayList" "modCount" "I") (by decide +kernel)) (fun x hx => u_same (hts (.sameField "java/util/ArrayList" "java/util/AbstractList" "modCount" "I") (by decide +kernel)) x hx) dJx4a65c_add_9ea2d_2 rfl ?_
  refine x_iconst B dJx4a65c_add_9ea2d_5 ?_
  refine x_iadd B dJx4a65c_add_9ea2d_6 ?_
  refine ob_put (ty := .int) E hO hS hAa rfl (fun z h => List.mem_cons_of_mem _ (List.mem_append_right _ h)) tyJx4a65c_ok nmJx4a65c 0 (by decide) (hts (.fieldLink RJx4a65c 63 "java/util/ArrayList" "modCount" "I") (by decide +kernel)) (fun x hx => u_same (hts (.sameField "java/util/ArrayList" "java/util/AbstractList" "modCount" "I") (by decide +kernel)) x hx) rfl (by decide +kernel) rfl rfl dJx4a65c_add_9ea2d_7 (fun H locs hO ok7 sz7 hS => ?_)
  have hO : t_OB a (D.1 0) 3 (D.2 0) H (lV (mm + 1) r n) := hO.to (fun k hk => by rcases (show k = 0 ∨ k = 1 ∨ k = 2 by omega) with rfl | rfl | rfl <;> rfl)
  refine x_aload_n B hl dJx4a65c_add_9ea2d_10 rfl ?_
  refine x_aload_n B hl dJx4a65c_add_9ea2d_11 rfl ?_
  refine x_aload_n B hl dJx4a65c_add_9ea2d_12 rfl ?_
  refine ob_get E hO rfl (fun z h => List.mem_cons_of_mem _ (List.mem_append_right _ h)) 1 (by decide) (hts (.fieldLink RJx4a65c 9 "java/util/ArrayList" "elementData" "[Ljava/lang/Object;") (by decide +kernel)) (fun x hx => hx) dJx4a65c_add_9ea2d_13 rfl ?_
  refine x_aload_n B hl dJx4a65c_add_9ea2d_16 rfl ?_
  refine ob_get E hO rfl (fun z h => List.mem_cons_of_mem _ (List.mem_append_right _ h)) 2 (by decide) (hts (.fieldLink RJx4a65c 48 "java/util/ArrayList" "size" "I") (by decide +kernel)) (fun x hx => hx) dJx4a65c_add_9ea2d_17 rfl ?_
  have hbk2 : lBk (cy 4) d0 H r cap f := by
    rcases hbk with h | ⟨h1, h2⟩
    · exact Or.inl h
    · exact Or.inr ⟨h1, by rw [ok7 r (Ne.symm (hne h1))]; exact h2⟩
  refine cb_callV (A' := A) E hK hS hl (fun q h => h) (fun q h => hK.2.2.2.2.2.2.1 q (by omega)) (obRecv hK hO rfl) (l_add3 l D cy d0 A hc hcast hcap hAa hAr hne hn hn6 hax) ⟨hO, hbk2, fun j hj y hy => (hel j hj y hy).kept (ok7 y (hela j hj y hy)), hx.kept (ok7 x hax)⟩ (cwV 3 hts0 gJx4a65c_add_9ea2d_Jx4a65c_add_72be8 rfl rfl rfl (by decide +kernel) ⟨Nat.le_of_ble_eq_true rfl, Nat.le_of_ble_eq_true rfl⟩) rfl rfl (Nat.le_of_ble_eq_true rfl) dJx4a65c_add_9ea2d_20 ⟨Nat.le_of_ble_eq_true rfl, Nat.le_of_ble_eq_true rfl⟩ (fun H2 locs v hv hz9 hk9 hS => ?_)
  obtain ⟨rfl, r', cap', f', k1, k2, k3, k4, k5, k6, k7⟩ := hv
  refine x_iconst B dJx4a65c_add_9ea2d_23 ?_
  exact cb_iret E hr rfl hlk hS dJx4a65c_add_9ea2d_24 ⟨rfl, r', cap', f', k1, k2, k3, k4, k5, by rw [← sz7]; exact k6, fun q h1 h2 h3 => by rw [k7 q (by omega) h2 h3]; exact ok7 q h2⟩
