section CM2
variable {p : Program} {l : Launch} {e : Env} {R : Room} {s : State} {m : MethodId} {args : Array Value} {below : List Frame} {meth : Method} {c : Code} {H : Heap} {locs : List Loc} {cells slots : Nat} {Q : State → Prop}
variable {cc : ByteArray} {pc : Nat} {ls : Array Slot} {rest st : List Value} {nL : Nat} {lv : List (Nat × Value)} {Ts : List Cond} {D : va_G} {cy : Nat → ClassId} {d0 : Nat} {A : Nat → Prop} {la : Nat → Int → Nat} {σ : MS} {own : String}
theorem x_mmin {index : Nat} {a b z : Int} (E : cE p s m args c cc nL own Ts D cy) (hl : lv_has ls nL lv) (h1 : Cond.methodLink own index Lib.Math.min.name ∈ Ts) (h2 : Cond.static Lib.Math.min.name ∈ Ts) (h3 : Cond.initialized "java/lang/Math" ∈ Ts) (h4 : Cond.code Lib.Math.min.name Lib.Math.min.code 2 (some .int) ∈ Ts) (hframes : 1 ≤ R.frames) (hlocals : (rest.map fun v => v.category).sum + 13 ≤ R.locals) (hc : cells ≤ R.cells) (hs : slots ≤ R.slots) (ha : -2147483648 ≤ a ∧ a < 2147483648) (hb : -2147483648 ≤ b ∧ b < 2147483648) (d : decode cc pc = .ok (.invokestatic index, 3)) (hz : (if b < a then b else a) = z) (kk : W p l e R s m args below meth c H locs cells slots Q (F0 m (pc + 3) ls (.int (iI z) :: rest))) : W p l e R s m args below meth c H locs cells slots Q (F0 m pc ls (.int (iI b) :: .int (iI a) :: rest)) := by
  have hts := E.2.2.2.1
  refine va_mmin E.1.1 E.1.2 (E.2.1.trans hl.1.symm) E.2.2.1 (hts _ h1) (hts _ h2) (hts _ h3) (hts _ h4) hframes hlocals hc hs d ?_
  have hq : (if iI b < iI a then iI b else iI a) = iI z := by
    subst hz
    by_cases h : b < a
    · rw [if_pos h, if_pos ((iI_lt hb ha).mpr h)]
    · rw [if_neg h, if_neg (fun q => h ((iI_lt hb ha).mp q))]
  rw [hq]
  exact kk
theorem x_mmax {index : Nat} {a b z : Int} (E : cE p s m args c cc nL own Ts D cy) (hl : lv_has ls nL lv) (h1 : Cond.methodLink own index Lib.Math.max.name ∈ Ts) (h2 : Cond.static Lib.Math.max.name ∈ Ts) (h3 : Cond.initialized "java/lang/Math" ∈ Ts) (h4 : Cond.code Lib.Math.max.name Lib.Math.max.code 2 (some .int) ∈ Ts) (hframes : 1 ≤ R.frames) (hlocals : (rest.map fun v => v.category).sum + 13 ≤ R.locals) (hc : cells ≤ R.cells) (hs : slots ≤ R.slots) (ha : -2147483648 ≤ a ∧ a < 2147483648) (hb : -2147483648 ≤ b ∧ b < 2147483648) (d : decode cc pc = .ok (.invokestatic index, 3)) (hz : (if a < b then b else a) = z) (kk : W p l e R s m args below meth c H locs cells slots Q (F0 m (pc + 3) ls (.int (iI z) :: rest))) : W p l e R s m args below meth c H locs cells slots Q (F0 m pc ls (.int (iI b) :: .int (iI a) :: rest)) := by
  have hts := E.2.2.2.1
  refine va_mmax E.1.1 E.1.2 (E.2.1.trans hl.1.symm) E.2.2.1 (hts _ h1) (hts _ h2) (hts _ h3) (hts _ h4) hframes hlocals hc hs d ?_
  have hq : (if iI a < iI b then iI b else iI a) = iI z := by
    subst hz
    by_cases h : a < b
    · rw [if_pos h, if_pos ((iI_lt ha hb).mpr h)]
    · rw [if_neg h, if_neg (fun q => h ((iI_lt ha hb).mp q))]
  rw [hq]
  exact kk
theorem co_puti {f : Nat} {v : Int} {ref C : String} {T : u_T} {idx : Nat} (E : cE p s m args c cc nL own Ts D cy) (hC : CP D cy d0 A la σ H) (hS : va_S A s.heap H locs) (κ : Nat) {i : Int} (hκ : κ ≤ 11) (hlv : cLive la σ κ i) (hc : vwCl[cCi κ]? = some (C, T, cN κ)) (hin : ∀ w ∈ u_ws C T (cN κ), w ∈ Ts) (ty1 : Nat → FieldType) (hty : ∀ k, k < cN κ → parseFieldDescriptor (T k).2.2.1 = some (ty1 k)) (hnm : ∀ a, a < cN κ → ∀ b, b < cN κ → a ≠ b → (T a).2.1 ≠ (T b).2.1) (k : Nat) (hk : k < cN κ) (hlink : (Cond.fieldLink own idx ref (T k).2.1 (T k).2.2.1).before args s = true) (hsame : ∀ x, s.fieldFound? (T k).1 (T k).2.1 (T k).2.2.1 = some x → s.fieldFound? ref (T k).2.1 (T k).2.2.1 = some x) (hfin : (T k).2.2.2 = false) (hd : parseFieldDescriptor (T k).2.2.1 = some .int) (d : decode cc pc = .ok (.putfield idx, 3)) (hu : (okf f && cUq κ k) = true) (ht : sT κ k = 1 ∧ sF κ k = f ∧ cLong f = false ∧ cBool f = false) (hv : -2147483648 ≤ v ∧ v < 2147483648) (kk : ∀ (H1 : Heap) (locs1 : List Loc), CP D cy d0 A la (up σ f i v) H1 → va_S A s.heap H1 locs1 → W p l e R s m args below meth c H1 locs1 cells slots Q (F0 m (pc + 3) ls rest)) : W p l e R s m args below meth c H locs cells slots Q (F0 m pc ls (.int (iI v) :: .ref (la κ i) :: rest)) := by
  obtain ⟨h1, h2, h3, h4⟩ := ht
  subst h2
  exact co_put (v := v) E hC hS κ hκ hlv hc hin hty hnm k hk hlink hsame hfin hd rfl rfl d hu (by simp [cV, h1, up]) (cW_up hC.2.2.2.2.2.1 (fun _ => hv) (fun q => by rw [h4] at q; cases q)) kk
theorem co_putb {f : Nat} {v : Int} {ref C : String} {T : u_T} {idx : Nat} (E : cE p s m args c cc nL own Ts D cy) (hC : CP D cy d0 A la σ H) (hS : va_S A s.heap H locs) (κ : Nat) {i : Int} (hκ : κ ≤ 11) (hlv : cLive la σ κ i) (hc : vwCl[cCi κ]? = some (C, T, cN κ)) (hin : ∀ w ∈ u_ws C T (cN κ), w ∈ Ts) (ty1 : Nat → FieldType) (hty : ∀ k, k < cN κ → parseFieldDescriptor (T k).2.2.1 = some (ty1 k)) (hnm : ∀ a, a < cN κ → ∀ b, b < cN κ → a ≠ b → (T a).2.1 ≠ (T b).2.1) (k : Nat) (hk : k < cN κ) (hlink : (Cond.fieldLink own idx ref (T k).2.1 (T k).2.2.1).before args s = true) (hsame : ∀ x, s.fieldFound? (T k).1 (T k).2.1 (T k).2.2.1 = some x → s.fieldFound? ref (T k).2.1 (T k).2.2.1 = some x) (hfin : (T k).2.2.2 = false) (hd : parseFieldDescriptor (T k).2.2.1 = some .boolean) (d : decode cc pc = .ok (.putfield idx, 3)) (hu : (okf f && cUq κ k) = true) (ht : sT κ k = 1 ∧ sF κ k = f ∧ cLong f = false ∧ cBool f = true) (hv : v = 0 ∨ v = 1) (kk : ∀ (H1 : Heap) (locs1 : List Loc), CP D cy d0 A la (up σ f i v) H1 → va_S A s.heap H1 locs1 → W p l e R s m args below meth c H1 locs1 cells slots Q (F0 m (pc + 3) ls rest)) : W p l e R s m args below meth c H locs cells slots Q (F0 m pc ls (.int (iI v) :: .ref (la κ i) :: rest)) := by
  obtain ⟨h1, h2, h3, h4⟩ := ht
  subst h2
  have hnar : narrow .boolean (.int (iI v)) = .int (iI v) := by rcases hv with rfl | rfl <;> rfl
  have hfit : fits .boolean (.int (iI v)) = true := by rcases hv with rfl | rfl <;> rfl
  exact co_put (v := v) E hC hS κ hκ hlv hc hin hty hnm k hk hlink hsame hfin hd hnar hfit d hu (by simp [cV, h1, up]) (cW_up hC.2.2.2.2.2.1 (fun _ => by omega) (fun _ => hv)) kk
theorem co_putl {f : Nat} {v : Int} {ref C : String} {T : u_T} {idx : Nat} (E : cE p s m args c cc nL own Ts D cy) (hC : CP D cy d0 A la σ H) (hS : va_S A s.heap H locs) (κ : Nat) {i : Int} (hκ : κ ≤ 11) (hlv : cLive la σ κ i) (hc : vwCl[cCi κ]? = some (C, T, cN κ)) (hin : ∀ w ∈ u_ws C T (cN κ), w ∈ Ts) (ty1 : Nat → FieldType) (hty : ∀ k, k < cN κ → parseFieldDescriptor (T k).2.2.1 = some (ty1 k)) (hnm : ∀ a, a < cN κ → ∀ b, b < cN κ → a ≠ b → (T a).2.1 ≠ (T b).2.1) (k : Nat) (hk : k < cN κ) (hlink : (Cond.fieldLink own idx ref (T k).2.1 (T k).2.2.1).before args s = true) (hsame : ∀ x, s.fieldFound? (T k).1 (T k).2.1 (T k).2.2.1 = some x → s.fieldFound? ref (T k).2.1 (T k).2.2.1 = some x) (hfin : (T k).2.2.2 = false) (hd : parseFieldDescriptor (T k).2.2.1 = some .long) (d : decode cc pc = .ok (.putfield idx, 3)) (hu : (okf f && cUq κ k) = true) (ht : sT κ k = 2 ∧ sF κ k = f ∧ cLong f = true ∧ cBool f = false) (kk : ∀ (H1 : Heap) (locs1 : List Loc), CP D cy d0 A la (up σ f i v) H1 → va_S A s.heap H1 locs1 → W p l e R s m args below meth c H1 locs1 cells slots Q (F0 m (pc + 3) ls rest)) : W p l e R s m args below meth c H locs cells slots Q (F0 m pc ls (.long (lI v) :: .ref (la κ i) :: rest)) := by
  obtain ⟨h1, h2, h3, h4⟩ := ht
  subst h2
  exact co_put (v := v) E hC hS κ hκ hlv hc hin hty hnm k hk hlink hsame hfin hd rfl rfl d hu (by simp [cV, h1, up]) (cW_up hC.2.2.2.2.2.1 (fun q => by rw [h3] at q; cases q) (fun q => by rw [h4] at q; cases q)) kk
end CM2
theorem cW_i {σ : MS} (h : cW σ) {k : Nat} (hk : cLong k = false) (j : Int) : -2147483648 ≤ σ k j ∧ σ k j < 2147483648 := h.1 k j hk
/-- the weights that a bin's first n parts lay -/
def spW (σ : MS) (b d : Int) : Nat → MS
  | 0 => σ
  | n + 1 => if σ 21 (20 * b + (n : Int)) ≤ d then up (spW σ b d n) 51 (σ 19 (20 * b + (n : Int))) (σ 20 (20 * b + (n : Int))) else spW σ b d n
theorem spW_s {σ : MS} {b d k : Int} (h : 0 ≤ k) : spW σ b d (k + 1).toNat = if σ 21 (20 * b + k) ≤ d then up (spW σ b d k.toNat) 51 (σ 19 (20 * b + k)) (σ 20 (20 * b + k)) else spW σ b d k.toNat := by
  rw [show (k + 1).toNat = k.toNat + 1 by omega, spW, Int.toNat_of_nonneg h]
theorem spW_f {σ : MS} {b d : Int} {f : Nat} (hf : f ≠ 51) : ∀ n : Nat, spW σ b d n f = σ f
  | 0 => rfl
  | n + 1 => by
    rw [spW]
    split
    · rw [up_f hf, spW_f hf n]
    · exact spW_f hf n
theorem spW_q {σ : MS} {b d : Int} (n : Nat) : cLq σ (spW σ b d n) := ⟨spW_f (by decide) n, spW_f (by decide) n, spW_f (by decide) n, spW_f (by decide) n, spW_f (by decide) n, spW_f (by decide) n, spW_f (by decide) n⟩
set_option maxHeartbeats 4000000 in
set_option maxRecDepth 100000 in
theorem c_bears (l : Launch) (D : va_G) (cy : Nat → ClassId) (d0 : Nat) (A : Nat → Prop) (la : Nat → Int → Nat) (σ : MS) {b z : Int} (hb : 0 ≤ b ∧ b < σ 23 0) (hz : -2147483648 ≤ z ∧ z < 2147483648) : CM l yX0_bears wsX0_bears ({ frames := 0, cells := 0, slots := 0, locals := 0 } : Room) D cy d0 A [.ref (la 6 b), .int (iI z)] la σ (some (.int (iI (if σ 13 b = 1 ∧ σ 14 b = z then 1 else 0)))) (σ) (True) := by
  refine cn_of (cc := cX0_bears) (nL := 2) (ret := (some .boolean)) (by decide) rfl (Nat.le_of_ble_eq_true rfl) ?_
  intro p e s m args below meth c ls E hr hlk hK hC hS hl
  have B := E.1
  have hml := E.2.1
  have hown := E.2.2.1
  have hts0 := E.2.2.2.1
  have hts := E.2.2.2.1
  have hw := hC.2.2.2.2.2.1
  refine x_aload_n B hl dX0_bears_0 rfl ?_
  refine co_getb (f := 13) E hC 6 (by decide) (cl_6 hb) rfl (fun z h => List.mem_cons_of_mem _ (List.mem_append_right _ h)) 4 (by decide) (hts (.fieldLink RX0 21 "BinRounds$Bin" "hasMark" "Z") (by decide +kernel)) (fun x hx => hx) dX0_bears_1 ⟨rfl, rfl, rfl⟩ rfl (fun r_1 => ?_)
  refine x_if_eq (tgt := 19) B dX0_bears_4 (by decide) (by omega) (fun c_4 => ?_) (fun c_4 => ?_)
  · refine x_iconst B dX0_bears_19 ?_
    exact cm_iret E hr rfl hlk hC hS dX0_bears_20 (by first | rfl | (rw [if_pos (by omega)]) | (rw [if_neg (by omega)]) | (rw [if_neg (by omega), if_pos (by omega)]) | (rw [if_neg (by omega), if_neg (by omega)])) rfl (by first | trivial | omega)
  · refine x_aload_n B hl dX0_bears_7 rfl ?_
    refine co_geti (f := 14) E hC 6 (by decide) (cl_6 hb) rfl (fun z h => List.mem_cons_of_mem _ (List.mem_append_right _ h)) 5 (by decide) (hts (.fieldLink RX0 35 "BinRounds$Bin" "markNumber" "I") (by decide +kernel)) (fun x hx => hx) dX0_bears_8 ⟨rfl, rfl, rfl⟩ rfl (fun r_8 => ?_)
    refine x_iload_n B hl dX0_bears_11 rfl ?_
    refine x_icmp_ne (tgt := 19) B dX0_bears_12 (by decide) (by omega) (by omega) (fun c_12 => ?_) (fun c_12 => ?_)
    · refine x_iconst B dX0_bears_19 ?_
      exact cm_iret E hr rfl hlk hC hS dX0_bears_20 (by first | rfl | (rw [if_pos (by omega)]) | (rw [if_neg (by omega)]) | (rw [if_neg (by omega), if_pos (by omega)]) | (rw [if_neg (by omega), if_neg (by omega)])) rfl (by first | trivial | omega)
    · refine x_iconst B dX0_bears_15 ?_
      refine x_goto (tgt := 20) B dX0_bears_16 (by decide) ?_
      exact cm_iret E hr rfl hlk hC hS dX0_bears_20 (by first | rfl | (rw [if_pos (by omega)]) | (rw [if_neg (by omega)]) | (rw [if_neg (by omega), if_pos (by omega)]) | (rw [if_neg (by omega), if_neg (by omega)])) rfl (by first | trivial | omega)
set_option maxHeartbeats 4000000 in
set_option maxRecDepth 100000 in
theorem c_groupOfKind (l : Launch) (D : va_G) (cy : Nat → ClassId) (d0 : Nat) (A : Nat → Prop) (la : Nat → Int → Nat) (σ : MS) {b : Int} (hb : 0 ≤ b ∧ b < σ 23 0) : CM l yX0_groupOfKind wsX0_groupOfKind ({ frames := 0, cells := 0, slots := 0, locals := 0 } : Room) D cy d0 A [.ref (la 6 b)] la σ (some (.int (iI (sGrp (σ 12 b))))) (σ) (0 ≤ sGrp (σ 12 b) ∧ sGrp (σ 12 b) ≤ 2) := by
  refine cn_of (cc := cX0_groupOfKind) (nL := 1) (ret := (some .int)) (by decide) rfl (Nat.le_of_ble_eq_true rfl) ?_
  intro p e s m args below meth c ls E hr hlk hK hC hS hl
  have B := E.1
  have hml := E.2.1
  have hown := E.2.2.1
  have hts0 := E.2.2.2.1
  have hts := E.2.2.2.1
  have hw := hC.2.2.2.2.2.1
  refine x_aload_n B hl dX0_groupOfKind_0 rfl ?_
  refine co_geti (f := 12) E hC 6 (by decide) (cl_6 hb) rfl (fun z h => List.mem_cons_of_mem _ (List.mem_append_right _ h)) 1 (by decide) (hts (.fieldLink RX0 32 "BinRounds$Bin" "kind" "I") (by decide +kernel)) (fun x hx => hx) dX0_groupOfKind_1 ⟨rfl, rfl, rfl⟩ rfl (fun r_1 => ?_)
  rcases (show σ 12 b = 1 ∨ σ 12 b = 2 ∨ (¬ σ 12 b = 1 ∧ ¬ σ 12 b = 2) by omega) with hk | hk | hk
  · refine lv_lookup (off := 28) (tgt := 32) B.1 B.2 dX0_groupOfKind_4 (by decide) (by rw [iI_toInt r_1, hk]; decide) (by decide) ?_
    refine x_iconst B dX0_groupOfKind_32 ?_
    exact cm_iret E hr rfl hlk hC hS dX0_groupOfKind_33 (by unfold sGrp; first | (rw [if_pos (by omega)]) | (rw [if_neg (by omega), if_pos (by omega)]) | (rw [if_neg (by omega), if_neg (by omega)])) rfl (by unfold sGrp; omega)
  · refine lv_lookup (off := 30) (tgt := 34) B.1 B.2 dX0_groupOfKind_4 (by decide) (by rw [iI_toInt r_1, hk]; decide) (by decide) ?_
    refine x_iconst B dX0_groupOfKind_34 ?_
    exact cm_iret E hr rfl hlk hC hS dX0_groupOfKind_35 (by unfold sGrp; first | (rw [if_pos (by omega)]) | (rw [if_neg (by omega), if_pos (by omega)]) | (rw [if_neg (by omega), if_neg (by omega)])) rfl (by unfold sGrp; omega)
  · refine lv_lookup (off := 32) (tgt := 36) B.1 B.2 dX0_groupOfKind_4 (by decide) (by rw [iI_toInt r_1]; simp [Op.lookupswitch.offset_cons, hk.1, hk.2, Ne.symm hk.1, Ne.symm hk.2, Op.lookupswitch.offset]) (by decide) ?_
    refine x_iconst B dX0_groupOfKind_36 ?_
    exact cm_iret E hr rfl hlk hC hS dX0_groupOfKind_37 (by unfold sGrp; first | (rw [if_pos (by omega)]) | (rw [if_neg (by omega), if_pos (by omega)]) | (rw [if_neg (by omega), if_neg (by omega)])) rfl (by unfold sGrp; omega)
set_option maxHeartbeats 4000000 in
set_option maxRecDepth 100000 in
theorem c_latestMoveDay (l : Launch) (D : va_G) (cy : Nat → ClassId) (d0 : Nat) (A : Nat → Prop) (la : Nat → Int → Nat) (σ : MS) {b : Int} (hb : 0 ≤ b ∧ b < σ 23 0) (hm : 0 ≤ σ 18 b ∧ σ 18 b ≤ 8) : CM l yX0_latestMoveDay wsX0_latestMoveDay ({ frames := 3, cells := 0, slots := 0, locals := 64 } : Room) D cy d0 A [.ref (la 6 b)] la σ (some (.int (iI (if σ 18 b = 0 then 0 else σ 17 (8 * b + (σ 18 b - 1)))))) (σ) (-2147483648 ≤ (if σ 18 b = 0 then 0 else σ 17 (8 * b + (σ 18 b - 1))) ∧ (if σ 18 b = 0 then 0 else σ 17 (8 * b + (σ 18 b - 1))) < 2147483648) := by
  refine cn_of (cc := cX0_latestMoveDay) (nL := 1) (ret := (some .int)) (by decide) rfl (Nat.le_of_ble_eq_true rfl) ?_
  intro p e s m args below meth c ls E hr hlk hK hC hS hl
  have B := E.1
  have hml := E.2.1
  have hown := E.2.2.1
  have hts0 := E.2.2.2.1
  have hts := E.2.2.2.1
  have hw := hC.2.2.2.2.2.1
  refine x_aload_n B hl dX0_latestMoveDay_0 rfl ?_
  refine co_getR (x := la 11 (5 + 2 * b)) E hC 6 (by decide) (cl_6 hb) rfl (fun z h => List.mem_cons_of_mem _ (List.mem_append_left _ (List.mem_append_left _ (List.mem_append_right _ h)))) 2 (by decide) (hts (.fieldLink RX0 12 "BinRounds$Bin" "moves" "Ljava/util/ArrayList;") (by decide +kernel)) (fun x hx => hx) dX0_latestMoveDay_1 rfl rfl ?_
  refine co_call E hK hC hS hl (κ := 11) (i := (5 + 2 * b)) (by decide) (cl_11 (by omega)) rfl (c_isEmpty l D cy d0 A la _ (L := (5 + 2 * b)) (n := σ 18 b) (cl_11 (by omega)) ((cSz_m hb.1).trans rfl) (by omega)) (cwV 0 hts0 gX0_latestMoveDay_Jx4a65c_isEmpty_aae02 rfl rfl rfl (by decide +kernel) ⟨Nat.le_of_ble_eq_true rfl, Nat.le_of_ble_eq_true rfl⟩) rfl rfl (Nat.le_of_ble_eq_true rfl) dX0_latestMoveDay_4 ⟨Nat.zero_le _, Nat.zero_le _⟩ (fun H locs q_4 hC hS => ?_)
  refine x_bool (fun b_4 => ?_) (fun b_4 => ?_)
  · refine x_if_eq_f (tgt := 14) B dX0_latestMoveDay_7 (by decide) (by decide) ?_
    refine x_iconst B dX0_latestMoveDay_10 ?_
    refine x_goto (tgt := 36) B dX0_latestMoveDay_11 (by decide) ?_
    exact cm_iret E hr rfl hlk hC hS dX0_latestMoveDay_36 (by first | rw [if_pos (by omega)] | rw [if_neg (by omega)]) rfl (by first | trivial | omega)
  · refine x_if_eq_t (tgt := 14) B dX0_latestMoveDay_7 (by decide) (by decide) ?_
    refine x_aload_n B hl dX0_latestMoveDay_14 rfl ?_
    refine co_getR (x := la 11 (5 + 2 * b)) E hC 6 (by decide) (cl_6 hb) rfl (fun z h => List.mem_cons_of_mem _ (List.mem_append_left _ (List.mem_append_left _ (List.mem_append_right _ h)))) 2 (by decide) (hts (.fieldLink RX0 12 "BinRounds$Bin" "moves" "Ljava/util/ArrayList;") (by decide +kernel)) (fun x hx => hx) dX0_latestMoveDay_15 rfl rfl ?_
    refine x_aload_n B hl dX0_latestMoveDay_18 rfl ?_
    refine co_getR (x := la 11 (5 + 2 * b)) E hC 6 (by decide) (cl_6 hb) rfl (fun z h => List.mem_cons_of_mem _ (List.mem_append_left _ (List.mem_append_left _ (List.mem_append_right _ h)))) 2 (by decide) (hts (.fieldLink RX0 12 "BinRounds$Bin" "moves" "Ljava/util/ArrayList;") (by decide +kernel)) (fun x hx => hx) dX0_latestMoveDay_19 rfl rfl ?_
    refine co_call E hK hC hS hl (κ := 11) (i := (5 + 2 * b)) (by decide) (cl_11 (by omega)) rfl (c_size l D cy d0 A la _ (L := (5 + 2 * b)) (n := σ 18 b) (cl_11 (by omega)) ((cSz_m hb.1).trans rfl)) (cwV 0 hts0 gX0_latestMoveDay_Jx4a65c_size_8abf5 rfl rfl rfl (by decide +kernel) ⟨Nat.le_of_ble_eq_true rfl, Nat.le_of_ble_eq_true rfl⟩) rfl rfl (Nat.le_of_ble_eq_true rfl) dX0_latestMoveDay_22 ⟨Nat.zero_le _, Nat.zero_le _⟩ (fun H locs q_22 hC hS => ?_)
    refine x_iconst B dX0_latestMoveDay_25 ?_
    refine x_isub B dX0_latestMoveDay_26 ?_
    refine co_call E hK hC hS hl (κ := 11) (i := (5 + 2 * b)) (by decide) (cl_11 (by omega)) rfl (c_get l D cy d0 A la _ (L := (5 + 2 * b)) (n := σ 18 b) (j := (σ 18 b - 1)) (x := la 7 (8 * b + (σ 18 b - 1))) (cl_11 (by omega)) ((cSz_m hb.1).trans rfl) (by omega) (by omega) (cEl_m hb.1 _)) (cwV 1 hts0 gX0_latestMoveDay_Jx4a65c_get_915e3 rfl rfl rfl (by decide +kernel) ⟨Nat.le_of_ble_eq_true rfl, Nat.le_of_ble_eq_true rfl⟩) rfl rfl (Nat.le_of_ble_eq_true rfl) dX0_latestMoveDay_27 ⟨Nat.zero_le _, Nat.zero_le _⟩ (fun H locs q_27 hC hS => ?_)
    refine co_cast E hK hC 7 (by decide) (cl_7b hb (by omega) (by omega)) rfl (by decide +kernel) dX0_latestMoveDay_30 ?_
    refine co_geti (f := 17) E hC 7 (by decide) (cl_7b hb (by omega) (by omega)) rfl (fun z h => List.mem_cons_of_mem _ (List.mem_append_left _ (List.mem_append_right _ h))) 1 (by decide) (hts (.fieldLink RX0 52 "BinRounds$Move" "day" "I") (by decide +kernel)) (fun x hx => hx) dX0_latestMoveDay_33 ⟨rfl, rfl, rfl⟩ rfl (fun r_33 => ?_)
    exact cm_iret E hr rfl hlk hC hS dX0_latestMoveDay_36 (by first | rw [if_pos (by omega)] | rw [if_neg (by omega)]) rfl (by first | trivial | omega)
set_option maxHeartbeats 4000000 in
set_option maxRecDepth 100000 in
theorem c_latestPartDay (l : Launch) (D : va_G) (cy : Nat → ClassId) (d0 : Nat) (A : Nat → Prop) (la : Nat → Int → Nat) (σ : MS) {b : Int} (hb : 0 ≤ b ∧ b < σ 23 0) (hm : 0 ≤ σ 22 b ∧ σ 22 b ≤ 20) : CM l yX0_latestPartDay wsX0_latestPartDay ({ frames := 3, cells := 0, slots := 0, locals := 64 } : Room) D cy d0 A [.ref (la 6 b)] la σ (some (.int (iI (if σ 22 b = 0 then 0 else σ 21 (20 * b + (σ 22 b - 1)))))) (σ) (-2147483648 ≤ (if σ 22 b = 0 then 0 else σ 21 (20 * b + (σ 22 b - 1))) ∧ (if σ 22 b = 0 then 0 else σ 21 (20 * b + (σ 22 b - 1))) < 2147483648) := by
  refine cn_of (cc := cX0_latestPartDay) (nL := 1) (ret := (some .int)) (by decide) rfl (Nat.le_of_ble_eq_true rfl) ?_
  intro p e s m args below meth c ls E hr hlk hK hC hS hl
  have B := E.1
  have hml := E.2.1
  have hown := E.2.2.1
  have hts0 := E.2.2.2.1
  have hts := E.2.2.2.1
  have hw := hC.2.2.2.2.2.1
  refine x_aload_n B hl dX0_latestPartDay_0 rfl ?_
  refine co_getR (x := la 11 (6 + 2 * b)) E hC 6 (by decide) (cl_6 hb) rfl (fun z h => List.mem_cons_of_mem _ (List.mem_append_left _ (List.mem_append_left _ (List.mem_append_right _ h)))) 3 (by decide) (hts (.fieldLink RX0 18 "BinRounds$Bin" "parts" "Ljava/util/ArrayList;") (by decide +kernel)) (fun x hx => hx) dX0_latestPartDay_1 rfl rfl ?_
  refine co_call E hK hC hS hl (κ := 11) (i := (6 + 2 * b)) (by decide) (cl_11 (by omega)) rfl (c_isEmpty l D cy d0 A la _ (L := (6 + 2 * b)) (n := σ 22 b) (cl_11 (by omega)) ((cSz_p hb.1).trans rfl) (by omega)) (cwV 0 hts0 gX0_latestPartDay_Jx4a65c_isEmpty_aae02 rfl rfl rfl (by decide +kernel) ⟨Nat.le_of_ble_eq_true rfl, Nat.le_of_ble_eq_true rfl⟩) rfl rfl (Nat.le_of_ble_eq_true rfl) dX0_latestPartDay_4 ⟨Nat.zero_le _, Nat.zero_le _⟩ (fun H locs q_4 hC hS => ?_)
  refine x_bool (fun b_4 => ?_) (fun b_4 => ?_)
  · refine x_if_eq_f (tgt := 14) B dX0_latestPartDay_7 (by decide) (by decide) ?_
    refine x_iconst B dX0_latestPartDay_10 ?_
    refine x_goto (tgt := 36) B dX0_latestPartDay_11 (by decide) ?_
    exact cm_iret E hr rfl hlk hC hS dX0_latestPartDay_36 (by first | rw [if_pos (by omega)] | rw [if_neg (by omega)]) rfl (by first | trivial | omega)
  · refine x_if_eq_t (tgt := 14) B dX0_latestPartDay_7 (by decide) (by decide) ?_
    refine x_aload_n B hl dX0_latestPartDay_14 rfl ?_
    refine co_getR (x := la 11 (6 + 2 * b)) E hC 6 (by decide) (cl_6 hb) rfl (fun z h => List.mem_cons_of_mem _ (List.mem_append_left _ (List.mem_append_left _ (List.mem_append_right _ h)))) 3 (by decide) (hts (.fieldLink RX0 18 "BinRounds$Bin" "parts" "Ljava/util/ArrayList;") (by decide +kernel)) (fun x hx => hx) dX0_latestPartDay_15 rfl rfl ?_
    refine x_aload_n B hl dX0_latestPartDay_18 rfl ?_
    refine co_getR (x := la 11 (6 + 2 * b)) E hC 6 (by decide) (cl_6 hb) rfl (fun z h => List.mem_cons_of_mem _ (List.mem_append_left _ (List.mem_append_left _ (List.mem_append_right _ h)))) 3 (by decide) (hts (.fieldLink RX0 18 "BinRounds$Bin" "parts" "Ljava/util/ArrayList;") (by decide +kernel)) (fun x hx => hx) dX0_latestPartDay_19 rfl rfl ?_
    refine co_call E hK hC hS hl (κ := 11) (i := (6 + 2 * b)) (by decide) (cl_11 (by omega)) rfl (c_size l D cy d0 A la _ (L := (6 + 2 * b)) (n := σ 22 b) (cl_11 (by omega)) ((cSz_p hb.1).trans rfl)) (cwV 0 hts0 gX0_latestPartDay_Jx4a65c_size_8abf5 rfl rfl rfl (by decide +kernel) ⟨Nat.le_of_ble_eq_true rfl, Nat.le_of_ble_eq_true rfl⟩) rfl rfl (Nat.le_of_ble_eq_true rfl) dX0_latestPartDay_22 ⟨Nat.zero_le _, Nat.zero_le _⟩ (fun H locs q_22 hC hS => ?_)
    refine x_iconst B dX0_latestPartDay_25 ?_
    refine x_isub B dX0_latestPartDay_26 ?_
    refine co_call E hK hC hS hl (κ := 11) (i := (6 + 2 * b)) (by decide) (cl_11 (by omega)) rfl (c_get l D cy d0 A la _ (L := (6 + 2 * b)) (n := σ 22 b) (j := (σ 22 b - 1)) (x := la 8 (20 * b + (σ 22 b - 1))) (cl_11 (by omega)) ((cSz_p hb.1).trans rfl) (by omega) (by omega) (cEl_p hb.1 _)) (cwV 1 hts0 gX0_latestPartDay_Jx4a65c_get_915e3 rfl rfl rfl (by decide +kernel) ⟨Nat.le_of_ble_eq_true rfl, Nat.le_of_ble_eq_true rfl⟩) rfl rfl (Nat.le_of_ble_eq_true rfl) dX0_latestPartDay_27 ⟨Nat.zero_le _, Nat.zero_le _⟩ (fun H locs q_27 hC hS => ?_)
    refine co_cast E hK hC 8 (by decide) (cl_8b hb (by omega) (by omega)) rfl (by decide +kernel) dX0_latestPartDay_30 ?_
    refine co_geti (f := 21) E hC 8 (by decide) (cl_8b hb (by omega) (by omega)) rfl (fun z h => List.mem_cons_of_mem _ (List.mem_append_left _ (List.mem_append_right _ h))) 2 (by decide) (hts (.fieldLink RX0 57 "BinRounds$Part" "day" "I") (by decide +kernel)) (fun x hx => hx) dX0_latestPartDay_33 ⟨rfl, rfl, rfl⟩ rfl (fun r_33 => ?_)
    exact cm_iret E hr rfl hlk hC hS dX0_latestPartDay_36 (by first | rw [if_pos (by omega)] | rw [if_neg (by omega)]) rfl (by first | trivial | omega)
set_option maxHeartbeats 4000000 in
set_option maxRecDepth 100000 in
theorem c_ownerOn (l : Launch) (D : va_G) (cy : Nat → ClassId) (d0 : Nat) (A : Nat → Prop) (la : Nat → Int → Nat) (σ : MS) {b d : Int} (hb : 0 ≤ b ∧ b < σ 23 0) (hd : -2147483648 ≤ d ∧ d < 2147483648) (hm : 0 ≤ σ 18 b ∧ σ 18 b ≤ 8) (hv : ∀ j, 0 ≤ σ 16 j) : CM l yX0_ownerOn wsX0_ownerOn ({ frames := 3, cells := 0, slots := 0, locals := 64 } : Room) D cy d0 A [.ref (la 6 b), .int (iI d)] la σ (some (if sHouse σ b d < 0 then .null else .ref (la 5 (sHouse σ b d)))) (σ) (True) := by
  refine cn_of (cc := cX0_ownerOn) (nL := 3) (ret := (some (.object "BinRounds$House"))) (by decide) rfl (Nat.le_of_ble_eq_true rfl) ?_
  intro p e s m args below meth c ls E hr hlk hK hC hS hl
  have B := E.1
  have hml := E.2.1
  have hown := E.2.2.1
  have hts0 := E.2.2.2.1
  have hts := E.2.2.2.1
  have hw := hC.2.2.2.2.2.1
  have loop : ∀ (n : Nat) (i : Int) (H : Heap) (locs : List Loc) (ls : Array Slot), -1 ≤ i → i < σ 18 b → sHo σ b d (i + 1).toNat = sHouse σ b d → i + 1 < n → CP D cy d0 A la σ H → va_S A s.heap H locs → lv_has ls 3 [(0, .ref (la 6 b)), (1, .int (iI d)), (2, .int (iI i))] → W p l e ({ frames := 3, cells := 0, slots := 0, locals := 64 } : Room) s m args below meth c H locs 0 0 (MQ below (cQ D cy d0 A (fun v' la' τ => v' = (some (if sHouse σ b d < 0 then .null else .ref (la 5 (sHouse σ b d)))) ∧ la' = la ∧ τ = (σ) ∧ (True))) args s 0 0 A) (F0 m 10 ls []) := by
    intro n
    induction n with
    | zero => intro i H locs ls h1 h2 h3 h4; exact absurd h4 (by omega)
    | succ n ih =>
      intro i H locs ls h1 h2 h3 h4 hC hS hl
      refine x_iload_n B hl dX0_ownerOn_10 rfl ?_
      refine x_if_lt (tgt := 53) B dX0_ownerOn_11 (by decide) (by omega) (fun c_11 => ?_) (fun c_11 => ?_)
      · refine lv_null B.1 B.2 dX0_ownerOn_53 ?_
        have hx : sHouse σ b d = -1 := by rw [← h3, show i + 1 = 0 by omega]; rfl
        exact co_aretN E hr (Or.inl ⟨_, rfl⟩) hlk hC hS dX0_ownerOn_54 ⟨by rw [hx]; rfl, rfl, rfl, trivial⟩
      · refine x_aload_n B hl dX0_ownerOn_14 rfl ?_
        refine co_getR (x := la 11 (5 + 2 * b)) E hC 6 (by decide) (cl_6 hb) rfl (fun z h => List.mem_cons_of_mem _ (List.mem_append_left _ (List.mem_append_left _ (List.mem_append_right _ h)))) 2 (by decide) (hts (.fieldLink RX0 12 "BinRounds$Bin" "moves" "Ljava/util/ArrayList;") (by decide +kernel)) (fun x hx => hx) dX0_ownerOn_15 rfl rfl ?_
        refine x_iload_n B hl dX0_ownerOn_18 rfl ?_
        refine co_call E hK hC hS hl (κ := 11) (i := (5 + 2 * b)) (by decide) (cl_11 (by omega)) rfl (c_get l D cy d0 A la _ (L := (5 + 2 * b)) (n := σ 18 b) (j := i) (x := la 7 (8 * b + i)) (cl_11 (by omega)) ((cSz_m hb.1).trans rfl) (by omega) (by omega) (cEl_m hb.1 _)) (cwV 1 hts0 gX0_ownerOn_Jx4a65c_get_915e3 rfl rfl rfl (by decide +kernel) ⟨Nat.le_of_ble_eq_true rfl, Nat.le_of_ble_eq_true rfl⟩) rfl rfl (Nat.le_of_ble_eq_true rfl) dX0_ownerOn_19 ⟨Nat.zero_le _, Nat.zero_le _⟩ (fun H locs q_19 hC hS => ?_)
        refine co_cast E hK hC 7 (by decide) (cl_7b hb (by omega) (by omega)) rfl (by decide +kernel) dX0_ownerOn_22 ?_
        refine co_geti (f := 17) E hC 7 (by decide) (cl_7b hb (by omega) (by omega)) rfl (fun z h => List.mem_cons_of_mem _ (List.mem_append_left _ (List.mem_append_right _ h))) 1 (by decide) (hts (.fieldLink RX0 52 "BinRounds$Move" "day" "I") (by decide +kernel)) (fun x hx => hx) dX0_ownerOn_25 ⟨rfl, rfl, rfl⟩ rfl (fun r_25 => ?_)
        refine x_iload_n B hl dX0_ownerOn_28 rfl ?_
        refine x_icmp_gt (tgt := 47) B dX0_ownerOn_29 (by decide) (by omega) (by omega) (fun c_29 => ?_) (fun c_29 => ?_)
        · refine x_iinc B hl dX0_ownerOn_47 rfl (by decide) (fun ls hl => ?_)
          refine x_goto (tgt := 10) B dX0_ownerOn_50 (by decide) ?_
          exact ih (i + -1) H locs ls (by omega) (by omega) (by rw [show i + -1 + 1 = i by omega, ← h3, sHo_s (by omega), if_neg (by omega)]) (by omega) (hC) hS (lv_key hl [(0, .ref (la 6 b)), (1, .int (iI d)), (2, .int (iI (i + -1)))] rfl)
        · refine x_aload_n B hl dX0_ownerOn_32 rfl ?_
          refine co_getR (x := la 11 (5 + 2 * b)) E hC 6 (by decide) (cl_6 hb) rfl (fun z h => List.mem_cons_of_mem _ (List.mem_append_left _ (List.mem_append_left _ (List.mem_append_right _ h)))) 2 (by decide) (hts (.fieldLink RX0 12 "BinRounds$Bin" "moves" "Ljava/util/ArrayList;") (by decide +kernel)) (fun x hx => hx) dX0_ownerOn_33 rfl rfl ?_
          refine x_iload_n B hl dX0_ownerOn_36 rfl ?_
          refine co_call E hK hC hS hl (κ := 11) (i := (5 + 2 * b)) (by decide) (cl_11 (by omega)) rfl (c_get l D cy d0 A la _ (L := (5 + 2 * b)) (n := σ 18 b) (j := i) (x := la 7 (8 * b + i)) (cl_11 (by omega)) ((cSz_m hb.1).trans rfl) (by omega) (by omega) (cEl_m hb.1 _)) (cwV 1 hts0 gX0_ownerOn_Jx4a65c_get_915e3 rfl rfl rfl (by decide +kernel) ⟨Nat.le_of_ble_eq_true rfl, Nat.le_of_ble_eq_true rfl⟩) rfl rfl (Nat.le_of_ble_eq_true rfl) dX0_ownerOn_37 ⟨Nat.zero_le _, Nat.zero_le _⟩ (fun H locs q_37 hC hS => ?_)
          refine co_cast E hK hC 7 (by decide) (cl_7b hb (by omega) (by omega)) rfl (by decide +kernel) dX0_ownerOn_40 ?_
          refine co_getR (x := la 5 (σ 16 (8 * b + i))) E hC 7 (by decide) (cl_7b hb (by omega) (by omega)) rfl (fun z h => List.mem_cons_of_mem _ (List.mem_append_left _ (List.mem_append_right _ h))) 0 (by decide) (hts (.fieldLink RX0 58 "BinRounds$Move" "owner" "LBinRounds$House;") (by decide +kernel)) (fun x hx => hx) dX0_ownerOn_43 rfl rfl ?_
          have hx : sHouse σ b d = σ 16 (8 * b + i) := by rw [← h3, sHo_s (by omega), if_pos (by omega)]
          exact co_aret E hr (Or.inl ⟨_, rfl⟩) hlk hC hS dX0_ownerOn_46 ⟨by rw [hx, if_neg (show ¬ σ 16 (8 * b + i) < 0 by have := hv (8 * b + i); omega)], rfl, rfl, trivial⟩
  refine x_aload_n B hl dX0_ownerOn_0 rfl ?_
  refine co_getR (x := la 11 (5 + 2 * b)) E hC 6 (by decide) (cl_6 hb) rfl (fun z h => List.mem_cons_of_mem _ (List.mem_append_left _ (List.mem_append_left _ (List.mem_append_right _ h)))) 2 (by decide) (hts (.fieldLink RX0 12 "BinRounds$Bin" "moves" "Ljava/util/ArrayList;") (by decide +kernel)) (fun x hx => hx) dX0_ownerOn_1 rfl rfl ?_
  refine co_call E hK hC hS hl (κ := 11) (i := (5 + 2 * b)) (by decide) (cl_11 (by omega)) rfl (c_size l D cy d0 A la _ (L := (5 + 2 * b)) (n := σ 18 b) (cl_11 (by omega)) ((cSz_m hb.1).trans rfl)) (cwV 0 hts0 gX0_ownerOn_Jx4a65c_size_8abf5 rfl rfl rfl (by decide +kernel) ⟨Nat.le_of_ble_eq_true rfl, Nat.le_of_ble_eq_true rfl⟩) rfl rfl (Nat.le_of_ble_eq_true rfl) dX0_ownerOn_4 ⟨Nat.zero_le _, Nat.zero_le _⟩ (fun H locs q_4 hC hS => ?_)
  refine x_iconst B dX0_ownerOn_7 ?_
  refine x_isub B dX0_ownerOn_8 ?_
  refine x_istore_n B hl dX0_ownerOn_9 (by decide) (fun ls hl => ?_)
  exact loop 9 (σ 18 b - 1) _ _ ls (by omega) (by omega) (by rw [show σ 18 b - 1 + 1 = σ 18 b by omega]; rfl) (by omega) (hC) hS (lv_key hl [(0, .ref (la 6 b)), (1, .int (iI d)), (2, .int (iI (σ 18 b - 1)))] rfl)
set_option maxHeartbeats 4000000 in
set_option maxRecDepth 100000 in
theorem c_spreadWeights (l : Launch) (D : va_G) (cy : Nat → ClassId) (d0 : Nat) (A : Nat → Prop) (la : Nat → Int → Nat) (σ : MS) {b d : Int} (hb : 0 ≤ b ∧ b < σ 23 0) (hd : -2147483648 ≤ d ∧ d < 2147483648) (hm : 0 ≤ σ 22 b ∧ σ 22 b ≤ 20) (hv : ∀ j, 0 ≤ σ 19 j ∧ σ 19 j < σ 11 0) : CM l yX0_spreadWeights wsX0_spreadWeights ({ frames := 3, cells := 0, slots := 0, locals := 64 } : Room) D cy d0 A [.ref (la 6 b), .int (iI d)] la σ (none) (spW σ b d (σ 22 b).toNat) (True) := by
  refine cn_of (cc := cX0_spreadWeights) (nL := 4) (ret := none) (by decide) rfl (Nat.le_of_ble_eq_true rfl) ?_
  intro p e s m args below meth c ls E hr hlk hK hC hS hl
  have B := E.1
  have hml := E.2.1
  have hown := E.2.2.1
  have hts0 := E.2.2.2.1
  have hts := E.2.2.2.1
  have hw := hC.2.2.2.2.2.1
  have loop : ∀ (n : Nat) (k : Int) (H : Heap) (locs : List Loc) (ls : Array Slot), 0 ≤ k → k ≤ σ 22 b → σ 22 b - k < n → CP D cy d0 A la (spW σ b d k.toNat) H → va_S A s.heap H locs → lv_has ls 4 [(0, .ref (la 6 b)), (1, .int (iI d)), (2, .int (iI k))] → W p l e ({ frames := 3, cells := 0, slots := 0, locals := 64 } : Room) s m args below meth c H locs 0 0 (MQ below (cQ D cy d0 A (fun v' la' τ => v' = (none) ∧ la' = la ∧ τ = (spW σ b d (σ 22 b).toNat) ∧ (True))) args s 0 0 A) (F0 m 2 ls []) := by
    intro n
    induction n with
    | zero => intro k H locs ls h1 h2 h3; exact absurd h3 (by omega)
    | succ n ih =>
      intro k H locs ls h1 h2 h3 hC hS hl
      refine x_iload_n B hl dX0_spreadWeights_2 rfl ?_
      refine x_aload_n B hl dX0_spreadWeights_3 rfl ?_
      refine co_getR (x := la 11 (6 + 2 * b)) E hC 6 (by decide) (cl_q (spW_q k.toNat) (cl_6 hb)) rfl (fun z h => List.mem_cons_of_mem _ (List.mem_append_left _ (List.mem_append_left _ (List.mem_append_left _ (List.mem_append_right _ h))))) 3 (by decide) (hts (.fieldLink RX0 18 "BinRounds$Bin" "parts" "Ljava/util/ArrayList;") (by decide +kernel)) (fun x hx => hx) dX0_spreadWeights_4 rfl rfl ?_
      refine co_call E hK hC hS hl (κ := 11) (i := (6 + 2 * b)) (by decide) (cl_q (spW_q k.toNat) (cl_11 (by omega))) rfl (c_size l D cy d0 A la _ (L := (6 + 2 * b)) (n := σ 22 b) (cl_q (spW_q k.toNat) (cl_11 (by omega))) ((cSz_p hb.1).trans ((congrFun (spW_f (b := b) (d := d) (by decide) k.toNat) _).trans rfl))) (cwV 0 hts0 gX0_spreadWeights_Jx4a65c_size_8abf5 rfl rfl rfl (by decide +kernel) ⟨Nat.le_of_ble_eq_true rfl, Nat.le_of_ble_eq_true rfl⟩) rfl rfl (Nat.le_of_ble_eq_true rfl) dX0_spreadWeights_7 ⟨Nat.zero_le _, Nat.zero_le _⟩ (fun H locs q_7 hC hS => ?_)
      refine x_icmp_ge (tgt := 51) B dX0_spreadWeights_10 (by decide) (by omega) (by omega) (fun c_10 => ?_) (fun c_10 => ?_)
      · exact cm_vret E hr hlk hC hS dX0_spreadWeights_51 (by rw [show k = σ 22 b by omega]) trivial
      · refine x_aload_n B hl dX0_spreadWeights_13 rfl ?_
        refine co_getR (x := la 11 (6 + 2 * b)) E hC 6 (by decide) (cl_q (spW_q k.toNat) (cl_6 hb)) rfl (fun z h => List.mem_cons_of_mem _ (List.mem_append_left _ (List.mem_append_left _ (List.mem_append_left _ (List.mem_append_right _ h))))) 3 (by decide) (hts (.fieldLink RX0 18 "BinRounds$Bin" "parts" "Ljava/util/ArrayList;") (by decide +kernel)) (fun x hx => hx) dX0_spreadWeights_14 rfl rfl ?_
        refine x_iload_n B hl dX0_spreadWeights_17 rfl ?_
        refine co_call E hK hC hS hl (κ := 11) (i := (6 + 2 * b)) (by decide) (cl_q (spW_q k.toNat) (cl_11 (by omega))) rfl (c_get l D cy d0 A la _ (L := (6 + 2 * b)) (n := σ 22 b) (j := k) (x := la 8 (20 * b + k)) (cl_q (spW_q k.toNat) (cl_11 (by omega))) ((cSz_p hb.1).trans ((congrFun (spW_f (b := b) (d := d) (by decide) k.toNat) _).trans rfl)) (by omega) (by omega) (cEl_p hb.1 _)) (cwV 1 hts0 gX0_spreadWeights_Jx4a65c_get_915e3 rfl rfl rfl (by decide +kernel) ⟨Nat.le_of_ble_eq_true rfl, Nat.le_of_ble_eq_true rfl⟩) rfl rfl (Nat.le_of_ble_eq_true rfl) dX0_spreadWeights_18 ⟨Nat.zero_le _, Nat.zero_le _⟩ (fun H locs q_18 hC hS => ?_)
        refine co_cast E hK hC 8 (by decide) (cl_q (spW_q k.toNat) (cl_8b hb (by omega) (by omega))) rfl (by decide +kernel) dX0_spreadWeights_21 ?_
        refine x_astore_n B hl dX0_spreadWeights_24 (by decide) (fun ls hl => ?_)
        refine x_aload_n B hl dX0_spreadWeights_25 rfl ?_
        refine co_geti (f := 21) E hC 8 (by decide) (cl_q (spW_q k.toNat) (cl_8b hb (by omega) (by omega))) rfl (fun z h => List.mem_cons_of_mem _ (List.mem_append_left _ (List.mem_append_left _ (List.mem_append_right _ h)))) 2 (by decide) (hts (.fieldLink RX0 57 "BinRounds$Part" "day" "I") (by decide +kernel)) (fun x hx => hx) dX0_spreadWeights_26 ⟨rfl, rfl, rfl⟩ ((congrFun (spW_f (b := b) (d := d) (by decide) k.toNat) _).trans rfl) (fun r_26 => ?_)
        refine x_iload_n B hl dX0_spreadWeights_29 rfl ?_
        refine x_icmp_gt (tgt := 45) B dX0_spreadWeights_30 (by decide) (by omega) (by omega) (fun c_30 => ?_) (fun c_30 => ?_)
        · refine x_iinc B hl dX0_spreadWeights_45 rfl (by decide) (fun ls hl => ?_)
          refine x_goto (tgt := 2) B dX0_spreadWeights_48 (by decide) ?_
          exact ih (k + 1) H locs ls (by omega) (by omega) (by omega) ((by first | (rw [spW_s (by omega), if_pos (by omega)]; exact hC) | (rw [spW_s (by omega), if_neg (by omega)]; exact hC))) hS (lv_key hl [(0, .ref (la 6 b)), (1, .int (iI d)), (2, .int (iI (k + 1)))] rfl)
        · refine x_aload_n B hl dX0_spreadWeights_33 rfl ?_
          refine co_getR (x := la 5 (σ 19 (20 * b + k))) E hC 8 (by decide) (cl_q (spW_q k.toNat) (cl_8b hb (by omega) (by omega))) rfl (fun z h => List.mem_cons_of_mem _ (List.mem_append_left _ (List.mem_append_left _ (List.mem_append_right _ h)))) 0 (by decide) (hts (.fieldLink RX0 62 "BinRounds$Part" "sharer" "LBinRounds$House;") (by decide +kernel)) (fun x hx => hx) dX0_spreadWeights_34 rfl (congrArg (fun z => some (la 5 z)) (congrFun (spW_f (b := b) (d := d) (by decide) k.toNat) (20 * b + k))) ?_
          refine x_aload_n B hl dX0_spreadWeights_37 rfl ?_
          refine co_geti (f := 20) E hC 8 (by decide) (cl_q (spW_q k.toNat) (cl_8b hb (by omega) (by omega))) rfl (fun z h => List.mem_cons_of_mem _ (List.mem_append_left _ (List.mem_append_left _ (List.mem_append_right _ h)))) 1 (by decide) (hts (.fieldLink RX0 65 "BinRounds$Part" "weight" "I") (by decide +kernel)) (fun x hx => hx) dX0_spreadWeights_38 ⟨rfl, rfl, rfl⟩ ((congrFun (spW_f (b := b) (d := d) (by decide) k.toNat) _).trans rfl) (fun r_38 => ?_)
          refine x_i2l B dX0_spreadWeights_41 (by omega) ?_
          refine co_putl (f := 51) E hC hS 5 (by decide) (cl_q (spW_q k.toNat) (cl_5 (hv (20 * b + k)))) rfl (fun z h => List.mem_cons_of_mem _ (List.mem_append_left _ (List.mem_append_right _ h))) tyX3 tyX3_ok nmX3 8 (by decide) (hts (.fieldLink RX0 68 "BinRounds$House" "weight" "J") (by decide +kernel)) (fun x hx => hx) rfl rfl dX0_spreadWeights_42 (by decide) ⟨rfl, rfl, rfl, rfl⟩  (fun H locs hC hS => ?_)
          refine x_iinc B hl dX0_spreadWeights_45 rfl (by decide) (fun ls hl => ?_)
          refine x_goto (tgt := 2) B dX0_spreadWeights_48 (by decide) ?_
          exact ih (k + 1) H locs ls (by omega) (by omega) (by omega) ((by first | (rw [spW_s (by omega), if_pos (by omega)]; exact hC) | (rw [spW_s (by omega), if_neg (by omega)]; exact hC))) hS (lv_key hl [(0, .ref (la 6 b)), (1, .int (iI d)), (2, .int (iI (k + 1)))] rfl)
  refine x_iconst B dX0_spreadWeights_0 ?_
  refine x_istore_n B hl dX0_spreadWeights_1 (by decide) (fun ls hl => ?_)
  exact loop 21 0 _ _ ls (by omega) (by omega) (by omega) (hC) hS (lv_key hl [(0, .ref (la 6 b)), (1, .int (iI d)), (2, .int (iI 0))] rfl)
