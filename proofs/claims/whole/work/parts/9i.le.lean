section LEW
variable {p : Program} {l : Launch} {e : Env} {R : Room} {s : State} {m : MethodId} {below : List Frame} {meth : Method} {c : Code} {H : Heap} {locs : List Loc} {cells slots : Nat} {Q : State → Prop}
variable {pc : Nat} {ls : Array Slot} {st rest : List Value} {lv : List (Nat × Value)} {D : va_G} {cy : Nat → ClassId} {d0 : Nat} {la : Nat → Int → Nat} {σ : MS} {o a b L x : Nat} {ad : Nat → Nat} {xs : Nat → Int32} {n i : Int} {C Rv : Int} {bytes : ByteArray} {maxL index : Nat} {off : Int}
abbrev lCw (R : Room) (s : State) (b index : Nat) (bytes : ByteArray) (maxL : Nat) : Prop := CallW R s #[Value.ref b] RL RX11 index yX11_thrown bytes maxL (some .int) wsX11_thrown ({ frames := 0, cells := 0, slots := 0, locals := 0 } : Room) 0 0 0
/-- what is thrown is what the wrapper told -/
theorem ls_e0 (G : lG p s m c b L xs D cy d0 a o ad) (hB : lB D cy d0 (lA s a o ad) o ad a x n la σ H) (e0 : σ 0 0 = C) (hS : va_S (l9 s) s.heap H locs) (hl : lv_has ls 8 lv) (h2 : lget lv 2 = some (.ref o)) (h5 : lget lv 5 = some (.int (iI C))) (cw : lCw R s b index bytes maxL) (hf : cells ≤ R.cells ∧ slots ≤ R.slots) (q0 : decode cL_law pc = .ok (.aload_n 2, 1)) (q1 : decode cL_law (pc + 1) = .ok (.invokevirtual index, 3)) (q2 : decode cL_law (pc + 4) = .ok (.iload 5, 2)) (q3 : decode cL_law (pc + 6) = .ok (.if_icmp .eq 5, 3))
    (kk : ∀ (H1 : Heap) (locs1 : List Loc), lB D cy d0 (lA s a o ad) o ad a x n la σ H1 → H1[a]? = H[a]? → va_S (l9 s) s.heap H1 locs1 → -2147483648 ≤ C ∧ C < 2147483648 → W p l e R s m #[Value.ref b] below meth c H1 locs1 cells slots Q (F0 m (pc + 11) ls [])) : W p l e R s m #[Value.ref b] below meth c H locs cells slots Q (F0 m pc ls []) := by
  have B := G.1.1
  refine x_aload_n B hl q0 h2 ?_
  refine ls_t G hB hS hl cw (by decide) q1 hf (fun H1 locs1 hB1 ha hS1 hr => ?_)
  rw [e0] at hr ⊢
  refine x_iload B hl q2 h5 ?_
  refine x_icmp_eq (tgt := pc + 11) B q3 (by omega) hr hr (fun _ => ?_) (fun h => absurd rfl h)
  exact kk H1 locs1 hB1 ha hS1 hr
theorem ls_endV (G : lG p s m c b L xs D cy d0 a o ad) (hB : lB D cy d0 (lA s a o ad) o ad a x n la σ H) (e0 : σ 0 0 = C) (hS : va_S (l9 s) s.heap H locs) (hl : lv_has ls 8 [(5, .int (iI C)), (0, .ref b), (1, .ref x), (2, .ref o), (3, .ref a), (4, .int (iI i))]) (cw : lCw R s b index bytes maxL) (hf : cells ≤ R.cells ∧ slots ≤ R.slots) (q0 : decode cL_law pc = .ok (.aload_n 2, 1)) (q1 : decode cL_law (pc + 1) = .ok (.invokevirtual index, 3)) (q2 : decode cL_law (pc + 4) = .ok (.iload 5, 2)) (q3 : decode cL_law (pc + 6) = .ok (.if_icmp .eq 5, 3)) (q4 : decode cL_law (pc + 11) = .ok (.goto off, 3)) (hg : ((pc + 11 : Nat) : Int) + off = ((2333 : Nat) : Int))
    (kk : ∀ (H1 : Heap) (locs1 : List Loc) (ls1 : Array Slot), lB D cy d0 (lA s a o ad) o ad a x n la σ H1 → va_S (l9 s) s.heap H1 locs1 → lv_has ls1 8 (lL b x o a i) → W p l e R s m #[Value.ref b] below meth c H1 locs1 cells slots Q (F0 m 2333 ls1 [])) : W p l e R s m #[Value.ref b] below meth c H locs cells slots Q (F0 m pc ls []) := by
  have B := G.1.1
  refine ls_e0 G hB e0 hS hl rfl rfl cw hf q0 q1 q2 q3 (fun H1 locs1 hB1 ha hS1 hr => ?_)
  refine x_goto (tgt := 2333) B q4 hg ?_
  exact kk H1 locs1 ls hB1 hS1 (lv_key hl (lL b x o a i) rfl)
theorem ls_endI (G : lG p s m c b L xs D cy d0 a o ad) (hB : lB D cy d0 (lA s a o ad) o ad a x n la σ H) (e0 : σ 0 0 = C) (ho : C = 0 → H[a]? = some (arrV (cy 3) 1 (fun _ => .long (lI Rv))) ∧ (-2147483648 ≤ Rv ∧ Rv < 2147483648)) (hS : va_S (l9 s) s.heap H locs) (hl : lv_has ls 8 [(6, .int (iI (if C = 0 then Rv else 0))), (5, .int (iI C)), (0, .ref b), (1, .ref x), (2, .ref o), (3, .ref a), (4, .int (iI i))]) (cw : lCw R s b index bytes maxL) (hf : cells ≤ R.cells ∧ slots ≤ R.slots) (q0 : decode cL_law pc = .ok (.aload_n 2, 1)) (q1 : decode cL_law (pc + 1) = .ok (.invokevirtual index, 3)) (q2 : decode cL_law (pc + 4) = .ok (.iload 5, 2)) (q3 : decode cL_law (pc + 6) = .ok (.if_icmp .eq 5, 3)) (q4 : decode cL_law (pc + 11) = .ok (.iload 5, 2)) (q5 : decode cL_law (pc + 13) = .ok (.ifCond .ne 15, 3)) (q6 : decode cL_law (pc + 16) = .ok (.aload_n 3, 1)) (q7 : decode cL_law (pc + 17) = .ok (.iconst 0, 1)) (q8 : decode cL_law (pc + 18) = .ok (.laload, 1)) (q9 : decode cL_law (pc + 19) = .ok (.iload 6, 2)) (qa : decode cL_law (pc + 21) = .ok (.i2l, 1)) (qb : decode cL_law (pc + 22) = .ok (.lcmp, 1)) (qc : decode cL_law (pc + 23) = .ok (.ifCond .eq 5, 3)) (qd : decode cL_law (pc + 28) = .ok (.goto off, 3)) (hg : ((pc + 28 : Nat) : Int) + off = ((2333 : Nat) : Int))
    (kk : ∀ (H1 : Heap) (locs1 : List Loc) (ls1 : Array Slot), lB D cy d0 (lA s a o ad) o ad a x n la σ H1 → va_S (l9 s) s.heap H1 locs1 → lv_has ls1 8 (lL b x o a i) → W p l e R s m #[Value.ref b] below meth c H1 locs1 cells slots Q (F0 m 2333 ls1 [])) : W p l e R s m #[Value.ref b] below meth c H locs cells slots Q (F0 m pc ls []) := by
  have B := G.1.1
  refine ls_e0 G hB e0 hS hl rfl rfl cw hf q0 q1 q2 q3 (fun H1 locs1 hB1 ha hS1 hr => ?_)
  refine x_iload B hl q4 rfl ?_
  refine x_if_ne (tgt := pc + 28) B q5 (by omega) hr (fun h => ?_) (fun h => ?_)
  · refine x_goto (tgt := 2333) B qd hg ?_
    exact kk H1 locs1 ls hB1 hS1 (lv_key hl (lL b x o a i) rfl)
  · obtain ⟨h1, h2⟩ := ho h
    rw [if_pos h] at hl
    refine x_aload_n B hl q6 rfl ?_
    refine x_iconst B q7 ?_
    refine ls_lald G (ha.trans h1) q8 ?_
    refine x_iload B hl q9 rfl ?_
    refine x_i2l B qa h2 ?_
    refine x_lcmp_eq (tgt := pc + 28) B qb qc (by omega) (by omega) (by omega) (fun _ => ?_) (fun z => absurd rfl z)
    refine x_goto (tgt := 2333) B qd hg ?_
    exact kk H1 locs1 ls hB1 hS1 (lv_key hl (lL b x o a i) rfl)
theorem ls_endL (G : lG p s m c b L xs D cy d0 a o ad) (hB : lB D cy d0 (lA s a o ad) o ad a x n la σ H) (e0 : σ 0 0 = C) (ho : C = 0 → H[a]? = some (arrV (cy 3) 1 (fun _ => .long (lI Rv))) ∧ True) (hS : va_S (l9 s) s.heap H locs) (hl : lv_has ls 8 [(6, .long (lI (if C = 0 then Rv else 0))), (5, .int (iI C)), (0, .ref b), (1, .ref x), (2, .ref o), (3, .ref a), (4, .int (iI i))]) (cw : lCw R s b index bytes maxL) (hf : cells ≤ R.cells ∧ slots ≤ R.slots) (q0 : decode cL_law pc = .ok (.aload_n 2, 1)) (q1 : decode cL_law (pc + 1) = .ok (.invokevirtual index, 3)) (q2 : decode cL_law (pc + 4) = .ok (.iload 5, 2)) (q3 : decode cL_law (pc + 6) = .ok (.if_icmp .eq 5, 3)) (q4 : decode cL_law (pc + 11) = .ok (.iload 5, 2)) (q5 : decode cL_law (pc + 13) = .ok (.ifCond .ne 14, 3)) (q6 : decode cL_law (pc + 16) = .ok (.aload_n 3, 1)) (q7 : decode cL_law (pc + 17) = .ok (.iconst 0, 1)) (q8 : decode cL_law (pc + 18) = .ok (.laload, 1)) (q9 : decode cL_law (pc + 19) = .ok (.lload 6, 2)) (qb : decode cL_law (pc + 21) = .ok (.lcmp, 1)) (qc : decode cL_law (pc + 22) = .ok (.ifCond .eq 5, 3)) (qd : decode cL_law (pc + 27) = .ok (.goto off, 3)) (hg : ((pc + 27 : Nat) : Int) + off = ((2333 : Nat) : Int))
    (kk : ∀ (H1 : Heap) (locs1 : List Loc) (ls1 : Array Slot), lB D cy d0 (lA s a o ad) o ad a x n la σ H1 → va_S (l9 s) s.heap H1 locs1 → lv_has ls1 8 (lL b x o a i) → W p l e R s m #[Value.ref b] below meth c H1 locs1 cells slots Q (F0 m 2333 ls1 [])) : W p l e R s m #[Value.ref b] below meth c H locs cells slots Q (F0 m pc ls []) := by
  have B := G.1.1
  refine ls_e0 G hB e0 hS hl rfl rfl cw hf q0 q1 q2 q3 (fun H1 locs1 hB1 ha hS1 hr => ?_)
  refine x_iload B hl q4 rfl ?_
  refine x_if_ne (tgt := pc + 27) B q5 (by omega) hr (fun h => ?_) (fun h => ?_)
  · refine x_goto (tgt := 2333) B qd hg ?_
    exact kk H1 locs1 ls hB1 hS1 (lv_key hl (lL b x o a i) rfl)
  · obtain ⟨h1, -⟩ := ho h
    rw [if_pos h] at hl
    obtain ⟨z, hz, ez⟩ : ∃ z : Int, (-9223372036854775808 ≤ z ∧ z < 9223372036854775808) ∧ lI Rv = lI z := ⟨(lI Rv).toInt, lI_rng _, (lI_self _).symm⟩
    rw [ez] at hl h1
    refine x_aload_n B hl q6 rfl ?_
    refine x_iconst B q7 ?_
    refine ls_lald G (ha.trans h1) q8 ?_
    refine x_lload B hl q9 rfl ?_
    refine x_lcmp_eq (tgt := pc + 27) B qb qc (by omega) hz hz (fun _ => ?_) (fun z => absurd rfl z)
    refine x_goto (tgt := 2333) B qd hg ?_
    exact kk H1 locs1 ls hB1 hS1 (lv_key hl (lL b x o a i) rfl)
theorem ls_endB (G : lG p s m c b L xs D cy d0 a o ad) (hB : lB D cy d0 (lA s a o ad) o ad a x n la σ H) (e0 : σ 0 0 = C) (ho : C = 0 → H[a]? = some (arrV (cy 3) 1 (fun _ => .long (lI Rv))) ∧ (Rv = 0 ∨ Rv = 1)) (hS : va_S (l9 s) s.heap H locs) (hl : lv_has ls 8 [(6, .int (iI (if C = 0 then Rv else 0))), (5, .int (iI C)), (0, .ref b), (1, .ref x), (2, .ref o), (3, .ref a), (4, .int (iI i))]) (cw : lCw R s b index bytes maxL) (hf : cells ≤ R.cells ∧ slots ≤ R.slots) (q0 : decode cL_law pc = .ok (.aload_n 2, 1)) (q1 : decode cL_law (pc + 1) = .ok (.invokevirtual index, 3)) (q2 : decode cL_law (pc + 4) = .ok (.iload 5, 2)) (q3 : decode cL_law (pc + 6) = .ok (.if_icmp .eq 5, 3)) (q4 : decode cL_law (pc + 11) = .ok (.iload 5, 2)) (q5 : decode cL_law (pc + 13) = .ok (.ifCond .ne 22, 3)) (q6 : decode cL_law (pc + 16) = .ok (.aload_n 3, 1)) (q7 : decode cL_law (pc + 17) = .ok (.iconst 0, 1)) (q8 : decode cL_law (pc + 18) = .ok (.laload, 1)) (q9 : decode cL_law (pc + 19) = .ok (.iload 6, 2)) (qa : decode cL_law (pc + 21) = .ok (.ifCond .eq 7, 3)) (qb : decode cL_law (pc + 24) = .ok (.lconst 1, 1)) (qc : decode cL_law (pc + 25) = .ok (.goto 4, 3)) (qd : decode cL_law (pc + 28) = .ok (.lconst 0, 1)) (qe : decode cL_law (pc + 29) = .ok (.lcmp, 1)) (qf : decode cL_law (pc + 30) = .ok (.ifCond .eq 5, 3)) (qg : decode cL_law (pc + 35) = .ok (.goto off, 3)) (hg : ((pc + 35 : Nat) : Int) + off = ((2333 : Nat) : Int))
    (kk : ∀ (H1 : Heap) (locs1 : List Loc) (ls1 : Array Slot), lB D cy d0 (lA s a o ad) o ad a x n la σ H1 → va_S (l9 s) s.heap H1 locs1 → lv_has ls1 8 (lL b x o a i) → W p l e R s m #[Value.ref b] below meth c H1 locs1 cells slots Q (F0 m 2333 ls1 [])) : W p l e R s m #[Value.ref b] below meth c H locs cells slots Q (F0 m pc ls []) := by
  have B := G.1.1
  refine ls_e0 G hB e0 hS hl rfl rfl cw hf q0 q1 q2 q3 (fun H1 locs1 hB1 ha hS1 hr => ?_)
  refine x_iload B hl q4 rfl ?_
  refine x_if_ne (tgt := pc + 35) B q5 (by omega) hr (fun h => ?_) (fun h => ?_)
  · refine x_goto (tgt := 2333) B qg hg ?_
    exact kk H1 locs1 ls hB1 hS1 (lv_key hl (lL b x o a i) rfl)
  · obtain ⟨h1, h2⟩ := ho h
    rw [if_pos h] at hl
    refine x_aload_n B hl q6 rfl ?_
    refine x_iconst B q7 ?_
    refine ls_lald G (ha.trans h1) q8 ?_
    refine x_iload B hl q9 rfl ?_
    rcases h2 with rfl | rfl
    · refine x_if_eq_t (tgt := pc + 28) B qa (by omega) ⟨⟨by decide, by decide⟩, rfl⟩ ?_
      refine x_lconst (n := 0) B qd ?_
      refine x_lcmp_eq (a := 0) (b := 0) (tgt := pc + 35) B qe qf (by omega) ⟨by decide, by decide⟩ ⟨by decide, by decide⟩ (fun _ => ?_) (fun z => absurd rfl z)
      refine x_goto (tgt := 2333) B qg hg ?_
      exact kk H1 locs1 ls hB1 hS1 (lv_key hl (lL b x o a i) rfl)
    · refine x_if_eq_f (tgt := pc + 28) B qa (by omega) ⟨⟨by decide, by decide⟩, by decide⟩ ?_
      refine x_lconst (n := 1) B qb ?_
      refine x_goto (tgt := pc + 29) B qc (by omega) ?_
      refine x_lcmp_eq (a := 1) (b := 1) (tgt := pc + 35) B qe qf (by omega) ⟨by decide, by decide⟩ ⟨by decide, by decide⟩ (fun _ => ?_) (fun z => absurd rfl z)
      refine x_goto (tgt := 2333) B qg hg ?_
      exact kk H1 locs1 ls hB1 hS1 (lv_key hl (lL b x o a i) rfl)
/-- the long of two ints -/
theorem ls_ln (G : lG p s m c b L xs D cy d0 a o ad) (hS : va_S (l9 s) s.heap H locs) (hl : lv_has ls 8 lv) (h0 : lget lv 0 = some (.ref b)) (h4 : lget lv 4 = some (.int (iI i))) (hi : 0 ≤ i ∧ i + 5 ≤ L) (hc : (Cond.constantLong RL 219 4294967295).before #[Value.ref b] s = true) (q0 : decode cL_law pc = .ok (.aload_n 0, 1)) (q1 : decode cL_law (pc + 1) = .ok (.iload 4, 2)) (q2 : decode cL_law (pc + 3) = .ok (.iconst 2, 1)) (q3 : decode cL_law (pc + 4) = .ok (.iadd, 1)) (q4 : decode cL_law (pc + 5) = .ok (.iaload, 1)) (q5 : decode cL_law (pc + 6) = .ok (.i2l, 1)) (q6 : decode cL_law (pc + 7) = .ok (.bipush 32, 2)) (q7 : decode cL_law (pc + 9) = .ok (.lshl, 1)) (r0 : decode cL_law (pc + 10) = .ok (.aload_n 0, 1)) (r1 : decode cL_law (pc + 11) = .ok (.iload 4, 2)) (r2 : decode cL_law (pc + 13) = .ok (.iconst 3, 1)) (r3 : decode cL_law (pc + 14) = .ok (.iadd, 1)) (r4 : decode cL_law (pc + 15) = .ok (.iaload, 1)) (r5 : decode cL_law (pc + 16) = .ok (.i2l, 1)) (r6 : decode cL_law (pc + 17) = .ok (.ldc2_w 219, 3)) (r7 : decode cL_law (pc + 20) = .ok (.land, 1)) (r8 : decode cL_law (pc + 21) = .ok (.lor, 1))
    (kk : W p l e R s m #[Value.ref b] below meth c H locs cells slots Q (F0 m (pc + 22) ls (.long (lI (lY xs i)) :: rest))) : W p l e R s m #[Value.ref b] below meth c H locs cells slots Q (F0 m pc ls rest) := by
  have B := G.1.1
  refine ls_rd (k := 2) G hS hl h0 h4 hi ⟨by decide, by decide⟩ q0 q1 q2 q3 q4 ?_
  refine x_i2l B q5 (lX_r xs i 2) ?_
  refine x_bipush B q6 rfl ?_
  refine lv_lshl B.1 B.2 q7 rfl ?_
  refine ls_rd (k := 3) G hS hl h0 h4 hi ⟨by decide, by decide⟩ r0 r1 r2 r3 r4 ?_
  refine x_i2l B r5 (lX_r xs i 3) ?_
  refine lv_ldc2 (v := lI 4294967295) B.1 B.2 G.1.2.2.1 hc r6 ?_
  refine lv_land B.1 B.2 r7 ?_
  refine lv_lor B.1 B.2 r8 ?_
  unfold lY at kk
  rw [lI_self] at kk
  exact kk
end LEW
/-- what follows a turn -/
abbrev lNext (p : Program) (l : Launch) (e : Env) (s : State) (m : MethodId) (below : List Frame) (meth : Method) (c : Code) (Q : State → Prop) (D : va_G) (cy : Nat → ClassId) (d0 a o : Nat) (ad : Nat → Nat) (b x : Nat) (i n : Int) (cells slots : Nat) : Prop :=
  ∀ (H1 : Heap) (locs1 : List Loc) (la1 : Nat → Int → Nat) (σ1 : MS) (ls1 : Array Slot), lB D cy d0 (lA s a o ad) o ad a x (n + 1) la1 σ1 H1 → va_S (l9 s) s.heap H1 locs1 → lv_has ls1 8 (lL b x o a i) → W p l e room_1 s m #[Value.ref b] below meth c H1 locs1 (cells + 24) (slots + 2100) Q (F0 m 2333 ls1 [])
theorem lBo (v : Int) : (if v = 0 then (0 : Int) else 1) = 0 ∨ (if v = 0 then (0 : Int) else 1) = 1 := by
  split
  · exact Or.inl rfl
  · exact Or.inr rfl
