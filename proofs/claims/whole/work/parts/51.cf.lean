section CM6
variable {p : Program} {l : Launch} {e : Env} {R : Room} {s : State} {m : MethodId} {args : Array Value} {below : List Frame} {meth : Method} {c : Code} {H : Heap} {locs : List Loc} {cells slots : Nat} {Q : State → Prop}
variable {cc : ByteArray} {pc : Nat} {ls : Array Slot} {rest st : List Value} {nL : Nat} {lv : List (Nat × Value)} {Ts : List Cond} {D : va_G} {cy : Nat → ClassId} {d0 : Nat} {A : Nat → Prop} {la : Nat → Int → Nat} {σ : MS} {own C : String} {T : u_T}
theorem co_eqn {i j : Int} (hC : CP D cy d0 A la σ H) (h1 : ¬ i < 0 → cLive la σ 6 i) (h2 : cLive la σ 6 j) (h : (if i < 0 then none else some (la 6 i)) = some (la 6 j)) : i = j := by
  by_cases h0 : i < 0
  · rw [if_pos h0] at h; cases h
  · rw [if_neg h0] at h; exact co_eq hC (by decide) (h1 h0) h2 h
theorem co_callX {y : MethodName} {bytes : ByteArray} {maxL n index : Nat} {ret : Option FieldType} {wsy : List Cond} {rm : Room} {av : List Value} {v : Option Value} {P : MS → Prop} {κ : Nat} {i : Int} (E : cE p s m args c cc nL own Ts D cy) (hK : cK D cy d0 A s s.heap) (hC : CP D cy d0 A la σ H) (hS : va_S A s.heap H locs) (hl : lv_has ls nL lv) (hκ : κ ≤ 11) (hlv : cLive la σ κ i) (hc : vwCl[cCi κ]? = some (C, T, cN κ))
    (hM : CN l y wsy rm D cy d0 A (.ref (la κ i) :: av) la σ (fun v' la' τ => v' = v ∧ la' = la ∧ P τ) 0 0) (cw : CallW R s args own C index y bytes maxL ret wsy rm 0 0 n) (hst : st = av.reverse ++ .ref (la κ i) :: rest) (hn : av.length = n) (hW : (rest.map fun v => v.category).sum ≤ 8) (d : decode cc pc = .ok (.invokevirtual index, 3)) (hf : cells ≤ R.cells ∧ slots ≤ R.slots)
    (kk : ∀ (H1 : Heap) (locs1 : List Loc) (τ : MS), P τ → CP D cy d0 A la τ H1 → va_S A s.heap H1 locs1 → W p l e R s m args below meth c H1 locs1 cells slots Q (F0 m (pc + 3) ls (v.toList ++ rest))) : W p l e R s m args below meth c H locs cells slots Q (F0 m pc ls st) := by
  refine co_callN E hK hC hS hl hκ hlv hc hM cw hst hn hW d hf (fun H1 locs1 v1 la1 σ1 hp hC1 hS1 => ?_)
  obtain ⟨e1, e2, hp⟩ := hp
  subst e1
  rw [e2] at hC1
  exact kk H1 locs1 σ1 hp hC1 hS1
theorem x_mlabs {index : Nat} {a z : Int} (E : cE p s m args c cc nL own Ts D cy) (hl : lv_has ls nL lv) (h1 : Cond.methodLink own index Lib.MathLoose.abs_long.x ∈ Ts) (h2 : Cond.static Lib.MathLoose.abs_long.x ∈ Ts) (h3 : Cond.initialized "java/lang/Math" ∈ Ts) (h4 : Cond.code Lib.MathLoose.abs_long.x Lib.MathLoose.abs_long.code 2 (some .long) ∈ Ts) (hframes : 1 ≤ R.frames) (hlocals : (rest.map fun v => v.category).sum + 13 ≤ R.locals) (hc : cells ≤ R.cells) (hs : slots ≤ R.slots) (ha : -9223372036854775808 ≤ a ∧ a < 9223372036854775808) (d : decode cc pc = .ok (.invokestatic index, 3)) (hz : (if 0 < a then a else -a) = z) (kk : W p l e R s m args below meth c H locs cells slots Q (F0 m (pc + 3) ls (.long (lI z) :: rest))) : W p l e R s m args below meth c H locs cells slots Q (F0 m pc ls (.long (lI a) :: rest)) := by
  have hts := E.2.2.2.1
  refine va_mabs_long E.1.1 E.1.2 (E.2.1.trans hl.1.symm) E.2.2.1 (hts _ h1) (hts _ h2) (hts _ h3) (hts _ h4) hframes hlocals hc hs d ?_
  have hq : (if 0 < lI a then lI a else -lI a) = lI z := by
    subst hz
    by_cases h : 0 < a
    · rw [if_pos h, if_pos (show (0 : Int64) < lI a from (lI_lt (a := 0) (b := a) (by decide) ha).mpr h)]
    · rw [if_neg h, if_neg (show ¬ (0 : Int64) < lI a from fun q => h ((lI_lt (a := 0) (b := a) (by decide) ha).mp q)), lI_neg]
  rw [hq]
  exact kk
end CM6
theorem cLq_2 {σ τ : MS} (h : ∀ q, q ≠ 55 → q ≠ 56 → τ q = σ q) : cLq σ τ := ⟨h _ (by decide) (by decide), h _ (by decide) (by decide), h _ (by decide) (by decide), h _ (by decide) (by decide), h _ (by decide) (by decide), h _ (by decide) (by decide), h _ (by decide) (by decide)⟩
def rGt (σ : MS) : Nat → MS
  | 0 => σ
  | n + 1 => up (up (rGt σ n) 53 (n : Int) (if sAgr σ (n : Int) then 0 else 1)) 54 (n : Int) (σ 26 (n : Int))
theorem rGt_s {σ : MS} {k : Int} (h : 0 ≤ k) : rGt σ (k + 1).toNat = up (up (rGt σ k.toNat) 53 k (if sAgr σ k then 0 else 1)) 54 k (σ 26 k) := by
  rw [show (k + 1).toNat = k.toNat + 1 by omega, rGt, Int.toNat_of_nonneg h]
theorem rGt_f {σ : MS} {f : Nat} (h1 : f ≠ 53) (h2 : f ≠ 54) : ∀ n : Nat, rGt σ n f = σ f
  | 0 => rfl
  | n + 1 => by rw [rGt, up_f h2, up_f h1, rGt_f h1 h2 n]
theorem rGt_q {σ : MS} (n : Nat) : cLq σ (rGt σ n) := ⟨rGt_f (by decide) (by decide) n, rGt_f (by decide) (by decide) n, rGt_f (by decide) (by decide) n, rGt_f (by decide) (by decide) n, rGt_f (by decide) (by decide) n, rGt_f (by decide) (by decide) n, rGt_f (by decide) (by decide) n⟩
theorem sFt_c {σ τ : MS} (h32 : τ 32 = σ 32) (h1 : τ 1 = σ 1) : ∀ n, sFt τ n = sFt σ n
  | 0 => rfl
  | n + 1 => by rw [sFt, sFt, h32, h1, sFt_c h32 h1 n]
theorem sHt_c {σ τ : MS} (h32 : τ 32 = σ 32) (h1 : τ 1 = σ 1) (h33 : τ 33 = σ 33) (h35 : τ 35 = σ 35) (q : Int) : ∀ n, sHt τ q n = sHt σ q n
  | 0 => rfl
  | n + 1 => by rw [sHt, sHt, h32, h1, h33, h35, sHt_c h32 h1 h33 h35 q n]
set_option maxHeartbeats 4000000 in
set_option maxRecDepth 100000 in
theorem c_agrees (l : Launch) (D : va_G) (cy : Nat → ClassId) (d0 : Nat) (A : Nat → Prop) (la : Nat → Int → Nat) (σ : MS) {q : Int} (hq : 0 ≤ q ∧ q < σ 27 0) (hn45 : 0 ≤ σ 45 0 ∧ σ 45 0 ≤ 600) (hn23 : 0 ≤ σ 23 0 ∧ σ 23 0 ≤ 1000) (hlg : σ 58 0 = 0 ∧ σ 59 0 = 0) (ho : sOrd σ) (hh : ∀ t, 0 ≤ t → t < σ 45 0 → 0 ≤ σ 35 t ∧ σ 35 t ≤ 3000000) (hct : ∀ t, 0 ≤ t → t < σ 45 0 → 0 ≤ σ 33 t ∧ σ 33 t < σ 27 0) (htol : 0 ≤ σ 31 0 ∧ σ 31 0 ≤ 1000) (hgt : -1 ≤ σ 26 q ∧ σ 26 q ≤ 1000000) : CM l yX10_agrees wsX10_agrees ({ frames := 5, cells := 0, slots := 0, locals := 108 } : Room) D cy d0 A [.ref (la 0 0), .ref (la 9 q)] la σ (some (.int (iI (if sAgr σ q then 1 else 0)))) (σ) (True) := by
  refine cn_of (cc := cX10_agrees) (nL := 4) (ret := (some .boolean)) (by decide) rfl (Nat.le_of_ble_eq_true rfl) ?_
  intro p e s m args below meth c ls E hr hlk hK hC hS hl
  have B := E.1
  have hml := E.2.1
  have hown := E.2.2.1
  have hts0 := E.2.2.2.1
  have hts := E.2.2.2.1
  have hw := hC.2.2.2.2.2.1
  refine x_aload_n B hl dX10_agrees_0 rfl ?_
  refine co_geti (f := 26) E hC 9 (by decide) (cl_9 hq) rfl (fun z h => List.mem_cons_of_mem _ (List.mem_append_left _ (List.mem_append_left _ (List.mem_append_left _ (List.mem_append_right _ h))))) 3 (by decide) (hts (.fieldLink RX10 240 "BinRounds$Cart" "gateHalves" "I") (by decide +kernel)) (fun x hx => hx) dX10_agrees_1 ⟨rfl, rfl, rfl⟩ rfl (fun r_1 => ?_)
  refine x_iconst B dX10_agrees_4 ?_
  refine x_icmp_ne (tgt := 10) B dX10_agrees_5 (by decide) (by omega) (by omega) (fun c_5 => ?_) (fun c_5 => ?_)
  · refine x_aload_n B hl dX10_agrees_10 rfl ?_
    refine x_aload_n B hl dX10_agrees_11 rfl ?_
    refine co_call E hK hC hS hl (κ := 0) (i := 0) (by decide) cl_0 rfl (c_halvesToday l D cy d0 A la σ (q := q) hq hn45 hn23 hlg ho hh hct) (cwV 1 hts0 gX10_agrees_X10_halvesToday rfl rfl rfl (by decide +kernel) ⟨Nat.le_of_ble_eq_true rfl, Nat.le_of_ble_eq_true rfl⟩) rfl rfl (Nat.le_of_ble_eq_true rfl) dX10_agrees_12 ⟨Nat.zero_le _, Nat.zero_le _⟩ (fun H locs q_h hC hS => ?_)
    refine x_i2l B dX10_agrees_15 (by omega) ?_
    refine x_aload_n B hl dX10_agrees_16 rfl ?_
    refine co_geti (f := 26) E hC 9 (by decide) (cl_9 hq) rfl (fun z h => List.mem_cons_of_mem _ (List.mem_append_left _ (List.mem_append_left _ (List.mem_append_left _ (List.mem_append_right _ h))))) 3 (by decide) (hts (.fieldLink RX10 240 "BinRounds$Cart" "gateHalves" "I") (by decide +kernel)) (fun x hx => hx) dX10_agrees_17 ⟨rfl, rfl, rfl⟩ rfl (fun r_17 => ?_)
    refine x_i2l B dX10_agrees_20 (by omega) ?_
    refine x_lsub B dX10_agrees_21 ?_
    refine x_mlabs (z := (if 0 < sHalves σ q - σ 26 q then sHalves σ q - σ 26 q else -(sHalves σ q - σ 26 q))) E hl (by decide +kernel) (by decide +kernel) (by decide +kernel) (by decide +kernel) (Nat.le_of_ble_eq_true rfl) (Nat.le_of_ble_eq_true rfl) (Nat.zero_le _) (Nat.zero_le _) (by omega) dX10_agrees_22 rfl ?_
    refine x_lstore_n B hl dX10_agrees_25 (by decide) (fun ls hl => ?_)
    refine lv_ldc2 (v := lI 1000) B.1 B.2 hown (hts (.constantLong RX10 161 (1000)) (by decide +kernel)) dX10_agrees_26 ?_
    refine x_lload_n B hl dX10_agrees_29 rfl ?_
    refine x_lmul B dX10_agrees_30 ?_
    refine x_aload_n B hl dX10_agrees_31 rfl ?_
    refine co_geti (f := 31) E hC 0 (by decide) cl_0 rfl (fun z h => List.mem_cons_of_mem _ (List.mem_append_left _ (List.mem_append_left _ (List.mem_append_right _ h)))) 10 (by decide) (hts (.fieldLink RX10 56 "BinRounds" "tolerance" "I") (by decide +kernel)) (fun x hx => hx) dX10_agrees_32 ⟨rfl, rfl, rfl⟩ rfl (fun r_32 => ?_)
    refine x_i2l B dX10_agrees_35 (by omega) ?_
    refine x_aload_n B hl dX10_agrees_36 rfl ?_
    refine co_geti (f := 26) E hC 9 (by decide) (cl_9 hq) rfl (fun z h => List.mem_cons_of_mem _ (List.mem_append_left _ (List.mem_append_left _ (List.mem_append_left _ (List.mem_append_right _ h))))) 3 (by decide) (hts (.fieldLink RX10 240 "BinRounds$Cart" "gateHalves" "I") (by decide +kernel)) (fun x hx => hx) dX10_agrees_37 ⟨rfl, rfl, rfl⟩ rfl (fun r_37 => ?_)
    refine x_i2l B dX10_agrees_40 (by omega) ?_
    have e9 : 0 ≤ σ 31 0 * σ 26 q ∧ σ 31 0 * σ 26 q ≤ 10000000000 := ⟨Int.mul_nonneg htol.1 (by omega), by have e1 := Int.mul_le_mul (a := σ 31 0) (b := σ 26 q) (c := 1000) (d := 1000000) (by omega) (by omega) (by omega) (by omega); omega⟩
    refine x_lmul B dX10_agrees_41 ?_
    refine x_lcmp_gt (tgt := 50) B dX10_agrees_42 dX10_agrees_43 (by decide) (by omega) (by omega) (fun c_42 => ?_) (fun c_42 => ?_)
    · refine x_iconst B dX10_agrees_50 ?_
      exact cm_iret E hr rfl hlk hC hS dX10_agrees_51 (by first | (rw [if_pos (show sAgr σ q by unfold sAgr; omega)]) | (rw [if_neg (show ¬ sAgr σ q by unfold sAgr; omega)])) rfl trivial
    · refine x_iconst B dX10_agrees_46 ?_
      refine x_goto (tgt := 51) B dX10_agrees_47 (by decide) ?_
      exact cm_iret E hr rfl hlk hC hS dX10_agrees_51 (by first | (rw [if_pos (show sAgr σ q by unfold sAgr; omega)]) | (rw [if_neg (show ¬ sAgr σ q by unfold sAgr; omega)])) rfl trivial
  · refine x_iconst B dX10_agrees_8 ?_
    exact cm_iret E hr rfl hlk hC hS dX10_agrees_9 (by first | (rw [if_pos (show sAgr σ q by unfold sAgr; omega)]) | (rw [if_neg (show ¬ sAgr σ q by unfold sAgr; omega)])) rfl trivial
set_option maxHeartbeats 4000000 in
set_option maxRecDepth 100000 in
theorem c_takesBand_n (l : Launch) (D : va_G) (cy : Nat → ClassId) (d0 : Nat) (A : Nat → Prop) (la : Nat → Int → Nat) (σ : MS)   : CM l yX10_takesBand wsX10_takesBand ({ frames := 0, cells := 0, slots := 0, locals := 0 } : Room) D cy d0 A [.null] la σ (some (.int (iI 0))) (σ) (True) := by
  refine cn_of (cc := cX10_takesBand) (nL := 1) (ret := (some .boolean)) (by decide) rfl (Nat.le_of_ble_eq_true rfl) ?_
  intro p e s m args below meth c ls E hr hlk hK hC hS hl
  have B := E.1
  have hml := E.2.1
  have hown := E.2.2.1
  have hts0 := E.2.2.2.1
  have hts := E.2.2.2.1
  have hw := hC.2.2.2.2.2.1
  refine x_aloadN_n B hl dX10_takesBand_0 rfl ?_
  refine lv_ifnullN (tgt := 11) B.1 B.2 dX10_takesBand_1 (by decide) ?_
  refine x_iconst B dX10_takesBand_11 ?_
  exact cm_iret E hr rfl hlk hC hS dX10_takesBand_12 rfl rfl (by first | trivial | omega)
set_option maxHeartbeats 4000000 in
set_option maxRecDepth 100000 in
theorem c_takesBand_r (l : Launch) (D : va_G) (cy : Nat → ClassId) (d0 : Nat) (A : Nat → Prop) (la : Nat → Int → Nat) (σ : MS) {h : Int} (hh : 0 ≤ h ∧ h < σ 11 0) (h7 : 0 ≤ σ 7 h) : CM l yX10_takesBand wsX10_takesBand ({ frames := 0, cells := 0, slots := 0, locals := 0 } : Room) D cy d0 A [.ref (la 5 h)] la σ (some (.int (iI (if σ 7 h = 0 then 0 else 1)))) (if σ 7 h = 0 then σ else up σ 7 h (σ 7 h - 1)) (True) := by
  refine cn_of (cc := cX10_takesBand) (nL := 1) (ret := (some .boolean)) (by decide) rfl (Nat.le_of_ble_eq_true rfl) ?_
  intro p e s m args below meth c ls E hr hlk hK hC hS hl
  have B := E.1
  have hml := E.2.1
  have hown := E.2.2.1
  have hts0 := E.2.2.2.1
  have hts := E.2.2.2.1
  have hw := hC.2.2.2.2.2.1
  refine x_aload_n B hl dX10_takesBand_0 rfl ?_
  refine lv_ifnull B.1 B.2 dX10_takesBand_1 ?_
  refine x_aload_n B hl dX10_takesBand_4 rfl ?_
  refine co_geti (f := 7) E hC 5 (by decide) (cl_5 hh) rfl (fun z h => List.mem_cons_of_mem _ (List.mem_append_right _ h)) 3 (by decide) (hts (.fieldLink RX10 184 "BinRounds$House" "bands" "I") (by decide +kernel)) (fun x hx => hx) dX10_takesBand_5 ⟨rfl, rfl, rfl⟩ rfl (fun r_5 => ?_)
  refine x_if_ne (tgt := 13) B dX10_takesBand_8 (by decide) (by omega) (fun c_8 => ?_) (fun c_8 => ?_)
  · refine x_aload_n B hl dX10_takesBand_13 rfl ?_
    refine x_dup B dX10_takesBand_14 rfl ?_
    refine co_geti (f := 7) E hC 5 (by decide) (cl_5 hh) rfl (fun z h => List.mem_cons_of_mem _ (List.mem_append_right _ h)) 3 (by decide) (hts (.fieldLink RX10 184 "BinRounds$House" "bands" "I") (by decide +kernel)) (fun x hx => hx) dX10_takesBand_15 ⟨rfl, rfl, rfl⟩ rfl (fun r_15 => ?_)
    refine x_iconst B dX10_takesBand_18 ?_
    refine x_isub B dX10_takesBand_19 ?_
    refine co_puti (f := 7) E hC hS 5 (by decide) (cl_5 hh) rfl (fun z h => List.mem_cons_of_mem _ (List.mem_append_right _ h)) tyX3 tyX3_ok nmX3 3 (by decide) (hts (.fieldLink RX10 184 "BinRounds$House" "bands" "I") (by decide +kernel)) (fun x hx => hx) rfl rfl dX10_takesBand_20 (by decide) ⟨rfl, rfl, rfl, rfl⟩ (by omega) (fun H locs hC hS => ?_)
    refine x_iconst B dX10_takesBand_23 ?_
    exact cm_iret E hr rfl hlk hC hS dX10_takesBand_24 (by rw [if_neg (by omega)]) (by rw [if_neg (by omega)]) trivial
  · refine x_iconst B dX10_takesBand_11 ?_
    exact cm_iret E hr rfl hlk hC hS dX10_takesBand_12 (by rw [if_pos (by omega)]) (by rw [if_pos (by omega)]) trivial
set_option maxHeartbeats 4000000 in
set_option maxRecDepth 100000 in
theorem c_middleOf_n (l : Launch) (D : va_G) (cy : Nat → ClassId) (d0 : Nat) (A : Nat → Prop) (la : Nat → Int → Nat) (σ : MS)   : CN l yX10_middleOf wsX10_middleOf ({ frames := 1, cells := 0, slots := 0, locals := 20 } : Room) D cy d0 A [.ref (la 0 0), .null] la σ (fun v' la' τ => v' = some (.int (iI 0)) ∧ la' = la ∧ ∀ q, q ≠ 55 → q ≠ 56 → τ q = σ q) 0 0 := by
  refine cn_of (cc := cX10_middleOf) (nL := 4) (ret := (some .int)) (by decide) rfl (Nat.le_of_ble_eq_true rfl) ?_
  intro p e s m args below meth c ls E hr hlk hK hC hS hl
  have B := E.1
  have hml := E.2.1
  have hown := E.2.2.1
  have hts0 := E.2.2.2.1
  have hts := E.2.2.2.1
  have hw := hC.2.2.2.2.2.1
  refine x_aload_n B hl dX10_middleOf_0 rfl ?_
  refine co_getR (x := la 3 0) E hC 0 (by decide) cl_0 rfl (fun z h => List.mem_cons_of_mem _ (List.mem_append_left _ (List.mem_append_left _ (List.mem_append_left _ (List.mem_append_right _ h))))) 7 (by decide) (hts (.fieldLink RX10 45 "BinRounds" "latest" "LBinRounds$Latest;") (by decide +kernel)) (fun x hx => hx) dX10_middleOf_1 rfl rfl ?_
  refine co_call E hK hC hS hl (κ := 3) (i := 0) (by decide) cl_3 rfl (c_clear l D cy d0 A la _) (cwV 0 hts0 gX10_middleOf_X4_clear rfl rfl rfl (by decide +kernel) ⟨Nat.le_of_ble_eq_true rfl, Nat.le_of_ble_eq_true rfl⟩) rfl rfl (Nat.le_of_ble_eq_true rfl) dX10_middleOf_4 ⟨Nat.zero_le _, Nat.zero_le _⟩ (fun H locs q_4 hC hS => ?_)
  refine x_aloadN_n B hl dX10_middleOf_7 rfl ?_
  refine lv_ifnonnullN B.1 B.2 dX10_middleOf_8 ?_
  refine x_iconst B dX10_middleOf_11 ?_
  exact co_iret E hr rfl hlk hC hS dX10_middleOf_12 ⟨rfl, rfl, fun q a b => up_f a⟩
set_option maxHeartbeats 4000000 in
set_option maxRecDepth 100000 in
theorem c_middleOf_r (l : Launch) (D : va_G) (cy : Nat → ClassId) (d0 : Nat) (A : Nat → Prop) (la : Nat → Int → Nat) (σ : MS) {b : Int} (hb : 0 ≤ b ∧ b < σ 23 0) (hn45 : 0 ≤ σ 45 0 ∧ σ 45 0 ≤ 600) (hn23 : 0 ≤ σ 23 0 ∧ σ 23 0 ≤ 1000) (hlg : σ 58 0 = 0 ∧ σ 59 0 = 0) (hh : ∀ t, 0 ≤ t → t < σ 45 0 → 0 ≤ σ 35 t ∧ σ 35 t ≤ 3000000) (hbn : ∀ t, 0 ≤ t → t < σ 45 0 → ¬ σ 36 t < 0 → 0 ≤ σ 36 t ∧ σ 36 t < σ 23 0) : CN l yX10_middleOf wsX10_middleOf ({ frames := 3, cells := 0, slots := 0, locals := 64 } : Room) D cy d0 A [.ref (la 0 0), .ref (la 6 b)] la σ (fun v' la' τ => v' = some (.int (iI (sMiddle σ b))) ∧ la' = la ∧ (∀ q, q ≠ 55 → q ≠ 56 → τ q = σ q) ∧ 0 ≤ sMiddle σ b ∧ sMiddle σ b ≤ 3000000) 0 0 := by
  refine cn_of (cc := cX10_middleOf) (nL := 4) (ret := (some .int)) (by decide) rfl (Nat.le_of_ble_eq_true rfl) ?_
  intro p e s m args below meth c ls E hr hlk hK hC hS hl
  have B := E.1
  have hml := E.2.1
  have hown := E.2.2.1
  have hts0 := E.2.2.2.1
  have hts := E.2.2.2.1
  have hw := hC.2.2.2.2.2.1
  have loop : ∀ (n : Nat) (t : Int) (τ : MS) (H : Heap) (locs : List Loc) (ls : Array Slot) (hq : ∀ q, q ≠ 55 → q ≠ 56 → τ q = σ q) (hm : sMid σ b (t + 1).toNat (τ 55 0).toNat (τ 56) = sMiddle σ b), -1 ≤ t → t < σ 45 0 → 0 ≤ τ 55 0 ∧ τ 55 0 ≤ 5 → t + 1 < n → CP D cy d0 A la τ H → va_S A s.heap H locs → lv_has ls 4 [(0, .ref (la 0 0)), (1, .ref (la 6 b)), (2, .int (iI t))] → W p l e ({ frames := 3, cells := 0, slots := 0, locals := 64 } : Room) s m args below meth c H locs 0 0 (MQ below (cQ D cy d0 A (fun v' la' τ => v' = some (.int (iI (sMiddle σ b))) ∧ la' = la ∧ (∀ q, q ≠ 55 → q ≠ 56 → τ q = σ q) ∧ 0 ≤ sMiddle σ b ∧ sMiddle σ b ≤ 3000000)) args s 0 0 A) (F0 m 23 ls []) := by
    intro n
    induction n with
    | zero => intro t τ H locs ls hq hm h1 h2 h3 h4; exact absurd h4 (by omega)
    | succ n ih =>
      intro t τ H locs ls hq hm h1 h2 h3 h4 hC hS hl
      refine x_iload_n B hl dX10_middleOf_23 rfl ?_
      refine x_if_lt (tgt := 81) B dX10_middleOf_24 (by decide) (by omega) (fun c_24 => ?_) (fun c_24 => ?_)
      · refine x_aload_n B hl dX10_middleOf_81 rfl ?_
        refine co_getR (x := la 3 0) E hC 0 (by decide) cl_0 rfl (fun z h => List.mem_cons_of_mem _ (List.mem_append_left _ (List.mem_append_left _ (List.mem_append_left _ (List.mem_append_right _ h))))) 7 (by decide) (hts (.fieldLink RX10 45 "BinRounds" "latest" "LBinRounds$Latest;") (by decide +kernel)) (fun x hx => hx) dX10_middleOf_82 rfl rfl ?_
        refine co_call E hK hC hS hl (κ := 3) (i := 0) (by decide) cl_3 rfl (c_lowerMiddle l D cy d0 A la τ rfl (by omega)) (cwV 0 hts0 gX10_middleOf_X4_lowerMiddle rfl rfl rfl (by decide +kernel) ⟨Nat.le_of_ble_eq_true rfl, Nat.le_of_ble_eq_true rfl⟩) rfl rfl (Nat.le_of_ble_eq_true rfl) dX10_middleOf_85 ⟨Nat.zero_le _, Nat.zero_le _⟩ (fun H locs q_85 hC hS => ?_)
        have hx : (if τ 55 0 = 0 then 0 else τ 56 ((τ 55 0 - 1) / 2)) = sMiddle σ b := by
          rw [← hm]
          by_cases h5 : 5 ≤ τ 55 0
          · rw [sMid_5 (by omega), if_neg (by omega), Int.toNat_of_nonneg (by omega)]
          · rw [show (t + 1).toNat = 0 by omega, sMid]
            by_cases h0 : τ 55 0 = 0
            · rw [if_pos h0, if_pos (by omega)]
            · rw [if_neg h0, if_neg (by omega), Int.toNat_of_nonneg (by omega)]
        exact co_iret E hr rfl hlk hC hS dX10_middleOf_88 ⟨by rw [hx], rfl, hq, sMiddle_r (by decide) hh⟩
      · refine x_aload_n B hl dX10_middleOf_27 rfl ?_
        refine co_getR (x := la 3 0) E hC 0 (by decide) cl_0 rfl (fun z h => List.mem_cons_of_mem _ (List.mem_append_left _ (List.mem_append_left _ (List.mem_append_left _ (List.mem_append_right _ h))))) 7 (by decide) (hts (.fieldLink RX10 45 "BinRounds" "latest" "LBinRounds$Latest;") (by decide +kernel)) (fun x hx => hx) dX10_middleOf_28 rfl rfl ?_
        refine co_call E hK hC hS hl (κ := 3) (i := 0) (by decide) cl_3 rfl (c_isFull l D cy d0 A la _) (cwV 0 hts0 gX10_middleOf_X4_isFull rfl rfl rfl (by decide +kernel) ⟨Nat.le_of_ble_eq_true rfl, Nat.le_of_ble_eq_true rfl⟩) rfl rfl (Nat.le_of_ble_eq_true rfl) dX10_middleOf_31 ⟨Nat.zero_le _, Nat.zero_le _⟩ (fun H locs q_31 hC hS => ?_)
        refine x_bool (fun b_31 => ?_) (fun b_31 => ?_)
        · refine x_if_ne_t (tgt := 81) B dX10_middleOf_34 (by decide) (by decide) ?_
          refine x_aload_n B hl dX10_middleOf_81 rfl ?_
          refine co_getR (x := la 3 0) E hC 0 (by decide) cl_0 rfl (fun z h => List.mem_cons_of_mem _ (List.mem_append_left _ (List.mem_append_left _ (List.mem_append_left _ (List.mem_append_right _ h))))) 7 (by decide) (hts (.fieldLink RX10 45 "BinRounds" "latest" "LBinRounds$Latest;") (by decide +kernel)) (fun x hx => hx) dX10_middleOf_82 rfl rfl ?_
          refine co_call E hK hC hS hl (κ := 3) (i := 0) (by decide) cl_3 rfl (c_lowerMiddle l D cy d0 A la τ rfl (by omega)) (cwV 0 hts0 gX10_middleOf_X4_lowerMiddle rfl rfl rfl (by decide +kernel) ⟨Nat.le_of_ble_eq_true rfl, Nat.le_of_ble_eq_true rfl⟩) rfl rfl (Nat.le_of_ble_eq_true rfl) dX10_middleOf_85 ⟨Nat.zero_le _, Nat.zero_le _⟩ (fun H locs q_85 hC hS => ?_)
          have hx : (if τ 55 0 = 0 then 0 else τ 56 ((τ 55 0 - 1) / 2)) = sMiddle σ b := by
            rw [← hm]
            by_cases h5 : 5 ≤ τ 55 0
            · rw [sMid_5 (by omega), if_neg (by omega), Int.toNat_of_nonneg (by omega)]
            · rw [show (t + 1).toNat = 0 by omega, sMid]
              by_cases h0 : τ 55 0 = 0
              · rw [if_pos h0, if_pos (by omega)]
              · rw [if_neg h0, if_neg (by omega), Int.toNat_of_nonneg (by omega)]
          exact co_iret E hr rfl hlk hC hS dX10_middleOf_88 ⟨by rw [hx], rfl, hq, sMiddle_r (by decide) hh⟩
        · refine x_if_ne_f (tgt := 81) B dX10_middleOf_34 (by decide) (by decide) ?_
          refine x_aload_n B hl dX10_middleOf_37 rfl ?_
          refine co_getR (x := la 11 4) E hC 0 (by decide) cl_0 rfl (fun z h => List.mem_cons_of_mem _ (List.mem_append_left _ (List.mem_append_left _ (List.mem_append_left _ (List.mem_append_right _ h))))) 4 (by decide) (hts (.fieldLink RX10 25 "BinRounds" "tips" "Ljava/util/ArrayList;") (by decide +kernel)) (fun x hx => hx) dX10_middleOf_38 rfl rfl ?_
          refine x_iload_n B hl dX10_middleOf_41 rfl ?_
          refine co_call E hK hC hS hl (κ := 11) (i := 4) (by decide) (cl_q (cLq_2 hq) (cl_11 (by omega))) rfl (c_get l D cy d0 A la _ (L := 4) (n := σ 45 0) (j := t) (x := la 10 t) (cl_q (cLq_2 hq) (cl_11 (by omega))) ((cSz_4 ((((congrFun (hq 58 (by decide) (by decide)) _).trans rfl)).trans hlg.1)).trans ((congrFun (hq 45 (by decide) (by decide)) _).trans rfl)) (by omega) (by omega) rfl) (cwV 1 hts0 gX10_middleOf_Jx4a65c_get_915e3 rfl rfl rfl (by decide +kernel) ⟨Nat.le_of_ble_eq_true rfl, Nat.le_of_ble_eq_true rfl⟩) rfl rfl (Nat.le_of_ble_eq_true rfl) dX10_middleOf_42 ⟨Nat.zero_le _, Nat.zero_le _⟩ (fun H locs q_42 hC hS => ?_)
          refine co_cast E hK hC 10 (by decide) (cl_q (cLq_2 hq) (cl_10 (by omega))) rfl (by decide +kernel) dX10_middleOf_45 ?_
          refine x_astore_n B hl dX10_middleOf_48 (by decide) (fun ls hl => ?_)
          refine x_aload_n B hl dX10_middleOf_49 rfl ?_
          refine co_getr (r := if σ 36 t < 0 then none else some (la 6 (σ 36 t))) E hC 10 (by decide) (cl_q (cLq_2 hq) (cl_10 (by omega))) rfl (fun z h => List.mem_cons_of_mem _ (List.mem_append_left _ (List.mem_append_left _ (List.mem_append_right _ h)))) 4 (by decide) (hts (.fieldLink RX10 211 "BinRounds$Tip" "bin" "LBinRounds$Bin;") (by decide +kernel)) (fun x hx => hx) dX10_middleOf_50 rfl (congrArg (fun z => if z < 0 then none else some (la 6 z)) ((congrFun (hq 36 (by decide) (by decide)) _).trans rfl)) ?_
          refine x_aload_n B hl dX10_middleOf_53 rfl ?_
          refine lv_acmp_ne (rx := (if (σ 36 t) < 0 then none else some (la 6 (σ 36 t)))) (ry := (some (la 6 b))) (tgt := 75) B.1 B.2 dX10_middleOf_54 (by decide) (fun c_54 => ?_) (fun c_54 => ?_)
          · have k_54 : ¬ (σ 36 t) = b := fun z => c_54 (by rw [z, if_neg (by omega)])
            refine x_iinc B hl dX10_middleOf_75 rfl (by decide) (fun ls hl => ?_)
            refine x_goto (tgt := 23) B dX10_middleOf_78 (by decide) ?_
            first | (exact ih (t + -1) τ1 _ _ ls (fun q a b => (qx.1 q a b).trans (hq q a b)) (by rw [show (t + -1 + 1).toNat = t.toNat by omega, ← hm, sMid_t (by omega) (by omega), if_pos ⟨by omega, by omega⟩, qx.2.1, show (τ 55 0 + 1).toNat = (τ 55 0).toNat + 1 by omega]; exact sMid_c _ _ (fun j a b => qx.2.2 j a)) (by omega) (by omega) (by rw [qx.2.1]; omega) (by omega) hC hS (lv_key hl [(0, .ref (la 0 0)), (1, .ref (la 6 b)), (2, .int (iI (t + -1)))] rfl)) | (exact ih (t + -1) τ _ _ ls hq (by rw [show (t + -1 + 1).toNat = t.toNat by omega, ← hm, sMid_t (by omega) (by omega), if_neg (by omega)]) (by omega) (by omega) h3 (by omega) hC hS (lv_key hl [(0, .ref (la 0 0)), (1, .ref (la 6 b)), (2, .int (iI (t + -1)))] rfl))
          · have k_54 : (σ 36 t) = b := co_eqn hC (fun h9 => (cl_q (cLq_2 hq) (cl_6 (hbn t (by omega) (by omega) h9)))) (cl_q (cLq_2 hq) (cl_6 hb)) c_54
            refine x_aload_n B hl dX10_middleOf_57 rfl ?_
            refine co_geti (f := 38) E hC 10 (by decide) (cl_q (cLq_2 hq) (cl_10 (by omega))) rfl (fun z h => List.mem_cons_of_mem _ (List.mem_append_left _ (List.mem_append_left _ (List.mem_append_right _ h)))) 6 (by decide) (hts (.fieldLink RX10 208 "BinRounds$Tip" "weighing" "I") (by decide +kernel)) (fun x hx => hx) dX10_middleOf_58 ⟨rfl, rfl, rfl⟩ ((congrFun (hq 38 (by decide) (by decide)) _).trans rfl) (fun r_58 => ?_)
            refine x_if_ne (tgt := 75) B dX10_middleOf_61 (by decide) (by omega) (fun c_61 => ?_) (fun c_61 => ?_)
            · refine x_iinc B hl dX10_middleOf_75 rfl (by decide) (fun ls hl => ?_)
              refine x_goto (tgt := 23) B dX10_middleOf_78 (by decide) ?_
              first | (exact ih (t + -1) τ1 _ _ ls (fun q a b => (qx.1 q a b).trans (hq q a b)) (by rw [show (t + -1 + 1).toNat = t.toNat by omega, ← hm, sMid_t (by omega) (by omega), if_pos ⟨by omega, by omega⟩, qx.2.1, show (τ 55 0 + 1).toNat = (τ 55 0).toNat + 1 by omega]; exact sMid_c _ _ (fun j a b => qx.2.2 j a)) (by omega) (by omega) (by rw [qx.2.1]; omega) (by omega) hC hS (lv_key hl [(0, .ref (la 0 0)), (1, .ref (la 6 b)), (2, .int (iI (t + -1)))] rfl)) | (exact ih (t + -1) τ _ _ ls hq (by rw [show (t + -1 + 1).toNat = t.toNat by omega, ← hm, sMid_t (by omega) (by omega), if_neg (by omega)]) (by omega) (by omega) h3 (by omega) hC hS (lv_key hl [(0, .ref (la 0 0)), (1, .ref (la 6 b)), (2, .int (iI (t + -1)))] rfl))
            · refine x_aload_n B hl dX10_middleOf_64 rfl ?_
              refine co_getR (x := la 3 0) E hC 0 (by decide) cl_0 rfl (fun z h => List.mem_cons_of_mem _ (List.mem_append_left _ (List.mem_append_left _ (List.mem_append_left _ (List.mem_append_right _ h))))) 7 (by decide) (hts (.fieldLink RX10 45 "BinRounds" "latest" "LBinRounds$Latest;") (by decide +kernel)) (fun x hx => hx) dX10_middleOf_65 rfl rfl ?_
              refine x_aload_n B hl dX10_middleOf_68 rfl ?_
              refine co_geti (f := 35) E hC 10 (by decide) (cl_q (cLq_2 hq) (cl_10 (by omega))) rfl (fun z h => List.mem_cons_of_mem _ (List.mem_append_left _ (List.mem_append_left _ (List.mem_append_right _ h)))) 3 (by decide) (hts (.fieldLink RX10 219 "BinRounds$Tip" "halves" "I") (by decide +kernel)) (fun x hx => hx) dX10_middleOf_69 ⟨rfl, rfl, rfl⟩ ((congrFun (hq 35 (by decide) (by decide)) _).trans rfl) (fun r_69 => ?_)
              refine co_callX E hK hC hS hl (κ := 3) (i := 0) (by decide) cl_3 rfl (c_insert l D cy d0 A la τ (x := σ 35 t) (by omega) (by omega)) (cwV 1 hts0 gX10_middleOf_X4_insert rfl rfl rfl (by decide +kernel) ⟨Nat.le_of_ble_eq_true rfl, Nat.le_of_ble_eq_true rfl⟩) rfl rfl (Nat.le_of_ble_eq_true rfl) dX10_middleOf_72 ⟨Nat.zero_le _, Nat.zero_le _⟩ (fun H locs τ1 qx hC hS => ?_)
              refine x_iinc B hl dX10_middleOf_75 rfl (by decide) (fun ls hl => ?_)
              refine x_goto (tgt := 23) B dX10_middleOf_78 (by decide) ?_
              first | (exact ih (t + -1) τ1 _ _ ls (fun q a b => (qx.1 q a b).trans (hq q a b)) (by rw [show (t + -1 + 1).toNat = t.toNat by omega, ← hm, sMid_t (by omega) (by omega), if_pos ⟨by omega, by omega⟩, qx.2.1, show (τ 55 0 + 1).toNat = (τ 55 0).toNat + 1 by omega]; exact sMid_c _ _ (fun j a b => qx.2.2 j a)) (by omega) (by omega) (by rw [qx.2.1]; omega) (by omega) hC hS (lv_key hl [(0, .ref (la 0 0)), (1, .ref (la 6 b)), (2, .int (iI (t + -1)))] rfl)) | (exact ih (t + -1) τ _ _ ls hq (by rw [show (t + -1 + 1).toNat = t.toNat by omega, ← hm, sMid_t (by omega) (by omega), if_neg (by omega)]) (by omega) (by omega) h3 (by omega) hC hS (lv_key hl [(0, .ref (la 0 0)), (1, .ref (la 6 b)), (2, .int (iI (t + -1)))] rfl))
  refine x_aload_n B hl dX10_middleOf_0 rfl ?_
  refine co_getR (x := la 3 0) E hC 0 (by decide) cl_0 rfl (fun z h => List.mem_cons_of_mem _ (List.mem_append_left _ (List.mem_append_left _ (List.mem_append_left _ (List.mem_append_right _ h))))) 7 (by decide) (hts (.fieldLink RX10 45 "BinRounds" "latest" "LBinRounds$Latest;") (by decide +kernel)) (fun x hx => hx) dX10_middleOf_1 rfl rfl ?_
  refine co_call E hK hC hS hl (κ := 3) (i := 0) (by decide) cl_3 rfl (c_clear l D cy d0 A la _) (cwV 0 hts0 gX10_middleOf_X4_clear rfl rfl rfl (by decide +kernel) ⟨Nat.le_of_ble_eq_true rfl, Nat.le_of_ble_eq_true rfl⟩) rfl rfl (Nat.le_of_ble_eq_true rfl) dX10_middleOf_4 ⟨Nat.zero_le _, Nat.zero_le _⟩ (fun H locs q_4 hC hS => ?_)
  refine x_aload_n B hl dX10_middleOf_7 rfl ?_
  refine lv_ifnonnull (tgt := 13) B.1 B.2 dX10_middleOf_8 (by decide) ?_
  refine x_aload_n B hl dX10_middleOf_13 rfl ?_
  refine co_getR (x := la 11 4) E hC 0 (by decide) cl_0 rfl (fun z h => List.mem_cons_of_mem _ (List.mem_append_left _ (List.mem_append_left _ (List.mem_append_left _ (List.mem_append_right _ h))))) 4 (by decide) (hts (.fieldLink RX10 25 "BinRounds" "tips" "Ljava/util/ArrayList;") (by decide +kernel)) (fun x hx => hx) dX10_middleOf_14 rfl rfl ?_
  refine co_call E hK hC hS hl (κ := 11) (i := 4) (by decide) (cl_up (by decide) (cl_11 (by omega))) rfl (c_size l D cy d0 A la _ (L := 4) (n := σ 45 0) (cl_up (by decide) (cl_11 (by omega))) ((cSz_4 (((up_ne (by decide) rfl)).trans hlg.1)).trans (up_ne (by decide) rfl))) (cwV 0 hts0 gX10_middleOf_Jx4a65c_size_8abf5 rfl rfl rfl (by decide +kernel) ⟨Nat.le_of_ble_eq_true rfl, Nat.le_of_ble_eq_true rfl⟩) rfl rfl (Nat.le_of_ble_eq_true rfl) dX10_middleOf_17 ⟨Nat.zero_le _, Nat.zero_le _⟩ (fun H locs q_17 hC hS => ?_)
  refine x_iconst B dX10_middleOf_20 ?_
  refine x_isub B dX10_middleOf_21 ?_
  refine x_istore_n B hl dX10_middleOf_22 (by decide) (fun ls hl => ?_)
  exact loop 602 (σ 45 0 - 1) (up σ 55 0 0) _ _ ls (fun q a b => up_f a) (by rw [show σ 45 0 - 1 + 1 = σ 45 0 by omega]; exact sMid_c _ _ (fun j a b => absurd b (by rw [up_s] at b; omega))) (by omega) (by omega) (by rw [up_s]; omega) (by omega) hC hS (lv_key hl [(0, .ref (la 0 0)), (1, .ref (la 6 b)), (2, .int (iI (σ 45 0 - 1)))] rfl)
