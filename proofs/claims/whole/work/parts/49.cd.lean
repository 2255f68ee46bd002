section CM4
variable {p : Program} {l : Launch} {e : Env} {R : Room} {s : State} {m : MethodId} {args : Array Value} {below : List Frame} {meth : Method} {c : Code} {H : Heap} {locs : List Loc} {cells slots : Nat} {Q : State → Prop}
variable {cc : ByteArray} {pc : Nat} {ls : Array Slot} {rest st : List Value} {nL : Nat} {lv : List (Nat × Value)} {Ts : List Cond} {D : va_G} {cy : Nat → ClassId} {d0 : Nat} {A : Nat → Prop} {la : Nat → Int → Nat} {σ : MS} {own C : String} {T : u_T}
theorem w_widen {g : JFrame} {k n : Nat} (h1 : cells ≤ k) (h2 : slots ≤ n) (kk : W p l e R s m args below meth c H locs k n Q g) : W p l e R s m args below meth c H locs cells slots Q g := fun T hT X => kk T hT (stand_widen X h1 h2)
abbrev cPm (v : Option Value) (la : Nat → Int → Nat) (σ' : MS) (P : Prop) : Option Value → (Nat → Int → Nat) → MS → Prop := fun v' la' τ => v' = v ∧ la' = la ∧ τ = σ' ∧ P
theorem ctm_call {y : MethodName} {bytes : ByteArray} {maxL n index mc ms kc ks : Nat} {ret : Option FieldType} {wsy : List Cond} {rm : Room} {av : List Value} {C1 C0 : Int} {v : Option Value} {σ' σ0 : MS} {P : Prop} {κ : Nat} {i : Int} {Qc : Array Value → State → Outcome → State → Prop} (E : cE p s m args c cc nL own Ts D cy) (hout : ∀ x ∈ c.exceptionTable.toList, False) (hlk : meth.locks = false) (hK : cK D cy d0 A s s.heap) (hC : CP D cy d0 A la σ H) (hS : va_S A s.heap H locs) (hl : lv_has ls nL lv) (hκ : κ ≤ 11) (hlv : cLive la σ κ i) (hc : vwCl[cCi κ]? = some (C, T, cN κ))
    (hM : CT l y wsy rm D cy d0 A (.ref (la κ i) :: av) la σ C1 (cPm v la σ' P) mc ms) (cw : CallW R s args own C index y bytes maxL ret wsy rm mc ms n) (hst : st = av.reverse ++ .ref (la κ i) :: rest) (hn : av.length = n) (hW : (rest.map fun v => v.category).sum ≤ 8) (d : decode cc pc = .ok (.invokevirtual index, 3)) (hf : cells + mc ≤ R.cells ∧ slots + ms ≤ R.slots) (hkc : cells + mc ≤ kc ∧ slots + ms ≤ ks)
    (kx : C1 ≠ 0 → C0 = C1 ∧ σ0 = σ)
    (kk : C1 = 0 → ∀ (H1 : Heap) (locs1 : List Loc), P → CP D cy d0 A la σ' H1 → va_S A s.heap H1 locs1 → W p l e R s m args below meth c H1 locs1 (cells + mc) (slots + ms) (vx_MQ below Qc (cXX D cy d0 A C0 la σ0) args s kc ks A) (F0 m (pc + 3) ls (v.toList ++ rest))) : W p l e R s m args below meth c H locs cells slots (vx_MQ below Qc (cXX D cy d0 A C0 la σ0) args s kc ks A) (F0 m pc ls st) := by
  refine ct_call E hout hlk hK hC hS hl hκ hlv hc hM cw hst hn hW d hf hkc (fun h t h1 h2 => ?_) (fun h H1 locs1 v1 la1 σ1 hp hC1 hS1 => ?_)
  · obtain ⟨e1, e2⟩ := kx h
    exact ⟨by rw [e1]; exact h, by rw [e1], by rw [e2]; exact h1, h2⟩
  · obtain ⟨rfl, rfl, rfl, hp⟩ := hp
    exact kk h H1 locs1 hp hC1 hS1
theorem cstm_call {y : MethodName} {bytes : ByteArray} {maxL n index mc ms kc ks : Nat} {ret : Option FieldType} {wsy : List Cond} {rm : Room} {av : List Value} {C1 C0 : Int} {v : Option Value} {σ' σ0 : MS} {P : Prop} {Qc : Array Value → State → Outcome → State → Prop} (E : cE p s m args c cc nL own Ts D cy) (hout : ∀ x ∈ c.exceptionTable.toList, False) (hlk : meth.locks = false) (hK : cK D cy d0 A s s.heap) (hC : CP D cy d0 A la σ H) (hS : va_S A s.heap H locs) (hl : lv_has ls nL lv)
    (hM : CT l y wsy rm D cy d0 A av la σ C1 (cPm v la σ' P) mc ms) (cw : CallB R s args own index y bytes maxL ret wsy rm mc ms n ∧ (Cond.static y).before args s = true) (hst : st = av.reverse ++ rest) (hn : av.length = n) (hW : (rest.map fun v => v.category).sum ≤ 8) (d : decode cc pc = .ok (.invokestatic index, 3)) (hf : cells + mc ≤ R.cells ∧ slots + ms ≤ R.slots) (hkc : cells + mc ≤ kc ∧ slots + ms ≤ ks)
    (kx : C1 ≠ 0 → C0 = C1 ∧ σ0 = σ)
    (kk : C1 = 0 → ∀ (H1 : Heap) (locs1 : List Loc), P → CP D cy d0 A la σ' H1 → va_S A s.heap H1 locs1 → W p l e R s m args below meth c H1 locs1 (cells + mc) (slots + ms) (vx_MQ below Qc (cXX D cy d0 A C0 la σ0) args s kc ks A) (F0 m (pc + 3) ls (v.toList ++ rest))) : W p l e R s m args below meth c H locs cells slots (vx_MQ below Qc (cXX D cy d0 A C0 la σ0) args s kc ks A) (F0 m pc ls st) := by
  refine cst_call E hout hlk hK hC hS hl hM cw hst hn hW d hf hkc (fun h t h1 h2 => ?_) (fun h H1 locs1 v1 la1 σ1 hp hC1 hS1 => ?_)
  · obtain ⟨e1, e2⟩ := kx h
    exact ⟨by rw [e1]; exact h, by rw [e1], by rw [e2]; exact h1, h2⟩
  · obtain ⟨rfl, rfl, rfl, hp⟩ := hp
    exact kk h H1 locs1 hp hC1 hS1
end CM4
set_option maxHeartbeats 4000000 in
set_option maxRecDepth 100000 in
theorem c_isWithin (l : Launch) {v a b : Int} (hv : -9223372036854775808 ≤ v ∧ v < 9223372036854775808) (ha : -9223372036854775808 ≤ a ∧ a < 9223372036854775808) (hb : -9223372036854775808 ≤ b ∧ b < 9223372036854775808) : MZ l yX10_isWithin wsX10_isWithin ({ frames := 0, cells := 0, slots := 0, locals := 0 } : Room) [.long (lI v), .long (lI a), .long (lI b)] (some (.int (iI (if a ≤ v ∧ v ≤ b then 1 else 0)))) (True) := by
  refine mz_of (cc := cX10_isWithin) (nL := 6) (ret := (some .boolean)) (by decide) rfl (Nat.le_of_ble_eq_true rfl) ?_
  intro p e s m args below meth c ls S hr hlk hl
  have B : xB p c cX10_isWithin := ⟨S.1, S.2.1⟩
  have hml := S.2.2.1
  have hown := S.2.2.2.1
  have hts0 := S.2.2.2.2
  have hts := S.2.2.2.2
  refine x_lload_n B hl dX10_isWithin_0 rfl ?_
  refine x_lload_n B hl dX10_isWithin_1 rfl ?_
  refine x_lcmp_gt (tgt := 17) B dX10_isWithin_2 dX10_isWithin_3 (by decide) (by omega) (by omega) (fun c_2 => ?_) (fun c_2 => ?_)
  · refine x_iconst B dX10_isWithin_17 ?_
    exact z_iret (av := []) B hr rfl hlk dX10_isWithin_18 (by first | rfl | (rw [if_pos (by omega)]; done) | (rw [if_neg (by omega)]; done) | (rw [if_neg (by omega), if_pos (by omega)]; done) | (rw [if_neg (by omega), if_neg (by omega)]; done) | exact (show False by omega).elim) (by first | trivial | omega)
  · refine x_lload_n B hl dX10_isWithin_6 rfl ?_
    refine x_lload B hl dX10_isWithin_7 rfl ?_
    refine x_lcmp_gt (tgt := 17) B dX10_isWithin_9 dX10_isWithin_10 (by decide) (by omega) (by omega) (fun c_9 => ?_) (fun c_9 => ?_)
    · refine x_iconst B dX10_isWithin_17 ?_
      exact z_iret (av := []) B hr rfl hlk dX10_isWithin_18 (by first | rfl | (rw [if_pos (by omega)]; done) | (rw [if_neg (by omega)]; done) | (rw [if_neg (by omega), if_pos (by omega)]; done) | (rw [if_neg (by omega), if_neg (by omega)]; done) | exact (show False by omega).elim) (by first | trivial | omega)
    · refine x_iconst B dX10_isWithin_13 ?_
      refine x_goto (tgt := 18) B dX10_isWithin_14 (by decide) ?_
      exact z_iret (av := []) B hr rfl hlk dX10_isWithin_18 (by first | rfl | (rw [if_pos (by omega)]; done) | (rw [if_neg (by omega)]; done) | (rw [if_neg (by omega), if_pos (by omega)]; done) | (rw [if_neg (by omega), if_neg (by omega)]; done) | exact (show False by omega).elim) (by first | trivial | omega)
set_option maxHeartbeats 4000000 in
set_option maxRecDepth 100000 in
theorem c_isGroup (l : Launch) {g : Int} (hg : -2147483648 ≤ g ∧ g < 2147483648) : MZ l yX10_isGroup wsX10_isGroup ({ frames := 1, cells := 0, slots := 0, locals := 25 } : Room) [.int (iI g)] (some (.int (iI (if 0 ≤ g ∧ g ≤ 2 then 1 else 0)))) (True) := by
  refine mz_of (cc := cX10_isGroup) (nL := 1) (ret := (some .boolean)) (by decide) rfl (Nat.le_of_ble_eq_true rfl) ?_
  intro p e s m args below meth c ls S hr hlk hl
  have B : xB p c cX10_isGroup := ⟨S.1, S.2.1⟩
  have hml := S.2.2.1
  have hown := S.2.2.2.1
  have hts0 := S.2.2.2.2
  have hts := S.2.2.2.2
  refine x_iload_n B hl dX10_isGroup_0 rfl ?_
  refine x_i2l B dX10_isGroup_1 (by omega) ?_
  refine x_lconst B dX10_isGroup_2 ?_
  refine lv_ldc2 (v := lI 2) B.1 B.2 hown (hts (.constantLong RX10 343 (2)) (by decide +kernel)) dX10_isGroup_3 ?_
  refine z_call ⟨B.1, B.2, hml, hown, hts0⟩ hl (c_isWithin l (v := g) (a := 0) (b := 2) (by omega) (by omega) (by omega)) (va_cwS 3 hts0 gX10_isGroup_X10_isWithin rfl rfl rfl (by decide +kernel) ⟨Nat.le_of_ble_eq_true rfl, Nat.le_of_ble_eq_true rfl⟩) rfl rfl (Nat.le_of_ble_eq_true rfl) dX10_isGroup_6 ⟨Nat.zero_le _, Nat.zero_le _⟩ (fun q_6 => ?_)
  refine x_bool (fun b_6 => ?_) (fun b_6 => ?_)
  · exact z_iret (av := []) B hr rfl hlk dX10_isGroup_9 (by first | rfl | (rw [if_pos (by omega)]; done) | (rw [if_neg (by omega)]; done) | (rw [if_neg (by omega), if_pos (by omega)]; done) | (rw [if_neg (by omega), if_neg (by omega)]; done) | exact (show False by omega).elim) (by first | trivial | omega)
  · exact z_iret (av := []) B hr rfl hlk dX10_isGroup_9 (by first | rfl | (rw [if_pos (by omega)]; done) | (rw [if_neg (by omega)]; done) | (rw [if_neg (by omega), if_pos (by omega)]; done) | (rw [if_neg (by omega), if_neg (by omega)]; done) | exact (show False by omega).elim) (by first | trivial | omega)
set_option maxHeartbeats 4000000 in
set_option maxRecDepth 100000 in
theorem c_require (l : Launch) (hlt : l.stackTraces = false) (D : va_G) (cy : Nat → ClassId) (d0 : Nat) (A : Nat → Prop) (la : Nat → Int → Nat) (σ : MS) {z : Int} (hz : z = 0 ∨ z = 1) : CT l yX10_require wsX10_require ({ frames := 6, cells := 1, slots := 6, locals := 82 } : Room) D cy d0 A [.int (iI z)] la σ (if z = 1 then 0 else 2) (cPm (none) la (σ) (True)) 1 6 := by
  refine ct_of (cc := cX10_require) (nL := 1) (ret := none) (by decide) rfl (Nat.le_of_ble_eq_true rfl) ?_
  intro p e s m args below meth c ls E hout hr hlk hK hC hS hl
  have B := E.1
  have hml := E.2.1
  have hown := E.2.2.1
  have hts0 := E.2.2.2.1
  have hts := E.2.2.2.1
  have hw := hC.2.2.2.2.2.1
  refine x_iload_n B hl dX10_require_0 rfl ?_
  refine x_if_ne (tgt := 15) B dX10_require_1 (by decide) (by omega) (fun c_1 => ?_) (fun c_1 => ?_)
  · exact w_widen (Nat.le_of_ble_eq_true rfl) (Nat.le_of_ble_eq_true rfl) (vx_ret (co_vret E hr hlk hC hS dX10_require_15 ⟨(by omega), rfl, rfl, rfl, (by first | trivial | omega)⟩))
  · have hk9 : (if z = 1 then (0 : Int) else 2) = 2 := (by omega)
    rw [hk9]
    exact co_throw (k := 2) hlt E hout hlk hK hC hS hl (by decide +kernel) (by decide +kernel) (by decide +kernel) hK.2.2.2.2.2.2.2.2.2.1 (fun z h => List.mem_cons_of_mem _ (List.mem_append_right _ h)) cBad_2 hK.2.2.2.2.2.2.2.1.2.1 cGood_2 dX10_require_4 dX10_require_7 dX10_require_8 dX10_require_11 dX10_require_14 (Nat.le_of_ble_eq_true rfl) (Nat.le_of_ble_eq_true rfl) (Nat.le_of_ble_eq_true rfl) (Nat.le_of_ble_eq_true rfl) (by decide) rfl (Nat.le_of_ble_eq_true rfl) (Nat.le_of_ble_eq_true rfl)
set_option maxHeartbeats 4000000 in
set_option maxRecDepth 100000 in
theorem c_requireRoom (l : Launch) (hlt : l.stackTraces = false) (D : va_G) (cy : Nat → ClassId) (d0 : Nat) (A : Nat → Prop) (la : Nat → Int → Nat) (σ : MS) {z : Int} (hz : z = 0 ∨ z = 1) : CT l yX10_requireRoom wsX10_requireRoom ({ frames := 6, cells := 1, slots := 6, locals := 82 } : Room) D cy d0 A [.int (iI z)] la σ (if z = 1 then 0 else 3) (cPm (none) la (σ) (True)) 1 6 := by
  refine ct_of (cc := cX10_requireRoom) (nL := 1) (ret := none) (by decide) rfl (Nat.le_of_ble_eq_true rfl) ?_
  intro p e s m args below meth c ls E hout hr hlk hK hC hS hl
  have B := E.1
  have hml := E.2.1
  have hown := E.2.2.1
  have hts0 := E.2.2.2.1
  have hts := E.2.2.2.1
  have hw := hC.2.2.2.2.2.1
  refine x_iload_n B hl dX10_requireRoom_0 rfl ?_
  refine x_if_ne (tgt := 15) B dX10_requireRoom_1 (by decide) (by omega) (fun c_1 => ?_) (fun c_1 => ?_)
  · exact w_widen (Nat.le_of_ble_eq_true rfl) (Nat.le_of_ble_eq_true rfl) (vx_ret (co_vret E hr hlk hC hS dX10_requireRoom_15 ⟨(by omega), rfl, rfl, rfl, (by first | trivial | omega)⟩))
  · have hk9 : (if z = 1 then (0 : Int) else 3) = 3 := (by omega)
    rw [hk9]
    exact co_throw (k := 3) hlt E hout hlk hK hC hS hl (by decide +kernel) (by decide +kernel) (by decide +kernel) hK.2.2.2.2.2.2.2.2.2.2.1 (fun z h => List.mem_cons_of_mem _ (List.mem_append_right _ h)) cBad_3 hK.2.2.2.2.2.2.2.1.2.2.1 cGood_3 dX10_requireRoom_4 dX10_requireRoom_7 dX10_requireRoom_8 dX10_requireRoom_11 dX10_requireRoom_14 (Nat.le_of_ble_eq_true rfl) (Nat.le_of_ble_eq_true rfl) (Nat.le_of_ble_eq_true rfl) (Nat.le_of_ble_eq_true rfl) (by decide) rfl (Nat.le_of_ble_eq_true rfl) (Nat.le_of_ble_eq_true rfl)
set_option maxHeartbeats 4000000 in
set_option maxRecDepth 100000 in
theorem c_requireThere (l : Launch) (hlt : l.stackTraces = false) (D : va_G) (cy : Nat → ClassId) (d0 : Nat) (A : Nat → Prop) (la : Nat → Int → Nat) (σ : MS) {z : Int} (hz : z = 0 ∨ z = 1) : CT l yX10_requireThere wsX10_requireThere ({ frames := 6, cells := 1, slots := 6, locals := 82 } : Room) D cy d0 A [.int (iI z)] la σ (if z = 1 then 0 else 4) (cPm (none) la (σ) (True)) 1 6 := by
  refine ct_of (cc := cX10_requireThere) (nL := 1) (ret := none) (by decide) rfl (Nat.le_of_ble_eq_true rfl) ?_
  intro p e s m args below meth c ls E hout hr hlk hK hC hS hl
  have B := E.1
  have hml := E.2.1
  have hown := E.2.2.1
  have hts0 := E.2.2.2.1
  have hts := E.2.2.2.1
  have hw := hC.2.2.2.2.2.1
  refine x_iload_n B hl dX10_requireThere_0 rfl ?_
  refine x_if_ne (tgt := 15) B dX10_requireThere_1 (by decide) (by omega) (fun c_1 => ?_) (fun c_1 => ?_)
  · exact w_widen (Nat.le_of_ble_eq_true rfl) (Nat.le_of_ble_eq_true rfl) (vx_ret (co_vret E hr hlk hC hS dX10_requireThere_15 ⟨(by omega), rfl, rfl, rfl, (by first | trivial | omega)⟩))
  · have hk9 : (if z = 1 then (0 : Int) else 4) = 4 := (by omega)
    rw [hk9]
    exact co_throwN (k := 4) hlt E hout hlk hK hC hS hl (by decide +kernel) (by decide +kernel) (by decide +kernel) hK.2.2.2.2.2.2.2.2.2.2.2.1 (fun z h => List.mem_cons_of_mem _ (List.mem_append_right _ h)) cBad_4 hK.2.2.2.2.2.2.2.1.2.2.2 cGood_4 dX10_requireThere_4 dX10_requireThere_7 dX10_requireThere_8 dX10_requireThere_11 dX10_requireThere_14 (Nat.le_of_ble_eq_true rfl) (Nat.le_of_ble_eq_true rfl) (Nat.le_of_ble_eq_true rfl) (Nat.le_of_ble_eq_true rfl) (by decide) rfl (Nat.le_of_ble_eq_true rfl) (Nat.le_of_ble_eq_true rfl)
set_option maxHeartbeats 4000000 in
set_option maxRecDepth 100000 in
theorem c_requireIndex (l : Launch) (hlt : l.stackTraces = false) (D : va_G) (cy : Nat → ClassId) (d0 : Nat) (A : Nat → Prop) (la : Nat → Int → Nat) (σ : MS) {z n : Int} (hz : -2147483648 ≤ z ∧ z < 2147483648) (hn : -2147483648 ≤ n ∧ n < 2147483648) : CT l yX10_requireIndex wsX10_requireIndex ({ frames := 6, cells := 1, slots := 6, locals := 82 } : Room) D cy d0 A [.int (iI z), .int (iI n)] la σ (if no z n then 1 else 0) (cPm (none) la (σ) (True)) 1 6 := by
  refine ct_of (cc := cX10_requireIndex) (nL := 2) (ret := none) (by decide) rfl (Nat.le_of_ble_eq_true rfl) ?_
  intro p e s m args below meth c ls E hout hr hlk hK hC hS hl
  have B := E.1
  have hml := E.2.1
  have hown := E.2.2.1
  have hts0 := E.2.2.2.1
  have hts := E.2.2.2.1
  have hw := hC.2.2.2.2.2.1
  refine x_iload_n B hl dX10_requireIndex_0 rfl ?_
  refine x_if_lt (tgt := 9) B dX10_requireIndex_1 (by decide) (by omega) (fun c_1 => ?_) (fun c_1 => ?_)
  · have hk9 : (if no z n then (1 : Int) else 0) = 1 := (by omega)
    rw [hk9]
    exact co_throw (k := 1) hlt E hout hlk hK hC hS hl (by decide +kernel) (by decide +kernel) (by decide +kernel) hK.2.2.2.2.2.2.2.2.1 (fun z h => List.mem_cons_of_mem _ (List.mem_append_right _ h)) cBad_1 hK.2.2.2.2.2.2.2.1.1 cGood_1 dX10_requireIndex_9 dX10_requireIndex_12 dX10_requireIndex_13 dX10_requireIndex_16 dX10_requireIndex_19 (Nat.le_of_ble_eq_true rfl) (Nat.le_of_ble_eq_true rfl) (Nat.le_of_ble_eq_true rfl) (Nat.le_of_ble_eq_true rfl) (by decide) rfl (Nat.le_of_ble_eq_true rfl) (Nat.le_of_ble_eq_true rfl)
  · refine x_iload_n B hl dX10_requireIndex_4 rfl ?_
    refine x_iload_n B hl dX10_requireIndex_5 rfl ?_
    refine x_icmp_lt (tgt := 20) B dX10_requireIndex_6 (by decide) (by omega) (by omega) (fun c_6 => ?_) (fun c_6 => ?_)
    · exact w_widen (Nat.le_of_ble_eq_true rfl) (Nat.le_of_ble_eq_true rfl) (vx_ret (co_vret E hr hlk hC hS dX10_requireIndex_20 ⟨(by omega), rfl, rfl, rfl, (by first | trivial | omega)⟩))
    · have hk9 : (if no z n then (1 : Int) else 0) = 1 := (by omega)
      rw [hk9]
      exact co_throw (k := 1) hlt E hout hlk hK hC hS hl (by decide +kernel) (by decide +kernel) (by decide +kernel) hK.2.2.2.2.2.2.2.2.1 (fun z h => List.mem_cons_of_mem _ (List.mem_append_right _ h)) cBad_1 hK.2.2.2.2.2.2.2.1.1 cGood_1 dX10_requireIndex_9 dX10_requireIndex_12 dX10_requireIndex_13 dX10_requireIndex_16 dX10_requireIndex_19 (Nat.le_of_ble_eq_true rfl) (Nat.le_of_ble_eq_true rfl) (Nat.le_of_ble_eq_true rfl) (Nat.le_of_ble_eq_true rfl) (by decide) rfl (Nat.le_of_ble_eq_true rfl) (Nat.le_of_ble_eq_true rfl)
set_option maxHeartbeats 4000000 in
set_option maxRecDepth 100000 in
theorem c_streetAt (l : Launch) (hlt : l.stackTraces = false) (D : va_G) (cy : Nat → ClassId) (d0 : Nat) (A : Nat → Prop) (la : Nat → Int → Nat) (σ : MS) {z : Int} (hz : -2147483648 ≤ z ∧ z < 2147483648) (hn : 0 ≤ σ 5 0 ∧ σ 5 0 ≤ 1000) (h23 : 0 ≤ σ 23 0) (hlg : σ 58 0 = 0 ∧ σ 59 0 = 0) : CT l yX10_streetAt wsX10_streetAt ({ frames := 7, cells := 1, slots := 6, locals := 103 } : Room) D cy d0 A [.ref (la 0 0), .int (iI z)] la σ (if no z (σ 5 0) then 1 else 0) (cPm (some (.ref (la 4 z))) la (σ) (0 ≤ z ∧ z < σ 5 0)) 1 6 := by
  refine ct_of (cc := cX10_streetAt) (nL := 2) (ret := (some (.object "BinRounds$Street"))) (by decide) rfl (Nat.le_of_ble_eq_true rfl) ?_
  intro p e s m args below meth c ls E hout hr hlk hK hC hS hl
  have B := E.1
  have hml := E.2.1
  have hown := E.2.2.1
  have hts0 := E.2.2.2.1
  have hts := E.2.2.2.1
  have hw := hC.2.2.2.2.2.1
  refine x_iload_n B hl dX10_streetAt_0 rfl ?_
  refine x_aload_n B hl dX10_streetAt_1 rfl ?_
  refine co_getR (x := la 11 0) E hC 0 (by decide) cl_0 rfl (fun z h => List.mem_cons_of_mem _ (List.mem_append_left _ (List.mem_append_left _ (List.mem_append_right _ h)))) 0 (by decide) (hts (.fieldLink RX10 10 "BinRounds" "streets" "Ljava/util/ArrayList;") (by decide +kernel)) (fun x hx => hx) dX10_streetAt_2 rfl rfl ?_
  refine co_call E hK hC hS hl (κ := 11) (i := 0) (by decide) (cl_11 (by omega)) rfl (c_size l D cy d0 A la σ (L := 0) (n := σ 5 0) (cl_11 (by omega)) rfl) (cwV 0 hts0 gX10_streetAt_Jx4a65c_size_8abf5 rfl rfl rfl (by decide +kernel) ⟨Nat.le_of_ble_eq_true rfl, Nat.le_of_ble_eq_true rfl⟩) rfl rfl (Nat.le_of_ble_eq_true rfl) dX10_streetAt_5 ⟨Nat.le_of_ble_eq_true rfl, Nat.le_of_ble_eq_true rfl⟩ (fun H locs q_5 hC hS => ?_)
  refine cstm_call E hout hlk hK hC hS hl (c_requireIndex l hlt D cy d0 A la σ (z := z) (n := σ 5 0) hz (by omega)) (va_cwS 2 hts0 gX10_streetAt_X10_requireIndex rfl rfl rfl (by decide +kernel) ⟨Nat.le_of_ble_eq_true rfl, Nat.le_of_ble_eq_true rfl⟩) rfl rfl (Nat.le_of_ble_eq_true rfl) dX10_streetAt_8 ⟨Nat.le_of_ble_eq_true rfl, Nat.le_of_ble_eq_true rfl⟩ ⟨Nat.le_of_ble_eq_true rfl, Nat.le_of_ble_eq_true rfl⟩ (fun h => ⟨by omega, rfl⟩) (fun h9_8 H locs q_8 hC hS => ?_)
  refine x_aload_n B hl dX10_streetAt_11 rfl ?_
  refine co_getR (x := la 11 0) E hC 0 (by decide) cl_0 rfl (fun z h => List.mem_cons_of_mem _ (List.mem_append_left _ (List.mem_append_left _ (List.mem_append_right _ h)))) 0 (by decide) (hts (.fieldLink RX10 10 "BinRounds" "streets" "Ljava/util/ArrayList;") (by decide +kernel)) (fun x hx => hx) dX10_streetAt_12 rfl rfl ?_
  refine x_iload_n B hl dX10_streetAt_15 rfl ?_
  refine co_call E hK hC hS hl (κ := 11) (i := 0) (by decide) (cl_11 (by omega)) rfl (c_get l D cy d0 A la σ (L := 0) (n := σ 5 0) (j := z) (x := la 4 z) (cl_11 (by omega)) rfl (by omega) (by omega) rfl) (cwV 1 hts0 gX10_streetAt_Jx4a65c_get_915e3 rfl rfl rfl (by decide +kernel) ⟨Nat.le_of_ble_eq_true rfl, Nat.le_of_ble_eq_true rfl⟩) rfl rfl (Nat.le_of_ble_eq_true rfl) dX10_streetAt_16 ⟨Nat.le_of_ble_eq_true rfl, Nat.le_of_ble_eq_true rfl⟩ (fun H locs q_16 hC hS => ?_)
  refine co_cast E hK hC 4 (by decide) (cl_4 (by omega)) rfl (by decide +kernel) dX10_streetAt_19 ?_
  exact w_widen (Nat.le_of_ble_eq_true rfl) (Nat.le_of_ble_eq_true rfl) (vx_ret (co_aret E hr (Or.inl ⟨_, rfl⟩) hlk hC hS dX10_streetAt_22 ⟨(by omega), rfl, rfl, rfl, (by first | trivial | omega)⟩))
set_option maxHeartbeats 4000000 in
set_option maxRecDepth 100000 in
theorem c_houseAt (l : Launch) (hlt : l.stackTraces = false) (D : va_G) (cy : Nat → ClassId) (d0 : Nat) (A : Nat → Prop) (la : Nat → Int → Nat) (σ : MS) {z : Int} (hz : -2147483648 ≤ z ∧ z < 2147483648) (hn : 0 ≤ σ 11 0 ∧ σ 11 0 ≤ 1000) (h23 : 0 ≤ σ 23 0) (hlg : σ 58 0 = 0 ∧ σ 59 0 = 0) : CT l yX10_houseAt wsX10_houseAt ({ frames := 7, cells := 1, slots := 6, locals := 103 } : Room) D cy d0 A [.ref (la 0 0), .int (iI z)] la σ (if no z (σ 11 0) then 1 else 0) (cPm (some (.ref (la 5 z))) la (σ) (0 ≤ z ∧ z < σ 11 0)) 1 6 := by
  refine ct_of (cc := cX10_houseAt) (nL := 2) (ret := (some (.object "BinRounds$House"))) (by decide) rfl (Nat.le_of_ble_eq_true rfl) ?_
  intro p e s m args below meth c ls E hout hr hlk hK hC hS hl
  have B := E.1
  have hml := E.2.1
  have hown := E.2.2.1
  have hts0 := E.2.2.2.1
  have hts := E.2.2.2.1
  have hw := hC.2.2.2.2.2.1
  refine x_iload_n B hl dX10_houseAt_0 rfl ?_
  refine x_aload_n B hl dX10_houseAt_1 rfl ?_
  refine co_getR (x := la 11 1) E hC 0 (by decide) cl_0 rfl (fun z h => List.mem_cons_of_mem _ (List.mem_append_left _ (List.mem_append_left _ (List.mem_append_right _ h)))) 1 (by decide) (hts (.fieldLink RX10 16 "BinRounds" "houses" "Ljava/util/ArrayList;") (by decide +kernel)) (fun x hx => hx) dX10_houseAt_2 rfl rfl ?_
  refine co_call E hK hC hS hl (κ := 11) (i := 1) (by decide) (cl_11 (by omega)) rfl (c_size l D cy d0 A la σ (L := 1) (n := σ 11 0) (cl_11 (by omega)) rfl) (cwV 0 hts0 gX10_houseAt_Jx4a65c_size_8abf5 rfl rfl rfl (by decide +kernel) ⟨Nat.le_of_ble_eq_true rfl, Nat.le_of_ble_eq_true rfl⟩) rfl rfl (Nat.le_of_ble_eq_true rfl) dX10_houseAt_5 ⟨Nat.le_of_ble_eq_true rfl, Nat.le_of_ble_eq_true rfl⟩ (fun H locs q_5 hC hS => ?_)
  refine cstm_call E hout hlk hK hC hS hl (c_requireIndex l hlt D cy d0 A la σ (z := z) (n := σ 11 0) hz (by omega)) (va_cwS 2 hts0 gX10_houseAt_X10_requireIndex rfl rfl rfl (by decide +kernel) ⟨Nat.le_of_ble_eq_true rfl, Nat.le_of_ble_eq_true rfl⟩) rfl rfl (Nat.le_of_ble_eq_true rfl) dX10_houseAt_8 ⟨Nat.le_of_ble_eq_true rfl, Nat.le_of_ble_eq_true rfl⟩ ⟨Nat.le_of_ble_eq_true rfl, Nat.le_of_ble_eq_true rfl⟩ (fun h => ⟨by omega, rfl⟩) (fun h9_8 H locs q_8 hC hS => ?_)
  refine x_aload_n B hl dX10_houseAt_11 rfl ?_
  refine co_getR (x := la 11 1) E hC 0 (by decide) cl_0 rfl (fun z h => List.mem_cons_of_mem _ (List.mem_append_left _ (List.mem_append_left _ (List.mem_append_right _ h)))) 1 (by decide) (hts (.fieldLink RX10 16 "BinRounds" "houses" "Ljava/util/ArrayList;") (by decide +kernel)) (fun x hx => hx) dX10_houseAt_12 rfl rfl ?_
  refine x_iload_n B hl dX10_houseAt_15 rfl ?_
  refine co_call E hK hC hS hl (κ := 11) (i := 1) (by decide) (cl_11 (by omega)) rfl (c_get l D cy d0 A la σ (L := 1) (n := σ 11 0) (j := z) (x := la 5 z) (cl_11 (by omega)) rfl (by omega) (by omega) rfl) (cwV 1 hts0 gX10_houseAt_Jx4a65c_get_915e3 rfl rfl rfl (by decide +kernel) ⟨Nat.le_of_ble_eq_true rfl, Nat.le_of_ble_eq_true rfl⟩) rfl rfl (Nat.le_of_ble_eq_true rfl) dX10_houseAt_16 ⟨Nat.le_of_ble_eq_true rfl, Nat.le_of_ble_eq_true rfl⟩ (fun H locs q_16 hC hS => ?_)
  refine co_cast E hK hC 5 (by decide) (cl_5 (by omega)) rfl (by decide +kernel) dX10_houseAt_19 ?_
  exact w_widen (Nat.le_of_ble_eq_true rfl) (Nat.le_of_ble_eq_true rfl) (vx_ret (co_aret E hr (Or.inl ⟨_, rfl⟩) hlk hC hS dX10_houseAt_22 ⟨(by omega), rfl, rfl, rfl, (by first | trivial | omega)⟩))
set_option maxHeartbeats 4000000 in
set_option maxRecDepth 100000 in
theorem c_binAt (l : Launch) (hlt : l.stackTraces = false) (D : va_G) (cy : Nat → ClassId) (d0 : Nat) (A : Nat → Prop) (la : Nat → Int → Nat) (σ : MS) {z : Int} (hz : -2147483648 ≤ z ∧ z < 2147483648) (hn : 0 ≤ σ 23 0 ∧ σ 23 0 ≤ 1000) (hlg : σ 58 0 = 0 ∧ σ 59 0 = 0) : CT l yX10_binAt wsX10_binAt ({ frames := 7, cells := 1, slots := 6, locals := 103 } : Room) D cy d0 A [.ref (la 0 0), .int (iI z)] la σ (if no z (σ 23 0) then 1 else 0) (cPm (some (.ref (la 6 z))) la (σ) (0 ≤ z ∧ z < σ 23 0)) 1 6 := by
  refine ct_of (cc := cX10_binAt) (nL := 2) (ret := (some (.object "BinRounds$Bin"))) (by decide) rfl (Nat.le_of_ble_eq_true rfl) ?_
  intro p e s m args below meth c ls E hout hr hlk hK hC hS hl
  have B := E.1
  have hml := E.2.1
  have hown := E.2.2.1
  have hts0 := E.2.2.2.1
  have hts := E.2.2.2.1
  have hw := hC.2.2.2.2.2.1
  refine x_iload_n B hl dX10_binAt_0 rfl ?_
  refine x_aload_n B hl dX10_binAt_1 rfl ?_
  refine co_getR (x := la 11 2) E hC 0 (by decide) cl_0 rfl (fun z h => List.mem_cons_of_mem _ (List.mem_append_left _ (List.mem_append_left _ (List.mem_append_right _ h)))) 2 (by decide) (hts (.fieldLink RX10 19 "BinRounds" "bins" "Ljava/util/ArrayList;") (by decide +kernel)) (fun x hx => hx) dX10_binAt_2 rfl rfl ?_
  refine co_call E hK hC hS hl (κ := 11) (i := 2) (by decide) (cl_11 (by omega)) rfl (c_size l D cy d0 A la σ (L := 2) (n := σ 23 0) (cl_11 (by omega)) (cSz_2 hlg.2)) (cwV 0 hts0 gX10_binAt_Jx4a65c_size_8abf5 rfl rfl rfl (by decide +kernel) ⟨Nat.le_of_ble_eq_true rfl, Nat.le_of_ble_eq_true rfl⟩) rfl rfl (Nat.le_of_ble_eq_true rfl) dX10_binAt_5 ⟨Nat.le_of_ble_eq_true rfl, Nat.le_of_ble_eq_true rfl⟩ (fun H locs q_5 hC hS => ?_)
  refine cstm_call E hout hlk hK hC hS hl (c_requireIndex l hlt D cy d0 A la σ (z := z) (n := σ 23 0) hz (by omega)) (va_cwS 2 hts0 gX10_binAt_X10_requireIndex rfl rfl rfl (by decide +kernel) ⟨Nat.le_of_ble_eq_true rfl, Nat.le_of_ble_eq_true rfl⟩) rfl rfl (Nat.le_of_ble_eq_true rfl) dX10_binAt_8 ⟨Nat.le_of_ble_eq_true rfl, Nat.le_of_ble_eq_true rfl⟩ ⟨Nat.le_of_ble_eq_true rfl, Nat.le_of_ble_eq_true rfl⟩ (fun h => ⟨by omega, rfl⟩) (fun h9_8 H locs q_8 hC hS => ?_)
  refine x_aload_n B hl dX10_binAt_11 rfl ?_
  refine co_getR (x := la 11 2) E hC 0 (by decide) cl_0 rfl (fun z h => List.mem_cons_of_mem _ (List.mem_append_left _ (List.mem_append_left _ (List.mem_append_right _ h)))) 2 (by decide) (hts (.fieldLink RX10 19 "BinRounds" "bins" "Ljava/util/ArrayList;") (by decide +kernel)) (fun x hx => hx) dX10_binAt_12 rfl rfl ?_
  refine x_iload_n B hl dX10_binAt_15 rfl ?_
  refine co_call E hK hC hS hl (κ := 11) (i := 2) (by decide) (cl_11 (by omega)) rfl (c_get l D cy d0 A la σ (L := 2) (n := σ 23 0) (j := z) (x := la 6 z) (cl_11 (by omega)) (cSz_2 hlg.2) (by omega) (by omega) rfl) (cwV 1 hts0 gX10_binAt_Jx4a65c_get_915e3 rfl rfl rfl (by decide +kernel) ⟨Nat.le_of_ble_eq_true rfl, Nat.le_of_ble_eq_true rfl⟩) rfl rfl (Nat.le_of_ble_eq_true rfl) dX10_binAt_16 ⟨Nat.le_of_ble_eq_true rfl, Nat.le_of_ble_eq_true rfl⟩ (fun H locs q_16 hC hS => ?_)
  refine co_cast E hK hC 6 (by decide) (cl_6 (by omega)) rfl (by decide +kernel) dX10_binAt_19 ?_
  exact w_widen (Nat.le_of_ble_eq_true rfl) (Nat.le_of_ble_eq_true rfl) (vx_ret (co_aret E hr (Or.inl ⟨_, rfl⟩) hlk hC hS dX10_binAt_22 ⟨(by omega), rfl, rfl, rfl, (by first | trivial | omega)⟩))
set_option maxHeartbeats 4000000 in
set_option maxRecDepth 100000 in
theorem c_cartAt (l : Launch) (hlt : l.stackTraces = false) (D : va_G) (cy : Nat → ClassId) (d0 : Nat) (A : Nat → Prop) (la : Nat → Int → Nat) (σ : MS) {z : Int} (hz : -2147483648 ≤ z ∧ z < 2147483648) (hn : 0 ≤ σ 27 0 ∧ σ 27 0 ≤ 1000) (h23 : 0 ≤ σ 23 0) (hlg : σ 58 0 = 0 ∧ σ 59 0 = 0) : CT l yX10_cartAt wsX10_cartAt ({ frames := 7, cells := 1, slots := 6, locals := 103 } : Room) D cy d0 A [.ref (la 0 0), .int (iI z)] la σ (if no z (σ 27 0) then 1 else 0) (cPm (some (.ref (la 9 z))) la (σ) (0 ≤ z ∧ z < σ 27 0)) 1 6 := by
  refine ct_of (cc := cX10_cartAt) (nL := 2) (ret := (some (.object "BinRounds$Cart"))) (by decide) rfl (Nat.le_of_ble_eq_true rfl) ?_
  intro p e s m args below meth c ls E hout hr hlk hK hC hS hl
  have B := E.1
  have hml := E.2.1
  have hown := E.2.2.1
  have hts0 := E.2.2.2.1
  have hts := E.2.2.2.1
  have hw := hC.2.2.2.2.2.1
  refine x_iload_n B hl dX10_cartAt_0 rfl ?_
  refine x_aload_n B hl dX10_cartAt_1 rfl ?_
  refine co_getR (x := la 11 3) E hC 0 (by decide) cl_0 rfl (fun z h => List.mem_cons_of_mem _ (List.mem_append_left _ (List.mem_append_left _ (List.mem_append_right _ h)))) 3 (by decide) (hts (.fieldLink RX10 22 "BinRounds" "carts" "Ljava/util/ArrayList;") (by decide +kernel)) (fun x hx => hx) dX10_cartAt_2 rfl rfl ?_
  refine co_call E hK hC hS hl (κ := 11) (i := 3) (by decide) (cl_11 (by omega)) rfl (c_size l D cy d0 A la σ (L := 3) (n := σ 27 0) (cl_11 (by omega)) rfl) (cwV 0 hts0 gX10_cartAt_Jx4a65c_size_8abf5 rfl rfl rfl (by decide +kernel) ⟨Nat.le_of_ble_eq_true rfl, Nat.le_of_ble_eq_true rfl⟩) rfl rfl (Nat.le_of_ble_eq_true rfl) dX10_cartAt_5 ⟨Nat.le_of_ble_eq_true rfl, Nat.le_of_ble_eq_true rfl⟩ (fun H locs q_5 hC hS => ?_)
  refine cstm_call E hout hlk hK hC hS hl (c_requireIndex l hlt D cy d0 A la σ (z := z) (n := σ 27 0) hz (by omega)) (va_cwS 2 hts0 gX10_cartAt_X10_requireIndex rfl rfl rfl (by decide +kernel) ⟨Nat.le_of_ble_eq_true rfl, Nat.le_of_ble_eq_true rfl⟩) rfl rfl (Nat.le_of_ble_eq_true rfl) dX10_cartAt_8 ⟨Nat.le_of_ble_eq_true rfl, Nat.le_of_ble_eq_true rfl⟩ ⟨Nat.le_of_ble_eq_true rfl, Nat.le_of_ble_eq_true rfl⟩ (fun h => ⟨by omega, rfl⟩) (fun h9_8 H locs q_8 hC hS => ?_)
  refine x_aload_n B hl dX10_cartAt_11 rfl ?_
  refine co_getR (x := la 11 3) E hC 0 (by decide) cl_0 rfl (fun z h => List.mem_cons_of_mem _ (List.mem_append_left _ (List.mem_append_left _ (List.mem_append_right _ h)))) 3 (by decide) (hts (.fieldLink RX10 22 "BinRounds" "carts" "Ljava/util/ArrayList;") (by decide +kernel)) (fun x hx => hx) dX10_cartAt_12 rfl rfl ?_
  refine x_iload_n B hl dX10_cartAt_15 rfl ?_
  refine co_call E hK hC hS hl (κ := 11) (i := 3) (by decide) (cl_11 (by omega)) rfl (c_get l D cy d0 A la σ (L := 3) (n := σ 27 0) (j := z) (x := la 9 z) (cl_11 (by omega)) rfl (by omega) (by omega) rfl) (cwV 1 hts0 gX10_cartAt_Jx4a65c_get_915e3 rfl rfl rfl (by decide +kernel) ⟨Nat.le_of_ble_eq_true rfl, Nat.le_of_ble_eq_true rfl⟩) rfl rfl (Nat.le_of_ble_eq_true rfl) dX10_cartAt_16 ⟨Nat.le_of_ble_eq_true rfl, Nat.le_of_ble_eq_true rfl⟩ (fun H locs q_16 hC hS => ?_)
  refine co_cast E hK hC 9 (by decide) (cl_9 (by omega)) rfl (by decide +kernel) dX10_cartAt_19 ?_
  exact w_widen (Nat.le_of_ble_eq_true rfl) (Nat.le_of_ble_eq_true rfl) (vx_ret (co_aret E hr (Or.inl ⟨_, rfl⟩) hlk hC hS dX10_cartAt_22 ⟨(by omega), rfl, rfl, rfl, (by first | trivial | omega)⟩))
set_option maxHeartbeats 4000000 in
set_option maxRecDepth 100000 in
theorem c_tipAt (l : Launch) (hlt : l.stackTraces = false) (D : va_G) (cy : Nat → ClassId) (d0 : Nat) (A : Nat → Prop) (la : Nat → Int → Nat) (σ : MS) {z : Int} (hz : -2147483648 ≤ z ∧ z < 2147483648) (hn : 0 ≤ σ 45 0 ∧ σ 45 0 ≤ 1000) (h23 : 0 ≤ σ 23 0) (hlg : σ 58 0 = 0 ∧ σ 59 0 = 0) : CT l yX10_tipAt wsX10_tipAt ({ frames := 7, cells := 1, slots := 6, locals := 103 } : Room) D cy d0 A [.ref (la 0 0), .int (iI z)] la σ (if no z (σ 45 0) then 1 else 0) (cPm (some (.ref (la 10 z))) la (σ) (0 ≤ z ∧ z < σ 45 0)) 1 6 := by
  refine ct_of (cc := cX10_tipAt) (nL := 2) (ret := (some (.object "BinRounds$Tip"))) (by decide) rfl (Nat.le_of_ble_eq_true rfl) ?_
  intro p e s m args below meth c ls E hout hr hlk hK hC hS hl
  have B := E.1
  have hml := E.2.1
  have hown := E.2.2.1
  have hts0 := E.2.2.2.1
  have hts := E.2.2.2.1
  have hw := hC.2.2.2.2.2.1
  refine x_iload_n B hl dX10_tipAt_0 rfl ?_
  refine x_aload_n B hl dX10_tipAt_1 rfl ?_
  refine co_getR (x := la 11 4) E hC 0 (by decide) cl_0 rfl (fun z h => List.mem_cons_of_mem _ (List.mem_append_left _ (List.mem_append_left _ (List.mem_append_right _ h)))) 4 (by decide) (hts (.fieldLink RX10 25 "BinRounds" "tips" "Ljava/util/ArrayList;") (by decide +kernel)) (fun x hx => hx) dX10_tipAt_2 rfl rfl ?_
  refine co_call E hK hC hS hl (κ := 11) (i := 4) (by decide) (cl_11 (by omega)) rfl (c_size l D cy d0 A la σ (L := 4) (n := σ 45 0) (cl_11 (by omega)) (cSz_4 hlg.1)) (cwV 0 hts0 gX10_tipAt_Jx4a65c_size_8abf5 rfl rfl rfl (by decide +kernel) ⟨Nat.le_of_ble_eq_true rfl, Nat.le_of_ble_eq_true rfl⟩) rfl rfl (Nat.le_of_ble_eq_true rfl) dX10_tipAt_5 ⟨Nat.le_of_ble_eq_true rfl, Nat.le_of_ble_eq_true rfl⟩ (fun H locs q_5 hC hS => ?_)
  refine cstm_call E hout hlk hK hC hS hl (c_requireIndex l hlt D cy d0 A la σ (z := z) (n := σ 45 0) hz (by omega)) (va_cwS 2 hts0 gX10_tipAt_X10_requireIndex rfl rfl rfl (by decide +kernel) ⟨Nat.le_of_ble_eq_true rfl, Nat.le_of_ble_eq_true rfl⟩) rfl rfl (Nat.le_of_ble_eq_true rfl) dX10_tipAt_8 ⟨Nat.le_of_ble_eq_true rfl, Nat.le_of_ble_eq_true rfl⟩ ⟨Nat.le_of_ble_eq_true rfl, Nat.le_of_ble_eq_true rfl⟩ (fun h => ⟨by omega, rfl⟩) (fun h9_8 H locs q_8 hC hS => ?_)
  refine x_aload_n B hl dX10_tipAt_11 rfl ?_
  refine co_getR (x := la 11 4) E hC 0 (by decide) cl_0 rfl (fun z h => List.mem_cons_of_mem _ (List.mem_append_left _ (List.mem_append_left _ (List.mem_append_right _ h)))) 4 (by decide) (hts (.fieldLink RX10 25 "BinRounds" "tips" "Ljava/util/ArrayList;") (by decide +kernel)) (fun x hx => hx) dX10_tipAt_12 rfl rfl ?_
  refine x_iload_n B hl dX10_tipAt_15 rfl ?_
  refine co_call E hK hC hS hl (κ := 11) (i := 4) (by decide) (cl_11 (by omega)) rfl (c_get l D cy d0 A la σ (L := 4) (n := σ 45 0) (j := z) (x := la 10 z) (cl_11 (by omega)) (cSz_4 hlg.1) (by omega) (by omega) rfl) (cwV 1 hts0 gX10_tipAt_Jx4a65c_get_915e3 rfl rfl rfl (by decide +kernel) ⟨Nat.le_of_ble_eq_true rfl, Nat.le_of_ble_eq_true rfl⟩) rfl rfl (Nat.le_of_ble_eq_true rfl) dX10_tipAt_16 ⟨Nat.le_of_ble_eq_true rfl, Nat.le_of_ble_eq_true rfl⟩ (fun H locs q_16 hC hS => ?_)
  refine co_cast E hK hC 10 (by decide) (cl_10 (by omega)) rfl (by decide +kernel) dX10_tipAt_19 ?_
  exact w_widen (Nat.le_of_ble_eq_true rfl) (Nat.le_of_ble_eq_true rfl) (vx_ret (co_aret E hr (Or.inl ⟨_, rfl⟩) hlk hC hS dX10_tipAt_22 ⟨(by omega), rfl, rfl, rfl, (by first | trivial | omega)⟩))
