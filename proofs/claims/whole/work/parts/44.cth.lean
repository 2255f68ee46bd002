theorem CP.lt {D : va_G} {cy : Nat → ClassId} {d0 : Nat} {A : Nat → Prop} {la : Nat → Int → Nat} {σ : MS} {H : Heap} (h : CP D cy d0 A la σ H) {κ : Nat} {i : Int} (hκ : κ ≤ 18) (hl : cLive la σ κ i) : la κ i < H.size := by
  by_cases h1 : κ ≤ 11
  · obtain ⟨cell, h2, -⟩ := h.1 κ i h1 hl
    exact (Array.getElem?_eq_some_iff.mp h2).1
  · by_cases h2 : κ ≤ 17
    · exact (Array.getElem?_eq_some_iff.mp (h.2.1 κ i (by omega) h2 hl)).1
    · have h3 : κ = 18 := by omega
      subst h3
      have hl2 : cLive la σ 11 i ∧ 0 < la 19 i := hl
      rcases (h.2.2.1 i hl2.1).2 with ⟨e, -⟩ | ⟨-, f, e, -⟩
      · omega
      · exact (Array.getElem?_eq_some_iff.mp e).1
theorem cGood_1 : ∀ z ∈ Cond.classLink RX10 386 "java/lang/IndexOutOfBoundsException" :: Cond.initialized "java/lang/IndexOutOfBoundsException" :: vx_atS RX10 390 "java/lang/IndexOutOfBoundsException" cUp, vx_ot z = true := by decide +kernel
theorem cGood_2 : ∀ z ∈ Cond.classLink RX10 369 "java/lang/IllegalArgumentException" :: Cond.initialized "java/lang/IllegalArgumentException" :: vx_atS RX10 373 "java/lang/IllegalArgumentException" cUp, vx_ot z = true := by decide +kernel
theorem cGood_3 : ∀ z ∈ Cond.classLink RX10 376 "java/lang/UnsupportedOperationException" :: Cond.initialized "java/lang/UnsupportedOperationException" :: vx_atS RX10 380 "java/lang/UnsupportedOperationException" cUp, vx_ot z = true := by decide +kernel
theorem cGood_4 : ∀ z ∈ Cond.classLink RX10 381 "java/util/NoSuchElementException" :: Cond.initialized "java/util/NoSuchElementException" :: vx_atN RX10 385, vx_ot z = true := by decide +kernel
section CTH
variable {p : Program} {l : Launch} {e : Env} {R : Room} {s : State} {m : MethodId} {args : Array Value} {below : List Frame} {meth : Method} {c : Code} {H : Heap} {locs : List Loc} {cells slots : Nat} {Q : State → Prop}
variable {cc : ByteArray} {pc : Nat} {ls : Array Slot} {rest st : List Value} {nL : Nat} {lv : List (Nat × Value)} {Ts : List Cond} {D : va_G} {cy : Nat → ClassId} {d0 : Nat} {A : Nat → Prop} {la : Nat → Int → Nat} {σ : MS} {idx : Nat} {own C : String} {T : u_T}
theorem co_throw {k : Int} {cls text : String} {ik is ic mc ms : Nat} {Qc : Array Value → State → Outcome → State → Prop} (hlt : l.stackTraces = false) (E : cE p s m args c cc nL RX10 Ts D cy) (hout : ∀ x ∈ c.exceptionTable.toList, False) (hlk : meth.locks = false) (hK : cK D cy d0 A s s.heap) (hC : CP D cy d0 A la σ H) (hS : va_S A s.heap H locs) (hl : lv_has ls nL lv) (hcls : Bundle.fit cls = true) (hki : Cond.classLink RX10 ik cls ∈ Ts) (hini : Cond.initialized cls ∈ Ts) (hstr : ∃ z, vk_R RX10 is text z s) (hgin : ∀ z ∈ (vx_atS RX10 ic cls cUp).filter goodWord, z ∈ Ts) (hbad : ∀ z ∈ (vx_atS RX10 ic cls cUp).filter (fun z => !goodWord z), z ∈ Cond.castable cls cls :: cDec) (hcast : va_Nw (.castable cls cls) s) (hgood : ∀ z ∈ Cond.classLink RX10 ik cls :: Cond.initialized cls :: vx_atS RX10 ic cls cUp, vx_ot z = true)
    (e0 : decode cc pc = .ok (.new ik, 3)) (e3 : decode cc (pc + 3) = .ok (.dup, 1)) (e4 : decode cc (pc + 4) = .ok (.ldc_w is, 3)) (e7 : decode cc (pc + 7) = .ok (.invokespecial ic, 3)) (e10 : decode cc (pc + 10) = .ok (.athrow, 1))
    (hRf : 5 < R.frames) (hRl : (rest.map fun v => v.category).sum + 82 ≤ R.locals) (hRc : cells + 1 ≤ R.cells) (hRs : slots + 6 ≤ R.slots) (hk0 : k ≠ 0) (hnm : cls = cName k) (hc : cells + 1 ≤ mc) (hs : slots + 6 ≤ ms) :
    W p l e R s m args below meth c H locs cells slots (vx_MQ below Qc (cXX D cy d0 A k la σ) args s mc ms A) (F0 m pc ls rest) := by
  obtain ⟨za, hza⟩ := hstr
  obtain ⟨K1, K2, K3, K4, K5, K6, K7, -, -, -, -, -, K8, K9, K10, -⟩ := hK
  have hat : ∀ z ∈ vx_atS RX10 ic cls cUp, z.before args s = true := vx_hat (fun z hz => E.2.2.2.1 z (hgin z hz)) hbad (vx_c (va_Nw.use rfl hcast) (vx_c (va_Nw.use rfl K8) (vx_c (va_Nw.use rfl K9) (vx_c (va_Nw.use rfl K10) vx_n))))
  refine vx_throwSW (names := cUp) (ik := ik) (is := is) (ic := ic) E.1.1 E.1.2 hlt E.2.2.1 hcls (by decide +kernel) (E.2.2.2.1 _ hki) (E.2.2.2.1 _ hini) hza hat hgood K2 K3 hS (hl.1.trans E.2.1.symm) e0 e3 e4 e7 e10 (fun x hx => (hout x hx).elim) (by simpa [cUp] using hRf) (by simpa [cUp] using hRl) hRc hRs hlk (fun t h1 h2 h3 => ?_) hS.2.2 hc hs
  exact ⟨hk0, hnm, hC.kept (fun κ i a b => h3 _ (hC.lt a b)), Nat.le_trans hS.1 h2, fun q h4 h5 => (h3 q (Nat.lt_of_lt_of_le h4 hS.1)).trans (hS.2.1 q h4 h5)⟩
theorem co_throwN {k : Int} {text : String} {ik is ic mc ms : Nat} {Qc : Array Value → State → Outcome → State → Prop} (hlt : l.stackTraces = false) (E : cE p s m args c cc nL RX10 Ts D cy) (hout : ∀ x ∈ c.exceptionTable.toList, False) (hlk : meth.locks = false) (hK : cK D cy d0 A s s.heap) (hC : CP D cy d0 A la σ H) (hS : va_S A s.heap H locs) (hl : lv_has ls nL lv) (hcls : Bundle.fit "java/util/NoSuchElementException" = true) (hki : Cond.classLink RX10 ik "java/util/NoSuchElementException" ∈ Ts) (hini : Cond.initialized "java/util/NoSuchElementException" ∈ Ts) (hstr : ∃ z, vk_R RX10 is text z s) (hgin : ∀ z ∈ (vx_atN RX10 ic).filter goodWord, z ∈ Ts) (hbad : ∀ z ∈ (vx_atN RX10 ic).filter (fun z => !goodWord z), z ∈ Cond.castable "java/util/NoSuchElementException" "java/util/NoSuchElementException" :: cDec) (hcast : va_Nw (.castable "java/util/NoSuchElementException" "java/util/NoSuchElementException") s) (hgood : ∀ z ∈ Cond.classLink RX10 ik "java/util/NoSuchElementException" :: Cond.initialized "java/util/NoSuchElementException" :: vx_atN RX10 ic, vx_ot z = true)
    (e0 : decode cc pc = .ok (.new ik, 3)) (e3 : decode cc (pc + 3) = .ok (.dup, 1)) (e4 : decode cc (pc + 4) = .ok (.ldc_w is, 3)) (e7 : decode cc (pc + 7) = .ok (.invokespecial ic, 3)) (e10 : decode cc (pc + 10) = .ok (.athrow, 1))
    (hRf : 5 < R.frames) (hRl : (rest.map fun v => v.category).sum + 82 ≤ R.locals) (hRc : cells + 1 ≤ R.cells) (hRs : slots + 6 ≤ R.slots) (hk0 : k ≠ 0) (hnm : "java/util/NoSuchElementException" = cName k) (hc : cells + 1 ≤ mc) (hs : slots + 6 ≤ ms) :
    W p l e R s m args below meth c H locs cells slots (vx_MQ below Qc (cXX D cy d0 A k la σ) args s mc ms A) (F0 m pc ls rest) := by
  obtain ⟨za, hza⟩ := hstr
  obtain ⟨K1, K2, K3, K4, K5, K6, K7, -, -, -, -, -, K8, K9, K10, -⟩ := hK
  have hat : ∀ z ∈ vx_atN RX10 ic, z.before args s = true := vx_hat (fun z hz => E.2.2.2.1 z (hgin z hz)) hbad (vx_c (va_Nw.use rfl hcast) (vx_c (va_Nw.use rfl K8) (vx_c (va_Nw.use rfl K9) (vx_c (va_Nw.use rfl K10) vx_n))))
  refine vx_throwNW (Y0 := "java/lang/RuntimeException") (r0 := ["java/lang/Exception"]) (ik := ik) (is := is) (ic := ic) E.1.1 E.1.2 hlt vx_nse0 vx_nse1 vx_nse2 vx_nse5 E.2.2.1 hcls (by decide +kernel) (by decide +kernel) (E.2.2.2.1 _ hki) (E.2.2.2.1 _ hini) hza hat hgood K2 K3 hS (hl.1.trans E.2.1.symm) e0 e3 e4 e7 e10 (fun x hx => (hout x hx).elim) (by simpa using hRf) (by simpa using hRl) hRc hRs hlk (fun t h1 h2 h3 => ?_) hS.2.2 hc hs
  exact ⟨hk0, hnm, hC.kept (fun κ i a b => h3 _ (hC.lt a b)), Nat.le_trans hS.1 h2, fun q h4 h5 => (h3 q (Nat.lt_of_lt_of_le h4 hS.1)).trans (hS.2.1 q h4 h5)⟩
end CTH
