section CL
variable {la : Nat → Int → Nat} {σ τ : MS} {i j v : Int} {f : Nat}
theorem cl_0 : cLive la σ 0 0 := show (0 : Int) = 0 from rfl
theorem cl_1 : cLive la σ 1 0 := show (0 : Int) = 0 from rfl
theorem cl_2 : cLive la σ 2 0 := show (0 : Int) = 0 from rfl
theorem cl_3 : cLive la σ 3 0 := show (0 : Int) = 0 from rfl
theorem cl_4 (h : 0 ≤ i ∧ i < σ 5 0) : cLive la σ 4 i := h
theorem cl_5 (h : 0 ≤ i ∧ i < σ 11 0) : cLive la σ 5 i := h
theorem cl_6 (h : 0 ≤ i ∧ i < σ 23 0) : cLive la σ 6 i := h
theorem cl_7 (h : 0 ≤ i ∧ i / 8 < σ 23 0 ∧ i % 8 < σ 18 (i / 8)) : cLive la σ 7 i := h
theorem cl_7b {b k : Int} (hb : 0 ≤ b ∧ b < σ 23 0) (hk : 0 ≤ k ∧ k < 8) (h : k < σ 18 b) : cLive la σ 7 (8 * b + k) := by
  refine cl_7 ⟨by omega, ?_, ?_⟩
  · rw [show (8 * b + k) / 8 = b by omega]; exact hb.2
  · rw [show (8 * b + k) / 8 = b by omega, show (8 * b + k) % 8 = k by omega]; exact h
theorem cl_8 (h : 0 ≤ i ∧ i / 20 < σ 23 0 ∧ i % 20 < σ 22 (i / 20)) : cLive la σ 8 i := h
theorem cl_8b {b k : Int} (hb : 0 ≤ b ∧ b < σ 23 0) (hk : 0 ≤ k ∧ k < 20) (h : k < σ 22 b) : cLive la σ 8 (20 * b + k) := by
  refine cl_8 ⟨by omega, ?_, ?_⟩
  · rw [show (20 * b + k) / 20 = b by omega]; exact hb.2
  · rw [show (20 * b + k) / 20 = b by omega, show (20 * b + k) % 20 = k by omega]; exact h
theorem cl_9 (h : 0 ≤ i ∧ i < σ 27 0) : cLive la σ 9 i := h
theorem cl_10 (h : 0 ≤ i ∧ i < σ 45 0) : cLive la σ 10 i := h
theorem cl_11 (h : 0 ≤ i ∧ i < 5 + 2 * σ 23 0) : cLive la σ 11 i := h
theorem cl_12 : cLive la σ 12 0 := show (0 : Int) = 0 from rfl
theorem cl_13 : cLive la σ 13 0 := show (0 : Int) = 0 from rfl
theorem cl_14 : cLive la σ 14 0 := show (0 : Int) = 0 from rfl
theorem cl_15 : cLive la σ 15 0 := show (0 : Int) = 0 from rfl
theorem cl_16 (h : 0 ≤ i ∧ i < σ 5 0) : cLive la σ 16 i := h
theorem cl_17 (h : 0 ≤ i ∧ i < σ 5 0) : cLive la σ 17 i := h
/-- the numbers that say which cells are there -/
def cLq (σ τ : MS) : Prop := τ 5 = σ 5 ∧ τ 11 = σ 11 ∧ τ 23 = σ 23 ∧ τ 27 = σ 27 ∧ τ 45 = σ 45 ∧ τ 18 = σ 18 ∧ τ 22 = σ 22
theorem cl_q (h : cLq σ τ) {κ : Nat} (hl : cLive la σ κ i) : cLive la τ κ i := by
  obtain ⟨h1, h2, h3, h4, h5, h6, h7⟩ := h
  unfold cLive at hl ⊢
  rw [h1, h2, h3, h4, h5, h6, h7]
  exact hl
abbrev okl (f : Nat) : Bool := f != 5 && f != 11 && f != 23 && f != 27 && f != 45 && f != 18 && f != 22
theorem cLq_up (h : okl f = true) : cLq σ (up σ f j v) := by
  simp only [okl, Bool.and_eq_true, bne_iff_ne, ne_eq] at h
  exact ⟨up_f (by omega), up_f (by omega), up_f (by omega), up_f (by omega), up_f (by omega), up_f (by omega), up_f (by omega)⟩
theorem cl_up (h : okl f = true) {κ : Nat} (hl : cLive la σ κ i) : cLive la (up σ f j v) κ i := cl_q (cLq_up h) hl
theorem cEl_mv (b j : Int) : cEl la (5 + 2 * b) j = la 7 (8 * b + j) ∨ b < 0 := by
  by_cases h : b < 0
  · exact Or.inr h
  · unfold cEl
    rw [if_neg (by omega), if_neg (by omega), if_neg (by omega), if_neg (by omega), if_neg (by omega), if_pos (by omega), show (5 + 2 * b - 5) / 2 = b by omega]
    exact Or.inl rfl
theorem cEl_m {b : Int} (hb : 0 ≤ b) (j : Int) : cEl la (5 + 2 * b) j = la 7 (8 * b + j) := (cEl_mv b j).resolve_right (by omega)
theorem cEl_p {b : Int} (hb : 0 ≤ b) (j : Int) : cEl la (6 + 2 * b) j = la 8 (20 * b + j) := by
  unfold cEl
  rw [if_neg (by omega), if_neg (by omega), if_neg (by omega), if_neg (by omega), if_neg (by omega), if_neg (by omega), show (6 + 2 * b - 5) / 2 = b by omega]
theorem cSz_m {b : Int} (hb : 0 ≤ b) : cSz σ (5 + 2 * b) = σ 18 b := by
  unfold cSz
  rw [if_neg (by omega), if_neg (by omega), if_neg (by omega), if_neg (by omega), if_neg (by omega), if_pos (by omega), show (5 + 2 * b - 5) / 2 = b by omega]
theorem cSz_p {b : Int} (hb : 0 ≤ b) : cSz σ (6 + 2 * b) = σ 22 b := by
  unfold cSz
  rw [if_neg (by omega), if_neg (by omega), if_neg (by omega), if_neg (by omega), if_neg (by omega), if_neg (by omega), show (6 + 2 * b - 5) / 2 = b by omega]
theorem cSz_2 (h : σ 59 0 = 0) : cSz σ 2 = σ 23 0 := by
  show σ 23 0 - σ 59 0 = _
  omega
theorem cSz_4 (h : σ 58 0 = 0) : cSz σ 4 = σ 45 0 := by
  show σ 45 0 - σ 58 0 = _
  omega
end CL
section CR3
variable {p : Program} {l : Launch} {e : Env} {R : Room} {s : State} {m : MethodId} {args : Array Value} {below : List Frame} {meth : Method} {c : Code} {H : Heap} {locs : List Loc} {cells slots : Nat} {Q : State → Prop}
variable {cc : ByteArray} {pc : Nat} {ls : Array Slot} {rest st : List Value} {nL : Nat} {lv : List (Nat × Value)} {Ts : List Cond} {D : va_G} {cy : Nat → ClassId} {d0 : Nat} {A : Nat → Prop} {la : Nat → Int → Nat} {σ : MS} {idx : Nat} {own ref C : String} {T : u_T}
theorem co_getR {x : Nat} (E : cE p s m args c cc nL own Ts D cy) (hC : CP D cy d0 A la σ H) (κ : Nat) {i : Int} (hκ : κ ≤ 11) (hlv : cLive la σ κ i) (hc : vwCl[cCi κ]? = some (C, T, cN κ)) (hin : ∀ w ∈ u_ws C T (cN κ), w ∈ Ts) (k : Nat) (hk : k < cN κ) (hlink : (Cond.fieldLink own idx ref (T k).2.1 (T k).2.2.1).before args s = true) (hsame : ∀ x, s.fieldFound? (T k).1 (T k).2.1 (T k).2.2.1 = some x → s.fieldFound? ref (T k).2.1 (T k).2.2.1 = some x) (d : decode cc pc = .ok (.getfield idx, 3)) (ht : sT κ k = 3) (hr : cR la σ κ i k = some x) (kk : W p l e R s m args below meth c H locs cells slots Q (F0 m (pc + 3) ls (.ref x :: rest))) : W p l e R s m args below meth c H locs cells slots Q (F0 m pc ls (.ref (la κ i) :: rest)) :=
  co_getr E hC κ hκ hlv hc hin k hk hlink hsame d ht hr kk
theorem co_cast (E : cE p s m args c cc nL own Ts D cy) (hK : cK D cy d0 A s s.heap) (hC : CP D cy d0 A la σ H) (κ : Nat) {i : Int} (hκ : κ ≤ 11) (hlv : cLive la σ κ i) (hc : vwCl[cCi κ]? = some (C, T, cN κ)) (hlink : Cond.classLink own idx C ∈ Ts) (d : decode cc pc = .ok (.checkcast idx, 3)) (kk : W p l e R s m args below meth c H locs cells slots Q (F0 m (pc + 3) ls (.ref (la κ i) :: rest))) : W p l e R s m args below meth c H locs cells slots Q (F0 m pc ls (.ref (la κ i) :: rest)) := by
  obtain ⟨hSl, hfc, kC, hkC, hkind⟩ := hK.1.1 (cCi κ) _ hc
  exact va_castS E.1.1 E.1.2 E.2.2.1 (E.2.2.2.1 _ hlink) ⟨hfc, kC, hkC, hkind⟩ (cRecv hK hC hκ hlv hc) d kk
theorem co_aald {L j : Int} {x : Nat} (E : cE p s m args c cc nL own Ts D cy) (hC : CP D cy d0 A la σ H) (hL : cLive la σ 11 L) (hj : 0 ≤ j ∧ j < cSz σ L) (hn : cSz σ L < 2147483648) (hx : cEl la L j = x) (d : decode cc pc = .ok (.aaload, 1)) (kk : W p l e R s m args below meth c H locs cells slots Q (F0 m (pc + 1) ls (.ref x :: rest))) : W p l e R s m args below meth c H locs cells slots Q (F0 m pc ls (.int (iI j) :: .ref (la 18 L) :: rest)) := by
  subst hx
  obtain ⟨B, -, hown, hts, hK⟩ := E
  obtain ⟨k1, ⟨k2, -⟩ | ⟨k2, f, k3, k4⟩⟩ := hC.2.2.1 L hL
  · omega
  · have hlt : (iI j).toNatClampNeg < la 19 L := by rw [iI_clamp ⟨hj.1, by omega⟩]; omega
    have hv : va_rf (f (iI j).toNatClampNeg) = .ref (cEl la L j) := by
      rw [iI_clamp ⟨hj.1, by omega⟩, k4 j.toNat (by omega), Int.toNat_of_nonneg hj.1]
      rfl
    have hin : ¬ (iI j < 0 ∨ la 19 L ≤ (iI j).toNatClampNeg) := by
      intro q
      rcases q with q | q
      · exact absurd ((iI_lt (a := j) (b := 0) ⟨by omega, by omega⟩ (by decide)).mp q) (by omega)
      · omega
    refine W.aald (v := .ref (cEl la L j)) (ty := .object "java/lang/Object") B.1 B.2 k3 ((hK.2 3 _ rfl).1 _ _) rfl (fun q => by cases q) (by show ¬ (iI j < 0 ∨ (arrV _ _ _).slots.size ≤ _); rw [arrV_size]; exact hin) (by show (arrV _ _ _).slots[_]? = _; rw [arrV_read _ _ hlt, hv]) rfl rfl d kk
theorem cm_iret {x y : Int32} {σ' : MS} {P : Prop} {ty : FieldType} (E : cE p s m args c cc nL own Ts D cy) (hr : meth.sig.returnType = some ty) (hn : narrow ty (.int x) = .int x) (hlk : meth.locks = false) (hC : CP D cy d0 A la σ H) (hS : va_S A s.heap H locs) (d : decode cc pc = .ok (.ireturn, 1)) (hx : x = y) (hs : σ = σ') (hP : P) : W p l e R s m args below meth c H locs cells slots (MQ below (cQ D cy d0 A (fun v' la' τ => v' = some (.int y) ∧ la' = la ∧ τ = σ' ∧ P)) args s cells slots A) (F0 m pc ls [.int x]) := by
  subst hx; subst hs
  exact co_iret E hr hn hlk hC hS d ⟨rfl, rfl, rfl, hP⟩
theorem cm_lret {x y : Int64} {σ' : MS} {P : Prop} (E : cE p s m args c cc nL own Ts D cy) (hr : meth.sig.returnType = some .long) (hlk : meth.locks = false) (hC : CP D cy d0 A la σ H) (hS : va_S A s.heap H locs) (d : decode cc pc = .ok (.lreturn, 1)) (hx : x = y) (hs : σ = σ') (hP : P) : W p l e R s m args below meth c H locs cells slots (MQ below (cQ D cy d0 A (fun v' la' τ => v' = some (.long y) ∧ la' = la ∧ τ = σ' ∧ P)) args s cells slots A) (F0 m pc ls [.long x]) := by
  subst hx; subst hs
  exact co_lret E hr hlk hC hS d ⟨rfl, rfl, rfl, hP⟩
theorem cm_vret {σ' : MS} {P : Prop} (E : cE p s m args c cc nL own Ts D cy) (hr : meth.sig.returnType = none) (hlk : meth.locks = false) (hC : CP D cy d0 A la σ H) (hS : va_S A s.heap H locs) (d : decode cc pc = .ok (.return_, 1)) (hs : σ = σ') (hP : P) : W p l e R s m args below meth c H locs cells slots (MQ below (cQ D cy d0 A (fun v' la' τ => v' = none ∧ la' = la ∧ τ = σ' ∧ P)) args s cells slots A) (F0 m pc ls []) := by
  subst hs
  exact co_vret E hr hlk hC hS d ⟨rfl, rfl, rfl, hP⟩
theorem co_aret {x : Nat} {P : Option Value → (Nat → Int → Nat) → MS → Prop} {ty : FieldType} (E : cE p s m args c cc nL own Ts D cy) (hr : meth.sig.returnType = some ty) (hty : (∃ n, ty = .object n) ∨ ∃ t, ty = .array t) (hlk : meth.locks = false) (hC : CP D cy d0 A la σ H) (hS : va_S A s.heap H locs) (d : decode cc pc = .ok (.areturn, 1)) (hP : P (some (.ref x)) la σ) : W p l e R s m args below meth c H locs cells slots (MQ below (cQ D cy d0 A P) args s cells slots A) (F0 m pc ls [.ref x]) :=
  W.aret E.1.1 E.1.2 hr hty (Or.inr ⟨x, rfl⟩) (fun t ht hW => ⟨⟨_, _, _, rfl, hP, by rw [ht]; exact hC⟩, hS.F ht⟩) hS.2.2 d hlk
theorem co_aretN {P : Option Value → (Nat → Int → Nat) → MS → Prop} {ty : FieldType} (E : cE p s m args c cc nL own Ts D cy) (hr : meth.sig.returnType = some ty) (hty : (∃ n, ty = .object n) ∨ ∃ t, ty = .array t) (hlk : meth.locks = false) (hC : CP D cy d0 A la σ H) (hS : va_S A s.heap H locs) (d : decode cc pc = .ok (.areturn, 1)) (hP : P (some .null) la σ) : W p l e R s m args below meth c H locs cells slots (MQ below (cQ D cy d0 A P) args s cells slots A) (F0 m pc ls [.null]) :=
  W.aret E.1.1 E.1.2 hr hty (Or.inl rfl) (fun t ht hW => ⟨⟨_, _, _, rfl, hP, by rw [ht]; exact hC⟩, hS.F ht⟩) hS.2.2 d hlk
end CR3
