section MI0
def MI (D : va_G) (cy : Nat → ClassId) (o n0 k : Nat) (ad : Nat → Nat) (H : Heap) : Prop :=
  t_OB o (D.1 12) 48 (D.2 12) H (fun j => if j < k then mV ad (fun _ _ => 0) j else defaultValue (tyX11 j)) ∧ (∀ j, j < k → mKd j ≠ 0 → H[ad j]? = some (arrV (cy (mKd j)) (mLn j) (mRw (fun _ _ => 0) j)) ∧ n0 ≤ ad j) ∧ ∀ j j', j < k → j' < k → mKd j ≠ 0 → mKd j' ≠ 0 → ad j = ad j' → j = j'
theorem mi_skip {D : va_G} {cy : Nat → ClassId} {o n0 k : Nat} {ad : Nat → Nat} {H : Heap} (h0 : mKd k = 0) (hd : defaultValue (tyX11 k) = .int 0) (hI : MI D cy o n0 k ad H) : MI D cy o n0 (k + 1) ad H := by
  obtain ⟨a, b, c⟩ := hI
  refine ⟨a.to (fun j hj => ?_), fun j hj hm => b j ?_ hm, fun j j' hj hj' hm hm' e => c j j' ?_ ?_ hm hm' e⟩
  · by_cases hjk : j = k
    · subst hjk
      rw [if_neg (by omega), if_pos (by omega), hd]
      unfold mV
      rw [if_pos h0]
      rfl
    · by_cases hj2 : j < k
      · rw [if_pos hj2, if_pos (by omega)]
      · rw [if_neg hj2, if_neg (by omega)]
  · have : j ≠ k := fun q => hm (q ▸ h0)
    omega
  · have : j ≠ k := fun q => hm (q ▸ h0)
    omega
  · have : j' ≠ k := fun q => hm' (q ▸ h0)
    omega
theorem mi_step {D : va_G} {cy : Nat → ClassId} {o n0 k : Nat} {ad : Nat → Nat} {H H1 H2 : Heap} (h0 : mKd k ≠ 0) (hI : MI D cy o n0 k ad H) (hc : H1[H.size]? = some (arrV (cy (mKd k)) (mLn k) (mRw (fun _ _ => 0) k))) (h1 : ∀ q, q < H.size → H1[q]? = H[q]?) (hO : t_OB o (D.1 12) 48 (D.2 12) H2 (updV (fun j => if j < k then mV ad (fun _ _ => 0) j else defaultValue (tyX11 j)) k (.ref H.size))) (h2 : ∀ q, q ≠ o → H2[q]? = H1[q]?) (ho : o < n0) (hn : n0 ≤ H.size) : MI D cy o n0 (k + 1) (fun j => if j = k then H.size else ad j) H2 := by
  obtain ⟨a, b, c⟩ := hI
  have hlt : ∀ j, j < k → mKd j ≠ 0 → ad j < H.size := fun j hj hm => (Array.getElem?_eq_some_iff.mp (b j hj hm).1).1
  refine ⟨hO.to (fun j hj => ?_), fun j hj hm => ?_, fun j j' hj hj' hm hm' e => ?_⟩
  · by_cases hjk : j = k
    · subst hjk
      simp only [updV, if_true]
      rw [if_pos (by omega)]
      unfold mV
      rw [if_neg h0]
      show _ = Value.ref (if j = j then H.size else ad j)
      rw [if_pos rfl]
    · simp only [updV, if_neg hjk]
      by_cases hj2 : j < k
      · rw [if_pos hj2, if_pos (by omega)]
        unfold mV
        show _ = if mKd j = 0 then _ else Value.ref (if j = k then H.size else ad j)
        rw [if_neg hjk]
      · rw [if_neg hj2, if_neg (by omega)]
  · by_cases hjk : j = k
    · subst hjk
      simp only [if_true]
      exact ⟨(h2 _ (by omega)).trans hc, hn⟩
    · simp only [if_neg hjk]
      have hj2 : j < k := by omega
      have b1 := b j hj2 hm
      exact ⟨(h2 _ (by omega)).trans ((h1 _ (hlt j hj2 hm)).trans b1.1), b1.2⟩
  · by_cases hjk : j = k
    · by_cases hjk' : j' = k
      · omega
      · simp only [if_pos hjk, if_neg hjk'] at e
        have := hlt j' (by omega) hm'
        omega
    · by_cases hjk' : j' = k
      · simp only [if_pos hjk', if_neg hjk] at e
        have := hlt j (by omega) hm
        omega
      · simp only [if_neg hjk', if_neg hjk] at e
        exact c j j' (by omega) (by omega) hm hm' e
theorem mi_end {D : va_G} {cy : Nat → ClassId} {o n0 : Nat} {ad : Nat → Nat} {H : Heap} (ho : o < n0) (hI : MI D cy o n0 48 ad H) : MP D cy o ad (fun _ _ => 0) H := by
  obtain ⟨a, b, c⟩ := hI
  refine ⟨a.to (fun j hj => if_pos hj), fun k hk h0 => (b k hk h0).1, ⟨fun k hk h0 e => ?_, fun k k' hk hk' h0 h0' e => c k k' hk hk' h0 h0' e⟩, fun k j _ => ⟨(by decide : (-2147483648 : Int) ≤ 0), (by decide : (0 : Int) < 2147483648)⟩, fun k j _ => Or.inl rfl⟩
  have := (b k hk h0).2
  omega
end MI0
section OB3
variable {p : Program} {l : Launch} {e : Env} {R : Room} {s : State} {m : MethodId} {args : Array Value} {below : List Frame} {meth : Method} {c : Code} {H : Heap} {locs : List Loc} {cells slots : Nat} {Q : State → Prop}
variable {cc : ByteArray} {pc : Nat} {ls : Array Slot} {rest st : List Value} {nL : Nat} {lv : List (Nat × Value)} {Ts : List Cond} {D : va_G} {cy : Nat → ClassId} {d0 : Nat} {A : Nat → Prop} {idx : Nat} {own ref C : String} {T : u_T}
theorem ob_newb {atype : ArrayType} {n : Int} {t0 : Nat} {ty : FieldType} {cA0 : ClassId} (E : cE p s m args c cc nL own Ts D cy) (hS : va_S A s.heap H locs) (harr : (Cond.arrayClass (newarray.typeOf atype)).before args s = true) (hty : newarray.typeOf atype = ty) (htys : (cty cy)[t0]? = some (cA0, ty)) (hnm : ty = .int ∨ ty = .boolean ∨ ty = .long) (hn : 0 ≤ n ∧ n ≤ 10000) (hcells : cells + 1 ≤ R.cells) (hslots : slots + n.toNat ≤ R.slots) (d : decode cc pc = .ok (.newarray atype, 2))
    (kk : ∀ H1 : Heap, H1[H.size]? = some (arrV cA0 n.toNat (fun _ => defaultValue ty)) → (∀ q, q < H.size → H1[q]? = H[q]?) → H1.size = H.size + 1 → va_S A s.heap H1 locs → W p l e R s m args below meth c H1 locs (cells + 1) (slots + n.toNat) Q (F0 m (pc + 2) ls (.ref H.size :: rest))) : W p l e R s m args below meth c H locs cells slots Q (F0 m pc ls (.int (iI n) :: rest)) := by
  subst hty
  obtain ⟨B, -, hown, hts, hK⟩ := E
  have hcl : (iI n).toNatClampNeg = n.toNat := iI_clamp ⟨hn.1, by omega⟩
  refine va_newaK B.1 B.2 harr rfl d rfl (fun q => absurd ((iI_lt (a := n) (b := 0) ⟨by omega, by omega⟩ (by decide)).mp q) (by omega)) hcl (by rcases hnm with h | h | h <;> rw [h] <;> (show n.toNat * _ ≤ 536870912) <;> simp [componentBytes] <;> omega) hcells hslots rfl fun H1 cA e1 z1 o1 hAr hNm => ?_
  have hra := (hK.2 t0 _ htys).2
  have he : cA = cA0 := by
    rcases hnm with h | h | h <;> (rw [h] at hra hNm; exact Option.some.inj (hNm.symm.trans hra))
  subst he
  exact kk H1 e1 o1 z1 ⟨Nat.le_trans hS.1 (by omega), fun x h1 h2 => (o1 x (Nat.lt_of_lt_of_le h1 hS.1)).trans (hS.2.1 x h1 h2), hS.2.2⟩
end OB3
set_option maxHeartbeats 4000000 in
set_option maxRecDepth 100000 in
theorem k_Ref (l : Launch) (D : va_G) (cy : Nat → ClassId) (d0 : Nat) (A : Nat → Prop) {q : Nat} (hAq : A q) : CB l yX11_init wsX11_init ({ frames := 1, cells := 39, slots := 18735, locals := 40 } : Room) D cy d0 A [.ref q] (fun H => t_OB q (D.1 12) 48 (D.2 12) H (fun k => defaultValue (tyX11 k))) (fun v H0 H1 => v = none ∧ ∃ ad : Nat → Nat, (∀ k, k < 48 → mKd k ≠ 0 → H0.size ≤ ad k) ∧ MP D cy q ad (fun _ _ => 0) H1) 39 18735 := by
  refine cb_of (cc := cX11_init) (nL := 1) (ret := none) (by decide) rfl (Nat.le_of_ble_eq_true rfl) ?_
  intro p e s m args below meth c ls E hr hlk hini hK hPre hS hl
  have B := E.1
  have hml := E.2.1
  have hown := E.2.2.1
  have hts0 := E.2.2.2.1
  have hts := E.2.2.2.1
  have hA := hK.2.2.2.2.2.2.1
  have hO := hPre
  have hq0 := hO.lt
  have hin : ∀ w ∈ u_ws RX11 TX11 48, w ∈ wsX11_init := fun z h => List.mem_cons_of_mem _ (List.mem_append_right _ h)
  refine x_aload_n B hl dX11_init_0 rfl ?_
  refine W.objInit B.1 B.2 hown (hts (.methodLink RX11 1 objectInit) (by decide +kernel)) (hts (.instanceMethod objectInit) (by decide +kernel)) (hts (.code objectInit ⟨#[0xb1]⟩ 1 none) (by decide +kernel)) rfl (hl.1.trans hml.symm) rfl dX11_init_1 (Nat.le_of_ble_eq_true rfl) (Nat.le_of_ble_eq_true rfl) ?_
  refine W.eq (g2 := F0 m 4 ls []) rfl ?_
  have hI : MI D cy q s.heap.size 0 (fun _ => 0) s.heap := ⟨hO.to (fun j _ => (if_neg (Nat.not_lt_zero j)).symm), fun j hj => absurd hj (Nat.not_lt_zero j), fun j _ hj => absurd hj (Nat.not_lt_zero j)⟩
  have hz : s.heap.size ≤ s.heap.size := Nat.le_refl _
  have hI := mi_skip (k := 0) rfl rfl hI
  have hI := mi_skip (k := 1) rfl rfl hI
  refine x_aload_n B hl dX11_init_4 rfl ?_
  refine x_sipush B dX11_init_5 (by decide) ?_
  refine ob_newb (atype := .boolean) (n := 700) (t0 := 1) (ty := .boolean) (cA0 := (cy 2)) E hS (hts (.arrayClass .boolean) (by decide +kernel)) rfl rfl (by simp) (by decide) (Nat.le_of_ble_eq_true rfl) (Nat.le_of_ble_eq_true rfl) dX11_init_8 (fun H2a n9 o9 z9 hS => ?_)
  refine ob_putF (ci := 12) (C := RX11) (T := TX11) (N := 48) (ty := .array .boolean) E (hI.1.kept (o9 _ hI.1.lt)) hS hAq rfl hin tyX11_ok nmX11 2 (by decide) (hts (.fieldLink RX11 9 "BinRoundsModel" "holidays" "[Z") (by decide +kernel)) (fun x hx => hx) rfl hini rfl rfl rfl rfl dX11_init_10 (fun H2b locs hO9 ok9 sz9 hS => ?_)
  have hI := mi_step (k := 2) (by decide) hI n9 o9 hO9 ok9 hq0 hz
  have hz : s.heap.size ≤ H2b.size := by omega
  clear n9 o9 hO9 ok9
  refine x_aload_n B hl dX11_init_13 rfl ?_
  refine x_bipush B dX11_init_14 (by decide) ?_
  refine ob_newb (atype := .int) (n := 30) (t0 := 0) (ty := .int) (cA0 := (cy 1)) E hS (hts (.arrayClass .int) (by decide +kernel)) rfl rfl (by simp) (by decide) (Nat.le_of_ble_eq_true rfl) (Nat.le_of_ble_eq_true rfl) dX11_init_16 (fun H3a n9 o9 z9 hS => ?_)
  refine ob_putF (ci := 12) (C := RX11) (T := TX11) (N := 48) (ty := .array .int) E (hI.1.kept (o9 _ hI.1.lt)) hS hAq rfl hin tyX11_ok nmX11 3 (by decide) (hts (.fieldLink RX11 13 "BinRoundsModel" "weekdays" "[I") (by decide +kernel)) (fun x hx => hx) rfl hini rfl rfl rfl rfl dX11_init_18 (fun H3b locs hO9 ok9 sz9 hS => ?_)
  have hI := mi_step (k := 3) (by decide) hI n9 o9 hO9 ok9 hq0 hz
  have hz : s.heap.size ≤ H3b.size := by omega
  clear n9 o9 hO9 ok9
  refine x_aload_n B hl dX11_init_21 rfl ?_
  refine x_bipush B dX11_init_22 (by decide) ?_
  refine ob_newb (atype := .int) (n := 30) (t0 := 0) (ty := .int) (cA0 := (cy 1)) E hS (hts (.arrayClass .int) (by decide +kernel)) rfl rfl (by simp) (by decide) (Nat.le_of_ble_eq_true rfl) (Nat.le_of_ble_eq_true rfl) dX11_init_24 (fun H4a n9 o9 z9 hS => ?_)
  refine ob_putF (ci := 12) (C := RX11) (T := TX11) (N := 48) (ty := .array .int) E (hI.1.kept (o9 _ hI.1.lt)) hS hAq rfl hin tyX11_ok nmX11 4 (by decide) (hts (.fieldLink RX11 17 "BinRoundsModel" "weeksOf" "[I") (by decide +kernel)) (fun x hx => hx) rfl hini rfl rfl rfl rfl dX11_init_26 (fun H4b locs hO9 ok9 sz9 hS => ?_)
  have hI := mi_step (k := 4) (by decide) hI n9 o9 hO9 ok9 hq0 hz
  have hz : s.heap.size ≤ H4b.size := by omega
  clear n9 o9 hO9 ok9
  have hI := mi_skip (k := 5) rfl rfl hI
  refine x_aload_n B hl dX11_init_29 rfl ?_
  refine x_bipush B dX11_init_30 (by decide) ?_
  refine ob_newb (atype := .int) (n := 60) (t0 := 0) (ty := .int) (cA0 := (cy 1)) E hS (hts (.arrayClass .int) (by decide +kernel)) rfl rfl (by simp) (by decide) (Nat.le_of_ble_eq_true rfl) (Nat.le_of_ble_eq_true rfl) dX11_init_32 (fun H6a n9 o9 z9 hS => ?_)
  refine ob_putF (ci := 12) (C := RX11) (T := TX11) (N := 48) (ty := .array .int) E (hI.1.kept (o9 _ hI.1.lt)) hS hAq rfl hin tyX11_ok nmX11 6 (by decide) (hts (.fieldLink RX11 20 "BinRoundsModel" "streetOf" "[I") (by decide +kernel)) (fun x hx => hx) rfl hini rfl rfl rfl rfl dX11_init_34 (fun H6b locs hO9 ok9 sz9 hS => ?_)
  have hI := mi_step (k := 6) (by decide) hI n9 o9 hO9 ok9 hq0 hz
  have hz : s.heap.size ≤ H6b.size := by omega
  clear n9 o9 hO9 ok9
  refine x_aload_n B hl dX11_init_37 rfl ?_
  refine x_bipush B dX11_init_38 (by decide) ?_
  refine ob_newb (atype := .int) (n := 60) (t0 := 0) (ty := .int) (cA0 := (cy 1)) E hS (hts (.arrayClass .int) (by decide +kernel)) rfl rfl (by simp) (by decide) (Nat.le_of_ble_eq_true rfl) (Nat.le_of_ble_eq_true rfl) dX11_init_40 (fun H7a n9 o9 z9 hS => ?_)
  refine ob_putF (ci := 12) (C := RX11) (T := TX11) (N := 48) (ty := .array .int) E (hI.1.kept (o9 _ hI.1.lt)) hS hAq rfl hin tyX11_ok nmX11 7 (by decide) (hts (.fieldLink RX11 23 "BinRoundsModel" "bands" "[I") (by decide +kernel)) (fun x hx => hx) rfl hini rfl rfl rfl rfl dX11_init_42 (fun H7b locs hO9 ok9 sz9 hS => ?_)
  have hI := mi_step (k := 7) (by decide) hI n9 o9 hO9 ok9 hq0 hz
  have hz : s.heap.size ≤ H7b.size := by omega
  clear n9 o9 hO9 ok9
  refine x_aload_n B hl dX11_init_45 rfl ?_
  refine x_bipush B dX11_init_46 (by decide) ?_
  refine ob_newb (atype := .long) (n := 60) (t0 := 2) (ty := .long) (cA0 := (cy 3)) E hS (hts (.arrayClass .long) (by decide +kernel)) rfl rfl (by simp) (by decide) (Nat.le_of_ble_eq_true rfl) (Nat.le_of_ble_eq_true rfl) dX11_init_48 (fun H8a n9 o9 z9 hS => ?_)
  refine ob_putF (ci := 12) (C := RX11) (T := TX11) (N := 48) (ty := .array .long) E (hI.1.kept (o9 _ hI.1.lt)) hS hAq rfl hin tyX11_ok nmX11 8 (by decide) (hts (.fieldLink RX11 26 "BinRoundsModel" "bandCost" "[J") (by decide +kernel)) (fun x hx => hx) rfl hini rfl rfl rfl rfl dX11_init_50 (fun H8b locs hO9 ok9 sz9 hS => ?_)
  have hI := mi_step (k := 8) (by decide) hI n9 o9 hO9 ok9 hq0 hz
  have hz : s.heap.size ≤ H8b.size := by omega
  clear n9 o9 hO9 ok9
  refine x_aload_n B hl dX11_init_53 rfl ?_
  refine x_bipush B dX11_init_54 (by decide) ?_
  refine ob_newb (atype := .long) (n := 60) (t0 := 2) (ty := .long) (cA0 := (cy 3)) E hS (hts (.arrayClass .long) (by decide +kernel)) rfl rfl (by simp) (by decide) (Nat.le_of_ble_eq_true rfl) (Nat.le_of_ble_eq_true rfl) dX11_init_56 (fun H9a n9 o9 z9 hS => ?_)
  refine ob_putF (ci := 12) (C := RX11) (T := TX11) (N := 48) (ty := .array .long) E (hI.1.kept (o9 _ hI.1.lt)) hS hAq rfl hin tyX11_ok nmX11 9 (by decide) (hts (.fieldLink RX11 30 "BinRoundsModel" "billed" "[J") (by decide +kernel)) (fun x hx => hx) rfl hini rfl rfl rfl rfl dX11_init_58 (fun H9b locs hO9 ok9 sz9 hS => ?_)
  have hI := mi_step (k := 9) (by decide) hI n9 o9 hO9 ok9 hq0 hz
  have hz : s.heap.size ≤ H9b.size := by omega
  clear n9 o9 hO9 ok9
  refine x_aload_n B hl dX11_init_61 rfl ?_
  refine x_bipush B dX11_init_62 (by decide) ?_
  refine ob_newb (atype := .long) (n := 60) (t0 := 2) (ty := .long) (cA0 := (cy 3)) E hS (hts (.arrayClass .long) (by decide +kernel)) rfl rfl (by simp) (by decide) (Nat.le_of_ble_eq_true rfl) (Nat.le_of_ble_eq_true rfl) dX11_init_64 (fun H10a n9 o9 z9 hS => ?_)
  refine ob_putF (ci := 12) (C := RX11) (T := TX11) (N := 48) (ty := .array .long) E (hI.1.kept (o9 _ hI.1.lt)) hS hAq rfl hin tyX11_ok nmX11 10 (by decide) (hts (.fieldLink RX11 33 "BinRoundsModel" "paidBy" "[J") (by decide +kernel)) (fun x hx => hx) rfl hini rfl rfl rfl rfl dX11_init_66 (fun H10b locs hO9 ok9 sz9 hS => ?_)
  have hI := mi_step (k := 10) (by decide) hI n9 o9 hO9 ok9 hq0 hz
  have hz : s.heap.size ≤ H10b.size := by omega
  clear n9 o9 hO9 ok9
  have hI := mi_skip (k := 11) rfl rfl hI
  refine x_aload_n B hl dX11_init_69 rfl ?_
  refine x_bipush B dX11_init_70 (by decide) ?_
  refine ob_newb (atype := .int) (n := 120) (t0 := 0) (ty := .int) (cA0 := (cy 1)) E hS (hts (.arrayClass .int) (by decide +kernel)) rfl rfl (by simp) (by decide) (Nat.le_of_ble_eq_true rfl) (Nat.le_of_ble_eq_true rfl) dX11_init_72 (fun H12a n9 o9 z9 hS => ?_)
  refine ob_putF (ci := 12) (C := RX11) (T := TX11) (N := 48) (ty := .array .int) E (hI.1.kept (o9 _ hI.1.lt)) hS hAq rfl hin tyX11_ok nmX11 12 (by decide) (hts (.fieldLink RX11 36 "BinRoundsModel" "kind" "[I") (by decide +kernel)) (fun x hx => hx) rfl hini rfl rfl rfl rfl dX11_init_74 (fun H12b locs hO9 ok9 sz9 hS => ?_)
  have hI := mi_step (k := 12) (by decide) hI n9 o9 hO9 ok9 hq0 hz
  have hz : s.heap.size ≤ H12b.size := by omega
  clear n9 o9 hO9 ok9
  refine x_aload_n B hl dX11_init_77 rfl ?_
  refine x_bipush B dX11_init_78 (by decide) ?_
  refine ob_newb (atype := .boolean) (n := 120) (t0 := 1) (ty := .boolean) (cA0 := (cy 2)) E hS (hts (.arrayClass .boolean) (by decide +kernel)) rfl rfl (by simp) (by decide) (Nat.le_of_ble_eq_true rfl) (Nat.le_of_ble_eq_true rfl) dX11_init_80 (fun H13a n9 o9 z9 hS => ?_)
  refine ob_putF (ci := 12) (C := RX11) (T := TX11) (N := 48) (ty := .array .boolean) E (hI.1.kept (o9 _ hI.1.lt)) hS hAq rfl hin tyX11_ok nmX11 13 (by decide) (hts (.fieldLink RX11 39 "BinRoundsModel" "bears" "[Z") (by decide +kernel)) (fun x hx => hx) rfl hini rfl rfl rfl rfl dX11_init_82 (fun H13b locs hO9 ok9 sz9 hS => ?_)
  have hI := mi_step (k := 13) (by decide) hI n9 o9 hO9 ok9 hq0 hz
  have hz : s.heap.size ≤ H13b.size := by omega
  clear n9 o9 hO9 ok9
  refine x_aload_n B hl dX11_init_85 rfl ?_
  refine x_bipush B dX11_init_86 (by decide) ?_
  refine ob_newb (atype := .int) (n := 120) (t0 := 0) (ty := .int) (cA0 := (cy 1)) E hS (hts (.arrayClass .int) (by decide +kernel)) rfl rfl (by simp) (by decide) (Nat.le_of_ble_eq_true rfl) (Nat.le_of_ble_eq_true rfl) dX11_init_88 (fun H14a n9 o9 z9 hS => ?_)
  refine ob_putF (ci := 12) (C := RX11) (T := TX11) (N := 48) (ty := .array .int) E (hI.1.kept (o9 _ hI.1.lt)) hS hAq rfl hin tyX11_ok nmX11 14 (by decide) (hts (.fieldLink RX11 42 "BinRoundsModel" "markOf" "[I") (by decide +kernel)) (fun x hx => hx) rfl hini rfl rfl rfl rfl dX11_init_90 (fun H14b locs hO9 ok9 sz9 hS => ?_)
  have hI := mi_step (k := 14) (by decide) hI n9 o9 hO9 ok9 hq0 hz
  have hz : s.heap.size ≤ H14b.size := by omega
  clear n9 o9 hO9 ok9
  refine x_aload_n B hl dX11_init_93 rfl ?_
  refine x_bipush B dX11_init_94 (by decide) ?_
  refine ob_newb (atype := .int) (n := 120) (t0 := 0) (ty := .int) (cA0 := (cy 1)) E hS (hts (.arrayClass .int) (by decide +kernel)) rfl rfl (by simp) (by decide) (Nat.le_of_ble_eq_true rfl) (Nat.le_of_ble_eq_true rfl) dX11_init_96 (fun H15a n9 o9 z9 hS => ?_)
  refine ob_putF (ci := 12) (C := RX11) (T := TX11) (N := 48) (ty := .array .int) E (hI.1.kept (o9 _ hI.1.lt)) hS hAq rfl hin tyX11_ok nmX11 15 (by decide) (hts (.fieldLink RX11 45 "BinRoundsModel" "wrongs" "[I") (by decide +kernel)) (fun x hx => hx) rfl hini rfl rfl rfl rfl dX11_init_98 (fun H15b locs hO9 ok9 sz9 hS => ?_)
  have hI := mi_step (k := 15) (by decide) hI n9 o9 hO9 ok9 hq0 hz
  have hz : s.heap.size ≤ H15b.size := by omega
  clear n9 o9 hO9 ok9
  refine x_aload_n B hl dX11_init_101 rfl ?_
  refine x_sipush B dX11_init_102 (by decide) ?_
  refine ob_newb (atype := .int) (n := 960) (t0 := 0) (ty := .int) (cA0 := (cy 1)) E hS (hts (.arrayClass .int) (by decide +kernel)) rfl rfl (by simp) (by decide) (Nat.le_of_ble_eq_true rfl) (Nat.le_of_ble_eq_true rfl) dX11_init_105 (fun H16a n9 o9 z9 hS => ?_)
  refine ob_putF (ci := 12) (C := RX11) (T := TX11) (N := 48) (ty := .array .int) E (hI.1.kept (o9 _ hI.1.lt)) hS hAq rfl hin tyX11_ok nmX11 16 (by decide) (hts (.fieldLink RX11 48 "BinRoundsModel" "moveHouse" "[I") (by decide +kernel)) (fun x hx => hx) rfl hini rfl rfl rfl rfl dX11_init_107 (fun H16b locs hO9 ok9 sz9 hS => ?_)
  have hI := mi_step (k := 16) (by decide) hI n9 o9 hO9 ok9 hq0 hz
  have hz : s.heap.size ≤ H16b.size := by omega
  clear n9 o9 hO9 ok9
  refine x_aload_n B hl dX11_init_110 rfl ?_
  refine x_sipush B dX11_init_111 (by decide) ?_
  refine ob_newb (atype := .int) (n := 960) (t0 := 0) (ty := .int) (cA0 := (cy 1)) E hS (hts (.arrayClass .int) (by decide +kernel)) rfl rfl (by simp) (by decide) (Nat.le_of_ble_eq_true rfl) (Nat.le_of_ble_eq_true rfl) dX11_init_114 (fun H17a n9 o9 z9 hS => ?_)
  refine ob_putF (ci := 12) (C := RX11) (T := TX11) (N := 48) (ty := .array .int) E (hI.1.kept (o9 _ hI.1.lt)) hS hAq rfl hin tyX11_ok nmX11 17 (by decide) (hts (.fieldLink RX11 51 "BinRoundsModel" "moveDay" "[I") (by decide +kernel)) (fun x hx => hx) rfl hini rfl rfl rfl rfl dX11_init_116 (fun H17b locs hO9 ok9 sz9 hS => ?_)
  have hI := mi_step (k := 17) (by decide) hI n9 o9 hO9 ok9 hq0 hz
  have hz : s.heap.size ≤ H17b.size := by omega
  clear n9 o9 hO9 ok9
  refine x_aload_n B hl dX11_init_119 rfl ?_
  refine x_bipush B dX11_init_120 (by decide) ?_
  refine ob_newb (atype := .int) (n := 120) (t0 := 0) (ty := .int) (cA0 := (cy 1)) E hS (hts (.arrayClass .int) (by decide +kernel)) rfl rfl (by simp) (by decide) (Nat.le_of_ble_eq_true rfl) (Nat.le_of_ble_eq_true rfl) dX11_init_122 (fun H18a n9 o9 z9 hS => ?_)
  refine ob_putF (ci := 12) (C := RX11) (T := TX11) (N := 48) (ty := .array .int) E (hI.1.kept (o9 _ hI.1.lt)) hS hAq rfl hin tyX11_ok nmX11 18 (by decide) (hts (.fieldLink RX11 54 "BinRoundsModel" "moves" "[I") (by decide +kernel)) (fun x hx => hx) rfl hini rfl rfl rfl rfl dX11_init_124 (fun H18b locs hO9 ok9 sz9 hS => ?_)
  have hI := mi_step (k := 18) (by decide) hI n9 o9 hO9 ok9 hq0 hz
  have hz : s.heap.size ≤ H18b.size := by omega
  clear n9 o9 hO9 ok9
  refine x_aload_n B hl dX11_init_127 rfl ?_
  refine x_sipush B dX11_init_128 (by decide) ?_
  refine ob_newb (atype := .int) (n := 2400) (t0 := 0) (ty := .int) (cA0 := (cy 1)) E hS (hts (.arrayClass .int) (by decide +kernel)) rfl rfl (by simp) (by decide) (Nat.le_of_ble_eq_true rfl) (Nat.le_of_ble_eq_true rfl) dX11_init_131 (fun H19a n9 o9 z9 hS => ?_)
  refine ob_putF (ci := 12) (C := RX11) (T := TX11) (N := 48) (ty := .array .int) E (hI.1.kept (o9 _ hI.1.lt)) hS hAq rfl hin tyX11_ok nmX11 19 (by decide) (hts (.fieldLink RX11 57 "BinRoundsModel" "partHouse" "[I") (by decide +kernel)) (fun x hx => hx) rfl hini rfl rfl rfl rfl dX11_init_133 (fun H19b locs hO9 ok9 sz9 hS => ?_)
  have hI := mi_step (k := 19) (by decide) hI n9 o9 hO9 ok9 hq0 hz
  have hz : s.heap.size ≤ H19b.size := by omega
  clear n9 o9 hO9 ok9
  refine x_aload_n B hl dX11_init_136 rfl ?_
  refine x_sipush B dX11_init_137 (by decide) ?_
  refine ob_newb (atype := .int) (n := 2400) (t0 := 0) (ty := .int) (cA0 := (cy 1)) E hS (hts (.arrayClass .int) (by decide +kernel)) rfl rfl (by simp) (by decide) (Nat.le_of_ble_eq_true rfl) (Nat.le_of_ble_eq_true rfl) dX11_init_140 (fun H20a n9 o9 z9 hS => ?_)
  refine ob_putF (ci := 12) (C := RX11) (T := TX11) (N := 48) (ty := .array .int) E (hI.1.kept (o9 _ hI.1.lt)) hS hAq rfl hin tyX11_ok nmX11 20 (by decide) (hts (.fieldLink RX11 60 "BinRoundsModel" "partWeight" "[I") (by decide +kernel)) (fun x hx => hx) rfl hini rfl rfl rfl rfl dX11_init_142 (fun H20b locs hO9 ok9 sz9 hS => ?_)
  have hI := mi_step (k := 20) (by decide) hI n9 o9 hO9 ok9 hq0 hz
  have hz : s.heap.size ≤ H20b.size := by omega
  clear n9 o9 hO9 ok9
  refine x_aload_n B hl dX11_init_145 rfl ?_
  refine x_sipush B dX11_init_146 (by decide) ?_
  refine ob_newb (atype := .int) (n := 2400) (t0 := 0) (ty := .int) (cA0 := (cy 1)) E hS (hts (.arrayClass .int) (by decide +kernel)) rfl rfl (by simp) (by decide) (Nat.le_of_ble_eq_true rfl) (Nat.le_of_ble_eq_true rfl) dX11_init_149 (fun H21a n9 o9 z9 hS => ?_)
  refine ob_putF (ci := 12) (C := RX11) (T := TX11) (N := 48) (ty := .array .int) E (hI.1.kept (o9 _ hI.1.lt)) hS hAq rfl hin tyX11_ok nmX11 21 (by decide) (hts (.fieldLink RX11 63 "BinRoundsModel" "partDay" "[I") (by decide +kernel)) (fun x hx => hx) rfl hini rfl rfl rfl rfl dX11_init_151 (fun H21b locs hO9 ok9 sz9 hS => ?_)
  have hI := mi_step (k := 21) (by decide) hI n9 o9 hO9 ok9 hq0 hz
  have hz : s.heap.size ≤ H21b.size := by omega
  clear n9 o9 hO9 ok9
  refine x_aload_n B hl dX11_init_154 rfl ?_
  refine x_bipush B dX11_init_155 (by decide) ?_
  refine ob_newb (atype := .int) (n := 120) (t0 := 0) (ty := .int) (cA0 := (cy 1)) E hS (hts (.arrayClass .int) (by decide +kernel)) rfl rfl (by simp) (by decide) (Nat.le_of_ble_eq_true rfl) (Nat.le_of_ble_eq_true rfl) dX11_init_157 (fun H22a n9 o9 z9 hS => ?_)
  refine ob_putF (ci := 12) (C := RX11) (T := TX11) (N := 48) (ty := .array .int) E (hI.1.kept (o9 _ hI.1.lt)) hS hAq rfl hin tyX11_ok nmX11 22 (by decide) (hts (.fieldLink RX11 66 "BinRoundsModel" "parts" "[I") (by decide +kernel)) (fun x hx => hx) rfl hini rfl rfl rfl rfl dX11_init_159 (fun H22b locs hO9 ok9 sz9 hS => ?_)
  have hI := mi_step (k := 22) (by decide) hI n9 o9 hO9 ok9 hq0 hz
  have hz : s.heap.size ≤ H22b.size := by omega
  clear n9 o9 hO9 ok9
  have hI := mi_skip (k := 23) rfl rfl hI
  refine x_aload_n B hl dX11_init_162 rfl ?_
  refine x_iconst B dX11_init_163 ?_
  refine ob_newb (atype := .int) (n := 5) (t0 := 0) (ty := .int) (cA0 := (cy 1)) E hS (hts (.arrayClass .int) (by decide +kernel)) rfl rfl (by simp) (by decide) (Nat.le_of_ble_eq_true rfl) (Nat.le_of_ble_eq_true rfl) dX11_init_164 (fun H24a n9 o9 z9 hS => ?_)
  refine ob_putF (ci := 12) (C := RX11) (T := TX11) (N := 48) (ty := .array .int) E (hI.1.kept (o9 _ hI.1.lt)) hS hAq rfl hin tyX11_ok nmX11 24 (by decide) (hts (.fieldLink RX11 69 "BinRoundsModel" "limits" "[I") (by decide +kernel)) (fun x hx => hx) rfl hini rfl rfl rfl rfl dX11_init_166 (fun H24b locs hO9 ok9 sz9 hS => ?_)
  have hI := mi_step (k := 24) (by decide) hI n9 o9 hO9 ok9 hq0 hz
  have hz : s.heap.size ≤ H24b.size := by omega
  clear n9 o9 hO9 ok9
  refine x_aload_n B hl dX11_init_169 rfl ?_
  refine x_iconst B dX11_init_170 ?_
  refine ob_newb (atype := .int) (n := 5) (t0 := 0) (ty := .int) (cA0 := (cy 1)) E hS (hts (.arrayClass .int) (by decide +kernel)) rfl rfl (by simp) (by decide) (Nat.le_of_ble_eq_true rfl) (Nat.le_of_ble_eq_true rfl) dX11_init_171 (fun H25a n9 o9 z9 hS => ?_)
  refine ob_putF (ci := 12) (C := RX11) (T := TX11) (N := 48) (ty := .array .int) E (hI.1.kept (o9 _ hI.1.lt)) hS hAq rfl hin tyX11_ok nmX11 25 (by decide) (hts (.fieldLink RX11 72 "BinRoundsModel" "carry" "[I") (by decide +kernel)) (fun x hx => hx) rfl hini rfl rfl rfl rfl dX11_init_173 (fun H25b locs hO9 ok9 sz9 hS => ?_)
  have hI := mi_step (k := 25) (by decide) hI n9 o9 hO9 ok9 hq0 hz
  have hz : s.heap.size ≤ H25b.size := by omega
  clear n9 o9 hO9 ok9
  refine x_aload_n B hl dX11_init_176 rfl ?_
  refine x_iconst B dX11_init_177 ?_
  refine ob_newb (atype := .int) (n := 5) (t0 := 0) (ty := .int) (cA0 := (cy 1)) E hS (hts (.arrayClass .int) (by decide +kernel)) rfl rfl (by simp) (by decide) (Nat.le_of_ble_eq_true rfl) (Nat.le_of_ble_eq_true rfl) dX11_init_178 (fun H26a n9 o9 z9 hS => ?_)
  refine ob_putF (ci := 12) (C := RX11) (T := TX11) (N := 48) (ty := .array .int) E (hI.1.kept (o9 _ hI.1.lt)) hS hAq rfl hin tyX11_ok nmX11 26 (by decide) (hts (.fieldLink RX11 75 "BinRoundsModel" "gates" "[I") (by decide +kernel)) (fun x hx => hx) rfl hini rfl rfl rfl rfl dX11_init_180 (fun H26b locs hO9 ok9 sz9 hS => ?_)
  have hI := mi_step (k := 26) (by decide) hI n9 o9 hO9 ok9 hq0 hz
  have hz : s.heap.size ≤ H26b.size := by omega
  clear n9 o9 hO9 ok9
  have hI := mi_skip (k := 27) rfl rfl hI
  refine x_aload_n B hl dX11_init_183 rfl ?_
  refine x_iconst B dX11_init_184 ?_
  refine ob_newb (atype := .int) (n := 5) (t0 := 0) (ty := .int) (cA0 := (cy 1)) E hS (hts (.arrayClass .int) (by decide +kernel)) rfl rfl (by simp) (by decide) (Nat.le_of_ble_eq_true rfl) (Nat.le_of_ble_eq_true rfl) dX11_init_185 (fun H28a n9 o9 z9 hS => ?_)
  refine ob_putF (ci := 12) (C := RX11) (T := TX11) (N := 48) (ty := .array .int) E (hI.1.kept (o9 _ hI.1.lt)) hS hAq rfl hin tyX11_ok nmX11 28 (by decide) (hts (.fieldLink RX11 78 "BinRoundsModel" "lifts" "[I") (by decide +kernel)) (fun x hx => hx) rfl hini rfl rfl rfl rfl dX11_init_187 (fun H28b locs hO9 ok9 sz9 hS => ?_)
  have hI := mi_step (k := 28) (by decide) hI n9 o9 hO9 ok9 hq0 hz
  have hz : s.heap.size ≤ H28b.size := by omega
  clear n9 o9 hO9 ok9
  refine x_aload_n B hl dX11_init_190 rfl ?_
  refine x_iconst B dX11_init_191 ?_
  refine ob_newb (atype := .int) (n := 5) (t0 := 0) (ty := .int) (cA0 := (cy 1)) E hS (hts (.arrayClass .int) (by decide +kernel)) rfl rfl (by simp) (by decide) (Nat.le_of_ble_eq_true rfl) (Nat.le_of_ble_eq_true rfl) dX11_init_192 (fun H29a n9 o9 z9 hS => ?_)
  refine ob_putF (ci := 12) (C := RX11) (T := TX11) (N := 48) (ty := .array .int) E (hI.1.kept (o9 _ hI.1.lt)) hS hAq rfl hin tyX11_ok nmX11 29 (by decide) (hts (.fieldLink RX11 81 "BinRoundsModel" "rates" "[I") (by decide +kernel)) (fun x hx => hx) rfl hini rfl rfl rfl rfl dX11_init_194 (fun H29b locs hO9 ok9 sz9 hS => ?_)
  have hI := mi_step (k := 29) (by decide) hI n9 o9 hO9 ok9 hq0 hz
  have hz : s.heap.size ≤ H29b.size := by omega
  clear n9 o9 hO9 ok9
  have hI := mi_skip (k := 30) rfl rfl hI
  have hI := mi_skip (k := 31) rfl rfl hI
  refine x_aload_n B hl dX11_init_197 rfl ?_
  refine x_sipush B dX11_init_198 (by decide) ?_
  refine ob_newb (atype := .int) (n := 600) (t0 := 0) (ty := .int) (cA0 := (cy 1)) E hS (hts (.arrayClass .int) (by decide +kernel)) rfl rfl (by simp) (by decide) (Nat.le_of_ble_eq_true rfl) (Nat.le_of_ble_eq_true rfl) dX11_init_201 (fun H32a n9 o9 z9 hS => ?_)
  refine ob_putF (ci := 12) (C := RX11) (T := TX11) (N := 48) (ty := .array .int) E (hI.1.kept (o9 _ hI.1.lt)) hS hAq rfl hin tyX11_ok nmX11 32 (by decide) (hts (.fieldLink RX11 84 "BinRoundsModel" "dayOf" "[I") (by decide +kernel)) (fun x hx => hx) rfl hini rfl rfl rfl rfl dX11_init_203 (fun H32b locs hO9 ok9 sz9 hS => ?_)
  have hI := mi_step (k := 32) (by decide) hI n9 o9 hO9 ok9 hq0 hz
  have hz : s.heap.size ≤ H32b.size := by omega
  clear n9 o9 hO9 ok9
  refine x_aload_n B hl dX11_init_206 rfl ?_
  refine x_sipush B dX11_init_207 (by decide) ?_
  refine ob_newb (atype := .int) (n := 600) (t0 := 0) (ty := .int) (cA0 := (cy 1)) E hS (hts (.arrayClass .int) (by decide +kernel)) rfl rfl (by simp) (by decide) (Nat.le_of_ble_eq_true rfl) (Nat.le_of_ble_eq_true rfl) dX11_init_210 (fun H33a n9 o9 z9 hS => ?_)
  refine ob_putF (ci := 12) (C := RX11) (T := TX11) (N := 48) (ty := .array .int) E (hI.1.kept (o9 _ hI.1.lt)) hS hAq rfl hin tyX11_ok nmX11 33 (by decide) (hts (.fieldLink RX11 87 "BinRoundsModel" "cartOf" "[I") (by decide +kernel)) (fun x hx => hx) rfl hini rfl rfl rfl rfl dX11_init_212 (fun H33b locs hO9 ok9 sz9 hS => ?_)
  have hI := mi_step (k := 33) (by decide) hI n9 o9 hO9 ok9 hq0 hz
  have hz : s.heap.size ≤ H33b.size := by omega
  clear n9 o9 hO9 ok9
  refine x_aload_n B hl dX11_init_215 rfl ?_
  refine x_sipush B dX11_init_216 (by decide) ?_
  refine ob_newb (atype := .int) (n := 600) (t0 := 0) (ty := .int) (cA0 := (cy 1)) E hS (hts (.arrayClass .int) (by decide +kernel)) rfl rfl (by simp) (by decide) (Nat.le_of_ble_eq_true rfl) (Nat.le_of_ble_eq_true rfl) dX11_init_219 (fun H34a n9 o9 z9 hS => ?_)
  refine ob_putF (ci := 12) (C := RX11) (T := TX11) (N := 48) (ty := .array .int) E (hI.1.kept (o9 _ hI.1.lt)) hS hAq rfl hin tyX11_ok nmX11 34 (by decide) (hts (.fieldLink RX11 90 "BinRoundsModel" "tipMark" "[I") (by decide +kernel)) (fun x hx => hx) rfl hini rfl rfl rfl rfl dX11_init_221 (fun H34b locs hO9 ok9 sz9 hS => ?_)
  have hI := mi_step (k := 34) (by decide) hI n9 o9 hO9 ok9 hq0 hz
  have hz : s.heap.size ≤ H34b.size := by omega
  clear n9 o9 hO9 ok9
  refine x_aload_n B hl dX11_init_224 rfl ?_
  refine x_sipush B dX11_init_225 (by decide) ?_
  refine ob_newb (atype := .int) (n := 600) (t0 := 0) (ty := .int) (cA0 := (cy 1)) E hS (hts (.arrayClass .int) (by decide +kernel)) rfl rfl (by simp) (by decide) (Nat.le_of_ble_eq_true rfl) (Nat.le_of_ble_eq_true rfl) dX11_init_228 (fun H35a n9 o9 z9 hS => ?_)
  refine ob_putF (ci := 12) (C := RX11) (T := TX11) (N := 48) (ty := .array .int) E (hI.1.kept (o9 _ hI.1.lt)) hS hAq rfl hin tyX11_ok nmX11 35 (by decide) (hts (.fieldLink RX11 93 "BinRoundsModel" "halves" "[I") (by decide +kernel)) (fun x hx => hx) rfl hini rfl rfl rfl rfl dX11_init_230 (fun H35b locs hO9 ok9 sz9 hS => ?_)
  have hI := mi_step (k := 35) (by decide) hI n9 o9 hO9 ok9 hq0 hz
  have hz : s.heap.size ≤ H35b.size := by omega
  clear n9 o9 hO9 ok9
  refine x_aload_n B hl dX11_init_233 rfl ?_
  refine x_sipush B dX11_init_234 (by decide) ?_
  refine ob_newb (atype := .int) (n := 600) (t0 := 0) (ty := .int) (cA0 := (cy 1)) E hS (hts (.arrayClass .int) (by decide +kernel)) rfl rfl (by simp) (by decide) (Nat.le_of_ble_eq_true rfl) (Nat.le_of_ble_eq_true rfl) dX11_init_237 (fun H36a n9 o9 z9 hS => ?_)
  refine ob_putF (ci := 12) (C := RX11) (T := TX11) (N := 48) (ty := .array .int) E (hI.1.kept (o9 _ hI.1.lt)) hS hAq rfl hin tyX11_ok nmX11 36 (by decide) (hts (.fieldLink RX11 96 "BinRoundsModel" "binOf" "[I") (by decide +kernel)) (fun x hx => hx) rfl hini rfl rfl rfl rfl dX11_init_239 (fun H36b locs hO9 ok9 sz9 hS => ?_)
  have hI := mi_step (k := 36) (by decide) hI n9 o9 hO9 ok9 hq0 hz
  have hz : s.heap.size ≤ H36b.size := by omega
  clear n9 o9 hO9 ok9
  refine x_aload_n B hl dX11_init_242 rfl ?_
  refine x_sipush B dX11_init_243 (by decide) ?_
  refine ob_newb (atype := .int) (n := 600) (t0 := 0) (ty := .int) (cA0 := (cy 1)) E hS (hts (.arrayClass .int) (by decide +kernel)) rfl rfl (by simp) (by decide) (Nat.le_of_ble_eq_true rfl) (Nat.le_of_ble_eq_true rfl) dX11_init_246 (fun H37a n9 o9 z9 hS => ?_)
  refine ob_putF (ci := 12) (C := RX11) (T := TX11) (N := 48) (ty := .array .int) E (hI.1.kept (o9 _ hI.1.lt)) hS hAq rfl hin tyX11_ok nmX11 37 (by decide) (hts (.fieldLink RX11 99 "BinRoundsModel" "cameSo" "[I") (by decide +kernel)) (fun x hx => hx) rfl hini rfl rfl rfl rfl dX11_init_248 (fun H37b locs hO9 ok9 sz9 hS => ?_)
  have hI := mi_step (k := 37) (by decide) hI n9 o9 hO9 ok9 hq0 hz
  have hz : s.heap.size ≤ H37b.size := by omega
  clear n9 o9 hO9 ok9
  refine x_aload_n B hl dX11_init_251 rfl ?_
  refine x_sipush B dX11_init_252 (by decide) ?_
  refine ob_newb (atype := .int) (n := 600) (t0 := 0) (ty := .int) (cA0 := (cy 1)) E hS (hts (.arrayClass .int) (by decide +kernel)) rfl rfl (by simp) (by decide) (Nat.le_of_ble_eq_true rfl) (Nat.le_of_ble_eq_true rfl) dX11_init_255 (fun H38a n9 o9 z9 hS => ?_)
  refine ob_putF (ci := 12) (C := RX11) (T := TX11) (N := 48) (ty := .array .int) E (hI.1.kept (o9 _ hI.1.lt)) hS hAq rfl hin tyX11_ok nmX11 38 (by decide) (hts (.fieldLink RX11 102 "BinRoundsModel" "weighedSo" "[I") (by decide +kernel)) (fun x hx => hx) rfl hini rfl rfl rfl rfl dX11_init_257 (fun H38b locs hO9 ok9 sz9 hS => ?_)
  have hI := mi_step (k := 38) (by decide) hI n9 o9 hO9 ok9 hq0 hz
  have hz : s.heap.size ≤ H38b.size := by omega
  clear n9 o9 hO9 ok9
  refine x_aload_n B hl dX11_init_260 rfl ?_
  refine x_sipush B dX11_init_261 (by decide) ?_
  refine ob_newb (atype := .int) (n := 600) (t0 := 0) (ty := .int) (cA0 := (cy 1)) E hS (hts (.arrayClass .int) (by decide +kernel)) rfl rfl (by simp) (by decide) (Nat.le_of_ble_eq_true rfl) (Nat.le_of_ble_eq_true rfl) dX11_init_264 (fun H39a n9 o9 z9 hS => ?_)
  refine ob_putF (ci := 12) (C := RX11) (T := TX11) (N := 48) (ty := .array .int) E (hI.1.kept (o9 _ hI.1.lt)) hS hAq rfl hin tyX11_ok nmX11 39 (by decide) (hts (.fieldLink RX11 105 "BinRoundsModel" "paidHalves" "[I") (by decide +kernel)) (fun x hx => hx) rfl hini rfl rfl rfl rfl dX11_init_266 (fun H39b locs hO9 ok9 sz9 hS => ?_)
  have hI := mi_step (k := 39) (by decide) hI n9 o9 hO9 ok9 hq0 hz
  have hz : s.heap.size ≤ H39b.size := by omega
  clear n9 o9 hO9 ok9
  refine x_aload_n B hl dX11_init_269 rfl ?_
  refine x_sipush B dX11_init_270 (by decide) ?_
  refine ob_newb (atype := .boolean) (n := 600) (t0 := 1) (ty := .boolean) (cA0 := (cy 2)) E hS (hts (.arrayClass .boolean) (by decide +kernel)) rfl rfl (by simp) (by decide) (Nat.le_of_ble_eq_true rfl) (Nat.le_of_ble_eq_true rfl) dX11_init_273 (fun H40a n9 o9 z9 hS => ?_)
  refine ob_putF (ci := 12) (C := RX11) (T := TX11) (N := 48) (ty := .array .boolean) E (hI.1.kept (o9 _ hI.1.lt)) hS hAq rfl hin tyX11_ok nmX11 40 (by decide) (hts (.fieldLink RX11 108 "BinRoundsModel" "isCharged" "[Z") (by decide +kernel)) (fun x hx => hx) rfl hini rfl rfl rfl rfl dX11_init_275 (fun H40b locs hO9 ok9 sz9 hS => ?_)
  have hI := mi_step (k := 40) (by decide) hI n9 o9 hO9 ok9 hq0 hz
  have hz : s.heap.size ≤ H40b.size := by omega
  clear n9 o9 hO9 ok9
  refine x_aload_n B hl dX11_init_278 rfl ?_
  refine x_sipush B dX11_init_279 (by decide) ?_
  refine ob_newb (atype := .boolean) (n := 600) (t0 := 1) (ty := .boolean) (cA0 := (cy 2)) E hS (hts (.arrayClass .boolean) (by decide +kernel)) rfl rfl (by simp) (by decide) (Nat.le_of_ble_eq_true rfl) (Nat.le_of_ble_eq_true rfl) dX11_init_282 (fun H41a n9 o9 z9 hS => ?_)
  refine ob_putF (ci := 12) (C := RX11) (T := TX11) (N := 48) (ty := .array .boolean) E (hI.1.kept (o9 _ hI.1.lt)) hS hAq rfl hin tyX11_ok nmX11 41 (by decide) (hts (.fieldLink RX11 111 "BinRoundsModel" "toldWrong" "[Z") (by decide +kernel)) (fun x hx => hx) rfl hini rfl rfl rfl rfl dX11_init_284 (fun H41b locs hO9 ok9 sz9 hS => ?_)
  have hI := mi_step (k := 41) (by decide) hI n9 o9 hO9 ok9 hq0 hz
  have hz : s.heap.size ≤ H41b.size := by omega
  clear n9 o9 hO9 ok9
  refine x_aload_n B hl dX11_init_287 rfl ?_
  refine x_sipush B dX11_init_288 (by decide) ?_
  refine ob_newb (atype := .int) (n := 600) (t0 := 0) (ty := .int) (cA0 := (cy 1)) E hS (hts (.arrayClass .int) (by decide +kernel)) rfl rfl (by simp) (by decide) (Nat.le_of_ble_eq_true rfl) (Nat.le_of_ble_eq_true rfl) dX11_init_291 (fun H42a n9 o9 z9 hS => ?_)
  refine ob_putF (ci := 12) (C := RX11) (T := TX11) (N := 48) (ty := .array .int) E (hI.1.kept (o9 _ hI.1.lt)) hS hAq rfl hin tyX11_ok nmX11 42 (by decide) (hts (.fieldLink RX11 114 "BinRoundsModel" "lift" "[I") (by decide +kernel)) (fun x hx => hx) rfl hini rfl rfl rfl rfl dX11_init_293 (fun H42b locs hO9 ok9 sz9 hS => ?_)
  have hI := mi_step (k := 42) (by decide) hI n9 o9 hO9 ok9 hq0 hz
  have hz : s.heap.size ≤ H42b.size := by omega
  clear n9 o9 hO9 ok9
  refine x_aload_n B hl dX11_init_296 rfl ?_
  refine x_sipush B dX11_init_297 (by decide) ?_
  refine ob_newb (atype := .int) (n := 600) (t0 := 0) (ty := .int) (cA0 := (cy 1)) E hS (hts (.arrayClass .int) (by decide +kernel)) rfl rfl (by simp) (by decide) (Nat.le_of_ble_eq_true rfl) (Nat.le_of_ble_eq_true rfl) dX11_init_300 (fun H43a n9 o9 z9 hS => ?_)
  refine ob_putF (ci := 12) (C := RX11) (T := TX11) (N := 48) (ty := .array .int) E (hI.1.kept (o9 _ hI.1.lt)) hS hAq rfl hin tyX11_ok nmX11 43 (by decide) (hts (.fieldLink RX11 117 "BinRoundsModel" "rate" "[I") (by decide +kernel)) (fun x hx => hx) rfl hini rfl rfl rfl rfl dX11_init_302 (fun H43b locs hO9 ok9 sz9 hS => ?_)
  have hI := mi_step (k := 43) (by decide) hI n9 o9 hO9 ok9 hq0 hz
  have hz : s.heap.size ≤ H43b.size := by omega
  clear n9 o9 hO9 ok9
  refine x_aload_n B hl dX11_init_305 rfl ?_
  refine x_sipush B dX11_init_306 (by decide) ?_
  refine ob_newb (atype := .int) (n := 600) (t0 := 0) (ty := .int) (cA0 := (cy 1)) E hS (hts (.arrayClass .int) (by decide +kernel)) rfl rfl (by simp) (by decide) (Nat.le_of_ble_eq_true rfl) (Nat.le_of_ble_eq_true rfl) dX11_init_309 (fun H44a n9 o9 z9 hS => ?_)
  refine ob_putF (ci := 12) (C := RX11) (T := TX11) (N := 48) (ty := .array .int) E (hI.1.kept (o9 _ hI.1.lt)) hS hAq rfl hin tyX11_ok nmX11 44 (by decide) (hts (.fieldLink RX11 120 "BinRoundsModel" "gateOf" "[I") (by decide +kernel)) (fun x hx => hx) rfl hini rfl rfl rfl rfl dX11_init_311 (fun H44b locs hO9 ok9 sz9 hS => ?_)
  have hI := mi_step (k := 44) (by decide) hI n9 o9 hO9 ok9 hq0 hz
  have hz : s.heap.size ≤ H44b.size := by omega
  clear n9 o9 hO9 ok9
  have hI := mi_skip (k := 45) rfl rfl hI
  refine x_aload_n B hl dX11_init_314 rfl ?_
  refine x_iconst B dX11_init_315 ?_
  refine ob_newb (atype := .int) (n := 5) (t0 := 0) (ty := .int) (cA0 := (cy 1)) E hS (hts (.arrayClass .int) (by decide +kernel)) rfl rfl (by simp) (by decide) (Nat.le_of_ble_eq_true rfl) (Nat.le_of_ble_eq_true rfl) dX11_init_316 (fun H46a n9 o9 z9 hS => ?_)
  refine ob_putF (ci := 12) (C := RX11) (T := TX11) (N := 48) (ty := .array .int) E (hI.1.kept (o9 _ hI.1.lt)) hS hAq rfl hin tyX11_ok nmX11 46 (by decide) (hts (.fieldLink RX11 123 "BinRoundsModel" "row" "[I") (by decide +kernel)) (fun x hx => hx) rfl hini rfl rfl rfl rfl dX11_init_318 (fun H46b locs hO9 ok9 sz9 hS => ?_)
  have hI := mi_step (k := 46) (by decide) hI n9 o9 hO9 ok9 hq0 hz
  have hz : s.heap.size ≤ H46b.size := by omega
  clear n9 o9 hO9 ok9
  refine x_aload_n B hl dX11_init_321 rfl ?_
  refine x_iconst B dX11_init_322 ?_
  refine ob_newb (atype := .int) (n := 5) (t0 := 0) (ty := .int) (cA0 := (cy 1)) E hS (hts (.arrayClass .int) (by decide +kernel)) rfl rfl (by simp) (by decide) (Nat.le_of_ble_eq_true rfl) (Nat.le_of_ble_eq_true rfl) dX11_init_323 (fun H47a n9 o9 z9 hS => ?_)
  refine ob_putF (ci := 12) (C := RX11) (T := TX11) (N := 48) (ty := .array .int) E (hI.1.kept (o9 _ hI.1.lt)) hS hAq rfl hin tyX11_ok nmX11 47 (by decide) (hts (.fieldLink RX11 126 "BinRoundsModel" "left" "[I") (by decide +kernel)) (fun x hx => hx) rfl hini rfl rfl rfl rfl dX11_init_325 (fun H47b locs hO9 ok9 sz9 hS => ?_)
  have hI := mi_step (k := 47) (by decide) hI n9 o9 hO9 ok9 hq0 hz
  have hz : s.heap.size ≤ H47b.size := by omega
  clear n9 o9 hO9 ok9
  refine w_widen (k := 39) (n := 18735) (Nat.le_of_ble_eq_true rfl) (Nat.le_of_ble_eq_true rfl) ?_
  exact cb_vret E hr hlk hS dX11_init_328 ⟨rfl, _, fun k hk h0 => (hI.2.1 k hk h0).2, mi_end hq0 hI⟩
