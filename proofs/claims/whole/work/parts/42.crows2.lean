theorem arrV_ext {cI : ClassId} {N : Nat} {f g : Nat → Value} (h : ∀ j, j < N → f j = g j) : arrV cI N f = arrV cI N g := by
  unfold arrV
  congr 1
  congr 1
  funext j
  exact h j.val j.isLt
abbrev oka (f : Nat) : Bool := f != 58 && f != 59 && f != 5 && f != 11 && f != 23 && f != 27 && f != 45 && f != 18 && f != 22 && f != 6 && f != 16 && f != 19 && f != 33 && f != 36
theorem oka_g {σ : MS} {f : Nat} {i v : Int} (h : oka f = true) : ∀ g ∈ [58, 59, 5, 11, 23, 27, 45, 18, 22, 6, 16, 19, 33, 36], up σ f i v g = σ g := by
  intro g hg
  simp only [oka, Bool.and_eq_true, bne_iff_ne, ne_eq] at h
  refine up_f (fun e => ?_)
  subst e
  simp at hg
  omega
def sNa (κ k : Nat) : Bool := !(sT κ k == 1 || sT κ k == 2) || (sF κ k != 2 && sF κ k != 28 && sF κ k != 29 && sF κ k != 56 && sF κ k != 3 && sF κ k != 4)
theorem sNa_all : ((List.range 12).all fun κ => (List.range 13).all fun k => sNa κ k) = true := by decide +kernel
theorem sF_na {κ k : Nat} (h1 : κ < 12) (h2 : k < 13) (ht : sT κ k = 1 ∨ sT κ k = 2) : sF κ k ≠ 2 ∧ sF κ k ≠ 28 ∧ sF κ k ≠ 29 ∧ sF κ k ≠ 56 ∧ sF κ k ≠ 3 ∧ sF κ k ≠ 4 := by
  have h3 := List.all_eq_true.mp (List.all_eq_true.mp sNa_all κ (List.mem_range.mpr h1)) k (List.mem_range.mpr h2)
  have h5 : (sT κ k == 1 || sT κ k == 2) = true := by
    rcases ht with e | e <;> simp [e]
  unfold sNa at h3
  rw [h5] at h3
  simpa [bne_iff_ne, and_assoc] using h3
/-- a store into a row of kind κ, number i -/
theorem CP.ast {D : va_G} {cy : Nat → ClassId} {d0 : Nat} {A : Nat → Prop} {la : Nat → Int → Nat} {σ : MS} {H H1 : Heap} (h : CP D cy d0 A la σ H) {κ : Nat} {i j v : Int} (h12 : 12 ≤ κ) (hκ : κ ≤ 17) (hl : cLive la σ κ i) (hj : 0 ≤ j ∧ j < aLn κ)
    (he : H1[la κ i]? = some (arrV (cy (if κ = 12 then 2 else 1)) (aLn κ) (updV (fun q => .int (iI (aV σ κ i q))) j.toNat (.int (iI v))))) (oq : ∀ q, q ≠ la κ i → H1[q]? = H[q]?) (hw : cW (up σ (aF κ) (if κ ≤ 15 then j else 3 * i + j) v)) : CP D cy d0 A la (up σ (aF κ) (if κ ≤ 15 then j else 3 * i + j) v) H1 := by
  obtain ⟨h1, h2, h3, h4, h5, h6, h7⟩ := h
  have hka : oka (aF κ) = true := by
    rcases (show κ = 12 ∨ κ = 13 ∨ κ = 14 ∨ κ = 15 ∨ κ = 16 ∨ κ = 17 by omega) with rfl | rfl | rfl | rfl | rfl | rfl <;> decide
  have e := oka_g (σ := σ) (i := if κ ≤ 15 then j else 3 * i + j) (v := v) hka
  have hlive : ∀ κ' i', cLive la (up σ (aF κ) (if κ ≤ 15 then j else 3 * i + j) v) κ' i' ↔ cLive la σ κ' i' := by
    intro κ' i'
    unfold cLive
    rw [e 5 (by decide), e 11 (by decide), e 23 (by decide), e 27 (by decide), e 45 (by decide), e 18 (by decide), e 22 (by decide)]
  have hsz : ∀ L, cSz (up σ (aF κ) (if κ ≤ 15 then j else 3 * i + j) v) L = cSz σ L := by
    intro L
    unfold cSz
    rw [e 58 (by decide), e 59 (by decide), e 5 (by decide), e 11 (by decide), e 23 (by decide), e 27 (by decide), e 45 (by decide), e 18 (by decide), e 22 (by decide)]
  have hne : ∀ κ' i', κ' ≤ 18 → cLive la σ κ' i' → ¬ (κ' = κ ∧ i' = i) → la κ' i' ≠ la κ i := fun κ' i' a b c z => c (h4 κ' κ i' i a (by omega) b hl z)
  refine ⟨fun κ' i' a b => ?_, fun κ' i' a b c => ?_, fun L hL => ?_, fun κ' κ'' i' i'' a b c d z => h4 κ' κ'' i' i'' a b ((hlive _ _).mp c) ((hlive _ _).mp d) z, fun κ' i' a b => h5 κ' i' a ((hlive _ _).mp b), hw, h7⟩
  · have b' := (hlive _ _).mp b
    refine ((h1 κ' i' a b').kept (oq _ (hne κ' i' (by omega) b' (by omega)))).to (fun k hk => ?_)
    have ha : aF κ = 2 ∨ aF κ = 28 ∨ aF κ = 29 ∨ aF κ = 56 ∨ aF κ = 3 ∨ aF κ = 4 := by
      rcases (show κ = 12 ∨ κ = 13 ∨ κ = 14 ∨ κ = 15 ∨ κ = 16 ∨ κ = 17 by omega) with rfl | rfl | rfl | rfl | rfl | rfl <;> decide
    unfold cV
    rw [hsz]
    have hR : cR la (up σ (aF κ) (if κ ≤ 15 then j else 3 * i + j) v) κ' i' k = cR la σ κ' i' k := by
      unfold cR
      rw [e 6 (by decide), e 16 (by decide), e 19 (by decide), e 33 (by decide), e 36 (by decide)]
    rw [hR]
    have hk13 := Nat.lt_of_lt_of_le hk (cN_13 κ' a)
    by_cases t1 : sT κ' k = 1 ∨ sT κ' k = 2
    · have := sF_na (by omega) hk13 t1
      rw [up_f (show sF κ' k ≠ aF κ by omega)]
    · rw [if_neg (show ¬ sT κ' k = 1 by omega), if_neg (show ¬ sT κ' k = 2 by omega), if_neg (show ¬ sT κ' k = 1 by omega), if_neg (show ¬ sT κ' k = 2 by omega)]
  · have c' := (hlive _ _).mp c
    by_cases hq : κ' = κ ∧ i' = i
    · obtain ⟨rfl, rfl⟩ := hq
      rw [he]
      congr 1
      refine arrV_ext (fun q hq => ?_)
      by_cases hqj : q = j.toNat
      · subst hqj
        simp only [updV, if_true, aV]
        split <;> rw [up_rd, if_pos ⟨rfl, by omega⟩]
      · simp only [updV, if_neg hqj, aV]
        split <;> rw [up_rd, if_neg (by omega)]
    · rw [oq _ (hne κ' i' (by omega) c' hq), h2 κ' i' a b c']
      congr 1
      refine arrV_ext (fun q hq2 => ?_)
      by_cases hk : κ' = κ
      · subst hk
        simp only [aV]
        by_cases h15 : κ' ≤ 15
        · have z1 : i' = 0 := by unfold cLive at c'; split at c' <;> (try omega); (repeat' split at c') <;> omega
          have z2 : i = 0 := by unfold cLive at hl; split at hl <;> (try omega); (repeat' split at hl) <;> omega
          exact absurd ⟨rfl, z1.trans z2.symm⟩ hq
        · have hL3 : aLn κ' = 3 := by
            rcases (show κ' = 16 ∨ κ' = 17 by omega) with rfl | rfl <;> decide
          rw [if_neg h15, if_neg h15, if_neg h15, up_rd, if_neg (by omega)]
      · have hff : aF κ' ≠ aF κ := by
          have : ∀ a b, 12 ≤ a → a ≤ 17 → 12 ≤ b → b ≤ 17 → aF a = aF b → a = b := by
            intro a b h1 h2 h3 h4
            rcases (show a = 12 ∨ a = 13 ∨ a = 14 ∨ a = 15 ∨ a = 16 ∨ a = 17 by omega) with rfl | rfl | rfl | rfl | rfl | rfl <;> rcases (show b = 12 ∨ b = 13 ∨ b = 14 ∨ b = 15 ∨ b = 16 ∨ b = 17 by omega) with rfl | rfl | rfl | rfl | rfl | rfl <;> decide
          exact fun z => hk (this κ' κ a b h12 hκ z)
        simp only [aV, up_f hff]
  · have hL' := (hlive _ _).mp hL
    obtain ⟨k1, k2⟩ := h3 L hL'
    refine ⟨by rw [hsz]; exact k1, k2.imp id (fun ⟨q1, f, q2, q3⟩ => ⟨q1, f, ?_, fun j hj => q3 j (by rw [← hsz]; exact hj)⟩)⟩
    rw [oq _ (hne 18 L (by omega) ⟨hL', q1⟩ (by omega))]
    exact q2
section CA
variable {p : Program} {l : Launch} {e : Env} {R : Room} {s : State} {m : MethodId} {args : Array Value} {below : List Frame} {meth : Method} {c : Code} {H : Heap} {locs : List Loc} {cells slots : Nat} {Q : State → Prop}
variable {cc : ByteArray} {pc : Nat} {ls : Array Slot} {rest st : List Value} {nL : Nat} {lv : List (Nat × Value)} {Ts : List Cond} {D : va_G} {cy : Nat → ClassId} {d0 : Nat} {A : Nat → Prop} {la : Nat → Int → Nat} {σ : MS} {idx : Nat} {own : String}
theorem co_ald {κ : Nat} {i j w : Int} (E : cE p s m args c cc nL own Ts D cy) (hC : CP D cy d0 A la σ H) (hκ : 13 ≤ κ ∧ κ ≤ 17) (hlv : cLive la σ κ i) (hj : 0 ≤ j ∧ j < aLn κ) (hn : aLn κ < 2147483648) (d : decode cc pc = .ok (.iaload, 1)) (hv : aV σ κ i j = w) (hr : -2147483648 ≤ w ∧ w < 2147483648 → W p l e R s m args below meth c H locs cells slots Q (F0 m (pc + 1) ls (.int (iI w) :: rest))) : W p l e R s m args below meth c H locs cells slots Q (F0 m pc ls (.int (iI j) :: .ref (la κ i) :: rest)) := by
  subst hv
  obtain ⟨B, -, hown, hts, hK⟩ := E
  have hc := hC.2.1 κ i (by omega) hκ.2 hlv
  rw [if_neg (by omega)] at hc
  refine W.iald (v := .int (iI (aV σ κ i j))) B.1 B.2 hc ((hK.2 0 _ rfl).1 _ _) (fun q => by cases q) (by rw [arrV_size]; exact iI_in hj hn) ?_ rfl rfl d (hr ?_)
  · rw [iI_clamp ⟨hj.1, by omega⟩, arrV_read _ _ (by omega)]
    simp only [Int.toNat_of_nonneg hj.1]
  · have h9 : cLong (aF κ) = false := by
      rcases (show κ = 13 ∨ κ = 14 ∨ κ = 15 ∨ κ = 16 ∨ κ = 17 by omega) with rfl | rfl | rfl | rfl | rfl <;> decide
    unfold aV
    split
    · exact hC.2.2.2.2.2.1.1 _ _ h9
    · exact hC.2.2.2.2.2.1.1 _ _ h9
theorem co_zld {j w : Int} (E : cE p s m args c cc nL own Ts D cy) (hC : CP D cy d0 A la σ H) (hj : 0 ≤ j ∧ j < 700) (d : decode cc pc = .ok (.baload, 1)) (hv : σ 2 j = w) (hr : w = 0 ∨ w = 1 → W p l e R s m args below meth c H locs cells slots Q (F0 m (pc + 1) ls (.int (iI w) :: rest))) : W p l e R s m args below meth c H locs cells slots Q (F0 m pc ls (.int (iI j) :: .ref (la 12 0) :: rest)) := by
  subst hv
  obtain ⟨B, -, hown, hts, hK⟩ := E
  have hc := hC.2.1 12 0 (by omega) (by omega) (show (0 : Int) = 0 from rfl)
  rw [if_pos rfl] at hc
  refine W.zald (v := .int (iI (σ 2 j))) B.1 B.2 hc ((hK.2 1 _ rfl).1 _ _) (fun q => by cases q) (by rw [arrV_size]; exact iI_in hj (by decide)) ?_ rfl rfl d (hr (hC.2.2.2.2.2.1.2 2 _ rfl))
  rw [iI_clamp ⟨hj.1, by omega⟩, arrV_read _ _ (by show _ < 700; omega)]
  simp only [Int.toNat_of_nonneg hj.1]
  rfl
theorem co_zst {j v : Int} (E : cE p s m args c cc nL own Ts D cy) (hC : CP D cy d0 A la σ H) (hS : va_S A s.heap H locs) (hj : 0 ≤ j ∧ j < 700) (hv : v = 0 ∨ v = 1) (d : decode cc pc = .ok (.bastore, 1)) (kk : ∀ (H1 : Heap) (locs1 : List Loc), CP D cy d0 A la (up σ 2 j v) H1 → va_S A s.heap H1 locs1 → W p l e R s m args below meth c H1 locs1 cells slots Q (F0 m (pc + 1) ls rest)) : W p l e R s m args below meth c H locs cells slots Q (F0 m pc ls (.int (iI v) :: .int (iI j) :: .ref (la 12 0) :: rest)) := by
  obtain ⟨B, -, hown, hts, hK⟩ := E
  have hlv : cLive la σ 12 0 := show (0 : Int) = 0 from rfl
  have hc := hC.2.1 12 0 (by omega) (by omega) hlv
  rw [if_pos rfl] at hc
  refine W.zast B.1 B.2 hc ((hK.2 1 _ rfl).1 _ _) (fun q => by cases q) (by rw [arrV_size]; exact iI_in hj (by decide)) rfl rfl d fun H1 e1 z oq => ?_
  refine kk H1 _ (hC.ast (κ := 12) (i := 0) (j := j) (v := v) (by omega) (by omega) hlv hj ?_ oq (cW_up hC.2.2.2.2.2.1 (fun _ => by omega) (fun _ => hv))) (hS.put z oq (hC.2.2.2.2.1 12 0 (by omega) hlv))
  have hnar : narrow .boolean (.int (iI v)) = .int (iI v) := by rcases hv with rfl | rfl <;> rfl
  rw [e1, arrV_store, iI_clamp ⟨hj.1, by omega⟩, hnar, if_pos rfl]
theorem co_ast {κ : Nat} {i j v : Int} (E : cE p s m args c cc nL own Ts D cy) (hC : CP D cy d0 A la σ H) (hS : va_S A s.heap H locs) (hκ : 13 ≤ κ ∧ κ ≤ 17) (hlv : cLive la σ κ i) (hj : 0 ≤ j ∧ j < aLn κ) (hn : aLn κ < 2147483648) (hv : -2147483648 ≤ v ∧ v < 2147483648) (d : decode cc pc = .ok (.iastore, 1)) (kk : ∀ (H1 : Heap) (locs1 : List Loc), CP D cy d0 A la (up σ (aF κ) (if κ ≤ 15 then j else 3 * i + j) v) H1 → va_S A s.heap H1 locs1 → W p l e R s m args below meth c H1 locs1 cells slots Q (F0 m (pc + 1) ls rest)) : W p l e R s m args below meth c H locs cells slots Q (F0 m pc ls (.int (iI v) :: .int (iI j) :: .ref (la κ i) :: rest)) := by
  obtain ⟨B, -, hown, hts, hK⟩ := E
  have hc := hC.2.1 κ i (by omega) hκ.2 hlv
  have hc0 := hc
  rw [if_neg (by omega)] at hc
  have h9 : cLong (aF κ) = false ∧ cBool (aF κ) = false := by
    rcases (show κ = 13 ∨ κ = 14 ∨ κ = 15 ∨ κ = 16 ∨ κ = 17 by omega) with rfl | rfl | rfl | rfl | rfl <;> decide
  refine W.iast B.1 B.2 hc ((hK.2 0 _ rfl).1 _ _) (fun q => by cases q) (by rw [arrV_size]; exact iI_in hj hn) rfl rfl d fun H1 e1 z oq => ?_
  refine kk H1 _ (hC.ast (κ := κ) (i := i) (j := j) (v := v) (by omega) hκ.2 hlv hj ?_ oq (cW_up hC.2.2.2.2.2.1 (fun _ => hv) (fun q => by rw [h9.2] at q; cases q))) (hS.put z oq (hC.2.2.2.2.1 κ i (by omega) hlv))
  rw [e1, arrV_store, iI_clamp ⟨hj.1, by omega⟩, if_neg (by omega)]
theorem co_alen {κ : Nat} {i : Int} (E : cE p s m args c cc nL own Ts D cy) (hC : CP D cy d0 A la σ H) (hκ : 12 ≤ κ ∧ κ ≤ 17) (hlv : cLive la σ κ i) (d : decode cc pc = .ok (.arraylength, 1)) (kk : W p l e R s m args below meth c H locs cells slots Q (F0 m (pc + 1) ls (.int (iI (aLn κ)) :: rest))) : W p l e R s m args below meth c H locs cells slots Q (F0 m pc ls (.ref (la κ i) :: rest)) := by
  obtain ⟨B, -, hown, hts, hK⟩ := E
  have hc := hC.2.1 κ i hκ.1 hκ.2 hlv
  by_cases h12 : κ = 12
  · rw [if_pos h12] at hc
    exact W.alen (n := iI (aLn κ)) B.1 B.2 hc ((hK.2 1 _ rfl).1 _ _) (by rw [arrV_size]; exact (iI_nat _)) rfl rfl d kk
  · rw [if_neg h12] at hc
    exact W.alen (n := iI (aLn κ)) B.1 B.2 hc ((hK.2 0 _ rfl).1 _ _) (by rw [arrV_size]; exact (iI_nat _)) rfl rfl d kk
end CA
