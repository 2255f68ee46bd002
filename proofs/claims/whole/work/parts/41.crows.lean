abbrev okf (f : Nat) : Bool := f != 58 && f != 59 && f != 5 && f != 11 && f != 23 && f != 27 && f != 45 && f != 18 && f != 22 && f != 6 && f != 16 && f != 19 && f != 33 && f != 36 && f != 2 && f != 28 && f != 29 && f != 56 && f != 3 && f != 4
def cUq (κ k : Nat) : Bool := (List.range 12).all fun κ' => (List.range 13).all fun k' => !((sT κ' k' == 1 || sT κ' k' == 2) && sF κ' k' == sF κ k) || (κ' == κ && k' == k)
theorem cUq_s {κ k κ' k' : Nat} (h : cUq κ k = true) (h1 : κ' ≤ 11) (h2 : k' < 13) (ht : sT κ' k' = 1 ∨ sT κ' k' = 2) (hf : sF κ' k' = sF κ k) : κ' = κ ∧ k' = k := by
  unfold cUq at h
  have h3 := List.all_eq_true.mp h κ' (List.mem_range.mpr (by omega))
  have h4 := List.all_eq_true.mp h3 k' (List.mem_range.mpr h2)
  have h5 : (sT κ' k' == 1 || sT κ' k' == 2) = true := by
    rcases ht with e | e <;> simp [e]
  have h6 : (sF κ' k' == sF κ k) = true := by simp [hf]
  rw [h5, h6] at h4
  simpa using h4
theorem cN_13 : ∀ κ, κ ≤ 11 → cN κ ≤ 13 := by decide
section CU
variable {la : Nat → Int → Nat} {σ : MS} {f : Nat} {i v : Int}
theorem cup_g (h : okf f = true) : ∀ g ∈ [58, 59, 5, 11, 23, 27, 45, 18, 22, 6, 16, 19, 33, 36, 2, 28, 29, 56, 3, 4], up σ f i v g = σ g := by
  intro g hg
  simp only [okf, Bool.and_eq_true, bne_iff_ne, ne_eq] at h
  refine up_f (fun e => ?_)
  subst e
  simp at hg
  omega
theorem cup_live (h : okf f = true) (κ : Nat) (j : Int) : cLive la (up σ f i v) κ j ↔ cLive la σ κ j := by
  have e := cup_g (σ := σ) (i := i) (v := v) h
  unfold cLive
  rw [e 5 (by decide), e 11 (by decide), e 23 (by decide), e 27 (by decide), e 45 (by decide), e 18 (by decide), e 22 (by decide)]
theorem cup_sz (h : okf f = true) (L : Int) : cSz (up σ f i v) L = cSz σ L := by
  have e := cup_g (σ := σ) (i := i) (v := v) h
  unfold cSz
  rw [e 58 (by decide), e 59 (by decide), e 5 (by decide), e 11 (by decide), e 23 (by decide), e 27 (by decide), e 45 (by decide), e 18 (by decide), e 22 (by decide)]
theorem cup_R (h : okf f = true) (κ : Nat) (j : Int) (k : Nat) : cR la (up σ f i v) κ j k = cR la σ κ j k := by
  have e := cup_g (σ := σ) (i := i) (v := v) h
  unfold cR
  rw [e 6 (by decide), e 16 (by decide), e 19 (by decide), e 33 (by decide), e 36 (by decide)]
theorem cup_aV (h : okf f = true) (κ : Nat) (j q : Int) (h1 : 12 ≤ κ) (h2 : κ ≤ 17) : aV (up σ f i v) κ j q = aV σ κ j q := by
  have e := cup_g (σ := σ) (i := i) (v := v) h
  unfold aV
  have hf : aF κ = 2 ∨ aF κ = 28 ∨ aF κ = 29 ∨ aF κ = 56 ∨ aF κ = 3 ∨ aF κ = 4 := by
    rcases (show κ = 12 ∨ κ = 13 ∨ κ = 14 ∨ κ = 15 ∨ κ = 16 ∨ κ = 17 by omega) with rfl | rfl | rfl | rfl | rfl | rfl <;> decide
  rcases hf with a | a | a | a | a | a <;> rw [a] <;> rw [e _ (by decide)]
theorem cup_V (h : okf f = true) {κ k : Nat} {j : Int} (hne : ¬ (sF κ k = f ∧ (sT κ k = 1 ∨ sT κ k = 2) ∧ j = i)) : cV la (up σ f i v) κ j k = cV la σ κ j k := by
  unfold cV
  rw [cup_sz h, cup_R h]
  by_cases h1 : sT κ k = 1
  · rw [if_neg (by omega), if_pos h1, if_neg (by omega), if_pos h1]
    rw [up_rd, if_neg (fun q => hne ⟨q.1, Or.inl h1, q.2⟩)]
  · by_cases h2 : sT κ k = 2
    · rw [if_neg (by omega), if_neg h1, if_pos h2, if_neg (by omega), if_neg h1, if_pos h2]
      rw [up_rd, if_neg (fun q => hne ⟨q.1, Or.inr h2, q.2⟩)]
    · rw [if_neg h1, if_neg h2, if_neg h1, if_neg h2]
end CU
/-- what a body of the class stands on -/
def cE (p : Program) (s : State) (m : MethodId) (args : Array Value) (c : Code) (cc : ByteArray) (nL : Nat) (own : String) (Ts : List Cond) (D : va_G) (cy : Nat → ClassId) : Prop :=
  xB p c cc ∧ c.maxLocals = nL ∧ s.vm.findClass own = some m.cls ∧ (∀ w ∈ Ts, w.before args s = true) ∧ va_K D vwCl (cty cy) s
section CR
variable {p : Program} {l : Launch} {e : Env} {R : Room} {s : State} {m : MethodId} {args : Array Value} {below : List Frame} {meth : Method} {c : Code} {H : Heap} {locs : List Loc} {cells slots : Nat} {Q : State → Prop}
variable {cc : ByteArray} {pc : Nat} {ls : Array Slot} {rest st : List Value} {nL : Nat} {lv : List (Nat × Value)} {Ts : List Cond} {D : va_G} {cy : Nat → ClassId} {d0 : Nat} {A : Nat → Prop} {la : Nat → Int → Nat} {σ : MS} {idx : Nat} {own ref C : String} {T : u_T}
theorem co_get (E : cE p s m args c cc nL own Ts D cy) (hC : CP D cy d0 A la σ H) (κ : Nat) {i : Int} (hκ : κ ≤ 11) (hlv : cLive la σ κ i) (hc : vwCl[cCi κ]? = some (C, T, cN κ)) (hin : ∀ w ∈ u_ws C T (cN κ), w ∈ Ts) (k : Nat) (hk : k < cN κ) (hlink : (Cond.fieldLink own idx ref (T k).2.1 (T k).2.2.1).before args s = true) (hsame : ∀ x, s.fieldFound? (T k).1 (T k).2.1 (T k).2.2.1 = some x → s.fieldFound? ref (T k).2.1 (T k).2.2.1 = some x) (d : decode cc pc = .ok (.getfield idx, 3)) (kk : W p l e R s m args below meth c H locs cells slots Q (F0 m (pc + 3) ls (cV la σ κ i k :: rest))) : W p l e R s m args below meth c H locs cells slots Q (F0 m pc ls (.ref (la κ i) :: rest)) := by
  obtain ⟨B, -, hown, hts, hK⟩ := E
  have hP : va_P D vwCl [(la κ i, .inr (cCi κ, (List.range (cN κ)).map (cV la σ κ i)))] H := by
    intro k0 q hq
    match k0, hq with
    | 0, hq =>
      cases hq
      exact ⟨_, hc, (hC.ob hκ hlv).to (fun j hj => by simp [vp_V, hj])⟩
    | k0 + 1, hq => simp at hq
  exact va_get (D := D) (ci := cCi κ) (v := cV la σ κ i k) (C := C) (T := T) (N := cN κ) B.1 B.2 hts hin hown hK hP 0 rfl hc k hk hlink hsame (by simp [hk]) d kk
theorem co_geti {f : Nat} {w : Int} (E : cE p s m args c cc nL own Ts D cy) (hC : CP D cy d0 A la σ H) (κ : Nat) {i : Int} (hκ : κ ≤ 11) (hlv : cLive la σ κ i) (hc : vwCl[cCi κ]? = some (C, T, cN κ)) (hin : ∀ w ∈ u_ws C T (cN κ), w ∈ Ts) (k : Nat) (hk : k < cN κ) (hlink : (Cond.fieldLink own idx ref (T k).2.1 (T k).2.2.1).before args s = true) (hsame : ∀ x, s.fieldFound? (T k).1 (T k).2.1 (T k).2.2.1 = some x → s.fieldFound? ref (T k).2.1 (T k).2.2.1 = some x) (d : decode cc pc = .ok (.getfield idx, 3)) (ht : sT κ k = 1 ∧ sF κ k = f ∧ cLong f = false) (hv : σ f i = w) (kk : -2147483648 ≤ w ∧ w < 2147483648 → W p l e R s m args below meth c H locs cells slots Q (F0 m (pc + 3) ls (.int (iI w) :: rest))) : W p l e R s m args below meth c H locs cells slots Q (F0 m pc ls (.ref (la κ i) :: rest)) := by
  obtain ⟨h1, h2, h3⟩ := ht
  subst h2; subst hv
  refine co_get E hC κ hκ hlv hc hin k hk hlink hsame d ?_
  rw [show cV la σ κ i k = .int (iI (σ (sF κ k) i)) by simp [cV, h1]]
  exact kk (hC.2.2.2.2.2.1.1 _ _ h3)
theorem co_getb {f : Nat} {w : Int} (E : cE p s m args c cc nL own Ts D cy) (hC : CP D cy d0 A la σ H) (κ : Nat) {i : Int} (hκ : κ ≤ 11) (hlv : cLive la σ κ i) (hc : vwCl[cCi κ]? = some (C, T, cN κ)) (hin : ∀ w ∈ u_ws C T (cN κ), w ∈ Ts) (k : Nat) (hk : k < cN κ) (hlink : (Cond.fieldLink own idx ref (T k).2.1 (T k).2.2.1).before args s = true) (hsame : ∀ x, s.fieldFound? (T k).1 (T k).2.1 (T k).2.2.1 = some x → s.fieldFound? ref (T k).2.1 (T k).2.2.1 = some x) (d : decode cc pc = .ok (.getfield idx, 3)) (ht : sT κ k = 1 ∧ sF κ k = f ∧ cBool f = true) (hv : σ f i = w) (kk : w = 0 ∨ w = 1 → W p l e R s m args below meth c H locs cells slots Q (F0 m (pc + 3) ls (.int (iI w) :: rest))) : W p l e R s m args below meth c H locs cells slots Q (F0 m pc ls (.ref (la κ i) :: rest)) := by
  obtain ⟨h1, h2, h3⟩ := ht
  subst h2; subst hv
  refine co_get E hC κ hκ hlv hc hin k hk hlink hsame d ?_
  rw [show cV la σ κ i k = .int (iI (σ (sF κ k) i)) by simp [cV, h1]]
  exact kk (hC.2.2.2.2.2.1.2 _ _ h3)
theorem co_getn (E : cE p s m args c cc nL own Ts D cy) (hC : CP D cy d0 A la σ H) (κ : Nat) {i : Int} (hκ : κ ≤ 11) (hlv : cLive la σ κ i) (hc : vwCl[cCi κ]? = some (C, T, cN κ)) (hin : ∀ w ∈ u_ws C T (cN κ), w ∈ Ts) (k : Nat) (hk : k < cN κ) (hlink : (Cond.fieldLink own idx ref (T k).2.1 (T k).2.2.1).before args s = true) (hsame : ∀ x, s.fieldFound? (T k).1 (T k).2.1 (T k).2.2.1 = some x → s.fieldFound? ref (T k).2.1 (T k).2.2.1 = some x) (d : decode cc pc = .ok (.getfield idx, 3)) (ht : sT κ k = 0) (kk : W p l e R s m args below meth c H locs cells slots Q (F0 m (pc + 3) ls (.int (iI i) :: rest))) : W p l e R s m args below meth c H locs cells slots Q (F0 m pc ls (.ref (la κ i) :: rest)) := by
  refine co_get E hC κ hκ hlv hc hin k hk hlink hsame d ?_
  rw [show cV la σ κ i k = .int (iI i) by simp [cV, ht]]
  exact kk
theorem co_getz {w : Int} (E : cE p s m args c cc nL own Ts D cy) (hC : CP D cy d0 A la σ H) (κ : Nat) {i : Int} (hκ : κ ≤ 11) (hlv : cLive la σ κ i) (hc : vwCl[cCi κ]? = some (C, T, cN κ)) (hin : ∀ w ∈ u_ws C T (cN κ), w ∈ Ts) (k : Nat) (hk : k < cN κ) (hlink : (Cond.fieldLink own idx ref (T k).2.1 (T k).2.2.1).before args s = true) (hsame : ∀ x, s.fieldFound? (T k).1 (T k).2.1 (T k).2.2.1 = some x → s.fieldFound? ref (T k).2.1 (T k).2.2.1 = some x) (d : decode cc pc = .ok (.getfield idx, 3)) (ht : sT κ k = 4) (hv : cSz σ i = w) (kk : W p l e R s m args below meth c H locs cells slots Q (F0 m (pc + 3) ls (.int (iI w) :: rest))) : W p l e R s m args below meth c H locs cells slots Q (F0 m pc ls (.ref (la κ i) :: rest)) := by
  subst hv
  refine co_get E hC κ hκ hlv hc hin k hk hlink hsame d ?_
  rw [show cV la σ κ i k = .int (iI (cSz σ i)) by simp [cV, ht]]
  exact kk
theorem co_getl {f : Nat} {w : Int} (E : cE p s m args c cc nL own Ts D cy) (hC : CP D cy d0 A la σ H) (κ : Nat) {i : Int} (hκ : κ ≤ 11) (hlv : cLive la σ κ i) (hc : vwCl[cCi κ]? = some (C, T, cN κ)) (hin : ∀ w ∈ u_ws C T (cN κ), w ∈ Ts) (k : Nat) (hk : k < cN κ) (hlink : (Cond.fieldLink own idx ref (T k).2.1 (T k).2.2.1).before args s = true) (hsame : ∀ x, s.fieldFound? (T k).1 (T k).2.1 (T k).2.2.1 = some x → s.fieldFound? ref (T k).2.1 (T k).2.2.1 = some x) (d : decode cc pc = .ok (.getfield idx, 3)) (ht : sT κ k = 2 ∧ sF κ k = f) (hv : σ f i = w) (kk : W p l e R s m args below meth c H locs cells slots Q (F0 m (pc + 3) ls (.long (lI w) :: rest))) : W p l e R s m args below meth c H locs cells slots Q (F0 m pc ls (.ref (la κ i) :: rest)) := by
  obtain ⟨h1, h2⟩ := ht
  subst h2; subst hv
  refine co_get E hC κ hκ hlv hc hin k hk hlink hsame d ?_
  rw [show cV la σ κ i k = .long (lI (σ (sF κ k) i)) by simp [cV, h1]]
  exact kk
theorem co_getr {r : Option Nat} (E : cE p s m args c cc nL own Ts D cy) (hC : CP D cy d0 A la σ H) (κ : Nat) {i : Int} (hκ : κ ≤ 11) (hlv : cLive la σ κ i) (hc : vwCl[cCi κ]? = some (C, T, cN κ)) (hin : ∀ w ∈ u_ws C T (cN κ), w ∈ Ts) (k : Nat) (hk : k < cN κ) (hlink : (Cond.fieldLink own idx ref (T k).2.1 (T k).2.2.1).before args s = true) (hsame : ∀ x, s.fieldFound? (T k).1 (T k).2.1 (T k).2.2.1 = some x → s.fieldFound? ref (T k).2.1 (T k).2.2.1 = some x) (d : decode cc pc = .ok (.getfield idx, 3)) (ht : sT κ k = 3) (hr : cR la σ κ i k = r) (kk : W p l e R s m args below meth c H locs cells slots Q (F0 m (pc + 3) ls (va_rf r :: rest))) : W p l e R s m args below meth c H locs cells slots Q (F0 m pc ls (.ref (la κ i) :: rest)) := by
  subst hr
  refine co_get E hC κ hκ hlv hc hin k hk hlink hsame d ?_
  rw [show cV la σ κ i k = va_rf (cR la σ κ i k) by simp [cV, ht]]
  exact kk
theorem co_put {val : Value} {v : Int} {ty : FieldType} {ty0 : Nat → FieldType} (E : cE p s m args c cc nL own Ts D cy) (hC : CP D cy d0 A la σ H) (hS : va_S A s.heap H locs) (κ : Nat) {i : Int} (hκ : κ ≤ 11) (hlv : cLive la σ κ i) (hc : vwCl[cCi κ]? = some (C, T, cN κ)) (hin : ∀ w ∈ u_ws C T (cN κ), w ∈ Ts) (hty : ∀ k, k < cN κ → parseFieldDescriptor (T k).2.2.1 = some (ty0 k)) (hnm : ∀ a, a < cN κ → ∀ b, b < cN κ → a ≠ b → (T a).2.1 ≠ (T b).2.1) (k : Nat) (hk : k < cN κ) (hlink : (Cond.fieldLink own idx ref (T k).2.1 (T k).2.2.1).before args s = true) (hsame : ∀ x, s.fieldFound? (T k).1 (T k).2.1 (T k).2.2.1 = some x → s.fieldFound? ref (T k).2.1 (T k).2.2.1 = some x) (hfin : (T k).2.2.2 = false) (hd : parseFieldDescriptor (T k).2.2.1 = some ty) (hnr : narrow ty val = val) (hfit : fits ty val = true) (d : decode cc pc = .ok (.putfield idx, 3))
    (hu : (okf (sF κ k) && cUq κ k) = true) (hval : cV la (up σ (sF κ k) i v) κ i k = val) (hw : cW (up σ (sF κ k) i v))
    (kk : ∀ (H1 : Heap) (locs1 : List Loc), CP D cy d0 A la (up σ (sF κ k) i v) H1 → va_S A s.heap H1 locs1 → W p l e R s m args below meth c H1 locs1 cells slots Q (F0 m (pc + 3) ls rest)) : W p l e R s m args below meth c H locs cells slots Q (F0 m pc ls (val :: .ref (la κ i) :: rest)) := by
  obtain ⟨B, -, hown, hts, hK⟩ := E
  rw [Bool.and_eq_true] at hu
  have hap := va_apart (own := own) hts hin ty0 hty hnm hK (ci := cCi κ) hc
  obtain ⟨cell, q1, q2, q3, q4⟩ := hC.ob hκ hlv
  obtain ⟨hSl, hfc, kC, hkC, hkind⟩ := hK.1 (cCi κ) _ hc
  obtain ⟨cf, kf, fi, f, hi, hsl⟩ := hSl k hk
  have hlay := hts _ (hin _ (u_in_lay hk))
  unfold u_lay at hlay
  rw [if_neg (by rw [hfin]; decide)] at hlay
  have hst := (u_facts hfc hkC (u_lays hts hin hk) hi).1
  have h6 := u_store hfc hkC hkind hlay hi hd hnr hfit
  refine W.putK B.1 B.2 (f := f) ⟨hown, hlink, ⟨_, _, _, hsame _ hi⟩, hst⟩ (by rw [q2]; exact h6) q1 q3 (by rw [hsl]; exact k2_hasslot (q4 k hk)) rfl rfl d fun H' e1 e2 e3 => ?_
  rw [hsl] at e1 ⊢
  refine kk H' _ (hC.set hκ hlv ?_ e3 (cup_live hu.1) (fun κ' i' a b k' hk' => cup_V hu.1 (fun z => b ⟨(cUq_s hu.2 a (Nat.lt_of_lt_of_le hk' (cN_13 κ' a)) z.2.1 z.1).1, z.2.2⟩)) (fun κ' i' j a b => cup_aV hu.1 κ' i' j a b) (cup_sz hu.1) hw) (hS.put e2 e3 (hC.2.2.2.2.1 κ i (by omega) hlv))
  refine t_OB.to (V := updV (cV la σ κ i) k val) ⟨_, e1, q2, q3, t_set q4 hap hk _⟩ (fun j hj => ?_)
  by_cases hjk : j = k
  · subst hjk
    simp only [updV, if_true]
    exact hval.symm
  · simp only [updV, if_neg hjk]
    exact (cup_V hu.1 (fun z => hjk (cUq_s hu.2 hκ (Nat.lt_of_lt_of_le hj (cN_13 κ hκ)) z.2.1 z.1).2)).symm
end CR
theorem cW_up {σ : MS} {k : Nat} {j v : Int} (h : cW σ) (h1 : cLong k = false → -2147483648 ≤ v ∧ v < 2147483648) (h3 : cBool k = true → v = 0 ∨ v = 1) : cW (up σ k j v) := by
  refine ⟨fun k' j' hk => ?_, fun k' j' hk => ?_⟩ <;> by_cases hq : k' = k ∧ j' = j
  · rw [show up σ k j v k' j' = v by simp [up, hq]]; exact h1 (hq.1 ▸ hk)
  · rw [show up σ k j v k' j' = σ k' j' by simp [up, hq]]; exact h.1 k' j' hk
  · rw [show up σ k j v k' j' = v by simp [up, hq]]; exact h3 (hq.1 ▸ hk)
  · rw [show up σ k j v k' j' = σ k' j' by simp [up, hq]]; exact h.2 k' j' hk
