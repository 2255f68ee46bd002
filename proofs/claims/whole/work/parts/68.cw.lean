/-! shares depend on the bin's numbers, and on six of the tip's own -/
abbrev okG (f : Nat) : Bool := f == 11 || f == 12 || f == 16 || f == 17 || f == 18 || f == 19 || f == 20 || f == 21 || f == 22
abbrev okU (f : Nat) : Bool := f == 32 || f == 36 || f == 39 || f == 40 || f == 42 || f == 43
section SHC
variable {σ τ : MS} {u : Int}
theorem sWt_g (hg : ∀ f, okG f = true → τ f = σ f) (b h d : Int) : ∀ n : Nat, sWt τ b h d n = sWt σ b h d n
  | 0 => rfl
  | n + 1 => by rw [sWt, sWt, hg 19 rfl, hg 20 rfl, hg 21 rfl, sWt_g hg b h d n]
theorem sWeight_g (hg : ∀ f, okG f = true → τ f = σ f) (b h d : Int) : sWeight τ b h d = sWeight σ b h d := by
  unfold sWeight
  rw [hg 22 rfl, sWt_g hg]
theorem sHouse_g (hg : ∀ f, okG f = true → τ f = σ f) (b d : Int) : sHouse τ b d = sHouse σ b d := sHouse_c (hg 16 rfl) (hg 17 rfl) (hg 18 rfl) b d
theorem sAw_u (hg : ∀ f, okG f = true → τ f = σ f) (h36 : τ 36 u = σ 36 u) (h32 : τ 32 u = σ 32 u) : ∀ n : Nat, sAw τ u n = sAw σ u n
  | 0 => rfl
  | n + 1 => by rw [sAw, sAw, sAw_u hg h36 h32 n, h36, h32, sWeight_g hg]
theorem sAll_u (hg : ∀ f, okG f = true → τ f = σ f) (h36 : τ 36 u = σ 36 u) (h32 : τ 32 u = σ 32 u) : sAll τ u = sAll σ u := by
  unfold sAll
  rw [hg 11 rfl, sAw_u hg h36 h32]
theorem sChg_u (hg : ∀ f, okG f = true → τ f = σ f) (hu : ∀ f, okU f = true → τ f u = σ f u) : sChg τ u = sChg σ u := by
  have e : sNob τ u ↔ sNob σ u := by
    unfold sNob
    rw [hu 36 rfl, hu 32 rfl, hg 12 rfl, sAll_u hg (hu 36 rfl) (hu 32 rfl), sHouse_g hg]
  unfold sChg
  rw [hu 40 rfl, hu 42 rfl, hu 43 rfl, hu 39 rfl]
  by_cases h : ¬ σ 40 u = 1 ∨ sNob σ u
  · rw [if_pos h, if_pos (h.imp id e.mpr)]
  · rw [if_neg h, if_neg (fun z => h (z.imp id e.mp))]
theorem sLf_u (hg : ∀ f, okG f = true → τ f = σ f) (h36 : τ 36 u = σ 36 u) (h32 : τ 32 u = σ 32 u) (c a : Int) : ∀ n : Nat, sLf τ u c a n = sLf σ u c a n
  | 0 => rfl
  | n + 1 => by rw [sLf, sLf, sLf_u hg h36 h32 c a n, h36, h32, sWeight_g hg]
theorem sAh_u (hg : ∀ f, okG f = true → τ f = σ f) (h36 : τ 36 u = σ 36 u) (h32 : τ 32 u = σ 32 u) : ∀ n : Nat, sAh τ u n = sAh σ u n
  | 0 => rfl
  | n + 1 => by rw [sAh, sAh, sAh_u hg h36 h32 n, h36, h32, sWeight_g hg]
theorem sShr_u (hg : ∀ f, okG f = true → τ f = σ f) (hu : ∀ f, okU f = true → τ f u = σ f u) (h : Int) : sShr τ u h = sShr σ u h := by
  unfold sShr
  rw [hu 40 rfl, hu 36 rfl, hu 32 rfl, hg 12 rfl, hg 11 rfl, sHouse_g hg, sChg_u hg hu, sAll_u hg (hu 36 rfl) (hu 32 rfl), sWeight_g hg, sAh_u hg (hu 36 rfl) (hu 32 rfl), sLf_u hg (hu 36 rfl) (hu 32 rfl)]
end SHC
/-- a store into a tip's bin -/
def sN36 (κ k : Nat) : Bool := !(sT κ k == 1 || sT κ k == 2) || sF κ k != 36
theorem sN36_all : ((List.range 12).all fun κ => (List.range 13).all fun k => sN36 κ k) = true := by decide +kernel
theorem sF_36 {κ k : Nat} (h1 : κ < 12) (h2 : k < 13) (ht : sT κ k = 1 ∨ sT κ k = 2) : sF κ k ≠ 36 := by
  have h3 := List.all_eq_true.mp (List.all_eq_true.mp sN36_all κ (List.mem_range.mpr h1)) k (List.mem_range.mpr h2)
  have h5 : (sT κ k == 1 || sT κ k == 2) = true := by
    rcases ht with e | e <;> simp [e]
  unfold sN36 at h3
  rw [h5] at h3
  simpa [bne_iff_ne] using h3
theorem sT_10 : ((List.range 13).all fun k => !(sT 10 k == 3) || (k == 1 || k == 4)) = true := by decide +kernel
theorem sT_104 {k : Nat} (h : k < 13) (h3 : sT 10 k = 3) : k = 1 ∨ k = 4 := by
  have h4 := List.all_eq_true.mp sT_10 k (List.mem_range.mpr h)
  rw [h3] at h4
  simpa using h4
section C36
variable {la : Nat → Int → Nat} {σ : MS} {i v : Int}
theorem c36_live (κ : Nat) (j : Int) : cLive la (up σ 36 i v) κ j ↔ cLive la σ κ j := by
  unfold cLive
  rw [up_f (σ := σ) (k := 36) (k' := 5) (by decide), up_f (σ := σ) (k := 36) (k' := 11) (by decide), up_f (σ := σ) (k := 36) (k' := 23) (by decide), up_f (σ := σ) (k := 36) (k' := 27) (by decide), up_f (σ := σ) (k := 36) (k' := 45) (by decide), up_f (σ := σ) (k := 36) (k' := 18) (by decide), up_f (σ := σ) (k := 36) (k' := 22) (by decide)]
theorem c36_sz (L : Int) : cSz (up σ 36 i v) L = cSz σ L := by
  unfold cSz
  rw [up_f (σ := σ) (k := 36) (k' := 5) (by decide), up_f (σ := σ) (k := 36) (k' := 11) (by decide), up_f (σ := σ) (k := 36) (k' := 23) (by decide), up_f (σ := σ) (k := 36) (k' := 27) (by decide), up_f (σ := σ) (k := 36) (k' := 45) (by decide), up_f (σ := σ) (k := 36) (k' := 18) (by decide), up_f (σ := σ) (k := 36) (k' := 22) (by decide), up_f (σ := σ) (k := 36) (k' := 58) (by decide), up_f (σ := σ) (k := 36) (k' := 59) (by decide)]
theorem c36_aV (κ : Nat) (j q : Int) (h1 : 12 ≤ κ) (h2 : κ ≤ 17) : aV (up σ 36 i v) κ j q = aV σ κ j q := by
  unfold aV
  have hf : aF κ ≠ 36 := by
    rcases (show κ = 12 ∨ κ = 13 ∨ κ = 14 ∨ κ = 15 ∨ κ = 16 ∨ κ = 17 by omega) with rfl | rfl | rfl | rfl | rfl | rfl <;> decide
  rw [up_f hf]
theorem c36_V {κ k : Nat} {j : Int} (hκ : κ ≤ 11) (hk : k < 13) (hne : ¬ (κ = 10 ∧ k = 4 ∧ j = i)) : cV la (up σ 36 i v) κ j k = cV la σ κ j k := by
  unfold cV
  rw [c36_sz]
  by_cases h1 : sT κ k = 1
  · rw [if_neg (by omega), if_pos h1, if_neg (by omega), if_pos h1, up_f (sF_36 (by omega) hk (Or.inl h1))]
  · by_cases h2 : sT κ k = 2
    · rw [if_neg (by omega), if_neg h1, if_pos h2, if_neg (by omega), if_neg h1, if_pos h2, up_f (sF_36 (by omega) hk (Or.inr h2))]
    · rw [if_neg h1, if_neg h2, if_neg h1, if_neg h2]
      by_cases h3 : sT κ k = 3
      · rw [if_pos h3, if_pos h3]
        have e : cR la (up σ 36 i v) κ j k = cR la σ κ j k := by
          unfold cR
          rw [up_f (σ := σ) (k := 36) (k' := 6) (by decide), up_f (σ := σ) (k := 36) (k' := 16) (by decide), up_f (σ := σ) (k := 36) (k' := 19) (by decide), up_f (σ := σ) (k := 36) (k' := 33) (by decide)]
          by_cases hκ10 : κ = 10
          · subst hκ10
            rcases sT_104 hk h3 with rfl | rfl
            · rfl
            · rw [up_o (fun z => hne ⟨rfl, rfl, z⟩)]
          · simp only [hκ10, if_false]
        rw [e]
      · rw [if_neg h3, if_neg h3]
end C36
section CPB
variable {p : Program} {l : Launch} {e : Env} {R : Room} {s : State} {m : MethodId} {args : Array Value} {below : List Frame} {meth : Method} {c : Code} {H : Heap} {locs : List Loc} {cells slots : Nat} {Q : State → Prop}
variable {cc : ByteArray} {pc : Nat} {ls : Array Slot} {rest st : List Value} {nL : Nat} {lv : List (Nat × Value)} {Ts : List Cond} {D : va_G} {cy : Nat → ClassId} {d0 : Nat} {A : Nat → Prop} {la : Nat → Int → Nat} {σ : MS} {idx : Nat} {own ref C : String} {T : u_T}
theorem co_putB {v : Int} {val : Value} {ty0 : Nat → FieldType} (E : cE p s m args c cc nL own Ts D cy) (hC : CP D cy d0 A la σ H) (hS : va_S A s.heap H locs) {i : Int} (hlv : cLive la σ 10 i) (hc : vwCl[cCi 10]? = some (C, T, cN 10)) (hin : ∀ w ∈ u_ws C T (cN 10), w ∈ Ts) (hty : ∀ k, k < cN 10 → parseFieldDescriptor (T k).2.2.1 = some (ty0 k)) (hnm : ∀ a, a < cN 10 → ∀ b, b < cN 10 → a ≠ b → (T a).2.1 ≠ (T b).2.1) (hlink : (Cond.fieldLink own idx ref (T 4).2.1 (T 4).2.2.1).before args s = true) (hsame : ∀ x, s.fieldFound? (T 4).1 (T 4).2.1 (T 4).2.2.1 = some x → s.fieldFound? ref (T 4).2.1 (T 4).2.2.1 = some x) (hfin : (T 4).2.2.2 = false) (hd : ∃ n, parseFieldDescriptor (T 4).2.2.1 = some (.object n)) (hv : -2147483648 ≤ v ∧ v < 2147483648) (hval : (if v < 0 then Value.null else .ref (la 6 v)) = val) (d : decode cc pc = .ok (.putfield idx, 3))
    (kk : ∀ (H1 : Heap) (locs1 : List Loc), CP D cy d0 A la (up σ 36 i v) H1 → va_S A s.heap H1 locs1 → W p l e R s m args below meth c H1 locs1 cells slots Q (F0 m (pc + 3) ls rest)) : W p l e R s m args below meth c H locs cells slots Q (F0 m pc ls (val :: .ref (la 10 i) :: rest)) := by
  obtain ⟨B, -, hown, hts, hK⟩ := E
  obtain ⟨nb, hd⟩ := hd
  have hap := va_apart (own := own) hts hin ty0 hty hnm hK (ci := cCi 10) hc
  obtain ⟨cell, q1, q2, q3, q4⟩ := hC.ob (by decide) hlv
  obtain ⟨hSl, hfc, kC, hkC, hkind⟩ := hK.1 (cCi 10) _ hc
  obtain ⟨cf, kf, fi, f, hi, hsl⟩ := hSl 4 (show 4 < cN 10 by decide)
  have hlay := hts _ (hin _ (u_in_lay (N := cN 10) (by decide : 4 < cN 10)))
  unfold u_lay at hlay
  rw [if_neg (by rw [hfin]; decide)] at hlay
  have hst := (u_facts hfc hkC (u_lays hts hin (by decide : 4 < cN 10)) hi).1
  have hnr : narrow (.object nb) val = val := by subst hval; split <;> rfl
  have hfit : fits (.object nb) val = true := by subst hval; split <;> rfl
  have h6 := u_store hfc hkC hkind hlay hi hd hnr hfit
  refine W.putK B.1 B.2 (f := f) ⟨hown, hlink, ⟨_, _, _, hsame _ hi⟩, hst⟩ (by rw [q2]; exact h6) q1 q3 (by rw [hsl]; exact k2_hasslot (q4 4 (by decide))) rfl rfl d fun H' e1 e2 e3 => ?_
  rw [hsl] at e1 ⊢
  refine kk H' _ (hC.set (by decide) hlv ?_ e3 c36_live (fun κ' i' a b k' hk' => c36_V a (Nat.lt_of_lt_of_le hk' (cN_13 κ' a)) (fun z => b ⟨z.1, z.2.2⟩)) (fun κ' i' j a b => c36_aV κ' i' j a b) c36_sz (cW_up hC.2.2.2.2.2.1 (fun _ => hv) (fun q => by cases q))) (hS.put e2 e3 (hC.2.2.2.2.1 10 i (by omega) hlv))
  refine t_OB.to (V := updV (cV la σ 10 i) 4 val) ⟨_, e1, q2, q3, t_set q4 hap (by decide) _⟩ (fun j hj => ?_)
  by_cases hjk : j = 4
  · subst hjk
    simp only [updV, if_true]
    rw [← hval]
    have e9 : cV la (up σ 36 i v) 10 i 4 = va_rf (if up σ 36 i v 36 i < 0 then none else some (la 6 (up σ 36 i v 36 i))) := rfl
    rw [e9, up_s]
    split <;> rfl
  · simp only [updV, if_neg hjk]
    exact (c36_V (by decide) hj (fun z => hjk z.2.1)).symm
end CPB
