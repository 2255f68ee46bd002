/-- what holds does not see the reference's scratch -/
theorem cInv.scr {n : Int} {σ τ : MS} (I : cInv n σ) (hx : ∀ f, f ≠ 0 → f ≠ 46 → f ≠ 47 → τ f = σ f) : cInv n τ := by
  have he : ∀ f, (f != 0 && f != 46 && f != 47) = true → τ f = σ f := fun f hf => by
    simp only [Bool.and_eq_true, bne_iff_ne, ne_eq] at hf
    exact hx f hf.1.1 hf.1.2 hf.2
  have hS : ∀ u h, sShr τ u h = sShr σ u h := fun u h => sShr_u (fun f hf => he f (by
    simp only [okG, Bool.or_eq_true, beq_iff_eq] at hf
    simp only [Bool.and_eq_true, bne_iff_ne, ne_eq]
    omega)) (fun f hf => congrFun (he f (by
    simp only [okU, Bool.or_eq_true, beq_iff_eq] at hf
    simp only [Bool.and_eq_true, bne_iff_ne, ne_eq]
    omega)) u) h
  have hg : ∀ k j, sRg n k (τ k j) := fun k j => by
    by_cases hk : (k != 0 && k != 46 && k != 47) = true
    · rw [he k hk]; exact I.g k j
    · refine sRg_f ?_
      simp only [Bool.and_eq_true, bne_iff_ne, ne_eq] at hk ⊢
      omega
  refine ⟨I.n0, hg, cRefs_c (fun f hf => he f (by
    simp only [okCR, Bool.or_eq_true, beq_iff_eq] at hf
    simp only [Bool.and_eq_true, bne_iff_ne, ne_eq]
    omega)) I.r, ?_, ?_, ?_, ?_, ?_, ?_, ?_, ?_, ?_, ?_, ?_, ?_, ?_, ?_, ?_, ?_, ?_, ?_, ?_, ?_⟩
  · rw [he 58 rfl, he 59 rfl]; exact I.lg
  · rw [he 57 rfl]; exact I.mc
  · unfold sOrd; rw [he 45 rfl, he 32 rfl, he 1 rfl]; exact I.ord
  · rw [he 23 rfl, he 18 rfl, he 17 rfl, he 1 rfl]; exact I.bin
  · rw [he 11 rfl, he 7 rfl, he 8 rfl, he 9 rfl, he 10 rfl]; exact I.z7
  · rw [he 27 rfl, he 25 rfl]; exact I.z25
  · rw [he 5 rfl, he 3 rfl, he 4 rfl]; exact I.z3
  · rw [he 23 rfl, he 15 rfl, he 22 rfl]; exact I.z22
  · rw [he 23 rfl, he 18 rfl]; exact I.z18
  · rw [he 45 rfl, he 39 rfl, he 40 rfl, he 41 rfl, he 42 rfl, he 43 rfl]; exact I.z39
  · rw [he 23 rfl, he 11 rfl]; exact I.h23
  · rw [he 11 rfl, he 19 rfl]; exact I.h19
  · rw [he 27 rfl, he 54 rfl]; exact I.h54
  · rw [he 40 rfl, he 36 rfl]; exact I.t40
  · rw [he 37 rfl, he 36 rfl]; exact I.t37
  · rw [he 41 rfl, he 36 rfl, he 23 rfl, he 12 rfl]; exact I.t41
  · rw [he 45 rfl, he 32 rfl, he 1 rfl, he 40 rfl, he 44 rfl]; exact I.top
  · unfold sGs; rw [he 45 rfl, he 32 rfl, he 1 rfl, he 44 rfl, he 33 rfl, he 39 rfl]; exact I.gt
  · rw [he 45 rfl, he 32 rfl, he 33 rfl, he 44 rfl]; exact I.ge
  · intro h a b
    rw [he 11 rfl] at b
    rw [he 50 rfl, he 45 rfl, I.fr h a b]
    congr 1
    funext u
    exact (hS u h).symm
/-- the class's numbers with the reference's scratch -/
def mrg (τm τ : MS) : MS := fun k => if k = 0 ∨ k = 46 ∨ k = 47 then τm k else τ k
theorem mrg_f {τm τ : MS} {k : Nat} (h0 : k ≠ 0) (h1 : k ≠ 46) (h2 : k ≠ 47) : mrg τm τ k = τ k := by
  unfold mrg
  rw [if_neg (by omega)]
theorem mrg_s {τm τ : MS} {k : Nat} (h : k = 0 ∨ k = 46 ∨ k = 47) : mrg τm τ k = τm k := by
  unfold mrg
  rw [if_pos h]
theorem mKd_48 {k : Nat} (h : 48 ≤ k) : mKd k = 3 := by
  obtain ⟨j, rfl⟩ : ∃ j, k = j + 48 := ⟨k - 48, by omega⟩
  rfl
theorem cW_mrg {τm τ : MS} (h : cW τ) (hm : mW τm) : cW (mrg τm (nz τ)) := by
  refine ⟨fun k j hk => ?_, fun k j hk => ?_⟩
  · by_cases hz : k = 0 ∨ k = 46 ∨ k = 47
    · rw [mrg_s hz]
      refine hm.1 k j ?_
      rcases hz with rfl | rfl | rfl <;> decide
    · rw [mrg_f (by omega) (by omega) (by omega)]
      unfold nz
      split
      · decide
      · exact h.1 k j hk
  · by_cases hz : k = 0 ∨ k = 46 ∨ k = 47
    · rcases hz with rfl | rfl | rfl <;> exact absurd hk (by decide)
    · rw [mrg_f (by omega) (by omega) (by omega)]
      unfold nz
      split
      · exact Or.inl rfl
      · exact h.2 k j hk
theorem mW_mrg {τm τ : MS} (hm : mW τm) (he : ∀ k, k < 48 → mrg τm τ k = τm k) : mW (mrg τm τ) := by
  refine ⟨fun k j hk => ?_, fun k j hk => ?_⟩
  · by_cases h : k < 48
    · rw [he k h]; exact hm.1 k j hk
    · exact absurd (mKd_48 (by omega)) hk
  · by_cases h : k < 48
    · rw [he k h]; exact hm.2 k j hk
    · rw [mKd_48 (by omega)] at hk; exact absurd hk (by decide)
theorem lm_core {D : va_G} {cy : Nat → ClassId} {d0 : Nat} {A : Nat → Prop} {la' : Nat → Int → Nat} {τ τm : MS} {H : Heap} {o : Nat} {ad : Nat → Nat} {n : Int} (hC : CP D cy d0 A la' τ H) (I : cInv n (nz τ)) (hcp : ∀ L, cLive la' τ 11 L → la' 19 L ≤ 1000) (hM : MP D cy o ad τm H) (he : ∀ k, k < 48 → k ≠ 0 → k ≠ 46 → k ≠ 47 → τm k = nz τ k) : CP D cy d0 A la' (mrg τm (nz τ)) H ∧ MP D cy o ad (mrg τm (nz τ)) H ∧ cInv n (mrg τm (nz τ)) ∧ ∀ L, cLive la' (mrg τm (nz τ)) 11 L → la' 19 L ≤ 1000 := by
  have hE : ∀ k, k < 48 → mrg τm (nz τ) k = τm k := fun k hk => by
    by_cases hz : k = 0 ∨ k = 46 ∨ k = 47
    · exact mrg_s hz
    · rw [mrg_f (by omega) (by omega) (by omega)]
      exact (he k hk (by omega) (by omega) (by omega)).symm
  refine ⟨hC.live (fun f a b c d => by rw [mrg_f a b c, nz_f d]) (fun c a b => by rw [mrg_f (by decide) (by decide) (by decide)]; exact nz_54 ⟨a, b⟩) (cW_mrg hC.2.2.2.2.2.1 hM.2.2.2), hM.to (fun k hk j => congrFun (hE k hk) j) (mW_mrg hM.2.2.2 hE), I.scr (fun f a b c => mrg_f a b c), fun L hL => hcp L ?_⟩
  have h2 : 0 ≤ L ∧ L < 5 + 2 * mrg τm (nz τ) 23 0 := hL
  rw [mrg_f (by decide) (by decide) (by decide), nz_f (by decide)] at h2
  exact h2
/-- one town, both ways -/
def lB (D : va_G) (cy : Nat → ClassId) (d0 : Nat) (A : Nat → Prop) (o : Nat) (ad : Nat → Nat) (a x : Nat) (n : Int) (la : Nat → Int → Nat) (σ : MS) (H : Heap) : Prop :=
  CP D cy d0 A la σ H ∧ MP D cy o ad σ H ∧ cInv n σ ∧ (∀ L, cLive la σ 11 L → la 19 L ≤ 1000) ∧ outA cy a H ∧ la 0 0 = x
/-- what a wrapper leaves -/
abbrev lPo (la : Nat → Int → Nat) (n : Int) (S : MS) : (Nat → Int → Nat) → MS → Prop := fun la' τ => (la' 0 0 = la 0 0 ∧ ∀ L, cLive la' τ 11 L → la' 19 L ≤ 1000) ∧ iStp n S (nz τ)
abbrev lPq (la : Nat → Int → Nat) (n : Int) (Rv : Int) (RG : Int → Prop) (S : MS) : Int → (Nat → Int → Nat) → MS → Prop := fun r la' τ => (r = Rv ∧ RG r) ∧ (la' 0 0 = la 0 0 ∧ ∀ L, cLive la' τ 11 L → la' 19 L ≤ 1000) ∧ iStp n S (nz τ)
theorem lm_w {D : va_G} {cy : Nat → ClassId} {d0 : Nat} {A : Nat → Prop} {la : Nat → Int → Nat} {σ S τm : MS} {H : Heap} {o a : Nat} {ad : Nat → Nat} {n C Rv : Int} {RG : Int → Prop} (hQ : LQ D cy d0 A la σ a C (lPq la n Rv RG S) H) (I : cInv n σ) (hn : n + 1 ≤ 600) (hcp : ∀ L, cLive la σ 11 L → la 19 L ≤ 1000) (hM : MP D cy o ad τm H) (hE : pEnd C S σ τm) : ∃ la' υ, lB D cy d0 A o ad a (la 0 0) (n + 1) la' υ H ∧ υ 0 0 = C ∧ (C = 0 → H[a]? = some (arrV (cy 3) 1 (fun _ => .long (lI Rv))) ∧ RG Rv) := by
  rcases hQ with ⟨hC, r, la', τ, ⟨⟨rfl, hrg⟩, ⟨hx, hc⟩, hst⟩, hCP, ho⟩ | ⟨hC, hCP, ho⟩
  · obtain ⟨e0, e1⟩ := hE
    rw [if_pos hC] at e1
    obtain ⟨h1, h2, h3, h4⟩ := lm_core hCP hst.1 hc hM (fun k a b c d => by rw [e1 k b c d, hst.2 k a b c d])
    exact ⟨la', _, ⟨h1, h2, h3, h4, ⟨_, ho⟩, hx⟩, (congrFun (mrg_s (Or.inl rfl)) 0).trans e0, fun _ => ⟨ho, hrg⟩⟩
  · obtain ⟨e0, e1⟩ := hE
    rw [if_neg hC] at e1
    have I1 : cInv (n + 1) (nz σ) := by rw [I.nzE]; exact (I.same hn (fun _ _ => rfl)).1
    obtain ⟨h1, h2, h3, h4⟩ := lm_core hCP I1 hcp hM (fun k a b c d => by rw [I.nzE, e1 k b c d])
    exact ⟨la, _, ⟨h1, h2, h3, h4, ho, rfl⟩, (congrFun (mrg_s (Or.inl rfl)) 0).trans e0, fun z => absurd z hC⟩
theorem lm_v {D : va_G} {cy : Nat → ClassId} {d0 : Nat} {A : Nat → Prop} {la : Nat → Int → Nat} {σ S τm : MS} {H : Heap} {o a : Nat} {ad : Nat → Nat} {n C : Int} (hQ : LQv D cy d0 A la σ C (lPo la n S) H) (ho : outA cy a H) (I : cInv n σ) (hn : n + 1 ≤ 600) (hcp : ∀ L, cLive la σ 11 L → la 19 L ≤ 1000) (hM : MP D cy o ad τm H) (hE : pEnd C S σ τm) : ∃ la' υ, lB D cy d0 A o ad a (la 0 0) (n + 1) la' υ H ∧ υ 0 0 = C := by
  rcases hQ with ⟨hC, la', τ, ⟨⟨hx, hc⟩, hst⟩, hCP⟩ | ⟨hC, hCP⟩
  · obtain ⟨e0, e1⟩ := hE
    rw [if_pos hC] at e1
    obtain ⟨h1, h2, h3, h4⟩ := lm_core hCP hst.1 hc hM (fun k a b c d => by rw [e1 k b c d, hst.2 k a b c d])
    exact ⟨la', _, ⟨h1, h2, h3, h4, ho, hx⟩, (congrFun (mrg_s (Or.inl rfl)) 0).trans e0⟩
  · obtain ⟨e0, e1⟩ := hE
    rw [if_neg hC] at e1
    have I1 : cInv (n + 1) (nz σ) := by rw [I.nzE]; exact (I.same hn (fun _ _ => rfl)).1
    obtain ⟨h1, h2, h3, h4⟩ := lm_core hCP I1 hcp hM (fun k a b c d => by rw [I.nzE, e1 k b c d])
    exact ⟨la, _, ⟨h1, h2, h3, h4, ho, rfl⟩, (congrFun (mrg_s (Or.inl rfl)) 0).trans e0⟩
theorem outA.lt {cy : Nat → ClassId} {a : Nat} {H : Heap} (h : outA cy a H) : a < H.size := by
  obtain ⟨f, hf⟩ := h
  exact (Array.getElem?_eq_some_iff.mp hf).1
theorem outA.kept {cy : Nat → ClassId} {a : Nat} {H H1 : Heap} (h : outA cy a H) (ha : H1[a]? = H[a]?) : outA cy a H1 := by
  obtain ⟨f, hf⟩ := h
  exact ⟨f, ha.trans hf⟩
theorem CP.kq {D : va_G} {cy : Nat → ClassId} {d0 : Nat} {A : Nat → Prop} {la : Nat → Int → Nat} {σ : MS} {H H1 : Heap} (h : CP D cy d0 A la σ H) (hq : ∀ q, q < H.size → A q → H1[q]? = H[q]?) : CP D cy d0 A la σ H1 :=
  h.kept (fun κ i b c => hq _ (h.lt b c) (h.2.2.2.2.1 κ i b c))
theorem LQ.kq {D : va_G} {cy : Nat → ClassId} {d0 : Nat} {A : Nat → Prop} {la : Nat → Int → Nat} {σ : MS} {a : Nat} {C : Int} {P : Int → (Nat → Int → Nat) → MS → Prop} {H H1 : Heap} (h : LQ D cy d0 A la σ a C P H) (hq : ∀ q, q < H.size → A q ∨ q = a → H1[q]? = H[q]?) : LQ D cy d0 A la σ a C P H1 := by
  rcases h with ⟨hC, r, la', τ, hp, hc, ho⟩ | ⟨hC, hc, ho⟩
  · exact Or.inl ⟨hC, r, la', τ, hp, hc.kq (fun q h1 h2 => hq q h1 (Or.inl h2)), (hq a (Array.getElem?_eq_some_iff.mp ho).1 (Or.inr rfl)).trans ho⟩
  · exact Or.inr ⟨hC, hc.kq (fun q h1 h2 => hq q h1 (Or.inl h2)), ho.kept (hq a ho.lt (Or.inr rfl))⟩
theorem LQv.kq {D : va_G} {cy : Nat → ClassId} {d0 : Nat} {A : Nat → Prop} {la : Nat → Int → Nat} {σ : MS} {C : Int} {P : (Nat → Int → Nat) → MS → Prop} {H H1 : Heap} (h : LQv D cy d0 A la σ C P H) (hq : ∀ q, q < H.size → A q → H1[q]? = H[q]?) : LQv D cy d0 A la σ C P H1 := by
  rcases h with ⟨hC, la', τ, hp, hc⟩ | ⟨hC, hc⟩
  · exact Or.inl ⟨hC, la', τ, hp, hc.kq hq⟩
  · exact Or.inr ⟨hC, hc.kq hq⟩
/-- the cells of the class's town; all that is new -/
abbrev lA (s : State) (a o : Nat) (ad : Nat → Nat) : Nat → Prop := fun q => s.heap.size ≤ q ∧ q ≠ a ∧ ¬ mA o ad q
abbrev l9 (s : State) : Nat → Prop := fun q => s.heap.size ≤ q
/-- where the law's body stands -/
def lG (p : Program) (s : State) (m : MethodId) (c : Code) (b L : Nat) (xs : Nat → Int32) (D : va_G) (cy : Nat → ClassId) (d0 a o : Nat) (ad : Nat → Nat) : Prop :=
  cE p s m #[Value.ref b] c cL_law 8 RL wsL_law D cy ∧ va_X b L xs s s.heap ∧ b < s.heap.size ∧ cNc s ∧ cK D cy d0 (l9 s) s s.heap ∧ s.heap.size ≤ a ∧ (∀ q, mA o ad q → s.heap.size ≤ q ∧ q ≠ a) ∧ L ≤ 2560
abbrev lL (b x o a : Nat) (i : Int) : List (Nat × Value) := [(0, .ref b), (1, .ref x), (2, .ref o), (3, .ref a), (4, .int (iI i))]
def lX (xs : Nat → Int32) (i k : Int) : Int := (xs (i + k).toNat).toInt
theorem lX_r (xs : Nat → Int32) (i k : Int) : -2147483648 ≤ lX xs i k ∧ lX xs i k < 2147483648 := iI_rng _
/-- the 64 bits of two ints -/
def lY (xs : Nat → Int32) (i : Int) : Int := ((lI (lX xs i 2) <<< ((iI 32).toInt64 &&& 63)) ||| (lI (lX xs i 3) &&& lI 4294967295)).toInt
theorem lY_r (xs : Nat → Int32) (i : Int) : -9223372036854775808 ≤ lY xs i ∧ lY xs i < 9223372036854775808 := lI_rng _
theorem lX_63 (v : Int32) : ∃ z : Int, (0 ≤ z ∧ z ≤ 63) ∧ v &&& iI 63 = iI z := by
  have e : v = nI v.toBitVec.toNat := by
    apply Int32.toBitVec_inj.1
    show v.toBitVec = BitVec.ofNat 32 v.toBitVec.toNat
    simp
  have h2 : nI v.toBitVec.toNat &&& nI 63 = nI (v.toBitVec.toNat &&& 63) := by
    apply Int32.toBitVec_inj.1
    show BitVec.ofNat 32 _ &&& BitVec.ofNat 32 63 = BitVec.ofNat 32 _
    apply BitVec.eq_of_getLsbD_eq
    intro i hi
    simp [hi]
  refine ⟨((v.toBitVec.toNat &&& 63 : Nat) : Int), ⟨Int.natCast_nonneg _, ?_⟩, ?_⟩
  · have h3 : v.toBitVec.toNat &&& 63 ≤ 63 := Nat.and_le_right
    omega
  · rw [show iI 63 = nI 63 from rfl, ← iI_nat, ← h2, ← e]
section LGW
variable {p : Program} {l : Launch} {e : Env} {R : Room} {s : State} {m : MethodId} {below : List Frame} {meth : Method} {c : Code} {H : Heap} {locs : List Loc} {cells slots : Nat} {Q : State → Prop}
variable {pc : Nat} {ls : Array Slot} {st rest : List Value} {lv : List (Nat × Value)} {D : va_G} {cy : Nat → ClassId} {d0 : Nat} {la : Nat → Int → Nat} {σ : MS} {o a b L x : Nat} {ad : Nat → Nat} {xs : Nat → Int32} {n i : Int}
theorem lG.k (G : lG p s m c b L xs D cy d0 a o ad) (hM : MP D cy o ad σ H) (ho : outA cy a H) (hS : va_S (l9 s) s.heap H locs) : cK D cy d0 (lA s a o ad) s H :=
  (G.2.2.2.2.1.kept hS).sub (fun q h => h.1) (fun q hq => ⟨Nat.le_trans hS.1 hq, fun z => by
    subst z
    exact absurd ho.lt (Nat.not_lt.mpr hq), fun z => absurd (hM.lt z) (Nat.not_lt.mpr hq)⟩)
/-- the law calls a wrapper -/
theorem ls_w {y : MethodName} {bytes : ByteArray} {maxL nn index mc ms : Nat} {hh : List (Nat × Nat × Nat × Nat)} {wsy : List Cond} {rm : Room} {av : List Value} {C : Int} {P : Int → (Nat → Int → Nat) → MS → Prop} (G : lG p s m c b L xs D cy d0 a o ad) (hB : lB D cy d0 (lA s a o ad) o ad a x n la σ H) (hS : va_S (l9 s) s.heap H locs) (hl : lv_has ls 8 lv)
    (hW9 : LW l y wsy rm D cy d0 (lA s a o ad) av la σ a C P mc ms) (cw : vx_CSW R s #[Value.ref b] RL index y bytes maxL (some .int) hh wsy rm mc ms nn) (hst : st = av.reverse ++ rest) (hn : av.length = nn) (hW : (rest.map fun v => v.category).sum ≤ 8) (d : decode cL_law pc = .ok (.invokestatic index, 3)) (hm : mc ≤ 24 ∧ ms ≤ 2100) (hf : cells + 24 ≤ R.cells ∧ slots + 2100 ≤ R.slots)
    (kk : ∀ (H1 : Heap) (locs1 : List Loc), LQ D cy d0 (lA s a o ad) la σ a C P H1 → MP D cy o ad σ H1 → va_S (l9 s) s.heap H1 locs1 → W p l e R s m #[Value.ref b] below meth c H1 locs1 (cells + 24) (slots + 2100) Q (F0 m (pc + 3) ls (.int (iI C) :: rest))) : W p l e R s m #[Value.ref b] below meth c H locs cells slots Q (F0 m pc ls st) := by
  refine ly_w G.1 (G.k hB.2.1 hB.2.2.2.2.1 hS) hB.1 G.2.2.2.1 hB.2.2.2.2.1 hS (fun z hz => Or.elim hz (fun h => h.1) (fun h => by rw [h]; exact G.2.2.2.2.2.1)) hl hW9 cw hst hn hW d ⟨by have := hf.1; omega, by have := hf.2; omega⟩ (fun H1 locs1 hQ hS1 hz hk => ?_)
  refine w_widen (k := cells + 24) (n := slots + 2100) (by omega) (by omega) ?_
  exact kk H1 locs1 hQ (hB.2.1.kept (fun q hq => hk q (hB.2.1.lt hq) (fun z => Or.elim z (fun h => h.2.2 hq) (fun h => (G.2.2.2.2.2.2.1 q hq).2 h)))) hS1
theorem ls_v {y : MethodName} {bytes : ByteArray} {maxL nn index mc ms : Nat} {hh : List (Nat × Nat × Nat × Nat)} {wsy : List Cond} {rm : Room} {av : List Value} {C : Int} {P : (Nat → Int → Nat) → MS → Prop} (G : lG p s m c b L xs D cy d0 a o ad) (hB : lB D cy d0 (lA s a o ad) o ad a x n la σ H) (hS : va_S (l9 s) s.heap H locs) (hl : lv_has ls 8 lv)
    (hW9 : LV l y wsy rm D cy d0 (lA s a o ad) av la σ C P mc ms) (cw : vx_CSW R s #[Value.ref b] RL index y bytes maxL (some .int) hh wsy rm mc ms nn) (hst : st = av.reverse ++ rest) (hn : av.length = nn) (hW : (rest.map fun v => v.category).sum ≤ 8) (d : decode cL_law pc = .ok (.invokestatic index, 3)) (hm : mc ≤ 24 ∧ ms ≤ 2100) (hf : cells + 24 ≤ R.cells ∧ slots + 2100 ≤ R.slots)
    (kk : ∀ (H1 : Heap) (locs1 : List Loc), LQv D cy d0 (lA s a o ad) la σ C P H1 → outA cy a H1 → MP D cy o ad σ H1 → va_S (l9 s) s.heap H1 locs1 → W p l e R s m #[Value.ref b] below meth c H1 locs1 (cells + 24) (slots + 2100) Q (F0 m (pc + 3) ls (.int (iI C) :: rest))) : W p l e R s m #[Value.ref b] below meth c H locs cells slots Q (F0 m pc ls st) := by
  refine ly_v G.1 (G.k hB.2.1 hB.2.2.2.2.1 hS) hB.1 G.2.2.2.1 hS (fun z hz => hz.1) hl hW9 cw hst hn hW d ⟨by have := hf.1; omega, by have := hf.2; omega⟩ (fun H1 locs1 hQ hS1 hz hk => ?_)
  refine w_widen (k := cells + 24) (n := slots + 2100) (by omega) (by omega) ?_
  exact kk H1 locs1 hQ (hB.2.2.2.2.1.kept (hk a hB.2.2.2.2.1.lt (fun z => z.2.1 rfl))) (hB.2.1.kept (fun q hq => hk q (hB.2.1.lt hq) (fun h => h.2.2 hq))) hS1
/-- then the reference -/
theorem ls_m {y : MethodName} {bytes : ByteArray} {maxL nn index : Nat} {ret : Option FieldType} {wsy : List Cond} {rm : Room} {av : List Value} {v : Option Value} {S : MS} {C Rv : Int} {RG : Int → Prop} (G : lG p s m c b L xs D cy d0 a o ad) (hQ : LQ D cy d0 (lA s a o ad) la σ a C (lPq la n Rv RG S) H) (hM : MP D cy o ad σ H) (I : cInv n σ) (hn6 : n + 1 ≤ 600) (hcp : ∀ L, cLive la σ 11 L → la 19 L ≤ 1000) (hS : va_S (l9 s) s.heap H locs) (hl : lv_has ls 8 lv) (hc : MX l y wsy rm D cy o ad av σ v (fun τ => pEnd C S σ τ)) (cw : CallW R s #[Value.ref b] RL RX11 index y bytes maxL ret wsy rm 0 0 nn) (hst : st = av.reverse ++ .ref o :: rest) (hn : av.length = nn) (hW : (rest.map fun v => v.category).sum ≤ 8) (d : decode cL_law pc = .ok (.invokevirtual index, 3)) (hf : cells ≤ R.cells ∧ slots ≤ R.slots)
    (kk : ∀ (H1 : Heap) (locs1 : List Loc) (la1 : Nat → Int → Nat) (σ1 : MS), lB D cy d0 (lA s a o ad) o ad a (la 0 0) (n + 1) la1 σ1 H1 → σ1 0 0 = C → (C = 0 → H1[a]? = some (arrV (cy 3) 1 (fun _ => .long (lI Rv))) ∧ RG Rv) → va_S (l9 s) s.heap H1 locs1 → W p l e R s m #[Value.ref b] below meth c H1 locs1 cells slots Q (F0 m (pc + 3) ls (v.toList ++ rest))) : W p l e R s m #[Value.ref b] below meth c H locs cells slots Q (F0 m pc ls st) := by
  refine ly_m G.1 hM hS (fun z hz => (G.2.2.2.2.2.2.1 z hz).1) hl hc cw hst hn hW d hf (fun H1 locs1 τ hp hM1 hS1 hz hk => ?_)
  have hQ1 := hQ.kq (H1 := H1) (fun q h1 h2 => hk q h1 (fun z => Or.elim h2 (fun h => h.2.2 z) (fun h => (G.2.2.2.2.2.2.1 q z).2 h)))
  obtain ⟨la1, σ1, hB1, e0, ho⟩ := lm_w hQ1 I hn6 hcp hM1 hp
  exact kk H1 locs1 la1 σ1 hB1 e0 ho hS1
theorem ls_mv {y : MethodName} {bytes : ByteArray} {maxL nn index : Nat} {ret : Option FieldType} {wsy : List Cond} {rm : Room} {av : List Value} {v : Option Value} {S : MS} {C : Int} (G : lG p s m c b L xs D cy d0 a o ad) (hQ : LQv D cy d0 (lA s a o ad) la σ C (lPo la n S) H) (ho : outA cy a H) (hM : MP D cy o ad σ H) (I : cInv n σ) (hn6 : n + 1 ≤ 600) (hcp : ∀ L, cLive la σ 11 L → la 19 L ≤ 1000) (hS : va_S (l9 s) s.heap H locs) (hl : lv_has ls 8 lv) (hc : MX l y wsy rm D cy o ad av σ v (fun τ => pEnd C S σ τ)) (cw : CallW R s #[Value.ref b] RL RX11 index y bytes maxL ret wsy rm 0 0 nn) (hst : st = av.reverse ++ .ref o :: rest) (hn : av.length = nn) (hW : (rest.map fun v => v.category).sum ≤ 8) (d : decode cL_law pc = .ok (.invokevirtual index, 3)) (hf : cells ≤ R.cells ∧ slots ≤ R.slots)
    (kk : ∀ (H1 : Heap) (locs1 : List Loc) (la1 : Nat → Int → Nat) (σ1 : MS), lB D cy d0 (lA s a o ad) o ad a (la 0 0) (n + 1) la1 σ1 H1 → σ1 0 0 = C → va_S (l9 s) s.heap H1 locs1 → W p l e R s m #[Value.ref b] below meth c H1 locs1 cells slots Q (F0 m (pc + 3) ls (v.toList ++ rest))) : W p l e R s m #[Value.ref b] below meth c H locs cells slots Q (F0 m pc ls st) := by
  refine ly_m G.1 hM hS (fun z hz => (G.2.2.2.2.2.2.1 z hz).1) hl hc cw hst hn hW d hf (fun H1 locs1 τ hp hM1 hS1 hz hk => ?_)
  have hQ1 := hQ.kq (H1 := H1) (fun q h1 h2 => hk q h1 (fun z => h2.2.2 z))
  have ho1 := ho.kept (H1 := H1) (hk a ho.lt (fun z => (G.2.2.2.2.2.2.1 a z).2 rfl))
  obtain ⟨la1, σ1, hB1, e0⟩ := lm_v hQ1 ho1 I hn6 hcp hM1 hp
  exact kk H1 locs1 la1 σ1 hB1 e0 hS1
/-- the reference is asked what it threw -/
theorem ls_t {bytes : ByteArray} {maxL index : Nat} (G : lG p s m c b L xs D cy d0 a o ad) (hB : lB D cy d0 (lA s a o ad) o ad a x n la σ H) (hS : va_S (l9 s) s.heap H locs) (hl : lv_has ls 8 lv) (cw : CallW R s #[Value.ref b] RL RX11 index yX11_thrown bytes maxL (some .int) wsX11_thrown ({ frames := 0, cells := 0, slots := 0, locals := 0 } : Room) 0 0 0) (hW : (rest.map fun v => v.category).sum ≤ 8) (d : decode cL_law pc = .ok (.invokevirtual index, 3)) (hf : cells ≤ R.cells ∧ slots ≤ R.slots)
    (kk : ∀ (H1 : Heap) (locs1 : List Loc), lB D cy d0 (lA s a o ad) o ad a x n la σ H1 → H1[a]? = H[a]? → va_S (l9 s) s.heap H1 locs1 → -2147483648 ≤ σ 0 0 ∧ σ 0 0 < 2147483648 → W p l e R s m #[Value.ref b] below meth c H1 locs1 cells slots Q (F0 m (pc + 3) ls (.int (iI (σ 0 0)) :: rest))) : W p l e R s m #[Value.ref b] below meth c H locs cells slots Q (F0 m pc ls (.ref o :: rest)) := by
  refine ly_m G.1 hB.2.1 hS (fun z hz => (G.2.2.2.2.2.2.1 z hz).1) hl (m_thrown l D cy o ad σ).x cw (av := []) rfl rfl hW d hf (fun H1 locs1 τ hp hM1 hS1 hz hk => ?_)
  obtain ⟨rfl, hr⟩ := hp
  have ha : H1[a]? = H[a]? := hk a hB.2.2.2.2.1.lt (fun z => (G.2.2.2.2.2.2.1 a z).2 rfl)
  exact kk H1 locs1 ⟨hB.1.kq (fun q h1 h2 => hk q h1 (fun z => h2.2.2 z)), hM1, hB.2.2.1, hB.2.2.2.1, hB.2.2.2.2.1.kept ha, hB.2.2.2.2.2⟩ ha hS1 hr
/-- an int of the script -/
theorem ls_rd {k : Int} (G : lG p s m c b L xs D cy d0 a o ad) (hS : va_S (l9 s) s.heap H locs) (hl : lv_has ls 8 lv) (h0 : lget lv 0 = some (.ref b)) (h4 : lget lv 4 = some (.int (iI i))) (hi : 0 ≤ i ∧ i + 5 ≤ L) (hk : 0 ≤ k ∧ k ≤ 4) (d0' : decode cL_law pc = .ok (.aload_n 0, 1)) (d1 : decode cL_law (pc + 1) = .ok (.iload 4, 2)) (d2 : decode cL_law (pc + 3) = .ok (.iconst k, 1)) (d3 : decode cL_law (pc + 4) = .ok (.iadd, 1)) (d4 : decode cL_law (pc + 5) = .ok (.iaload, 1))
    (kk : W p l e R s m #[Value.ref b] below meth c H locs cells slots Q (F0 m (pc + 6) ls (.int (iI (lX xs i k)) :: rest))) : W p l e R s m #[Value.ref b] below meth c H locs cells slots Q (F0 m pc ls rest) := by
  have B := G.1.1
  have hL := G.2.2.2.2.2.2.2
  refine x_aload_n B hl d0' h0 ?_
  refine x_iload B hl d1 h4 ?_
  refine x_iconst B d2 ?_
  refine x_iadd B d3 ?_
  refine va_sld B.1 B.2 G.2.1 G.2.2.1 (Nat.not_le.mpr G.2.2.1) hS (iI_in ⟨by omega, by omega⟩ (by omega)) d4 ?_
  rw [iI_clamp ⟨by omega, by omega⟩]
  unfold lX at kk
  rw [iI_self] at kk
  exact kk
/-- .. as a truth -/
theorem ls_bo {v : Int} (G : lG p s m c b L xs D cy d0 a o ad) (hv : -2147483648 ≤ v ∧ v < 2147483648) (d1 : decode cL_law pc = .ok (.ifCond .eq 7, 3)) (d2 : decode cL_law (pc + 3) = .ok (.iconst 1, 1)) (d3 : decode cL_law (pc + 4) = .ok (.goto 4, 3)) (d4 : decode cL_law (pc + 7) = .ok (.iconst 0, 1))
    (kk : W p l e R s m #[Value.ref b] below meth c H locs cells slots Q (F0 m (pc + 8) ls (.int (iI (if v = 0 then 0 else 1)) :: rest))) : W p l e R s m #[Value.ref b] below meth c H locs cells slots Q (F0 m pc ls (.int (iI v) :: rest)) := by
  have B := G.1.1
  refine x_if_eq (tgt := pc + 7) B d1 (by omega) hv (fun h => ?_) (fun h => ?_)
  · refine x_iconst B d4 ?_
    rw [if_pos h] at kk
    exact kk
  · refine x_iconst B d2 ?_
    refine x_goto (tgt := pc + 8) B d3 (by omega) ?_
    rw [if_neg h] at kk
    exact kk
theorem ls_lald {y : Int} (G : lG p s m c b L xs D cy d0 a o ad) (ho : H[a]? = some (arrV (cy 3) 1 (fun _ => .long (lI y)))) (d : decode cL_law pc = .ok (.laload, 1))
    (kk : W p l e R s m #[Value.ref b] below meth c H locs cells slots Q (F0 m (pc + 1) ls (.long (lI y) :: rest))) : W p l e R s m #[Value.ref b] below meth c H locs cells slots Q (F0 m pc ls (.int (iI 0) :: .ref a :: rest)) := by
  obtain ⟨B, -, -, -, hK⟩ := G.1
  refine W.lald (v := .long (lI y)) B.1 B.2 ho ((hK.2 2 _ rfl).1 _ _) (fun q => by cases q) (by rw [arrV_size]; exact iI_in ⟨by decide, by decide⟩ (by decide)) ?_ rfl rfl d kk
  rw [iI_clamp ⟨by decide, by decide⟩, arrV_read _ _ (by decide)]
end LGW
