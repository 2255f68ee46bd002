/-! THE STATE OF A TOWN, as numbers: field k (the reference's fields by their slots), place j. The reference's object and arrays hold it. -/
abbrev MS : Type := Nat → Int → Int
def up (σ : MS) (k : Nat) (j v : Int) : MS := fun k' j' => if k' = k ∧ j' = j then v else σ k' j'
theorem up_f {σ : MS} {k k' : Nat} {j v : Int} (h : k' ≠ k) : up σ k j v k' = σ k' := by
  funext j'
  simp [up, h]
theorem up_ne {σ : MS} {k k' : Nat} {j v j' w : Int} (h : k' ≠ k) (e : σ k' j' = w) : up σ k j v k' j' = w := by rw [up_f h]; exact e
theorem up_s {σ : MS} {k : Nat} {j v : Int} : up σ k j v k j = v := by simp [up]
theorem up_o {σ : MS} {k : Nat} {j j' v : Int} (h : j' ≠ j) : up σ k j v k j' = σ k j' := by simp [up, h]
/-- 0 a number, 1 a row of ints, 2 of booleans, 3 of longs -/
def mKd (k : Nat) : Nat := [0, 0, 2, 1, 1, 0, 1, 1, 3, 3, 3, 0, 1, 2, 1, 1, 1, 1, 1, 1, 1, 1, 1, 0, 1, 1, 1, 0, 1, 1, 0, 0, 1, 1, 1, 1, 1, 1, 1, 1, 2, 2, 1, 1, 1, 0, 1, 1].getD k 3
def mLn (k : Nat) : Nat := [0, 0, 700, 30, 30, 0, 60, 60, 60, 60, 60, 0, 120, 120, 120, 120, 960, 960, 120, 2400, 2400, 2400, 120, 0, 5, 5, 5, 0, 5, 5, 0, 0, 600, 600, 600, 600, 600, 600, 600, 600, 600, 600, 600, 600, 600, 0, 5, 5].getD k 0
abbrev mSc (k : Nat) : Bool := Nat.blt k 48 && Nat.beq (mKd k) 0
abbrev mAr (k t : Nat) : Bool := Nat.blt k 48 && Nat.beq (mKd k) (t + 1)
theorem mSc_s {k : Nat} (h : mSc k = true) : k < 48 ∧ mKd k = 0 := by
  simp only [mSc, Bool.and_eq_true, Nat.blt_eq, Nat.beq_eq] at h
  exact h
theorem mAr_s {k t : Nat} (h : mAr k t = true) : k < 48 ∧ mKd k = t + 1 := by
  simp only [mAr, Bool.and_eq_true, Nat.blt_eq, Nat.beq_eq] at h
  exact h
def mV (ad : Nat → Nat) (σ : MS) (k : Nat) : Value := if mKd k = 0 then .int (iI (σ k 0)) else .ref (ad k)
def mRw (σ : MS) (k : Nat) : Nat → Value := fun j => if mKd k = 3 then .long (lI (σ k j)) else .int (iI (σ k j))
/-- numbers that the fields can hold -/
def mW (σ : MS) : Prop := (∀ k j, mKd k ≠ 3 → -2147483648 ≤ σ k j ∧ σ k j < 2147483648) ∧ ∀ k j, mKd k = 2 → σ k j = 0 ∨ σ k j = 1
/-- the cells apart -/
def mApart (o : Nat) (ad : Nat → Nat) : Prop := (∀ k, k < 48 → mKd k ≠ 0 → ad k ≠ o) ∧ ∀ k k', k < 48 → k' < 48 → mKd k ≠ 0 → mKd k' ≠ 0 → ad k = ad k' → k = k'
def mA (o : Nat) (ad : Nat → Nat) : Nat → Prop := fun q => q = o ∨ ∃ k, k < 48 ∧ mKd k ≠ 0 ∧ q = ad k
def MP (D : va_G) (cy : Nat → ClassId) (o : Nat) (ad : Nat → Nat) (σ : MS) (H : Heap) : Prop :=
  t_OB o (D.1 12) 48 (D.2 12) H (mV ad σ) ∧ (∀ k, k < 48 → mKd k ≠ 0 → H[ad k]? = some (arrV (cy (mKd k)) (mLn k) (mRw σ k))) ∧ mApart o ad ∧ mW σ
abbrev mty (cy : Nat → ClassId) : List (ClassId × FieldType) := [(cy 1, .int), (cy 2, .boolean), (cy 3, .long)]
theorem MP.kept {D : va_G} {cy : Nat → ClassId} {o : Nat} {ad : Nat → Nat} {σ : MS} {H H1 : Heap} (h : MP D cy o ad σ H) (hq : ∀ q, mA o ad q → H1[q]? = H[q]?) : MP D cy o ad σ H1 :=
  ⟨h.1.kept (hq o (Or.inl rfl)), fun k hk h0 => (hq (ad k) (Or.inr ⟨k, hk, h0, rfl⟩)).trans (h.2.1 k hk h0), h.2.2⟩
theorem MP.lt {D : va_G} {cy : Nat → ClassId} {o : Nat} {ad : Nat → Nat} {σ : MS} {H : Heap} (h : MP D cy o ad σ H) {q : Nat} (hq : mA o ad q) : q < H.size := by
  rcases hq with rfl | ⟨k, hk, h0, rfl⟩
  · obtain ⟨cell, h2, -⟩ := h.1
    exact (Array.getElem?_eq_some_iff.mp h2).1
  · exact (Array.getElem?_eq_some_iff.mp (h.2.1 k hk h0)).1
/-- the same numbers where the fields are -/
theorem MP.to {D : va_G} {cy : Nat → ClassId} {o : Nat} {ad : Nat → Nat} {σ σ' : MS} {H : Heap} (h : MP D cy o ad σ H) (hs : ∀ k, k < 48 → ∀ j, σ' k j = σ k j) (hw : mW σ') : MP D cy o ad σ' H := by
  refine ⟨h.1.to (fun k hk => ?_), fun k hk h0 => ?_, h.2.2.1, hw⟩
  · simp only [mV, hs k hk]
  · rw [h.2.1 k hk h0]
    have : mRw σ' k = mRw σ k := by
      funext j
      simp only [mRw, hs k hk]
    rw [this]
theorem mW_up {σ : MS} {k : Nat} {j v : Int} (h : mW σ) (h1 : mKd k ≠ 3 → -2147483648 ≤ v ∧ v < 2147483648) (h3 : mKd k = 2 → v = 0 ∨ v = 1) : mW (up σ k j v) := by
  refine ⟨fun k' j' hk => ?_, fun k' j' hk => ?_⟩ <;> by_cases hq : k' = k ∧ j' = j
  · rw [show up σ k j v k' j' = v by simp [up, hq]]; exact h1 (hq.1 ▸ hk)
  · rw [show up σ k j v k' j' = σ k' j' by simp [up, hq]]; exact h.1 k' j' hk
  · rw [show up σ k j v k' j' = v by simp [up, hq]]; exact h3 (hq.1 ▸ hk)
  · rw [show up σ k j v k' j' = σ k' j' by simp [up, hq]]; exact h.2 k' j' hk
theorem MP.put {D : va_G} {cy : Nat → ClassId} {o : Nat} {ad : Nat → Nat} {σ : MS} {H H1 : Heap} {k : Nat} {v : Int} (h : MP D cy o ad σ H) (h0 : mKd k = 0) (ho : t_OB o (D.1 12) 48 (D.2 12) H1 (mV ad (up σ k 0 v))) (oq : ∀ q, q ≠ o → H1[q]? = H[q]?) (hv : -2147483648 ≤ v ∧ v < 2147483648) : MP D cy o ad (up σ k 0 v) H1 := by
  refine ⟨ho, fun k' hk h1 => ?_, h.2.2.1, mW_up h.2.2.2 (fun _ => hv) (fun q => by omega)⟩
  rw [oq _ (h.2.2.1.1 k' hk h1), h.2.1 k' hk h1]
  have hne : k' ≠ k := fun q => h1 (q ▸ h0)
  have : mRw (up σ k 0 v) k' = mRw σ k' := by
    funext j
    simp only [mRw, up_f hne]
  rw [this]
theorem MP.st {D : va_G} {cy : Nat → ClassId} {o : Nat} {ad : Nat → Nat} {σ : MS} {H H1 : Heap} {k : Nat} {j v : Int} (h : MP D cy o ad σ H) (hk : k < 48) (h0 : mKd k ≠ 0) (he : H1[ad k]? = some (arrV (cy (mKd k)) (mLn k) (mRw (up σ k j v) k))) (oq : ∀ q, q ≠ ad k → H1[q]? = H[q]?) (hw : mW (up σ k j v)) : MP D cy o ad (up σ k j v) H1 := by
  refine ⟨?_, fun k' hk' h1 => ?_, h.2.2.1, hw⟩
  · refine (h.1.kept (oq o (Ne.symm (h.2.2.1.1 k hk h0)))).to (fun k' hk' => ?_)
    by_cases hz : mKd k' = 0
    · have hne : k' ≠ k := fun q => h0 (q ▸ hz)
      simp only [mV, up_f hne]
    · simp only [mV, if_neg hz]
  · by_cases hne : k' = k
    · subst hne
      exact he
    · rw [oq _ (fun q => hne (h.2.2.1.2 k' k hk' hk h1 h0 q)), h.2.1 k' hk' h1]
      have : mRw (up σ k j v) k' = mRw σ k' := by
        funext j
        simp only [mRw, up_f hne]
      rw [this]
theorem mRw_up {σ : MS} {k : Nat} {j v : Int} (hj : 0 ≤ j) : updV (mRw σ k) j.toNat (if mKd k = 3 then .long (lI v) else .int (iI v)) = mRw (up σ k j v) k := by
  funext i
  by_cases hi : i = j.toNat
  · subst hi
    have : ((j.toNat : Nat) : Int) = j := Int.toNat_of_nonneg hj
    simp [updV, mRw, this, up]
  · have : ((i : Nat) : Int) ≠ j := by omega
    simp [updV, mRw, hi, up, this]
/-- what a body of the reference stands on -/
def mE (p : Program) (s : State) (m : MethodId) (args : Array Value) (c : Code) (cc : ByteArray) (nL : Nat) (Ts : List Cond) (D : va_G) (cy : Nat → ClassId) : Prop :=
  xB p c cc ∧ c.maxLocals = nL ∧ s.vm.findClass RX11 = some m.cls ∧ (∀ w ∈ Ts, w.before args s = true) ∧ (∀ w ∈ wsX110, w ∈ Ts) ∧ va_K D vwCl (mty cy) s
def mQ (D : va_G) (cy : Nat → ClassId) (o : Nat) (ad : Nat → Nat) (v : Option Value) (σ : MS) (P : Prop) : Array Value → State → Outcome → State → Prop := fun _ st oc t => (oc = .returned v ∧ P ∧ MP D cy o ad σ t.heap) ∧ va_F (mA o ad) st t
/-- a method of the reference: at the state σ with these arguments it answers v, the state is σ', and P -/
def MM (l : Launch) (y : MethodName) (ws : List Cond) (rm : Room) (D : va_G) (cy : Nat → ClassId) (o : Nat) (ad : Nat → Nat) (av : List Value) (σ : MS) (v : Option Value) (σ' : MS) (P : Prop) : Prop :=
  Met l y ws rm (va_Pc (.ref o :: av) (fun U => MP D cy o ad σ U.heap ∧ va_K D vwCl (mty cy) U)) (mQ D cy o ad v σ' P) 0 0 (mA o ad)
def mQX (D : va_G) (cy : Nat → ClassId) (o : Nat) (ad : Nat → Nat) (v : Option Value) (P : MS → Prop) : Array Value → State → Outcome → State → Prop := fun _ st oc t => (oc = .returned v ∧ ∃ σ, P σ ∧ MP D cy o ad σ t.heap) ∧ va_F (mA o ad) st t
/-- .. the state behind it is one of which P holds -/
def MX (l : Launch) (y : MethodName) (ws : List Cond) (rm : Room) (D : va_G) (cy : Nat → ClassId) (o : Nat) (ad : Nat → Nat) (av : List Value) (σ : MS) (v : Option Value) (P : MS → Prop) : Prop :=
  Met l y ws rm (va_Pc (.ref o :: av) (fun U => MP D cy o ad σ U.heap ∧ va_K D vwCl (mty cy) U)) (mQX D cy o ad v P) 0 0 (mA o ad)
theorem MM.x {l : Launch} {y : MethodName} {ws : List Cond} {rm : Room} {D : va_G} {cy : Nat → ClassId} {o : Nat} {ad : Nat → Nat} {av : List Value} {σ : MS} {v : Option Value} {σ' : MS} {P : Prop} (h : MM l y ws rm D cy o ad av σ v σ' P) : MX l y ws rm D cy o ad av σ v (fun τ => τ = σ' ∧ P) := by
  have e : (fun a st oc t => mQX D cy o ad v (fun τ => τ = σ' ∧ P) a st oc t) = mQ D cy o ad v σ' P := by
    funext a st oc t
    apply propext
    constructor
    · rintro ⟨⟨h1, τ, ⟨rfl, hp⟩, h2⟩, h3⟩
      exact ⟨⟨h1, hp, h2⟩, h3⟩
    · rintro ⟨⟨h1, hp, h2⟩, h3⟩
      exact ⟨⟨h1, _, ⟨rfl, hp⟩, h2⟩, h3⟩
  unfold MX
  rw [show mQX D cy o ad v (fun τ => τ = σ' ∧ P) = mQ D cy o ad v σ' P from e]
  exact h
/-- a static method that touches nothing -/
def MZ (l : Launch) (y : MethodName) (ws : List Cond) (rm : Room) (av : List Value) (v : Option Value) (P : Prop) : Prop :=
  Met l y ws rm (fun a _ => a = av.toArray) (fun _ st oc t => oc = .returned v ∧ P ∧ t.heap = st.heap) 0 0 (fun _ => False)
section MR
variable {p : Program} {l : Launch} {e : Env} {R : Room} {s : State} {m : MethodId} {args : Array Value} {below : List Frame} {meth : Method} {c : Code} {H : Heap} {locs : List Loc} {cells slots : Nat} {Q : State → Prop}
variable {cc : ByteArray} {pc : Nat} {ls : Array Slot} {rest st : List Value} {nL : Nat} {lv : List (Nat × Value)} {Ts : List Cond} {D : va_G} {cy : Nat → ClassId} {o : Nat} {ad : Nat → Nat} {σ : MS} {idx : Nat}
theorem mo_get (E : mE p s m args c cc nL Ts D cy) (hM : MP D cy o ad σ H) (k : Nat) (hk : k < 48) (hlink : (Cond.fieldLink RX11 idx RX11 (TX11 k).2.1 (TX11 k).2.2.1).before args s = true) (hsame : (TX11 k).1 = RX11) (d : decode cc pc = .ok (.getfield idx, 3)) (kk : W p l e R s m args below meth c H locs cells slots Q (F0 m (pc + 3) ls (mV ad σ k :: rest))) : W p l e R s m args below meth c H locs cells slots Q (F0 m pc ls (.ref o :: rest)) := by
  obtain ⟨B, -, hown, hts, hin, hK⟩ := E
  have hP : va_P D vwCl [(o, .inr (12, (List.range 48).map (mV ad σ)))] H := by
    intro k0 q hq
    match k0, hq with
    | 0, hq =>
      cases hq
      exact ⟨_, rfl, hM.1.to (fun j hj => by simp [vp_V, hj])⟩
    | k0 + 1, hq => simp at hq
  exact va_get (D := D) (ci := 12) (v := mV ad σ k) (C := RX11) (T := TX11) (N := 48) B.1 B.2 hts hin hown hK hP 0 rfl rfl k hk hlink (fun x hx => hsame ▸ hx) (by simp [hk]) d kk
theorem mo_gets0 (E : mE p s m args c cc nL Ts D cy) (hM : MP D cy o ad σ H) (k : Nat) (h0 : mSc k = true) (hlink : (Cond.fieldLink RX11 idx RX11 (TX11 k).2.1 (TX11 k).2.2.1).before args s = true) (hsame : (TX11 k).1 = RX11) (d : decode cc pc = .ok (.getfield idx, 3)) (kk : -2147483648 ≤ σ k 0 ∧ σ k 0 < 2147483648 → W p l e R s m args below meth c H locs cells slots Q (F0 m (pc + 3) ls (.int (iI (σ k 0)) :: rest))) : W p l e R s m args below meth c H locs cells slots Q (F0 m pc ls (.ref o :: rest)) := by
  obtain ⟨hk, h0⟩ := mSc_s h0
  refine mo_get E hM k hk hlink hsame d ?_
  rw [show mV ad σ k = .int (iI (σ k 0)) by simp [mV, h0]]
  exact kk (hM.2.2.2.1 k 0 (by omega))
theorem mo_geta (E : mE p s m args c cc nL Ts D cy) (hM : MP D cy o ad σ H) (k t : Nat) (h0 : mAr k t = true) (hlink : (Cond.fieldLink RX11 idx RX11 (TX11 k).2.1 (TX11 k).2.2.1).before args s = true) (hsame : (TX11 k).1 = RX11) (d : decode cc pc = .ok (.getfield idx, 3)) (kk : W p l e R s m args below meth c H locs cells slots Q (F0 m (pc + 3) ls (.ref (ad k) :: rest))) : W p l e R s m args below meth c H locs cells slots Q (F0 m pc ls (.ref o :: rest)) := by
  obtain ⟨hk, h0⟩ := mAr_s h0
  refine mo_get E hM k hk hlink hsame d ?_
  rw [show mV ad σ k = .ref (ad k) by simp [mV, h0]]
  exact kk
theorem mo_put (E : mE p s m args c cc nL Ts D cy) (hM : MP D cy o ad σ H) (hS : va_S (mA o ad) s.heap H locs) (k : Nat) {v : Int} (h0 : mSc k = true) (hlink : (Cond.fieldLink RX11 idx RX11 (TX11 k).2.1 (TX11 k).2.2.1).before args s = true) (hsame : (TX11 k).1 = RX11) (hfin : (TX11 k).2.2.2 = false) (hd : parseFieldDescriptor (TX11 k).2.2.1 = some .int) (hv : -2147483648 ≤ v ∧ v < 2147483648) (d : decode cc pc = .ok (.putfield idx, 3)) (kk : ∀ (H1 : Heap) (locs1 : List Loc), MP D cy o ad (up σ k 0 v) H1 → va_S (mA o ad) s.heap H1 locs1 → W p l e R s m args below meth c H1 locs1 cells slots Q (F0 m (pc + 3) ls rest)) : W p l e R s m args below meth c H locs cells slots Q (F0 m pc ls (.int (iI v) :: .ref o :: rest)) := by
  obtain ⟨hk, h0⟩ := mSc_s h0
  obtain ⟨B, -, hown, hts, hin, hK⟩ := E
  have hap := va_apart (own := RX11) hts hin tyX11 tyX11_ok nmX11 hK (ci := 12) rfl
  obtain ⟨cell, q1, q2, q3, q4⟩ := hM.1
  obtain ⟨hSl, hfc, kC, hkC, hkind⟩ := hK.1 12 _ rfl
  obtain ⟨cf, kf, fi, f, hi, hsl⟩ := hSl k hk
  have hlay := hts _ (hin _ (u_in_lay hk))
  unfold u_lay at hlay
  rw [if_neg (by rw [hfin]; decide)] at hlay
  have hst := (u_facts hfc hkC (u_lays hts hin hk) hi).1
  have h6 := u_store hfc hkC hkind hlay hi hd (v := .int (iI v)) rfl rfl
  refine W.putK B.1 B.2 (f := f) ⟨hown, hlink, ⟨_, _, _, hsame ▸ hi⟩, hst⟩ (by rw [q2]; exact h6) q1 q3 (by rw [hsl]; exact k2_hasslot (q4 k hk)) rfl rfl d fun H' e1 e2 e3 => ?_
  rw [hsl] at e1 ⊢
  refine kk H' _ (hM.put h0 ?_ e3 hv) (hS.put e2 e3 (Or.inl rfl))
  refine t_OB.to (V := updV (mV ad σ) k (.int (iI v))) ⟨_, e1, q2, q3, t_set q4 hap hk _⟩ (fun j hj => ?_)
  by_cases hjk : j = k
  · subst hjk
    simp [updV, mV, h0, up]
  · simp only [updV, if_neg hjk, mV, up_f hjk]
theorem mo_ld0 (E : mE p s m args c cc nL Ts D cy) (hM : MP D cy o ad σ H) {k : Nat} {j : Int} (h0 : mAr k 0 = true) (hj : 0 ≤ j ∧ j < (mLn k : Int)) (hn : mLn k < 2147483648) (d : decode cc pc = .ok (.iaload, 1)) (kk : -2147483648 ≤ σ k j ∧ σ k j < 2147483648 → W p l e R s m args below meth c H locs cells slots Q (F0 m (pc + 1) ls (.int (iI (σ k j)) :: rest))) : W p l e R s m args below meth c H locs cells slots Q (F0 m pc ls (.int (iI j) :: .ref (ad k) :: rest)) := by
  obtain ⟨hk, h0⟩ := mAr_s h0
  obtain ⟨B, -, hown, hts, hin, hK⟩ := E
  have hc := hM.2.1 k hk (by omega)
  rw [h0] at hc
  refine W.iald (v := .int (iI (σ k j))) B.1 B.2 hc ((hK.2 0 _ rfl).1 _ _) (fun q => by cases q) (by rw [arrV_size]; exact iI_in hj hn) ?_ rfl rfl d (kk (hM.2.2.2.1 k j (by omega)))
  rw [iI_clamp ⟨hj.1, by omega⟩, arrV_read _ _ (by omega)]
  simp [mRw, h0, Int.toNat_of_nonneg hj.1]
theorem mo_zld0 (E : mE p s m args c cc nL Ts D cy) (hM : MP D cy o ad σ H) {k : Nat} {j : Int} (h0 : mAr k 1 = true) (hj : 0 ≤ j ∧ j < (mLn k : Int)) (hn : mLn k < 2147483648) (d : decode cc pc = .ok (.baload, 1)) (kk : σ k j = 0 ∨ σ k j = 1 → W p l e R s m args below meth c H locs cells slots Q (F0 m (pc + 1) ls (.int (iI (σ k j)) :: rest))) : W p l e R s m args below meth c H locs cells slots Q (F0 m pc ls (.int (iI j) :: .ref (ad k) :: rest)) := by
  obtain ⟨hk, h0⟩ := mAr_s h0
  obtain ⟨B, -, hown, hts, hin, hK⟩ := E
  have hc := hM.2.1 k hk (by omega)
  rw [h0] at hc
  refine W.zald (v := .int (iI (σ k j))) B.1 B.2 hc ((hK.2 1 _ rfl).1 _ _) (fun q => by cases q) (by rw [arrV_size]; exact iI_in hj hn) ?_ rfl rfl d (kk (hM.2.2.2.2 k j h0))
  rw [iI_clamp ⟨hj.1, by omega⟩, arrV_read _ _ (by omega)]
  simp [mRw, h0, Int.toNat_of_nonneg hj.1]
theorem mo_lld0 (E : mE p s m args c cc nL Ts D cy) (hM : MP D cy o ad σ H) {k : Nat} {j : Int} (h0 : mAr k 2 = true) (hj : 0 ≤ j ∧ j < (mLn k : Int)) (hn : mLn k < 2147483648) (d : decode cc pc = .ok (.laload, 1)) (kk : True → W p l e R s m args below meth c H locs cells slots Q (F0 m (pc + 1) ls (.long (lI (σ k j)) :: rest))) : W p l e R s m args below meth c H locs cells slots Q (F0 m pc ls (.int (iI j) :: .ref (ad k) :: rest)) := by
  obtain ⟨hk, h0⟩ := mAr_s h0
  obtain ⟨B, -, hown, hts, hin, hK⟩ := E
  have hc := hM.2.1 k hk (by omega)
  rw [h0] at hc
  refine W.lald (v := .long (lI (σ k j))) B.1 B.2 hc ((hK.2 2 _ rfl).1 _ _) (fun q => by cases q) (by rw [arrV_size]; exact iI_in hj hn) ?_ rfl rfl d (kk trivial)
  rw [iI_clamp ⟨hj.1, by omega⟩, arrV_read _ _ (by omega)]
  simp [mRw, h0, Int.toNat_of_nonneg hj.1]
theorem mo_st (E : mE p s m args c cc nL Ts D cy) (hM : MP D cy o ad σ H) (hS : va_S (mA o ad) s.heap H locs) {k : Nat} {j v : Int} (h0 : mAr k 0 = true) (hj : 0 ≤ j ∧ j < (mLn k : Int)) (hn : mLn k < 2147483648) (hv : -2147483648 ≤ v ∧ v < 2147483648) (d : decode cc pc = .ok (.iastore, 1)) (kk : ∀ (H1 : Heap) (locs1 : List Loc), MP D cy o ad (up σ k j v) H1 → va_S (mA o ad) s.heap H1 locs1 → W p l e R s m args below meth c H1 locs1 cells slots Q (F0 m (pc + 1) ls rest)) : W p l e R s m args below meth c H locs cells slots Q (F0 m pc ls (.int (iI v) :: .int (iI j) :: .ref (ad k) :: rest)) := by
  obtain ⟨hk, h0⟩ := mAr_s h0
  obtain ⟨B, -, hown, hts, hin, hK⟩ := E
  have hc := hM.2.1 k hk (by omega)
  rw [h0] at hc
  refine W.iast B.1 B.2 hc ((hK.2 0 _ rfl).1 _ _) (fun q => by cases q) (by rw [arrV_size]; exact iI_in hj hn) rfl rfl d fun H1 e z oq => ?_
  refine kk H1 _ (hM.st hk (by omega) ?_ oq (mW_up hM.2.2.2 (fun _ => hv) (fun q => by omega))) (hS.put z oq (Or.inr ⟨k, hk, by omega, rfl⟩))
  rw [e, arrV_store, iI_clamp ⟨hj.1, by omega⟩, h0, ← mRw_up hj.1]
  simp [h0]
theorem mo_zst (E : mE p s m args c cc nL Ts D cy) (hM : MP D cy o ad σ H) (hS : va_S (mA o ad) s.heap H locs) {k : Nat} {j v : Int} (h0 : mAr k 1 = true) (hj : 0 ≤ j ∧ j < (mLn k : Int)) (hn : mLn k < 2147483648) (hv : v = 0 ∨ v = 1) (d : decode cc pc = .ok (.bastore, 1)) (kk : ∀ (H1 : Heap) (locs1 : List Loc), MP D cy o ad (up σ k j v) H1 → va_S (mA o ad) s.heap H1 locs1 → W p l e R s m args below meth c H1 locs1 cells slots Q (F0 m (pc + 1) ls rest)) : W p l e R s m args below meth c H locs cells slots Q (F0 m pc ls (.int (iI v) :: .int (iI j) :: .ref (ad k) :: rest)) := by
  obtain ⟨hk, h0⟩ := mAr_s h0
  obtain ⟨B, -, hown, hts, hin, hK⟩ := E
  have hc := hM.2.1 k hk (by omega)
  rw [h0] at hc
  refine W.zast B.1 B.2 hc ((hK.2 1 _ rfl).1 _ _) (fun q => by cases q) (by rw [arrV_size]; exact iI_in hj hn) rfl rfl d fun H1 e z oq => ?_
  refine kk H1 _ (hM.st hk (by omega) ?_ oq (mW_up hM.2.2.2 (fun _ => by omega) (fun _ => hv))) (hS.put z oq (Or.inr ⟨k, hk, by omega, rfl⟩))
  rw [e, arrV_store, iI_clamp ⟨hj.1, by omega⟩, h0, ← mRw_up hj.1]
  have hnar : narrow .boolean (.int (iI v)) = .int (iI v) := by rcases hv with rfl | rfl <;> rfl
  rw [hnar]
  simp [h0]
theorem mo_lst (E : mE p s m args c cc nL Ts D cy) (hM : MP D cy o ad σ H) (hS : va_S (mA o ad) s.heap H locs) {k : Nat} {j v : Int} (h0 : mAr k 2 = true) (hj : 0 ≤ j ∧ j < (mLn k : Int)) (hn : mLn k < 2147483648) (hv : True) (d : decode cc pc = .ok (.lastore, 1)) (kk : ∀ (H1 : Heap) (locs1 : List Loc), MP D cy o ad (up σ k j v) H1 → va_S (mA o ad) s.heap H1 locs1 → W p l e R s m args below meth c H1 locs1 cells slots Q (F0 m (pc + 1) ls rest)) : W p l e R s m args below meth c H locs cells slots Q (F0 m pc ls (.long (lI v) :: .int (iI j) :: .ref (ad k) :: rest)) := by
  obtain ⟨hk, h0⟩ := mAr_s h0
  obtain ⟨B, -, hown, hts, hin, hK⟩ := E
  have hc := hM.2.1 k hk (by omega)
  rw [h0] at hc
  refine W.last B.1 B.2 hc ((hK.2 2 _ rfl).1 _ _) (fun q => by cases q) (by rw [arrV_size]; exact iI_in hj hn) rfl rfl d fun H1 e z oq => ?_
  refine kk H1 _ (hM.st hk (by omega) ?_ oq (mW_up hM.2.2.2 (fun q => by omega) (fun q => by omega))) (hS.put z oq (Or.inr ⟨k, hk, by omega, rfl⟩))
  rw [e, arrV_store, iI_clamp ⟨hj.1, by omega⟩, h0, ← mRw_up hj.1]
  simp [h0]
theorem mo_gets {w : Int} (E : mE p s m args c cc nL Ts D cy) (hM : MP D cy o ad σ H) (k : Nat) (h0 : mSc k = true) (hlink : (Cond.fieldLink RX11 idx RX11 (TX11 k).2.1 (TX11 k).2.2.1).before args s = true) (hsame : (TX11 k).1 = RX11) (d : decode cc pc = .ok (.getfield idx, 3)) (hv : σ k 0 = w) (kk : -2147483648 ≤ w ∧ w < 2147483648 → W p l e R s m args below meth c H locs cells slots Q (F0 m (pc + 3) ls (.int (iI w) :: rest))) : W p l e R s m args below meth c H locs cells slots Q (F0 m pc ls (.ref o :: rest)) := by
  subst hv; exact mo_gets0 E hM k h0 hlink hsame d kk
theorem mo_ld {w : Int} (E : mE p s m args c cc nL Ts D cy) (hM : MP D cy o ad σ H) {k : Nat} {j : Int} (h0 : mAr k 0 = true) (hj : 0 ≤ j ∧ j < (mLn k : Int)) (hn : mLn k < 2147483648) (d : decode cc pc = .ok (.iaload, 1)) (hv : σ k j = w) (kk : -2147483648 ≤ w ∧ w < 2147483648 → W p l e R s m args below meth c H locs cells slots Q (F0 m (pc + 1) ls (.int (iI w) :: rest))) : W p l e R s m args below meth c H locs cells slots Q (F0 m pc ls (.int (iI j) :: .ref (ad k) :: rest)) := by
  subst hv; exact mo_ld0 E hM h0 hj hn d kk
theorem mo_zld {w : Int} (E : mE p s m args c cc nL Ts D cy) (hM : MP D cy o ad σ H) {k : Nat} {j : Int} (h0 : mAr k 1 = true) (hj : 0 ≤ j ∧ j < (mLn k : Int)) (hn : mLn k < 2147483648) (d : decode cc pc = .ok (.baload, 1)) (hv : σ k j = w) (kk : w = 0 ∨ w = 1 → W p l e R s m args below meth c H locs cells slots Q (F0 m (pc + 1) ls (.int (iI w) :: rest))) : W p l e R s m args below meth c H locs cells slots Q (F0 m pc ls (.int (iI j) :: .ref (ad k) :: rest)) := by
  subst hv; exact mo_zld0 E hM h0 hj hn d kk
theorem mo_lld {w : Int} (E : mE p s m args c cc nL Ts D cy) (hM : MP D cy o ad σ H) {k : Nat} {j : Int} (h0 : mAr k 2 = true) (hj : 0 ≤ j ∧ j < (mLn k : Int)) (hn : mLn k < 2147483648) (d : decode cc pc = .ok (.laload, 1)) (hv : σ k j = w) (kk : True → W p l e R s m args below meth c H locs cells slots Q (F0 m (pc + 1) ls (.long (lI w) :: rest))) : W p l e R s m args below meth c H locs cells slots Q (F0 m pc ls (.int (iI j) :: .ref (ad k) :: rest)) := by
  subst hv; exact mo_lld0 E hM h0 hj hn d kk
/-- a call of a method of the reference by the reference -/
theorem mo_callx {y : MethodName} {bytes : ByteArray} {maxL n index : Nat} {ret : Option FieldType} {wsy : List Cond} {rm : Room} {av : List Value} {v : Option Value} {P : MS → Prop} (E : mE p s m args c cc nL Ts D cy) (hM : MP D cy o ad σ H) (hS : va_S (mA o ad) s.heap H locs) (hl : lv_has ls nL lv) (hc : MX l y wsy rm D cy o ad av σ v P) (cw : CallW R s args RX11 RX11 index y bytes maxL ret wsy rm 0 0 n) (hst : st = av.reverse ++ .ref o :: rest) (hn : av.length = n) (hW : (rest.map fun v => v.category).sum ≤ 8) (d : decode cc pc = .ok (.invokevirtual index, 3)) (hf : cells ≤ R.cells ∧ slots ≤ R.slots)
    (kk : ∀ (H1 : Heap) (locs1 : List Loc) (σ' : MS), P σ' → MP D cy o ad σ' H1 → va_S (mA o ad) s.heap H1 locs1 → W p l e R s m args below meth c H1 locs1 cells slots Q (F0 m (pc + 3) ls (v.toList ++ rest))) : W p l e R s m args below meth c H locs cells slots Q (F0 m pc ls st) := by
  obtain ⟨B, hml, hown, hts, hin, hK⟩ := E
  have hr := va_runV (l := l) (e := e) (below := below) (meth := meth) (locs := locs) (cells := cells) (slots := slots) (As := av) (rest := rest) (g := F0 m pc ls st) ⟨B.1, B.2, hml, hown, hts⟩ hc cw (H := H) ⟨fun a U g mk q => by obtain ⟨q1, q2, q3⟩ := q; exact ⟨q1, q2, va_K.moved (u := U) (U := U.calling g mk a) (Vm.Alike.refl U.vm) q3⟩, by
      obtain ⟨cell, h1, h2, h3, -⟩ := hM.1
      exact ⟨cell, h1, by rw [h3]; rfl, by rw [h2]; exact (hK.1 12 _ rfl).2.1⟩, fun U hU hW => ⟨rfl, by rw [hU]; exact hM, va_K.moved hW.alike hK⟩⟩ rfl hn hl.1 hst (lv_room hW) d hf
  intro T hT X
  obtain ⟨v9, st₀, t, T', L, h0, X', hL, e1, e2, ⟨⟨hv, σ1, hp, hM1⟩, hz, hk⟩, st9⟩ := hr T hT X
  cases hv
  rw [h0] at hz hk
  obtain ⟨t2, a1, b1⟩ := kk T'.heap (locs ++ L) σ1 hp (by rw [e1]; exact hM1)
    ⟨Nat.le_trans hS.1 (by rw [e1]; exact hz), fun q h1 h2 => by rw [e1, hk q (Nat.lt_of_lt_of_le h1 hS.1) h2]; exact hS.2.1 q h1 h2, fun q hq => by
      rcases List.mem_append.mp hq with h | h
      · exact hS.2.2 q h
      · exact hL q h⟩ T' rfl X'
  exact ⟨t2, st9 t2 a1, b1⟩
/-- a call of a method of the reference by the reference -/
theorem mo_call {y : MethodName} {bytes : ByteArray} {maxL n index : Nat} {ret : Option FieldType} {wsy : List Cond} {rm : Room} {av : List Value} {v : Option Value} {σ' : MS} {P : Prop} (E : mE p s m args c cc nL Ts D cy) (hM : MP D cy o ad σ H) (hS : va_S (mA o ad) s.heap H locs) (hl : lv_has ls nL lv) (hc : MM l y wsy rm D cy o ad av σ v σ' P) (cw : CallW R s args RX11 RX11 index y bytes maxL ret wsy rm 0 0 n) (hst : st = av.reverse ++ .ref o :: rest) (hn : av.length = n) (hW : (rest.map fun v => v.category).sum ≤ 8) (d : decode cc pc = .ok (.invokevirtual index, 3)) (hf : cells ≤ R.cells ∧ slots ≤ R.slots)
    (kk : ∀ (H1 : Heap) (locs1 : List Loc), P → MP D cy o ad σ' H1 → va_S (mA o ad) s.heap H1 locs1 → W p l e R s m args below meth c H1 locs1 cells slots Q (F0 m (pc + 3) ls (v.toList ++ rest))) : W p l e R s m args below meth c H locs cells slots Q (F0 m pc ls st) := by
  obtain ⟨B, hml, hown, hts, hin, hK⟩ := E
  have hr := va_runV (l := l) (e := e) (below := below) (meth := meth) (locs := locs) (cells := cells) (slots := slots) (As := av) (rest := rest) (g := F0 m pc ls st) ⟨B.1, B.2, hml, hown, hts⟩ hc cw (H := H) ⟨fun a U g mk q => by obtain ⟨q1, q2, q3⟩ := q; exact ⟨q1, q2, va_K.moved (u := U) (U := U.calling g mk a) (Vm.Alike.refl U.vm) q3⟩, by
      obtain ⟨cell, h1, h2, h3, -⟩ := hM.1
      exact ⟨cell, h1, by rw [h3]; rfl, by rw [h2]; exact (hK.1 12 _ rfl).2.1⟩, fun U hU hW => ⟨rfl, by rw [hU]; exact hM, va_K.moved hW.alike hK⟩⟩ rfl hn hl.1 hst (lv_room hW) d hf
  intro T hT X
  obtain ⟨v9, st₀, t, T', L, h0, X', hL, e1, e2, ⟨⟨hv, hp, hM1⟩, hz, hk⟩, st9⟩ := hr T hT X
  cases hv
  rw [h0] at hz hk
  obtain ⟨t2, a1, b1⟩ := kk T'.heap (locs ++ L) hp (by rw [e1]; exact hM1)
    ⟨Nat.le_trans hS.1 (by rw [e1]; exact hz), fun q h1 h2 => by rw [e1, hk q (Nat.lt_of_lt_of_le h1 hS.1) h2]; exact hS.2.1 q h1 h2, fun q hq => by
      rcases List.mem_append.mp hq with h | h
      · exact hS.2.2 q h
      · exact hL q h⟩ T' rfl X'
  exact ⟨t2, st9 t2 a1, b1⟩
/-- a call of a static method that touches nothing, by anybody -/
theorem z_call {own : String} {y : MethodName} {bytes : ByteArray} {maxL n index : Nat} {ret : Option FieldType} {wsy : List Cond} {rm : Room} {av : List Value} {v : Option Value} {P : Prop} (S : CallFix p m c cc nL s args Ts own) (hl : lv_has ls nL lv) (hc : MZ l y wsy rm av v P) (cw : CallB R s args own index y bytes maxL ret wsy rm 0 0 n ∧ (Cond.static y).before args s = true) (hst : st = av.reverse ++ rest) (hn : av.length = n) (hW : (rest.map fun v => v.category).sum ≤ 8) (d : decode cc pc = .ok (.invokestatic index, 3)) (hf : cells ≤ R.cells ∧ slots ≤ R.slots)
    (kk : P → W p l e R s m args below meth c H locs cells slots Q (F0 m (pc + 3) ls (v.toList ++ rest))) : W p l e R s m args below meth c H locs cells slots Q (F0 m pc ls st) := by
  have hr := va_runS (l := l) (e := e) (below := below) (meth := meth) (locs := locs) (cells := cells) (slots := slots) (As := av) (rest := rest) (g := F0 m pc ls st) S hc cw (H := H) ⟨fun a U g mk q => q, fun U hU hW => rfl⟩ rfl hn hl.1 hst (lv_room hW) d hf
  intro T hT X
  obtain ⟨v9, st₀, t, T', L, h0, X', hL, e1, e2, ⟨hv, hp, hh⟩, st9⟩ := hr T hT X
  cases hv
  have hL0 : L = [] := by
    cases L with
    | nil => rfl
    | cons a L => exact (hL a List.mem_cons_self).elim
  subst hL0
  rw [List.append_nil] at X'
  obtain ⟨t2, a1, b1⟩ := kk hp T' (by rw [e1, hh, h0]) X'
  exact ⟨t2, st9 t2 a1, b1⟩
theorem mo_iret {x y : Int32} {σ' : MS} {P : Prop} {ty : FieldType} (E : mE p s m args c cc nL Ts D cy) (hr : meth.sig.returnType = some ty) (hn : narrow ty (.int x) = .int x) (hlk : meth.locks = false) (hM : MP D cy o ad σ H) (hS : va_S (mA o ad) s.heap H locs) (d : decode cc pc = .ok (.ireturn, 1)) (hx : x = y) (hs : σ = σ') (hP : P) : W p l e R s m args below meth c H locs cells slots (MQ below (mQ D cy o ad (some (.int y)) σ' P) args s cells slots (mA o ad)) (F0 m pc ls [.int x]) := by
  subst hx; subst hs
  exact W.zret E.1.1 E.1.2 hr hn (fun t ht hW => ⟨⟨rfl, hP, by rw [ht]; exact hM⟩, hS.F ht⟩) hS.2.2 d hlk
theorem mo_lret {x y : Int64} {σ' : MS} {P : Prop} (E : mE p s m args c cc nL Ts D cy) (hr : meth.sig.returnType = some .long) (hlk : meth.locks = false) (hM : MP D cy o ad σ H) (hS : va_S (mA o ad) s.heap H locs) (d : decode cc pc = .ok (.lreturn, 1)) (hx : x = y) (hs : σ = σ') (hP : P) : W p l e R s m args below meth c H locs cells slots (MQ below (mQ D cy o ad (some (.long y)) σ' P) args s cells slots (mA o ad)) (F0 m pc ls [.long x]) := by
  subst hx; subst hs
  exact W.lret E.1.1 E.1.2 hr (fun t ht hW => ⟨⟨rfl, hP, by rw [ht]; exact hM⟩, hS.F ht⟩) hS.2.2 d hlk
theorem mo_vret {σ' : MS} {P : Prop} (E : mE p s m args c cc nL Ts D cy) (hr : meth.sig.returnType = none) (hlk : meth.locks = false) (hM : MP D cy o ad σ H) (hS : va_S (mA o ad) s.heap H locs) (d : decode cc pc = .ok (.return_, 1)) (hs : σ = σ') (hP : P) : W p l e R s m args below meth c H locs cells slots (MQ below (mQ D cy o ad none σ' P) args s cells slots (mA o ad)) (F0 m pc ls []) := by
  subst hs
  exact W.vret E.1.1 E.1.2 hr (fun t ht hW => ⟨⟨rfl, hP, by rw [ht]; exact hM⟩, hS.F ht⟩) hS.2.2 d hlk
theorem mo_iretx {x y : Int32} {P : MS → Prop} {ty : FieldType} (E : mE p s m args c cc nL Ts D cy) (hr : meth.sig.returnType = some ty) (hn : narrow ty (.int x) = .int x) (hlk : meth.locks = false) (hM : MP D cy o ad σ H) (hS : va_S (mA o ad) s.heap H locs) (d : decode cc pc = .ok (.ireturn, 1)) (hx : x = y) (hP : P σ) : W p l e R s m args below meth c H locs cells slots (MQ below (mQX D cy o ad (some (.int y)) P) args s cells slots (mA o ad)) (F0 m pc ls [.int x]) := by
  subst hx
  exact W.zret E.1.1 E.1.2 hr hn (fun t ht hW => ⟨⟨rfl, _, hP, by rw [ht]; exact hM⟩, hS.F ht⟩) hS.2.2 d hlk
theorem mo_lretx {x y : Int64} {P : MS → Prop} (E : mE p s m args c cc nL Ts D cy) (hr : meth.sig.returnType = some .long) (hlk : meth.locks = false) (hM : MP D cy o ad σ H) (hS : va_S (mA o ad) s.heap H locs) (d : decode cc pc = .ok (.lreturn, 1)) (hx : x = y) (hP : P σ) : W p l e R s m args below meth c H locs cells slots (MQ below (mQX D cy o ad (some (.long y)) P) args s cells slots (mA o ad)) (F0 m pc ls [.long x]) := by
  subst hx
  exact W.lret E.1.1 E.1.2 hr (fun t ht hW => ⟨⟨rfl, _, hP, by rw [ht]; exact hM⟩, hS.F ht⟩) hS.2.2 d hlk
theorem mo_vretx {P : MS → Prop} (E : mE p s m args c cc nL Ts D cy) (hr : meth.sig.returnType = none) (hlk : meth.locks = false) (hM : MP D cy o ad σ H) (hS : va_S (mA o ad) s.heap H locs) (d : decode cc pc = .ok (.return_, 1)) (hP : P σ) : W p l e R s m args below meth c H locs cells slots (MQ below (mQX D cy o ad none P) args s cells slots (mA o ad)) (F0 m pc ls []) :=
  W.vret E.1.1 E.1.2 hr (fun t ht hW => ⟨⟨rfl, _, hP, by rw [ht]; exact hM⟩, hS.F ht⟩) hS.2.2 d hlk
theorem z_iret {x y : Int32} {P : Prop} {av : List Value} {ty : FieldType} (B : xB p c cc) (hr : meth.sig.returnType = some ty) (hn : narrow ty (.int x) = .int x) (hlk : meth.locks = false) (d : decode cc pc = .ok (.ireturn, 1)) (hx : x = y) (hP : P) : W p l e R s m args below meth c s.heap [] cells slots (MQ below (fun _ st oc t => oc = .returned (some (.int y)) ∧ P ∧ t.heap = st.heap) args s cells slots (fun _ => False)) (F0 m pc ls [.int x]) := by
  subst hx
  exact W.zret B.1 B.2 hr hn (fun t ht hW => ⟨rfl, hP, ht⟩) (fun q h => by cases h) d hlk
theorem z_lret {x y : Int64} {P : Prop} {av : List Value} (B : xB p c cc) (hr : meth.sig.returnType = some .long) (hlk : meth.locks = false) (d : decode cc pc = .ok (.lreturn, 1)) (hx : x = y) (hP : P) : W p l e R s m args below meth c s.heap [] cells slots (MQ below (fun _ st oc t => oc = .returned (some (.long y)) ∧ P ∧ t.heap = st.heap) args s cells slots (fun _ => False)) (F0 m pc ls [.long x]) := by
  subst hx
  exact W.lret B.1 B.2 hr (fun t ht hW => ⟨rfl, hP, ht⟩) (fun q h => by cases h) d hlk
end MR
/-- the start of a body of the reference -/
theorem mm_of {l : Launch} {y : MethodName} {ws ws' : List Cond} {rm : Room} {D : va_G} {cy : Nat → ClassId} {o : Nat} {ad : Nat → Nat} {av : List Value} {σ σ' : MS} {v : Option Value} {P : Prop} {cc : ByteArray} {nL : Nat} {ret : Option FieldType} (hy : plainName y.cls = true) (hcls : y.cls = RX11) (hw : ws = Cond.code y cc nL ret :: ws') (hin : ∀ w ∈ wsX110, w ∈ ws) (hn : (lg_sl (Value.ref o :: av)).length ≤ nL) (hrc : rm.cells = 0 ∧ rm.slots = 0)
    (body : ∀ (p : Program) (e : Env) (s : State) (m : MethodId) (args : Array Value) (below : List Frame) (meth : Method) (c : Code) (ls : Array Slot), mE p s m args c cc nL ws D cy → meth.sig.returnType = ret → meth.locks = false → MP D cy o ad σ s.heap → va_S (mA o ad) s.heap s.heap [] → lv_has ls nL (lv_args 0 (.ref o :: av)) → W p l e rm s m args below meth c s.heap [] 0 0 (MQ below (mQ D cy o ad v σ' P) args s 0 0 (mA o ad)) (F0 m 0 ls [])) : MM l y ws rm D cy o ad av σ v σ' P := by
  refine Met.ofW (cc := cc) (maxL := nL) (ret := ret) hy hw ?_
  intro p e s m args below meth c s₁ B hml hv
  obtain ⟨rfl, hM, hK⟩ := hv
  have hown : s.vm.findClass y.cls = some m.cls := findClass_of_methodNamed B.named
  rw [hcls] at hown
  have hl := lv_entry (.ref o :: av) hn
  rw [lg_entry_eq]
  exact body p e s m _ below meth c _ ⟨⟨B.exec, B.bytes⟩, hml, hown, atoms_spec (ws := ws) B.pre, hin, hK⟩ B.returns B.notSynchronized hM va_S.rf hl
/-- the start of a body of the reference -/
theorem mx_of {l : Launch} {y : MethodName} {ws ws' : List Cond} {rm : Room} {D : va_G} {cy : Nat → ClassId} {o : Nat} {ad : Nat → Nat} {av : List Value} {σ : MS} {v : Option Value} {P : MS → Prop} {cc : ByteArray} {nL : Nat} {ret : Option FieldType} (hy : plainName y.cls = true) (hcls : y.cls = RX11) (hw : ws = Cond.code y cc nL ret :: ws') (hin : ∀ w ∈ wsX110, w ∈ ws) (hn : (lg_sl (Value.ref o :: av)).length ≤ nL) (hrc : rm.cells = 0 ∧ rm.slots = 0)
    (body : ∀ (p : Program) (e : Env) (s : State) (m : MethodId) (args : Array Value) (below : List Frame) (meth : Method) (c : Code) (ls : Array Slot), mE p s m args c cc nL ws D cy → meth.sig.returnType = ret → meth.locks = false → MP D cy o ad σ s.heap → va_S (mA o ad) s.heap s.heap [] → lv_has ls nL (lv_args 0 (.ref o :: av)) → W p l e rm s m args below meth c s.heap [] 0 0 (MQ below (mQX D cy o ad v P) args s 0 0 (mA o ad)) (F0 m 0 ls [])) : MX l y ws rm D cy o ad av σ v P := by
  refine Met.ofW (cc := cc) (maxL := nL) (ret := ret) hy hw ?_
  intro p e s m args below meth c s₁ B hml hv
  obtain ⟨rfl, hM, hK⟩ := hv
  have hown : s.vm.findClass y.cls = some m.cls := findClass_of_methodNamed B.named
  rw [hcls] at hown
  have hl := lv_entry (.ref o :: av) hn
  rw [lg_entry_eq]
  exact body p e s m _ below meth c _ ⟨⟨B.exec, B.bytes⟩, hml, hown, atoms_spec (ws := ws) B.pre, hin, hK⟩ B.returns B.notSynchronized hM va_S.rf hl
theorem mz_of {l : Launch} {y : MethodName} {ws ws' : List Cond} {rm : Room} {av : List Value} {v : Option Value} {P : Prop} {cc : ByteArray} {nL : Nat} {ret : Option FieldType} (hy : plainName y.cls = true) (hw : ws = Cond.code y cc nL ret :: ws') (hn : (lg_sl av).length ≤ nL)
    (body : ∀ (p : Program) (e : Env) (s : State) (m : MethodId) (args : Array Value) (below : List Frame) (meth : Method) (c : Code) (ls : Array Slot), CallFix p m c cc nL s args ws y.cls → meth.sig.returnType = ret → meth.locks = false → lv_has ls nL (lv_args 0 av) → W p l e rm s m args below meth c s.heap [] 0 0 (MQ below (fun _ st oc t => oc = .returned v ∧ P ∧ t.heap = st.heap) args s 0 0 (fun _ => False)) (F0 m 0 ls [])) : MZ l y ws rm av v P := by
  refine Met.ofW (cc := cc) (maxL := nL) (ret := ret) hy hw ?_
  intro p e s m args below meth c s₁ B hml hv
  subst hv
  have hl := lv_entry av hn
  rw [lg_entry_eq]
  exact body p e s m _ below meth c _ ⟨B.exec, B.bytes, hml, findClass_of_methodNamed B.named, atoms_spec (ws := ws) B.pre⟩ B.returns B.notSynchronized hl
