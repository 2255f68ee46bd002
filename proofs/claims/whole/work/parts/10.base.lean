/-! whole numbers on the stack: an int is iI z, a long lI z -/
def iI (z : Int) : Int32 := Int32.ofInt z
def lI (z : Int) : Int64 := Int64.ofInt z
theorem iI_add (a b : Int) : iI a + iI b = iI (a + b) := (Int32.ofInt_add a b).symm
theorem iI_sub (a b : Int) : iI a - iI b = iI (a - b) := (Int32.ofInt_sub a b).symm
theorem iI_mul (a b : Int) : iI a * iI b = iI (a * b) := (Int32.ofInt_mul a b).symm
theorem iI_neg (a : Int) : -iI a = iI (-a) := (Int32.ofInt_neg a).symm
theorem lI_add (a b : Int) : lI a + lI b = lI (a + b) := (Int64.ofInt_add a b).symm
theorem lI_sub (a b : Int) : lI a - lI b = lI (a - b) := (Int64.ofInt_sub a b).symm
theorem lI_mul (a b : Int) : lI a * lI b = lI (a * b) := (Int64.ofInt_mul a b).symm
theorem lI_neg (a : Int) : -lI a = lI (-a) := (Int64.ofInt_neg a).symm
theorem iI_self (x : Int32) : iI x.toInt = x := Int32.ofInt_toInt x
theorem lI_self (x : Int64) : lI x.toInt = x := Int64.ofInt_toInt x
theorem iI_rng (x : Int32) : -2147483648 ≤ x.toInt ∧ x.toInt < 2147483648 := ⟨x.le_toInt, x.toInt_lt⟩
theorem lI_rng (x : Int64) : -9223372036854775808 ≤ x.toInt ∧ x.toInt < 9223372036854775808 := ⟨x.le_toInt, x.toInt_lt⟩
theorem iI_toInt {z : Int} (h : -2147483648 ≤ z ∧ z < 2147483648) : (iI z).toInt = z := Int32.toInt_ofInt_of_le h.1 h.2
theorem lI_toInt {z : Int} (h : -9223372036854775808 ≤ z ∧ z < 9223372036854775808) : (lI z).toInt = z := Int64.toInt_ofInt_of_le h.1 h.2
theorem iI_lt {a b : Int} (ha : -2147483648 ≤ a ∧ a < 2147483648) (hb : -2147483648 ≤ b ∧ b < 2147483648) : iI a < iI b ↔ a < b := by
  rw [Int32.lt_iff_toInt_lt, iI_toInt ha, iI_toInt hb]
theorem iI_le {a b : Int} (ha : -2147483648 ≤ a ∧ a < 2147483648) (hb : -2147483648 ≤ b ∧ b < 2147483648) : iI a ≤ iI b ↔ a ≤ b := by
  rw [Int32.le_iff_toInt_le, iI_toInt ha, iI_toInt hb]
theorem iI_eq {a b : Int} (ha : -2147483648 ≤ a ∧ a < 2147483648) (hb : -2147483648 ≤ b ∧ b < 2147483648) : iI a = iI b ↔ a = b := by
  rw [← Int32.toInt_inj, iI_toInt ha, iI_toInt hb]
theorem lI_lt {a b : Int} (ha : -9223372036854775808 ≤ a ∧ a < 9223372036854775808) (hb : -9223372036854775808 ≤ b ∧ b < 9223372036854775808) : lI a < lI b ↔ a < b := by
  rw [Int64.lt_iff_toInt_lt, lI_toInt ha, lI_toInt hb]
theorem lI_eq {a b : Int} (ha : -9223372036854775808 ≤ a ∧ a < 9223372036854775808) (hb : -9223372036854775808 ≤ b ∧ b < 9223372036854775808) : lI a = lI b ↔ a = b := by
  rw [← Int64.toInt_inj, lI_toInt ha, lI_toInt hb]
theorem iI_nat (n : Nat) : nI n = iI (n : Int) := Int32.ofInt_eq_ofNat.symm
theorem iI_clamp {z : Int} (h : 0 ≤ z ∧ z < 2147483648) : (iI z).toNatClampNeg = z.toNat := Int32.toNatClampNeg_ofInt_of_le (by omega) h.2
theorem iI_in {z : Int} {n : Nat} (h : 0 ≤ z ∧ z < (n : Int)) (hn : n < 2147483648) : vp_in (iI z) n := by
  rw [vp_in_iff, iI_toInt (by omega)]
  exact h
theorem iI_tdiv {a b : Int} (ha : -2147483648 < a ∧ a < 2147483648) (hb : -2147483648 ≤ b ∧ b < 2147483648) : iI a / iI b = iI (a.tdiv b) :=
  (Int32.ofInt_tdiv (by have : Int32.minValue.toInt = -2147483648 := by decide
                        omega) (by have : Int32.maxValue.toInt = 2147483647 := by decide
                                   omega) (by have : Int32.minValue.toInt = -2147483648 := by decide
                                              omega) (by have : Int32.maxValue.toInt = 2147483647 := by decide
                                                         omega)).symm
theorem lI_tdiv {a b : Int} (ha : -9223372036854775808 < a ∧ a < 9223372036854775808) (hb : -9223372036854775808 ≤ b ∧ b < 9223372036854775808) : lI a / lI b = lI (a.tdiv b) :=
  (Int64.ofInt_tdiv (by have : Int64.minValue.toInt = -9223372036854775808 := by decide
                        omega) (by have : Int64.maxValue.toInt = 9223372036854775807 := by decide
                                   omega) (by have : Int64.minValue.toInt = -9223372036854775808 := by decide
                                              omega) (by have : Int64.maxValue.toInt = 9223372036854775807 := by decide
                                                         omega)).symm
theorem iI_div {a b : Int} (ha : 0 ≤ a ∧ a < 2147483648) (hb : 0 < b ∧ b < 2147483648) : iI a / iI b = iI (a / b) := by
  rw [iI_tdiv (by omega) (by omega), Int.tdiv_eq_ediv_of_nonneg ha.1]
theorem lI_div {a b : Int} (ha : 0 ≤ a ∧ a < 9223372036854775808) (hb : 0 < b ∧ b < 9223372036854775808) : lI a / lI b = lI (a / b) := by
  rw [lI_tdiv (by omega) (by omega), Int.tdiv_eq_ediv_of_nonneg ha.1]
theorem iI_i2l {a : Int} (ha : -2147483648 ≤ a ∧ a < 2147483648) : (iI a).toInt64 = lI a := by
  rw [← Int64.toInt_inj, Int32.toInt_toInt64, iI_toInt ha, lI_toInt (by omega)]
theorem iI_ne0 {b : Int} (hb : -2147483648 ≤ b ∧ b < 2147483648) (h : b ≠ 0) : ¬ iI b = 0 := by
  rw [show (0 : Int32) = iI 0 from rfl, iI_eq hb (by decide)]
  exact h
theorem lI_ne0 {b : Int} (hb : -9223372036854775808 ≤ b ∧ b < 9223372036854775808) (h : b ≠ 0) : ¬ lI b = 0 := by
  rw [show (0 : Int64) = lI 0 from rfl, lI_eq hb (by decide)]
  exact h
/-! locals by their keys -/
def lget : List (Nat × Value) → Nat → Option Value
  | [], _ => none
  | q :: t, i => bif Nat.beq q.1 i then some q.2 else lget t i
theorem lget_mem {v : Value} {i : Nat} : ∀ {l : List (Nat × Value)}, lget l i = some v → (i, v) ∈ l
  | [], h => by cases h
  | q :: t, h => by
    unfold lget at h
    by_cases hq : Nat.beq q.1 i = true
    · rw [hq] at h
      have e1 := Nat.eq_of_beq_eq_true hq
      have e2 : q.2 = v := Option.some.inj h
      rw [← e1, ← e2]
      exact List.mem_cons_self
    · rw [Bool.eq_false_iff.mpr hq] at h
      exact List.mem_cons_of_mem _ (lget_mem h)
theorem lget_at {ls : Array Slot} {nL : Nat} {l : List (Nat × Value)} {i : Nat} {v : Value} (h : lv_has ls nL l) (hk : lget l i = some v) : ls[i]? = some (.val v) := h.2.2 (i, v) (lget_mem hk)
theorem lv_key {ls : Array Slot} {nL : Nat} {l : List (Nat × Value)} (h : lv_has ls nL l) (l' : List (Nat × Value)) (hl : l'.map (fun q => lget l q.1) = l'.map (fun q => some q.2)) : lv_has ls nL l' := by
  refine ⟨h.1, h.2.1, fun q hq => ?_⟩
  have := List.map_inj_left.mp hl q hq
  exact lget_at h this
abbrev lset (l : List (Nat × Value)) (i : Nat) (v : Value) : List (Nat × Value) := (i, v) :: l.filter (fun q => !(q.1 == i) && !(q.1 + 1 == i && q.2.category == 2))
abbrev lset2 (l : List (Nat × Value)) (i : Nat) (v : Value) : List (Nat × Value) := (i, v) :: l.filter (fun q => !(q.1 == i) && (!(q.1 == i + 1) && !(q.1 + 1 == i && q.2.category == 2)))
section XR
variable {p : Program} {l : Launch} {e : Env} {R : Room} {s : State} {m : MethodId} {args : Array Value} {below : List Frame} {meth : Method} {c : Code} {H : Heap} {locs : List Loc} {cells slots : Nat} {Q : State → Prop}
variable {cc : ByteArray} {pc : Nat} {ls : Array Slot} {rest : List Value} {nL : Nat} {lv : List (Nat × Value)}
abbrev xB (p : Program) (c : Code) (cc : ByteArray) : Prop := p.tables.exec = Jvm.exec ∧ c.code = cc
theorem x_iload {i : Nat} {x : Int32} (B : xB p c cc) (hl : lv_has ls nL lv) (d : decode cc pc = .ok (.iload i, 2)) (hk : lget lv i = some (.int x)) (kk : W p l e R s m args below meth c H locs cells slots Q (F0 m (pc + 2) ls (.int x :: rest))) : W p l e R s m args below meth c H locs cells slots Q (F0 m pc ls rest) := lv_iload B.1 B.2 d (lget_at hl hk) kk
theorem x_iload_n {k : Fin 4} {x : Int32} (B : xB p c cc) (hl : lv_has ls nL lv) (d : decode cc pc = .ok (.iload_n k, 1)) (hk : lget lv (k : Nat) = some (.int x)) (kk : W p l e R s m args below meth c H locs cells slots Q (F0 m (pc + 1) ls (.int x :: rest))) : W p l e R s m args below meth c H locs cells slots Q (F0 m pc ls rest) := lv_iload_n B.1 B.2 d rfl (lget_at hl hk) kk
theorem x_lload {i : Nat} {x : Int64} (B : xB p c cc) (hl : lv_has ls nL lv) (d : decode cc pc = .ok (.lload i, 2)) (hk : lget lv i = some (.long x)) (kk : W p l e R s m args below meth c H locs cells slots Q (F0 m (pc + 2) ls (.long x :: rest))) : W p l e R s m args below meth c H locs cells slots Q (F0 m pc ls rest) := lv_lload B.1 B.2 d (lget_at hl hk) kk
theorem x_lload_n {k : Fin 4} {x : Int64} (B : xB p c cc) (hl : lv_has ls nL lv) (d : decode cc pc = .ok (.lload_n k, 1)) (hk : lget lv (k : Nat) = some (.long x)) (kk : W p l e R s m args below meth c H locs cells slots Q (F0 m (pc + 1) ls (.long x :: rest))) : W p l e R s m args below meth c H locs cells slots Q (F0 m pc ls rest) := lv_lload_n B.1 B.2 d rfl (lget_at hl hk) kk
theorem x_aload {i : Nat} {x : Nat} (B : xB p c cc) (hl : lv_has ls nL lv) (d : decode cc pc = .ok (.aload i, 2)) (hk : lget lv i = some (.ref x)) (kk : W p l e R s m args below meth c H locs cells slots Q (F0 m (pc + 2) ls (.ref x :: rest))) : W p l e R s m args below meth c H locs cells slots Q (F0 m pc ls rest) := lv_aload B.1 B.2 d (lget_at hl hk) kk
theorem x_aload_n {k : Fin 4} {x : Nat} (B : xB p c cc) (hl : lv_has ls nL lv) (d : decode cc pc = .ok (.aload_n k, 1)) (hk : lget lv (k : Nat) = some (.ref x)) (kk : W p l e R s m args below meth c H locs cells slots Q (F0 m (pc + 1) ls (.ref x :: rest))) : W p l e R s m args below meth c H locs cells slots Q (F0 m pc ls rest) := lv_aload_n B.1 B.2 d rfl (lget_at hl hk) kk
theorem x_istore {i : Nat} {x : Int32} (B : xB p c cc) (hl : lv_has ls nL lv) (d : decode cc pc = .ok (.istore i, 2)) (hn : i < nL) (kk : ∀ ls' : Array Slot, lv_has ls' nL (lset lv i (.int x)) → W p l e R s m args below meth c H locs cells slots Q (F0 m (pc + 2) ls' rest)) : W p l e R s m args below meth c H locs cells slots Q (F0 m pc ls (.int x :: rest)) := lv_istore B.1 B.2 d hl hn rfl kk
theorem x_istore_n {k : Fin 4} {x : Int32} (B : xB p c cc) (hl : lv_has ls nL lv) (d : decode cc pc = .ok (.istore_n k, 1)) (hn : (k : Nat) < nL) (kk : ∀ ls' : Array Slot, lv_has ls' nL (lset lv (k : Nat) (.int x)) → W p l e R s m args below meth c H locs cells slots Q (F0 m (pc + 1) ls' rest)) : W p l e R s m args below meth c H locs cells slots Q (F0 m pc ls (.int x :: rest)) := lv_istore_n B.1 B.2 d rfl hl hn rfl kk
theorem x_lstore {i : Nat} {x : Int64} (B : xB p c cc) (hl : lv_has ls nL lv) (d : decode cc pc = .ok (.lstore i, 2)) (hn : i + 1 < nL) (kk : ∀ ls' : Array Slot, lv_has ls' nL (lset2 lv i (.long x)) → W p l e R s m args below meth c H locs cells slots Q (F0 m (pc + 2) ls' rest)) : W p l e R s m args below meth c H locs cells slots Q (F0 m pc ls (.long x :: rest)) := lv_lstore B.1 B.2 d hl hn rfl kk
theorem x_lstore_n {k : Fin 4} {x : Int64} (B : xB p c cc) (hl : lv_has ls nL lv) (d : decode cc pc = .ok (.lstore_n k, 1)) (hn : (k : Nat) + 1 < nL) (kk : ∀ ls' : Array Slot, lv_has ls' nL (lset2 lv (k : Nat) (.long x)) → W p l e R s m args below meth c H locs cells slots Q (F0 m (pc + 1) ls' rest)) : W p l e R s m args below meth c H locs cells slots Q (F0 m pc ls (.long x :: rest)) := lv_lstore_n B.1 B.2 d rfl hl hn rfl kk
theorem x_astore {i : Nat} {x : Nat} (B : xB p c cc) (hl : lv_has ls nL lv) (d : decode cc pc = .ok (.astore i, 2)) (hn : i < nL) (kk : ∀ ls' : Array Slot, lv_has ls' nL (lset lv i (.ref x)) → W p l e R s m args below meth c H locs cells slots Q (F0 m (pc + 2) ls' rest)) : W p l e R s m args below meth c H locs cells slots Q (F0 m pc ls (.ref x :: rest)) := lv_astore B.1 B.2 d hl hn rfl kk
theorem x_astore_n {k : Fin 4} {x : Nat} (B : xB p c cc) (hl : lv_has ls nL lv) (d : decode cc pc = .ok (.astore_n k, 1)) (hn : (k : Nat) < nL) (kk : ∀ ls' : Array Slot, lv_has ls' nL (lset lv (k : Nat) (.ref x)) → W p l e R s m args below meth c H locs cells slots Q (F0 m (pc + 1) ls' rest)) : W p l e R s m args below meth c H locs cells slots Q (F0 m pc ls (.ref x :: rest)) := lv_astore_n B.1 B.2 d rfl hl hn rfl kk
theorem x_iinc {i : Nat} {n a : Int} (B : xB p c cc) (hl : lv_has ls nL lv) (d : decode cc pc = .ok (.iinc i n, 3)) (hk : lget lv i = some (.int (iI a))) (hn : i < nL) (kk : ∀ ls' : Array Slot, lv_has ls' nL (lset lv i (.int (iI (a + n)))) → W p l e R s m args below meth c H locs cells slots Q (F0 m (pc + 3) ls' rest)) : W p l e R s m args below meth c H locs cells slots Q (F0 m pc ls rest) := by
  obtain ⟨k, hk⟩ := List.getElem?_of_mem (lget_mem hk)
  exact lv_iinc (v := iI (a + n)) B.1 B.2 d hl hk (iI_add a n) hn rfl kk
theorem x_iconst {n : Int} (B : xB p c cc) (d : decode cc pc = .ok (.iconst n, 1)) (kk : W p l e R s m args below meth c H locs cells slots Q (F0 m (pc + 1) ls (.int (iI n) :: rest))) : W p l e R s m args below meth c H locs cells slots Q (F0 m pc ls rest) := lv_iconst (v := iI n) B.1 B.2 d rfl kk
theorem x_bipush {n : Int} (B : xB p c cc) (d : decode cc pc = .ok (.bipush n, 2)) (hv : (Int8.ofInt n).toInt32 = iI n) (kk : W p l e R s m args below meth c H locs cells slots Q (F0 m (pc + 2) ls (.int (iI n) :: rest))) : W p l e R s m args below meth c H locs cells slots Q (F0 m pc ls rest) := lv_bipush B.1 B.2 d hv kk
theorem x_sipush {n : Int} (B : xB p c cc) (d : decode cc pc = .ok (.sipush n, 3)) (hv : (Int16.ofInt n).toInt32 = iI n) (kk : W p l e R s m args below meth c H locs cells slots Q (F0 m (pc + 3) ls (.int (iI n) :: rest))) : W p l e R s m args below meth c H locs cells slots Q (F0 m pc ls rest) := lv_sipush B.1 B.2 d hv kk
theorem x_lconst {n : Fin 2} (B : xB p c cc) (d : decode cc pc = .ok (.lconst n, 1)) (kk : W p l e R s m args below meth c H locs cells slots Q (F0 m (pc + 1) ls (.long (lI ((n : Nat) : Int)) :: rest))) : W p l e R s m args below meth c H locs cells slots Q (F0 m pc ls rest) := lv_lconst (v := lI ((n : Nat) : Int)) B.1 B.2 d (by unfold lI; exact Int64.ofInt_eq_ofNat.symm) kk
theorem x_iadd {a b : Int} (B : xB p c cc) (d : decode cc pc = .ok (.iadd, 1)) (kk : W p l e R s m args below meth c H locs cells slots Q (F0 m (pc + 1) ls (.int (iI (a + b)) :: rest))) : W p l e R s m args below meth c H locs cells slots Q (F0 m pc ls (.int (iI b) :: .int (iI a) :: rest)) := lv_iadd B.1 B.2 d (by rw [iI_add]; exact kk)
theorem x_isub {a b : Int} (B : xB p c cc) (d : decode cc pc = .ok (.isub, 1)) (kk : W p l e R s m args below meth c H locs cells slots Q (F0 m (pc + 1) ls (.int (iI (a - b)) :: rest))) : W p l e R s m args below meth c H locs cells slots Q (F0 m pc ls (.int (iI b) :: .int (iI a) :: rest)) := lv_isub B.1 B.2 d (by rw [iI_sub]; exact kk)
theorem x_imul {a b : Int} (B : xB p c cc) (d : decode cc pc = .ok (.imul, 1)) (kk : W p l e R s m args below meth c H locs cells slots Q (F0 m (pc + 1) ls (.int (iI (a * b)) :: rest))) : W p l e R s m args below meth c H locs cells slots Q (F0 m pc ls (.int (iI b) :: .int (iI a) :: rest)) := lv_imul B.1 B.2 d (by rw [iI_mul]; exact kk)
theorem x_iand1 {a : Int} (B : xB p c cc) (d : decode cc pc = .ok (.iand, 1)) (ha : 0 ≤ a ∧ a ≤ 3) (kk : W p l e R s m args below meth c H locs cells slots Q (F0 m (pc + 1) ls (.int (iI (a % 2)) :: rest))) : W p l e R s m args below meth c H locs cells slots Q (F0 m pc ls (.int (iI 1) :: .int (iI a) :: rest)) := lv_iand B.1 B.2 d (by
  have e : iI a &&& iI 1 = iI (a % 2) := by
    rcases (show a = 0 ∨ a = 1 ∨ a = 2 ∨ a = 3 by omega) with rfl | rfl | rfl | rfl <;> decide
  rw [e]; exact kk)
theorem x_iand2 {a : Int} (B : xB p c cc) (d : decode cc pc = .ok (.iand, 1)) (ha : 0 ≤ a ∧ a ≤ 3) (kk : W p l e R s m args below meth c H locs cells slots Q (F0 m (pc + 1) ls (.int (iI (a / 2 * 2)) :: rest))) : W p l e R s m args below meth c H locs cells slots Q (F0 m pc ls (.int (iI 2) :: .int (iI a) :: rest)) := lv_iand B.1 B.2 d (by
  have e : iI a &&& iI 2 = iI (a / 2 * 2) := by
    rcases (show a = 0 ∨ a = 1 ∨ a = 2 ∨ a = 3 by omega) with rfl | rfl | rfl | rfl <;> decide
  rw [e]; exact kk)
theorem x_ineg {a : Int} (B : xB p c cc) (d : decode cc pc = .ok (.ineg, 1)) (kk : W p l e R s m args below meth c H locs cells slots Q (F0 m (pc + 1) ls (.int (iI (-a)) :: rest))) : W p l e R s m args below meth c H locs cells slots Q (F0 m pc ls (.int (iI a) :: rest)) := lv_ineg B.1 B.2 d (by rw [iI_neg]; exact kk)
theorem x_idiv {a b : Int} (B : xB p c cc) (d : decode cc pc = .ok (.idiv, 1)) (ha : 0 ≤ a ∧ a < 2147483648) (hb : 0 < b ∧ b < 2147483648) (kk : W p l e R s m args below meth c H locs cells slots Q (F0 m (pc + 1) ls (.int (iI (a / b)) :: rest))) : W p l e R s m args below meth c H locs cells slots Q (F0 m pc ls (.int (iI b) :: .int (iI a) :: rest)) := lv_idiv B.1 B.2 d (iI_ne0 (by omega) (by omega)) (by rw [iI_div ha hb]; exact kk)
theorem x_irem {a b : Int} (B : xB p c cc) (d : decode cc pc = .ok (.irem, 1)) (ha : 0 ≤ a ∧ a < 2147483648) (hb : 0 < b ∧ b < 2147483648) (kk : W p l e R s m args below meth c H locs cells slots Q (F0 m (pc + 1) ls (.int (iI (a % b)) :: rest))) : W p l e R s m args below meth c H locs cells slots Q (F0 m pc ls (.int (iI b) :: .int (iI a) :: rest)) := lv_irem B.1 B.2 d (iI_ne0 (by omega) (by omega)) (by
  rw [iI_div ha hb, iI_mul, iI_sub, show a - a / b * b = a % b by rw [Int.mul_comm]; exact (Int.emod_def a b).symm]
  exact kk)
theorem x_ladd {a b : Int} (B : xB p c cc) (d : decode cc pc = .ok (.ladd, 1)) (kk : W p l e R s m args below meth c H locs cells slots Q (F0 m (pc + 1) ls (.long (lI (a + b)) :: rest))) : W p l e R s m args below meth c H locs cells slots Q (F0 m pc ls (.long (lI b) :: .long (lI a) :: rest)) := lv_ladd B.1 B.2 d (by rw [lI_add]; exact kk)
theorem x_lsub {a b : Int} (B : xB p c cc) (d : decode cc pc = .ok (.lsub, 1)) (kk : W p l e R s m args below meth c H locs cells slots Q (F0 m (pc + 1) ls (.long (lI (a - b)) :: rest))) : W p l e R s m args below meth c H locs cells slots Q (F0 m pc ls (.long (lI b) :: .long (lI a) :: rest)) := lv_lsub B.1 B.2 d (by rw [lI_sub]; exact kk)
theorem x_lmul {a b : Int} (B : xB p c cc) (d : decode cc pc = .ok (.lmul, 1)) (kk : W p l e R s m args below meth c H locs cells slots Q (F0 m (pc + 1) ls (.long (lI (a * b)) :: rest))) : W p l e R s m args below meth c H locs cells slots Q (F0 m pc ls (.long (lI b) :: .long (lI a) :: rest)) := lv_lmul B.1 B.2 d (by rw [lI_mul]; exact kk)
theorem x_lneg {a : Int} (B : xB p c cc) (d : decode cc pc = .ok (.lneg, 1)) (kk : W p l e R s m args below meth c H locs cells slots Q (F0 m (pc + 1) ls (.long (lI (-a)) :: rest))) : W p l e R s m args below meth c H locs cells slots Q (F0 m pc ls (.long (lI a) :: rest)) := lv_lneg B.1 B.2 d (by rw [lI_neg]; exact kk)
theorem x_ldiv {a b : Int} (B : xB p c cc) (d : decode cc pc = .ok (.ldiv, 1)) (ha : 0 ≤ a ∧ a < 9223372036854775808) (hb : 0 < b ∧ b < 9223372036854775808) (kk : W p l e R s m args below meth c H locs cells slots Q (F0 m (pc + 1) ls (.long (lI (a / b)) :: rest))) : W p l e R s m args below meth c H locs cells slots Q (F0 m pc ls (.long (lI b) :: .long (lI a) :: rest)) := lv_ldiv B.1 B.2 d (lI_ne0 (by omega) (by omega)) (by rw [lI_div ha hb]; exact kk)
theorem x_i2l {a : Int} (B : xB p c cc) (d : decode cc pc = .ok (.i2l, 1)) (ha : -2147483648 ≤ a ∧ a < 2147483648) (kk : W p l e R s m args below meth c H locs cells slots Q (F0 m (pc + 1) ls (.long (lI a) :: rest))) : W p l e R s m args below meth c H locs cells slots Q (F0 m pc ls (.int (iI a) :: rest)) := lv_i2l (v := lI a) B.1 B.2 d (iI_i2l ha) kk
theorem x_goto {off : Int} {tgt : Nat} (B : xB p c cc) (d : decode cc pc = .ok (.goto off, 3)) (ht : (pc : Int) + off = (tgt : Int)) (kk : W p l e R s m args below meth c H locs cells slots Q (F0 m tgt ls rest)) : W p l e R s m args below meth c H locs cells slots Q (F0 m pc ls rest) := lv_goto B.1 B.2 d ht kk
theorem x_icmp_eq {a b : Int} {off : Int} {tgt : Nat} (B : xB p c cc) (d : decode cc pc = .ok (.if_icmp .eq off, 3)) (ht : (pc : Int) + off = (tgt : Int)) (ha : -2147483648 ≤ a ∧ a < 2147483648) (hb : -2147483648 ≤ b ∧ b < 2147483648) (k1 : a = b → W p l e R s m args below meth c H locs cells slots Q (F0 m tgt ls rest)) (k2 : ¬ a = b → W p l e R s m args below meth c H locs cells slots Q (F0 m (pc + 3) ls rest)) : W p l e R s m args below meth c H locs cells slots Q (F0 m pc ls (.int (iI b) :: .int (iI a) :: rest)) := lv_icmp_eq B.1 B.2 d ht (fun h => k1 ((iI_eq ha hb).mp h)) (fun h => k2 (fun q => h ((iI_eq ha hb).mpr q)))
theorem x_if_eq {a : Int} {off : Int} {tgt : Nat} (B : xB p c cc) (d : decode cc pc = .ok (.ifCond .eq off, 3)) (ht : (pc : Int) + off = (tgt : Int)) (ha : -2147483648 ≤ a ∧ a < 2147483648) (k1 : a = 0 → W p l e R s m args below meth c H locs cells slots Q (F0 m tgt ls rest)) (k2 : ¬ a = 0 → W p l e R s m args below meth c H locs cells slots Q (F0 m (pc + 3) ls rest)) : W p l e R s m args below meth c H locs cells slots Q (F0 m pc ls (.int (iI a) :: rest)) := by
  have zb : (-2147483648 : Int) ≤ 0 ∧ (0 : Int) < 2147483648 := by decide
  exact lv_if_eq B.1 B.2 d ht (fun h => k1 ((iI_eq ha zb).mp h)) (fun h => k2 (fun q => h ((iI_eq ha zb).mpr q)))
theorem x_if_eq_t {a : Int} {off : Int} {tgt : Nat} (B : xB p c cc) (d : decode cc pc = .ok (.ifCond .eq off, 3)) (ht : (pc : Int) + off = (tgt : Int)) (ha : (-2147483648 ≤ a ∧ a < 2147483648) ∧ (a = 0)) (k1 : W p l e R s m args below meth c H locs cells slots Q (F0 m tgt ls rest)) : W p l e R s m args below meth c H locs cells slots Q (F0 m pc ls (.int (iI a) :: rest)) := x_if_eq B d ht ha.1 (fun _ => k1) (fun h => absurd h (by have := ha.2; omega))
theorem x_if_eq_f {a : Int} {off : Int} {tgt : Nat} (B : xB p c cc) (d : decode cc pc = .ok (.ifCond .eq off, 3)) (ht : (pc : Int) + off = (tgt : Int)) (ha : (-2147483648 ≤ a ∧ a < 2147483648) ∧ (¬ a = 0)) (k2 : W p l e R s m args below meth c H locs cells slots Q (F0 m (pc + 3) ls rest)) : W p l e R s m args below meth c H locs cells slots Q (F0 m pc ls (.int (iI a) :: rest)) := x_if_eq B d ht ha.1 (fun h => absurd h (by have := ha.2; omega)) (fun _ => k2)
theorem x_lcmp_eq {a b : Int} {off : Int} {tgt : Nat} (B : xB p c cc) (d1 : decode cc pc = .ok (.lcmp, 1)) (d : decode cc (pc + 1) = .ok (.ifCond .eq off, 3)) (ht : ((pc + 1 : Nat) : Int) + off = (tgt : Int)) (ha : -9223372036854775808 ≤ a ∧ a < 9223372036854775808) (hb : -9223372036854775808 ≤ b ∧ b < 9223372036854775808) (k1 : a = b → W p l e R s m args below meth c H locs cells slots Q (F0 m tgt ls rest)) (k2 : ¬ a = b → W p l e R s m args below meth c H locs cells slots Q (F0 m (pc + 1 + 3) ls rest)) : W p l e R s m args below meth c H locs cells slots Q (F0 m pc ls (.long (lI b) :: .long (lI a) :: rest)) := by
  refine W.lcmp B.1 B.2 d1 ?_
  rcases Int.lt_trichotomy a b with h | h | h
  · rw [show lg_cmp (lI a) (lI b) = iI (-1) by have h1 := (lI_lt ha hb).mpr h; have h2 : ¬ lI b < lI a := fun q => by { have := (lI_lt hb ha).mp q; omega }; have h3 : ¬ lI a = lI b := fun q => by { have := (lI_eq ha hb).mp q; omega }; simp [lg_cmp, h3, h2, iI]]
    exact x_if_eq B d ht (by decide) (fun q => k1 (by omega)) (fun q => k2 (by omega))
  · rw [show lg_cmp (lI a) (lI b) = iI 0 by subst h; have h2 : ¬ lI a < lI a := fun q => by { have := (lI_lt hb ha).mp q; omega }; simp [lg_cmp, h2, iI]]
    exact x_if_eq B d ht (by decide) (fun q => k1 (by omega)) (fun q => k2 (by omega))
  · rw [show lg_cmp (lI a) (lI b) = iI 1 by have h1 := (lI_lt hb ha).mpr h; simp [lg_cmp, h1, iI]]
    exact x_if_eq B d ht (by decide) (fun q => k1 (by omega)) (fun q => k2 (by omega))
theorem x_icmp_ne {a b : Int} {off : Int} {tgt : Nat} (B : xB p c cc) (d : decode cc pc = .ok (.if_icmp .ne off, 3)) (ht : (pc : Int) + off = (tgt : Int)) (ha : -2147483648 ≤ a ∧ a < 2147483648) (hb : -2147483648 ≤ b ∧ b < 2147483648) (k1 : ¬ a = b → W p l e R s m args below meth c H locs cells slots Q (F0 m tgt ls rest)) (k2 : a = b → W p l e R s m args below meth c H locs cells slots Q (F0 m (pc + 3) ls rest)) : W p l e R s m args below meth c H locs cells slots Q (F0 m pc ls (.int (iI b) :: .int (iI a) :: rest)) := lv_icmp_ne B.1 B.2 d ht (fun h => k1 (fun q => h ((iI_eq ha hb).mpr q))) (fun h => k2 ((iI_eq ha hb).mp h))
theorem x_if_ne {a : Int} {off : Int} {tgt : Nat} (B : xB p c cc) (d : decode cc pc = .ok (.ifCond .ne off, 3)) (ht : (pc : Int) + off = (tgt : Int)) (ha : -2147483648 ≤ a ∧ a < 2147483648) (k1 : ¬ a = 0 → W p l e R s m args below meth c H locs cells slots Q (F0 m tgt ls rest)) (k2 : a = 0 → W p l e R s m args below meth c H locs cells slots Q (F0 m (pc + 3) ls rest)) : W p l e R s m args below meth c H locs cells slots Q (F0 m pc ls (.int (iI a) :: rest)) := by
  have zb : (-2147483648 : Int) ≤ 0 ∧ (0 : Int) < 2147483648 := by decide
  exact lv_if_ne B.1 B.2 d ht (fun h => k1 (fun q => h ((iI_eq ha zb).mpr q))) (fun h => k2 ((iI_eq ha zb).mp h))
theorem x_if_ne_t {a : Int} {off : Int} {tgt : Nat} (B : xB p c cc) (d : decode cc pc = .ok (.ifCond .ne off, 3)) (ht : (pc : Int) + off = (tgt : Int)) (ha : (-2147483648 ≤ a ∧ a < 2147483648) ∧ (¬ a = 0)) (k1 : W p l e R s m args below meth c H locs cells slots Q (F0 m tgt ls rest)) : W p l e R s m args below meth c H locs cells slots Q (F0 m pc ls (.int (iI a) :: rest)) := x_if_ne B d ht ha.1 (fun _ => k1) (fun h => absurd h (by have := ha.2; omega))
theorem x_if_ne_f {a : Int} {off : Int} {tgt : Nat} (B : xB p c cc) (d : decode cc pc = .ok (.ifCond .ne off, 3)) (ht : (pc : Int) + off = (tgt : Int)) (ha : (-2147483648 ≤ a ∧ a < 2147483648) ∧ (a = 0)) (k2 : W p l e R s m args below meth c H locs cells slots Q (F0 m (pc + 3) ls rest)) : W p l e R s m args below meth c H locs cells slots Q (F0 m pc ls (.int (iI a) :: rest)) := x_if_ne B d ht ha.1 (fun h => absurd h (by have := ha.2; omega)) (fun _ => k2)
theorem x_lcmp_ne {a b : Int} {off : Int} {tgt : Nat} (B : xB p c cc) (d1 : decode cc pc = .ok (.lcmp, 1)) (d : decode cc (pc + 1) = .ok (.ifCond .ne off, 3)) (ht : ((pc + 1 : Nat) : Int) + off = (tgt : Int)) (ha : -9223372036854775808 ≤ a ∧ a < 9223372036854775808) (hb : -9223372036854775808 ≤ b ∧ b < 9223372036854775808) (k1 : ¬ a = b → W p l e R s m args below meth c H locs cells slots Q (F0 m tgt ls rest)) (k2 : a = b → W p l e R s m args below meth c H locs cells slots Q (F0 m (pc + 1 + 3) ls rest)) : W p l e R s m args below meth c H locs cells slots Q (F0 m pc ls (.long (lI b) :: .long (lI a) :: rest)) := by
  refine W.lcmp B.1 B.2 d1 ?_
  rcases Int.lt_trichotomy a b with h | h | h
  · rw [show lg_cmp (lI a) (lI b) = iI (-1) by have h1 := (lI_lt ha hb).mpr h; have h2 : ¬ lI b < lI a := fun q => by { have := (lI_lt hb ha).mp q; omega }; have h3 : ¬ lI a = lI b := fun q => by { have := (lI_eq ha hb).mp q; omega }; simp [lg_cmp, h3, h2, iI]]
    exact x_if_ne B d ht (by decide) (fun q => k1 (by omega)) (fun q => k2 (by omega))
  · rw [show lg_cmp (lI a) (lI b) = iI 0 by subst h; have h2 : ¬ lI a < lI a := fun q => by { have := (lI_lt hb ha).mp q; omega }; simp [lg_cmp, h2, iI]]
    exact x_if_ne B d ht (by decide) (fun q => k1 (by omega)) (fun q => k2 (by omega))
  · rw [show lg_cmp (lI a) (lI b) = iI 1 by have h1 := (lI_lt hb ha).mpr h; simp [lg_cmp, h1, iI]]
    exact x_if_ne B d ht (by decide) (fun q => k1 (by omega)) (fun q => k2 (by omega))
theorem x_icmp_lt {a b : Int} {off : Int} {tgt : Nat} (B : xB p c cc) (d : decode cc pc = .ok (.if_icmp .lt off, 3)) (ht : (pc : Int) + off = (tgt : Int)) (ha : -2147483648 ≤ a ∧ a < 2147483648) (hb : -2147483648 ≤ b ∧ b < 2147483648) (k1 : a < b → W p l e R s m args below meth c H locs cells slots Q (F0 m tgt ls rest)) (k2 : b ≤ a → W p l e R s m args below meth c H locs cells slots Q (F0 m (pc + 3) ls rest)) : W p l e R s m args below meth c H locs cells slots Q (F0 m pc ls (.int (iI b) :: .int (iI a) :: rest)) := lv_icmp_lt B.1 B.2 d ht (fun h => k1 ((iI_lt ha hb).mp h)) (fun h => k2 (Int.not_lt.mp (fun q => h ((iI_lt ha hb).mpr q))))
theorem x_if_lt {a : Int} {off : Int} {tgt : Nat} (B : xB p c cc) (d : decode cc pc = .ok (.ifCond .lt off, 3)) (ht : (pc : Int) + off = (tgt : Int)) (ha : -2147483648 ≤ a ∧ a < 2147483648) (k1 : a < 0 → W p l e R s m args below meth c H locs cells slots Q (F0 m tgt ls rest)) (k2 : 0 ≤ a → W p l e R s m args below meth c H locs cells slots Q (F0 m (pc + 3) ls rest)) : W p l e R s m args below meth c H locs cells slots Q (F0 m pc ls (.int (iI a) :: rest)) := by
  have zb : (-2147483648 : Int) ≤ 0 ∧ (0 : Int) < 2147483648 := by decide
  exact lv_if_lt B.1 B.2 d ht (fun h => k1 ((iI_lt ha zb).mp h)) (fun h => k2 (Int.not_lt.mp (fun q => h ((iI_lt ha zb).mpr q))))
theorem x_if_lt_t {a : Int} {off : Int} {tgt : Nat} (B : xB p c cc) (d : decode cc pc = .ok (.ifCond .lt off, 3)) (ht : (pc : Int) + off = (tgt : Int)) (ha : (-2147483648 ≤ a ∧ a < 2147483648) ∧ (a < 0)) (k1 : W p l e R s m args below meth c H locs cells slots Q (F0 m tgt ls rest)) : W p l e R s m args below meth c H locs cells slots Q (F0 m pc ls (.int (iI a) :: rest)) := x_if_lt B d ht ha.1 (fun _ => k1) (fun h => absurd h (by have := ha.2; omega))
theorem x_if_lt_f {a : Int} {off : Int} {tgt : Nat} (B : xB p c cc) (d : decode cc pc = .ok (.ifCond .lt off, 3)) (ht : (pc : Int) + off = (tgt : Int)) (ha : (-2147483648 ≤ a ∧ a < 2147483648) ∧ (0 ≤ a)) (k2 : W p l e R s m args below meth c H locs cells slots Q (F0 m (pc + 3) ls rest)) : W p l e R s m args below meth c H locs cells slots Q (F0 m pc ls (.int (iI a) :: rest)) := x_if_lt B d ht ha.1 (fun h => absurd h (by have := ha.2; omega)) (fun _ => k2)
theorem x_lcmp_lt {a b : Int} {off : Int} {tgt : Nat} (B : xB p c cc) (d1 : decode cc pc = .ok (.lcmp, 1)) (d : decode cc (pc + 1) = .ok (.ifCond .lt off, 3)) (ht : ((pc + 1 : Nat) : Int) + off = (tgt : Int)) (ha : -9223372036854775808 ≤ a ∧ a < 9223372036854775808) (hb : -9223372036854775808 ≤ b ∧ b < 9223372036854775808) (k1 : a < b → W p l e R s m args below meth c H locs cells slots Q (F0 m tgt ls rest)) (k2 : b ≤ a → W p l e R s m args below meth c H locs cells slots Q (F0 m (pc + 1 + 3) ls rest)) : W p l e R s m args below meth c H locs cells slots Q (F0 m pc ls (.long (lI b) :: .long (lI a) :: rest)) := by
  refine W.lcmp B.1 B.2 d1 ?_
  rcases Int.lt_trichotomy a b with h | h | h
  · rw [show lg_cmp (lI a) (lI b) = iI (-1) by have h1 := (lI_lt ha hb).mpr h; have h2 : ¬ lI b < lI a := fun q => by { have := (lI_lt hb ha).mp q; omega }; have h3 : ¬ lI a = lI b := fun q => by { have := (lI_eq ha hb).mp q; omega }; simp [lg_cmp, h3, h2, iI]]
    exact x_if_lt B d ht (by decide) (fun q => k1 (by omega)) (fun q => k2 (by omega))
  · rw [show lg_cmp (lI a) (lI b) = iI 0 by subst h; have h2 : ¬ lI a < lI a := fun q => by { have := (lI_lt hb ha).mp q; omega }; simp [lg_cmp, h2, iI]]
    exact x_if_lt B d ht (by decide) (fun q => k1 (by omega)) (fun q => k2 (by omega))
  · rw [show lg_cmp (lI a) (lI b) = iI 1 by have h1 := (lI_lt hb ha).mpr h; simp [lg_cmp, h1, iI]]
    exact x_if_lt B d ht (by decide) (fun q => k1 (by omega)) (fun q => k2 (by omega))
theorem x_icmp_ge {a b : Int} {off : Int} {tgt : Nat} (B : xB p c cc) (d : decode cc pc = .ok (.if_icmp .ge off, 3)) (ht : (pc : Int) + off = (tgt : Int)) (ha : -2147483648 ≤ a ∧ a < 2147483648) (hb : -2147483648 ≤ b ∧ b < 2147483648) (k1 : b ≤ a → W p l e R s m args below meth c H locs cells slots Q (F0 m tgt ls rest)) (k2 : a < b → W p l e R s m args below meth c H locs cells slots Q (F0 m (pc + 3) ls rest)) : W p l e R s m args below meth c H locs cells slots Q (F0 m pc ls (.int (iI b) :: .int (iI a) :: rest)) := lv_icmp_ge B.1 B.2 d ht (fun h => k1 ((iI_le hb ha).mp h)) (fun h => k2 (Int.not_le.mp (fun q => h ((iI_le hb ha).mpr q))))
theorem x_if_ge {a : Int} {off : Int} {tgt : Nat} (B : xB p c cc) (d : decode cc pc = .ok (.ifCond .ge off, 3)) (ht : (pc : Int) + off = (tgt : Int)) (ha : -2147483648 ≤ a ∧ a < 2147483648) (k1 : 0 ≤ a → W p l e R s m args below meth c H locs cells slots Q (F0 m tgt ls rest)) (k2 : a < 0 → W p l e R s m args below meth c H locs cells slots Q (F0 m (pc + 3) ls rest)) : W p l e R s m args below meth c H locs cells slots Q (F0 m pc ls (.int (iI a) :: rest)) := by
  have zb : (-2147483648 : Int) ≤ 0 ∧ (0 : Int) < 2147483648 := by decide
  exact lv_if_ge B.1 B.2 d ht (fun h => k1 ((iI_le zb ha).mp h)) (fun h => k2 (Int.not_le.mp (fun q => h ((iI_le zb ha).mpr q))))
theorem x_if_ge_t {a : Int} {off : Int} {tgt : Nat} (B : xB p c cc) (d : decode cc pc = .ok (.ifCond .ge off, 3)) (ht : (pc : Int) + off = (tgt : Int)) (ha : (-2147483648 ≤ a ∧ a < 2147483648) ∧ (0 ≤ a)) (k1 : W p l e R s m args below meth c H locs cells slots Q (F0 m tgt ls rest)) : W p l e R s m args below meth c H locs cells slots Q (F0 m pc ls (.int (iI a) :: rest)) := x_if_ge B d ht ha.1 (fun _ => k1) (fun h => absurd h (by have := ha.2; omega))
theorem x_if_ge_f {a : Int} {off : Int} {tgt : Nat} (B : xB p c cc) (d : decode cc pc = .ok (.ifCond .ge off, 3)) (ht : (pc : Int) + off = (tgt : Int)) (ha : (-2147483648 ≤ a ∧ a < 2147483648) ∧ (a < 0)) (k2 : W p l e R s m args below meth c H locs cells slots Q (F0 m (pc + 3) ls rest)) : W p l e R s m args below meth c H locs cells slots Q (F0 m pc ls (.int (iI a) :: rest)) := x_if_ge B d ht ha.1 (fun h => absurd h (by have := ha.2; omega)) (fun _ => k2)
theorem x_lcmp_ge {a b : Int} {off : Int} {tgt : Nat} (B : xB p c cc) (d1 : decode cc pc = .ok (.lcmp, 1)) (d : decode cc (pc + 1) = .ok (.ifCond .ge off, 3)) (ht : ((pc + 1 : Nat) : Int) + off = (tgt : Int)) (ha : -9223372036854775808 ≤ a ∧ a < 9223372036854775808) (hb : -9223372036854775808 ≤ b ∧ b < 9223372036854775808) (k1 : b ≤ a → W p l e R s m args below meth c H locs cells slots Q (F0 m tgt ls rest)) (k2 : a < b → W p l e R s m args below meth c H locs cells slots Q (F0 m (pc + 1 + 3) ls rest)) : W p l e R s m args below meth c H locs cells slots Q (F0 m pc ls (.long (lI b) :: .long (lI a) :: rest)) := by
  refine W.lcmp B.1 B.2 d1 ?_
  rcases Int.lt_trichotomy a b with h | h | h
  · rw [show lg_cmp (lI a) (lI b) = iI (-1) by have h1 := (lI_lt ha hb).mpr h; have h2 : ¬ lI b < lI a := fun q => by { have := (lI_lt hb ha).mp q; omega }; have h3 : ¬ lI a = lI b := fun q => by { have := (lI_eq ha hb).mp q; omega }; simp [lg_cmp, h3, h2, iI]]
    exact x_if_ge B d ht (by decide) (fun q => k1 (by omega)) (fun q => k2 (by omega))
  · rw [show lg_cmp (lI a) (lI b) = iI 0 by subst h; have h2 : ¬ lI a < lI a := fun q => by { have := (lI_lt hb ha).mp q; omega }; simp [lg_cmp, h2, iI]]
    exact x_if_ge B d ht (by decide) (fun q => k1 (by omega)) (fun q => k2 (by omega))
  · rw [show lg_cmp (lI a) (lI b) = iI 1 by have h1 := (lI_lt hb ha).mpr h; simp [lg_cmp, h1, iI]]
    exact x_if_ge B d ht (by decide) (fun q => k1 (by omega)) (fun q => k2 (by omega))
theorem x_icmp_gt {a b : Int} {off : Int} {tgt : Nat} (B : xB p c cc) (d : decode cc pc = .ok (.if_icmp .gt off, 3)) (ht : (pc : Int) + off = (tgt : Int)) (ha : -2147483648 ≤ a ∧ a < 2147483648) (hb : -2147483648 ≤ b ∧ b < 2147483648) (k1 : b < a → W p l e R s m args below meth c H locs cells slots Q (F0 m tgt ls rest)) (k2 : a ≤ b → W p l e R s m args below meth c H locs cells slots Q (F0 m (pc + 3) ls rest)) : W p l e R s m args below meth c H locs cells slots Q (F0 m pc ls (.int (iI b) :: .int (iI a) :: rest)) := lv_icmp_gt B.1 B.2 d ht (fun h => k1 ((iI_lt hb ha).mp h)) (fun h => k2 (Int.not_lt.mp (fun q => h ((iI_lt hb ha).mpr q))))
theorem x_if_gt {a : Int} {off : Int} {tgt : Nat} (B : xB p c cc) (d : decode cc pc = .ok (.ifCond .gt off, 3)) (ht : (pc : Int) + off = (tgt : Int)) (ha : -2147483648 ≤ a ∧ a < 2147483648) (k1 : 0 < a → W p l e R s m args below meth c H locs cells slots Q (F0 m tgt ls rest)) (k2 : a ≤ 0 → W p l e R s m args below meth c H locs cells slots Q (F0 m (pc + 3) ls rest)) : W p l e R s m args below meth c H locs cells slots Q (F0 m pc ls (.int (iI a) :: rest)) := by
  have zb : (-2147483648 : Int) ≤ 0 ∧ (0 : Int) < 2147483648 := by decide
  exact lv_if_gt B.1 B.2 d ht (fun h => k1 ((iI_lt zb ha).mp h)) (fun h => k2 (Int.not_lt.mp (fun q => h ((iI_lt zb ha).mpr q))))
theorem x_if_gt_t {a : Int} {off : Int} {tgt : Nat} (B : xB p c cc) (d : decode cc pc = .ok (.ifCond .gt off, 3)) (ht : (pc : Int) + off = (tgt : Int)) (ha : (-2147483648 ≤ a ∧ a < 2147483648) ∧ (0 < a)) (k1 : W p l e R s m args below meth c H locs cells slots Q (F0 m tgt ls rest)) : W p l e R s m args below meth c H locs cells slots Q (F0 m pc ls (.int (iI a) :: rest)) := x_if_gt B d ht ha.1 (fun _ => k1) (fun h => absurd h (by have := ha.2; omega))
theorem x_if_gt_f {a : Int} {off : Int} {tgt : Nat} (B : xB p c cc) (d : decode cc pc = .ok (.ifCond .gt off, 3)) (ht : (pc : Int) + off = (tgt : Int)) (ha : (-2147483648 ≤ a ∧ a < 2147483648) ∧ (a ≤ 0)) (k2 : W p l e R s m args below meth c H locs cells slots Q (F0 m (pc + 3) ls rest)) : W p l e R s m args below meth c H locs cells slots Q (F0 m pc ls (.int (iI a) :: rest)) := x_if_gt B d ht ha.1 (fun h => absurd h (by have := ha.2; omega)) (fun _ => k2)
theorem x_lcmp_gt {a b : Int} {off : Int} {tgt : Nat} (B : xB p c cc) (d1 : decode cc pc = .ok (.lcmp, 1)) (d : decode cc (pc + 1) = .ok (.ifCond .gt off, 3)) (ht : ((pc + 1 : Nat) : Int) + off = (tgt : Int)) (ha : -9223372036854775808 ≤ a ∧ a < 9223372036854775808) (hb : -9223372036854775808 ≤ b ∧ b < 9223372036854775808) (k1 : b < a → W p l e R s m args below meth c H locs cells slots Q (F0 m tgt ls rest)) (k2 : a ≤ b → W p l e R s m args below meth c H locs cells slots Q (F0 m (pc + 1 + 3) ls rest)) : W p l e R s m args below meth c H locs cells slots Q (F0 m pc ls (.long (lI b) :: .long (lI a) :: rest)) := by
  refine W.lcmp B.1 B.2 d1 ?_
  rcases Int.lt_trichotomy a b with h | h | h
  · rw [show lg_cmp (lI a) (lI b) = iI (-1) by have h1 := (lI_lt ha hb).mpr h; have h2 : ¬ lI b < lI a := fun q => by { have := (lI_lt hb ha).mp q; omega }; have h3 : ¬ lI a = lI b := fun q => by { have := (lI_eq ha hb).mp q; omega }; simp [lg_cmp, h3, h2, iI]]
    exact x_if_gt B d ht (by decide) (fun q => k1 (by omega)) (fun q => k2 (by omega))
  · rw [show lg_cmp (lI a) (lI b) = iI 0 by subst h; have h2 : ¬ lI a < lI a := fun q => by { have := (lI_lt hb ha).mp q; omega }; simp [lg_cmp, h2, iI]]
    exact x_if_gt B d ht (by decide) (fun q => k1 (by omega)) (fun q => k2 (by omega))
  · rw [show lg_cmp (lI a) (lI b) = iI 1 by have h1 := (lI_lt hb ha).mpr h; simp [lg_cmp, h1, iI]]
    exact x_if_gt B d ht (by decide) (fun q => k1 (by omega)) (fun q => k2 (by omega))
theorem x_icmp_le {a b : Int} {off : Int} {tgt : Nat} (B : xB p c cc) (d : decode cc pc = .ok (.if_icmp .le off, 3)) (ht : (pc : Int) + off = (tgt : Int)) (ha : -2147483648 ≤ a ∧ a < 2147483648) (hb : -2147483648 ≤ b ∧ b < 2147483648) (k1 : a ≤ b → W p l e R s m args below meth c H locs cells slots Q (F0 m tgt ls rest)) (k2 : b < a → W p l e R s m args below meth c H locs cells slots Q (F0 m (pc + 3) ls rest)) : W p l e R s m args below meth c H locs cells slots Q (F0 m pc ls (.int (iI b) :: .int (iI a) :: rest)) := lv_icmp_le B.1 B.2 d ht (fun h => k1 ((iI_le ha hb).mp h)) (fun h => k2 (Int.not_le.mp (fun q => h ((iI_le ha hb).mpr q))))
theorem x_if_le {a : Int} {off : Int} {tgt : Nat} (B : xB p c cc) (d : decode cc pc = .ok (.ifCond .le off, 3)) (ht : (pc : Int) + off = (tgt : Int)) (ha : -2147483648 ≤ a ∧ a < 2147483648) (k1 : a ≤ 0 → W p l e R s m args below meth c H locs cells slots Q (F0 m tgt ls rest)) (k2 : 0 < a → W p l e R s m args below meth c H locs cells slots Q (F0 m (pc + 3) ls rest)) : W p l e R s m args below meth c H locs cells slots Q (F0 m pc ls (.int (iI a) :: rest)) := by
  have zb : (-2147483648 : Int) ≤ 0 ∧ (0 : Int) < 2147483648 := by decide
  exact lv_if_le B.1 B.2 d ht (fun h => k1 ((iI_le ha zb).mp h)) (fun h => k2 (Int.not_le.mp (fun q => h ((iI_le ha zb).mpr q))))
theorem x_if_le_t {a : Int} {off : Int} {tgt : Nat} (B : xB p c cc) (d : decode cc pc = .ok (.ifCond .le off, 3)) (ht : (pc : Int) + off = (tgt : Int)) (ha : (-2147483648 ≤ a ∧ a < 2147483648) ∧ (a ≤ 0)) (k1 : W p l e R s m args below meth c H locs cells slots Q (F0 m tgt ls rest)) : W p l e R s m args below meth c H locs cells slots Q (F0 m pc ls (.int (iI a) :: rest)) := x_if_le B d ht ha.1 (fun _ => k1) (fun h => absurd h (by have := ha.2; omega))
theorem x_if_le_f {a : Int} {off : Int} {tgt : Nat} (B : xB p c cc) (d : decode cc pc = .ok (.ifCond .le off, 3)) (ht : (pc : Int) + off = (tgt : Int)) (ha : (-2147483648 ≤ a ∧ a < 2147483648) ∧ (0 < a)) (k2 : W p l e R s m args below meth c H locs cells slots Q (F0 m (pc + 3) ls rest)) : W p l e R s m args below meth c H locs cells slots Q (F0 m pc ls (.int (iI a) :: rest)) := x_if_le B d ht ha.1 (fun h => absurd h (by have := ha.2; omega)) (fun _ => k2)
theorem x_lcmp_le {a b : Int} {off : Int} {tgt : Nat} (B : xB p c cc) (d1 : decode cc pc = .ok (.lcmp, 1)) (d : decode cc (pc + 1) = .ok (.ifCond .le off, 3)) (ht : ((pc + 1 : Nat) : Int) + off = (tgt : Int)) (ha : -9223372036854775808 ≤ a ∧ a < 9223372036854775808) (hb : -9223372036854775808 ≤ b ∧ b < 9223372036854775808) (k1 : a ≤ b → W p l e R s m args below meth c H locs cells slots Q (F0 m tgt ls rest)) (k2 : b < a → W p l e R s m args below meth c H locs cells slots Q (F0 m (pc + 1 + 3) ls rest)) : W p l e R s m args below meth c H locs cells slots Q (F0 m pc ls (.long (lI b) :: .long (lI a) :: rest)) := by
  refine W.lcmp B.1 B.2 d1 ?_
  rcases Int.lt_trichotomy a b with h | h | h
  · rw [show lg_cmp (lI a) (lI b) = iI (-1) by have h1 := (lI_lt ha hb).mpr h; have h2 : ¬ lI b < lI a := fun q => by { have := (lI_lt hb ha).mp q; omega }; have h3 : ¬ lI a = lI b := fun q => by { have := (lI_eq ha hb).mp q; omega }; simp [lg_cmp, h3, h2, iI]]
    exact x_if_le B d ht (by decide) (fun q => k1 (by omega)) (fun q => k2 (by omega))
  · rw [show lg_cmp (lI a) (lI b) = iI 0 by subst h; have h2 : ¬ lI a < lI a := fun q => by { have := (lI_lt hb ha).mp q; omega }; simp [lg_cmp, h2, iI]]
    exact x_if_le B d ht (by decide) (fun q => k1 (by omega)) (fun q => k2 (by omega))
  · rw [show lg_cmp (lI a) (lI b) = iI 1 by have h1 := (lI_lt hb ha).mpr h; simp [lg_cmp, h1, iI]]
    exact x_if_le B d ht (by decide) (fun q => k1 (by omega)) (fun q => k2 (by omega))
theorem x_pop {v : Value} (B : xB p c cc) (d : decode cc pc = .ok (.pop, 1)) (hv : v.category = 1) (kk : W p l e R s m args below meth c H locs cells slots Q (F0 m (pc + 1) ls rest)) : W p l e R s m args below meth c H locs cells slots Q (F0 m pc ls (v :: rest)) := lv_pop B.1 B.2 d hv kk
theorem x_dup {v : Value} (B : xB p c cc) (d : decode cc pc = .ok (.dup, 1)) (hv : v.category = 1) (kk : W p l e R s m args below meth c H locs cells slots Q (F0 m (pc + 1) ls (v :: v :: rest))) : W p l e R s m args below meth c H locs cells slots Q (F0 m pc ls (v :: rest)) := lv_dup B.1 B.2 d hv kk
/-- a truth on the stack, by cases -/
theorem x_bool {P : Prop} {pb : Decidable P} (k1 : P → W p l e R s m args below meth c H locs cells slots Q (F0 m pc ls (.int (iI 1) :: rest))) (k2 : ¬ P → W p l e R s m args below meth c H locs cells slots Q (F0 m pc ls (.int (iI 0) :: rest))) : W p l e R s m args below meth c H locs cells slots Q (F0 m pc ls (.int (iI (if P then 1 else 0)) :: rest)) := by
  by_cases h : P
  · rw [if_pos h]; exact k1 h
  · rw [if_neg h]; exact k2 h
end XR
