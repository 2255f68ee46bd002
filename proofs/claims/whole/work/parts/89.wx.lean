set_option maxRecDepth 20000 in
set_option maxHeartbeats 4000000 in
theorem lw_street (l : Launch) (D : va_G) (cy : Nat → ClassId) (d0 : Nat) (A : Nat → Prop) (la : Nat → Int → Nat) (σ : MS) {a : Nat} {C : Int} {P : Option Value → (Nat → Int → Nat) → MS → Prop} {P' : Int → (Nat → Int → Nat) → MS → Prop} (hna : ¬ A a) (hM : CT l yX10_street wsX10_street ({ frames := 7, cells := 24, slots := 2100, locals := 256 } : Room) D cy d0 A [.ref (la 0 0)] la σ (if C = 1 then 3 else 0) P 24 2100) (hC : C = 0 ∨ C = 1) (hP : C = 0 → ∀ v la' τ, P v la' τ → ∃ r : Int, v = some (.int (iI r)) ∧ (-2147483648 ≤ r ∧ r < 2147483648) ∧ P' r la' τ) : LW l yL_street wsL_street ({ frames := 8, cells := 24, slots := 2100, locals := 281 } : Room) D cy d0 A [.ref (la 0 0), .ref a] la σ a C P' 24 2100 := by
  refine lx_of (D := D) (cy := cy) (cc := cL_street) (nL := 3) (ret := some .int) (hh := [(0, 8, 11, 13)]) (by decide) rfl (Nat.le_of_ble_eq_true rfl) (fun U h => h.2.1.1) ?_
  intro p e s m args below meth c ls E htab hr hlk hP0 hl
  obtain ⟨hC0, hK, hNc, hout⟩ := hP0
  have B := E.1
  have hts := E.2.2.2.1
  refine x_aload_n B hl dL_street_0 rfl ?_
  refine x_iconst B dL_street_1 ?_
  refine x_aload_n B hl dL_street_2 rfl ?_
  refine lx_call (rest := [.int (iI 0), .ref a]) (av := []) E hK hC0 hl hM (cwV 0 hts gL_street_X10_street rfl rfl rfl (by decide +kernel) ⟨Nat.le_of_ble_eq_true rfl, Nat.le_of_ble_eq_true rfl⟩) rfl rfl (Nat.le_of_ble_eq_true rfl) dL_street_3 ⟨Nat.le_of_ble_eq_true rfl, Nat.le_of_ble_eq_true rfl⟩ (fun h9 H1 locs q ce hC1 hS1 hce hcv hcl => ?_) (fun h9 H1 locs v la1 σ1 hp hC1 hS1 => ?_)
  · have hla : a < s.heap.size := by obtain ⟨f, hf⟩ := hout; exact (Array.getElem?_eq_some_iff.mp hf).1
    have hka : H1[a]? = s.heap[a]? := hS1.2.1 a hla hna
    have hout1 : outA cy a H1 := by obtain ⟨f, hf⟩ := hout; exact ⟨f, hka.trans hf⟩
    rcases hC with rfl | rfl
    · exact (h9 (by decide)).elim
    · refine lx_catch (k := 3) (pre := []) (x := (0, 8, 11, 13)) (suf := []) E htab (fun z hz => by cases hz) ⟨by decide, by decide⟩ hNc rfl (by decide) (hts (.classLink RL 13 "java/lang/UnsupportedOperationException") (by decide +kernel)) (cTh_cast ⟨by decide, by decide⟩ hK.2.2.2.2.2.2.2) hce hcv hcl ?_
      refine x_astore_n B hl dL_street_11 (by decide) (fun ls hl => ?_)
      refine x_iconst B dL_street_12 ?_
      exact w_widen (k := 24) (n := 2100) (Nat.le_of_ble_eq_true rfl) (Nat.le_of_ble_eq_true rfl) (lx_iret E hr hlk hS1.aw dL_street_13 rfl (Or.inr ⟨by decide, hC1, hout1⟩))
  · have hC0z : C = 0 := by
      rcases hC with rfl | rfl
      · rfl
      · exact absurd h9 (by decide)
    have hla : a < s.heap.size := by obtain ⟨f, hf⟩ := hout; exact (Array.getElem?_eq_some_iff.mp hf).1
    have hka : H1[a]? = s.heap[a]? := hS1.2.1 a hla hna
    have hout1 : outA cy a H1 := by obtain ⟨f, hf⟩ := hout; exact ⟨f, hka.trans hf⟩
    obtain ⟨r, rfl, hr9, hp9⟩ := hP hC0z _ _ _ hp
    refine x_i2l B dL_street_6 hr9 ?_
    refine lx_last (r := r) E hout1 hS1.aw (Or.inr rfl) dL_street_7 (fun H2 locs hv9 oq hS2 => ?_)
    have hC2 := hC1.kept (fun κ i b c => oq _ (fun z => hna (z ▸ hC1.2.2.2.2.1 κ i b c)))
    refine x_goto (tgt := 14) B dL_street_8 (by decide) ?_
    refine x_iconst B dL_street_14 ?_
    exact w_widen (k := 24) (n := 2100) (Nat.le_of_ble_eq_true rfl) (Nat.le_of_ble_eq_true rfl) (lx_iret E hr hlk hS2 dL_street_15 hC0z.symm (Or.inl ⟨hC0z, _, _, _, hp9, hC2, hv9⟩))
set_option maxRecDepth 20000 in
set_option maxHeartbeats 4000000 in
theorem lw_round (l : Launch) (D : va_G) (cy : Nat → ClassId) (d0 : Nat) (A : Nat → Prop) (la : Nat → Int → Nat) (σ : MS) {p0 p1 p2 p3 : Int} {C : Int} {P : Option Value → (Nat → Int → Nat) → MS → Prop} {P' : (Nat → Int → Nat) → MS → Prop} (hM : CT l yX10_round wsX10_round ({ frames := 8, cells := 16, slots := 256, locals := 124 } : Room) D cy d0 A [.ref (la 0 0), .int (iI p0), .int (iI p1), .int (iI p2), .int (iI p3)] la σ (if C = 1 then 1 else (if C = 2 then 2 else 0)) P 16 256) (hC : C = 0 ∨ C = 1 ∨ C = 2) (hP : C = 0 → ∀ v la' τ, P v la' τ → v = none ∧ P' la' τ) : LV l yL_round wsL_round ({ frames := 9, cells := 16, slots := 256, locals := 154 } : Room) D cy d0 A [.ref (la 0 0), .int (iI p0), .int (iI p1), .int (iI p2), .int (iI p3)] la σ C P' 16 256 := by
  refine lx_of (D := D) (cy := cy) (cc := cL_round) (nL := 6) (ret := some .int) (hh := [(0, 9, 12, 19), (0, 9, 16, 21)]) (by decide) rfl (Nat.le_of_ble_eq_true rfl) (fun U h => h.2.1.1) ?_
  intro p e s m args below meth c ls E htab hr hlk hP0 hl
  obtain ⟨hC0, hK, hNc⟩ := hP0
  have B := E.1
  have hts := E.2.2.2.1
  refine x_aload_n B hl dL_round_0 rfl ?_
  refine x_iload_n B hl dL_round_1 rfl ?_
  refine x_iload_n B hl dL_round_2 rfl ?_
  refine x_iload_n B hl dL_round_3 rfl ?_
  refine x_iload B hl dL_round_4 rfl ?_
  refine lx_call (rest := []) (av := [.int (iI p0), .int (iI p1), .int (iI p2), .int (iI p3)]) E hK hC0 hl hM (cwV 4 hts gL_round_X10_round rfl rfl rfl (by decide +kernel) ⟨Nat.le_of_ble_eq_true rfl, Nat.le_of_ble_eq_true rfl⟩) rfl rfl (Nat.le_of_ble_eq_true rfl) dL_round_6 ⟨Nat.le_of_ble_eq_true rfl, Nat.le_of_ble_eq_true rfl⟩ (fun h9 H1 locs q ce hC1 hS1 hce hcv hcl => ?_) (fun h9 H1 locs v la1 σ1 hp hC1 hS1 => ?_)
  · rcases hC with rfl | rfl | rfl
    · exact (h9 (by decide)).elim
    · refine lx_catch (k := 1) (pre := []) (x := (0, 9, 12, 19)) (suf := [(0, 9, 16, 21)]) E htab (fun z hz => by cases hz) ⟨by decide, by decide⟩ hNc rfl (by decide) (hts (.classLink RL 19 "java/lang/IndexOutOfBoundsException") (by decide +kernel)) (cTh_cast ⟨by decide, by decide⟩ hK.2.2.2.2.2.2.2) hce hcv hcl ?_
      refine x_astore B hl dL_round_12 (by decide) (fun ls hl => ?_)
      refine x_iconst B dL_round_14 ?_
      exact w_widen (k := 16) (n := 256) (Nat.le_of_ble_eq_true rfl) (Nat.le_of_ble_eq_true rfl) (lx_iret E hr hlk hS1 dL_round_15 rfl (Or.inr ⟨by decide, hC1⟩))
    · refine lx_catch (k := 2) (pre := [(0, 9, 12, 19)]) (x := (0, 9, 16, 21)) (suf := []) E htab (fun z hz => by
          simp only [List.mem_cons, List.not_mem_nil, or_false] at hz
          rcases hz with rfl
          · exact ⟨1, ⟨by decide, by decide⟩, by decide, by decide, hts (.classLink RL 19 "java/lang/IndexOutOfBoundsException") (by decide +kernel)⟩) ⟨by decide, by decide⟩ hNc rfl (by decide) (hts (.classLink RL 21 "java/lang/IllegalArgumentException") (by decide +kernel)) (cTh_cast ⟨by decide, by decide⟩ hK.2.2.2.2.2.2.2) hce hcv hcl ?_
      refine x_astore B hl dL_round_16 (by decide) (fun ls hl => ?_)
      refine x_iconst B dL_round_18 ?_
      exact w_widen (k := 16) (n := 256) (Nat.le_of_ble_eq_true rfl) (Nat.le_of_ble_eq_true rfl) (lx_iret E hr hlk hS1 dL_round_19 rfl (Or.inr ⟨by decide, hC1⟩))
  · have hC0z : C = 0 := by
      rcases hC with rfl | rfl | rfl
      · rfl
      · exact absurd h9 (by decide)
      · exact absurd h9 (by decide)
    obtain ⟨rfl, hp9⟩ := hP hC0z _ _ _ hp
    refine x_goto (tgt := 20) B dL_round_9 (by decide) ?_
    refine x_iconst B dL_round_20 ?_
    exact w_widen (k := 16) (n := 256) (Nat.le_of_ble_eq_true rfl) (Nat.le_of_ble_eq_true rfl) (lx_iret E hr hlk hS1 dL_round_21 hC0z.symm (Or.inl ⟨hC0z, _, _, hp9, hC1⟩))
set_option maxRecDepth 20000 in
set_option maxHeartbeats 4000000 in
theorem lw_holiday (l : Launch) (D : va_G) (cy : Nat → ClassId) (d0 : Nat) (A : Nat → Prop) (la : Nat → Int → Nat) (σ : MS) {a : Nat} {p0 p1 : Int} {C : Int} {P : Option Value → (Nat → Int → Nat) → MS → Prop} {P' : Int → (Nat → Int → Nat) → MS → Prop} (hna : ¬ A a) (hM : CT l yX10_holiday wsX10_holiday ({ frames := 7, cells := 16, slots := 256, locals := 102 } : Room) D cy d0 A [.ref (la 0 0), .int (iI p0), .int (iI p1)] la σ (if C = 1 then 2 else 0) P 16 256) (hC : C = 0 ∨ C = 1) (hP : C = 0 → ∀ v la' τ, P v la' τ → ∃ r : Int, v = some (.int (iI r)) ∧ (r = 0 ∨ r = 1) ∧ P' r la' τ) : LW l yL_holiday wsL_holiday ({ frames := 8, cells := 16, slots := 256, locals := 129 } : Room) D cy d0 A [.ref (la 0 0), .int (iI p0), .int (iI p1), .ref a] la σ a C P' 16 256 := by
  refine lx_of (D := D) (cy := cy) (cc := cL_holiday) (nL := 5) (ret := some .int) (hh := [(0, 17, 20, 21)]) (by decide) rfl (Nat.le_of_ble_eq_true rfl) (fun U h => h.2.1.1) ?_
  intro p e s m args below meth c ls E htab hr hlk hP0 hl
  obtain ⟨hC0, hK, hNc, hout⟩ := hP0
  have B := E.1
  have hts := E.2.2.2.1
  refine x_aload_n B hl dL_holiday_0 rfl ?_
  refine x_iconst B dL_holiday_1 ?_
  refine x_aload_n B hl dL_holiday_2 rfl ?_
  refine x_iload_n B hl dL_holiday_3 rfl ?_
  refine x_iload_n B hl dL_holiday_4 rfl ?_
  refine lx_call (rest := [.int (iI 0), .ref a]) (av := [.int (iI p0), .int (iI p1)]) E hK hC0 hl hM (cwV 2 hts gL_holiday_X10_holiday rfl rfl rfl (by decide +kernel) ⟨Nat.le_of_ble_eq_true rfl, Nat.le_of_ble_eq_true rfl⟩) rfl rfl (Nat.le_of_ble_eq_true rfl) dL_holiday_5 ⟨Nat.le_of_ble_eq_true rfl, Nat.le_of_ble_eq_true rfl⟩ (fun h9 H1 locs q ce hC1 hS1 hce hcv hcl => ?_) (fun h9 H1 locs v la1 σ1 hp hC1 hS1 => ?_)
  · have hla : a < s.heap.size := by obtain ⟨f, hf⟩ := hout; exact (Array.getElem?_eq_some_iff.mp hf).1
    have hka : H1[a]? = s.heap[a]? := hS1.2.1 a hla hna
    have hout1 : outA cy a H1 := by obtain ⟨f, hf⟩ := hout; exact ⟨f, hka.trans hf⟩
    rcases hC with rfl | rfl
    · exact (h9 (by decide)).elim
    · refine lx_catch (k := 2) (pre := []) (x := (0, 17, 20, 21)) (suf := []) E htab (fun z hz => by cases hz) ⟨by decide, by decide⟩ hNc rfl (by decide) (hts (.classLink RL 21 "java/lang/IllegalArgumentException") (by decide +kernel)) (cTh_cast ⟨by decide, by decide⟩ hK.2.2.2.2.2.2.2) hce hcv hcl ?_
      refine x_astore B hl dL_holiday_20 (by decide) (fun ls hl => ?_)
      refine x_iconst B dL_holiday_22 ?_
      exact w_widen (k := 16) (n := 256) (Nat.le_of_ble_eq_true rfl) (Nat.le_of_ble_eq_true rfl) (lx_iret E hr hlk hS1.aw dL_holiday_23 rfl (Or.inr ⟨by decide, hC1, hout1⟩))
  · have hC0z : C = 0 := by
      rcases hC with rfl | rfl
      · rfl
      · exact absurd h9 (by decide)
    have hla : a < s.heap.size := by obtain ⟨f, hf⟩ := hout; exact (Array.getElem?_eq_some_iff.mp hf).1
    have hka : H1[a]? = s.heap[a]? := hS1.2.1 a hla hna
    have hout1 : outA cy a H1 := by obtain ⟨f, hf⟩ := hout; exact ⟨f, hka.trans hf⟩
    obtain ⟨r, rfl, hr9, hp9⟩ := hP hC0z _ _ _ hp
    rcases hr9 with rfl | rfl
    · refine x_if_eq_t (tgt := 15) B dL_holiday_8 (by decide) (by decide) ?_
      refine x_lconst B dL_holiday_15 ?_
      refine lx_last (r := 0) E hout1 hS1.aw (Or.inr rfl) dL_holiday_16 (fun H2 locs hv9 oq hS2 => ?_)
      have hC2 := hC1.kept (fun κ i b c => oq _ (fun z => hna (z ▸ hC1.2.2.2.2.1 κ i b c)))
      refine x_goto (tgt := 24) B dL_holiday_17 (by decide) ?_
      refine x_iconst B dL_holiday_24 ?_
      exact w_widen (k := 16) (n := 256) (Nat.le_of_ble_eq_true rfl) (Nat.le_of_ble_eq_true rfl) (lx_iret E hr hlk hS2 dL_holiday_25 hC0z.symm (Or.inl ⟨hC0z, _, _, _, hp9, hC2, hv9⟩))
    · refine x_if_eq_f (tgt := 15) B dL_holiday_8 (by decide) (by decide) ?_
      refine x_lconst B dL_holiday_11 ?_
      refine x_goto (tgt := 16) B dL_holiday_12 (by decide) ?_
      refine lx_last (r := 1) E hout1 hS1.aw (Or.inr rfl) dL_holiday_16 (fun H2 locs hv9 oq hS2 => ?_)
      have hC2 := hC1.kept (fun κ i b c => oq _ (fun z => hna (z ▸ hC1.2.2.2.2.1 κ i b c)))
      refine x_goto (tgt := 24) B dL_holiday_17 (by decide) ?_
      refine x_iconst B dL_holiday_24 ?_
      exact w_widen (k := 16) (n := 256) (Nat.le_of_ble_eq_true rfl) (Nat.le_of_ble_eq_true rfl) (lx_iret E hr hlk hS2 dL_holiday_25 hC0z.symm (Or.inl ⟨hC0z, _, _, _, hp9, hC2, hv9⟩))
set_option maxRecDepth 20000 in
set_option maxHeartbeats 4000000 in
theorem lw_when (l : Launch) (D : va_G) (cy : Nat → ClassId) (d0 : Nat) (A : Nat → Prop) (la : Nat → Int → Nat) (σ : MS) {a : Nat} {p0 p1 p2 : Int} {C : Int} {P : Option Value → (Nat → Int → Nat) → MS → Prop} {P' : Int → (Nat → Int → Nat) → MS → Prop} (hna : ¬ A a) (hM : CT l yX10_when wsX10_when ({ frames := 8, cells := 16, slots := 256, locals := 124 } : Room) D cy d0 A [.ref (la 0 0), .int (iI p0), .int (iI p1), .int (iI p2)] la σ (if C = 1 then 1 else (if C = 2 then 2 else 0)) P 16 256) (hC : C = 0 ∨ C = 1 ∨ C = 2) (hP : C = 0 → ∀ v la' τ, P v la' τ → ∃ r : Int, v = some (.int (iI r)) ∧ (-2147483648 ≤ r ∧ r < 2147483648) ∧ P' r la' τ) : LW l yL_when wsL_when ({ frames := 9, cells := 16, slots := 256, locals := 153 } : Room) D cy d0 A [.ref (la 0 0), .int (iI p0), .int (iI p1), .int (iI p2), .ref a] la σ a C P' 16 256 := by
  refine lx_of (D := D) (cy := cy) (cc := cL_when) (nL := 6) (ret := some .int) (hh := [(0, 12, 15, 19), (0, 12, 19, 21)]) (by decide) rfl (Nat.le_of_ble_eq_true rfl) (fun U h => h.2.1.1) ?_
  intro p e s m args below meth c ls E htab hr hlk hP0 hl
  obtain ⟨hC0, hK, hNc, hout⟩ := hP0
  have B := E.1
  have hts := E.2.2.2.1
  refine x_aload B hl dL_when_0 rfl ?_
  refine x_iconst B dL_when_2 ?_
  refine x_aload_n B hl dL_when_3 rfl ?_
  refine x_iload_n B hl dL_when_4 rfl ?_
  refine x_iload_n B hl dL_when_5 rfl ?_
  refine x_iload_n B hl dL_when_6 rfl ?_
  refine lx_call (rest := [.int (iI 0), .ref a]) (av := [.int (iI p0), .int (iI p1), .int (iI p2)]) E hK hC0 hl hM (cwV 3 hts gL_when_X10_when rfl rfl rfl (by decide +kernel) ⟨Nat.le_of_ble_eq_true rfl, Nat.le_of_ble_eq_true rfl⟩) rfl rfl (Nat.le_of_ble_eq_true rfl) dL_when_7 ⟨Nat.le_of_ble_eq_true rfl, Nat.le_of_ble_eq_true rfl⟩ (fun h9 H1 locs q ce hC1 hS1 hce hcv hcl => ?_) (fun h9 H1 locs v la1 σ1 hp hC1 hS1 => ?_)
  · have hla : a < s.heap.size := by obtain ⟨f, hf⟩ := hout; exact (Array.getElem?_eq_some_iff.mp hf).1
    have hka : H1[a]? = s.heap[a]? := hS1.2.1 a hla hna
    have hout1 : outA cy a H1 := by obtain ⟨f, hf⟩ := hout; exact ⟨f, hka.trans hf⟩
    rcases hC with rfl | rfl | rfl
    · exact (h9 (by decide)).elim
    · refine lx_catch (k := 1) (pre := []) (x := (0, 12, 15, 19)) (suf := [(0, 12, 19, 21)]) E htab (fun z hz => by cases hz) ⟨by decide, by decide⟩ hNc rfl (by decide) (hts (.classLink RL 19 "java/lang/IndexOutOfBoundsException") (by decide +kernel)) (cTh_cast ⟨by decide, by decide⟩ hK.2.2.2.2.2.2.2) hce hcv hcl ?_
      refine x_astore B hl dL_when_15 (by decide) (fun ls hl => ?_)
      refine x_iconst B dL_when_17 ?_
      exact w_widen (k := 16) (n := 256) (Nat.le_of_ble_eq_true rfl) (Nat.le_of_ble_eq_true rfl) (lx_iret E hr hlk hS1.aw dL_when_18 rfl (Or.inr ⟨by decide, hC1, hout1⟩))
    · refine lx_catch (k := 2) (pre := [(0, 12, 15, 19)]) (x := (0, 12, 19, 21)) (suf := []) E htab (fun z hz => by
          simp only [List.mem_cons, List.not_mem_nil, or_false] at hz
          rcases hz with rfl
          · exact ⟨1, ⟨by decide, by decide⟩, by decide, by decide, hts (.classLink RL 19 "java/lang/IndexOutOfBoundsException") (by decide +kernel)⟩) ⟨by decide, by decide⟩ hNc rfl (by decide) (hts (.classLink RL 21 "java/lang/IllegalArgumentException") (by decide +kernel)) (cTh_cast ⟨by decide, by decide⟩ hK.2.2.2.2.2.2.2) hce hcv hcl ?_
      refine x_astore B hl dL_when_19 (by decide) (fun ls hl => ?_)
      refine x_iconst B dL_when_21 ?_
      exact w_widen (k := 16) (n := 256) (Nat.le_of_ble_eq_true rfl) (Nat.le_of_ble_eq_true rfl) (lx_iret E hr hlk hS1.aw dL_when_22 rfl (Or.inr ⟨by decide, hC1, hout1⟩))
  · have hC0z : C = 0 := by
      rcases hC with rfl | rfl | rfl
      · rfl
      · exact absurd h9 (by decide)
      · exact absurd h9 (by decide)
    have hla : a < s.heap.size := by obtain ⟨f, hf⟩ := hout; exact (Array.getElem?_eq_some_iff.mp hf).1
    have hka : H1[a]? = s.heap[a]? := hS1.2.1 a hla hna
    have hout1 : outA cy a H1 := by obtain ⟨f, hf⟩ := hout; exact ⟨f, hka.trans hf⟩
    obtain ⟨r, rfl, hr9, hp9⟩ := hP hC0z _ _ _ hp
    refine x_i2l B dL_when_10 hr9 ?_
    refine lx_last (r := r) E hout1 hS1.aw (Or.inr rfl) dL_when_11 (fun H2 locs hv9 oq hS2 => ?_)
    have hC2 := hC1.kept (fun κ i b c => oq _ (fun z => hna (z ▸ hC1.2.2.2.2.1 κ i b c)))
    refine x_goto (tgt := 23) B dL_when_12 (by decide) ?_
    refine x_iconst B dL_when_23 ?_
    exact w_widen (k := 16) (n := 256) (Nat.le_of_ble_eq_true rfl) (Nat.le_of_ble_eq_true rfl) (lx_iret E hr hlk hS2 dL_when_24 hC0z.symm (Or.inl ⟨hC0z, _, _, _, hp9, hC2, hv9⟩))
set_option maxRecDepth 20000 in
set_option maxHeartbeats 4000000 in
theorem lw_house (l : Launch) (D : va_G) (cy : Nat → ClassId) (d0 : Nat) (A : Nat → Prop) (la : Nat → Int → Nat) (σ : MS) {a : Nat} {p0 : Int} {C : Int} {P : Option Value → (Nat → Int → Nat) → MS → Prop} {P' : Int → (Nat → Int → Nat) → MS → Prop} (hna : ¬ A a) (hM : CT l yX10_house wsX10_house ({ frames := 8, cells := 24, slots := 2100, locals := 256 } : Room) D cy d0 A [.ref (la 0 0), .int (iI p0)] la σ (if C = 1 then 1 else (if C = 2 then 3 else 0)) P 24 2100) (hC : C = 0 ∨ C = 1 ∨ C = 2) (hP : C = 0 → ∀ v la' τ, P v la' τ → ∃ r : Int, v = some (.int (iI r)) ∧ (-2147483648 ≤ r ∧ r < 2147483648) ∧ P' r la' τ) : LW l yL_house wsL_house ({ frames := 9, cells := 24, slots := 2100, locals := 284 } : Room) D cy d0 A [.ref (la 0 0), .int (iI p0), .ref a] la σ a C P' 24 2100 := by
  refine lx_of (D := D) (cy := cy) (cc := cL_house) (nL := 4) (ret := some .int) (hh := [(0, 9, 12, 19), (0, 9, 15, 13)]) (by decide) rfl (Nat.le_of_ble_eq_true rfl) (fun U h => h.2.1.1) ?_
  intro p e s m args below meth c ls E htab hr hlk hP0 hl
  obtain ⟨hC0, hK, hNc, hout⟩ := hP0
  have B := E.1
  have hts := E.2.2.2.1
  refine x_aload_n B hl dL_house_0 rfl ?_
  refine x_iconst B dL_house_1 ?_
  refine x_aload_n B hl dL_house_2 rfl ?_
  refine x_iload_n B hl dL_house_3 rfl ?_
  refine lx_call (rest := [.int (iI 0), .ref a]) (av := [.int (iI p0)]) E hK hC0 hl hM (cwV 1 hts gL_house_X10_house rfl rfl rfl (by decide +kernel) ⟨Nat.le_of_ble_eq_true rfl, Nat.le_of_ble_eq_true rfl⟩) rfl rfl (Nat.le_of_ble_eq_true rfl) dL_house_4 ⟨Nat.le_of_ble_eq_true rfl, Nat.le_of_ble_eq_true rfl⟩ (fun h9 H1 locs q ce hC1 hS1 hce hcv hcl => ?_) (fun h9 H1 locs v la1 σ1 hp hC1 hS1 => ?_)
  · have hla : a < s.heap.size := by obtain ⟨f, hf⟩ := hout; exact (Array.getElem?_eq_some_iff.mp hf).1
    have hka : H1[a]? = s.heap[a]? := hS1.2.1 a hla hna
    have hout1 : outA cy a H1 := by obtain ⟨f, hf⟩ := hout; exact ⟨f, hka.trans hf⟩
    rcases hC with rfl | rfl | rfl
    · exact (h9 (by decide)).elim
    · refine lx_catch (k := 1) (pre := []) (x := (0, 9, 12, 19)) (suf := [(0, 9, 15, 13)]) E htab (fun z hz => by cases hz) ⟨by decide, by decide⟩ hNc rfl (by decide) (hts (.classLink RL 19 "java/lang/IndexOutOfBoundsException") (by decide +kernel)) (cTh_cast ⟨by decide, by decide⟩ hK.2.2.2.2.2.2.2) hce hcv hcl ?_
      refine x_astore_n B hl dL_house_12 (by decide) (fun ls hl => ?_)
      refine x_iconst B dL_house_13 ?_
      exact w_widen (k := 24) (n := 2100) (Nat.le_of_ble_eq_true rfl) (Nat.le_of_ble_eq_true rfl) (lx_iret E hr hlk hS1.aw dL_house_14 rfl (Or.inr ⟨by decide, hC1, hout1⟩))
    · refine lx_catch (k := 3) (pre := [(0, 9, 12, 19)]) (x := (0, 9, 15, 13)) (suf := []) E htab (fun z hz => by
          simp only [List.mem_cons, List.not_mem_nil, or_false] at hz
          rcases hz with rfl
          · exact ⟨1, ⟨by decide, by decide⟩, by decide, by decide, hts (.classLink RL 19 "java/lang/IndexOutOfBoundsException") (by decide +kernel)⟩) ⟨by decide, by decide⟩ hNc rfl (by decide) (hts (.classLink RL 13 "java/lang/UnsupportedOperationException") (by decide +kernel)) (cTh_cast ⟨by decide, by decide⟩ hK.2.2.2.2.2.2.2) hce hcv hcl ?_
      refine x_astore_n B hl dL_house_15 (by decide) (fun ls hl => ?_)
      refine x_iconst B dL_house_16 ?_
      exact w_widen (k := 24) (n := 2100) (Nat.le_of_ble_eq_true rfl) (Nat.le_of_ble_eq_true rfl) (lx_iret E hr hlk hS1.aw dL_house_17 rfl (Or.inr ⟨by decide, hC1, hout1⟩))
  · have hC0z : C = 0 := by
      rcases hC with rfl | rfl | rfl
      · rfl
      · exact absurd h9 (by decide)
      · exact absurd h9 (by decide)
    have hla : a < s.heap.size := by obtain ⟨f, hf⟩ := hout; exact (Array.getElem?_eq_some_iff.mp hf).1
    have hka : H1[a]? = s.heap[a]? := hS1.2.1 a hla hna
    have hout1 : outA cy a H1 := by obtain ⟨f, hf⟩ := hout; exact ⟨f, hka.trans hf⟩
    obtain ⟨r, rfl, hr9, hp9⟩ := hP hC0z _ _ _ hp
    refine x_i2l B dL_house_7 hr9 ?_
    refine lx_last (r := r) E hout1 hS1.aw (Or.inr rfl) dL_house_8 (fun H2 locs hv9 oq hS2 => ?_)
    have hC2 := hC1.kept (fun κ i b c => oq _ (fun z => hna (z ▸ hC1.2.2.2.2.1 κ i b c)))
    refine x_goto (tgt := 18) B dL_house_9 (by decide) ?_
    refine x_iconst B dL_house_18 ?_
    exact w_widen (k := 24) (n := 2100) (Nat.le_of_ble_eq_true rfl) (Nat.le_of_ble_eq_true rfl) (lx_iret E hr hlk hS2 dL_house_19 hC0z.symm (Or.inl ⟨hC0z, _, _, _, hp9, hC2, hv9⟩))
set_option maxRecDepth 20000 in
set_option maxHeartbeats 4000000 in
theorem lw_bin (l : Launch) (D : va_G) (cy : Nat → ClassId) (d0 : Nat) (A : Nat → Prop) (la : Nat → Int → Nat) (σ : MS) {a : Nat} {p0 p1 p2 : Int} {C : Int} {P : Option Value → (Nat → Int → Nat) → MS → Prop} {P' : Int → (Nat → Int → Nat) → MS → Prop} (hna : ¬ A a) (hM : CT l yX10_bin wsX10_bin ({ frames := 8, cells := 24, slots := 2100, locals := 256 } : Room) D cy d0 A [.ref (la 0 0), .int (iI p0), .int (iI p1), .int (iI p2)] la σ (if C = 1 then 1 else (if C = 2 then 2 else (if C = 3 then 3 else 0))) P 24 2100) (hC : C = 0 ∨ C = 1 ∨ C = 2 ∨ C = 3) (hP : C = 0 → ∀ v la' τ, P v la' τ → ∃ r : Int, v = some (.int (iI r)) ∧ (-2147483648 ≤ r ∧ r < 2147483648) ∧ P' r la' τ) : LW l yL_bin wsL_bin ({ frames := 9, cells := 24, slots := 2100, locals := 286 } : Room) D cy d0 A [.ref (la 0 0), .int (iI p0), .int (iI p1), .int (iI p2), .ref a] la σ a C P' 24 2100 := by
  refine lx_of (D := D) (cy := cy) (cc := cL_bin) (nL := 6) (ret := some .int) (hh := [(0, 12, 15, 19), (0, 12, 19, 21), (0, 12, 23, 13)]) (by decide) rfl (Nat.le_of_ble_eq_true rfl) (fun U h => h.2.1.1) ?_
  intro p e s m args below meth c ls E htab hr hlk hP0 hl
  obtain ⟨hC0, hK, hNc, hout⟩ := hP0
  have B := E.1
  have hts := E.2.2.2.1
  refine x_aload B hl dL_bin_0 rfl ?_
  refine x_iconst B dL_bin_2 ?_
  refine x_aload_n B hl dL_bin_3 rfl ?_
  refine x_iload_n B hl dL_bin_4 rfl ?_
  refine x_iload_n B hl dL_bin_5 rfl ?_
  refine x_iload_n B hl dL_bin_6 rfl ?_
  refine lx_call (rest := [.int (iI 0), .ref a]) (av := [.int (iI p0), .int (iI p1), .int (iI p2)]) E hK hC0 hl hM (cwV 3 hts gL_bin_X10_bin rfl rfl rfl (by decide +kernel) ⟨Nat.le_of_ble_eq_true rfl, Nat.le_of_ble_eq_true rfl⟩) rfl rfl (Nat.le_of_ble_eq_true rfl) dL_bin_7 ⟨Nat.le_of_ble_eq_true rfl, Nat.le_of_ble_eq_true rfl⟩ (fun h9 H1 locs q ce hC1 hS1 hce hcv hcl => ?_) (fun h9 H1 locs v la1 σ1 hp hC1 hS1 => ?_)
  · have hla : a < s.heap.size := by obtain ⟨f, hf⟩ := hout; exact (Array.getElem?_eq_some_iff.mp hf).1
    have hka : H1[a]? = s.heap[a]? := hS1.2.1 a hla hna
    have hout1 : outA cy a H1 := by obtain ⟨f, hf⟩ := hout; exact ⟨f, hka.trans hf⟩
    rcases hC with rfl | rfl | rfl | rfl
    · exact (h9 (by decide)).elim
    · refine lx_catch (k := 1) (pre := []) (x := (0, 12, 15, 19)) (suf := [(0, 12, 19, 21), (0, 12, 23, 13)]) E htab (fun z hz => by cases hz) ⟨by decide, by decide⟩ hNc rfl (by decide) (hts (.classLink RL 19 "java/lang/IndexOutOfBoundsException") (by decide +kernel)) (cTh_cast ⟨by decide, by decide⟩ hK.2.2.2.2.2.2.2) hce hcv hcl ?_
      refine x_astore B hl dL_bin_15 (by decide) (fun ls hl => ?_)
      refine x_iconst B dL_bin_17 ?_
      exact w_widen (k := 24) (n := 2100) (Nat.le_of_ble_eq_true rfl) (Nat.le_of_ble_eq_true rfl) (lx_iret E hr hlk hS1.aw dL_bin_18 rfl (Or.inr ⟨by decide, hC1, hout1⟩))
    · refine lx_catch (k := 2) (pre := [(0, 12, 15, 19)]) (x := (0, 12, 19, 21)) (suf := [(0, 12, 23, 13)]) E htab (fun z hz => by
          simp only [List.mem_cons, List.not_mem_nil, or_false] at hz
          rcases hz with rfl
          · exact ⟨1, ⟨by decide, by decide⟩, by decide, by decide, hts (.classLink RL 19 "java/lang/IndexOutOfBoundsException") (by decide +kernel)⟩) ⟨by decide, by decide⟩ hNc rfl (by decide) (hts (.classLink RL 21 "java/lang/IllegalArgumentException") (by decide +kernel)) (cTh_cast ⟨by decide, by decide⟩ hK.2.2.2.2.2.2.2) hce hcv hcl ?_
      refine x_astore B hl dL_bin_19 (by decide) (fun ls hl => ?_)
      refine x_iconst B dL_bin_21 ?_
      exact w_widen (k := 24) (n := 2100) (Nat.le_of_ble_eq_true rfl) (Nat.le_of_ble_eq_true rfl) (lx_iret E hr hlk hS1.aw dL_bin_22 rfl (Or.inr ⟨by decide, hC1, hout1⟩))
    · refine lx_catch (k := 3) (pre := [(0, 12, 15, 19), (0, 12, 19, 21)]) (x := (0, 12, 23, 13)) (suf := []) E htab (fun z hz => by
          simp only [List.mem_cons, List.not_mem_nil, or_false] at hz
          rcases hz with rfl | rfl
          · exact ⟨1, ⟨by decide, by decide⟩, by decide, by decide, hts (.classLink RL 19 "java/lang/IndexOutOfBoundsException") (by decide +kernel)⟩
          · exact ⟨2, ⟨by decide, by decide⟩, by decide, by decide, hts (.classLink RL 21 "java/lang/IllegalArgumentException") (by decide +kernel)⟩) ⟨by decide, by decide⟩ hNc rfl (by decide) (hts (.classLink RL 13 "java/lang/UnsupportedOperationException") (by decide +kernel)) (cTh_cast ⟨by decide, by decide⟩ hK.2.2.2.2.2.2.2) hce hcv hcl ?_
      refine x_astore B hl dL_bin_23 (by decide) (fun ls hl => ?_)
      refine x_iconst B dL_bin_25 ?_
      exact w_widen (k := 24) (n := 2100) (Nat.le_of_ble_eq_true rfl) (Nat.le_of_ble_eq_true rfl) (lx_iret E hr hlk hS1.aw dL_bin_26 rfl (Or.inr ⟨by decide, hC1, hout1⟩))
  · have hC0z : C = 0 := by
      rcases hC with rfl | rfl | rfl | rfl
      · rfl
      · exact absurd h9 (by decide)
      · exact absurd h9 (by decide)
      · exact absurd h9 (by decide)
    have hla : a < s.heap.size := by obtain ⟨f, hf⟩ := hout; exact (Array.getElem?_eq_some_iff.mp hf).1
    have hka : H1[a]? = s.heap[a]? := hS1.2.1 a hla hna
    have hout1 : outA cy a H1 := by obtain ⟨f, hf⟩ := hout; exact ⟨f, hka.trans hf⟩
    obtain ⟨r, rfl, hr9, hp9⟩ := hP hC0z _ _ _ hp
    refine x_i2l B dL_bin_10 hr9 ?_
    refine lx_last (r := r) E hout1 hS1.aw (Or.inr rfl) dL_bin_11 (fun H2 locs hv9 oq hS2 => ?_)
    have hC2 := hC1.kept (fun κ i b c => oq _ (fun z => hna (z ▸ hC1.2.2.2.2.1 κ i b c)))
    refine x_goto (tgt := 27) B dL_bin_12 (by decide) ?_
    refine x_iconst B dL_bin_27 ?_
    exact w_widen (k := 24) (n := 2100) (Nat.le_of_ble_eq_true rfl) (Nat.le_of_ble_eq_true rfl) (lx_iret E hr hlk hS2 dL_bin_28 hC0z.symm (Or.inl ⟨hC0z, _, _, _, hp9, hC2, hv9⟩))
set_option maxRecDepth 20000 in
set_option maxHeartbeats 4000000 in
theorem lw_mark (l : Launch) (D : va_G) (cy : Nat → ClassId) (d0 : Nat) (A : Nat → Prop) (la : Nat → Int → Nat) (σ : MS) {a : Nat} {p0 p1 : Int} {C : Int} {P : Option Value → (Nat → Int → Nat) → MS → Prop} {P' : Int → (Nat → Int → Nat) → MS → Prop} (hna : ¬ A a) (hM : CT l yX10_mark wsX10_mark ({ frames := 8, cells := 16, slots := 256, locals := 124 } : Room) D cy d0 A [.ref (la 0 0), .int (iI p0), .int (iI p1)] la σ (if C = 1 then 1 else 0) P 16 256) (hC : C = 0 ∨ C = 1) (hP : C = 0 → ∀ v la' τ, P v la' τ → ∃ r : Int, v = some (.int (iI r)) ∧ (-2147483648 ≤ r ∧ r < 2147483648) ∧ P' r la' τ) : LW l yL_mark wsL_mark ({ frames := 9, cells := 16, slots := 256, locals := 152 } : Room) D cy d0 A [.ref (la 0 0), .int (iI p0), .int (iI p1), .ref a] la σ a C P' 16 256 := by
  refine lx_of (D := D) (cy := cy) (cc := cL_mark) (nL := 5) (ret := some .int) (hh := [(0, 10, 13, 19)]) (by decide) rfl (Nat.le_of_ble_eq_true rfl) (fun U h => h.2.1.1) ?_
  intro p e s m args below meth c ls E htab hr hlk hP0 hl
  obtain ⟨hC0, hK, hNc, hout⟩ := hP0
  have B := E.1
  have hts := E.2.2.2.1
  refine x_aload_n B hl dL_mark_0 rfl ?_
  refine x_iconst B dL_mark_1 ?_
  refine x_aload_n B hl dL_mark_2 rfl ?_
  refine x_iload_n B hl dL_mark_3 rfl ?_
  refine x_iload_n B hl dL_mark_4 rfl ?_
  refine lx_call (rest := [.int (iI 0), .ref a]) (av := [.int (iI p0), .int (iI p1)]) E hK hC0 hl hM (cwV 2 hts gL_mark_X10_mark rfl rfl rfl (by decide +kernel) ⟨Nat.le_of_ble_eq_true rfl, Nat.le_of_ble_eq_true rfl⟩) rfl rfl (Nat.le_of_ble_eq_true rfl) dL_mark_5 ⟨Nat.le_of_ble_eq_true rfl, Nat.le_of_ble_eq_true rfl⟩ (fun h9 H1 locs q ce hC1 hS1 hce hcv hcl => ?_) (fun h9 H1 locs v la1 σ1 hp hC1 hS1 => ?_)
  · have hla : a < s.heap.size := by obtain ⟨f, hf⟩ := hout; exact (Array.getElem?_eq_some_iff.mp hf).1
    have hka : H1[a]? = s.heap[a]? := hS1.2.1 a hla hna
    have hout1 : outA cy a H1 := by obtain ⟨f, hf⟩ := hout; exact ⟨f, hka.trans hf⟩
    rcases hC with rfl | rfl
    · exact (h9 (by decide)).elim
    · refine lx_catch (k := 1) (pre := []) (x := (0, 10, 13, 19)) (suf := []) E htab (fun z hz => by cases hz) ⟨by decide, by decide⟩ hNc rfl (by decide) (hts (.classLink RL 19 "java/lang/IndexOutOfBoundsException") (by decide +kernel)) (cTh_cast ⟨by decide, by decide⟩ hK.2.2.2.2.2.2.2) hce hcv hcl ?_
      refine x_astore B hl dL_mark_13 (by decide) (fun ls hl => ?_)
      refine x_iconst B dL_mark_15 ?_
      exact w_widen (k := 16) (n := 256) (Nat.le_of_ble_eq_true rfl) (Nat.le_of_ble_eq_true rfl) (lx_iret E hr hlk hS1.aw dL_mark_16 rfl (Or.inr ⟨by decide, hC1, hout1⟩))
  · have hC0z : C = 0 := by
      rcases hC with rfl | rfl
      · rfl
      · exact absurd h9 (by decide)
    have hla : a < s.heap.size := by obtain ⟨f, hf⟩ := hout; exact (Array.getElem?_eq_some_iff.mp hf).1
    have hka : H1[a]? = s.heap[a]? := hS1.2.1 a hla hna
    have hout1 : outA cy a H1 := by obtain ⟨f, hf⟩ := hout; exact ⟨f, hka.trans hf⟩
    obtain ⟨r, rfl, hr9, hp9⟩ := hP hC0z _ _ _ hp
    refine x_i2l B dL_mark_8 hr9 ?_
    refine lx_last (r := r) E hout1 hS1.aw (Or.inr rfl) dL_mark_9 (fun H2 locs hv9 oq hS2 => ?_)
    have hC2 := hC1.kept (fun κ i b c => oq _ (fun z => hna (z ▸ hC1.2.2.2.2.1 κ i b c)))
    refine x_goto (tgt := 17) B dL_mark_10 (by decide) ?_
    refine x_iconst B dL_mark_17 ?_
    exact w_widen (k := 16) (n := 256) (Nat.le_of_ble_eq_true rfl) (Nat.le_of_ble_eq_true rfl) (lx_iret E hr hlk hS2 dL_mark_18 hC0z.symm (Or.inl ⟨hC0z, _, _, _, hp9, hC2, hv9⟩))
set_option maxRecDepth 20000 in
set_option maxHeartbeats 4000000 in
theorem lw_lost (l : Launch) (D : va_G) (cy : Nat → ClassId) (d0 : Nat) (A : Nat → Prop) (la : Nat → Int → Nat) (σ : MS) {a : Nat} {p0 : Int} {C : Int} {P : Option Value → (Nat → Int → Nat) → MS → Prop} {P' : Int → (Nat → Int → Nat) → MS → Prop} (hna : ¬ A a) (hM : CT l yX10_lost wsX10_lost ({ frames := 8, cells := 16, slots := 256, locals := 124 } : Room) D cy d0 A [.ref (la 0 0), .int (iI p0)] la σ (if C = 1 then 1 else 0) P 16 256) (hC : C = 0 ∨ C = 1) (hP : C = 0 → ∀ v la' τ, P v la' τ → ∃ r : Int, v = some (.int (iI r)) ∧ (r = 0 ∨ r = 1) ∧ P' r la' τ) : LW l yL_lost wsL_lost ({ frames := 9, cells := 16, slots := 256, locals := 152 } : Room) D cy d0 A [.ref (la 0 0), .int (iI p0), .ref a] la σ a C P' 16 256 := by
  refine lx_of (D := D) (cy := cy) (cc := cL_lost) (nL := 4) (ret := some .int) (hh := [(0, 16, 19, 19)]) (by decide) rfl (Nat.le_of_ble_eq_true rfl) (fun U h => h.2.1.1) ?_
  intro p e s m args below meth c ls E htab hr hlk hP0 hl
  obtain ⟨hC0, hK, hNc, hout⟩ := hP0
  have B := E.1
  have hts := E.2.2.2.1
  refine x_aload_n B hl dL_lost_0 rfl ?_
  refine x_iconst B dL_lost_1 ?_
  refine x_aload_n B hl dL_lost_2 rfl ?_
  refine x_iload_n B hl dL_lost_3 rfl ?_
  refine lx_call (rest := [.int (iI 0), .ref a]) (av := [.int (iI p0)]) E hK hC0 hl hM (cwV 1 hts gL_lost_X10_lost rfl rfl rfl (by decide +kernel) ⟨Nat.le_of_ble_eq_true rfl, Nat.le_of_ble_eq_true rfl⟩) rfl rfl (Nat.le_of_ble_eq_true rfl) dL_lost_4 ⟨Nat.le_of_ble_eq_true rfl, Nat.le_of_ble_eq_true rfl⟩ (fun h9 H1 locs q ce hC1 hS1 hce hcv hcl => ?_) (fun h9 H1 locs v la1 σ1 hp hC1 hS1 => ?_)
  · have hla : a < s.heap.size := by obtain ⟨f, hf⟩ := hout; exact (Array.getElem?_eq_some_iff.mp hf).1
    have hka : H1[a]? = s.heap[a]? := hS1.2.1 a hla hna
    have hout1 : outA cy a H1 := by obtain ⟨f, hf⟩ := hout; exact ⟨f, hka.trans hf⟩
    rcases hC with rfl | rfl
    · exact (h9 (by decide)).elim
    · refine lx_catch (k := 1) (pre := []) (x := (0, 16, 19, 19)) (suf := []) E htab (fun z hz => by cases hz) ⟨by decide, by decide⟩ hNc rfl (by decide) (hts (.classLink RL 19 "java/lang/IndexOutOfBoundsException") (by decide +kernel)) (cTh_cast ⟨by decide, by decide⟩ hK.2.2.2.2.2.2.2) hce hcv hcl ?_
      refine x_astore_n B hl dL_lost_19 (by decide) (fun ls hl => ?_)
      refine x_iconst B dL_lost_20 ?_
      exact w_widen (k := 16) (n := 256) (Nat.le_of_ble_eq_true rfl) (Nat.le_of_ble_eq_true rfl) (lx_iret E hr hlk hS1.aw dL_lost_21 rfl (Or.inr ⟨by decide, hC1, hout1⟩))
  · have hC0z : C = 0 := by
      rcases hC with rfl | rfl
      · rfl
      · exact absurd h9 (by decide)
    have hla : a < s.heap.size := by obtain ⟨f, hf⟩ := hout; exact (Array.getElem?_eq_some_iff.mp hf).1
    have hka : H1[a]? = s.heap[a]? := hS1.2.1 a hla hna
    have hout1 : outA cy a H1 := by obtain ⟨f, hf⟩ := hout; exact ⟨f, hka.trans hf⟩
    obtain ⟨r, rfl, hr9, hp9⟩ := hP hC0z _ _ _ hp
    rcases hr9 with rfl | rfl
    · refine x_if_eq_t (tgt := 14) B dL_lost_7 (by decide) (by decide) ?_
      refine x_lconst B dL_lost_14 ?_
      refine lx_last (r := 0) E hout1 hS1.aw (Or.inr rfl) dL_lost_15 (fun H2 locs hv9 oq hS2 => ?_)
      have hC2 := hC1.kept (fun κ i b c => oq _ (fun z => hna (z ▸ hC1.2.2.2.2.1 κ i b c)))
      refine x_goto (tgt := 22) B dL_lost_16 (by decide) ?_
      refine x_iconst B dL_lost_22 ?_
      exact w_widen (k := 16) (n := 256) (Nat.le_of_ble_eq_true rfl) (Nat.le_of_ble_eq_true rfl) (lx_iret E hr hlk hS2 dL_lost_23 hC0z.symm (Or.inl ⟨hC0z, _, _, _, hp9, hC2, hv9⟩))
    · refine x_if_eq_f (tgt := 14) B dL_lost_7 (by decide) (by decide) ?_
      refine x_lconst B dL_lost_10 ?_
      refine x_goto (tgt := 15) B dL_lost_11 (by decide) ?_
      refine lx_last (r := 1) E hout1 hS1.aw (Or.inr rfl) dL_lost_15 (fun H2 locs hv9 oq hS2 => ?_)
      have hC2 := hC1.kept (fun κ i b c => oq _ (fun z => hna (z ▸ hC1.2.2.2.2.1 κ i b c)))
      refine x_goto (tgt := 22) B dL_lost_16 (by decide) ?_
      refine x_iconst B dL_lost_22 ?_
      exact w_widen (k := 16) (n := 256) (Nat.le_of_ble_eq_true rfl) (Nat.le_of_ble_eq_true rfl) (lx_iret E hr hlk hS2 dL_lost_23 hC0z.symm (Or.inl ⟨hC0z, _, _, _, hp9, hC2, hv9⟩))
set_option maxRecDepth 20000 in
set_option maxHeartbeats 4000000 in
theorem lw_move (l : Launch) (D : va_G) (cy : Nat → ClassId) (d0 : Nat) (A : Nat → Prop) (la : Nat → Int → Nat) (σ : MS) {a : Nat} {p0 p1 p2 : Int} {C : Int} {P : Option Value → (Nat → Int → Nat) → MS → Prop} {P' : Int → (Nat → Int → Nat) → MS → Prop} (hna : ¬ A a) (hM : CT l yX10_move wsX10_move ({ frames := 8, cells := 24, slots := 2100, locals := 256 } : Room) D cy d0 A [.ref (la 0 0), .int (iI p0), .int (iI p1), .int (iI p2)] la σ (if C = 1 then 1 else (if C = 2 then 2 else (if C = 3 then 3 else 0))) P 24 2100) (hC : C = 0 ∨ C = 1 ∨ C = 2 ∨ C = 3) (hP : C = 0 → ∀ v la' τ, P v la' τ → ∃ r : Int, v = some (.int (iI r)) ∧ (-2147483648 ≤ r ∧ r < 2147483648) ∧ P' r la' τ) : LW l yL_move wsL_move ({ frames := 9, cells := 24, slots := 2100, locals := 286 } : Room) D cy d0 A [.ref (la 0 0), .int (iI p0), .int (iI p1), .int (iI p2), .ref a] la σ a C P' 24 2100 := by
  refine lx_of (D := D) (cy := cy) (cc := cL_move) (nL := 6) (ret := some .int) (hh := [(0, 12, 15, 19), (0, 12, 19, 21), (0, 12, 23, 13)]) (by decide) rfl (Nat.le_of_ble_eq_true rfl) (fun U h => h.2.1.1) ?_
  intro p e s m args below meth c ls E htab hr hlk hP0 hl
  obtain ⟨hC0, hK, hNc, hout⟩ := hP0
  have B := E.1
  have hts := E.2.2.2.1
  refine x_aload B hl dL_move_0 rfl ?_
  refine x_iconst B dL_move_2 ?_
  refine x_aload_n B hl dL_move_3 rfl ?_
  refine x_iload_n B hl dL_move_4 rfl ?_
  refine x_iload_n B hl dL_move_5 rfl ?_
  refine x_iload_n B hl dL_move_6 rfl ?_
  refine lx_call (rest := [.int (iI 0), .ref a]) (av := [.int (iI p0), .int (iI p1), .int (iI p2)]) E hK hC0 hl hM (cwV 3 hts gL_move_X10_move rfl rfl rfl (by decide +kernel) ⟨Nat.le_of_ble_eq_true rfl, Nat.le_of_ble_eq_true rfl⟩) rfl rfl (Nat.le_of_ble_eq_true rfl) dL_move_7 ⟨Nat.le_of_ble_eq_true rfl, Nat.le_of_ble_eq_true rfl⟩ (fun h9 H1 locs q ce hC1 hS1 hce hcv hcl => ?_) (fun h9 H1 locs v la1 σ1 hp hC1 hS1 => ?_)
  · have hla : a < s.heap.size := by obtain ⟨f, hf⟩ := hout; exact (Array.getElem?_eq_some_iff.mp hf).1
    have hka : H1[a]? = s.heap[a]? := hS1.2.1 a hla hna
    have hout1 : outA cy a H1 := by obtain ⟨f, hf⟩ := hout; exact ⟨f, hka.trans hf⟩
    rcases hC with rfl | rfl | rfl | rfl
    · exact (h9 (by decide)).elim
    · refine lx_catch (k := 1) (pre := []) (x := (0, 12, 15, 19)) (suf := [(0, 12, 19, 21), (0, 12, 23, 13)]) E htab (fun z hz => by cases hz) ⟨by decide, by decide⟩ hNc rfl (by decide) (hts (.classLink RL 19 "java/lang/IndexOutOfBoundsException") (by decide +kernel)) (cTh_cast ⟨by decide, by decide⟩ hK.2.2.2.2.2.2.2) hce hcv hcl ?_
      refine x_astore B hl dL_move_15 (by decide) (fun ls hl => ?_)
      refine x_iconst B dL_move_17 ?_
      exact w_widen (k := 24) (n := 2100) (Nat.le_of_ble_eq_true rfl) (Nat.le_of_ble_eq_true rfl) (lx_iret E hr hlk hS1.aw dL_move_18 rfl (Or.inr ⟨by decide, hC1, hout1⟩))
    · refine lx_catch (k := 2) (pre := [(0, 12, 15, 19)]) (x := (0, 12, 19, 21)) (suf := [(0, 12, 23, 13)]) E htab (fun z hz => by
          simp only [List.mem_cons, List.not_mem_nil, or_false] at hz
          rcases hz with rfl
          · exact ⟨1, ⟨by decide, by decide⟩, by decide, by decide, hts (.classLink RL 19 "java/lang/IndexOutOfBoundsException") (by decide +kernel)⟩) ⟨by decide, by decide⟩ hNc rfl (by decide) (hts (.classLink RL 21 "java/lang/IllegalArgumentException") (by decide +kernel)) (cTh_cast ⟨by decide, by decide⟩ hK.2.2.2.2.2.2.2) hce hcv hcl ?_
      refine x_astore B hl dL_move_19 (by decide) (fun ls hl => ?_)
      refine x_iconst B dL_move_21 ?_
      exact w_widen (k := 24) (n := 2100) (Nat.le_of_ble_eq_true rfl) (Nat.le_of_ble_eq_true rfl) (lx_iret E hr hlk hS1.aw dL_move_22 rfl (Or.inr ⟨by decide, hC1, hout1⟩))
    · refine lx_catch (k := 3) (pre := [(0, 12, 15, 19), (0, 12, 19, 21)]) (x := (0, 12, 23, 13)) (suf := []) E htab (fun z hz => by
          simp only [List.mem_cons, List.not_mem_nil, or_false] at hz
          rcases hz with rfl | rfl
          · exact ⟨1, ⟨by decide, by decide⟩, by decide, by decide, hts (.classLink RL 19 "java/lang/IndexOutOfBoundsException") (by decide +kernel)⟩
          · exact ⟨2, ⟨by decide, by decide⟩, by decide, by decide, hts (.classLink RL 21 "java/lang/IllegalArgumentException") (by decide +kernel)⟩) ⟨by decide, by decide⟩ hNc rfl (by decide) (hts (.classLink RL 13 "java/lang/UnsupportedOperationException") (by decide +kernel)) (cTh_cast ⟨by decide, by decide⟩ hK.2.2.2.2.2.2.2) hce hcv hcl ?_
      refine x_astore B hl dL_move_23 (by decide) (fun ls hl => ?_)
      refine x_iconst B dL_move_25 ?_
      exact w_widen (k := 24) (n := 2100) (Nat.le_of_ble_eq_true rfl) (Nat.le_of_ble_eq_true rfl) (lx_iret E hr hlk hS1.aw dL_move_26 rfl (Or.inr ⟨by decide, hC1, hout1⟩))
  · have hC0z : C = 0 := by
      rcases hC with rfl | rfl | rfl | rfl
      · rfl
      · exact absurd h9 (by decide)
      · exact absurd h9 (by decide)
      · exact absurd h9 (by decide)
    have hla : a < s.heap.size := by obtain ⟨f, hf⟩ := hout; exact (Array.getElem?_eq_some_iff.mp hf).1
    have hka : H1[a]? = s.heap[a]? := hS1.2.1 a hla hna
    have hout1 : outA cy a H1 := by obtain ⟨f, hf⟩ := hout; exact ⟨f, hka.trans hf⟩
    obtain ⟨r, rfl, hr9, hp9⟩ := hP hC0z _ _ _ hp
    refine x_i2l B dL_move_10 hr9 ?_
    refine lx_last (r := r) E hout1 hS1.aw (Or.inr rfl) dL_move_11 (fun H2 locs hv9 oq hS2 => ?_)
    have hC2 := hC1.kept (fun κ i b c => oq _ (fun z => hna (z ▸ hC1.2.2.2.2.1 κ i b c)))
    refine x_goto (tgt := 27) B dL_move_12 (by decide) ?_
    refine x_iconst B dL_move_27 ?_
    exact w_widen (k := 24) (n := 2100) (Nat.le_of_ble_eq_true rfl) (Nat.le_of_ble_eq_true rfl) (lx_iret E hr hlk hS2 dL_move_28 hC0z.symm (Or.inl ⟨hC0z, _, _, _, hp9, hC2, hv9⟩))
set_option maxRecDepth 20000 in
set_option maxHeartbeats 4000000 in
theorem lw_part (l : Launch) (D : va_G) (cy : Nat → ClassId) (d0 : Nat) (A : Nat → Prop) (la : Nat → Int → Nat) (σ : MS) {a : Nat} {p0 p1 p2 p3 : Int} {C : Int} {P : Option Value → (Nat → Int → Nat) → MS → Prop} {P' : Int → (Nat → Int → Nat) → MS → Prop} (hna : ¬ A a) (hM : CT l yX10_part wsX10_part ({ frames := 8, cells := 24, slots := 2100, locals := 256 } : Room) D cy d0 A [.ref (la 0 0), .int (iI p0), .int (iI p1), .int (iI p2), .int (iI p3)] la σ (if C = 1 then 1 else (if C = 2 then 2 else (if C = 3 then 3 else 0))) P 24 2100) (hC : C = 0 ∨ C = 1 ∨ C = 2 ∨ C = 3) (hP : C = 0 → ∀ v la' τ, P v la' τ → ∃ r : Int, v = some (.int (iI r)) ∧ (-2147483648 ≤ r ∧ r < 2147483648) ∧ P' r la' τ) : LW l yL_part wsL_part ({ frames := 9, cells := 24, slots := 2100, locals := 287 } : Room) D cy d0 A [.ref (la 0 0), .int (iI p0), .int (iI p1), .int (iI p2), .int (iI p3), .ref a] la σ a C P' 24 2100 := by
  refine lx_of (D := D) (cy := cy) (cc := cL_part) (nL := 7) (ret := some .int) (hh := [(0, 14, 17, 19), (0, 14, 21, 21), (0, 14, 25, 13)]) (by decide) rfl (Nat.le_of_ble_eq_true rfl) (fun U h => h.2.1.1) ?_
  intro p e s m args below meth c ls E htab hr hlk hP0 hl
  obtain ⟨hC0, hK, hNc, hout⟩ := hP0
  have B := E.1
  have hts := E.2.2.2.1
  refine x_aload B hl dL_part_0 rfl ?_
  refine x_iconst B dL_part_2 ?_
  refine x_aload_n B hl dL_part_3 rfl ?_
  refine x_iload_n B hl dL_part_4 rfl ?_
  refine x_iload_n B hl dL_part_5 rfl ?_
  refine x_iload_n B hl dL_part_6 rfl ?_
  refine x_iload B hl dL_part_7 rfl ?_
  refine lx_call (rest := [.int (iI 0), .ref a]) (av := [.int (iI p0), .int (iI p1), .int (iI p2), .int (iI p3)]) E hK hC0 hl hM (cwV 4 hts gL_part_X10_part rfl rfl rfl (by decide +kernel) ⟨Nat.le_of_ble_eq_true rfl, Nat.le_of_ble_eq_true rfl⟩) rfl rfl (Nat.le_of_ble_eq_true rfl) dL_part_9 ⟨Nat.le_of_ble_eq_true rfl, Nat.le_of_ble_eq_true rfl⟩ (fun h9 H1 locs q ce hC1 hS1 hce hcv hcl => ?_) (fun h9 H1 locs v la1 σ1 hp hC1 hS1 => ?_)
  · have hla : a < s.heap.size := by obtain ⟨f, hf⟩ := hout; exact (Array.getElem?_eq_some_iff.mp hf).1
    have hka : H1[a]? = s.heap[a]? := hS1.2.1 a hla hna
    have hout1 : outA cy a H1 := by obtain ⟨f, hf⟩ := hout; exact ⟨f, hka.trans hf⟩
    rcases hC with rfl | rfl | rfl | rfl
    · exact (h9 (by decide)).elim
    · refine lx_catch (k := 1) (pre := []) (x := (0, 14, 17, 19)) (suf := [(0, 14, 21, 21), (0, 14, 25, 13)]) E htab (fun z hz => by cases hz) ⟨by decide, by decide⟩ hNc rfl (by decide) (hts (.classLink RL 19 "java/lang/IndexOutOfBoundsException") (by decide +kernel)) (cTh_cast ⟨by decide, by decide⟩ hK.2.2.2.2.2.2.2) hce hcv hcl ?_
      refine x_astore B hl dL_part_17 (by decide) (fun ls hl => ?_)
      refine x_iconst B dL_part_19 ?_
      exact w_widen (k := 24) (n := 2100) (Nat.le_of_ble_eq_true rfl) (Nat.le_of_ble_eq_true rfl) (lx_iret E hr hlk hS1.aw dL_part_20 rfl (Or.inr ⟨by decide, hC1, hout1⟩))
    · refine lx_catch (k := 2) (pre := [(0, 14, 17, 19)]) (x := (0, 14, 21, 21)) (suf := [(0, 14, 25, 13)]) E htab (fun z hz => by
          simp only [List.mem_cons, List.not_mem_nil, or_false] at hz
          rcases hz with rfl
          · exact ⟨1, ⟨by decide, by decide⟩, by decide, by decide, hts (.classLink RL 19 "java/lang/IndexOutOfBoundsException") (by decide +kernel)⟩) ⟨by decide, by decide⟩ hNc rfl (by decide) (hts (.classLink RL 21 "java/lang/IllegalArgumentException") (by decide +kernel)) (cTh_cast ⟨by decide, by decide⟩ hK.2.2.2.2.2.2.2) hce hcv hcl ?_
      refine x_astore B hl dL_part_21 (by decide) (fun ls hl => ?_)
      refine x_iconst B dL_part_23 ?_
      exact w_widen (k := 24) (n := 2100) (Nat.le_of_ble_eq_true rfl) (Nat.le_of_ble_eq_true rfl) (lx_iret E hr hlk hS1.aw dL_part_24 rfl (Or.inr ⟨by decide, hC1, hout1⟩))
    · refine lx_catch (k := 3) (pre := [(0, 14, 17, 19), (0, 14, 21, 21)]) (x := (0, 14, 25, 13)) (suf := []) E htab (fun z hz => by
          simp only [List.mem_cons, List.not_mem_nil, or_false] at hz
          rcases hz with rfl | rfl
          · exact ⟨1, ⟨by decide, by decide⟩, by decide, by decide, hts (.classLink RL 19 "java/lang/IndexOutOfBoundsException") (by decide +kernel)⟩
          · exact ⟨2, ⟨by decide, by decide⟩, by decide, by decide, hts (.classLink RL 21 "java/lang/IllegalArgumentException") (by decide +kernel)⟩) ⟨by decide, by decide⟩ hNc rfl (by decide) (hts (.classLink RL 13 "java/lang/UnsupportedOperationException") (by decide +kernel)) (cTh_cast ⟨by decide, by decide⟩ hK.2.2.2.2.2.2.2) hce hcv hcl ?_
      refine x_astore B hl dL_part_25 (by decide) (fun ls hl => ?_)
      refine x_iconst B dL_part_27 ?_
      exact w_widen (k := 24) (n := 2100) (Nat.le_of_ble_eq_true rfl) (Nat.le_of_ble_eq_true rfl) (lx_iret E hr hlk hS1.aw dL_part_28 rfl (Or.inr ⟨by decide, hC1, hout1⟩))
  · have hC0z : C = 0 := by
      rcases hC with rfl | rfl | rfl | rfl
      · rfl
      · exact absurd h9 (by decide)
      · exact absurd h9 (by decide)
      · exact absurd h9 (by decide)
    have hla : a < s.heap.size := by obtain ⟨f, hf⟩ := hout; exact (Array.getElem?_eq_some_iff.mp hf).1
    have hka : H1[a]? = s.heap[a]? := hS1.2.1 a hla hna
    have hout1 : outA cy a H1 := by obtain ⟨f, hf⟩ := hout; exact ⟨f, hka.trans hf⟩
    obtain ⟨r, rfl, hr9, hp9⟩ := hP hC0z _ _ _ hp
    refine x_i2l B dL_part_12 hr9 ?_
    refine lx_last (r := r) E hout1 hS1.aw (Or.inr rfl) dL_part_13 (fun H2 locs hv9 oq hS2 => ?_)
    have hC2 := hC1.kept (fun κ i b c => oq _ (fun z => hna (z ▸ hC1.2.2.2.2.1 κ i b c)))
    refine x_goto (tgt := 29) B dL_part_14 (by decide) ?_
    refine x_iconst B dL_part_29 ?_
    exact w_widen (k := 24) (n := 2100) (Nat.le_of_ble_eq_true rfl) (Nat.le_of_ble_eq_true rfl) (lx_iret E hr hlk hS2 dL_part_30 hC0z.symm (Or.inl ⟨hC0z, _, _, _, hp9, hC2, hv9⟩))
set_option maxRecDepth 20000 in
set_option maxHeartbeats 4000000 in
theorem lw_cart (l : Launch) (D : va_G) (cy : Nat → ClassId) (d0 : Nat) (A : Nat → Prop) (la : Nat → Int → Nat) (σ : MS) {a : Nat} {p0 : Int} {C : Int} {P : Option Value → (Nat → Int → Nat) → MS → Prop} {P' : Int → (Nat → Int → Nat) → MS → Prop} (hna : ¬ A a) (hM : CT l yX10_cart wsX10_cart ({ frames := 7, cells := 24, slots := 2100, locals := 256 } : Room) D cy d0 A [.ref (la 0 0), .int (iI p0)] la σ (if C = 1 then 2 else (if C = 2 then 3 else 0)) P 24 2100) (hC : C = 0 ∨ C = 1 ∨ C = 2) (hP : C = 0 → ∀ v la' τ, P v la' τ → ∃ r : Int, v = some (.int (iI r)) ∧ (-2147483648 ≤ r ∧ r < 2147483648) ∧ P' r la' τ) : LW l yL_cart wsL_cart ({ frames := 8, cells := 24, slots := 2100, locals := 283 } : Room) D cy d0 A [.ref (la 0 0), .int (iI p0), .ref a] la σ a C P' 24 2100 := by
  refine lx_of (D := D) (cy := cy) (cc := cL_cart) (nL := 4) (ret := some .int) (hh := [(0, 9, 12, 21), (0, 9, 15, 13)]) (by decide) rfl (Nat.le_of_ble_eq_true rfl) (fun U h => h.2.1.1) ?_
  intro p e s m args below meth c ls E htab hr hlk hP0 hl
  obtain ⟨hC0, hK, hNc, hout⟩ := hP0
  have B := E.1
  have hts := E.2.2.2.1
  refine x_aload_n B hl dL_cart_0 rfl ?_
  refine x_iconst B dL_cart_1 ?_
  refine x_aload_n B hl dL_cart_2 rfl ?_
  refine x_iload_n B hl dL_cart_3 rfl ?_
  refine lx_call (rest := [.int (iI 0), .ref a]) (av := [.int (iI p0)]) E hK hC0 hl hM (cwV 1 hts gL_cart_X10_cart rfl rfl rfl (by decide +kernel) ⟨Nat.le_of_ble_eq_true rfl, Nat.le_of_ble_eq_true rfl⟩) rfl rfl (Nat.le_of_ble_eq_true rfl) dL_cart_4 ⟨Nat.le_of_ble_eq_true rfl, Nat.le_of_ble_eq_true rfl⟩ (fun h9 H1 locs q ce hC1 hS1 hce hcv hcl => ?_) (fun h9 H1 locs v la1 σ1 hp hC1 hS1 => ?_)
  · have hla : a < s.heap.size := by obtain ⟨f, hf⟩ := hout; exact (Array.getElem?_eq_some_iff.mp hf).1
    have hka : H1[a]? = s.heap[a]? := hS1.2.1 a hla hna
    have hout1 : outA cy a H1 := by obtain ⟨f, hf⟩ := hout; exact ⟨f, hka.trans hf⟩
    rcases hC with rfl | rfl | rfl
    · exact (h9 (by decide)).elim
    · refine lx_catch (k := 2) (pre := []) (x := (0, 9, 12, 21)) (suf := [(0, 9, 15, 13)]) E htab (fun z hz => by cases hz) ⟨by decide, by decide⟩ hNc rfl (by decide) (hts (.classLink RL 21 "java/lang/IllegalArgumentException") (by decide +kernel)) (cTh_cast ⟨by decide, by decide⟩ hK.2.2.2.2.2.2.2) hce hcv hcl ?_
      refine x_astore_n B hl dL_cart_12 (by decide) (fun ls hl => ?_)
      refine x_iconst B dL_cart_13 ?_
      exact w_widen (k := 24) (n := 2100) (Nat.le_of_ble_eq_true rfl) (Nat.le_of_ble_eq_true rfl) (lx_iret E hr hlk hS1.aw dL_cart_14 rfl (Or.inr ⟨by decide, hC1, hout1⟩))
    · refine lx_catch (k := 3) (pre := [(0, 9, 12, 21)]) (x := (0, 9, 15, 13)) (suf := []) E htab (fun z hz => by
          simp only [List.mem_cons, List.not_mem_nil, or_false] at hz
          rcases hz with rfl
          · exact ⟨2, ⟨by decide, by decide⟩, by decide, by decide, hts (.classLink RL 21 "java/lang/IllegalArgumentException") (by decide +kernel)⟩) ⟨by decide, by decide⟩ hNc rfl (by decide) (hts (.classLink RL 13 "java/lang/UnsupportedOperationException") (by decide +kernel)) (cTh_cast ⟨by decide, by decide⟩ hK.2.2.2.2.2.2.2) hce hcv hcl ?_
      refine x_astore_n B hl dL_cart_15 (by decide) (fun ls hl => ?_)
      refine x_iconst B dL_cart_16 ?_
      exact w_widen (k := 24) (n := 2100) (Nat.le_of_ble_eq_true rfl) (Nat.le_of_ble_eq_true rfl) (lx_iret E hr hlk hS1.aw dL_cart_17 rfl (Or.inr ⟨by decide, hC1, hout1⟩))
  · have hC0z : C = 0 := by
      rcases hC with rfl | rfl | rfl
      · rfl
      · exact absurd h9 (by decide)
      · exact absurd h9 (by decide)
    have hla : a < s.heap.size := by obtain ⟨f, hf⟩ := hout; exact (Array.getElem?_eq_some_iff.mp hf).1
    have hka : H1[a]? = s.heap[a]? := hS1.2.1 a hla hna
    have hout1 : outA cy a H1 := by obtain ⟨f, hf⟩ := hout; exact ⟨f, hka.trans hf⟩
    obtain ⟨r, rfl, hr9, hp9⟩ := hP hC0z _ _ _ hp
    refine x_i2l B dL_cart_7 hr9 ?_
    refine lx_last (r := r) E hout1 hS1.aw (Or.inr rfl) dL_cart_8 (fun H2 locs hv9 oq hS2 => ?_)
    have hC2 := hC1.kept (fun κ i b c => oq _ (fun z => hna (z ▸ hC1.2.2.2.2.1 κ i b c)))
    refine x_goto (tgt := 18) B dL_cart_9 (by decide) ?_
    refine x_iconst B dL_cart_18 ?_
    exact w_widen (k := 24) (n := 2100) (Nat.le_of_ble_eq_true rfl) (Nat.le_of_ble_eq_true rfl) (lx_iret E hr hlk hS2 dL_cart_19 hC0z.symm (Or.inl ⟨hC0z, _, _, _, hp9, hC2, hv9⟩))
set_option maxRecDepth 20000 in
set_option maxHeartbeats 4000000 in
theorem lw_table (l : Launch) (D : va_G) (cy : Nat → ClassId) (d0 : Nat) (A : Nat → Prop) (la : Nat → Int → Nat) (σ : MS) {p0 p1 p2 : Int} {C : Int} {P : Option Value → (Nat → Int → Nat) → MS → Prop} {P' : (Nat → Int → Nat) → MS → Prop} (hM : CT l yX10_table wsX10_table ({ frames := 7, cells := 16, slots := 256, locals := 102 } : Room) D cy d0 A [.ref (la 0 0), .int (iI p0), .int (iI p1), .int (iI p2)] la σ (if C = 1 then 2 else 0) P 16 256) (hC : C = 0 ∨ C = 1) (hP : C = 0 → ∀ v la' τ, P v la' τ → v = none ∧ P' la' τ) : LV l yL_table wsL_table ({ frames := 8, cells := 16, slots := 256, locals := 130 } : Room) D cy d0 A [.ref (la 0 0), .int (iI p0), .int (iI p1), .int (iI p2)] la σ C P' 16 256 := by
  refine lx_of (D := D) (cy := cy) (cc := cL_table) (nL := 5) (ret := some .int) (hh := [(0, 7, 10, 21)]) (by decide) rfl (Nat.le_of_ble_eq_true rfl) (fun U h => h.2.1.1) ?_
  intro p e s m args below meth c ls E htab hr hlk hP0 hl
  obtain ⟨hC0, hK, hNc⟩ := hP0
  have B := E.1
  have hts := E.2.2.2.1
  refine x_aload_n B hl dL_table_0 rfl ?_
  refine x_iload_n B hl dL_table_1 rfl ?_
  refine x_iload_n B hl dL_table_2 rfl ?_
  refine x_iload_n B hl dL_table_3 rfl ?_
  refine lx_call (rest := []) (av := [.int (iI p0), .int (iI p1), .int (iI p2)]) E hK hC0 hl hM (cwV 3 hts gL_table_X10_table rfl rfl rfl (by decide +kernel) ⟨Nat.le_of_ble_eq_true rfl, Nat.le_of_ble_eq_true rfl⟩) rfl rfl (Nat.le_of_ble_eq_true rfl) dL_table_4 ⟨Nat.le_of_ble_eq_true rfl, Nat.le_of_ble_eq_true rfl⟩ (fun h9 H1 locs q ce hC1 hS1 hce hcv hcl => ?_) (fun h9 H1 locs v la1 σ1 hp hC1 hS1 => ?_)
  · rcases hC with rfl | rfl
    · exact (h9 (by decide)).elim
    · refine lx_catch (k := 2) (pre := []) (x := (0, 7, 10, 21)) (suf := []) E htab (fun z hz => by cases hz) ⟨by decide, by decide⟩ hNc rfl (by decide) (hts (.classLink RL 21 "java/lang/IllegalArgumentException") (by decide +kernel)) (cTh_cast ⟨by decide, by decide⟩ hK.2.2.2.2.2.2.2) hce hcv hcl ?_
      refine x_astore B hl dL_table_10 (by decide) (fun ls hl => ?_)
      refine x_iconst B dL_table_12 ?_
      exact w_widen (k := 16) (n := 256) (Nat.le_of_ble_eq_true rfl) (Nat.le_of_ble_eq_true rfl) (lx_iret E hr hlk hS1 dL_table_13 rfl (Or.inr ⟨by decide, hC1⟩))
  · have hC0z : C = 0 := by
      rcases hC with rfl | rfl
      · rfl
      · exact absurd h9 (by decide)
    obtain ⟨rfl, hp9⟩ := hP hC0z _ _ _ hp
    refine x_goto (tgt := 14) B dL_table_7 (by decide) ?_
    refine x_iconst B dL_table_14 ?_
    exact w_widen (k := 16) (n := 256) (Nat.le_of_ble_eq_true rfl) (Nat.le_of_ble_eq_true rfl) (lx_iret E hr hlk hS1 dL_table_15 hC0z.symm (Or.inl ⟨hC0z, _, _, hp9, hC1⟩))
set_option maxRecDepth 20000 in
set_option maxHeartbeats 4000000 in
theorem lw_terms (l : Launch) (D : va_G) (cy : Nat → ClassId) (d0 : Nat) (A : Nat → Prop) (la : Nat → Int → Nat) (σ : MS) {p0 p1 : Int} {C : Int} {P : Option Value → (Nat → Int → Nat) → MS → Prop} {P' : (Nat → Int → Nat) → MS → Prop} (hM : CT l yX10_terms wsX10_terms ({ frames := 7, cells := 16, slots := 256, locals := 102 } : Room) D cy d0 A [.ref (la 0 0), .int (iI p0), .int (iI p1)] la σ (if C = 1 then 2 else 0) P 16 256) (hC : C = 0 ∨ C = 1) (hP : C = 0 → ∀ v la' τ, P v la' τ → v = none ∧ P' la' τ) : LV l yL_terms wsL_terms ({ frames := 8, cells := 16, slots := 256, locals := 129 } : Room) D cy d0 A [.ref (la 0 0), .int (iI p0), .int (iI p1)] la σ C P' 16 256 := by
  refine lx_of (D := D) (cy := cy) (cc := cL_terms) (nL := 4) (ret := some .int) (hh := [(0, 6, 9, 21)]) (by decide) rfl (Nat.le_of_ble_eq_true rfl) (fun U h => h.2.1.1) ?_
  intro p e s m args below meth c ls E htab hr hlk hP0 hl
  obtain ⟨hC0, hK, hNc⟩ := hP0
  have B := E.1
  have hts := E.2.2.2.1
  refine x_aload_n B hl dL_terms_0 rfl ?_
  refine x_iload_n B hl dL_terms_1 rfl ?_
  refine x_iload_n B hl dL_terms_2 rfl ?_
  refine lx_call (rest := []) (av := [.int (iI p0), .int (iI p1)]) E hK hC0 hl hM (cwV 2 hts gL_terms_X10_terms rfl rfl rfl (by decide +kernel) ⟨Nat.le_of_ble_eq_true rfl, Nat.le_of_ble_eq_true rfl⟩) rfl rfl (Nat.le_of_ble_eq_true rfl) dL_terms_3 ⟨Nat.le_of_ble_eq_true rfl, Nat.le_of_ble_eq_true rfl⟩ (fun h9 H1 locs q ce hC1 hS1 hce hcv hcl => ?_) (fun h9 H1 locs v la1 σ1 hp hC1 hS1 => ?_)
  · rcases hC with rfl | rfl
    · exact (h9 (by decide)).elim
    · refine lx_catch (k := 2) (pre := []) (x := (0, 6, 9, 21)) (suf := []) E htab (fun z hz => by cases hz) ⟨by decide, by decide⟩ hNc rfl (by decide) (hts (.classLink RL 21 "java/lang/IllegalArgumentException") (by decide +kernel)) (cTh_cast ⟨by decide, by decide⟩ hK.2.2.2.2.2.2.2) hce hcv hcl ?_
      refine x_astore_n B hl dL_terms_9 (by decide) (fun ls hl => ?_)
      refine x_iconst B dL_terms_10 ?_
      exact w_widen (k := 16) (n := 256) (Nat.le_of_ble_eq_true rfl) (Nat.le_of_ble_eq_true rfl) (lx_iret E hr hlk hS1 dL_terms_11 rfl (Or.inr ⟨by decide, hC1⟩))
  · have hC0z : C = 0 := by
      rcases hC with rfl | rfl
      · rfl
      · exact absurd h9 (by decide)
    obtain ⟨rfl, hp9⟩ := hP hC0z _ _ _ hp
    refine x_goto (tgt := 12) B dL_terms_6 (by decide) ?_
    refine x_iconst B dL_terms_12 ?_
    exact w_widen (k := 16) (n := 256) (Nat.le_of_ble_eq_true rfl) (Nat.le_of_ble_eq_true rfl) (lx_iret E hr hlk hS1 dL_terms_13 hC0z.symm (Or.inl ⟨hC0z, _, _, hp9, hC1⟩))
set_option maxRecDepth 20000 in
set_option maxHeartbeats 4000000 in
theorem lw_band (l : Launch) (D : va_G) (cy : Nat → ClassId) (d0 : Nat) (A : Nat → Prop) (la : Nat → Int → Nat) (σ : MS) {a : Nat} {p0 p1 : Int} {C : Int} {P : Option Value → (Nat → Int → Nat) → MS → Prop} {P' : Int → (Nat → Int → Nat) → MS → Prop} (hna : ¬ A a) (hM : CT l yX10_band wsX10_band ({ frames := 8, cells := 16, slots := 256, locals := 124 } : Room) D cy d0 A [.ref (la 0 0), .int (iI p0), .int (iI p1)] la σ (if C = 1 then 1 else (if C = 2 then 2 else 0)) P 16 256) (hC : C = 0 ∨ C = 1 ∨ C = 2) (hP : C = 0 → ∀ v la' τ, P v la' τ → ∃ r : Int, v = some (.int (iI r)) ∧ (-2147483648 ≤ r ∧ r < 2147483648) ∧ P' r la' τ) : LW l yL_band wsL_band ({ frames := 9, cells := 16, slots := 256, locals := 152 } : Room) D cy d0 A [.ref (la 0 0), .int (iI p0), .int (iI p1), .ref a] la σ a C P' 16 256 := by
  refine lx_of (D := D) (cy := cy) (cc := cL_band) (nL := 5) (ret := some .int) (hh := [(0, 10, 13, 19), (0, 10, 17, 21)]) (by decide) rfl (Nat.le_of_ble_eq_true rfl) (fun U h => h.2.1.1) ?_
  intro p e s m args below meth c ls E htab hr hlk hP0 hl
  obtain ⟨hC0, hK, hNc, hout⟩ := hP0
  have B := E.1
  have hts := E.2.2.2.1
  refine x_aload_n B hl dL_band_0 rfl ?_
  refine x_iconst B dL_band_1 ?_
  refine x_aload_n B hl dL_band_2 rfl ?_
  refine x_iload_n B hl dL_band_3 rfl ?_
  refine x_iload_n B hl dL_band_4 rfl ?_
  refine lx_call (rest := [.int (iI 0), .ref a]) (av := [.int (iI p0), .int (iI p1)]) E hK hC0 hl hM (cwV 2 hts gL_band_X10_band rfl rfl rfl (by decide +kernel) ⟨Nat.le_of_ble_eq_true rfl, Nat.le_of_ble_eq_true rfl⟩) rfl rfl (Nat.le_of_ble_eq_true rfl) dL_band_5 ⟨Nat.le_of_ble_eq_true rfl, Nat.le_of_ble_eq_true rfl⟩ (fun h9 H1 locs q ce hC1 hS1 hce hcv hcl => ?_) (fun h9 H1 locs v la1 σ1 hp hC1 hS1 => ?_)
  · have hla : a < s.heap.size := by obtain ⟨f, hf⟩ := hout; exact (Array.getElem?_eq_some_iff.mp hf).1
    have hka : H1[a]? = s.heap[a]? := hS1.2.1 a hla hna
    have hout1 : outA cy a H1 := by obtain ⟨f, hf⟩ := hout; exact ⟨f, hka.trans hf⟩
    rcases hC with rfl | rfl | rfl
    · exact (h9 (by decide)).elim
    · refine lx_catch (k := 1) (pre := []) (x := (0, 10, 13, 19)) (suf := [(0, 10, 17, 21)]) E htab (fun z hz => by cases hz) ⟨by decide, by decide⟩ hNc rfl (by decide) (hts (.classLink RL 19 "java/lang/IndexOutOfBoundsException") (by decide +kernel)) (cTh_cast ⟨by decide, by decide⟩ hK.2.2.2.2.2.2.2) hce hcv hcl ?_
      refine x_astore B hl dL_band_13 (by decide) (fun ls hl => ?_)
      refine x_iconst B dL_band_15 ?_
      exact w_widen (k := 16) (n := 256) (Nat.le_of_ble_eq_true rfl) (Nat.le_of_ble_eq_true rfl) (lx_iret E hr hlk hS1.aw dL_band_16 rfl (Or.inr ⟨by decide, hC1, hout1⟩))
    · refine lx_catch (k := 2) (pre := [(0, 10, 13, 19)]) (x := (0, 10, 17, 21)) (suf := []) E htab (fun z hz => by
          simp only [List.mem_cons, List.not_mem_nil, or_false] at hz
          rcases hz with rfl
          · exact ⟨1, ⟨by decide, by decide⟩, by decide, by decide, hts (.classLink RL 19 "java/lang/IndexOutOfBoundsException") (by decide +kernel)⟩) ⟨by decide, by decide⟩ hNc rfl (by decide) (hts (.classLink RL 21 "java/lang/IllegalArgumentException") (by decide +kernel)) (cTh_cast ⟨by decide, by decide⟩ hK.2.2.2.2.2.2.2) hce hcv hcl ?_
      refine x_astore B hl dL_band_17 (by decide) (fun ls hl => ?_)
      refine x_iconst B dL_band_19 ?_
      exact w_widen (k := 16) (n := 256) (Nat.le_of_ble_eq_true rfl) (Nat.le_of_ble_eq_true rfl) (lx_iret E hr hlk hS1.aw dL_band_20 rfl (Or.inr ⟨by decide, hC1, hout1⟩))
  · have hC0z : C = 0 := by
      rcases hC with rfl | rfl | rfl
      · rfl
      · exact absurd h9 (by decide)
      · exact absurd h9 (by decide)
    have hla : a < s.heap.size := by obtain ⟨f, hf⟩ := hout; exact (Array.getElem?_eq_some_iff.mp hf).1
    have hka : H1[a]? = s.heap[a]? := hS1.2.1 a hla hna
    have hout1 : outA cy a H1 := by obtain ⟨f, hf⟩ := hout; exact ⟨f, hka.trans hf⟩
    obtain ⟨r, rfl, hr9, hp9⟩ := hP hC0z _ _ _ hp
    refine x_i2l B dL_band_8 hr9 ?_
    refine lx_last (r := r) E hout1 hS1.aw (Or.inr rfl) dL_band_9 (fun H2 locs hv9 oq hS2 => ?_)
    have hC2 := hC1.kept (fun κ i b c => oq _ (fun z => hna (z ▸ hC1.2.2.2.2.1 κ i b c)))
    refine x_goto (tgt := 21) B dL_band_10 (by decide) ?_
    refine x_iconst B dL_band_21 ?_
    exact w_widen (k := 16) (n := 256) (Nat.le_of_ble_eq_true rfl) (Nat.le_of_ble_eq_true rfl) (lx_iret E hr hlk hS2 dL_band_22 hC0z.symm (Or.inl ⟨hC0z, _, _, _, hp9, hC2, hv9⟩))
set_option maxRecDepth 20000 in
set_option maxHeartbeats 4000000 in
theorem lw_tip (l : Launch) (D : va_G) (cy : Nat → ClassId) (d0 : Nat) (A : Nat → Prop) (la : Nat → Int → Nat) (σ : MS) {a : Nat} {p0 p1 p2 : Int} {C : Int} {P : Option Value → (Nat → Int → Nat) → MS → Prop} {P' : Int → (Nat → Int → Nat) → MS → Prop} (hna : ¬ A a) (hM : CT l yX10_tip wsX10_tip ({ frames := 8, cells := 24, slots := 2100, locals := 256 } : Room) D cy d0 A [.ref (la 0 0), .int (iI p0), .int (iI p1), .int (iI p2)] la σ (if C = 1 then 1 else (if C = 2 then 2 else (if C = 3 then 3 else 0))) P 24 2100) (hC : C = 0 ∨ C = 1 ∨ C = 2 ∨ C = 3) (hP : C = 0 → ∀ v la' τ, P v la' τ → ∃ r : Int, v = some (.int (iI r)) ∧ (-2147483648 ≤ r ∧ r < 2147483648) ∧ P' r la' τ) : LW l yL_tip wsL_tip ({ frames := 9, cells := 24, slots := 2100, locals := 286 } : Room) D cy d0 A [.ref (la 0 0), .int (iI p0), .int (iI p1), .int (iI p2), .ref a] la σ a C P' 24 2100 := by
  refine lx_of (D := D) (cy := cy) (cc := cL_tip) (nL := 6) (ret := some .int) (hh := [(0, 12, 15, 19), (0, 12, 19, 21), (0, 12, 23, 13)]) (by decide) rfl (Nat.le_of_ble_eq_true rfl) (fun U h => h.2.1.1) ?_
  intro p e s m args below meth c ls E htab hr hlk hP0 hl
  obtain ⟨hC0, hK, hNc, hout⟩ := hP0
  have B := E.1
  have hts := E.2.2.2.1
  refine x_aload B hl dL_tip_0 rfl ?_
  refine x_iconst B dL_tip_2 ?_
  refine x_aload_n B hl dL_tip_3 rfl ?_
  refine x_iload_n B hl dL_tip_4 rfl ?_
  refine x_iload_n B hl dL_tip_5 rfl ?_
  refine x_iload_n B hl dL_tip_6 rfl ?_
  refine lx_call (rest := [.int (iI 0), .ref a]) (av := [.int (iI p0), .int (iI p1), .int (iI p2)]) E hK hC0 hl hM (cwV 3 hts gL_tip_X10_tip rfl rfl rfl (by decide +kernel) ⟨Nat.le_of_ble_eq_true rfl, Nat.le_of_ble_eq_true rfl⟩) rfl rfl (Nat.le_of_ble_eq_true rfl) dL_tip_7 ⟨Nat.le_of_ble_eq_true rfl, Nat.le_of_ble_eq_true rfl⟩ (fun h9 H1 locs q ce hC1 hS1 hce hcv hcl => ?_) (fun h9 H1 locs v la1 σ1 hp hC1 hS1 => ?_)
  · have hla : a < s.heap.size := by obtain ⟨f, hf⟩ := hout; exact (Array.getElem?_eq_some_iff.mp hf).1
    have hka : H1[a]? = s.heap[a]? := hS1.2.1 a hla hna
    have hout1 : outA cy a H1 := by obtain ⟨f, hf⟩ := hout; exact ⟨f, hka.trans hf⟩
    rcases hC with rfl | rfl | rfl | rfl
    · exact (h9 (by decide)).elim
    · refine lx_catch (k := 1) (pre := []) (x := (0, 12, 15, 19)) (suf := [(0, 12, 19, 21), (0, 12, 23, 13)]) E htab (fun z hz => by cases hz) ⟨by decide, by decide⟩ hNc rfl (by decide) (hts (.classLink RL 19 "java/lang/IndexOutOfBoundsException") (by decide +kernel)) (cTh_cast ⟨by decide, by decide⟩ hK.2.2.2.2.2.2.2) hce hcv hcl ?_
      refine x_astore B hl dL_tip_15 (by decide) (fun ls hl => ?_)
      refine x_iconst B dL_tip_17 ?_
      exact w_widen (k := 24) (n := 2100) (Nat.le_of_ble_eq_true rfl) (Nat.le_of_ble_eq_true rfl) (lx_iret E hr hlk hS1.aw dL_tip_18 rfl (Or.inr ⟨by decide, hC1, hout1⟩))
    · refine lx_catch (k := 2) (pre := [(0, 12, 15, 19)]) (x := (0, 12, 19, 21)) (suf := [(0, 12, 23, 13)]) E htab (fun z hz => by
          simp only [List.mem_cons, List.not_mem_nil, or_false] at hz
          rcases hz with rfl
          · exact ⟨1, ⟨by decide, by decide⟩, by decide, by decide, hts (.classLink RL 19 "java/lang/IndexOutOfBoundsException") (by decide +kernel)⟩) ⟨by decide, by decide⟩ hNc rfl (by decide) (hts (.classLink RL 21 "java/lang/IllegalArgumentException") (by decide +kernel)) (cTh_cast ⟨by decide, by decide⟩ hK.2.2.2.2.2.2.2) hce hcv hcl ?_
      refine x_astore B hl dL_tip_19 (by decide) (fun ls hl => ?_)
      refine x_iconst B dL_tip_21 ?_
      exact w_widen (k := 24) (n := 2100) (Nat.le_of_ble_eq_true rfl) (Nat.le_of_ble_eq_true rfl) (lx_iret E hr hlk hS1.aw dL_tip_22 rfl (Or.inr ⟨by decide, hC1, hout1⟩))
    · refine lx_catch (k := 3) (pre := [(0, 12, 15, 19), (0, 12, 19, 21)]) (x := (0, 12, 23, 13)) (suf := []) E htab (fun z hz => by
          simp only [List.mem_cons, List.not_mem_nil, or_false] at hz
          rcases hz with rfl | rfl
          · exact ⟨1, ⟨by decide, by decide⟩, by decide, by decide, hts (.classLink RL 19 "java/lang/IndexOutOfBoundsException") (by decide +kernel)⟩
          · exact ⟨2, ⟨by decide, by decide⟩, by decide, by decide, hts (.classLink RL 21 "java/lang/IllegalArgumentException") (by decide +kernel)⟩) ⟨by decide, by decide⟩ hNc rfl (by decide) (hts (.classLink RL 13 "java/lang/UnsupportedOperationException") (by decide +kernel)) (cTh_cast ⟨by decide, by decide⟩ hK.2.2.2.2.2.2.2) hce hcv hcl ?_
      refine x_astore B hl dL_tip_23 (by decide) (fun ls hl => ?_)
      refine x_iconst B dL_tip_25 ?_
      exact w_widen (k := 24) (n := 2100) (Nat.le_of_ble_eq_true rfl) (Nat.le_of_ble_eq_true rfl) (lx_iret E hr hlk hS1.aw dL_tip_26 rfl (Or.inr ⟨by decide, hC1, hout1⟩))
  · have hC0z : C = 0 := by
      rcases hC with rfl | rfl | rfl | rfl
      · rfl
      · exact absurd h9 (by decide)
      · exact absurd h9 (by decide)
      · exact absurd h9 (by decide)
    have hla : a < s.heap.size := by obtain ⟨f, hf⟩ := hout; exact (Array.getElem?_eq_some_iff.mp hf).1
    have hka : H1[a]? = s.heap[a]? := hS1.2.1 a hla hna
    have hout1 : outA cy a H1 := by obtain ⟨f, hf⟩ := hout; exact ⟨f, hka.trans hf⟩
    obtain ⟨r, rfl, hr9, hp9⟩ := hP hC0z _ _ _ hp
    refine x_i2l B dL_tip_10 hr9 ?_
    refine lx_last (r := r) E hout1 hS1.aw (Or.inr rfl) dL_tip_11 (fun H2 locs hv9 oq hS2 => ?_)
    have hC2 := hC1.kept (fun κ i b c => oq _ (fun z => hna (z ▸ hC1.2.2.2.2.1 κ i b c)))
    refine x_goto (tgt := 27) B dL_tip_12 (by decide) ?_
    refine x_iconst B dL_tip_27 ?_
    exact w_widen (k := 24) (n := 2100) (Nat.le_of_ble_eq_true rfl) (Nat.le_of_ble_eq_true rfl) (lx_iret E hr hlk hS2 dL_tip_28 hC0z.symm (Or.inl ⟨hC0z, _, _, _, hp9, hC2, hv9⟩))
set_option maxRecDepth 20000 in
set_option maxHeartbeats 4000000 in
theorem lw_wrong (l : Launch) (D : va_G) (cy : Nat → ClassId) (d0 : Nat) (A : Nat → Prop) (la : Nat → Int → Nat) (σ : MS) {a : Nat} {p0 : Int} {C : Int} {P : Option Value → (Nat → Int → Nat) → MS → Prop} {P' : Int → (Nat → Int → Nat) → MS → Prop} (hna : ¬ A a) (hM : CT l yX10_wrong wsX10_wrong ({ frames := 8, cells := 16, slots := 256, locals := 124 } : Room) D cy d0 A [.ref (la 0 0), .int (iI p0)] la σ (if C = 1 then 1 else (if C = 2 then 4 else (if C = 3 then 2 else 0))) P 16 256) (hC : C = 0 ∨ C = 1 ∨ C = 2 ∨ C = 3) (hP : C = 0 → ∀ v la' τ, P v la' τ → ∃ r : Int, v = some (.int (iI r)) ∧ (r = 0 ∨ r = 1) ∧ P' r la' τ) : LW l yL_wrong wsL_wrong ({ frames := 9, cells := 16, slots := 256, locals := 152 } : Room) D cy d0 A [.ref (la 0 0), .int (iI p0), .ref a] la σ a C P' 16 256 := by
  refine lx_of (D := D) (cy := cy) (cc := cL_wrong) (nL := 4) (ret := some .int) (hh := [(0, 16, 19, 19), (0, 16, 22, 73), (0, 16, 25, 21)]) (by decide) rfl (Nat.le_of_ble_eq_true rfl) (fun U h => h.2.1.1) ?_
  intro p e s m args below meth c ls E htab hr hlk hP0 hl
  obtain ⟨hC0, hK, hNc, hout⟩ := hP0
  have B := E.1
  have hts := E.2.2.2.1
  refine x_aload_n B hl dL_wrong_0 rfl ?_
  refine x_iconst B dL_wrong_1 ?_
  refine x_aload_n B hl dL_wrong_2 rfl ?_
  refine x_iload_n B hl dL_wrong_3 rfl ?_
  refine lx_call (rest := [.int (iI 0), .ref a]) (av := [.int (iI p0)]) E hK hC0 hl hM (cwV 1 hts gL_wrong_X10_wrong rfl rfl rfl (by decide +kernel) ⟨Nat.le_of_ble_eq_true rfl, Nat.le_of_ble_eq_true rfl⟩) rfl rfl (Nat.le_of_ble_eq_true rfl) dL_wrong_4 ⟨Nat.le_of_ble_eq_true rfl, Nat.le_of_ble_eq_true rfl⟩ (fun h9 H1 locs q ce hC1 hS1 hce hcv hcl => ?_) (fun h9 H1 locs v la1 σ1 hp hC1 hS1 => ?_)
  · have hla : a < s.heap.size := by obtain ⟨f, hf⟩ := hout; exact (Array.getElem?_eq_some_iff.mp hf).1
    have hka : H1[a]? = s.heap[a]? := hS1.2.1 a hla hna
    have hout1 : outA cy a H1 := by obtain ⟨f, hf⟩ := hout; exact ⟨f, hka.trans hf⟩
    rcases hC with rfl | rfl | rfl | rfl
    · exact (h9 (by decide)).elim
    · refine lx_catch (k := 1) (pre := []) (x := (0, 16, 19, 19)) (suf := [(0, 16, 22, 73), (0, 16, 25, 21)]) E htab (fun z hz => by cases hz) ⟨by decide, by decide⟩ hNc rfl (by decide) (hts (.classLink RL 19 "java/lang/IndexOutOfBoundsException") (by decide +kernel)) (cTh_cast ⟨by decide, by decide⟩ hK.2.2.2.2.2.2.2) hce hcv hcl ?_
      refine x_astore_n B hl dL_wrong_19 (by decide) (fun ls hl => ?_)
      refine x_iconst B dL_wrong_20 ?_
      exact w_widen (k := 16) (n := 256) (Nat.le_of_ble_eq_true rfl) (Nat.le_of_ble_eq_true rfl) (lx_iret E hr hlk hS1.aw dL_wrong_21 rfl (Or.inr ⟨by decide, hC1, hout1⟩))
    · refine lx_catch (k := 4) (pre := [(0, 16, 19, 19)]) (x := (0, 16, 22, 73)) (suf := [(0, 16, 25, 21)]) E htab (fun z hz => by
          simp only [List.mem_cons, List.not_mem_nil, or_false] at hz
          rcases hz with rfl
          · exact ⟨1, ⟨by decide, by decide⟩, by decide, by decide, hts (.classLink RL 19 "java/lang/IndexOutOfBoundsException") (by decide +kernel)⟩) ⟨by decide, by decide⟩ hNc rfl (by decide) (hts (.classLink RL 73 "java/util/NoSuchElementException") (by decide +kernel)) (cTh_cast ⟨by decide, by decide⟩ hK.2.2.2.2.2.2.2) hce hcv hcl ?_
      refine x_astore_n B hl dL_wrong_22 (by decide) (fun ls hl => ?_)
      refine x_iconst B dL_wrong_23 ?_
      exact w_widen (k := 16) (n := 256) (Nat.le_of_ble_eq_true rfl) (Nat.le_of_ble_eq_true rfl) (lx_iret E hr hlk hS1.aw dL_wrong_24 rfl (Or.inr ⟨by decide, hC1, hout1⟩))
    · refine lx_catch (k := 2) (pre := [(0, 16, 19, 19), (0, 16, 22, 73)]) (x := (0, 16, 25, 21)) (suf := []) E htab (fun z hz => by
          simp only [List.mem_cons, List.not_mem_nil, or_false] at hz
          rcases hz with rfl | rfl
          · exact ⟨1, ⟨by decide, by decide⟩, by decide, by decide, hts (.classLink RL 19 "java/lang/IndexOutOfBoundsException") (by decide +kernel)⟩
          · exact ⟨4, ⟨by decide, by decide⟩, by decide, by decide, hts (.classLink RL 73 "java/util/NoSuchElementException") (by decide +kernel)⟩) ⟨by decide, by decide⟩ hNc rfl (by decide) (hts (.classLink RL 21 "java/lang/IllegalArgumentException") (by decide +kernel)) (cTh_cast ⟨by decide, by decide⟩ hK.2.2.2.2.2.2.2) hce hcv hcl ?_
      refine x_astore_n B hl dL_wrong_25 (by decide) (fun ls hl => ?_)
      refine x_iconst B dL_wrong_26 ?_
      exact w_widen (k := 16) (n := 256) (Nat.le_of_ble_eq_true rfl) (Nat.le_of_ble_eq_true rfl) (lx_iret E hr hlk hS1.aw dL_wrong_27 rfl (Or.inr ⟨by decide, hC1, hout1⟩))
  · have hC0z : C = 0 := by
      rcases hC with rfl | rfl | rfl | rfl
      · rfl
      · exact absurd h9 (by decide)
      · exact absurd h9 (by decide)
      · exact absurd h9 (by decide)
    have hla : a < s.heap.size := by obtain ⟨f, hf⟩ := hout; exact (Array.getElem?_eq_some_iff.mp hf).1
    have hka : H1[a]? = s.heap[a]? := hS1.2.1 a hla hna
    have hout1 : outA cy a H1 := by obtain ⟨f, hf⟩ := hout; exact ⟨f, hka.trans hf⟩
    obtain ⟨r, rfl, hr9, hp9⟩ := hP hC0z _ _ _ hp
    rcases hr9 with rfl | rfl
    · refine x_if_eq_t (tgt := 14) B dL_wrong_7 (by decide) (by decide) ?_
      refine x_lconst B dL_wrong_14 ?_
      refine lx_last (r := 0) E hout1 hS1.aw (Or.inr rfl) dL_wrong_15 (fun H2 locs hv9 oq hS2 => ?_)
      have hC2 := hC1.kept (fun κ i b c => oq _ (fun z => hna (z ▸ hC1.2.2.2.2.1 κ i b c)))
      refine x_goto (tgt := 28) B dL_wrong_16 (by decide) ?_
      refine x_iconst B dL_wrong_28 ?_
      exact w_widen (k := 16) (n := 256) (Nat.le_of_ble_eq_true rfl) (Nat.le_of_ble_eq_true rfl) (lx_iret E hr hlk hS2 dL_wrong_29 hC0z.symm (Or.inl ⟨hC0z, _, _, _, hp9, hC2, hv9⟩))
    · refine x_if_eq_f (tgt := 14) B dL_wrong_7 (by decide) (by decide) ?_
      refine x_lconst B dL_wrong_10 ?_
      refine x_goto (tgt := 15) B dL_wrong_11 (by decide) ?_
      refine lx_last (r := 1) E hout1 hS1.aw (Or.inr rfl) dL_wrong_15 (fun H2 locs hv9 oq hS2 => ?_)
      have hC2 := hC1.kept (fun κ i b c => oq _ (fun z => hna (z ▸ hC1.2.2.2.2.1 κ i b c)))
      refine x_goto (tgt := 28) B dL_wrong_16 (by decide) ?_
      refine x_iconst B dL_wrong_28 ?_
      exact w_widen (k := 16) (n := 256) (Nat.le_of_ble_eq_true rfl) (Nat.le_of_ble_eq_true rfl) (lx_iret E hr hlk hS2 dL_wrong_29 hC0z.symm (Or.inl ⟨hC0z, _, _, _, hp9, hC2, hv9⟩))
set_option maxRecDepth 20000 in
set_option maxHeartbeats 4000000 in
theorem lw_gate (l : Launch) (D : va_G) (cy : Nat → ClassId) (d0 : Nat) (A : Nat → Prop) (la : Nat → Int → Nat) (σ : MS) {p0 p1 : Int} {C : Int} {P : Option Value → (Nat → Int → Nat) → MS → Prop} {P' : (Nat → Int → Nat) → MS → Prop} (hM : CT l yX10_gate wsX10_gate ({ frames := 8, cells := 16, slots := 256, locals := 124 } : Room) D cy d0 A [.ref (la 0 0), .int (iI p0), .int (iI p1)] la σ (if C = 1 then 1 else (if C = 2 then 2 else 0)) P 16 256) (hC : C = 0 ∨ C = 1 ∨ C = 2) (hP : C = 0 → ∀ v la' τ, P v la' τ → v = none ∧ P' la' τ) : LV l yL_gate wsL_gate ({ frames := 9, cells := 16, slots := 256, locals := 152 } : Room) D cy d0 A [.ref (la 0 0), .int (iI p0), .int (iI p1)] la σ C P' 16 256 := by
  refine lx_of (D := D) (cy := cy) (cc := cL_gate) (nL := 4) (ret := some .int) (hh := [(0, 6, 9, 19), (0, 6, 12, 21)]) (by decide) rfl (Nat.le_of_ble_eq_true rfl) (fun U h => h.2.1.1) ?_
  intro p e s m args below meth c ls E htab hr hlk hP0 hl
  obtain ⟨hC0, hK, hNc⟩ := hP0
  have B := E.1
  have hts := E.2.2.2.1
  refine x_aload_n B hl dL_gate_0 rfl ?_
  refine x_iload_n B hl dL_gate_1 rfl ?_
  refine x_iload_n B hl dL_gate_2 rfl ?_
  refine lx_call (rest := []) (av := [.int (iI p0), .int (iI p1)]) E hK hC0 hl hM (cwV 2 hts gL_gate_X10_gate rfl rfl rfl (by decide +kernel) ⟨Nat.le_of_ble_eq_true rfl, Nat.le_of_ble_eq_true rfl⟩) rfl rfl (Nat.le_of_ble_eq_true rfl) dL_gate_3 ⟨Nat.le_of_ble_eq_true rfl, Nat.le_of_ble_eq_true rfl⟩ (fun h9 H1 locs q ce hC1 hS1 hce hcv hcl => ?_) (fun h9 H1 locs v la1 σ1 hp hC1 hS1 => ?_)
  · rcases hC with rfl | rfl | rfl
    · exact (h9 (by decide)).elim
    · refine lx_catch (k := 1) (pre := []) (x := (0, 6, 9, 19)) (suf := [(0, 6, 12, 21)]) E htab (fun z hz => by cases hz) ⟨by decide, by decide⟩ hNc rfl (by decide) (hts (.classLink RL 19 "java/lang/IndexOutOfBoundsException") (by decide +kernel)) (cTh_cast ⟨by decide, by decide⟩ hK.2.2.2.2.2.2.2) hce hcv hcl ?_
      refine x_astore_n B hl dL_gate_9 (by decide) (fun ls hl => ?_)
      refine x_iconst B dL_gate_10 ?_
      exact w_widen (k := 16) (n := 256) (Nat.le_of_ble_eq_true rfl) (Nat.le_of_ble_eq_true rfl) (lx_iret E hr hlk hS1 dL_gate_11 rfl (Or.inr ⟨by decide, hC1⟩))
    · refine lx_catch (k := 2) (pre := [(0, 6, 9, 19)]) (x := (0, 6, 12, 21)) (suf := []) E htab (fun z hz => by
          simp only [List.mem_cons, List.not_mem_nil, or_false] at hz
          rcases hz with rfl
          · exact ⟨1, ⟨by decide, by decide⟩, by decide, by decide, hts (.classLink RL 19 "java/lang/IndexOutOfBoundsException") (by decide +kernel)⟩) ⟨by decide, by decide⟩ hNc rfl (by decide) (hts (.classLink RL 21 "java/lang/IllegalArgumentException") (by decide +kernel)) (cTh_cast ⟨by decide, by decide⟩ hK.2.2.2.2.2.2.2) hce hcv hcl ?_
      refine x_astore_n B hl dL_gate_12 (by decide) (fun ls hl => ?_)
      refine x_iconst B dL_gate_13 ?_
      exact w_widen (k := 16) (n := 256) (Nat.le_of_ble_eq_true rfl) (Nat.le_of_ble_eq_true rfl) (lx_iret E hr hlk hS1 dL_gate_14 rfl (Or.inr ⟨by decide, hC1⟩))
  · have hC0z : C = 0 := by
      rcases hC with rfl | rfl | rfl
      · rfl
      · exact absurd h9 (by decide)
      · exact absurd h9 (by decide)
    obtain ⟨rfl, hp9⟩ := hP hC0z _ _ _ hp
    refine x_goto (tgt := 15) B dL_gate_6 (by decide) ?_
    refine x_iconst B dL_gate_15 ?_
    exact w_widen (k := 16) (n := 256) (Nat.le_of_ble_eq_true rfl) (Nat.le_of_ble_eq_true rfl) (lx_iret E hr hlk hS1 dL_gate_16 hC0z.symm (Or.inl ⟨hC0z, _, _, hp9, hC1⟩))
set_option maxRecDepth 20000 in
set_option maxHeartbeats 4000000 in
theorem lw_close (l : Launch) (D : va_G) (cy : Nat → ClassId) (d0 : Nat) (A : Nat → Prop) (la : Nat → Int → Nat) (σ : MS) {a : Nat} {C : Int} {P : Option Value → (Nat → Int → Nat) → MS → Prop} {P' : Int → (Nat → Int → Nat) → MS → Prop} (hna : ¬ A a) (hM : CT l yX10_close wsX10_close ({ frames := 8, cells := 16, slots := 256, locals := 188 } : Room) D cy d0 A [.ref (la 0 0)] la σ (if C = 1 then 3 else 0) P 16 256) (hC : C = 0 ∨ C = 1) (hP : C = 0 → ∀ v la' τ, P v la' τ → ∃ r : Int, v = some (.int (iI r)) ∧ (-2147483648 ≤ r ∧ r < 2147483648) ∧ P' r la' τ) : LW l yL_close wsL_close ({ frames := 9, cells := 16, slots := 256, locals := 216 } : Room) D cy d0 A [.ref (la 0 0), .ref a] la σ a C P' 16 256 := by
  refine lx_of (D := D) (cy := cy) (cc := cL_close) (nL := 3) (ret := some .int) (hh := [(0, 8, 11, 13)]) (by decide) rfl (Nat.le_of_ble_eq_true rfl) (fun U h => h.2.1.1) ?_
  intro p e s m args below meth c ls E htab hr hlk hP0 hl
  obtain ⟨hC0, hK, hNc, hout⟩ := hP0
  have B := E.1
  have hts := E.2.2.2.1
  refine x_aload_n B hl dL_close_0 rfl ?_
  refine x_iconst B dL_close_1 ?_
  refine x_aload_n B hl dL_close_2 rfl ?_
  refine lx_call (rest := [.int (iI 0), .ref a]) (av := []) E hK hC0 hl hM (cwV 0 hts gL_close_X10_close rfl rfl rfl (by decide +kernel) ⟨Nat.le_of_ble_eq_true rfl, Nat.le_of_ble_eq_true rfl⟩) rfl rfl (Nat.le_of_ble_eq_true rfl) dL_close_3 ⟨Nat.le_of_ble_eq_true rfl, Nat.le_of_ble_eq_true rfl⟩ (fun h9 H1 locs q ce hC1 hS1 hce hcv hcl => ?_) (fun h9 H1 locs v la1 σ1 hp hC1 hS1 => ?_)
  · have hla : a < s.heap.size := by obtain ⟨f, hf⟩ := hout; exact (Array.getElem?_eq_some_iff.mp hf).1
    have hka : H1[a]? = s.heap[a]? := hS1.2.1 a hla hna
    have hout1 : outA cy a H1 := by obtain ⟨f, hf⟩ := hout; exact ⟨f, hka.trans hf⟩
    rcases hC with rfl | rfl
    · exact (h9 (by decide)).elim
    · refine lx_catch (k := 3) (pre := []) (x := (0, 8, 11, 13)) (suf := []) E htab (fun z hz => by cases hz) ⟨by decide, by decide⟩ hNc rfl (by decide) (hts (.classLink RL 13 "java/lang/UnsupportedOperationException") (by decide +kernel)) (cTh_cast ⟨by decide, by decide⟩ hK.2.2.2.2.2.2.2) hce hcv hcl ?_
      refine x_astore_n B hl dL_close_11 (by decide) (fun ls hl => ?_)
      refine x_iconst B dL_close_12 ?_
      exact w_widen (k := 16) (n := 256) (Nat.le_of_ble_eq_true rfl) (Nat.le_of_ble_eq_true rfl) (lx_iret E hr hlk hS1.aw dL_close_13 rfl (Or.inr ⟨by decide, hC1, hout1⟩))
  · have hC0z : C = 0 := by
      rcases hC with rfl | rfl
      · rfl
      · exact absurd h9 (by decide)
    have hla : a < s.heap.size := by obtain ⟨f, hf⟩ := hout; exact (Array.getElem?_eq_some_iff.mp hf).1
    have hka : H1[a]? = s.heap[a]? := hS1.2.1 a hla hna
    have hout1 : outA cy a H1 := by obtain ⟨f, hf⟩ := hout; exact ⟨f, hka.trans hf⟩
    obtain ⟨r, rfl, hr9, hp9⟩ := hP hC0z _ _ _ hp
    refine x_i2l B dL_close_6 hr9 ?_
    refine lx_last (r := r) E hout1 hS1.aw (Or.inr rfl) dL_close_7 (fun H2 locs hv9 oq hS2 => ?_)
    have hC2 := hC1.kept (fun κ i b c => oq _ (fun z => hna (z ▸ hC1.2.2.2.2.1 κ i b c)))
    refine x_goto (tgt := 14) B dL_close_8 (by decide) ?_
    refine x_iconst B dL_close_14 ?_
    exact w_widen (k := 16) (n := 256) (Nat.le_of_ble_eq_true rfl) (Nat.le_of_ble_eq_true rfl) (lx_iret E hr hlk hS2 dL_close_15 hC0z.symm (Or.inl ⟨hC0z, _, _, _, hp9, hC2, hv9⟩))
set_option maxRecDepth 20000 in
set_option maxHeartbeats 4000000 in
theorem lw_claim (l : Launch) (D : va_G) (cy : Nat → ClassId) (d0 : Nat) (A : Nat → Prop) (la : Nat → Int → Nat) (σ : MS) {a : Nat} {p0 p1 : Int} {C : Int} {P : Option Value → (Nat → Int → Nat) → MS → Prop} {P' : Int → (Nat → Int → Nat) → MS → Prop} (hna : ¬ A a) (hM : CT l yX10_claim wsX10_claim ({ frames := 8, cells := 16, slots := 256, locals := 188 } : Room) D cy d0 A [.ref (la 0 0), .int (iI p0), .int (iI p1)] la σ (if C = 1 then 1 else (if C = 2 then 4 else (if C = 3 then 2 else 0))) P 16 256) (hC : C = 0 ∨ C = 1 ∨ C = 2 ∨ C = 3) (hP : C = 0 → ∀ v la' τ, P v la' τ → ∃ r : Int, v = some (.long (lI r)) ∧ P' r la' τ) : LW l yL_claim wsL_claim ({ frames := 9, cells := 16, slots := 256, locals := 217 } : Room) D cy d0 A [.ref (la 0 0), .int (iI p0), .int (iI p1), .ref a] la σ a C P' 16 256 := by
  refine lx_of (D := D) (cy := cy) (cc := cL_claim) (nL := 5) (ret := some .int) (hh := [(0, 9, 12, 19), (0, 9, 16, 73), (0, 9, 20, 21)]) (by decide) rfl (Nat.le_of_ble_eq_true rfl) (fun U h => h.2.1.1) ?_
  intro p e s m args below meth c ls E htab hr hlk hP0 hl
  obtain ⟨hC0, hK, hNc, hout⟩ := hP0
  have B := E.1
  have hts := E.2.2.2.1
  refine x_aload_n B hl dL_claim_0 rfl ?_
  refine x_iconst B dL_claim_1 ?_
  refine x_aload_n B hl dL_claim_2 rfl ?_
  refine x_iload_n B hl dL_claim_3 rfl ?_
  refine x_iload_n B hl dL_claim_4 rfl ?_
  refine lx_call (rest := [.int (iI 0), .ref a]) (av := [.int (iI p0), .int (iI p1)]) E hK hC0 hl hM (cwV 2 hts gL_claim_X10_claim rfl rfl rfl (by decide +kernel) ⟨Nat.le_of_ble_eq_true rfl, Nat.le_of_ble_eq_true rfl⟩) rfl rfl (Nat.le_of_ble_eq_true rfl) dL_claim_5 ⟨Nat.le_of_ble_eq_true rfl, Nat.le_of_ble_eq_true rfl⟩ (fun h9 H1 locs q ce hC1 hS1 hce hcv hcl => ?_) (fun h9 H1 locs v la1 σ1 hp hC1 hS1 => ?_)
  · have hla : a < s.heap.size := by obtain ⟨f, hf⟩ := hout; exact (Array.getElem?_eq_some_iff.mp hf).1
    have hka : H1[a]? = s.heap[a]? := hS1.2.1 a hla hna
    have hout1 : outA cy a H1 := by obtain ⟨f, hf⟩ := hout; exact ⟨f, hka.trans hf⟩
    rcases hC with rfl | rfl | rfl | rfl
    · exact (h9 (by decide)).elim
    · refine lx_catch (k := 1) (pre := []) (x := (0, 9, 12, 19)) (suf := [(0, 9, 16, 73), (0, 9, 20, 21)]) E htab (fun z hz => by cases hz) ⟨by decide, by decide⟩ hNc rfl (by decide) (hts (.classLink RL 19 "java/lang/IndexOutOfBoundsException") (by decide +kernel)) (cTh_cast ⟨by decide, by decide⟩ hK.2.2.2.2.2.2.2) hce hcv hcl ?_
      refine x_astore B hl dL_claim_12 (by decide) (fun ls hl => ?_)
      refine x_iconst B dL_claim_14 ?_
      exact w_widen (k := 16) (n := 256) (Nat.le_of_ble_eq_true rfl) (Nat.le_of_ble_eq_true rfl) (lx_iret E hr hlk hS1.aw dL_claim_15 rfl (Or.inr ⟨by decide, hC1, hout1⟩))
    · refine lx_catch (k := 4) (pre := [(0, 9, 12, 19)]) (x := (0, 9, 16, 73)) (suf := [(0, 9, 20, 21)]) E htab (fun z hz => by
          simp only [List.mem_cons, List.not_mem_nil, or_false] at hz
          rcases hz with rfl
          · exact ⟨1, ⟨by decide, by decide⟩, by decide, by decide, hts (.classLink RL 19 "java/lang/IndexOutOfBoundsException") (by decide +kernel)⟩) ⟨by decide, by decide⟩ hNc rfl (by decide) (hts (.classLink RL 73 "java/util/NoSuchElementException") (by decide +kernel)) (cTh_cast ⟨by decide, by decide⟩ hK.2.2.2.2.2.2.2) hce hcv hcl ?_
      refine x_astore B hl dL_claim_16 (by decide) (fun ls hl => ?_)
      refine x_iconst B dL_claim_18 ?_
      exact w_widen (k := 16) (n := 256) (Nat.le_of_ble_eq_true rfl) (Nat.le_of_ble_eq_true rfl) (lx_iret E hr hlk hS1.aw dL_claim_19 rfl (Or.inr ⟨by decide, hC1, hout1⟩))
    · refine lx_catch (k := 2) (pre := [(0, 9, 12, 19), (0, 9, 16, 73)]) (x := (0, 9, 20, 21)) (suf := []) E htab (fun z hz => by
          simp only [List.mem_cons, List.not_mem_nil, or_false] at hz
          rcases hz with rfl | rfl
          · exact ⟨1, ⟨by decide, by decide⟩, by decide, by decide, hts (.classLink RL 19 "java/lang/IndexOutOfBoundsException") (by decide +kernel)⟩
          · exact ⟨4, ⟨by decide, by decide⟩, by decide, by decide, hts (.classLink RL 73 "java/util/NoSuchElementException") (by decide +kernel)⟩) ⟨by decide, by decide⟩ hNc rfl (by decide) (hts (.classLink RL 21 "java/lang/IllegalArgumentException") (by decide +kernel)) (cTh_cast ⟨by decide, by decide⟩ hK.2.2.2.2.2.2.2) hce hcv hcl ?_
      refine x_astore B hl dL_claim_20 (by decide) (fun ls hl => ?_)
      refine x_iconst B dL_claim_22 ?_
      exact w_widen (k := 16) (n := 256) (Nat.le_of_ble_eq_true rfl) (Nat.le_of_ble_eq_true rfl) (lx_iret E hr hlk hS1.aw dL_claim_23 rfl (Or.inr ⟨by decide, hC1, hout1⟩))
  · have hC0z : C = 0 := by
      rcases hC with rfl | rfl | rfl | rfl
      · rfl
      · exact absurd h9 (by decide)
      · exact absurd h9 (by decide)
      · exact absurd h9 (by decide)
    have hla : a < s.heap.size := by obtain ⟨f, hf⟩ := hout; exact (Array.getElem?_eq_some_iff.mp hf).1
    have hka : H1[a]? = s.heap[a]? := hS1.2.1 a hla hna
    have hout1 : outA cy a H1 := by obtain ⟨f, hf⟩ := hout; exact ⟨f, hka.trans hf⟩
    obtain ⟨r, rfl, hp9⟩ := hP hC0z _ _ _ hp
    refine lx_last (r := r) E hout1 hS1.aw (Or.inr rfl) dL_claim_8 (fun H2 locs hv9 oq hS2 => ?_)
    have hC2 := hC1.kept (fun κ i b c => oq _ (fun z => hna (z ▸ hC1.2.2.2.2.1 κ i b c)))
    refine x_goto (tgt := 24) B dL_claim_9 (by decide) ?_
    refine x_iconst B dL_claim_24 ?_
    exact w_widen (k := 16) (n := 256) (Nat.le_of_ble_eq_true rfl) (Nat.le_of_ble_eq_true rfl) (lx_iret E hr hlk hS2 dL_claim_25 hC0z.symm (Or.inl ⟨hC0z, _, _, _, hp9, hC2, hv9⟩))
set_option maxRecDepth 20000 in
set_option maxHeartbeats 4000000 in
theorem lw_weigh (l : Launch) (D : va_G) (cy : Nat → ClassId) (d0 : Nat) (A : Nat → Prop) (la : Nat → Int → Nat) (σ : MS) {a : Nat} {p0 p1 : Int} {C : Int} {P : Option Value → (Nat → Int → Nat) → MS → Prop} {P' : Int → (Nat → Int → Nat) → MS → Prop} (hna : ¬ A a) (hM : CT l yX10_weigh wsX10_weigh ({ frames := 8, cells := 16, slots := 256, locals := 165 } : Room) D cy d0 A [.ref (la 0 0), .int (iI p0), .int (iI p1)] la σ (if C = 1 then 1 else (if C = 2 then 4 else (if C = 3 then 2 else 0))) P 16 256) (hC : C = 0 ∨ C = 1 ∨ C = 2 ∨ C = 3) (hP : C = 0 → ∀ v la' τ, P v la' τ → ∃ r : Int, v = some (.int (iI r)) ∧ (-2147483648 ≤ r ∧ r < 2147483648) ∧ P' r la' τ) : LW l yL_weigh wsL_weigh ({ frames := 9, cells := 16, slots := 256, locals := 193 } : Room) D cy d0 A [.ref (la 0 0), .int (iI p0), .int (iI p1), .ref a] la σ a C P' 16 256 := by
  refine lx_of (D := D) (cy := cy) (cc := cL_weigh) (nL := 5) (ret := some .int) (hh := [(0, 10, 13, 19), (0, 10, 17, 73), (0, 10, 21, 21)]) (by decide) rfl (Nat.le_of_ble_eq_true rfl) (fun U h => h.2.1.1) ?_
  intro p e s m args below meth c ls E htab hr hlk hP0 hl
  obtain ⟨hC0, hK, hNc, hout⟩ := hP0
  have B := E.1
  have hts := E.2.2.2.1
  refine x_aload_n B hl dL_weigh_0 rfl ?_
  refine x_iconst B dL_weigh_1 ?_
  refine x_aload_n B hl dL_weigh_2 rfl ?_
  refine x_iload_n B hl dL_weigh_3 rfl ?_
  refine x_iload_n B hl dL_weigh_4 rfl ?_
  refine lx_call (rest := [.int (iI 0), .ref a]) (av := [.int (iI p0), .int (iI p1)]) E hK hC0 hl hM (cwV 2 hts gL_weigh_X10_weigh rfl rfl rfl (by decide +kernel) ⟨Nat.le_of_ble_eq_true rfl, Nat.le_of_ble_eq_true rfl⟩) rfl rfl (Nat.le_of_ble_eq_true rfl) dL_weigh_5 ⟨Nat.le_of_ble_eq_true rfl, Nat.le_of_ble_eq_true rfl⟩ (fun h9 H1 locs q ce hC1 hS1 hce hcv hcl => ?_) (fun h9 H1 locs v la1 σ1 hp hC1 hS1 => ?_)
  · have hla : a < s.heap.size := by obtain ⟨f, hf⟩ := hout; exact (Array.getElem?_eq_some_iff.mp hf).1
    have hka : H1[a]? = s.heap[a]? := hS1.2.1 a hla hna
    have hout1 : outA cy a H1 := by obtain ⟨f, hf⟩ := hout; exact ⟨f, hka.trans hf⟩
    rcases hC with rfl | rfl | rfl | rfl
    · exact (h9 (by decide)).elim
    · refine lx_catch (k := 1) (pre := []) (x := (0, 10, 13, 19)) (suf := [(0, 10, 17, 73), (0, 10, 21, 21)]) E htab (fun z hz => by cases hz) ⟨by decide, by decide⟩ hNc rfl (by decide) (hts (.classLink RL 19 "java/lang/IndexOutOfBoundsException") (by decide +kernel)) (cTh_cast ⟨by decide, by decide⟩ hK.2.2.2.2.2.2.2) hce hcv hcl ?_
      refine x_astore B hl dL_weigh_13 (by decide) (fun ls hl => ?_)
      refine x_iconst B dL_weigh_15 ?_
      exact w_widen (k := 16) (n := 256) (Nat.le_of_ble_eq_true rfl) (Nat.le_of_ble_eq_true rfl) (lx_iret E hr hlk hS1.aw dL_weigh_16 rfl (Or.inr ⟨by decide, hC1, hout1⟩))
    · refine lx_catch (k := 4) (pre := [(0, 10, 13, 19)]) (x := (0, 10, 17, 73)) (suf := [(0, 10, 21, 21)]) E htab (fun z hz => by
          simp only [List.mem_cons, List.not_mem_nil, or_false] at hz
          rcases hz with rfl
          · exact ⟨1, ⟨by decide, by decide⟩, by decide, by decide, hts (.classLink RL 19 "java/lang/IndexOutOfBoundsException") (by decide +kernel)⟩) ⟨by decide, by decide⟩ hNc rfl (by decide) (hts (.classLink RL 73 "java/util/NoSuchElementException") (by decide +kernel)) (cTh_cast ⟨by decide, by decide⟩ hK.2.2.2.2.2.2.2) hce hcv hcl ?_
      refine x_astore B hl dL_weigh_17 (by decide) (fun ls hl => ?_)
      refine x_iconst B dL_weigh_19 ?_
      exact w_widen (k := 16) (n := 256) (Nat.le_of_ble_eq_true rfl) (Nat.le_of_ble_eq_true rfl) (lx_iret E hr hlk hS1.aw dL_weigh_20 rfl (Or.inr ⟨by decide, hC1, hout1⟩))
    · refine lx_catch (k := 2) (pre := [(0, 10, 13, 19), (0, 10, 17, 73)]) (x := (0, 10, 21, 21)) (suf := []) E htab (fun z hz => by
          simp only [List.mem_cons, List.not_mem_nil, or_false] at hz
          rcases hz with rfl | rfl
          · exact ⟨1, ⟨by decide, by decide⟩, by decide, by decide, hts (.classLink RL 19 "java/lang/IndexOutOfBoundsException") (by decide +kernel)⟩
          · exact ⟨4, ⟨by decide, by decide⟩, by decide, by decide, hts (.classLink RL 73 "java/util/NoSuchElementException") (by decide +kernel)⟩) ⟨by decide, by decide⟩ hNc rfl (by decide) (hts (.classLink RL 21 "java/lang/IllegalArgumentException") (by decide +kernel)) (cTh_cast ⟨by decide, by decide⟩ hK.2.2.2.2.2.2.2) hce hcv hcl ?_
      refine x_astore B hl dL_weigh_21 (by decide) (fun ls hl => ?_)
      refine x_iconst B dL_weigh_23 ?_
      exact w_widen (k := 16) (n := 256) (Nat.le_of_ble_eq_true rfl) (Nat.le_of_ble_eq_true rfl) (lx_iret E hr hlk hS1.aw dL_weigh_24 rfl (Or.inr ⟨by decide, hC1, hout1⟩))
  · have hC0z : C = 0 := by
      rcases hC with rfl | rfl | rfl | rfl
      · rfl
      · exact absurd h9 (by decide)
      · exact absurd h9 (by decide)
      · exact absurd h9 (by decide)
    have hla : a < s.heap.size := by obtain ⟨f, hf⟩ := hout; exact (Array.getElem?_eq_some_iff.mp hf).1
    have hka : H1[a]? = s.heap[a]? := hS1.2.1 a hla hna
    have hout1 : outA cy a H1 := by obtain ⟨f, hf⟩ := hout; exact ⟨f, hka.trans hf⟩
    obtain ⟨r, rfl, hr9, hp9⟩ := hP hC0z _ _ _ hp
    refine x_i2l B dL_weigh_8 hr9 ?_
    refine lx_last (r := r) E hout1 hS1.aw (Or.inr rfl) dL_weigh_9 (fun H2 locs hv9 oq hS2 => ?_)
    have hC2 := hC1.kept (fun κ i b c => oq _ (fun z => hna (z ▸ hC1.2.2.2.2.1 κ i b c)))
    refine x_goto (tgt := 25) B dL_weigh_10 (by decide) ?_
    refine x_iconst B dL_weigh_25 ?_
    exact w_widen (k := 16) (n := 256) (Nat.le_of_ble_eq_true rfl) (Nat.le_of_ble_eq_true rfl) (lx_iret E hr hlk hS2 dL_weigh_26 hC0z.symm (Or.inl ⟨hC0z, _, _, _, hp9, hC2, hv9⟩))
set_option maxRecDepth 20000 in
set_option maxHeartbeats 4000000 in
theorem lw_look (l : Launch) (D : va_G) (cy : Nat → ClassId) (d0 : Nat) (A : Nat → Prop) (la : Nat → Int → Nat) (σ : MS) {a : Nat} {p0 p1 : Int} {C : Int} {P : Option Value → (Nat → Int → Nat) → MS → Prop} {P' : Int → (Nat → Int → Nat) → MS → Prop} (hna : ¬ A a) (hM : CT l yX10_look wsX10_look ({ frames := 8, cells := 16, slots := 256, locals := 124 } : Room) D cy d0 A [.ref (la 0 0), .int (iI p0), .int (iI p1)] la σ (if C = 1 then 1 else (if C = 2 then 4 else 0)) P 16 256) (hC : C = 0 ∨ C = 1 ∨ C = 2) (hP : C = 0 → ∀ v la' τ, P v la' τ → ∃ r : Int, v = some (.int (iI r)) ∧ (-2147483648 ≤ r ∧ r < 2147483648) ∧ P' r la' τ) : LW l yL_look wsL_look ({ frames := 9, cells := 16, slots := 256, locals := 152 } : Room) D cy d0 A [.ref (la 0 0), .int (iI p0), .int (iI p1), .ref a] la σ a C P' 16 256 := by
  refine lx_of (D := D) (cy := cy) (cc := cL_look) (nL := 5) (ret := some .int) (hh := [(0, 10, 13, 19), (0, 10, 17, 73)]) (by decide) rfl (Nat.le_of_ble_eq_true rfl) (fun U h => h.2.1.1) ?_
  intro p e s m args below meth c ls E htab hr hlk hP0 hl
  obtain ⟨hC0, hK, hNc, hout⟩ := hP0
  have B := E.1
  have hts := E.2.2.2.1
  refine x_aload_n B hl dL_look_0 rfl ?_
  refine x_iconst B dL_look_1 ?_
  refine x_aload_n B hl dL_look_2 rfl ?_
  refine x_iload_n B hl dL_look_3 rfl ?_
  refine x_iload_n B hl dL_look_4 rfl ?_
  refine lx_call (rest := [.int (iI 0), .ref a]) (av := [.int (iI p0), .int (iI p1)]) E hK hC0 hl hM (cwV 2 hts gL_look_X10_look rfl rfl rfl (by decide +kernel) ⟨Nat.le_of_ble_eq_true rfl, Nat.le_of_ble_eq_true rfl⟩) rfl rfl (Nat.le_of_ble_eq_true rfl) dL_look_5 ⟨Nat.le_of_ble_eq_true rfl, Nat.le_of_ble_eq_true rfl⟩ (fun h9 H1 locs q ce hC1 hS1 hce hcv hcl => ?_) (fun h9 H1 locs v la1 σ1 hp hC1 hS1 => ?_)
  · have hla : a < s.heap.size := by obtain ⟨f, hf⟩ := hout; exact (Array.getElem?_eq_some_iff.mp hf).1
    have hka : H1[a]? = s.heap[a]? := hS1.2.1 a hla hna
    have hout1 : outA cy a H1 := by obtain ⟨f, hf⟩ := hout; exact ⟨f, hka.trans hf⟩
    rcases hC with rfl | rfl | rfl
    · exact (h9 (by decide)).elim
    · refine lx_catch (k := 1) (pre := []) (x := (0, 10, 13, 19)) (suf := [(0, 10, 17, 73)]) E htab (fun z hz => by cases hz) ⟨by decide, by decide⟩ hNc rfl (by decide) (hts (.classLink RL 19 "java/lang/IndexOutOfBoundsException") (by decide +kernel)) (cTh_cast ⟨by decide, by decide⟩ hK.2.2.2.2.2.2.2) hce hcv hcl ?_
      refine x_astore B hl dL_look_13 (by decide) (fun ls hl => ?_)
      refine x_iconst B dL_look_15 ?_
      exact w_widen (k := 16) (n := 256) (Nat.le_of_ble_eq_true rfl) (Nat.le_of_ble_eq_true rfl) (lx_iret E hr hlk hS1.aw dL_look_16 rfl (Or.inr ⟨by decide, hC1, hout1⟩))
    · refine lx_catch (k := 4) (pre := [(0, 10, 13, 19)]) (x := (0, 10, 17, 73)) (suf := []) E htab (fun z hz => by
          simp only [List.mem_cons, List.not_mem_nil, or_false] at hz
          rcases hz with rfl
          · exact ⟨1, ⟨by decide, by decide⟩, by decide, by decide, hts (.classLink RL 19 "java/lang/IndexOutOfBoundsException") (by decide +kernel)⟩) ⟨by decide, by decide⟩ hNc rfl (by decide) (hts (.classLink RL 73 "java/util/NoSuchElementException") (by decide +kernel)) (cTh_cast ⟨by decide, by decide⟩ hK.2.2.2.2.2.2.2) hce hcv hcl ?_
      refine x_astore B hl dL_look_17 (by decide) (fun ls hl => ?_)
      refine x_iconst B dL_look_19 ?_
      exact w_widen (k := 16) (n := 256) (Nat.le_of_ble_eq_true rfl) (Nat.le_of_ble_eq_true rfl) (lx_iret E hr hlk hS1.aw dL_look_20 rfl (Or.inr ⟨by decide, hC1, hout1⟩))
  · have hC0z : C = 0 := by
      rcases hC with rfl | rfl | rfl
      · rfl
      · exact absurd h9 (by decide)
      · exact absurd h9 (by decide)
    have hla : a < s.heap.size := by obtain ⟨f, hf⟩ := hout; exact (Array.getElem?_eq_some_iff.mp hf).1
    have hka : H1[a]? = s.heap[a]? := hS1.2.1 a hla hna
    have hout1 : outA cy a H1 := by obtain ⟨f, hf⟩ := hout; exact ⟨f, hka.trans hf⟩
    obtain ⟨r, rfl, hr9, hp9⟩ := hP hC0z _ _ _ hp
    refine x_i2l B dL_look_8 hr9 ?_
    refine lx_last (r := r) E hout1 hS1.aw (Or.inr rfl) dL_look_9 (fun H2 locs hv9 oq hS2 => ?_)
    have hC2 := hC1.kept (fun κ i b c => oq _ (fun z => hna (z ▸ hC1.2.2.2.2.1 κ i b c)))
    refine x_goto (tgt := 21) B dL_look_10 (by decide) ?_
    refine x_iconst B dL_look_21 ?_
    exact w_widen (k := 16) (n := 256) (Nat.le_of_ble_eq_true rfl) (Nat.le_of_ble_eq_true rfl) (lx_iret E hr hlk hS2 dL_look_22 hC0z.symm (Or.inl ⟨hC0z, _, _, _, hp9, hC2, hv9⟩))
set_option maxRecDepth 20000 in
set_option maxHeartbeats 4000000 in
theorem lw_charge (l : Launch) (D : va_G) (cy : Nat → ClassId) (d0 : Nat) (A : Nat → Prop) (la : Nat → Int → Nat) (σ : MS) {a : Nat} {p0 : Int} {C : Int} {P : Option Value → (Nat → Int → Nat) → MS → Prop} {P' : Int → (Nat → Int → Nat) → MS → Prop} (hna : ¬ A a) (hM : CT l yX10_charge wsX10_charge ({ frames := 8, cells := 16, slots := 256, locals := 141 } : Room) D cy d0 A [.ref (la 0 0), .int (iI p0)] la σ (if C = 1 then 1 else 0) P 16 256) (hC : C = 0 ∨ C = 1) (hP : C = 0 → ∀ v la' τ, P v la' τ → ∃ r : Int, v = some (.long (lI r)) ∧ P' r la' τ) : LW l yL_charge wsL_charge ({ frames := 9, cells := 16, slots := 256, locals := 168 } : Room) D cy d0 A [.ref (la 0 0), .int (iI p0), .ref a] la σ a C P' 16 256 := by
  refine lx_of (D := D) (cy := cy) (cc := cL_charge) (nL := 4) (ret := some .int) (hh := [(0, 8, 11, 19)]) (by decide) rfl (Nat.le_of_ble_eq_true rfl) (fun U h => h.2.1.1) ?_
  intro p e s m args below meth c ls E htab hr hlk hP0 hl
  obtain ⟨hC0, hK, hNc, hout⟩ := hP0
  have B := E.1
  have hts := E.2.2.2.1
  refine x_aload_n B hl dL_charge_0 rfl ?_
  refine x_iconst B dL_charge_1 ?_
  refine x_aload_n B hl dL_charge_2 rfl ?_
  refine x_iload_n B hl dL_charge_3 rfl ?_
  refine lx_call (rest := [.int (iI 0), .ref a]) (av := [.int (iI p0)]) E hK hC0 hl hM (cwV 1 hts gL_charge_X10_charge rfl rfl rfl (by decide +kernel) ⟨Nat.le_of_ble_eq_true rfl, Nat.le_of_ble_eq_true rfl⟩) rfl rfl (Nat.le_of_ble_eq_true rfl) dL_charge_4 ⟨Nat.le_of_ble_eq_true rfl, Nat.le_of_ble_eq_true rfl⟩ (fun h9 H1 locs q ce hC1 hS1 hce hcv hcl => ?_) (fun h9 H1 locs v la1 σ1 hp hC1 hS1 => ?_)
  · have hla : a < s.heap.size := by obtain ⟨f, hf⟩ := hout; exact (Array.getElem?_eq_some_iff.mp hf).1
    have hka : H1[a]? = s.heap[a]? := hS1.2.1 a hla hna
    have hout1 : outA cy a H1 := by obtain ⟨f, hf⟩ := hout; exact ⟨f, hka.trans hf⟩
    rcases hC with rfl | rfl
    · exact (h9 (by decide)).elim
    · refine lx_catch (k := 1) (pre := []) (x := (0, 8, 11, 19)) (suf := []) E htab (fun z hz => by cases hz) ⟨by decide, by decide⟩ hNc rfl (by decide) (hts (.classLink RL 19 "java/lang/IndexOutOfBoundsException") (by decide +kernel)) (cTh_cast ⟨by decide, by decide⟩ hK.2.2.2.2.2.2.2) hce hcv hcl ?_
      refine x_astore_n B hl dL_charge_11 (by decide) (fun ls hl => ?_)
      refine x_iconst B dL_charge_12 ?_
      exact w_widen (k := 16) (n := 256) (Nat.le_of_ble_eq_true rfl) (Nat.le_of_ble_eq_true rfl) (lx_iret E hr hlk hS1.aw dL_charge_13 rfl (Or.inr ⟨by decide, hC1, hout1⟩))
  · have hC0z : C = 0 := by
      rcases hC with rfl | rfl
      · rfl
      · exact absurd h9 (by decide)
    have hla : a < s.heap.size := by obtain ⟨f, hf⟩ := hout; exact (Array.getElem?_eq_some_iff.mp hf).1
    have hka : H1[a]? = s.heap[a]? := hS1.2.1 a hla hna
    have hout1 : outA cy a H1 := by obtain ⟨f, hf⟩ := hout; exact ⟨f, hka.trans hf⟩
    obtain ⟨r, rfl, hp9⟩ := hP hC0z _ _ _ hp
    refine lx_last (r := r) E hout1 hS1.aw (Or.inr rfl) dL_charge_7 (fun H2 locs hv9 oq hS2 => ?_)
    have hC2 := hC1.kept (fun κ i b c => oq _ (fun z => hna (z ▸ hC1.2.2.2.2.1 κ i b c)))
    refine x_goto (tgt := 14) B dL_charge_8 (by decide) ?_
    refine x_iconst B dL_charge_14 ?_
    exact w_widen (k := 16) (n := 256) (Nat.le_of_ble_eq_true rfl) (Nat.le_of_ble_eq_true rfl) (lx_iret E hr hlk hS2 dL_charge_15 hC0z.symm (Or.inl ⟨hC0z, _, _, _, hp9, hC2, hv9⟩))
set_option maxRecDepth 20000 in
set_option maxHeartbeats 4000000 in
theorem lw_share (l : Launch) (D : va_G) (cy : Nat → ClassId) (d0 : Nat) (A : Nat → Prop) (la : Nat → Int → Nat) (σ : MS) {a : Nat} {p0 p1 : Int} {C : Int} {P : Option Value → (Nat → Int → Nat) → MS → Prop} {P' : Int → (Nat → Int → Nat) → MS → Prop} (hna : ¬ A a) (hM : CT l yX10_share wsX10_share ({ frames := 8, cells := 16, slots := 256, locals := 141 } : Room) D cy d0 A [.ref (la 0 0), .int (iI p0), .int (iI p1)] la σ (if C = 1 then 1 else 0) P 16 256) (hC : C = 0 ∨ C = 1) (hP : C = 0 → ∀ v la' τ, P v la' τ → ∃ r : Int, v = some (.long (lI r)) ∧ P' r la' τ) : LW l yL_share wsL_share ({ frames := 9, cells := 16, slots := 256, locals := 170 } : Room) D cy d0 A [.ref (la 0 0), .int (iI p0), .int (iI p1), .ref a] la σ a C P' 16 256 := by
  refine lx_of (D := D) (cy := cy) (cc := cL_share) (nL := 5) (ret := some .int) (hh := [(0, 9, 12, 19)]) (by decide) rfl (Nat.le_of_ble_eq_true rfl) (fun U h => h.2.1.1) ?_
  intro p e s m args below meth c ls E htab hr hlk hP0 hl
  obtain ⟨hC0, hK, hNc, hout⟩ := hP0
  have B := E.1
  have hts := E.2.2.2.1
  refine x_aload_n B hl dL_share_0 rfl ?_
  refine x_iconst B dL_share_1 ?_
  refine x_aload_n B hl dL_share_2 rfl ?_
  refine x_iload_n B hl dL_share_3 rfl ?_
  refine x_iload_n B hl dL_share_4 rfl ?_
  refine lx_call (rest := [.int (iI 0), .ref a]) (av := [.int (iI p0), .int (iI p1)]) E hK hC0 hl hM (cwV 2 hts gL_share_X10_share rfl rfl rfl (by decide +kernel) ⟨Nat.le_of_ble_eq_true rfl, Nat.le_of_ble_eq_true rfl⟩) rfl rfl (Nat.le_of_ble_eq_true rfl) dL_share_5 ⟨Nat.le_of_ble_eq_true rfl, Nat.le_of_ble_eq_true rfl⟩ (fun h9 H1 locs q ce hC1 hS1 hce hcv hcl => ?_) (fun h9 H1 locs v la1 σ1 hp hC1 hS1 => ?_)
  · have hla : a < s.heap.size := by obtain ⟨f, hf⟩ := hout; exact (Array.getElem?_eq_some_iff.mp hf).1
    have hka : H1[a]? = s.heap[a]? := hS1.2.1 a hla hna
    have hout1 : outA cy a H1 := by obtain ⟨f, hf⟩ := hout; exact ⟨f, hka.trans hf⟩
    rcases hC with rfl | rfl
    · exact (h9 (by decide)).elim
    · refine lx_catch (k := 1) (pre := []) (x := (0, 9, 12, 19)) (suf := []) E htab (fun z hz => by cases hz) ⟨by decide, by decide⟩ hNc rfl (by decide) (hts (.classLink RL 19 "java/lang/IndexOutOfBoundsException") (by decide +kernel)) (cTh_cast ⟨by decide, by decide⟩ hK.2.2.2.2.2.2.2) hce hcv hcl ?_
      refine x_astore B hl dL_share_12 (by decide) (fun ls hl => ?_)
      refine x_iconst B dL_share_14 ?_
      exact w_widen (k := 16) (n := 256) (Nat.le_of_ble_eq_true rfl) (Nat.le_of_ble_eq_true rfl) (lx_iret E hr hlk hS1.aw dL_share_15 rfl (Or.inr ⟨by decide, hC1, hout1⟩))
  · have hC0z : C = 0 := by
      rcases hC with rfl | rfl
      · rfl
      · exact absurd h9 (by decide)
    have hla : a < s.heap.size := by obtain ⟨f, hf⟩ := hout; exact (Array.getElem?_eq_some_iff.mp hf).1
    have hka : H1[a]? = s.heap[a]? := hS1.2.1 a hla hna
    have hout1 : outA cy a H1 := by obtain ⟨f, hf⟩ := hout; exact ⟨f, hka.trans hf⟩
    obtain ⟨r, rfl, hp9⟩ := hP hC0z _ _ _ hp
    refine lx_last (r := r) E hout1 hS1.aw (Or.inr rfl) dL_share_8 (fun H2 locs hv9 oq hS2 => ?_)
    have hC2 := hC1.kept (fun κ i b c => oq _ (fun z => hna (z ▸ hC1.2.2.2.2.1 κ i b c)))
    refine x_goto (tgt := 16) B dL_share_9 (by decide) ?_
    refine x_iconst B dL_share_16 ?_
    exact w_widen (k := 16) (n := 256) (Nat.le_of_ble_eq_true rfl) (Nat.le_of_ble_eq_true rfl) (lx_iret E hr hlk hS2 dL_share_17 hC0z.symm (Or.inl ⟨hC0z, _, _, _, hp9, hC2, hv9⟩))
set_option maxRecDepth 20000 in
set_option maxHeartbeats 4000000 in
theorem lw_charged (l : Launch) (D : va_G) (cy : Nat → ClassId) (d0 : Nat) (A : Nat → Prop) (la : Nat → Int → Nat) (σ : MS) {a : Nat} {p0 : Int} {C : Int} {P : Option Value → (Nat → Int → Nat) → MS → Prop} {P' : Int → (Nat → Int → Nat) → MS → Prop} (hna : ¬ A a) (hM : CT l yX10_charged wsX10_charged ({ frames := 8, cells := 16, slots := 256, locals := 124 } : Room) D cy d0 A [.ref (la 0 0), .int (iI p0)] la σ (if C = 1 then 1 else 0) P 16 256) (hC : C = 0 ∨ C = 1) (hP : C = 0 → ∀ v la' τ, P v la' τ → ∃ r : Int, v = some (.long (lI r)) ∧ P' r la' τ) : LW l yL_charged wsL_charged ({ frames := 9, cells := 16, slots := 256, locals := 150 } : Room) D cy d0 A [.ref (la 0 0), .int (iI p0), .ref a] la σ a C P' 16 256 := by
  refine lx_of (D := D) (cy := cy) (cc := cL_charged) (nL := 4) (ret := some .int) (hh := [(0, 8, 11, 19)]) (by decide) rfl (Nat.le_of_ble_eq_true rfl) (fun U h => h.2.1.1) ?_
  intro p e s m args below meth c ls E htab hr hlk hP0 hl
  obtain ⟨hC0, hK, hNc, hout⟩ := hP0
  have B := E.1
  have hts := E.2.2.2.1
  refine x_aload_n B hl dL_charged_0 rfl ?_
  refine x_iconst B dL_charged_1 ?_
  refine x_aload_n B hl dL_charged_2 rfl ?_
  refine x_iload_n B hl dL_charged_3 rfl ?_
  refine lx_call (rest := [.int (iI 0), .ref a]) (av := [.int (iI p0)]) E hK hC0 hl hM (cwV 1 hts gL_charged_X10_charged rfl rfl rfl (by decide +kernel) ⟨Nat.le_of_ble_eq_true rfl, Nat.le_of_ble_eq_true rfl⟩) rfl rfl (Nat.le_of_ble_eq_true rfl) dL_charged_4 ⟨Nat.le_of_ble_eq_true rfl, Nat.le_of_ble_eq_true rfl⟩ (fun h9 H1 locs q ce hC1 hS1 hce hcv hcl => ?_) (fun h9 H1 locs v la1 σ1 hp hC1 hS1 => ?_)
  · have hla : a < s.heap.size := by obtain ⟨f, hf⟩ := hout; exact (Array.getElem?_eq_some_iff.mp hf).1
    have hka : H1[a]? = s.heap[a]? := hS1.2.1 a hla hna
    have hout1 : outA cy a H1 := by obtain ⟨f, hf⟩ := hout; exact ⟨f, hka.trans hf⟩
    rcases hC with rfl | rfl
    · exact (h9 (by decide)).elim
    · refine lx_catch (k := 1) (pre := []) (x := (0, 8, 11, 19)) (suf := []) E htab (fun z hz => by cases hz) ⟨by decide, by decide⟩ hNc rfl (by decide) (hts (.classLink RL 19 "java/lang/IndexOutOfBoundsException") (by decide +kernel)) (cTh_cast ⟨by decide, by decide⟩ hK.2.2.2.2.2.2.2) hce hcv hcl ?_
      refine x_astore_n B hl dL_charged_11 (by decide) (fun ls hl => ?_)
      refine x_iconst B dL_charged_12 ?_
      exact w_widen (k := 16) (n := 256) (Nat.le_of_ble_eq_true rfl) (Nat.le_of_ble_eq_true rfl) (lx_iret E hr hlk hS1.aw dL_charged_13 rfl (Or.inr ⟨by decide, hC1, hout1⟩))
  · have hC0z : C = 0 := by
      rcases hC with rfl | rfl
      · rfl
      · exact absurd h9 (by decide)
    have hla : a < s.heap.size := by obtain ⟨f, hf⟩ := hout; exact (Array.getElem?_eq_some_iff.mp hf).1
    have hka : H1[a]? = s.heap[a]? := hS1.2.1 a hla hna
    have hout1 : outA cy a H1 := by obtain ⟨f, hf⟩ := hout; exact ⟨f, hka.trans hf⟩
    obtain ⟨r, rfl, hp9⟩ := hP hC0z _ _ _ hp
    refine lx_last (r := r) E hout1 hS1.aw (Or.inr rfl) dL_charged_7 (fun H2 locs hv9 oq hS2 => ?_)
    have hC2 := hC1.kept (fun κ i b c => oq _ (fun z => hna (z ▸ hC1.2.2.2.2.1 κ i b c)))
    refine x_goto (tgt := 14) B dL_charged_8 (by decide) ?_
    refine x_iconst B dL_charged_14 ?_
    exact w_widen (k := 16) (n := 256) (Nat.le_of_ble_eq_true rfl) (Nat.le_of_ble_eq_true rfl) (lx_iret E hr hlk hS2 dL_charged_15 hC0z.symm (Or.inl ⟨hC0z, _, _, _, hp9, hC2, hv9⟩))
set_option maxRecDepth 20000 in
set_option maxHeartbeats 4000000 in
theorem lw_bill (l : Launch) (D : va_G) (cy : Nat → ClassId) (d0 : Nat) (A : Nat → Prop) (la : Nat → Int → Nat) (σ : MS) {a : Nat} {p0 : Int} {C : Int} {P : Option Value → (Nat → Int → Nat) → MS → Prop} {P' : Int → (Nat → Int → Nat) → MS → Prop} (hna : ¬ A a) (hM : CT l yX10_bill wsX10_bill ({ frames := 8, cells := 16, slots := 256, locals := 124 } : Room) D cy d0 A [.ref (la 0 0), .int (iI p0)] la σ (if C = 1 then 1 else 0) P 16 256) (hC : C = 0 ∨ C = 1) (hP : C = 0 → ∀ v la' τ, P v la' τ → ∃ r : Int, v = some (.long (lI r)) ∧ P' r la' τ) : LW l yL_bill wsL_bill ({ frames := 9, cells := 16, slots := 256, locals := 153 } : Room) D cy d0 A [.ref (la 0 0), .int (iI p0), .ref a] la σ a C P' 16 256 := by
  refine lx_of (D := D) (cy := cy) (cc := cL_bill) (nL := 4) (ret := some .int) (hh := [(0, 8, 11, 19)]) (by decide) rfl (Nat.le_of_ble_eq_true rfl) (fun U h => h.2.1.1) ?_
  intro p e s m args below meth c ls E htab hr hlk hP0 hl
  obtain ⟨hC0, hK, hNc, hout⟩ := hP0
  have B := E.1
  have hts := E.2.2.2.1
  refine x_aload_n B hl dL_bill_0 rfl ?_
  refine x_iconst B dL_bill_1 ?_
  refine x_aload_n B hl dL_bill_2 rfl ?_
  refine x_iload_n B hl dL_bill_3 rfl ?_
  refine lx_call (rest := [.int (iI 0), .ref a]) (av := [.int (iI p0)]) E hK hC0 hl hM (cwV 1 hts gL_bill_X10_bill rfl rfl rfl (by decide +kernel) ⟨Nat.le_of_ble_eq_true rfl, Nat.le_of_ble_eq_true rfl⟩) rfl rfl (Nat.le_of_ble_eq_true rfl) dL_bill_4 ⟨Nat.le_of_ble_eq_true rfl, Nat.le_of_ble_eq_true rfl⟩ (fun h9 H1 locs q ce hC1 hS1 hce hcv hcl => ?_) (fun h9 H1 locs v la1 σ1 hp hC1 hS1 => ?_)
  · have hla : a < s.heap.size := by obtain ⟨f, hf⟩ := hout; exact (Array.getElem?_eq_some_iff.mp hf).1
    have hka : H1[a]? = s.heap[a]? := hS1.2.1 a hla hna
    have hout1 : outA cy a H1 := by obtain ⟨f, hf⟩ := hout; exact ⟨f, hka.trans hf⟩
    rcases hC with rfl | rfl
    · exact (h9 (by decide)).elim
    · refine lx_catch (k := 1) (pre := []) (x := (0, 8, 11, 19)) (suf := []) E htab (fun z hz => by cases hz) ⟨by decide, by decide⟩ hNc rfl (by decide) (hts (.classLink RL 19 "java/lang/IndexOutOfBoundsException") (by decide +kernel)) (cTh_cast ⟨by decide, by decide⟩ hK.2.2.2.2.2.2.2) hce hcv hcl ?_
      refine x_astore_n B hl dL_bill_11 (by decide) (fun ls hl => ?_)
      refine x_iconst B dL_bill_12 ?_
      exact w_widen (k := 16) (n := 256) (Nat.le_of_ble_eq_true rfl) (Nat.le_of_ble_eq_true rfl) (lx_iret E hr hlk hS1.aw dL_bill_13 rfl (Or.inr ⟨by decide, hC1, hout1⟩))
  · have hC0z : C = 0 := by
      rcases hC with rfl | rfl
      · rfl
      · exact absurd h9 (by decide)
    have hla : a < s.heap.size := by obtain ⟨f, hf⟩ := hout; exact (Array.getElem?_eq_some_iff.mp hf).1
    have hka : H1[a]? = s.heap[a]? := hS1.2.1 a hla hna
    have hout1 : outA cy a H1 := by obtain ⟨f, hf⟩ := hout; exact ⟨f, hka.trans hf⟩
    obtain ⟨r, rfl, hp9⟩ := hP hC0z _ _ _ hp
    refine lx_last (r := r) E hout1 hS1.aw (Or.inr rfl) dL_bill_7 (fun H2 locs hv9 oq hS2 => ?_)
    have hC2 := hC1.kept (fun κ i b c => oq _ (fun z => hna (z ▸ hC1.2.2.2.2.1 κ i b c)))
    refine x_goto (tgt := 14) B dL_bill_8 (by decide) ?_
    refine x_iconst B dL_bill_14 ?_
    exact w_widen (k := 16) (n := 256) (Nat.le_of_ble_eq_true rfl) (Nat.le_of_ble_eq_true rfl) (lx_iret E hr hlk hS2 dL_bill_15 hC0z.symm (Or.inl ⟨hC0z, _, _, _, hp9, hC2, hv9⟩))
set_option maxRecDepth 20000 in
set_option maxHeartbeats 4000000 in
theorem lw_pay (l : Launch) (D : va_G) (cy : Nat → ClassId) (d0 : Nat) (A : Nat → Prop) (la : Nat → Int → Nat) (σ : MS) {a : Nat} {p0 p1 : Int} {C : Int} {P : Option Value → (Nat → Int → Nat) → MS → Prop} {P' : Int → (Nat → Int → Nat) → MS → Prop} (hna : ¬ A a) (hM : CT l yX10_pay wsX10_pay ({ frames := 8, cells := 16, slots := 256, locals := 124 } : Room) D cy d0 A [.ref (la 0 0), .int (iI p0), .long (lI p1)] la σ (if C = 1 then 1 else (if C = 2 then 2 else 0)) P 16 256) (hC : C = 0 ∨ C = 1 ∨ C = 2) (hP : C = 0 → ∀ v la' τ, P v la' τ → ∃ r : Int, v = some (.long (lI r)) ∧ P' r la' τ) : LW l yL_pay wsL_pay ({ frames := 9, cells := 16, slots := 256, locals := 153 } : Room) D cy d0 A [.ref (la 0 0), .int (iI p0), .long (lI p1), .ref a] la σ a C P' 16 256 := by
  refine lx_of (D := D) (cy := cy) (cc := cL_pay) (nL := 6) (ret := some .int) (hh := [(0, 10, 13, 19), (0, 10, 17, 21)]) (by decide) rfl (Nat.le_of_ble_eq_true rfl) (fun U h => h.2.1.1) ?_
  intro p e s m args below meth c ls E htab hr hlk hP0 hl
  obtain ⟨hC0, hK, hNc, hout⟩ := hP0
  have B := E.1
  have hts := E.2.2.2.1
  refine x_aload B hl dL_pay_0 rfl ?_
  refine x_iconst B dL_pay_2 ?_
  refine x_aload_n B hl dL_pay_3 rfl ?_
  refine x_iload_n B hl dL_pay_4 rfl ?_
  refine x_lload_n B hl dL_pay_5 rfl ?_
  refine lx_call (rest := [.int (iI 0), .ref a]) (av := [.int (iI p0), .long (lI p1)]) E hK hC0 hl hM (cwV 2 hts gL_pay_X10_pay rfl rfl rfl (by decide +kernel) ⟨Nat.le_of_ble_eq_true rfl, Nat.le_of_ble_eq_true rfl⟩) rfl rfl (Nat.le_of_ble_eq_true rfl) dL_pay_6 ⟨Nat.le_of_ble_eq_true rfl, Nat.le_of_ble_eq_true rfl⟩ (fun h9 H1 locs q ce hC1 hS1 hce hcv hcl => ?_) (fun h9 H1 locs v la1 σ1 hp hC1 hS1 => ?_)
  · have hla : a < s.heap.size := by obtain ⟨f, hf⟩ := hout; exact (Array.getElem?_eq_some_iff.mp hf).1
    have hka : H1[a]? = s.heap[a]? := hS1.2.1 a hla hna
    have hout1 : outA cy a H1 := by obtain ⟨f, hf⟩ := hout; exact ⟨f, hka.trans hf⟩
    rcases hC with rfl | rfl | rfl
    · exact (h9 (by decide)).elim
    · refine lx_catch (k := 1) (pre := []) (x := (0, 10, 13, 19)) (suf := [(0, 10, 17, 21)]) E htab (fun z hz => by cases hz) ⟨by decide, by decide⟩ hNc rfl (by decide) (hts (.classLink RL 19 "java/lang/IndexOutOfBoundsException") (by decide +kernel)) (cTh_cast ⟨by decide, by decide⟩ hK.2.2.2.2.2.2.2) hce hcv hcl ?_
      refine x_astore B hl dL_pay_13 (by decide) (fun ls hl => ?_)
      refine x_iconst B dL_pay_15 ?_
      exact w_widen (k := 16) (n := 256) (Nat.le_of_ble_eq_true rfl) (Nat.le_of_ble_eq_true rfl) (lx_iret E hr hlk hS1.aw dL_pay_16 rfl (Or.inr ⟨by decide, hC1, hout1⟩))
    · refine lx_catch (k := 2) (pre := [(0, 10, 13, 19)]) (x := (0, 10, 17, 21)) (suf := []) E htab (fun z hz => by
          simp only [List.mem_cons, List.not_mem_nil, or_false] at hz
          rcases hz with rfl
          · exact ⟨1, ⟨by decide, by decide⟩, by decide, by decide, hts (.classLink RL 19 "java/lang/IndexOutOfBoundsException") (by decide +kernel)⟩) ⟨by decide, by decide⟩ hNc rfl (by decide) (hts (.classLink RL 21 "java/lang/IllegalArgumentException") (by decide +kernel)) (cTh_cast ⟨by decide, by decide⟩ hK.2.2.2.2.2.2.2) hce hcv hcl ?_
      refine x_astore B hl dL_pay_17 (by decide) (fun ls hl => ?_)
      refine x_iconst B dL_pay_19 ?_
      exact w_widen (k := 16) (n := 256) (Nat.le_of_ble_eq_true rfl) (Nat.le_of_ble_eq_true rfl) (lx_iret E hr hlk hS1.aw dL_pay_20 rfl (Or.inr ⟨by decide, hC1, hout1⟩))
  · have hC0z : C = 0 := by
      rcases hC with rfl | rfl | rfl
      · rfl
      · exact absurd h9 (by decide)
      · exact absurd h9 (by decide)
    have hla : a < s.heap.size := by obtain ⟨f, hf⟩ := hout; exact (Array.getElem?_eq_some_iff.mp hf).1
    have hka : H1[a]? = s.heap[a]? := hS1.2.1 a hla hna
    have hout1 : outA cy a H1 := by obtain ⟨f, hf⟩ := hout; exact ⟨f, hka.trans hf⟩
    obtain ⟨r, rfl, hp9⟩ := hP hC0z _ _ _ hp
    refine lx_last (r := r) E hout1 hS1.aw (Or.inr rfl) dL_pay_9 (fun H2 locs hv9 oq hS2 => ?_)
    have hC2 := hC1.kept (fun κ i b c => oq _ (fun z => hna (z ▸ hC1.2.2.2.2.1 κ i b c)))
    refine x_goto (tgt := 21) B dL_pay_10 (by decide) ?_
    refine x_iconst B dL_pay_21 ?_
    exact w_widen (k := 16) (n := 256) (Nat.le_of_ble_eq_true rfl) (Nat.le_of_ble_eq_true rfl) (lx_iret E hr hlk hS2 dL_pay_22 hC0z.symm (Or.inl ⟨hC0z, _, _, _, hp9, hC2, hv9⟩))
set_option maxRecDepth 20000 in
set_option maxHeartbeats 4000000 in
theorem lw_middle (l : Launch) (D : va_G) (cy : Nat → ClassId) (d0 : Nat) (A : Nat → Prop) (la : Nat → Int → Nat) (σ : MS) {a : Nat} {p0 : Int} {C : Int} {P : Option Value → (Nat → Int → Nat) → MS → Prop} {P' : Int → (Nat → Int → Nat) → MS → Prop} (hna : ¬ A a) (hM : CT l yX10_middle wsX10_middle ({ frames := 8, cells := 16, slots := 256, locals := 124 } : Room) D cy d0 A [.ref (la 0 0), .int (iI p0)] la σ (if C = 1 then 1 else 0) P 16 256) (hC : C = 0 ∨ C = 1) (hP : C = 0 → ∀ v la' τ, P v la' τ → ∃ r : Int, v = some (.int (iI r)) ∧ (-2147483648 ≤ r ∧ r < 2147483648) ∧ P' r la' τ) : LW l yL_middle wsL_middle ({ frames := 9, cells := 16, slots := 256, locals := 150 } : Room) D cy d0 A [.ref (la 0 0), .int (iI p0), .ref a] la σ a C P' 16 256 := by
  refine lx_of (D := D) (cy := cy) (cc := cL_middle) (nL := 4) (ret := some .int) (hh := [(0, 9, 12, 19)]) (by decide) rfl (Nat.le_of_ble_eq_true rfl) (fun U h => h.2.1.1) ?_
  intro p e s m args below meth c ls E htab hr hlk hP0 hl
  obtain ⟨hC0, hK, hNc, hout⟩ := hP0
  have B := E.1
  have hts := E.2.2.2.1
  refine x_aload_n B hl dL_middle_0 rfl ?_
  refine x_iconst B dL_middle_1 ?_
  refine x_aload_n B hl dL_middle_2 rfl ?_
  refine x_iload_n B hl dL_middle_3 rfl ?_
  refine lx_call (rest := [.int (iI 0), .ref a]) (av := [.int (iI p0)]) E hK hC0 hl hM (cwV 1 hts gL_middle_X10_middle rfl rfl rfl (by decide +kernel) ⟨Nat.le_of_ble_eq_true rfl, Nat.le_of_ble_eq_true rfl⟩) rfl rfl (Nat.le_of_ble_eq_true rfl) dL_middle_4 ⟨Nat.le_of_ble_eq_true rfl, Nat.le_of_ble_eq_true rfl⟩ (fun h9 H1 locs q ce hC1 hS1 hce hcv hcl => ?_) (fun h9 H1 locs v la1 σ1 hp hC1 hS1 => ?_)
  · have hla : a < s.heap.size := by obtain ⟨f, hf⟩ := hout; exact (Array.getElem?_eq_some_iff.mp hf).1
    have hka : H1[a]? = s.heap[a]? := hS1.2.1 a hla hna
    have hout1 : outA cy a H1 := by obtain ⟨f, hf⟩ := hout; exact ⟨f, hka.trans hf⟩
    rcases hC with rfl | rfl
    · exact (h9 (by decide)).elim
    · refine lx_catch (k := 1) (pre := []) (x := (0, 9, 12, 19)) (suf := []) E htab (fun z hz => by cases hz) ⟨by decide, by decide⟩ hNc rfl (by decide) (hts (.classLink RL 19 "java/lang/IndexOutOfBoundsException") (by decide +kernel)) (cTh_cast ⟨by decide, by decide⟩ hK.2.2.2.2.2.2.2) hce hcv hcl ?_
      refine x_astore_n B hl dL_middle_12 (by decide) (fun ls hl => ?_)
      refine x_iconst B dL_middle_13 ?_
      exact w_widen (k := 16) (n := 256) (Nat.le_of_ble_eq_true rfl) (Nat.le_of_ble_eq_true rfl) (lx_iret E hr hlk hS1.aw dL_middle_14 rfl (Or.inr ⟨by decide, hC1, hout1⟩))
  · have hC0z : C = 0 := by
      rcases hC with rfl | rfl
      · rfl
      · exact absurd h9 (by decide)
    have hla : a < s.heap.size := by obtain ⟨f, hf⟩ := hout; exact (Array.getElem?_eq_some_iff.mp hf).1
    have hka : H1[a]? = s.heap[a]? := hS1.2.1 a hla hna
    have hout1 : outA cy a H1 := by obtain ⟨f, hf⟩ := hout; exact ⟨f, hka.trans hf⟩
    obtain ⟨r, rfl, hr9, hp9⟩ := hP hC0z _ _ _ hp
    refine x_i2l B dL_middle_7 hr9 ?_
    refine lx_last (r := r) E hout1 hS1.aw (Or.inr rfl) dL_middle_8 (fun H2 locs hv9 oq hS2 => ?_)
    have hC2 := hC1.kept (fun κ i b c => oq _ (fun z => hna (z ▸ hC1.2.2.2.2.1 κ i b c)))
    refine x_goto (tgt := 15) B dL_middle_9 (by decide) ?_
    refine x_iconst B dL_middle_15 ?_
    exact w_widen (k := 16) (n := 256) (Nat.le_of_ble_eq_true rfl) (Nat.le_of_ble_eq_true rfl) (lx_iret E hr hlk hS2 dL_middle_16 hC0z.symm (Or.inl ⟨hC0z, _, _, _, hp9, hC2, hv9⟩))
set_option maxRecDepth 20000 in
set_option maxHeartbeats 4000000 in
theorem lw_fill (l : Launch) (D : va_G) (cy : Nat → ClassId) (d0 : Nat) (A : Nat → Prop) (la : Nat → Int → Nat) (σ : MS) {a : Nat} {p0 p1 p2 : Int} {C : Int} {P : Option Value → (Nat → Int → Nat) → MS → Prop} {P' : Int → (Nat → Int → Nat) → MS → Prop} (hna : ¬ A a) (hM : CT l yX10_fill wsX10_fill ({ frames := 8, cells := 16, slots := 256, locals := 124 } : Room) D cy d0 A [.ref (la 0 0), .int (iI p0), .int (iI p1), .int (iI p2)] la σ (if C = 1 then 1 else (if C = 2 then 2 else 0)) P 16 256) (hC : C = 0 ∨ C = 1 ∨ C = 2) (hP : C = 0 → ∀ v la' τ, P v la' τ → ∃ r : Int, v = some (.int (iI r)) ∧ (-2147483648 ≤ r ∧ r < 2147483648) ∧ P' r la' τ) : LW l yL_fill wsL_fill ({ frames := 9, cells := 16, slots := 256, locals := 158 } : Room) D cy d0 A [.ref (la 0 0), .int (iI p0), .int (iI p1), .int (iI p2), .ref a] la σ a C P' 16 256 := by
  refine lx_of (D := D) (cy := cy) (cc := cL_fill) (nL := 6) (ret := some .int) (hh := [(0, 12, 15, 19), (0, 12, 19, 21)]) (by decide) rfl (Nat.le_of_ble_eq_true rfl) (fun U h => h.2.1.1) ?_
  intro p e s m args below meth c ls E htab hr hlk hP0 hl
  obtain ⟨hC0, hK, hNc, hout⟩ := hP0
  have B := E.1
  have hts := E.2.2.2.1
  refine x_aload B hl dL_fill_0 rfl ?_
  refine x_iconst B dL_fill_2 ?_
  refine x_aload_n B hl dL_fill_3 rfl ?_
  refine x_iload_n B hl dL_fill_4 rfl ?_
  refine x_iload_n B hl dL_fill_5 rfl ?_
  refine x_iload_n B hl dL_fill_6 rfl ?_
  refine lx_call (rest := [.int (iI 0), .ref a]) (av := [.int (iI p0), .int (iI p1), .int (iI p2)]) E hK hC0 hl hM (cwV 3 hts gL_fill_X10_fill rfl rfl rfl (by decide +kernel) ⟨Nat.le_of_ble_eq_true rfl, Nat.le_of_ble_eq_true rfl⟩) rfl rfl (Nat.le_of_ble_eq_true rfl) dL_fill_7 ⟨Nat.le_of_ble_eq_true rfl, Nat.le_of_ble_eq_true rfl⟩ (fun h9 H1 locs q ce hC1 hS1 hce hcv hcl => ?_) (fun h9 H1 locs v la1 σ1 hp hC1 hS1 => ?_)
  · have hla : a < s.heap.size := by obtain ⟨f, hf⟩ := hout; exact (Array.getElem?_eq_some_iff.mp hf).1
    have hka : H1[a]? = s.heap[a]? := hS1.2.1 a hla hna
    have hout1 : outA cy a H1 := by obtain ⟨f, hf⟩ := hout; exact ⟨f, hka.trans hf⟩
    rcases hC with rfl | rfl | rfl
    · exact (h9 (by decide)).elim
    · refine lx_catch (k := 1) (pre := []) (x := (0, 12, 15, 19)) (suf := [(0, 12, 19, 21)]) E htab (fun z hz => by cases hz) ⟨by decide, by decide⟩ hNc rfl (by decide) (hts (.classLink RL 19 "java/lang/IndexOutOfBoundsException") (by decide +kernel)) (cTh_cast ⟨by decide, by decide⟩ hK.2.2.2.2.2.2.2) hce hcv hcl ?_
      refine x_astore B hl dL_fill_15 (by decide) (fun ls hl => ?_)
      refine x_iconst B dL_fill_17 ?_
      exact w_widen (k := 16) (n := 256) (Nat.le_of_ble_eq_true rfl) (Nat.le_of_ble_eq_true rfl) (lx_iret E hr hlk hS1.aw dL_fill_18 rfl (Or.inr ⟨by decide, hC1, hout1⟩))
    · refine lx_catch (k := 2) (pre := [(0, 12, 15, 19)]) (x := (0, 12, 19, 21)) (suf := []) E htab (fun z hz => by
          simp only [List.mem_cons, List.not_mem_nil, or_false] at hz
          rcases hz with rfl
          · exact ⟨1, ⟨by decide, by decide⟩, by decide, by decide, hts (.classLink RL 19 "java/lang/IndexOutOfBoundsException") (by decide +kernel)⟩) ⟨by decide, by decide⟩ hNc rfl (by decide) (hts (.classLink RL 21 "java/lang/IllegalArgumentException") (by decide +kernel)) (cTh_cast ⟨by decide, by decide⟩ hK.2.2.2.2.2.2.2) hce hcv hcl ?_
      refine x_astore B hl dL_fill_19 (by decide) (fun ls hl => ?_)
      refine x_iconst B dL_fill_21 ?_
      exact w_widen (k := 16) (n := 256) (Nat.le_of_ble_eq_true rfl) (Nat.le_of_ble_eq_true rfl) (lx_iret E hr hlk hS1.aw dL_fill_22 rfl (Or.inr ⟨by decide, hC1, hout1⟩))
  · have hC0z : C = 0 := by
      rcases hC with rfl | rfl | rfl
      · rfl
      · exact absurd h9 (by decide)
      · exact absurd h9 (by decide)
    have hla : a < s.heap.size := by obtain ⟨f, hf⟩ := hout; exact (Array.getElem?_eq_some_iff.mp hf).1
    have hka : H1[a]? = s.heap[a]? := hS1.2.1 a hla hna
    have hout1 : outA cy a H1 := by obtain ⟨f, hf⟩ := hout; exact ⟨f, hka.trans hf⟩
    obtain ⟨r, rfl, hr9, hp9⟩ := hP hC0z _ _ _ hp
    refine x_i2l B dL_fill_10 hr9 ?_
    refine lx_last (r := r) E hout1 hS1.aw (Or.inr rfl) dL_fill_11 (fun H2 locs hv9 oq hS2 => ?_)
    have hC2 := hC1.kept (fun κ i b c => oq _ (fun z => hna (z ▸ hC1.2.2.2.2.1 κ i b c)))
    refine x_goto (tgt := 23) B dL_fill_12 (by decide) ?_
    refine x_iconst B dL_fill_23 ?_
    exact w_widen (k := 16) (n := 256) (Nat.le_of_ble_eq_true rfl) (Nat.le_of_ble_eq_true rfl) (lx_iret E hr hlk hS2 dL_fill_24 hC0z.symm (Or.inl ⟨hC0z, _, _, _, hp9, hC2, hv9⟩))
set_option maxRecDepth 20000 in
set_option maxHeartbeats 4000000 in
theorem lw_due (l : Launch) (D : va_G) (cy : Nat → ClassId) (d0 : Nat) (A : Nat → Prop) (la : Nat → Int → Nat) (σ : MS) {a : Nat} {p0 : Int} {C : Int} {P : Option Value → (Nat → Int → Nat) → MS → Prop} {P' : Int → (Nat → Int → Nat) → MS → Prop} (hna : ¬ A a) (hM : CT l yX10_due wsX10_due ({ frames := 8, cells := 16, slots := 256, locals := 124 } : Room) D cy d0 A [.ref (la 0 0), .int (iI p0)] la σ (if C = 1 then 1 else 0) P 16 256) (hC : C = 0 ∨ C = 1) (hP : C = 0 → ∀ v la' τ, P v la' τ → ∃ r : Int, v = some (.int (iI r)) ∧ (-2147483648 ≤ r ∧ r < 2147483648) ∧ P' r la' τ) : LW l yL_due wsL_due ({ frames := 9, cells := 16, slots := 256, locals := 155 } : Room) D cy d0 A [.ref (la 0 0), .int (iI p0), .ref a] la σ a C P' 16 256 := by
  refine lx_of (D := D) (cy := cy) (cc := cL_due) (nL := 4) (ret := some .int) (hh := [(0, 9, 12, 19)]) (by decide) rfl (Nat.le_of_ble_eq_true rfl) (fun U h => h.2.1.1) ?_
  intro p e s m args below meth c ls E htab hr hlk hP0 hl
  obtain ⟨hC0, hK, hNc, hout⟩ := hP0
  have B := E.1
  have hts := E.2.2.2.1
  refine x_aload_n B hl dL_due_0 rfl ?_
  refine x_iconst B dL_due_1 ?_
  refine x_aload_n B hl dL_due_2 rfl ?_
  refine x_iload_n B hl dL_due_3 rfl ?_
  refine lx_call (rest := [.int (iI 0), .ref a]) (av := [.int (iI p0)]) E hK hC0 hl hM (cwV 1 hts gL_due_X10_due rfl rfl rfl (by decide +kernel) ⟨Nat.le_of_ble_eq_true rfl, Nat.le_of_ble_eq_true rfl⟩) rfl rfl (Nat.le_of_ble_eq_true rfl) dL_due_4 ⟨Nat.le_of_ble_eq_true rfl, Nat.le_of_ble_eq_true rfl⟩ (fun h9 H1 locs q ce hC1 hS1 hce hcv hcl => ?_) (fun h9 H1 locs v la1 σ1 hp hC1 hS1 => ?_)
  · have hla : a < s.heap.size := by obtain ⟨f, hf⟩ := hout; exact (Array.getElem?_eq_some_iff.mp hf).1
    have hka : H1[a]? = s.heap[a]? := hS1.2.1 a hla hna
    have hout1 : outA cy a H1 := by obtain ⟨f, hf⟩ := hout; exact ⟨f, hka.trans hf⟩
    rcases hC with rfl | rfl
    · exact (h9 (by decide)).elim
    · refine lx_catch (k := 1) (pre := []) (x := (0, 9, 12, 19)) (suf := []) E htab (fun z hz => by cases hz) ⟨by decide, by decide⟩ hNc rfl (by decide) (hts (.classLink RL 19 "java/lang/IndexOutOfBoundsException") (by decide +kernel)) (cTh_cast ⟨by decide, by decide⟩ hK.2.2.2.2.2.2.2) hce hcv hcl ?_
      refine x_astore_n B hl dL_due_12 (by decide) (fun ls hl => ?_)
      refine x_iconst B dL_due_13 ?_
      exact w_widen (k := 16) (n := 256) (Nat.le_of_ble_eq_true rfl) (Nat.le_of_ble_eq_true rfl) (lx_iret E hr hlk hS1.aw dL_due_14 rfl (Or.inr ⟨by decide, hC1, hout1⟩))
  · have hC0z : C = 0 := by
      rcases hC with rfl | rfl
      · rfl
      · exact absurd h9 (by decide)
    have hla : a < s.heap.size := by obtain ⟨f, hf⟩ := hout; exact (Array.getElem?_eq_some_iff.mp hf).1
    have hka : H1[a]? = s.heap[a]? := hS1.2.1 a hla hna
    have hout1 : outA cy a H1 := by obtain ⟨f, hf⟩ := hout; exact ⟨f, hka.trans hf⟩
    obtain ⟨r, rfl, hr9, hp9⟩ := hP hC0z _ _ _ hp
    refine x_i2l B dL_due_7 hr9 ?_
    refine lx_last (r := r) E hout1 hS1.aw (Or.inr rfl) dL_due_8 (fun H2 locs hv9 oq hS2 => ?_)
    have hC2 := hC1.kept (fun κ i b c => oq _ (fun z => hna (z ▸ hC1.2.2.2.2.1 κ i b c)))
    refine x_goto (tgt := 15) B dL_due_9 (by decide) ?_
    refine x_iconst B dL_due_15 ?_
    exact w_widen (k := 16) (n := 256) (Nat.le_of_ble_eq_true rfl) (Nat.le_of_ble_eq_true rfl) (lx_iret E hr hlk hS2 dL_due_16 hC0z.symm (Or.inl ⟨hC0z, _, _, _, hp9, hC2, hv9⟩))
set_option maxRecDepth 20000 in
set_option maxHeartbeats 4000000 in
theorem lw_load (l : Launch) (D : va_G) (cy : Nat → ClassId) (d0 : Nat) (A : Nat → Prop) (la : Nat → Int → Nat) (σ : MS) {a : Nat} {p0 p1 : Int} {C : Int} {P : Option Value → (Nat → Int → Nat) → MS → Prop} {P' : Int → (Nat → Int → Nat) → MS → Prop} (hna : ¬ A a) (hM : CT l yX10_load wsX10_load ({ frames := 8, cells := 16, slots := 256, locals := 131 } : Room) D cy d0 A [.ref (la 0 0), .int (iI p0), .int (iI p1)] la σ (if C = 1 then 1 else (if C = 2 then 4 else 0)) P 16 256) (hC : C = 0 ∨ C = 1 ∨ C = 2) (hP : C = 0 → ∀ v la' τ, P v la' τ → ∃ r : Int, v = some (.int (iI r)) ∧ (-2147483648 ≤ r ∧ r < 2147483648) ∧ P' r la' τ) : LW l yL_load wsL_load ({ frames := 9, cells := 16, slots := 256, locals := 159 } : Room) D cy d0 A [.ref (la 0 0), .int (iI p0), .int (iI p1), .ref a] la σ a C P' 16 256 := by
  refine lx_of (D := D) (cy := cy) (cc := cL_load) (nL := 5) (ret := some .int) (hh := [(0, 10, 13, 19), (0, 10, 17, 73)]) (by decide) rfl (Nat.le_of_ble_eq_true rfl) (fun U h => h.2.1.1) ?_
  intro p e s m args below meth c ls E htab hr hlk hP0 hl
  obtain ⟨hC0, hK, hNc, hout⟩ := hP0
  have B := E.1
  have hts := E.2.2.2.1
  refine x_aload_n B hl dL_load_0 rfl ?_
  refine x_iconst B dL_load_1 ?_
  refine x_aload_n B hl dL_load_2 rfl ?_
  refine x_iload_n B hl dL_load_3 rfl ?_
  refine x_iload_n B hl dL_load_4 rfl ?_
  refine lx_call (rest := [.int (iI 0), .ref a]) (av := [.int (iI p0), .int (iI p1)]) E hK hC0 hl hM (cwV 2 hts gL_load_X10_load rfl rfl rfl (by decide +kernel) ⟨Nat.le_of_ble_eq_true rfl, Nat.le_of_ble_eq_true rfl⟩) rfl rfl (Nat.le_of_ble_eq_true rfl) dL_load_5 ⟨Nat.le_of_ble_eq_true rfl, Nat.le_of_ble_eq_true rfl⟩ (fun h9 H1 locs q ce hC1 hS1 hce hcv hcl => ?_) (fun h9 H1 locs v la1 σ1 hp hC1 hS1 => ?_)
  · have hla : a < s.heap.size := by obtain ⟨f, hf⟩ := hout; exact (Array.getElem?_eq_some_iff.mp hf).1
    have hka : H1[a]? = s.heap[a]? := hS1.2.1 a hla hna
    have hout1 : outA cy a H1 := by obtain ⟨f, hf⟩ := hout; exact ⟨f, hka.trans hf⟩
    rcases hC with rfl | rfl | rfl
    · exact (h9 (by decide)).elim
    · refine lx_catch (k := 1) (pre := []) (x := (0, 10, 13, 19)) (suf := [(0, 10, 17, 73)]) E htab (fun z hz => by cases hz) ⟨by decide, by decide⟩ hNc rfl (by decide) (hts (.classLink RL 19 "java/lang/IndexOutOfBoundsException") (by decide +kernel)) (cTh_cast ⟨by decide, by decide⟩ hK.2.2.2.2.2.2.2) hce hcv hcl ?_
      refine x_astore B hl dL_load_13 (by decide) (fun ls hl => ?_)
      refine x_iconst B dL_load_15 ?_
      exact w_widen (k := 16) (n := 256) (Nat.le_of_ble_eq_true rfl) (Nat.le_of_ble_eq_true rfl) (lx_iret E hr hlk hS1.aw dL_load_16 rfl (Or.inr ⟨by decide, hC1, hout1⟩))
    · refine lx_catch (k := 4) (pre := [(0, 10, 13, 19)]) (x := (0, 10, 17, 73)) (suf := []) E htab (fun z hz => by
          simp only [List.mem_cons, List.not_mem_nil, or_false] at hz
          rcases hz with rfl
          · exact ⟨1, ⟨by decide, by decide⟩, by decide, by decide, hts (.classLink RL 19 "java/lang/IndexOutOfBoundsException") (by decide +kernel)⟩) ⟨by decide, by decide⟩ hNc rfl (by decide) (hts (.classLink RL 73 "java/util/NoSuchElementException") (by decide +kernel)) (cTh_cast ⟨by decide, by decide⟩ hK.2.2.2.2.2.2.2) hce hcv hcl ?_
      refine x_astore B hl dL_load_17 (by decide) (fun ls hl => ?_)
      refine x_iconst B dL_load_19 ?_
      exact w_widen (k := 16) (n := 256) (Nat.le_of_ble_eq_true rfl) (Nat.le_of_ble_eq_true rfl) (lx_iret E hr hlk hS1.aw dL_load_20 rfl (Or.inr ⟨by decide, hC1, hout1⟩))
  · have hC0z : C = 0 := by
      rcases hC with rfl | rfl | rfl
      · rfl
      · exact absurd h9 (by decide)
      · exact absurd h9 (by decide)
    have hla : a < s.heap.size := by obtain ⟨f, hf⟩ := hout; exact (Array.getElem?_eq_some_iff.mp hf).1
    have hka : H1[a]? = s.heap[a]? := hS1.2.1 a hla hna
    have hout1 : outA cy a H1 := by obtain ⟨f, hf⟩ := hout; exact ⟨f, hka.trans hf⟩
    obtain ⟨r, rfl, hr9, hp9⟩ := hP hC0z _ _ _ hp
    refine x_i2l B dL_load_8 hr9 ?_
    refine lx_last (r := r) E hout1 hS1.aw (Or.inr rfl) dL_load_9 (fun H2 locs hv9 oq hS2 => ?_)
    have hC2 := hC1.kept (fun κ i b c => oq _ (fun z => hna (z ▸ hC1.2.2.2.2.1 κ i b c)))
    refine x_goto (tgt := 21) B dL_load_10 (by decide) ?_
    refine x_iconst B dL_load_21 ?_
    exact w_widen (k := 16) (n := 256) (Nat.le_of_ble_eq_true rfl) (Nat.le_of_ble_eq_true rfl) (lx_iret E hr hlk hS2 dL_load_22 hC0z.symm (Or.inl ⟨hC0z, _, _, _, hp9, hC2, hv9⟩))
set_option maxRecDepth 20000 in
set_option maxHeartbeats 4000000 in
theorem lw_about (l : Launch) (D : va_G) (cy : Nat → ClassId) (d0 : Nat) (A : Nat → Prop) (la : Nat → Int → Nat) (σ : MS) {a : Nat} {p0 p1 : Int} {C : Int} {P : Option Value → (Nat → Int → Nat) → MS → Prop} {P' : Int → (Nat → Int → Nat) → MS → Prop} (hna : ¬ A a) (hM : CT l yX10_about wsX10_about ({ frames := 8, cells := 16, slots := 256, locals := 124 } : Room) D cy d0 A [.ref (la 0 0), .int (iI p0), .int (iI p1)] la σ (if C = 1 then 1 else (if C = 2 then 4 else 0)) P 16 256) (hC : C = 0 ∨ C = 1 ∨ C = 2) (hP : C = 0 → ∀ v la' τ, P v la' τ → ∃ r : Int, v = some (.int (iI r)) ∧ (-2147483648 ≤ r ∧ r < 2147483648) ∧ P' r la' τ) : LW l yL_about wsL_about ({ frames := 9, cells := 16, slots := 256, locals := 152 } : Room) D cy d0 A [.ref (la 0 0), .int (iI p0), .int (iI p1), .ref a] la σ a C P' 16 256 := by
  refine lx_of (D := D) (cy := cy) (cc := cL_about) (nL := 5) (ret := some .int) (hh := [(0, 10, 13, 19), (0, 10, 17, 73)]) (by decide) rfl (Nat.le_of_ble_eq_true rfl) (fun U h => h.2.1.1) ?_
  intro p e s m args below meth c ls E htab hr hlk hP0 hl
  obtain ⟨hC0, hK, hNc, hout⟩ := hP0
  have B := E.1
  have hts := E.2.2.2.1
  refine x_aload_n B hl dL_about_0 rfl ?_
  refine x_iconst B dL_about_1 ?_
  refine x_aload_n B hl dL_about_2 rfl ?_
  refine x_iload_n B hl dL_about_3 rfl ?_
  refine x_iload_n B hl dL_about_4 rfl ?_
  refine lx_call (rest := [.int (iI 0), .ref a]) (av := [.int (iI p0), .int (iI p1)]) E hK hC0 hl hM (cwV 2 hts gL_about_X10_about rfl rfl rfl (by decide +kernel) ⟨Nat.le_of_ble_eq_true rfl, Nat.le_of_ble_eq_true rfl⟩) rfl rfl (Nat.le_of_ble_eq_true rfl) dL_about_5 ⟨Nat.le_of_ble_eq_true rfl, Nat.le_of_ble_eq_true rfl⟩ (fun h9 H1 locs q ce hC1 hS1 hce hcv hcl => ?_) (fun h9 H1 locs v la1 σ1 hp hC1 hS1 => ?_)
  · have hla : a < s.heap.size := by obtain ⟨f, hf⟩ := hout; exact (Array.getElem?_eq_some_iff.mp hf).1
    have hka : H1[a]? = s.heap[a]? := hS1.2.1 a hla hna
    have hout1 : outA cy a H1 := by obtain ⟨f, hf⟩ := hout; exact ⟨f, hka.trans hf⟩
    rcases hC with rfl | rfl | rfl
    · exact (h9 (by decide)).elim
    · refine lx_catch (k := 1) (pre := []) (x := (0, 10, 13, 19)) (suf := [(0, 10, 17, 73)]) E htab (fun z hz => by cases hz) ⟨by decide, by decide⟩ hNc rfl (by decide) (hts (.classLink RL 19 "java/lang/IndexOutOfBoundsException") (by decide +kernel)) (cTh_cast ⟨by decide, by decide⟩ hK.2.2.2.2.2.2.2) hce hcv hcl ?_
      refine x_astore B hl dL_about_13 (by decide) (fun ls hl => ?_)
      refine x_iconst B dL_about_15 ?_
      exact w_widen (k := 16) (n := 256) (Nat.le_of_ble_eq_true rfl) (Nat.le_of_ble_eq_true rfl) (lx_iret E hr hlk hS1.aw dL_about_16 rfl (Or.inr ⟨by decide, hC1, hout1⟩))
    · refine lx_catch (k := 4) (pre := [(0, 10, 13, 19)]) (x := (0, 10, 17, 73)) (suf := []) E htab (fun z hz => by
          simp only [List.mem_cons, List.not_mem_nil, or_false] at hz
          rcases hz with rfl
          · exact ⟨1, ⟨by decide, by decide⟩, by decide, by decide, hts (.classLink RL 19 "java/lang/IndexOutOfBoundsException") (by decide +kernel)⟩) ⟨by decide, by decide⟩ hNc rfl (by decide) (hts (.classLink RL 73 "java/util/NoSuchElementException") (by decide +kernel)) (cTh_cast ⟨by decide, by decide⟩ hK.2.2.2.2.2.2.2) hce hcv hcl ?_
      refine x_astore B hl dL_about_17 (by decide) (fun ls hl => ?_)
      refine x_iconst B dL_about_19 ?_
      exact w_widen (k := 16) (n := 256) (Nat.le_of_ble_eq_true rfl) (Nat.le_of_ble_eq_true rfl) (lx_iret E hr hlk hS1.aw dL_about_20 rfl (Or.inr ⟨by decide, hC1, hout1⟩))
  · have hC0z : C = 0 := by
      rcases hC with rfl | rfl | rfl
      · rfl
      · exact absurd h9 (by decide)
      · exact absurd h9 (by decide)
    have hla : a < s.heap.size := by obtain ⟨f, hf⟩ := hout; exact (Array.getElem?_eq_some_iff.mp hf).1
    have hka : H1[a]? = s.heap[a]? := hS1.2.1 a hla hna
    have hout1 : outA cy a H1 := by obtain ⟨f, hf⟩ := hout; exact ⟨f, hka.trans hf⟩
    obtain ⟨r, rfl, hr9, hp9⟩ := hP hC0z _ _ _ hp
    refine x_i2l B dL_about_8 hr9 ?_
    refine lx_last (r := r) E hout1 hS1.aw (Or.inr rfl) dL_about_9 (fun H2 locs hv9 oq hS2 => ?_)
    have hC2 := hC1.kept (fun κ i b c => oq _ (fun z => hna (z ▸ hC1.2.2.2.2.1 κ i b c)))
    refine x_goto (tgt := 21) B dL_about_10 (by decide) ?_
    refine x_iconst B dL_about_21 ?_
    exact w_widen (k := 16) (n := 256) (Nat.le_of_ble_eq_true rfl) (Nat.le_of_ble_eq_true rfl) (lx_iret E hr hlk hS2 dL_about_22 hC0z.symm (Or.inl ⟨hC0z, _, _, _, hp9, hC2, hv9⟩))
set_option maxRecDepth 20000 in
set_option maxHeartbeats 4000000 in
theorem lw_state (l : Launch) (D : va_G) (cy : Nat → ClassId) (d0 : Nat) (A : Nat → Prop) (la : Nat → Int → Nat) (σ : MS) {a : Nat} {p0 p1 : Int} {C : Int} {P : Option Value → (Nat → Int → Nat) → MS → Prop} {P' : Int → (Nat → Int → Nat) → MS → Prop} (hna : ¬ A a) (hM : CT l yX10_state wsX10_state ({ frames := 8, cells := 16, slots := 256, locals := 124 } : Room) D cy d0 A [.ref (la 0 0), .int (iI p0), .int (iI p1)] la σ (if C = 1 then 1 else (if C = 2 then 4 else 0)) P 16 256) (hC : C = 0 ∨ C = 1 ∨ C = 2) (hP : C = 0 → ∀ v la' τ, P v la' τ → ∃ r : Int, v = some (.int (iI r)) ∧ (-2147483648 ≤ r ∧ r < 2147483648) ∧ P' r la' τ) : LW l yL_state wsL_state ({ frames := 9, cells := 16, slots := 256, locals := 152 } : Room) D cy d0 A [.ref (la 0 0), .int (iI p0), .int (iI p1), .ref a] la σ a C P' 16 256 := by
  refine lx_of (D := D) (cy := cy) (cc := cL_state) (nL := 5) (ret := some .int) (hh := [(0, 10, 13, 19), (0, 10, 17, 73)]) (by decide) rfl (Nat.le_of_ble_eq_true rfl) (fun U h => h.2.1.1) ?_
  intro p e s m args below meth c ls E htab hr hlk hP0 hl
  obtain ⟨hC0, hK, hNc, hout⟩ := hP0
  have B := E.1
  have hts := E.2.2.2.1
  refine x_aload_n B hl dL_state_0 rfl ?_
  refine x_iconst B dL_state_1 ?_
  refine x_aload_n B hl dL_state_2 rfl ?_
  refine x_iload_n B hl dL_state_3 rfl ?_
  refine x_iload_n B hl dL_state_4 rfl ?_
  refine lx_call (rest := [.int (iI 0), .ref a]) (av := [.int (iI p0), .int (iI p1)]) E hK hC0 hl hM (cwV 2 hts gL_state_X10_state rfl rfl rfl (by decide +kernel) ⟨Nat.le_of_ble_eq_true rfl, Nat.le_of_ble_eq_true rfl⟩) rfl rfl (Nat.le_of_ble_eq_true rfl) dL_state_5 ⟨Nat.le_of_ble_eq_true rfl, Nat.le_of_ble_eq_true rfl⟩ (fun h9 H1 locs q ce hC1 hS1 hce hcv hcl => ?_) (fun h9 H1 locs v la1 σ1 hp hC1 hS1 => ?_)
  · have hla : a < s.heap.size := by obtain ⟨f, hf⟩ := hout; exact (Array.getElem?_eq_some_iff.mp hf).1
    have hka : H1[a]? = s.heap[a]? := hS1.2.1 a hla hna
    have hout1 : outA cy a H1 := by obtain ⟨f, hf⟩ := hout; exact ⟨f, hka.trans hf⟩
    rcases hC with rfl | rfl | rfl
    · exact (h9 (by decide)).elim
    · refine lx_catch (k := 1) (pre := []) (x := (0, 10, 13, 19)) (suf := [(0, 10, 17, 73)]) E htab (fun z hz => by cases hz) ⟨by decide, by decide⟩ hNc rfl (by decide) (hts (.classLink RL 19 "java/lang/IndexOutOfBoundsException") (by decide +kernel)) (cTh_cast ⟨by decide, by decide⟩ hK.2.2.2.2.2.2.2) hce hcv hcl ?_
      refine x_astore B hl dL_state_13 (by decide) (fun ls hl => ?_)
      refine x_iconst B dL_state_15 ?_
      exact w_widen (k := 16) (n := 256) (Nat.le_of_ble_eq_true rfl) (Nat.le_of_ble_eq_true rfl) (lx_iret E hr hlk hS1.aw dL_state_16 rfl (Or.inr ⟨by decide, hC1, hout1⟩))
    · refine lx_catch (k := 4) (pre := [(0, 10, 13, 19)]) (x := (0, 10, 17, 73)) (suf := []) E htab (fun z hz => by
          simp only [List.mem_cons, List.not_mem_nil, or_false] at hz
          rcases hz with rfl
          · exact ⟨1, ⟨by decide, by decide⟩, by decide, by decide, hts (.classLink RL 19 "java/lang/IndexOutOfBoundsException") (by decide +kernel)⟩) ⟨by decide, by decide⟩ hNc rfl (by decide) (hts (.classLink RL 73 "java/util/NoSuchElementException") (by decide +kernel)) (cTh_cast ⟨by decide, by decide⟩ hK.2.2.2.2.2.2.2) hce hcv hcl ?_
      refine x_astore B hl dL_state_17 (by decide) (fun ls hl => ?_)
      refine x_iconst B dL_state_19 ?_
      exact w_widen (k := 16) (n := 256) (Nat.le_of_ble_eq_true rfl) (Nat.le_of_ble_eq_true rfl) (lx_iret E hr hlk hS1.aw dL_state_20 rfl (Or.inr ⟨by decide, hC1, hout1⟩))
  · have hC0z : C = 0 := by
      rcases hC with rfl | rfl | rfl
      · rfl
      · exact absurd h9 (by decide)
      · exact absurd h9 (by decide)
    have hla : a < s.heap.size := by obtain ⟨f, hf⟩ := hout; exact (Array.getElem?_eq_some_iff.mp hf).1
    have hka : H1[a]? = s.heap[a]? := hS1.2.1 a hla hna
    have hout1 : outA cy a H1 := by obtain ⟨f, hf⟩ := hout; exact ⟨f, hka.trans hf⟩
    obtain ⟨r, rfl, hr9, hp9⟩ := hP hC0z _ _ _ hp
    refine x_i2l B dL_state_8 hr9 ?_
    refine lx_last (r := r) E hout1 hS1.aw (Or.inr rfl) dL_state_9 (fun H2 locs hv9 oq hS2 => ?_)
    have hC2 := hC1.kept (fun κ i b c => oq _ (fun z => hna (z ▸ hC1.2.2.2.2.1 κ i b c)))
    refine x_goto (tgt := 21) B dL_state_10 (by decide) ?_
    refine x_iconst B dL_state_21 ?_
    exact w_widen (k := 16) (n := 256) (Nat.le_of_ble_eq_true rfl) (Nat.le_of_ble_eq_true rfl) (lx_iret E hr hlk hS2 dL_state_22 hC0z.symm (Or.inl ⟨hC0z, _, _, _, hp9, hC2, hv9⟩))
