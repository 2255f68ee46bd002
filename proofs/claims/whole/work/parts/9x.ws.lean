theorem st_lt {l : Launch} (hflags : l.flags = flags0) : l.stackTraces = false := by
  have hf : l.flags = pinnedFlags ++ [noTraceFlag] := hflags
  unfold Launch.stackTraces
  rw [hf]
  decide
set_option maxRecDepth 20000 in
set_option maxHeartbeats 8000000 in
/-- THE LAW, from its entry -/
theorem whole_start {p : Program} {e : Env} {s : State} {m : MethodId} {below : List Frame} {meth : Method} {c : Code} (l : Launch) (hflags : l.flags = flags0) {b L : Nat} {xs : Nat → Int32} (hL : L ≤ 2560) (C0 : lw_At p s m meth c b L xs) : W p l e room_1 s m #[Value.ref b] below meth c s.heap [] 0 0 (lw_Z below #[Value.ref b] s) (entryFrame m ([Value.ref b] : List Value).toArray 8) := by
  obtain ⟨hx, hb, hr, hml, hown, hts0, hX, hbl, hlocks, hgv⟩ := id C0
  have hlt := st_lt hflags
  have hts : ∀ w ∈ wsL_law, w.before #[Value.ref b] s = true := fun w h => hts0 w (wsL_law_in w h)
  have hg := flat_of_before _ hgv
  obtain ⟨D, cy, hK9⟩ := st_K hts hts0
  obtain ⟨d0, hK⟩ := st_cK hts0 hg hK9
  have hNc := st_Nc hg
  have E : cE p s m #[Value.ref b] c cL_law 8 RL wsL_law D cy := ⟨⟨hx, hb⟩, hml, hown, hts, hK9⟩
  have B := E.1
  have hS : va_S (l9 s) s.heap s.heap [] := va_S.rf
  have hl := lv_entry ([.ref b]) (n := 8) (Nat.le_of_ble_eq_true rfl)
  rw [lg_entry_eq]
  generalize (lg_sl ([.ref b]) ++ List.replicate (8 - (lg_sl ([.ref b])).length) Slot.unset).toArray = ls at hl ⊢
  have hl : lv_has ls 8 [(0, .ref b)] := hl
  refine ob_new (ci := 11) (C := RX10) (T := TX10) E hS rfl inlX10 tyX10_ok (hts (.classLink RL 8 RX10) (by decide +kernel)) (hts (.instantiable RX10 11) (by decide +kernel)) (hts (.initialized RX10) (by decide +kernel)) (Nat.le_of_ble_eq_true rfl) (Nat.le_of_ble_eq_true rfl) dL_law_0 (fun H1 n1 o1 z1 hS1 => ?_)
  refine x_dup B dL_law_3 rfl ?_
  refine cb_callI (A' := l9 s) (av := []) E hK hS1 hl (fun q h => h) (fun q h => Nat.le_trans hS1.1 h) (k_Town0 l D cy d0 (l9 s) (q := s.heap.size) (Nat.le_refl _)) n1 (cwI 0 hts gL_law_X10_init rfl rfl rfl (hts (.initialized RX10) (by decide +kernel)) (hts (.methodLink RL 126 yX10_init) (by decide +kernel)) (hts (.instanceMethod yX10_init) (by decide +kernel)) rfl (by decide +kernel) ⟨Nat.le_of_ble_eq_true rfl, Nat.le_of_ble_eq_true rfl⟩) rfl rfl (Nat.le_of_ble_eq_true rfl) dL_law_4 ⟨Nat.le_of_ble_eq_true rfl, Nat.le_of_ble_eq_true rfl⟩ (fun H2 locs2 v2 hp2 z2 o2 hS2 => ?_)
  obtain ⟨rfl, la, hx0, h19, hC2⟩ := hp2
  refine x_astore_n B hl dL_law_7 (by decide) (fun ls hl => ?_)
  refine ob_new (ci := 12) (C := RX11) (T := TX11) E hS2 rfl inlX11 tyX11_ok (hts (.classLink RL 127 RX11) (by decide +kernel)) (hts (.instantiable RX11 48) (by decide +kernel)) (hts (.initialized RX11) (by decide +kernel)) (Nat.le_of_ble_eq_true rfl) (Nat.le_of_ble_eq_true rfl) dL_law_8 (fun H3 n3 o3 z3 hS3 => ?_)
  refine x_dup B dL_law_11 rfl ?_
  refine cb_callI (A' := fun z => H2.size ≤ z) (av := []) E hK hS3 hl (fun q h => Nat.le_trans hS2.1 h) (fun q h => (show H2.size ≤ q by omega)) (k_Ref l D cy d0 (fun z => H2.size ≤ z) (q := H2.size) (Nat.le_refl _)) n3 (cwI 0 hts gL_law_X11_init rfl rfl rfl (hts (.initialized RX11) (by decide +kernel)) (hts (.methodLink RL 129 yX11_init) (by decide +kernel)) (hts (.instanceMethod yX11_init) (by decide +kernel)) rfl (by decide +kernel) ⟨Nat.le_of_ble_eq_true rfl, Nat.le_of_ble_eq_true rfl⟩) rfl rfl (Nat.le_of_ble_eq_true rfl) dL_law_12 ⟨Nat.le_of_ble_eq_true rfl, Nat.le_of_ble_eq_true rfl⟩ (fun H4 locs4 v4 hp4 z4 o4 hS4 => ?_)
  obtain ⟨rfl, ad, had, hM4⟩ := hp4
  refine x_astore_n B hl dL_law_15 (by decide) (fun ls hl => ?_)
  refine x_iconst B dL_law_16 ?_
  refine ob_newa (atype := .long) (n := 1) (t0 := 2) (ty := .long) (cA0 := cy 3) E hS4 (hts (.arrayClass .long) (by decide +kernel)) rfl rfl (Or.inr (Or.inr rfl)) ⟨by decide, by decide⟩ (Nat.le_of_ble_eq_true rfl) (Nat.le_of_ble_eq_true rfl) dL_law_17 (fun H5 n5 o5 z5 hS5 => ?_)
  refine x_astore_n B hl dL_law_19 (by decide) (fun ls hl => ?_)
  refine x_iconst B dL_law_20 ?_
  refine x_istore B hl dL_law_21 (by decide) (fun ls hl => ?_)
  have hlaR : ∀ κ i, κ ≤ 18 → cLive la (fun _ _ => 0) κ i → la κ i < H2.size := fun κ i a b => hC2.lt a b
  have hC5 : CP D cy d0 (l9 s) la (fun _ _ => 0) H5 := hC2.kq (fun q h1 _ => (o5 q (by omega)).trans ((o4 q (by omega) (Nat.not_le.mpr h1)).trans (o3 q h1)))
  have hM5 := hM4.kept (H1 := H5) (fun q hq => o5 q (hM4.lt hq))
  have hmA : ∀ q, mA H2.size ad q → H2.size ≤ q ∧ q < H4.size := fun q hq => ⟨by
    rcases hq with rfl | ⟨k, a1, a2, rfl⟩
    · exact Nat.le_refl _
    · have := had k a1 a2
      omega, hM4.lt hq⟩
  have hC : CP D cy d0 (lA s H4.size H2.size ad) la (fun _ _ => 0) H5 := hC5.nar (fun κ i a b => ⟨hC5.2.2.2.2.1 κ i a b, by
    have := hlaR κ i a b
    omega, fun z => by
    have h1 := (hmA _ z).1
    have h2 := hlaR κ i a b
    omega⟩) (fun z => hC5.2.2.2.2.2.2 z.1)
  have G : lG p s m c b L xs D cy d0 H4.size H2.size ad := ⟨E, hX, hbl, hNc, hK, hS4.1, fun q hq => ⟨Nat.le_trans hS2.1 (hmA q hq).1, by
    have := (hmA q hq).2
    omega⟩, hL⟩
  have hB : lB D cy d0 (lA s H4.size H2.size ad) H2.size ad H4.size s.heap.size ((0 : Nat) : Int) la (fun _ _ => 0) H5 := ⟨hC, hM5, cInv_0, fun L _ => by
    rw [h19]
    exact Nat.zero_le _, ⟨_, n5⟩, hx0⟩
  refine w_widen (k := 60 + 24 * 0) (n := 20000 + 2100 * 0) (Nat.le_of_ble_eq_true rfl) (Nat.le_of_ble_eq_true rfl) ?_
  refine law_loop hlt G hr hlocks (L + 1) 0 (by omega) (by omega) la _ H5 _ ls hB hS5 ?_
  have e : (5 * ((0 : Nat) : Int)) = 0 := rfl
  rw [e]
  exact lv_key hl (lL b s.heap.size H2.size H4.size 0) rfl
