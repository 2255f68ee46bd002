theorem CN.imp {l : Launch} {y : MethodName} {ws : List Cond} {rm : Room} {D : va_G} {cy : Nat → ClassId} {d0 : Nat} {A : Nat → Prop} {av : List Value} {la : Nat → Int → Nat} {σ : MS} {P P' : Option Value → (Nat → Int → Nat) → MS → Prop} {mc ms : Nat} (h : CN l y ws rm D cy d0 A av la σ P mc ms) (hp : ∀ v la' τ, P v la' τ → P' v la' τ) : CN l y ws rm D cy d0 A av la σ P' mc ms :=
  by
  unfold CN Met at h ⊢
  exact MetFree.mono h (fun _ _ q => q) (fun _ _ _ _ _ q => q) (fun a st oc t _ hq => by
    obtain ⟨⟨⟨v, la2, τ2, h1, h2, h3⟩, h4⟩, h5⟩ := hq
    exact ⟨⟨⟨v, la2, τ2, h1, hp _ _ _ h2, h3⟩, h4⟩, h5⟩)
abbrev okw (f : Nat) : Bool := f != 25 && f != 35 && f != 38 && f != 39 && f != 50 && f != 51 && f != 52
theorem c_addSharesE (l : Launch) (D : va_G) (cy : Nat → ClassId) (d0 : Nat) (A : Nat → Prop) (la : Nat → Int → Nat) (σ τ : MS) (he : ∀ f, okw f = true → τ f = σ f) {t sg : Int} (ht : 0 ≤ t ∧ t < σ 45 0) (hn45 : 0 ≤ σ 45 0 ∧ σ 45 0 ≤ 600) (hn11 : 0 ≤ σ 11 0 ∧ σ 11 0 ≤ 60) (hn23 : 0 ≤ σ 23 0 ∧ σ 23 0 ≤ 1000) (hcb : σ 40 t = 1 → 0 ≤ σ 36 t) (hbn : ¬ σ 36 t < 0 → 0 ≤ σ 36 t ∧ σ 36 t < σ 23 0) (h42 : 0 ≤ σ 42 t ∧ σ 42 t ≤ 100000) (h43 : 0 ≤ σ 43 t ∧ σ 43 t ≤ 100000) (h39 : 0 ≤ σ 39 t ∧ σ 39 t ≤ 3000000) (hd : 0 ≤ σ 32 t ∧ σ 32 t ≤ 699) (hm : ∀ b, 0 ≤ σ 18 b ∧ σ 18 b ≤ 8) (hv : ∀ j, 0 ≤ σ 16 j) (hho : ¬ sHouse σ (σ 36 t) (σ 32 t) < 0 → 0 ≤ sHouse σ (σ 36 t) (σ 32 t) ∧ sHouse σ (σ 36 t) (σ 32 t) < σ 11 0) (hm22 : ∀ b, 0 ≤ σ 22 b ∧ σ 22 b ≤ 20) (hpw : ∀ j, 0 ≤ σ 20 j ∧ σ 20 j ≤ 1000) (hv19 : ¬ σ 36 t < 0 → ∀ j, 0 ≤ σ 19 j ∧ σ 19 j < σ 11 0) (h39b : 0 ≤ τ 39 t ∧ τ 39 t ≤ 3000000) (hsg : -1 ≤ sg ∧ sg ≤ 1) : CN l yX10_addShares wsX10_addShares ({ frames := 6, cells := 0, slots := 0, locals := 141 } : Room) D cy d0 A [.ref (la 0 0), .ref (la 10 t), .int (iI sg)] la τ (fun v' la' υ => v' = none ∧ la' = la ∧ (∀ q, q ≠ 50 → q ≠ 51 → q ≠ 52 → υ q = τ q) ∧ ∀ h, 0 ≤ h → h < σ 11 0 → υ 50 h = τ 50 h + sg * sShr τ t h) 0 0 := by
  have hH : ∀ b d, sHouse τ b d = sHouse σ b d := fun b d => sHouse_c (he 16 rfl) (he 17 rfl) (he 18 rfl) b d
  have h := c_addShares l D cy d0 A la τ (t := t) (sg := sg) (by rw [he 45 rfl]; exact ht) (by rw [he 45 rfl]; exact hn45) (by rw [he 11 rfl]; exact hn11) (by rw [he 23 rfl]; exact hn23) (by rw [he 40 rfl, he 36 rfl]; exact hcb) (by rw [he 36 rfl, he 23 rfl]; exact hbn) (by rw [he 42 rfl]; exact h42) (by rw [he 43 rfl]; exact h43) h39b (by rw [he 32 rfl]; exact hd) (by rw [he 18 rfl]; exact hm) (by rw [he 16 rfl]; exact hv) (by rw [he 36 rfl, he 32 rfl, hH, he 11 rfl]; exact hho) (by rw [he 22 rfl]; exact hm22) (by rw [he 20 rfl]; exact hpw) (by rw [he 36 rfl, he 19 rfl, he 11 rfl]; exact hv19) hsg
  rw [he 11 rfl] at h
  exact h
theorem c_splitChargeE (l : Launch) (D : va_G) (cy : Nat → ClassId) (d0 : Nat) (A : Nat → Prop) (la : Nat → Int → Nat) (σ τ : MS) (he : ∀ q, q ≠ 50 → q ≠ 51 → q ≠ 52 → τ q = σ q) {t : Int} (ht : 0 ≤ t ∧ t < σ 45 0) (hn45 : 0 ≤ σ 45 0 ∧ σ 45 0 ≤ 600) (hn11 : 0 ≤ σ 11 0 ∧ σ 11 0 ≤ 60) (hn23 : 0 ≤ σ 23 0 ∧ σ 23 0 ≤ 1000) (hcb : σ 40 t = 1 → 0 ≤ σ 36 t) (hbn : ¬ σ 36 t < 0 → 0 ≤ σ 36 t ∧ σ 36 t < σ 23 0) (h42 : 0 ≤ σ 42 t ∧ σ 42 t ≤ 100000) (h43 : 0 ≤ σ 43 t ∧ σ 43 t ≤ 100000) (h39 : 0 ≤ σ 39 t ∧ σ 39 t ≤ 3000000) (hd : 0 ≤ σ 32 t ∧ σ 32 t ≤ 699) (hm : ∀ b, 0 ≤ σ 18 b ∧ σ 18 b ≤ 8) (hv : ∀ j, 0 ≤ σ 16 j) (hho : ¬ sHouse σ (σ 36 t) (σ 32 t) < 0 → 0 ≤ sHouse σ (σ 36 t) (σ 32 t) ∧ sHouse σ (σ 36 t) (σ 32 t) < σ 11 0) (hm22 : ∀ b, 0 ≤ σ 22 b ∧ σ 22 b ≤ 20) (hpw : ∀ j, 0 ≤ σ 20 j ∧ σ 20 j ≤ 1000) (hv19 : ¬ σ 36 t < 0 → ∀ j, 0 ≤ σ 19 j ∧ σ 19 j < σ 11 0) : CN l yX10_splitCharge wsX10_splitCharge ({ frames := 5, cells := 0, slots := 0, locals := 117 } : Room) D cy d0 A [.ref (la 0 0), .ref (la 10 t)] la τ (fun v' la' υ => v' = some (.long (lI (sChg σ t))) ∧ la' = la ∧ ∀ q, q ≠ 51 → q ≠ 52 → υ q = τ q) 0 0 := by
  have he2 : ∀ f, (f != 50 && f != 51 && f != 52) = true → τ f = σ f := fun f hf => by
    simp only [Bool.and_eq_true, bne_iff_ne, ne_eq] at hf
    exact he f hf.1.1 hf.1.2 hf.2
  have hH : ∀ b d, sHouse τ b d = sHouse σ b d := fun b d => sHouse_c (he2 16 rfl) (he2 17 rfl) (he2 18 rfl) b d
  have h := c_splitCharge l D cy d0 A la τ (t := t) (by rw [he2 45 rfl]; exact ht) (by rw [he2 45 rfl]; exact hn45) (by rw [he2 11 rfl]; exact hn11) (by rw [he2 23 rfl]; exact hn23) (by rw [he2 40 rfl, he2 36 rfl]; exact hcb) (by rw [he2 36 rfl, he2 23 rfl]; exact hbn) (by rw [he2 42 rfl]; exact h42) (by rw [he2 43 rfl]; exact h43) (by rw [he2 39 rfl]; exact h39) (by rw [he2 32 rfl]; exact hd) (by rw [he2 18 rfl]; exact hm) (by rw [he2 16 rfl]; exact hv) (by rw [he2 36 rfl, he2 32 rfl, hH, he2 11 rfl]; exact hho) (by rw [he2 22 rfl]; exact hm22) (by rw [he2 20 rfl]; exact hpw) (by rw [he2 36 rfl, he2 19 rfl, he2 11 rfl]; exact hv19)
  have e : sChg τ t = sChg σ t := sChg_u (fun f hf => he2 f (by
    simp only [okG, Bool.or_eq_true, beq_iff_eq] at hf
    simp only [Bool.and_eq_true, bne_iff_ne, ne_eq]
    omega)) (fun f hf => congrFun (he2 f (by
    simp only [okU, Bool.or_eq_true, beq_iff_eq] at hf
    simp only [Bool.and_eq_true, bne_iff_ne, ne_eq]
    omega)) t)
  rw [e] at h
  refine CN.imp h (fun v' la' υ hq => ⟨hq.1, hq.2.1, hq.2.2.1⟩)
set_option maxHeartbeats 4000000 in
set_option maxRecDepth 100000 in
theorem c_p_weigh (l : Launch) (hlt : l.stackTraces = false) (D : va_G) (cy : Nat → ClassId) (d0 : Nat) (A : Nat → Prop) (la : Nat → Int → Nat) (σ : MS) {t : Int} {g : Int} (h_t : -2147483648 ≤ t ∧ t < 2147483648) (h_g : -2147483648 ≤ g ∧ g < 2147483648) (hn5 : 0 ≤ σ 5 0 ∧ σ 5 0 ≤ 1000) (hn11 : 0 ≤ σ 11 0 ∧ σ 11 0 ≤ 1000) (hn23 : 0 ≤ σ 23 0 ∧ σ 23 0 ≤ 1000) (hn27 : 0 ≤ σ 27 0 ∧ σ 27 0 ≤ 1000) (hn45 : 0 ≤ σ 45 0 ∧ σ 45 0 ≤ 600) (hlg : σ 58 0 = 0 ∧ σ 59 0 = 0) (hn11b : σ 11 0 ≤ 60) (hcbA : ∀ t, σ 40 t = 1 → 0 ≤ σ 36 t) (hbnA : ∀ t, 0 ≤ t → t < σ 45 0 → ¬ σ 36 t < 0 → 0 ≤ σ 36 t ∧ σ 36 t < σ 23 0) (h42A : ∀ t, 0 ≤ σ 42 t ∧ σ 42 t ≤ 100000) (h43A : ∀ t, 0 ≤ σ 43 t ∧ σ 43 t ≤ 100000) (h39A : ∀ t, 0 ≤ σ 39 t ∧ σ 39 t ≤ 3000000) (hdA : ∀ t, 0 ≤ σ 32 t ∧ σ 32 t ≤ 699) (hm : ∀ b, 0 ≤ σ 18 b ∧ σ 18 b ≤ 8) (hv : ∀ j, 0 ≤ σ 16 j) (hhoA : ∀ b d, 0 ≤ b → b < σ 23 0 → ¬ sHouse σ b d < 0 → 0 ≤ sHouse σ b d ∧ sHouse σ b d < σ 11 0) (hm22 : ∀ b, 0 ≤ σ 22 b ∧ σ 22 b ≤ 20) (hpw : ∀ j, 0 ≤ σ 20 j ∧ σ 20 j ≤ 1000) (hv19A : 0 < σ 23 0 → ∀ j, 0 ≤ σ 19 j ∧ σ 19 j < σ 11 0) (hct : ∀ t, 0 ≤ t → t < σ 45 0 → 0 ≤ σ 33 t ∧ σ 33 t < σ 27 0) (h25 : ∀ j, 0 ≤ σ 25 j ∧ σ 25 j ≤ 1000000000) (hod : ∀ t, 0 ≤ t → t < σ 45 0 → σ 32 t ≤ σ 1 0) (hneg : ∀ t, σ 36 t < 0 → ¬ sHouse σ (σ 36 t) (σ 32 t) < 0 → 0 ≤ sHouse σ (σ 36 t) (σ 32 t) ∧ sHouse σ (σ 36 t) (σ 32 t) < σ 11 0) (h44A : ∀ t, -1 ≤ σ 44 t ∧ σ 44 t ≤ 1000000) (hwp : ∀ t, 0 ≤ t → t < σ 45 0 → σ 38 t = 1 → σ 32 t < σ 1 0 → 0 ≤ g → 0 ≤ weighP σ t g) : CT l yX10_weigh wsX10_weigh ({ frames := 8, cells := 16, slots := 256, locals := 165 } : Room) D cy d0 A [.ref (la 0 0), .int (iI t), .int (iI g)] la σ ((if weighC σ t g = 1 then 1 else (if weighC σ t g = 2 then 4 else (if weighC σ t g = 3 then 2 else 0)))) (fun v' la' τ => v' = some (.int (iI (g / 500))) ∧ la' = la ∧ (∀ q, q ≠ 50 → q ≠ 51 → q ≠ 52 → τ q = weighS σ t g q) ∧ ∀ h, 0 ≤ h → h < σ 11 0 → τ 50 h = if σ 32 t = σ 1 0 then σ 50 h else σ 50 h - sShr σ t h + sShr (weighS σ t g) t h) 16 256 := by
  refine ct_of (cc := cX10_weigh) (nL := 4) (ret := (some .int)) (by decide) rfl (Nat.le_of_ble_eq_true rfl) ?_
  intro p e s m args below meth c ls E hout hr hlk hK hC hS hl
  have B := E.1
  have hml := E.2.1
  have hown := E.2.2.1
  have hts0 := E.2.2.2.1
  have hts := E.2.2.2.1
  have hw := hC.2.2.2.2.2.1
  refine x_aload_n B hl dX10_weigh_0 rfl ?_
  refine x_iload_n B hl dX10_weigh_1 rfl ?_
  refine ctm_call E hout hlk hK hC hS hl (κ := 0) (i := 0) (by decide) cl_0 rfl (c_tipAt l hlt D cy d0 A la _ (z := t) h_t (by omega) (by omega) hlg) (cwV 1 hts0 gX10_weigh_X10_tipAt rfl rfl rfl (by decide +kernel) ⟨Nat.le_of_ble_eq_true rfl, Nat.le_of_ble_eq_true rfl⟩) rfl rfl (Nat.le_of_ble_eq_true rfl) dX10_weigh_2 ⟨Nat.le_of_ble_eq_true rfl, Nat.le_of_ble_eq_true rfl⟩ ⟨Nat.le_of_ble_eq_true rfl, Nat.le_of_ble_eq_true rfl⟩ (fun h => ⟨by unfold weighC; omega, rfl⟩) (fun h9_2 H locs ht1 hC hS => ?_)
  refine x_astore_n B hl dX10_weigh_5 (by decide) (fun ls hl => ?_)
  refine x_aload_n B hl dX10_weigh_6 rfl ?_
  refine co_geti (f := 38) E hC 10 (by decide) (cl_10 ht1) rfl (fun z h => List.mem_cons_of_mem _ (List.mem_append_left _ (List.mem_append_left _ (List.mem_append_left _ (List.mem_append_left _ (List.mem_append_left _ (List.mem_append_left _ (List.mem_append_left _ (List.mem_append_left _ (List.mem_append_left _ (List.mem_append_left _ (List.mem_append_right _ h)))))))))))) 6 (by decide) (hts (.fieldLink RX10 208 "BinRounds$Tip" "weighing" "I") (by decide +kernel)) (fun x hx => hx) dX10_weigh_7 ⟨rfl, rfl, rfl⟩ rfl (fun r_7 => ?_)
  refine x_iconst B dX10_weigh_10 ?_
  refine x_icmp_ne (tgt := 18) B dX10_weigh_11 (by decide) (by omega) (by omega) (fun c_11 => ?_) (fun c_11 => ?_)
  · refine x_iconst B dX10_weigh_18 ?_
    refine cstm_call E hout hlk hK hC hS hl (c_requireThere l hlt D cy d0 A la _ (z := 0) (Or.inl rfl)) (va_cwS 1 hts0 gX10_weigh_X10_requireThere rfl rfl rfl (by decide +kernel) ⟨Nat.le_of_ble_eq_true rfl, Nat.le_of_ble_eq_true rfl⟩) rfl rfl (Nat.le_of_ble_eq_true rfl) dX10_weigh_19 ⟨Nat.le_of_ble_eq_true rfl, Nat.le_of_ble_eq_true rfl⟩ ⟨Nat.le_of_ble_eq_true rfl, Nat.le_of_ble_eq_true rfl⟩ (fun h => ⟨by unfold weighC; omega, rfl⟩) (fun h9_19 H locs q_19 hC hS => ?_)
    refine x_iload_n B hl dX10_weigh_22 rfl ?_
    refine x_i2l B dX10_weigh_23 (by omega) ?_
    refine x_lconst B dX10_weigh_24 ?_
    refine lv_ldc2 (v := lI 200000) B.1 B.2 hown (hts (.constantLong RX10 197 (200000)) (by decide +kernel)) dX10_weigh_25 ?_
    refine z_call ⟨B.1, B.2, hml, hown, hts0⟩ hl (c_isWithin l (v := g) (a := 0) (b := 200000) (by omega) (by omega) (by omega)) (va_cwS 3 hts0 gX10_weigh_X10_isWithin rfl rfl rfl (by decide +kernel) ⟨Nat.le_of_ble_eq_true rfl, Nat.le_of_ble_eq_true rfl⟩) rfl rfl (Nat.le_of_ble_eq_true rfl) dX10_weigh_28 ⟨Nat.le_of_ble_eq_true rfl, Nat.le_of_ble_eq_true rfl⟩ (fun q_28 => ?_)
    refine x_bool (fun b_28 => ?_) (fun b_28 => ?_)
    · refine cstm_call E hout hlk hK hC hS hl (c_require l hlt D cy d0 A la _ (z := 1) (Or.inr rfl)) (va_cwS 1 hts0 gX10_weigh_X10_require rfl rfl rfl (by decide +kernel) ⟨Nat.le_of_ble_eq_true rfl, Nat.le_of_ble_eq_true rfl⟩) rfl rfl (Nat.le_of_ble_eq_true rfl) dX10_weigh_31 ⟨Nat.le_of_ble_eq_true rfl, Nat.le_of_ble_eq_true rfl⟩ ⟨Nat.le_of_ble_eq_true rfl, Nat.le_of_ble_eq_true rfl⟩ (fun h => ⟨by unfold weighC; omega, rfl⟩) (fun h9_31 H locs q_31 hC hS => ?_)
      refine x_aload_n B hl dX10_weigh_34 rfl ?_
      refine x_iconst B dX10_weigh_35 ?_
      refine co_puti (f := 38) E hC hS 10 (by decide) (cl_10 ht1) rfl (fun z h => List.mem_cons_of_mem _ (List.mem_append_left _ (List.mem_append_left _ (List.mem_append_left _ (List.mem_append_left _ (List.mem_append_left _ (List.mem_append_left _ (List.mem_append_left _ (List.mem_append_left _ (List.mem_append_left _ (List.mem_append_left _ (List.mem_append_right _ h)))))))))))) tyX9 tyX9_ok nmX9 6 (by decide) (hts (.fieldLink RX10 208 "BinRounds$Tip" "weighing" "I") (by decide +kernel)) (fun x hx => hx) rfl rfl dX10_weigh_36 (by decide) ⟨rfl, rfl, rfl, rfl⟩ (by omega) (fun H locs hC hS => ?_)
      have h25q := h25 (σ 33 t)
      refine x_aload_n B hl dX10_weigh_39 rfl ?_
      refine x_iload_n B hl dX10_weigh_40 rfl ?_
      refine x_sipush B dX10_weigh_41 (by decide) ?_
      refine x_idiv B dX10_weigh_44 (by omega) (by omega) ?_
      refine co_puti (f := 35) E hC hS 10 (by decide) (cl_up (by decide) (cl_10 ht1)) rfl (fun z h => List.mem_cons_of_mem _ (List.mem_append_left _ (List.mem_append_left _ (List.mem_append_left _ (List.mem_append_left _ (List.mem_append_left _ (List.mem_append_left _ (List.mem_append_left _ (List.mem_append_left _ (List.mem_append_left _ (List.mem_append_left _ (List.mem_append_right _ h)))))))))))) tyX9 tyX9_ok nmX9 3 (by decide) (hts (.fieldLink RX10 219 "BinRounds$Tip" "halves" "I") (by decide +kernel)) (fun x hx => hx) rfl rfl dX10_weigh_45 (by decide) ⟨rfl, rfl, rfl, rfl⟩ (by omega) (fun H locs hC hS => ?_)
      refine x_aload_n B hl dX10_weigh_48 rfl ?_
      refine co_getR (x := la 9 (σ 33 t)) E hC 10 (by decide) (cl_up (by decide) (cl_up (by decide) (cl_10 ht1))) rfl (fun z h => List.mem_cons_of_mem _ (List.mem_append_left _ (List.mem_append_left _ (List.mem_append_left _ (List.mem_append_left _ (List.mem_append_left _ (List.mem_append_left _ (List.mem_append_left _ (List.mem_append_left _ (List.mem_append_left _ (List.mem_append_left _ (List.mem_append_right _ h)))))))))))) 1 (by decide) (hts (.fieldLink RX10 253 "BinRounds$Tip" "carrier" "LBinRounds$Cart;") (by decide +kernel)) (fun x hx => hx) dX10_weigh_49 rfl rfl ?_
      refine x_dup B dX10_weigh_52 rfl ?_
      refine co_geti (f := 25) E hC 9 (by decide) (cl_up (by decide) (cl_up (by decide) (cl_9 (hct t ht1.1 ht1.2)))) rfl (fun z h => List.mem_cons_of_mem _ (List.mem_append_left _ (List.mem_append_left _ (List.mem_append_left _ (List.mem_append_left _ (List.mem_append_left _ (List.mem_append_left _ (List.mem_append_left _ (List.mem_append_left _ (List.mem_append_left _ (List.mem_append_right _ h))))))))))) 2 (by decide) (hts (.fieldLink RX10 287 "BinRounds$Cart" "carry" "I") (by decide +kernel)) (fun x hx => hx) dX10_weigh_53 ⟨rfl, rfl, rfl⟩ (up_ne (by decide) (up_ne (by decide) rfl)) (fun r_53 => ?_)
      refine x_iload_n B hl dX10_weigh_56 rfl ?_
      refine x_sipush B dX10_weigh_57 (by decide) ?_
      refine x_irem B dX10_weigh_60 (by omega) (by omega) ?_
      refine x_iadd B dX10_weigh_61 ?_
      refine co_puti (f := 25) E hC hS 9 (by decide) (cl_up (by decide) (cl_up (by decide) (cl_9 (hct t ht1.1 ht1.2)))) rfl (fun z h => List.mem_cons_of_mem _ (List.mem_append_left _ (List.mem_append_left _ (List.mem_append_left _ (List.mem_append_left _ (List.mem_append_left _ (List.mem_append_left _ (List.mem_append_left _ (List.mem_append_left _ (List.mem_append_left _ (List.mem_append_right _ h))))))))))) tyX2 tyX2_ok nmX2 2 (by decide) (hts (.fieldLink RX10 287 "BinRounds$Cart" "carry" "I") (by decide +kernel)) (fun x hx => hx) rfl rfl dX10_weigh_62 (by decide) ⟨rfl, rfl, rfl, rfl⟩ (by omega) (fun H locs hC hS => ?_)
      have hday := hod t ht1.1 ht1.2
      refine x_aload_n B hl dX10_weigh_65 rfl ?_
      refine co_geti (f := 32) E hC 10 (by decide) (cl_up (by decide) (cl_up (by decide) (cl_up (by decide) (cl_10 ht1)))) rfl (fun z h => List.mem_cons_of_mem _ (List.mem_append_left _ (List.mem_append_left _ (List.mem_append_left _ (List.mem_append_left _ (List.mem_append_left _ (List.mem_append_left _ (List.mem_append_left _ (List.mem_append_left _ (List.mem_append_left _ (List.mem_append_left _ (List.mem_append_right _ h)))))))))))) 0 (by decide) (hts (.fieldLink RX10 229 "BinRounds$Tip" "day" "I") (by decide +kernel)) (fun x hx => hx) dX10_weigh_66 ⟨rfl, rfl, rfl⟩ (up_ne (by decide) (up_ne (by decide) (up_ne (by decide) rfl))) (fun r_66 => ?_)
      refine x_aload_n B hl dX10_weigh_69 rfl ?_
      refine co_geti (f := 1) E hC 0 (by decide) cl_0 rfl (fun z h => List.mem_cons_of_mem _ (List.mem_append_left _ (List.mem_append_left _ (List.mem_append_left _ (List.mem_append_left _ (List.mem_append_left _ (List.mem_append_left _ (List.mem_append_left _ (List.mem_append_left _ (List.mem_append_right _ h)))))))))) 8 (by decide) (hts (.fieldLink RX10 49 "BinRounds" "open" "I") (by decide +kernel)) (fun x hx => hx) dX10_weigh_70 ⟨rfl, rfl, rfl⟩ (up_ne (by decide) (up_ne (by decide) (up_ne (by decide) rfl))) (fun r_70 => ?_)
      refine x_icmp_ge (tgt := 97) B dX10_weigh_73 (by decide) (by omega) (by omega) (fun c_73 => ?_) (fun c_73 => ?_)
      · refine x_aload_n B hl dX10_weigh_97 rfl ?_
        refine co_geti (f := 35) E hC 10 (by decide) (cl_up (by decide) (cl_up (by decide) (cl_up (by decide) (cl_10 ht1)))) rfl (fun z h => List.mem_cons_of_mem _ (List.mem_append_left _ (List.mem_append_left _ (List.mem_append_left _ (List.mem_append_left _ (List.mem_append_left _ (List.mem_append_left _ (List.mem_append_left _ (List.mem_append_left _ (List.mem_append_left _ (List.mem_append_left _ (List.mem_append_right _ h)))))))))))) 3 (by decide) (hts (.fieldLink RX10 219 "BinRounds$Tip" "halves" "I") (by decide +kernel)) (fun x hx => hx) dX10_weigh_98 ⟨rfl, rfl, rfl⟩ (up_ne (by decide) up_s) (fun r_98 => ?_)
        first | (exact w_widen (Nat.le_of_ble_eq_true rfl) (Nat.le_of_ble_eq_true rfl) (vx_ret (co_iret E hr rfl hlk hC hS dX10_weigh_101 ⟨(by unfold weighC; omega), rfl, rfl, fun q a b c => by unfold weighS; rw [if_pos (by omega)], fun h a b => by rw [if_pos (by omega)]; rfl⟩))) | (exact w_widen (Nat.le_of_ble_eq_true rfl) (Nat.le_of_ble_eq_true rfl) (vx_ret (co_iret E hr rfl hlk hC hS dX10_weigh_101 ⟨(by unfold weighC; omega), rfl, rfl, fun q a b c => (qy.1 q a b c).trans (wS q a b c), fun h a b => by rw [if_neg (by omega), qy.2 h a b, sh2, up_f (by decide), qx.2 h a b, sh1, e1]; show σ 50 h + -1 * sShr σ t h + 1 * sShr (weighS σ t g) t h = _; omega⟩)))
      · obtain ⟨σ1, e1⟩ : ∃ z, z = up (up (up σ 38 t 2) 35 t (g / 500)) 25 (σ 33 t) (σ 25 (σ 33 t) + g % 500) := ⟨_, rfl⟩
        have f1 : ∀ f, (f != 38 && f != 35 && f != 25) = true → σ1 f = σ f := fun f hf => by
          simp only [Bool.and_eq_true, bne_iff_ne, ne_eq] at hf
          rw [e1, up_f hf.2, up_f hf.1.2, up_f hf.1.1]
        have f35 : σ1 35 t = g / 500 := by rw [e1, up_f (by decide)]; exact up_s
        have hC0 := hC
        replace hC : CP D cy d0 A la σ1 H := by rw [e1]; exact hC0
        have w1 : ∀ f, okw f = true → σ1 f = σ f := fun f hf => f1 f (by
          simp only [okw, Bool.and_eq_true, bne_iff_ne, ne_eq] at hf
          simp only [Bool.and_eq_true, bne_iff_ne, ne_eq]
          omega)
        have sh1 : ∀ h, sShr σ1 t h = sShr σ t h := fun h => sShr_u (fun f hf => f1 f (by
          simp only [okG, Bool.or_eq_true, beq_iff_eq] at hf
          simp only [Bool.and_eq_true, bne_iff_ne, ne_eq]
          omega)) (fun f hf => congrFun (f1 f (by
          simp only [okU, Bool.or_eq_true, beq_iff_eq] at hf
          simp only [Bool.and_eq_true, bne_iff_ne, ne_eq]
          omega)) t) h
        have hwS : weighS σ t g = up σ1 39 t (weighP σ t g) := by unfold weighS; rw [if_neg (by omega), e1]
        have hnb : ¬ σ 36 t < 0 ∨ σ 36 t < 0 := by omega
        have hho9 : ¬ sHouse σ (σ 36 t) (σ 32 t) < 0 → 0 ≤ sHouse σ (σ 36 t) (σ 32 t) ∧ sHouse σ (σ 36 t) (σ 32 t) < σ 11 0 := fun z => by
          rcases hnb with h | h
          · exact hhoA _ _ (hbnA t ht1.1 ht1.2 h).1 (hbnA t ht1.1 ht1.2 h).2 z
          · exact hneg t h z
        have hpl : ∀ τ1 : MS, (∀ q, q ≠ 50 → q ≠ 51 → q ≠ 52 → τ1 q = σ1 q) → CM l yX10_payableLater wsX10_payableLater ({ frames := 3, cells := 0, slots := 0, locals := 64 } : Room) D cy d0 A [.ref (la 0 0), .ref (la 10 t)] la τ1 (some (.int (iI (weighP σ t g)))) τ1 (0 ≤ weighP σ t g ∧ weighP σ t g ≤ 3000000) := fun τ1 hq => by
          have k1 : ∀ f, (f != 38 && f != 35 && f != 25 && f != 50 && f != 51 && f != 52) = true → τ1 f = σ f := fun f hf => by
            simp only [Bool.and_eq_true, bne_iff_ne, ne_eq] at hf
            rw [hq f (by omega) (by omega) (by omega)]
            exact f1 f (by simp only [Bool.and_eq_true, bne_iff_ne, ne_eq]; omega)
          have k35 : τ1 35 t = g / 500 := by rw [hq 35 (by decide) (by decide) (by decide)]; exact f35
          have kO : sOth τ1 t = sOth σ t := by
            unfold sOth
            rw [k1 45 rfl]
            congr 1
            funext u
            unfold sOt
            rw [k1 32 rfl, k1 33 rfl, k1 39 rfl]
          have hp := c_payableLater l D cy d0 A la τ1 (t := t) (by rw [k1 45 rfl]; exact ht1) (by rw [k1 45 rfl]; exact hn45) (by rw [k1 23 rfl]; exact hn23) (by rw [k1 58 rfl, k1 59 rfl]; exact hlg) (by rw [k1 39 rfl]; exact h39A) (by rw [k35]; omega) (by rw [k1 44 rfl]; exact h44A t) (by rw [k1 45 rfl, k1 33 rfl, k1 27 rfl]; exact hct)
          rw [k1 44 rfl, kO, k35] at hp
          have hw9 := hwp t ht1.1 ht1.2
          have hw8 : weighP σ t g ≤ g / 500 := by unfold weighP; split <;> (try split) <;> omega
          exact CN.imp hp (fun v' la' τ hz => ⟨hz.1, hz.2.1, hz.2.2.1, hw9 (by omega) (by omega) (by omega), by omega⟩)
        
        refine x_aload_n B hl dX10_weigh_76 rfl ?_
        refine x_aload_n B hl dX10_weigh_77 rfl ?_
        refine x_iconst B dX10_weigh_78 ?_
        refine co_callX E hK hC hS hl (κ := 0) (i := 0) (by decide) cl_0 rfl (c_addSharesE l D cy d0 A la σ σ1 w1 (t := t) (sg := -1) ht1 hn45 (by omega) hn23 (hcbA t) (hbnA t ht1.1 ht1.2) (h42A t) (h43A t) (h39A t) (hdA t) hm hv hho9 hm22 hpw (fun z => hv19A (by have := hbnA t ht1.1 ht1.2 z; omega)) (by rw [f1 39 rfl]; exact h39A t) (by decide)) (cwV 2 hts0 gX10_weigh_X10_addShares rfl rfl rfl (by decide +kernel) ⟨Nat.le_of_ble_eq_true rfl, Nat.le_of_ble_eq_true rfl⟩) rfl rfl (Nat.le_of_ble_eq_true rfl) dX10_weigh_79 ⟨Nat.le_of_ble_eq_true rfl, Nat.le_of_ble_eq_true rfl⟩ (fun H locs τ1 qx hC hS => ?_)
        have g1 : ∀ f, (f != 38 && f != 35 && f != 25 && f != 50 && f != 51 && f != 52) = true → τ1 f = σ f := fun f hf => by
          simp only [Bool.and_eq_true, bne_iff_ne, ne_eq] at hf
          rw [qx.1 f (by omega) (by omega) (by omega)]
          exact f1 f (by simp only [Bool.and_eq_true, bne_iff_ne, ne_eq]; omega)
        refine x_aload_n B hl dX10_weigh_82 rfl ?_
        refine x_aload_n B hl dX10_weigh_83 rfl ?_
        refine x_aload_n B hl dX10_weigh_84 rfl ?_
        refine co_call E hK hC hS hl (κ := 0) (i := 0) (by decide) cl_0 rfl (hpl τ1 qx.1) (cwV 1 hts0 gX10_weigh_X10_payableLater rfl rfl rfl (by decide +kernel) ⟨Nat.le_of_ble_eq_true rfl, Nat.le_of_ble_eq_true rfl⟩) rfl rfl (Nat.le_of_ble_eq_true rfl) dX10_weigh_85 ⟨Nat.le_of_ble_eq_true rfl, Nat.le_of_ble_eq_true rfl⟩ (fun H locs q_w hC hS => ?_)
        refine co_puti (f := 39) E hC hS 10 (by decide) (cl_q (⟨g1 _ rfl, g1 _ rfl, g1 _ rfl, g1 _ rfl, g1 _ rfl, g1 _ rfl, g1 _ rfl⟩ : cLq σ τ1) (cl_10 ht1)) rfl (fun z h => List.mem_cons_of_mem _ (List.mem_append_left _ (List.mem_append_left _ (List.mem_append_left _ (List.mem_append_left _ (List.mem_append_left _ (List.mem_append_left _ (List.mem_append_left _ (List.mem_append_left _ (List.mem_append_left _ (List.mem_append_left _ (List.mem_append_right _ h)))))))))))) tyX9 tyX9_ok nmX9 7 (by decide) (hts (.fieldLink RX10 260 "BinRounds$Tip" "paid" "I") (by decide +kernel)) (fun x hx => hx) rfl rfl dX10_weigh_88 (by decide) ⟨rfl, rfl, rfl, rfl⟩ (by omega) (fun H locs hC hS => ?_)
        have w2 : ∀ f, okw f = true → up τ1 39 t (weighP σ t g) f = σ f := fun f hf => by
          simp only [okw, Bool.and_eq_true, bne_iff_ne, ne_eq] at hf
          rw [up_f (by omega)]
          exact g1 f (by simp only [Bool.and_eq_true, bne_iff_ne, ne_eq]; omega)
        have wS : ∀ q, q ≠ 50 → q ≠ 51 → q ≠ 52 → up τ1 39 t (weighP σ t g) q = weighS σ t g q := fun q a b c => by
          rw [hwS]
          funext j
          rw [up_rd, up_rd, qx.1 q a b c]
        have sh2 : ∀ h, sShr (up τ1 39 t (weighP σ t g)) t h = sShr (weighS σ t g) t h := fun h => sShr_u (fun f hf => wS f (by
          simp only [okG, Bool.or_eq_true, beq_iff_eq] at hf; omega) (by
          simp only [okG, Bool.or_eq_true, beq_iff_eq] at hf; omega) (by
          simp only [okG, Bool.or_eq_true, beq_iff_eq] at hf; omega)) (fun f hf => congrFun (wS f (by
          simp only [okU, Bool.or_eq_true, beq_iff_eq] at hf; omega) (by
          simp only [okU, Bool.or_eq_true, beq_iff_eq] at hf; omega) (by
          simp only [okU, Bool.or_eq_true, beq_iff_eq] at hf; omega)) t) h
        refine x_aload_n B hl dX10_weigh_91 rfl ?_
        refine x_aload_n B hl dX10_weigh_92 rfl ?_
        refine x_iconst B dX10_weigh_93 ?_
        refine co_callX E hK hC hS hl (κ := 0) (i := 0) (by decide) cl_0 rfl (c_addSharesE l D cy d0 A la σ (up τ1 39 t (weighP σ t g)) w2 (t := t) (sg := 1) ht1 hn45 (by omega) hn23 (hcbA t) (hbnA t ht1.1 ht1.2) (h42A t) (h43A t) (h39A t) (hdA t) hm hv hho9 hm22 hpw (fun z => hv19A (by have := hbnA t ht1.1 ht1.2 z; omega)) (by rw [up_s]; exact q_w) (by decide)) (cwV 2 hts0 gX10_weigh_X10_addShares rfl rfl rfl (by decide +kernel) ⟨Nat.le_of_ble_eq_true rfl, Nat.le_of_ble_eq_true rfl⟩) rfl rfl (Nat.le_of_ble_eq_true rfl) dX10_weigh_94 ⟨Nat.le_of_ble_eq_true rfl, Nat.le_of_ble_eq_true rfl⟩ (fun H locs τ2 qy hC hS => ?_)
        have g2 : ∀ f, okw f = true → τ2 f = σ f := fun f hf => by
          have hf2 := hf
          simp only [okw, Bool.and_eq_true, bne_iff_ne, ne_eq] at hf2
          rw [qy.1 f (by omega) (by omega) (by omega)]
          exact w2 f hf
        have g35 : τ2 35 t = g / 500 := by
          rw [qy.1 35 (by decide) (by decide) (by decide), up_f (by decide), qx.1 35 (by decide) (by decide) (by decide)]
          exact f35
        refine x_aload_n B hl dX10_weigh_97 rfl ?_
        refine co_geti (f := 35) E hC 10 (by decide) (cl_q (⟨g2 _ rfl, g2 _ rfl, g2 _ rfl, g2 _ rfl, g2 _ rfl, g2 _ rfl, g2 _ rfl⟩ : cLq σ τ2) (cl_10 ht1)) rfl (fun z h => List.mem_cons_of_mem _ (List.mem_append_left _ (List.mem_append_left _ (List.mem_append_left _ (List.mem_append_left _ (List.mem_append_left _ (List.mem_append_left _ (List.mem_append_left _ (List.mem_append_left _ (List.mem_append_left _ (List.mem_append_left _ (List.mem_append_right _ h)))))))))))) 3 (by decide) (hts (.fieldLink RX10 219 "BinRounds$Tip" "halves" "I") (by decide +kernel)) (fun x hx => hx) dX10_weigh_98 ⟨rfl, rfl, rfl⟩ g35 (fun r_98 => ?_)
        first | (exact w_widen (Nat.le_of_ble_eq_true rfl) (Nat.le_of_ble_eq_true rfl) (vx_ret (co_iret E hr rfl hlk hC hS dX10_weigh_101 ⟨(by unfold weighC; omega), rfl, rfl, fun q a b c => by unfold weighS; rw [if_pos (by omega)], fun h a b => by rw [if_pos (by omega)]; rfl⟩))) | (exact w_widen (Nat.le_of_ble_eq_true rfl) (Nat.le_of_ble_eq_true rfl) (vx_ret (co_iret E hr rfl hlk hC hS dX10_weigh_101 ⟨(by unfold weighC; omega), rfl, rfl, fun q a b c => (qy.1 q a b c).trans (wS q a b c), fun h a b => by rw [if_neg (by omega), qy.2 h a b, sh2, up_f (by decide), qx.2 h a b, sh1, e1]; show σ 50 h + -1 * sShr σ t h + 1 * sShr (weighS σ t g) t h = _; omega⟩)))
    · refine cstm_call E hout hlk hK hC hS hl (c_require l hlt D cy d0 A la _ (z := 0) (Or.inl rfl)) (va_cwS 1 hts0 gX10_weigh_X10_require rfl rfl rfl (by decide +kernel) ⟨Nat.le_of_ble_eq_true rfl, Nat.le_of_ble_eq_true rfl⟩) rfl rfl (Nat.le_of_ble_eq_true rfl) dX10_weigh_31 ⟨Nat.le_of_ble_eq_true rfl, Nat.le_of_ble_eq_true rfl⟩ ⟨Nat.le_of_ble_eq_true rfl, Nat.le_of_ble_eq_true rfl⟩ (fun h => ⟨by unfold weighC; omega, rfl⟩) (fun h9_31 H locs q_31 hC hS => ?_)
      refine x_aload_n B hl dX10_weigh_34 rfl ?_
      refine x_iconst B dX10_weigh_35 ?_
      refine co_puti (f := 38) E hC hS 10 (by decide) (cl_10 ht1) rfl (fun z h => List.mem_cons_of_mem _ (List.mem_append_left _ (List.mem_append_left _ (List.mem_append_left _ (List.mem_append_left _ (List.mem_append_left _ (List.mem_append_left _ (List.mem_append_left _ (List.mem_append_left _ (List.mem_append_left _ (List.mem_append_left _ (List.mem_append_right _ h)))))))))))) tyX9 tyX9_ok nmX9 6 (by decide) (hts (.fieldLink RX10 208 "BinRounds$Tip" "weighing" "I") (by decide +kernel)) (fun x hx => hx) rfl rfl dX10_weigh_36 (by decide) ⟨rfl, rfl, rfl, rfl⟩ (by omega) (fun H locs hC hS => ?_)
      have h25q := h25 (σ 33 t)
      refine x_aload_n B hl dX10_weigh_39 rfl ?_
      refine x_iload_n B hl dX10_weigh_40 rfl ?_
      refine x_sipush B dX10_weigh_41 (by decide) ?_
      refine x_idiv B dX10_weigh_44 (by omega) (by omega) ?_
      refine co_puti (f := 35) E hC hS 10 (by decide) (cl_up (by decide) (cl_10 ht1)) rfl (fun z h => List.mem_cons_of_mem _ (List.mem_append_left _ (List.mem_append_left _ (List.mem_append_left _ (List.mem_append_left _ (List.mem_append_left _ (List.mem_append_left _ (List.mem_append_left _ (List.mem_append_left _ (List.mem_append_left _ (List.mem_append_left _ (List.mem_append_right _ h)))))))))))) tyX9 tyX9_ok nmX9 3 (by decide) (hts (.fieldLink RX10 219 "BinRounds$Tip" "halves" "I") (by decide +kernel)) (fun x hx => hx) rfl rfl dX10_weigh_45 (by decide) ⟨rfl, rfl, rfl, rfl⟩ (by omega) (fun H locs hC hS => ?_)
      refine x_aload_n B hl dX10_weigh_48 rfl ?_
      refine co_getR (x := la 9 (σ 33 t)) E hC 10 (by decide) (cl_up (by decide) (cl_up (by decide) (cl_10 ht1))) rfl (fun z h => List.mem_cons_of_mem _ (List.mem_append_left _ (List.mem_append_left _ (List.mem_append_left _ (List.mem_append_left _ (List.mem_append_left _ (List.mem_append_left _ (List.mem_append_left _ (List.mem_append_left _ (List.mem_append_left _ (List.mem_append_left _ (List.mem_append_right _ h)))))))))))) 1 (by decide) (hts (.fieldLink RX10 253 "BinRounds$Tip" "carrier" "LBinRounds$Cart;") (by decide +kernel)) (fun x hx => hx) dX10_weigh_49 rfl rfl ?_
      refine x_dup B dX10_weigh_52 rfl ?_
      refine co_geti (f := 25) E hC 9 (by decide) (cl_up (by decide) (cl_up (by decide) (cl_9 (hct t ht1.1 ht1.2)))) rfl (fun z h => List.mem_cons_of_mem _ (List.mem_append_left _ (List.mem_append_left _ (List.mem_append_left _ (List.mem_append_left _ (List.mem_append_left _ (List.mem_append_left _ (List.mem_append_left _ (List.mem_append_left _ (List.mem_append_left _ (List.mem_append_right _ h))))))))))) 2 (by decide) (hts (.fieldLink RX10 287 "BinRounds$Cart" "carry" "I") (by decide +kernel)) (fun x hx => hx) dX10_weigh_53 ⟨rfl, rfl, rfl⟩ (up_ne (by decide) (up_ne (by decide) rfl)) (fun r_53 => ?_)
      refine x_iload_n B hl dX10_weigh_56 rfl ?_
      refine x_sipush B dX10_weigh_57 (by decide) ?_
      refine x_irem B dX10_weigh_60 (by omega) (by omega) ?_
      refine x_iadd B dX10_weigh_61 ?_
      refine co_puti (f := 25) E hC hS 9 (by decide) (cl_up (by decide) (cl_up (by decide) (cl_9 (hct t ht1.1 ht1.2)))) rfl (fun z h => List.mem_cons_of_mem _ (List.mem_append_left _ (List.mem_append_left _ (List.mem_append_left _ (List.mem_append_left _ (List.mem_append_left _ (List.mem_append_left _ (List.mem_append_left _ (List.mem_append_left _ (List.mem_append_left _ (List.mem_append_right _ h))))))))))) tyX2 tyX2_ok nmX2 2 (by decide) (hts (.fieldLink RX10 287 "BinRounds$Cart" "carry" "I") (by decide +kernel)) (fun x hx => hx) rfl rfl dX10_weigh_62 (by decide) ⟨rfl, rfl, rfl, rfl⟩ (by omega) (fun H locs hC hS => ?_)
      have hday := hod t ht1.1 ht1.2
      refine x_aload_n B hl dX10_weigh_65 rfl ?_
      refine co_geti (f := 32) E hC 10 (by decide) (cl_up (by decide) (cl_up (by decide) (cl_up (by decide) (cl_10 ht1)))) rfl (fun z h => List.mem_cons_of_mem _ (List.mem_append_left _ (List.mem_append_left _ (List.mem_append_left _ (List.mem_append_left _ (List.mem_append_left _ (List.mem_append_left _ (List.mem_append_left _ (List.mem_append_left _ (List.mem_append_left _ (List.mem_append_left _ (List.mem_append_right _ h)))))))))))) 0 (by decide) (hts (.fieldLink RX10 229 "BinRounds$Tip" "day" "I") (by decide +kernel)) (fun x hx => hx) dX10_weigh_66 ⟨rfl, rfl, rfl⟩ (up_ne (by decide) (up_ne (by decide) (up_ne (by decide) rfl))) (fun r_66 => ?_)
      refine x_aload_n B hl dX10_weigh_69 rfl ?_
      refine co_geti (f := 1) E hC 0 (by decide) cl_0 rfl (fun z h => List.mem_cons_of_mem _ (List.mem_append_left _ (List.mem_append_left _ (List.mem_append_left _ (List.mem_append_left _ (List.mem_append_left _ (List.mem_append_left _ (List.mem_append_left _ (List.mem_append_left _ (List.mem_append_right _ h)))))))))) 8 (by decide) (hts (.fieldLink RX10 49 "BinRounds" "open" "I") (by decide +kernel)) (fun x hx => hx) dX10_weigh_70 ⟨rfl, rfl, rfl⟩ (up_ne (by decide) (up_ne (by decide) (up_ne (by decide) rfl))) (fun r_70 => ?_)
      refine x_icmp_ge (tgt := 97) B dX10_weigh_73 (by decide) (by omega) (by omega) (fun c_73 => ?_) (fun c_73 => ?_)
      · refine x_aload_n B hl dX10_weigh_97 rfl ?_
        refine co_geti (f := 35) E hC 10 (by decide) (cl_up (by decide) (cl_up (by decide) (cl_up (by decide) (cl_10 ht1)))) rfl (fun z h => List.mem_cons_of_mem _ (List.mem_append_left _ (List.mem_append_left _ (List.mem_append_left _ (List.mem_append_left _ (List.mem_append_left _ (List.mem_append_left _ (List.mem_append_left _ (List.mem_append_left _ (List.mem_append_left _ (List.mem_append_left _ (List.mem_append_right _ h)))))))))))) 3 (by decide) (hts (.fieldLink RX10 219 "BinRounds$Tip" "halves" "I") (by decide +kernel)) (fun x hx => hx) dX10_weigh_98 ⟨rfl, rfl, rfl⟩ (up_ne (by decide) up_s) (fun r_98 => ?_)
        first | (exact w_widen (Nat.le_of_ble_eq_true rfl) (Nat.le_of_ble_eq_true rfl) (vx_ret (co_iret E hr rfl hlk hC hS dX10_weigh_101 ⟨(by unfold weighC; omega), rfl, rfl, fun q a b c => by unfold weighS; rw [if_pos (by omega)], fun h a b => by rw [if_pos (by omega)]; rfl⟩))) | (exact w_widen (Nat.le_of_ble_eq_true rfl) (Nat.le_of_ble_eq_true rfl) (vx_ret (co_iret E hr rfl hlk hC hS dX10_weigh_101 ⟨(by unfold weighC; omega), rfl, rfl, fun q a b c => (qy.1 q a b c).trans (wS q a b c), fun h a b => by rw [if_neg (by omega), qy.2 h a b, sh2, up_f (by decide), qx.2 h a b, sh1, e1]; show σ 50 h + -1 * sShr σ t h + 1 * sShr (weighS σ t g) t h = _; omega⟩)))
      · obtain ⟨σ1, e1⟩ : ∃ z, z = up (up (up σ 38 t 2) 35 t (g / 500)) 25 (σ 33 t) (σ 25 (σ 33 t) + g % 500) := ⟨_, rfl⟩
        have f1 : ∀ f, (f != 38 && f != 35 && f != 25) = true → σ1 f = σ f := fun f hf => by
          simp only [Bool.and_eq_true, bne_iff_ne, ne_eq] at hf
          rw [e1, up_f hf.2, up_f hf.1.2, up_f hf.1.1]
        have f35 : σ1 35 t = g / 500 := by rw [e1, up_f (by decide)]; exact up_s
        have hC0 := hC
        replace hC : CP D cy d0 A la σ1 H := by rw [e1]; exact hC0
        have w1 : ∀ f, okw f = true → σ1 f = σ f := fun f hf => f1 f (by
          simp only [okw, Bool.and_eq_true, bne_iff_ne, ne_eq] at hf
          simp only [Bool.and_eq_true, bne_iff_ne, ne_eq]
          omega)
        have sh1 : ∀ h, sShr σ1 t h = sShr σ t h := fun h => sShr_u (fun f hf => f1 f (by
          simp only [okG, Bool.or_eq_true, beq_iff_eq] at hf
          simp only [Bool.and_eq_true, bne_iff_ne, ne_eq]
          omega)) (fun f hf => congrFun (f1 f (by
          simp only [okU, Bool.or_eq_true, beq_iff_eq] at hf
          simp only [Bool.and_eq_true, bne_iff_ne, ne_eq]
          omega)) t) h
        have hwS : weighS σ t g = up σ1 39 t (weighP σ t g) := by unfold weighS; rw [if_neg (by omega), e1]
        have hnb : ¬ σ 36 t < 0 ∨ σ 36 t < 0 := by omega
        have hho9 : ¬ sHouse σ (σ 36 t) (σ 32 t) < 0 → 0 ≤ sHouse σ (σ 36 t) (σ 32 t) ∧ sHouse σ (σ 36 t) (σ 32 t) < σ 11 0 := fun z => by
          rcases hnb with h | h
          · exact hhoA _ _ (hbnA t ht1.1 ht1.2 h).1 (hbnA t ht1.1 ht1.2 h).2 z
          · exact hneg t h z
        have hpl : ∀ τ1 : MS, (∀ q, q ≠ 50 → q ≠ 51 → q ≠ 52 → τ1 q = σ1 q) → CM l yX10_payableLater wsX10_payableLater ({ frames := 3, cells := 0, slots := 0, locals := 64 } : Room) D cy d0 A [.ref (la 0 0), .ref (la 10 t)] la τ1 (some (.int (iI (weighP σ t g)))) τ1 (0 ≤ weighP σ t g ∧ weighP σ t g ≤ 3000000) := fun τ1 hq => by
          have k1 : ∀ f, (f != 38 && f != 35 && f != 25 && f != 50 && f != 51 && f != 52) = true → τ1 f = σ f := fun f hf => by
            simp only [Bool.and_eq_true, bne_iff_ne, ne_eq] at hf
            rw [hq f (by omega) (by omega) (by omega)]
            exact f1 f (by simp only [Bool.and_eq_true, bne_iff_ne, ne_eq]; omega)
          have k35 : τ1 35 t = g / 500 := by rw [hq 35 (by decide) (by decide) (by decide)]; exact f35
          have kO : sOth τ1 t = sOth σ t := by
            unfold sOth
            rw [k1 45 rfl]
            congr 1
            funext u
            unfold sOt
            rw [k1 32 rfl, k1 33 rfl, k1 39 rfl]
          have hp := c_payableLater l D cy d0 A la τ1 (t := t) (by rw [k1 45 rfl]; exact ht1) (by rw [k1 45 rfl]; exact hn45) (by rw [k1 23 rfl]; exact hn23) (by rw [k1 58 rfl, k1 59 rfl]; exact hlg) (by rw [k1 39 rfl]; exact h39A) (by rw [k35]; omega) (by rw [k1 44 rfl]; exact h44A t) (by rw [k1 45 rfl, k1 33 rfl, k1 27 rfl]; exact hct)
          rw [k1 44 rfl, kO, k35] at hp
          have hw9 := hwp t ht1.1 ht1.2
          have hw8 : weighP σ t g ≤ g / 500 := by unfold weighP; split <;> (try split) <;> omega
          exact CN.imp hp (fun v' la' τ hz => ⟨hz.1, hz.2.1, hz.2.2.1, hw9 (by omega) (by omega) (by omega), by omega⟩)
        
        refine x_aload_n B hl dX10_weigh_76 rfl ?_
        refine x_aload_n B hl dX10_weigh_77 rfl ?_
        refine x_iconst B dX10_weigh_78 ?_
        refine co_callX E hK hC hS hl (κ := 0) (i := 0) (by decide) cl_0 rfl (c_addSharesE l D cy d0 A la σ σ1 w1 (t := t) (sg := -1) ht1 hn45 (by omega) hn23 (hcbA t) (hbnA t ht1.1 ht1.2) (h42A t) (h43A t) (h39A t) (hdA t) hm hv hho9 hm22 hpw (fun z => hv19A (by have := hbnA t ht1.1 ht1.2 z; omega)) (by rw [f1 39 rfl]; exact h39A t) (by decide)) (cwV 2 hts0 gX10_weigh_X10_addShares rfl rfl rfl (by decide +kernel) ⟨Nat.le_of_ble_eq_true rfl, Nat.le_of_ble_eq_true rfl⟩) rfl rfl (Nat.le_of_ble_eq_true rfl) dX10_weigh_79 ⟨Nat.le_of_ble_eq_true rfl, Nat.le_of_ble_eq_true rfl⟩ (fun H locs τ1 qx hC hS => ?_)
        have g1 : ∀ f, (f != 38 && f != 35 && f != 25 && f != 50 && f != 51 && f != 52) = true → τ1 f = σ f := fun f hf => by
          simp only [Bool.and_eq_true, bne_iff_ne, ne_eq] at hf
          rw [qx.1 f (by omega) (by omega) (by omega)]
          exact f1 f (by simp only [Bool.and_eq_true, bne_iff_ne, ne_eq]; omega)
        refine x_aload_n B hl dX10_weigh_82 rfl ?_
        refine x_aload_n B hl dX10_weigh_83 rfl ?_
        refine x_aload_n B hl dX10_weigh_84 rfl ?_
        refine co_call E hK hC hS hl (κ := 0) (i := 0) (by decide) cl_0 rfl (hpl τ1 qx.1) (cwV 1 hts0 gX10_weigh_X10_payableLater rfl rfl rfl (by decide +kernel) ⟨Nat.le_of_ble_eq_true rfl, Nat.le_of_ble_eq_true rfl⟩) rfl rfl (Nat.le_of_ble_eq_true rfl) dX10_weigh_85 ⟨Nat.le_of_ble_eq_true rfl, Nat.le_of_ble_eq_true rfl⟩ (fun H locs q_w hC hS => ?_)
        refine co_puti (f := 39) E hC hS 10 (by decide) (cl_q (⟨g1 _ rfl, g1 _ rfl, g1 _ rfl, g1 _ rfl, g1 _ rfl, g1 _ rfl, g1 _ rfl⟩ : cLq σ τ1) (cl_10 ht1)) rfl (fun z h => List.mem_cons_of_mem _ (List.mem_append_left _ (List.mem_append_left _ (List.mem_append_left _ (List.mem_append_left _ (List.mem_append_left _ (List.mem_append_left _ (List.mem_append_left _ (List.mem_append_left _ (List.mem_append_left _ (List.mem_append_left _ (List.mem_append_right _ h)))))))))))) tyX9 tyX9_ok nmX9 7 (by decide) (hts (.fieldLink RX10 260 "BinRounds$Tip" "paid" "I") (by decide +kernel)) (fun x hx => hx) rfl rfl dX10_weigh_88 (by decide) ⟨rfl, rfl, rfl, rfl⟩ (by omega) (fun H locs hC hS => ?_)
        have w2 : ∀ f, okw f = true → up τ1 39 t (weighP σ t g) f = σ f := fun f hf => by
          simp only [okw, Bool.and_eq_true, bne_iff_ne, ne_eq] at hf
          rw [up_f (by omega)]
          exact g1 f (by simp only [Bool.and_eq_true, bne_iff_ne, ne_eq]; omega)
        have wS : ∀ q, q ≠ 50 → q ≠ 51 → q ≠ 52 → up τ1 39 t (weighP σ t g) q = weighS σ t g q := fun q a b c => by
          rw [hwS]
          funext j
          rw [up_rd, up_rd, qx.1 q a b c]
        have sh2 : ∀ h, sShr (up τ1 39 t (weighP σ t g)) t h = sShr (weighS σ t g) t h := fun h => sShr_u (fun f hf => wS f (by
          simp only [okG, Bool.or_eq_true, beq_iff_eq] at hf; omega) (by
          simp only [okG, Bool.or_eq_true, beq_iff_eq] at hf; omega) (by
          simp only [okG, Bool.or_eq_true, beq_iff_eq] at hf; omega)) (fun f hf => congrFun (wS f (by
          simp only [okU, Bool.or_eq_true, beq_iff_eq] at hf; omega) (by
          simp only [okU, Bool.or_eq_true, beq_iff_eq] at hf; omega) (by
          simp only [okU, Bool.or_eq_true, beq_iff_eq] at hf; omega)) t) h
        refine x_aload_n B hl dX10_weigh_91 rfl ?_
        refine x_aload_n B hl dX10_weigh_92 rfl ?_
        refine x_iconst B dX10_weigh_93 ?_
        refine co_callX E hK hC hS hl (κ := 0) (i := 0) (by decide) cl_0 rfl (c_addSharesE l D cy d0 A la σ (up τ1 39 t (weighP σ t g)) w2 (t := t) (sg := 1) ht1 hn45 (by omega) hn23 (hcbA t) (hbnA t ht1.1 ht1.2) (h42A t) (h43A t) (h39A t) (hdA t) hm hv hho9 hm22 hpw (fun z => hv19A (by have := hbnA t ht1.1 ht1.2 z; omega)) (by rw [up_s]; exact q_w) (by decide)) (cwV 2 hts0 gX10_weigh_X10_addShares rfl rfl rfl (by decide +kernel) ⟨Nat.le_of_ble_eq_true rfl, Nat.le_of_ble_eq_true rfl⟩) rfl rfl (Nat.le_of_ble_eq_true rfl) dX10_weigh_94 ⟨Nat.le_of_ble_eq_true rfl, Nat.le_of_ble_eq_true rfl⟩ (fun H locs τ2 qy hC hS => ?_)
        have g2 : ∀ f, okw f = true → τ2 f = σ f := fun f hf => by
          have hf2 := hf
          simp only [okw, Bool.and_eq_true, bne_iff_ne, ne_eq] at hf2
          rw [qy.1 f (by omega) (by omega) (by omega)]
          exact w2 f hf
        have g35 : τ2 35 t = g / 500 := by
          rw [qy.1 35 (by decide) (by decide) (by decide), up_f (by decide), qx.1 35 (by decide) (by decide) (by decide)]
          exact f35
        refine x_aload_n B hl dX10_weigh_97 rfl ?_
        refine co_geti (f := 35) E hC 10 (by decide) (cl_q (⟨g2 _ rfl, g2 _ rfl, g2 _ rfl, g2 _ rfl, g2 _ rfl, g2 _ rfl, g2 _ rfl⟩ : cLq σ τ2) (cl_10 ht1)) rfl (fun z h => List.mem_cons_of_mem _ (List.mem_append_left _ (List.mem_append_left _ (List.mem_append_left _ (List.mem_append_left _ (List.mem_append_left _ (List.mem_append_left _ (List.mem_append_left _ (List.mem_append_left _ (List.mem_append_left _ (List.mem_append_left _ (List.mem_append_right _ h)))))))))))) 3 (by decide) (hts (.fieldLink RX10 219 "BinRounds$Tip" "halves" "I") (by decide +kernel)) (fun x hx => hx) dX10_weigh_98 ⟨rfl, rfl, rfl⟩ g35 (fun r_98 => ?_)
        first | (exact w_widen (Nat.le_of_ble_eq_true rfl) (Nat.le_of_ble_eq_true rfl) (vx_ret (co_iret E hr rfl hlk hC hS dX10_weigh_101 ⟨(by unfold weighC; omega), rfl, rfl, fun q a b c => by unfold weighS; rw [if_pos (by omega)], fun h a b => by rw [if_pos (by omega)]; rfl⟩))) | (exact w_widen (Nat.le_of_ble_eq_true rfl) (Nat.le_of_ble_eq_true rfl) (vx_ret (co_iret E hr rfl hlk hC hS dX10_weigh_101 ⟨(by unfold weighC; omega), rfl, rfl, fun q a b c => (qy.1 q a b c).trans (wS q a b c), fun h a b => by rw [if_neg (by omega), qy.2 h a b, sh2, up_f (by decide), qx.2 h a b, sh1, e1]; show σ 50 h + -1 * sShr σ t h + 1 * sShr (weighS σ t g) t h = _; omega⟩)))
  · refine x_iconst B dX10_weigh_14 ?_
    refine x_goto (tgt := 19) B dX10_weigh_15 (by decide) ?_
    refine cstm_call E hout hlk hK hC hS hl (c_requireThere l hlt D cy d0 A la _ (z := 1) (Or.inr rfl)) (va_cwS 1 hts0 gX10_weigh_X10_requireThere rfl rfl rfl (by decide +kernel) ⟨Nat.le_of_ble_eq_true rfl, Nat.le_of_ble_eq_true rfl⟩) rfl rfl (Nat.le_of_ble_eq_true rfl) dX10_weigh_19 ⟨Nat.le_of_ble_eq_true rfl, Nat.le_of_ble_eq_true rfl⟩ ⟨Nat.le_of_ble_eq_true rfl, Nat.le_of_ble_eq_true rfl⟩ (fun h => ⟨by unfold weighC; omega, rfl⟩) (fun h9_19 H locs q_19 hC hS => ?_)
    refine x_iload_n B hl dX10_weigh_22 rfl ?_
    refine x_i2l B dX10_weigh_23 (by omega) ?_
    refine x_lconst B dX10_weigh_24 ?_
    refine lv_ldc2 (v := lI 200000) B.1 B.2 hown (hts (.constantLong RX10 197 (200000)) (by decide +kernel)) dX10_weigh_25 ?_
    refine z_call ⟨B.1, B.2, hml, hown, hts0⟩ hl (c_isWithin l (v := g) (a := 0) (b := 200000) (by omega) (by omega) (by omega)) (va_cwS 3 hts0 gX10_weigh_X10_isWithin rfl rfl rfl (by decide +kernel) ⟨Nat.le_of_ble_eq_true rfl, Nat.le_of_ble_eq_true rfl⟩) rfl rfl (Nat.le_of_ble_eq_true rfl) dX10_weigh_28 ⟨Nat.le_of_ble_eq_true rfl, Nat.le_of_ble_eq_true rfl⟩ (fun q_28 => ?_)
    refine x_bool (fun b_28 => ?_) (fun b_28 => ?_)
    · refine cstm_call E hout hlk hK hC hS hl (c_require l hlt D cy d0 A la _ (z := 1) (Or.inr rfl)) (va_cwS 1 hts0 gX10_weigh_X10_require rfl rfl rfl (by decide +kernel) ⟨Nat.le_of_ble_eq_true rfl, Nat.le_of_ble_eq_true rfl⟩) rfl rfl (Nat.le_of_ble_eq_true rfl) dX10_weigh_31 ⟨Nat.le_of_ble_eq_true rfl, Nat.le_of_ble_eq_true rfl⟩ ⟨Nat.le_of_ble_eq_true rfl, Nat.le_of_ble_eq_true rfl⟩ (fun h => ⟨by unfold weighC; omega, rfl⟩) (fun h9_31 H locs q_31 hC hS => ?_)
      refine x_aload_n B hl dX10_weigh_34 rfl ?_
      refine x_iconst B dX10_weigh_35 ?_
      refine co_puti (f := 38) E hC hS 10 (by decide) (cl_10 ht1) rfl (fun z h => List.mem_cons_of_mem _ (List.mem_append_left _ (List.mem_append_left _ (List.mem_append_left _ (List.mem_append_left _ (List.mem_append_left _ (List.mem_append_left _ (List.mem_append_left _ (List.mem_append_left _ (List.mem_append_left _ (List.mem_append_left _ (List.mem_append_right _ h)))))))))))) tyX9 tyX9_ok nmX9 6 (by decide) (hts (.fieldLink RX10 208 "BinRounds$Tip" "weighing" "I") (by decide +kernel)) (fun x hx => hx) rfl rfl dX10_weigh_36 (by decide) ⟨rfl, rfl, rfl, rfl⟩ (by omega) (fun H locs hC hS => ?_)
      have h25q := h25 (σ 33 t)
      refine x_aload_n B hl dX10_weigh_39 rfl ?_
      refine x_iload_n B hl dX10_weigh_40 rfl ?_
      refine x_sipush B dX10_weigh_41 (by decide) ?_
      refine x_idiv B dX10_weigh_44 (by omega) (by omega) ?_
      refine co_puti (f := 35) E hC hS 10 (by decide) (cl_up (by decide) (cl_10 ht1)) rfl (fun z h => List.mem_cons_of_mem _ (List.mem_append_left _ (List.mem_append_left _ (List.mem_append_left _ (List.mem_append_left _ (List.mem_append_left _ (List.mem_append_left _ (List.mem_append_left _ (List.mem_append_left _ (List.mem_append_left _ (List.mem_append_left _ (List.mem_append_right _ h)))))))))))) tyX9 tyX9_ok nmX9 3 (by decide) (hts (.fieldLink RX10 219 "BinRounds$Tip" "halves" "I") (by decide +kernel)) (fun x hx => hx) rfl rfl dX10_weigh_45 (by decide) ⟨rfl, rfl, rfl, rfl⟩ (by omega) (fun H locs hC hS => ?_)
      refine x_aload_n B hl dX10_weigh_48 rfl ?_
      refine co_getR (x := la 9 (σ 33 t)) E hC 10 (by decide) (cl_up (by decide) (cl_up (by decide) (cl_10 ht1))) rfl (fun z h => List.mem_cons_of_mem _ (List.mem_append_left _ (List.mem_append_left _ (List.mem_append_left _ (List.mem_append_left _ (List.mem_append_left _ (List.mem_append_left _ (List.mem_append_left _ (List.mem_append_left _ (List.mem_append_left _ (List.mem_append_left _ (List.mem_append_right _ h)))))))))))) 1 (by decide) (hts (.fieldLink RX10 253 "BinRounds$Tip" "carrier" "LBinRounds$Cart;") (by decide +kernel)) (fun x hx => hx) dX10_weigh_49 rfl rfl ?_
      refine x_dup B dX10_weigh_52 rfl ?_
      refine co_geti (f := 25) E hC 9 (by decide) (cl_up (by decide) (cl_up (by decide) (cl_9 (hct t ht1.1 ht1.2)))) rfl (fun z h => List.mem_cons_of_mem _ (List.mem_append_left _ (List.mem_append_left _ (List.mem_append_left _ (List.mem_append_left _ (List.mem_append_left _ (List.mem_append_left _ (List.mem_append_left _ (List.mem_append_left _ (List.mem_append_left _ (List.mem_append_right _ h))))))))))) 2 (by decide) (hts (.fieldLink RX10 287 "BinRounds$Cart" "carry" "I") (by decide +kernel)) (fun x hx => hx) dX10_weigh_53 ⟨rfl, rfl, rfl⟩ (up_ne (by decide) (up_ne (by decide) rfl)) (fun r_53 => ?_)
      refine x_iload_n B hl dX10_weigh_56 rfl ?_
      refine x_sipush B dX10_weigh_57 (by decide) ?_
      refine x_irem B dX10_weigh_60 (by omega) (by omega) ?_
      refine x_iadd B dX10_weigh_61 ?_
      refine co_puti (f := 25) E hC hS 9 (by decide) (cl_up (by decide) (cl_up (by decide) (cl_9 (hct t ht1.1 ht1.2)))) rfl (fun z h => List.mem_cons_of_mem _ (List.mem_append_left _ (List.mem_append_left _ (List.mem_append_left _ (List.mem_append_left _ (List.mem_append_left _ (List.mem_append_left _ (List.mem_append_left _ (List.mem_append_left _ (List.mem_append_left _ (List.mem_append_right _ h))))))))))) tyX2 tyX2_ok nmX2 2 (by decide) (hts (.fieldLink RX10 287 "BinRounds$Cart" "carry" "I") (by decide +kernel)) (fun x hx => hx) rfl rfl dX10_weigh_62 (by decide) ⟨rfl, rfl, rfl, rfl⟩ (by omega) (fun H locs hC hS => ?_)
      have hday := hod t ht1.1 ht1.2
      refine x_aload_n B hl dX10_weigh_65 rfl ?_
      refine co_geti (f := 32) E hC 10 (by decide) (cl_up (by decide) (cl_up (by decide) (cl_up (by decide) (cl_10 ht1)))) rfl (fun z h => List.mem_cons_of_mem _ (List.mem_append_left _ (List.mem_append_left _ (List.mem_append_left _ (List.mem_append_left _ (List.mem_append_left _ (List.mem_append_left _ (List.mem_append_left _ (List.mem_append_left _ (List.mem_append_left _ (List.mem_append_left _ (List.mem_append_right _ h)))))))))))) 0 (by decide) (hts (.fieldLink RX10 229 "BinRounds$Tip" "day" "I") (by decide +kernel)) (fun x hx => hx) dX10_weigh_66 ⟨rfl, rfl, rfl⟩ (up_ne (by decide) (up_ne (by decide) (up_ne (by decide) rfl))) (fun r_66 => ?_)
      refine x_aload_n B hl dX10_weigh_69 rfl ?_
      refine co_geti (f := 1) E hC 0 (by decide) cl_0 rfl (fun z h => List.mem_cons_of_mem _ (List.mem_append_left _ (List.mem_append_left _ (List.mem_append_left _ (List.mem_append_left _ (List.mem_append_left _ (List.mem_append_left _ (List.mem_append_left _ (List.mem_append_left _ (List.mem_append_right _ h)))))))))) 8 (by decide) (hts (.fieldLink RX10 49 "BinRounds" "open" "I") (by decide +kernel)) (fun x hx => hx) dX10_weigh_70 ⟨rfl, rfl, rfl⟩ (up_ne (by decide) (up_ne (by decide) (up_ne (by decide) rfl))) (fun r_70 => ?_)
      refine x_icmp_ge (tgt := 97) B dX10_weigh_73 (by decide) (by omega) (by omega) (fun c_73 => ?_) (fun c_73 => ?_)
      · refine x_aload_n B hl dX10_weigh_97 rfl ?_
        refine co_geti (f := 35) E hC 10 (by decide) (cl_up (by decide) (cl_up (by decide) (cl_up (by decide) (cl_10 ht1)))) rfl (fun z h => List.mem_cons_of_mem _ (List.mem_append_left _ (List.mem_append_left _ (List.mem_append_left _ (List.mem_append_left _ (List.mem_append_left _ (List.mem_append_left _ (List.mem_append_left _ (List.mem_append_left _ (List.mem_append_left _ (List.mem_append_left _ (List.mem_append_right _ h)))))))))))) 3 (by decide) (hts (.fieldLink RX10 219 "BinRounds$Tip" "halves" "I") (by decide +kernel)) (fun x hx => hx) dX10_weigh_98 ⟨rfl, rfl, rfl⟩ (up_ne (by decide) up_s) (fun r_98 => ?_)
        first | (exact w_widen (Nat.le_of_ble_eq_true rfl) (Nat.le_of_ble_eq_true rfl) (vx_ret (co_iret E hr rfl hlk hC hS dX10_weigh_101 ⟨(by unfold weighC; omega), rfl, rfl, fun q a b c => by unfold weighS; rw [if_pos (by omega)], fun h a b => by rw [if_pos (by omega)]; rfl⟩))) | (exact w_widen (Nat.le_of_ble_eq_true rfl) (Nat.le_of_ble_eq_true rfl) (vx_ret (co_iret E hr rfl hlk hC hS dX10_weigh_101 ⟨(by unfold weighC; omega), rfl, rfl, fun q a b c => (qy.1 q a b c).trans (wS q a b c), fun h a b => by rw [if_neg (by omega), qy.2 h a b, sh2, up_f (by decide), qx.2 h a b, sh1, e1]; show σ 50 h + -1 * sShr σ t h + 1 * sShr (weighS σ t g) t h = _; omega⟩)))
      · obtain ⟨σ1, e1⟩ : ∃ z, z = up (up (up σ 38 t 2) 35 t (g / 500)) 25 (σ 33 t) (σ 25 (σ 33 t) + g % 500) := ⟨_, rfl⟩
        have f1 : ∀ f, (f != 38 && f != 35 && f != 25) = true → σ1 f = σ f := fun f hf => by
          simp only [Bool.and_eq_true, bne_iff_ne, ne_eq] at hf
          rw [e1, up_f hf.2, up_f hf.1.2, up_f hf.1.1]
        have f35 : σ1 35 t = g / 500 := by rw [e1, up_f (by decide)]; exact up_s
        have hC0 := hC
        replace hC : CP D cy d0 A la σ1 H := by rw [e1]; exact hC0
        have w1 : ∀ f, okw f = true → σ1 f = σ f := fun f hf => f1 f (by
          simp only [okw, Bool.and_eq_true, bne_iff_ne, ne_eq] at hf
          simp only [Bool.and_eq_true, bne_iff_ne, ne_eq]
          omega)
        have sh1 : ∀ h, sShr σ1 t h = sShr σ t h := fun h => sShr_u (fun f hf => f1 f (by
          simp only [okG, Bool.or_eq_true, beq_iff_eq] at hf
          simp only [Bool.and_eq_true, bne_iff_ne, ne_eq]
          omega)) (fun f hf => congrFun (f1 f (by
          simp only [okU, Bool.or_eq_true, beq_iff_eq] at hf
          simp only [Bool.and_eq_true, bne_iff_ne, ne_eq]
          omega)) t) h
        have hwS : weighS σ t g = up σ1 39 t (weighP σ t g) := by unfold weighS; rw [if_neg (by omega), e1]
        have hnb : ¬ σ 36 t < 0 ∨ σ 36 t < 0 := by omega
        have hho9 : ¬ sHouse σ (σ 36 t) (σ 32 t) < 0 → 0 ≤ sHouse σ (σ 36 t) (σ 32 t) ∧ sHouse σ (σ 36 t) (σ 32 t) < σ 11 0 := fun z => by
          rcases hnb with h | h
          · exact hhoA _ _ (hbnA t ht1.1 ht1.2 h).1 (hbnA t ht1.1 ht1.2 h).2 z
          · exact hneg t h z
        have hpl : ∀ τ1 : MS, (∀ q, q ≠ 50 → q ≠ 51 → q ≠ 52 → τ1 q = σ1 q) → CM l yX10_payableLater wsX10_payableLater ({ frames := 3, cells := 0, slots := 0, locals := 64 } : Room) D cy d0 A [.ref (la 0 0), .ref (la 10 t)] la τ1 (some (.int (iI (weighP σ t g)))) τ1 (0 ≤ weighP σ t g ∧ weighP σ t g ≤ 3000000) := fun τ1 hq => by
          have k1 : ∀ f, (f != 38 && f != 35 && f != 25 && f != 50 && f != 51 && f != 52) = true → τ1 f = σ f := fun f hf => by
            simp only [Bool.and_eq_true, bne_iff_ne, ne_eq] at hf
            rw [hq f (by omega) (by omega) (by omega)]
            exact f1 f (by simp only [Bool.and_eq_true, bne_iff_ne, ne_eq]; omega)
          have k35 : τ1 35 t = g / 500 := by rw [hq 35 (by decide) (by decide) (by decide)]; exact f35
          have kO : sOth τ1 t = sOth σ t := by
            unfold sOth
            rw [k1 45 rfl]
            congr 1
            funext u
            unfold sOt
            rw [k1 32 rfl, k1 33 rfl, k1 39 rfl]
          have hp := c_payableLater l D cy d0 A la τ1 (t := t) (by rw [k1 45 rfl]; exact ht1) (by rw [k1 45 rfl]; exact hn45) (by rw [k1 23 rfl]; exact hn23) (by rw [k1 58 rfl, k1 59 rfl]; exact hlg) (by rw [k1 39 rfl]; exact h39A) (by rw [k35]; omega) (by rw [k1 44 rfl]; exact h44A t) (by rw [k1 45 rfl, k1 33 rfl, k1 27 rfl]; exact hct)
          rw [k1 44 rfl, kO, k35] at hp
          have hw9 := hwp t ht1.1 ht1.2
          have hw8 : weighP σ t g ≤ g / 500 := by unfold weighP; split <;> (try split) <;> omega
          exact CN.imp hp (fun v' la' τ hz => ⟨hz.1, hz.2.1, hz.2.2.1, hw9 (by omega) (by omega) (by omega), by omega⟩)
        
        refine x_aload_n B hl dX10_weigh_76 rfl ?_
        refine x_aload_n B hl dX10_weigh_77 rfl ?_
        refine x_iconst B dX10_weigh_78 ?_
        refine co_callX E hK hC hS hl (κ := 0) (i := 0) (by decide) cl_0 rfl (c_addSharesE l D cy d0 A la σ σ1 w1 (t := t) (sg := -1) ht1 hn45 (by omega) hn23 (hcbA t) (hbnA t ht1.1 ht1.2) (h42A t) (h43A t) (h39A t) (hdA t) hm hv hho9 hm22 hpw (fun z => hv19A (by have := hbnA t ht1.1 ht1.2 z; omega)) (by rw [f1 39 rfl]; exact h39A t) (by decide)) (cwV 2 hts0 gX10_weigh_X10_addShares rfl rfl rfl (by decide +kernel) ⟨Nat.le_of_ble_eq_true rfl, Nat.le_of_ble_eq_true rfl⟩) rfl rfl (Nat.le_of_ble_eq_true rfl) dX10_weigh_79 ⟨Nat.le_of_ble_eq_true rfl, Nat.le_of_ble_eq_true rfl⟩ (fun H locs τ1 qx hC hS => ?_)
        have g1 : ∀ f, (f != 38 && f != 35 && f != 25 && f != 50 && f != 51 && f != 52) = true → τ1 f = σ f := fun f hf => by
          simp only [Bool.and_eq_true, bne_iff_ne, ne_eq] at hf
          rw [qx.1 f (by omega) (by omega) (by omega)]
          exact f1 f (by simp only [Bool.and_eq_true, bne_iff_ne, ne_eq]; omega)
        refine x_aload_n B hl dX10_weigh_82 rfl ?_
        refine x_aload_n B hl dX10_weigh_83 rfl ?_
        refine x_aload_n B hl dX10_weigh_84 rfl ?_
        refine co_call E hK hC hS hl (κ := 0) (i := 0) (by decide) cl_0 rfl (hpl τ1 qx.1) (cwV 1 hts0 gX10_weigh_X10_payableLater rfl rfl rfl (by decide +kernel) ⟨Nat.le_of_ble_eq_true rfl, Nat.le_of_ble_eq_true rfl⟩) rfl rfl (Nat.le_of_ble_eq_true rfl) dX10_weigh_85 ⟨Nat.le_of_ble_eq_true rfl, Nat.le_of_ble_eq_true rfl⟩ (fun H locs q_w hC hS => ?_)
        refine co_puti (f := 39) E hC hS 10 (by decide) (cl_q (⟨g1 _ rfl, g1 _ rfl, g1 _ rfl, g1 _ rfl, g1 _ rfl, g1 _ rfl, g1 _ rfl⟩ : cLq σ τ1) (cl_10 ht1)) rfl (fun z h => List.mem_cons_of_mem _ (List.mem_append_left _ (List.mem_append_left _ (List.mem_append_left _ (List.mem_append_left _ (List.mem_append_left _ (List.mem_append_left _ (List.mem_append_left _ (List.mem_append_left _ (List.mem_append_left _ (List.mem_append_left _ (List.mem_append_right _ h)))))))))))) tyX9 tyX9_ok nmX9 7 (by decide) (hts (.fieldLink RX10 260 "BinRounds$Tip" "paid" "I") (by decide +kernel)) (fun x hx => hx) rfl rfl dX10_weigh_88 (by decide) ⟨rfl, rfl, rfl, rfl⟩ (by omega) (fun H locs hC hS => ?_)
        have w2 : ∀ f, okw f = true → up τ1 39 t (weighP σ t g) f = σ f := fun f hf => by
          simp only [okw, Bool.and_eq_true, bne_iff_ne, ne_eq] at hf
          rw [up_f (by omega)]
          exact g1 f (by simp only [Bool.and_eq_true, bne_iff_ne, ne_eq]; omega)
        have wS : ∀ q, q ≠ 50 → q ≠ 51 → q ≠ 52 → up τ1 39 t (weighP σ t g) q = weighS σ t g q := fun q a b c => by
          rw [hwS]
          funext j
          rw [up_rd, up_rd, qx.1 q a b c]
        have sh2 : ∀ h, sShr (up τ1 39 t (weighP σ t g)) t h = sShr (weighS σ t g) t h := fun h => sShr_u (fun f hf => wS f (by
          simp only [okG, Bool.or_eq_true, beq_iff_eq] at hf; omega) (by
          simp only [okG, Bool.or_eq_true, beq_iff_eq] at hf; omega) (by
          simp only [okG, Bool.or_eq_true, beq_iff_eq] at hf; omega)) (fun f hf => congrFun (wS f (by
          simp only [okU, Bool.or_eq_true, beq_iff_eq] at hf; omega) (by
          simp only [okU, Bool.or_eq_true, beq_iff_eq] at hf; omega) (by
          simp only [okU, Bool.or_eq_true, beq_iff_eq] at hf; omega)) t) h
        refine x_aload_n B hl dX10_weigh_91 rfl ?_
        refine x_aload_n B hl dX10_weigh_92 rfl ?_
        refine x_iconst B dX10_weigh_93 ?_
        refine co_callX E hK hC hS hl (κ := 0) (i := 0) (by decide) cl_0 rfl (c_addSharesE l D cy d0 A la σ (up τ1 39 t (weighP σ t g)) w2 (t := t) (sg := 1) ht1 hn45 (by omega) hn23 (hcbA t) (hbnA t ht1.1 ht1.2) (h42A t) (h43A t) (h39A t) (hdA t) hm hv hho9 hm22 hpw (fun z => hv19A (by have := hbnA t ht1.1 ht1.2 z; omega)) (by rw [up_s]; exact q_w) (by decide)) (cwV 2 hts0 gX10_weigh_X10_addShares rfl rfl rfl (by decide +kernel) ⟨Nat.le_of_ble_eq_true rfl, Nat.le_of_ble_eq_true rfl⟩) rfl rfl (Nat.le_of_ble_eq_true rfl) dX10_weigh_94 ⟨Nat.le_of_ble_eq_true rfl, Nat.le_of_ble_eq_true rfl⟩ (fun H locs τ2 qy hC hS => ?_)
        have g2 : ∀ f, okw f = true → τ2 f = σ f := fun f hf => by
          have hf2 := hf
          simp only [okw, Bool.and_eq_true, bne_iff_ne, ne_eq] at hf2
          rw [qy.1 f (by omega) (by omega) (by omega)]
          exact w2 f hf
        have g35 : τ2 35 t = g / 500 := by
          rw [qy.1 35 (by decide) (by decide) (by decide), up_f (by decide), qx.1 35 (by decide) (by decide) (by decide)]
          exact f35
        refine x_aload_n B hl dX10_weigh_97 rfl ?_
        refine co_geti (f := 35) E hC 10 (by decide) (cl_q (⟨g2 _ rfl, g2 _ rfl, g2 _ rfl, g2 _ rfl, g2 _ rfl, g2 _ rfl, g2 _ rfl⟩ : cLq σ τ2) (cl_10 ht1)) rfl (fun z h => List.mem_cons_of_mem _ (List.mem_append_left _ (List.mem_append_left _ (List.mem_append_left _ (List.mem_append_left _ (List.mem_append_left _ (List.mem_append_left _ (List.mem_append_left _ (List.mem_append_left _ (List.mem_append_left _ (List.mem_append_left _ (List.mem_append_right _ h)))))))))))) 3 (by decide) (hts (.fieldLink RX10 219 "BinRounds$Tip" "halves" "I") (by decide +kernel)) (fun x hx => hx) dX10_weigh_98 ⟨rfl, rfl, rfl⟩ g35 (fun r_98 => ?_)
        first | (exact w_widen (Nat.le_of_ble_eq_true rfl) (Nat.le_of_ble_eq_true rfl) (vx_ret (co_iret E hr rfl hlk hC hS dX10_weigh_101 ⟨(by unfold weighC; omega), rfl, rfl, fun q a b c => by unfold weighS; rw [if_pos (by omega)], fun h a b => by rw [if_pos (by omega)]; rfl⟩))) | (exact w_widen (Nat.le_of_ble_eq_true rfl) (Nat.le_of_ble_eq_true rfl) (vx_ret (co_iret E hr rfl hlk hC hS dX10_weigh_101 ⟨(by unfold weighC; omega), rfl, rfl, fun q a b c => (qy.1 q a b c).trans (wS q a b c), fun h a b => by rw [if_neg (by omega), qy.2 h a b, sh2, up_f (by decide), qx.2 h a b, sh1, e1]; show σ 50 h + -1 * sShr σ t h + 1 * sShr (weighS σ t g) t h = _; omega⟩)))
    · refine cstm_call E hout hlk hK hC hS hl (c_require l hlt D cy d0 A la _ (z := 0) (Or.inl rfl)) (va_cwS 1 hts0 gX10_weigh_X10_require rfl rfl rfl (by decide +kernel) ⟨Nat.le_of_ble_eq_true rfl, Nat.le_of_ble_eq_true rfl⟩) rfl rfl (Nat.le_of_ble_eq_true rfl) dX10_weigh_31 ⟨Nat.le_of_ble_eq_true rfl, Nat.le_of_ble_eq_true rfl⟩ ⟨Nat.le_of_ble_eq_true rfl, Nat.le_of_ble_eq_true rfl⟩ (fun h => ⟨by unfold weighC; omega, rfl⟩) (fun h9_31 H locs q_31 hC hS => ?_)
      refine x_aload_n B hl dX10_weigh_34 rfl ?_
      refine x_iconst B dX10_weigh_35 ?_
      refine co_puti (f := 38) E hC hS 10 (by decide) (cl_10 ht1) rfl (fun z h => List.mem_cons_of_mem _ (List.mem_append_left _ (List.mem_append_left _ (List.mem_append_left _ (List.mem_append_left _ (List.mem_append_left _ (List.mem_append_left _ (List.mem_append_left _ (List.mem_append_left _ (List.mem_append_left _ (List.mem_append_left _ (List.mem_append_right _ h)))))))))))) tyX9 tyX9_ok nmX9 6 (by decide) (hts (.fieldLink RX10 208 "BinRounds$Tip" "weighing" "I") (by decide +kernel)) (fun x hx => hx) rfl rfl dX10_weigh_36 (by decide) ⟨rfl, rfl, rfl, rfl⟩ (by omega) (fun H locs hC hS => ?_)
      have h25q := h25 (σ 33 t)
      refine x_aload_n B hl dX10_weigh_39 rfl ?_
      refine x_iload_n B hl dX10_weigh_40 rfl ?_
      refine x_sipush B dX10_weigh_41 (by decide) ?_
      refine x_idiv B dX10_weigh_44 (by omega) (by omega) ?_
      refine co_puti (f := 35) E hC hS 10 (by decide) (cl_up (by decide) (cl_10 ht1)) rfl (fun z h => List.mem_cons_of_mem _ (List.mem_append_left _ (List.mem_append_left _ (List.mem_append_left _ (List.mem_append_left _ (List.mem_append_left _ (List.mem_append_left _ (List.mem_append_left _ (List.mem_append_left _ (List.mem_append_left _ (List.mem_append_left _ (List.mem_append_right _ h)))))))))))) tyX9 tyX9_ok nmX9 3 (by decide) (hts (.fieldLink RX10 219 "BinRounds$Tip" "halves" "I") (by decide +kernel)) (fun x hx => hx) rfl rfl dX10_weigh_45 (by decide) ⟨rfl, rfl, rfl, rfl⟩ (by omega) (fun H locs hC hS => ?_)
      refine x_aload_n B hl dX10_weigh_48 rfl ?_
      refine co_getR (x := la 9 (σ 33 t)) E hC 10 (by decide) (cl_up (by decide) (cl_up (by decide) (cl_10 ht1))) rfl (fun z h => List.mem_cons_of_mem _ (List.mem_append_left _ (List.mem_append_left _ (List.mem_append_left _ (List.mem_append_left _ (List.mem_append_left _ (List.mem_append_left _ (List.mem_append_left _ (List.mem_append_left _ (List.mem_append_left _ (List.mem_append_left _ (List.mem_append_right _ h)))))))))))) 1 (by decide) (hts (.fieldLink RX10 253 "BinRounds$Tip" "carrier" "LBinRounds$Cart;") (by decide +kernel)) (fun x hx => hx) dX10_weigh_49 rfl rfl ?_
      refine x_dup B dX10_weigh_52 rfl ?_
      refine co_geti (f := 25) E hC 9 (by decide) (cl_up (by decide) (cl_up (by decide) (cl_9 (hct t ht1.1 ht1.2)))) rfl (fun z h => List.mem_cons_of_mem _ (List.mem_append_left _ (List.mem_append_left _ (List.mem_append_left _ (List.mem_append_left _ (List.mem_append_left _ (List.mem_append_left _ (List.mem_append_left _ (List.mem_append_left _ (List.mem_append_left _ (List.mem_append_right _ h))))))))))) 2 (by decide) (hts (.fieldLink RX10 287 "BinRounds$Cart" "carry" "I") (by decide +kernel)) (fun x hx => hx) dX10_weigh_53 ⟨rfl, rfl, rfl⟩ (up_ne (by decide) (up_ne (by decide) rfl)) (fun r_53 => ?_)
      refine x_iload_n B hl dX10_weigh_56 rfl ?_
      refine x_sipush B dX10_weigh_57 (by decide) ?_
      refine x_irem B dX10_weigh_60 (by omega) (by omega) ?_
      refine x_iadd B dX10_weigh_61 ?_
      refine co_puti (f := 25) E hC hS 9 (by decide) (cl_up (by decide) (cl_up (by decide) (cl_9 (hct t ht1.1 ht1.2)))) rfl (fun z h => List.mem_cons_of_mem _ (List.mem_append_left _ (List.mem_append_left _ (List.mem_append_left _ (List.mem_append_left _ (List.mem_append_left _ (List.mem_append_left _ (List.mem_append_left _ (List.mem_append_left _ (List.mem_append_left _ (List.mem_append_right _ h))))))))))) tyX2 tyX2_ok nmX2 2 (by decide) (hts (.fieldLink RX10 287 "BinRounds$Cart" "carry" "I") (by decide +kernel)) (fun x hx => hx) rfl rfl dX10_weigh_62 (by decide) ⟨rfl, rfl, rfl, rfl⟩ (by omega) (fun H locs hC hS => ?_)
      have hday := hod t ht1.1 ht1.2
      refine x_aload_n B hl dX10_weigh_65 rfl ?_
      refine co_geti (f := 32) E hC 10 (by decide) (cl_up (by decide) (cl_up (by decide) (cl_up (by decide) (cl_10 ht1)))) rfl (fun z h => List.mem_cons_of_mem _ (List.mem_append_left _ (List.mem_append_left _ (List.mem_append_left _ (List.mem_append_left _ (List.mem_append_left _ (List.mem_append_left _ (List.mem_append_left _ (List.mem_append_left _ (List.mem_append_left _ (List.mem_append_left _ (List.mem_append_right _ h)))))))))))) 0 (by decide) (hts (.fieldLink RX10 229 "BinRounds$Tip" "day" "I") (by decide +kernel)) (fun x hx => hx) dX10_weigh_66 ⟨rfl, rfl, rfl⟩ (up_ne (by decide) (up_ne (by decide) (up_ne (by decide) rfl))) (fun r_66 => ?_)
      refine x_aload_n B hl dX10_weigh_69 rfl ?_
      refine co_geti (f := 1) E hC 0 (by decide) cl_0 rfl (fun z h => List.mem_cons_of_mem _ (List.mem_append_left _ (List.mem_append_left _ (List.mem_append_left _ (List.mem_append_left _ (List.mem_append_left _ (List.mem_append_left _ (List.mem_append_left _ (List.mem_append_left _ (List.mem_append_right _ h)))))))))) 8 (by decide) (hts (.fieldLink RX10 49 "BinRounds" "open" "I") (by decide +kernel)) (fun x hx => hx) dX10_weigh_70 ⟨rfl, rfl, rfl⟩ (up_ne (by decide) (up_ne (by decide) (up_ne (by decide) rfl))) (fun r_70 => ?_)
      refine x_icmp_ge (tgt := 97) B dX10_weigh_73 (by decide) (by omega) (by omega) (fun c_73 => ?_) (fun c_73 => ?_)
      · refine x_aload_n B hl dX10_weigh_97 rfl ?_
        refine co_geti (f := 35) E hC 10 (by decide) (cl_up (by decide) (cl_up (by decide) (cl_up (by decide) (cl_10 ht1)))) rfl (fun z h => List.mem_cons_of_mem _ (List.mem_append_left _ (List.mem_append_left _ (List.mem_append_left _ (List.mem_append_left _ (List.mem_append_left _ (List.mem_append_left _ (List.mem_append_left _ (List.mem_append_left _ (List.mem_append_left _ (List.mem_append_left _ (List.mem_append_right _ h)))))))))))) 3 (by decide) (hts (.fieldLink RX10 219 "BinRounds$Tip" "halves" "I") (by decide +kernel)) (fun x hx => hx) dX10_weigh_98 ⟨rfl, rfl, rfl⟩ (up_ne (by decide) up_s) (fun r_98 => ?_)
        first | (exact w_widen (Nat.le_of_ble_eq_true rfl) (Nat.le_of_ble_eq_true rfl) (vx_ret (co_iret E hr rfl hlk hC hS dX10_weigh_101 ⟨(by unfold weighC; omega), rfl, rfl, fun q a b c => by unfold weighS; rw [if_pos (by omega)], fun h a b => by rw [if_pos (by omega)]; rfl⟩))) | (exact w_widen (Nat.le_of_ble_eq_true rfl) (Nat.le_of_ble_eq_true rfl) (vx_ret (co_iret E hr rfl hlk hC hS dX10_weigh_101 ⟨(by unfold weighC; omega), rfl, rfl, fun q a b c => (qy.1 q a b c).trans (wS q a b c), fun h a b => by rw [if_neg (by omega), qy.2 h a b, sh2, up_f (by decide), qx.2 h a b, sh1, e1]; show σ 50 h + -1 * sShr σ t h + 1 * sShr (weighS σ t g) t h = _; omega⟩)))
      · obtain ⟨σ1, e1⟩ : ∃ z, z = up (up (up σ 38 t 2) 35 t (g / 500)) 25 (σ 33 t) (σ 25 (σ 33 t) + g % 500) := ⟨_, rfl⟩
        have f1 : ∀ f, (f != 38 && f != 35 && f != 25) = true → σ1 f = σ f := fun f hf => by
          simp only [Bool.and_eq_true, bne_iff_ne, ne_eq] at hf
          rw [e1, up_f hf.2, up_f hf.1.2, up_f hf.1.1]
        have f35 : σ1 35 t = g / 500 := by rw [e1, up_f (by decide)]; exact up_s
        have hC0 := hC
        replace hC : CP D cy d0 A la σ1 H := by rw [e1]; exact hC0
        have w1 : ∀ f, okw f = true → σ1 f = σ f := fun f hf => f1 f (by
          simp only [okw, Bool.and_eq_true, bne_iff_ne, ne_eq] at hf
          simp only [Bool.and_eq_true, bne_iff_ne, ne_eq]
          omega)
        have sh1 : ∀ h, sShr σ1 t h = sShr σ t h := fun h => sShr_u (fun f hf => f1 f (by
          simp only [okG, Bool.or_eq_true, beq_iff_eq] at hf
          simp only [Bool.and_eq_true, bne_iff_ne, ne_eq]
          omega)) (fun f hf => congrFun (f1 f (by
          simp only [okU, Bool.or_eq_true, beq_iff_eq] at hf
          simp only [Bool.and_eq_true, bne_iff_ne, ne_eq]
          omega)) t) h
        have hwS : weighS σ t g = up σ1 39 t (weighP σ t g) := by unfold weighS; rw [if_neg (by omega), e1]
        have hnb : ¬ σ 36 t < 0 ∨ σ 36 t < 0 := by omega
        have hho9 : ¬ sHouse σ (σ 36 t) (σ 32 t) < 0 → 0 ≤ sHouse σ (σ 36 t) (σ 32 t) ∧ sHouse σ (σ 36 t) (σ 32 t) < σ 11 0 := fun z => by
          rcases hnb with h | h
          · exact hhoA _ _ (hbnA t ht1.1 ht1.2 h).1 (hbnA t ht1.1 ht1.2 h).2 z
          · exact hneg t h z
        have hpl : ∀ τ1 : MS, (∀ q, q ≠ 50 → q ≠ 51 → q ≠ 52 → τ1 q = σ1 q) → CM l yX10_payableLater wsX10_payableLater ({ frames := 3, cells := 0, slots := 0, locals := 64 } : Room) D cy d0 A [.ref (la 0 0), .ref (la 10 t)] la τ1 (some (.int (iI (weighP σ t g)))) τ1 (0 ≤ weighP σ t g ∧ weighP σ t g ≤ 3000000) := fun τ1 hq => by
          have k1 : ∀ f, (f != 38 && f != 35 && f != 25 && f != 50 && f != 51 && f != 52) = true → τ1 f = σ f := fun f hf => by
            simp only [Bool.and_eq_true, bne_iff_ne, ne_eq] at hf
            rw [hq f (by omega) (by omega) (by omega)]
            exact f1 f (by simp only [Bool.and_eq_true, bne_iff_ne, ne_eq]; omega)
          have k35 : τ1 35 t = g / 500 := by rw [hq 35 (by decide) (by decide) (by decide)]; exact f35
          have kO : sOth τ1 t = sOth σ t := by
            unfold sOth
            rw [k1 45 rfl]
            congr 1
            funext u
            unfold sOt
            rw [k1 32 rfl, k1 33 rfl, k1 39 rfl]
          have hp := c_payableLater l D cy d0 A la τ1 (t := t) (by rw [k1 45 rfl]; exact ht1) (by rw [k1 45 rfl]; exact hn45) (by rw [k1 23 rfl]; exact hn23) (by rw [k1 58 rfl, k1 59 rfl]; exact hlg) (by rw [k1 39 rfl]; exact h39A) (by rw [k35]; omega) (by rw [k1 44 rfl]; exact h44A t) (by rw [k1 45 rfl, k1 33 rfl, k1 27 rfl]; exact hct)
          rw [k1 44 rfl, kO, k35] at hp
          have hw9 := hwp t ht1.1 ht1.2
          have hw8 : weighP σ t g ≤ g / 500 := by unfold weighP; split <;> (try split) <;> omega
          exact CN.imp hp (fun v' la' τ hz => ⟨hz.1, hz.2.1, hz.2.2.1, hw9 (by omega) (by omega) (by omega), by omega⟩)
        
        refine x_aload_n B hl dX10_weigh_76 rfl ?_
        refine x_aload_n B hl dX10_weigh_77 rfl ?_
        refine x_iconst B dX10_weigh_78 ?_
        refine co_callX E hK hC hS hl (κ := 0) (i := 0) (by decide) cl_0 rfl (c_addSharesE l D cy d0 A la σ σ1 w1 (t := t) (sg := -1) ht1 hn45 (by omega) hn23 (hcbA t) (hbnA t ht1.1 ht1.2) (h42A t) (h43A t) (h39A t) (hdA t) hm hv hho9 hm22 hpw (fun z => hv19A (by have := hbnA t ht1.1 ht1.2 z; omega)) (by rw [f1 39 rfl]; exact h39A t) (by decide)) (cwV 2 hts0 gX10_weigh_X10_addShares rfl rfl rfl (by decide +kernel) ⟨Nat.le_of_ble_eq_true rfl, Nat.le_of_ble_eq_true rfl⟩) rfl rfl (Nat.le_of_ble_eq_true rfl) dX10_weigh_79 ⟨Nat.le_of_ble_eq_true rfl, Nat.le_of_ble_eq_true rfl⟩ (fun H locs τ1 qx hC hS => ?_)
        have g1 : ∀ f, (f != 38 && f != 35 && f != 25 && f != 50 && f != 51 && f != 52) = true → τ1 f = σ f := fun f hf => by
          simp only [Bool.and_eq_true, bne_iff_ne, ne_eq] at hf
          rw [qx.1 f (by omega) (by omega) (by omega)]
          exact f1 f (by simp only [Bool.and_eq_true, bne_iff_ne, ne_eq]; omega)
        refine x_aload_n B hl dX10_weigh_82 rfl ?_
        refine x_aload_n B hl dX10_weigh_83 rfl ?_
        refine x_aload_n B hl dX10_weigh_84 rfl ?_
        refine co_call E hK hC hS hl (κ := 0) (i := 0) (by decide) cl_0 rfl (hpl τ1 qx.1) (cwV 1 hts0 gX10_weigh_X10_payableLater rfl rfl rfl (by decide +kernel) ⟨Nat.le_of_ble_eq_true rfl, Nat.le_of_ble_eq_true rfl⟩) rfl rfl (Nat.le_of_ble_eq_true rfl) dX10_weigh_85 ⟨Nat.le_of_ble_eq_true rfl, Nat.le_of_ble_eq_true rfl⟩ (fun H locs q_w hC hS => ?_)
        refine co_puti (f := 39) E hC hS 10 (by decide) (cl_q (⟨g1 _ rfl, g1 _ rfl, g1 _ rfl, g1 _ rfl, g1 _ rfl, g1 _ rfl, g1 _ rfl⟩ : cLq σ τ1) (cl_10 ht1)) rfl (fun z h => List.mem_cons_of_mem _ (List.mem_append_left _ (List.mem_append_left _ (List.mem_append_left _ (List.mem_append_left _ (List.mem_append_left _ (List.mem_append_left _ (List.mem_append_left _ (List.mem_append_left _ (List.mem_append_left _ (List.mem_append_left _ (List.mem_append_right _ h)))))))))))) tyX9 tyX9_ok nmX9 7 (by decide) (hts (.fieldLink RX10 260 "BinRounds$Tip" "paid" "I") (by decide +kernel)) (fun x hx => hx) rfl rfl dX10_weigh_88 (by decide) ⟨rfl, rfl, rfl, rfl⟩ (by omega) (fun H locs hC hS => ?_)
        have w2 : ∀ f, okw f = true → up τ1 39 t (weighP σ t g) f = σ f := fun f hf => by
          simp only [okw, Bool.and_eq_true, bne_iff_ne, ne_eq] at hf
          rw [up_f (by omega)]
          exact g1 f (by simp only [Bool.and_eq_true, bne_iff_ne, ne_eq]; omega)
        have wS : ∀ q, q ≠ 50 → q ≠ 51 → q ≠ 52 → up τ1 39 t (weighP σ t g) q = weighS σ t g q := fun q a b c => by
          rw [hwS]
          funext j
          rw [up_rd, up_rd, qx.1 q a b c]
        have sh2 : ∀ h, sShr (up τ1 39 t (weighP σ t g)) t h = sShr (weighS σ t g) t h := fun h => sShr_u (fun f hf => wS f (by
          simp only [okG, Bool.or_eq_true, beq_iff_eq] at hf; omega) (by
          simp only [okG, Bool.or_eq_true, beq_iff_eq] at hf; omega) (by
          simp only [okG, Bool.or_eq_true, beq_iff_eq] at hf; omega)) (fun f hf => congrFun (wS f (by
          simp only [okU, Bool.or_eq_true, beq_iff_eq] at hf; omega) (by
          simp only [okU, Bool.or_eq_true, beq_iff_eq] at hf; omega) (by
          simp only [okU, Bool.or_eq_true, beq_iff_eq] at hf; omega)) t) h
        refine x_aload_n B hl dX10_weigh_91 rfl ?_
        refine x_aload_n B hl dX10_weigh_92 rfl ?_
        refine x_iconst B dX10_weigh_93 ?_
        refine co_callX E hK hC hS hl (κ := 0) (i := 0) (by decide) cl_0 rfl (c_addSharesE l D cy d0 A la σ (up τ1 39 t (weighP σ t g)) w2 (t := t) (sg := 1) ht1 hn45 (by omega) hn23 (hcbA t) (hbnA t ht1.1 ht1.2) (h42A t) (h43A t) (h39A t) (hdA t) hm hv hho9 hm22 hpw (fun z => hv19A (by have := hbnA t ht1.1 ht1.2 z; omega)) (by rw [up_s]; exact q_w) (by decide)) (cwV 2 hts0 gX10_weigh_X10_addShares rfl rfl rfl (by decide +kernel) ⟨Nat.le_of_ble_eq_true rfl, Nat.le_of_ble_eq_true rfl⟩) rfl rfl (Nat.le_of_ble_eq_true rfl) dX10_weigh_94 ⟨Nat.le_of_ble_eq_true rfl, Nat.le_of_ble_eq_true rfl⟩ (fun H locs τ2 qy hC hS => ?_)
        have g2 : ∀ f, okw f = true → τ2 f = σ f := fun f hf => by
          have hf2 := hf
          simp only [okw, Bool.and_eq_true, bne_iff_ne, ne_eq] at hf2
          rw [qy.1 f (by omega) (by omega) (by omega)]
          exact w2 f hf
        have g35 : τ2 35 t = g / 500 := by
          rw [qy.1 35 (by decide) (by decide) (by decide), up_f (by decide), qx.1 35 (by decide) (by decide) (by decide)]
          exact f35
        refine x_aload_n B hl dX10_weigh_97 rfl ?_
        refine co_geti (f := 35) E hC 10 (by decide) (cl_q (⟨g2 _ rfl, g2 _ rfl, g2 _ rfl, g2 _ rfl, g2 _ rfl, g2 _ rfl, g2 _ rfl⟩ : cLq σ τ2) (cl_10 ht1)) rfl (fun z h => List.mem_cons_of_mem _ (List.mem_append_left _ (List.mem_append_left _ (List.mem_append_left _ (List.mem_append_left _ (List.mem_append_left _ (List.mem_append_left _ (List.mem_append_left _ (List.mem_append_left _ (List.mem_append_left _ (List.mem_append_left _ (List.mem_append_right _ h)))))))))))) 3 (by decide) (hts (.fieldLink RX10 219 "BinRounds$Tip" "halves" "I") (by decide +kernel)) (fun x hx => hx) dX10_weigh_98 ⟨rfl, rfl, rfl⟩ g35 (fun r_98 => ?_)
        first | (exact w_widen (Nat.le_of_ble_eq_true rfl) (Nat.le_of_ble_eq_true rfl) (vx_ret (co_iret E hr rfl hlk hC hS dX10_weigh_101 ⟨(by unfold weighC; omega), rfl, rfl, fun q a b c => by unfold weighS; rw [if_pos (by omega)], fun h a b => by rw [if_pos (by omega)]; rfl⟩))) | (exact w_widen (Nat.le_of_ble_eq_true rfl) (Nat.le_of_ble_eq_true rfl) (vx_ret (co_iret E hr rfl hlk hC hS dX10_weigh_101 ⟨(by unfold weighC; omega), rfl, rfl, fun q a b c => (qy.1 q a b c).trans (wS q a b c), fun h a b => by rw [if_neg (by omega), qy.2 h a b, sh2, up_f (by decide), qx.2 h a b, sh1, e1]; show σ 50 h + -1 * sShr σ t h + 1 * sShr (weighS σ t g) t h = _; omega⟩)))
set_option maxHeartbeats 4000000 in
set_option maxRecDepth 100000 in
theorem c_p_claim (l : Launch) (hlt : l.stackTraces = false) (D : va_G) (cy : Nat → ClassId) (d0 : Nat) (A : Nat → Prop) (la : Nat → Int → Nat) (σ : MS) {t : Int} {b : Int} (h_t : -2147483648 ≤ t ∧ t < 2147483648) (h_b : -2147483648 ≤ b ∧ b < 2147483648) (hn5 : 0 ≤ σ 5 0 ∧ σ 5 0 ≤ 1000) (hn11 : 0 ≤ σ 11 0 ∧ σ 11 0 ≤ 1000) (hn23 : 0 ≤ σ 23 0 ∧ σ 23 0 ≤ 1000) (hn27 : 0 ≤ σ 27 0 ∧ σ 27 0 ≤ 1000) (hn45 : 0 ≤ σ 45 0 ∧ σ 45 0 ≤ 600) (hlg : σ 58 0 = 0 ∧ σ 59 0 = 0) (hn11b : σ 11 0 ≤ 60) (hcbA : ∀ t, σ 40 t = 1 → 0 ≤ σ 36 t) (hbnA : ∀ t, 0 ≤ t → t < σ 45 0 → ¬ σ 36 t < 0 → 0 ≤ σ 36 t ∧ σ 36 t < σ 23 0) (h42A : ∀ t, 0 ≤ σ 42 t ∧ σ 42 t ≤ 100000) (h43A : ∀ t, 0 ≤ σ 43 t ∧ σ 43 t ≤ 100000) (h39A : ∀ t, 0 ≤ σ 39 t ∧ σ 39 t ≤ 3000000) (hdA : ∀ t, 0 ≤ σ 32 t ∧ σ 32 t ≤ 699) (hm : ∀ b, 0 ≤ σ 18 b ∧ σ 18 b ≤ 8) (hv : ∀ j, 0 ≤ σ 16 j) (hhoA : ∀ b d, 0 ≤ b → b < σ 23 0 → ¬ sHouse σ b d < 0 → 0 ≤ sHouse σ b d ∧ sHouse σ b d < σ 11 0) (hm22 : ∀ b, 0 ≤ σ 22 b ∧ σ 22 b ≤ 20) (hpw : ∀ j, 0 ≤ σ 20 j ∧ σ 20 j ≤ 1000) (hv19A : 0 < σ 23 0 → ∀ j, 0 ≤ σ 19 j ∧ σ 19 j < σ 11 0) (h7 : ∀ j, 0 ≤ σ 7 j) (hkA : ∀ b, 0 ≤ σ 12 b ∧ σ 12 b ≤ 4) (h28 : ∀ j, 0 ≤ σ 28 j ∧ σ 28 j ≤ 100000) (h29 : ∀ j, 0 ≤ σ 29 j ∧ σ 29 j ≤ 100000) (h15 : ∀ j, 0 ≤ σ 15 j ∧ σ 15 j ≤ 1000000) (hod : ∀ t, 0 ≤ t → t < σ 45 0 → σ 32 t ≤ σ 1 0) (h41 : ∀ t, 0 ≤ t → t < σ 45 0 → σ 37 t = 2 → σ 41 t = 0) : CT l yX10_claim wsX10_claim ({ frames := 8, cells := 16, slots := 256, locals := 188 } : Room) D cy d0 A [.ref (la 0 0), .int (iI t), .int (iI b)] la σ ((if claimC σ t b = 1 then 1 else (if claimC σ t b = 2 then 4 else (if claimC σ t b = 3 then 2 else 0)))) (fun v' la' τ => v' = some (.long (lI (sChg (claimS σ t b) t))) ∧ la' = la ∧ (∀ q, q ≠ 50 → q ≠ 51 → q ≠ 52 → τ q = claimS σ t b q) ∧ ∀ h, 0 ≤ h → h < σ 11 0 → τ 50 h = σ 50 h + sShr (claimS σ t b) t h) 16 256 := by
  refine ct_of (cc := cX10_claim) (nL := 5) (ret := (some .long)) (by decide) rfl (Nat.le_of_ble_eq_true rfl) ?_
  intro p e s m args below meth c ls E hout hr hlk hK hC hS hl
  have B := E.1
  have hml := E.2.1
  have hown := E.2.2.1
  have hts0 := E.2.2.2.1
  have hts := E.2.2.2.1
  have hw := hC.2.2.2.2.2.1
  refine x_aload_n B hl dX10_claim_0 rfl ?_
  refine x_iload_n B hl dX10_claim_1 rfl ?_
  refine ctm_call E hout hlk hK hC hS hl (κ := 0) (i := 0) (by decide) cl_0 rfl (c_tipAt l hlt D cy d0 A la _ (z := t) h_t (by omega) (by omega) hlg) (cwV 1 hts0 gX10_claim_X10_tipAt rfl rfl rfl (by decide +kernel) ⟨Nat.le_of_ble_eq_true rfl, Nat.le_of_ble_eq_true rfl⟩) rfl rfl (Nat.le_of_ble_eq_true rfl) dX10_claim_2 ⟨Nat.le_of_ble_eq_true rfl, Nat.le_of_ble_eq_true rfl⟩ ⟨Nat.le_of_ble_eq_true rfl, Nat.le_of_ble_eq_true rfl⟩ (fun h => ⟨by unfold claimC; omega, rfl⟩) (fun h9_2 H locs ht1 hC hS => ?_)
  refine x_astore_n B hl dX10_claim_5 (by decide) (fun ls hl => ?_)
  refine x_aload_n B hl dX10_claim_6 rfl ?_
  refine x_iload_n B hl dX10_claim_7 rfl ?_
  refine ctm_call E hout hlk hK hC hS hl (κ := 0) (i := 0) (by decide) cl_0 rfl (c_binAt l hlt D cy d0 A la _ (z := b) h_b (by omega) hlg) (cwV 1 hts0 gX10_claim_X10_binAt rfl rfl rfl (by decide +kernel) ⟨Nat.le_of_ble_eq_true rfl, Nat.le_of_ble_eq_true rfl⟩) rfl rfl (Nat.le_of_ble_eq_true rfl) dX10_claim_8 ⟨Nat.le_of_ble_eq_true rfl, Nat.le_of_ble_eq_true rfl⟩ ⟨Nat.le_of_ble_eq_true rfl, Nat.le_of_ble_eq_true rfl⟩ (fun h => ⟨by unfold claimC; omega, rfl⟩) (fun h9_8 H locs hb1 hC hS => ?_)
  refine x_astore B hl dX10_claim_11 (by decide) (fun ls hl => ?_)
  have hb13 := hw.2 13 b rfl
  have hday := hod t ht1.1 ht1.2
  refine x_aload_n B hl dX10_claim_13 rfl ?_
  refine co_geti (f := 37) E hC 10 (by decide) (cl_10 ht1) rfl (fun z h => List.mem_cons_of_mem _ (List.mem_append_left _ (List.mem_append_left _ (List.mem_append_left _ (List.mem_append_left _ (List.mem_append_left _ (List.mem_append_left _ (List.mem_append_left _ (List.mem_append_left _ (List.mem_append_left _ (List.mem_append_left _ (List.mem_append_right _ h)))))))))))) 5 (by decide) (hts (.fieldLink RX10 276 "BinRounds$Tip" "origin" "I") (by decide +kernel)) (fun x hx => hx) dX10_claim_14 ⟨rfl, rfl, rfl⟩ rfl (fun r_14 => ?_)
  refine x_iconst B dX10_claim_17 ?_
  refine x_icmp_ne (tgt := 36) B dX10_claim_18 (by decide) (by omega) (by omega) (fun c_18 => ?_) (fun c_18 => ?_)
  · refine x_iconst B dX10_claim_36 ?_
    refine cstm_call E hout hlk hK hC hS hl (c_requireThere l hlt D cy d0 A la _ (z := 0) (Or.inl rfl)) (va_cwS 1 hts0 gX10_claim_X10_requireThere rfl rfl rfl (by decide +kernel) ⟨Nat.le_of_ble_eq_true rfl, Nat.le_of_ble_eq_true rfl⟩) rfl rfl (Nat.le_of_ble_eq_true rfl) dX10_claim_37 ⟨Nat.le_of_ble_eq_true rfl, Nat.le_of_ble_eq_true rfl⟩ ⟨Nat.le_of_ble_eq_true rfl, Nat.le_of_ble_eq_true rfl⟩ (fun h => ⟨by unfold claimC; omega, rfl⟩) (fun h9_37 H locs q_37 hC hS => ?_)
    refine x_aload B hl dX10_claim_40 rfl ?_
    refine x_aload_n B hl dX10_claim_42 rfl ?_
    refine co_geti (f := 34) E hC 10 (by decide) (cl_10 ht1) rfl (fun z h => List.mem_cons_of_mem _ (List.mem_append_left _ (List.mem_append_left _ (List.mem_append_left _ (List.mem_append_left _ (List.mem_append_left _ (List.mem_append_left _ (List.mem_append_left _ (List.mem_append_left _ (List.mem_append_left _ (List.mem_append_left _ (List.mem_append_right _ h)))))))))))) 2 (by decide) (hts (.fieldLink RX10 279 "BinRounds$Tip" "markNumber" "I") (by decide +kernel)) (fun x hx => hx) dX10_claim_43 ⟨rfl, rfl, rfl⟩ rfl (fun r_43 => ?_)
    refine co_call E hK hC hS hl (κ := 6) (i := b) (by decide) (cl_6 hb1) rfl (c_bears l D cy d0 A la σ (b := b) (z := σ 34 t) hb1 (hw.1 34 t rfl)) (cwV 1 hts0 gX10_claim_X0_bears rfl rfl rfl (by decide +kernel) ⟨Nat.le_of_ble_eq_true rfl, Nat.le_of_ble_eq_true rfl⟩) rfl rfl (Nat.le_of_ble_eq_true rfl) dX10_claim_46 ⟨Nat.le_of_ble_eq_true rfl, Nat.le_of_ble_eq_true rfl⟩ (fun H locs q_46 hC hS => ?_)
    refine x_bool (fun b_46 => ?_) (fun b_46 => ?_)
    · refine cstm_call E hout hlk hK hC hS hl (c_require l hlt D cy d0 A la _ (z := 1) (Or.inr rfl)) (va_cwS 1 hts0 gX10_claim_X10_require rfl rfl rfl (by decide +kernel) ⟨Nat.le_of_ble_eq_true rfl, Nat.le_of_ble_eq_true rfl⟩) rfl rfl (Nat.le_of_ble_eq_true rfl) dX10_claim_49 ⟨Nat.le_of_ble_eq_true rfl, Nat.le_of_ble_eq_true rfl⟩ ⟨Nat.le_of_ble_eq_true rfl, Nat.le_of_ble_eq_true rfl⟩ (fun h => ⟨by unfold claimC; omega, rfl⟩) (fun h9_49 H locs q_49 hC hS => ?_)
      refine x_aload_n B hl dX10_claim_52 rfl ?_
      refine x_iconst B dX10_claim_53 ?_
      refine co_puti (f := 37) E hC hS 10 (by decide) (cl_10 ht1) rfl (fun z h => List.mem_cons_of_mem _ (List.mem_append_left _ (List.mem_append_left _ (List.mem_append_left _ (List.mem_append_left _ (List.mem_append_left _ (List.mem_append_left _ (List.mem_append_left _ (List.mem_append_left _ (List.mem_append_left _ (List.mem_append_left _ (List.mem_append_right _ h)))))))))))) tyX9 tyX9_ok nmX9 5 (by decide) (hts (.fieldLink RX10 276 "BinRounds$Tip" "origin" "I") (by decide +kernel)) (fun x hx => hx) rfl rfl dX10_claim_54 (by decide) ⟨rfl, rfl, rfl, rfl⟩ (by omega) (fun H locs hC hS => ?_)
      refine x_aload_n B hl dX10_claim_57 rfl ?_
      refine x_aload B hl dX10_claim_58 rfl ?_
      refine co_putB (v := b) E hC hS (cl_up (by decide) (cl_10 ht1)) rfl (fun z h => List.mem_cons_of_mem _ (List.mem_append_left _ (List.mem_append_left _ (List.mem_append_left _ (List.mem_append_left _ (List.mem_append_left _ (List.mem_append_left _ (List.mem_append_left _ (List.mem_append_left _ (List.mem_append_left _ (List.mem_append_left _ (List.mem_append_right _ h)))))))))))) tyX9_ok nmX9 (hts (.fieldLink RX10 211 "BinRounds$Tip" "bin" "LBinRounds$Bin;") (by decide +kernel)) (fun x hx => hx) rfl ⟨_, rfl⟩ (by omega) (if_neg (by omega)) dX10_claim_60 (fun H locs hC hS => ?_)
      obtain ⟨σ1, e1⟩ : ∃ z, z = up (up σ 37 t 3) 36 t b := ⟨_, rfl⟩
      have hC0 := hC
      replace hC : CP D cy d0 A la σ1 H := by rw [e1]; exact hC0
      have f1 : ∀ f, (f != 37 && f != 36) = true → σ1 f = σ f := fun f hf => by
        simp only [Bool.and_eq_true, bne_iff_ne, ne_eq] at hf
        rw [e1, up_f hf.2, up_f hf.1]
      have f36 : σ1 36 t = b := by rw [e1]; exact up_s
      have q1 : cLq σ σ1 := ⟨f1 _ rfl, f1 _ rfl, f1 _ rfl, f1 _ rfl, f1 _ rfl, f1 _ rfl, f1 _ rfl⟩
      have hH1 : ∀ b d, sHouse σ1 b d = sHouse σ b d := fun b d => sHouse_c (f1 16 rfl) (f1 17 rfl) (f1 18 rfl) b d
      have h41q := h41 t ht1.1 ht1.2 (by omega)
      have hch := c_chargeTip l D cy d0 A la σ1 (t := t) (by rw [f1 45 rfl]; exact ht1) (by rw [f1 45 rfl]; exact hn45) (by rw [f1 11 rfl]; omega) (by rw [f1 23 rfl]; exact hn23) (fun _ => by rw [f36, f1 23 rfl]; exact hb1) (by rw [f1 39 rfl]; exact h39A t) (by rw [f1 32 rfl]; exact hdA t) (by rw [f1 18 rfl]; exact hm) (by rw [f1 16 rfl]; exact hv) (by rw [f36, f1 32 rfl, hH1, f1 11 rfl]; exact hhoA _ _ hb1.1 hb1.2) (by rw [f1 22 rfl]; exact hm22) (by rw [f1 20 rfl]; exact hpw) (by rw [f36]; omega) (by rw [f1 19 rfl, f1 11 rfl]; exact hv19A (by omega)) (by rw [f1 7 rfl]; exact h7) (by rw [f36, f1 12 rfl]; exact hkA b) (by rw [f1 41 rfl]; intro z; omega) (by rw [f1 28 rfl]; exact h28) (by rw [f1 29 rfl]; exact h29) (by rw [f1 15 rfl]; exact h15)
      rw [f36] at hch
      have h43 := sCh_43 (σ := σ1) (t := t) (by rw [f1 28 rfl]; exact h28) (by rw [f1 29 rfl]; exact h29) (by rw [f1 7 rfl]; exact h7) (by rw [f36, f1 12 rfl]; exact hkA b) (by rw [f1 41 rfl]; intro z; omega)
      obtain ⟨S, eS⟩ : ∃ z, z = sCh σ1 t := ⟨_, rfl⟩
      have fS : ∀ f, (f != 42 && f != 43 && f != 40 && f != 15 && f != 7 && f != 37 && f != 36) = true → S f = σ f := fun f hf => by
        simp only [Bool.and_eq_true, bne_iff_ne, ne_eq] at hf
        rw [eS, sCh_f (by simp only [Bool.and_eq_true, bne_iff_ne, ne_eq]; omega)]
        exact f1 f (by simp only [Bool.and_eq_true, bne_iff_ne, ne_eq]; omega)
      have fS36 : S 36 t = b := by rw [eS, sCh_f rfl]; exact f36
      have hHS : ∀ b d, sHouse S b d = sHouse σ b d := fun b d => sHouse_c (fS 16 rfl) (fS 17 rfl) (fS 18 rfl) b d
      rw [← eS] at hch h43
      have hsp : ∀ τ1 : MS, (∀ q, q ≠ 50 → q ≠ 51 → q ≠ 52 → τ1 q = S q) → _ := fun τ1 hq => c_splitChargeE l D cy d0 A la S τ1 hq (t := t) (by rw [fS 45 rfl]; exact ht1) (by rw [fS 45 rfl]; exact hn45) (by rw [fS 11 rfl]; omega) (by rw [fS 23 rfl]; exact hn23) (fun _ => by rw [fS36]; omega) (fun _ => by rw [fS36, fS 23 rfl]; exact hb1) h43.1 h43.2 (by rw [fS 39 rfl]; exact h39A t) (by rw [fS 32 rfl]; exact hdA t) (by rw [fS 18 rfl]; exact hm) (by rw [fS 16 rfl]; exact hv) (by rw [fS36, fS 32 rfl, hHS, fS 11 rfl]; exact hhoA _ _ hb1.1 hb1.2) (by rw [fS 22 rfl]; exact hm22) (by rw [fS 20 rfl]; exact hpw) (fun _ => by rw [fS 19 rfl, fS 11 rfl]; exact hv19A (by omega))
      have hcS : claimS σ t b = S := by rw [eS, e1]; rfl
      refine x_aload_n B hl dX10_claim_63 rfl ?_
      refine x_aload_n B hl dX10_claim_64 rfl ?_
      refine x_aload B hl dX10_claim_65 rfl ?_
      refine co_callX E hK hC hS hl (κ := 0) (i := 0) (by decide) cl_0 rfl hch (cwV 2 hts0 gX10_claim_X10_chargeTip rfl rfl rfl (by decide +kernel) ⟨Nat.le_of_ble_eq_true rfl, Nat.le_of_ble_eq_true rfl⟩) rfl rfl (Nat.le_of_ble_eq_true rfl) dX10_claim_67 ⟨Nat.le_of_ble_eq_true rfl, Nat.le_of_ble_eq_true rfl⟩ (fun H locs τ1 qx hC hS => ?_)
      have g1 : ∀ f, (f != 42 && f != 43 && f != 40 && f != 15 && f != 7 && f != 37 && f != 36 && f != 50 && f != 51 && f != 52) = true → τ1 f = σ f := fun f hf => by
        simp only [Bool.and_eq_true, bne_iff_ne, ne_eq] at hf
        rw [qx.1 f (by omega) (by omega) (by omega)]
        exact fS f (by simp only [Bool.and_eq_true, bne_iff_ne, ne_eq]; omega)
      refine x_aload_n B hl dX10_claim_70 rfl ?_
      refine x_aload_n B hl dX10_claim_71 rfl ?_
      refine co_callX E hK hC hS hl (κ := 0) (i := 0) (by decide) cl_0 rfl (hsp τ1 qx.1) (cwV 1 hts0 gX10_claim_X10_splitCharge rfl rfl rfl (by decide +kernel) ⟨Nat.le_of_ble_eq_true rfl, Nat.le_of_ble_eq_true rfl⟩) rfl rfl (Nat.le_of_ble_eq_true rfl) dX10_claim_72 ⟨Nat.le_of_ble_eq_true rfl, Nat.le_of_ble_eq_true rfl⟩ (fun H locs τ2 qy hC hS => ?_)
      exact w_widen (Nat.le_of_ble_eq_true rfl) (Nat.le_of_ble_eq_true rfl) (vx_ret (co_lret E hr hlk hC hS dX10_claim_75 ⟨(by unfold claimC; omega), by rw [hcS], rfl, fun q a b c => by rw [hcS, qy q b c]; exact qx.1 q a b c, fun h a b => by rw [hcS, qy 50 (by decide) (by decide), qx.2 h a (by rw [f1 11 rfl]; exact b), f1 50 rfl]⟩))
    · refine cstm_call E hout hlk hK hC hS hl (c_require l hlt D cy d0 A la _ (z := 0) (Or.inl rfl)) (va_cwS 1 hts0 gX10_claim_X10_require rfl rfl rfl (by decide +kernel) ⟨Nat.le_of_ble_eq_true rfl, Nat.le_of_ble_eq_true rfl⟩) rfl rfl (Nat.le_of_ble_eq_true rfl) dX10_claim_49 ⟨Nat.le_of_ble_eq_true rfl, Nat.le_of_ble_eq_true rfl⟩ ⟨Nat.le_of_ble_eq_true rfl, Nat.le_of_ble_eq_true rfl⟩ (fun h => ⟨by unfold claimC; omega, rfl⟩) (fun h9_49 H locs q_49 hC hS => ?_)
      refine x_aload_n B hl dX10_claim_52 rfl ?_
      refine x_iconst B dX10_claim_53 ?_
      refine co_puti (f := 37) E hC hS 10 (by decide) (cl_10 ht1) rfl (fun z h => List.mem_cons_of_mem _ (List.mem_append_left _ (List.mem_append_left _ (List.mem_append_left _ (List.mem_append_left _ (List.mem_append_left _ (List.mem_append_left _ (List.mem_append_left _ (List.mem_append_left _ (List.mem_append_left _ (List.mem_append_left _ (List.mem_append_right _ h)))))))))))) tyX9 tyX9_ok nmX9 5 (by decide) (hts (.fieldLink RX10 276 "BinRounds$Tip" "origin" "I") (by decide +kernel)) (fun x hx => hx) rfl rfl dX10_claim_54 (by decide) ⟨rfl, rfl, rfl, rfl⟩ (by omega) (fun H locs hC hS => ?_)
      refine x_aload_n B hl dX10_claim_57 rfl ?_
      refine x_aload B hl dX10_claim_58 rfl ?_
      refine co_putB (v := b) E hC hS (cl_up (by decide) (cl_10 ht1)) rfl (fun z h => List.mem_cons_of_mem _ (List.mem_append_left _ (List.mem_append_left _ (List.mem_append_left _ (List.mem_append_left _ (List.mem_append_left _ (List.mem_append_left _ (List.mem_append_left _ (List.mem_append_left _ (List.mem_append_left _ (List.mem_append_left _ (List.mem_append_right _ h)))))))))))) tyX9_ok nmX9 (hts (.fieldLink RX10 211 "BinRounds$Tip" "bin" "LBinRounds$Bin;") (by decide +kernel)) (fun x hx => hx) rfl ⟨_, rfl⟩ (by omega) (if_neg (by omega)) dX10_claim_60 (fun H locs hC hS => ?_)
      obtain ⟨σ1, e1⟩ : ∃ z, z = up (up σ 37 t 3) 36 t b := ⟨_, rfl⟩
      have hC0 := hC
      replace hC : CP D cy d0 A la σ1 H := by rw [e1]; exact hC0
      have f1 : ∀ f, (f != 37 && f != 36) = true → σ1 f = σ f := fun f hf => by
        simp only [Bool.and_eq_true, bne_iff_ne, ne_eq] at hf
        rw [e1, up_f hf.2, up_f hf.1]
      have f36 : σ1 36 t = b := by rw [e1]; exact up_s
      have q1 : cLq σ σ1 := ⟨f1 _ rfl, f1 _ rfl, f1 _ rfl, f1 _ rfl, f1 _ rfl, f1 _ rfl, f1 _ rfl⟩
      have hH1 : ∀ b d, sHouse σ1 b d = sHouse σ b d := fun b d => sHouse_c (f1 16 rfl) (f1 17 rfl) (f1 18 rfl) b d
      have h41q := h41 t ht1.1 ht1.2 (by omega)
      have hch := c_chargeTip l D cy d0 A la σ1 (t := t) (by rw [f1 45 rfl]; exact ht1) (by rw [f1 45 rfl]; exact hn45) (by rw [f1 11 rfl]; omega) (by rw [f1 23 rfl]; exact hn23) (fun _ => by rw [f36, f1 23 rfl]; exact hb1) (by rw [f1 39 rfl]; exact h39A t) (by rw [f1 32 rfl]; exact hdA t) (by rw [f1 18 rfl]; exact hm) (by rw [f1 16 rfl]; exact hv) (by rw [f36, f1 32 rfl, hH1, f1 11 rfl]; exact hhoA _ _ hb1.1 hb1.2) (by rw [f1 22 rfl]; exact hm22) (by rw [f1 20 rfl]; exact hpw) (by rw [f36]; omega) (by rw [f1 19 rfl, f1 11 rfl]; exact hv19A (by omega)) (by rw [f1 7 rfl]; exact h7) (by rw [f36, f1 12 rfl]; exact hkA b) (by rw [f1 41 rfl]; intro z; omega) (by rw [f1 28 rfl]; exact h28) (by rw [f1 29 rfl]; exact h29) (by rw [f1 15 rfl]; exact h15)
      rw [f36] at hch
      have h43 := sCh_43 (σ := σ1) (t := t) (by rw [f1 28 rfl]; exact h28) (by rw [f1 29 rfl]; exact h29) (by rw [f1 7 rfl]; exact h7) (by rw [f36, f1 12 rfl]; exact hkA b) (by rw [f1 41 rfl]; intro z; omega)
      obtain ⟨S, eS⟩ : ∃ z, z = sCh σ1 t := ⟨_, rfl⟩
      have fS : ∀ f, (f != 42 && f != 43 && f != 40 && f != 15 && f != 7 && f != 37 && f != 36) = true → S f = σ f := fun f hf => by
        simp only [Bool.and_eq_true, bne_iff_ne, ne_eq] at hf
        rw [eS, sCh_f (by simp only [Bool.and_eq_true, bne_iff_ne, ne_eq]; omega)]
        exact f1 f (by simp only [Bool.and_eq_true, bne_iff_ne, ne_eq]; omega)
      have fS36 : S 36 t = b := by rw [eS, sCh_f rfl]; exact f36
      have hHS : ∀ b d, sHouse S b d = sHouse σ b d := fun b d => sHouse_c (fS 16 rfl) (fS 17 rfl) (fS 18 rfl) b d
      rw [← eS] at hch h43
      have hsp : ∀ τ1 : MS, (∀ q, q ≠ 50 → q ≠ 51 → q ≠ 52 → τ1 q = S q) → _ := fun τ1 hq => c_splitChargeE l D cy d0 A la S τ1 hq (t := t) (by rw [fS 45 rfl]; exact ht1) (by rw [fS 45 rfl]; exact hn45) (by rw [fS 11 rfl]; omega) (by rw [fS 23 rfl]; exact hn23) (fun _ => by rw [fS36]; omega) (fun _ => by rw [fS36, fS 23 rfl]; exact hb1) h43.1 h43.2 (by rw [fS 39 rfl]; exact h39A t) (by rw [fS 32 rfl]; exact hdA t) (by rw [fS 18 rfl]; exact hm) (by rw [fS 16 rfl]; exact hv) (by rw [fS36, fS 32 rfl, hHS, fS 11 rfl]; exact hhoA _ _ hb1.1 hb1.2) (by rw [fS 22 rfl]; exact hm22) (by rw [fS 20 rfl]; exact hpw) (fun _ => by rw [fS 19 rfl, fS 11 rfl]; exact hv19A (by omega))
      have hcS : claimS σ t b = S := by rw [eS, e1]; rfl
      refine x_aload_n B hl dX10_claim_63 rfl ?_
      refine x_aload_n B hl dX10_claim_64 rfl ?_
      refine x_aload B hl dX10_claim_65 rfl ?_
      refine co_callX E hK hC hS hl (κ := 0) (i := 0) (by decide) cl_0 rfl hch (cwV 2 hts0 gX10_claim_X10_chargeTip rfl rfl rfl (by decide +kernel) ⟨Nat.le_of_ble_eq_true rfl, Nat.le_of_ble_eq_true rfl⟩) rfl rfl (Nat.le_of_ble_eq_true rfl) dX10_claim_67 ⟨Nat.le_of_ble_eq_true rfl, Nat.le_of_ble_eq_true rfl⟩ (fun H locs τ1 qx hC hS => ?_)
      have g1 : ∀ f, (f != 42 && f != 43 && f != 40 && f != 15 && f != 7 && f != 37 && f != 36 && f != 50 && f != 51 && f != 52) = true → τ1 f = σ f := fun f hf => by
        simp only [Bool.and_eq_true, bne_iff_ne, ne_eq] at hf
        rw [qx.1 f (by omega) (by omega) (by omega)]
        exact fS f (by simp only [Bool.and_eq_true, bne_iff_ne, ne_eq]; omega)
      refine x_aload_n B hl dX10_claim_70 rfl ?_
      refine x_aload_n B hl dX10_claim_71 rfl ?_
      refine co_callX E hK hC hS hl (κ := 0) (i := 0) (by decide) cl_0 rfl (hsp τ1 qx.1) (cwV 1 hts0 gX10_claim_X10_splitCharge rfl rfl rfl (by decide +kernel) ⟨Nat.le_of_ble_eq_true rfl, Nat.le_of_ble_eq_true rfl⟩) rfl rfl (Nat.le_of_ble_eq_true rfl) dX10_claim_72 ⟨Nat.le_of_ble_eq_true rfl, Nat.le_of_ble_eq_true rfl⟩ (fun H locs τ2 qy hC hS => ?_)
      exact w_widen (Nat.le_of_ble_eq_true rfl) (Nat.le_of_ble_eq_true rfl) (vx_ret (co_lret E hr hlk hC hS dX10_claim_75 ⟨(by unfold claimC; omega), by rw [hcS], rfl, fun q a b c => by rw [hcS, qy q b c]; exact qx.1 q a b c, fun h a b => by rw [hcS, qy 50 (by decide) (by decide), qx.2 h a (by rw [f1 11 rfl]; exact b), f1 50 rfl]⟩))
  · refine x_aload_n B hl dX10_claim_21 rfl ?_
    refine co_geti (f := 32) E hC 10 (by decide) (cl_10 ht1) rfl (fun z h => List.mem_cons_of_mem _ (List.mem_append_left _ (List.mem_append_left _ (List.mem_append_left _ (List.mem_append_left _ (List.mem_append_left _ (List.mem_append_left _ (List.mem_append_left _ (List.mem_append_left _ (List.mem_append_left _ (List.mem_append_left _ (List.mem_append_right _ h)))))))))))) 0 (by decide) (hts (.fieldLink RX10 229 "BinRounds$Tip" "day" "I") (by decide +kernel)) (fun x hx => hx) dX10_claim_22 ⟨rfl, rfl, rfl⟩ rfl (fun r_22 => ?_)
    refine x_aload_n B hl dX10_claim_25 rfl ?_
    refine co_geti (f := 1) E hC 0 (by decide) cl_0 rfl (fun z h => List.mem_cons_of_mem _ (List.mem_append_left _ (List.mem_append_left _ (List.mem_append_left _ (List.mem_append_left _ (List.mem_append_left _ (List.mem_append_left _ (List.mem_append_left _ (List.mem_append_left _ (List.mem_append_left _ (List.mem_append_right _ h))))))))))) 8 (by decide) (hts (.fieldLink RX10 49 "BinRounds" "open" "I") (by decide +kernel)) (fun x hx => hx) dX10_claim_26 ⟨rfl, rfl, rfl⟩ rfl (fun r_26 => ?_)
    refine x_icmp_ge (tgt := 36) B dX10_claim_29 (by decide) (by omega) (by omega) (fun c_29 => ?_) (fun c_29 => ?_)
    · refine x_iconst B dX10_claim_36 ?_
      refine cstm_call E hout hlk hK hC hS hl (c_requireThere l hlt D cy d0 A la _ (z := 0) (Or.inl rfl)) (va_cwS 1 hts0 gX10_claim_X10_requireThere rfl rfl rfl (by decide +kernel) ⟨Nat.le_of_ble_eq_true rfl, Nat.le_of_ble_eq_true rfl⟩) rfl rfl (Nat.le_of_ble_eq_true rfl) dX10_claim_37 ⟨Nat.le_of_ble_eq_true rfl, Nat.le_of_ble_eq_true rfl⟩ ⟨Nat.le_of_ble_eq_true rfl, Nat.le_of_ble_eq_true rfl⟩ (fun h => ⟨by unfold claimC; omega, rfl⟩) (fun h9_37 H locs q_37 hC hS => ?_)
      refine x_aload B hl dX10_claim_40 rfl ?_
      refine x_aload_n B hl dX10_claim_42 rfl ?_
      refine co_geti (f := 34) E hC 10 (by decide) (cl_10 ht1) rfl (fun z h => List.mem_cons_of_mem _ (List.mem_append_left _ (List.mem_append_left _ (List.mem_append_left _ (List.mem_append_left _ (List.mem_append_left _ (List.mem_append_left _ (List.mem_append_left _ (List.mem_append_left _ (List.mem_append_left _ (List.mem_append_left _ (List.mem_append_right _ h)))))))))))) 2 (by decide) (hts (.fieldLink RX10 279 "BinRounds$Tip" "markNumber" "I") (by decide +kernel)) (fun x hx => hx) dX10_claim_43 ⟨rfl, rfl, rfl⟩ rfl (fun r_43 => ?_)
      refine co_call E hK hC hS hl (κ := 6) (i := b) (by decide) (cl_6 hb1) rfl (c_bears l D cy d0 A la σ (b := b) (z := σ 34 t) hb1 (hw.1 34 t rfl)) (cwV 1 hts0 gX10_claim_X0_bears rfl rfl rfl (by decide +kernel) ⟨Nat.le_of_ble_eq_true rfl, Nat.le_of_ble_eq_true rfl⟩) rfl rfl (Nat.le_of_ble_eq_true rfl) dX10_claim_46 ⟨Nat.le_of_ble_eq_true rfl, Nat.le_of_ble_eq_true rfl⟩ (fun H locs q_46 hC hS => ?_)
      refine x_bool (fun b_46 => ?_) (fun b_46 => ?_)
      · refine cstm_call E hout hlk hK hC hS hl (c_require l hlt D cy d0 A la _ (z := 1) (Or.inr rfl)) (va_cwS 1 hts0 gX10_claim_X10_require rfl rfl rfl (by decide +kernel) ⟨Nat.le_of_ble_eq_true rfl, Nat.le_of_ble_eq_true rfl⟩) rfl rfl (Nat.le_of_ble_eq_true rfl) dX10_claim_49 ⟨Nat.le_of_ble_eq_true rfl, Nat.le_of_ble_eq_true rfl⟩ ⟨Nat.le_of_ble_eq_true rfl, Nat.le_of_ble_eq_true rfl⟩ (fun h => ⟨by unfold claimC; omega, rfl⟩) (fun h9_49 H locs q_49 hC hS => ?_)
        refine x_aload_n B hl dX10_claim_52 rfl ?_
        refine x_iconst B dX10_claim_53 ?_
        refine co_puti (f := 37) E hC hS 10 (by decide) (cl_10 ht1) rfl (fun z h => List.mem_cons_of_mem _ (List.mem_append_left _ (List.mem_append_left _ (List.mem_append_left _ (List.mem_append_left _ (List.mem_append_left _ (List.mem_append_left _ (List.mem_append_left _ (List.mem_append_left _ (List.mem_append_left _ (List.mem_append_left _ (List.mem_append_right _ h)))))))))))) tyX9 tyX9_ok nmX9 5 (by decide) (hts (.fieldLink RX10 276 "BinRounds$Tip" "origin" "I") (by decide +kernel)) (fun x hx => hx) rfl rfl dX10_claim_54 (by decide) ⟨rfl, rfl, rfl, rfl⟩ (by omega) (fun H locs hC hS => ?_)
        refine x_aload_n B hl dX10_claim_57 rfl ?_
        refine x_aload B hl dX10_claim_58 rfl ?_
        refine co_putB (v := b) E hC hS (cl_up (by decide) (cl_10 ht1)) rfl (fun z h => List.mem_cons_of_mem _ (List.mem_append_left _ (List.mem_append_left _ (List.mem_append_left _ (List.mem_append_left _ (List.mem_append_left _ (List.mem_append_left _ (List.mem_append_left _ (List.mem_append_left _ (List.mem_append_left _ (List.mem_append_left _ (List.mem_append_right _ h)))))))))))) tyX9_ok nmX9 (hts (.fieldLink RX10 211 "BinRounds$Tip" "bin" "LBinRounds$Bin;") (by decide +kernel)) (fun x hx => hx) rfl ⟨_, rfl⟩ (by omega) (if_neg (by omega)) dX10_claim_60 (fun H locs hC hS => ?_)
        obtain ⟨σ1, e1⟩ : ∃ z, z = up (up σ 37 t 3) 36 t b := ⟨_, rfl⟩
        have hC0 := hC
        replace hC : CP D cy d0 A la σ1 H := by rw [e1]; exact hC0
        have f1 : ∀ f, (f != 37 && f != 36) = true → σ1 f = σ f := fun f hf => by
          simp only [Bool.and_eq_true, bne_iff_ne, ne_eq] at hf
          rw [e1, up_f hf.2, up_f hf.1]
        have f36 : σ1 36 t = b := by rw [e1]; exact up_s
        have q1 : cLq σ σ1 := ⟨f1 _ rfl, f1 _ rfl, f1 _ rfl, f1 _ rfl, f1 _ rfl, f1 _ rfl, f1 _ rfl⟩
        have hH1 : ∀ b d, sHouse σ1 b d = sHouse σ b d := fun b d => sHouse_c (f1 16 rfl) (f1 17 rfl) (f1 18 rfl) b d
        have h41q := h41 t ht1.1 ht1.2 (by omega)
        have hch := c_chargeTip l D cy d0 A la σ1 (t := t) (by rw [f1 45 rfl]; exact ht1) (by rw [f1 45 rfl]; exact hn45) (by rw [f1 11 rfl]; omega) (by rw [f1 23 rfl]; exact hn23) (fun _ => by rw [f36, f1 23 rfl]; exact hb1) (by rw [f1 39 rfl]; exact h39A t) (by rw [f1 32 rfl]; exact hdA t) (by rw [f1 18 rfl]; exact hm) (by rw [f1 16 rfl]; exact hv) (by rw [f36, f1 32 rfl, hH1, f1 11 rfl]; exact hhoA _ _ hb1.1 hb1.2) (by rw [f1 22 rfl]; exact hm22) (by rw [f1 20 rfl]; exact hpw) (by rw [f36]; omega) (by rw [f1 19 rfl, f1 11 rfl]; exact hv19A (by omega)) (by rw [f1 7 rfl]; exact h7) (by rw [f36, f1 12 rfl]; exact hkA b) (by rw [f1 41 rfl]; intro z; omega) (by rw [f1 28 rfl]; exact h28) (by rw [f1 29 rfl]; exact h29) (by rw [f1 15 rfl]; exact h15)
        rw [f36] at hch
        have h43 := sCh_43 (σ := σ1) (t := t) (by rw [f1 28 rfl]; exact h28) (by rw [f1 29 rfl]; exact h29) (by rw [f1 7 rfl]; exact h7) (by rw [f36, f1 12 rfl]; exact hkA b) (by rw [f1 41 rfl]; intro z; omega)
        obtain ⟨S, eS⟩ : ∃ z, z = sCh σ1 t := ⟨_, rfl⟩
        have fS : ∀ f, (f != 42 && f != 43 && f != 40 && f != 15 && f != 7 && f != 37 && f != 36) = true → S f = σ f := fun f hf => by
          simp only [Bool.and_eq_true, bne_iff_ne, ne_eq] at hf
          rw [eS, sCh_f (by simp only [Bool.and_eq_true, bne_iff_ne, ne_eq]; omega)]
          exact f1 f (by simp only [Bool.and_eq_true, bne_iff_ne, ne_eq]; omega)
        have fS36 : S 36 t = b := by rw [eS, sCh_f rfl]; exact f36
        have hHS : ∀ b d, sHouse S b d = sHouse σ b d := fun b d => sHouse_c (fS 16 rfl) (fS 17 rfl) (fS 18 rfl) b d
        rw [← eS] at hch h43
        have hsp : ∀ τ1 : MS, (∀ q, q ≠ 50 → q ≠ 51 → q ≠ 52 → τ1 q = S q) → _ := fun τ1 hq => c_splitChargeE l D cy d0 A la S τ1 hq (t := t) (by rw [fS 45 rfl]; exact ht1) (by rw [fS 45 rfl]; exact hn45) (by rw [fS 11 rfl]; omega) (by rw [fS 23 rfl]; exact hn23) (fun _ => by rw [fS36]; omega) (fun _ => by rw [fS36, fS 23 rfl]; exact hb1) h43.1 h43.2 (by rw [fS 39 rfl]; exact h39A t) (by rw [fS 32 rfl]; exact hdA t) (by rw [fS 18 rfl]; exact hm) (by rw [fS 16 rfl]; exact hv) (by rw [fS36, fS 32 rfl, hHS, fS 11 rfl]; exact hhoA _ _ hb1.1 hb1.2) (by rw [fS 22 rfl]; exact hm22) (by rw [fS 20 rfl]; exact hpw) (fun _ => by rw [fS 19 rfl, fS 11 rfl]; exact hv19A (by omega))
        have hcS : claimS σ t b = S := by rw [eS, e1]; rfl
        refine x_aload_n B hl dX10_claim_63 rfl ?_
        refine x_aload_n B hl dX10_claim_64 rfl ?_
        refine x_aload B hl dX10_claim_65 rfl ?_
        refine co_callX E hK hC hS hl (κ := 0) (i := 0) (by decide) cl_0 rfl hch (cwV 2 hts0 gX10_claim_X10_chargeTip rfl rfl rfl (by decide +kernel) ⟨Nat.le_of_ble_eq_true rfl, Nat.le_of_ble_eq_true rfl⟩) rfl rfl (Nat.le_of_ble_eq_true rfl) dX10_claim_67 ⟨Nat.le_of_ble_eq_true rfl, Nat.le_of_ble_eq_true rfl⟩ (fun H locs τ1 qx hC hS => ?_)
        have g1 : ∀ f, (f != 42 && f != 43 && f != 40 && f != 15 && f != 7 && f != 37 && f != 36 && f != 50 && f != 51 && f != 52) = true → τ1 f = σ f := fun f hf => by
          simp only [Bool.and_eq_true, bne_iff_ne, ne_eq] at hf
          rw [qx.1 f (by omega) (by omega) (by omega)]
          exact fS f (by simp only [Bool.and_eq_true, bne_iff_ne, ne_eq]; omega)
        refine x_aload_n B hl dX10_claim_70 rfl ?_
        refine x_aload_n B hl dX10_claim_71 rfl ?_
        refine co_callX E hK hC hS hl (κ := 0) (i := 0) (by decide) cl_0 rfl (hsp τ1 qx.1) (cwV 1 hts0 gX10_claim_X10_splitCharge rfl rfl rfl (by decide +kernel) ⟨Nat.le_of_ble_eq_true rfl, Nat.le_of_ble_eq_true rfl⟩) rfl rfl (Nat.le_of_ble_eq_true rfl) dX10_claim_72 ⟨Nat.le_of_ble_eq_true rfl, Nat.le_of_ble_eq_true rfl⟩ (fun H locs τ2 qy hC hS => ?_)
        exact w_widen (Nat.le_of_ble_eq_true rfl) (Nat.le_of_ble_eq_true rfl) (vx_ret (co_lret E hr hlk hC hS dX10_claim_75 ⟨(by unfold claimC; omega), by rw [hcS], rfl, fun q a b c => by rw [hcS, qy q b c]; exact qx.1 q a b c, fun h a b => by rw [hcS, qy 50 (by decide) (by decide), qx.2 h a (by rw [f1 11 rfl]; exact b), f1 50 rfl]⟩))
      · refine cstm_call E hout hlk hK hC hS hl (c_require l hlt D cy d0 A la _ (z := 0) (Or.inl rfl)) (va_cwS 1 hts0 gX10_claim_X10_require rfl rfl rfl (by decide +kernel) ⟨Nat.le_of_ble_eq_true rfl, Nat.le_of_ble_eq_true rfl⟩) rfl rfl (Nat.le_of_ble_eq_true rfl) dX10_claim_49 ⟨Nat.le_of_ble_eq_true rfl, Nat.le_of_ble_eq_true rfl⟩ ⟨Nat.le_of_ble_eq_true rfl, Nat.le_of_ble_eq_true rfl⟩ (fun h => ⟨by unfold claimC; omega, rfl⟩) (fun h9_49 H locs q_49 hC hS => ?_)
        refine x_aload_n B hl dX10_claim_52 rfl ?_
        refine x_iconst B dX10_claim_53 ?_
        refine co_puti (f := 37) E hC hS 10 (by decide) (cl_10 ht1) rfl (fun z h => List.mem_cons_of_mem _ (List.mem_append_left _ (List.mem_append_left _ (List.mem_append_left _ (List.mem_append_left _ (List.mem_append_left _ (List.mem_append_left _ (List.mem_append_left _ (List.mem_append_left _ (List.mem_append_left _ (List.mem_append_left _ (List.mem_append_right _ h)))))))))))) tyX9 tyX9_ok nmX9 5 (by decide) (hts (.fieldLink RX10 276 "BinRounds$Tip" "origin" "I") (by decide +kernel)) (fun x hx => hx) rfl rfl dX10_claim_54 (by decide) ⟨rfl, rfl, rfl, rfl⟩ (by omega) (fun H locs hC hS => ?_)
        refine x_aload_n B hl dX10_claim_57 rfl ?_
        refine x_aload B hl dX10_claim_58 rfl ?_
        refine co_putB (v := b) E hC hS (cl_up (by decide) (cl_10 ht1)) rfl (fun z h => List.mem_cons_of_mem _ (List.mem_append_left _ (List.mem_append_left _ (List.mem_append_left _ (List.mem_append_left _ (List.mem_append_left _ (List.mem_append_left _ (List.mem_append_left _ (List.mem_append_left _ (List.mem_append_left _ (List.mem_append_left _ (List.mem_append_right _ h)))))))))))) tyX9_ok nmX9 (hts (.fieldLink RX10 211 "BinRounds$Tip" "bin" "LBinRounds$Bin;") (by decide +kernel)) (fun x hx => hx) rfl ⟨_, rfl⟩ (by omega) (if_neg (by omega)) dX10_claim_60 (fun H locs hC hS => ?_)
        obtain ⟨σ1, e1⟩ : ∃ z, z = up (up σ 37 t 3) 36 t b := ⟨_, rfl⟩
        have hC0 := hC
        replace hC : CP D cy d0 A la σ1 H := by rw [e1]; exact hC0
        have f1 : ∀ f, (f != 37 && f != 36) = true → σ1 f = σ f := fun f hf => by
          simp only [Bool.and_eq_true, bne_iff_ne, ne_eq] at hf
          rw [e1, up_f hf.2, up_f hf.1]
        have f36 : σ1 36 t = b := by rw [e1]; exact up_s
        have q1 : cLq σ σ1 := ⟨f1 _ rfl, f1 _ rfl, f1 _ rfl, f1 _ rfl, f1 _ rfl, f1 _ rfl, f1 _ rfl⟩
        have hH1 : ∀ b d, sHouse σ1 b d = sHouse σ b d := fun b d => sHouse_c (f1 16 rfl) (f1 17 rfl) (f1 18 rfl) b d
        have h41q := h41 t ht1.1 ht1.2 (by omega)
        have hch := c_chargeTip l D cy d0 A la σ1 (t := t) (by rw [f1 45 rfl]; exact ht1) (by rw [f1 45 rfl]; exact hn45) (by rw [f1 11 rfl]; omega) (by rw [f1 23 rfl]; exact hn23) (fun _ => by rw [f36, f1 23 rfl]; exact hb1) (by rw [f1 39 rfl]; exact h39A t) (by rw [f1 32 rfl]; exact hdA t) (by rw [f1 18 rfl]; exact hm) (by rw [f1 16 rfl]; exact hv) (by rw [f36, f1 32 rfl, hH1, f1 11 rfl]; exact hhoA _ _ hb1.1 hb1.2) (by rw [f1 22 rfl]; exact hm22) (by rw [f1 20 rfl]; exact hpw) (by rw [f36]; omega) (by rw [f1 19 rfl, f1 11 rfl]; exact hv19A (by omega)) (by rw [f1 7 rfl]; exact h7) (by rw [f36, f1 12 rfl]; exact hkA b) (by rw [f1 41 rfl]; intro z; omega) (by rw [f1 28 rfl]; exact h28) (by rw [f1 29 rfl]; exact h29) (by rw [f1 15 rfl]; exact h15)
        rw [f36] at hch
        have h43 := sCh_43 (σ := σ1) (t := t) (by rw [f1 28 rfl]; exact h28) (by rw [f1 29 rfl]; exact h29) (by rw [f1 7 rfl]; exact h7) (by rw [f36, f1 12 rfl]; exact hkA b) (by rw [f1 41 rfl]; intro z; omega)
        obtain ⟨S, eS⟩ : ∃ z, z = sCh σ1 t := ⟨_, rfl⟩
        have fS : ∀ f, (f != 42 && f != 43 && f != 40 && f != 15 && f != 7 && f != 37 && f != 36) = true → S f = σ f := fun f hf => by
          simp only [Bool.and_eq_true, bne_iff_ne, ne_eq] at hf
          rw [eS, sCh_f (by simp only [Bool.and_eq_true, bne_iff_ne, ne_eq]; omega)]
          exact f1 f (by simp only [Bool.and_eq_true, bne_iff_ne, ne_eq]; omega)
        have fS36 : S 36 t = b := by rw [eS, sCh_f rfl]; exact f36
        have hHS : ∀ b d, sHouse S b d = sHouse σ b d := fun b d => sHouse_c (fS 16 rfl) (fS 17 rfl) (fS 18 rfl) b d
        rw [← eS] at hch h43
        have hsp : ∀ τ1 : MS, (∀ q, q ≠ 50 → q ≠ 51 → q ≠ 52 → τ1 q = S q) → _ := fun τ1 hq => c_splitChargeE l D cy d0 A la S τ1 hq (t := t) (by rw [fS 45 rfl]; exact ht1) (by rw [fS 45 rfl]; exact hn45) (by rw [fS 11 rfl]; omega) (by rw [fS 23 rfl]; exact hn23) (fun _ => by rw [fS36]; omega) (fun _ => by rw [fS36, fS 23 rfl]; exact hb1) h43.1 h43.2 (by rw [fS 39 rfl]; exact h39A t) (by rw [fS 32 rfl]; exact hdA t) (by rw [fS 18 rfl]; exact hm) (by rw [fS 16 rfl]; exact hv) (by rw [fS36, fS 32 rfl, hHS, fS 11 rfl]; exact hhoA _ _ hb1.1 hb1.2) (by rw [fS 22 rfl]; exact hm22) (by rw [fS 20 rfl]; exact hpw) (fun _ => by rw [fS 19 rfl, fS 11 rfl]; exact hv19A (by omega))
        have hcS : claimS σ t b = S := by rw [eS, e1]; rfl
        refine x_aload_n B hl dX10_claim_63 rfl ?_
        refine x_aload_n B hl dX10_claim_64 rfl ?_
        refine x_aload B hl dX10_claim_65 rfl ?_
        refine co_callX E hK hC hS hl (κ := 0) (i := 0) (by decide) cl_0 rfl hch (cwV 2 hts0 gX10_claim_X10_chargeTip rfl rfl rfl (by decide +kernel) ⟨Nat.le_of_ble_eq_true rfl, Nat.le_of_ble_eq_true rfl⟩) rfl rfl (Nat.le_of_ble_eq_true rfl) dX10_claim_67 ⟨Nat.le_of_ble_eq_true rfl, Nat.le_of_ble_eq_true rfl⟩ (fun H locs τ1 qx hC hS => ?_)
        have g1 : ∀ f, (f != 42 && f != 43 && f != 40 && f != 15 && f != 7 && f != 37 && f != 36 && f != 50 && f != 51 && f != 52) = true → τ1 f = σ f := fun f hf => by
          simp only [Bool.and_eq_true, bne_iff_ne, ne_eq] at hf
          rw [qx.1 f (by omega) (by omega) (by omega)]
          exact fS f (by simp only [Bool.and_eq_true, bne_iff_ne, ne_eq]; omega)
        refine x_aload_n B hl dX10_claim_70 rfl ?_
        refine x_aload_n B hl dX10_claim_71 rfl ?_
        refine co_callX E hK hC hS hl (κ := 0) (i := 0) (by decide) cl_0 rfl (hsp τ1 qx.1) (cwV 1 hts0 gX10_claim_X10_splitCharge rfl rfl rfl (by decide +kernel) ⟨Nat.le_of_ble_eq_true rfl, Nat.le_of_ble_eq_true rfl⟩) rfl rfl (Nat.le_of_ble_eq_true rfl) dX10_claim_72 ⟨Nat.le_of_ble_eq_true rfl, Nat.le_of_ble_eq_true rfl⟩ (fun H locs τ2 qy hC hS => ?_)
        exact w_widen (Nat.le_of_ble_eq_true rfl) (Nat.le_of_ble_eq_true rfl) (vx_ret (co_lret E hr hlk hC hS dX10_claim_75 ⟨(by unfold claimC; omega), by rw [hcS], rfl, fun q a b c => by rw [hcS, qy q b c]; exact qx.1 q a b c, fun h a b => by rw [hcS, qy 50 (by decide) (by decide), qx.2 h a (by rw [f1 11 rfl]; exact b), f1 50 rfl]⟩))
    · refine x_iconst B dX10_claim_32 ?_
      refine x_goto (tgt := 37) B dX10_claim_33 (by decide) ?_
      refine cstm_call E hout hlk hK hC hS hl (c_requireThere l hlt D cy d0 A la _ (z := 1) (Or.inr rfl)) (va_cwS 1 hts0 gX10_claim_X10_requireThere rfl rfl rfl (by decide +kernel) ⟨Nat.le_of_ble_eq_true rfl, Nat.le_of_ble_eq_true rfl⟩) rfl rfl (Nat.le_of_ble_eq_true rfl) dX10_claim_37 ⟨Nat.le_of_ble_eq_true rfl, Nat.le_of_ble_eq_true rfl⟩ ⟨Nat.le_of_ble_eq_true rfl, Nat.le_of_ble_eq_true rfl⟩ (fun h => ⟨by unfold claimC; omega, rfl⟩) (fun h9_37 H locs q_37 hC hS => ?_)
      refine x_aload B hl dX10_claim_40 rfl ?_
      refine x_aload_n B hl dX10_claim_42 rfl ?_
      refine co_geti (f := 34) E hC 10 (by decide) (cl_10 ht1) rfl (fun z h => List.mem_cons_of_mem _ (List.mem_append_left _ (List.mem_append_left _ (List.mem_append_left _ (List.mem_append_left _ (List.mem_append_left _ (List.mem_append_left _ (List.mem_append_left _ (List.mem_append_left _ (List.mem_append_left _ (List.mem_append_left _ (List.mem_append_right _ h)))))))))))) 2 (by decide) (hts (.fieldLink RX10 279 "BinRounds$Tip" "markNumber" "I") (by decide +kernel)) (fun x hx => hx) dX10_claim_43 ⟨rfl, rfl, rfl⟩ rfl (fun r_43 => ?_)
      refine co_call E hK hC hS hl (κ := 6) (i := b) (by decide) (cl_6 hb1) rfl (c_bears l D cy d0 A la σ (b := b) (z := σ 34 t) hb1 (hw.1 34 t rfl)) (cwV 1 hts0 gX10_claim_X0_bears rfl rfl rfl (by decide +kernel) ⟨Nat.le_of_ble_eq_true rfl, Nat.le_of_ble_eq_true rfl⟩) rfl rfl (Nat.le_of_ble_eq_true rfl) dX10_claim_46 ⟨Nat.le_of_ble_eq_true rfl, Nat.le_of_ble_eq_true rfl⟩ (fun H locs q_46 hC hS => ?_)
      refine x_bool (fun b_46 => ?_) (fun b_46 => ?_)
      · refine cstm_call E hout hlk hK hC hS hl (c_require l hlt D cy d0 A la _ (z := 1) (Or.inr rfl)) (va_cwS 1 hts0 gX10_claim_X10_require rfl rfl rfl (by decide +kernel) ⟨Nat.le_of_ble_eq_true rfl, Nat.le_of_ble_eq_true rfl⟩) rfl rfl (Nat.le_of_ble_eq_true rfl) dX10_claim_49 ⟨Nat.le_of_ble_eq_true rfl, Nat.le_of_ble_eq_true rfl⟩ ⟨Nat.le_of_ble_eq_true rfl, Nat.le_of_ble_eq_true rfl⟩ (fun h => ⟨by unfold claimC; omega, rfl⟩) (fun h9_49 H locs q_49 hC hS => ?_)
        refine x_aload_n B hl dX10_claim_52 rfl ?_
        refine x_iconst B dX10_claim_53 ?_
        refine co_puti (f := 37) E hC hS 10 (by decide) (cl_10 ht1) rfl (fun z h => List.mem_cons_of_mem _ (List.mem_append_left _ (List.mem_append_left _ (List.mem_append_left _ (List.mem_append_left _ (List.mem_append_left _ (List.mem_append_left _ (List.mem_append_left _ (List.mem_append_left _ (List.mem_append_left _ (List.mem_append_left _ (List.mem_append_right _ h)))))))))))) tyX9 tyX9_ok nmX9 5 (by decide) (hts (.fieldLink RX10 276 "BinRounds$Tip" "origin" "I") (by decide +kernel)) (fun x hx => hx) rfl rfl dX10_claim_54 (by decide) ⟨rfl, rfl, rfl, rfl⟩ (by omega) (fun H locs hC hS => ?_)
        refine x_aload_n B hl dX10_claim_57 rfl ?_
        refine x_aload B hl dX10_claim_58 rfl ?_
        refine co_putB (v := b) E hC hS (cl_up (by decide) (cl_10 ht1)) rfl (fun z h => List.mem_cons_of_mem _ (List.mem_append_left _ (List.mem_append_left _ (List.mem_append_left _ (List.mem_append_left _ (List.mem_append_left _ (List.mem_append_left _ (List.mem_append_left _ (List.mem_append_left _ (List.mem_append_left _ (List.mem_append_left _ (List.mem_append_right _ h)))))))))))) tyX9_ok nmX9 (hts (.fieldLink RX10 211 "BinRounds$Tip" "bin" "LBinRounds$Bin;") (by decide +kernel)) (fun x hx => hx) rfl ⟨_, rfl⟩ (by omega) (if_neg (by omega)) dX10_claim_60 (fun H locs hC hS => ?_)
        obtain ⟨σ1, e1⟩ : ∃ z, z = up (up σ 37 t 3) 36 t b := ⟨_, rfl⟩
        have hC0 := hC
        replace hC : CP D cy d0 A la σ1 H := by rw [e1]; exact hC0
        have f1 : ∀ f, (f != 37 && f != 36) = true → σ1 f = σ f := fun f hf => by
          simp only [Bool.and_eq_true, bne_iff_ne, ne_eq] at hf
          rw [e1, up_f hf.2, up_f hf.1]
        have f36 : σ1 36 t = b := by rw [e1]; exact up_s
        have q1 : cLq σ σ1 := ⟨f1 _ rfl, f1 _ rfl, f1 _ rfl, f1 _ rfl, f1 _ rfl, f1 _ rfl, f1 _ rfl⟩
        have hH1 : ∀ b d, sHouse σ1 b d = sHouse σ b d := fun b d => sHouse_c (f1 16 rfl) (f1 17 rfl) (f1 18 rfl) b d
        have h41q := h41 t ht1.1 ht1.2 (by omega)
        have hch := c_chargeTip l D cy d0 A la σ1 (t := t) (by rw [f1 45 rfl]; exact ht1) (by rw [f1 45 rfl]; exact hn45) (by rw [f1 11 rfl]; omega) (by rw [f1 23 rfl]; exact hn23) (fun _ => by rw [f36, f1 23 rfl]; exact hb1) (by rw [f1 39 rfl]; exact h39A t) (by rw [f1 32 rfl]; exact hdA t) (by rw [f1 18 rfl]; exact hm) (by rw [f1 16 rfl]; exact hv) (by rw [f36, f1 32 rfl, hH1, f1 11 rfl]; exact hhoA _ _ hb1.1 hb1.2) (by rw [f1 22 rfl]; exact hm22) (by rw [f1 20 rfl]; exact hpw) (by rw [f36]; omega) (by rw [f1 19 rfl, f1 11 rfl]; exact hv19A (by omega)) (by rw [f1 7 rfl]; exact h7) (by rw [f36, f1 12 rfl]; exact hkA b) (by rw [f1 41 rfl]; intro z; omega) (by rw [f1 28 rfl]; exact h28) (by rw [f1 29 rfl]; exact h29) (by rw [f1 15 rfl]; exact h15)
        rw [f36] at hch
        have h43 := sCh_43 (σ := σ1) (t := t) (by rw [f1 28 rfl]; exact h28) (by rw [f1 29 rfl]; exact h29) (by rw [f1 7 rfl]; exact h7) (by rw [f36, f1 12 rfl]; exact hkA b) (by rw [f1 41 rfl]; intro z; omega)
        obtain ⟨S, eS⟩ : ∃ z, z = sCh σ1 t := ⟨_, rfl⟩
        have fS : ∀ f, (f != 42 && f != 43 && f != 40 && f != 15 && f != 7 && f != 37 && f != 36) = true → S f = σ f := fun f hf => by
          simp only [Bool.and_eq_true, bne_iff_ne, ne_eq] at hf
          rw [eS, sCh_f (by simp only [Bool.and_eq_true, bne_iff_ne, ne_eq]; omega)]
          exact f1 f (by simp only [Bool.and_eq_true, bne_iff_ne, ne_eq]; omega)
        have fS36 : S 36 t = b := by rw [eS, sCh_f rfl]; exact f36
        have hHS : ∀ b d, sHouse S b d = sHouse σ b d := fun b d => sHouse_c (fS 16 rfl) (fS 17 rfl) (fS 18 rfl) b d
        rw [← eS] at hch h43
        have hsp : ∀ τ1 : MS, (∀ q, q ≠ 50 → q ≠ 51 → q ≠ 52 → τ1 q = S q) → _ := fun τ1 hq => c_splitChargeE l D cy d0 A la S τ1 hq (t := t) (by rw [fS 45 rfl]; exact ht1) (by rw [fS 45 rfl]; exact hn45) (by rw [fS 11 rfl]; omega) (by rw [fS 23 rfl]; exact hn23) (fun _ => by rw [fS36]; omega) (fun _ => by rw [fS36, fS 23 rfl]; exact hb1) h43.1 h43.2 (by rw [fS 39 rfl]; exact h39A t) (by rw [fS 32 rfl]; exact hdA t) (by rw [fS 18 rfl]; exact hm) (by rw [fS 16 rfl]; exact hv) (by rw [fS36, fS 32 rfl, hHS, fS 11 rfl]; exact hhoA _ _ hb1.1 hb1.2) (by rw [fS 22 rfl]; exact hm22) (by rw [fS 20 rfl]; exact hpw) (fun _ => by rw [fS 19 rfl, fS 11 rfl]; exact hv19A (by omega))
        have hcS : claimS σ t b = S := by rw [eS, e1]; rfl
        refine x_aload_n B hl dX10_claim_63 rfl ?_
        refine x_aload_n B hl dX10_claim_64 rfl ?_
        refine x_aload B hl dX10_claim_65 rfl ?_
        refine co_callX E hK hC hS hl (κ := 0) (i := 0) (by decide) cl_0 rfl hch (cwV 2 hts0 gX10_claim_X10_chargeTip rfl rfl rfl (by decide +kernel) ⟨Nat.le_of_ble_eq_true rfl, Nat.le_of_ble_eq_true rfl⟩) rfl rfl (Nat.le_of_ble_eq_true rfl) dX10_claim_67 ⟨Nat.le_of_ble_eq_true rfl, Nat.le_of_ble_eq_true rfl⟩ (fun H locs τ1 qx hC hS => ?_)
        have g1 : ∀ f, (f != 42 && f != 43 && f != 40 && f != 15 && f != 7 && f != 37 && f != 36 && f != 50 && f != 51 && f != 52) = true → τ1 f = σ f := fun f hf => by
          simp only [Bool.and_eq_true, bne_iff_ne, ne_eq] at hf
          rw [qx.1 f (by omega) (by omega) (by omega)]
          exact fS f (by simp only [Bool.and_eq_true, bne_iff_ne, ne_eq]; omega)
        refine x_aload_n B hl dX10_claim_70 rfl ?_
        refine x_aload_n B hl dX10_claim_71 rfl ?_
        refine co_callX E hK hC hS hl (κ := 0) (i := 0) (by decide) cl_0 rfl (hsp τ1 qx.1) (cwV 1 hts0 gX10_claim_X10_splitCharge rfl rfl rfl (by decide +kernel) ⟨Nat.le_of_ble_eq_true rfl, Nat.le_of_ble_eq_true rfl⟩) rfl rfl (Nat.le_of_ble_eq_true rfl) dX10_claim_72 ⟨Nat.le_of_ble_eq_true rfl, Nat.le_of_ble_eq_true rfl⟩ (fun H locs τ2 qy hC hS => ?_)
        exact w_widen (Nat.le_of_ble_eq_true rfl) (Nat.le_of_ble_eq_true rfl) (vx_ret (co_lret E hr hlk hC hS dX10_claim_75 ⟨(by unfold claimC; omega), by rw [hcS], rfl, fun q a b c => by rw [hcS, qy q b c]; exact qx.1 q a b c, fun h a b => by rw [hcS, qy 50 (by decide) (by decide), qx.2 h a (by rw [f1 11 rfl]; exact b), f1 50 rfl]⟩))
      · refine cstm_call E hout hlk hK hC hS hl (c_require l hlt D cy d0 A la _ (z := 0) (Or.inl rfl)) (va_cwS 1 hts0 gX10_claim_X10_require rfl rfl rfl (by decide +kernel) ⟨Nat.le_of_ble_eq_true rfl, Nat.le_of_ble_eq_true rfl⟩) rfl rfl (Nat.le_of_ble_eq_true rfl) dX10_claim_49 ⟨Nat.le_of_ble_eq_true rfl, Nat.le_of_ble_eq_true rfl⟩ ⟨Nat.le_of_ble_eq_true rfl, Nat.le_of_ble_eq_true rfl⟩ (fun h => ⟨by unfold claimC; omega, rfl⟩) (fun h9_49 H locs q_49 hC hS => ?_)
        refine x_aload_n B hl dX10_claim_52 rfl ?_
        refine x_iconst B dX10_claim_53 ?_
        refine co_puti (f := 37) E hC hS 10 (by decide) (cl_10 ht1) rfl (fun z h => List.mem_cons_of_mem _ (List.mem_append_left _ (List.mem_append_left _ (List.mem_append_left _ (List.mem_append_left _ (List.mem_append_left _ (List.mem_append_left _ (List.mem_append_left _ (List.mem_append_left _ (List.mem_append_left _ (List.mem_append_left _ (List.mem_append_right _ h)))))))))))) tyX9 tyX9_ok nmX9 5 (by decide) (hts (.fieldLink RX10 276 "BinRounds$Tip" "origin" "I") (by decide +kernel)) (fun x hx => hx) rfl rfl dX10_claim_54 (by decide) ⟨rfl, rfl, rfl, rfl⟩ (by omega) (fun H locs hC hS => ?_)
        refine x_aload_n B hl dX10_claim_57 rfl ?_
        refine x_aload B hl dX10_claim_58 rfl ?_
        refine co_putB (v := b) E hC hS (cl_up (by decide) (cl_10 ht1)) rfl (fun z h => List.mem_cons_of_mem _ (List.mem_append_left _ (List.mem_append_left _ (List.mem_append_left _ (List.mem_append_left _ (List.mem_append_left _ (List.mem_append_left _ (List.mem_append_left _ (List.mem_append_left _ (List.mem_append_left _ (List.mem_append_left _ (List.mem_append_right _ h)))))))))))) tyX9_ok nmX9 (hts (.fieldLink RX10 211 "BinRounds$Tip" "bin" "LBinRounds$Bin;") (by decide +kernel)) (fun x hx => hx) rfl ⟨_, rfl⟩ (by omega) (if_neg (by omega)) dX10_claim_60 (fun H locs hC hS => ?_)
        obtain ⟨σ1, e1⟩ : ∃ z, z = up (up σ 37 t 3) 36 t b := ⟨_, rfl⟩
        have hC0 := hC
        replace hC : CP D cy d0 A la σ1 H := by rw [e1]; exact hC0
        have f1 : ∀ f, (f != 37 && f != 36) = true → σ1 f = σ f := fun f hf => by
          simp only [Bool.and_eq_true, bne_iff_ne, ne_eq] at hf
          rw [e1, up_f hf.2, up_f hf.1]
        have f36 : σ1 36 t = b := by rw [e1]; exact up_s
        have q1 : cLq σ σ1 := ⟨f1 _ rfl, f1 _ rfl, f1 _ rfl, f1 _ rfl, f1 _ rfl, f1 _ rfl, f1 _ rfl⟩
        have hH1 : ∀ b d, sHouse σ1 b d = sHouse σ b d := fun b d => sHouse_c (f1 16 rfl) (f1 17 rfl) (f1 18 rfl) b d
        have h41q := h41 t ht1.1 ht1.2 (by omega)
        have hch := c_chargeTip l D cy d0 A la σ1 (t := t) (by rw [f1 45 rfl]; exact ht1) (by rw [f1 45 rfl]; exact hn45) (by rw [f1 11 rfl]; omega) (by rw [f1 23 rfl]; exact hn23) (fun _ => by rw [f36, f1 23 rfl]; exact hb1) (by rw [f1 39 rfl]; exact h39A t) (by rw [f1 32 rfl]; exact hdA t) (by rw [f1 18 rfl]; exact hm) (by rw [f1 16 rfl]; exact hv) (by rw [f36, f1 32 rfl, hH1, f1 11 rfl]; exact hhoA _ _ hb1.1 hb1.2) (by rw [f1 22 rfl]; exact hm22) (by rw [f1 20 rfl]; exact hpw) (by rw [f36]; omega) (by rw [f1 19 rfl, f1 11 rfl]; exact hv19A (by omega)) (by rw [f1 7 rfl]; exact h7) (by rw [f36, f1 12 rfl]; exact hkA b) (by rw [f1 41 rfl]; intro z; omega) (by rw [f1 28 rfl]; exact h28) (by rw [f1 29 rfl]; exact h29) (by rw [f1 15 rfl]; exact h15)
        rw [f36] at hch
        have h43 := sCh_43 (σ := σ1) (t := t) (by rw [f1 28 rfl]; exact h28) (by rw [f1 29 rfl]; exact h29) (by rw [f1 7 rfl]; exact h7) (by rw [f36, f1 12 rfl]; exact hkA b) (by rw [f1 41 rfl]; intro z; omega)
        obtain ⟨S, eS⟩ : ∃ z, z = sCh σ1 t := ⟨_, rfl⟩
        have fS : ∀ f, (f != 42 && f != 43 && f != 40 && f != 15 && f != 7 && f != 37 && f != 36) = true → S f = σ f := fun f hf => by
          simp only [Bool.and_eq_true, bne_iff_ne, ne_eq] at hf
          rw [eS, sCh_f (by simp only [Bool.and_eq_true, bne_iff_ne, ne_eq]; omega)]
          exact f1 f (by simp only [Bool.and_eq_true, bne_iff_ne, ne_eq]; omega)
        have fS36 : S 36 t = b := by rw [eS, sCh_f rfl]; exact f36
        have hHS : ∀ b d, sHouse S b d = sHouse σ b d := fun b d => sHouse_c (fS 16 rfl) (fS 17 rfl) (fS 18 rfl) b d
        rw [← eS] at hch h43
        have hsp : ∀ τ1 : MS, (∀ q, q ≠ 50 → q ≠ 51 → q ≠ 52 → τ1 q = S q) → _ := fun τ1 hq => c_splitChargeE l D cy d0 A la S τ1 hq (t := t) (by rw [fS 45 rfl]; exact ht1) (by rw [fS 45 rfl]; exact hn45) (by rw [fS 11 rfl]; omega) (by rw [fS 23 rfl]; exact hn23) (fun _ => by rw [fS36]; omega) (fun _ => by rw [fS36, fS 23 rfl]; exact hb1) h43.1 h43.2 (by rw [fS 39 rfl]; exact h39A t) (by rw [fS 32 rfl]; exact hdA t) (by rw [fS 18 rfl]; exact hm) (by rw [fS 16 rfl]; exact hv) (by rw [fS36, fS 32 rfl, hHS, fS 11 rfl]; exact hhoA _ _ hb1.1 hb1.2) (by rw [fS 22 rfl]; exact hm22) (by rw [fS 20 rfl]; exact hpw) (fun _ => by rw [fS 19 rfl, fS 11 rfl]; exact hv19A (by omega))
        have hcS : claimS σ t b = S := by rw [eS, e1]; rfl
        refine x_aload_n B hl dX10_claim_63 rfl ?_
        refine x_aload_n B hl dX10_claim_64 rfl ?_
        refine x_aload B hl dX10_claim_65 rfl ?_
        refine co_callX E hK hC hS hl (κ := 0) (i := 0) (by decide) cl_0 rfl hch (cwV 2 hts0 gX10_claim_X10_chargeTip rfl rfl rfl (by decide +kernel) ⟨Nat.le_of_ble_eq_true rfl, Nat.le_of_ble_eq_true rfl⟩) rfl rfl (Nat.le_of_ble_eq_true rfl) dX10_claim_67 ⟨Nat.le_of_ble_eq_true rfl, Nat.le_of_ble_eq_true rfl⟩ (fun H locs τ1 qx hC hS => ?_)
        have g1 : ∀ f, (f != 42 && f != 43 && f != 40 && f != 15 && f != 7 && f != 37 && f != 36 && f != 50 && f != 51 && f != 52) = true → τ1 f = σ f := fun f hf => by
          simp only [Bool.and_eq_true, bne_iff_ne, ne_eq] at hf
          rw [qx.1 f (by omega) (by omega) (by omega)]
          exact fS f (by simp only [Bool.and_eq_true, bne_iff_ne, ne_eq]; omega)
        refine x_aload_n B hl dX10_claim_70 rfl ?_
        refine x_aload_n B hl dX10_claim_71 rfl ?_
        refine co_callX E hK hC hS hl (κ := 0) (i := 0) (by decide) cl_0 rfl (hsp τ1 qx.1) (cwV 1 hts0 gX10_claim_X10_splitCharge rfl rfl rfl (by decide +kernel) ⟨Nat.le_of_ble_eq_true rfl, Nat.le_of_ble_eq_true rfl⟩) rfl rfl (Nat.le_of_ble_eq_true rfl) dX10_claim_72 ⟨Nat.le_of_ble_eq_true rfl, Nat.le_of_ble_eq_true rfl⟩ (fun H locs τ2 qy hC hS => ?_)
        exact w_widen (Nat.le_of_ble_eq_true rfl) (Nat.le_of_ble_eq_true rfl) (vx_ret (co_lret E hr hlk hC hS dX10_claim_75 ⟨(by unfold claimC; omega), by rw [hcS], rfl, fun q a b c => by rw [hcS, qy q b c]; exact qx.1 q a b c, fun h a b => by rw [hcS, qy 50 (by decide) (by decide), qx.2 h a (by rw [f1 11 rfl]; exact b), f1 50 rfl]⟩))
