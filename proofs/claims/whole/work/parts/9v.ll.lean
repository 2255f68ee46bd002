theorem dL_law_0 : decode cL_law 0 = .ok (.new 8, 3) := by decide +kernel
theorem dL_law_3 : decode cL_law 3 = .ok (.dup, 1) := by decide +kernel
theorem dL_law_4 : decode cL_law 4 = .ok (.invokespecial 126, 3) := by decide +kernel
theorem dL_law_7 : decode cL_law 7 = .ok (.astore_n 1, 1) := by decide +kernel
theorem dL_law_8 : decode cL_law 8 = .ok (.new 127, 3) := by decide +kernel
theorem dL_law_11 : decode cL_law 11 = .ok (.dup, 1) := by decide +kernel
theorem dL_law_12 : decode cL_law 12 = .ok (.invokespecial 129, 3) := by decide +kernel
theorem dL_law_15 : decode cL_law 15 = .ok (.astore_n 2, 1) := by decide +kernel
theorem dL_law_16 : decode cL_law 16 = .ok (.iconst 1, 1) := by decide +kernel
theorem dL_law_17 : decode cL_law 17 = .ok (.newarray .long, 2) := by decide +kernel
theorem dL_law_19 : decode cL_law 19 = .ok (.astore_n 3, 1) := by decide +kernel
theorem dL_law_20 : decode cL_law 20 = .ok (.iconst 0, 1) := by decide +kernel
theorem dL_law_21 : decode cL_law 21 = .ok (.istore 4, 2) := by decide +kernel
theorem dL_law_23 : decode cL_law 23 = .ok (.iload 4, 2) := by decide +kernel
theorem dL_law_25 : decode cL_law 25 = .ok (.aload_n 0, 1) := by decide +kernel
theorem dL_law_26 : decode cL_law 26 = .ok (.arraylength, 1) := by decide +kernel
theorem dL_law_27 : decode cL_law 27 = .ok (.iconst 5, 1) := by decide +kernel
theorem dL_law_28 : decode cL_law 28 = .ok (.isub, 1) := by decide +kernel
theorem dL_law_29 : decode cL_law 29 = .ok (.if_icmp .gt 2310, 3) := by decide +kernel
theorem dL_law_32 : decode cL_law 32 = .ok (.aload_n 0, 1) := by decide +kernel
theorem dL_law_33 : decode cL_law 33 = .ok (.iload 4, 2) := by decide +kernel
theorem dL_law_35 : decode cL_law 35 = .ok (.iaload, 1) := by decide +kernel
theorem dL_law_36 : decode cL_law 36 = .ok (.bipush 63, 2) := by decide +kernel
theorem dL_law_38 : decode cL_law 38 = .ok (.iand, 1) := by decide +kernel
theorem dL_law_39 : decode cL_law 39 = .ok (.tableswitch 2294 0 32 #[145, 189, 261, 352, 432, 488, 568, 636, 699, 779, 871, 927, 987, 1035, 1103, 1183, 1246, 1294, 1338, 1405, 1473, 1541, 1596, 1663, 1718, 1773, 1872, 1928, 2008, 2064, 2132, 2200, 2268], 145) := by decide +kernel
set_option maxHeartbeats 4000000 in
/-- the law's end -/
theorem law_exit {p : Program} {l : Launch} {e : Env} {s : State} {m : MethodId} {below : List Frame} {meth : Method} {c : Code} {b : Nat} {H : Heap} {locs : List Loc} {ls : Array Slot} {cells slots : Nat} (B : xB p c cL_law) (hr : meth.sig.returnType = ret) (hlocks : meth.locks = false) (hS : va_S (l9 s) s.heap H locs) (h1 : cells ≤ 601024) (h2 : slots ≤ 7293033) : W p l e room_1 s m #[Value.ref b] below meth c H locs cells slots (lw_Z below #[Value.ref b] s) (F0 m 2339 ls []) := by
  refine x_iconst B dL_law_2339 ?_
  refine va_forget (fun q hq => hS.2.2 q hq) ?_
  refine w_widen (k := 601024) (n := 7293033) h1 h2 ?_
  rw [show iI 1 = (1 : Int32) from rfl]
  exact lw_ret B.1 B.2 hr hlocks dL_law_2340
set_option maxHeartbeats 4000000 in
theorem law_head {p : Program} {l : Launch} {e : Env} {s : State} {m : MethodId} {below : List Frame} {meth : Method} {c : Code} {D : va_G} {cy : Nat → ClassId} {d0 a o b x L : Nat} {ad : Nat → Nat} {xs : Nat → Int32} {H : Heap} {locs : List Loc} {ls : Array Slot} {cells slots : Nat} {Q : State → Prop} {j : Int} (G : lG p s m c b L xs D cy d0 a o ad) (hS : va_S (l9 s) s.heap H locs) (hl : lv_has ls 8 (lL b x o a (5 * j))) (hj : 0 ≤ j ∧ j ≤ 600)
    (k1 : (L : Int) < 5 * j + 5 → W p l e room_1 s m #[Value.ref b] below meth c H locs cells slots Q (F0 m 2339 ls []))
    (k2 : 5 * j + 5 ≤ (L : Int) → W p l e room_1 s m #[Value.ref b] below meth c H locs cells slots Q (F0 m 32 ls [])) : W p l e room_1 s m #[Value.ref b] below meth c H locs cells slots Q (F0 m 23 ls []) := by
  have B := G.1.1
  have hL := G.2.2.2.2.2.2.2
  refine x_iload B hl dL_law_23 rfl ?_
  refine x_aload_n B hl dL_law_25 rfl ?_
  refine va_slen B.1 B.2 G.2.1 G.2.2.1 (Nat.not_le.mpr G.2.2.1) hS dL_law_26 ?_
  rw [show Int32.ofNat L = iI (L : Int) from iI_nat L]
  refine x_iconst B dL_law_27 ?_
  refine x_isub B dL_law_28 ?_
  refine x_icmp_gt (tgt := 2339) B dL_law_29 (by decide) (by omega) (by omega) (fun h => k1 (by omega)) (fun h => k2 (by omega))
set_option maxHeartbeats 8000000 in
set_option maxRecDepth 20000 in
/-- one turn -/
theorem law_turn {p : Program} {l : Launch} {e : Env} {s : State} {m : MethodId} {below : List Frame} {meth : Method} {c : Code} {D : va_G} {cy : Nat → ClassId} {d0 a o b x L : Nat} {ad : Nat → Nat} {xs : Nat → Int32} {H : Heap} {locs : List Loc} {ls : Array Slot} {cells slots : Nat} {Q : State → Prop} {la : Nat → Int → Nat} {σ : MS} {n i : Int} (hlt : l.stackTraces = false) (G : lG p s m c b L xs D cy d0 a o ad) (hB : lB D cy d0 (lA s a o ad) o ad a x n la σ H) (hS : va_S (l9 s) s.heap H locs) (hn : n + 1 ≤ 600) (hi : 0 ≤ i ∧ i + 5 ≤ L) (hf : cells + 24 ≤ room_1.cells ∧ slots + 2100 ≤ room_1.slots) (hl : lv_has ls 8 (lL b x o a i)) (kk : lNext p l e s m below meth c Q D cy d0 a o ad b x i n cells slots) : W p l e room_1 s m #[Value.ref b] below meth c H locs cells slots Q (F0 m 32 ls []) := by
  have B := G.1.1
  have hL := G.2.2.2.2.2.2.2
  refine x_aload_n B hl dL_law_32 rfl ?_
  refine x_iload B hl dL_law_33 rfl ?_
  refine va_sld B.1 B.2 G.2.1 G.2.2.1 (Nat.not_le.mpr G.2.2.1) hS (iI_in ⟨by omega, by omega⟩ (by omega)) dL_law_35 ?_
  refine x_bipush B dL_law_36 rfl ?_
  refine lv_iand B.1 B.2 dL_law_38 ?_
  obtain ⟨z, hz0, ez⟩ := lX_63 (xs (iI i).toNatClampNeg)
  rw [ez]
  by_cases h33 : 33 ≤ z
  · refine lv_tableOut (tgt := 2333) B.1 B.2 dL_law_39 (Or.inr (by rw [iI_toInt (by omega)]; omega)) (by decide) ?_
    refine w_widen (k := cells + 24) (n := slots + 2100) (by omega) (by omega) ?_
    exact kk H locs la σ ls (hB.up hn) hS hl
  · have h0 : 0 ≤ z := hz0.1
    rcases (show z = 0 ∨ 1 ≤ z by omega) with hz | g0
    · exact x_tswIn (k := 0) (off := 145) (tgt := 184) B dL_law_39 hz (by decide) (by decide) (by decide +kernel) (by decide) (lc_street hlt G hB hS hn hi hf hl kk)
    rcases (show z = 1 ∨ 2 ≤ z by omega) with hz | g1
    · exact x_tswIn (k := 1) (off := 189) (tgt := 228) B dL_law_39 hz (by decide) (by decide) (by decide +kernel) (by decide) (lc_round hlt G hB hS hn hi hf hl kk)
    rcases (show z = 2 ∨ 3 ≤ z by omega) with hz | g2
    · exact x_tswIn (k := 2) (off := 261) (tgt := 300) B dL_law_39 hz (by decide) (by decide) (by decide +kernel) (by decide) (lc_holiday hlt G hB hS hn hi hf hl kk)
    rcases (show z = 3 ∨ 4 ≤ z by omega) with hz | g3
    · exact x_tswIn (k := 3) (off := 352) (tgt := 391) B dL_law_39 hz (by decide) (by decide) (by decide +kernel) (by decide) (lc_when hlt G hB hS hn hi hf hl kk)
    rcases (show z = 4 ∨ 5 ≤ z by omega) with hz | g4
    · exact x_tswIn (k := 4) (off := 432) (tgt := 471) B dL_law_39 hz (by decide) (by decide) (by decide +kernel) (by decide) (lc_house hlt G hB hS hn hi hf hl kk)
    rcases (show z = 5 ∨ 6 ≤ z by omega) with hz | g5
    · exact x_tswIn (k := 5) (off := 488) (tgt := 527) B dL_law_39 hz (by decide) (by decide) (by decide +kernel) (by decide) (lc_bin hlt G hB hS hn hi hf hl kk)
    rcases (show z = 6 ∨ 7 ≤ z by omega) with hz | g6
    · exact x_tswIn (k := 6) (off := 568) (tgt := 607) B dL_law_39 hz (by decide) (by decide) (by decide +kernel) (by decide) (lc_mark hlt G hB hS hn hi hf hl kk)
    rcases (show z = 7 ∨ 8 ≤ z by omega) with hz | g7
    · exact x_tswIn (k := 7) (off := 636) (tgt := 675) B dL_law_39 hz (by decide) (by decide) (by decide +kernel) (by decide) (lc_lost hlt G hB hS hn hi hf hl kk)
    rcases (show z = 8 ∨ 9 ≤ z by omega) with hz | g8
    · exact x_tswIn (k := 8) (off := 699) (tgt := 738) B dL_law_39 hz (by decide) (by decide) (by decide +kernel) (by decide) (lc_move hlt G hB hS hn hi hf hl kk)
    rcases (show z = 9 ∨ 10 ≤ z by omega) with hz | g9
    · exact x_tswIn (k := 9) (off := 779) (tgt := 818) B dL_law_39 hz (by decide) (by decide) (by decide +kernel) (by decide) (lc_part hlt G hB hS hn hi hf hl kk)
    rcases (show z = 10 ∨ 11 ≤ z by omega) with hz | g10
    · exact x_tswIn (k := 10) (off := 871) (tgt := 910) B dL_law_39 hz (by decide) (by decide) (by decide +kernel) (by decide) (lc_cart hlt G hB hS hn hi hf hl kk)
    rcases (show z = 11 ∨ 12 ≤ z by omega) with hz | g11
    · exact x_tswIn (k := 11) (off := 927) (tgt := 966) B dL_law_39 hz (by decide) (by decide) (by decide +kernel) (by decide) (lc_table hlt G hB hS hn hi hf hl kk)
    rcases (show z = 12 ∨ 13 ≤ z by omega) with hz | g12
    · exact x_tswIn (k := 12) (off := 987) (tgt := 1026) B dL_law_39 hz (by decide) (by decide) (by decide +kernel) (by decide) (lc_terms hlt G hB hS hn hi hf hl kk)
    rcases (show z = 13 ∨ 14 ≤ z by omega) with hz | g13
    · exact x_tswIn (k := 13) (off := 1035) (tgt := 1074) B dL_law_39 hz (by decide) (by decide) (by decide +kernel) (by decide) (lc_band hlt G hB hS hn hi hf hl kk)
    rcases (show z = 14 ∨ 15 ≤ z by omega) with hz | g14
    · exact x_tswIn (k := 14) (off := 1103) (tgt := 1142) B dL_law_39 hz (by decide) (by decide) (by decide +kernel) (by decide) (lc_tip hlt G hB hS hn hi hf hl kk)
    rcases (show z = 15 ∨ 16 ≤ z by omega) with hz | g15
    · exact x_tswIn (k := 15) (off := 1183) (tgt := 1222) B dL_law_39 hz (by decide) (by decide) (by decide +kernel) (by decide) (lc_wrong hlt G hB hS hn hi hf hl kk)
    rcases (show z = 16 ∨ 17 ≤ z by omega) with hz | g16
    · exact x_tswIn (k := 16) (off := 1246) (tgt := 1285) B dL_law_39 hz (by decide) (by decide) (by decide +kernel) (by decide) (lc_gate hlt G hB hS hn hi hf hl kk)
    rcases (show z = 17 ∨ 18 ≤ z by omega) with hz | g17
    · exact x_tswIn (k := 17) (off := 1294) (tgt := 1333) B dL_law_39 hz (by decide) (by decide) (by decide +kernel) (by decide) (lc_close hlt G hB hS hn hi hf hl kk)
    rcases (show z = 18 ∨ 19 ≤ z by omega) with hz | g18
    · exact x_tswIn (k := 18) (off := 1338) (tgt := 1377) B dL_law_39 hz (by decide) (by decide) (by decide +kernel) (by decide) (lc_claim hlt G hB hS hn hi hf hl kk)
    rcases (show z = 19 ∨ 20 ≤ z by omega) with hz | g19
    · exact x_tswIn (k := 19) (off := 1405) (tgt := 1444) B dL_law_39 hz (by decide) (by decide) (by decide +kernel) (by decide) (lc_weigh hlt G hB hS hn hi hf hl kk)
    rcases (show z = 20 ∨ 21 ≤ z by omega) with hz | g20
    · exact x_tswIn (k := 20) (off := 1473) (tgt := 1512) B dL_law_39 hz (by decide) (by decide) (by decide +kernel) (by decide) (lc_look hlt G hB hS hn hi hf hl kk)
    rcases (show z = 21 ∨ 22 ≤ z by omega) with hz | g21
    · exact x_tswIn (k := 21) (off := 1541) (tgt := 1580) B dL_law_39 hz (by decide) (by decide) (by decide +kernel) (by decide) (lc_charge hlt G hB hS hn hi hf hl kk)
    rcases (show z = 22 ∨ 23 ≤ z by omega) with hz | g22
    · exact x_tswIn (k := 22) (off := 1596) (tgt := 1635) B dL_law_39 hz (by decide) (by decide) (by decide +kernel) (by decide) (lc_share hlt G hB hS hn hi hf hl kk)
    rcases (show z = 23 ∨ 24 ≤ z by omega) with hz | g23
    · exact x_tswIn (k := 23) (off := 1663) (tgt := 1702) B dL_law_39 hz (by decide) (by decide) (by decide +kernel) (by decide) (lc_charged hlt G hB hS hn hi hf hl kk)
    rcases (show z = 24 ∨ 25 ≤ z by omega) with hz | g24
    · exact x_tswIn (k := 24) (off := 1718) (tgt := 1757) B dL_law_39 hz (by decide) (by decide) (by decide +kernel) (by decide) (lc_bill hlt G hB hS hn hi hf hl kk)
    rcases (show z = 25 ∨ 26 ≤ z by omega) with hz | g25
    · exact x_tswIn (k := 25) (off := 1773) (tgt := 1812) B dL_law_39 hz (by decide) (by decide) (by decide +kernel) (by decide) (lc_pay hlt G hB hS hn hi hf hl kk)
    rcases (show z = 26 ∨ 27 ≤ z by omega) with hz | g26
    · exact x_tswIn (k := 26) (off := 1872) (tgt := 1911) B dL_law_39 hz (by decide) (by decide) (by decide +kernel) (by decide) (lc_middle hlt G hB hS hn hi hf hl kk)
    rcases (show z = 27 ∨ 28 ≤ z by omega) with hz | g27
    · exact x_tswIn (k := 27) (off := 1928) (tgt := 1967) B dL_law_39 hz (by decide) (by decide) (by decide +kernel) (by decide) (lc_fill hlt G hB hS hn hi hf hl kk)
    rcases (show z = 28 ∨ 29 ≤ z by omega) with hz | g28
    · exact x_tswIn (k := 28) (off := 2008) (tgt := 2047) B dL_law_39 hz (by decide) (by decide) (by decide +kernel) (by decide) (lc_due hlt G hB hS hn hi hf hl kk)
    rcases (show z = 29 ∨ 30 ≤ z by omega) with hz | g29
    · exact x_tswIn (k := 29) (off := 2064) (tgt := 2103) B dL_law_39 hz (by decide) (by decide) (by decide +kernel) (by decide) (lc_load hlt G hB hS hn hi hf hl kk)
    rcases (show z = 30 ∨ 31 ≤ z by omega) with hz | g30
    · exact x_tswIn (k := 30) (off := 2132) (tgt := 2171) B dL_law_39 hz (by decide) (by decide) (by decide +kernel) (by decide) (lc_about hlt G hB hS hn hi hf hl kk)
    rcases (show z = 31 ∨ 32 ≤ z by omega) with hz | g31
    · exact x_tswIn (k := 31) (off := 2200) (tgt := 2239) B dL_law_39 hz (by decide) (by decide) (by decide +kernel) (by decide) (lc_state hlt G hB hS hn hi hf hl kk)
    rcases (show z = 32 ∨ 33 ≤ z by omega) with hz | g32
    · exact x_tswIn (k := 32) (off := 2268) (tgt := 2307) B dL_law_39 hz (by decide) (by decide) (by decide +kernel) (by decide) (lc_count hlt G hB hS hn hi hf hl kk)
    exact absurd g32 h33
set_option maxHeartbeats 4000000 in
/-- THE LAW'S LOOP: at its head, with j turns behind -/
theorem law_loop {p : Program} {l : Launch} {e : Env} {s : State} {m : MethodId} {below : List Frame} {meth : Method} {c : Code} {D : va_G} {cy : Nat → ClassId} {d0 a o b x L : Nat} {ad : Nat → Nat} {xs : Nat → Int32} (hlt : l.stackTraces = false) (G : lG p s m c b L xs D cy d0 a o ad) (hr : meth.sig.returnType = ret) (hlocks : meth.locks = false) : ∀ (f j : Nat), L < 5 * (j + f) → j ≤ 512 → ∀ (la : Nat → Int → Nat) (σ : MS) (H : Heap) (locs : List Loc) (ls : Array Slot), lB D cy d0 (lA s a o ad) o ad a x (j : Int) la σ H → va_S (l9 s) s.heap H locs → lv_has ls 8 (lL b x o a (5 * (j : Int))) → W p l e room_1 s m #[Value.ref b] below meth c H locs (60 + 24 * j) (20000 + 2100 * j) (lw_Z below #[Value.ref b] s) (F0 m 23 ls []) := by
  have B := G.1.1
  have hL := G.2.2.2.2.2.2.2
  intro f
  induction f with
  | zero =>
    intro j hj hj2 la σ H locs ls hB hS hl
    refine law_head G hS hl ⟨by omega, by omega⟩ (fun h => ?_) (fun h => absurd h (by omega))
    exact law_exit B hr hlocks hS (by omega) (by omega)
  | succ f ih =>
    intro j hj hj2 la σ H locs ls hB hS hl
    refine law_head G hS hl ⟨by omega, by omega⟩ (fun h => ?_) (fun h => ?_)
    · exact law_exit B hr hlocks hS (by omega) (by omega)
    · refine law_turn hlt G hB hS (by omega) ⟨by omega, h⟩ ⟨?_, ?_⟩ hl (fun H1 locs1 la1 σ1 ls1 hB1 hS1 hl1 => ?_)
      · show 60 + 24 * j + 24 ≤ 601024
        omega
      · show 20000 + 2100 * j + 2100 ≤ 7293033
        omega
      · refine x_iinc (a := 5 * (j : Int)) B hl1 dL_law_2333 rfl (by decide) (fun ls2 hl2 => ?_)
        refine x_goto (tgt := 23) B dL_law_2336 (by decide) ?_
        have e1 : 5 * (j : Int) + 5 = 5 * ((j + 1 : Nat) : Int) := by omega
        have e2 : (j : Int) + 1 = ((j + 1 : Nat) : Int) := by omega
        rw [e1] at hl2
        rw [e2] at hB1
        refine w_widen (k := 60 + 24 * (j + 1)) (n := 20000 + 2100 * (j + 1)) (by omega) (by omega) ?_
        exact ih (j + 1) (by omega) (by omega) la1 σ1 H1 locs1 ls2 hB1 hS1 (lv_key hl2 (lL b x o a (5 * ((j + 1 : Nat) : Int))) rfl)
