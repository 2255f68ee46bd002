set_option maxRecDepth 20000 in
theorem wsL_law0_i23 : ∀ w ∈ wsL_law0_r23, w ∈ lw_tbl := by decide +kernel
set_option maxRecDepth 20000 in
theorem wsL_law0_i24 : ∀ w ∈ wsL_law0_r24, w ∈ lw_tbl := by decide +kernel
set_option maxRecDepth 20000 in
theorem wsL_law0_i25 : ∀ w ∈ wsL_law0_r25, w ∈ lw_tbl := by decide +kernel
set_option maxRecDepth 20000 in
theorem wsL_law0_i26 : ∀ w ∈ wsL_law0_r26, w ∈ lw_tbl := by decide +kernel
set_option maxRecDepth 20000 in
theorem wsL_law0_i27 : ∀ w ∈ wsL_law0_r27, w ∈ lw_tbl := by decide +kernel
set_option maxRecDepth 20000 in
theorem wsL_law0_i28 : ∀ w ∈ wsL_law0_r28, w ∈ lw_tbl := by decide +kernel
set_option maxRecDepth 20000 in
theorem wsL_law0_i29 : ∀ w ∈ wsL_law0_r29, w ∈ lw_tbl := by decide +kernel
set_option maxRecDepth 20000 in
theorem wsL_law0_i30 : ∀ w ∈ wsL_law0_r30, w ∈ lw_tbl := by decide +kernel
set_option maxRecDepth 20000 in
theorem wsL_law0_i31 : ∀ w ∈ wsL_law0_r31, w ∈ lw_tbl := by decide +kernel
set_option maxRecDepth 20000 in
theorem wsL_law0_i32 : ∀ w ∈ wsL_law0_r32, w ∈ lw_tbl := by decide +kernel
set_option maxRecDepth 20000 in
theorem wsL_law0_i33 : ∀ w ∈ wsL_law0_r33, w ∈ lw_tbl := by decide +kernel
set_option maxRecDepth 20000 in
theorem wsL_law0_i34 : ∀ w ∈ wsL_law0_r34, w ∈ lw_tbl := by decide +kernel
set_option maxRecDepth 20000 in
theorem wsL_law0_i35 : ∀ w ∈ wsL_law0_r35, w ∈ lw_tbl := by decide +kernel
set_option maxRecDepth 20000 in
theorem wsL_law0_i36 : ∀ w ∈ wsL_law0_r36, w ∈ lw_tbl := by decide +kernel
set_option maxRecDepth 20000 in
theorem wsL_law0_i37 : ∀ w ∈ wsL_law0_r37, w ∈ lw_tbl := by decide +kernel
set_option maxRecDepth 20000 in
theorem wsL_law0_i38 : ∀ w ∈ wsL_law0_r38, w ∈ lw_tbl := by decide +kernel
set_option maxRecDepth 20000 in
theorem wsL_law0_i39 : ∀ w ∈ wsL_law0_r39, w ∈ lw_tbl := by decide +kernel
set_option maxRecDepth 20000 in
theorem wsL_law0_i40 : ∀ w ∈ wsL_law0_r40, w ∈ lw_tbl := by decide +kernel
set_option maxRecDepth 20000 in
theorem wsL_law0_i41 : ∀ w ∈ wsL_law0_r41, w ∈ lw_tbl := by decide +kernel
set_option maxRecDepth 20000 in
theorem wsL_law0_i42 : ∀ w ∈ wsL_law0_r42, w ∈ lw_tbl := by decide +kernel
set_option maxRecDepth 20000 in
theorem wsL_law0_i43 : ∀ w ∈ wsL_law0_r43, w ∈ lw_tbl := by decide +kernel
set_option maxRecDepth 20000 in
theorem wsL_law0_i44 : ∀ w ∈ wsL_law0_r44, w ∈ lw_tbl := by decide +kernel
set_option maxRecDepth 20000 in
theorem wsL_law0_i45 : ∀ w ∈ wsL_law0_r45, w ∈ lw_tbl := by decide +kernel
set_option maxRecDepth 20000 in
theorem wsL_law0_wsX100 : ∀ w ∈ wsX100, w ∈ lw_tbl := by decide +kernel
set_option maxRecDepth 20000 in
theorem wsL_law0_wsX110 : ∀ w ∈ wsX110, w ∈ lw_tbl := by decide +kernel
set_option maxRecDepth 20000 in
theorem wsL_law0_wsJx4a65c0 : ∀ w ∈ wsJx4a65c0, w ∈ lw_tbl := by decide +kernel
set_option maxRecDepth 20000 in
theorem wsL_law0_wsX10 : ∀ w ∈ wsX10, w ∈ lw_tbl := by decide +kernel
set_option maxRecDepth 20000 in
theorem wsL_law0_wsX80 : ∀ w ∈ wsX80, w ∈ lw_tbl := by decide +kernel
set_option maxRecDepth 20000 in
theorem wsL_law0_wsX40 : ∀ w ∈ wsX40, w ∈ lw_tbl := by decide +kernel
set_option maxRecDepth 20000 in
theorem wsL_law0_wsX70 : ∀ w ∈ wsX70, w ∈ lw_tbl := by decide +kernel
set_option maxRecDepth 20000 in
theorem wsL_law0_wsX30 : ∀ w ∈ wsX30, w ∈ lw_tbl := by decide +kernel
set_option maxRecDepth 20000 in
theorem wsL_law0_wsX00 : ∀ w ∈ wsX00, w ∈ lw_tbl := by decide +kernel
set_option maxRecDepth 20000 in
theorem wsL_law0_wsX50 : ∀ w ∈ wsX50, w ∈ lw_tbl := by decide +kernel
set_option maxRecDepth 20000 in
theorem wsL_law0_wsX60 : ∀ w ∈ wsX60, w ∈ lw_tbl := by decide +kernel
set_option maxRecDepth 20000 in
theorem wsL_law0_wsX20 : ∀ w ∈ wsX20, w ∈ lw_tbl := by decide +kernel
set_option maxRecDepth 20000 in
theorem wsL_law0_wsX90 : ∀ w ∈ wsX90, w ∈ lw_tbl := by decide +kernel
theorem wsL_law_in0 : ∀ w ∈ wsL_law0, w ∈ lw_tbl := fun w h => (List.mem_append.mp h).elim (fun h => (List.mem_append.mp h).elim (fun h => (List.mem_append.mp h).elim (fun h => (List.mem_append.mp h).elim (fun h => (List.mem_append.mp h).elim (fun h => (List.mem_append.mp h).elim (fun h => (List.mem_append.mp h).elim (fun h => (List.mem_append.mp h).elim (fun h => (List.mem_append.mp h).elim (fun h => (List.mem_append.mp h).elim (fun h => (List.mem_append.mp h).elim (fun h => (List.mem_append.mp h).elim (fun h => (List.mem_append.mp h).elim (fun h => (List.mem_append.mp h).elim (fun h => (List.mem_append.mp h).elim (fun h => wsL_law0_i1 w h) (fun h => (List.mem_append.mp h).elim (fun h => wsL_law0_i2 w h) (fun h => (List.mem_append.mp h).elim (fun h => wsL_law0_i3 w h) (fun h => (List.mem_append.mp h).elim (fun h => wsL_law0_i4 w h) (fun h => (List.mem_append.mp h).elim (fun h => wsL_law0_i5 w h) (fun h => (List.mem_append.mp h).elim (fun h => wsL_law0_i6 w h) (fun h => (List.mem_append.mp h).elim (fun h => wsL_law0_i7 w h) (fun h => (List.mem_append.mp h).elim (fun h => wsL_law0_i8 w h) (fun h => (List.mem_append.mp h).elim (fun h => wsL_law0_i9 w h) (fun h => (List.mem_append.mp h).elim (fun h => wsL_law0_i10 w h) (fun h => (List.mem_append.mp h).elim (fun h => wsL_law0_i11 w h) (fun h => (List.mem_append.mp h).elim (fun h => wsL_law0_i12 w h) (fun h => (List.mem_append.mp h).elim (fun h => wsL_law0_i13 w h) (fun h => (List.mem_append.mp h).elim (fun h => wsL_law0_i14 w h) (fun h => (List.mem_append.mp h).elim (fun h => wsL_law0_i15 w h) (fun h => (List.mem_append.mp h).elim (fun h => wsL_law0_i16 w h) (fun h => (List.mem_append.mp h).elim (fun h => wsL_law0_i17 w h) (fun h => (List.mem_append.mp h).elim (fun h => wsL_law0_i18 w h) (fun h => (List.mem_append.mp h).elim (fun h => wsL_law0_i19 w h) (fun h => (List.mem_append.mp h).elim (fun h => wsL_law0_i20 w h) (fun h => (List.mem_append.mp h).elim (fun h => wsL_law0_i21 w h) (fun h => (List.mem_append.mp h).elim (fun h => wsL_law0_i22 w h) (fun h => (List.mem_append.mp h).elim (fun h => wsL_law0_i23 w h) (fun h => (List.mem_append.mp h).elim (fun h => wsL_law0_i24 w h) (fun h => (List.mem_append.mp h).elim (fun h => wsL_law0_i25 w h) (fun h => (List.mem_append.mp h).elim (fun h => wsL_law0_i26 w h) (fun h => (List.mem_append.mp h).elim (fun h => wsL_law0_i27 w h) (fun h => (List.mem_append.mp h).elim (fun h => wsL_law0_i28 w h) (fun h => (List.mem_append.mp h).elim (fun h => wsL_law0_i29 w h) (fun h => (List.mem_append.mp h).elim (fun h => wsL_law0_i30 w h) (fun h => (List.mem_append.mp h).elim (fun h => wsL_law0_i31 w h) (fun h => (List.mem_append.mp h).elim (fun h => wsL_law0_i32 w h) (fun h => (List.mem_append.mp h).elim (fun h => wsL_law0_i33 w h) (fun h => (List.mem_append.mp h).elim (fun h => wsL_law0_i34 w h) (fun h => (List.mem_append.mp h).elim (fun h => wsL_law0_i35 w h) (fun h => (List.mem_append.mp h).elim (fun h => wsL_law0_i36 w h) (fun h => (List.mem_append.mp h).elim (fun h => wsL_law0_i37 w h) (fun h => (List.mem_append.mp h).elim (fun h => wsL_law0_i38 w h) (fun h => (List.mem_append.mp h).elim (fun h => wsL_law0_i39 w h) (fun h => (List.mem_append.mp h).elim (fun h => wsL_law0_i40 w h) (fun h => (List.mem_append.mp h).elim (fun h => wsL_law0_i41 w h) (fun h => (List.mem_append.mp h).elim (fun h => wsL_law0_i42 w h) (fun h => (List.mem_append.mp h).elim (fun h => wsL_law0_i43 w h) (fun h => (List.mem_append.mp h).elim (fun h => wsL_law0_i44 w h) (fun h => wsL_law0_i45 w h))))))))))))))))))))))))))))))))))))))))))))) (fun h => wsL_law0_wsX100 w h)) (fun h => wsL_law0_wsX110 w h)) (fun h => wsL_law0_wsJx4a65c0 w h)) (fun h => wsL_law0_wsX10 w h)) (fun h => wsL_law0_wsX80 w h)) (fun h => wsL_law0_wsX40 w h)) (fun h => wsL_law0_wsX70 w h)) (fun h => wsL_law0_wsX30 w h)) (fun h => wsL_law0_wsX00 w h)) (fun h => wsL_law0_wsX50 w h)) (fun h => wsL_law0_wsX60 w h)) (fun h => wsL_law0_wsX20 w h)) (fun h => wsL_law0_wsX90 w h)) (fun h => absurd h List.not_mem_nil)
theorem wsL_law_x0 : ∀ w ∈ (vx_atS RX10 380 "java/lang/UnsupportedOperationException" ["java/lang/RuntimeException", "java/lang/Exception"]).filter goodWord, w ∈ lw_tbl := by decide +kernel
theorem wsL_law_x1 : ∀ w ∈ (vx_atS RX10 390 "java/lang/IndexOutOfBoundsException" ["java/lang/RuntimeException", "java/lang/Exception"]).filter goodWord, w ∈ lw_tbl := by decide +kernel
theorem wsL_law_x2 : ∀ w ∈ (vx_atS RX10 373 "java/lang/IllegalArgumentException" ["java/lang/RuntimeException", "java/lang/Exception"]).filter goodWord, w ∈ lw_tbl := by decide +kernel
theorem wsL_law_x3 : ∀ w ∈ (vx_atN RX10 385).filter goodWord, w ∈ lw_tbl := by decide +kernel
theorem wsL_law_in : ∀ w ∈ wsL_law, w ∈ lw_tbl := fun w h => (List.mem_append.mp h).elim (fun h => (List.mem_append.mp h).elim (fun h => (List.mem_append.mp h).elim (fun h => (List.mem_append.mp h).elim (fun h => wsL_law_in0 w h) (fun h => wsL_law_x0 w h)) (fun h => wsL_law_x1 w h)) (fun h => wsL_law_x2 w h)) (fun h => wsL_law_x3 w h)
