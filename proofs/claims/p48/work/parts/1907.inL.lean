set_option maxRecDepth 20000 in
theorem wsL_law0_r29_in : ∀ w ∈ wsL_law0_r29, w ∈ lw_tbl := fun w h => (goodIn_p wsL_law0_r29 [555, 559, 567, 576] rfl (by decide +kernel) w h).1
set_option maxRecDepth 20000 in
theorem wsL_law0_r30_in : ∀ w ∈ wsL_law0_r30, w ∈ lw_tbl := fun w h => (goodIn_p wsL_law0_r30 [580, 584, 588, 592, 596, 599] rfl (by decide +kernel) w h).1
set_option maxRecDepth 20000 in
theorem wsL_law0_r31_in : ∀ w ∈ wsL_law0_r31, w ∈ lw_tbl := fun w h => (goodIn_p wsL_law0_r31 [610, 493, 618, 636, 626, 640] rfl (by decide +kernel) w h).1
set_option maxRecDepth 20000 in
theorem wsL_law0_r32_in : ∀ w ∈ wsL_law0_r32, w ∈ lw_tbl := fun w h => (goodIn_p wsL_law0_r32 [649, 632, 1061, 614, 622, 489] rfl (by decide +kernel) w h).1
theorem wsX120_in0 : ∀ w ∈ wsX120, w ∈ lw_tbl := by decide +kernel
theorem wsX110_in0 : ∀ w ∈ wsX110, w ∈ lw_tbl := by decide +kernel
theorem wsX10_in0 : ∀ w ∈ wsX10, w ∈ lw_tbl := by decide +kernel
theorem wsX40_in0 : ∀ w ∈ wsX40, w ∈ lw_tbl := by decide +kernel
theorem wsX20_in0 : ∀ w ∈ wsX20, w ∈ lw_tbl := by decide +kernel
theorem wsX90_in0 : ∀ w ∈ wsX90, w ∈ lw_tbl := by decide +kernel
theorem wsX80_in0 : ∀ w ∈ wsX80, w ∈ lw_tbl := by decide +kernel
theorem wsX70_in0 : ∀ w ∈ wsX70, w ∈ lw_tbl := by decide +kernel
theorem wsX00_in0 : ∀ w ∈ wsX00, w ∈ lw_tbl := by decide +kernel
theorem wsX30_in0 : ∀ w ∈ wsX30, w ∈ lw_tbl := by decide +kernel
theorem wsX100_in0 : ∀ w ∈ wsX100, w ∈ lw_tbl := by decide +kernel
theorem wsX50_in0 : ∀ w ∈ wsX50, w ∈ lw_tbl := by decide +kernel
theorem in_app {a b : List Cond} (h1 : ∀ w ∈ a, w ∈ lw_tbl) (h2 : ∀ w ∈ b, w ∈ lw_tbl) : ∀ w ∈ a ++ b, w ∈ lw_tbl := fun w h => (List.mem_append.mp h).elim (h1 w) (h2 w)
theorem wsL_law_in0 : ∀ w ∈ wsL_law0, w ∈ lw_tbl := (in_app (in_app (in_app (in_app (in_app (in_app (in_app (in_app (in_app (in_app (in_app (in_app (in_app (in_app wsL_law0_r1_in (in_app wsL_law0_r2_in (in_app wsL_law0_r3_in (in_app wsL_law0_r4_in (in_app wsL_law0_r5_in (in_app wsL_law0_r6_in (in_app wsL_law0_r7_in (in_app wsL_law0_r8_in (in_app wsL_law0_r9_in (in_app wsL_law0_r10_in (in_app wsL_law0_r11_in (in_app wsL_law0_r12_in (in_app wsL_law0_r13_in (in_app wsL_law0_r14_in (in_app wsL_law0_r15_in (in_app wsL_law0_r16_in (in_app wsL_law0_r17_in (in_app wsL_law0_r18_in (in_app wsL_law0_r19_in (in_app wsL_law0_r20_in (in_app wsL_law0_r21_in (in_app wsL_law0_r22_in (in_app wsL_law0_r23_in (in_app wsL_law0_r24_in (in_app wsL_law0_r25_in (in_app wsL_law0_r26_in (in_app wsL_law0_r27_in (in_app wsL_law0_r28_in (in_app wsL_law0_r29_in (in_app wsL_law0_r30_in (in_app wsL_law0_r31_in wsL_law0_r32_in))))))))))))))))))))))))))))))) wsX120_in0) wsX110_in0) wsX10_in0) wsX40_in0) wsX20_in0) wsX90_in0) wsX80_in0) wsX70_in0) wsX00_in0) wsX30_in0) wsX100_in0) wsX50_in0) (fun _ h => nomatch h))
theorem wsL_law_x0 : ∀ w ∈ (vx_atS RX11 61 "java/lang/IllegalArgumentException" ["java/lang/RuntimeException", "java/lang/Exception"]).filter goodWord, w ∈ lw_tbl := by decide +kernel
theorem wsL_law_x1 : ∀ w ∈ (vx_atS RX11 103 "java/lang/IllegalStateException" ["java/lang/RuntimeException", "java/lang/Exception"]).filter goodWord, w ∈ lw_tbl := by decide +kernel
theorem wsL_law_x2 : ∀ w ∈ (vx_atS RX11 83 "java/lang/IndexOutOfBoundsException" ["java/lang/RuntimeException", "java/lang/Exception"]).filter goodWord, w ∈ lw_tbl := by decide +kernel
theorem wsL_law_in : ∀ w ∈ wsL_law, w ∈ lw_tbl := fun w h => (List.mem_append.mp h).elim (fun h => (List.mem_append.mp h).elim (fun h => (List.mem_append.mp h).elim (fun h => wsL_law_in0 w h) (fun h => wsL_law_x0 w h)) (fun h => wsL_law_x1 w h)) (fun h => wsL_law_x2 w h)
