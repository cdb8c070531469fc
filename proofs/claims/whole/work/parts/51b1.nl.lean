set_option maxRecDepth 20000 in
theorem wsX90_pl : ∀ w ∈ wsX90, w ∈ lw_tbl := by decide +kernel
set_option maxRecDepth 20000 in
theorem wsX100_pl : ∀ w ∈ wsX100, w ∈ lw_tbl := by decide +kernel
set_option maxRecDepth 20000 in
theorem wsX00_pl : ∀ w ∈ wsX00, w ∈ lw_tbl := by decide +kernel
set_option maxRecDepth 20000 in
theorem wsX70_pl : ∀ w ∈ wsX70, w ∈ lw_tbl := by decide +kernel
set_option maxRecDepth 20000 in
theorem wsX80_pl : ∀ w ∈ wsX80, w ∈ lw_tbl := by decide +kernel
set_option maxRecDepth 20000 in
theorem wsX20_pl : ∀ w ∈ wsX20, w ∈ lw_tbl := by decide +kernel
set_option maxRecDepth 20000 in
theorem wsX40_pl : ∀ w ∈ wsX40, w ∈ lw_tbl := by decide +kernel
set_option maxRecDepth 20000 in
theorem wsX50_pl : ∀ w ∈ wsX50, w ∈ lw_tbl := by decide +kernel
set_option maxRecDepth 20000 in
theorem wsX60_pl : ∀ w ∈ wsX60, w ∈ lw_tbl := by decide +kernel
theorem wsL_law_in0 : ∀ w ∈ wsL_law0, w ∈ lw_tbl := mem_ap (mem_ap (mem_ap (mem_ap (mem_ap (mem_ap (mem_ap (mem_ap (mem_ap (mem_ap (mem_ap wsL_law0_r1_pl (mem_ap wsL_law0_r2_pl (mem_ap wsL_law0_r3_pl (mem_ap wsL_law0_r4_pl (mem_ap wsL_law0_r5_pl (mem_ap wsL_law0_r6_pl (mem_ap wsL_law0_r7_pl (mem_ap wsL_law0_r8_pl (mem_ap wsL_law0_r9_pl (mem_ap wsL_law0_r10_pl (mem_ap wsL_law0_r11_pl (mem_ap wsL_law0_r12_pl (mem_ap wsL_law0_r13_pl (mem_ap wsL_law0_r14_pl (mem_ap wsL_law0_r15_pl (mem_ap wsL_law0_r16_pl (mem_ap wsL_law0_r17_pl (mem_ap wsL_law0_r18_pl (mem_ap wsL_law0_r19_pl (wsL_law0_r20_pl)))))))))))))))))))) wsX90_pl) wsX100_pl) wsX00_pl) wsX70_pl) wsX80_pl) wsX20_pl) wsX40_pl) wsX50_pl) wsX60_pl) (fun _ h => absurd h List.not_mem_nil)
