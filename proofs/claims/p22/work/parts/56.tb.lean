/-! the words of the law's methods stand in the tables -/
set_option maxRecDepth 20000 in
theorem tb_wsL_step_r1 : ∀ w ∈ wsL_step_r1, w ∈ lw_tbl := by decide +kernel
set_option maxRecDepth 20000 in
theorem tb_wsL_step_r2 : ∀ w ∈ wsL_step_r2, w ∈ lw_tbl := by decide +kernel
set_option maxRecDepth 20000 in
theorem tb_wsL_step_r3 : ∀ w ∈ wsL_step_r3, w ∈ lw_tbl := by decide +kernel
set_option maxRecDepth 20000 in
theorem tb_wsL_step_r4 : ∀ w ∈ wsL_step_r4, w ∈ lw_tbl := by decide +kernel
set_option maxRecDepth 20000 in
theorem tb_wsL_step_r5 : ∀ w ∈ wsL_step_r5, w ∈ lw_tbl := by decide +kernel
set_option maxRecDepth 20000 in
theorem tb_wsL_step_r6 : ∀ w ∈ wsL_step_r6, w ∈ lw_tbl := by decide +kernel
set_option maxRecDepth 20000 in
theorem tb_wsL_step_r7 : ∀ w ∈ wsL_step_r7, w ∈ lw_tbl := by decide +kernel
set_option maxRecDepth 20000 in
theorem tb_wsL_step_r8 : ∀ w ∈ wsL_step_r8, w ∈ lw_tbl := by decide +kernel
set_option maxRecDepth 20000 in
theorem tb_wsL_step_r9 : ∀ w ∈ wsL_step_r9, w ∈ lw_tbl := by decide +kernel
set_option maxRecDepth 20000 in
theorem tb_wsL_step_r10 : ∀ w ∈ wsL_step_r10, w ∈ lw_tbl := by decide +kernel
set_option maxRecDepth 20000 in
theorem tb_wsL_step_r11 : ∀ w ∈ wsL_step_r11, w ∈ lw_tbl := by decide +kernel
set_option maxRecDepth 20000 in
theorem tb_wsL_step_r12 : ∀ w ∈ wsL_step_r12, w ∈ lw_tbl := by decide +kernel
set_option maxRecDepth 20000 in
theorem tb_wsL_step_r13 : ∀ w ∈ wsL_step_r13, w ∈ lw_tbl := by decide +kernel
set_option maxRecDepth 20000 in
theorem tb_wsL_isCellar_r1 : ∀ w ∈ wsL_isCellar_r1, w ∈ lw_tbl := by decide +kernel
set_option maxRecDepth 20000 in
theorem tb_wsL_isCellar_r2 : ∀ w ∈ wsL_isCellar_r2, w ∈ lw_tbl := by decide +kernel
set_option maxRecDepth 20000 in
theorem tb_wsL_isCellar_r3 : ∀ w ∈ wsL_isCellar_r3, w ∈ lw_tbl := by decide +kernel
set_option maxRecDepth 20000 in
theorem tb_wsL_isCellar_r4 : ∀ w ∈ wsL_isCellar_r4, w ∈ lw_tbl := by decide +kernel
set_option maxRecDepth 20000 in
theorem tb_wsL_isCellar_r5 : ∀ w ∈ wsL_isCellar_r5, w ∈ lw_tbl := by decide +kernel
set_option maxRecDepth 20000 in
theorem tb_wsL_isCellar_r6 : ∀ w ∈ wsL_isCellar_r6, w ∈ lw_tbl := by decide +kernel
set_option maxRecDepth 20000 in
theorem tb_wsX5_init_r1 : ∀ w ∈ wsX5_init_r1, w ∈ lw_tbl := by decide +kernel
set_option maxRecDepth 20000 in
theorem tb_wsX5_init_r2 : ∀ w ∈ wsX5_init_r2, w ∈ lw_tbl := by decide +kernel
set_option maxRecDepth 20000 in
theorem tb_wsX5_init_r3 : ∀ w ∈ wsX5_init_r3, w ∈ lw_tbl := by decide +kernel
set_option maxRecDepth 20000 in
theorem tb_wsL_draw : ∀ w ∈ wsL_draw, w ∈ lw_tbl := by decide +kernel
set_option maxRecDepth 20000 in
theorem tb_wsX50 : ∀ w ∈ wsX50, w ∈ lw_tbl := by decide +kernel
set_option maxRecDepth 20000 in
theorem tb_wsX40 : ∀ w ∈ wsX40, w ∈ lw_tbl := by decide +kernel
set_option maxRecDepth 20000 in
theorem tb_wsJx4a65c0 : ∀ w ∈ wsJx4a65c0, w ∈ lw_tbl := by decide +kernel
set_option maxRecDepth 20000 in
theorem tb_wsX20 : ∀ w ∈ wsX20, w ∈ lw_tbl := by decide +kernel
set_option maxRecDepth 20000 in
theorem tb_wsX10 : ∀ w ∈ wsX10, w ∈ lw_tbl := by decide +kernel
set_option maxRecDepth 20000 in
theorem tb_wsX00 : ∀ w ∈ wsX00, w ∈ lw_tbl := by decide +kernel
set_option maxRecDepth 20000 in
theorem tb_wsX30 : ∀ w ∈ wsX30, w ∈ lw_tbl := by decide +kernel
set_option maxRecDepth 20000 in
theorem tb_x0 : ∀ w ∈ (vx_atS RX5 63 "java/lang/IllegalStateException" ["java/lang/RuntimeException", "java/lang/Exception"]).filter goodWord, w ∈ lw_tbl := by decide +kernel
set_option maxRecDepth 20000 in
theorem tb_x1 : ∀ w ∈ (vx_atS RX5 52 "java/lang/IllegalArgumentException" ["java/lang/RuntimeException", "java/lang/Exception"]).filter goodWord, w ∈ lw_tbl := by decide +kernel
set_option maxRecDepth 20000 in
theorem tb_x2 : ∀ w ∈ (vx_atS RX5 193 "java/lang/IndexOutOfBoundsException" ["java/lang/RuntimeException", "java/lang/Exception"]).filter goodWord, w ∈ lw_tbl := by decide +kernel
set_option maxRecDepth 20000 in
theorem tb_x3 : ∀ w ∈ (kWN RX5).filter goodWord, w ∈ lw_tbl := by decide +kernel
