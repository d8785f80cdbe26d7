/-! the words of the law's greater methods -/
def wsCo : List Cond := [.classLink RL 11 RX5, .instantiable RX5 8, .initialized RX5, .arrayClass .int, .constant RL 123 1073741824, .methodLink RL 118 yX5_init, .instanceMethod yX5_init, .methodLink RL 119 yL_draw, .static yL_draw, .initialized RL, .methodLink RL 124 yL_step, .static yL_step, .methodLink RL 128 yL_isCellar, .static yL_isCellar]
def wsC : List Cond := .code yL_cellar cL_cellar 10 (some .boolean) :: (wsCo ++ (wsX5_init ++ (wsL_draw ++ (wsL_step ++ wsL_isCellar))))
theorem tb_wsCo : ∀ w ∈ wsCo, w ∈ lw_tbl := by decide +kernel
theorem tb_wsX5_init : ∀ w ∈ wsX5_init, w ∈ lw_tbl := List.forall_mem_cons.mpr ⟨show (.code yX5_init cX5_init 2 none : Cond) ∈ lw_tbl from by decide +kernel, (List.forall_mem_append.mpr ⟨(List.forall_mem_append.mpr ⟨(List.forall_mem_append.mpr ⟨(List.forall_mem_append.mpr ⟨(List.forall_mem_append.mpr ⟨(List.forall_mem_append.mpr ⟨tb_wsX5_init_r1, (List.forall_mem_append.mpr ⟨tb_wsX5_init_r2, tb_wsX5_init_r3⟩)⟩), tb_wsX50⟩), tb_wsJx4a65c0⟩), tb_wsX00⟩), tb_wsX20⟩), tb_wsX30⟩)⟩
theorem tb_wsL_step : ∀ w ∈ wsL_step, w ∈ lw_tbl := List.forall_mem_cons.mpr ⟨show (.code yL_step cL_step 14 (some .boolean) : Cond) ∈ lw_tbl from by decide +kernel, (List.forall_mem_append.mpr ⟨(List.forall_mem_append.mpr ⟨(List.forall_mem_append.mpr ⟨(List.forall_mem_append.mpr ⟨(List.forall_mem_append.mpr ⟨(List.forall_mem_append.mpr ⟨(List.forall_mem_append.mpr ⟨(List.forall_mem_append.mpr ⟨(List.forall_mem_append.mpr ⟨(List.forall_mem_append.mpr ⟨(List.forall_mem_append.mpr ⟨(List.forall_mem_append.mpr ⟨tb_wsL_step_r1, (List.forall_mem_append.mpr ⟨tb_wsL_step_r2, (List.forall_mem_append.mpr ⟨tb_wsL_step_r3, (List.forall_mem_append.mpr ⟨tb_wsL_step_r4, (List.forall_mem_append.mpr ⟨tb_wsL_step_r5, (List.forall_mem_append.mpr ⟨tb_wsL_step_r6, (List.forall_mem_append.mpr ⟨tb_wsL_step_r7, (List.forall_mem_append.mpr ⟨tb_wsL_step_r8, (List.forall_mem_append.mpr ⟨tb_wsL_step_r9, (List.forall_mem_append.mpr ⟨tb_wsL_step_r10, (List.forall_mem_append.mpr ⟨tb_wsL_step_r11, (List.forall_mem_append.mpr ⟨tb_wsL_step_r12, tb_wsL_step_r13⟩)⟩)⟩)⟩)⟩)⟩)⟩)⟩)⟩)⟩)⟩)⟩), tb_wsX50⟩), tb_wsX40⟩), tb_wsJx4a65c0⟩), tb_wsX20⟩), tb_wsX10⟩), tb_wsX00⟩), tb_wsX30⟩), tb_x0⟩), tb_x1⟩), tb_x2⟩), tb_x3⟩)⟩
theorem tb_wsL_isCellar : ∀ w ∈ wsL_isCellar, w ∈ lw_tbl := List.forall_mem_cons.mpr ⟨show (.code yL_isCellar cL_isCellar 9 (some .boolean) : Cond) ∈ lw_tbl from by decide +kernel, (List.forall_mem_append.mpr ⟨(List.forall_mem_append.mpr ⟨(List.forall_mem_append.mpr ⟨(List.forall_mem_append.mpr ⟨(List.forall_mem_append.mpr ⟨(List.forall_mem_append.mpr ⟨(List.forall_mem_append.mpr ⟨(List.forall_mem_append.mpr ⟨(List.forall_mem_append.mpr ⟨(List.forall_mem_append.mpr ⟨tb_wsL_isCellar_r1, (List.forall_mem_append.mpr ⟨tb_wsL_isCellar_r2, (List.forall_mem_append.mpr ⟨tb_wsL_isCellar_r3, (List.forall_mem_append.mpr ⟨tb_wsL_isCellar_r4, (List.forall_mem_append.mpr ⟨tb_wsL_isCellar_r5, tb_wsL_isCellar_r6⟩)⟩)⟩)⟩)⟩), tb_wsX50⟩), tb_wsJx4a65c0⟩), tb_wsX40⟩), tb_wsX10⟩), tb_wsX20⟩), tb_wsX30⟩), tb_wsX00⟩), tb_x2⟩), tb_x1⟩)⟩
theorem tb_wsC : ∀ w ∈ wsC, w ∈ lw_tbl := List.forall_mem_cons.mpr ⟨by decide +kernel, List.forall_mem_append.mpr ⟨tb_wsCo, List.forall_mem_append.mpr ⟨tb_wsX5_init, List.forall_mem_append.mpr ⟨tb_wsL_draw, List.forall_mem_append.mpr ⟨tb_wsL_step, tb_wsL_isCellar⟩⟩⟩⟩⟩
theorem inC_wsX5_init : ∀ w ∈ wsX5_init, w ∈ wsC := fun _ h => List.mem_cons_of_mem _ (List.mem_append_right _ (List.mem_append_left _ h))
set_option maxRecDepth 20000 in
theorem go_wsX5_init : wsX5_init.all goodWord = true := by decide +kernel
theorem inC_wsL_draw : ∀ w ∈ wsL_draw, w ∈ wsC := fun _ h => List.mem_cons_of_mem _ (List.mem_append_right _ (List.mem_append_right _ (List.mem_append_left _ h)))
set_option maxRecDepth 20000 in
theorem go_wsL_draw : wsL_draw.all goodWord = true := by decide +kernel
theorem inC_wsL_step : ∀ w ∈ wsL_step, w ∈ wsC := fun _ h => List.mem_cons_of_mem _ (List.mem_append_right _ (List.mem_append_right _ (List.mem_append_right _ (List.mem_append_left _ h))))
set_option maxRecDepth 20000 in
theorem go_wsL_step : wsL_step.all goodWord = true := by decide +kernel
theorem inC_wsL_isCellar : ∀ w ∈ wsL_isCellar, w ∈ wsC := fun _ h => List.mem_cons_of_mem _ (List.mem_append_right _ (List.mem_append_right _ (List.mem_append_right _ (List.mem_append_right _ h))))
set_option maxRecDepth 20000 in
theorem go_wsL_isCellar : wsL_isCellar.all goodWord = true := by decide +kernel
theorem gC_X5_init : GoodIn wsC (wsX5_init) := goodIn_sub inC_wsX5_init go_wsX5_init
theorem gC_L_draw : GoodIn wsC (va_wsS RL 119 yL_draw wsL_draw) := goodIn_app (goodIn_of _ (by decide +kernel)) (goodIn_sub inC_wsL_draw go_wsL_draw)
theorem gC_L_step : GoodIn wsC (va_wsS RL 124 yL_step wsL_step) := goodIn_app (goodIn_of _ (by decide +kernel)) (goodIn_sub inC_wsL_step go_wsL_step)
theorem gC_L_isCellar : GoodIn wsC (va_wsS RL 128 yL_isCellar wsL_isCellar) := goodIn_app (goodIn_of _ (by decide +kernel)) (goodIn_sub inC_wsL_isCellar go_wsL_isCellar)
theorem inC_5 : ∀ w ∈ wsX50, w ∈ wsC := fun w h => inC_wsX5_init w (List.mem_cons_of_mem _ (List.mem_append_left _ (List.mem_append_left _ (List.mem_append_left _ (List.mem_append_left _ (List.mem_append_right _ h))))))
set_option maxRecDepth 20000 in
theorem go_wsC : wsC.all goodWord = true := by decide +kernel
def wsLw : List Cond := .methodLink RL 132 yL_cellar :: .static yL_cellar :: .initialized RL :: wsC
theorem tb_wsLw : ∀ w ∈ wsLw, w ∈ lw_tbl := List.forall_mem_cons.mpr ⟨by decide +kernel, List.forall_mem_cons.mpr ⟨by decide +kernel, List.forall_mem_cons.mpr ⟨by decide +kernel, tb_wsC⟩⟩⟩
theorem gLw_cellar : GoodIn wsLw (va_wsS RL 132 yL_cellar wsC) := goodIn_app (goodIn_of _ (by decide +kernel)) (goodIn_sub (fun _ h => List.mem_cons_of_mem _ (List.mem_cons_of_mem _ (List.mem_cons_of_mem _ h))) go_wsC)
/-! a new object -/
theorem SN0 : SN St0 0 0 0 0 12 := by
  refine ⟨rfl, rfl, rfl, rfl, rfl, by decide, by decide, by decide, by decide, by decide, by decide, by decide, fun k hk => absurd hk (Nat.not_lt_zero k), fun k _ => rfl, fun i hi => ⟨Or.inl (if_pos hi), Or.inl rfl⟩, fun t _ => Or.inl rfl, fun t _ => rfl, fun t ht => absurd ht (Nat.not_lt_zero t), fun t ht => absurd ht (Nat.not_lt_zero t)⟩
theorem GI0 : GI St0 0 0 0 := ⟨fun k hk => absurd hk (Nat.not_lt_zero k), fun _ k _ hk => absurd hk (Nat.not_lt_zero k), fun k hk => absurd hk (Nat.not_lt_zero k), fun i hi q => absurd (show (0 : Int32) = 1 from q) (by decide), fun b hb => Or.inl (if_pos (show 2 * b < 6 by omega)), fun r hr => (by show ¬ (0 : Int32) < -1000000; decide), fun k hk => absurd hk (Nat.not_lt_zero k), rfl⟩
theorem lk_0 {D : va_G} {r0 : Nat} {ad : Nat → Nat} {w : kWd} (hC : CW D St0 ad w 0 0) (h1 : w 2101 = some (.inl (D.1 100, 60, .inl (fun _ => 0)))) (h2 : w 2102 = some (.inl (D.1 100, 6, .inl (upd (fun _ => 0) 5 12)))) (h3 : w 2103 = some (.inl (D.1 100, 61, .inl (fun _ => 0)))) : lkX D r0 0 ad w :=
  ⟨St0, 0, 0, 0, 0, 12, _, _, _, hC, SN0, GI0, Nat.le_refl _, h1, h2, h3, fun t ht => absurd ht (Nat.not_lt_zero t), ⟨rfl, rfl, rfl, rfl, rfl, rfl⟩, fun k hk => by rw [show k = 0 by omega]; rfl⟩
