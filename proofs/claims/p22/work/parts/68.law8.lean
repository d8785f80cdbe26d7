/-! the law: a cellar -/
set_option maxHeartbeats 4000000 in
set_option maxRecDepth 100000 in
/-- k_L_cellar -/
theorem k_L_cellar (l : Launch) (hnt : l.stackTraces = false) (D : va_G) (A : Nat → Prop) (ad : Nat → Nat) (w : kWd) (b L : Nat) (xs : Nat → Int32) (hL : L ≤ 260) (a0 : Nat) (ha0 : a0 ≤ 400) : Met l yL_cellar wsC ({ frames := 12, cells := 84064, slots := 641481, locals := 350 }) (kPx D A [.ref b, .int (nI a0)] ad w b L xs) (kQi D A (fun v ad' w' => v = 1)) 84064 641481 A := by
  refine Met.ofW (cc := cL_cellar) (maxL := 10) (ret := (some (.boolean))) (by decide) rfl ?_
  intro p e s m args below meth c s₁ B hml hv
  obtain ⟨rfl, ⟨hE, hW0, hI0, hA⟩, hX, hbl, hbA⟩ := hv
  have hx := B.exec
  have hb := B.bytes
  have hr := B.returns
  have hts := atoms_spec (ws := wsC) B.pre
  have hown : s.vm.findClass RL = some m.cls := findClass_of_methodNamed B.named
  have hlocks := B.notSynchronized
  have hW : kS D A s.heap ad w s.heap [] := ⟨hW0, hI0, va_S.rf, hA⟩
  have hl := lv_entry ([.ref b, .int (nI a0)]) (n := 10) (Nat.le_of_ble_eq_true rfl)
  rw [lg_entry_eq]
  generalize (lg_sl ([.ref b, .int (nI a0)]) ++ List.replicate (10 - (lg_sl ([.ref b, .int (nI a0)])).length) Slot.unset).toArray = ls at hl ⊢
  have hl : lv_has ls 10 [(0, .ref b), (1, .int (nI a0))] := hl
  have hiRX5 : ∀ w ∈ wsX50, w ∈ wsC := inC_5
  refine kk_new (ci := 6) hx hb hts hown hE hW 0 rfl hiRX5 tyX5 tyX5_ok (hts (.classLink RL 11 RX5) (by decide +kernel)) (hts (.instantiable RX5 8) (by decide +kernel)) (hts (.initialized RX5) (by decide +kernel)) (fs := [.null, .null, .null, .null, .int 0, .int 0, .int 0, .int 0]) (by intro j hj; match j, hj with | 0, _ => rfl | 1, _ => rfl | 2, _ => rfl | 3, _ => rfl | 4, _ => rfl | 5, _ => rfl | 6, _ => rfl | 7, _ => rfl) (show 0 + 1 ≤ 84064 by omega) (show 0 + 8 ≤ 641481 by omega) dL_cellar_0 (fun H5 ad1 w2 ea3 e4 hW => ?_)
  have g9 := up_s e4
  refine lv_dup hx hb dL_cellar_3 rfl ?_
  refine kk_v (va_runI (As := []) (rest := [.ref (ad1 0)]) ⟨hx, hb, hml, hown, hts⟩ (k_X5_init l D A ad1 w2 g9) (cwI 0 hts gC_X5_init rfl rfl rfl (hts (.initialized RX5) (by decide +kernel)) (hts (.methodLink RL 118 yX5_init) (by decide +kernel)) (hts (.instanceMethod yX5_init) (by decide +kernel)) rfl (by decide +kernel) ⟨Nat.le_of_ble_eq_true rfl, Nat.le_of_ble_eq_true rfl⟩) (kSt hE hW _) rfl rfl hl.1 rfl (lv_room (Nat.le_of_ble_eq_true rfl)) dL_cellar_4 ⟨show 0 + 1 + 28 ≤ 84064 by omega, show 0 + 8 + 66 ≤ 641481 by omega⟩) hW (fun ad6 w7 H10 locs hp8 hW => ?_)
  obtain ⟨hC0, hF0, h00⟩ := hp8
  have a11 : ad6 0 = ad1 0 := h00
  refine W.eq (g2 := F0 m 7 ls [.ref (ad6 0)]) (by rw [a11]) ?_
  refine lv_astore_n (lv' := [(2, .ref (ad6 0)), (0, .ref b), (1, .int (nI a0))]) hx hb dL_cellar_7 rfl hl (by decide) rfl (fun ls hl => ?_)
  refine lv_bipush (v := 60) hx hb dL_cellar_8 (by decide) ?_
  refine kk_newa (atype := .int) (ty := .int) hx hb (hts (.arrayClass .int) (by decide +kernel)) rfl hE hW 2101 0 rfl (fun h => va_nm_int h) (N' := 60) (a0 := (60, .inl (fun _ => 0))) (fun _ => rfl) (by decide) (by decide) (by decide) (show 0 + 1 + 28 + 1 ≤ 84064 by omega) (show 0 + 8 + 66 + 60 ≤ 641481 by omega) dL_cellar_10 (fun H16 ad12 w13 ea14 e15 hW => ?_)
  have hC17 := hC0.fr SN0 (fun k hk => up_n e15 (by omega)) (fun k hk => up_n ea14 (by omega))
  have a18 : ad12 0 = ad6 0 := up_n ea14 (by decide)
  rw [← a18] at hl
  have g19 := up_s e15
  refine lv_astore_n (lv' := [(3, .ref (ad12 2101)), (2, .ref (ad12 0)), (0, .ref b), (1, .int (nI a0))]) hx hb dL_cellar_12 rfl hl (by decide) rfl (fun ls hl => ?_)
  refine lv_bipush (v := 6) hx hb dL_cellar_13 (by decide) ?_
  refine kk_newa (atype := .int) (ty := .int) hx hb (hts (.arrayClass .int) (by decide +kernel)) rfl hE hW 2102 0 rfl (fun h => va_nm_int h) (N' := 6) (a0 := (6, .inl (fun _ => 0))) (fun _ => rfl) (by decide) (by decide) (by decide) (show 0 + 1 + 28 + 1 + 1 ≤ 84064 by omega) (show 0 + 8 + 66 + 60 + 6 ≤ 641481 by omega) dL_cellar_15 (fun H24 ad20 w21 ea22 e23 hW => ?_)
  have hC25 := hC17.fr SN0 (fun k hk => up_n e23 (by omega)) (fun k hk => up_n ea22 (by omega))
  have a26 : ad20 2101 = ad12 2101 := up_n ea22 (by decide)
  have a27 : ad20 0 = ad12 0 := up_n ea22 (by decide)
  rw [← a26, ← a27] at hl
  have f28 := (up_n e23 (by decide)).trans g19
  have g29 := up_s e23
  refine lv_astore (lv' := [(4, .ref (ad20 2102)), (3, .ref (ad20 2101)), (2, .ref (ad20 0)), (0, .ref b), (1, .int (nI a0))]) hx hb dL_cellar_17 hl (by decide) rfl (fun ls hl => ?_)
  refine lv_bipush (v := 61) hx hb dL_cellar_19 (by decide) ?_
  refine kk_newa (atype := .int) (ty := .int) hx hb (hts (.arrayClass .int) (by decide +kernel)) rfl hE hW 2103 0 rfl (fun h => va_nm_int h) (N' := 61) (a0 := (61, .inl (fun _ => 0))) (fun _ => rfl) (by decide) (by decide) (by decide) (show 0 + 1 + 28 + 1 + 1 + 1 ≤ 84064 by omega) (show 0 + 8 + 66 + 60 + 6 + 61 ≤ 641481 by omega) dL_cellar_21 (fun H34 ad30 w31 ea32 e33 hW => ?_)
  have hC35 := hC25.fr SN0 (fun k hk => up_n e33 (by omega)) (fun k hk => up_n ea32 (by omega))
  have a36 : ad30 2102 = ad20 2102 := up_n ea32 (by decide)
  have a37 : ad30 2101 = ad20 2101 := up_n ea32 (by decide)
  have a38 : ad30 0 = ad20 0 := up_n ea32 (by decide)
  rw [← a36, ← a37, ← a38] at hl
  have f39 := (up_n e33 (by decide)).trans f28
  have f40 := (up_n e33 (by decide)).trans g29
  have g41 := up_s e33
  refine lv_astore (lv' := [(5, .ref (ad30 2103)), (4, .ref (ad30 2102)), (3, .ref (ad30 2101)), (2, .ref (ad30 0)), (0, .ref b), (1, .int (nI a0))]) hx hb dL_cellar_23 hl (by decide) rfl (fun ls hl => ?_)
  refine lv_aload_n hx hb dL_cellar_25 rfl (lv_at hl 4 rfl) ?_
  refine lv_iload_n hx hb dL_cellar_26 rfl (lv_at hl 5 rfl) ?_
  refine lv_bipush (v := 6) hx hb dL_cellar_27 (by decide) ?_
  refine W.eq (g2 := F0 m 29 ls [.int (nI 6), .int (nI a0), .ref b]) rfl ?_
  refine kk_i (va_runS (As := [.ref b, .int (nI a0), .int (nI 6)]) (rest := []) ⟨hx, hb, hml, hown, hts⟩ (k_L_draw l hnt D A ad30 w31 b L xs (by omega) (a0) 6 (by omega) (by decide) (by decide)) (va_cwS 3 hts gC_L_draw rfl rfl rfl (by decide +kernel) ⟨Nat.le_of_ble_eq_true rfl, Nat.le_of_ble_eq_true rfl⟩) (kStx hE hW hX hbl hbA _) rfl rfl hl.1 rfl (lv_room (Nat.le_of_ble_eq_true rfl)) dL_cellar_29 ⟨show 0 + 1 + 28 + 1 + 1 + 1 + 0 ≤ 84064 by omega, show 0 + 8 + 66 + 60 + 6 + 61 + 0 ≤ 641481 by omega⟩) hW (fun r45 ad42 w43 H46 locs hp44 hW => ?_)
  obtain ⟨⟨r0, hr0, e47⟩, e48, e49⟩ := hp44
  rw [e48, e49] at hW
  subst e47
  refine lv_istore (lv' := [(6, .int (nI r0)), (5, .ref (ad30 2103)), (4, .ref (ad30 2102)), (3, .ref (ad30 2101)), (2, .ref (ad30 0)), (0, .ref b), (1, .int (nI a0))]) hx hb dL_cellar_32 hl (by decide) rfl (fun ls hl => ?_)
  refine lv_aload hx hb dL_cellar_34 (lv_at hl 2 rfl) ?_
  refine lv_iconst (v := 5) hx hb dL_cellar_36 (by decide) ?_
  refine lv_bipush (v := 12) hx hb dL_cellar_37 (by decide) ?_
  refine kk_iast hx hb hE hW f40 (by unfold vp_in; decide) dL_cellar_39 (fun H52 locs w50 e51 hW => ?_)
  rw [show Int32.toNatClampNeg 5 = 5 from rfl] at e51
  have f53 := (up_n e51 (by decide)).trans f39
  have f54 := (up_n e51 (by decide)).trans g41
  have f55 := up_s e51
  have hC56 := hC35.fr SN0 (fun k hk => up_n e51 (by omega)) (fun _ _ => rfl)
  refine lv_iconst (v := 0) hx hb dL_cellar_40 (by decide) ?_
  refine W.eq (g2 := F0 m 41 ls [.int (nI 0)]) rfl ?_
  refine lv_istore (lv' := [(7, .int (nI 0)), (6, .int (nI r0)), (5, .ref (ad30 2103)), (4, .ref (ad30 2102)), (3, .ref (ad30 2101)), (2, .ref (ad30 0)), (0, .ref b), (1, .int (nI a0))]) hx hb dL_cellar_41 hl (by decide) rfl (fun ls hl => ?_)
  have hX0 : lkX D r0 0 ad30 w50 := lk_0 hC56 f53 f55 f54
  have Lp : ∀ (d i : Nat) (ad : Nat → Nat) (w : kWd) (H : Heap) (locs : List Loc), i + d = 64 → lkX D r0 i ad w → kS D A s.heap ad w H locs → ∀ ls, lv_has ls 10 [(7, .int (nI i)), (0, .ref b), (1, .int (nI a0)), (2, .ref (ad 0)), (3, .ref (ad 2101)), (4, .ref (ad 2102)), (5, .ref (ad 2103)), (6, .int (nI r0))] → W p l e ({ frames := 12, cells := 84064, slots := 641481, locals := 350 }) s m ([.ref b, .int (nI a0)] : List Value).toArray below meth c H locs (32 + 1313 * i) (201 + 10020 * i) (MQ below (kQi D A (fun v ad' w' => v = 1)) ([.ref b, .int (nI a0)] : List Value).toArray s 84064 641481 A) (F0 m 43 ls []) := by
    intro d
    induction d with
    | zero =>
      intro i ad w H locs hi hX9 hW ls hl
      obtain rfl : i = 64 := by omega
      refine lv_iload hx hb dL_cellar_43 (lv_at hl 0 rfl) ?_
      refine lv_bipush (v := 64) hx hb dL_cellar_45 (by decide) ?_
      refine lv_icmp_ge (tgt := 146) hx hb dL_cellar_47 (by decide) (fun _ => ?_) (fun c9 => absurd (by decide) c9)
      refine lv_iconst (v := 1) hx hb dL_cellar_146 (by decide) ?_
      exact ke_z hx hb hr hlocks (show 32 + 1313 * 64 ≤ 84064 by omega) (show 201 + 10020 * 64 ≤ 641481 by omega) dL_cellar_147 (by first | exact Or.inl rfl | exact Or.inr rfl | assumption) hW (rfl)
    | succ d ih =>
      intro i ad w H locs hi hX9 hW ls hl
      obtain ⟨S, nT, nC, nD, nM, nZ, aF, cF, eF, hC, hN, hG, hq, hA1, hA2, hA3, hAF, hCF, hEF⟩ := hX9
      refine lv_iload hx hb dL_cellar_43 (lv_at hl 0 rfl) ?_
      refine lv_bipush (v := 64) hx hb dL_cellar_45 (by decide) ?_
      refine lv_icmp_ge (tgt := 146) hx hb dL_cellar_47 (by decide) (fun c9 => absurd c9 (nI_ge (a := i) (b := 64) (by omega) (by decide))) (fun _ => ?_)
      refine lv_aload_n hx hb dL_cellar_50 rfl (lv_at hl 1 rfl) ?_
      refine lv_iload_n hx hb dL_cellar_51 rfl (lv_at hl 2 rfl) ?_
      refine lv_iconst (v := 3) hx hb dL_cellar_52 (by decide) ?_
      refine lv_iload hx hb dL_cellar_53 (lv_at hl 0 rfl) ?_
      refine lv_imul hx hb dL_cellar_55 ?_
      rw [show 3 * nI i = nI (3 * i) from pk_mul 3 i]
      refine lv_iadd hx hb dL_cellar_56 ?_
      rw [show nI a0 + nI (3 * i) = nI (a0 + 3 * i) from nI_add _ _]
      refine lv_iconst (v := 2) hx hb dL_cellar_57 (by decide) ?_
      refine lv_iadd hx hb dL_cellar_58 ?_
      rw [show nI (a0 + 3 * i) + 2 = nI (a0 + 3 * i + 2) from nI_add _ 2]
      refine lv_ldc (v := 1073741824) hx hb hown (hts (.constant RL 123 (1073741824)) (by decide +kernel)) dL_cellar_59 ?_
      refine W.eq (g2 := F0 m 61 ls [.int (nI 1073741824), .int (nI (a0 + 3 * i + 2)), .ref b]) rfl ?_
      refine kk_i (va_runS (As := [.ref b, .int (nI (a0 + 3 * i + 2)), .int (nI 1073741824)]) (rest := []) ⟨hx, hb, hml, hown, hts⟩ (k_L_draw l hnt D A ad w b L xs (by omega) (a0 + 3 * i + 2) 1073741824 (by omega) (by decide) (by decide)) (va_cwS 3 hts gC_L_draw rfl rfl rfl (by decide +kernel) ⟨Nat.le_of_ble_eq_true rfl, Nat.le_of_ble_eq_true rfl⟩) (kStx hE hW hX hbl hbA _) rfl rfl hl.1 rfl (lv_room (Nat.le_of_ble_eq_true rfl)) dL_cellar_61 ⟨show 32 + 1313 * i + 0 ≤ 84064 by omega, show 201 + 10020 * i + 0 ≤ 641481 by omega⟩) hW (fun r60 ad57 w58 H61 locs hp59 hW => ?_)
      obtain ⟨⟨x8, hx8, e62⟩, e63, e64⟩ := hp59
      rw [e63, e64] at hW
      subst e62
      refine lv_istore (lv' := [(8, .int (nI x8)), (7, .int (nI i)), (0, .ref b), (1, .int (nI a0)), (2, .ref (ad 0)), (3, .ref (ad 2101)), (4, .ref (ad 2102)), (5, .ref (ad 2103)), (6, .int (nI r0))]) hx hb dL_cellar_64 hl (by decide) rfl (fun ls hl => ?_)
      refine lv_aload_n hx hb dL_cellar_66 rfl (lv_at hl 2 rfl) ?_
      refine lv_iload_n hx hb dL_cellar_67 rfl (lv_at hl 3 rfl) ?_
      refine lv_iconst (v := 3) hx hb dL_cellar_68 (by decide) ?_
      refine lv_iload hx hb dL_cellar_69 (lv_at hl 1 rfl) ?_
      refine lv_imul hx hb dL_cellar_71 ?_
      rw [show 3 * nI i = nI (3 * i) from pk_mul 3 i]
      refine lv_iadd hx hb dL_cellar_72 ?_
      rw [show nI a0 + nI (3 * i) = nI (a0 + 3 * i) from nI_add _ _]
      refine lv_iconst (v := 3) hx hb dL_cellar_73 (by decide) ?_
      refine lv_iadd hx hb dL_cellar_74 ?_
      rw [show nI (a0 + 3 * i) + 3 = nI (a0 + 3 * i + 3) from nI_add _ 3]
      refine lv_ldc (v := 1073741824) hx hb hown (hts (.constant RL 123 (1073741824)) (by decide +kernel)) dL_cellar_75 ?_
      refine W.eq (g2 := F0 m 77 ls [.int (nI 1073741824), .int (nI (a0 + 3 * i + 3)), .ref b]) rfl ?_
      refine kk_i (va_runS (As := [.ref b, .int (nI (a0 + 3 * i + 3)), .int (nI 1073741824)]) (rest := []) ⟨hx, hb, hml, hown, hts⟩ (k_L_draw l hnt D A ad w b L xs (by omega) (a0 + 3 * i + 3) 1073741824 (by omega) (by decide) (by decide)) (va_cwS 3 hts gC_L_draw rfl rfl rfl (by decide +kernel) ⟨Nat.le_of_ble_eq_true rfl, Nat.le_of_ble_eq_true rfl⟩) (kStx hE hW hX hbl hbA _) rfl rfl hl.1 rfl (lv_room (Nat.le_of_ble_eq_true rfl)) dL_cellar_77 ⟨show 32 + 1313 * i + 0 + 0 ≤ 84064 by omega, show 201 + 10020 * i + 0 + 0 ≤ 641481 by omega⟩) hW (fun r68 ad65 w66 H69 locs hp67 hW => ?_)
      obtain ⟨⟨y8, hy8, e70⟩, e71, e72⟩ := hp67
      rw [e71, e72] at hW
      subst e70
      refine lv_istore (lv' := [(9, .int (nI y8)), (8, .int (nI x8)), (7, .int (nI i)), (0, .ref b), (1, .int (nI a0)), (2, .ref (ad 0)), (3, .ref (ad 2101)), (4, .ref (ad 2102)), (5, .ref (ad 2103)), (6, .int (nI r0))]) hx hb dL_cellar_80 hl (by decide) rfl (fun ls hl => ?_)
      refine lv_aload_n hx hb dL_cellar_82 rfl (lv_at hl 5 rfl) ?_
      refine lv_iload hx hb dL_cellar_83 (lv_at hl 2 rfl) ?_
      refine lv_iconst (v := 2) hx hb dL_cellar_85 (by decide) ?_
      refine W_joinC (D := D) (A := A) (w := w) (ad := ad) (P := fun v => ∃ g, g < 23 ∧ v = nI g) (pj := 107) (rj := [.ref (ad 0)]) (lj := ls) (c1 := 32 + 1313 * i + 0 + 0 + 0) (s1 := 201 + 10020 * i + 0 + 0 + 0) (fun v9 H73 locs hv9 hW => ?_) (fun J107 => ?_)
      · obtain ⟨g, hg, rfl⟩ := hv9
        refine lv_iload hx hb dL_cellar_107 (lv_at hl 1 rfl) ?_
        refine lv_iload hx hb dL_cellar_109 (lv_at hl 0 rfl) ?_
        refine lv_aload_n hx hb dL_cellar_111 rfl (lv_at hl 6 rfl) ?_
        refine lv_aload hx hb dL_cellar_112 (lv_at hl 7 rfl) ?_
        refine lv_aload hx hb dL_cellar_114 (lv_at hl 8 rfl) ?_
        refine lv_iload hx hb dL_cellar_116 (lv_at hl 9 rfl) ?_
        refine kk_i (va_runS (As := [.ref (ad 0), .int (nI g), .int (nI x8), .int (nI y8), .ref (ad 2101), .ref (ad 2102), .ref (ad 2103), .int (nI r0)]) (rest := []) ⟨hx, hb, hml, hown, hts⟩ (k_L_step l hnt D A ad w S nT nC nD nM nZ hC hN hG aF hA1 hAF cF hA2 hCF eF hA3 r0 (by omega) hEF i hq (by omega) g x8 y8 hg hx8 hy8) (va_cwS 8 hts gC_L_step rfl rfl rfl (by decide +kernel) ⟨Nat.le_of_ble_eq_true rfl, Nat.le_of_ble_eq_true rfl⟩) (kSt hE hW _) rfl rfl hl.1 rfl (lv_room (Nat.le_of_ble_eq_true rfl)) dL_cellar_118 ⟨show 32 + 1313 * i + 0 + 0 + 0 + 393 ≤ 84064 by omega, show 201 + 10020 * i + 0 + 0 + 0 + 3120 ≤ 641481 by omega⟩) hW (fun r77 ad74 w75 H78 locs hp76 hW => ?_)
        obtain ⟨e9, hX8, h90, h91, h92, h93⟩ := hp76
        subst e9
        have a79 : ad74 0 = ad 0 := h90
        have a80 : ad74 2101 = ad 2101 := h91
        have a81 : ad74 2102 = ad 2102 := h92
        have a82 : ad74 2103 = ad 2103 := h93
        rw [← a79, ← a80, ← a81, ← a82] at hl
        refine lv_if_eq (tgt := 138) hx hb dL_cellar_121 (by decide) (fun c9 => absurd c9 (by decide)) (fun _ => ?_)
        refine lv_aload_n hx hb dL_cellar_124 rfl (lv_at hl 5 rfl) ?_
        refine lv_aload_n hx hb dL_cellar_125 rfl (lv_at hl 6 rfl) ?_
        refine lv_aload hx hb dL_cellar_126 (lv_at hl 7 rfl) ?_
        refine lv_aload hx hb dL_cellar_128 (lv_at hl 8 rfl) ?_
        refine lv_iload hx hb dL_cellar_130 (lv_at hl 9 rfl) ?_
        obtain ⟨S2, nT2, nC2, nD2, nM2, nZ2, aF2, cF2, eF2, hC2, hN2, hG2, hq2, hB1, hB2, hB3, hAF2, hCF2, hEF2⟩ := id hX8
        refine kk_i (va_runS (As := [.ref (ad74 0), .ref (ad74 2101), .ref (ad74 2102), .ref (ad74 2103), .int (nI r0)]) (rest := []) ⟨hx, hb, hml, hown, hts⟩ (k_L_isCellar l hnt D A ad74 w75 S2 nT2 nC2 nD2 nM2 nZ2 hC2 hN2 hG2 aF2 hB1 hAF2 cF2 hB2 hCF2 eF2 hB3 r0 (by omega) hEF2) (va_cwS 5 hts gC_L_isCellar rfl rfl rfl (by decide +kernel) ⟨Nat.le_of_ble_eq_true rfl, Nat.le_of_ble_eq_true rfl⟩) (kSt hE hW _) rfl rfl hl.1 rfl (lv_room (Nat.le_of_ble_eq_true rfl)) dL_cellar_132 ⟨show 32 + 1313 * i + 0 + 0 + 0 + 393 + 920 ≤ 84064 by omega, show 201 + 10020 * i + 0 + 0 + 0 + 3120 + 6900 ≤ 641481 by omega⟩) hW (fun r86 ad83 w84 H87 locs hp85 hW => ?_)
        obtain ⟨e88, e89, e90⟩ := hp85
        rw [e89, e90] at hW
        subst e88
        refine lv_if_ne (tgt := 140) hx hb dL_cellar_135 (by decide) (fun _ => ?_) (fun c9 => absurd c9 (by decide))
        refine lv_iinc (v := nI (i + 1)) (lv' := [(7, .int (nI (i + 1))), (9, .int (nI y8)), (8, .int (nI x8)), (0, .ref b), (1, .int (nI a0)), (2, .ref (ad74 0)), (3, .ref (ad74 2101)), (4, .ref (ad74 2102)), (5, .ref (ad74 2103)), (6, .int (nI r0))]) hx hb dL_cellar_140 hl (k := 2) rfl (nI_1 i) (by decide) rfl (fun ls hl => ?_)
        refine lv_goto (tgt := 43) hx hb dL_cellar_143 (by decide) ?_
        exact W_cs (c2 := 32 + 1313 * (i + 1)) (s2 := 201 + 10020 * (i + 1)) (by omega) (by omega) (ih (i + 1) ad74 w75 _ _ (by omega) hX8 hW ls (lv_sub hl [0, 3, 4, 5, 6, 7, 8, 9] rfl))
      · refine lv_icmp_ge (tgt := 93) hx hb dL_cellar_86 (by decide) (fun c91 => ?_) (fun c91 => ?_)
        · refine lv_aload_n hx hb dL_cellar_93 rfl (lv_at hl 3 rfl) ?_
          refine lv_iload_n hx hb dL_cellar_94 rfl (lv_at hl 4 rfl) ?_
          refine lv_iconst (v := 3) hx hb dL_cellar_95 (by decide) ?_
          refine lv_iload hx hb dL_cellar_96 (lv_at hl 2 rfl) ?_
          refine lv_imul hx hb dL_cellar_98 ?_
          rw [show 3 * nI i = nI (3 * i) from pk_mul 3 i]
          refine lv_iadd hx hb dL_cellar_99 ?_
          rw [show nI a0 + nI (3 * i) = nI (a0 + 3 * i) from nI_add _ _]
          refine lv_iconst (v := 1) hx hb dL_cellar_100 (by decide) ?_
          refine lv_iadd hx hb dL_cellar_101 ?_
          rw [show nI (a0 + 3 * i) + 1 = nI (a0 + 3 * i + 1) from nI_add _ 1]
          refine lv_bipush (v := 23) hx hb dL_cellar_102 (by decide) ?_
          refine W.eq (g2 := F0 m 104 ls [.int (nI 23), .int (nI (a0 + 3 * i + 1)), .ref b, .ref (ad 0)]) rfl ?_
          refine kk_i (va_runS (As := [.ref b, .int (nI (a0 + 3 * i + 1)), .int (nI 23)]) (rest := [.ref (ad 0)]) ⟨hx, hb, hml, hown, hts⟩ (k_L_draw l hnt D A ad w b L xs (by omega) (a0 + 3 * i + 1) 23 (by omega) (by decide) (by decide)) (va_cwS 3 hts gC_L_draw rfl rfl rfl (by decide +kernel) ⟨Nat.le_of_ble_eq_true rfl, Nat.le_of_ble_eq_true rfl⟩) (kStx hE hW hX hbl hbA _) rfl rfl hl.1 rfl (lv_room (Nat.le_of_ble_eq_true rfl)) dL_cellar_104 ⟨show 32 + 1313 * i + 0 + 0 + 0 ≤ 84064 by omega, show 201 + 10020 * i + 0 + 0 + 0 ≤ 641481 by omega⟩) hW (fun r95 ad92 w93 H96 locs hp94 hW => ?_)
          obtain ⟨⟨g8, hg8, e97⟩, e98, e99⟩ := hp94
          rw [e98, e99] at hW
          subst e97
          exact J107 _ _ _ _ _ (by omega) (by omega) (⟨g8, hg8, rfl⟩) hW
        · refine lv_iconst (v := 0) hx hb dL_cellar_89 (by decide) ?_
          refine lv_goto (tgt := 107) hx hb dL_cellar_90 (by decide) ?_
          exact J107 _ _ _ _ _ (by omega) (by omega) (⟨0, by decide, rfl⟩) hW
  exact W_cs (c2 := 32 + 1313 * 0) (s2 := 201 + 10020 * 0) (by omega) (by omega) (Lp 64 0 _ _ _ _ rfl hX0 hW ls (lv_sub hl [0, 6, 7, 5, 4, 3, 2, 1] rfl))

