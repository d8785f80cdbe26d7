/-! the law: reads -/
set_option maxHeartbeats 4000000 in
set_option maxRecDepth 100000 in
/-- k_L_reads2 -/
theorem k_L_reads2 (l : Launch) (hnt : l.stackTraces = false) (D : va_G) (A : Nat → Prop) (ad : Nat → Nat) (w : kWd) (S : St) (nT nC nD nM nZ : Nat) (hC : CW D S ad w nT nC) (hN : SN S nT nC nD nM nZ) (hG : GI S nT nC nM) (aF : Nat → Int32) (hA1 : w 2101 = some (.inl (D.1 100, 60, .inl aF))) (hAF : AF S nT aF) (cF : Nat → Int32) (hA2 : w 2102 = some (.inl (D.1 100, 6, .inl cF))) (hCF : CF S cF) (eF : Nat → Int32) (hA3 : w 2103 = some (.inl (D.1 100, 61, .inl eF))) (r0 : Nat) (hr0 : r0 < 12) (hEF : EF S nM r0 eF) (q9 : Nat) (hq : nC ≤ q9) (hq9 : q9 < 512) (t : Nat) (ht : t < nT) (j : Nat) (hj : j < 12) : Met l yL_reads wsL_reads ({ frames := 10, cells := 88, slots := 660, locals := 193 }) (kPc D A [.ref (ad 0), .int 2, .int (nI t), .int (nI j), .ref (ad 2101), .ref (ad 2102)] ad w) (kQi D A (fun v ad' w' => lkP D r0 q9 ad v ad' w')) 88 660 A := by
  refine Met.ofW (cc := cL_reads) (maxL := 10) (ret := (some (.boolean))) (by decide) rfl ?_
  intro p e s m args below meth c s₁ B hml hv
  obtain ⟨rfl, hE, hW0, hI0, hA⟩ := hv
  have hx := B.exec
  have hb := B.bytes
  have hr := B.returns
  have hts := atoms_spec (ws := wsL_reads) B.pre
  have hown : s.vm.findClass RL = some m.cls := findClass_of_methodNamed B.named
  have hlocks := B.notSynchronized
  have hW : kS D A s.heap ad w s.heap [] := ⟨hW0, hI0, va_S.rf, hA⟩
  have hl := lv_entry ([.ref (ad 0), .int 2, .int (nI t), .int (nI j), .ref (ad 2101), .ref (ad 2102)]) (n := 10) (Nat.le_of_ble_eq_true rfl)
  rw [lg_entry_eq]
  generalize (lg_sl ([.ref (ad 0), .int 2, .int (nI t), .int (nI j), .ref (ad 2101), .ref (ad 2102)]) ++ List.replicate (10 - (lg_sl ([.ref (ad 0), .int 2, .int (nI t), .int (nI j), .ref (ad 2101), .ref (ad 2102)])).length) Slot.unset).toArray = ls at hl ⊢
  have hl : lv_has ls 10 [(0, .ref (ad 0)), (1, .int 2), (2, .int (nI t)), (3, .int (nI j)), (4, .ref (ad 2101)), (5, .ref (ad 2102))] := hl
  have h60 := hN.2.2.2.2.2.1
  have h30 := hN.2.2.2.2.2.2.2.2.2.2.1
  have hM9 : nM ≤ 60 := Nat.le_trans hG.le h60
  have hb3 : j / 4 < 3 := by omega
  have hrr := roP_j hj
  have hM3 := hN.2.2.2.2.2.2.2.2.1
  refine lv_aload_n hx hb dL_reads_0 rfl (lv_at hl 0 rfl) ?_
  refine lv_aload hx hb dL_reads_1 (lv_at hl 4 rfl) ?_
  refine lv_iload_n hx hb dL_reads_3 rfl (lv_at hl 3 rfl) ?_
  refine lv_iconst (v := 4) hx hb dL_reads_4 (by decide) ?_
  refine lv_idiv hx hb dL_reads_5 (by decide) ?_
  rw [show nI j / 4 = nI (j / 4) from pk_div (a := j) (d := 4) (by omega) (by omega) (by omega)]
  refine kk_i (va_runS (As := [.ref (ad 0), .ref (ad 2101), .int (nI (j / 4))]) (rest := []) ⟨hx, hb, hml, hown, hts⟩ (k_L_dirty l hnt D A ad w S nT nC nD nM nZ hC hN aF hA1 hAF (j / 4) hb3) (va_cwS 3 hts gL_reads_L_dirty rfl rfl rfl (by decide +kernel) ⟨Nat.le_of_ble_eq_true rfl, Nat.le_of_ble_eq_true rfl⟩) (kSt hE hW _) rfl rfl hl.1 rfl (lv_room (Nat.le_of_ble_eq_true rfl)) dL_reads_6 ⟨show 0 + 32 ≤ 88 by omega, show 0 + 240 ≤ 660 by omega⟩) hW (fun r4 ad1 w2 H5 locs hp3 hW => ?_)
  obtain ⟨e6, e7, e8⟩ := hp3
  rw [e7, e8] at hW
  subst e6
  refine lv_istore (lv' := [(6, .int (dyN S (j / 4))), (0, .ref (ad 0)), (1, .int 2), (2, .int (nI t)), (3, .int (nI j)), (4, .ref (ad 2101)), (5, .ref (ad 2102))]) hx hb dL_reads_9 hl (by decide) rfl (fun ls hl => ?_)
  refine lv_iload_n hx hb dL_reads_11 rfl (lv_at hl 2 rfl) ?_
  refine lv_iconst (v := 3) hx hb dL_reads_12 (by decide) ?_
  refine lv_icmp_eq (tgt := 25) hx hb dL_reads_13 (by decide) (fun c9 => absurd c9 (by decide)) (fun _ => ?_)
  refine lv_aload hx hb dL_reads_16 (lv_at hl 5 rfl) ?_
  refine lv_iload_n hx hb dL_reads_18 rfl (lv_at hl 3 rfl) ?_
  refine kk_i (va_runS (As := [.ref (ad 2101), .int (nI t)]) (rest := []) ⟨hx, hb, hml, hown, hts⟩ (k_L_isActive l hnt D A ad w S nT nC nD nM nZ hN aF hA1 hAF ((nI t)) (Or.inr ⟨t, ht, rfl⟩)) (va_cwS 2 hts gL_reads_L_isActive rfl rfl rfl (by decide +kernel) ⟨Nat.le_of_ble_eq_true rfl, Nat.le_of_ble_eq_true rfl⟩) (kSt hE hW _) rfl rfl hl.1 rfl (lv_room (Nat.le_of_ble_eq_true rfl)) dL_reads_19 ⟨show 0 + 32 + 0 ≤ 88 by omega, show 0 + 240 + 0 ≤ 660 by omega⟩) hW (fun r12 ad9 w10 H13 locs hp11 hW => ?_)
  obtain ⟨e14, e15, e16⟩ := hp11
  rw [e15, e16] at hW
  subst e14
  by_cases ha : S 1 t = 0
  · rw [show isA S (nI t) = 1 from by rw [isA_t (show t < 60 by omega)]; exact bI_1 ha]
    refine lv_if_eq (tgt := 29) hx hb dL_reads_22 (by decide) (fun c9 => absurd c9 (by decide)) (fun _ => ?_)
    refine lv_iconst (v := 1) hx hb dL_reads_25 (by decide) ?_
    refine lv_goto (tgt := 30) hx hb dL_reads_26 (by decide) ?_
    refine lv_istore (lv' := [(7, .int 1), (6, .int (dyN S (j / 4))), (0, .ref (ad 0)), (1, .int 2), (2, .int (nI t)), (3, .int (nI j)), (4, .ref (ad 2101)), (5, .ref (ad 2102))]) hx hb dL_reads_30 hl (by decide) rfl (fun ls hl => ?_)
    refine lv_iload hx hb dL_reads_32 (lv_at hl 0 rfl) ?_
    refine lv_if_ne (tgt := 41) hx hb dL_reads_34 (by decide) (fun _ => ?_) (fun c9 => absurd c9 (by decide))
    refine lv_iload_n hx hb dL_reads_41 rfl (lv_at hl 3 rfl) ?_
    refine lv_iconst (v := 3) hx hb dL_reads_42 (by decide) ?_
    refine lv_icmp_ne (tgt := 55) hx hb dL_reads_43 (by decide) (fun _ => ?_) (fun c9 => absurd c9 (by decide))
    refine lv_aload_n hx hb dL_reads_55 rfl (lv_at hl 2 rfl) ?_
    refine lv_iload_n hx hb dL_reads_56 rfl (lv_at hl 5 rfl) ?_
    refine kx_i (vx_runV (As := [.int (nI j)]) (rest := []) ⟨hx, hb, hml, hown, hts⟩ (k_X5_lockOf l hnt D A ad w S nT nC nD nM nZ hC hN (nI j)) (cwV 1 hts gL_reads_X5_lockOf rfl rfl rfl (by decide +kernel) ⟨Nat.le_of_ble_eq_true rfl, Nat.le_of_ble_eq_true rfl⟩) (kV hE hW hC.u rfl _) rfl rfl hl.1 rfl (lv_room (Nat.le_of_ble_eq_true rfl)) dL_reads_57 ⟨show 0 + 32 + 0 + 8 ≤ 88 by omega, show 0 + 240 + 0 + 60 ≤ 660 by omega⟩) hW (fun E ce q9 H locs hpx _ _ _ _ => (nf_ro (j := j) hj hpx).elim) (fun r20 ad17 w18 H21 locs hp19 hW => ?_)
    obtain ⟨e22, -, e23, e24⟩ := hp19
    rw [e23, e24] at hW
    subst e22
    refine lv_iload_n hx hb dL_reads_60 rfl (lv_at hl 4 rfl) ?_
    refine W_joinC (D := D) (A := A) (w := w) (ad := ad) (P := fun v => v = (vaV S (S 2 t) (nI j) (nI t)).1) (pj := 83) (rj := []) (lj := ls) (c1 := 0 + 32 + 0 + 8 + 8) (s1 := 0 + 240 + 0 + 60 + 60) (fun v9 H25 locs hv9 hW => ?_) (fun J83 => ?_)
    · subst hv9
      refine lv_istore (lv' := [(8, .int ((vaV S (S 2 t) (nI j) (nI t)).1)), (7, .int 1), (6, .int (dyN S (j / 4))), (0, .ref (ad 0)), (1, .int 2), (2, .int (nI t)), (3, .int (nI j)), (4, .ref (ad 2101)), (5, .ref (ad 2102))]) hx hb dL_reads_83 hl (by decide) rfl (fun ls hl => ?_)
      refine lv_aload_n hx hb dL_reads_85 rfl (lv_at hl 3 rfl) ?_
      refine lv_iload_n hx hb dL_reads_86 rfl (lv_at hl 4 rfl) ?_
      refine lv_iload_n hx hb dL_reads_87 rfl (lv_at hl 5 rfl) ?_
      refine lv_iload_n hx hb dL_reads_88 rfl (lv_at hl 6 rfl) ?_
      refine lv_iconst (v := 0) hx hb dL_reads_89 (by decide) ?_
      refine kk_i (vx_runSW (As := [.ref (ad 0), .int 2, .int (nI t), .int (nI j), .int 0]) (rest := []) ⟨hx, hb, hml, hown, hts⟩ (k_asks_read l hnt D A ad w S nT nC nD nM nZ hC hN (nI t) (nI j) 0) (vx_cwSW 5 hts gL_reads_L_asks rfl rfl rfl (by decide +kernel) ⟨Nat.le_of_ble_eq_true rfl, Nat.le_of_ble_eq_true rfl⟩) (kSt hE hW _) rfl rfl hl.1 rfl (lv_room (Nat.le_of_ble_eq_true rfl)) dL_reads_90 ⟨show 0 + 32 + 0 + 8 + 8 + 8 ≤ 88 by omega, show 0 + 240 + 0 + 60 + 60 + 60 ≤ 660 by omega⟩) hW (fun r29 ad26 w27 H30 locs hp28 hW => ?_)
      have hK9 := (r1K_t hN ht hj).1 ha
      rcases hp28 with ⟨e1, e0, hk, e3, hC2, hF⟩ | ⟨hE9, e3, e4⟩
      · rw [e3] at hW
        rw [show nv (nI j) / 4 = j / 4 by rw [nvR hj]] at hC2
        subst e1
        rw [show (vaV S (S 2 (nv (nI t))) (nI j) (nI t)).1 = (vaV S (S 2 t) (nI j) (nI t)).1 from by rw [nvT (show t < 60 by omega)]]
        have f31 := (hF 2101 (by decide)).1.trans hA1
        have f32 := (hF 2102 (by decide)).1.trans hA2
        have f33 := (hF 2103 (by decide)).1.trans hA3
        refine lv_istore (lv' := [(9, .int ((vaV S (S 2 t) (nI j) (nI t)).1)), (8, .int ((vaV S (S 2 t) (nI j) (nI t)).1)), (7, .int 1), (6, .int (dyN S (j / 4))), (0, .ref (ad 0)), (1, .int 2), (2, .int (nI t)), (3, .int (nI j)), (4, .ref (ad 2101)), (5, .ref (ad 2102))]) hx hb dL_reads_93 hl (by decide) rfl (fun ls hl => ?_)
        refine lv_iload hx hb dL_reads_95 (lv_at hl 2 rfl) ?_
        refine lv_if_ne (tgt := 124) hx hb dL_reads_97 (by decide) (fun _ => ?_) (fun c9 => absurd c9 (by decide))
        refine lv_iload hx hb dL_reads_124 (lv_at hl 0 rfl) ?_
        refine lv_ldc (v := (-9000010)) hx hb hown (hts (.constant RL 54 ((-9000010))) (by decide +kernel)) dL_reads_126 ?_
        refine lv_icmp_ne (tgt := 155) hx hb dL_reads_128 (by decide) (fun _ => ?_) (fun c9 => absurd c9 (vOK_10 (rd_ok hN hG ht ha hj)))
        refine lv_aload hx hb dL_reads_155 (lv_at hl 9 rfl) ?_
        refine lv_iconst (v := 4) hx hb dL_reads_157 (by decide) ?_
        refine lv_dup2_11 hx hb dL_reads_158 rfl rfl ?_
        refine kk_iald hx hb hE hW f32 (by unfold vp_in; decide) dL_reads_159 ?_
        rw [show cF (nv 4) = cF 4 from rfl]
        refine lv_iload hx hb dL_reads_160 (lv_at hl 3 rfl) ?_
        refine lv_iadd hx hb dL_reads_162 ?_
        refine kk_iast hx hb hE hW f32 (by unfold vp_in; decide) dL_reads_163 (fun H36 locs w34 e35 hW => ?_)
        rw [show Int32.toNatClampNeg 4 = 4 from rfl] at e35
        have f37 := (up_n e35 (by decide)).trans f31
        have f38 := (up_n e35 (by decide)).trans f33
        have f39 := up_s e35
        have hC40 := hC2.fr (hN.cl (j / 4)) (fun k hk => up_n e35 (by omega)) (fun _ _ => rfl)
        refine lv_iload hx hb dL_reads_164 (lv_at hl 0 rfl) ?_
        refine lv_iload hx hb dL_reads_166 (lv_at hl 1 rfl) ?_
        refine lv_icmp_ne (tgt := 187) hx hb dL_reads_168 (by decide) (fun c9 => absurd (rfl) c9) (fun _ => ?_)
        refine lv_aload_n hx hb dL_reads_171 rfl (lv_at hl 4 rfl) ?_
        refine lv_aload hx hb dL_reads_172 (lv_at hl 8 rfl) ?_
        refine lv_iload_n hx hb dL_reads_174 rfl (lv_at hl 7 rfl) ?_
        refine lv_iconst (v := 4) hx hb dL_reads_175 (by decide) ?_
        refine lv_idiv hx hb dL_reads_176 (by decide) ?_
        rw [show nI j / 4 = nI (j / 4) from pk_div (a := j) (d := 4) (by omega) (by omega) (by omega)]
        refine kk_i (va_runS (As := [.ref (ad 0), .ref (ad 2101), .int (nI (j / 4))]) (rest := []) ⟨hx, hb, hml, hown, hts⟩ (k_L_isClean l hnt D A ad w34 (cleanS S (j / 4)) nT nC nD nM nZ hC40 (hN.cl (j / 4)) aF f37 (hAF.cl (j / 4)) (j / 4) hb3 (clean_end S _ (Or.inl rfl)) (clean_end S _ (Or.inr rfl))) (va_cwS 3 hts gL_reads_L_isClean rfl rfl rfl (by decide +kernel) ⟨Nat.le_of_ble_eq_true rfl, Nat.le_of_ble_eq_true rfl⟩) (kSt hE hW _) rfl rfl hl.1 rfl (lv_room (Nat.le_of_ble_eq_true rfl)) dL_reads_177 ⟨show 0 + 32 + 0 + 8 + 8 + 8 + 32 ≤ 88 by omega, show 0 + 240 + 0 + 60 + 60 + 60 + 240 ≤ 660 by omega⟩) hW (fun r44 ad41 w42 H45 locs hp43 hW => ?_)
        obtain ⟨e46, e47, e48⟩ := hp43
        rw [e47, e48] at hW
        subst e46
        refine lv_if_eq (tgt := 187) hx hb dL_reads_180 (by decide) (fun c9 => absurd c9 (by decide)) (fun _ => ?_)
        refine lv_iconst (v := 1) hx hb dL_reads_183 (by decide) ?_
        refine lv_goto (tgt := 188) hx hb dL_reads_184 (by decide) ?_
        exact ke_z hx hb hr hlocks (show 0 + 32 + 0 + 8 + 8 + 8 + 32 ≤ 88 by omega) (show 0 + 240 + 0 + 60 + 60 + 60 + 240 ≤ 660 by omega) dL_reads_188 (by first | exact Or.inl rfl | exact Or.inr rfl | assumption) hW (⟨rfl, ⟨cleanS S (j / 4), nT, nC, nD, nM, nZ, aF, (upd (cF) 4 ((cF 4) + (dyN S (j / 4)))), eF, hC40, hN.cl _, hG.cl _, by omega, f37, f39, f38, hAF.cl _, hCF.cl _ rfl, hEF.cl _⟩, rfl, rfl, rfl, rfl⟩)
      · rcases hE9 with ⟨-, hk⟩ | ⟨rfl, hk⟩ | ⟨rfl, hk, hl9⟩
        · exact absurd (hK9.symm.trans hk) (by decide)
        · exact absurd (hK9.symm.trans hk) (by decide)
        · rw [e3, e4] at hW
          refine lv_istore (lv' := [(9, .int (-9000010)), (8, .int ((vaV S (S 2 t) (nI j) (nI t)).1)), (7, .int 1), (6, .int (dyN S (j / 4))), (0, .ref (ad 0)), (1, .int 2), (2, .int (nI t)), (3, .int (nI j)), (4, .ref (ad 2101)), (5, .ref (ad 2102))]) hx hb dL_reads_93 hl (by decide) rfl (fun ls hl => ?_)
          refine lv_iload hx hb dL_reads_95 (lv_at hl 2 rfl) ?_
          refine lv_if_ne (tgt := 124) hx hb dL_reads_97 (by decide) (fun _ => ?_) (fun c9 => absurd c9 (by decide))
          refine lv_iload hx hb dL_reads_124 (lv_at hl 0 rfl) ?_
          refine lv_ldc (v := (-9000010)) hx hb hown (hts (.constant RL 54 ((-9000010))) (by decide +kernel)) dL_reads_126 ?_
          refine lv_icmp_ne (tgt := 155) hx hb dL_reads_128 (by decide) (fun c9 => absurd (rfl) c9) (fun _ => ?_)
          refine lv_aload hx hb dL_reads_131 (lv_at hl 9 rfl) ?_
          refine lv_iconst (v := 3) hx hb dL_reads_133 (by decide) ?_
          refine kk_iald hx hb hE hW hA2 (by unfold vp_in; decide) dL_reads_134 ?_
          rw [show cF (nv 3) = nI nD from hCF.2.2.2.1.trans hN.2.2.1]
          refine lv_if_le (tgt := 153) hx hb dL_reads_135 (by decide) (fun c9 => absurd c9 (nI_nle (late_D hN hj hl9) (by have := hN.2.2.2.2.2.2.1; have := hN.2.2.2.2.2.2.2.1; omega))) (fun _ => ?_)
          refine lv_aload_n hx hb dL_reads_138 rfl (lv_at hl 4 rfl) ?_
          refine kk_i (va_runV (As := []) (rest := []) ⟨hx, hb, hml, hown, hts⟩ (k_X5_marked l D A ad w S nT nC nD nM nZ hC hN) (cwV 0 hts gL_reads_X5_marked rfl rfl rfl (by decide +kernel) ⟨Nat.le_of_ble_eq_true rfl, Nat.le_of_ble_eq_true rfl⟩) (kV hE hW hC.u rfl _) rfl rfl hl.1 rfl (lv_room (Nat.le_of_ble_eq_true rfl)) dL_reads_139 ⟨show 0 + 32 + 0 + 8 + 8 + 8 + 0 ≤ 88 by omega, show 0 + 240 + 0 + 60 + 60 + 60 + 0 ≤ 660 by omega⟩) hW (fun r52 ad49 w50 H53 locs hp51 hW => ?_)
          obtain ⟨e54, e55, e56⟩ := hp51
          rw [e55, e56] at hW
          subst e54
          refine lv_aload hx hb dL_reads_142 (lv_at hl 9 rfl) ?_
          refine lv_iconst (v := 4) hx hb dL_reads_144 (by decide) ?_
          refine kk_iald hx hb hE hW hA2 (by unfold vp_in; decide) dL_reads_145 ?_
          rw [show cF (nv 4) = S 15 0 from hCF.2.2.2.2.1]
          refine lv_icmp_ne (tgt := 153) hx hb dL_reads_146 (by decide) (fun c9 => absurd (rfl) c9) (fun _ => ?_)
          refine lv_iconst (v := 1) hx hb dL_reads_149 (by decide) ?_
          refine lv_goto (tgt := 154) hx hb dL_reads_150 (by decide) ?_
          exact ke_z hx hb hr hlocks (show 0 + 32 + 0 + 8 + 8 + 8 + 0 ≤ 88 by omega) (show 0 + 240 + 0 + 60 + 60 + 60 + 0 ≤ 660 by omega) dL_reads_154 (by first | exact Or.inl rfl | exact Or.inr rfl | assumption) hW (⟨rfl, ⟨S, nT, nC, nD, nM, nZ, aF, cF, eF, hC, hN, hG, by omega, hA1, hA2, hA3, hAF, hCF, hEF⟩, rfl, rfl, rfl, rfl⟩)
    · obtain ⟨mm, hm, em⟩ := hN.be ht
      refine lv_icmp_ne (tgt := 72) hx hb dL_reads_61 (by decide) (fun c57 => ?_) (fun c57 => ?_)
      · refine lv_aload_n hx hb dL_reads_72 rfl (lv_at hl 2 rfl) ?_
        refine lv_aload hx hb dL_reads_73 (lv_at hl 6 rfl) ?_
        refine lv_iload_n hx hb dL_reads_75 rfl (lv_at hl 4 rfl) ?_
        refine kk_iald hx hb hE hW hA1 (vp_in_nI (show t < 60 by omega) (by decide)) dL_reads_76 ?_
        rw [show aF (nv (nI t)) = aF t from by rw [show nv (nI t) = t from nI_clamp (by omega)]]
        refine lv_iconst (v := 4) hx hb dL_reads_77 (by decide) ?_
        refine lv_idiv hx hb dL_reads_78 (by decide) ?_
        rw [show aF t / 4 = nI mm from (hAF.div hN ht).trans em]
        refine lv_iload_n hx hb dL_reads_79 rfl (lv_at hl 5 rfl) ?_
        refine kx_i (vx_runV (As := [.int (nI mm), .int (nI j)]) (rest := []) ⟨hx, hb, hml, hown, hts⟩ (k_X5_versionAt l hnt D A ad w S nT nC nD nM nZ hC hN (nI mm) (nI j)) (cwV 2 hts gL_reads_X5_versionAt rfl rfl rfl (by decide +kernel) ⟨Nat.le_of_ble_eq_true rfl, Nat.le_of_ble_eq_true rfl⟩) (kV hE hW hC.u rfl _) rfl rfl hl.1 rfl (lv_room (Nat.le_of_ble_eq_true rfl)) dL_reads_80 ⟨show 0 + 32 + 0 + 8 + 8 ≤ 88 by omega, show 0 + 240 + 0 + 60 + 60 ≤ 660 by omega⟩) hW (fun E ce q9 H locs hpx _ _ _ _ => (nf_vr hN (a := mm) (j := j) hm hj hpx).elim) (fun r61 ad58 w59 H62 locs hp60 hW => ?_)
        obtain ⟨e63, -, e64, e65⟩ := hp60
        rw [e64, e65] at hW
        subst e63
        rw [show (vaV S (nI mm) (nI j) (-1)).1 = verV S (nI mm) (nI j) from vaV_ver hN]
        exact J83 _ _ _ _ _ (by omega) (by omega) (by rw [ver_read hN hG ht ha hj, if_neg c57, em]) hW
      · refine lv_aload_n hx hb dL_reads_64 rfl (lv_at hl 2 rfl) ?_
        refine lv_iload_n hx hb dL_reads_65 rfl (lv_at hl 5 rfl) ?_
        refine kx_i (vx_runV (As := [.int (nI j)]) (rest := []) ⟨hx, hb, hml, hown, hts⟩ (k_X5_now l hnt D A ad w S nT nC nD nM nZ hC hN (nI j)) (cwV 1 hts gL_reads_X5_now rfl rfl rfl (by decide +kernel) ⟨Nat.le_of_ble_eq_true rfl, Nat.le_of_ble_eq_true rfl⟩) (kV hE hW hC.u rfl _) rfl rfl hl.1 rfl (lv_room (Nat.le_of_ble_eq_true rfl)) dL_reads_66 ⟨show 0 + 32 + 0 + 8 + 8 ≤ 88 by omega, show 0 + 240 + 0 + 60 + 60 ≤ 660 by omega⟩) hW (fun E ce q9 H locs hpx _ _ _ _ => (nf_ro (j := j) hj hpx).elim) (fun r69 ad66 w67 H70 locs hp68 hW => ?_)
        obtain ⟨e71, -, e72, e73⟩ := hp68
        rw [e72, e73] at hW
        subst e71
        rw [show S 0 (nv (nI j)) = S 0 j from by rw [show nv (nI j) = j from nI_clamp (by omega)]]
        refine lv_goto (tgt := 83) hx hb dL_reads_69 (by decide) ?_
        exact J83 _ _ _ _ _ (by omega) (by omega) (by rw [ver_read hN hG ht ha hj, if_pos c57]) hW
  · rw [show isA S (nI t) = 0 from by rw [isA_t (show t < 60 by omega)]; exact bI_0 ha]
    refine lv_if_eq (tgt := 29) hx hb dL_reads_22 (by decide) (fun _ => ?_) (fun c9 => absurd (rfl) c9)
    refine lv_iconst (v := 0) hx hb dL_reads_29 (by decide) ?_
    refine lv_istore (lv' := [(7, .int 0), (6, .int (dyN S (j / 4))), (0, .ref (ad 0)), (1, .int 2), (2, .int (nI t)), (3, .int (nI j)), (4, .ref (ad 2101)), (5, .ref (ad 2102))]) hx hb dL_reads_30 hl (by decide) rfl (fun ls hl => ?_)
    refine lv_iload hx hb dL_reads_32 (lv_at hl 0 rfl) ?_
    refine lv_if_ne (tgt := 41) hx hb dL_reads_34 (by decide) (fun c9 => absurd (rfl) c9) (fun _ => ?_)
    refine lv_iconst (v := 0) hx hb dL_reads_37 (by decide) ?_
    refine lv_goto (tgt := 83) hx hb dL_reads_38 (by decide) ?_
    refine lv_istore (lv' := [(8, .int 0), (7, .int 0), (6, .int (dyN S (j / 4))), (0, .ref (ad 0)), (1, .int 2), (2, .int (nI t)), (3, .int (nI j)), (4, .ref (ad 2101)), (5, .ref (ad 2102))]) hx hb dL_reads_83 hl (by decide) rfl (fun ls hl => ?_)
    refine lv_aload_n hx hb dL_reads_85 rfl (lv_at hl 3 rfl) ?_
    refine lv_iload_n hx hb dL_reads_86 rfl (lv_at hl 4 rfl) ?_
    refine lv_iload_n hx hb dL_reads_87 rfl (lv_at hl 5 rfl) ?_
    refine lv_iload_n hx hb dL_reads_88 rfl (lv_at hl 6 rfl) ?_
    refine lv_iconst (v := 0) hx hb dL_reads_89 (by decide) ?_
    refine kk_i (vx_runSW (As := [.ref (ad 0), .int 2, .int (nI t), .int (nI j), .int 0]) (rest := []) ⟨hx, hb, hml, hown, hts⟩ (k_asks_read l hnt D A ad w S nT nC nD nM nZ hC hN (nI t) (nI j) 0) (vx_cwSW 5 hts gL_reads_L_asks rfl rfl rfl (by decide +kernel) ⟨Nat.le_of_ble_eq_true rfl, Nat.le_of_ble_eq_true rfl⟩) (kSt hE hW _) rfl rfl hl.1 rfl (lv_room (Nat.le_of_ble_eq_true rfl)) dL_reads_90 ⟨show 0 + 32 + 0 + 8 ≤ 88 by omega, show 0 + 240 + 0 + 60 ≤ 660 by omega⟩) hW (fun r77 ad74 w75 H78 locs hp76 hW => ?_)
    have hK9 := (r1K_t hN ht hj).2 ha
    rcases hp76 with ⟨e1, e0, hk, e3, hC2, hF⟩ | ⟨hE9, e3, e4⟩
    · exact absurd (hK9.symm.trans hk) (by decide)
    · rcases hE9 with ⟨-, hk⟩ | ⟨rfl, hk⟩ | ⟨rfl, hk, hl9⟩
      · exact absurd (hK9.symm.trans hk) (by decide)
      · rw [e3, e4] at hW
        refine lv_istore (lv' := [(9, .int (-9000008)), (8, .int 0), (7, .int 0), (6, .int (dyN S (j / 4))), (0, .ref (ad 0)), (1, .int 2), (2, .int (nI t)), (3, .int (nI j)), (4, .ref (ad 2101)), (5, .ref (ad 2102))]) hx hb dL_reads_93 hl (by decide) rfl (fun ls hl => ?_)
        refine lv_iload hx hb dL_reads_95 (lv_at hl 2 rfl) ?_
        refine lv_if_ne (tgt := 124) hx hb dL_reads_97 (by decide) (fun c9 => absurd (rfl) c9) (fun _ => ?_)
        refine lv_iload hx hb dL_reads_100 (lv_at hl 0 rfl) ?_
        refine lv_ldc (v := (-9000008)) hx hb hown (hts (.constant RL 48 ((-9000008))) (by decide +kernel)) dL_reads_102 ?_
        refine lv_icmp_ne (tgt := 122) hx hb dL_reads_104 (by decide) (fun c9 => absurd (rfl) c9) (fun _ => ?_)
        refine lv_aload_n hx hb dL_reads_107 rfl (lv_at hl 4 rfl) ?_
        refine kk_i (va_runV (As := []) (rest := []) ⟨hx, hb, hml, hown, hts⟩ (k_X5_marked l D A ad w S nT nC nD nM nZ hC hN) (cwV 0 hts gL_reads_X5_marked rfl rfl rfl (by decide +kernel) ⟨Nat.le_of_ble_eq_true rfl, Nat.le_of_ble_eq_true rfl⟩) (kV hE hW hC.u rfl _) rfl rfl hl.1 rfl (lv_room (Nat.le_of_ble_eq_true rfl)) dL_reads_108 ⟨show 0 + 32 + 0 + 8 + 0 ≤ 88 by omega, show 0 + 240 + 0 + 60 + 0 ≤ 660 by omega⟩) hW (fun r82 ad79 w80 H83 locs hp81 hW => ?_)
        obtain ⟨e84, e85, e86⟩ := hp81
        rw [e85, e86] at hW
        subst e84
        refine lv_aload hx hb dL_reads_111 (lv_at hl 9 rfl) ?_
        refine lv_iconst (v := 4) hx hb dL_reads_113 (by decide) ?_
        refine kk_iald hx hb hE hW hA2 (by unfold vp_in; decide) dL_reads_114 ?_
        rw [show cF (nv 4) = S 15 0 from hCF.2.2.2.2.1]
        refine lv_icmp_ne (tgt := 122) hx hb dL_reads_115 (by decide) (fun c9 => absurd (rfl) c9) (fun _ => ?_)
        refine lv_iconst (v := 1) hx hb dL_reads_118 (by decide) ?_
        refine lv_goto (tgt := 123) hx hb dL_reads_119 (by decide) ?_
        exact ke_z hx hb hr hlocks (show 0 + 32 + 0 + 8 + 0 ≤ 88 by omega) (show 0 + 240 + 0 + 60 + 0 ≤ 660 by omega) dL_reads_123 (by first | exact Or.inl rfl | exact Or.inr rfl | assumption) hW (⟨rfl, ⟨S, nT, nC, nD, nM, nZ, aF, cF, eF, hC, hN, hG, by omega, hA1, hA2, hA3, hAF, hCF, hEF⟩, rfl, rfl, rfl, rfl⟩)
      · exact absurd (hK9.symm.trans hk) (by decide)

set_option maxHeartbeats 4000000 in
set_option maxRecDepth 100000 in
/-- k_L_reads3 -/
theorem k_L_reads3 (l : Launch) (hnt : l.stackTraces = false) (D : va_G) (A : Nat → Prop) (ad : Nat → Nat) (w : kWd) (S : St) (nT nC nD nM nZ : Nat) (hC : CW D S ad w nT nC) (hN : SN S nT nC nD nM nZ) (hG : GI S nT nC nM) (aF : Nat → Int32) (hA1 : w 2101 = some (.inl (D.1 100, 60, .inl aF))) (hAF : AF S nT aF) (cF : Nat → Int32) (hA2 : w 2102 = some (.inl (D.1 100, 6, .inl cF))) (hCF : CF S cF) (eF : Nat → Int32) (hA3 : w 2103 = some (.inl (D.1 100, 61, .inl eF))) (r0 : Nat) (hr0 : r0 < 12) (hEF : EF S nM r0 eF) (q9 : Nat) (hq : nC ≤ q9) (hq9 : q9 < 512) (mo : Nat) (hmo : mo ≤ nM) (j : Nat) (hj : j < 12) : Met l yL_reads wsL_reads ({ frames := 10, cells := 88, slots := 660, locals := 193 }) (kPc D A [.ref (ad 0), .int 3, .int (nI mo), .int (nI j), .ref (ad 2101), .ref (ad 2102)] ad w) (kQi D A (fun v ad' w' => lkP D r0 q9 ad v ad' w')) 88 660 A := by
  refine Met.ofW (cc := cL_reads) (maxL := 10) (ret := (some (.boolean))) (by decide) rfl ?_
  intro p e s m args below meth c s₁ B hml hv
  obtain ⟨rfl, hE, hW0, hI0, hA⟩ := hv
  have hx := B.exec
  have hb := B.bytes
  have hr := B.returns
  have hts := atoms_spec (ws := wsL_reads) B.pre
  have hown : s.vm.findClass RL = some m.cls := findClass_of_methodNamed B.named
  have hlocks := B.notSynchronized
  have hW : kS D A s.heap ad w s.heap [] := ⟨hW0, hI0, va_S.rf, hA⟩
  have hl := lv_entry ([.ref (ad 0), .int 3, .int (nI mo), .int (nI j), .ref (ad 2101), .ref (ad 2102)]) (n := 10) (Nat.le_of_ble_eq_true rfl)
  rw [lg_entry_eq]
  generalize (lg_sl ([.ref (ad 0), .int 3, .int (nI mo), .int (nI j), .ref (ad 2101), .ref (ad 2102)]) ++ List.replicate (10 - (lg_sl ([.ref (ad 0), .int 3, .int (nI mo), .int (nI j), .ref (ad 2101), .ref (ad 2102)])).length) Slot.unset).toArray = ls at hl ⊢
  have hl : lv_has ls 10 [(0, .ref (ad 0)), (1, .int 3), (2, .int (nI mo)), (3, .int (nI j)), (4, .ref (ad 2101)), (5, .ref (ad 2102))] := hl
  have h60 := hN.2.2.2.2.2.1
  have h30 := hN.2.2.2.2.2.2.2.2.2.2.1
  have hM9 : nM ≤ 60 := Nat.le_trans hG.le h60
  have hb3 : j / 4 < 3 := by omega
  have hrr := roP_j hj
  have hM3 := hN.2.2.2.2.2.2.2.2.1
  refine lv_aload_n hx hb dL_reads_0 rfl (lv_at hl 0 rfl) ?_
  refine lv_aload hx hb dL_reads_1 (lv_at hl 4 rfl) ?_
  refine lv_iload_n hx hb dL_reads_3 rfl (lv_at hl 3 rfl) ?_
  refine lv_iconst (v := 4) hx hb dL_reads_4 (by decide) ?_
  refine lv_idiv hx hb dL_reads_5 (by decide) ?_
  rw [show nI j / 4 = nI (j / 4) from pk_div (a := j) (d := 4) (by omega) (by omega) (by omega)]
  refine kk_i (va_runS (As := [.ref (ad 0), .ref (ad 2101), .int (nI (j / 4))]) (rest := []) ⟨hx, hb, hml, hown, hts⟩ (k_L_dirty l hnt D A ad w S nT nC nD nM nZ hC hN aF hA1 hAF (j / 4) hb3) (va_cwS 3 hts gL_reads_L_dirty rfl rfl rfl (by decide +kernel) ⟨Nat.le_of_ble_eq_true rfl, Nat.le_of_ble_eq_true rfl⟩) (kSt hE hW _) rfl rfl hl.1 rfl (lv_room (Nat.le_of_ble_eq_true rfl)) dL_reads_6 ⟨show 0 + 32 ≤ 88 by omega, show 0 + 240 ≤ 660 by omega⟩) hW (fun r4 ad1 w2 H5 locs hp3 hW => ?_)
  obtain ⟨e6, e7, e8⟩ := hp3
  rw [e7, e8] at hW
  subst e6
  refine lv_istore (lv' := [(6, .int (dyN S (j / 4))), (0, .ref (ad 0)), (1, .int 3), (2, .int (nI mo)), (3, .int (nI j)), (4, .ref (ad 2101)), (5, .ref (ad 2102))]) hx hb dL_reads_9 hl (by decide) rfl (fun ls hl => ?_)
  refine lv_iload_n hx hb dL_reads_11 rfl (lv_at hl 2 rfl) ?_
  refine lv_iconst (v := 3) hx hb dL_reads_12 (by decide) ?_
  refine lv_icmp_eq (tgt := 25) hx hb dL_reads_13 (by decide) (fun _ => ?_) (fun c9 => absurd (rfl) c9)
  refine lv_iconst (v := 1) hx hb dL_reads_25 (by decide) ?_
  refine lv_goto (tgt := 30) hx hb dL_reads_26 (by decide) ?_
  refine lv_istore (lv' := [(7, .int 1), (6, .int (dyN S (j / 4))), (0, .ref (ad 0)), (1, .int 3), (2, .int (nI mo)), (3, .int (nI j)), (4, .ref (ad 2101)), (5, .ref (ad 2102))]) hx hb dL_reads_30 hl (by decide) rfl (fun ls hl => ?_)
  refine lv_iload hx hb dL_reads_32 (lv_at hl 0 rfl) ?_
  refine lv_if_ne (tgt := 41) hx hb dL_reads_34 (by decide) (fun _ => ?_) (fun c9 => absurd c9 (by decide))
  refine lv_iload_n hx hb dL_reads_41 rfl (lv_at hl 3 rfl) ?_
  refine lv_iconst (v := 3) hx hb dL_reads_42 (by decide) ?_
  refine lv_icmp_ne (tgt := 55) hx hb dL_reads_43 (by decide) (fun c9 => absurd (rfl) c9) (fun _ => ?_)
  refine lv_aload_n hx hb dL_reads_46 rfl (lv_at hl 2 rfl) ?_
  refine lv_iload_n hx hb dL_reads_47 rfl (lv_at hl 4 rfl) ?_
  refine lv_iload_n hx hb dL_reads_48 rfl (lv_at hl 5 rfl) ?_
  refine kx_i (vx_runV (As := [.int (nI mo), .int (nI j)]) (rest := []) ⟨hx, hb, hml, hown, hts⟩ (k_X5_versionAt l hnt D A ad w S nT nC nD nM nZ hC hN (nI mo) (nI j)) (cwV 2 hts gL_reads_X5_versionAt rfl rfl rfl (by decide +kernel) ⟨Nat.le_of_ble_eq_true rfl, Nat.le_of_ble_eq_true rfl⟩) (kV hE hW hC.u rfl _) rfl rfl hl.1 rfl (lv_room (Nat.le_of_ble_eq_true rfl)) dL_reads_49 ⟨show 0 + 32 + 8 ≤ 88 by omega, show 0 + 240 + 60 ≤ 660 by omega⟩) hW (fun E ce q9 H locs hpx _ _ _ _ => (nf_vr hN (a := mo) (j := j) hmo hj hpx).elim) (fun r12 ad9 w10 H13 locs hp11 hW => ?_)
  obtain ⟨e14, -, e15, e16⟩ := hp11
  rw [e15, e16] at hW
  subst e14
  rw [show (vaV S (nI mo) (nI j) (-1)).1 = verV S (nI mo) (nI j) from vaV_ver hN]
  refine lv_goto (tgt := 83) hx hb dL_reads_52 (by decide) ?_
  refine lv_istore (lv' := [(8, .int (verV S (nI mo) (nI j))), (7, .int 1), (6, .int (dyN S (j / 4))), (0, .ref (ad 0)), (1, .int 3), (2, .int (nI mo)), (3, .int (nI j)), (4, .ref (ad 2101)), (5, .ref (ad 2102))]) hx hb dL_reads_83 hl (by decide) rfl (fun ls hl => ?_)
  refine lv_aload_n hx hb dL_reads_85 rfl (lv_at hl 3 rfl) ?_
  refine lv_iload_n hx hb dL_reads_86 rfl (lv_at hl 4 rfl) ?_
  refine lv_iload_n hx hb dL_reads_87 rfl (lv_at hl 5 rfl) ?_
  refine lv_iload_n hx hb dL_reads_88 rfl (lv_at hl 6 rfl) ?_
  refine lv_iconst (v := 0) hx hb dL_reads_89 (by decide) ?_
  refine kk_i (vx_runSW (As := [.ref (ad 0), .int 3, .int (nI mo), .int (nI j), .int 0]) (rest := []) ⟨hx, hb, hml, hown, hts⟩ (k_asks_readAt l hnt D A ad w S nT nC nD nM nZ hC hN (nI mo) (nI j) 0) (vx_cwSW 5 hts gL_reads_L_asks rfl rfl rfl (by decide +kernel) ⟨Nat.le_of_ble_eq_true rfl, Nat.le_of_ble_eq_true rfl⟩) (kSt hE hW _) rfl rfl hl.1 rfl (lv_room (Nat.le_of_ble_eq_true rfl)) dL_reads_90 ⟨show 0 + 32 + 8 + 8 ≤ 88 by omega, show 0 + 240 + 60 + 60 ≤ 660 by omega⟩) hW (fun r20 ad17 w18 H21 locs hp19 hW => ?_)
  have hK9 := no_vr hN hmo hj
  rcases hp19 with ⟨e1, e0, hk, e3, hC2, hF⟩ | ⟨hE9, e3, e4⟩
  · rw [e3] at hW
    rw [show nv (nI j) / 4 = j / 4 by rw [nvR hj]] at hC2
    subst e1
    rw [show (vaV S (nI mo) (nI j) (-1)).1 = verV S (nI mo) (nI j) from vaV_ver hN]
    have f22 := (hF 2101 (by decide)).1.trans hA1
    have f23 := (hF 2102 (by decide)).1.trans hA2
    have f24 := (hF 2103 (by decide)).1.trans hA3
    refine lv_istore (lv' := [(9, .int (verV S (nI mo) (nI j))), (8, .int (verV S (nI mo) (nI j))), (7, .int 1), (6, .int (dyN S (j / 4))), (0, .ref (ad 0)), (1, .int 3), (2, .int (nI mo)), (3, .int (nI j)), (4, .ref (ad 2101)), (5, .ref (ad 2102))]) hx hb dL_reads_93 hl (by decide) rfl (fun ls hl => ?_)
    refine lv_iload hx hb dL_reads_95 (lv_at hl 2 rfl) ?_
    refine lv_if_ne (tgt := 124) hx hb dL_reads_97 (by decide) (fun _ => ?_) (fun c9 => absurd c9 (by decide))
    refine lv_iload hx hb dL_reads_124 (lv_at hl 0 rfl) ?_
    refine lv_ldc (v := (-9000010)) hx hb hown (hts (.constant RL 54 ((-9000010))) (by decide +kernel)) dL_reads_126 ?_
    refine lv_icmp_ne (tgt := 155) hx hb dL_reads_128 (by decide) (fun _ => ?_) (fun c9 => absurd c9 (vOK_10 (ver_ok hN hG hj)))
    refine lv_aload hx hb dL_reads_155 (lv_at hl 9 rfl) ?_
    refine lv_iconst (v := 4) hx hb dL_reads_157 (by decide) ?_
    refine lv_dup2_11 hx hb dL_reads_158 rfl rfl ?_
    refine kk_iald hx hb hE hW f23 (by unfold vp_in; decide) dL_reads_159 ?_
    rw [show cF (nv 4) = cF 4 from rfl]
    refine lv_iload hx hb dL_reads_160 (lv_at hl 3 rfl) ?_
    refine lv_iadd hx hb dL_reads_162 ?_
    refine kk_iast hx hb hE hW f23 (by unfold vp_in; decide) dL_reads_163 (fun H27 locs w25 e26 hW => ?_)
    rw [show Int32.toNatClampNeg 4 = 4 from rfl] at e26
    have f28 := (up_n e26 (by decide)).trans f22
    have f29 := (up_n e26 (by decide)).trans f24
    have f30 := up_s e26
    have hC31 := hC2.fr (hN.cl (j / 4)) (fun k hk => up_n e26 (by omega)) (fun _ _ => rfl)
    refine lv_iload hx hb dL_reads_164 (lv_at hl 0 rfl) ?_
    refine lv_iload hx hb dL_reads_166 (lv_at hl 1 rfl) ?_
    refine lv_icmp_ne (tgt := 187) hx hb dL_reads_168 (by decide) (fun c9 => absurd (rfl) c9) (fun _ => ?_)
    refine lv_aload_n hx hb dL_reads_171 rfl (lv_at hl 4 rfl) ?_
    refine lv_aload hx hb dL_reads_172 (lv_at hl 8 rfl) ?_
    refine lv_iload_n hx hb dL_reads_174 rfl (lv_at hl 7 rfl) ?_
    refine lv_iconst (v := 4) hx hb dL_reads_175 (by decide) ?_
    refine lv_idiv hx hb dL_reads_176 (by decide) ?_
    rw [show nI j / 4 = nI (j / 4) from pk_div (a := j) (d := 4) (by omega) (by omega) (by omega)]
    refine kk_i (va_runS (As := [.ref (ad 0), .ref (ad 2101), .int (nI (j / 4))]) (rest := []) ⟨hx, hb, hml, hown, hts⟩ (k_L_isClean l hnt D A ad w25 (cleanS S (j / 4)) nT nC nD nM nZ hC31 (hN.cl (j / 4)) aF f28 (hAF.cl (j / 4)) (j / 4) hb3 (clean_end S _ (Or.inl rfl)) (clean_end S _ (Or.inr rfl))) (va_cwS 3 hts gL_reads_L_isClean rfl rfl rfl (by decide +kernel) ⟨Nat.le_of_ble_eq_true rfl, Nat.le_of_ble_eq_true rfl⟩) (kSt hE hW _) rfl rfl hl.1 rfl (lv_room (Nat.le_of_ble_eq_true rfl)) dL_reads_177 ⟨show 0 + 32 + 8 + 8 + 32 ≤ 88 by omega, show 0 + 240 + 60 + 60 + 240 ≤ 660 by omega⟩) hW (fun r35 ad32 w33 H36 locs hp34 hW => ?_)
    obtain ⟨e37, e38, e39⟩ := hp34
    rw [e38, e39] at hW
    subst e37
    refine lv_if_eq (tgt := 187) hx hb dL_reads_180 (by decide) (fun c9 => absurd c9 (by decide)) (fun _ => ?_)
    refine lv_iconst (v := 1) hx hb dL_reads_183 (by decide) ?_
    refine lv_goto (tgt := 188) hx hb dL_reads_184 (by decide) ?_
    exact ke_z hx hb hr hlocks (show 0 + 32 + 8 + 8 + 32 ≤ 88 by omega) (show 0 + 240 + 60 + 60 + 240 ≤ 660 by omega) dL_reads_188 (by first | exact Or.inl rfl | exact Or.inr rfl | assumption) hW (⟨rfl, ⟨cleanS S (j / 4), nT, nC, nD, nM, nZ, aF, (upd (cF) 4 ((cF 4) + (dyN S (j / 4)))), eF, hC31, hN.cl _, hG.cl _, by omega, f28, f30, f29, hAF.cl _, hCF.cl _ rfl, hEF.cl _⟩, rfl, rfl, rfl, rfl⟩)
  · rcases hE9 with ⟨-, hk⟩ | ⟨rfl, hk⟩ | ⟨rfl, hk, hl9⟩
    · exact absurd (hK9.symm.trans hk) (by decide)
    · exact absurd (hK9.symm.trans hk) (by decide)
    · rw [e3, e4] at hW
      refine lv_istore (lv' := [(9, .int (-9000010)), (8, .int (verV S (nI mo) (nI j))), (7, .int 1), (6, .int (dyN S (j / 4))), (0, .ref (ad 0)), (1, .int 3), (2, .int (nI mo)), (3, .int (nI j)), (4, .ref (ad 2101)), (5, .ref (ad 2102))]) hx hb dL_reads_93 hl (by decide) rfl (fun ls hl => ?_)
      refine lv_iload hx hb dL_reads_95 (lv_at hl 2 rfl) ?_
      refine lv_if_ne (tgt := 124) hx hb dL_reads_97 (by decide) (fun _ => ?_) (fun c9 => absurd c9 (by decide))
      refine lv_iload hx hb dL_reads_124 (lv_at hl 0 rfl) ?_
      refine lv_ldc (v := (-9000010)) hx hb hown (hts (.constant RL 54 ((-9000010))) (by decide +kernel)) dL_reads_126 ?_
      refine lv_icmp_ne (tgt := 155) hx hb dL_reads_128 (by decide) (fun c9 => absurd (rfl) c9) (fun _ => ?_)
      refine lv_aload hx hb dL_reads_131 (lv_at hl 9 rfl) ?_
      refine lv_iconst (v := 3) hx hb dL_reads_133 (by decide) ?_
      refine kk_iald hx hb hE hW hA2 (by unfold vp_in; decide) dL_reads_134 ?_
      rw [show cF (nv 3) = nI nD from hCF.2.2.2.1.trans hN.2.2.1]
      refine lv_if_le (tgt := 153) hx hb dL_reads_135 (by decide) (fun c9 => absurd c9 (nI_nle (late_D hN hj hl9) (by have := hN.2.2.2.2.2.2.1; have := hN.2.2.2.2.2.2.2.1; omega))) (fun _ => ?_)
      refine lv_aload_n hx hb dL_reads_138 rfl (lv_at hl 4 rfl) ?_
      refine kk_i (va_runV (As := []) (rest := []) ⟨hx, hb, hml, hown, hts⟩ (k_X5_marked l D A ad w S nT nC nD nM nZ hC hN) (cwV 0 hts gL_reads_X5_marked rfl rfl rfl (by decide +kernel) ⟨Nat.le_of_ble_eq_true rfl, Nat.le_of_ble_eq_true rfl⟩) (kV hE hW hC.u rfl _) rfl rfl hl.1 rfl (lv_room (Nat.le_of_ble_eq_true rfl)) dL_reads_139 ⟨show 0 + 32 + 8 + 8 + 0 ≤ 88 by omega, show 0 + 240 + 60 + 60 + 0 ≤ 660 by omega⟩) hW (fun r43 ad40 w41 H44 locs hp42 hW => ?_)
      obtain ⟨e45, e46, e47⟩ := hp42
      rw [e46, e47] at hW
      subst e45
      refine lv_aload hx hb dL_reads_142 (lv_at hl 9 rfl) ?_
      refine lv_iconst (v := 4) hx hb dL_reads_144 (by decide) ?_
      refine kk_iald hx hb hE hW hA2 (by unfold vp_in; decide) dL_reads_145 ?_
      rw [show cF (nv 4) = S 15 0 from hCF.2.2.2.2.1]
      refine lv_icmp_ne (tgt := 153) hx hb dL_reads_146 (by decide) (fun c9 => absurd (rfl) c9) (fun _ => ?_)
      refine lv_iconst (v := 1) hx hb dL_reads_149 (by decide) ?_
      refine lv_goto (tgt := 154) hx hb dL_reads_150 (by decide) ?_
      exact ke_z hx hb hr hlocks (show 0 + 32 + 8 + 8 + 0 ≤ 88 by omega) (show 0 + 240 + 60 + 60 + 0 ≤ 660 by omega) dL_reads_154 (by first | exact Or.inl rfl | exact Or.inr rfl | assumption) hW (⟨rfl, ⟨S, nT, nC, nD, nM, nZ, aF, cF, eF, hC, hN, hG, by omega, hA1, hA2, hA3, hAF, hCF, hEF⟩, rfl, rfl, rfl, rfl⟩)

