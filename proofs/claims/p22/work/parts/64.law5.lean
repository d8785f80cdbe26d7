/-! the law: undoing -/
set_option maxHeartbeats 4000000 in
set_option maxRecDepth 100000 in
/-- k_L_undoes5 -/
theorem k_L_undoes5 (l : Launch) (hnt : l.stackTraces = false) (D : va_G) (A : Nat → Prop) (ad : Nat → Nat) (w : kWd) (S : St) (nT nC nD nM nZ : Nat) (hC : CW D S ad w nT nC) (hN : SN S nT nC nD nM nZ) (hG : GI S nT nC nM) (aF : Nat → Int32) (hA1 : w 2101 = some (.inl (D.1 100, 60, .inl aF))) (hAF : AF S nT aF) (cF : Nat → Int32) (hA2 : w 2102 = some (.inl (D.1 100, 6, .inl cF))) (hCF : CF S cF) (eF : Nat → Int32) (hA3 : w 2103 = some (.inl (D.1 100, 61, .inl eF))) (r0 : Nat) (hr0 : r0 < 12) (hEF : EF S nM r0 eF) (q9 : Nat) (hq : nC ≤ q9) (hq9 : q9 < 512) (t : Nat) (ht : t < nT) (y : Nat) (hy : y < 2 ^ 30) : Met l yL_undoes wsL_undoes ({ frames := 9, cells := 120, slots := 900, locals := 169 }) (kPc D A [.ref (ad 0), .int 5, .int (nI t), .int (nI y), .ref (ad 2101), .ref (ad 2102)] ad w) (kQi D A (fun v ad' w' => lkP D r0 q9 ad v ad' w')) 120 900 A := by
  refine Met.ofW (cc := cL_undoes) (maxL := 10) (ret := (some (.boolean))) (by decide) rfl ?_
  intro p e s m args below meth c s₁ B hml hv
  obtain ⟨rfl, hE, hW0, hI0, hA⟩ := hv
  have hx := B.exec
  have hb := B.bytes
  have hr := B.returns
  have hts := atoms_spec (ws := wsL_undoes) B.pre
  have hown : s.vm.findClass RL = some m.cls := findClass_of_methodNamed B.named
  have hlocks := B.notSynchronized
  have hW : kS D A s.heap ad w s.heap [] := ⟨hW0, hI0, va_S.rf, hA⟩
  have hl := lv_entry ([.ref (ad 0), .int 5, .int (nI t), .int (nI y), .ref (ad 2101), .ref (ad 2102)]) (n := 10) (Nat.le_of_ble_eq_true rfl)
  rw [lg_entry_eq]
  generalize (lg_sl ([.ref (ad 0), .int 5, .int (nI t), .int (nI y), .ref (ad 2101), .ref (ad 2102)]) ++ List.replicate (10 - (lg_sl ([.ref (ad 0), .int 5, .int (nI t), .int (nI y), .ref (ad 2101), .ref (ad 2102)])).length) Slot.unset).toArray = ls at hl ⊢
  have hl : lv_has ls 10 [(0, .ref (ad 0)), (1, .int 5), (2, .int (nI t)), (3, .int (nI y)), (4, .ref (ad 2101)), (5, .ref (ad 2102))] := hl
  have h60 := hN.2.2.2.2.2.1
  have h30 := hN.2.2.2.2.2.2.2.2.2.2.1
  have hM9 : nM ≤ 60 := Nat.le_trans hG.le h60
  have h512 := hN.2.2.2.2.2.2.1
  have hst := stN_le (S := S) (t := nI t) nC
  refine lv_aload hx hb dL_undoes_0 (lv_at hl 4 rfl) ?_
  refine lv_iload_n hx hb dL_undoes_2 rfl (lv_at hl 2 rfl) ?_
  refine kk_i (va_runS (As := [.ref (ad 2101), .int (nI t)]) (rest := []) ⟨hx, hb, hml, hown, hts⟩ (k_L_isActive l hnt D A ad w S nT nC nD nM nZ hN aF hA1 hAF ((nI t)) (Or.inr ⟨t, ht, rfl⟩)) (va_cwS 2 hts gL_undoes_L_isActive rfl rfl rfl (by decide +kernel) ⟨Nat.le_of_ble_eq_true rfl, Nat.le_of_ble_eq_true rfl⟩) (kSt hE hW _) rfl rfl hl.1 rfl (lv_room (Nat.le_of_ble_eq_true rfl)) dL_undoes_3 ⟨show 0 + 0 ≤ 120 by omega, show 0 + 0 ≤ 900 by omega⟩) hW (fun r4 ad1 w2 H5 locs hp3 hW => ?_)
  obtain ⟨e6, e7, e8⟩ := hp3
  rw [e7, e8] at hW
  subst e6
  by_cases ha : S 1 t = 0
  · rw [show isA S (nI t) = 1 from by rw [isA_t (show t < 60 by omega)]; exact bI_1 ha]
    have hK9 := (opK_t hN ht).1 ha
    refine lv_istore (lv' := [(6, .int (1)), (0, .ref (ad 0)), (1, .int 5), (2, .int (nI t)), (3, .int (nI y)), (4, .ref (ad 2101)), (5, .ref (ad 2102))]) hx hb dL_undoes_6 hl (by decide) rfl (fun ls hl => ?_)
    refine lv_aload_n hx hb dL_undoes_8 rfl (lv_at hl 1 rfl) ?_
    refine lv_iconst (v := 4) hx hb dL_undoes_9 (by decide) ?_
    refine lv_iload_n hx hb dL_undoes_10 rfl (lv_at hl 3 rfl) ?_
    refine lv_iconst (v := 0) hx hb dL_undoes_11 (by decide) ?_
    refine lv_iconst (v := 0) hx hb dL_undoes_12 (by decide) ?_
    refine kk_i (vx_runSW (As := [.ref (ad 0), .int 4, .int (nI t), .int 0, .int 0]) (rest := []) ⟨hx, hb, hml, hown, hts⟩ (k_asks_save l hnt D A ad w S nT nC nD nM nZ hC hN (nI t) 0 0) (vx_cwSW 5 hts gL_undoes_L_asks rfl rfl rfl (by decide +kernel) ⟨Nat.le_of_ble_eq_true rfl, Nat.le_of_ble_eq_true rfl⟩) (kSt hE hW _) rfl rfl hl.1 rfl (lv_room (Nat.le_of_ble_eq_true rfl)) dL_undoes_13 ⟨show 0 + 0 + 8 ≤ 120 by omega, show 0 + 0 + 60 ≤ 900 by omega⟩) hW (fun r12 ad9 w10 H13 locs hp11 hW => ?_)
    rcases hp11 with ⟨e1, -, e3, e4⟩ | ⟨hE9, e3, e4⟩
    · rw [e3, e4] at hW
      subst e1
      rw [show stV S (nI t) = nI (stN S (nI t) nC) from stV_N hN]
      refine lv_istore (lv' := [(7, .int (nI (stN S (nI t) nC))), (6, .int (1)), (0, .ref (ad 0)), (1, .int 5), (2, .int (nI t)), (3, .int (nI y)), (4, .ref (ad 2101)), (5, .ref (ad 2102))]) hx hb dL_undoes_16 hl (by decide) rfl (fun ls hl => ?_)
      refine lv_iload hx hb dL_undoes_18 (lv_at hl 1 rfl) ?_
      refine lv_if_ne (tgt := 63) hx hb dL_undoes_20 (by decide) (fun _ => ?_) (fun c9 => absurd c9 (by decide))
      refine lv_iload_n hx hb dL_undoes_63 rfl (lv_at hl 3 rfl) ?_
      refine lv_iconst (v := 5) hx hb dL_undoes_64 (by decide) ?_
      refine lv_icmp_ne (tgt := 141) hx hb dL_undoes_65 (by decide) (fun c9 => absurd (rfl) c9) (fun _ => ?_)
      refine lv_iload_n hx hb dL_undoes_68 rfl (lv_at hl 5 rfl) ?_
      refine lv_iload hx hb dL_undoes_69 (lv_at hl 0 rfl) ?_
      refine lv_iconst (v := 1) hx hb dL_undoes_71 (by decide) ?_
      refine lv_iadd hx hb dL_undoes_72 ?_
      rw [show nI (stN S (nI t) nC) + 1 = nI ((stN S (nI t) nC) + 1) from nI_1 _]
      refine lv_irem hx hb dL_undoes_73 (nI_ne0 (by omega) (by omega)) ?_
      rw [show nI y - nI y / nI ((stN S (nI t) nC) + 1) * nI ((stN S (nI t) nC) + 1) = nI (y % ((stN S (nI t) nC) + 1)) from pk_rem (by omega) (by omega) (by omega)]
      have hkp : y % ((stN S (nI t) nC) + 1) ≤ (stN S (nI t) nC) := Nat.le_of_lt_succ (Nat.mod_lt _ (by omega))
      generalize y % ((stN S (nI t) nC) + 1) = kp at hkp ⊢
      refine lv_istore (lv' := [(8, .int (nI kp)), (7, .int (nI (stN S (nI t) nC))), (6, .int (1)), (0, .ref (ad 0)), (1, .int 5), (2, .int (nI t)), (3, .int (nI y)), (4, .ref (ad 2101)), (5, .ref (ad 2102))]) hx hb dL_undoes_74 hl (by decide) rfl (fun ls hl => ?_)
      refine lv_aload_n hx hb dL_undoes_76 rfl (lv_at hl 3 rfl) ?_
      refine lv_iconst (v := 5) hx hb dL_undoes_77 (by decide) ?_
      refine lv_iload_n hx hb dL_undoes_78 rfl (lv_at hl 5 rfl) ?_
      refine lv_iload hx hb dL_undoes_79 (lv_at hl 0 rfl) ?_
      refine lv_iconst (v := 0) hx hb dL_undoes_81 (by decide) ?_
      refine kk_i (vx_runSW (As := [.ref (ad 0), .int 5, .int (nI t), .int (nI kp), .int 0]) (rest := []) ⟨hx, hb, hml, hown, hts⟩ (k_asks_undoTo l hnt D A ad w S nT nC nD nM nZ hC hN (nI t) (nI kp) 0) (vx_cwSW 5 hts gL_undoes_L_asks rfl rfl rfl (by decide +kernel) ⟨Nat.le_of_ble_eq_true rfl, Nat.le_of_ble_eq_true rfl⟩) (kSt hE hW _) rfl rfl hl.1 rfl (lv_room (Nat.le_of_ble_eq_true rfl)) dL_undoes_82 ⟨show 0 + 0 + 8 + 8 ≤ 120 by omega, show 0 + 0 + 60 + 60 ≤ 900 by omega⟩) hW (fun r17 ad14 w15 H18 locs hp16 hW => ?_)
      rcases hp16 with ⟨e1, -, -, e3, hC2, hF⟩ | ⟨hE9, e3, e4⟩
      · rw [e3] at hW
        obtain ⟨T, hT, hN2, hG2, hv2, hs2, h12, h22, hc2, -⟩ := un_to hN hG ht ha hkp
        rw [← hT] at hC2
        subst e1
        rw [show stV S (nI t) - nI kp = nI (stN S (nI t) nC) - nI kp from by rw [stV_N hN]]
        have f19 := (hF 2101 (by decide)).1.trans hA1
        have f20 := (hF 2102 (by decide)).1.trans hA2
        have f21 := (hF 2103 (by decide)).1.trans hA3
        refine lv_iload hx hb dL_undoes_85 (lv_at hl 1 rfl) ?_
        refine lv_iload hx hb dL_undoes_87 (lv_at hl 0 rfl) ?_
        refine lv_isub hx hb dL_undoes_89 ?_
        refine lv_icmp_ne (tgt := 139) hx hb dL_undoes_90 (by decide) (fun c9 => absurd (rfl) c9) (fun _ => ?_)
        refine lv_aload_n hx hb dL_undoes_93 rfl (lv_at hl 3 rfl) ?_
        refine lv_iconst (v := 4) hx hb dL_undoes_94 (by decide) ?_
        refine lv_iload_n hx hb dL_undoes_95 rfl (lv_at hl 5 rfl) ?_
        refine lv_iconst (v := 0) hx hb dL_undoes_96 (by decide) ?_
        refine lv_iconst (v := 0) hx hb dL_undoes_97 (by decide) ?_
        have hK2 := (opK_t hN2 ht).1 (by rw [h12]; exact ha)
        refine kk_i (vx_runSW (As := [.ref (ad 0), .int 4, .int (nI t), .int 0, .int 0]) (rest := []) ⟨hx, hb, hml, hown, hts⟩ (k_asks_save l hnt D A ad w15 T nT nC nD nM nZ hC2 hN2 (nI t) 0 0) (vx_cwSW 5 hts gL_undoes_L_asks rfl rfl rfl (by decide +kernel) ⟨Nat.le_of_ble_eq_true rfl, Nat.le_of_ble_eq_true rfl⟩) (kSt hE hW _) rfl rfl hl.1 rfl (lv_room (Nat.le_of_ble_eq_true rfl)) dL_undoes_98 ⟨show 0 + 0 + 8 + 8 + 8 ≤ 120 by omega, show 0 + 0 + 60 + 60 + 60 ≤ 900 by omega⟩) hW (fun r25 ad22 w23 H26 locs hp24 hW => ?_)
        rcases hp24 with ⟨e1, -, e3, e4⟩ | ⟨hE9, e3, e4⟩
        · rw [e3, e4] at hW
          subst e1
          rw [show stV T (nI t) = nI kp from hs2]
          refine lv_iload hx hb dL_undoes_101 (lv_at hl 0 rfl) ?_
          refine lv_icmp_ne (tgt := 139) hx hb dL_undoes_103 (by decide) (fun c9 => absurd (rfl) c9) (fun _ => ?_)
          refine lv_aload_n hx hb dL_undoes_106 rfl (lv_at hl 3 rfl) ?_
          refine lv_iconst (v := 5) hx hb dL_undoes_107 (by decide) ?_
          refine lv_iload_n hx hb dL_undoes_108 rfl (lv_at hl 5 rfl) ?_
          refine lv_iload hx hb dL_undoes_109 (lv_at hl 0 rfl) ?_
          refine lv_iconst (v := 1) hx hb dL_undoes_111 (by decide) ?_
          refine lv_iadd hx hb dL_undoes_112 ?_
          refine lv_iconst (v := 0) hx hb dL_undoes_113 (by decide) ?_
          refine kk_i (vx_runSW (As := [.ref (ad 0), .int 5, .int (nI t), .int ((nI kp) + 1), .int 0]) (rest := []) ⟨hx, hb, hml, hown, hts⟩ (k_asks_undoTo l hnt D A ad w15 T nT nC nD nM nZ hC2 hN2 (nI t) (nI kp + 1) 0) (vx_cwSW 5 hts gL_undoes_L_asks rfl rfl rfl (by decide +kernel) ⟨Nat.le_of_ble_eq_true rfl, Nat.le_of_ble_eq_true rfl⟩) (kSt hE hW _) rfl rfl hl.1 rfl (lv_room (Nat.le_of_ble_eq_true rfl)) dL_undoes_114 ⟨show 0 + 0 + 8 + 8 + 8 + 8 ≤ 120 by omega, show 0 + 0 + 60 + 60 + 60 + 60 ≤ 900 by omega⟩) hW (fun r30 ad27 w28 H31 locs hp29 hW => ?_)
          rcases hp29 with ⟨-, -, hk, -⟩ | ⟨hE9, e3, e4⟩
          · rw [hs2] at hk
            exact absurd hk (inP_no (by omega))
          · rcases hE9 with ⟨-, hk⟩ | ⟨-, hk⟩ | ⟨rfl, -, -⟩
            · exact absurd (hK2.symm.trans hk) (by decide)
            · exact absurd (hK2.symm.trans hk) (by decide)
            · rw [e3, e4] at hW
              refine lv_ldc (v := (-9000009)) hx hb hown (hts (.constant RL 51 ((-9000009))) (by decide +kernel)) dL_undoes_117 ?_
              refine lv_icmp_ne (tgt := 139) hx hb dL_undoes_119 (by decide) (fun c9 => absurd (rfl) c9) (fun _ => ?_)
              refine lv_aload_n hx hb dL_undoes_122 rfl (lv_at hl 3 rfl) ?_
              refine lv_iconst (v := 5) hx hb dL_undoes_123 (by decide) ?_
              refine lv_iload_n hx hb dL_undoes_124 rfl (lv_at hl 5 rfl) ?_
              refine lv_iconst (v := (-1)) hx hb dL_undoes_125 (by decide) ?_
              refine lv_iconst (v := 0) hx hb dL_undoes_126 (by decide) ?_
              refine kk_i (vx_runSW (As := [.ref (ad 0), .int 5, .int (nI t), .int (-1), .int 0]) (rest := []) ⟨hx, hb, hml, hown, hts⟩ (k_asks_undoTo l hnt D A ad w15 T nT nC nD nM nZ hC2 hN2 (nI t) (-1) 0) (vx_cwSW 5 hts gL_undoes_L_asks rfl rfl rfl (by decide +kernel) ⟨Nat.le_of_ble_eq_true rfl, Nat.le_of_ble_eq_true rfl⟩) (kSt hE hW _) rfl rfl hl.1 rfl (lv_room (Nat.le_of_ble_eq_true rfl)) dL_undoes_127 ⟨show 0 + 0 + 8 + 8 + 8 + 8 + 8 ≤ 120 by omega, show 0 + 0 + 60 + 60 + 60 + 60 + 60 ≤ 900 by omega⟩) hW (fun r35 ad32 w33 H36 locs hp34 hW => ?_)
              rcases hp34 with ⟨-, -, hk, -⟩ | ⟨hE9, e3, e4⟩
              · rw [hs2] at hk
                exact absurd hk (inP_m1)
              · rcases hE9 with ⟨-, hk⟩ | ⟨-, hk⟩ | ⟨rfl, -, -⟩
                · exact absurd (hK2.symm.trans hk) (by decide)
                · exact absurd (hK2.symm.trans hk) (by decide)
                · rw [e3, e4] at hW
                  refine lv_ldc (v := (-9000009)) hx hb hown (hts (.constant RL 51 ((-9000009))) (by decide +kernel)) dL_undoes_130 ?_
                  refine lv_icmp_ne (tgt := 139) hx hb dL_undoes_132 (by decide) (fun c9 => absurd (rfl) c9) (fun _ => ?_)
                  refine lv_iconst (v := 1) hx hb dL_undoes_135 (by decide) ?_
                  refine lv_goto (tgt := 140) hx hb dL_undoes_136 (by decide) ?_
                  exact ke_z hx hb hr hlocks (show 0 + 0 + 8 + 8 + 8 + 8 + 8 ≤ 120 by omega) (show 0 + 0 + 60 + 60 + 60 + 60 + 60 ≤ 900 by omega) dL_undoes_140 (by first | exact Or.inl rfl | exact Or.inr rfl | assumption) hW (⟨rfl, ⟨T, nT, nC, nD, nM, nZ, aF, cF, eF, hC2, hN2, hG2, by omega, f19, f20, f21, hAF.cg h12 h22, hCF.cg (by rw [hc2 10 (by decide) (by decide)]) (by rw [hc2 11 (by decide) (by decide)]) (by rw [hc2 12 (by decide) (by decide)]) (by rw [hc2 13 (by decide) (by decide)]) (by rw [hc2 14 (by decide) (by decide)]) (by rw [hc2 15 (by decide) (by decide)]), hEF.cg (fun _ _ => hv2 _ _ hr0)⟩, rfl, rfl, rfl, rfl⟩)
        · rcases hE9 with ⟨-, hk⟩ | ⟨-, hk⟩
          · exact absurd (hK2.symm.trans hk) (by decide)
          · exact absurd (hK2.symm.trans hk) (by decide)
      · rcases hE9 with ⟨-, hk⟩ | ⟨-, hk⟩ | ⟨-, -, hk⟩
        · exact absurd (hK9.symm.trans hk) (by decide)
        · exact absurd (hK9.symm.trans hk) (by decide)
        · exact absurd (by rw [stV_N hN]; exact inP_of (by omega) hkp) hk
    · rcases hE9 with ⟨-, hk⟩ | ⟨-, hk⟩
      · exact absurd (hK9.symm.trans hk) (by decide)
      · exact absurd (hK9.symm.trans hk) (by decide)
  · rw [show isA S (nI t) = 0 from by rw [isA_t (show t < 60 by omega)]; exact bI_0 ha]
    have hK9 := (opK_t hN ht).2 ha
    refine lv_istore (lv' := [(6, .int (0)), (0, .ref (ad 0)), (1, .int 5), (2, .int (nI t)), (3, .int (nI y)), (4, .ref (ad 2101)), (5, .ref (ad 2102))]) hx hb dL_undoes_6 hl (by decide) rfl (fun ls hl => ?_)
    refine lv_aload_n hx hb dL_undoes_8 rfl (lv_at hl 1 rfl) ?_
    refine lv_iconst (v := 4) hx hb dL_undoes_9 (by decide) ?_
    refine lv_iload_n hx hb dL_undoes_10 rfl (lv_at hl 3 rfl) ?_
    refine lv_iconst (v := 0) hx hb dL_undoes_11 (by decide) ?_
    refine lv_iconst (v := 0) hx hb dL_undoes_12 (by decide) ?_
    refine kk_i (vx_runSW (As := [.ref (ad 0), .int 4, .int (nI t), .int 0, .int 0]) (rest := []) ⟨hx, hb, hml, hown, hts⟩ (k_asks_save l hnt D A ad w S nT nC nD nM nZ hC hN (nI t) 0 0) (vx_cwSW 5 hts gL_undoes_L_asks rfl rfl rfl (by decide +kernel) ⟨Nat.le_of_ble_eq_true rfl, Nat.le_of_ble_eq_true rfl⟩) (kSt hE hW _) rfl rfl hl.1 rfl (lv_room (Nat.le_of_ble_eq_true rfl)) dL_undoes_13 ⟨show 0 + 0 + 8 ≤ 120 by omega, show 0 + 0 + 60 ≤ 900 by omega⟩) hW (fun r40 ad37 w38 H41 locs hp39 hW => ?_)
    rcases hp39 with ⟨-, hk, -⟩ | ⟨hE9, e3, e4⟩
    · exact absurd (hK9.symm.trans hk) (by decide)
    · rcases hE9 with ⟨-, hk⟩ | ⟨rfl, hk⟩
      · exact absurd (hK9.symm.trans hk) (by decide)
      · rw [e3, e4] at hW
        refine lv_istore (lv' := [(7, .int (-9000008)), (6, .int (0)), (0, .ref (ad 0)), (1, .int 5), (2, .int (nI t)), (3, .int (nI y)), (4, .ref (ad 2101)), (5, .ref (ad 2102))]) hx hb dL_undoes_16 hl (by decide) rfl (fun ls hl => ?_)
        refine lv_iload hx hb dL_undoes_18 (lv_at hl 1 rfl) ?_
        refine lv_if_ne (tgt := 63) hx hb dL_undoes_20 (by decide) (fun c9 => absurd (rfl) c9) (fun _ => ?_)
        refine lv_iload hx hb dL_undoes_23 (lv_at hl 0 rfl) ?_
        refine lv_ldc (v := (-9000008)) hx hb hown (hts (.constant RL 48 ((-9000008))) (by decide +kernel)) dL_undoes_25 ?_
        refine lv_icmp_ne (tgt := 61) hx hb dL_undoes_27 (by decide) (fun c9 => absurd (rfl) c9) (fun _ => ?_)
        refine lv_aload_n hx hb dL_undoes_30 rfl (lv_at hl 2 rfl) ?_
        refine lv_iconst (v := 5) hx hb dL_undoes_31 (by decide) ?_
        refine lv_iload_n hx hb dL_undoes_32 rfl (lv_at hl 4 rfl) ?_
        refine lv_iconst (v := 0) hx hb dL_undoes_33 (by decide) ?_
        refine lv_iconst (v := 0) hx hb dL_undoes_34 (by decide) ?_
        refine kk_i (vx_runSW (As := [.ref (ad 0), .int 5, .int (nI t), .int 0, .int 0]) (rest := []) ⟨hx, hb, hml, hown, hts⟩ (k_asks_undoTo l hnt D A ad w S nT nC nD nM nZ hC hN (nI t) 0 0) (vx_cwSW 5 hts gL_undoes_L_asks rfl rfl rfl (by decide +kernel) ⟨Nat.le_of_ble_eq_true rfl, Nat.le_of_ble_eq_true rfl⟩) (kSt hE hW _) rfl rfl hl.1 rfl (lv_room (Nat.le_of_ble_eq_true rfl)) dL_undoes_35 ⟨show 0 + 0 + 8 + 8 ≤ 120 by omega, show 0 + 0 + 60 + 60 ≤ 900 by omega⟩) hW (fun r45 ad42 w43 H46 locs hp44 hW => ?_)
        rcases hp44 with ⟨-, hk, -⟩ | ⟨hE9, e3, e4⟩
        · exact absurd (hK9.symm.trans hk) (by decide)
        · rcases hE9 with ⟨-, hk⟩ | ⟨rfl, hk⟩ | ⟨-, hk, -⟩
          · exact absurd (hK9.symm.trans hk) (by decide)
          · rw [e3, e4] at hW
            refine lv_ldc (v := (-9000008)) hx hb hown (hts (.constant RL 48 ((-9000008))) (by decide +kernel)) dL_undoes_38 ?_
            refine lv_icmp_ne (tgt := 61) hx hb dL_undoes_40 (by decide) (fun c9 => absurd (rfl) c9) (fun _ => ?_)
            refine lv_aload_n hx hb dL_undoes_43 rfl (lv_at hl 2 rfl) ?_
            refine lv_bipush (v := 6) hx hb dL_undoes_44 (by decide) ?_
            refine lv_iload_n hx hb dL_undoes_46 rfl (lv_at hl 4 rfl) ?_
            refine lv_iconst (v := 0) hx hb dL_undoes_47 (by decide) ?_
            refine lv_iconst (v := 0) hx hb dL_undoes_48 (by decide) ?_
            refine kk_i (vx_runSW (As := [.ref (ad 0), .int 6, .int (nI t), .int 0, .int 0]) (rest := []) ⟨hx, hb, hml, hown, hts⟩ (k_asks_undo l hnt D A ad w S nT nC nD nM nZ hC hN (nI t) 0 0) (vx_cwSW 5 hts gL_undoes_L_asks rfl rfl rfl (by decide +kernel) ⟨Nat.le_of_ble_eq_true rfl, Nat.le_of_ble_eq_true rfl⟩) (kSt hE hW _) rfl rfl hl.1 rfl (lv_room (Nat.le_of_ble_eq_true rfl)) dL_undoes_49 ⟨show 0 + 0 + 8 + 8 + 8 ≤ 120 by omega, show 0 + 0 + 60 + 60 + 60 ≤ 900 by omega⟩) hW (fun r50 ad47 w48 H51 locs hp49 hW => ?_)
            rcases hp49 with ⟨-, hk, -⟩ | ⟨hE9, e3, e4⟩
            · exact absurd (hK9.symm.trans hk) (by decide)
            · rcases hE9 with ⟨-, hk⟩ | ⟨rfl, hk⟩
              · exact absurd (hK9.symm.trans hk) (by decide)
              · rw [e3, e4] at hW
                refine lv_ldc (v := (-9000008)) hx hb hown (hts (.constant RL 48 ((-9000008))) (by decide +kernel)) dL_undoes_52 ?_
                refine lv_icmp_ne (tgt := 61) hx hb dL_undoes_54 (by decide) (fun c9 => absurd (rfl) c9) (fun _ => ?_)
                refine lv_iconst (v := 1) hx hb dL_undoes_57 (by decide) ?_
                refine lv_goto (tgt := 62) hx hb dL_undoes_58 (by decide) ?_
                exact ke_z hx hb hr hlocks (show 0 + 0 + 8 + 8 + 8 ≤ 120 by omega) (show 0 + 0 + 60 + 60 + 60 ≤ 900 by omega) dL_undoes_62 (by first | exact Or.inl rfl | exact Or.inr rfl | assumption) hW (⟨rfl, ⟨S, nT, nC, nD, nM, nZ, aF, cF, eF, hC, hN, hG, by omega, hA1, hA2, hA3, hAF, hCF, hEF⟩, rfl, rfl, rfl, rfl⟩)
          · exact absurd (hK9.symm.trans hk) (by decide)

set_option maxHeartbeats 4000000 in
set_option maxRecDepth 100000 in
/-- k_L_undoes6 -/
theorem k_L_undoes6 (l : Launch) (hnt : l.stackTraces = false) (D : va_G) (A : Nat → Prop) (ad : Nat → Nat) (w : kWd) (S : St) (nT nC nD nM nZ : Nat) (hC : CW D S ad w nT nC) (hN : SN S nT nC nD nM nZ) (hG : GI S nT nC nM) (aF : Nat → Int32) (hA1 : w 2101 = some (.inl (D.1 100, 60, .inl aF))) (hAF : AF S nT aF) (cF : Nat → Int32) (hA2 : w 2102 = some (.inl (D.1 100, 6, .inl cF))) (hCF : CF S cF) (eF : Nat → Int32) (hA3 : w 2103 = some (.inl (D.1 100, 61, .inl eF))) (r0 : Nat) (hr0 : r0 < 12) (hEF : EF S nM r0 eF) (q9 : Nat) (hq : nC ≤ q9) (hq9 : q9 < 512) (t : Nat) (ht : t < nT) (y : Nat) (hy : y < 2 ^ 30) : Met l yL_undoes wsL_undoes ({ frames := 9, cells := 120, slots := 900, locals := 169 }) (kPc D A [.ref (ad 0), .int 6, .int (nI t), .int (nI y), .ref (ad 2101), .ref (ad 2102)] ad w) (kQi D A (fun v ad' w' => lkP D r0 q9 ad v ad' w')) 120 900 A := by
  refine Met.ofW (cc := cL_undoes) (maxL := 10) (ret := (some (.boolean))) (by decide) rfl ?_
  intro p e s m args below meth c s₁ B hml hv
  obtain ⟨rfl, hE, hW0, hI0, hA⟩ := hv
  have hx := B.exec
  have hb := B.bytes
  have hr := B.returns
  have hts := atoms_spec (ws := wsL_undoes) B.pre
  have hown : s.vm.findClass RL = some m.cls := findClass_of_methodNamed B.named
  have hlocks := B.notSynchronized
  have hW : kS D A s.heap ad w s.heap [] := ⟨hW0, hI0, va_S.rf, hA⟩
  have hl := lv_entry ([.ref (ad 0), .int 6, .int (nI t), .int (nI y), .ref (ad 2101), .ref (ad 2102)]) (n := 10) (Nat.le_of_ble_eq_true rfl)
  rw [lg_entry_eq]
  generalize (lg_sl ([.ref (ad 0), .int 6, .int (nI t), .int (nI y), .ref (ad 2101), .ref (ad 2102)]) ++ List.replicate (10 - (lg_sl ([.ref (ad 0), .int 6, .int (nI t), .int (nI y), .ref (ad 2101), .ref (ad 2102)])).length) Slot.unset).toArray = ls at hl ⊢
  have hl : lv_has ls 10 [(0, .ref (ad 0)), (1, .int 6), (2, .int (nI t)), (3, .int (nI y)), (4, .ref (ad 2101)), (5, .ref (ad 2102))] := hl
  have h60 := hN.2.2.2.2.2.1
  have h30 := hN.2.2.2.2.2.2.2.2.2.2.1
  have hM9 : nM ≤ 60 := Nat.le_trans hG.le h60
  have h512 := hN.2.2.2.2.2.2.1
  have hst := stN_le (S := S) (t := nI t) nC
  refine lv_aload hx hb dL_undoes_0 (lv_at hl 4 rfl) ?_
  refine lv_iload_n hx hb dL_undoes_2 rfl (lv_at hl 2 rfl) ?_
  refine kk_i (va_runS (As := [.ref (ad 2101), .int (nI t)]) (rest := []) ⟨hx, hb, hml, hown, hts⟩ (k_L_isActive l hnt D A ad w S nT nC nD nM nZ hN aF hA1 hAF ((nI t)) (Or.inr ⟨t, ht, rfl⟩)) (va_cwS 2 hts gL_undoes_L_isActive rfl rfl rfl (by decide +kernel) ⟨Nat.le_of_ble_eq_true rfl, Nat.le_of_ble_eq_true rfl⟩) (kSt hE hW _) rfl rfl hl.1 rfl (lv_room (Nat.le_of_ble_eq_true rfl)) dL_undoes_3 ⟨show 0 + 0 ≤ 120 by omega, show 0 + 0 ≤ 900 by omega⟩) hW (fun r4 ad1 w2 H5 locs hp3 hW => ?_)
  obtain ⟨e6, e7, e8⟩ := hp3
  rw [e7, e8] at hW
  subst e6
  by_cases ha : S 1 t = 0
  · rw [show isA S (nI t) = 1 from by rw [isA_t (show t < 60 by omega)]; exact bI_1 ha]
    have hK9 := (opK_t hN ht).1 ha
    refine lv_istore (lv' := [(6, .int (1)), (0, .ref (ad 0)), (1, .int 6), (2, .int (nI t)), (3, .int (nI y)), (4, .ref (ad 2101)), (5, .ref (ad 2102))]) hx hb dL_undoes_6 hl (by decide) rfl (fun ls hl => ?_)
    refine lv_aload_n hx hb dL_undoes_8 rfl (lv_at hl 1 rfl) ?_
    refine lv_iconst (v := 4) hx hb dL_undoes_9 (by decide) ?_
    refine lv_iload_n hx hb dL_undoes_10 rfl (lv_at hl 3 rfl) ?_
    refine lv_iconst (v := 0) hx hb dL_undoes_11 (by decide) ?_
    refine lv_iconst (v := 0) hx hb dL_undoes_12 (by decide) ?_
    refine kk_i (vx_runSW (As := [.ref (ad 0), .int 4, .int (nI t), .int 0, .int 0]) (rest := []) ⟨hx, hb, hml, hown, hts⟩ (k_asks_save l hnt D A ad w S nT nC nD nM nZ hC hN (nI t) 0 0) (vx_cwSW 5 hts gL_undoes_L_asks rfl rfl rfl (by decide +kernel) ⟨Nat.le_of_ble_eq_true rfl, Nat.le_of_ble_eq_true rfl⟩) (kSt hE hW _) rfl rfl hl.1 rfl (lv_room (Nat.le_of_ble_eq_true rfl)) dL_undoes_13 ⟨show 0 + 0 + 8 ≤ 120 by omega, show 0 + 0 + 60 ≤ 900 by omega⟩) hW (fun r12 ad9 w10 H13 locs hp11 hW => ?_)
    rcases hp11 with ⟨e1, -, e3, e4⟩ | ⟨hE9, e3, e4⟩
    · rw [e3, e4] at hW
      subst e1
      rw [show stV S (nI t) = nI (stN S (nI t) nC) from stV_N hN]
      refine lv_istore (lv' := [(7, .int (nI (stN S (nI t) nC))), (6, .int (1)), (0, .ref (ad 0)), (1, .int 6), (2, .int (nI t)), (3, .int (nI y)), (4, .ref (ad 2101)), (5, .ref (ad 2102))]) hx hb dL_undoes_16 hl (by decide) rfl (fun ls hl => ?_)
      refine lv_iload hx hb dL_undoes_18 (lv_at hl 1 rfl) ?_
      refine lv_if_ne (tgt := 63) hx hb dL_undoes_20 (by decide) (fun _ => ?_) (fun c9 => absurd c9 (by decide))
      refine lv_iload_n hx hb dL_undoes_63 rfl (lv_at hl 3 rfl) ?_
      refine lv_iconst (v := 5) hx hb dL_undoes_64 (by decide) ?_
      refine lv_icmp_ne (tgt := 141) hx hb dL_undoes_65 (by decide) (fun _ => ?_) (fun c9 => absurd c9 (by decide))
      refine lv_aload_n hx hb dL_undoes_141 rfl (lv_at hl 2 rfl) ?_
      refine lv_bipush (v := 6) hx hb dL_undoes_142 (by decide) ?_
      refine lv_iload_n hx hb dL_undoes_144 rfl (lv_at hl 4 rfl) ?_
      refine lv_iconst (v := 0) hx hb dL_undoes_145 (by decide) ?_
      refine lv_iconst (v := 0) hx hb dL_undoes_146 (by decide) ?_
      refine kk_i (vx_runSW (As := [.ref (ad 0), .int 6, .int (nI t), .int 0, .int 0]) (rest := []) ⟨hx, hb, hml, hown, hts⟩ (k_asks_undo l hnt D A ad w S nT nC nD nM nZ hC hN (nI t) 0 0) (vx_cwSW 5 hts gL_undoes_L_asks rfl rfl rfl (by decide +kernel) ⟨Nat.le_of_ble_eq_true rfl, Nat.le_of_ble_eq_true rfl⟩) (kSt hE hW _) rfl rfl hl.1 rfl (lv_room (Nat.le_of_ble_eq_true rfl)) dL_undoes_147 ⟨show 0 + 0 + 8 + 8 ≤ 120 by omega, show 0 + 0 + 60 + 60 ≤ 900 by omega⟩) hW (fun r17 ad14 w15 H18 locs hp16 hW => ?_)
      rcases hp16 with ⟨e1, -, e3, hC2, hF⟩ | ⟨hE9, e3, e4⟩
      · rw [e3] at hW
        obtain ⟨T, hT, hN2, hG2, hv2, hs2, h12, h22, hc2, hz2⟩ := un_to hN hG ht ha (k := 0) (Nat.zero_le _)
        rw [show stV S (nI t) - nI 0 = stV S (nI t) from Int32.sub_zero _] at hT
        rw [← hT, show nv (nI t) = t from nI_clamp (by omega)] at hC2
        have ha2 : T 1 t = 0 := by rw [h12]; exact ha
        have hN3 := hN2.ud ht
        have hG3 := hG2.ud hN2 ht ha2 (hz2 rfl)
        have hv3 : ∀ m : Int32, verV (sA T 1 t 2) m (nI r0) = verV S m (nI r0) := fun m => (ver_ud hN2 ht ha2 hr0).trans (hv2 m r0 hr0)
        have ha3 : ¬ sA T 1 t 2 1 t = 0 := by show ¬ upd (T 1) t 2 t = 0; rw [upd_s]; decide
        have h13 : sA T 1 t 2 1 = upd (S 1) t 2 := by show upd (T 1) t 2 = _; rw [h12]
        have h23 : sA T 1 t 2 2 = S 2 := h22
        have hcf3 : CF (sA T 1 t 2) cF := hCF.cg (show T 10 0 = S 10 0 by rw [hc2 10 (by decide) (by decide)]) (show T 11 0 = S 11 0 by rw [hc2 11 (by decide) (by decide)]) (show T 12 0 = S 12 0 by rw [hc2 12 (by decide) (by decide)]) (show T 13 0 = S 13 0 by rw [hc2 13 (by decide) (by decide)]) (show T 14 0 = S 14 0 by rw [hc2 14 (by decide) (by decide)]) (show T 15 0 = S 15 0 by rw [hc2 15 (by decide) (by decide)])
        generalize sA T 1 t 2 = S2 at hC2 hN3 hG3 hv3 ha3 h13 h23 hcf3
        subst e1
        rw [show stV S (nI t) = nI (stN S (nI t) nC) from stV_N hN]
        have f19 := (hF 2101 (by decide)).1.trans hA1
        have f20 := (hF 2102 (by decide)).1.trans hA2
        have f21 := (hF 2103 (by decide)).1.trans hA3
        refine lv_iload hx hb dL_undoes_150 (lv_at hl 0 rfl) ?_
        refine lv_icmp_ne (tgt := 159) hx hb dL_undoes_152 (by decide) (fun c9 => absurd (rfl) c9) (fun _ => ?_)
        refine lv_iconst (v := 1) hx hb dL_undoes_155 (by decide) ?_
        refine lv_goto (tgt := 160) hx hb dL_undoes_156 (by decide) ?_
        refine lv_istore (lv' := [(8, .int 1), (7, .int (nI (stN S (nI t) nC))), (6, .int (1)), (0, .ref (ad 0)), (1, .int 6), (2, .int (nI t)), (3, .int (nI y)), (4, .ref (ad 2101)), (5, .ref (ad 2102))]) hx hb dL_undoes_160 hl (by decide) rfl (fun ls hl => ?_)
        refine lv_aload hx hb dL_undoes_162 (lv_at hl 7 rfl) ?_
        refine lv_iload_n hx hb dL_undoes_164 rfl (lv_at hl 5 rfl) ?_
        refine lv_dup2_11 hx hb dL_undoes_165 rfl rfl ?_
        refine kk_iald hx hb hE hW f19 (vp_in_nI (show t < 60 by omega) (by decide)) dL_undoes_166 ?_
        rw [show aF (nv (nI t)) = aF t from by rw [show nv (nI t) = t from nI_clamp (by omega)]]
        refine lv_iconst (v := 2) hx hb dL_undoes_167 (by decide) ?_
        refine lv_iadd hx hb dL_undoes_168 ?_
        refine kk_iast hx hb hE hW f19 (vp_in_nI (show t < 60 by omega) (by decide)) dL_undoes_169 (fun H24 locs w22 e23 hW => ?_)
        rw [show Int32.toNatClampNeg (nI t) = t from nI_clamp (by omega)] at e23
        have f25 := (up_n e23 (by decide)).trans f20
        have f26 := (up_n e23 (by decide)).trans f21
        have f27 := up_s e23
        have hC28 := hC2.fr hN3 (fun k hk => up_n e23 (by omega)) (fun _ _ => rfl)
        refine lv_iconst (v := 0) hx hb dL_undoes_170 (by decide) ?_
        refine W.eq (g2 := F0 m 171 ls [.int (nI 0)]) rfl ?_
        refine lv_istore (lv' := [(9, .int (nI 0)), (8, .int 1), (7, .int (nI (stN S (nI t) nC))), (6, .int (1)), (0, .ref (ad 0)), (1, .int 6), (2, .int (nI t)), (3, .int (nI y)), (4, .ref (ad 2101)), (5, .ref (ad 2102))]) hx hb dL_undoes_171 hl (by decide) rfl (fun ls hl => ?_)
        have hK2 := (opK_t hN3 ht).2 ha3
        have Lp : ∀ (d i : Nat) (H : Heap) (locs : List Loc), i + d = 12 → kS D A s.heap ad w22 H locs → ∀ ls, lv_has ls 10 [(9, .int (nI i)), (8, .int 1), (0, .ref (ad 0)), (1, .int 6), (2, .int (nI t)), (4, .ref (ad 2101))] → W p l e ({ frames := 9, cells := 120, slots := 900, locals := 169 }) s m ([.ref (ad 0), .int 6, .int (nI t), .int (nI y), .ref (ad 2101), .ref (ad 2102)] : List Value).toArray below meth c H locs (0 + 0 + 8 + 8 + 8 * i) (0 + 0 + 60 + 60 + 60 * i) (MQ below (kQi D A (fun v ad' w' => lkP D r0 q9 ad v ad' w')) ([.ref (ad 0), .int 6, .int (nI t), .int (nI y), .ref (ad 2101), .ref (ad 2102)] : List Value).toArray s 120 900 A) (F0 m 173 ls []) := by
          intro d
          induction d with
          | zero =>
            intro i H locs hi hW ls hl
            obtain rfl : i = 12 := by omega
            refine lv_iload hx hb dL_undoes_173 (lv_at hl 0 rfl) ?_
            refine lv_bipush (v := 12) hx hb dL_undoes_175 (by decide) ?_
            refine lv_icmp_ge (tgt := 208) hx hb dL_undoes_177 (by decide) (fun _ => ?_) (fun c9 => absurd (by decide) c9)
            refine lv_iload hx hb dL_undoes_208 (lv_at hl 1 rfl) ?_
            refine lv_if_eq (tgt := 231) hx hb dL_undoes_210 (by decide) (fun c9 => absurd c9 (by decide)) (fun _ => ?_)
            refine lv_aload_n hx hb dL_undoes_213 rfl (lv_at hl 2 rfl) ?_
            refine lv_bipush (v := 6) hx hb dL_undoes_214 (by decide) ?_
            refine lv_iload_n hx hb dL_undoes_216 rfl (lv_at hl 4 rfl) ?_
            refine lv_iconst (v := 0) hx hb dL_undoes_217 (by decide) ?_
            refine lv_iconst (v := 0) hx hb dL_undoes_218 (by decide) ?_
            refine kk_i (vx_runSW (As := [.ref (ad 0), .int 6, .int (nI t), .int 0, .int 0]) (rest := []) ⟨hx, hb, hml, hown, hts⟩ (k_asks_undo l hnt D A ad w22 S2 nT nC nD nM nZ hC28 hN3 (nI t) 0 0) (vx_cwSW 5 hts gL_undoes_L_asks rfl rfl rfl (by decide +kernel) ⟨Nat.le_of_ble_eq_true rfl, Nat.le_of_ble_eq_true rfl⟩) (kSt hE hW _) rfl rfl hl.1 rfl (lv_room (Nat.le_of_ble_eq_true rfl)) dL_undoes_219 ⟨show 0 + 0 + 8 + 8 + 8 * 12 + 8 ≤ 120 by omega, show 0 + 0 + 60 + 60 + 60 * 12 + 60 ≤ 900 by omega⟩) hW (fun r32 ad29 w30 H33 locs hp31 hW => ?_)
            rcases hp31 with ⟨-, hk, -⟩ | ⟨hE9, e3, e4⟩
            · exact absurd (hK2.symm.trans hk) (by decide)
            · rcases hE9 with ⟨-, hk⟩ | ⟨rfl, hk⟩
              · exact absurd (hK2.symm.trans hk) (by decide)
              · rw [e3, e4] at hW
                refine lv_ldc (v := (-9000008)) hx hb hown (hts (.constant RL 48 ((-9000008))) (by decide +kernel)) dL_undoes_222 ?_
                refine lv_icmp_ne (tgt := 231) hx hb dL_undoes_224 (by decide) (fun c9 => absurd (rfl) c9) (fun _ => ?_)
                refine lv_iconst (v := 1) hx hb dL_undoes_227 (by decide) ?_
                refine lv_goto (tgt := 232) hx hb dL_undoes_228 (by decide) ?_
                exact ke_z hx hb hr hlocks (show 0 + 0 + 8 + 8 + 8 * 12 + 8 ≤ 120 by omega) (show 0 + 0 + 60 + 60 + 60 * 12 + 60 ≤ 900 by omega) dL_undoes_232 (by first | exact Or.inl rfl | exact Or.inr rfl | assumption) hW (⟨rfl, ⟨S2, nT, nC, nD, nM, nZ, (upd (aF) t ((aF t) + 2)), cF, eF, hC28, hN3, hG3, by omega, f27, f25, f26, hAF.u h13 h23 ha rfl ht, hcf3, hEF.cg (fun _ _ => hv3 _)⟩, rfl, rfl, rfl, rfl⟩)
          | succ d ih =>
            intro i H locs hi hW ls hl
            refine lv_iload hx hb dL_undoes_173 (lv_at hl 0 rfl) ?_
            refine lv_bipush (v := 12) hx hb dL_undoes_175 (by decide) ?_
            refine lv_icmp_ge (tgt := 208) hx hb dL_undoes_177 (by decide) (fun c9 => absurd c9 (nI_ge (a := i) (b := 12) (by omega) (by decide))) (fun _ => ?_)
            refine lv_iload hx hb dL_undoes_180 (lv_at hl 1 rfl) ?_
            refine lv_if_eq (tgt := 208) hx hb dL_undoes_182 (by decide) (fun c9 => absurd c9 (by decide)) (fun _ => ?_)
            refine lv_aload_n hx hb dL_undoes_185 rfl (lv_at hl 2 rfl) ?_
            refine lv_iload hx hb dL_undoes_186 (lv_at hl 0 rfl) ?_
            refine kx_i (vx_runV (As := [.int (nI i)]) (rest := []) ⟨hx, hb, hml, hown, hts⟩ (k_X5_lockOf l hnt D A ad w22 S2 nT nC nD nM nZ hC28 hN3 (nI i)) (cwV 1 hts gL_undoes_X5_lockOf rfl rfl rfl (by decide +kernel) ⟨Nat.le_of_ble_eq_true rfl, Nat.le_of_ble_eq_true rfl⟩) (kV hE hW hC28.u rfl _) rfl rfl hl.1 rfl (lv_room (Nat.le_of_ble_eq_true rfl)) dL_undoes_188 ⟨show 0 + 0 + 8 + 8 + 8 * i + 8 ≤ 120 by omega, show 0 + 0 + 60 + 60 + 60 * i + 60 ≤ 900 by omega⟩) hW (fun E ce q9 H locs hpx _ _ _ _ => (nf_ro (j := i) (by omega) hpx).elim) (fun r37 ad34 w35 H38 locs hp36 hW => ?_)
            obtain ⟨e39, -, e40, e41⟩ := hp36
            rw [e40, e41] at hW
            subst e39
            refine lv_iload_n hx hb dL_undoes_191 rfl (lv_at hl 4 rfl) ?_
            refine lv_icmp_eq (tgt := 199) hx hb dL_undoes_192 (by decide) (fun c9 => absurd c9 (fun q => ha3 (lk_act hN3 (by omega) q))) (fun _ => ?_)
            refine lv_iconst (v := 1) hx hb dL_undoes_195 (by decide) ?_
            refine lv_goto (tgt := 200) hx hb dL_undoes_196 (by decide) ?_
            refine lv_istore (lv' := [(8, .int 1), (9, .int (nI i)), (0, .ref (ad 0)), (1, .int 6), (2, .int (nI t)), (4, .ref (ad 2101))]) hx hb dL_undoes_200 hl (by decide) rfl (fun ls hl => ?_)
            refine lv_iinc (v := nI (i + 1)) (lv' := [(9, .int (nI (i + 1))), (8, .int 1), (0, .ref (ad 0)), (1, .int 6), (2, .int (nI t)), (4, .ref (ad 2101))]) hx hb dL_undoes_202 hl (k := 1) rfl (nI_1 i) (by decide) rfl (fun ls hl => ?_)
            refine lv_goto (tgt := 173) hx hb dL_undoes_205 (by decide) ?_
            exact W_cs (c2 := 0 + 0 + 8 + 8 + 8 * (i + 1)) (s2 := 0 + 0 + 60 + 60 + 60 * (i + 1)) (by omega) (by omega) (ih (i + 1) _ _ (by omega) hW ls (lv_sub hl [0, 1, 2, 3, 4, 5] rfl))
        exact W_cs (c2 := 0 + 0 + 8 + 8 + 8 * 0) (s2 := 0 + 0 + 60 + 60 + 60 * 0) (by omega) (by omega) (Lp 12 0 _ _ rfl hW ls (lv_sub hl [0, 1, 4, 5, 6, 8] rfl))
      · rcases hE9 with ⟨-, hk⟩ | ⟨-, hk⟩
        · exact absurd (hK9.symm.trans hk) (by decide)
        · exact absurd (hK9.symm.trans hk) (by decide)
    · rcases hE9 with ⟨-, hk⟩ | ⟨-, hk⟩
      · exact absurd (hK9.symm.trans hk) (by decide)
      · exact absurd (hK9.symm.trans hk) (by decide)
  · rw [show isA S (nI t) = 0 from by rw [isA_t (show t < 60 by omega)]; exact bI_0 ha]
    have hK9 := (opK_t hN ht).2 ha
    refine lv_istore (lv' := [(6, .int (0)), (0, .ref (ad 0)), (1, .int 6), (2, .int (nI t)), (3, .int (nI y)), (4, .ref (ad 2101)), (5, .ref (ad 2102))]) hx hb dL_undoes_6 hl (by decide) rfl (fun ls hl => ?_)
    refine lv_aload_n hx hb dL_undoes_8 rfl (lv_at hl 1 rfl) ?_
    refine lv_iconst (v := 4) hx hb dL_undoes_9 (by decide) ?_
    refine lv_iload_n hx hb dL_undoes_10 rfl (lv_at hl 3 rfl) ?_
    refine lv_iconst (v := 0) hx hb dL_undoes_11 (by decide) ?_
    refine lv_iconst (v := 0) hx hb dL_undoes_12 (by decide) ?_
    refine kk_i (vx_runSW (As := [.ref (ad 0), .int 4, .int (nI t), .int 0, .int 0]) (rest := []) ⟨hx, hb, hml, hown, hts⟩ (k_asks_save l hnt D A ad w S nT nC nD nM nZ hC hN (nI t) 0 0) (vx_cwSW 5 hts gL_undoes_L_asks rfl rfl rfl (by decide +kernel) ⟨Nat.le_of_ble_eq_true rfl, Nat.le_of_ble_eq_true rfl⟩) (kSt hE hW _) rfl rfl hl.1 rfl (lv_room (Nat.le_of_ble_eq_true rfl)) dL_undoes_13 ⟨show 0 + 0 + 8 ≤ 120 by omega, show 0 + 0 + 60 ≤ 900 by omega⟩) hW (fun r45 ad42 w43 H46 locs hp44 hW => ?_)
    rcases hp44 with ⟨-, hk, -⟩ | ⟨hE9, e3, e4⟩
    · exact absurd (hK9.symm.trans hk) (by decide)
    · rcases hE9 with ⟨-, hk⟩ | ⟨rfl, hk⟩
      · exact absurd (hK9.symm.trans hk) (by decide)
      · rw [e3, e4] at hW
        refine lv_istore (lv' := [(7, .int (-9000008)), (6, .int (0)), (0, .ref (ad 0)), (1, .int 6), (2, .int (nI t)), (3, .int (nI y)), (4, .ref (ad 2101)), (5, .ref (ad 2102))]) hx hb dL_undoes_16 hl (by decide) rfl (fun ls hl => ?_)
        refine lv_iload hx hb dL_undoes_18 (lv_at hl 1 rfl) ?_
        refine lv_if_ne (tgt := 63) hx hb dL_undoes_20 (by decide) (fun c9 => absurd (rfl) c9) (fun _ => ?_)
        refine lv_iload hx hb dL_undoes_23 (lv_at hl 0 rfl) ?_
        refine lv_ldc (v := (-9000008)) hx hb hown (hts (.constant RL 48 ((-9000008))) (by decide +kernel)) dL_undoes_25 ?_
        refine lv_icmp_ne (tgt := 61) hx hb dL_undoes_27 (by decide) (fun c9 => absurd (rfl) c9) (fun _ => ?_)
        refine lv_aload_n hx hb dL_undoes_30 rfl (lv_at hl 2 rfl) ?_
        refine lv_iconst (v := 5) hx hb dL_undoes_31 (by decide) ?_
        refine lv_iload_n hx hb dL_undoes_32 rfl (lv_at hl 4 rfl) ?_
        refine lv_iconst (v := 0) hx hb dL_undoes_33 (by decide) ?_
        refine lv_iconst (v := 0) hx hb dL_undoes_34 (by decide) ?_
        refine kk_i (vx_runSW (As := [.ref (ad 0), .int 5, .int (nI t), .int 0, .int 0]) (rest := []) ⟨hx, hb, hml, hown, hts⟩ (k_asks_undoTo l hnt D A ad w S nT nC nD nM nZ hC hN (nI t) 0 0) (vx_cwSW 5 hts gL_undoes_L_asks rfl rfl rfl (by decide +kernel) ⟨Nat.le_of_ble_eq_true rfl, Nat.le_of_ble_eq_true rfl⟩) (kSt hE hW _) rfl rfl hl.1 rfl (lv_room (Nat.le_of_ble_eq_true rfl)) dL_undoes_35 ⟨show 0 + 0 + 8 + 8 ≤ 120 by omega, show 0 + 0 + 60 + 60 ≤ 900 by omega⟩) hW (fun r50 ad47 w48 H51 locs hp49 hW => ?_)
        rcases hp49 with ⟨-, hk, -⟩ | ⟨hE9, e3, e4⟩
        · exact absurd (hK9.symm.trans hk) (by decide)
        · rcases hE9 with ⟨-, hk⟩ | ⟨rfl, hk⟩ | ⟨-, hk, -⟩
          · exact absurd (hK9.symm.trans hk) (by decide)
          · rw [e3, e4] at hW
            refine lv_ldc (v := (-9000008)) hx hb hown (hts (.constant RL 48 ((-9000008))) (by decide +kernel)) dL_undoes_38 ?_
            refine lv_icmp_ne (tgt := 61) hx hb dL_undoes_40 (by decide) (fun c9 => absurd (rfl) c9) (fun _ => ?_)
            refine lv_aload_n hx hb dL_undoes_43 rfl (lv_at hl 2 rfl) ?_
            refine lv_bipush (v := 6) hx hb dL_undoes_44 (by decide) ?_
            refine lv_iload_n hx hb dL_undoes_46 rfl (lv_at hl 4 rfl) ?_
            refine lv_iconst (v := 0) hx hb dL_undoes_47 (by decide) ?_
            refine lv_iconst (v := 0) hx hb dL_undoes_48 (by decide) ?_
            refine kk_i (vx_runSW (As := [.ref (ad 0), .int 6, .int (nI t), .int 0, .int 0]) (rest := []) ⟨hx, hb, hml, hown, hts⟩ (k_asks_undo l hnt D A ad w S nT nC nD nM nZ hC hN (nI t) 0 0) (vx_cwSW 5 hts gL_undoes_L_asks rfl rfl rfl (by decide +kernel) ⟨Nat.le_of_ble_eq_true rfl, Nat.le_of_ble_eq_true rfl⟩) (kSt hE hW _) rfl rfl hl.1 rfl (lv_room (Nat.le_of_ble_eq_true rfl)) dL_undoes_49 ⟨show 0 + 0 + 8 + 8 + 8 ≤ 120 by omega, show 0 + 0 + 60 + 60 + 60 ≤ 900 by omega⟩) hW (fun r55 ad52 w53 H56 locs hp54 hW => ?_)
            rcases hp54 with ⟨-, hk, -⟩ | ⟨hE9, e3, e4⟩
            · exact absurd (hK9.symm.trans hk) (by decide)
            · rcases hE9 with ⟨-, hk⟩ | ⟨rfl, hk⟩
              · exact absurd (hK9.symm.trans hk) (by decide)
              · rw [e3, e4] at hW
                refine lv_ldc (v := (-9000008)) hx hb hown (hts (.constant RL 48 ((-9000008))) (by decide +kernel)) dL_undoes_52 ?_
                refine lv_icmp_ne (tgt := 61) hx hb dL_undoes_54 (by decide) (fun c9 => absurd (rfl) c9) (fun _ => ?_)
                refine lv_iconst (v := 1) hx hb dL_undoes_57 (by decide) ?_
                refine lv_goto (tgt := 62) hx hb dL_undoes_58 (by decide) ?_
                exact ke_z hx hb hr hlocks (show 0 + 0 + 8 + 8 + 8 ≤ 120 by omega) (show 0 + 0 + 60 + 60 + 60 ≤ 900 by omega) dL_undoes_62 (by first | exact Or.inl rfl | exact Or.inr rfl | assumption) hW (⟨rfl, ⟨S, nT, nC, nD, nM, nZ, aF, cF, eF, hC, hN, hG, by omega, hA1, hA2, hA3, hAF, hCF, hEF⟩, rfl, rfl, rfl, rfl⟩)
          · exact absurd (hK9.symm.trans hk) (by decide)

