/-! the law: a step -/
set_option maxHeartbeats 4000000 in
set_option maxRecDepth 100000 in
/-- k_L_step -/
theorem k_L_step (l : Launch) (hnt : l.stackTraces = false) (D : va_G) (A : Nat → Prop) (ad : Nat → Nat) (w : kWd) (S : St) (nT nC nD nM nZ : Nat) (hC : CW D S ad w nT nC) (hN : SN S nT nC nD nM nZ) (hG : GI S nT nC nM) (aF : Nat → Int32) (hA1 : w 2101 = some (.inl (D.1 100, 60, .inl aF))) (hAF : AF S nT aF) (cF : Nat → Int32) (hA2 : w 2102 = some (.inl (D.1 100, 6, .inl cF))) (hCF : CF S cF) (eF : Nat → Int32) (hA3 : w 2103 = some (.inl (D.1 100, 61, .inl eF))) (r0 : Nat) (hr0 : r0 < 12) (hEF : EF S nM r0 eF) (q9 : Nat) (hq : nC ≤ q9) (hq9 : q9 < 512) (g x y : Nat) (hg9 : g < 23) (hx9 : x < 2 ^ 30) (hy9 : y < 2 ^ 30) : Met l yL_step wsL_step ({ frames := 11, cells := 393, slots := 3120, locals := 317 }) (kPc D A [.ref (ad 0), .int (nI g), .int (nI x), .int (nI y), .ref (ad 2101), .ref (ad 2102), .ref (ad 2103), .int (nI r0)] ad w) (kQi D A (fun v ad' w' => lkP D r0 q9 ad v ad' w')) 393 3120 A := by
  refine Met.ofW (cc := cL_step) (maxL := 14) (ret := (some (.boolean))) (by decide) rfl ?_
  intro p e s m args below meth c s₁ B hml hv
  obtain ⟨rfl, hE, hW0, hI0, hA⟩ := hv
  have hx := B.exec
  have hb := B.bytes
  have hr := B.returns
  have hts := atoms_spec (ws := wsL_step) B.pre
  have hown : s.vm.findClass RL = some m.cls := findClass_of_methodNamed B.named
  have hlocks := B.notSynchronized
  have hW : kS D A s.heap ad w s.heap [] := ⟨hW0, hI0, va_S.rf, hA⟩
  have hl := lv_entry ([.ref (ad 0), .int (nI g), .int (nI x), .int (nI y), .ref (ad 2101), .ref (ad 2102), .ref (ad 2103), .int (nI r0)]) (n := 14) (Nat.le_of_ble_eq_true rfl)
  rw [lg_entry_eq]
  generalize (lg_sl ([.ref (ad 0), .int (nI g), .int (nI x), .int (nI y), .ref (ad 2101), .ref (ad 2102), .ref (ad 2103), .int (nI r0)]) ++ List.replicate (14 - (lg_sl ([.ref (ad 0), .int (nI g), .int (nI x), .int (nI y), .ref (ad 2101), .ref (ad 2102), .ref (ad 2103), .int (nI r0)])).length) Slot.unset).toArray = ls at hl ⊢
  have hl : lv_has ls 14 [(0, .ref (ad 0)), (1, .int (nI g)), (2, .int (nI x)), (3, .int (nI y)), (4, .ref (ad 2101)), (5, .ref (ad 2102)), (6, .ref (ad 2103)), (7, .int (nI r0))] := hl
  have h60 := hN.2.2.2.2.2.1
  have h30 := hN.2.2.2.2.2.2.2.2.2.2.1
  have hM9 : nM ≤ 60 := Nat.le_trans hG.le h60
  have hM512 := hN.2.2.2.2.2.2.2.2.1
  refine lv_iload_n hx hb dL_step_0 rfl (lv_at hl 1 rfl) ?_
  refine lv_iconst (v := 3) hx hb dL_step_1 (by decide) ?_
  rcases Nat.lt_or_ge g 3 with h3 | h3
  · refine lv_icmp_lt (tgt := 12) hx hb dL_step_2 (by decide) (fun _ => ?_) (fun c9 => absurd (nI_lt (a := g) (b := 3) h3 (by omega)) c9)
    refine lv_aload_n hx hb dL_step_12 rfl (lv_at hl 0 rfl) ?_
    refine lv_iconst (v := 0) hx hb dL_step_13 (by decide) ?_
    refine lv_iconst (v := 0) hx hb dL_step_14 (by decide) ?_
    refine lv_iconst (v := 0) hx hb dL_step_15 (by decide) ?_
    refine lv_iconst (v := 0) hx hb dL_step_16 (by decide) ?_
    refine kk_i (vx_runSW (As := [.ref (ad 0), .int 0, .int 0, .int 0, .int 0]) (rest := []) ⟨hx, hb, hml, hown, hts⟩ (k_asks_begin l hnt D A ad w S nT nC nD nM nZ hC hN 0 0 0) (vx_cwSW 5 hts gL_step_L_asks rfl rfl rfl (by decide +kernel) ⟨Nat.le_of_ble_eq_true rfl, Nat.le_of_ble_eq_true rfl⟩) (kSt hE hW _) rfl rfl hl.1 rfl (lv_room (Nat.le_of_ble_eq_true rfl)) dL_step_17 ⟨show 0 + 8 ≤ 393 by omega, show 0 + 2060 ≤ 3120 by omega⟩) hW (fun r4 ad1 w2 H5 locs hp3 hW => ?_)
    rcases hp3 with ⟨e1, hk, hC2, h0, hF⟩ | ⟨hE9, e3, e4⟩
    · have h59 : nT < 60 := by
        rcases Nat.lt_or_ge nT 60 with h | h
        · exact h
        · exact absurd (((bgK_n hN).1 (by omega)).symm.trans hk) (by decide)
      have hN2 := hN.bg h59
      have hG2 := hG.bg hN
      have hcf2 : ∀ z, z = cF 1 + 1 → CF (bgM S) (upd cF 1 z) := fun z h => hCF.bg h
      have haf2 : ∀ z, z = 4 * S 11 0 → AF (bgM S) (nT + 1) (upd aF nT z) := fun z h => hAF.bg hN h
      have hef2 : EF (bgM S) nM r0 eF := hEF.cg (fun _ _ => ver_bg)
      generalize bgM S = S2 at hC2 hN2 hG2 hcf2 haf2 hef2
      subst e1
      have a6 : ad1 0 = ad 0 := h0
      have a7 : ad1 2101 = ad 2101 := (hF 2101 (by decide)).2
      have a8 : ad1 2102 = ad 2102 := (hF 2102 (by decide)).2
      have a9 : ad1 2103 = ad 2103 := (hF 2103 (by decide)).2
      rw [← a6, ← a7, ← a8, ← a9] at hl
      have f10 := ((hF 2101 (by decide)).1).trans hA1
      have f11 := ((hF 2102 (by decide)).1).trans hA2
      have f12 := ((hF 2103 (by decide)).1).trans hA3
      refine lv_istore (lv' := [(8, .int (S 12 0)), (0, .ref (ad1 0)), (1, .int (nI g)), (2, .int (nI x)), (3, .int (nI y)), (4, .ref (ad1 2101)), (5, .ref (ad1 2102)), (6, .ref (ad1 2103)), (7, .int (nI r0))]) hx hb dL_step_20 hl (by decide) rfl (fun ls hl => ?_)
      refine lv_aload hx hb dL_step_22 (lv_at hl 6 rfl) ?_
      refine lv_iconst (v := 1) hx hb dL_step_24 (by decide) ?_
      refine kk_iald hx hb hE hW f11 (by unfold vp_in; decide) dL_step_25 ?_
      rw [show cF (nv 1) = nI nT from hCF.2.1.trans hN.1]
      refine lv_bipush (v := 60) hx hb dL_step_26 (by decide) ?_
      refine lv_icmp_ne (tgt := 44) hx hb dL_step_28 (by decide) (fun _ => ?_) (fun c9 => absurd c9 (fun q => absurd (nI_inj (a := nT) (b := 60) (by omega) (by omega) q) (by omega)))
      refine lv_aload hx hb dL_step_44 (lv_at hl 5 rfl) ?_
      refine lv_aload hx hb dL_step_46 (lv_at hl 6 rfl) ?_
      refine lv_iconst (v := 1) hx hb dL_step_48 (by decide) ?_
      refine kk_iald hx hb hE hW f11 (by unfold vp_in; decide) dL_step_49 ?_
      rw [show cF (nv 1) = nI nT from hCF.2.1.trans hN.1]
      refine lv_iconst (v := 4) hx hb dL_step_50 (by decide) ?_
      refine lv_aload hx hb dL_step_51 (lv_at hl 6 rfl) ?_
      refine lv_iconst (v := 0) hx hb dL_step_53 (by decide) ?_
      refine kk_iald hx hb hE hW f11 (by unfold vp_in; decide) dL_step_54 ?_
      rw [show cF (nv 0) = S 11 0 from hCF.1]
      refine lv_imul hx hb dL_step_55 ?_
      refine kk_iast hx hb hE hW f10 (vp_in_nI h59 (by decide)) dL_step_56 (fun H15 locs w13 e14 hW => ?_)
      rw [show Int32.toNatClampNeg (nI nT) = nT from nI_clamp (by omega)] at e14
      have f16 := (up_n e14 (by decide)).trans f11
      have f17 := (up_n e14 (by decide)).trans f12
      have f18 := up_s e14
      have hC19 := hC2.fr hN2 (fun k hk => up_n e14 (by omega)) (fun _ _ => rfl)
      refine lv_aload hx hb dL_step_57 (lv_at hl 6 rfl) ?_
      refine lv_iconst (v := 1) hx hb dL_step_59 (by decide) ?_
      refine lv_dup2_11 hx hb dL_step_60 rfl rfl ?_
      refine kk_iald hx hb hE hW f16 (by unfold vp_in; decide) dL_step_61 ?_
      rw [show cF (nv 1) = cF 1 from rfl]
      refine lv_iconst (v := 1) hx hb dL_step_62 (by decide) ?_
      refine lv_iadd hx hb dL_step_63 ?_
      refine kk_iast hx hb hE hW f16 (by unfold vp_in; decide) dL_step_64 (fun H22 locs w20 e21 hW => ?_)
      rw [show Int32.toNatClampNeg 1 = 1 from rfl] at e21
      have f23 := (up_n e21 (by decide)).trans f17
      have f24 := (up_n e21 (by decide)).trans f18
      have f25 := up_s e21
      have hC26 := hC19.fr hN2 (fun k hk => up_n e21 (by omega)) (fun _ _ => rfl)
      refine lv_iload hx hb dL_step_65 (lv_at hl 0 rfl) ?_
      refine lv_aload hx hb dL_step_67 (lv_at hl 6 rfl) ?_
      refine lv_iconst (v := 1) hx hb dL_step_69 (by decide) ?_
      refine kk_iald hx hb hE hW f25 (by unfold vp_in; decide) dL_step_70 ?_
      rw [show (upd (cF) 1 ((cF 1) + 1)) (nv 1) = cF 1 + 1 from (show (upd (cF) 1 ((cF 1) + 1)) (nv 1) = cF 1 + 1 from upd_s)]
      refine lv_iconst (v := 1) hx hb dL_step_71 (by decide) ?_
      refine lv_isub hx hb dL_step_72 ?_
      refine lv_icmp_ne (tgt := 80) hx hb dL_step_73 (by decide) (fun c9 => absurd (by rw [hCF.2.1, Int32.add_sub_cancel]) c9) (fun _ => ?_)
      refine lv_iconst (v := 1) hx hb dL_step_76 (by decide) ?_
      refine lv_goto (tgt := 81) hx hb dL_step_77 (by decide) ?_
      exact ke_z hx hb hr hlocks (show 0 + 8 ≤ 393 by omega) (show 0 + 2060 ≤ 3120 by omega) dL_step_81 (by first | exact Or.inl rfl | exact Or.inr rfl | assumption) hW (⟨rfl, ⟨S2, nT + 1, nC, nD, nM, nZ, (upd (aF) nT (4 * (S 11 0))), (upd (cF) 1 ((cF 1) + 1)), eF, hC26, hN2, hG2, by omega, f24, f25, f23, haf2 _ rfl, hcf2 _ rfl, hef2⟩, h0, (hF 2101 (by decide)).2, (hF 2102 (by decide)).2, (hF 2103 (by decide)).2⟩)
    · rw [e3, e4] at hW
      obtain ⟨rfl, hk⟩ := hE9
      have h59 : nT = 60 := by
        rcases Nat.lt_or_ge nT 60 with h | h
        · exact absurd (((bgK_n hN).2 h).symm.trans hk) (by decide)
        · omega
      refine lv_istore (lv' := [(8, .int (-9000008)), (0, .ref (ad 0)), (1, .int (nI g)), (2, .int (nI x)), (3, .int (nI y)), (4, .ref (ad 2101)), (5, .ref (ad 2102)), (6, .ref (ad 2103)), (7, .int (nI r0))]) hx hb dL_step_20 hl (by decide) rfl (fun ls hl => ?_)
      refine lv_aload hx hb dL_step_22 (lv_at hl 6 rfl) ?_
      refine lv_iconst (v := 1) hx hb dL_step_24 (by decide) ?_
      refine kk_iald hx hb hE hW hA2 (by unfold vp_in; decide) dL_step_25 ?_
      rw [show cF (nv 1) = nI nT from hCF.2.1.trans hN.1]
      refine lv_bipush (v := 60) hx hb dL_step_26 (by decide) ?_
      refine lv_icmp_ne (tgt := 44) hx hb dL_step_28 (by decide) (fun c9 => absurd (congrArg nI h59) c9) (fun _ => ?_)
      refine lv_iload hx hb dL_step_31 (lv_at hl 0 rfl) ?_
      refine lv_ldc (v := (-9000008)) hx hb hown (hts (.constant RL 48 ((-9000008))) (by decide +kernel)) dL_step_33 ?_
      refine lv_icmp_ne (tgt := 42) hx hb dL_step_35 (by decide) (fun c9 => absurd (rfl) c9) (fun _ => ?_)
      refine lv_iconst (v := 1) hx hb dL_step_38 (by decide) ?_
      refine lv_goto (tgt := 43) hx hb dL_step_39 (by decide) ?_
      exact ke_z hx hb hr hlocks (show 0 + 8 ≤ 393 by omega) (show 0 + 2060 ≤ 3120 by omega) dL_step_43 (by first | exact Or.inl rfl | exact Or.inr rfl | assumption) hW (⟨rfl, ⟨S, nT, nC, nD, nM, nZ, aF, cF, eF, hC, hN, hG, by omega, hA1, hA2, hA3, hAF, hCF, hEF⟩, rfl, rfl, rfl, rfl⟩)
  · refine lv_icmp_lt (tgt := 12) hx hb dL_step_2 (by decide) (fun c9 => absurd c9 (nI_nlt (a := g) (b := 3) h3 (by omega))) (fun _ => ?_)
    refine lv_aload hx hb dL_step_5 (lv_at hl 5 rfl) ?_
    refine lv_iconst (v := 1) hx hb dL_step_7 (by decide) ?_
    refine kk_iald hx hb hE hW hA2 (by unfold vp_in; decide) dL_step_8 ?_
    rw [show cF (nv 1) = nI nT from hCF.2.1.trans hN.1]
    rcases Nat.eq_zero_or_pos nT with hT9 | hT9
    · refine lv_if_ne (tgt := 82) hx hb dL_step_9 (by decide) (fun c9 => absurd (congrArg nI hT9) c9) (fun _ => ?_)
      refine lv_aload_n hx hb dL_step_12 rfl (lv_at hl 0 rfl) ?_
      refine lv_iconst (v := 0) hx hb dL_step_13 (by decide) ?_
      refine lv_iconst (v := 0) hx hb dL_step_14 (by decide) ?_
      refine lv_iconst (v := 0) hx hb dL_step_15 (by decide) ?_
      refine lv_iconst (v := 0) hx hb dL_step_16 (by decide) ?_
      refine kk_i (vx_runSW (As := [.ref (ad 0), .int 0, .int 0, .int 0, .int 0]) (rest := []) ⟨hx, hb, hml, hown, hts⟩ (k_asks_begin l hnt D A ad w S nT nC nD nM nZ hC hN 0 0 0) (vx_cwSW 5 hts gL_step_L_asks rfl rfl rfl (by decide +kernel) ⟨Nat.le_of_ble_eq_true rfl, Nat.le_of_ble_eq_true rfl⟩) (kSt hE hW _) rfl rfl hl.1 rfl (lv_room (Nat.le_of_ble_eq_true rfl)) dL_step_17 ⟨show 0 + 8 ≤ 393 by omega, show 0 + 2060 ≤ 3120 by omega⟩) hW (fun r30 ad27 w28 H31 locs hp29 hW => ?_)
      rcases hp29 with ⟨e1, hk, hC2, h0, hF⟩ | ⟨hE9, e3, e4⟩
      · have h59 : nT < 60 := by
          rcases Nat.lt_or_ge nT 60 with h | h
          · exact h
          · exact absurd (((bgK_n hN).1 (by omega)).symm.trans hk) (by decide)
        have hN2 := hN.bg h59
        have hG2 := hG.bg hN
        have hcf2 : ∀ z, z = cF 1 + 1 → CF (bgM S) (upd cF 1 z) := fun z h => hCF.bg h
        have haf2 : ∀ z, z = 4 * S 11 0 → AF (bgM S) (nT + 1) (upd aF nT z) := fun z h => hAF.bg hN h
        have hef2 : EF (bgM S) nM r0 eF := hEF.cg (fun _ _ => ver_bg)
        generalize bgM S = S2 at hC2 hN2 hG2 hcf2 haf2 hef2
        subst e1
        have a32 : ad27 0 = ad 0 := h0
        have a33 : ad27 2101 = ad 2101 := (hF 2101 (by decide)).2
        have a34 : ad27 2102 = ad 2102 := (hF 2102 (by decide)).2
        have a35 : ad27 2103 = ad 2103 := (hF 2103 (by decide)).2
        rw [← a32, ← a33, ← a34, ← a35] at hl
        have f36 := ((hF 2101 (by decide)).1).trans hA1
        have f37 := ((hF 2102 (by decide)).1).trans hA2
        have f38 := ((hF 2103 (by decide)).1).trans hA3
        refine lv_istore (lv' := [(8, .int (S 12 0)), (0, .ref (ad27 0)), (1, .int (nI g)), (2, .int (nI x)), (3, .int (nI y)), (4, .ref (ad27 2101)), (5, .ref (ad27 2102)), (6, .ref (ad27 2103)), (7, .int (nI r0))]) hx hb dL_step_20 hl (by decide) rfl (fun ls hl => ?_)
        refine lv_aload hx hb dL_step_22 (lv_at hl 6 rfl) ?_
        refine lv_iconst (v := 1) hx hb dL_step_24 (by decide) ?_
        refine kk_iald hx hb hE hW f37 (by unfold vp_in; decide) dL_step_25 ?_
        rw [show cF (nv 1) = nI nT from hCF.2.1.trans hN.1]
        refine lv_bipush (v := 60) hx hb dL_step_26 (by decide) ?_
        refine lv_icmp_ne (tgt := 44) hx hb dL_step_28 (by decide) (fun _ => ?_) (fun c9 => absurd c9 (fun q => absurd (nI_inj (a := nT) (b := 60) (by omega) (by omega) q) (by omega)))
        refine lv_aload hx hb dL_step_44 (lv_at hl 5 rfl) ?_
        refine lv_aload hx hb dL_step_46 (lv_at hl 6 rfl) ?_
        refine lv_iconst (v := 1) hx hb dL_step_48 (by decide) ?_
        refine kk_iald hx hb hE hW f37 (by unfold vp_in; decide) dL_step_49 ?_
        rw [show cF (nv 1) = nI nT from hCF.2.1.trans hN.1]
        refine lv_iconst (v := 4) hx hb dL_step_50 (by decide) ?_
        refine lv_aload hx hb dL_step_51 (lv_at hl 6 rfl) ?_
        refine lv_iconst (v := 0) hx hb dL_step_53 (by decide) ?_
        refine kk_iald hx hb hE hW f37 (by unfold vp_in; decide) dL_step_54 ?_
        rw [show cF (nv 0) = S 11 0 from hCF.1]
        refine lv_imul hx hb dL_step_55 ?_
        refine kk_iast hx hb hE hW f36 (vp_in_nI h59 (by decide)) dL_step_56 (fun H41 locs w39 e40 hW => ?_)
        rw [show Int32.toNatClampNeg (nI nT) = nT from nI_clamp (by omega)] at e40
        have f42 := (up_n e40 (by decide)).trans f37
        have f43 := (up_n e40 (by decide)).trans f38
        have f44 := up_s e40
        have hC45 := hC2.fr hN2 (fun k hk => up_n e40 (by omega)) (fun _ _ => rfl)
        refine lv_aload hx hb dL_step_57 (lv_at hl 6 rfl) ?_
        refine lv_iconst (v := 1) hx hb dL_step_59 (by decide) ?_
        refine lv_dup2_11 hx hb dL_step_60 rfl rfl ?_
        refine kk_iald hx hb hE hW f42 (by unfold vp_in; decide) dL_step_61 ?_
        rw [show cF (nv 1) = cF 1 from rfl]
        refine lv_iconst (v := 1) hx hb dL_step_62 (by decide) ?_
        refine lv_iadd hx hb dL_step_63 ?_
        refine kk_iast hx hb hE hW f42 (by unfold vp_in; decide) dL_step_64 (fun H48 locs w46 e47 hW => ?_)
        rw [show Int32.toNatClampNeg 1 = 1 from rfl] at e47
        have f49 := (up_n e47 (by decide)).trans f43
        have f50 := (up_n e47 (by decide)).trans f44
        have f51 := up_s e47
        have hC52 := hC45.fr hN2 (fun k hk => up_n e47 (by omega)) (fun _ _ => rfl)
        refine lv_iload hx hb dL_step_65 (lv_at hl 0 rfl) ?_
        refine lv_aload hx hb dL_step_67 (lv_at hl 6 rfl) ?_
        refine lv_iconst (v := 1) hx hb dL_step_69 (by decide) ?_
        refine kk_iald hx hb hE hW f51 (by unfold vp_in; decide) dL_step_70 ?_
        rw [show (upd (cF) 1 ((cF 1) + 1)) (nv 1) = cF 1 + 1 from (show (upd (cF) 1 ((cF 1) + 1)) (nv 1) = cF 1 + 1 from upd_s)]
        refine lv_iconst (v := 1) hx hb dL_step_71 (by decide) ?_
        refine lv_isub hx hb dL_step_72 ?_
        refine lv_icmp_ne (tgt := 80) hx hb dL_step_73 (by decide) (fun c9 => absurd (by rw [hCF.2.1, Int32.add_sub_cancel]) c9) (fun _ => ?_)
        refine lv_iconst (v := 1) hx hb dL_step_76 (by decide) ?_
        refine lv_goto (tgt := 81) hx hb dL_step_77 (by decide) ?_
        exact ke_z hx hb hr hlocks (show 0 + 8 ≤ 393 by omega) (show 0 + 2060 ≤ 3120 by omega) dL_step_81 (by first | exact Or.inl rfl | exact Or.inr rfl | assumption) hW (⟨rfl, ⟨S2, nT + 1, nC, nD, nM, nZ, (upd (aF) nT (4 * (S 11 0))), (upd (cF) 1 ((cF 1) + 1)), eF, hC52, hN2, hG2, by omega, f50, f51, f49, haf2 _ rfl, hcf2 _ rfl, hef2⟩, h0, (hF 2101 (by decide)).2, (hF 2102 (by decide)).2, (hF 2103 (by decide)).2⟩)
      · rw [e3, e4] at hW
        obtain ⟨rfl, hk⟩ := hE9
        have h59 : nT = 60 := by
          rcases Nat.lt_or_ge nT 60 with h | h
          · exact absurd (((bgK_n hN).2 h).symm.trans hk) (by decide)
          · omega
        refine lv_istore (lv' := [(8, .int (-9000008)), (0, .ref (ad 0)), (1, .int (nI g)), (2, .int (nI x)), (3, .int (nI y)), (4, .ref (ad 2101)), (5, .ref (ad 2102)), (6, .ref (ad 2103)), (7, .int (nI r0))]) hx hb dL_step_20 hl (by decide) rfl (fun ls hl => ?_)
        refine lv_aload hx hb dL_step_22 (lv_at hl 6 rfl) ?_
        refine lv_iconst (v := 1) hx hb dL_step_24 (by decide) ?_
        refine kk_iald hx hb hE hW hA2 (by unfold vp_in; decide) dL_step_25 ?_
        rw [show cF (nv 1) = nI nT from hCF.2.1.trans hN.1]
        refine lv_bipush (v := 60) hx hb dL_step_26 (by decide) ?_
        refine lv_icmp_ne (tgt := 44) hx hb dL_step_28 (by decide) (fun c9 => absurd (congrArg nI h59) c9) (fun _ => ?_)
        refine lv_iload hx hb dL_step_31 (lv_at hl 0 rfl) ?_
        refine lv_ldc (v := (-9000008)) hx hb hown (hts (.constant RL 48 ((-9000008))) (by decide +kernel)) dL_step_33 ?_
        refine lv_icmp_ne (tgt := 42) hx hb dL_step_35 (by decide) (fun c9 => absurd (rfl) c9) (fun _ => ?_)
        refine lv_iconst (v := 1) hx hb dL_step_38 (by decide) ?_
        refine lv_goto (tgt := 43) hx hb dL_step_39 (by decide) ?_
        exact ke_z hx hb hr hlocks (show 0 + 8 ≤ 393 by omega) (show 0 + 2060 ≤ 3120 by omega) dL_step_43 (by first | exact Or.inl rfl | exact Or.inr rfl | assumption) hW (⟨rfl, ⟨S, nT, nC, nD, nM, nZ, aF, cF, eF, hC, hN, hG, by omega, hA1, hA2, hA3, hAF, hCF, hEF⟩, rfl, rfl, rfl, rfl⟩)
    · refine lv_if_ne (tgt := 82) hx hb dL_step_9 (by decide) (fun _ => ?_) (fun c9 => absurd c9 (nI_ne0 hT9 (by omega)))
      have h1T : 1 ≤ nT := hT9
      refine W_joinC (D := D) (A := A) (w := w) (ad := ad) (P := fun v => ∃ t, t < nT ∧ v = nI t) (pj := 126) (rj := []) (lj := ls) (c1 := 0 + 0) (s1 := 0 + 0) (fun v9 H53 locs hv9 hW => ?_) (fun J126 => ?_)
      · obtain ⟨t, ht, rfl⟩ := hv9
        refine lv_istore (lv' := [(8, .int (nI t)), (0, .ref (ad 0)), (1, .int (nI g)), (2, .int (nI x)), (3, .int (nI y)), (4, .ref (ad 2101)), (5, .ref (ad 2102)), (6, .ref (ad 2103)), (7, .int (nI r0))]) hx hb dL_step_126 hl (by decide) rfl (fun ls hl => ?_)
        refine lv_iload_n hx hb dL_step_128 rfl (lv_at hl 4 rfl) ?_
        refine lv_iconst (v := 3) hx hb dL_step_129 (by decide) ?_
        refine W_joinC (D := D) (A := A) (w := w) (ad := ad) (P := fun v => ∃ j, j < 12 ∧ v = nI j) (pj := 149) (rj := []) (lj := ls) (c1 := 0 + 0 + 0) (s1 := 0 + 0 + 0) (fun v9 H54 locs hv9 hW => ?_) (fun J149 => ?_)
        · obtain ⟨j, hj, rfl⟩ := hv9
          refine lv_istore (lv' := [(9, .int (nI j)), (8, .int (nI t)), (0, .ref (ad 0)), (1, .int (nI g)), (2, .int (nI x)), (3, .int (nI y)), (4, .ref (ad 2101)), (5, .ref (ad 2102)), (6, .ref (ad 2103)), (7, .int (nI r0))]) hx hb dL_step_149 hl (by decide) rfl (fun ls hl => ?_)
          refine lv_iload_n hx hb dL_step_151 rfl (lv_at hl 3 rfl) ?_
          refine lv_bipush (v := 10) hx hb dL_step_152 (by decide) ?_
          rcases (show g < 10 ∨ (10 ≤ g ∧ g < 15) ∨ (15 ≤ g ∧ g < 18) ∨ (18 ≤ g ∧ g < 22) ∨ 22 ≤ g by omega) with h10 | ⟨h10, h15⟩ | ⟨h15, h18⟩ | ⟨h18, h22⟩ | h22
          · refine lv_icmp_ge (tgt := 182) hx hb dL_step_154 (by decide) (fun c9 => absurd c9 (nI_ge (a := g) (b := 10) (by omega) (by omega))) (fun _ => ?_)
            refine lv_aload_n hx hb dL_step_157 rfl (lv_at hl 2 rfl) ?_
            refine lv_iload hx hb dL_step_158 (lv_at hl 1 rfl) ?_
            refine lv_iload hx hb dL_step_160 (lv_at hl 0 rfl) ?_
            refine lv_iload_n hx hb dL_step_162 rfl (lv_at hl 5 rfl) ?_
            refine lv_bipush (v := 36) hx hb dL_step_163 (by decide) ?_
            refine lv_idiv hx hb dL_step_165 (by decide) ?_
            rw [show nI y / 36 = nI (y / 36) from pk_div (a := y) (d := 36) (by omega) (by omega) (by omega)]
            refine lv_sipush (v := 2000) hx hb dL_step_166 (by decide) ?_
            refine lv_irem hx hb dL_step_169 (by decide) ?_
            rw [show nI (y / 36) - nI (y / 36) / 2000 * 2000 = nI ((y / 36) % 2000) from pk_rem (a := (y / 36)) (d := 2000) (by omega) (by omega) (by omega)]
            refine lv_sipush (v := 1000) hx hb dL_step_170 (by decide) ?_
            refine lv_isub hx hb dL_step_173 ?_
            refine lv_aload hx hb dL_step_174 (lv_at hl 6 rfl) ?_
            refine lv_aload hx hb dL_step_176 (lv_at hl 7 rfl) ?_
            refine kk_i (va_runS (As := [.ref (ad 0), .int (nI t), .int (nI j), .int ((nI ((y / 36) % 2000)) - 1000), .ref (ad 2101), .ref (ad 2102)]) (rest := []) ⟨hx, hb, hml, hown, hts⟩ (k_L_writes l hnt D A ad w S nT nC nD nM nZ hC hN hG aF hA1 hAF cF hA2 hCF eF hA3 r0 hr0 hEF q9 hq hq9 t ht j hj (nI (y / 36 % 2000) - 1000) (lw_val (Nat.mod_lt _ (by omega)))) (va_cwS 6 hts gL_step_L_writes rfl rfl rfl (by decide +kernel) ⟨Nat.le_of_ble_eq_true rfl, Nat.le_of_ble_eq_true rfl⟩) (kSt hE hW _) rfl rfl hl.1 rfl (lv_room (Nat.le_of_ble_eq_true rfl)) dL_step_178 ⟨show 0 + 0 + 0 + 146 ≤ 393 by omega, show 0 + 0 + 0 + 3120 ≤ 3120 by omega⟩) hW (fun r58 ad55 w56 H59 locs hp57 hW => ?_)
            obtain ⟨e9, hX9, ha9⟩ := hp57
            subst e9
            exact ke_z hx hb hr hlocks (show 0 + 0 + 0 + 146 ≤ 393 by omega) (show 0 + 0 + 0 + 3120 ≤ 3120 by omega) dL_step_181 (Or.inr rfl) hW (⟨rfl, hX9, ha9⟩)
          · refine lv_icmp_ge (tgt := 182) hx hb dL_step_154 (by decide) (fun _ => ?_) (fun c9 => absurd (nI_le (a := 10) (b := g) (by omega) (by omega)) c9)
            refine lv_iload_n hx hb dL_step_182 rfl (lv_at hl 3 rfl) ?_
            refine lv_bipush (v := 15) hx hb dL_step_183 (by decide) ?_
            refine lv_icmp_ge (tgt := 226) hx hb dL_step_185 (by decide) (fun c9 => absurd c9 (nI_ge (a := g) (b := 15) (by omega) (by omega))) (fun _ => ?_)
            refine lv_aload_n hx hb dL_step_188 rfl (lv_at hl 2 rfl) ?_
            refine lv_iload_n hx hb dL_step_189 rfl (lv_at hl 3 rfl) ?_
            refine lv_iconst (v := 2) hx hb dL_step_190 (by decide) ?_
            refine lv_irem hx hb dL_step_191 (by decide) ?_
            rw [show nI g - nI g / 2 * 2 = nI (g % 2) from pk_rem (a := g) (d := 2) (by omega) (by omega) (by omega)]
            refine lv_iconst (v := 2) hx hb dL_step_192 (by decide) ?_
            refine lv_iadd hx hb dL_step_193 ?_
            rcases (show g % 2 = 0 ∨ g % 2 = 1 by omega) with h2 | h2
            · rw [show nI (g % 2) + 2 = 2 from by rw [h2]; rfl]
              refine lv_iload_n hx hb dL_step_194 rfl (lv_at hl 3 rfl) ?_
              refine lv_iconst (v := 2) hx hb dL_step_195 (by decide) ?_
              refine lv_irem hx hb dL_step_196 (by decide) ?_
              rw [show nI g - nI g / 2 * 2 = nI (g % 2) from pk_rem (a := g) (d := 2) (by omega) (by omega) (by omega)]
              rw [show nI (g % 2) = 0 from by rw [h2]; rfl]
              refine lv_if_ne (tgt := 205) hx hb dL_step_197 (by decide) (fun c9 => absurd (rfl) c9) (fun _ => ?_)
              refine lv_iload hx hb dL_step_200 (lv_at hl 1 rfl) ?_
              refine lv_goto (tgt := 216) hx hb dL_step_202 (by decide) ?_
              refine lv_iload hx hb dL_step_216 (lv_at hl 0 rfl) ?_
              refine lv_aload hx hb dL_step_218 (lv_at hl 6 rfl) ?_
              refine lv_aload hx hb dL_step_220 (lv_at hl 7 rfl) ?_
              refine kk_i (va_runS (As := [.ref (ad 0), .int (2), .int (nI t), .int (nI j), .ref (ad 2101), .ref (ad 2102)]) (rest := []) ⟨hx, hb, hml, hown, hts⟩ (k_L_reads2 l hnt D A ad w S nT nC nD nM nZ hC hN hG aF hA1 hAF cF hA2 hCF eF hA3 r0 hr0 hEF q9 hq hq9 t ht j hj) (va_cwS 6 hts gL_step_L_reads rfl rfl rfl (by decide +kernel) ⟨Nat.le_of_ble_eq_true rfl, Nat.le_of_ble_eq_true rfl⟩) (kSt hE hW _) rfl rfl hl.1 rfl (lv_room (Nat.le_of_ble_eq_true rfl)) dL_step_222 ⟨show 0 + 0 + 0 + 88 ≤ 393 by omega, show 0 + 0 + 0 + 660 ≤ 3120 by omega⟩) hW (fun r63 ad60 w61 H64 locs hp62 hW => ?_)
              obtain ⟨e9, hX9, ha9⟩ := hp62
              subst e9
              exact ke_z hx hb hr hlocks (show 0 + 0 + 0 + 88 ≤ 393 by omega) (show 0 + 0 + 0 + 660 ≤ 3120 by omega) dL_step_225 (Or.inr rfl) hW (⟨rfl, hX9, ha9⟩)
            · rw [show nI (g % 2) + 2 = 3 from by rw [h2]; rfl]
              refine lv_iload_n hx hb dL_step_194 rfl (lv_at hl 3 rfl) ?_
              refine lv_iconst (v := 2) hx hb dL_step_195 (by decide) ?_
              refine lv_irem hx hb dL_step_196 (by decide) ?_
              rw [show nI g - nI g / 2 * 2 = nI (g % 2) from pk_rem (a := g) (d := 2) (by omega) (by omega) (by omega)]
              rw [show nI (g % 2) = 1 from by rw [h2]; rfl]
              refine lv_if_ne (tgt := 205) hx hb dL_step_197 (by decide) (fun _ => ?_) (fun c9 => absurd c9 (by decide))
              refine lv_iload_n hx hb dL_step_205 rfl (lv_at hl 5 rfl) ?_
              refine lv_bipush (v := 36) hx hb dL_step_206 (by decide) ?_
              refine lv_idiv hx hb dL_step_208 (by decide) ?_
              rw [show nI y / 36 = nI (y / 36) from pk_div (a := y) (d := 36) (by omega) (by omega) (by omega)]
              refine lv_aload hx hb dL_step_209 (lv_at hl 7 rfl) ?_
              refine lv_iconst (v := 0) hx hb dL_step_211 (by decide) ?_
              refine kk_iald hx hb hE hW hA2 (by unfold vp_in; decide) dL_step_212 ?_
              rw [show cF (nv 0) = nI nM from hCF.1.trans hN.2.2.2.1]
              refine lv_iconst (v := 1) hx hb dL_step_213 (by decide) ?_
              refine lv_iadd hx hb dL_step_214 ?_
              rw [show nI nM + 1 = nI (nM + 1) from nI_1 _]
              refine lv_irem hx hb dL_step_215 (nI_ne0 (by omega) (by omega)) ?_
              rw [show nI (y / 36) - nI (y / 36) / nI (nM + 1) * nI (nM + 1) = nI ((y / 36) % (nM + 1)) from pk_rem (a := (y / 36)) (d := (nM + 1)) (by omega) (by omega) (by omega)]
              refine lv_iload hx hb dL_step_216 (lv_at hl 0 rfl) ?_
              refine lv_aload hx hb dL_step_218 (lv_at hl 6 rfl) ?_
              refine lv_aload hx hb dL_step_220 (lv_at hl 7 rfl) ?_
              refine kk_i (va_runS (As := [.ref (ad 0), .int (3), .int (nI ((y / 36) % (nM + 1))), .int (nI j), .ref (ad 2101), .ref (ad 2102)]) (rest := []) ⟨hx, hb, hml, hown, hts⟩ (k_L_reads3 l hnt D A ad w S nT nC nD nM nZ hC hN hG aF hA1 hAF cF hA2 hCF eF hA3 r0 hr0 hEF q9 hq hq9 (y / 36 % (nM + 1)) (Nat.le_of_lt_succ (Nat.mod_lt _ (by omega))) j hj) (va_cwS 6 hts gL_step_L_reads rfl rfl rfl (by decide +kernel) ⟨Nat.le_of_ble_eq_true rfl, Nat.le_of_ble_eq_true rfl⟩) (kSt hE hW _) rfl rfl hl.1 rfl (lv_room (Nat.le_of_ble_eq_true rfl)) dL_step_222 ⟨show 0 + 0 + 0 + 88 ≤ 393 by omega, show 0 + 0 + 0 + 660 ≤ 3120 by omega⟩) hW (fun r68 ad65 w66 H69 locs hp67 hW => ?_)
              obtain ⟨e9, hX9, ha9⟩ := hp67
              subst e9
              exact ke_z hx hb hr hlocks (show 0 + 0 + 0 + 88 ≤ 393 by omega) (show 0 + 0 + 0 + 660 ≤ 3120 by omega) dL_step_225 (Or.inr rfl) hW (⟨rfl, hX9, ha9⟩)
          · refine lv_icmp_ge (tgt := 182) hx hb dL_step_154 (by decide) (fun _ => ?_) (fun c9 => absurd (nI_le (a := 10) (b := g) (by omega) (by omega)) c9)
            refine lv_iload_n hx hb dL_step_182 rfl (lv_at hl 3 rfl) ?_
            refine lv_bipush (v := 15) hx hb dL_step_183 (by decide) ?_
            refine lv_icmp_ge (tgt := 226) hx hb dL_step_185 (by decide) (fun _ => ?_) (fun c9 => absurd (nI_le (a := 15) (b := g) (by omega) (by omega)) c9)
            refine lv_iload_n hx hb dL_step_226 rfl (lv_at hl 3 rfl) ?_
            refine lv_bipush (v := 18) hx hb dL_step_227 (by decide) ?_
            refine lv_icmp_ge (tgt := 256) hx hb dL_step_229 (by decide) (fun c9 => absurd c9 (nI_ge (a := g) (b := 18) (by omega) (by omega))) (fun _ => ?_)
            refine lv_aload_n hx hb dL_step_232 rfl (lv_at hl 2 rfl) ?_
            refine lv_iload_n hx hb dL_step_233 rfl (lv_at hl 3 rfl) ?_
            refine lv_bipush (v := 17) hx hb dL_step_234 (by decide) ?_
            rcases (show g < 17 ∨ 17 ≤ g by omega) with h2 | h2
            · refine lv_icmp_ge (tgt := 243) hx hb dL_step_236 (by decide) (fun c9 => absurd c9 (nI_ge (a := g) (b := 17) (by omega) (by omega))) (fun _ => ?_)
              refine lv_iconst (v := 5) hx hb dL_step_239 (by decide) ?_
              refine lv_goto (tgt := 245) hx hb dL_step_240 (by decide) ?_
              refine lv_iload hx hb dL_step_245 (lv_at hl 1 rfl) ?_
              refine lv_iload_n hx hb dL_step_247 rfl (lv_at hl 5 rfl) ?_
              refine lv_aload hx hb dL_step_248 (lv_at hl 6 rfl) ?_
              refine lv_aload hx hb dL_step_250 (lv_at hl 7 rfl) ?_
              refine kk_i (va_runS (As := [.ref (ad 0), .int 5, .int (nI t), .int (nI y), .ref (ad 2101), .ref (ad 2102)]) (rest := []) ⟨hx, hb, hml, hown, hts⟩ (k_L_undoes5 l hnt D A ad w S nT nC nD nM nZ hC hN hG aF hA1 hAF cF hA2 hCF eF hA3 r0 hr0 hEF q9 hq hq9 t ht y hy9) (va_cwS 6 hts gL_step_L_undoes rfl rfl rfl (by decide +kernel) ⟨Nat.le_of_ble_eq_true rfl, Nat.le_of_ble_eq_true rfl⟩) (kSt hE hW _) rfl rfl hl.1 rfl (lv_room (Nat.le_of_ble_eq_true rfl)) dL_step_252 ⟨show 0 + 0 + 0 + 120 ≤ 393 by omega, show 0 + 0 + 0 + 900 ≤ 3120 by omega⟩) hW (fun r73 ad70 w71 H74 locs hp72 hW => ?_)
              obtain ⟨e9, hX9, ha9⟩ := hp72
              subst e9
              exact ke_z hx hb hr hlocks (show 0 + 0 + 0 + 120 ≤ 393 by omega) (show 0 + 0 + 0 + 900 ≤ 3120 by omega) dL_step_255 (Or.inr rfl) hW (⟨rfl, hX9, ha9⟩)
            · refine lv_icmp_ge (tgt := 243) hx hb dL_step_236 (by decide) (fun _ => ?_) (fun c9 => absurd (nI_le (a := 17) (b := g) (by omega) (by omega)) c9)
              refine lv_bipush (v := 6) hx hb dL_step_243 (by decide) ?_
              refine lv_iload hx hb dL_step_245 (lv_at hl 1 rfl) ?_
              refine lv_iload_n hx hb dL_step_247 rfl (lv_at hl 5 rfl) ?_
              refine lv_aload hx hb dL_step_248 (lv_at hl 6 rfl) ?_
              refine lv_aload hx hb dL_step_250 (lv_at hl 7 rfl) ?_
              refine kk_i (va_runS (As := [.ref (ad 0), .int 6, .int (nI t), .int (nI y), .ref (ad 2101), .ref (ad 2102)]) (rest := []) ⟨hx, hb, hml, hown, hts⟩ (k_L_undoes6 l hnt D A ad w S nT nC nD nM nZ hC hN hG aF hA1 hAF cF hA2 hCF eF hA3 r0 hr0 hEF q9 hq hq9 t ht y hy9) (va_cwS 6 hts gL_step_L_undoes rfl rfl rfl (by decide +kernel) ⟨Nat.le_of_ble_eq_true rfl, Nat.le_of_ble_eq_true rfl⟩) (kSt hE hW _) rfl rfl hl.1 rfl (lv_room (Nat.le_of_ble_eq_true rfl)) dL_step_252 ⟨show 0 + 0 + 0 + 120 ≤ 393 by omega, show 0 + 0 + 0 + 900 ≤ 3120 by omega⟩) hW (fun r78 ad75 w76 H79 locs hp77 hW => ?_)
              obtain ⟨e9, hX9, ha9⟩ := hp77
              subst e9
              exact ke_z hx hb hr hlocks (show 0 + 0 + 0 + 120 ≤ 393 by omega) (show 0 + 0 + 0 + 900 ≤ 3120 by omega) dL_step_255 (Or.inr rfl) hW (⟨rfl, hX9, ha9⟩)
          · refine lv_icmp_ge (tgt := 182) hx hb dL_step_154 (by decide) (fun _ => ?_) (fun c9 => absurd (nI_le (a := 10) (b := g) (by omega) (by omega)) c9)
            refine lv_iload_n hx hb dL_step_182 rfl (lv_at hl 3 rfl) ?_
            refine lv_bipush (v := 15) hx hb dL_step_183 (by decide) ?_
            refine lv_icmp_ge (tgt := 226) hx hb dL_step_185 (by decide) (fun _ => ?_) (fun c9 => absurd (nI_le (a := 15) (b := g) (by omega) (by omega)) c9)
            refine lv_iload_n hx hb dL_step_226 rfl (lv_at hl 3 rfl) ?_
            refine lv_bipush (v := 18) hx hb dL_step_227 (by decide) ?_
            refine lv_icmp_ge (tgt := 256) hx hb dL_step_229 (by decide) (fun _ => ?_) (fun c9 => absurd (nI_le (a := 18) (b := g) (by omega) (by omega)) c9)
            refine lv_iload_n hx hb dL_step_256 rfl (lv_at hl 3 rfl) ?_
            refine lv_bipush (v := 22) hx hb dL_step_257 (by decide) ?_
            refine lv_icmp_ge (tgt := 277) hx hb dL_step_259 (by decide) (fun c9 => absurd c9 (nI_ge (a := g) (b := 22) (by omega) (by omega))) (fun _ => ?_)
            refine lv_aload_n hx hb dL_step_262 rfl (lv_at hl 2 rfl) ?_
            refine lv_iload hx hb dL_step_263 (lv_at hl 1 rfl) ?_
            refine lv_aload hx hb dL_step_265 (lv_at hl 6 rfl) ?_
            refine lv_aload hx hb dL_step_267 (lv_at hl 7 rfl) ?_
            refine lv_aload hx hb dL_step_269 (lv_at hl 8 rfl) ?_
            refine lv_iload hx hb dL_step_271 (lv_at hl 9 rfl) ?_
            refine kk_i (va_runS (As := [.ref (ad 0), .int (nI t), .ref (ad 2101), .ref (ad 2102), .ref (ad 2103), .int (nI r0)]) (rest := []) ⟨hx, hb, hml, hown, hts⟩ (k_L_commits l hnt D A ad w S nT nC nD nM nZ hC hN hG aF hA1 hAF cF hA2 hCF eF hA3 r0 hr0 hEF q9 hq hq9 t ht) (va_cwS 6 hts gL_step_L_commits rfl rfl rfl (by decide +kernel) ⟨Nat.le_of_ble_eq_true rfl, Nat.le_of_ble_eq_true rfl⟩) (kSt hE hW _) rfl rfl hl.1 rfl (lv_room (Nat.le_of_ble_eq_true rfl)) dL_step_273 ⟨show 0 + 0 + 0 + 393 ≤ 393 by omega, show 0 + 0 + 0 + 2952 ≤ 3120 by omega⟩) hW (fun r83 ad80 w81 H84 locs hp82 hW => ?_)
            obtain ⟨e9, hX9, ha9⟩ := hp82
            subst e9
            exact ke_z hx hb hr hlocks (show 0 + 0 + 0 + 393 ≤ 393 by omega) (show 0 + 0 + 0 + 2952 ≤ 3120 by omega) dL_step_276 (Or.inr rfl) hW (⟨rfl, hX9, ha9⟩)
          · refine lv_icmp_ge (tgt := 182) hx hb dL_step_154 (by decide) (fun _ => ?_) (fun c9 => absurd (nI_le (a := 10) (b := g) (by omega) (by omega)) c9)
            refine lv_iload_n hx hb dL_step_182 rfl (lv_at hl 3 rfl) ?_
            refine lv_bipush (v := 15) hx hb dL_step_183 (by decide) ?_
            refine lv_icmp_ge (tgt := 226) hx hb dL_step_185 (by decide) (fun _ => ?_) (fun c9 => absurd (nI_le (a := 15) (b := g) (by omega) (by omega)) c9)
            refine lv_iload_n hx hb dL_step_226 rfl (lv_at hl 3 rfl) ?_
            refine lv_bipush (v := 18) hx hb dL_step_227 (by decide) ?_
            refine lv_icmp_ge (tgt := 256) hx hb dL_step_229 (by decide) (fun _ => ?_) (fun c9 => absurd (nI_le (a := 18) (b := g) (by omega) (by omega)) c9)
            refine lv_iload_n hx hb dL_step_256 rfl (lv_at hl 3 rfl) ?_
            refine lv_bipush (v := 22) hx hb dL_step_257 (by decide) ?_
            refine lv_icmp_ge (tgt := 277) hx hb dL_step_259 (by decide) (fun _ => ?_) (fun c9 => absurd (nI_le (a := 22) (b := g) (by omega) (by omega)) c9)
            refine lv_iconst (v := 1) hx hb dL_step_277 (by decide) ?_
            refine lv_iload_n hx hb dL_step_278 rfl (lv_at hl 5 rfl) ?_
            refine lv_iload_n hx hb dL_step_279 rfl (lv_at hl 4 rfl) ?_
            refine lv_iconst (v := 2) hx hb dL_step_280 (by decide) ?_
            refine W_joinC (D := D) (A := A) (w := w) (ad := ad) (P := fun v => ∃ z, 1 ≤ z ∧ z ≤ 30 ∧ v = nI z) (pj := 294) (rj := []) (lj := ls) (c1 := 0 + 0 + 0 + 0) (s1 := 0 + 0 + 0 + 0) (fun v9 H85 locs hv9 hW => ?_) (fun J294 => ?_)
            · obtain ⟨z, hz1, hz30, rfl⟩ := hv9
              refine lv_istore (lv' := [(10, .int (nI z)), (9, .int (nI j)), (8, .int (nI t)), (0, .ref (ad 0)), (1, .int (nI g)), (2, .int (nI x)), (3, .int (nI y)), (4, .ref (ad 2101)), (5, .ref (ad 2102)), (6, .ref (ad 2103)), (7, .int (nI r0))]) hx hb dL_step_294 hl (by decide) rfl (fun ls hl => ?_)
              refine lv_aload_n hx hb dL_step_296 rfl (lv_at hl 3 rfl) ?_
              refine lv_bipush (v := 8) hx hb dL_step_297 (by decide) ?_
              refine lv_iload hx hb dL_step_299 (lv_at hl 0 rfl) ?_
              refine lv_iconst (v := 0) hx hb dL_step_301 (by decide) ?_
              refine lv_iconst (v := 0) hx hb dL_step_302 (by decide) ?_
              refine kk_i (vx_runSW (As := [.ref (ad 0), .int 8, .int (nI z), .int 0, .int 0]) (rest := []) ⟨hx, hb, hml, hown, hts⟩ (k_asks_setSpace l hnt D A ad w S nT nC nD nM nZ hC hN (nI z) 0 0) (vx_cwSW 5 hts gL_step_L_asks rfl rfl rfl (by decide +kernel) ⟨Nat.le_of_ble_eq_true rfl, Nat.le_of_ble_eq_true rfl⟩) (kSt hE hW _) rfl rfl hl.1 rfl (lv_room (Nat.le_of_ble_eq_true rfl)) dL_step_303 ⟨show 0 + 0 + 0 + 0 + 8 ≤ 393 by omega, show 0 + 0 + 0 + 0 + 60 ≤ 3120 by omega⟩) hW (fun r89 ad86 w87 H90 locs hp88 hW => ?_)
              rcases hp88 with ⟨e1, hk, e3, hC2, hF⟩ | ⟨hE9, e3, e4⟩
              · rw [e3] at hW
                have hzz : nC - nD ≤ z := by
                  rcases Nat.lt_or_ge z (nC - nD) with h | h
                  · exact absurd (((ssK_n hN hz1 hz30).2 h).symm.trans hk) (by decide)
                  · exact h
                have hN2 := hN.ss hz1 hz30 hzz
                have hG2 : GI (sS S 10 (nI z)) nT nC nM := ⟨hG.1, hG.2.1, hG.2.2.1, hG.2.2.2.1, hG.2.2.2.2.1, hG.2.2.2.2.2.1, hG.2.2.2.2.2.2.1, (cmL_c (S := S) (S' := sS S 10 (nI z)) rfl nT).trans hG.2.2.2.2.2.2.2⟩
                subst e1
                have f91 := (hF 2101 (by decide)).1.trans hA1
                have f92 := (hF 2102 (by decide)).1.trans hA2
                have f93 := (hF 2103 (by decide)).1.trans hA3
                refine lv_istore (lv' := [(11, .int (S 10 0)), (10, .int (nI z)), (9, .int (nI j)), (8, .int (nI t)), (0, .ref (ad 0)), (1, .int (nI g)), (2, .int (nI x)), (3, .int (nI y)), (4, .ref (ad 2101)), (5, .ref (ad 2102)), (6, .ref (ad 2103)), (7, .int (nI r0))]) hx hb dL_step_306 hl (by decide) rfl (fun ls hl => ?_)
                refine lv_aload hx hb dL_step_308 (lv_at hl 9 rfl) ?_
                refine lv_iconst (v := 2) hx hb dL_step_310 (by decide) ?_
                refine kk_iald hx hb hE hW f92 (by unfold vp_in; decide) dL_step_311 ?_
                rw [show cF (nv 2) = nI (nC - nD) from hCF.c2 hN]
                refine lv_iload hx hb dL_step_312 (lv_at hl 1 rfl) ?_
                refine lv_icmp_gt (tgt := 321) hx hb dL_step_314 (by decide) (fun c9 => absurd c9 (nI_nlt hzz (by omega))) (fun _ => ?_)
                refine lv_iconst (v := 1) hx hb dL_step_317 (by decide) ?_
                refine lv_goto (tgt := 322) hx hb dL_step_318 (by decide) ?_
                refine lv_istore (lv' := [(12, .int 1), (11, .int (S 10 0)), (10, .int (nI z)), (9, .int (nI j)), (8, .int (nI t)), (0, .ref (ad 0)), (1, .int (nI g)), (2, .int (nI x)), (3, .int (nI y)), (4, .ref (ad 2101)), (5, .ref (ad 2102)), (6, .ref (ad 2103)), (7, .int (nI r0))]) hx hb dL_step_322 hl (by decide) rfl (fun ls hl => ?_)
                refine lv_aload hx hb dL_step_324 (lv_at hl 10 rfl) ?_
                refine lv_iconst (v := 5) hx hb dL_step_326 (by decide) ?_
                refine kk_iald hx hb hE hW f92 (by unfold vp_in; decide) dL_step_327 ?_
                rw [show cF (nv 5) = S 10 0 from hCF.2.2.2.2.2]
                refine lv_istore (lv' := [(13, .int (S 10 0)), (12, .int 1), (11, .int (S 10 0)), (10, .int (nI z)), (9, .int (nI j)), (8, .int (nI t)), (0, .ref (ad 0)), (1, .int (nI g)), (2, .int (nI x)), (3, .int (nI y)), (4, .ref (ad 2101)), (5, .ref (ad 2102)), (6, .ref (ad 2103)), (7, .int (nI r0))]) hx hb dL_step_328 hl (by decide) rfl (fun ls hl => ?_)
                refine lv_aload hx hb dL_step_330 (lv_at hl 11 rfl) ?_
                refine lv_iconst (v := 5) hx hb dL_step_332 (by decide) ?_
                refine lv_iload hx hb dL_step_333 (lv_at hl 1 rfl) ?_
                refine lv_if_eq (tgt := 343) hx hb dL_step_335 (by decide) (fun c9 => absurd c9 (by decide)) (fun _ => ?_)
                refine lv_iload hx hb dL_step_338 (lv_at hl 3 rfl) ?_
                refine lv_goto (tgt := 345) hx hb dL_step_340 (by decide) ?_
                refine kk_iast hx hb hE hW f92 (by unfold vp_in; decide) dL_step_345 (fun H96 locs w94 e95 hW => ?_)
                rw [show Int32.toNatClampNeg 5 = 5 from rfl] at e95
                have f97 := (up_n e95 (by decide)).trans f91
                have f98 := (up_n e95 (by decide)).trans f93
                have f99 := up_s e95
                have hC100 := hC2.fr hN2 (fun k hk => up_n e95 (by omega)) (fun _ _ => rfl)
                refine lv_iload hx hb dL_step_346 (lv_at hl 2 rfl) ?_
                refine lv_iload hx hb dL_step_348 (lv_at hl 1 rfl) ?_
                refine lv_if_eq (tgt := 358) hx hb dL_step_350 (by decide) (fun c9 => absurd c9 (by decide)) (fun _ => ?_)
                refine lv_iload hx hb dL_step_353 (lv_at hl 0 rfl) ?_
                refine lv_goto (tgt := 360) hx hb dL_step_355 (by decide) ?_
                refine lv_icmp_ne (tgt := 367) hx hb dL_step_360 (by decide) (fun c9 => absurd (rfl) c9) (fun _ => ?_)
                refine lv_iconst (v := 1) hx hb dL_step_363 (by decide) ?_
                refine lv_goto (tgt := 368) hx hb dL_step_364 (by decide) ?_
                exact ke_z hx hb hr hlocks (show 0 + 0 + 0 + 0 + 8 ≤ 393 by omega) (show 0 + 0 + 0 + 0 + 60 ≤ 3120 by omega) dL_step_368 (by first | exact Or.inl rfl | exact Or.inr rfl | assumption) hW (⟨rfl, ⟨sS S 10 (nI z), nT, nC, nD, nM, z, aF, (upd (cF) 5 (nI z)), eF, hC100, hN2, hG2, by omega, f97, f99, f98, hAF.cg rfl rfl, hCF.ss, hEF.cg (fun _ _ => ver_ss)⟩, rfl, rfl, rfl, rfl⟩)
              · rcases hE9 with ⟨-, hk⟩ | ⟨rfl, hk⟩
                · rcases Nat.lt_or_ge z (nC - nD) with h | h
                  · exact absurd (((ssK_n hN hz1 hz30).2 h).symm.trans hk) (by decide)
                  · exact absurd (((ssK_n hN hz1 hz30).1 h).symm.trans hk) (by decide)
                · rw [e3, e4] at hW
                  have hzz : z < nC - nD := by
                    rcases Nat.lt_or_ge z (nC - nD) with h | h
                    · exact h
                    · exact absurd (((ssK_n hN hz1 hz30).1 h).symm.trans hk) (by decide)
                  have hd9 := hN.2.2.2.2.2.2.2.2.2.2.2.1
                  refine lv_istore (lv' := [(11, .int (-9000008)), (10, .int (nI z)), (9, .int (nI j)), (8, .int (nI t)), (0, .ref (ad 0)), (1, .int (nI g)), (2, .int (nI x)), (3, .int (nI y)), (4, .ref (ad 2101)), (5, .ref (ad 2102)), (6, .ref (ad 2103)), (7, .int (nI r0))]) hx hb dL_step_306 hl (by decide) rfl (fun ls hl => ?_)
                  refine lv_aload hx hb dL_step_308 (lv_at hl 9 rfl) ?_
                  refine lv_iconst (v := 2) hx hb dL_step_310 (by decide) ?_
                  refine kk_iald hx hb hE hW hA2 (by unfold vp_in; decide) dL_step_311 ?_
                  rw [show cF (nv 2) = nI (nC - nD) from hCF.c2 hN]
                  refine lv_iload hx hb dL_step_312 (lv_at hl 1 rfl) ?_
                  refine lv_icmp_gt (tgt := 321) hx hb dL_step_314 (by decide) (fun _ => ?_) (fun c9 => absurd (nI_lt hzz (by omega)) c9)
                  refine lv_iconst (v := 0) hx hb dL_step_321 (by decide) ?_
                  refine lv_istore (lv' := [(12, .int 0), (11, .int (-9000008)), (10, .int (nI z)), (9, .int (nI j)), (8, .int (nI t)), (0, .ref (ad 0)), (1, .int (nI g)), (2, .int (nI x)), (3, .int (nI y)), (4, .ref (ad 2101)), (5, .ref (ad 2102)), (6, .ref (ad 2103)), (7, .int (nI r0))]) hx hb dL_step_322 hl (by decide) rfl (fun ls hl => ?_)
                  refine lv_aload hx hb dL_step_324 (lv_at hl 10 rfl) ?_
                  refine lv_iconst (v := 5) hx hb dL_step_326 (by decide) ?_
                  refine kk_iald hx hb hE hW hA2 (by unfold vp_in; decide) dL_step_327 ?_
                  rw [show cF (nv 5) = S 10 0 from hCF.2.2.2.2.2]
                  refine lv_istore (lv' := [(13, .int (S 10 0)), (12, .int 0), (11, .int (-9000008)), (10, .int (nI z)), (9, .int (nI j)), (8, .int (nI t)), (0, .ref (ad 0)), (1, .int (nI g)), (2, .int (nI x)), (3, .int (nI y)), (4, .ref (ad 2101)), (5, .ref (ad 2102)), (6, .ref (ad 2103)), (7, .int (nI r0))]) hx hb dL_step_328 hl (by decide) rfl (fun ls hl => ?_)
                  refine lv_aload hx hb dL_step_330 (lv_at hl 11 rfl) ?_
                  refine lv_iconst (v := 5) hx hb dL_step_332 (by decide) ?_
                  refine lv_iload hx hb dL_step_333 (lv_at hl 1 rfl) ?_
                  refine lv_if_eq (tgt := 343) hx hb dL_step_335 (by decide) (fun _ => ?_) (fun c9 => absurd (rfl) c9)
                  refine lv_iload hx hb dL_step_343 (lv_at hl 0 rfl) ?_
                  refine kk_iast hx hb hE hW hA2 (by unfold vp_in; decide) dL_step_345 (fun H103 locs w101 e102 hW => ?_)
                  rw [show Int32.toNatClampNeg 5 = 5 from rfl] at e102
                  have f104 := (up_n e102 (by decide)).trans hA1
                  have f105 := (up_n e102 (by decide)).trans hA3
                  have f106 := up_s e102
                  have hC107 := hC.fr hN (fun k hk => up_n e102 (by omega)) (fun _ _ => rfl)
                  refine lv_iload hx hb dL_step_346 (lv_at hl 2 rfl) ?_
                  refine lv_iload hx hb dL_step_348 (lv_at hl 1 rfl) ?_
                  refine lv_if_eq (tgt := 358) hx hb dL_step_350 (by decide) (fun _ => ?_) (fun c9 => absurd (rfl) c9)
                  refine lv_ldc (v := (-9000008)) hx hb hown (hts (.constant RL 48 ((-9000008))) (by decide +kernel)) dL_step_358 ?_
                  refine lv_icmp_ne (tgt := 367) hx hb dL_step_360 (by decide) (fun c9 => absurd (rfl) c9) (fun _ => ?_)
                  refine lv_iconst (v := 1) hx hb dL_step_363 (by decide) ?_
                  refine lv_goto (tgt := 368) hx hb dL_step_364 (by decide) ?_
                  exact ke_z hx hb hr hlocks (show 0 + 0 + 0 + 0 + 8 ≤ 393 by omega) (show 0 + 0 + 0 + 0 + 60 ≤ 3120 by omega) dL_step_368 (by first | exact Or.inl rfl | exact Or.inr rfl | assumption) hW (⟨rfl, ⟨S, nT, nC, nD, nM, nZ, aF, (upd (cF) 5 (S 10 0)), eF, hC107, hN, hG, by omega, f104, f106, f105, hAF, hCF.same5, hEF⟩, rfl, rfl, rfl, rfl⟩)
            · refine lv_irem hx hb dL_step_281 (by decide) ?_
              rw [show nI x - nI x / 2 * 2 = nI (x % 2) from pk_rem (a := x) (d := 2) (by omega) (by omega) (by omega)]
              refine lv_if_ne (tgt := 290) hx hb dL_step_282 (by decide) (fun c108 => ?_) (fun c108 => ?_)
              · refine lv_bipush (v := 8) hx hb dL_step_290 (by decide) ?_
                refine lv_irem hx hb dL_step_292 (by decide) ?_
                rw [show nI y - nI y / 8 * 8 = nI (y % 8) from pk_rem (a := y) (d := 8) (by omega) (by omega) (by omega)]
                refine lv_iadd hx hb dL_step_293 ?_
                rw [show 1 + nI (y % 8) = nI (1 + y % 8) from nI_add 1 (y % 8)]
                have hz9 : y % 8 < 8 := Nat.mod_lt _ (by omega)
                exact J294 _ _ _ _ _ (by omega) (by omega) (⟨1 + y % 8, Nat.le_add_right 1 _, show 1 + y % 8 ≤ 30 by omega, rfl⟩) hW
              · refine lv_bipush (v := 30) hx hb dL_step_285 (by decide) ?_
                refine lv_goto (tgt := 292) hx hb dL_step_287 (by decide) ?_
                refine lv_irem hx hb dL_step_292 (by decide) ?_
                rw [show nI y - nI y / 30 * 30 = nI (y % 30) from pk_rem (a := y) (d := 30) (by omega) (by omega) (by omega)]
                refine lv_iadd hx hb dL_step_293 ?_
                rw [show 1 + nI (y % 30) = nI (1 + y % 30) from nI_add 1 (y % 30)]
                have hz9 : y % 30 < 30 := Nat.mod_lt _ (by omega)
                exact J294 _ _ _ _ _ (by omega) (by omega) (⟨1 + y % 30, Nat.le_add_right 1 _, show 1 + y % 30 ≤ 30 by omega, rfl⟩) hW
        · refine lv_irem hx hb dL_step_130 (by decide) ?_
          rw [show nI y - nI y / 3 * 3 = nI (y % 3) from pk_rem (a := y) (d := 3) (by omega) (by omega) (by omega)]
          refine lv_if_le (tgt := 143) hx hb dL_step_131 (by decide) (fun c109 => ?_) (fun c109 => ?_)
          · refine lv_iload_n hx hb dL_step_143 rfl (lv_at hl 4 rfl) ?_
            refine lv_iconst (v := 3) hx hb dL_step_144 (by decide) ?_
            refine lv_idiv hx hb dL_step_145 (by decide) ?_
            rw [show nI y / 3 = nI (y / 3) from pk_div (a := y) (d := 3) (by omega) (by omega) (by omega)]
            refine lv_bipush (v := 12) hx hb dL_step_146 (by decide) ?_
            refine lv_irem hx hb dL_step_148 (by decide) ?_
            rw [show nI (y / 3) - nI (y / 3) / 12 * 12 = nI ((y / 3) % 12) from pk_rem (a := (y / 3)) (d := 12) (by omega) (by omega) (by omega)]
            exact J149 _ _ _ _ _ (by omega) (by omega) (⟨y / 3 % 12, Nat.mod_lt _ (by omega), rfl⟩) hW
          · refine lv_iload_n hx hb dL_step_134 rfl (lv_at hl 4 rfl) ?_
            refine lv_iconst (v := 3) hx hb dL_step_135 (by decide) ?_
            refine lv_idiv hx hb dL_step_136 (by decide) ?_
            rw [show nI y / 3 = nI (y / 3) from pk_div (a := y) (d := 3) (by omega) (by omega) (by omega)]
            refine lv_bipush (v := 6) hx hb dL_step_137 (by decide) ?_
            refine lv_irem hx hb dL_step_139 (by decide) ?_
            rw [show nI (y / 3) - nI (y / 3) / 6 * 6 = nI ((y / 3) % 6) from pk_rem (a := (y / 3)) (d := 6) (by omega) (by omega) (by omega)]
            refine lv_goto (tgt := 149) hx hb dL_step_140 (by decide) ?_
            have hz9 : y / 3 % 6 < 6 := Nat.mod_lt _ (by omega)
            exact J149 _ _ _ _ _ (by omega) (by omega) (⟨y / 3 % 6, by omega, rfl⟩) hW
      · refine lv_iload_n hx hb dL_step_82 rfl (lv_at hl 2 rfl) ?_
        refine lv_iconst (v := 4) hx hb dL_step_83 (by decide) ?_
        refine lv_irem hx hb dL_step_84 (by decide) ?_
        rw [show nI x - nI x / 4 * 4 = nI (x % 4) from pk_rem (a := x) (d := 4) (by omega) (by omega) (by omega)]
        refine lv_if_ne (tgt := 99) hx hb dL_step_85 (by decide) (fun c110 => ?_) (fun c110 => ?_)
        · refine lv_aload hx hb dL_step_99 (lv_at hl 5 rfl) ?_
          refine lv_iconst (v := 1) hx hb dL_step_101 (by decide) ?_
          refine kk_iald hx hb hE hW hA2 (by unfold vp_in; decide) dL_step_102 ?_
          rw [show cF (nv 1) = nI nT from hCF.2.1.trans hN.1]
          refine lv_iconst (v := 1) hx hb dL_step_103 (by decide) ?_
          refine lv_isub hx hb dL_step_104 ?_
          rw [show nI nT - 1 = nI (nT - 1) from pk_sub (a := nT) (b := 1) h1T]
          refine lv_iload_n hx hb dL_step_105 rfl (lv_at hl 2 rfl) ?_
          refine lv_iconst (v := 4) hx hb dL_step_106 (by decide) ?_
          refine lv_idiv hx hb dL_step_107 (by decide) ?_
          rw [show nI x / 4 = nI (x / 4) from pk_div (a := x) (d := 4) (by omega) (by omega) (by omega)]
          refine lv_aload hx hb dL_step_108 (lv_at hl 5 rfl) ?_
          refine lv_iconst (v := 1) hx hb dL_step_110 (by decide) ?_
          refine kk_iald hx hb hE hW hA2 (by unfold vp_in; decide) dL_step_111 ?_
          rw [show cF (nv 1) = nI nT from hCF.2.1.trans hN.1]
          refine lv_iconst (v := 4) hx hb dL_step_112 (by decide) ?_
          refine lv_icmp_ge (tgt := 123) hx hb dL_step_113 (by decide) (fun c4 => ?_) (fun c4 => ?_)
          · refine lv_iconst (v := 4) hx hb dL_step_123 (by decide) ?_
            refine lv_irem hx hb dL_step_124 (by decide) ?_
            rw [show nI (x / 4) - nI (x / 4) / 4 * 4 = nI ((x / 4) % 4) from pk_rem (a := (x / 4)) (d := 4) (by omega) (by omega) (by omega)]
            refine lv_isub hx hb dL_step_125 ?_
            have hz9 : x / 4 % 4 < 4 := Nat.mod_lt _ (by omega)
            have h4T : 4 ≤ nT := by
              rcases Nat.lt_or_ge nT 4 with h | h
              · exact absurd c4 (nI_ge (a := nT) (b := 4) h (by omega))
              · exact h
            exact J126 _ _ _ _ _ (by omega) (by omega) (⟨nT - 1 - x / 4 % 4, by omega, pk_sub (by omega)⟩) hW
          · refine lv_aload hx hb dL_step_116 (lv_at hl 5 rfl) ?_
            refine lv_iconst (v := 1) hx hb dL_step_118 (by decide) ?_
            refine kk_iald hx hb hE hW hA2 (by unfold vp_in; decide) dL_step_119 ?_
            rw [show cF (nv 1) = nI nT from hCF.2.1.trans hN.1]
            refine lv_goto (tgt := 124) hx hb dL_step_120 (by decide) ?_
            refine lv_irem hx hb dL_step_124 (nI_ne0 (by omega) (by omega)) ?_
            rw [show nI (x / 4) - nI (x / 4) / nI nT * nI nT = nI ((x / 4) % nT) from pk_rem (a := (x / 4)) (d := nT) (by omega) (by omega) (by omega)]
            refine lv_isub hx hb dL_step_125 ?_
            have hz9 : x / 4 % nT < nT := Nat.mod_lt _ (by omega)
            exact J126 _ _ _ _ _ (by omega) (by omega) (⟨nT - 1 - x / 4 % nT, by omega, pk_sub (by omega)⟩) hW
        · refine lv_iload_n hx hb dL_step_88 rfl (lv_at hl 2 rfl) ?_
          refine lv_iconst (v := 4) hx hb dL_step_89 (by decide) ?_
          refine lv_idiv hx hb dL_step_90 (by decide) ?_
          rw [show nI x / 4 = nI (x / 4) from pk_div (a := x) (d := 4) (by omega) (by omega) (by omega)]
          refine lv_aload hx hb dL_step_91 (lv_at hl 5 rfl) ?_
          refine lv_iconst (v := 1) hx hb dL_step_93 (by decide) ?_
          refine kk_iald hx hb hE hW hA2 (by unfold vp_in; decide) dL_step_94 ?_
          rw [show cF (nv 1) = nI nT from hCF.2.1.trans hN.1]
          refine lv_irem hx hb dL_step_95 (nI_ne0 (by omega) (by omega)) ?_
          rw [show nI (x / 4) - nI (x / 4) / nI nT * nI nT = nI ((x / 4) % nT) from pk_rem (a := (x / 4)) (d := nT) (by omega) (by omega) (by omega)]
          refine lv_goto (tgt := 126) hx hb dL_step_96 (by decide) ?_
          exact J126 _ _ _ _ _ (by omega) (by omega) (⟨x / 4 % nT, Nat.mod_lt _ (by omega), rfl⟩) hW

