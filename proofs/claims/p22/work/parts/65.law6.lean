/-! the law: a commit -/
set_option maxHeartbeats 4000000 in
set_option maxRecDepth 100000 in
/-- k_L_commits -/
theorem k_L_commits (l : Launch) (hnt : l.stackTraces = false) (D : va_G) (A : Nat → Prop) (ad : Nat → Nat) (w : kWd) (S : St) (nT nC nD nM nZ : Nat) (hC : CW D S ad w nT nC) (hN : SN S nT nC nD nM nZ) (hG : GI S nT nC nM) (aF : Nat → Int32) (hA1 : w 2101 = some (.inl (D.1 100, 60, .inl aF))) (hAF : AF S nT aF) (cF : Nat → Int32) (hA2 : w 2102 = some (.inl (D.1 100, 6, .inl cF))) (hCF : CF S cF) (eF : Nat → Int32) (hA3 : w 2103 = some (.inl (D.1 100, 61, .inl eF))) (r0 : Nat) (hr0 : r0 < 12) (hEF : EF S nM r0 eF) (q9 : Nat) (hq : nC ≤ q9) (hq9 : q9 < 512) (t : Nat) (ht : t < nT) : Met l yL_commits wsL_commits ({ frames := 9, cells := 393, slots := 2952, locals := 168 }) (kPc D A [.ref (ad 0), .int (nI t), .ref (ad 2101), .ref (ad 2102), .ref (ad 2103), .int (nI r0)] ad w) (kQi D A (fun v ad' w' => lkP D r0 q9 ad v ad' w')) 393 2952 A := by
  refine Met.ofW (cc := cL_commits) (maxL := 10) (ret := (some (.boolean))) (by decide) rfl ?_
  intro p e s m args below meth c s₁ B hml hv
  obtain ⟨rfl, hE, hW0, hI0, hA⟩ := hv
  have hx := B.exec
  have hb := B.bytes
  have hr := B.returns
  have hts := atoms_spec (ws := wsL_commits) B.pre
  have hown : s.vm.findClass RL = some m.cls := findClass_of_methodNamed B.named
  have hlocks := B.notSynchronized
  have hW : kS D A s.heap ad w s.heap [] := ⟨hW0, hI0, va_S.rf, hA⟩
  have hl := lv_entry ([.ref (ad 0), .int (nI t), .ref (ad 2101), .ref (ad 2102), .ref (ad 2103), .int (nI r0)]) (n := 10) (Nat.le_of_ble_eq_true rfl)
  rw [lg_entry_eq]
  generalize (lg_sl ([.ref (ad 0), .int (nI t), .ref (ad 2101), .ref (ad 2102), .ref (ad 2103), .int (nI r0)]) ++ List.replicate (10 - (lg_sl ([.ref (ad 0), .int (nI t), .ref (ad 2101), .ref (ad 2102), .ref (ad 2103), .int (nI r0)])).length) Slot.unset).toArray = ls at hl ⊢
  have hl : lv_has ls 10 [(0, .ref (ad 0)), (1, .int (nI t)), (2, .ref (ad 2101)), (3, .ref (ad 2102)), (4, .ref (ad 2103)), (5, .int (nI r0))] := hl
  have h60 := hN.2.2.2.2.2.1
  have h30 := hN.2.2.2.2.2.2.2.2.2.2.1
  have hM9 : nM ≤ 60 := Nat.le_trans hG.le h60
  have h512 := hN.2.2.2.2.2.2.1
  refine lv_bipush (v := 12) hx hb dL_commits_0 (by decide) ?_
  refine kk_newa (atype := .int) (ty := .int) hx hb (hts (.arrayClass .int) (by decide +kernel)) rfl hE hW 2104 0 rfl (fun h => va_nm_int h) (N' := 12) (a0 := (12, .inl (fun _ => 0))) (fun _ => rfl) (by decide) (by decide) (by decide) (show 0 + 1 ≤ 393 by omega) (show 0 + 12 ≤ 2952 by omega) dL_commits_2 (fun H5 ad1 w2 ea3 e4 hW => ?_)
  have hC6 := hC.fr hN (fun k hk => up_n e4 (by omega)) (fun k hk => up_n ea3 (by omega))
  have a7 : ad1 0 = ad 0 := up_n ea3 (by decide)
  have a8 : ad1 2101 = ad 2101 := up_n ea3 (by decide)
  have a9 : ad1 2102 = ad 2102 := up_n ea3 (by decide)
  have a10 : ad1 2103 = ad 2103 := up_n ea3 (by decide)
  rw [← a7, ← a8, ← a9, ← a10] at hl
  have f11 := (up_n e4 (by decide)).trans hA1
  have f12 := (up_n e4 (by decide)).trans hA2
  have f13 := (up_n e4 (by decide)).trans hA3
  have g14 := up_s e4
  have k0 : ad1 0 = ad 0 := up_n ea3 (by decide)
  have k2101 : ad1 2101 = ad 2101 := up_n ea3 (by decide)
  have k2102 : ad1 2102 = ad 2102 := up_n ea3 (by decide)
  have k2103 : ad1 2103 = ad 2103 := up_n ea3 (by decide)
  refine lv_astore (lv' := [(6, .ref (ad1 2104)), (0, .ref (ad1 0)), (1, .int (nI t)), (2, .ref (ad1 2101)), (3, .ref (ad1 2102)), (4, .ref (ad1 2103)), (5, .int (nI r0))]) hx hb dL_commits_4 hl (by decide) rfl (fun ls hl => ?_)
  refine lv_iconst (v := 0) hx hb dL_commits_6 (by decide) ?_
  refine W.eq (g2 := F0 m 7 ls [.int (nI 0)]) rfl ?_
  refine lv_istore (lv' := [(7, .int (nI 0)), (6, .ref (ad1 2104)), (0, .ref (ad1 0)), (1, .int (nI t)), (2, .ref (ad1 2101)), (3, .ref (ad1 2102)), (4, .ref (ad1 2103)), (5, .int (nI r0))]) hx hb dL_commits_7 hl (by decide) rfl (fun ls hl => ?_)
  have L1 : ∀ (d i : Nat) (dF : Nat → Int32) (w2 : kWd) (H : Heap) (locs : List Loc), i + d = 12 → CW D S ad1 w2 nT nC → w2 2101 = some (.inl (D.1 100, 60, .inl aF)) → w2 2102 = some (.inl (D.1 100, 6, .inl cF)) → w2 2103 = some (.inl (D.1 100, 61, .inl eF)) → w2 2104 = some (.inl (D.1 100, 12, .inl dF)) → (∀ u, u < i → dF u = (if lockV S (nI u) = nI t then S 0 u else verV S (nI nM) (nI u))) → kS D A s.heap ad1 w2 H locs → ∀ ls, lv_has ls 10 [(7, .int (nI i)), (6, .ref (ad1 2104)), (0, .ref (ad1 0)), (1, .int (nI t)), (2, .ref (ad1 2101)), (3, .ref (ad1 2102)), (4, .ref (ad1 2103)), (5, .int (nI r0))] → W p l e ({ frames := 9, cells := 393, slots := 2952, locals := 168 }) s m ([.ref (ad 0), .int (nI t), .ref (ad 2101), .ref (ad 2102), .ref (ad 2103), .int (nI r0)] : List Value).toArray below meth c H locs (0 + 1 + 16 * i) (0 + 12 + 120 * i) (MQ below (kQi D A (fun v ad' w' => lkP D r0 q9 ad v ad' w')) ([.ref (ad 0), .int (nI t), .ref (ad 2101), .ref (ad 2102), .ref (ad 2103), .int (nI r0)] : List Value).toArray s 393 2952 A) (F0 m 9 ls []) := by
    intro d
    induction d with
    | zero =>
      intro i dF w2 H locs hi hC2 g1 g2 g3 g4 hd hW ls hl
      obtain rfl : i = 12 := by omega
      refine lv_iload hx hb dL_commits_9 (lv_at hl 0 rfl) ?_
      refine lv_bipush (v := 12) hx hb dL_commits_11 (by decide) ?_
      refine lv_icmp_ge (tgt := 55) hx hb dL_commits_13 (by decide) (fun _ => ?_) (fun c9 => absurd (by decide) c9)
      refine lv_aload_n hx hb dL_commits_55 rfl (lv_at hl 2 rfl) ?_
      refine lv_bipush (v := 7) hx hb dL_commits_56 (by decide) ?_
      refine lv_iload_n hx hb dL_commits_58 rfl (lv_at hl 3 rfl) ?_
      refine lv_iconst (v := 0) hx hb dL_commits_59 (by decide) ?_
      refine lv_iconst (v := 0) hx hb dL_commits_60 (by decide) ?_
      refine kk_i (vx_runSW (As := [.ref (ad1 0), .int 7, .int (nI t), .int 0, .int 0]) (rest := []) ⟨hx, hb, hml, hown, hts⟩ (k_asks_commit l hnt D A ad1 w2 S nT nC nD nM nZ hC2 hN (nI t) 0 0) (vx_cwSW 5 hts gL_commits_L_asks rfl rfl rfl (by decide +kernel) ⟨Nat.le_of_ble_eq_true rfl, Nat.le_of_ble_eq_true rfl⟩) (kSt hE hW _) rfl rfl hl.1 rfl (lv_room (Nat.le_of_ble_eq_true rfl)) dL_commits_61 ⟨show 0 + 1 + 16 * 12 + 8 ≤ 393 by omega, show 0 + 12 + 120 * 12 + 60 ≤ 2952 by omega⟩) hW (fun r18 ad15 w16 H19 locs hp17 hW => ?_)
      by_cases ha : S 1 t = 0
      · have hK9 := (opK_t hN ht).1 ha
        rcases hp17 with ⟨e1, -, e3, hC3, hF⟩ | ⟨hE9, e3, e4⟩
        · rw [e3] at hW
          rw [show nv (nI t) = t from nI_clamp (by omega)] at hC3
          subst e1
          have hlt := hG.lt ht ha
          have hN3 := hN.cm ht (by omega)
          have hG3 := hG.cm hN ht ha
          have hv0 : ∀ a : Nat, a ≤ nM → verV (cmM S t) (nI a) (nI r0) = verV S (nI a) (nI r0) := fun a h => ver_cm0 hN ht ha h hr0 (by omega)
          have hv1 : ∀ i : Nat, i < 12 → verV (cmM S t) (nI (nM + 1)) (nI i) = (if lockV S (nI i) = nI t then S 0 i else verV S (nI nM) (nI i)) := fun i h => by rw [ver_cm1 hN hG ht ha h (by omega), hN.2.2.2.1]
          have ha3 : ¬ cmM S t 1 t = 0 := by show ¬ upd (S 1) t 1 t = 0; rw [upd_s]; decide
          have h13 : cmM S t 1 = upd (S 1) t 1 := rfl
          have h23 : cmM S t 2 = S 2 := rfl
          have hcf3 : ∀ z, z = cF 0 + 1 → CF (cmM S t) (upd cF 0 z) := fun z h => hCF.cm h
          generalize cmM S t = S2 at hC3 hN3 hG3 hv0 hv1 ha3 h13 h23 hcf3
          have f20 := (hF 2101 (by decide)).1.trans g1
          have f21 := (hF 2102 (by decide)).1.trans g2
          have f22 := (hF 2103 (by decide)).1.trans g3
          have f23 := (hF 2104 (by decide)).1.trans g4
          refine lv_istore (lv' := [(7, .int (S 11 0 + 1)), (6, .ref (ad1 2104)), (0, .ref (ad1 0)), (1, .int (nI t)), (2, .ref (ad1 2101)), (3, .ref (ad1 2102)), (4, .ref (ad1 2103)), (5, .int (nI r0))]) hx hb dL_commits_64 hl (by decide) rfl (fun ls hl => ?_)
          refine lv_aload_n hx hb dL_commits_66 rfl (lv_at hl 4 rfl) ?_
          refine lv_iload_n hx hb dL_commits_67 rfl (lv_at hl 3 rfl) ?_
          refine kk_i (va_runS (As := [.ref (ad1 2101), .int (nI t)]) (rest := []) ⟨hx, hb, hml, hown, hts⟩ (k_L_isActive l hnt D A ad1 w16 S nT nC nD nM nZ hN aF f20 hAF ((nI t)) (Or.inr ⟨t, ht, rfl⟩)) (va_cwS 2 hts gL_commits_L_isActive rfl rfl rfl (by decide +kernel) ⟨Nat.le_of_ble_eq_true rfl, Nat.le_of_ble_eq_true rfl⟩) (kSt hE hW _) rfl rfl hl.1 rfl (lv_room (Nat.le_of_ble_eq_true rfl)) dL_commits_68 ⟨show 0 + 1 + 16 * 12 + 8 + 0 ≤ 393 by omega, show 0 + 12 + 120 * 12 + 60 + 0 ≤ 2952 by omega⟩) hW (fun r27 ad24 w25 H28 locs hp26 hW => ?_)
          obtain ⟨e29, e30, e31⟩ := hp26
          rw [e30, e31] at hW
          subst e29
          rw [show isA S (nI t) = 1 from by rw [isA_t (show t < 60 by omega)]; exact bI_1 ha]
          refine lv_if_ne (tgt := 87) hx hb dL_commits_71 (by decide) (fun _ => ?_) (fun c9 => absurd c9 (by decide))
          refine lv_aload_n hx hb dL_commits_87 rfl (lv_at hl 5 rfl) ?_
          refine lv_iconst (v := 0) hx hb dL_commits_88 (by decide) ?_
          refine lv_dup2_11 hx hb dL_commits_89 rfl rfl ?_
          refine kk_iald hx hb hE hW f21 (by unfold vp_in; decide) dL_commits_90 ?_
          rw [show cF (nv 0) = cF 0 from rfl]
          refine lv_iconst (v := 1) hx hb dL_commits_91 (by decide) ?_
          refine lv_iadd hx hb dL_commits_92 ?_
          refine kk_iast hx hb hE hW f21 (by unfold vp_in; decide) dL_commits_93 (fun H34 locs w32 e33 hW => ?_)
          rw [show Int32.toNatClampNeg 0 = 0 from rfl] at e33
          have f35 := (up_n e33 (by decide)).trans f20
          have f36 := (up_n e33 (by decide)).trans f22
          have f37 := (up_n e33 (by decide)).trans f23
          have f38 := up_s e33
          have hC39 := hC3.fr hN3 (fun k hk => up_n e33 (by omega)) (fun _ _ => rfl)
          refine lv_aload_n hx hb dL_commits_94 rfl (lv_at hl 4 rfl) ?_
          refine lv_iload_n hx hb dL_commits_95 rfl (lv_at hl 3 rfl) ?_
          refine lv_dup2_11 hx hb dL_commits_96 rfl rfl ?_
          refine kk_iald hx hb hE hW f35 (vp_in_nI (show t < 60 by omega) (by decide)) dL_commits_97 ?_
          rw [show aF (nv (nI t)) = aF t from by rw [show nv (nI t) = t from nI_clamp (by omega)]]
          refine lv_iconst (v := 1) hx hb dL_commits_98 (by decide) ?_
          refine lv_iadd hx hb dL_commits_99 ?_
          refine kk_iast hx hb hE hW f35 (vp_in_nI (show t < 60 by omega) (by decide)) dL_commits_100 (fun H42 locs w40 e41 hW => ?_)
          rw [show Int32.toNatClampNeg (nI t) = t from nI_clamp (by omega)] at e41
          have f43 := (up_n e41 (by decide)).trans f36
          have f44 := (up_n e41 (by decide)).trans f37
          have f45 := (up_n e41 (by decide)).trans f38
          have f46 := up_s e41
          have hC47 := hC39.fr hN3 (fun k hk => up_n e41 (by omega)) (fun _ _ => rfl)
          have hc0 : (upd (cF) 0 ((cF 0) + 1)) 0 = nI (nM + 1) := upd_s.trans (by rw [hCF.1, hN.2.2.2.1, nI_1])
          refine lv_iload hx hb dL_commits_101 (lv_at hl 0 rfl) ?_
          refine lv_aload_n hx hb dL_commits_103 rfl (lv_at hl 5 rfl) ?_
          refine lv_iconst (v := 0) hx hb dL_commits_104 (by decide) ?_
          refine kk_iald hx hb hE hW f45 (by unfold vp_in; decide) dL_commits_105 ?_
          rw [show (upd (cF) 0 ((cF 0) + 1)) (nv 0) = S 11 0 + 1 from (show (upd (cF) 0 ((cF 0) + 1)) (nv 0) = cF 0 + 1 from upd_s).trans (by rw [hCF.1])]
          refine lv_icmp_ne (tgt := 113) hx hb dL_commits_106 (by decide) (fun c9 => absurd (rfl) c9) (fun _ => ?_)
          refine lv_iconst (v := 1) hx hb dL_commits_109 (by decide) ?_
          refine lv_goto (tgt := 114) hx hb dL_commits_110 (by decide) ?_
          refine lv_istore (lv' := [(8, .int 1), (7, .int (S 11 0 + 1)), (6, .ref (ad1 2104)), (0, .ref (ad1 0)), (1, .int (nI t)), (2, .ref (ad1 2101)), (3, .ref (ad1 2102)), (4, .ref (ad1 2103)), (5, .int (nI r0))]) hx hb dL_commits_114 hl (by decide) rfl (fun ls hl => ?_)
          refine lv_iconst (v := 0) hx hb dL_commits_116 (by decide) ?_
          refine W.eq (g2 := F0 m 117 ls [.int (nI 0)]) rfl ?_
          refine lv_istore (lv' := [(9, .int (nI 0)), (8, .int 1), (7, .int (S 11 0 + 1)), (6, .ref (ad1 2104)), (0, .ref (ad1 0)), (1, .int (nI t)), (2, .ref (ad1 2101)), (3, .ref (ad1 2102)), (4, .ref (ad1 2103)), (5, .int (nI r0))]) hx hb dL_commits_117 hl (by decide) rfl (fun ls hl => ?_)
          have L2 : ∀ (d i : Nat) (H : Heap) (locs : List Loc), i + d = 12 → kS D A s.heap ad1 w40 H locs → ∀ ls, lv_has ls 10 [(9, .int (nI i)), (8, .int 1), (6, .ref (ad1 2104)), (0, .ref (ad1 0)), (1, .int (nI t)), (2, .ref (ad1 2101)), (3, .ref (ad1 2102)), (4, .ref (ad1 2103)), (5, .int (nI r0))] → W p l e ({ frames := 9, cells := 393, slots := 2952, locals := 168 }) s m ([.ref (ad 0), .int (nI t), .ref (ad 2101), .ref (ad 2102), .ref (ad 2103), .int (nI r0)] : List Value).toArray below meth c H locs (0 + 1 + 16 * 12 + 8 + 0 + 16 * i) (0 + 12 + 120 * 12 + 60 + 0 + 120 * i) (MQ below (kQi D A (fun v ad' w' => lkP D r0 q9 ad v ad' w')) ([.ref (ad 0), .int (nI t), .ref (ad 2101), .ref (ad 2102), .ref (ad 2103), .int (nI r0)] : List Value).toArray s 393 2952 A) (F0 m 119 ls []) := by
            intro d
            induction d with
            | zero =>
              intro i H locs hi hW ls hl
              obtain rfl : i = 12 := by omega
              refine lv_iload hx hb dL_commits_119 (lv_at hl 0 rfl) ?_
              refine lv_bipush (v := 12) hx hb dL_commits_121 (by decide) ?_
              refine lv_icmp_ge (tgt := 171) hx hb dL_commits_123 (by decide) (fun _ => ?_) (fun c9 => absurd (by decide) c9)
              refine lv_aload hx hb dL_commits_171 (lv_at hl 7 rfl) ?_
              refine lv_aload_n hx hb dL_commits_173 rfl (lv_at hl 6 rfl) ?_
              refine lv_iconst (v := 0) hx hb dL_commits_174 (by decide) ?_
              refine kk_iald hx hb hE hW f45 (by unfold vp_in; decide) dL_commits_175 ?_
              rw [show (upd (cF) 0 ((cF 0) + 1)) (nv 0) = nI (nM + 1) from hc0]
              refine lv_aload hx hb dL_commits_176 (lv_at hl 2 rfl) ?_
              refine lv_iload hx hb dL_commits_178 (lv_at hl 8 rfl) ?_
              refine kk_iald hx hb hE hW f44 (vp_in_nI hr0 (by decide)) dL_commits_180 ?_
              rw [show dF (nv (nI r0)) = (if lockV S (nI r0) = nI t then S 0 r0 else verV S (nI nM) (nI r0)) from by rw [show nv (nI r0) = r0 from nI_clamp (by omega)]; exact hd r0 hr0]
              refine kk_iast hx hb hE hW f43 (vp_in_nI (show nM + 1 < 61 by omega) (by decide)) dL_commits_181 (fun H50 locs w48 e49 hW => ?_)
              rw [show Int32.toNatClampNeg (nI (nM + 1)) = nM + 1 from nI_clamp (by omega)] at e49
              have f51 := (up_n e49 (by decide)).trans f44
              have f52 := (up_n e49 (by decide)).trans f45
              have f53 := (up_n e49 (by decide)).trans f46
              have f54 := up_s e49
              have hC55 := hC47.fr hN3 (fun k hk => up_n e49 (by omega)) (fun _ _ => rfl)
              refine lv_iload hx hb dL_commits_182 (lv_at hl 1 rfl) ?_
              have hef3 : EF S2 (nM + 1) r0 (upd (eF) (nM + 1) ((if lockV S (nI r0) = nI t then S 0 r0 else verV S (nI nM) (nI r0)))) := fun k hk => by
                by_cases c : k = nM + 1
                · rw [c, upd_s, hv1 r0 hr0]
                · rw [upd_n c, hEF k (by omega), hv0 k (by omega)]
              exact ke_z hx hb hr hlocks (show 0 + 1 + 16 * 12 + 8 + 0 + 16 * 12 ≤ 393 by omega) (show 0 + 12 + 120 * 12 + 60 + 0 + 120 * 12 ≤ 2952 by omega) dL_commits_184 (by first | exact Or.inl rfl | exact Or.inr rfl | assumption) hW (⟨rfl, ⟨S2, nT, nC, nD, nM + 1, nZ, (upd (aF) t ((aF t) + 1)), (upd (cF) 0 ((cF 0) + 1)), _, hC55, hN3, hG3, by omega, f53, f52, f54, hAF.u h13 h23 ha rfl ht, hcf3 _ rfl, hef3⟩, k0, k2101, k2102, k2103⟩)
            | succ d ih =>
              intro i H locs hi hW ls hl
              refine lv_iload hx hb dL_commits_119 (lv_at hl 0 rfl) ?_
              refine lv_bipush (v := 12) hx hb dL_commits_121 (by decide) ?_
              refine lv_icmp_ge (tgt := 171) hx hb dL_commits_123 (by decide) (fun c9 => absurd c9 (nI_ge (a := i) (b := 12) (by omega) (by decide))) (fun _ => ?_)
              refine lv_iload hx hb dL_commits_126 (lv_at hl 1 rfl) ?_
              refine lv_if_eq (tgt := 171) hx hb dL_commits_128 (by decide) (fun c9 => absurd c9 (by decide)) (fun _ => ?_)
              refine lv_aload_n hx hb dL_commits_131 rfl (lv_at hl 3 rfl) ?_
              refine lv_aload_n hx hb dL_commits_132 rfl (lv_at hl 6 rfl) ?_
              refine lv_iconst (v := 0) hx hb dL_commits_133 (by decide) ?_
              refine kk_iald hx hb hE hW f45 (by unfold vp_in; decide) dL_commits_134 ?_
              rw [show (upd (cF) 0 ((cF 0) + 1)) (nv 0) = nI (nM + 1) from hc0]
              refine lv_iload hx hb dL_commits_135 (lv_at hl 0 rfl) ?_
              refine kx_i (vx_runV (As := [.int (nI (nM + 1)), .int (nI i)]) (rest := []) ⟨hx, hb, hml, hown, hts⟩ (k_X5_versionAt l hnt D A ad1 w40 S2 nT nC nD (nM + 1) nZ hC47 hN3 (nI (nM + 1)) (nI i)) (cwV 2 hts gL_commits_X5_versionAt rfl rfl rfl (by decide +kernel) ⟨Nat.le_of_ble_eq_true rfl, Nat.le_of_ble_eq_true rfl⟩) (kV hE hW hC47.u rfl _) rfl rfl hl.1 rfl (lv_room (Nat.le_of_ble_eq_true rfl)) dL_commits_137 ⟨show 0 + 1 + 16 * 12 + 8 + 0 + 16 * i + 8 ≤ 393 by omega, show 0 + 12 + 120 * 12 + 60 + 0 + 120 * i + 60 ≤ 2952 by omega⟩) hW (fun E ce q9 H locs hpx _ _ _ _ => (nf_vr hN3 (a := nM + 1) (j := i) (Nat.le_refl _) (by omega) hpx).elim) (fun r59 ad56 w57 H60 locs hp58 hW => ?_)
              obtain ⟨e61, -, e62, e63⟩ := hp58
              rw [e62, e63] at hW
              subst e61
              rw [show (vaV S2 (nI (nM + 1)) (nI i) (-1)).1 = (if lockV S (nI i) = nI t then S 0 i else verV S (nI nM) (nI i)) from (vaV_ver hN3).trans (hv1 i (by omega))]
              refine lv_aload hx hb dL_commits_140 (lv_at hl 2 rfl) ?_
              refine lv_iload hx hb dL_commits_142 (lv_at hl 0 rfl) ?_
              refine kk_iald hx hb hE hW f44 (vp_in_nI (show i < 12 by omega) (by decide)) dL_commits_144 ?_
              rw [show dF (nv (nI i)) = (if lockV S (nI i) = nI t then S 0 i else verV S (nI nM) (nI i)) from by rw [show nv (nI i) = i from nI_clamp (by omega)]; exact hd i (by omega)]
              refine lv_icmp_ne (tgt := 162) hx hb dL_commits_145 (by decide) (fun c9 => absurd (rfl) c9) (fun _ => ?_)
              refine lv_aload_n hx hb dL_commits_148 rfl (lv_at hl 3 rfl) ?_
              refine lv_iload hx hb dL_commits_149 (lv_at hl 0 rfl) ?_
              refine kx_i (vx_runV (As := [.int (nI i)]) (rest := []) ⟨hx, hb, hml, hown, hts⟩ (k_X5_lockOf l hnt D A ad1 w40 S2 nT nC nD (nM + 1) nZ hC47 hN3 (nI i)) (cwV 1 hts gL_commits_X5_lockOf rfl rfl rfl (by decide +kernel) ⟨Nat.le_of_ble_eq_true rfl, Nat.le_of_ble_eq_true rfl⟩) (kV hE hW hC47.u rfl _) rfl rfl hl.1 rfl (lv_room (Nat.le_of_ble_eq_true rfl)) dL_commits_151 ⟨show 0 + 1 + 16 * 12 + 8 + 0 + 16 * i + 8 + 8 ≤ 393 by omega, show 0 + 12 + 120 * 12 + 60 + 0 + 120 * i + 60 + 60 ≤ 2952 by omega⟩) hW (fun E ce q9 H locs hpx _ _ _ _ => (nf_ro (j := i) (by omega) hpx).elim) (fun r67 ad64 w65 H68 locs hp66 hW => ?_)
              obtain ⟨e69, -, e70, e71⟩ := hp66
              rw [e70, e71] at hW
              subst e69
              refine lv_iload_n hx hb dL_commits_154 rfl (lv_at hl 4 rfl) ?_
              refine lv_icmp_eq (tgt := 162) hx hb dL_commits_155 (by decide) (fun c9 => absurd c9 (fun q => ha3 (lk_act hN3 (by omega) q))) (fun _ => ?_)
              refine lv_iconst (v := 1) hx hb dL_commits_158 (by decide) ?_
              refine lv_goto (tgt := 163) hx hb dL_commits_159 (by decide) ?_
              refine lv_istore (lv' := [(8, .int 1), (9, .int (nI i)), (6, .ref (ad1 2104)), (0, .ref (ad1 0)), (1, .int (nI t)), (2, .ref (ad1 2101)), (3, .ref (ad1 2102)), (4, .ref (ad1 2103)), (5, .int (nI r0))]) hx hb dL_commits_163 hl (by decide) rfl (fun ls hl => ?_)
              refine lv_iinc (v := nI (i + 1)) (lv' := [(9, .int (nI (i + 1))), (8, .int 1), (6, .ref (ad1 2104)), (0, .ref (ad1 0)), (1, .int (nI t)), (2, .ref (ad1 2101)), (3, .ref (ad1 2102)), (4, .ref (ad1 2103)), (5, .int (nI r0))]) hx hb dL_commits_165 hl (k := 1) rfl (nI_1 i) (by decide) rfl (fun ls hl => ?_)
              refine lv_goto (tgt := 119) hx hb dL_commits_168 (by decide) ?_
              exact W_cs (c2 := 0 + 1 + 16 * 12 + 8 + 0 + 16 * (i + 1)) (s2 := 0 + 12 + 120 * 12 + 60 + 0 + 120 * (i + 1)) (by omega) (by omega) (ih (i + 1) _ _ (by omega) hW ls (lv_sub hl [0, 1, 2, 3, 4, 5, 6, 7, 8] rfl))
          exact W_cs (c2 := 0 + 1 + 16 * 12 + 8 + 0 + 16 * 0) (s2 := 0 + 12 + 120 * 12 + 60 + 0 + 120 * 0) (by omega) (by omega) (L2 12 0 _ _ rfl hW ls (lv_sub hl [0, 1, 3, 4, 5, 6, 7, 8, 9] rfl))
        · rcases hE9 with ⟨-, hk⟩ | ⟨-, hk⟩
          · exact absurd (hK9.symm.trans hk) (by decide)
          · exact absurd (hK9.symm.trans hk) (by decide)
      · have hK9 := (opK_t hN ht).2 ha
        rcases hp17 with ⟨-, hk, -⟩ | ⟨hE9, e3, e4⟩
        · exact absurd (hK9.symm.trans hk) (by decide)
        · rcases hE9 with ⟨-, hk⟩ | ⟨rfl, hk⟩
          · exact absurd (hK9.symm.trans hk) (by decide)
          · rw [e3, e4] at hW
            refine lv_istore (lv' := [(7, .int (-9000008)), (6, .ref (ad1 2104)), (0, .ref (ad1 0)), (1, .int (nI t)), (2, .ref (ad1 2101)), (3, .ref (ad1 2102)), (4, .ref (ad1 2103)), (5, .int (nI r0))]) hx hb dL_commits_64 hl (by decide) rfl (fun ls hl => ?_)
            refine lv_aload_n hx hb dL_commits_66 rfl (lv_at hl 4 rfl) ?_
            refine lv_iload_n hx hb dL_commits_67 rfl (lv_at hl 3 rfl) ?_
            refine kk_i (va_runS (As := [.ref (ad1 2101), .int (nI t)]) (rest := []) ⟨hx, hb, hml, hown, hts⟩ (k_L_isActive l hnt D A ad1 w2 S nT nC nD nM nZ hN aF g1 hAF ((nI t)) (Or.inr ⟨t, ht, rfl⟩)) (va_cwS 2 hts gL_commits_L_isActive rfl rfl rfl (by decide +kernel) ⟨Nat.le_of_ble_eq_true rfl, Nat.le_of_ble_eq_true rfl⟩) (kSt hE hW _) rfl rfl hl.1 rfl (lv_room (Nat.le_of_ble_eq_true rfl)) dL_commits_68 ⟨show 0 + 1 + 16 * 12 + 8 + 0 ≤ 393 by omega, show 0 + 12 + 120 * 12 + 60 + 0 ≤ 2952 by omega⟩) hW (fun r75 ad72 w73 H76 locs hp74 hW => ?_)
            obtain ⟨e77, e78, e79⟩ := hp74
            rw [e78, e79] at hW
            subst e77
            rw [show isA S (nI t) = 0 from by rw [isA_t (show t < 60 by omega)]; exact bI_0 ha]
            refine lv_if_ne (tgt := 87) hx hb dL_commits_71 (by decide) (fun c9 => absurd (rfl) c9) (fun _ => ?_)
            refine lv_iload hx hb dL_commits_74 (lv_at hl 0 rfl) ?_
            refine lv_ldc (v := (-9000008)) hx hb hown (hts (.constant RL 48 ((-9000008))) (by decide +kernel)) dL_commits_76 ?_
            refine lv_icmp_ne (tgt := 85) hx hb dL_commits_78 (by decide) (fun c9 => absurd (rfl) c9) (fun _ => ?_)
            refine lv_iconst (v := 1) hx hb dL_commits_81 (by decide) ?_
            refine lv_goto (tgt := 86) hx hb dL_commits_82 (by decide) ?_
            exact ke_z hx hb hr hlocks (show 0 + 1 + 16 * 12 + 8 + 0 ≤ 393 by omega) (show 0 + 12 + 120 * 12 + 60 + 0 ≤ 2952 by omega) dL_commits_86 (by first | exact Or.inl rfl | exact Or.inr rfl | assumption) hW (⟨rfl, ⟨S, nT, nC, nD, nM, nZ, aF, cF, eF, hC2, hN, hG, by omega, g1, g2, g3, hAF, hCF, hEF⟩, k0, k2101, k2102, k2103⟩)
    | succ d ih =>
      intro i dF w2 H locs hi hC2 g1 g2 g3 g4 hd hW ls hl
      refine lv_iload hx hb dL_commits_9 (lv_at hl 0 rfl) ?_
      refine lv_bipush (v := 12) hx hb dL_commits_11 (by decide) ?_
      refine lv_icmp_ge (tgt := 55) hx hb dL_commits_13 (by decide) (fun c9 => absurd c9 (nI_ge (a := i) (b := 12) (by omega) (by decide))) (fun _ => ?_)
      refine lv_aload hx hb dL_commits_16 (lv_at hl 1 rfl) ?_
      refine lv_iload hx hb dL_commits_18 (lv_at hl 0 rfl) ?_
      refine lv_aload_n hx hb dL_commits_20 rfl (lv_at hl 2 rfl) ?_
      refine lv_iload hx hb dL_commits_21 (lv_at hl 0 rfl) ?_
      refine kx_i (vx_runV (As := [.int (nI i)]) (rest := [.int (nI i), .ref (ad1 2104)]) ⟨hx, hb, hml, hown, hts⟩ (k_X5_lockOf l hnt D A ad1 w2 S nT nC nD nM nZ hC2 hN (nI i)) (cwV 1 hts gL_commits_X5_lockOf rfl rfl rfl (by decide +kernel) ⟨Nat.le_of_ble_eq_true rfl, Nat.le_of_ble_eq_true rfl⟩) (kV hE hW hC2.u rfl _) rfl rfl hl.1 rfl (lv_room (Nat.le_of_ble_eq_true rfl)) dL_commits_23 ⟨show 0 + 1 + 16 * i + 8 ≤ 393 by omega, show 0 + 12 + 120 * i + 60 ≤ 2952 by omega⟩) hW (fun E ce q9 H locs hpx _ _ _ _ => (nf_ro (j := i) (by omega) hpx).elim) (fun r83 ad80 w81 H84 locs hp82 hW => ?_)
      obtain ⟨e85, -, e86, e87⟩ := hp82
      rw [e86, e87] at hW
      subst e85
      refine lv_iload_n hx hb dL_commits_26 rfl (lv_at hl 3 rfl) ?_
      refine W_joinC (D := D) (A := A) (w := w2) (ad := ad1) (P := fun v => v = (if lockV S (nI i) = nI t then S 0 i else verV S (nI nM) (nI i))) (pj := 48) (rj := [.int (nI i), .ref (ad1 2104)]) (lj := ls) (c1 := 0 + 1 + 16 * i + 8 + 8) (s1 := 0 + 12 + 120 * i + 60 + 60) (fun v9 H88 locs hv9 hW => ?_) (fun J48 => ?_)
      · subst hv9
        refine kk_iast hx hb hE hW g4 (vp_in_nI (show i < 12 by omega) (by decide)) dL_commits_48 (fun H91 locs w89 e90 hW => ?_)
        rw [show Int32.toNatClampNeg (nI i) = i from nI_clamp (by omega)] at e90
        have f92 := (up_n e90 (by decide)).trans g1
        have f93 := (up_n e90 (by decide)).trans g2
        have f94 := (up_n e90 (by decide)).trans g3
        have f95 := up_s e90
        have hC96 := hC2.fr hN (fun k hk => up_n e90 (by omega)) (fun _ _ => rfl)
        refine lv_iinc (v := nI (i + 1)) (lv' := [(7, .int (nI (i + 1))), (6, .ref (ad1 2104)), (0, .ref (ad1 0)), (1, .int (nI t)), (2, .ref (ad1 2101)), (3, .ref (ad1 2102)), (4, .ref (ad1 2103)), (5, .int (nI r0))]) hx hb dL_commits_49 hl (k := 0) rfl (nI_1 i) (by decide) rfl (fun ls hl => ?_)
        refine lv_goto (tgt := 9) hx hb dL_commits_52 (by decide) ?_
        exact W_cs (c2 := 0 + 1 + 16 * (i + 1)) (s2 := 0 + 12 + 120 * (i + 1)) (by omega) (by omega) (ih (i + 1) _ _ _ _ (by omega) hC96 f92 f93 f94 f95 (fun u hu => by
            by_cases c : u = i
            · rw [c, upd_s]
            · rw [upd_n c]; exact hd u (by omega)) hW ls (lv_sub hl [0, 1, 2, 3, 4, 5, 6, 7] rfl))
      · refine lv_icmp_ne (tgt := 39) hx hb dL_commits_27 (by decide) (fun c97 => ?_) (fun c97 => ?_)
        · refine lv_aload_n hx hb dL_commits_39 rfl (lv_at hl 2 rfl) ?_
          refine lv_aload_n hx hb dL_commits_40 rfl (lv_at hl 5 rfl) ?_
          refine lv_iconst (v := 0) hx hb dL_commits_41 (by decide) ?_
          refine kk_iald hx hb hE hW g2 (by unfold vp_in; decide) dL_commits_42 ?_
          rw [show cF (nv 0) = nI nM from hCF.1.trans hN.2.2.2.1]
          refine lv_iload hx hb dL_commits_43 (lv_at hl 0 rfl) ?_
          refine kx_i (vx_runV (As := [.int (nI nM), .int (nI i)]) (rest := [.int (nI i), .ref (ad1 2104)]) ⟨hx, hb, hml, hown, hts⟩ (k_X5_versionAt l hnt D A ad1 w2 S nT nC nD nM nZ hC2 hN (nI nM) (nI i)) (cwV 2 hts gL_commits_X5_versionAt rfl rfl rfl (by decide +kernel) ⟨Nat.le_of_ble_eq_true rfl, Nat.le_of_ble_eq_true rfl⟩) (kV hE hW hC2.u rfl _) rfl rfl hl.1 rfl (lv_room (Nat.le_of_ble_eq_true rfl)) dL_commits_45 ⟨show 0 + 1 + 16 * i + 8 + 8 ≤ 393 by omega, show 0 + 12 + 120 * i + 60 + 60 ≤ 2952 by omega⟩) hW (fun E ce q9 H locs hpx _ _ _ _ => (nf_vr hN (a := nM) (j := i) (Nat.le_refl _) (by omega) hpx).elim) (fun r101 ad98 w99 H102 locs hp100 hW => ?_)
          obtain ⟨e103, -, e104, e105⟩ := hp100
          rw [e104, e105] at hW
          subst e103
          rw [show (vaV S (nI nM) (nI i) (-1)).1 = verV S (nI nM) (nI i) from vaV_ver hN]
          exact J48 _ _ _ _ _ (by omega) (by omega) ((if_neg c97).symm) hW
        · refine lv_aload_n hx hb dL_commits_30 rfl (lv_at hl 2 rfl) ?_
          refine lv_iload hx hb dL_commits_31 (lv_at hl 0 rfl) ?_
          refine kx_i (vx_runV (As := [.int (nI i)]) (rest := [.int (nI i), .ref (ad1 2104)]) ⟨hx, hb, hml, hown, hts⟩ (k_X5_now l hnt D A ad1 w2 S nT nC nD nM nZ hC2 hN (nI i)) (cwV 1 hts gL_commits_X5_now rfl rfl rfl (by decide +kernel) ⟨Nat.le_of_ble_eq_true rfl, Nat.le_of_ble_eq_true rfl⟩) (kV hE hW hC2.u rfl _) rfl rfl hl.1 rfl (lv_room (Nat.le_of_ble_eq_true rfl)) dL_commits_33 ⟨show 0 + 1 + 16 * i + 8 + 8 ≤ 393 by omega, show 0 + 12 + 120 * i + 60 + 60 ≤ 2952 by omega⟩) hW (fun E ce q9 H locs hpx _ _ _ _ => (nf_ro (j := i) (by omega) hpx).elim) (fun r109 ad106 w107 H110 locs hp108 hW => ?_)
          obtain ⟨e111, -, e112, e113⟩ := hp108
          rw [e112, e113] at hW
          subst e111
          rw [show S 0 (nv (nI i)) = S 0 i from by rw [show nv (nI i) = i from nI_clamp (by omega)]]
          refine lv_goto (tgt := 48) hx hb dL_commits_36 (by decide) ?_
          exact J48 _ _ _ _ _ (by omega) (by omega) ((if_pos c97).symm) hW
  exact W_cs (c2 := 0 + 1 + 16 * 0) (s2 := 0 + 12 + 120 * 0) (by omega) (by omega) (L1 12 0 _ _ _ _ rfl hC6 f11 f12 f13 g14 (fun u hu => absurd hu (Nat.not_lt_zero u)) hW ls (lv_sub hl [0, 1, 2, 3, 4, 5, 6, 7] rfl))

