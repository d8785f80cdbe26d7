/-! the law: a write -/
set_option maxHeartbeats 4000000 in
set_option maxRecDepth 100000 in
/-- k_L_writes -/
theorem k_L_writes (l : Launch) (hnt : l.stackTraces = false) (D : va_G) (A : Nat → Prop) (ad : Nat → Nat) (w : kWd) (S : St) (nT nC nD nM nZ : Nat) (hC : CW D S ad w nT nC) (hN : SN S nT nC nD nM nZ) (hG : GI S nT nC nM) (aF : Nat → Int32) (hA1 : w 2101 = some (.inl (D.1 100, 60, .inl aF))) (hAF : AF S nT aF) (cF : Nat → Int32) (hA2 : w 2102 = some (.inl (D.1 100, 6, .inl cF))) (hCF : CF S cF) (eF : Nat → Int32) (hA3 : w 2103 = some (.inl (D.1 100, 61, .inl eF))) (r0 : Nat) (hr0 : r0 < 12) (hEF : EF S nM r0 eF) (q9 : Nat) (hq : nC ≤ q9) (hq9 : q9 < 512) (t : Nat) (ht : t < nT) (j : Nat) (hj : j < 12) (x : Int32) (hgd : goodP x) : Met l yL_writes wsL_writes ({ frames := 10, cells := 146, slots := 3120, locals := 283 }) (kPc D A [.ref (ad 0), .int (nI t), .int (nI j), .int x, .ref (ad 2101), .ref (ad 2102)] ad w) (kQi D A (fun v ad' w' => lkP D r0 q9 ad v ad' w')) 146 3120 A := by
  refine Met.ofW (cc := cL_writes) (maxL := 15) (ret := (some (.boolean))) (by decide) rfl ?_
  intro p e s m args below meth c s₁ B hml hv
  obtain ⟨rfl, hE, hW0, hI0, hA⟩ := hv
  have hx := B.exec
  have hb := B.bytes
  have hr := B.returns
  have hts := atoms_spec (ws := wsL_writes) B.pre
  have hown : s.vm.findClass RL = some m.cls := findClass_of_methodNamed B.named
  have hlocks := B.notSynchronized
  have hW : kS D A s.heap ad w s.heap [] := ⟨hW0, hI0, va_S.rf, hA⟩
  have hl := lv_entry ([.ref (ad 0), .int (nI t), .int (nI j), .int x, .ref (ad 2101), .ref (ad 2102)]) (n := 15) (Nat.le_of_ble_eq_true rfl)
  rw [lg_entry_eq]
  generalize (lg_sl ([.ref (ad 0), .int (nI t), .int (nI j), .int x, .ref (ad 2101), .ref (ad 2102)]) ++ List.replicate (15 - (lg_sl ([.ref (ad 0), .int (nI t), .int (nI j), .int x, .ref (ad 2101), .ref (ad 2102)])).length) Slot.unset).toArray = ls at hl ⊢
  have hl : lv_has ls 15 [(0, .ref (ad 0)), (1, .int (nI t)), (2, .int (nI j)), (3, .int x), (4, .ref (ad 2101)), (5, .ref (ad 2102))] := hl
  have h60 := hN.2.2.2.2.2.1
  have h30 := hN.2.2.2.2.2.2.2.2.2.2.1
  have hM9 : nM ≤ 60 := Nat.le_trans hG.le h60
  have hb3 : j / 4 < 3 := by omega
  have hth := trP_t hN ht
  have hrr := roP_j hj
  refine lv_aload_n hx hb dL_writes_0 rfl (lv_at hl 0 rfl) ?_
  refine lv_iload_n hx hb dL_writes_1 rfl (lv_at hl 2 rfl) ?_
  refine kx_i (vx_runV (As := [.int (nI j)]) (rest := []) ⟨hx, hb, hml, hown, hts⟩ (k_X5_lockOf l hnt D A ad w S nT nC nD nM nZ hC hN (nI j)) (cwV 1 hts gL_writes_X5_lockOf rfl rfl rfl (by decide +kernel) ⟨Nat.le_of_ble_eq_true rfl, Nat.le_of_ble_eq_true rfl⟩) (kV hE hW hC.u rfl _) rfl rfl hl.1 rfl (lv_room (Nat.le_of_ble_eq_true rfl)) dL_writes_2 ⟨show 0 + 8 ≤ 146 by omega, show 0 + 60 ≤ 3120 by omega⟩) hW (fun E ce q9 H locs hpx _ _ _ _ => (nf_ro (j := j) hj hpx).elim) (fun r4 ad1 w2 H5 locs hp3 hW => ?_)
  obtain ⟨e6, -, e7, e8⟩ := hp3
  rw [e7, e8] at hW
  subst e6
  refine lv_istore (lv' := [(6, .int (lockV S (nI j))), (0, .ref (ad 0)), (1, .int (nI t)), (2, .int (nI j)), (3, .int x), (4, .ref (ad 2101)), (5, .ref (ad 2102))]) hx hb dL_writes_5 hl (by decide) rfl (fun ls hl => ?_)
  refine lv_aload_n hx hb dL_writes_7 rfl (lv_at hl 1 rfl) ?_
  refine lv_iload_n hx hb dL_writes_8 rfl (lv_at hl 3 rfl) ?_
  refine kx_i (vx_runV (As := [.int (nI j)]) (rest := []) ⟨hx, hb, hml, hown, hts⟩ (k_X5_now l hnt D A ad w S nT nC nD nM nZ hC hN (nI j)) (cwV 1 hts gL_writes_X5_now rfl rfl rfl (by decide +kernel) ⟨Nat.le_of_ble_eq_true rfl, Nat.le_of_ble_eq_true rfl⟩) (kV hE hW hC.u rfl _) rfl rfl hl.1 rfl (lv_room (Nat.le_of_ble_eq_true rfl)) dL_writes_9 ⟨show 0 + 8 + 8 ≤ 146 by omega, show 0 + 60 + 60 ≤ 3120 by omega⟩) hW (fun E ce q9 H locs hpx _ _ _ _ => (nf_ro (j := j) hj hpx).elim) (fun r12 ad9 w10 H13 locs hp11 hW => ?_)
  obtain ⟨e14, -, e15, e16⟩ := hp11
  rw [e15, e16] at hW
  subst e14
  rw [show S 0 (nv (nI j)) = S 0 j from by rw [show nv (nI j) = j from nI_clamp (by omega)]]
  refine lv_istore (lv' := [(7, .int (S 0 j)), (6, .int (lockV S (nI j))), (0, .ref (ad 0)), (1, .int (nI t)), (2, .int (nI j)), (3, .int x), (4, .ref (ad 2101)), (5, .ref (ad 2102))]) hx hb dL_writes_12 hl (by decide) rfl (fun ls hl => ?_)
  refine lv_iload_n hx hb dL_writes_14 rfl (lv_at hl 4 rfl) ?_
  refine lv_iconst (v := 4) hx hb dL_writes_15 (by decide) ?_
  refine lv_idiv hx hb dL_writes_16 (by decide) ?_
  rw [show nI j / 4 = nI (j / 4) from pk_div (a := j) (d := 4) (by omega) (by omega) (by omega)]
  refine lv_istore (lv' := [(8, .int (nI (j / 4))), (7, .int (S 0 j)), (6, .int (lockV S (nI j))), (0, .ref (ad 0)), (1, .int (nI t)), (2, .int (nI j)), (3, .int x), (4, .ref (ad 2101)), (5, .ref (ad 2102))]) hx hb dL_writes_17 hl (by decide) rfl (fun ls hl => ?_)
  refine lv_aload_n hx hb dL_writes_19 rfl (lv_at hl 3 rfl) ?_
  refine lv_aload hx hb dL_writes_20 (lv_at hl 7 rfl) ?_
  refine lv_iload hx hb dL_writes_22 (lv_at hl 0 rfl) ?_
  refine kk_i (va_runS (As := [.ref (ad 0), .ref (ad 2101), .int (nI (j / 4))]) (rest := []) ⟨hx, hb, hml, hown, hts⟩ (k_L_dirty l hnt D A ad w S nT nC nD nM nZ hC hN aF hA1 hAF (j / 4) hb3) (va_cwS 3 hts gL_writes_L_dirty rfl rfl rfl (by decide +kernel) ⟨Nat.le_of_ble_eq_true rfl, Nat.le_of_ble_eq_true rfl⟩) (kSt hE hW _) rfl rfl hl.1 rfl (lv_room (Nat.le_of_ble_eq_true rfl)) dL_writes_24 ⟨show 0 + 8 + 8 + 32 ≤ 146 by omega, show 0 + 60 + 60 + 240 ≤ 3120 by omega⟩) hW (fun r20 ad17 w18 H21 locs hp19 hW => ?_)
  obtain ⟨e22, e23, e24⟩ := hp19
  rw [e23, e24] at hW
  subst e22
  refine lv_istore (lv' := [(9, .int (dyN S (j / 4))), (8, .int (nI (j / 4))), (7, .int (S 0 j)), (6, .int (lockV S (nI j))), (0, .ref (ad 0)), (1, .int (nI t)), (2, .int (nI j)), (3, .int x), (4, .ref (ad 2101)), (5, .ref (ad 2102))]) hx hb dL_writes_27 hl (by decide) rfl (fun ls hl => ?_)
  refine lv_iconst (v := 0) hx hb dL_writes_29 (by decide) ?_
  refine lv_istore (lv' := [(10, .int 0), (9, .int (dyN S (j / 4))), (8, .int (nI (j / 4))), (7, .int (S 0 j)), (6, .int (lockV S (nI j))), (0, .ref (ad 0)), (1, .int (nI t)), (2, .int (nI j)), (3, .int x), (4, .ref (ad 2101)), (5, .ref (ad 2102))]) hx hb dL_writes_30 hl (by decide) rfl (fun ls hl => ?_)
  refine lv_iconst (v := 0) hx hb dL_writes_32 (by decide) ?_
  refine lv_istore (lv' := [(11, .int 0), (10, .int 0), (9, .int (dyN S (j / 4))), (8, .int (nI (j / 4))), (7, .int (S 0 j)), (6, .int (lockV S (nI j))), (0, .ref (ad 0)), (1, .int (nI t)), (2, .int (nI j)), (3, .int x), (4, .ref (ad 2101)), (5, .ref (ad 2102))]) hx hb dL_writes_33 hl (by decide) rfl (fun ls hl => ?_)
  refine lv_iconst (v := 0) hx hb dL_writes_35 (by decide) ?_
  refine lv_istore (lv' := [(12, .int 0), (11, .int 0), (10, .int 0), (9, .int (dyN S (j / 4))), (8, .int (nI (j / 4))), (7, .int (S 0 j)), (6, .int (lockV S (nI j))), (0, .ref (ad 0)), (1, .int (nI t)), (2, .int (nI j)), (3, .int x), (4, .ref (ad 2101)), (5, .ref (ad 2102))]) hx hb dL_writes_36 hl (by decide) rfl (fun ls hl => ?_)
  refine lv_iload hx hb dL_writes_38 (lv_at hl 0 rfl) ?_
  refine lv_iconst (v := 2) hx hb dL_writes_40 (by decide) ?_
  refine lv_icmp_ge (tgt := 106) hx hb dL_writes_41 (by decide) (fun c9 => absurd c9 (by decide)) (fun _ => ?_)
  refine lv_aload_n hx hb dL_writes_44 rfl (lv_at hl 7 rfl) ?_
  refine lv_iload hx hb dL_writes_45 (lv_at hl 4 rfl) ?_
  refine lv_iload hx hb dL_writes_47 (lv_at hl 0 rfl) ?_
  refine kx_i (vx_runV (As := [.int (nI (j / 4)), .int 0]) (rest := []) ⟨hx, hb, hml, hown, hts⟩ (k_X5_slotOf l hnt D A ad w S nT nC nD nM nZ hC hN (nI (j / 4)) 0) (cwV 2 hts gL_writes_X5_slotOf rfl rfl rfl (by decide +kernel) ⟨Nat.le_of_ble_eq_true rfl, Nat.le_of_ble_eq_true rfl⟩) (kV hE hW hC.u rfl _) rfl rfl hl.1 rfl (lv_room (Nat.le_of_ble_eq_true rfl)) dL_writes_49 ⟨show 0 + 8 + 8 + 32 + 8 ≤ 146 by omega, show 0 + 60 + 60 + 240 + 60 ≤ 3120 by omega⟩) hW (fun E ce q9 H locs hpx _ _ _ _ => (nf_so (b := (j / 4)) (k := 0) hb3 (by decide) hpx).elim) (fun r28 ad25 w26 H29 locs hp27 hW => ?_)
  obtain ⟨e30, -, e31, e32⟩ := hp27
  rw [e31, e32] at hW
  subst e30
  rw [show S 8 (nv (2 * nI (j / 4) + 0)) = S 8 (2 * (j / 4)) from by rw [show nv (2 * nI (j / 4) + 0) = 2 * (j / 4) from nv_so (b := (j / 4)) (k := 0) hb3 (by decide)]]
  refine lv_istore (lv' := [(13, .int (S 8 (2 * (j / 4)))), (12, .int 0), (11, .int 0), (10, .int 0), (9, .int (dyN S (j / 4))), (8, .int (nI (j / 4))), (7, .int (S 0 j)), (6, .int (lockV S (nI j))), (0, .ref (ad 0)), (1, .int (nI t)), (2, .int (nI j)), (3, .int x), (4, .ref (ad 2101)), (5, .ref (ad 2102))]) hx hb dL_writes_52 hl (by decide) rfl (fun ls hl => ?_)
  refine W_joinC (D := D) (A := A) (w := w) (ad := ad) (P := fun v => v = bI (S 8 (2 * (j / 4)) = nI t)) (pj := 70) (rj := []) (lj := ls) (c1 := 0 + 8 + 8 + 32 + 8 + 0) (s1 := 0 + 60 + 60 + 240 + 60 + 0) (fun v9 H33 locs hv9 hW => ?_) (fun J70 => ?_)
  · subst hv9
    refine lv_istore (lv' := [(11, .int (bI (S 8 (2 * (j / 4)) = nI t))), (13, .int (S 8 (2 * (j / 4)))), (12, .int 0), (10, .int 0), (9, .int (dyN S (j / 4))), (8, .int (nI (j / 4))), (7, .int (S 0 j)), (6, .int (lockV S (nI j))), (0, .ref (ad 0)), (1, .int (nI t)), (2, .int (nI j)), (3, .int x), (4, .ref (ad 2101)), (5, .ref (ad 2102))]) hx hb dL_writes_70 hl (by decide) rfl (fun ls hl => ?_)
    refine W_joinC (D := D) (A := A) (w := w) (ad := ad) (P := fun v => v = bI (freeP S (2 * (j / 4)))) (pj := 98) (rj := []) (lj := ls) (c1 := 0 + 8 + 8 + 32 + 8 + 0 + 0) (s1 := 0 + 60 + 60 + 240 + 60 + 0 + 0) (fun v9 H34 locs hv9 hW => ?_) (fun J98 => ?_)
    · subst hv9
      refine lv_istore (lv' := [(10, .int (bI (freeP S (2 * (j / 4))))), (11, .int (bI (S 8 (2 * (j / 4)) = nI t))), (13, .int (S 8 (2 * (j / 4)))), (12, .int 0), (9, .int (dyN S (j / 4))), (8, .int (nI (j / 4))), (7, .int (S 0 j)), (6, .int (lockV S (nI j))), (0, .ref (ad 0)), (1, .int (nI t)), (2, .int (nI j)), (3, .int x), (4, .ref (ad 2101)), (5, .ref (ad 2102))]) hx hb dL_writes_98 hl (by decide) rfl (fun ls hl => ?_)
      refine lv_iinc (v := 1) (lv' := [(12, .int (1)), (10, .int (bI (freeP S (2 * (j / 4))))), (11, .int (bI (S 8 (2 * (j / 4)) = nI t))), (13, .int (S 8 (2 * (j / 4)))), (9, .int (dyN S (j / 4))), (8, .int (nI (j / 4))), (7, .int (S 0 j)), (6, .int (lockV S (nI j))), (0, .ref (ad 0)), (1, .int (nI t)), (2, .int (nI j)), (3, .int x), (4, .ref (ad 2101)), (5, .ref (ad 2102))]) hx hb dL_writes_100 hl (k := 3) rfl (by decide) (by decide) rfl (fun ls hl => ?_)
      refine lv_goto (tgt := 38) hx hb dL_writes_103 (by decide) ?_
      refine lv_iload hx hb dL_writes_38 (lv_at hl 0 rfl) ?_
      refine lv_iconst (v := 2) hx hb dL_writes_40 (by decide) ?_
      refine lv_icmp_ge (tgt := 106) hx hb dL_writes_41 (by decide) (fun c9 => absurd c9 (by decide)) (fun _ => ?_)
      refine lv_aload_n hx hb dL_writes_44 rfl (lv_at hl 8 rfl) ?_
      refine lv_iload hx hb dL_writes_45 (lv_at hl 5 rfl) ?_
      refine lv_iload hx hb dL_writes_47 (lv_at hl 0 rfl) ?_
      refine kx_i (vx_runV (As := [.int (nI (j / 4)), .int (1)]) (rest := []) ⟨hx, hb, hml, hown, hts⟩ (k_X5_slotOf l hnt D A ad w S nT nC nD nM nZ hC hN (nI (j / 4)) 1) (cwV 2 hts gL_writes_X5_slotOf rfl rfl rfl (by decide +kernel) ⟨Nat.le_of_ble_eq_true rfl, Nat.le_of_ble_eq_true rfl⟩) (kV hE hW hC.u rfl _) rfl rfl hl.1 rfl (lv_room (Nat.le_of_ble_eq_true rfl)) dL_writes_49 ⟨show 0 + 8 + 8 + 32 + 8 + 0 + 0 + 8 ≤ 146 by omega, show 0 + 60 + 60 + 240 + 60 + 0 + 0 + 60 ≤ 3120 by omega⟩) hW (fun E ce q9 H locs hpx _ _ _ _ => (nf_so (b := (j / 4)) (k := 1) hb3 (by decide) hpx).elim) (fun r38 ad35 w36 H39 locs hp37 hW => ?_)
      obtain ⟨e40, -, e41, e42⟩ := hp37
      rw [e41, e42] at hW
      subst e40
      rw [show S 8 (nv (2 * nI (j / 4) + 1)) = S 8 (2 * (j / 4) + 1) from by rw [show nv (2 * nI (j / 4) + 1) = 2 * (j / 4) + 1 from nv_so (b := (j / 4)) (k := 1) hb3 (by decide)]]
      refine lv_istore (lv' := [(13, .int (S 8 (2 * (j / 4) + 1))), (12, .int (1)), (10, .int (bI (freeP S (2 * (j / 4))))), (11, .int (bI (S 8 (2 * (j / 4)) = nI t))), (9, .int (dyN S (j / 4))), (8, .int (nI (j / 4))), (7, .int (S 0 j)), (6, .int (lockV S (nI j))), (0, .ref (ad 0)), (1, .int (nI t)), (2, .int (nI j)), (3, .int x), (4, .ref (ad 2101)), (5, .ref (ad 2102))]) hx hb dL_writes_52 hl (by decide) rfl (fun ls hl => ?_)
      refine W_joinC (D := D) (A := A) (w := w) (ad := ad) (P := fun v => v = bI (S 8 (2 * (j / 4)) = nI t ∨ S 8 (2 * (j / 4) + 1) = nI t)) (pj := 70) (rj := []) (lj := ls) (c1 := 0 + 8 + 8 + 32 + 8 + 0 + 0 + 8 + 0) (s1 := 0 + 60 + 60 + 240 + 60 + 0 + 0 + 60 + 0) (fun v9 H43 locs hv9 hW => ?_) (fun J70 => ?_)
      · subst hv9
        refine lv_istore (lv' := [(11, .int (bI (S 8 (2 * (j / 4)) = nI t ∨ S 8 (2 * (j / 4) + 1) = nI t))), (13, .int (S 8 (2 * (j / 4) + 1))), (12, .int (1)), (10, .int (bI (freeP S (2 * (j / 4))))), (9, .int (dyN S (j / 4))), (8, .int (nI (j / 4))), (7, .int (S 0 j)), (6, .int (lockV S (nI j))), (0, .ref (ad 0)), (1, .int (nI t)), (2, .int (nI j)), (3, .int x), (4, .ref (ad 2101)), (5, .ref (ad 2102))]) hx hb dL_writes_70 hl (by decide) rfl (fun ls hl => ?_)
        refine W_joinC (D := D) (A := A) (w := w) (ad := ad) (P := fun v => v = bI (freeP S (2 * (j / 4)) ∨ freeP S (2 * (j / 4) + 1))) (pj := 98) (rj := []) (lj := ls) (c1 := 0 + 8 + 8 + 32 + 8 + 0 + 0 + 8 + 0 + 0) (s1 := 0 + 60 + 60 + 240 + 60 + 0 + 0 + 60 + 0 + 0) (fun v9 H44 locs hv9 hW => ?_) (fun J98 => ?_)
        · subst hv9
          refine lv_istore (lv' := [(10, .int (bI (freeP S (2 * (j / 4)) ∨ freeP S (2 * (j / 4) + 1)))), (11, .int (bI (S 8 (2 * (j / 4)) = nI t ∨ S 8 (2 * (j / 4) + 1) = nI t))), (13, .int (S 8 (2 * (j / 4) + 1))), (12, .int (1)), (9, .int (dyN S (j / 4))), (8, .int (nI (j / 4))), (7, .int (S 0 j)), (6, .int (lockV S (nI j))), (0, .ref (ad 0)), (1, .int (nI t)), (2, .int (nI j)), (3, .int x), (4, .ref (ad 2101)), (5, .ref (ad 2102))]) hx hb dL_writes_98 hl (by decide) rfl (fun ls hl => ?_)
          refine lv_iinc (v := 2) (lv' := [(12, .int (2)), (10, .int (bI (freeP S (2 * (j / 4)) ∨ freeP S (2 * (j / 4) + 1)))), (11, .int (bI (S 8 (2 * (j / 4)) = nI t ∨ S 8 (2 * (j / 4) + 1) = nI t))), (13, .int (S 8 (2 * (j / 4) + 1))), (9, .int (dyN S (j / 4))), (8, .int (nI (j / 4))), (7, .int (S 0 j)), (6, .int (lockV S (nI j))), (0, .ref (ad 0)), (1, .int (nI t)), (2, .int (nI j)), (3, .int x), (4, .ref (ad 2101)), (5, .ref (ad 2102))]) hx hb dL_writes_100 hl (k := 3) rfl (by decide) (by decide) rfl (fun ls hl => ?_)
          refine lv_goto (tgt := 38) hx hb dL_writes_103 (by decide) ?_
          refine lv_iload hx hb dL_writes_38 (lv_at hl 0 rfl) ?_
          refine lv_iconst (v := 2) hx hb dL_writes_40 (by decide) ?_
          refine lv_icmp_ge (tgt := 106) hx hb dL_writes_41 (by decide) (fun _ => ?_) (fun c9 => absurd (by decide) c9)
          refine lv_aload_n hx hb dL_writes_106 rfl (lv_at hl 8 rfl) ?_
          refine lv_iconst (v := 1) hx hb dL_writes_107 (by decide) ?_
          refine lv_iload_n hx hb dL_writes_108 rfl (lv_at hl 9 rfl) ?_
          refine lv_iload_n hx hb dL_writes_109 rfl (lv_at hl 10 rfl) ?_
          refine lv_iload_n hx hb dL_writes_110 rfl (lv_at hl 11 rfl) ?_
          refine kk_i (vx_runSW (As := [.ref (ad 0), .int 1, .int (nI t), .int (nI j), .int x]) (rest := []) ⟨hx, hb, hml, hown, hts⟩ (k_asks_write l hnt D A ad w S nT nC nD nM nZ hC hN (by omega) (nI t) (nI j) x) (vx_cwSW 5 hts gL_writes_L_asks rfl rfl rfl (by decide +kernel) ⟨Nat.le_of_ble_eq_true rfl, Nat.le_of_ble_eq_true rfl⟩) (kSt hE hW _) rfl rfl hl.1 rfl (lv_room (Nat.le_of_ble_eq_true rfl)) dL_writes_111 ⟨show 0 + 8 + 8 + 32 + 8 + 0 + 0 + 8 + 0 + 0 + 10 ≤ 146 by omega, show 0 + 60 + 60 + 240 + 60 + 0 + 0 + 60 + 0 + 0 + 2100 ≤ 3120 by omega⟩) hW (fun r48 ad45 w46 H49 locs hp47 hW => ?_)
          rcases hp47 with ⟨e1, hk, hC2, h0, hF⟩ | ⟨hE9, e3, e4⟩
          · subst e1
            have hP := wrK_p hk
            have ha : S 1 t = 0 := (actP_t (by omega)).mp hP.1.2.2
            have hlk : lockV S (nI j) = -1 ∨ lockV S (nI j) = nI t := hP.2.1
            have hsl : slF S (nI t) (j / 4) ≠ -1 := by have := hP.2.2.1; rw [nvR hj] at this; exact this
            have hmay := (slF_may hb3).mp hsl
            obtain ⟨q, hq6, hsq⟩ := (slF_of S (nI t) (j / 4) hb3).resolve_left hsl
            obtain ⟨nD2, hN2⟩ := SN.wrM hN (by omega) hk
            have hG2 : GI (wrM S (nI t) (nI j) x) nT (nC + 1) nM := hG.wr hN ht ha hj hsq hq6 hlk hgd.1
            have hcf2 : ∀ y2 y3 y4 : Int32, y3 = cF 3 + bI (cF 2 = cF 5) → y2 = cF 2 + (if cF 2 = cF 5 then 0 else 1) → y4 = cF 4 + dyN S (j / 4) → CF (wrM S (nI t) (nI j) x) (upd (upd (upd cF 3 y3) 2 y2) 4 y4) := fun y2 y3 y4 z3 z2 z4 => CF.wr hN hCF hj hsq hq6 z3 z2 z4
            have hef2 : EF (wrM S (nI t) (nI j) x) nM r0 eF := hEF.cg (fun k _ => ver_wr hN ht ha hj hsq hq6 hr0)
            obtain ⟨p1, p2, p3, p4, p5, p6, p7⟩ := wr_post hN hN2 hG2 ht ha hj hsq hq6
            obtain ⟨-, s1, s2, -⟩ := wrM_c hN x hj hsq hq6
            have haf2 : AF (wrM S (nI t) (nI j) x) nT aF := hAF.cg s1 s2
            generalize wrM S (nI t) (nI j) x = S2 at hC2 hN2 hG2 hcf2 hef2 p1 p2 p3 p4 p5 p6 p7 s1 haf2
            rw [show S 0 (nv (nI j)) = S 0 j by rw [nvR hj]]
            have a50 : ad45 0 = ad 0 := h0
            have a51 : ad45 2101 = ad 2101 := (hF 2101 (by decide)).2
            have a52 : ad45 2102 = ad 2102 := (hF 2102 (by decide)).2
            have a53 : ad45 2103 = ad 2103 := (hF 2103 (by decide)).2
            rw [← a50, ← a51, ← a52] at hl
            have f54 := ((hF 2101 (by decide)).1).trans hA1
            have f55 := ((hF 2102 (by decide)).1).trans hA2
            have f56 := ((hF 2103 (by decide)).1).trans hA3
            refine lv_istore (lv' := [(12, .int (S 0 j)), (10, .int (bI (freeP S (2 * (j / 4)) ∨ freeP S (2 * (j / 4) + 1)))), (11, .int (bI (S 8 (2 * (j / 4)) = nI t ∨ S 8 (2 * (j / 4) + 1) = nI t))), (13, .int (S 8 (2 * (j / 4) + 1))), (9, .int (dyN S (j / 4))), (8, .int (nI (j / 4))), (7, .int (S 0 j)), (6, .int (lockV S (nI j))), (0, .ref (ad45 0)), (1, .int (nI t)), (2, .int (nI j)), (3, .int x), (4, .ref (ad45 2101)), (5, .ref (ad45 2102))]) hx hb dL_writes_114 hl (by decide) rfl (fun ls hl => ?_)
            refine lv_aload hx hb dL_writes_116 (lv_at hl 12 rfl) ?_
            refine lv_iload_n hx hb dL_writes_118 rfl (lv_at hl 9 rfl) ?_
            refine kk_i (va_runS (As := [.ref (ad45 2101), .int (nI t)]) (rest := []) ⟨hx, hb, hml, hown, hts⟩ (k_L_isActive l hnt D A ad45 w46 S2 nT (nC + 1) nD2 nM nZ hN2 aF f54 haf2 ((nI t)) (Or.inr ⟨t, ht, rfl⟩)) (va_cwS 2 hts gL_writes_L_isActive rfl rfl rfl (by decide +kernel) ⟨Nat.le_of_ble_eq_true rfl, Nat.le_of_ble_eq_true rfl⟩) (kSt hE hW _) rfl rfl hl.1 rfl (lv_room (Nat.le_of_ble_eq_true rfl)) dL_writes_119 ⟨show 0 + 8 + 8 + 32 + 8 + 0 + 0 + 8 + 0 + 0 + 10 + 0 ≤ 146 by omega, show 0 + 60 + 60 + 240 + 60 + 0 + 0 + 60 + 0 + 0 + 2100 + 0 ≤ 3120 by omega⟩) hW (fun r60 ad57 w58 H61 locs hp59 hW => ?_)
            obtain ⟨e62, e63, e64⟩ := hp59
            rw [e63, e64] at hW
            subst e62
            rw [show isA S2 (nI t) = 1 from by rw [isA_t (show t < 60 by omega)]; exact bI_1 (by rw [s1]; exact ha)]
            refine W_joinC (D := D) (A := A) (w := w46) (ad := ad45) (P := fun v => v = 1) (pj := 152) (rj := []) (lj := ls) (c1 := 0 + 8 + 8 + 32 + 8 + 0 + 0 + 8 + 0 + 0 + 10 + 0 + 0) (s1 := 0 + 60 + 60 + 240 + 60 + 0 + 0 + 60 + 0 + 0 + 2100 + 0 + 0) (fun v9 H65 locs hv9 hW => ?_) (fun J152 => ?_)
            · subst hv9
              refine lv_istore (lv' := [(13, .int (1)), (12, .int (S 0 j)), (10, .int (bI (freeP S (2 * (j / 4)) ∨ freeP S (2 * (j / 4) + 1)))), (11, .int (bI (S 8 (2 * (j / 4)) = nI t ∨ S 8 (2 * (j / 4) + 1) = nI t))), (9, .int (dyN S (j / 4))), (8, .int (nI (j / 4))), (7, .int (S 0 j)), (6, .int (lockV S (nI j))), (0, .ref (ad45 0)), (1, .int (nI t)), (2, .int (nI j)), (3, .int x), (4, .ref (ad45 2101)), (5, .ref (ad45 2102))]) hx hb dL_writes_152 hl (by decide) rfl (fun ls hl => ?_)
              refine lv_iload hx hb dL_writes_154 (lv_at hl 1 rfl) ?_
              refine lv_ldc (v := (-9000008)) hx hb hown (hts (.constant RL 48 ((-9000008))) (by decide +kernel)) dL_writes_156 ?_
              refine lv_icmp_ne (tgt := 214) hx hb dL_writes_158 (by decide) (fun _ => ?_) (fun c9 => absurd c9 (vOK_8 (hG.2.2.2.2.2.1 j hj)))
              refine lv_aload hx hb dL_writes_214 (lv_at hl 13 rfl) ?_
              refine lv_iconst (v := 3) hx hb dL_writes_216 (by decide) ?_
              refine lv_dup2_11 hx hb dL_writes_217 rfl rfl ?_
              refine kk_iald hx hb hE hW f55 (by unfold vp_in; decide) dL_writes_218 ?_
              rw [show cF (nv 3) = cF 3 from rfl]
              refine lv_aload hx hb dL_writes_219 (lv_at hl 13 rfl) ?_
              refine lv_iconst (v := 2) hx hb dL_writes_221 (by decide) ?_
              refine kk_iald hx hb hE hW f55 (by unfold vp_in; decide) dL_writes_222 ?_
              rw [show cF (nv 2) = cF 2 from rfl]
              refine lv_aload hx hb dL_writes_223 (lv_at hl 13 rfl) ?_
              refine lv_iconst (v := 5) hx hb dL_writes_225 (by decide) ?_
              refine kk_iald hx hb hE hW f55 (by unfold vp_in; decide) dL_writes_226 ?_
              rw [show cF (nv 5) = cF 5 from rfl]
              refine W_joinC (D := D) (A := A) (w := w46) (ad := ad45) (P := fun v => v = bI (cF 2 = cF 5)) (pj := 235) (rj := [.int (cF 3), .int 3, .ref (ad45 2102)]) (lj := ls) (c1 := 0 + 8 + 8 + 32 + 8 + 0 + 0 + 8 + 0 + 0 + 10 + 0 + 0 + 0) (s1 := 0 + 60 + 60 + 240 + 60 + 0 + 0 + 60 + 0 + 0 + 2100 + 0 + 0 + 0) (fun v9 H66 locs hv9 hW => ?_) (fun J235 => ?_)
              · subst hv9
                refine lv_iadd hx hb dL_writes_235 ?_
                refine kk_iast hx hb hE hW f55 (by unfold vp_in; decide) dL_writes_236 (fun H69 locs w67 e68 hW => ?_)
                rw [show Int32.toNatClampNeg 3 = 3 from rfl] at e68
                have f70 := (up_n e68 (by decide)).trans f54
                have f71 := (up_n e68 (by decide)).trans f56
                have f72 := up_s e68
                have hC73 := hC2.fr hN2 (fun k hk => up_n e68 (by omega)) (fun _ _ => rfl)
                refine lv_aload hx hb dL_writes_237 (lv_at hl 13 rfl) ?_
                refine lv_iconst (v := 2) hx hb dL_writes_239 (by decide) ?_
                refine lv_dup2_11 hx hb dL_writes_240 rfl rfl ?_
                refine kk_iald hx hb hE hW f72 (by unfold vp_in; decide) dL_writes_241 ?_
                rw [show (upd (cF) 3 ((cF 3) + (bI (cF 2 = cF 5)))) (nv 2) = cF 2 from upd_n (by decide)]
                refine lv_aload hx hb dL_writes_242 (lv_at hl 13 rfl) ?_
                refine lv_iconst (v := 2) hx hb dL_writes_244 (by decide) ?_
                refine kk_iald hx hb hE hW f72 (by unfold vp_in; decide) dL_writes_245 ?_
                rw [show (upd (cF) 3 ((cF 3) + (bI (cF 2 = cF 5)))) (nv 2) = cF 2 from upd_n (by decide)]
                refine lv_aload hx hb dL_writes_246 (lv_at hl 13 rfl) ?_
                refine lv_iconst (v := 5) hx hb dL_writes_248 (by decide) ?_
                refine kk_iald hx hb hE hW f72 (by unfold vp_in; decide) dL_writes_249 ?_
                rw [show (upd (cF) 3 ((cF 3) + (bI (cF 2 = cF 5)))) (nv 5) = cF 5 from upd_n (by decide)]
                refine W_joinC (D := D) (A := A) (w := w67) (ad := ad45) (P := fun v => v = (if cF 2 = cF 5 then 0 else 1)) (pj := 258) (rj := [.int (cF 2), .int 2, .ref (ad45 2102)]) (lj := ls) (c1 := 0 + 8 + 8 + 32 + 8 + 0 + 0 + 8 + 0 + 0 + 10 + 0 + 0 + 0 + 0) (s1 := 0 + 60 + 60 + 240 + 60 + 0 + 0 + 60 + 0 + 0 + 2100 + 0 + 0 + 0 + 0) (fun v9 H74 locs hv9 hW => ?_) (fun J258 => ?_)
                · subst hv9
                  refine lv_iadd hx hb dL_writes_258 ?_
                  refine kk_iast hx hb hE hW f72 (by unfold vp_in; decide) dL_writes_259 (fun H77 locs w75 e76 hW => ?_)
                  rw [show Int32.toNatClampNeg 2 = 2 from rfl] at e76
                  have f78 := (up_n e76 (by decide)).trans f70
                  have f79 := (up_n e76 (by decide)).trans f71
                  have f80 := up_s e76
                  have hC81 := hC73.fr hN2 (fun k hk => up_n e76 (by omega)) (fun _ _ => rfl)
                  refine lv_aload hx hb dL_writes_260 (lv_at hl 13 rfl) ?_
                  refine lv_iconst (v := 4) hx hb dL_writes_262 (by decide) ?_
                  refine lv_dup2_11 hx hb dL_writes_263 rfl rfl ?_
                  refine kk_iald hx hb hE hW f80 (by unfold vp_in; decide) dL_writes_264 ?_
                  rw [show (upd ((upd (cF) 3 ((cF 3) + (bI (cF 2 = cF 5))))) 2 ((cF 2) + ((if cF 2 = cF 5 then 0 else 1)))) (nv 4) = cF 4 from (upd_n (by decide)).trans (upd_n (by decide))]
                  refine lv_iload hx hb dL_writes_265 (lv_at hl 4 rfl) ?_
                  refine lv_iadd hx hb dL_writes_267 ?_
                  refine kk_iast hx hb hE hW f80 (by unfold vp_in; decide) dL_writes_268 (fun H84 locs w82 e83 hW => ?_)
                  rw [show Int32.toNatClampNeg 4 = 4 from rfl] at e83
                  have f85 := (up_n e83 (by decide)).trans f78
                  have f86 := (up_n e83 (by decide)).trans f79
                  have f87 := up_s e83
                  have hC88 := hC81.fr hN2 (fun k hk => up_n e83 (by omega)) (fun _ _ => rfl)
                  have hcf3 : CF S2 (upd ((upd ((upd (cF) 3 ((cF 3) + (bI (cF 2 = cF 5))))) 2 ((cF 2) + ((if cF 2 = cF 5 then 0 else 1))))) 4 ((cF 4) + (dyN S (j / 4)))) := hcf2 _ _ _ rfl rfl rfl
                  refine lv_aload_n hx hb dL_writes_269 rfl (lv_at hl 8 rfl) ?_
                  refine lv_iload hx hb dL_writes_270 (lv_at hl 5 rfl) ?_
                  refine lv_iconst (v := 0) hx hb dL_writes_272 (by decide) ?_
                  refine kx_i (vx_runV (As := [.int (nI (j / 4)), .int 0]) (rest := []) ⟨hx, hb, hml, hown, hts⟩ (k_X5_slotOf l hnt D A ad45 w82 S2 nT (nC + 1) nD2 nM nZ hC88 hN2 (nI (j / 4)) 0) (cwV 2 hts gL_writes_X5_slotOf rfl rfl rfl (by decide +kernel) ⟨Nat.le_of_ble_eq_true rfl, Nat.le_of_ble_eq_true rfl⟩) (kV hE hW hC88.u rfl _) rfl rfl hl.1 rfl (lv_room (Nat.le_of_ble_eq_true rfl)) dL_writes_273 ⟨show 0 + 8 + 8 + 32 + 8 + 0 + 0 + 8 + 0 + 0 + 10 + 0 + 0 + 0 + 0 + 8 ≤ 146 by omega, show 0 + 60 + 60 + 240 + 60 + 0 + 0 + 60 + 0 + 0 + 2100 + 0 + 0 + 0 + 0 + 60 ≤ 3120 by omega⟩) hW (fun E ce q9 H locs hpx _ _ _ _ => (nf_so (b := (j / 4)) (k := 0) hb3 (by decide) hpx).elim) (fun r92 ad89 w90 H93 locs hp91 hW => ?_)
                  obtain ⟨e94, -, e95, e96⟩ := hp91
                  rw [e95, e96] at hW
                  subst e94
                  rw [show S2 8 (nv (2 * nI (j / 4) + 0)) = S2 8 (2 * (j / 4)) from by rw [show nv (2 * nI (j / 4) + 0) = 2 * (j / 4) from nv_so (b := (j / 4)) (k := 0) hb3 (by decide)]]
                  refine lv_iload_n hx hb dL_writes_276 rfl (lv_at hl 9 rfl) ?_
                  refine lv_icmp_ne (tgt := 284) hx hb dL_writes_277 (by decide) (fun c97 => ?_) (fun c97 => ?_)
                  · refine lv_iconst (v := 1) hx hb dL_writes_284 (by decide) ?_
                    refine lv_istore (lv' := [(14, .int 1), (13, .int (1)), (12, .int (S 0 j)), (10, .int (bI (freeP S (2 * (j / 4)) ∨ freeP S (2 * (j / 4) + 1)))), (11, .int (bI (S 8 (2 * (j / 4)) = nI t ∨ S 8 (2 * (j / 4) + 1) = nI t))), (9, .int (dyN S (j / 4))), (8, .int (nI (j / 4))), (7, .int (S 0 j)), (6, .int (lockV S (nI j))), (0, .ref (ad45 0)), (1, .int (nI t)), (2, .int (nI j)), (3, .int x), (4, .ref (ad45 2101)), (5, .ref (ad45 2102))]) hx hb dL_writes_285 hl (by decide) rfl (fun ls hl => ?_)
                    refine lv_iload hx hb dL_writes_287 (lv_at hl 1 rfl) ?_
                    refine lv_if_eq (tgt := 366) hx hb dL_writes_289 (by decide) (fun c9 => absurd c9 (by decide)) (fun _ => ?_)
                    refine lv_iload hx hb dL_writes_292 (lv_at hl 2 rfl) ?_
                    refine lv_iload hx hb dL_writes_294 (lv_at hl 7 rfl) ?_
                    refine lv_icmp_ne (tgt := 366) hx hb dL_writes_296 (by decide) (fun c9 => absurd (rfl) c9) (fun _ => ?_)
                    refine lv_aload_n hx hb dL_writes_299 rfl (lv_at hl 9 rfl) ?_
                    refine lv_iload_n hx hb dL_writes_300 rfl (lv_at hl 11 rfl) ?_
                    refine kx_i (vx_runV (As := [.int (nI j)]) (rest := []) ⟨hx, hb, hml, hown, hts⟩ (k_X5_now l hnt D A ad45 w82 S2 nT (nC + 1) nD2 nM nZ hC88 hN2 (nI j)) (cwV 1 hts gL_writes_X5_now rfl rfl rfl (by decide +kernel) ⟨Nat.le_of_ble_eq_true rfl, Nat.le_of_ble_eq_true rfl⟩) (kV hE hW hC88.u rfl _) rfl rfl hl.1 rfl (lv_room (Nat.le_of_ble_eq_true rfl)) dL_writes_301 ⟨show 0 + 8 + 8 + 32 + 8 + 0 + 0 + 8 + 0 + 0 + 10 + 0 + 0 + 0 + 0 + 8 + 8 ≤ 146 by omega, show 0 + 60 + 60 + 240 + 60 + 0 + 0 + 60 + 0 + 0 + 2100 + 0 + 0 + 0 + 0 + 60 + 60 ≤ 3120 by omega⟩) hW (fun E ce q9 H locs hpx _ _ _ _ => (nf_ro (j := j) hj hpx).elim) (fun r101 ad98 w99 H102 locs hp100 hW => ?_)
                    obtain ⟨e103, -, e104, e105⟩ := hp100
                    rw [e104, e105] at hW
                    subst e103
                    rw [show S2 0 (nv (nI j)) = S2 0 j from by rw [show nv (nI j) = j from nI_clamp (by omega)]]
                    rw [show S2 0 j = x from p2]
                    refine lv_iload_n hx hb dL_writes_304 rfl (lv_at hl 12 rfl) ?_
                    refine lv_icmp_ne (tgt := 366) hx hb dL_writes_305 (by decide) (fun c9 => absurd (rfl) c9) (fun _ => ?_)
                    refine lv_aload_n hx hb dL_writes_308 rfl (lv_at hl 9 rfl) ?_
                    refine lv_iload_n hx hb dL_writes_309 rfl (lv_at hl 11 rfl) ?_
                    refine kx_i (vx_runV (As := [.int (nI j)]) (rest := []) ⟨hx, hb, hml, hown, hts⟩ (k_X5_lockOf l hnt D A ad45 w82 S2 nT (nC + 1) nD2 nM nZ hC88 hN2 (nI j)) (cwV 1 hts gL_writes_X5_lockOf rfl rfl rfl (by decide +kernel) ⟨Nat.le_of_ble_eq_true rfl, Nat.le_of_ble_eq_true rfl⟩) (kV hE hW hC88.u rfl _) rfl rfl hl.1 rfl (lv_room (Nat.le_of_ble_eq_true rfl)) dL_writes_310 ⟨show 0 + 8 + 8 + 32 + 8 + 0 + 0 + 8 + 0 + 0 + 10 + 0 + 0 + 0 + 0 + 8 + 8 + 8 ≤ 146 by omega, show 0 + 60 + 60 + 240 + 60 + 0 + 0 + 60 + 0 + 0 + 2100 + 0 + 0 + 0 + 0 + 60 + 60 + 60 ≤ 3120 by omega⟩) hW (fun E ce q9 H locs hpx _ _ _ _ => (nf_ro (j := j) hj hpx).elim) (fun r109 ad106 w107 H110 locs hp108 hW => ?_)
                    obtain ⟨e111, -, e112, e113⟩ := hp108
                    rw [e112, e113] at hW
                    subst e111
                    rw [show lockV S2 (nI j) = nI t from p1]
                    refine lv_iload_n hx hb dL_writes_313 rfl (lv_at hl 10 rfl) ?_
                    refine lv_icmp_ne (tgt := 366) hx hb dL_writes_314 (by decide) (fun c9 => absurd (rfl) c9) (fun _ => ?_)
                    refine lv_aload_n hx hb dL_writes_317 rfl (lv_at hl 9 rfl) ?_
                    refine lv_iload hx hb dL_writes_318 (lv_at hl 6 rfl) ?_
                    refine lv_iload hx hb dL_writes_320 (lv_at hl 0 rfl) ?_
                    refine kx_i (vx_runV (As := [.int (nI (j / 4)), .int 1]) (rest := []) ⟨hx, hb, hml, hown, hts⟩ (k_X5_slotOf l hnt D A ad45 w82 S2 nT (nC + 1) nD2 nM nZ hC88 hN2 (nI (j / 4)) 1) (cwV 2 hts gL_writes_X5_slotOf rfl rfl rfl (by decide +kernel) ⟨Nat.le_of_ble_eq_true rfl, Nat.le_of_ble_eq_true rfl⟩) (kV hE hW hC88.u rfl _) rfl rfl hl.1 rfl (lv_room (Nat.le_of_ble_eq_true rfl)) dL_writes_322 ⟨show 0 + 8 + 8 + 32 + 8 + 0 + 0 + 8 + 0 + 0 + 10 + 0 + 0 + 0 + 0 + 8 + 8 + 8 + 8 ≤ 146 by omega, show 0 + 60 + 60 + 240 + 60 + 0 + 0 + 60 + 0 + 0 + 2100 + 0 + 0 + 0 + 0 + 60 + 60 + 60 + 60 ≤ 3120 by omega⟩) hW (fun E ce q9 H locs hpx _ _ _ _ => (nf_so (b := (j / 4)) (k := 1) hb3 (by decide) hpx).elim) (fun r117 ad114 w115 H118 locs hp116 hW => ?_)
                    obtain ⟨e119, -, e120, e121⟩ := hp116
                    rw [e120, e121] at hW
                    subst e119
                    rw [show S2 8 (nv (2 * nI (j / 4) + 1)) = S2 8 (2 * (j / 4) + 1) from by rw [show nv (2 * nI (j / 4) + 1) = 2 * (j / 4) + 1 from nv_so (b := (j / 4)) (k := 1) hb3 (by decide)]]
                    rw [show S2 8 (2 * (j / 4) + 1) = nI t from p3.resolve_left c97]
                    refine lv_iload_n hx hb dL_writes_325 rfl (lv_at hl 10 rfl) ?_
                    refine lv_icmp_ne (tgt := 366) hx hb dL_writes_326 (by decide) (fun c9 => absurd (rfl) c9) (fun _ => ?_)
                    refine lv_aload_n hx hb dL_writes_329 rfl (lv_at hl 9 rfl) ?_
                    refine lv_iload hx hb dL_writes_330 (lv_at hl 6 rfl) ?_
                    refine lv_iload hx hb dL_writes_332 (lv_at hl 0 rfl) ?_
                    refine kx_i (vx_runV (As := [.int (nI (j / 4)), .int 1]) (rest := []) ⟨hx, hb, hml, hown, hts⟩ (k_X5_isMarked l hnt D A ad45 w82 S2 nT (nC + 1) nD2 nM nZ hC88 hN2 (nI (j / 4)) 1) (cwV 2 hts gL_writes_X5_isMarked rfl rfl rfl (by decide +kernel) ⟨Nat.le_of_ble_eq_true rfl, Nat.le_of_ble_eq_true rfl⟩) (kV hE hW hC88.u rfl _) rfl rfl hl.1 rfl (lv_room (Nat.le_of_ble_eq_true rfl)) dL_writes_334 ⟨show 0 + 8 + 8 + 32 + 8 + 0 + 0 + 8 + 0 + 0 + 10 + 0 + 0 + 0 + 0 + 8 + 8 + 8 + 8 + 8 ≤ 146 by omega, show 0 + 60 + 60 + 240 + 60 + 0 + 0 + 60 + 0 + 0 + 2100 + 0 + 0 + 0 + 0 + 60 + 60 + 60 + 60 + 60 ≤ 3120 by omega⟩) hW (fun E ce q9 H locs hpx _ _ _ _ => (nf_so (b := (j / 4)) (k := 1) hb3 (by decide) hpx).elim) (fun r125 ad122 w123 H126 locs hp124 hW => ?_)
                    obtain ⟨e127, -, e128, e129⟩ := hp124
                    rw [e128, e129] at hW
                    subst e127
                    rw [show S2 9 (nv (2 * nI (j / 4) + 1)) = S2 9 (2 * (j / 4) + 1) from by rw [show nv (2 * nI (j / 4) + 1) = 2 * (j / 4) + 1 from nv_so (b := (j / 4)) (k := 1) hb3 (by decide)]]
                    rw [show S2 9 (2 * (j / 4) + 1) = 0 from p4 _ (by omega) (p3.resolve_left c97)]
                    refine lv_if_ne (tgt := 366) hx hb dL_writes_337 (by decide) (fun c9 => absurd (rfl) c9) (fun _ => ?_)
                    refine lv_aload_n hx hb dL_writes_340 rfl (lv_at hl 9 rfl) ?_
                    refine lv_aload hx hb dL_writes_341 (lv_at hl 13 rfl) ?_
                    refine lv_iload hx hb dL_writes_343 (lv_at hl 6 rfl) ?_
                    refine kk_i (va_runS (As := [.ref (ad45 0), .ref (ad45 2101), .int (nI (j / 4))]) (rest := []) ⟨hx, hb, hml, hown, hts⟩ (k_L_isClean l hnt D A ad45 w82 S2 nT (nC + 1) nD2 nM nZ hC88 hN2 aF f85 haf2 (j / 4) hb3 p5 p6) (va_cwS 3 hts gL_writes_L_isClean rfl rfl rfl (by decide +kernel) ⟨Nat.le_of_ble_eq_true rfl, Nat.le_of_ble_eq_true rfl⟩) (kSt hE hW _) rfl rfl hl.1 rfl (lv_room (Nat.le_of_ble_eq_true rfl)) dL_writes_345 ⟨show 0 + 8 + 8 + 32 + 8 + 0 + 0 + 8 + 0 + 0 + 10 + 0 + 0 + 0 + 0 + 8 + 8 + 8 + 8 + 8 + 32 ≤ 146 by omega, show 0 + 60 + 60 + 240 + 60 + 0 + 0 + 60 + 0 + 0 + 2100 + 0 + 0 + 0 + 0 + 60 + 60 + 60 + 60 + 60 + 240 ≤ 3120 by omega⟩) hW (fun r133 ad130 w131 H134 locs hp132 hW => ?_)
                    obtain ⟨e135, e136, e137⟩ := hp132
                    rw [e136, e137] at hW
                    subst e135
                    refine lv_if_eq (tgt := 366) hx hb dL_writes_348 (by decide) (fun c9 => absurd c9 (by decide)) (fun _ => ?_)
                    refine lv_aload_n hx hb dL_writes_351 rfl (lv_at hl 9 rfl) ?_
                    refine kk_i (va_runV (As := []) (rest := []) ⟨hx, hb, hml, hown, hts⟩ (k_X5_marked l D A ad45 w82 S2 nT (nC + 1) nD2 nM nZ hC88 hN2) (cwV 0 hts gL_writes_X5_marked rfl rfl rfl (by decide +kernel) ⟨Nat.le_of_ble_eq_true rfl, Nat.le_of_ble_eq_true rfl⟩) (kV hE hW hC88.u rfl _) rfl rfl hl.1 rfl (lv_room (Nat.le_of_ble_eq_true rfl)) dL_writes_352 ⟨show 0 + 8 + 8 + 32 + 8 + 0 + 0 + 8 + 0 + 0 + 10 + 0 + 0 + 0 + 0 + 8 + 8 + 8 + 8 + 8 + 32 + 0 ≤ 146 by omega, show 0 + 60 + 60 + 240 + 60 + 0 + 0 + 60 + 0 + 0 + 2100 + 0 + 0 + 0 + 0 + 60 + 60 + 60 + 60 + 60 + 240 + 0 ≤ 3120 by omega⟩) hW (fun r141 ad138 w139 H142 locs hp140 hW => ?_)
                    obtain ⟨e143, e144, e145⟩ := hp140
                    rw [e144, e145] at hW
                    subst e143
                    refine lv_aload hx hb dL_writes_355 (lv_at hl 14 rfl) ?_
                    refine lv_iconst (v := 4) hx hb dL_writes_357 (by decide) ?_
                    refine kk_iald hx hb hE hW f87 (by unfold vp_in; decide) dL_writes_358 ?_
                    rw [show (upd ((upd ((upd (cF) 3 ((cF 3) + (bI (cF 2 = cF 5))))) 2 ((cF 2) + ((if cF 2 = cF 5 then 0 else 1))))) 4 ((cF 4) + (dyN S (j / 4)))) (nv 4) = S2 15 0 from (show (upd ((upd ((upd (cF) 3 ((cF 3) + (bI (cF 2 = cF 5))))) 2 ((cF 2) + ((if cF 2 = cF 5 then 0 else 1))))) 4 ((cF 4) + (dyN S (j / 4)))) (nv 4) = cF 4 + dyN S (j / 4) from upd_s).trans (by rw [hCF.2.2.2.2.1]; exact p7.symm)]
                    refine lv_icmp_ne (tgt := 366) hx hb dL_writes_359 (by decide) (fun c9 => absurd (rfl) c9) (fun _ => ?_)
                    refine lv_iconst (v := 1) hx hb dL_writes_362 (by decide) ?_
                    refine lv_goto (tgt := 367) hx hb dL_writes_363 (by decide) ?_
                    exact ke_z hx hb hr hlocks (show 0 + 8 + 8 + 32 + 8 + 0 + 0 + 8 + 0 + 0 + 10 + 0 + 0 + 0 + 0 + 8 + 8 + 8 + 8 + 8 + 32 + 0 ≤ 146 by omega) (show 0 + 60 + 60 + 240 + 60 + 0 + 0 + 60 + 0 + 0 + 2100 + 0 + 0 + 0 + 0 + 60 + 60 + 60 + 60 + 60 + 240 + 0 ≤ 3120 by omega) dL_writes_367 (by first | exact Or.inl rfl | exact Or.inr rfl | assumption) hW (⟨rfl, ⟨S2, nT, nC + 1, nD2, nM, nZ, aF, (upd ((upd ((upd (cF) 3 ((cF 3) + (bI (cF 2 = cF 5))))) 2 ((cF 2) + ((if cF 2 = cF 5 then 0 else 1))))) 4 ((cF 4) + (dyN S (j / 4)))), eF, hC88, hN2, hG2, by omega, f85, f87, f86, haf2, hcf3, hef2⟩, h0, (hF 2101 (by decide)).2, (hF 2102 (by decide)).2, (hF 2103 (by decide)).2⟩)
                  · refine lv_iconst (v := 0) hx hb dL_writes_280 (by decide) ?_
                    refine lv_goto (tgt := 285) hx hb dL_writes_281 (by decide) ?_
                    refine lv_istore (lv' := [(14, .int 0), (13, .int (1)), (12, .int (S 0 j)), (10, .int (bI (freeP S (2 * (j / 4)) ∨ freeP S (2 * (j / 4) + 1)))), (11, .int (bI (S 8 (2 * (j / 4)) = nI t ∨ S 8 (2 * (j / 4) + 1) = nI t))), (9, .int (dyN S (j / 4))), (8, .int (nI (j / 4))), (7, .int (S 0 j)), (6, .int (lockV S (nI j))), (0, .ref (ad45 0)), (1, .int (nI t)), (2, .int (nI j)), (3, .int x), (4, .ref (ad45 2101)), (5, .ref (ad45 2102))]) hx hb dL_writes_285 hl (by decide) rfl (fun ls hl => ?_)
                    refine lv_iload hx hb dL_writes_287 (lv_at hl 1 rfl) ?_
                    refine lv_if_eq (tgt := 366) hx hb dL_writes_289 (by decide) (fun c9 => absurd c9 (by decide)) (fun _ => ?_)
                    refine lv_iload hx hb dL_writes_292 (lv_at hl 2 rfl) ?_
                    refine lv_iload hx hb dL_writes_294 (lv_at hl 7 rfl) ?_
                    refine lv_icmp_ne (tgt := 366) hx hb dL_writes_296 (by decide) (fun c9 => absurd (rfl) c9) (fun _ => ?_)
                    refine lv_aload_n hx hb dL_writes_299 rfl (lv_at hl 9 rfl) ?_
                    refine lv_iload_n hx hb dL_writes_300 rfl (lv_at hl 11 rfl) ?_
                    refine kx_i (vx_runV (As := [.int (nI j)]) (rest := []) ⟨hx, hb, hml, hown, hts⟩ (k_X5_now l hnt D A ad45 w82 S2 nT (nC + 1) nD2 nM nZ hC88 hN2 (nI j)) (cwV 1 hts gL_writes_X5_now rfl rfl rfl (by decide +kernel) ⟨Nat.le_of_ble_eq_true rfl, Nat.le_of_ble_eq_true rfl⟩) (kV hE hW hC88.u rfl _) rfl rfl hl.1 rfl (lv_room (Nat.le_of_ble_eq_true rfl)) dL_writes_301 ⟨show 0 + 8 + 8 + 32 + 8 + 0 + 0 + 8 + 0 + 0 + 10 + 0 + 0 + 0 + 0 + 8 + 8 ≤ 146 by omega, show 0 + 60 + 60 + 240 + 60 + 0 + 0 + 60 + 0 + 0 + 2100 + 0 + 0 + 0 + 0 + 60 + 60 ≤ 3120 by omega⟩) hW (fun E ce q9 H locs hpx _ _ _ _ => (nf_ro (j := j) hj hpx).elim) (fun r149 ad146 w147 H150 locs hp148 hW => ?_)
                    obtain ⟨e151, -, e152, e153⟩ := hp148
                    rw [e152, e153] at hW
                    subst e151
                    rw [show S2 0 (nv (nI j)) = S2 0 j from by rw [show nv (nI j) = j from nI_clamp (by omega)]]
                    rw [show S2 0 j = x from p2]
                    refine lv_iload_n hx hb dL_writes_304 rfl (lv_at hl 12 rfl) ?_
                    refine lv_icmp_ne (tgt := 366) hx hb dL_writes_305 (by decide) (fun c9 => absurd (rfl) c9) (fun _ => ?_)
                    refine lv_aload_n hx hb dL_writes_308 rfl (lv_at hl 9 rfl) ?_
                    refine lv_iload_n hx hb dL_writes_309 rfl (lv_at hl 11 rfl) ?_
                    refine kx_i (vx_runV (As := [.int (nI j)]) (rest := []) ⟨hx, hb, hml, hown, hts⟩ (k_X5_lockOf l hnt D A ad45 w82 S2 nT (nC + 1) nD2 nM nZ hC88 hN2 (nI j)) (cwV 1 hts gL_writes_X5_lockOf rfl rfl rfl (by decide +kernel) ⟨Nat.le_of_ble_eq_true rfl, Nat.le_of_ble_eq_true rfl⟩) (kV hE hW hC88.u rfl _) rfl rfl hl.1 rfl (lv_room (Nat.le_of_ble_eq_true rfl)) dL_writes_310 ⟨show 0 + 8 + 8 + 32 + 8 + 0 + 0 + 8 + 0 + 0 + 10 + 0 + 0 + 0 + 0 + 8 + 8 + 8 ≤ 146 by omega, show 0 + 60 + 60 + 240 + 60 + 0 + 0 + 60 + 0 + 0 + 2100 + 0 + 0 + 0 + 0 + 60 + 60 + 60 ≤ 3120 by omega⟩) hW (fun E ce q9 H locs hpx _ _ _ _ => (nf_ro (j := j) hj hpx).elim) (fun r157 ad154 w155 H158 locs hp156 hW => ?_)
                    obtain ⟨e159, -, e160, e161⟩ := hp156
                    rw [e160, e161] at hW
                    subst e159
                    rw [show lockV S2 (nI j) = nI t from p1]
                    refine lv_iload_n hx hb dL_writes_313 rfl (lv_at hl 10 rfl) ?_
                    refine lv_icmp_ne (tgt := 366) hx hb dL_writes_314 (by decide) (fun c9 => absurd (rfl) c9) (fun _ => ?_)
                    refine lv_aload_n hx hb dL_writes_317 rfl (lv_at hl 9 rfl) ?_
                    refine lv_iload hx hb dL_writes_318 (lv_at hl 6 rfl) ?_
                    refine lv_iload hx hb dL_writes_320 (lv_at hl 0 rfl) ?_
                    refine kx_i (vx_runV (As := [.int (nI (j / 4)), .int 0]) (rest := []) ⟨hx, hb, hml, hown, hts⟩ (k_X5_slotOf l hnt D A ad45 w82 S2 nT (nC + 1) nD2 nM nZ hC88 hN2 (nI (j / 4)) 0) (cwV 2 hts gL_writes_X5_slotOf rfl rfl rfl (by decide +kernel) ⟨Nat.le_of_ble_eq_true rfl, Nat.le_of_ble_eq_true rfl⟩) (kV hE hW hC88.u rfl _) rfl rfl hl.1 rfl (lv_room (Nat.le_of_ble_eq_true rfl)) dL_writes_322 ⟨show 0 + 8 + 8 + 32 + 8 + 0 + 0 + 8 + 0 + 0 + 10 + 0 + 0 + 0 + 0 + 8 + 8 + 8 + 8 ≤ 146 by omega, show 0 + 60 + 60 + 240 + 60 + 0 + 0 + 60 + 0 + 0 + 2100 + 0 + 0 + 0 + 0 + 60 + 60 + 60 + 60 ≤ 3120 by omega⟩) hW (fun E ce q9 H locs hpx _ _ _ _ => (nf_so (b := (j / 4)) (k := 0) hb3 (by decide) hpx).elim) (fun r165 ad162 w163 H166 locs hp164 hW => ?_)
                    obtain ⟨e167, -, e168, e169⟩ := hp164
                    rw [e168, e169] at hW
                    subst e167
                    rw [show S2 8 (nv (2 * nI (j / 4) + 0)) = S2 8 (2 * (j / 4)) from by rw [show nv (2 * nI (j / 4) + 0) = 2 * (j / 4) from nv_so (b := (j / 4)) (k := 0) hb3 (by decide)]]
                    rw [show S2 8 (2 * (j / 4)) = nI t from c97]
                    refine lv_iload_n hx hb dL_writes_325 rfl (lv_at hl 10 rfl) ?_
                    refine lv_icmp_ne (tgt := 366) hx hb dL_writes_326 (by decide) (fun c9 => absurd (rfl) c9) (fun _ => ?_)
                    refine lv_aload_n hx hb dL_writes_329 rfl (lv_at hl 9 rfl) ?_
                    refine lv_iload hx hb dL_writes_330 (lv_at hl 6 rfl) ?_
                    refine lv_iload hx hb dL_writes_332 (lv_at hl 0 rfl) ?_
                    refine kx_i (vx_runV (As := [.int (nI (j / 4)), .int 0]) (rest := []) ⟨hx, hb, hml, hown, hts⟩ (k_X5_isMarked l hnt D A ad45 w82 S2 nT (nC + 1) nD2 nM nZ hC88 hN2 (nI (j / 4)) 0) (cwV 2 hts gL_writes_X5_isMarked rfl rfl rfl (by decide +kernel) ⟨Nat.le_of_ble_eq_true rfl, Nat.le_of_ble_eq_true rfl⟩) (kV hE hW hC88.u rfl _) rfl rfl hl.1 rfl (lv_room (Nat.le_of_ble_eq_true rfl)) dL_writes_334 ⟨show 0 + 8 + 8 + 32 + 8 + 0 + 0 + 8 + 0 + 0 + 10 + 0 + 0 + 0 + 0 + 8 + 8 + 8 + 8 + 8 ≤ 146 by omega, show 0 + 60 + 60 + 240 + 60 + 0 + 0 + 60 + 0 + 0 + 2100 + 0 + 0 + 0 + 0 + 60 + 60 + 60 + 60 + 60 ≤ 3120 by omega⟩) hW (fun E ce q9 H locs hpx _ _ _ _ => (nf_so (b := (j / 4)) (k := 0) hb3 (by decide) hpx).elim) (fun r173 ad170 w171 H174 locs hp172 hW => ?_)
                    obtain ⟨e175, -, e176, e177⟩ := hp172
                    rw [e176, e177] at hW
                    subst e175
                    rw [show S2 9 (nv (2 * nI (j / 4) + 0)) = S2 9 (2 * (j / 4)) from by rw [show nv (2 * nI (j / 4) + 0) = 2 * (j / 4) from nv_so (b := (j / 4)) (k := 0) hb3 (by decide)]]
                    rw [show S2 9 (2 * (j / 4)) = 0 from p4 _ (by omega) (c97)]
                    refine lv_if_ne (tgt := 366) hx hb dL_writes_337 (by decide) (fun c9 => absurd (rfl) c9) (fun _ => ?_)
                    refine lv_aload_n hx hb dL_writes_340 rfl (lv_at hl 9 rfl) ?_
                    refine lv_aload hx hb dL_writes_341 (lv_at hl 13 rfl) ?_
                    refine lv_iload hx hb dL_writes_343 (lv_at hl 6 rfl) ?_
                    refine kk_i (va_runS (As := [.ref (ad45 0), .ref (ad45 2101), .int (nI (j / 4))]) (rest := []) ⟨hx, hb, hml, hown, hts⟩ (k_L_isClean l hnt D A ad45 w82 S2 nT (nC + 1) nD2 nM nZ hC88 hN2 aF f85 haf2 (j / 4) hb3 p5 p6) (va_cwS 3 hts gL_writes_L_isClean rfl rfl rfl (by decide +kernel) ⟨Nat.le_of_ble_eq_true rfl, Nat.le_of_ble_eq_true rfl⟩) (kSt hE hW _) rfl rfl hl.1 rfl (lv_room (Nat.le_of_ble_eq_true rfl)) dL_writes_345 ⟨show 0 + 8 + 8 + 32 + 8 + 0 + 0 + 8 + 0 + 0 + 10 + 0 + 0 + 0 + 0 + 8 + 8 + 8 + 8 + 8 + 32 ≤ 146 by omega, show 0 + 60 + 60 + 240 + 60 + 0 + 0 + 60 + 0 + 0 + 2100 + 0 + 0 + 0 + 0 + 60 + 60 + 60 + 60 + 60 + 240 ≤ 3120 by omega⟩) hW (fun r181 ad178 w179 H182 locs hp180 hW => ?_)
                    obtain ⟨e183, e184, e185⟩ := hp180
                    rw [e184, e185] at hW
                    subst e183
                    refine lv_if_eq (tgt := 366) hx hb dL_writes_348 (by decide) (fun c9 => absurd c9 (by decide)) (fun _ => ?_)
                    refine lv_aload_n hx hb dL_writes_351 rfl (lv_at hl 9 rfl) ?_
                    refine kk_i (va_runV (As := []) (rest := []) ⟨hx, hb, hml, hown, hts⟩ (k_X5_marked l D A ad45 w82 S2 nT (nC + 1) nD2 nM nZ hC88 hN2) (cwV 0 hts gL_writes_X5_marked rfl rfl rfl (by decide +kernel) ⟨Nat.le_of_ble_eq_true rfl, Nat.le_of_ble_eq_true rfl⟩) (kV hE hW hC88.u rfl _) rfl rfl hl.1 rfl (lv_room (Nat.le_of_ble_eq_true rfl)) dL_writes_352 ⟨show 0 + 8 + 8 + 32 + 8 + 0 + 0 + 8 + 0 + 0 + 10 + 0 + 0 + 0 + 0 + 8 + 8 + 8 + 8 + 8 + 32 + 0 ≤ 146 by omega, show 0 + 60 + 60 + 240 + 60 + 0 + 0 + 60 + 0 + 0 + 2100 + 0 + 0 + 0 + 0 + 60 + 60 + 60 + 60 + 60 + 240 + 0 ≤ 3120 by omega⟩) hW (fun r189 ad186 w187 H190 locs hp188 hW => ?_)
                    obtain ⟨e191, e192, e193⟩ := hp188
                    rw [e192, e193] at hW
                    subst e191
                    refine lv_aload hx hb dL_writes_355 (lv_at hl 14 rfl) ?_
                    refine lv_iconst (v := 4) hx hb dL_writes_357 (by decide) ?_
                    refine kk_iald hx hb hE hW f87 (by unfold vp_in; decide) dL_writes_358 ?_
                    rw [show (upd ((upd ((upd (cF) 3 ((cF 3) + (bI (cF 2 = cF 5))))) 2 ((cF 2) + ((if cF 2 = cF 5 then 0 else 1))))) 4 ((cF 4) + (dyN S (j / 4)))) (nv 4) = S2 15 0 from (show (upd ((upd ((upd (cF) 3 ((cF 3) + (bI (cF 2 = cF 5))))) 2 ((cF 2) + ((if cF 2 = cF 5 then 0 else 1))))) 4 ((cF 4) + (dyN S (j / 4)))) (nv 4) = cF 4 + dyN S (j / 4) from upd_s).trans (by rw [hCF.2.2.2.2.1]; exact p7.symm)]
                    refine lv_icmp_ne (tgt := 366) hx hb dL_writes_359 (by decide) (fun c9 => absurd (rfl) c9) (fun _ => ?_)
                    refine lv_iconst (v := 1) hx hb dL_writes_362 (by decide) ?_
                    refine lv_goto (tgt := 367) hx hb dL_writes_363 (by decide) ?_
                    exact ke_z hx hb hr hlocks (show 0 + 8 + 8 + 32 + 8 + 0 + 0 + 8 + 0 + 0 + 10 + 0 + 0 + 0 + 0 + 8 + 8 + 8 + 8 + 8 + 32 + 0 ≤ 146 by omega) (show 0 + 60 + 60 + 240 + 60 + 0 + 0 + 60 + 0 + 0 + 2100 + 0 + 0 + 0 + 0 + 60 + 60 + 60 + 60 + 60 + 240 + 0 ≤ 3120 by omega) dL_writes_367 (by first | exact Or.inl rfl | exact Or.inr rfl | assumption) hW (⟨rfl, ⟨S2, nT, nC + 1, nD2, nM, nZ, aF, (upd ((upd ((upd (cF) 3 ((cF 3) + (bI (cF 2 = cF 5))))) 2 ((cF 2) + ((if cF 2 = cF 5 then 0 else 1))))) 4 ((cF 4) + (dyN S (j / 4)))), eF, hC88, hN2, hG2, by omega, f85, f87, f86, haf2, hcf3, hef2⟩, h0, (hF 2101 (by decide)).2, (hF 2102 (by decide)).2, (hF 2103 (by decide)).2⟩)
                · refine lv_icmp_ne (tgt := 257) hx hb dL_writes_250 (by decide) (fun c194 => ?_) (fun c194 => ?_)
                  · refine lv_iconst (v := 1) hx hb dL_writes_257 (by decide) ?_
                    exact J258 _ _ _ _ _ (by omega) (by omega) ((if_neg c194).symm) hW
                  · refine lv_iconst (v := 0) hx hb dL_writes_253 (by decide) ?_
                    refine lv_goto (tgt := 258) hx hb dL_writes_254 (by decide) ?_
                    exact J258 _ _ _ _ _ (by omega) (by omega) ((if_pos c194).symm) hW
              · refine lv_icmp_ne (tgt := 234) hx hb dL_writes_227 (by decide) (fun c195 => ?_) (fun c195 => ?_)
                · refine lv_iconst (v := 0) hx hb dL_writes_234 (by decide) ?_
                  exact J235 _ _ _ _ _ (by omega) (by omega) ((bI_0 c195).symm) hW
                · refine lv_iconst (v := 1) hx hb dL_writes_230 (by decide) ?_
                  refine lv_goto (tgt := 235) hx hb dL_writes_231 (by decide) ?_
                  exact J235 _ _ _ _ _ (by omega) (by omega) ((bI_1 c195).symm) hW
            · refine lv_if_eq (tgt := 151) hx hb dL_writes_122 (by decide) (fun c9 => absurd c9 (by decide)) (fun _ => ?_)
              refine lv_iload hx hb dL_writes_125 (lv_at hl 7 rfl) ?_
              refine lv_iconst (v := (-1)) hx hb dL_writes_127 (by decide) ?_
              refine lv_icmp_eq (tgt := 137) hx hb dL_writes_128 (by decide) (fun c196 => ?_) (fun c196 => ?_)
              · refine lv_iload hx hb dL_writes_137 (lv_at hl 2 rfl) ?_
                refine lv_if_ne (tgt := 147) hx hb dL_writes_139 (by decide) (fun c197 => ?_) (fun c197 => ?_)
                · refine lv_iconst (v := 1) hx hb dL_writes_147 (by decide) ?_
                  refine lv_goto (tgt := 152) hx hb dL_writes_148 (by decide) ?_
                  exact J152 _ _ _ _ _ (by omega) (by omega) (rfl) hW
                · refine lv_iload hx hb dL_writes_142 (lv_at hl 1 rfl) ?_
                  refine lv_if_eq (tgt := 151) hx hb dL_writes_144 (by decide) (fun c9 => absurd c9 (fun z => bI_f z (hmay.resolve_left (bI_f c197)))) (fun _ => ?_)
                  refine lv_iconst (v := 1) hx hb dL_writes_147 (by decide) ?_
                  refine lv_goto (tgt := 152) hx hb dL_writes_148 (by decide) ?_
                  exact J152 _ _ _ _ _ (by omega) (by omega) (rfl) hW
              · refine lv_iload hx hb dL_writes_131 (lv_at hl 7 rfl) ?_
                refine lv_iload_n hx hb dL_writes_133 rfl (lv_at hl 9 rfl) ?_
                refine lv_icmp_ne (tgt := 151) hx hb dL_writes_134 (by decide) (fun c9 => absurd (hlk.resolve_left c196) c9) (fun _ => ?_)
                refine lv_iload hx hb dL_writes_137 (lv_at hl 2 rfl) ?_
                refine lv_if_ne (tgt := 147) hx hb dL_writes_139 (by decide) (fun c198 => ?_) (fun c198 => ?_)
                · refine lv_iconst (v := 1) hx hb dL_writes_147 (by decide) ?_
                  refine lv_goto (tgt := 152) hx hb dL_writes_148 (by decide) ?_
                  exact J152 _ _ _ _ _ (by omega) (by omega) (rfl) hW
                · refine lv_iload hx hb dL_writes_142 (lv_at hl 1 rfl) ?_
                  refine lv_if_eq (tgt := 151) hx hb dL_writes_144 (by decide) (fun c9 => absurd c9 (fun z => bI_f z (hmay.resolve_left (bI_f c198)))) (fun _ => ?_)
                  refine lv_iconst (v := 1) hx hb dL_writes_147 (by decide) ?_
                  refine lv_goto (tgt := 152) hx hb dL_writes_148 (by decide) ?_
                  exact J152 _ _ _ _ _ (by omega) (by omega) (rfl) hW
          · rw [e3, e4] at hW
            obtain ⟨hn1, hn2, hn3⟩ := wrK_e ⟨hth, hrr⟩ hgd
            rcases hE9 with ⟨-, h9⟩ | ⟨-, h9⟩ | ⟨rfl, h9⟩
            · exact absurd h9 hn1
            · exact absurd h9 hn2
            · have hnw := hn3 h9
              refine lv_istore (lv' := [(12, .int (-9000008)), (10, .int (bI (freeP S (2 * (j / 4)) ∨ freeP S (2 * (j / 4) + 1)))), (11, .int (bI (S 8 (2 * (j / 4)) = nI t ∨ S 8 (2 * (j / 4) + 1) = nI t))), (13, .int (S 8 (2 * (j / 4) + 1))), (9, .int (dyN S (j / 4))), (8, .int (nI (j / 4))), (7, .int (S 0 j)), (6, .int (lockV S (nI j))), (0, .ref (ad 0)), (1, .int (nI t)), (2, .int (nI j)), (3, .int x), (4, .ref (ad 2101)), (5, .ref (ad 2102))]) hx hb dL_writes_114 hl (by decide) rfl (fun ls hl => ?_)
              refine lv_aload hx hb dL_writes_116 (lv_at hl 12 rfl) ?_
              refine lv_iload_n hx hb dL_writes_118 rfl (lv_at hl 9 rfl) ?_
              refine kk_i (va_runS (As := [.ref (ad 2101), .int (nI t)]) (rest := []) ⟨hx, hb, hml, hown, hts⟩ (k_L_isActive l hnt D A ad w S nT nC nD nM nZ hN aF hA1 hAF ((nI t)) (Or.inr ⟨t, ht, rfl⟩)) (va_cwS 2 hts gL_writes_L_isActive rfl rfl rfl (by decide +kernel) ⟨Nat.le_of_ble_eq_true rfl, Nat.le_of_ble_eq_true rfl⟩) (kSt hE hW _) rfl rfl hl.1 rfl (lv_room (Nat.le_of_ble_eq_true rfl)) dL_writes_119 ⟨show 0 + 8 + 8 + 32 + 8 + 0 + 0 + 8 + 0 + 0 + 10 + 0 ≤ 146 by omega, show 0 + 60 + 60 + 240 + 60 + 0 + 0 + 60 + 0 + 0 + 2100 + 0 ≤ 3120 by omega⟩) hW (fun r202 ad199 w200 H203 locs hp201 hW => ?_)
              obtain ⟨e204, e205, e206⟩ := hp201
              rw [e205, e206] at hW
              subst e204
              rw [show isA S (nI t) = bI (S 1 t = 0) from isA_t (by omega)]
              refine W_joinC (D := D) (A := A) (w := w) (ad := ad) (P := fun v => v = 0 ∨ (v = 1 ∧ cF 2 = cF 5)) (pj := 152) (rj := []) (lj := ls) (c1 := 0 + 8 + 8 + 32 + 8 + 0 + 0 + 8 + 0 + 0 + 10 + 0 + 0) (s1 := 0 + 60 + 60 + 240 + 60 + 0 + 0 + 60 + 0 + 0 + 2100 + 0 + 0) (fun v9 H207 locs hv9 hW => ?_) (fun J152 => ?_)
              · refine lv_istore (lv' := [(13, .int (v9)), (12, .int (-9000008)), (10, .int (bI (freeP S (2 * (j / 4)) ∨ freeP S (2 * (j / 4) + 1)))), (11, .int (bI (S 8 (2 * (j / 4)) = nI t ∨ S 8 (2 * (j / 4) + 1) = nI t))), (9, .int (dyN S (j / 4))), (8, .int (nI (j / 4))), (7, .int (S 0 j)), (6, .int (lockV S (nI j))), (0, .ref (ad 0)), (1, .int (nI t)), (2, .int (nI j)), (3, .int x), (4, .ref (ad 2101)), (5, .ref (ad 2102))]) hx hb dL_writes_152 hl (by decide) rfl (fun ls hl => ?_)
                refine lv_iload hx hb dL_writes_154 (lv_at hl 1 rfl) ?_
                refine lv_ldc (v := (-9000008)) hx hb hown (hts (.constant RL 48 ((-9000008))) (by decide +kernel)) dL_writes_156 ?_
                refine lv_icmp_ne (tgt := 214) hx hb dL_writes_158 (by decide) (fun c9 => absurd (rfl) c9) (fun _ => ?_)
                refine lv_iload hx hb dL_writes_161 (lv_at hl 0 rfl) ?_
                rcases hv9 with rfl | ⟨rfl, hcc⟩
                · refine lv_if_eq (tgt := 177) hx hb dL_writes_163 (by decide) (fun _ => ?_) (fun c9 => absurd (rfl) c9)
                  refine lv_aload_n hx hb dL_writes_177 rfl (lv_at hl 8 rfl) ?_
                  refine lv_iload_n hx hb dL_writes_178 rfl (lv_at hl 10 rfl) ?_
                  refine kx_i (vx_runV (As := [.int (nI j)]) (rest := []) ⟨hx, hb, hml, hown, hts⟩ (k_X5_now l hnt D A ad w S nT nC nD nM nZ hC hN (nI j)) (cwV 1 hts gL_writes_X5_now rfl rfl rfl (by decide +kernel) ⟨Nat.le_of_ble_eq_true rfl, Nat.le_of_ble_eq_true rfl⟩) (kV hE hW hC.u rfl _) rfl rfl hl.1 rfl (lv_room (Nat.le_of_ble_eq_true rfl)) dL_writes_179 ⟨show 0 + 8 + 8 + 32 + 8 + 0 + 0 + 8 + 0 + 0 + 10 + 0 + 0 + 8 ≤ 146 by omega, show 0 + 60 + 60 + 240 + 60 + 0 + 0 + 60 + 0 + 0 + 2100 + 0 + 0 + 60 ≤ 3120 by omega⟩) hW (fun E ce q9 H locs hpx _ _ _ _ => (nf_ro (j := j) hj hpx).elim) (fun r211 ad208 w209 H212 locs hp210 hW => ?_)
                  obtain ⟨e213, -, e214, e215⟩ := hp210
                  rw [e214, e215] at hW
                  subst e213
                  rw [show S 0 (nv (nI j)) = S 0 j from by rw [show nv (nI j) = j from nI_clamp (by omega)]]
                  refine lv_iload hx hb dL_writes_182 (lv_at hl 6 rfl) ?_
                  refine lv_icmp_ne (tgt := 212) hx hb dL_writes_184 (by decide) (fun c9 => absurd (rfl) c9) (fun _ => ?_)
                  refine lv_aload_n hx hb dL_writes_187 rfl (lv_at hl 8 rfl) ?_
                  refine lv_iload_n hx hb dL_writes_188 rfl (lv_at hl 10 rfl) ?_
                  refine kx_i (vx_runV (As := [.int (nI j)]) (rest := []) ⟨hx, hb, hml, hown, hts⟩ (k_X5_lockOf l hnt D A ad w S nT nC nD nM nZ hC hN (nI j)) (cwV 1 hts gL_writes_X5_lockOf rfl rfl rfl (by decide +kernel) ⟨Nat.le_of_ble_eq_true rfl, Nat.le_of_ble_eq_true rfl⟩) (kV hE hW hC.u rfl _) rfl rfl hl.1 rfl (lv_room (Nat.le_of_ble_eq_true rfl)) dL_writes_189 ⟨show 0 + 8 + 8 + 32 + 8 + 0 + 0 + 8 + 0 + 0 + 10 + 0 + 0 + 8 + 8 ≤ 146 by omega, show 0 + 60 + 60 + 240 + 60 + 0 + 0 + 60 + 0 + 0 + 2100 + 0 + 0 + 60 + 60 ≤ 3120 by omega⟩) hW (fun E ce q9 H locs hpx _ _ _ _ => (nf_ro (j := j) hj hpx).elim) (fun r219 ad216 w217 H220 locs hp218 hW => ?_)
                  obtain ⟨e221, -, e222, e223⟩ := hp218
                  rw [e222, e223] at hW
                  subst e221
                  refine lv_iload hx hb dL_writes_192 (lv_at hl 7 rfl) ?_
                  refine lv_icmp_ne (tgt := 212) hx hb dL_writes_194 (by decide) (fun c9 => absurd (rfl) c9) (fun _ => ?_)
                  refine lv_aload_n hx hb dL_writes_197 rfl (lv_at hl 8 rfl) ?_
                  refine kk_i (va_runV (As := []) (rest := []) ⟨hx, hb, hml, hown, hts⟩ (k_X5_marked l D A ad w S nT nC nD nM nZ hC hN) (cwV 0 hts gL_writes_X5_marked rfl rfl rfl (by decide +kernel) ⟨Nat.le_of_ble_eq_true rfl, Nat.le_of_ble_eq_true rfl⟩) (kV hE hW hC.u rfl _) rfl rfl hl.1 rfl (lv_room (Nat.le_of_ble_eq_true rfl)) dL_writes_198 ⟨show 0 + 8 + 8 + 32 + 8 + 0 + 0 + 8 + 0 + 0 + 10 + 0 + 0 + 8 + 8 + 0 ≤ 146 by omega, show 0 + 60 + 60 + 240 + 60 + 0 + 0 + 60 + 0 + 0 + 2100 + 0 + 0 + 60 + 60 + 0 ≤ 3120 by omega⟩) hW (fun r227 ad224 w225 H228 locs hp226 hW => ?_)
                  obtain ⟨e229, e230, e231⟩ := hp226
                  rw [e230, e231] at hW
                  subst e229
                  refine lv_aload hx hb dL_writes_201 (lv_at hl 13 rfl) ?_
                  refine lv_iconst (v := 4) hx hb dL_writes_203 (by decide) ?_
                  refine kk_iald hx hb hE hW hA2 (by unfold vp_in; decide) dL_writes_204 ?_
                  rw [show cF (nv 4) = S 15 0 from hCF.2.2.2.2.1]
                  refine lv_icmp_ne (tgt := 212) hx hb dL_writes_205 (by decide) (fun c9 => absurd (rfl) c9) (fun _ => ?_)
                  refine lv_iconst (v := 1) hx hb dL_writes_208 (by decide) ?_
                  refine lv_goto (tgt := 213) hx hb dL_writes_209 (by decide) ?_
                  exact ke_z hx hb hr hlocks (show 0 + 8 + 8 + 32 + 8 + 0 + 0 + 8 + 0 + 0 + 10 + 0 + 0 + 8 + 8 + 0 ≤ 146 by omega) (show 0 + 60 + 60 + 240 + 60 + 0 + 0 + 60 + 0 + 0 + 2100 + 0 + 0 + 60 + 60 + 0 ≤ 3120 by omega) dL_writes_213 (by first | exact Or.inl rfl | exact Or.inr rfl | assumption) hW (⟨rfl, ⟨S, nT, nC, nD, nM, nZ, aF, cF, eF, hC, hN, hG, by omega, hA1, hA2, hA3, hAF, hCF, hEF⟩, rfl, rfl, rfl, rfl⟩)
                · refine lv_if_eq (tgt := 177) hx hb dL_writes_163 (by decide) (fun c9 => absurd c9 (by decide)) (fun _ => ?_)
                  refine lv_aload hx hb dL_writes_166 (lv_at hl 13 rfl) ?_
                  refine lv_iconst (v := 2) hx hb dL_writes_168 (by decide) ?_
                  refine kk_iald hx hb hE hW hA2 (by unfold vp_in; decide) dL_writes_169 ?_
                  rw [show cF (nv 2) = cF 2 from rfl]
                  refine lv_aload hx hb dL_writes_170 (lv_at hl 13 rfl) ?_
                  refine lv_iconst (v := 5) hx hb dL_writes_172 (by decide) ?_
                  refine kk_iald hx hb hE hW hA2 (by unfold vp_in; decide) dL_writes_173 ?_
                  rw [show cF (nv 5) = cF 5 from rfl]
                  refine lv_icmp_ne (tgt := 212) hx hb dL_writes_174 (by decide) (fun c9 => absurd (hcc) c9) (fun _ => ?_)
                  refine lv_aload_n hx hb dL_writes_177 rfl (lv_at hl 8 rfl) ?_
                  refine lv_iload_n hx hb dL_writes_178 rfl (lv_at hl 10 rfl) ?_
                  refine kx_i (vx_runV (As := [.int (nI j)]) (rest := []) ⟨hx, hb, hml, hown, hts⟩ (k_X5_now l hnt D A ad w S nT nC nD nM nZ hC hN (nI j)) (cwV 1 hts gL_writes_X5_now rfl rfl rfl (by decide +kernel) ⟨Nat.le_of_ble_eq_true rfl, Nat.le_of_ble_eq_true rfl⟩) (kV hE hW hC.u rfl _) rfl rfl hl.1 rfl (lv_room (Nat.le_of_ble_eq_true rfl)) dL_writes_179 ⟨show 0 + 8 + 8 + 32 + 8 + 0 + 0 + 8 + 0 + 0 + 10 + 0 + 0 + 8 ≤ 146 by omega, show 0 + 60 + 60 + 240 + 60 + 0 + 0 + 60 + 0 + 0 + 2100 + 0 + 0 + 60 ≤ 3120 by omega⟩) hW (fun E ce q9 H locs hpx _ _ _ _ => (nf_ro (j := j) hj hpx).elim) (fun r235 ad232 w233 H236 locs hp234 hW => ?_)
                  obtain ⟨e237, -, e238, e239⟩ := hp234
                  rw [e238, e239] at hW
                  subst e237
                  rw [show S 0 (nv (nI j)) = S 0 j from by rw [show nv (nI j) = j from nI_clamp (by omega)]]
                  refine lv_iload hx hb dL_writes_182 (lv_at hl 6 rfl) ?_
                  refine lv_icmp_ne (tgt := 212) hx hb dL_writes_184 (by decide) (fun c9 => absurd (rfl) c9) (fun _ => ?_)
                  refine lv_aload_n hx hb dL_writes_187 rfl (lv_at hl 8 rfl) ?_
                  refine lv_iload_n hx hb dL_writes_188 rfl (lv_at hl 10 rfl) ?_
                  refine kx_i (vx_runV (As := [.int (nI j)]) (rest := []) ⟨hx, hb, hml, hown, hts⟩ (k_X5_lockOf l hnt D A ad w S nT nC nD nM nZ hC hN (nI j)) (cwV 1 hts gL_writes_X5_lockOf rfl rfl rfl (by decide +kernel) ⟨Nat.le_of_ble_eq_true rfl, Nat.le_of_ble_eq_true rfl⟩) (kV hE hW hC.u rfl _) rfl rfl hl.1 rfl (lv_room (Nat.le_of_ble_eq_true rfl)) dL_writes_189 ⟨show 0 + 8 + 8 + 32 + 8 + 0 + 0 + 8 + 0 + 0 + 10 + 0 + 0 + 8 + 8 ≤ 146 by omega, show 0 + 60 + 60 + 240 + 60 + 0 + 0 + 60 + 0 + 0 + 2100 + 0 + 0 + 60 + 60 ≤ 3120 by omega⟩) hW (fun E ce q9 H locs hpx _ _ _ _ => (nf_ro (j := j) hj hpx).elim) (fun r243 ad240 w241 H244 locs hp242 hW => ?_)
                  obtain ⟨e245, -, e246, e247⟩ := hp242
                  rw [e246, e247] at hW
                  subst e245
                  refine lv_iload hx hb dL_writes_192 (lv_at hl 7 rfl) ?_
                  refine lv_icmp_ne (tgt := 212) hx hb dL_writes_194 (by decide) (fun c9 => absurd (rfl) c9) (fun _ => ?_)
                  refine lv_aload_n hx hb dL_writes_197 rfl (lv_at hl 8 rfl) ?_
                  refine kk_i (va_runV (As := []) (rest := []) ⟨hx, hb, hml, hown, hts⟩ (k_X5_marked l D A ad w S nT nC nD nM nZ hC hN) (cwV 0 hts gL_writes_X5_marked rfl rfl rfl (by decide +kernel) ⟨Nat.le_of_ble_eq_true rfl, Nat.le_of_ble_eq_true rfl⟩) (kV hE hW hC.u rfl _) rfl rfl hl.1 rfl (lv_room (Nat.le_of_ble_eq_true rfl)) dL_writes_198 ⟨show 0 + 8 + 8 + 32 + 8 + 0 + 0 + 8 + 0 + 0 + 10 + 0 + 0 + 8 + 8 + 0 ≤ 146 by omega, show 0 + 60 + 60 + 240 + 60 + 0 + 0 + 60 + 0 + 0 + 2100 + 0 + 0 + 60 + 60 + 0 ≤ 3120 by omega⟩) hW (fun r251 ad248 w249 H252 locs hp250 hW => ?_)
                  obtain ⟨e253, e254, e255⟩ := hp250
                  rw [e254, e255] at hW
                  subst e253
                  refine lv_aload hx hb dL_writes_201 (lv_at hl 13 rfl) ?_
                  refine lv_iconst (v := 4) hx hb dL_writes_203 (by decide) ?_
                  refine kk_iald hx hb hE hW hA2 (by unfold vp_in; decide) dL_writes_204 ?_
                  rw [show cF (nv 4) = S 15 0 from hCF.2.2.2.2.1]
                  refine lv_icmp_ne (tgt := 212) hx hb dL_writes_205 (by decide) (fun c9 => absurd (rfl) c9) (fun _ => ?_)
                  refine lv_iconst (v := 1) hx hb dL_writes_208 (by decide) ?_
                  refine lv_goto (tgt := 213) hx hb dL_writes_209 (by decide) ?_
                  exact ke_z hx hb hr hlocks (show 0 + 8 + 8 + 32 + 8 + 0 + 0 + 8 + 0 + 0 + 10 + 0 + 0 + 8 + 8 + 0 ≤ 146 by omega) (show 0 + 60 + 60 + 240 + 60 + 0 + 0 + 60 + 0 + 0 + 2100 + 0 + 0 + 60 + 60 + 0 ≤ 3120 by omega) dL_writes_213 (by first | exact Or.inl rfl | exact Or.inr rfl | assumption) hW (⟨rfl, ⟨S, nT, nC, nD, nM, nZ, aF, cF, eF, hC, hN, hG, by omega, hA1, hA2, hA3, hAF, hCF, hEF⟩, rfl, rfl, rfl, rfl⟩)
              · refine lv_if_eq (tgt := 151) hx hb dL_writes_122 (by decide) (fun c1 => ?_) (fun c1 => ?_)
                · refine lv_iconst (v := 0) hx hb dL_writes_151 (by decide) ?_
                  exact J152 _ _ _ _ _ (by omega) (by omega) (Or.inl rfl) hW
                · refine lv_iload hx hb dL_writes_125 (lv_at hl 7 rfl) ?_
                  refine lv_iconst (v := (-1)) hx hb dL_writes_127 (by decide) ?_
                  refine lv_icmp_eq (tgt := 137) hx hb dL_writes_128 (by decide) (fun c256 => ?_) (fun c256 => ?_)
                  · refine lv_iload hx hb dL_writes_137 (lv_at hl 2 rfl) ?_
                    refine lv_if_ne (tgt := 147) hx hb dL_writes_139 (by decide) (fun c257 => ?_) (fun c257 => ?_)
                    · refine lv_iconst (v := 1) hx hb dL_writes_147 (by decide) ?_
                      refine lv_goto (tgt := 152) hx hb dL_writes_148 (by decide) ?_
                      exact J152 _ _ _ _ _ (by omega) (by omega) (Or.inr ⟨rfl, (hCF.2.2.1.trans (wr_not hN hj hnw ⟨⟨hth, hrr⟩, hgd, (actP_t (by omega)).mpr (bI_t c1)⟩ (Or.inl c256) ((slF_may hb3).mpr (Or.inl (bI_t c257))))).trans hCF.2.2.2.2.2.symm⟩) hW
                    · refine lv_iload hx hb dL_writes_142 (lv_at hl 1 rfl) ?_
                      refine lv_if_eq (tgt := 151) hx hb dL_writes_144 (by decide) (fun c258 => ?_) (fun c258 => ?_)
                      · refine lv_iconst (v := 0) hx hb dL_writes_151 (by decide) ?_
                        exact J152 _ _ _ _ _ (by omega) (by omega) (Or.inl rfl) hW
                      · refine lv_iconst (v := 1) hx hb dL_writes_147 (by decide) ?_
                        refine lv_goto (tgt := 152) hx hb dL_writes_148 (by decide) ?_
                        exact J152 _ _ _ _ _ (by omega) (by omega) (Or.inr ⟨rfl, (hCF.2.2.1.trans (wr_not hN hj hnw ⟨⟨hth, hrr⟩, hgd, (actP_t (by omega)).mpr (bI_t c1)⟩ (Or.inl c256) ((slF_may hb3).mpr (Or.inr (bI_t c258))))).trans hCF.2.2.2.2.2.symm⟩) hW
                  · refine lv_iload hx hb dL_writes_131 (lv_at hl 7 rfl) ?_
                    refine lv_iload_n hx hb dL_writes_133 rfl (lv_at hl 9 rfl) ?_
                    refine lv_icmp_ne (tgt := 151) hx hb dL_writes_134 (by decide) (fun c259 => ?_) (fun c259 => ?_)
                    · refine lv_iconst (v := 0) hx hb dL_writes_151 (by decide) ?_
                      exact J152 _ _ _ _ _ (by omega) (by omega) (Or.inl rfl) hW
                    · refine lv_iload hx hb dL_writes_137 (lv_at hl 2 rfl) ?_
                      refine lv_if_ne (tgt := 147) hx hb dL_writes_139 (by decide) (fun c260 => ?_) (fun c260 => ?_)
                      · refine lv_iconst (v := 1) hx hb dL_writes_147 (by decide) ?_
                        refine lv_goto (tgt := 152) hx hb dL_writes_148 (by decide) ?_
                        exact J152 _ _ _ _ _ (by omega) (by omega) (Or.inr ⟨rfl, (hCF.2.2.1.trans (wr_not hN hj hnw ⟨⟨hth, hrr⟩, hgd, (actP_t (by omega)).mpr (bI_t c1)⟩ (Or.inr c259) ((slF_may hb3).mpr (Or.inl (bI_t c260))))).trans hCF.2.2.2.2.2.symm⟩) hW
                      · refine lv_iload hx hb dL_writes_142 (lv_at hl 1 rfl) ?_
                        refine lv_if_eq (tgt := 151) hx hb dL_writes_144 (by decide) (fun c261 => ?_) (fun c261 => ?_)
                        · refine lv_iconst (v := 0) hx hb dL_writes_151 (by decide) ?_
                          exact J152 _ _ _ _ _ (by omega) (by omega) (Or.inl rfl) hW
                        · refine lv_iconst (v := 1) hx hb dL_writes_147 (by decide) ?_
                          refine lv_goto (tgt := 152) hx hb dL_writes_148 (by decide) ?_
                          exact J152 _ _ _ _ _ (by omega) (by omega) (Or.inr ⟨rfl, (hCF.2.2.1.trans (wr_not hN hj hnw ⟨⟨hth, hrr⟩, hgd, (actP_t (by omega)).mpr (bI_t c1)⟩ (Or.inr c259) ((slF_may hb3).mpr (Or.inr (bI_t c261))))).trans hCF.2.2.2.2.2.symm⟩) hW
        · refine lv_iload hx hb dL_writes_72 (lv_at hl 3 rfl) ?_
          refine lv_if_ne (tgt := 93) hx hb dL_writes_74 (by decide) (fun c262 => ?_) (fun c262 => ?_)
          · refine lv_iconst (v := 1) hx hb dL_writes_93 (by decide) ?_
            refine lv_goto (tgt := 98) hx hb dL_writes_94 (by decide) ?_
            exact J98 _ _ _ _ _ (by omega) (by omega) ((bI_1 (Or.inl (bI_t c262))).symm) hW
          · refine lv_iload hx hb dL_writes_77 (lv_at hl 1 rfl) ?_
            refine lv_iconst (v := (-1)) hx hb dL_writes_79 (by decide) ?_
            refine lv_icmp_eq (tgt := 93) hx hb dL_writes_80 (by decide) (fun c263 => ?_) (fun c263 => ?_)
            · refine lv_iconst (v := 1) hx hb dL_writes_93 (by decide) ?_
              refine lv_goto (tgt := 98) hx hb dL_writes_94 (by decide) ?_
              exact J98 _ _ _ _ _ (by omega) (by omega) ((bI_1 (Or.inr (Or.inl c263))).symm) hW
            · refine lv_aload hx hb dL_writes_83 (lv_at hl 12 rfl) ?_
              refine lv_iload hx hb dL_writes_85 (lv_at hl 1 rfl) ?_
              refine kk_i (va_runS (As := [.ref (ad 2101), .int (S 8 (2 * (j / 4) + 1))]) (rest := []) ⟨hx, hb, hml, hown, hts⟩ (k_L_isActive l hnt D A ad w S nT nC nD nM nZ hN aF hA1 hAF ((S 8 (2 * (j / 4) + 1))) (hN.sl (i := 2 * (j / 4) + 1) (by omega))) (va_cwS 2 hts gL_writes_L_isActive rfl rfl rfl (by decide +kernel) ⟨Nat.le_of_ble_eq_true rfl, Nat.le_of_ble_eq_true rfl⟩) (kSt hE hW _) rfl rfl hl.1 rfl (lv_room (Nat.le_of_ble_eq_true rfl)) dL_writes_87 ⟨show 0 + 8 + 8 + 32 + 8 + 0 + 0 + 8 + 0 + 0 ≤ 146 by omega, show 0 + 60 + 60 + 240 + 60 + 0 + 0 + 60 + 0 + 0 ≤ 3120 by omega⟩) hW (fun r267 ad264 w265 H268 locs hp266 hW => ?_)
              obtain ⟨e269, e270, e271⟩ := hp266
              rw [e270, e271] at hW
              subst e269
              rw [show isA S (S 8 (2 * (j / 4) + 1)) = bI (S 8 (2 * (j / 4) + 1) ≠ -1 ∧ actP S (S 8 (2 * (j / 4) + 1))) from isA_e hN (by omega)]
              refine lv_if_ne (tgt := 97) hx hb dL_writes_90 (by decide) (fun c272 => ?_) (fun c272 => ?_)
              · refine lv_iconst (v := 0) hx hb dL_writes_97 (by decide) ?_
                exact J98 _ _ _ _ _ (by omega) (by omega) ((bI_0 (fun q => q.elim (bI_f c262) (fun q => q.elim c263 (fun z => z (bI_t c272).2)))).symm) hW
              · refine lv_iconst (v := 1) hx hb dL_writes_93 (by decide) ?_
                refine lv_goto (tgt := 98) hx hb dL_writes_94 (by decide) ?_
                exact J98 _ _ _ _ _ (by omega) (by omega) ((bI_1 (show (freeP S (2 * (j / 4)) ∨ freeP S (2 * (j / 4) + 1)) from Or.inr (Or.inr (fun z => (bI_f c272) ⟨c263, z⟩)))).symm) hW
      · refine lv_iload hx hb dL_writes_54 (lv_at hl 3 rfl) ?_
        refine lv_if_ne (tgt := 65) hx hb dL_writes_56 (by decide) (fun c273 => ?_) (fun c273 => ?_)
        · refine lv_iconst (v := 1) hx hb dL_writes_65 (by decide) ?_
          refine lv_goto (tgt := 70) hx hb dL_writes_66 (by decide) ?_
          exact J70 _ _ _ _ _ (by omega) (by omega) ((bI_1 (Or.inl (bI_t c273))).symm) hW
        · refine lv_iload hx hb dL_writes_59 (lv_at hl 0 rfl) ?_
          refine lv_iload_n hx hb dL_writes_61 rfl (lv_at hl 9 rfl) ?_
          refine lv_icmp_ne (tgt := 69) hx hb dL_writes_62 (by decide) (fun c274 => ?_) (fun c274 => ?_)
          · refine lv_iconst (v := 0) hx hb dL_writes_69 (by decide) ?_
            exact J70 _ _ _ _ _ (by omega) (by omega) ((bI_0 (fun q => q.elim (bI_f c273) c274)).symm) hW
          · refine lv_iconst (v := 1) hx hb dL_writes_65 (by decide) ?_
            refine lv_goto (tgt := 70) hx hb dL_writes_66 (by decide) ?_
            exact J70 _ _ _ _ _ (by omega) (by omega) ((bI_1 (Or.inr c274)).symm) hW
    · refine lv_iload hx hb dL_writes_72 (lv_at hl 3 rfl) ?_
      refine lv_if_ne (tgt := 93) hx hb dL_writes_74 (by decide) (fun c9 => absurd (rfl) c9) (fun _ => ?_)
      refine lv_iload hx hb dL_writes_77 (lv_at hl 1 rfl) ?_
      refine lv_iconst (v := (-1)) hx hb dL_writes_79 (by decide) ?_
      refine lv_icmp_eq (tgt := 93) hx hb dL_writes_80 (by decide) (fun c275 => ?_) (fun c275 => ?_)
      · refine lv_iconst (v := 1) hx hb dL_writes_93 (by decide) ?_
        refine lv_goto (tgt := 98) hx hb dL_writes_94 (by decide) ?_
        exact J98 _ _ _ _ _ (by omega) (by omega) ((bI_1 ((Or.inl c275))).symm) hW
      · refine lv_aload hx hb dL_writes_83 (lv_at hl 12 rfl) ?_
        refine lv_iload hx hb dL_writes_85 (lv_at hl 1 rfl) ?_
        refine kk_i (va_runS (As := [.ref (ad 2101), .int (S 8 (2 * (j / 4)))]) (rest := []) ⟨hx, hb, hml, hown, hts⟩ (k_L_isActive l hnt D A ad w S nT nC nD nM nZ hN aF hA1 hAF ((S 8 (2 * (j / 4)))) (hN.sl (i := 2 * (j / 4)) (by omega))) (va_cwS 2 hts gL_writes_L_isActive rfl rfl rfl (by decide +kernel) ⟨Nat.le_of_ble_eq_true rfl, Nat.le_of_ble_eq_true rfl⟩) (kSt hE hW _) rfl rfl hl.1 rfl (lv_room (Nat.le_of_ble_eq_true rfl)) dL_writes_87 ⟨show 0 + 8 + 8 + 32 + 8 + 0 + 0 ≤ 146 by omega, show 0 + 60 + 60 + 240 + 60 + 0 + 0 ≤ 3120 by omega⟩) hW (fun r279 ad276 w277 H280 locs hp278 hW => ?_)
        obtain ⟨e281, e282, e283⟩ := hp278
        rw [e282, e283] at hW
        subst e281
        rw [show isA S (S 8 (2 * (j / 4))) = bI (S 8 (2 * (j / 4)) ≠ -1 ∧ actP S (S 8 (2 * (j / 4)))) from isA_e hN (by omega)]
        refine lv_if_ne (tgt := 97) hx hb dL_writes_90 (by decide) (fun c284 => ?_) (fun c284 => ?_)
        · refine lv_iconst (v := 0) hx hb dL_writes_97 (by decide) ?_
          exact J98 _ _ _ _ _ (by omega) (by omega) ((bI_0 ((fun q => q.elim c275 (fun z => z (bI_t c284).2)))).symm) hW
        · refine lv_iconst (v := 1) hx hb dL_writes_93 (by decide) ?_
          refine lv_goto (tgt := 98) hx hb dL_writes_94 (by decide) ?_
          exact J98 _ _ _ _ _ (by omega) (by omega) ((bI_1 (show (freeP S (2 * (j / 4))) from (Or.inr (fun z => (bI_f c284) ⟨c275, z⟩)))).symm) hW
  · refine lv_iload hx hb dL_writes_54 (lv_at hl 2 rfl) ?_
    refine lv_if_ne (tgt := 65) hx hb dL_writes_56 (by decide) (fun c9 => absurd (rfl) c9) (fun _ => ?_)
    refine lv_iload hx hb dL_writes_59 (lv_at hl 0 rfl) ?_
    refine lv_iload_n hx hb dL_writes_61 rfl (lv_at hl 9 rfl) ?_
    refine lv_icmp_ne (tgt := 69) hx hb dL_writes_62 (by decide) (fun c285 => ?_) (fun c285 => ?_)
    · refine lv_iconst (v := 0) hx hb dL_writes_69 (by decide) ?_
      exact J70 _ _ _ _ _ (by omega) (by omega) ((bI_0 (c285)).symm) hW
    · refine lv_iconst (v := 1) hx hb dL_writes_65 (by decide) ?_
      refine lv_goto (tgt := 70) hx hb dL_writes_66 (by decide) ?_
      exact J70 _ _ _ _ _ (by omega) (by omega) ((bI_1 (c285)).symm) hW

