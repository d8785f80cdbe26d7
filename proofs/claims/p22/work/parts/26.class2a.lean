/-! the class: what cleans, what undoes, what reads back -/
set_option maxHeartbeats 4000000 in
set_option maxRecDepth 100000 in
/-- k_X0_slotFor -/
theorem k_X0_slotFor (l : Launch) (D : va_G) (A : Nat → Prop) (ad : Nat → Nat) (w : kWd) (S : St) (nT nC nD nM nZ : Nat) (hC : CW D S ad w nT nC) (hN : SN S nT nC nD nM nZ) (b : Nat) (hb3 : b < 3) (u : Nat) (hu : u < nT) : Met l yX0_slotFor wsX0_slotFor ({ frames := 1, cells := 0, slots := 0, locals := 20 }) (kPc D A [.ref (ad (10 + b)), .ref (ad (tkey u))] ad w) (kQq D A (fun v ad' w' => v = slO ad S (nI u) b ∧ ad' = ad ∧ w' = w)) 0 0 A := by
  refine Met.ofW (cc := cX0_slotFor) (maxL := 6) (ret := (some (.object "UndoCellar$Slot"))) (by decide) rfl ?_
  intro p e s m args below meth c s₁ B hml hv
  obtain ⟨rfl, hE, hW0, hI0, hA⟩ := hv
  have hx := B.exec
  have hb := B.bytes
  have hr := B.returns
  have hts := atoms_spec (ws := wsX0_slotFor) B.pre
  have hown : s.vm.findClass RX0 = some m.cls := findClass_of_methodNamed B.named
  have hlocks := B.notSynchronized
  have hiRX0 : ∀ w ∈ wsX00, w ∈ wsX0_slotFor := by decide +kernel
  have hiRX3 : ∀ w ∈ wsX30, w ∈ wsX0_slotFor := by decide +kernel
  have hW : kS D A s.heap ad w s.heap [] := ⟨hW0, hI0, va_S.rf, hA⟩
  have hl := lv_entry ([.ref (ad (10 + b)), .ref (ad (tkey u))]) (n := 6) (Nat.le_of_ble_eq_true rfl)
  rw [lg_entry_eq]
  generalize (lg_sl ([.ref (ad (10 + b)), .ref (ad (tkey u))]) ++ List.replicate (6 - (lg_sl ([.ref (ad (10 + b)), .ref (ad (tkey u))])).length) Slot.unset).toArray = ls at hl ⊢
  have hl : lv_has ls 6 [(0, .ref (ad (10 + b))), (1, .ref (ad (tkey u)))] := hl
  obtain ⟨fS, hfS, hS2⟩ := hC.sa hb3
  have h60 := hN.2.2.2.2.2.1
  refine lv_aload_n hx hb dX0_slotFor_0 rfl (lv_at hl 0 rfl) ?_
  refine kk_get hx hb hts hown hE hW (hC.b hb3) rfl hiRX0 0 (by decide) (hts (.fieldLink RX0 11 "UndoCellar$Block" "slots" "[LUndoCellar$Slot;") (by decide +kernel)) (fun _ h9 => h9) rfl dX0_slotFor_1 ?_
  refine lv_astore_n (lv' := [(2, .ref (ad (13 + b))), (0, .ref (ad (10 + b))), (1, .ref (ad (tkey u)))]) hx hb dX0_slotFor_4 rfl hl (by decide) rfl (fun ls hl => ?_)
  refine lv_aload_n hx hb dX0_slotFor_5 rfl (lv_at hl 0 rfl) ?_
  refine kk_alen hx hb hE hW 5 hfS rfl (v := 2) rfl dX0_slotFor_6 ?_
  refine lv_istore_n (lv' := [(3, .int (2)), (2, .ref (ad (13 + b))), (0, .ref (ad (10 + b))), (1, .ref (ad (tkey u)))]) hx hb dX0_slotFor_7 rfl hl (by decide) rfl (fun ls hl => ?_)
  refine lv_iconst (v := 0) hx hb dX0_slotFor_8 (by decide) ?_
  refine lv_istore (lv' := [(4, .int 0), (3, .int (2)), (2, .ref (ad (13 + b))), (0, .ref (ad (10 + b))), (1, .ref (ad (tkey u)))]) hx hb dX0_slotFor_9 hl (by decide) rfl (fun ls hl => ?_)
  refine lv_iload hx hb dX0_slotFor_11 (lv_at hl 0 rfl) ?_
  refine lv_iload_n hx hb dX0_slotFor_13 rfl (lv_at hl 1 rfl) ?_
  refine lv_icmp_ge (tgt := 41) hx hb dX0_slotFor_14 (by decide) (fun c9 => absurd c9 (by decide)) (fun _ => ?_)
  refine lv_aload_n hx hb dX0_slotFor_17 rfl (lv_at hl 2 rfl) ?_
  refine lv_iload hx hb dX0_slotFor_18 (lv_at hl 0 rfl) ?_
  refine kk_aald hx hb hE hW 5 rfl hfS (by unfold vp_in; decide) (v := .ref (ad (16 + (2 * b + 0)))) (by rw [show (0 : Int32).toNatClampNeg = 0 from rfl, hS2 0 (by decide)]; rfl) dX0_slotFor_20 ?_
  refine lv_astore (lv' := [(5, .ref (ad (16 + (2 * b + 0)))), (4, .int 0), (3, .int (2)), (2, .ref (ad (13 + b))), (0, .ref (ad (10 + b))), (1, .ref (ad (tkey u)))]) hx hb dX0_slotFor_21 hl (by decide) rfl (fun ls hl => ?_)
  refine lv_aload hx hb dX0_slotFor_23 (lv_at hl 0 rfl) ?_
  refine kk_getN hx hb hts hown hE hW (hC.s (show 2 * b + 0 < 6 by omega)) rfl hiRX3 0 (by decide) (hE.N 0 rfl) (fun _ h9 => h9) rfl dX0_slotFor_25 ?_
  refine lv_aload_n hx hb dX0_slotFor_28 rfl (lv_at hl 5 rfl) ?_
  refine lv_acmp_ne (rx := hold ad S (2 * b + 0)) (ry := some (ad (tkey u))) (tgt := 35) hx hb dX0_slotFor_29 (by decide) (fun c1 => ?_) (fun c1 => ?_)
  · have n1 : ¬ S 8 (2 * b + 0) = nI u := fun q => c1 ((hold_iff hW hC hN (i := 2 * b + 0) (by omega) hu).mpr q)
    refine lv_iinc (v := 1) (lv' := [(4, .int (1)), (5, .ref (ad (16 + (2 * b + 0)))), (3, .int (2)), (2, .ref (ad (13 + b))), (0, .ref (ad (10 + b))), (1, .ref (ad (tkey u)))]) hx hb dX0_slotFor_35 hl (k := 1) rfl (by decide) (by decide) rfl (fun ls hl => ?_)
    refine lv_goto (tgt := 11) hx hb dX0_slotFor_38 (by decide) ?_
    refine lv_iload hx hb dX0_slotFor_11 (lv_at hl 0 rfl) ?_
    refine lv_iload_n hx hb dX0_slotFor_13 rfl (lv_at hl 2 rfl) ?_
    refine lv_icmp_ge (tgt := 41) hx hb dX0_slotFor_14 (by decide) (fun c9 => absurd c9 (by decide)) (fun _ => ?_)
    refine lv_aload_n hx hb dX0_slotFor_17 rfl (lv_at hl 3 rfl) ?_
    refine lv_iload hx hb dX0_slotFor_18 (lv_at hl 0 rfl) ?_
    refine kk_aald hx hb hE hW 5 rfl hfS (by unfold vp_in; decide) (v := .ref (ad (16 + (2 * b + 1)))) (by rw [show (1 : Int32).toNatClampNeg = 1 from rfl, hS2 1 (by decide)]; rfl) dX0_slotFor_20 ?_
    refine lv_astore (lv' := [(5, .ref (ad (16 + (2 * b + 1)))), (4, .int (1)), (3, .int (2)), (2, .ref (ad (13 + b))), (0, .ref (ad (10 + b))), (1, .ref (ad (tkey u)))]) hx hb dX0_slotFor_21 hl (by decide) rfl (fun ls hl => ?_)
    refine lv_aload hx hb dX0_slotFor_23 (lv_at hl 0 rfl) ?_
    refine kk_getN hx hb hts hown hE hW (hC.s (show 2 * b + 1 < 6 by omega)) rfl hiRX3 0 (by decide) (hE.N 0 rfl) (fun _ h9 => h9) rfl dX0_slotFor_25 ?_
    refine lv_aload_n hx hb dX0_slotFor_28 rfl (lv_at hl 5 rfl) ?_
    refine lv_acmp_ne (rx := hold ad S (2 * b + 1)) (ry := some (ad (tkey u))) (tgt := 35) hx hb dX0_slotFor_29 (by decide) (fun c2 => ?_) (fun c2 => ?_)
    · have n2 : ¬ S 8 (2 * b + 1) = nI u := fun q => c2 ((hold_iff hW hC hN (i := 2 * b + 1) (by omega) hu).mpr q)
      refine lv_iinc (v := 2) (lv' := [(4, .int (2)), (5, .ref (ad (16 + (2 * b + 1)))), (3, .int (2)), (2, .ref (ad (13 + b))), (0, .ref (ad (10 + b))), (1, .ref (ad (tkey u)))]) hx hb dX0_slotFor_35 hl (k := 1) rfl (by decide) (by decide) rfl (fun ls hl => ?_)
      refine lv_goto (tgt := 11) hx hb dX0_slotFor_38 (by decide) ?_
      refine lv_iload hx hb dX0_slotFor_11 (lv_at hl 0 rfl) ?_
      refine lv_iload_n hx hb dX0_slotFor_13 rfl (lv_at hl 2 rfl) ?_
      refine lv_icmp_ge (tgt := 41) hx hb dX0_slotFor_14 (by decide) (fun _ => ?_) (fun c9 => absurd (by decide) c9)
      refine lv_aload_n hx hb dX0_slotFor_41 rfl (lv_at hl 4 rfl) ?_
      refine kk_get hx hb hts hown hE hW (hC.b hb3) rfl hiRX0 0 (by decide) (hts (.fieldLink RX0 11 "UndoCellar$Block" "slots" "[LUndoCellar$Slot;") (by decide +kernel)) (fun _ h9 => h9) rfl dX0_slotFor_42 ?_
      refine lv_astore_n (lv' := [(2, .ref (ad (13 + b))), (4, .int (2)), (5, .ref (ad (16 + (2 * b + 1)))), (3, .int (2)), (0, .ref (ad (10 + b))), (1, .ref (ad (tkey u)))]) hx hb dX0_slotFor_45 rfl hl (by decide) rfl (fun ls hl => ?_)
      refine lv_aload_n hx hb dX0_slotFor_46 rfl (lv_at hl 0 rfl) ?_
      refine kk_alen hx hb hE hW 5 hfS rfl (v := 2) rfl dX0_slotFor_47 ?_
      refine lv_istore_n (lv' := [(3, .int (2)), (2, .ref (ad (13 + b))), (4, .int (2)), (5, .ref (ad (16 + (2 * b + 1)))), (0, .ref (ad (10 + b))), (1, .ref (ad (tkey u)))]) hx hb dX0_slotFor_48 rfl hl (by decide) rfl (fun ls hl => ?_)
      refine lv_iconst (v := 0) hx hb dX0_slotFor_49 (by decide) ?_
      refine lv_istore (lv' := [(4, .int 0), (3, .int (2)), (2, .ref (ad (13 + b))), (5, .ref (ad (16 + (2 * b + 1)))), (0, .ref (ad (10 + b))), (1, .ref (ad (tkey u)))]) hx hb dX0_slotFor_50 hl (by decide) rfl (fun ls hl => ?_)
      refine lv_iload hx hb dX0_slotFor_52 (lv_at hl 0 rfl) ?_
      refine lv_iload_n hx hb dX0_slotFor_54 rfl (lv_at hl 1 rfl) ?_
      refine lv_icmp_ge (tgt := 89) hx hb dX0_slotFor_55 (by decide) (fun c9 => absurd c9 (by decide)) (fun _ => ?_)
      refine lv_aload_n hx hb dX0_slotFor_58 rfl (lv_at hl 2 rfl) ?_
      refine lv_iload hx hb dX0_slotFor_59 (lv_at hl 0 rfl) ?_
      refine kk_aald hx hb hE hW 5 rfl hfS (by unfold vp_in; decide) (v := .ref (ad (16 + (2 * b + 0)))) (by rw [show (0 : Int32).toNatClampNeg = 0 from rfl, hS2 0 (by decide)]; rfl) dX0_slotFor_61 ?_
      rcases hN.sl (i := 2 * b + 0) (by omega) with h8 | ⟨t, ht, h8⟩
      · refine lv_astore (lv' := [(5, .ref (ad (16 + (2 * b + 0)))), (4, .int 0), (3, .int (2)), (2, .ref (ad (13 + b))), (0, .ref (ad (10 + b))), (1, .ref (ad (tkey u)))]) hx hb dX0_slotFor_62 hl (by decide) rfl (fun ls hl => ?_)
        refine lv_aload hx hb dX0_slotFor_64 (lv_at hl 0 rfl) ?_
        refine kk_getN hx hb hts hown hE hW (hC.sn (i := 2 * b + 0) (by omega) h8) rfl hiRX3 0 (by decide) (hE.N 0 rfl) (fun _ h9 => h9) rfl dX0_slotFor_66 ?_
        refine lv_ifnullN (tgt := 80) hx hb dX0_slotFor_69 (by decide) ?_
        refine lv_aload hx hb dX0_slotFor_80 (lv_at hl 0 rfl) ?_
        exact ke_q hx hb hr (Or.inl ⟨_, rfl⟩) hlocks (Nat.le_of_ble_eq_true rfl) (Nat.le_of_ble_eq_true rfl) dX0_slotFor_82 (show _ = va_rf (some (ad (16 + (2 * b + 0)))) from rfl) hW (⟨(slO_s (slF_f0 n1 n2 (Or.inl h8)) (by omega)).symm, rfl, rfl⟩)
      · refine lv_astore (lv' := [(5, .ref (ad (16 + (2 * b + 0)))), (4, .int 0), (3, .int (2)), (2, .ref (ad (13 + b))), (0, .ref (ad (10 + b))), (1, .ref (ad (tkey u)))]) hx hb dX0_slotFor_62 hl (by decide) rfl (fun ls hl => ?_)
        refine lv_aload hx hb dX0_slotFor_64 (lv_at hl 0 rfl) ?_
        refine kk_getN hx hb hts hown hE hW (hC.ss (i := 2 * b + 0) (by omega) h8 (by omega)) rfl hiRX3 0 (by decide) (hE.N 0 rfl) (fun _ h9 => h9) rfl dX0_slotFor_66 ?_
        refine lv_ifnull hx hb dX0_slotFor_69 ?_
        refine lv_aload hx hb dX0_slotFor_72 (lv_at hl 0 rfl) ?_
        refine kk_i (va_runVN (As := []) (rest := []) ⟨hx, hb, hml, hown, hts⟩ (k_X3_isEnded l D A ad w S nT nC nD nM nZ hC hN (2 * b + 0) (by omega)) ⟨va_cnB 0 hts gX0_slotFor_X3_isEnded_n22 rfl rfl rfl (hE.N 30 rfl) (hts (.initialized RX3) (by decide +kernel)) (by decide +kernel) ⟨Nat.le_of_ble_eq_true rfl, Nat.le_of_ble_eq_true rfl⟩, hts (.instanceMethod yX3_isEnded) (by decide +kernel), hts (.selects RX3 yX3_isEnded yX3_isEnded) (by decide +kernel)⟩ (kV hE hW (hC.ss (i := 2 * b + 0) (by omega) h8 (by omega)) rfl _) rfl rfl hl.1 rfl (lv_room (Nat.le_of_ble_eq_true rfl)) dX0_slotFor_74 ⟨Nat.le_of_ble_eq_true rfl, Nat.le_of_ble_eq_true rfl⟩) hW (fun r4 ad1 w2 H5 locs hp3 hW => ?_)
        obtain ⟨e6, e7, e8⟩ := hp3
        rw [e7, e8] at hW
        subst e6
        refine lv_if_eq (tgt := 83) hx hb dX0_slotFor_77 (by decide) (fun c9 => ?_) (fun c9 => ?_)
        · have f0 : ¬ freeP S (2 * b + 0) := fun q => q.elim (fun z => absurd z (by rw [h8]; exact nI_nm1 (by omega))) (fun z => (bI_f c9) ⟨by rw [h8]; exact nI_nm1 (by omega), z⟩)
          refine lv_iinc (v := 1) (lv' := [(4, .int (1)), (5, .ref (ad (16 + (2 * b + 0)))), (3, .int (2)), (2, .ref (ad (13 + b))), (0, .ref (ad (10 + b))), (1, .ref (ad (tkey u)))]) hx hb dX0_slotFor_83 hl (k := 1) rfl (by decide) (by decide) rfl (fun ls hl => ?_)
          refine lv_goto (tgt := 52) hx hb dX0_slotFor_86 (by decide) ?_
          refine lv_iload hx hb dX0_slotFor_52 (lv_at hl 0 rfl) ?_
          refine lv_iload_n hx hb dX0_slotFor_54 rfl (lv_at hl 2 rfl) ?_
          refine lv_icmp_ge (tgt := 89) hx hb dX0_slotFor_55 (by decide) (fun c9 => absurd c9 (by decide)) (fun _ => ?_)
          refine lv_aload_n hx hb dX0_slotFor_58 rfl (lv_at hl 3 rfl) ?_
          refine lv_iload hx hb dX0_slotFor_59 (lv_at hl 0 rfl) ?_
          refine kk_aald hx hb hE hW 5 rfl hfS (by unfold vp_in; decide) (v := .ref (ad (16 + (2 * b + 1)))) (by rw [show (1 : Int32).toNatClampNeg = 1 from rfl, hS2 1 (by decide)]; rfl) dX0_slotFor_61 ?_
          rcases hN.sl (i := 2 * b + 1) (by omega) with h8 | ⟨t, ht, h8⟩
          · refine lv_astore (lv' := [(5, .ref (ad (16 + (2 * b + 1)))), (4, .int (1)), (3, .int (2)), (2, .ref (ad (13 + b))), (0, .ref (ad (10 + b))), (1, .ref (ad (tkey u)))]) hx hb dX0_slotFor_62 hl (by decide) rfl (fun ls hl => ?_)
            refine lv_aload hx hb dX0_slotFor_64 (lv_at hl 0 rfl) ?_
            refine kk_getN hx hb hts hown hE hW (hC.sn (i := 2 * b + 1) (by omega) h8) rfl hiRX3 0 (by decide) (hE.N 0 rfl) (fun _ h9 => h9) rfl dX0_slotFor_66 ?_
            refine lv_ifnullN (tgt := 80) hx hb dX0_slotFor_69 (by decide) ?_
            refine lv_aload hx hb dX0_slotFor_80 (lv_at hl 0 rfl) ?_
            exact ke_q hx hb hr (Or.inl ⟨_, rfl⟩) hlocks (Nat.le_of_ble_eq_true rfl) (Nat.le_of_ble_eq_true rfl) dX0_slotFor_82 (show _ = va_rf (some (ad (16 + (2 * b + 1)))) from rfl) hW (⟨(slO_s (slF_f1 n1 n2 f0 (Or.inl h8)) (by omega)).symm, rfl, rfl⟩)
          · refine lv_astore (lv' := [(5, .ref (ad (16 + (2 * b + 1)))), (4, .int (1)), (3, .int (2)), (2, .ref (ad (13 + b))), (0, .ref (ad (10 + b))), (1, .ref (ad (tkey u)))]) hx hb dX0_slotFor_62 hl (by decide) rfl (fun ls hl => ?_)
            refine lv_aload hx hb dX0_slotFor_64 (lv_at hl 0 rfl) ?_
            refine kk_getN hx hb hts hown hE hW (hC.ss (i := 2 * b + 1) (by omega) h8 (by omega)) rfl hiRX3 0 (by decide) (hE.N 0 rfl) (fun _ h9 => h9) rfl dX0_slotFor_66 ?_
            refine lv_ifnull hx hb dX0_slotFor_69 ?_
            refine lv_aload hx hb dX0_slotFor_72 (lv_at hl 0 rfl) ?_
            refine kk_i (va_runVN (As := []) (rest := []) ⟨hx, hb, hml, hown, hts⟩ (k_X3_isEnded l D A ad w S nT nC nD nM nZ hC hN (2 * b + 1) (by omega)) ⟨va_cnB 0 hts gX0_slotFor_X3_isEnded_n22 rfl rfl rfl (hE.N 30 rfl) (hts (.initialized RX3) (by decide +kernel)) (by decide +kernel) ⟨Nat.le_of_ble_eq_true rfl, Nat.le_of_ble_eq_true rfl⟩, hts (.instanceMethod yX3_isEnded) (by decide +kernel), hts (.selects RX3 yX3_isEnded yX3_isEnded) (by decide +kernel)⟩ (kV hE hW (hC.ss (i := 2 * b + 1) (by omega) h8 (by omega)) rfl _) rfl rfl hl.1 rfl (lv_room (Nat.le_of_ble_eq_true rfl)) dX0_slotFor_74 ⟨Nat.le_of_ble_eq_true rfl, Nat.le_of_ble_eq_true rfl⟩) hW (fun r13 ad10 w11 H14 locs hp12 hW => ?_)
            obtain ⟨e15, e16, e17⟩ := hp12
            rw [e16, e17] at hW
            subst e15
            refine lv_if_eq (tgt := 83) hx hb dX0_slotFor_77 (by decide) (fun c18 => ?_) (fun c18 => ?_)
            · have f1 : ¬ freeP S (2 * b + 1) := fun q => q.elim (fun z => absurd z (by rw [h8]; exact nI_nm1 (by omega))) (fun z => (bI_f c18) ⟨by rw [h8]; exact nI_nm1 (by omega), z⟩)
              refine lv_iinc (v := 2) (lv' := [(4, .int (2)), (5, .ref (ad (16 + (2 * b + 1)))), (3, .int (2)), (2, .ref (ad (13 + b))), (0, .ref (ad (10 + b))), (1, .ref (ad (tkey u)))]) hx hb dX0_slotFor_83 hl (k := 1) rfl (by decide) (by decide) rfl (fun ls hl => ?_)
              refine lv_goto (tgt := 52) hx hb dX0_slotFor_86 (by decide) ?_
              refine lv_iload hx hb dX0_slotFor_52 (lv_at hl 0 rfl) ?_
              refine lv_iload_n hx hb dX0_slotFor_54 rfl (lv_at hl 2 rfl) ?_
              refine lv_icmp_ge (tgt := 89) hx hb dX0_slotFor_55 (by decide) (fun _ => ?_) (fun c9 => absurd (by decide) c9)
              refine lv_null hx hb dX0_slotFor_89 ?_
              exact ke_q hx hb hr (Or.inl ⟨_, rfl⟩) hlocks (Nat.le_of_ble_eq_true rfl) (Nat.le_of_ble_eq_true rfl) dX0_slotFor_90 (show _ = va_rf none from rfl) hW (⟨(slO_n (slF_fn n1 n2 f0 f1)).symm, rfl, rfl⟩)
            · refine lv_aload hx hb dX0_slotFor_80 (lv_at hl 0 rfl) ?_
              exact ke_q hx hb hr (Or.inl ⟨_, rfl⟩) hlocks (Nat.le_of_ble_eq_true rfl) (Nat.le_of_ble_eq_true rfl) dX0_slotFor_82 (show _ = va_rf (some (ad (16 + (2 * b + 1)))) from rfl) hW (⟨(slO_s (slF_f1 n1 n2 f0 (Or.inr (bI_t c18).2)) (by omega)).symm, rfl, rfl⟩)
        · refine lv_aload hx hb dX0_slotFor_80 (lv_at hl 0 rfl) ?_
          exact ke_q hx hb hr (Or.inl ⟨_, rfl⟩) hlocks (Nat.le_of_ble_eq_true rfl) (Nat.le_of_ble_eq_true rfl) dX0_slotFor_82 (show _ = va_rf (some (ad (16 + (2 * b + 0)))) from rfl) hW (⟨(slO_s (slF_f0 n1 n2 (Or.inr (bI_t c9).2)) (by omega)).symm, rfl, rfl⟩)
    · have h80 := (hold_iff hW hC hN (i := 2 * b + 1) (by omega) hu).mp c2
      refine lv_aload hx hb dX0_slotFor_32 (lv_at hl 0 rfl) ?_
      exact ke_q hx hb hr (Or.inl ⟨_, rfl⟩) hlocks (Nat.le_of_ble_eq_true rfl) (Nat.le_of_ble_eq_true rfl) dX0_slotFor_34 (show _ = va_rf (some (ad (16 + (2 * b + 1)))) from rfl) hW (⟨(slO_s (slF_o1 hb3 n1 h80) (by omega)).symm, rfl, rfl⟩)
  · have h80 := (hold_iff hW hC hN (i := 2 * b + 0) (by omega) hu).mp c1
    refine lv_aload hx hb dX0_slotFor_32 (lv_at hl 0 rfl) ?_
    exact ke_q hx hb hr (Or.inl ⟨_, rfl⟩) hlocks (Nat.le_of_ble_eq_true rfl) (Nat.le_of_ble_eq_true rfl) dX0_slotFor_34 (show _ = va_rf (some (ad (16 + (2 * b + 0)))) from rfl) hW (⟨(slO_s (slF_o0 hb3 h80) (by omega)).symm, rfl, rfl⟩)

set_option maxHeartbeats 4000000 in
set_option maxRecDepth 100000 in
/-- k_X0_markEnded -/
theorem k_X0_markEnded (l : Launch) (D : va_G) (A : Nat → Prop) (ad : Nat → Nat) (w : kWd) (S : St) (nT nC nD nM nZ : Nat) (hC : CW D S ad w nT nC) (hN : SN S nT nC nD nM nZ) (b : Nat) (hb3 : b < 3) : Met l yX0_markEnded wsX0_markEnded ({ frames := 1, cells := 0, slots := 0, locals := 20 }) (kPc D A [.ref (ad (10 + b))] ad w) (kQi D A (fun v ad' w' => v = mkN 2 (2 * b) S ∧ ad' = ad ∧ CW D (mkL 2 (2 * b) S) ad w' nT nC ∧ FrC ad w ad w')) 0 0 A := by
  refine Met.ofW (cc := cX0_markEnded) (maxL := 6) (ret := (some (.int))) (by decide) rfl ?_
  intro p e s m args below meth c s₁ B hml hv
  obtain ⟨rfl, hE, hW0, hI0, hA⟩ := hv
  have hx := B.exec
  have hb := B.bytes
  have hr := B.returns
  have hts := atoms_spec (ws := wsX0_markEnded) B.pre
  have hown : s.vm.findClass RX0 = some m.cls := findClass_of_methodNamed B.named
  have hlocks := B.notSynchronized
  have hiRX0 : ∀ w ∈ wsX00, w ∈ wsX0_markEnded := by decide +kernel
  have hiRX3 : ∀ w ∈ wsX30, w ∈ wsX0_markEnded := by decide +kernel
  have hW : kS D A s.heap ad w s.heap [] := ⟨hW0, hI0, va_S.rf, hA⟩
  have hl := lv_entry ([.ref (ad (10 + b))]) (n := 6) (Nat.le_of_ble_eq_true rfl)
  rw [lg_entry_eq]
  generalize (lg_sl ([.ref (ad (10 + b))]) ++ List.replicate (6 - (lg_sl ([.ref (ad (10 + b))])).length) Slot.unset).toArray = ls at hl ⊢
  have hl : lv_has ls 6 [(0, .ref (ad (10 + b)))] := hl
  have loop : ∀ (d j : Nat) (y : Int32) (T : St) (w1 : kWd) (H : Heap) (locs : List Loc), j + d = 2 → mkL d (2 * b + j) T = mkL 2 (2 * b) S → y + mkN d (2 * b + j) T = mkN 2 (2 * b) S → CW D T ad w1 nT nC → SN T nT nC nD nM nZ → FrC ad w ad w1 → kS D A s.heap ad w1 H locs → ∀ ls, lv_has ls 6 [(4, .int (nI j)), (1, .int y), (3, .int (nI 2)), (2, .ref (ad (13 + b))), (0, .ref (ad (10 + b)))] → W p l e ({ frames := 1, cells := 0, slots := 0, locals := 20 }) s m ([.ref (ad (10 + b))] : List Value).toArray below meth c H locs 0 0 (MQ below (kQi D A (fun v ad' w' => v = mkN 2 (2 * b) S ∧ ad' = ad ∧ CW D (mkL 2 (2 * b) S) ad w' nT nC ∧ FrC ad w ad w')) ([.ref (ad (10 + b))] : List Value).toArray s 0 0 A) (F0 m 13 ls []) := by
    intro d
    induction d with
    | zero =>
      intro j y T w1 H locs hj he hy hC hN hF hW ls hl
      obtain rfl : j = 2 := by omega
      refine lv_iload hx hb dX0_markEnded_13 (lv_at hl 0 rfl) ?_
      refine lv_iload_n hx hb dX0_markEnded_15 rfl (lv_at hl 2 rfl) ?_
      refine lv_icmp_ge (tgt := 56) hx hb dX0_markEnded_16 (by decide) (fun _ => ?_) (fun c9 => absurd (by decide) c9)
      refine lv_iload_n hx hb dX0_markEnded_56 rfl (lv_at hl 1 rfl) ?_
      exact ke_i hx hb hr hlocks (Nat.le_of_ble_eq_true rfl) (Nat.le_of_ble_eq_true rfl) dX0_markEnded_57 hW (⟨by rw [← hy]; exact (Int32.add_zero y).symm, rfl, by rw [← he]; exact hC, hF⟩)
    | succ d ih =>
      intro j y T w1 H locs hj he hy hC hN hF hW ls hl
      obtain ⟨fS, hfS, hS2⟩ := hC.sa hb3
      refine lv_iload hx hb dX0_markEnded_13 (lv_at hl 0 rfl) ?_
      refine lv_iload_n hx hb dX0_markEnded_15 rfl (lv_at hl 2 rfl) ?_
      refine lv_icmp_ge (tgt := 56) hx hb dX0_markEnded_16 (by decide) (fun c9 => absurd c9 (nI_ge (by omega) (by omega))) (fun _ => ?_)
      refine lv_aload_n hx hb dX0_markEnded_19 rfl (lv_at hl 3 rfl) ?_
      refine lv_iload hx hb dX0_markEnded_20 (lv_at hl 0 rfl) ?_
      refine kk_aald hx hb hE hW 5 rfl hfS (vp_in_nI (show j < 2 by omega) (by omega)) (v := .ref (ad (16 + (2 * b + j)))) (by rw [nI_clamp (show j < 2 ^ 31 by omega), hS2 j (by omega)]; rfl) dX0_markEnded_22 ?_
      refine lv_astore (lv' := [(5, .ref (ad (16 + (2 * b + j)))), (4, .int (nI j)), (1, .int y), (3, .int (nI 2)), (2, .ref (ad (13 + b))), (0, .ref (ad (10 + b)))]) hx hb dX0_markEnded_23 hl (by decide) rfl (fun ls hl => ?_)
      refine lv_aload hx hb dX0_markEnded_25 (lv_at hl 0 rfl) ?_
      refine kk_i (va_runVN (As := []) (rest := []) ⟨hx, hb, hml, hown, hts⟩ (k_X3_isEnded l D A ad w1 T nT nC nD nM nZ hC hN (2 * b + j) (by omega)) ⟨va_cnB 0 hts gX0_markEnded_X3_isEnded_n22 rfl rfl rfl (hE.N 30 rfl) (hts (.initialized RX3) (by decide +kernel)) (by decide +kernel) ⟨Nat.le_of_ble_eq_true rfl, Nat.le_of_ble_eq_true rfl⟩, hts (.instanceMethod yX3_isEnded) (by decide +kernel), hts (.selects RX3 yX3_isEnded yX3_isEnded) (by decide +kernel)⟩ (kV hE hW (hC.s (show (2 * b + j) < 6 by omega)) rfl _) rfl rfl hl.1 rfl (lv_room (Nat.le_of_ble_eq_true rfl)) dX0_markEnded_27 ⟨Nat.le_of_ble_eq_true rfl, Nat.le_of_ble_eq_true rfl⟩) hW (fun r4 ad1 w2 H5 locs hp3 hW => ?_)
      obtain ⟨e6, e7, e8⟩ := hp3
      rw [e7, e8] at hW
      subst e6
      refine lv_if_eq (tgt := 50) hx hb dX0_markEnded_30 (by decide) (fun c9 => ?_) (fun c9 => ?_)
      · have hne : ¬ endP T (2 * b + j) := fun q => (bI_f c9) ⟨q.1, q.2.1⟩
        refine lv_iinc (v := nI (j + 1)) (lv' := [(4, .int (nI (j + 1))), (5, .ref (ad (16 + (2 * b + j)))), (1, .int y), (3, .int (nI 2)), (2, .ref (ad (13 + b))), (0, .ref (ad (10 + b)))]) hx hb dX0_markEnded_50 hl (k := 1) rfl (nI_1 j) (by decide) rfl (fun ls hl => ?_)
        refine lv_goto (tgt := 13) hx hb dX0_markEnded_53 (by decide) ?_
        exact ih (j + 1) y T w1 _ _ (by omega) (by rw [← he]; show _ = mkL d (2 * b + j + 1) (mk1 T (2 * b + j)); rw [show mk1 T (2 * b + j) = T from if_neg hne]; rfl) (by rw [← hy]; show _ = y + (bI (endP T (2 * b + j)) + mkN d (2 * b + j + 1) (mk1 T (2 * b + j))); rw [show mk1 T (2 * b + j) = T from if_neg hne, bI_0 hne, Int32.zero_add]; rfl) hC hN hF hW ls (lv_sub hl [0, 2, 3, 4, 5] rfl)
      · refine lv_aload hx hb dX0_markEnded_33 (lv_at hl 0 rfl) ?_
        refine kk_getN hx hb hts hown hE hW (hC.s (show (2 * b + j) < 6 by omega)) rfl hiRX3 1 (by decide) (hE.N 2 rfl) (fun _ h9 => h9) rfl dX0_markEnded_35 ?_
        refine lv_if_ne (tgt := 50) hx hb dX0_markEnded_38 (by decide) (fun c10 => ?_) (fun c10 => ?_)
        · have hne : ¬ endP T (2 * b + j) := fun q => c10 q.2.2
          refine lv_iinc (v := nI (j + 1)) (lv' := [(4, .int (nI (j + 1))), (5, .ref (ad (16 + (2 * b + j)))), (1, .int y), (3, .int (nI 2)), (2, .ref (ad (13 + b))), (0, .ref (ad (10 + b)))]) hx hb dX0_markEnded_50 hl (k := 1) rfl (nI_1 j) (by decide) rfl (fun ls hl => ?_)
          refine lv_goto (tgt := 13) hx hb dX0_markEnded_53 (by decide) ?_
          exact ih (j + 1) y T w1 _ _ (by omega) (by rw [← he]; show _ = mkL d (2 * b + j + 1) (mk1 T (2 * b + j)); rw [show mk1 T (2 * b + j) = T from if_neg hne]; rfl) (by rw [← hy]; show _ = y + (bI (endP T (2 * b + j)) + mkN d (2 * b + j + 1) (mk1 T (2 * b + j))); rw [show mk1 T (2 * b + j) = T from if_neg hne, bI_0 hne, Int32.zero_add]; rfl) hC hN hF hW ls (lv_sub hl [0, 2, 3, 4, 5] rfl)
        · have hye : endP T (2 * b + j) := ⟨(bI_t c9).1, (bI_t c9).2, c10⟩
          refine lv_aload hx hb dX0_markEnded_41 (lv_at hl 0 rfl) ?_
          refine lv_iconst (v := 1) hx hb dX0_markEnded_43 (by decide) ?_
          refine kk_putN hx hb hts hown hE hW (hC.s (show (2 * b + j) < 6 by omega)) rfl hiRX3 tyX3 tyX3_ok nmX3 1 (by decide) (hE.N 2 rfl) (fun _ h9 => h9) rfl (ty := tyX3 1) (tyX3_ok 1 (by decide)) rfl rfl (Nat.le_of_ble_eq_true rfl) dX0_markEnded_44 (fun H13 locs w11 e12 hW => ?_)
          have f14 := (up_n e12 (by omega)).trans hfS
          have f15 := up_s e12
          have hC := hC.upS (S' := sA T 9 (2 * b + j) 1) (i := (2 * b + j)) (by omega) (e12.trans (by show va_up _ _ (some (.inr (4, [va_rf (hold ad T (2 * b + j)), .int 1])) : Option va_E) = va_up _ _ (some (.inr (4, [va_rf (hold ad T (2 * b + j)), .int (upd (T 9) (2 * b + j) 1 (2 * b + j))])) : Option va_E); rw [upd_s])) (fun _ _ => rfl) (fun _ h => upd_n h) (fun _ _ h => sU_n h)
          refine lv_iinc (v := y + 1) (lv' := [(1, .int (y + 1)), (5, .ref (ad (16 + (2 * b + j)))), (4, .int (nI j)), (3, .int (nI 2)), (2, .ref (ad (13 + b))), (0, .ref (ad (10 + b)))]) hx hb dX0_markEnded_47 hl (k := 2) rfl (rfl) (by decide) rfl (fun ls hl => ?_)
          refine lv_iinc (v := nI (j + 1)) (lv' := [(4, .int (nI (j + 1))), (1, .int (y + 1)), (5, .ref (ad (16 + (2 * b + j)))), (3, .int (nI 2)), (2, .ref (ad (13 + b))), (0, .ref (ad (10 + b)))]) hx hb dX0_markEnded_50 hl (k := 2) rfl (nI_1 j) (by decide) rfl (fun ls hl => ?_)
          refine lv_goto (tgt := 13) hx hb dX0_markEnded_53 (by decide) ?_
          exact ih (j + 1) (y + 1) (sA T 9 (2 * b + j) 1) _ _ _ (by omega) (by rw [← he]; show _ = mkL d (2 * b + j + 1) (mk1 T (2 * b + j)); rw [show mk1 T (2 * b + j) = sA T 9 (2 * b + j) 1 from if_pos hye]; rfl) (by rw [← hy]; show _ = y + (bI (endP T (2 * b + j)) + mkN d (2 * b + j + 1) (mk1 T (2 * b + j))); rw [show mk1 T (2 * b + j) = sA T 9 (2 * b + j) 1 from if_pos hye, bI_1 hye, ← Int32.add_assoc]; rfl) hC (hN.u9 (Or.inr rfl)) (hF.up e12 (by omega)) hW ls (lv_sub hl [0, 1, 3, 4, 5] rfl)
  obtain ⟨fS, hfS, hS2⟩ := hC.sa hb3
  refine lv_iconst (v := 0) hx hb dX0_markEnded_0 (by decide) ?_
  refine lv_istore_n (lv' := [(1, .int 0), (0, .ref (ad (10 + b)))]) hx hb dX0_markEnded_1 rfl hl (by decide) rfl (fun ls hl => ?_)
  refine lv_aload_n hx hb dX0_markEnded_2 rfl (lv_at hl 1 rfl) ?_
  refine kk_get hx hb hts hown hE hW (hC.b hb3) rfl hiRX0 0 (by decide) (hts (.fieldLink RX0 11 "UndoCellar$Block" "slots" "[LUndoCellar$Slot;") (by decide +kernel)) (fun _ h9 => h9) rfl dX0_markEnded_3 ?_
  refine lv_astore_n (lv' := [(2, .ref (ad (13 + b))), (1, .int 0), (0, .ref (ad (10 + b)))]) hx hb dX0_markEnded_6 rfl hl (by decide) rfl (fun ls hl => ?_)
  refine lv_aload_n hx hb dX0_markEnded_7 rfl (lv_at hl 0 rfl) ?_
  refine kk_alen hx hb hE hW 5 hfS rfl (v := nI 2) rfl dX0_markEnded_8 ?_
  refine lv_istore_n (lv' := [(3, .int (nI 2)), (2, .ref (ad (13 + b))), (1, .int 0), (0, .ref (ad (10 + b)))]) hx hb dX0_markEnded_9 rfl hl (by decide) rfl (fun ls hl => ?_)
  refine lv_iconst (v := 0) hx hb dX0_markEnded_10 (by decide) ?_
  refine lv_istore (lv' := [(4, .int 0), (3, .int (nI 2)), (2, .ref (ad (13 + b))), (1, .int 0), (0, .ref (ad (10 + b)))]) hx hb dX0_markEnded_11 hl (by decide) rfl (fun ls hl => ?_)
  exact loop 2 0 0 S w s.heap [] rfl rfl (Int32.zero_add _) hC hN FrC.rf hW ls (by rw [show (0 : Int32) = nI 0 from rfl] at hl; exact (lv_sub hl [0, 3, 1, 2, 4] rfl))

set_option maxHeartbeats 4000000 in
set_option maxRecDepth 100000 in
/-- k_X5_clean -/
theorem k_X5_clean (l : Launch) (D : va_G) (A : Nat → Prop) (ad : Nat → Nat) (w : kWd) (S : St) (nT nC nD nM nZ : Nat) (hC : CW D S ad w nT nC) (hN : SN S nT nC nD nM nZ) (b : Nat) (hb3 : b < 3) : Met l yX5_clean wsX5_clean ({ frames := 2, cells := 0, slots := 0, locals := 45 }) (kPc D A [.ref (ad 0), .ref (ad (10 + b))] ad w) (kQv D A (fun ad' w' => ad' = ad ∧ CW D (cleanS S b) ad w' nT nC ∧ FrC ad w ad w')) 0 0 A := by
  refine Met.ofW (cc := cX5_clean) (maxL := 2) (ret := none) (by decide) rfl ?_
  intro p e s m args below meth c s₁ B hml hv
  obtain ⟨rfl, hE, hW0, hI0, hA⟩ := hv
  have hx := B.exec
  have hb := B.bytes
  have hr := B.returns
  have hts := atoms_spec (ws := wsX5_clean) B.pre
  have hown : s.vm.findClass RX5 = some m.cls := findClass_of_methodNamed B.named
  have hlocks := B.notSynchronized
  have hiRX5 : ∀ w ∈ wsX50, w ∈ wsX5_clean := by decide +kernel
  have hW : kS D A s.heap ad w s.heap [] := ⟨hW0, hI0, va_S.rf, hA⟩
  have hl := lv_entry ([.ref (ad 0), .ref (ad (10 + b))]) (n := 2) (Nat.le_of_ble_eq_true rfl)
  rw [lg_entry_eq]
  generalize (lg_sl ([.ref (ad 0), .ref (ad (10 + b))]) ++ List.replicate (2 - (lg_sl ([.ref (ad 0), .ref (ad (10 + b))])).length) Slot.unset).toArray = ls at hl ⊢
  have hl : lv_has ls 2 [(0, .ref (ad 0)), (1, .ref (ad (10 + b)))] := hl
  refine lv_aload_n hx hb dX5_clean_0 rfl (lv_at hl 0 rfl) ?_
  refine lv_dup hx hb dX5_clean_1 rfl ?_
  refine kk_get hx hb hts hown hE hW hC.u rfl hiRX5 6 (by decide) (hts (.fieldLink RX5 38 "UndoCellar" "markedSoFar" "I") (by decide +kernel)) (fun _ h9 => h9) rfl dX5_clean_2 ?_
  refine lv_aload_n hx hb dX5_clean_5 rfl (lv_at hl 1 rfl) ?_
  refine kk_i (va_runVN (As := []) (rest := [.int (S 15 0), .ref (ad 0)]) ⟨hx, hb, hml, hown, hts⟩ (k_X0_markEnded l D A ad w S nT nC nD nM nZ hC hN b hb3) ⟨va_cnB 0 hts gX5_clean_X0_markEnded_n240 rfl rfl rfl (hE.N 25 rfl) (hts (.initialized RX0) (by decide +kernel)) (by decide +kernel) ⟨Nat.le_of_ble_eq_true rfl, Nat.le_of_ble_eq_true rfl⟩, hts (.instanceMethod yX0_markEnded) (by decide +kernel), hts (.selects RX0 yX0_markEnded yX0_markEnded) (by decide +kernel)⟩ (kV hE hW (hC.b hb3) rfl _) rfl rfl hl.1 rfl (lv_room (Nat.le_of_ble_eq_true rfl)) dX5_clean_6 ⟨Nat.le_of_ble_eq_true rfl, Nat.le_of_ble_eq_true rfl⟩) hW (fun r4 ad1 w2 H5 locs hp3 hW => ?_)
  obtain ⟨e1, e2, hC, hF⟩ := hp3
  rw [e2] at hW
  subst e1
  refine lv_iadd hx hb dX5_clean_9 ?_
  refine kk_put hx hb hts hown hE hW hC.u rfl hiRX5 tyX5 tyX5_ok nmX5 6 (by decide) (hts (.fieldLink RX5 38 "UndoCellar" "markedSoFar" "I") (by decide +kernel)) (fun _ h9 => h9) rfl (ty := tyX5 6) (tyX5_ok 6 (by decide)) rfl rfl (Nat.le_of_ble_eq_true rfl) dX5_clean_10 (fun H8 locs w6 e7 hW => ?_)
  have f9 := up_s e7
  have hc9 := cleanS_mk S b
  have hC := hC.upU (S' := cleanS S b) (e7.trans (by show va_up _ _ (some (.inr (6, [.ref (ad 1), .ref (ad 2), .ref (ad 3), .ref (ad 4), .int (mkL 2 (2 * b) S 10 0), .int (mkL 2 (2 * b) S 11 0), .int (S 15 0 + mkN 2 (2 * b) S), .int (mkL 2 (2 * b) S 14 0)])) : Option va_E) = va_up _ _ (some (uCell ad (cleanS S b))); unfold uCell; rw [hc9.1 10 (by decide), hc9.1 11 (by decide), hc9.1 14 (by decide), hc9.2])) (fun c h => hc9.1 c (by omega))
  exact ke_v hx hb hr hlocks (Nat.le_of_ble_eq_true rfl) (Nat.le_of_ble_eq_true rfl) dX5_clean_13 hW (⟨rfl, hC, hF.up e7 (by omega)⟩)

