/-! the reference: its calls -/
set_option maxHeartbeats 4000000 in
set_option maxRecDepth 100000 in
/-- c_readAt -/
theorem c_readAt (l : Launch) (D : va_G) (A : Nat → Prop) (ad : Nat → Nat) (w : kWd) (S : St) (hM : MW D S ad w w) (mm r : Int32) (nC : Nat) (hC : S 13 0 = nI nC) (hn : nC ≤ 2000) (hby : ∀ k, k < nC → vp_in (S 4 k) 60) (hsl : ∀ k, k < 6 → S 8 k ≠ -1 → vp_in (S 8 k) 60)  : Met l yX6_readAt wsX6_readAt ({ frames := 2, cells := 0, slots := 0, locals := 43 }) (kPc D A [.ref (ad 2000), .int mm, .int r] ad w) (kQi D A (fun v ad' w' => v = rdR S mm r (-1) (vrK S mm r) ∧ ad' = ad ∧ MW D (rdN S mm r (-1) (vrK S mm r)) ad w w')) 0 0 A := by
  refine Met.ofW (cc := cX6_readAt) (maxL := 4) (ret := (some (.int))) (by decide) rfl ?_
  intro p e s m args below meth c s₁ B hml hv
  obtain ⟨rfl, hE, hW0, hI0, hA⟩ := hv
  have hx := B.exec
  have hb := B.bytes
  have hr := B.returns
  have hts := atoms_spec (ws := wsX6_readAt) B.pre
  have hown : s.vm.findClass RX6 = some m.cls := findClass_of_methodNamed B.named
  have hlocks := B.notSynchronized
  have hiRX6 : ∀ w ∈ wsX60, w ∈ wsX6_readAt := by decide +kernel
  have hW : kS D A s.heap ad w s.heap [] := ⟨hW0, hI0, va_S.rf, hA⟩
  have hl := lv_entry ([.ref (ad 2000), .int mm, .int r]) (n := 4) (Nat.le_of_ble_eq_true rfl)
  rw [lg_entry_eq]
  generalize (lg_sl ([.ref (ad 2000), .int mm, .int r]) ++ List.replicate (4 - (lg_sl ([.ref (ad 2000), .int mm, .int r])).length) Slot.unset).toArray = ls at hl ⊢
  have hl : lv_has ls 4 [(0, .ref (ad 2000)), (1, .int mm), (2, .int r)] := hl
  refine lv_aload_n hx hb dX6_readAt_0 rfl (lv_at hl 0 rfl) ?_
  refine lv_iload_n hx hb dX6_readAt_1 rfl (lv_at hl 2 rfl) ?_
  refine W_joinH (D := D) (A := A) (w := w) (ad := ad) (P := fun v => v = vrK S mm r) (pj := 29) (rj := [.ref (ad 2000)]) (lj := ls) (fun v H1 locs hv hW => ?_) (fun J29 => ?_)
  · subst hv
    refine kk_i (va_runV (As := [.int (vrK S mm r)]) (rest := []) ⟨hx, hb, hml, hown, hts⟩ (c_can l D A ad w (S) hM.re (vrK S mm r)) (cwV 1 hts gX6_readAt_X6_can rfl rfl rfl (by decide +kernel) ⟨Nat.le_of_ble_eq_true rfl, Nat.le_of_ble_eq_true rfl⟩) (kV hE hW hM.o rfl _) rfl rfl hl.1 rfl (lv_room (Nat.le_of_ble_eq_true rfl)) dX6_readAt_29 ⟨Nat.le_of_ble_eq_true rfl, Nat.le_of_ble_eq_true rfl⟩) hW (fun r5 ad2 w3 H6 locs hp4 hW => ?_)
    obtain ⟨e7, e8, e9⟩ := hp4
    rw [e8] at hW
    have hM := hM.tr e9
    subst e7
    refine lv_if_ne (tgt := 37) hx hb dX6_readAt_32 (by decide) (fun c10 => ?_) (fun c10 => ?_)
    · have ho := bI_t c10
      have hro9 : roP r := by
        refine Decidable.byContradiction fun q => ?_
        rw [show vrK S mm r = 1 from if_neg q] at ho
        exact absurd ho (by decide)
      have hv12 : vp_in r 12 := by
        obtain ⟨j, h1, rfl⟩ := inP_N (n := 11) (by decide) (hro9)
        exact vp_in_nI (by omega) (by decide)
      refine lv_aload_n hx hb dX6_readAt_37 rfl (lv_at hl 0 rfl) ?_
      refine lv_iload_n hx hb dX6_readAt_38 rfl (lv_at hl 1 rfl) ?_
      refine lv_iload_n hx hb dX6_readAt_39 rfl (lv_at hl 2 rfl) ?_
      refine lv_iconst (v := (-1)) hx hb dX6_readAt_40 (by decide) ?_
      refine kk_i (va_runV (As := [.int mm, .int r, .int (-1)]) (rest := []) ⟨hx, hb, hml, hown, hts⟩ (c_valueAt l D A ad w3 ((sS S 17 (vrK S mm r))) hM.re mm r (-1) hv12 nC hC hn hby) (cwV 3 hts gX6_readAt_X6_valueAt rfl rfl rfl (by decide +kernel) ⟨Nat.le_of_ble_eq_true rfl, Nat.le_of_ble_eq_true rfl⟩) (kV hE hW hM.o rfl _) rfl rfl hl.1 rfl (lv_room (Nat.le_of_ble_eq_true rfl)) dX6_readAt_41 ⟨Nat.le_of_ble_eq_true rfl, Nat.le_of_ble_eq_true rfl⟩) hW (fun r14 ad11 w12 H15 locs hp13 hW => ?_)
      obtain ⟨e16, e17, e18⟩ := hp13
      rw [e17] at hW
      have hM := hM.tr e18
      subst e16
      refine lv_istore_n (lv' := [(3, .int ((vrV S mm r (-1) (vrK S mm r)).1)), (0, .ref (ad 2000)), (1, .int mm), (2, .int r)]) hx hb dX6_readAt_44 rfl hl (by decide) rfl (fun ls hl => ?_)
      refine lv_aload_n hx hb dX6_readAt_45 rfl (lv_at hl 1 rfl) ?_
      refine lv_aload_n hx hb dX6_readAt_46 rfl (lv_at hl 1 rfl) ?_
      refine kk_get hx hb hts hown hE hW hM.o rfl hiRX6 16 (by decide) (hts (.fieldLink RX6 98 "UndoCellarModel" "isLate" "Z") (by decide +kernel)) (fun _ h9 => h9) rfl dX6_readAt_47 ?_
      refine W_join (P := fun v => v = (if rdL S mm r (-1) (vrK S mm r) = 0 then 0 else 3)) (pj := 58) (rj := [.ref (ad 2000)]) (lj := ls) (fun v9 hv9 => ?_) (fun J58 => ?_)
      · subst hv9
        refine kk_i (va_runV (As := [.int (if rdL S mm r (-1) (vrK S mm r) = 0 then 0 else 3)]) (rest := []) ⟨hx, hb, hml, hown, hts⟩ (c_can l D A ad w12 ((sS (sS S 17 (vrK S mm r)) 16 (rdL S mm r (-1) (vrK S mm r)))) hM.re (if rdL S mm r (-1) (vrK S mm r) = 0 then 0 else 3)) (cwV 1 hts gX6_readAt_X6_can rfl rfl rfl (by decide +kernel) ⟨Nat.le_of_ble_eq_true rfl, Nat.le_of_ble_eq_true rfl⟩) (kV hE hW hM.o rfl _) rfl rfl hl.1 rfl (lv_room (Nat.le_of_ble_eq_true rfl)) dX6_readAt_58 ⟨Nat.le_of_ble_eq_true rfl, Nat.le_of_ble_eq_true rfl⟩) hW (fun r22 ad19 w20 H23 locs hp21 hW => ?_)
        obtain ⟨e24, e25, e26⟩ := hp21
        rw [e25] at hW
        have hM := hM.tr e26
        subst e24
        refine lv_if_ne (tgt := 66) hx hb dX6_readAt_61 (by decide) (fun c27 => ?_) (fun c27 => ?_)
        · have hl0 : rdL S mm r (-1) (vrK S mm r) = 0 := by
            refine Decidable.byContradiction fun q => ?_
            have h9 := bI_t c27
            rw [if_neg q] at h9
            exact absurd h9 (by decide)
          rw [if_pos hl0] at hM
          refine lv_aload_n hx hb dX6_readAt_66 rfl (lv_at hl 1 rfl) ?_
          refine lv_iload_n hx hb dX6_readAt_67 rfl (lv_at hl 3 rfl) ?_
          refine lv_iconst (v := 4) hx hb dX6_readAt_68 (by decide) ?_
          refine lv_idiv hx hb dX6_readAt_69 (by decide) ?_
          obtain ⟨j9, hj9, ej9⟩ := inP_N (n := 11) (by decide) hro9
          have hdv : r / 4 = nI (nv r / 4) := by
            rw [ej9, nv_nI (by omega)]
            exact pk_div (d := 4) (by omega) (by decide) (by decide)
          have hb3 : nv r / 4 < 3 := by rw [ej9, nv_nI (by omega)]; omega
          rw [hdv]
          refine kk_v (va_runV (As := [.int (nI (nv r / 4))]) (rest := []) ⟨hx, hb, hml, hown, hts⟩ (c_cleans l D A ad w20 ((sS (sS (sS S 17 (vrK S mm r)) 16 (rdL S mm r (-1) (vrK S mm r))) 17 0)) hM.re (nv r / 4) hb3 hsl) (cwV 1 hts gX6_readAt_X6_cleans rfl rfl rfl (by decide +kernel) ⟨Nat.le_of_ble_eq_true rfl, Nat.le_of_ble_eq_true rfl⟩) (kV hE hW hM.o rfl _) rfl rfl hl.1 rfl (lv_room (Nat.le_of_ble_eq_true rfl)) dX6_readAt_70 ⟨Nat.le_of_ble_eq_true rfl, Nat.le_of_ble_eq_true rfl⟩) hW (fun ad28 w29 H32 locs hp30 hW => ?_)
          obtain ⟨e34, e35⟩ := hp30
          rw [e34] at hW
          have hM := hM.tr e35
          refine lv_iload_n hx hb dX6_readAt_73 rfl (lv_at hl 0 rfl) ?_
          exact ke_i hx hb hr hlocks (Nat.le_of_ble_eq_true rfl) (Nat.le_of_ble_eq_true rfl) dX6_readAt_74 hW (⟨((if_pos ho).trans (if_pos hl0)).symm, rfl, by rw [show rdN S mm r (-1) (vrK S mm r) = _ from (if_pos ho).trans (if_pos hl0)]; exact hM⟩)
        · have hl0 : ¬ rdL S mm r (-1) (vrK S mm r) = 0 := fun q => (bI_f c27) (if_pos q)
          rw [if_neg hl0] at hM
          refine lv_iconst (v := 0) hx hb dX6_readAt_64 (by decide) ?_
          exact ke_i hx hb hr hlocks (Nat.le_of_ble_eq_true rfl) (Nat.le_of_ble_eq_true rfl) dX6_readAt_65 hW (⟨((if_pos ho).trans (if_neg hl0)).symm, rfl, by rw [show rdN S mm r (-1) (vrK S mm r) = _ from (if_pos ho).trans (if_neg hl0)]; exact hM⟩)
      · refine lv_if_eq (tgt := 57) hx hb dX6_readAt_50 (by decide) (fun c36 => ?_) (fun c36 => ?_)
        · refine lv_iconst (v := 0) hx hb dX6_readAt_57 (by decide) ?_
          exact J58 _ ((if_pos c36).symm)
        · refine lv_iconst (v := 3) hx hb dX6_readAt_53 (by decide) ?_
          refine lv_goto (tgt := 58) hx hb dX6_readAt_54 (by decide) ?_
          exact J58 _ ((if_neg c36).symm)
    · refine lv_iconst (v := 0) hx hb dX6_readAt_35 (by decide) ?_
      exact ke_i hx hb hr hlocks (Nat.le_of_ble_eq_true rfl) (Nat.le_of_ble_eq_true rfl) dX6_readAt_36 hW (⟨(if_neg (bI_f c10)).symm, rfl, by rw [show rdN S mm r (-1) (vrK S mm r) = _ from if_neg (bI_f c10)]; exact hM⟩)
  · refine kk_i (va_runS (As := [.int r]) (rest := [.ref (ad 2000)]) ⟨hx, hb, hml, hown, hts⟩ (c_isRow l D A ad w r) (va_cwS 1 hts gX6_readAt_X6_isRow rfl rfl rfl (by decide +kernel) ⟨Nat.le_of_ble_eq_true rfl, Nat.le_of_ble_eq_true rfl⟩) (kSt hE hW _) rfl rfl hl.1 rfl (lv_room (Nat.le_of_ble_eq_true rfl)) dX6_readAt_2 ⟨Nat.le_of_ble_eq_true rfl, Nat.le_of_ble_eq_true rfl⟩) hW (fun r40 ad37 w38 H41 locs hp39 hW => ?_)
    obtain ⟨e42, e43, e44⟩ := hp39
    rw [e43, e44] at hW
    subst e42
    refine lv_if_ne (tgt := 12) hx hb dX6_readAt_5 (by decide) (fun c45 => ?_) (fun c45 => ?_)
    · refine lv_iload_n hx hb dX6_readAt_12 rfl (lv_at hl 1 rfl) ?_
      refine lv_iconst (v := 0) hx hb dX6_readAt_13 (by decide) ?_
      refine lv_aload_n hx hb dX6_readAt_14 rfl (lv_at hl 0 rfl) ?_
      refine kk_get hx hb hts hown hE hW hM.o rfl hiRX6 2 (by decide) (hts (.fieldLink RX6 65 "UndoCellarModel" "moment" "I") (by decide +kernel)) (fun _ h9 => h9) rfl dX6_readAt_15 ?_
      refine kk_i (va_runS (As := [.int mm, .int 0, .int (S 11 0)]) (rest := [.ref (ad 2000)]) ⟨hx, hb, hml, hown, hts⟩ (c_isIn l D A ad w mm 0 (S 11 0)) (va_cwS 3 hts gX6_readAt_X6_isIn rfl rfl rfl (by decide +kernel) ⟨Nat.le_of_ble_eq_true rfl, Nat.le_of_ble_eq_true rfl⟩) (kSt hE hW _) rfl rfl hl.1 rfl (lv_room (Nat.le_of_ble_eq_true rfl)) dX6_readAt_18 ⟨Nat.le_of_ble_eq_true rfl, Nat.le_of_ble_eq_true rfl⟩) hW (fun r49 ad46 w47 H50 locs hp48 hW => ?_)
      obtain ⟨e51, e52, e53⟩ := hp48
      rw [e52, e53] at hW
      subst e51
      refine lv_if_eq (tgt := 28) hx hb dX6_readAt_21 (by decide) (fun c54 => ?_) (fun c54 => ?_)
      · refine lv_iconst (v := 2) hx hb dX6_readAt_28 (by decide) ?_
        exact J29 _ _ _ (((if_pos (bI_t c45)).trans (if_neg (bI_f c54))).symm) hW
      · refine lv_iconst (v := 0) hx hb dX6_readAt_24 (by decide) ?_
        refine lv_goto (tgt := 29) hx hb dX6_readAt_25 (by decide) ?_
        exact J29 _ _ _ (((if_pos (bI_t c45)).trans (if_pos (bI_t c54))).symm) hW
    · refine lv_iconst (v := 1) hx hb dX6_readAt_8 (by decide) ?_
      refine lv_goto (tgt := 29) hx hb dX6_readAt_9 (by decide) ?_
      exact J29 _ _ _ ((if_neg (bI_f c45)).symm) hW

set_option maxHeartbeats 4000000 in
set_option maxRecDepth 100000 in
/-- c_read -/
theorem c_read (l : Launch) (D : va_G) (A : Nat → Prop) (ad : Nat → Nat) (w : kWd) (S : St) (hM : MW D S ad w w) (t r : Int32) (nT : Nat) (hT : S 12 0 = nI nT) (hT6 : nT ≤ 60) (nC : Nat) (hC : S 13 0 = nI nC) (hn : nC ≤ 2000) (hby : ∀ k, k < nC → vp_in (S 4 k) 60) (hsl : ∀ k, k < 6 → S 8 k ≠ -1 → vp_in (S 8 k) 60)  : Met l yX6_read wsX6_read ({ frames := 2, cells := 0, slots := 0, locals := 43 }) (kPc D A [.ref (ad 2000), .int t, .int r] ad w) (kQi D A (fun v ad' w' => v = rdR S (S 2 (nv t)) r t (r1K S t r) ∧ ad' = ad ∧ MW D (rdN S (S 2 (nv t)) r t (r1K S t r)) ad w w')) 0 0 A := by
  refine Met.ofW (cc := cX6_read) (maxL := 5) (ret := (some (.int))) (by decide) rfl ?_
  intro p e s m args below meth c s₁ B hml hv
  obtain ⟨rfl, hE, hW0, hI0, hA⟩ := hv
  have hx := B.exec
  have hb := B.bytes
  have hr := B.returns
  have hts := atoms_spec (ws := wsX6_read) B.pre
  have hown : s.vm.findClass RX6 = some m.cls := findClass_of_methodNamed B.named
  have hlocks := B.notSynchronized
  have hiRX6 : ∀ w ∈ wsX60, w ∈ wsX6_read := by decide +kernel
  have hW : kS D A s.heap ad w s.heap [] := ⟨hW0, hI0, va_S.rf, hA⟩
  have hl := lv_entry ([.ref (ad 2000), .int t, .int r]) (n := 5) (Nat.le_of_ble_eq_true rfl)
  rw [lg_entry_eq]
  generalize (lg_sl ([.ref (ad 2000), .int t, .int r]) ++ List.replicate (5 - (lg_sl ([.ref (ad 2000), .int t, .int r])).length) Slot.unset).toArray = ls at hl ⊢
  have hl : lv_has ls 5 [(0, .ref (ad 2000)), (1, .int t), (2, .int r)] := hl
  refine lv_aload_n hx hb dX6_read_0 rfl (lv_at hl 0 rfl) ?_
  refine lv_iload_n hx hb dX6_read_1 rfl (lv_at hl 1 rfl) ?_
  refine W_joinH (D := D) (A := A) (w := w) (ad := ad) (P := fun v => v = bI (trP S t ∧ roP r)) (pj := 20) (rj := []) (lj := ls) (fun v H1 locs hv hW => ?_) (fun J20 => ?_)
  · subst hv
    refine lv_istore_n (lv' := [(3, .int (bI (trP S t ∧ roP r))), (0, .ref (ad 2000)), (1, .int t), (2, .int r)]) hx hb dX6_read_20 rfl hl (by decide) rfl (fun ls hl => ?_)
    refine lv_aload_n hx hb dX6_read_21 rfl (lv_at hl 1 rfl) ?_
    refine lv_iload_n hx hb dX6_read_22 rfl (lv_at hl 0 rfl) ?_
    refine W_joinH (D := D) (A := A) (w := w) (ad := ad) (P := fun v => v = r1K S t r) (pj := 43) (rj := [.ref (ad 2000)]) (lj := ls) (fun v H2 locs hv hW => ?_) (fun J43 => ?_)
    · subst hv
      refine kk_i (va_runV (As := [.int (r1K S t r)]) (rest := []) ⟨hx, hb, hml, hown, hts⟩ (c_can l D A ad w (S) hM.re (r1K S t r)) (cwV 1 hts gX6_read_X6_can rfl rfl rfl (by decide +kernel) ⟨Nat.le_of_ble_eq_true rfl, Nat.le_of_ble_eq_true rfl⟩) (kV hE hW hM.o rfl _) rfl rfl hl.1 rfl (lv_room (Nat.le_of_ble_eq_true rfl)) dX6_read_43 ⟨Nat.le_of_ble_eq_true rfl, Nat.le_of_ble_eq_true rfl⟩) hW (fun r6 ad3 w4 H7 locs hp5 hW => ?_)
      obtain ⟨e8, e9, e10⟩ := hp5
      rw [e9] at hW
      have hM := hM.tr e10
      subst e8
      refine lv_if_ne (tgt := 51) hx hb dX6_read_46 (by decide) (fun c11 => ?_) (fun c11 => ?_)
      · have ho := bI_t c11
        have hth : trP S t ∧ roP r := by
          refine Decidable.byContradiction fun q => ?_
          rw [show r1K S t r = 1 from if_neg q] at ho
          exact absurd ho (by decide)
        have hro9 : roP r := hth.2
        have hv6 : vp_in t 60 := by
          obtain ⟨j, h1, rfl⟩ := inP_T hT6 (by rw [← hT]; exact hth.1)
          exact vp_in_nI (by omega) (by omega)
        have hv12 : vp_in r 12 := by
          obtain ⟨j, h1, rfl⟩ := inP_N (n := 11) (by decide) (hro9)
          exact vp_in_nI (by omega) (by decide)
        refine lv_aload_n hx hb dX6_read_51 rfl (lv_at hl 1 rfl) ?_
        refine lv_aload_n hx hb dX6_read_52 rfl (lv_at hl 1 rfl) ?_
        refine kk_get hx hb hts hown hE hW hM.o rfl hiRX6 5 (by decide) (hts (.fieldLink RX6 20 "UndoCellarModel" "asOf" "[I") (by decide +kernel)) (fun _ h9 => h9) rfl dX6_read_53 ?_
        refine lv_iload_n hx hb dX6_read_56 rfl (lv_at hl 2 rfl) ?_
        refine kk_iald hx hb hE hW hM.a2 hv6 dX6_read_57 ?_
        refine lv_iload_n hx hb dX6_read_58 rfl (lv_at hl 3 rfl) ?_
        refine lv_iload_n hx hb dX6_read_59 rfl (lv_at hl 2 rfl) ?_
        refine kk_i (va_runV (As := [.int ((sS S 17 (r1K S t r)) 2 (nv t)), .int r, .int t]) (rest := []) ⟨hx, hb, hml, hown, hts⟩ (c_valueAt l D A ad w4 ((sS S 17 (r1K S t r))) hM.re (S 2 (nv t)) r t hv12 nC hC hn hby) (cwV 3 hts gX6_read_X6_valueAt rfl rfl rfl (by decide +kernel) ⟨Nat.le_of_ble_eq_true rfl, Nat.le_of_ble_eq_true rfl⟩) (kV hE hW hM.o rfl _) rfl rfl hl.1 rfl (lv_room (Nat.le_of_ble_eq_true rfl)) dX6_read_60 ⟨Nat.le_of_ble_eq_true rfl, Nat.le_of_ble_eq_true rfl⟩) hW (fun r15 ad12 w13 H16 locs hp14 hW => ?_)
        obtain ⟨e17, e18, e19⟩ := hp14
        rw [e18] at hW
        have hM := hM.tr e19
        subst e17
        refine lv_istore (lv' := [(4, .int ((vrV S (S 2 (nv t)) r t (r1K S t r)).1)), (3, .int (bI (trP S t ∧ roP r))), (0, .ref (ad 2000)), (1, .int t), (2, .int r)]) hx hb dX6_read_63 hl (by decide) rfl (fun ls hl => ?_)
        refine lv_aload_n hx hb dX6_read_65 rfl (lv_at hl 2 rfl) ?_
        refine lv_aload_n hx hb dX6_read_66 rfl (lv_at hl 2 rfl) ?_
        refine kk_get hx hb hts hown hE hW hM.o rfl hiRX6 16 (by decide) (hts (.fieldLink RX6 98 "UndoCellarModel" "isLate" "Z") (by decide +kernel)) (fun _ h9 => h9) rfl dX6_read_67 ?_
        refine W_join (P := fun v => v = (if rdL S (S 2 (nv t)) r t (r1K S t r) = 0 then 0 else 3)) (pj := 78) (rj := [.ref (ad 2000)]) (lj := ls) (fun v9 hv9 => ?_) (fun J78 => ?_)
        · subst hv9
          refine kk_i (va_runV (As := [.int (if rdL S (S 2 (nv t)) r t (r1K S t r) = 0 then 0 else 3)]) (rest := []) ⟨hx, hb, hml, hown, hts⟩ (c_can l D A ad w13 ((sS (sS S 17 (r1K S t r)) 16 (rdL S (S 2 (nv t)) r t (r1K S t r)))) hM.re (if rdL S (S 2 (nv t)) r t (r1K S t r) = 0 then 0 else 3)) (cwV 1 hts gX6_read_X6_can rfl rfl rfl (by decide +kernel) ⟨Nat.le_of_ble_eq_true rfl, Nat.le_of_ble_eq_true rfl⟩) (kV hE hW hM.o rfl _) rfl rfl hl.1 rfl (lv_room (Nat.le_of_ble_eq_true rfl)) dX6_read_78 ⟨Nat.le_of_ble_eq_true rfl, Nat.le_of_ble_eq_true rfl⟩) hW (fun r23 ad20 w21 H24 locs hp22 hW => ?_)
          obtain ⟨e25, e26, e27⟩ := hp22
          rw [e26] at hW
          have hM := hM.tr e27
          subst e25
          refine lv_if_ne (tgt := 86) hx hb dX6_read_81 (by decide) (fun c28 => ?_) (fun c28 => ?_)
          · have hl0 : rdL S (S 2 (nv t)) r t (r1K S t r) = 0 := by
              refine Decidable.byContradiction fun q => ?_
              have h9 := bI_t c28
              rw [if_neg q] at h9
              exact absurd h9 (by decide)
            rw [if_pos hl0] at hM
            refine lv_aload_n hx hb dX6_read_86 rfl (lv_at hl 2 rfl) ?_
            refine lv_iload_n hx hb dX6_read_87 rfl (lv_at hl 4 rfl) ?_
            refine lv_iconst (v := 4) hx hb dX6_read_88 (by decide) ?_
            refine lv_idiv hx hb dX6_read_89 (by decide) ?_
            obtain ⟨j9, hj9, ej9⟩ := inP_N (n := 11) (by decide) hro9
            have hdv : r / 4 = nI (nv r / 4) := by
              rw [ej9, nv_nI (by omega)]
              exact pk_div (d := 4) (by omega) (by decide) (by decide)
            have hb3 : nv r / 4 < 3 := by rw [ej9, nv_nI (by omega)]; omega
            rw [hdv]
            refine kk_v (va_runV (As := [.int (nI (nv r / 4))]) (rest := []) ⟨hx, hb, hml, hown, hts⟩ (c_cleans l D A ad w21 ((sS (sS (sS S 17 (r1K S t r)) 16 (rdL S (S 2 (nv t)) r t (r1K S t r))) 17 0)) hM.re (nv r / 4) hb3 hsl) (cwV 1 hts gX6_read_X6_cleans rfl rfl rfl (by decide +kernel) ⟨Nat.le_of_ble_eq_true rfl, Nat.le_of_ble_eq_true rfl⟩) (kV hE hW hM.o rfl _) rfl rfl hl.1 rfl (lv_room (Nat.le_of_ble_eq_true rfl)) dX6_read_90 ⟨Nat.le_of_ble_eq_true rfl, Nat.le_of_ble_eq_true rfl⟩) hW (fun ad29 w30 H33 locs hp31 hW => ?_)
            obtain ⟨e35, e36⟩ := hp31
            rw [e35] at hW
            have hM := hM.tr e36
            refine lv_iload hx hb dX6_read_93 (lv_at hl 0 rfl) ?_
            exact ke_i hx hb hr hlocks (Nat.le_of_ble_eq_true rfl) (Nat.le_of_ble_eq_true rfl) dX6_read_95 hW (⟨((if_pos ho).trans (if_pos hl0)).symm, rfl, by rw [show rdN S (S 2 (nv t)) r t (r1K S t r) = _ from (if_pos ho).trans (if_pos hl0)]; exact hM⟩)
          · have hl0 : ¬ rdL S (S 2 (nv t)) r t (r1K S t r) = 0 := fun q => (bI_f c28) (if_pos q)
            rw [if_neg hl0] at hM
            refine lv_iconst (v := 0) hx hb dX6_read_84 (by decide) ?_
            exact ke_i hx hb hr hlocks (Nat.le_of_ble_eq_true rfl) (Nat.le_of_ble_eq_true rfl) dX6_read_85 hW (⟨((if_pos ho).trans (if_neg hl0)).symm, rfl, by rw [show rdN S (S 2 (nv t)) r t (r1K S t r) = _ from (if_pos ho).trans (if_neg hl0)]; exact hM⟩)
        · refine lv_if_eq (tgt := 77) hx hb dX6_read_70 (by decide) (fun c37 => ?_) (fun c37 => ?_)
          · refine lv_iconst (v := 0) hx hb dX6_read_77 (by decide) ?_
            exact J78 _ ((if_pos c37).symm)
          · refine lv_iconst (v := 3) hx hb dX6_read_73 (by decide) ?_
            refine lv_goto (tgt := 78) hx hb dX6_read_74 (by decide) ?_
            exact J78 _ ((if_neg c37).symm)
      · refine lv_iconst (v := 0) hx hb dX6_read_49 (by decide) ?_
        exact ke_i hx hb hr hlocks (Nat.le_of_ble_eq_true rfl) (Nat.le_of_ble_eq_true rfl) dX6_read_50 hW (⟨(if_neg (bI_f c11)).symm, rfl, by rw [show rdN S (S 2 (nv t)) r t (r1K S t r) = _ from if_neg (bI_f c11)]; exact hM⟩)
    · refine lv_if_ne (tgt := 30) hx hb dX6_read_23 (by decide) (fun c38 => ?_) (fun c38 => ?_)
      · have hth := bI_t c38
        have hv6 : vp_in t 60 := by
          obtain ⟨j, h1, rfl⟩ := inP_T hT6 (by rw [← hT]; exact hth.1)
          exact vp_in_nI (by omega) (by omega)
        refine lv_aload_n hx hb dX6_read_30 rfl (lv_at hl 1 rfl) ?_
        refine lv_iload_n hx hb dX6_read_31 rfl (lv_at hl 2 rfl) ?_
        refine kk_i (va_runV (As := [.int t]) (rest := [.ref (ad 2000)]) ⟨hx, hb, hml, hown, hts⟩ (c_isActive l D A ad w (S) hM.re t hv6) (cwV 1 hts gX6_read_X6_isActive rfl rfl rfl (by decide +kernel) ⟨Nat.le_of_ble_eq_true rfl, Nat.le_of_ble_eq_true rfl⟩) (kV hE hW hM.o rfl _) rfl rfl hl.1 rfl (lv_room (Nat.le_of_ble_eq_true rfl)) dX6_read_32 ⟨Nat.le_of_ble_eq_true rfl, Nat.le_of_ble_eq_true rfl⟩) hW (fun r42 ad39 w40 H43 locs hp41 hW => ?_)
        obtain ⟨e44, e45, e46⟩ := hp41
        rw [e45, e46] at hW
        subst e44
        refine lv_if_eq (tgt := 42) hx hb dX6_read_35 (by decide) (fun c47 => ?_) (fun c47 => ?_)
        · refine lv_iconst (v := 2) hx hb dX6_read_42 (by decide) ?_
          exact J43 _ _ _ (((if_pos hth).trans (if_neg (bI_f c47))).symm) hW
        · refine lv_iconst (v := 0) hx hb dX6_read_38 (by decide) ?_
          refine lv_goto (tgt := 43) hx hb dX6_read_39 (by decide) ?_
          exact J43 _ _ _ (((if_pos hth).trans (if_pos (bI_t c47))).symm) hW
      · refine lv_iconst (v := 1) hx hb dX6_read_26 (by decide) ?_
        refine lv_goto (tgt := 43) hx hb dX6_read_27 (by decide) ?_
        exact J43 _ _ _ ((if_neg (bI_f c38)).symm) hW
  · refine kk_i (va_runV (As := [.int t]) (rest := []) ⟨hx, hb, hml, hown, hts⟩ (c_isTransaction l D A ad w (S) hM.re t) (cwV 1 hts gX6_read_X6_isTransaction rfl rfl rfl (by decide +kernel) ⟨Nat.le_of_ble_eq_true rfl, Nat.le_of_ble_eq_true rfl⟩) (kV hE hW hM.o rfl _) rfl rfl hl.1 rfl (lv_room (Nat.le_of_ble_eq_true rfl)) dX6_read_2 ⟨Nat.le_of_ble_eq_true rfl, Nat.le_of_ble_eq_true rfl⟩) hW (fun r51 ad48 w49 H52 locs hp50 hW => ?_)
    obtain ⟨e53, e54, e55⟩ := hp50
    rw [e54, e55] at hW
    subst e53
    refine lv_if_eq (tgt := 19) hx hb dX6_read_5 (by decide) (fun c56 => ?_) (fun c56 => ?_)
    · refine lv_iconst (v := 0) hx hb dX6_read_19 (by decide) ?_
      exact J20 _ _ _ ((bI_0 (fun q => (bI_f c56) q.1)).symm) hW
    · refine lv_iload_n hx hb dX6_read_8 rfl (lv_at hl 2 rfl) ?_
      refine kk_i (va_runS (As := [.int r]) (rest := []) ⟨hx, hb, hml, hown, hts⟩ (c_isRow l D A ad w r) (va_cwS 1 hts gX6_read_X6_isRow rfl rfl rfl (by decide +kernel) ⟨Nat.le_of_ble_eq_true rfl, Nat.le_of_ble_eq_true rfl⟩) (kSt hE hW _) rfl rfl hl.1 rfl (lv_room (Nat.le_of_ble_eq_true rfl)) dX6_read_9 ⟨Nat.le_of_ble_eq_true rfl, Nat.le_of_ble_eq_true rfl⟩) hW (fun r60 ad57 w58 H61 locs hp59 hW => ?_)
      obtain ⟨e62, e63, e64⟩ := hp59
      rw [e63, e64] at hW
      subst e62
      refine lv_if_eq (tgt := 19) hx hb dX6_read_12 (by decide) (fun c65 => ?_) (fun c65 => ?_)
      · refine lv_iconst (v := 0) hx hb dX6_read_19 (by decide) ?_
        exact J20 _ _ _ ((bI_0 (fun q => (bI_f c65) q.2)).symm) hW
      · refine lv_iconst (v := 1) hx hb dX6_read_15 (by decide) ?_
        refine lv_goto (tgt := 20) hx hb dX6_read_16 (by decide) ?_
        exact J20 _ _ _ ((bI_1 ⟨bI_t c56, bI_t c65⟩).symm) hW

